theorem dX11_addMode_45 : decode cX11_addMode 45 = .ok (.dup, 1) := by decide +kernel
theorem dX11_addMode_46 : decode cX11_addMode 46 = .ok (.invokespecial 85, 3) := by decide +kernel
theorem dX11_addMode_49 : decode cX11_addMode 49 = .ok (.athrow, 1) := by decide +kernel
theorem dX11_addMode_50 : decode cX11_addMode 50 = .ok (.aload 4, 2) := by decide +kernel
theorem dX11_addMode_52 : decode cX11_addMode 52 = .ok (.invokevirtual 147, 3) := by decide +kernel
theorem dX11_addMode_55 : decode cX11_addMode 55 = .ok (.iconst 2, 1) := by decide +kernel
theorem dX11_addMode_56 : decode cX11_addMode 56 = .ok (.if_icmp .ge 10, 3) := by decide +kernel
theorem dX11_addMode_59 : decode cX11_addMode 59 = .ok (.aload_n 0, 1) := by decide +kernel
theorem dX11_addMode_60 : decode cX11_addMode 60 = .ok (.getfield 51, 3) := by decide +kernel
theorem dX11_addMode_63 : decode cX11_addMode 63 = .ok (.ifCond .eq 11, 3) := by decide +kernel
theorem dX11_addMode_66 : decode cX11_addMode 66 = .ok (.new 67, 3) := by decide +kernel
theorem dX11_addMode_69 : decode cX11_addMode 69 = .ok (.dup, 1) := by decide +kernel
theorem dX11_addMode_70 : decode cX11_addMode 70 = .ok (.invokespecial 69, 3) := by decide +kernel
theorem dX11_addMode_73 : decode cX11_addMode 73 = .ok (.athrow, 1) := by decide +kernel
theorem dX11_addMode_74 : decode cX11_addMode 74 = .ok (.aload_n 0, 1) := by decide +kernel
theorem dX11_addMode_75 : decode cX11_addMode 75 = .ok (.getfield 19, 3) := by decide +kernel
theorem dX11_addMode_78 : decode cX11_addMode 78 = .ok (.aload 4, 2) := by decide +kernel
theorem dX11_addMode_80 : decode cX11_addMode 80 = .ok (.iload_n 2, 1) := by decide +kernel
theorem dX11_addMode_81 : decode cX11_addMode 81 = .ok (.iload_n 3, 1) := by decide +kernel
theorem dX11_addMode_82 : decode cX11_addMode 82 = .ok (.invokevirtual 150, 3) := by decide +kernel
theorem dX11_addMode_85 : decode cX11_addMode 85 = .ok (.ireturn, 1) := by decide +kernel
theorem dX11_addClause_0 : decode cX11_addClause 0 = .ok (.aload_n 0, 1) := by decide +kernel
theorem dX11_addClause_1 : decode cX11_addClause 1 = .ok (.getfield 19, 3) := by decide +kernel
theorem dX11_addClause_4 : decode cX11_addClause 4 = .ok (.iload_n 1, 1) := by decide +kernel
theorem dX11_addClause_5 : decode cX11_addClause 5 = .ok (.invokevirtual 134, 3) := by decide +kernel
theorem dX11_addClause_8 : decode cX11_addClause 8 = .ok (.astore_n 2, 1) := by decide +kernel
theorem dX11_addClause_9 : decode cX11_addClause 9 = .ok (.aload_n 2, 1) := by decide +kernel
theorem dX11_addClause_10 : decode cX11_addClause 10 = .ok (.ifnonnull 11, 3) := by decide +kernel
theorem dX11_addClause_13 : decode cX11_addClause 13 = .ok (.new 80, 3) := by decide +kernel
theorem dX11_addClause_16 : decode cX11_addClause 16 = .ok (.dup, 1) := by decide +kernel
theorem dX11_addClause_17 : decode cX11_addClause 17 = .ok (.invokespecial 82, 3) := by decide +kernel
theorem dX11_addClause_20 : decode cX11_addClause 20 = .ok (.athrow, 1) := by decide +kernel
theorem dX11_addClause_21 : decode cX11_addClause 21 = .ok (.aload_n 0, 1) := by decide +kernel
theorem dX11_addClause_22 : decode cX11_addClause 22 = .ok (.getfield 19, 3) := by decide +kernel
theorem dX11_addClause_25 : decode cX11_addClause 25 = .ok (.invokevirtual 154, 3) := by decide +kernel
theorem dX11_addClause_28 : decode cX11_addClause 28 = .ok (.bipush 12, 2) := by decide +kernel
theorem dX11_addClause_30 : decode cX11_addClause 30 = .ok (.if_icmp .ge 10, 3) := by decide +kernel
theorem dX11_addClause_33 : decode cX11_addClause 33 = .ok (.aload_n 0, 1) := by decide +kernel
theorem dX11_addClause_34 : decode cX11_addClause 34 = .ok (.getfield 51, 3) := by decide +kernel
theorem dX11_addClause_37 : decode cX11_addClause 37 = .ok (.ifCond .eq 11, 3) := by decide +kernel
theorem dX11_addClause_40 : decode cX11_addClause 40 = .ok (.new 67, 3) := by decide +kernel
theorem dX11_addClause_43 : decode cX11_addClause 43 = .ok (.dup, 1) := by decide +kernel
theorem dX11_addClause_44 : decode cX11_addClause 44 = .ok (.invokespecial 69, 3) := by decide +kernel
theorem dX11_addClause_47 : decode cX11_addClause 47 = .ok (.athrow, 1) := by decide +kernel
theorem dX11_addClause_48 : decode cX11_addClause 48 = .ok (.aload_n 0, 1) := by decide +kernel
theorem dX11_addClause_49 : decode cX11_addClause 49 = .ok (.getfield 19, 3) := by decide +kernel
theorem dX11_addClause_52 : decode cX11_addClause 52 = .ok (.aload_n 2, 1) := by decide +kernel
theorem dX11_addClause_53 : decode cX11_addClause 53 = .ok (.invokevirtual 157, 3) := by decide +kernel
theorem dX11_addClause_56 : decode cX11_addClause 56 = .ok (.ireturn, 1) := by decide +kernel
theorem dX11_addBuild_0 : decode cX11_addBuild 0 = .ok (.aload_n 0, 1) := by decide +kernel
theorem dX11_addBuild_1 : decode cX11_addBuild 1 = .ok (.getfield 19, 3) := by decide +kernel
theorem dX11_addBuild_4 : decode cX11_addBuild 4 = .ok (.iload_n 1, 1) := by decide +kernel
theorem dX11_addBuild_5 : decode cX11_addBuild 5 = .ok (.invokevirtual 161, 3) := by decide +kernel
theorem dX11_addBuild_8 : decode cX11_addBuild 8 = .ok (.astore 6, 2) := by decide +kernel
theorem dX11_addBuild_10 : decode cX11_addBuild 10 = .ok (.aload 6, 2) := by decide +kernel
theorem dX11_addBuild_12 : decode cX11_addBuild 12 = .ok (.ifnull 25, 3) := by decide +kernel
theorem dX11_addBuild_15 : decode cX11_addBuild 15 = .ok (.aload_n 0, 1) := by decide +kernel
theorem dX11_addBuild_16 : decode cX11_addBuild 16 = .ok (.getfield 10, 3) := by decide +kernel
theorem dX11_addBuild_19 : decode cX11_addBuild 19 = .ok (.iload_n 3, 1) := by decide +kernel
theorem dX11_addBuild_20 : decode cX11_addBuild 20 = .ok (.invokevirtual 93, 3) := by decide +kernel
theorem dX11_addBuild_23 : decode cX11_addBuild 23 = .ok (.ifCond .eq 14, 3) := by decide +kernel
theorem dX11_addBuild_26 : decode cX11_addBuild 26 = .ok (.iload_n 2, 1) := by decide +kernel
theorem dX11_addBuild_27 : decode cX11_addBuild 27 = .ok (.iload 4, 2) := by decide +kernel
theorem dX11_addBuild_29 : decode cX11_addBuild 29 = .ok (.iload 5, 2) := by decide +kernel
theorem dX11_addBuild_31 : decode cX11_addBuild 31 = .ok (.invokestatic 165, 3) := by decide +kernel
theorem dX11_addBuild_34 : decode cX11_addBuild 34 = .ok (.ifCond .ne 11, 3) := by decide +kernel
theorem dX11_addBuild_37 : decode cX11_addBuild 37 = .ok (.new 80, 3) := by decide +kernel
theorem dX11_addBuild_40 : decode cX11_addBuild 40 = .ok (.dup, 1) := by decide +kernel
theorem dX11_addBuild_41 : decode cX11_addBuild 41 = .ok (.invokespecial 82, 3) := by decide +kernel
theorem dX11_addBuild_44 : decode cX11_addBuild 44 = .ok (.athrow, 1) := by decide +kernel
theorem dX11_addBuild_45 : decode cX11_addBuild 45 = .ok (.new 168, 3) := by decide +kernel
theorem dX11_addBuild_48 : decode cX11_addBuild 48 = .ok (.dup, 1) := by decide +kernel
theorem dX11_addBuild_49 : decode cX11_addBuild 49 = .ok (.iconst 0, 1) := by decide +kernel
theorem dX11_addBuild_50 : decode cX11_addBuild 50 = .ok (.iload_n 3, 1) := by decide +kernel
theorem dX11_addBuild_51 : decode cX11_addBuild 51 = .ok (.iconst 1, 1) := by decide +kernel
theorem dX11_addBuild_52 : decode cX11_addBuild 52 = .ok (.aload_n 0, 1) := by decide +kernel
theorem dX11_addBuild_53 : decode cX11_addBuild 53 = .ok (.getfield 10, 3) := by decide +kernel
theorem dX11_addBuild_56 : decode cX11_addBuild 56 = .ok (.iload_n 3, 1) := by decide +kernel
theorem dX11_addBuild_57 : decode cX11_addBuild 57 = .ok (.invokevirtual 114, 3) := by decide +kernel
theorem dX11_addBuild_60 : decode cX11_addBuild 60 = .ok (.iadd, 1) := by decide +kernel
theorem dX11_addBuild_61 : decode cX11_addBuild 61 = .ok (.iload_n 2, 1) := by decide +kernel
theorem dX11_addBuild_62 : decode cX11_addBuild 62 = .ok (.iload 4, 2) := by decide +kernel
theorem dX11_addBuild_64 : decode cX11_addBuild 64 = .ok (.iload 5, 2) := by decide +kernel
theorem dX11_addBuild_66 : decode cX11_addBuild 66 = .ok (.invokespecial 170, 3) := by decide +kernel
theorem dX11_addBuild_69 : decode cX11_addBuild 69 = .ok (.astore 7, 2) := by decide +kernel
theorem dX11_addBuild_71 : decode cX11_addBuild 71 = .ok (.aload_n 0, 1) := by decide +kernel
theorem dX11_addBuild_72 : decode cX11_addBuild 72 = .ok (.getfield 10, 3) := by decide +kernel
theorem dX11_addBuild_75 : decode cX11_addBuild 75 = .ok (.iload_n 3, 1) := by decide +kernel
theorem dX11_addBuild_76 : decode cX11_addBuild 76 = .ok (.invokevirtual 173, 3) := by decide +kernel
theorem dX11_addBuild_79 : decode cX11_addBuild 79 = .ok (.istore 8, 2) := by decide +kernel
theorem dX11_addBuild_81 : decode cX11_addBuild 81 = .ok (.aload_n 0, 1) := by decide +kernel
theorem dX11_addBuild_82 : decode cX11_addBuild 82 = .ok (.getfield 10, 3) := by decide +kernel
theorem dX11_addBuild_85 : decode cX11_addBuild 85 = .ok (.iload_n 3, 1) := by decide +kernel
theorem dX11_addBuild_86 : decode cX11_addBuild 86 = .ok (.iconst 0, 1) := by decide +kernel
theorem dX11_addBuild_87 : decode cX11_addBuild 87 = .ok (.invokevirtual 176, 3) := by decide +kernel
theorem dX11_addBuild_90 : decode cX11_addBuild 90 = .ok (.istore 9, 2) := by decide +kernel
theorem dX11_addBuild_92 : decode cX11_addBuild 92 = .ok (.aload_n 0, 1) := by decide +kernel
theorem dX11_addBuild_93 : decode cX11_addBuild 93 = .ok (.getfield 10, 3) := by decide +kernel
theorem dX11_addBuild_96 : decode cX11_addBuild 96 = .ok (.iload_n 3, 1) := by decide +kernel
theorem dX11_addBuild_97 : decode cX11_addBuild 97 = .ok (.iconst 1, 1) := by decide +kernel
theorem dX11_addBuild_98 : decode cX11_addBuild 98 = .ok (.invokevirtual 176, 3) := by decide +kernel
theorem dX11_addBuild_101 : decode cX11_addBuild 101 = .ok (.istore 10, 2) := by decide +kernel
theorem dX11_addBuild_103 : decode cX11_addBuild 103 = .ok (.aload_n 0, 1) := by decide +kernel
theorem dX11_addBuild_104 : decode cX11_addBuild 104 = .ok (.aload 6, 2) := by decide +kernel
theorem dX11_addBuild_106 : decode cX11_addBuild 106 = .ok (.aload 7, 2) := by decide +kernel
theorem dX11_addBuild_108 : decode cX11_addBuild 108 = .ok (.iload 8, 2) := by decide +kernel
theorem dX11_addBuild_110 : decode cX11_addBuild 110 = .ok (.iload 9, 2) := by decide +kernel
theorem dX11_addBuild_112 : decode cX11_addBuild 112 = .ok (.iload 10, 2) := by decide +kernel
theorem dX11_addBuild_114 : decode cX11_addBuild 114 = .ok (.invokevirtual 179, 3) := by decide +kernel
theorem dX11_addBuild_117 : decode cX11_addBuild 117 = .ok (.ireturn, 1) := by decide +kernel
theorem dX11_addSame_0 : decode cX11_addSame 0 = .ok (.aload_n 0, 1) := by decide +kernel
theorem dX11_addSame_1 : decode cX11_addSame 1 = .ok (.getfield 19, 3) := by decide +kernel
theorem dX11_addSame_4 : decode cX11_addSame 4 = .ok (.iload_n 1, 1) := by decide +kernel
theorem dX11_addSame_5 : decode cX11_addSame 5 = .ok (.invokevirtual 161, 3) := by decide +kernel
theorem dX11_addSame_8 : decode cX11_addSame 8 = .ok (.astore 4, 2) := by decide +kernel
theorem dX11_addSame_10 : decode cX11_addSame 10 = .ok (.aload 4, 2) := by decide +kernel
theorem dX11_addSame_12 : decode cX11_addSame 12 = .ok (.ifnull 12, 3) := by decide +kernel
theorem dX11_addSame_15 : decode cX11_addSame 15 = .ok (.iload_n 2, 1) := by decide +kernel
theorem dX11_addSame_16 : decode cX11_addSame 16 = .ok (.iload_n 3, 1) := by decide +kernel
theorem dX11_addSame_17 : decode cX11_addSame 17 = .ok (.iconst 0, 1) := by decide +kernel
theorem dX11_addSame_18 : decode cX11_addSame 18 = .ok (.invokestatic 165, 3) := by decide +kernel
theorem dX11_addSame_21 : decode cX11_addSame 21 = .ok (.ifCond .ne 11, 3) := by decide +kernel
theorem dX11_addSame_24 : decode cX11_addSame 24 = .ok (.new 80, 3) := by decide +kernel
theorem dX11_addSame_27 : decode cX11_addSame 27 = .ok (.dup, 1) := by decide +kernel
theorem dX11_addSame_28 : decode cX11_addSame 28 = .ok (.invokespecial 82, 3) := by decide +kernel
theorem dX11_addSame_31 : decode cX11_addSame 31 = .ok (.athrow, 1) := by decide +kernel
theorem dX11_addSame_32 : decode cX11_addSame 32 = .ok (.aload 4, 2) := by decide +kernel
theorem dX11_addSame_34 : decode cX11_addSame 34 = .ok (.iload_n 2, 1) := by decide +kernel
theorem dX11_addSame_35 : decode cX11_addSame 35 = .ok (.invokevirtual 183, 3) := by decide +kernel
theorem dX11_addSame_38 : decode cX11_addSame 38 = .ok (.iconst (-1), 1) := by decide +kernel
theorem dX11_addSame_39 : decode cX11_addSame 39 = .ok (.if_icmp .eq 12, 3) := by decide +kernel
theorem dX11_addSame_42 : decode cX11_addSame 42 = .ok (.aload 4, 2) := by decide +kernel
theorem dX11_addSame_44 : decode cX11_addSame 44 = .ok (.iload_n 2, 1) := by decide +kernel
theorem dX11_addSame_45 : decode cX11_addSame 45 = .ok (.invokevirtual 183, 3) := by decide +kernel
theorem dX11_addSame_48 : decode cX11_addSame 48 = .ok (.goto 9, 3) := by decide +kernel
theorem dX11_addSame_51 : decode cX11_addSame 51 = .ok (.aload 4, 2) := by decide +kernel
theorem dX11_addSame_53 : decode cX11_addSame 53 = .ok (.iload_n 3, 1) := by decide +kernel
theorem dX11_addSame_54 : decode cX11_addSame 54 = .ok (.invokevirtual 183, 3) := by decide +kernel
theorem dX11_addSame_57 : decode cX11_addSame 57 = .ok (.istore 5, 2) := by decide +kernel
theorem dX11_addSame_59 : decode cX11_addSame 59 = .ok (.iload 5, 2) := by decide +kernel
theorem dX11_addSame_61 : decode cX11_addSame 61 = .ok (.iconst (-1), 1) := by decide +kernel
theorem dX11_addSame_62 : decode cX11_addSame 62 = .ok (.if_icmp .ne 11, 3) := by decide +kernel
theorem dX11_addSame_65 : decode cX11_addSame 65 = .ok (.new 83, 3) := by decide +kernel
theorem dX11_addSame_68 : decode cX11_addSame 68 = .ok (.dup, 1) := by decide +kernel
theorem dX11_addSame_69 : decode cX11_addSame 69 = .ok (.invokespecial 85, 3) := by decide +kernel
theorem dX11_addSame_72 : decode cX11_addSame 72 = .ok (.athrow, 1) := by decide +kernel
theorem dX11_addSame_73 : decode cX11_addSame 73 = .ok (.aload_n 0, 1) := by decide +kernel
theorem dX11_addSame_74 : decode cX11_addSame 74 = .ok (.aload 4, 2) := by decide +kernel
theorem dX11_addSame_76 : decode cX11_addSame 76 = .ok (.new 168, 3) := by decide +kernel
theorem dX11_addSame_79 : decode cX11_addSame 79 = .ok (.dup, 1) := by decide +kernel
theorem dX11_addSame_80 : decode cX11_addSame 80 = .ok (.iconst 1, 1) := by decide +kernel
theorem dX11_addSame_81 : decode cX11_addSame 81 = .ok (.iconst (-1), 1) := by decide +kernel
theorem dX11_addSame_82 : decode cX11_addSame 82 = .ok (.iconst 2, 1) := by decide +kernel
theorem dX11_addSame_83 : decode cX11_addSame 83 = .ok (.iload_n 2, 1) := by decide +kernel
theorem dX11_addSame_84 : decode cX11_addSame 84 = .ok (.iload_n 3, 1) := by decide +kernel
theorem dX11_addSame_85 : decode cX11_addSame 85 = .ok (.iconst 0, 1) := by decide +kernel
theorem dX11_addSame_86 : decode cX11_addSame 86 = .ok (.invokespecial 170, 3) := by decide +kernel
theorem dX11_addSame_89 : decode cX11_addSame 89 = .ok (.iload 5, 2) := by decide +kernel
theorem dX11_addSame_91 : decode cX11_addSame 91 = .ok (.iload 5, 2) := by decide +kernel
theorem dX11_addSame_93 : decode cX11_addSame 93 = .ok (.iconst (-1), 1) := by decide +kernel
theorem dX11_addSame_94 : decode cX11_addSame 94 = .ok (.invokevirtual 179, 3) := by decide +kernel
theorem dX11_addSame_97 : decode cX11_addSame 97 = .ok (.ireturn, 1) := by decide +kernel
theorem dX11_addCall_0 : decode cX11_addCall 0 = .ok (.aload_n 0, 1) := by decide +kernel
theorem dX11_addCall_1 : decode cX11_addCall 1 = .ok (.getfield 19, 3) := by decide +kernel
theorem dX11_addCall_4 : decode cX11_addCall 4 = .ok (.iload_n 1, 1) := by decide +kernel
theorem dX11_addCall_5 : decode cX11_addCall 5 = .ok (.invokevirtual 161, 3) := by decide +kernel
theorem dX11_addCall_8 : decode cX11_addCall 8 = .ok (.astore 7, 2) := by decide +kernel
theorem dX11_addCall_10 : decode cX11_addCall 10 = .ok (.aload_n 0, 1) := by decide +kernel
theorem dX11_addCall_11 : decode cX11_addCall 11 = .ok (.getfield 19, 3) := by decide +kernel
theorem dX11_addCall_14 : decode cX11_addCall 14 = .ok (.iload_n 2, 1) := by decide +kernel
theorem dX11_addCall_15 : decode cX11_addCall 15 = .ok (.invokevirtual 134, 3) := by decide +kernel
theorem dX11_addCall_18 : decode cX11_addCall 18 = .ok (.astore 8, 2) := by decide +kernel
theorem dX11_addCall_20 : decode cX11_addCall 20 = .ok (.aload 7, 2) := by decide +kernel
theorem dX11_addCall_22 : decode cX11_addCall 22 = .ok (.ifnull 19, 3) := by decide +kernel
theorem dX11_addCall_25 : decode cX11_addCall 25 = .ok (.aload 8, 2) := by decide +kernel
theorem dX11_addCall_27 : decode cX11_addCall 27 = .ok (.ifnull 14, 3) := by decide +kernel
theorem dX11_addCall_30 : decode cX11_addCall 30 = .ok (.iload_n 3, 1) := by decide +kernel
theorem dX11_addCall_31 : decode cX11_addCall 31 = .ok (.iload 4, 2) := by decide +kernel
theorem dX11_addCall_33 : decode cX11_addCall 33 = .ok (.iload 5, 2) := by decide +kernel
theorem dX11_addCall_35 : decode cX11_addCall 35 = .ok (.invokestatic 165, 3) := by decide +kernel
theorem dX11_addCall_38 : decode cX11_addCall 38 = .ok (.ifCond .ne 11, 3) := by decide +kernel
theorem dX11_addCall_41 : decode cX11_addCall 41 = .ok (.new 80, 3) := by decide +kernel
theorem dX11_addCall_44 : decode cX11_addCall 44 = .ok (.dup, 1) := by decide +kernel
theorem dX11_addCall_45 : decode cX11_addCall 45 = .ok (.invokespecial 82, 3) := by decide +kernel
theorem dX11_addCall_48 : decode cX11_addCall 48 = .ok (.athrow, 1) := by decide +kernel
theorem dX11_addCall_49 : decode cX11_addCall 49 = .ok (.iload 6, 2) := by decide +kernel
theorem dX11_addCall_51 : decode cX11_addCall 51 = .ok (.ifCond .eq 7, 3) := by decide +kernel
theorem dX11_addCall_54 : decode cX11_addCall 54 = .ok (.iconst 3, 1) := by decide +kernel
theorem dX11_addCall_55 : decode cX11_addCall 55 = .ok (.goto 4, 3) := by decide +kernel
theorem dX11_addCall_58 : decode cX11_addCall 58 = .ok (.iconst 2, 1) := by decide +kernel
theorem dX11_addCall_59 : decode cX11_addCall 59 = .ok (.istore 9, 2) := by decide +kernel
theorem dX11_addCall_61 : decode cX11_addCall 61 = .ok (.new 168, 3) := by decide +kernel
theorem dX11_addCall_64 : decode cX11_addCall 64 = .ok (.dup, 1) := by decide +kernel
theorem dX11_addCall_65 : decode cX11_addCall 65 = .ok (.iload 9, 2) := by decide +kernel
theorem dX11_addCall_67 : decode cX11_addCall 67 = .ok (.iload_n 2, 1) := by decide +kernel
theorem dX11_addCall_68 : decode cX11_addCall 68 = .ok (.aload 8, 2) := by decide +kernel
theorem dX11_addCall_70 : decode cX11_addCall 70 = .ok (.invokevirtual 188, 3) := by decide +kernel
theorem dX11_addCall_73 : decode cX11_addCall 73 = .ok (.iload_n 3, 1) := by decide +kernel
theorem dX11_addCall_74 : decode cX11_addCall 74 = .ok (.iload 4, 2) := by decide +kernel
theorem dX11_addCall_76 : decode cX11_addCall 76 = .ok (.iload 5, 2) := by decide +kernel
theorem dX11_addCall_78 : decode cX11_addCall 78 = .ok (.invokespecial 170, 3) := by decide +kernel
theorem dX11_addCall_81 : decode cX11_addCall 81 = .ok (.astore 10, 2) := by decide +kernel
theorem dX11_addCall_83 : decode cX11_addCall 83 = .ok (.aload_n 0, 1) := by decide +kernel
theorem dX11_addCall_84 : decode cX11_addCall 84 = .ok (.aload 7, 2) := by decide +kernel
theorem dX11_addCall_86 : decode cX11_addCall 86 = .ok (.aload 10, 2) := by decide +kernel
theorem dX11_addCall_88 : decode cX11_addCall 88 = .ok (.aload 8, 2) := by decide +kernel
theorem dX11_addCall_90 : decode cX11_addCall 90 = .ok (.iconst 0, 1) := by decide +kernel
theorem dX11_addCall_91 : decode cX11_addCall 91 = .ok (.invokevirtual 191, 3) := by decide +kernel
theorem dX11_addCall_94 : decode cX11_addCall 94 = .ok (.aload 8, 2) := by decide +kernel
theorem dX11_addCall_96 : decode cX11_addCall 96 = .ok (.iconst 1, 1) := by decide +kernel
theorem dX11_addCall_97 : decode cX11_addCall 97 = .ok (.invokevirtual 191, 3) := by decide +kernel
theorem dX11_addCall_100 : decode cX11_addCall 100 = .ok (.aload 8, 2) := by decide +kernel
theorem dX11_addCall_102 : decode cX11_addCall 102 = .ok (.iconst 2, 1) := by decide +kernel
theorem dX11_addCall_103 : decode cX11_addCall 103 = .ok (.invokevirtual 191, 3) := by decide +kernel
theorem dX11_addCall_106 : decode cX11_addCall 106 = .ok (.invokevirtual 179, 3) := by decide +kernel
theorem dX11_addCall_109 : decode cX11_addCall 109 = .ok (.ireturn, 1) := by decide +kernel
theorem dX11_compile_0 : decode cX11_compile 0 = .ok (.aload_n 0, 1) := by decide +kernel
theorem dX11_compile_1 : decode cX11_compile 1 = .ok (.getfield 51, 3) := by decide +kernel
theorem dX11_compile_4 : decode cX11_compile 4 = .ok (.ifCond .eq 11, 3) := by decide +kernel
theorem dX11_compile_7 : decode cX11_compile 7 = .ok (.new 67, 3) := by decide +kernel
theorem dX11_compile_10 : decode cX11_compile 10 = .ok (.dup, 1) := by decide +kernel
theorem dX11_compile_11 : decode cX11_compile 11 = .ok (.invokespecial 69, 3) := by decide +kernel
theorem dX11_compile_14 : decode cX11_compile 14 = .ok (.athrow, 1) := by decide +kernel
theorem dX11_compile_15 : decode cX11_compile 15 = .ok (.aload_n 0, 1) := by decide +kernel
theorem dX11_compile_16 : decode cX11_compile 16 = .ok (.getfield 19, 3) := by decide +kernel
theorem dX11_compile_19 : decode cX11_compile 19 = .ok (.aload_n 0, 1) := by decide +kernel
theorem dX11_compile_20 : decode cX11_compile 20 = .ok (.getfield 10, 3) := by decide +kernel
theorem dX11_compile_23 : decode cX11_compile 23 = .ok (.invokevirtual 192, 3) := by decide +kernel
theorem dX11_compile_26 : decode cX11_compile 26 = .ok (.aload_n 0, 1) := by decide +kernel
theorem dX11_compile_27 : decode cX11_compile 27 = .ok (.iconst 1, 1) := by decide +kernel
theorem dX11_compile_28 : decode cX11_compile 28 = .ok (.putfield 51, 3) := by decide +kernel
theorem dX11_compile_31 : decode cX11_compile 31 = .ok (.aload_n 0, 1) := by decide +kernel
theorem dX11_compile_32 : decode cX11_compile 32 = .ok (.getfield 19, 3) := by decide +kernel
theorem dX11_compile_35 : decode cX11_compile 35 = .ok (.invokevirtual 196, 3) := by decide +kernel
theorem dX11_compile_38 : decode cX11_compile 38 = .ok (.ireturn, 1) := by decide +kernel
theorem dX11_open_0 : decode cX11_open 0 = .ok (.aload_n 0, 1) := by decide +kernel
theorem dX11_open_1 : decode cX11_open 1 = .ok (.invokevirtual 199, 3) := by decide +kernel
theorem dX11_open_4 : decode cX11_open 4 = .ok (.aload_n 0, 1) := by decide +kernel
theorem dX11_open_5 : decode cX11_open 5 = .ok (.getfield 55, 3) := by decide +kernel
theorem dX11_open_8 : decode cX11_open 8 = .ok (.istore_n 1, 1) := by decide +kernel
theorem dX11_open_9 : decode cX11_open 9 = .ok (.aload_n 0, 1) := by decide +kernel
theorem dX11_open_10 : decode cX11_open 10 = .ok (.iconst 0, 1) := by decide +kernel
theorem dX11_open_11 : decode cX11_open 11 = .ok (.putfield 51, 3) := by decide +kernel
theorem dX11_open_14 : decode cX11_open 14 = .ok (.aload_n 0, 1) := by decide +kernel
theorem dX11_open_15 : decode cX11_open 15 = .ok (.iconst 0, 1) := by decide +kernel
theorem dX11_open_16 : decode cX11_open 16 = .ok (.putfield 55, 3) := by decide +kernel
theorem dX11_open_19 : decode cX11_open 19 = .ok (.aload_n 0, 1) := by decide +kernel
theorem dX11_open_20 : decode cX11_open 20 = .ok (.lconst 0, 1) := by decide +kernel
theorem dX11_open_21 : decode cX11_open 21 = .ok (.putfield 59, 3) := by decide +kernel
theorem dX11_open_24 : decode cX11_open 24 = .ok (.iload_n 1, 1) := by decide +kernel
theorem dX11_open_25 : decode cX11_open 25 = .ok (.ireturn, 1) := by decide +kernel
theorem dX11_fault_0 : decode cX11_fault 0 = .ok (.aload_n 0, 1) := by decide +kernel
theorem dX11_fault_1 : decode cX11_fault 1 = .ok (.iload_n 1, 1) := by decide +kernel
theorem dX11_fault_2 : decode cX11_fault 2 = .ok (.iload_n 2, 1) := by decide +kernel
theorem dX11_fault_3 : decode cX11_fault 3 = .ok (.invokevirtual 202, 3) := by decide +kernel
theorem dX11_fault_6 : decode cX11_fault 6 = .ok (.invokevirtual 206, 3) := by decide +kernel
theorem dX11_fault_9 : decode cX11_fault 9 = .ok (.ireturn, 1) := by decide +kernel
theorem dX11_isGood_0 : decode cX11_isGood 0 = .ok (.aload_n 0, 1) := by decide +kernel
theorem dX11_isGood_1 : decode cX11_isGood 1 = .ok (.iload_n 1, 1) := by decide +kernel
theorem dX11_isGood_2 : decode cX11_isGood 2 = .ok (.iload_n 2, 1) := by decide +kernel
theorem dX11_isGood_3 : decode cX11_isGood 3 = .ok (.invokevirtual 202, 3) := by decide +kernel
theorem dX11_isGood_6 : decode cX11_isGood 6 = .ok (.getfield 212, 3) := by decide +kernel
theorem dX11_isGood_9 : decode cX11_isGood 9 = .ok (.ireturn, 1) := by decide +kernel
theorem dX11_found_0 : decode cX11_found 0 = .ok (.aload_n 0, 1) := by decide +kernel
theorem dX11_found_1 : decode cX11_found 1 = .ok (.iload_n 1, 1) := by decide +kernel
theorem dX11_found_2 : decode cX11_found 2 = .ok (.iload_n 2, 1) := by decide +kernel
theorem dX11_found_3 : decode cX11_found 3 = .ok (.invokevirtual 202, 3) := by decide +kernel
theorem dX11_found_6 : decode cX11_found 6 = .ok (.astore_n 3, 1) := by decide +kernel
theorem dX11_found_7 : decode cX11_found 7 = .ok (.aload_n 3, 1) := by decide +kernel
theorem dX11_found_8 : decode cX11_found 8 = .ok (.getfield 212, 3) := by decide +kernel
theorem dX11_found_11 : decode cX11_found 11 = .ok (.ifCond .ne 11, 3) := by decide +kernel
theorem dX11_found_14 : decode cX11_found 14 = .ok (.new 117, 3) := by decide +kernel
theorem dX11_found_17 : decode cX11_found 17 = .ok (.dup, 1) := by decide +kernel
theorem dX11_found_18 : decode cX11_found 18 = .ok (.invokespecial 119, 3) := by decide +kernel
theorem dX11_found_21 : decode cX11_found 21 = .ok (.athrow, 1) := by decide +kernel
theorem dX11_found_22 : decode cX11_found 22 = .ok (.aload_n 3, 1) := by decide +kernel
theorem dX11_found_23 : decode cX11_found 23 = .ok (.invokevirtual 215, 3) := by decide +kernel
theorem dX11_found_26 : decode cX11_found 26 = .ok (.ireturn, 1) := by decide +kernel
theorem dX11_switchOf_0 : decode cX11_switchOf 0 = .ok (.aload_n 0, 1) := by decide +kernel
theorem dX11_switchOf_1 : decode cX11_switchOf 1 = .ok (.iload_n 1, 1) := by decide +kernel
theorem dX11_switchOf_2 : decode cX11_switchOf 2 = .ok (.iload_n 2, 1) := by decide +kernel
theorem dX11_switchOf_3 : decode cX11_switchOf 3 = .ok (.invokevirtual 202, 3) := by decide +kernel
theorem dX11_switchOf_6 : decode cX11_switchOf 6 = .ok (.astore_n 3, 1) := by decide +kernel
theorem dX11_switchOf_7 : decode cX11_switchOf 7 = .ok (.aload_n 3, 1) := by decide +kernel
theorem dX11_switchOf_8 : decode cX11_switchOf 8 = .ok (.getfield 218, 3) := by decide +kernel
theorem dX11_switchOf_11 : decode cX11_switchOf 11 = .ok (.ifCond .ne 11, 3) := by decide +kernel
theorem dX11_switchOf_14 : decode cX11_switchOf 14 = .ok (.aload_n 3, 1) := by decide +kernel
theorem dX11_switchOf_15 : decode cX11_switchOf 15 = .ok (.getfield 221, 3) := by decide +kernel
theorem dX11_switchOf_18 : decode cX11_switchOf 18 = .ok (.iconst (-1), 1) := by decide +kernel
theorem dX11_switchOf_19 : decode cX11_switchOf 19 = .ok (.if_icmp .ne 11, 3) := by decide +kernel
theorem dX11_switchOf_22 : decode cX11_switchOf 22 = .ok (.new 117, 3) := by decide +kernel
theorem dX11_switchOf_25 : decode cX11_switchOf 25 = .ok (.dup, 1) := by decide +kernel
theorem dX11_switchOf_26 : decode cX11_switchOf 26 = .ok (.invokespecial 119, 3) := by decide +kernel
theorem dX11_switchOf_29 : decode cX11_switchOf 29 = .ok (.athrow, 1) := by decide +kernel
theorem dX11_switchOf_30 : decode cX11_switchOf 30 = .ok (.aload_n 3, 1) := by decide +kernel
theorem dX11_switchOf_31 : decode cX11_switchOf 31 = .ok (.getfield 221, 3) := by decide +kernel
theorem dX11_switchOf_34 : decode cX11_switchOf 34 = .ok (.ireturn, 1) := by decide +kernel
theorem dX11_goalAt_0 : decode cX11_goalAt 0 = .ok (.aload_n 0, 1) := by decide +kernel
theorem dX11_goalAt_1 : decode cX11_goalAt 1 = .ok (.iload_n 1, 1) := by decide +kernel
theorem dX11_goalAt_2 : decode cX11_goalAt 2 = .ok (.iload_n 2, 1) := by decide +kernel
theorem dX11_goalAt_3 : decode cX11_goalAt 3 = .ok (.invokevirtual 224, 3) := by decide +kernel
theorem dX11_goalAt_6 : decode cX11_goalAt 6 = .ok (.astore 4, 2) := by decide +kernel
theorem dX11_goalAt_8 : decode cX11_goalAt 8 = .ok (.aload 4, 2) := by decide +kernel
theorem dX11_goalAt_10 : decode cX11_goalAt 10 = .ok (.iload_n 2, 1) := by decide +kernel
theorem dX11_goalAt_11 : decode cX11_goalAt 11 = .ok (.iload_n 3, 1) := by decide +kernel
theorem dX11_goalAt_12 : decode cX11_goalAt 12 = .ok (.invokevirtual 228, 3) := by decide +kernel
theorem dX11_goalAt_15 : decode cX11_goalAt 15 = .ok (.istore 5, 2) := by decide +kernel
theorem dX11_goalAt_17 : decode cX11_goalAt 17 = .ok (.iload 5, 2) := by decide +kernel
theorem dX11_goalAt_19 : decode cX11_goalAt 19 = .ok (.iconst (-1), 1) := by decide +kernel
theorem dX11_goalAt_20 : decode cX11_goalAt 20 = .ok (.if_icmp .ne 11, 3) := by decide +kernel
theorem dX11_goalAt_23 : decode cX11_goalAt 23 = .ok (.new 117, 3) := by decide +kernel
theorem dX11_goalAt_26 : decode cX11_goalAt 26 = .ok (.dup, 1) := by decide +kernel
theorem dX11_goalAt_27 : decode cX11_goalAt 27 = .ok (.invokespecial 119, 3) := by decide +kernel
theorem dX11_goalAt_30 : decode cX11_goalAt 30 = .ok (.athrow, 1) := by decide +kernel
theorem dX11_goalAt_31 : decode cX11_goalAt 31 = .ok (.iload 5, 2) := by decide +kernel
theorem dX11_goalAt_33 : decode cX11_goalAt 33 = .ok (.ireturn, 1) := by decide +kernel
theorem dX11_chosenAt_0 : decode cX11_chosenAt 0 = .ok (.aload_n 0, 1) := by decide +kernel
theorem dX11_chosenAt_1 : decode cX11_chosenAt 1 = .ok (.iload_n 1, 1) := by decide +kernel
theorem dX11_chosenAt_2 : decode cX11_chosenAt 2 = .ok (.iload_n 2, 1) := by decide +kernel
theorem dX11_chosenAt_3 : decode cX11_chosenAt 3 = .ok (.invokevirtual 224, 3) := by decide +kernel
theorem dX11_chosenAt_6 : decode cX11_chosenAt 6 = .ok (.astore 4, 2) := by decide +kernel
theorem dX11_chosenAt_8 : decode cX11_chosenAt 8 = .ok (.aload 4, 2) := by decide +kernel
theorem dX11_chosenAt_10 : decode cX11_chosenAt 10 = .ok (.iload_n 2, 1) := by decide +kernel
theorem dX11_chosenAt_11 : decode cX11_chosenAt 11 = .ok (.iload_n 3, 1) := by decide +kernel
theorem dX11_chosenAt_12 : decode cX11_chosenAt 12 = .ok (.invokevirtual 231, 3) := by decide +kernel
theorem dX11_chosenAt_15 : decode cX11_chosenAt 15 = .ok (.astore 5, 2) := by decide +kernel
theorem dX11_chosenAt_17 : decode cX11_chosenAt 17 = .ok (.aload 5, 2) := by decide +kernel
theorem dX11_chosenAt_19 : decode cX11_chosenAt 19 = .ok (.ifnonnull 11, 3) := by decide +kernel
theorem dX11_chosenAt_22 : decode cX11_chosenAt 22 = .ok (.new 117, 3) := by decide +kernel
theorem dX11_chosenAt_25 : decode cX11_chosenAt 25 = .ok (.dup, 1) := by decide +kernel
theorem dX11_chosenAt_26 : decode cX11_chosenAt 26 = .ok (.invokespecial 119, 3) := by decide +kernel
theorem dX11_chosenAt_29 : decode cX11_chosenAt 29 = .ok (.athrow, 1) := by decide +kernel
theorem dX11_chosenAt_30 : decode cX11_chosenAt 30 = .ok (.aload 5, 2) := by decide +kernel
theorem dX11_chosenAt_32 : decode cX11_chosenAt 32 = .ok (.getfield 234, 3) := by decide +kernel
theorem dX11_chosenAt_35 : decode cX11_chosenAt 35 = .ok (.ireturn, 1) := by decide +kernel
theorem dX11_ask_0 : decode cX11_ask 0 = .ok (.aload_n 0, 1) := by decide +kernel
theorem dX11_ask_1 : decode cX11_ask 1 = .ok (.getfield 19, 3) := by decide +kernel
theorem dX11_ask_4 : decode cX11_ask 4 = .ok (.iload_n 1, 1) := by decide +kernel
theorem dX11_ask_5 : decode cX11_ask 5 = .ok (.iload_n 2, 1) := by decide +kernel
theorem dX11_ask_6 : decode cX11_ask 6 = .ok (.invokevirtual 237, 3) := by decide +kernel
theorem dX11_ask_9 : decode cX11_ask 9 = .ok (.astore 6, 2) := by decide +kernel
theorem dX11_ask_11 : decode cX11_ask 11 = .ok (.aload 6, 2) := by decide +kernel
theorem dX11_ask_13 : decode cX11_ask 13 = .ok (.ifnull 17, 3) := by decide +kernel
theorem dX11_ask_16 : decode cX11_ask 16 = .ok (.aload_n 0, 1) := by decide +kernel
theorem dX11_ask_17 : decode cX11_ask 17 = .ok (.aload 6, 2) := by decide +kernel
theorem dX11_ask_19 : decode cX11_ask 19 = .ok (.iload_n 3, 1) := by decide +kernel
theorem dX11_ask_20 : decode cX11_ask 20 = .ok (.iload 4, 2) := by decide +kernel
theorem dX11_ask_22 : decode cX11_ask 22 = .ok (.iload 5, 2) := by decide +kernel
theorem dX11_ask_24 : decode cX11_ask 24 = .ok (.invokevirtual 240, 3) := by decide +kernel
theorem dX11_ask_27 : decode cX11_ask 27 = .ok (.ifCond .ne 11, 3) := by decide +kernel
theorem dX11_ask_30 : decode cX11_ask 30 = .ok (.new 80, 3) := by decide +kernel
theorem dX11_ask_33 : decode cX11_ask 33 = .ok (.dup, 1) := by decide +kernel
theorem dX11_ask_34 : decode cX11_ask 34 = .ok (.invokespecial 82, 3) := by decide +kernel
theorem dX11_ask_37 : decode cX11_ask 37 = .ok (.athrow, 1) := by decide +kernel
theorem dX11_ask_38 : decode cX11_ask 38 = .ok (.aload_n 0, 1) := by decide +kernel
theorem dX11_ask_39 : decode cX11_ask 39 = .ok (.aload 6, 2) := by decide +kernel
theorem dX11_ask_41 : decode cX11_ask 41 = .ok (.iload_n 3, 1) := by decide +kernel
theorem dX11_ask_42 : decode cX11_ask 42 = .ok (.iload 4, 2) := by decide +kernel
theorem dX11_ask_44 : decode cX11_ask 44 = .ok (.iload 5, 2) := by decide +kernel
theorem dX11_ask_46 : decode cX11_ask 46 = .ok (.invokevirtual 244, 3) := by decide +kernel
theorem dX11_ask_49 : decode cX11_ask 49 = .ok (.ifCond .ne 11, 3) := by decide +kernel
theorem dX11_ask_52 : decode cX11_ask 52 = .ok (.new 83, 3) := by decide +kernel
theorem dX11_ask_55 : decode cX11_ask 55 = .ok (.dup, 1) := by decide +kernel
theorem dX11_ask_56 : decode cX11_ask 56 = .ok (.invokespecial 85, 3) := by decide +kernel
theorem dX11_ask_59 : decode cX11_ask 59 = .ok (.athrow, 1) := by decide +kernel
theorem dX11_ask_60 : decode cX11_ask 60 = .ok (.aload_n 0, 1) := by decide +kernel
theorem dX11_ask_61 : decode cX11_ask 61 = .ok (.invokevirtual 199, 3) := by decide +kernel
theorem dX11_ask_64 : decode cX11_ask 64 = .ok (.aload_n 0, 1) := by decide +kernel
theorem dX11_ask_65 : decode cX11_ask 65 = .ok (.getfield 30, 3) := by decide +kernel
theorem dX11_ask_68 : decode cX11_ask 68 = .ok (.aload 6, 2) := by decide +kernel
theorem dX11_ask_70 : decode cX11_ask 70 = .ok (.iload_n 3, 1) := by decide +kernel
theorem dX11_ask_71 : decode cX11_ask 71 = .ok (.iload 4, 2) := by decide +kernel
theorem dX11_ask_73 : decode cX11_ask 73 = .ok (.iload 5, 2) := by decide +kernel
theorem dX11_ask_75 : decode cX11_ask 75 = .ok (.invokevirtual 247, 3) := by decide +kernel
theorem dX11_ask_78 : decode cX11_ask 78 = .ok (.aload 6, 2) := by decide +kernel
theorem dX11_ask_80 : decode cX11_ask 80 = .ok (.getfield 212, 3) := by decide +kernel
theorem dX11_ask_83 : decode cX11_ask 83 = .ok (.ifCond .eq 19, 3) := by decide +kernel
theorem dX11_ask_86 : decode cX11_ask 86 = .ok (.aload_n 0, 1) := by decide +kernel
theorem dX11_ask_87 : decode cX11_ask 87 = .ok (.getfield 38, 3) := by decide +kernel
theorem dX11_ask_90 : decode cX11_ask 90 = .ok (.aload 6, 2) := by decide +kernel
theorem dX11_ask_92 : decode cX11_ask 92 = .ok (.aload_n 0, 1) := by decide +kernel
theorem dX11_ask_93 : decode cX11_ask 93 = .ok (.getfield 30, 3) := by decide +kernel
theorem dX11_ask_96 : decode cX11_ask 96 = .ok (.invokevirtual 251, 3) := by decide +kernel
theorem dX11_ask_99 : decode cX11_ask 99 = .ok (.ifCond .ne 11, 3) := by decide +kernel
theorem dX11_ask_102 : decode cX11_ask 102 = .ok (.new 255, 3) := by decide +kernel
theorem dX11_ask_105 : decode cX11_ask 105 = .ok (.dup, 1) := by decide +kernel
theorem dX11_ask_106 : decode cX11_ask 106 = .ok (.invokespecial 257, 3) := by decide +kernel
theorem dX11_ask_109 : decode cX11_ask 109 = .ok (.athrow, 1) := by decide +kernel
theorem dX11_ask_110 : decode cX11_ask 110 = .ok (.aload_n 0, 1) := by decide +kernel
theorem dX11_ask_111 : decode cX11_ask 111 = .ok (.getfield 26, 3) := by decide +kernel
theorem dX11_ask_114 : decode cX11_ask 114 = .ok (.astore 7, 2) := by decide +kernel
theorem dX11_ask_116 : decode cX11_ask 116 = .ok (.aload_n 0, 1) := by decide +kernel
theorem dX11_ask_117 : decode cX11_ask 117 = .ok (.aload_n 0, 1) := by decide +kernel
theorem dX11_ask_118 : decode cX11_ask 118 = .ok (.getfield 30, 3) := by decide +kernel
theorem dX11_ask_121 : decode cX11_ask 121 = .ok (.putfield 26, 3) := by decide +kernel
theorem dX11_ask_124 : decode cX11_ask 124 = .ok (.aload_n 0, 1) := by decide +kernel
theorem dX11_ask_125 : decode cX11_ask 125 = .ok (.aload 7, 2) := by decide +kernel
theorem dX11_ask_127 : decode cX11_ask 127 = .ok (.putfield 30, 3) := by decide +kernel
theorem dX11_ask_130 : decode cX11_ask 130 = .ok (.aload_n 0, 1) := by decide +kernel
theorem dX11_ask_131 : decode cX11_ask 131 = .ok (.dup, 1) := by decide +kernel
