theorem dX10_find_87 : decode cX10_find 87 = .ok (.iload 4, 2) := by decide +kernel
theorem dX10_find_89 : decode cX10_find 89 = .ok (.ireturn, 1) := by decide +kernel
theorem dX10_find_90 : decode cX10_find 90 = .ok (.aload_n 0, 1) := by decide +kernel
theorem dX10_find_91 : decode cX10_find 91 = .ok (.getfield 24, 3) := by decide +kernel
theorem dX10_find_94 : decode cX10_find 94 = .ok (.iload 4, 2) := by decide +kernel
theorem dX10_find_96 : decode cX10_find 96 = .ok (.iconst 3, 1) := by decide +kernel
theorem dX10_find_97 : decode cX10_find 97 = .ok (.invokevirtual 42, 3) := by decide +kernel
theorem dX10_find_100 : decode cX10_find 100 = .ok (.istore 4, 2) := by decide +kernel
theorem dX10_find_102 : decode cX10_find 102 = .ok (.iinc 5 1, 3) := by decide +kernel
theorem dX10_find_105 : decode cX10_find 105 = .ok (.goto (-86), 3) := by decide +kernel
theorem dX10_find_108 : decode cX10_find 108 = .ok (.iconst (-1), 1) := by decide +kernel
theorem dX10_find_109 : decode cX10_find 109 = .ok (.ireturn, 1) := by decide +kernel
theorem dX10_make_0 : decode cX10_make 0 = .ok (.aload_n 0, 1) := by decide +kernel
theorem dX10_make_1 : decode cX10_make 1 = .ok (.iload_n 1, 1) := by decide +kernel
theorem dX10_make_2 : decode cX10_make 2 = .ok (.iload_n 2, 1) := by decide +kernel
theorem dX10_make_3 : decode cX10_make 3 = .ok (.iload_n 3, 1) := by decide +kernel
theorem dX10_make_4 : decode cX10_make 4 = .ok (.invokevirtual 70, 3) := by decide +kernel
theorem dX10_make_7 : decode cX10_make 7 = .ok (.istore 4, 2) := by decide +kernel
theorem dX10_make_9 : decode cX10_make 9 = .ok (.iload 4, 2) := by decide +kernel
theorem dX10_make_11 : decode cX10_make 11 = .ok (.iconst (-1), 1) := by decide +kernel
theorem dX10_make_12 : decode cX10_make 12 = .ok (.if_icmp .ne 16, 3) := by decide +kernel
theorem dX10_make_15 : decode cX10_make 15 = .ok (.aload_n 0, 1) := by decide +kernel
theorem dX10_make_16 : decode cX10_make 16 = .ok (.getfield 24, 3) := by decide +kernel
theorem dX10_make_19 : decode cX10_make 19 = .ok (.invokevirtual 38, 3) := by decide +kernel
theorem dX10_make_22 : decode cX10_make 22 = .ok (.sipush 200, 3) := by decide +kernel
theorem dX10_make_25 : decode cX10_make 25 = .ok (.if_icmp .lt 6, 3) := by decide +kernel
theorem dX10_make_28 : decode cX10_make 28 = .ok (.iload 4, 2) := by decide +kernel
theorem dX10_make_30 : decode cX10_make 30 = .ok (.ireturn, 1) := by decide +kernel
theorem dX10_make_31 : decode cX10_make 31 = .ok (.aload_n 0, 1) := by decide +kernel
theorem dX10_make_32 : decode cX10_make 32 = .ok (.getfield 24, 3) := by decide +kernel
theorem dX10_make_35 : decode cX10_make 35 = .ok (.iload_n 1, 1) := by decide +kernel
theorem dX10_make_36 : decode cX10_make 36 = .ok (.iload_n 2, 1) := by decide +kernel
theorem dX10_make_37 : decode cX10_make 37 = .ok (.iload_n 3, 1) := by decide +kernel
theorem dX10_make_38 : decode cX10_make 38 = .ok (.invokevirtual 30, 3) := by decide +kernel
theorem dX10_make_41 : decode cX10_make 41 = .ok (.istore 5, 2) := by decide +kernel
theorem dX10_make_43 : decode cX10_make 43 = .ok (.iload_n 1, 1) := by decide +kernel
theorem dX10_make_44 : decode cX10_make 44 = .ok (.iload_n 2, 1) := by decide +kernel
theorem dX10_make_45 : decode cX10_make 45 = .ok (.iload_n 3, 1) := by decide +kernel
theorem dX10_make_46 : decode cX10_make 46 = .ok (.invokestatic 67, 3) := by decide +kernel
theorem dX10_make_49 : decode cX10_make 49 = .ok (.istore 6, 2) := by decide +kernel
theorem dX10_make_51 : decode cX10_make 51 = .ok (.aload_n 0, 1) := by decide +kernel
theorem dX10_make_52 : decode cX10_make 52 = .ok (.getfield 24, 3) := by decide +kernel
theorem dX10_make_55 : decode cX10_make 55 = .ok (.iload 5, 2) := by decide +kernel
theorem dX10_make_57 : decode cX10_make 57 = .ok (.iconst 3, 1) := by decide +kernel
theorem dX10_make_58 : decode cX10_make 58 = .ok (.aload_n 0, 1) := by decide +kernel
theorem dX10_make_59 : decode cX10_make 59 = .ok (.getfield 27, 3) := by decide +kernel
theorem dX10_make_62 : decode cX10_make 62 = .ok (.iload 6, 2) := by decide +kernel
theorem dX10_make_64 : decode cX10_make 64 = .ok (.iconst 0, 1) := by decide +kernel
theorem dX10_make_65 : decode cX10_make 65 = .ok (.invokevirtual 42, 3) := by decide +kernel
theorem dX10_make_68 : decode cX10_make 68 = .ok (.invokevirtual 73, 3) := by decide +kernel
theorem dX10_make_71 : decode cX10_make 71 = .ok (.aload_n 0, 1) := by decide +kernel
theorem dX10_make_72 : decode cX10_make 72 = .ok (.getfield 27, 3) := by decide +kernel
theorem dX10_make_75 : decode cX10_make 75 = .ok (.iload 6, 2) := by decide +kernel
theorem dX10_make_77 : decode cX10_make 77 = .ok (.iconst 0, 1) := by decide +kernel
theorem dX10_make_78 : decode cX10_make 78 = .ok (.iload 5, 2) := by decide +kernel
theorem dX10_make_80 : decode cX10_make 80 = .ok (.invokevirtual 73, 3) := by decide +kernel
theorem dX10_make_83 : decode cX10_make 83 = .ok (.iload 5, 2) := by decide +kernel
theorem dX10_make_85 : decode cX10_make 85 = .ok (.ifCond .lt 59, 3) := by decide +kernel
theorem dX10_make_88 : decode cX10_make 88 = .ok (.iload 5, 2) := by decide +kernel
theorem dX10_make_90 : decode cX10_make 90 = .ok (.aload_n 0, 1) := by decide +kernel
theorem dX10_make_91 : decode cX10_make 91 = .ok (.getfield 34, 3) := by decide +kernel
theorem dX10_make_94 : decode cX10_make 94 = .ok (.arraylength, 1) := by decide +kernel
theorem dX10_make_95 : decode cX10_make 95 = .ok (.if_icmp .ge 49, 3) := by decide +kernel
theorem dX10_make_98 : decode cX10_make 98 = .ok (.aload_n 0, 1) := by decide +kernel
theorem dX10_make_99 : decode cX10_make 99 = .ok (.iload_n 1, 1) := by decide +kernel
theorem dX10_make_100 : decode cX10_make 100 = .ok (.invokevirtual 46, 3) := by decide +kernel
theorem dX10_make_103 : decode cX10_make 103 = .ok (.istore 7, 2) := by decide +kernel
theorem dX10_make_105 : decode cX10_make 105 = .ok (.aload_n 0, 1) := by decide +kernel
theorem dX10_make_106 : decode cX10_make 106 = .ok (.getfield 34, 3) := by decide +kernel
theorem dX10_make_109 : decode cX10_make 109 = .ok (.iload 5, 2) := by decide +kernel
theorem dX10_make_111 : decode cX10_make 111 = .ok (.lconst 1, 1) := by decide +kernel
theorem dX10_make_112 : decode cX10_make 112 = .ok (.iload 7, 2) := by decide +kernel
theorem dX10_make_114 : decode cX10_make 114 = .ok (.ifCond .le 11, 3) := by decide +kernel
theorem dX10_make_117 : decode cX10_make 117 = .ok (.aload_n 0, 1) := by decide +kernel
theorem dX10_make_118 : decode cX10_make 118 = .ok (.iload_n 2, 1) := by decide +kernel
theorem dX10_make_119 : decode cX10_make 119 = .ok (.invokevirtual 77, 3) := by decide +kernel
theorem dX10_make_122 : decode cX10_make 122 = .ok (.goto 4, 3) := by decide +kernel
theorem dX10_make_125 : decode cX10_make 125 = .ok (.lconst 0, 1) := by decide +kernel
theorem dX10_make_126 : decode cX10_make 126 = .ok (.ladd, 1) := by decide +kernel
theorem dX10_make_127 : decode cX10_make 127 = .ok (.iload 7, 2) := by decide +kernel
theorem dX10_make_129 : decode cX10_make 129 = .ok (.iconst 1, 1) := by decide +kernel
theorem dX10_make_130 : decode cX10_make 130 = .ok (.if_icmp .le 11, 3) := by decide +kernel
theorem dX10_make_133 : decode cX10_make 133 = .ok (.aload_n 0, 1) := by decide +kernel
theorem dX10_make_134 : decode cX10_make 134 = .ok (.iload_n 3, 1) := by decide +kernel
theorem dX10_make_135 : decode cX10_make 135 = .ok (.invokevirtual 77, 3) := by decide +kernel
theorem dX10_make_138 : decode cX10_make 138 = .ok (.goto 4, 3) := by decide +kernel
theorem dX10_make_141 : decode cX10_make 141 = .ok (.lconst 0, 1) := by decide +kernel
theorem dX10_make_142 : decode cX10_make 142 = .ok (.ladd, 1) := by decide +kernel
theorem dX10_make_143 : decode cX10_make 143 = .ok (.lastore, 1) := by decide +kernel
theorem dX10_make_144 : decode cX10_make 144 = .ok (.iload 5, 2) := by decide +kernel
theorem dX10_make_146 : decode cX10_make 146 = .ok (.ireturn, 1) := by decide +kernel
theorem dX10_forgetFrom_0 : decode cX10_forgetFrom 0 = .ok (.aload_n 0, 1) := by decide +kernel
theorem dX10_forgetFrom_1 : decode cX10_forgetFrom 1 = .ok (.getfield 24, 3) := by decide +kernel
theorem dX10_forgetFrom_4 : decode cX10_forgetFrom 4 = .ok (.invokevirtual 38, 3) := by decide +kernel
theorem dX10_forgetFrom_7 : decode cX10_forgetFrom 7 = .ok (.iconst 1, 1) := by decide +kernel
theorem dX10_forgetFrom_8 : decode cX10_forgetFrom 8 = .ok (.isub, 1) := by decide +kernel
theorem dX10_forgetFrom_9 : decode cX10_forgetFrom 9 = .ok (.istore_n 2, 1) := by decide +kernel
theorem dX10_forgetFrom_10 : decode cX10_forgetFrom 10 = .ok (.iload_n 2, 1) := by decide +kernel
theorem dX10_forgetFrom_11 : decode cX10_forgetFrom 11 = .ok (.iload_n 1, 1) := by decide +kernel
theorem dX10_forgetFrom_12 : decode cX10_forgetFrom 12 = .ok (.if_icmp .lt 60, 3) := by decide +kernel
theorem dX10_forgetFrom_15 : decode cX10_forgetFrom 15 = .ok (.iload_n 2, 1) := by decide +kernel
theorem dX10_forgetFrom_16 : decode cX10_forgetFrom 16 = .ok (.ifCond .lt 56, 3) := by decide +kernel
theorem dX10_forgetFrom_19 : decode cX10_forgetFrom 19 = .ok (.aload_n 0, 1) := by decide +kernel
theorem dX10_forgetFrom_20 : decode cX10_forgetFrom 20 = .ok (.iload_n 2, 1) := by decide +kernel
theorem dX10_forgetFrom_21 : decode cX10_forgetFrom 21 = .ok (.invokevirtual 61, 3) := by decide +kernel
theorem dX10_forgetFrom_24 : decode cX10_forgetFrom 24 = .ok (.aload_n 0, 1) := by decide +kernel
theorem dX10_forgetFrom_25 : decode cX10_forgetFrom 25 = .ok (.iload_n 2, 1) := by decide +kernel
theorem dX10_forgetFrom_26 : decode cX10_forgetFrom 26 = .ok (.iconst 0, 1) := by decide +kernel
theorem dX10_forgetFrom_27 : decode cX10_forgetFrom 27 = .ok (.invokevirtual 81, 3) := by decide +kernel
theorem dX10_forgetFrom_30 : decode cX10_forgetFrom 30 = .ok (.aload_n 0, 1) := by decide +kernel
theorem dX10_forgetFrom_31 : decode cX10_forgetFrom 31 = .ok (.iload_n 2, 1) := by decide +kernel
theorem dX10_forgetFrom_32 : decode cX10_forgetFrom 32 = .ok (.iconst 1, 1) := by decide +kernel
theorem dX10_forgetFrom_33 : decode cX10_forgetFrom 33 = .ok (.invokevirtual 81, 3) := by decide +kernel
theorem dX10_forgetFrom_36 : decode cX10_forgetFrom 36 = .ok (.invokestatic 67, 3) := by decide +kernel
theorem dX10_forgetFrom_39 : decode cX10_forgetFrom 39 = .ok (.istore_n 3, 1) := by decide +kernel
theorem dX10_forgetFrom_40 : decode cX10_forgetFrom 40 = .ok (.aload_n 0, 1) := by decide +kernel
theorem dX10_forgetFrom_41 : decode cX10_forgetFrom 41 = .ok (.getfield 27, 3) := by decide +kernel
theorem dX10_forgetFrom_44 : decode cX10_forgetFrom 44 = .ok (.iload_n 3, 1) := by decide +kernel
theorem dX10_forgetFrom_45 : decode cX10_forgetFrom 45 = .ok (.iconst 0, 1) := by decide +kernel
theorem dX10_forgetFrom_46 : decode cX10_forgetFrom 46 = .ok (.aload_n 0, 1) := by decide +kernel
theorem dX10_forgetFrom_47 : decode cX10_forgetFrom 47 = .ok (.getfield 24, 3) := by decide +kernel
theorem dX10_forgetFrom_50 : decode cX10_forgetFrom 50 = .ok (.iload_n 2, 1) := by decide +kernel
theorem dX10_forgetFrom_51 : decode cX10_forgetFrom 51 = .ok (.iconst 3, 1) := by decide +kernel
theorem dX10_forgetFrom_52 : decode cX10_forgetFrom 52 = .ok (.invokevirtual 42, 3) := by decide +kernel
theorem dX10_forgetFrom_55 : decode cX10_forgetFrom 55 = .ok (.invokevirtual 73, 3) := by decide +kernel
theorem dX10_forgetFrom_58 : decode cX10_forgetFrom 58 = .ok (.aload_n 0, 1) := by decide +kernel
theorem dX10_forgetFrom_59 : decode cX10_forgetFrom 59 = .ok (.getfield 24, 3) := by decide +kernel
theorem dX10_forgetFrom_62 : decode cX10_forgetFrom 62 = .ok (.iload_n 2, 1) := by decide +kernel
theorem dX10_forgetFrom_63 : decode cX10_forgetFrom 63 = .ok (.invokevirtual 84, 3) := by decide +kernel
theorem dX10_forgetFrom_66 : decode cX10_forgetFrom 66 = .ok (.iinc 2 (-1), 3) := by decide +kernel
theorem dX10_forgetFrom_69 : decode cX10_forgetFrom 69 = .ok (.goto (-59), 3) := by decide +kernel
theorem dX10_forgetFrom_72 : decode cX10_forgetFrom 72 = .ok (.return_, 1) := by decide +kernel
theorem dX11_init_0 : decode cX11_init 0 = .ok (.aload_n 0, 1) := by decide +kernel
theorem dX11_init_1 : decode cX11_init 1 = .ok (.invokespecial 1, 3) := by decide +kernel
theorem dX11_init_4 : decode cX11_init 4 = .ok (.aload_n 0, 1) := by decide +kernel
theorem dX11_init_5 : decode cX11_init 5 = .ok (.new 7, 3) := by decide +kernel
theorem dX11_init_8 : decode cX11_init 8 = .ok (.dup, 1) := by decide +kernel
theorem dX11_init_9 : decode cX11_init 9 = .ok (.invokespecial 9, 3) := by decide +kernel
theorem dX11_init_12 : decode cX11_init 12 = .ok (.putfield 10, 3) := by decide +kernel
theorem dX11_init_15 : decode cX11_init 15 = .ok (.aload_n 0, 1) := by decide +kernel
theorem dX11_init_16 : decode cX11_init 16 = .ok (.new 16, 3) := by decide +kernel
theorem dX11_init_19 : decode cX11_init 19 = .ok (.dup, 1) := by decide +kernel
theorem dX11_init_20 : decode cX11_init 20 = .ok (.invokespecial 18, 3) := by decide +kernel
theorem dX11_init_23 : decode cX11_init 23 = .ok (.putfield 19, 3) := by decide +kernel
theorem dX11_init_26 : decode cX11_init 26 = .ok (.aload_n 0, 1) := by decide +kernel
theorem dX11_init_27 : decode cX11_init 27 = .ok (.new 23, 3) := by decide +kernel
theorem dX11_init_30 : decode cX11_init 30 = .ok (.dup, 1) := by decide +kernel
theorem dX11_init_31 : decode cX11_init 31 = .ok (.invokespecial 25, 3) := by decide +kernel
theorem dX11_init_34 : decode cX11_init 34 = .ok (.putfield 26, 3) := by decide +kernel
theorem dX11_init_37 : decode cX11_init 37 = .ok (.aload_n 0, 1) := by decide +kernel
theorem dX11_init_38 : decode cX11_init 38 = .ok (.new 23, 3) := by decide +kernel
theorem dX11_init_41 : decode cX11_init 41 = .ok (.dup, 1) := by decide +kernel
theorem dX11_init_42 : decode cX11_init 42 = .ok (.invokespecial 25, 3) := by decide +kernel
theorem dX11_init_45 : decode cX11_init 45 = .ok (.putfield 30, 3) := by decide +kernel
theorem dX11_init_48 : decode cX11_init 48 = .ok (.aload_n 0, 1) := by decide +kernel
theorem dX11_init_49 : decode cX11_init 49 = .ok (.new 33, 3) := by decide +kernel
theorem dX11_init_52 : decode cX11_init 52 = .ok (.dup, 1) := by decide +kernel
theorem dX11_init_53 : decode cX11_init 53 = .ok (.aload_n 0, 1) := by decide +kernel
theorem dX11_init_54 : decode cX11_init 54 = .ok (.getfield 10, 3) := by decide +kernel
theorem dX11_init_57 : decode cX11_init 57 = .ok (.aload_n 0, 1) := by decide +kernel
theorem dX11_init_58 : decode cX11_init 58 = .ok (.getfield 30, 3) := by decide +kernel
theorem dX11_init_61 : decode cX11_init 61 = .ok (.invokespecial 35, 3) := by decide +kernel
theorem dX11_init_64 : decode cX11_init 64 = .ok (.putfield 38, 3) := by decide +kernel
theorem dX11_init_67 : decode cX11_init 67 = .ok (.aload_n 0, 1) := by decide +kernel
theorem dX11_init_68 : decode cX11_init 68 = .ok (.new 42, 3) := by decide +kernel
theorem dX11_init_71 : decode cX11_init 71 = .ok (.dup, 1) := by decide +kernel
theorem dX11_init_72 : decode cX11_init 72 = .ok (.aload_n 0, 1) := by decide +kernel
theorem dX11_init_73 : decode cX11_init 73 = .ok (.getfield 19, 3) := by decide +kernel
theorem dX11_init_76 : decode cX11_init 76 = .ok (.aload_n 0, 1) := by decide +kernel
theorem dX11_init_77 : decode cX11_init 77 = .ok (.getfield 10, 3) := by decide +kernel
theorem dX11_init_80 : decode cX11_init 80 = .ok (.invokespecial 44, 3) := by decide +kernel
theorem dX11_init_83 : decode cX11_init 83 = .ok (.putfield 47, 3) := by decide +kernel
theorem dX11_init_86 : decode cX11_init 86 = .ok (.aload_n 0, 1) := by decide +kernel
theorem dX11_init_87 : decode cX11_init 87 = .ok (.iconst 0, 1) := by decide +kernel
theorem dX11_init_88 : decode cX11_init 88 = .ok (.putfield 51, 3) := by decide +kernel
theorem dX11_init_91 : decode cX11_init 91 = .ok (.aload_n 0, 1) := by decide +kernel
theorem dX11_init_92 : decode cX11_init 92 = .ok (.iconst 0, 1) := by decide +kernel
theorem dX11_init_93 : decode cX11_init 93 = .ok (.putfield 55, 3) := by decide +kernel
theorem dX11_init_96 : decode cX11_init 96 = .ok (.aload_n 0, 1) := by decide +kernel
theorem dX11_init_97 : decode cX11_init 97 = .ok (.lconst 0, 1) := by decide +kernel
theorem dX11_init_98 : decode cX11_init 98 = .ok (.putfield 59, 3) := by decide +kernel
theorem dX11_init_101 : decode cX11_init 101 = .ok (.return_, 1) := by decide +kernel
theorem dX11_addType_0 : decode cX11_addType 0 = .ok (.aload_n 0, 1) := by decide +kernel
theorem dX11_addType_1 : decode cX11_addType 1 = .ok (.getfield 10, 3) := by decide +kernel
theorem dX11_addType_4 : decode cX11_addType 4 = .ok (.invokevirtual 63, 3) := by decide +kernel
theorem dX11_addType_7 : decode cX11_addType 7 = .ok (.iconst 3, 1) := by decide +kernel
theorem dX11_addType_8 : decode cX11_addType 8 = .ok (.if_icmp .ge 10, 3) := by decide +kernel
theorem dX11_addType_11 : decode cX11_addType 11 = .ok (.aload_n 0, 1) := by decide +kernel
theorem dX11_addType_12 : decode cX11_addType 12 = .ok (.getfield 51, 3) := by decide +kernel
theorem dX11_addType_15 : decode cX11_addType 15 = .ok (.ifCond .eq 11, 3) := by decide +kernel
theorem dX11_addType_18 : decode cX11_addType 18 = .ok (.new 67, 3) := by decide +kernel
theorem dX11_addType_21 : decode cX11_addType 21 = .ok (.dup, 1) := by decide +kernel
theorem dX11_addType_22 : decode cX11_addType 22 = .ok (.invokespecial 69, 3) := by decide +kernel
theorem dX11_addType_25 : decode cX11_addType 25 = .ok (.athrow, 1) := by decide +kernel
theorem dX11_addType_26 : decode cX11_addType 26 = .ok (.aload_n 0, 1) := by decide +kernel
theorem dX11_addType_27 : decode cX11_addType 27 = .ok (.getfield 10, 3) := by decide +kernel
theorem dX11_addType_30 : decode cX11_addType 30 = .ok (.invokevirtual 70, 3) := by decide +kernel
theorem dX11_addType_33 : decode cX11_addType 33 = .ok (.ireturn, 1) := by decide +kernel
theorem dX11_addConstructor_0 : decode cX11_addConstructor 0 = .ok (.aload_n 0, 1) := by decide +kernel
theorem dX11_addConstructor_1 : decode cX11_addConstructor 1 = .ok (.getfield 10, 3) := by decide +kernel
theorem dX11_addConstructor_4 : decode cX11_addConstructor 4 = .ok (.iload_n 1, 1) := by decide +kernel
theorem dX11_addConstructor_5 : decode cX11_addConstructor 5 = .ok (.invokevirtual 73, 3) := by decide +kernel
theorem dX11_addConstructor_8 : decode cX11_addConstructor 8 = .ok (.ifCond .eq 19, 3) := by decide +kernel
theorem dX11_addConstructor_11 : decode cX11_addConstructor 11 = .ok (.aload_n 0, 1) := by decide +kernel
theorem dX11_addConstructor_12 : decode cX11_addConstructor 12 = .ok (.iload_n 2, 1) := by decide +kernel
theorem dX11_addConstructor_13 : decode cX11_addConstructor 13 = .ok (.invokevirtual 77, 3) := by decide +kernel
theorem dX11_addConstructor_16 : decode cX11_addConstructor 16 = .ok (.ifCond .eq 11, 3) := by decide +kernel
theorem dX11_addConstructor_19 : decode cX11_addConstructor 19 = .ok (.aload_n 0, 1) := by decide +kernel
theorem dX11_addConstructor_20 : decode cX11_addConstructor 20 = .ok (.iload_n 3, 1) := by decide +kernel
theorem dX11_addConstructor_21 : decode cX11_addConstructor 21 = .ok (.invokevirtual 77, 3) := by decide +kernel
theorem dX11_addConstructor_24 : decode cX11_addConstructor 24 = .ok (.ifCond .ne 11, 3) := by decide +kernel
theorem dX11_addConstructor_27 : decode cX11_addConstructor 27 = .ok (.new 80, 3) := by decide +kernel
theorem dX11_addConstructor_30 : decode cX11_addConstructor 30 = .ok (.dup, 1) := by decide +kernel
theorem dX11_addConstructor_31 : decode cX11_addConstructor 31 = .ok (.invokespecial 82, 3) := by decide +kernel
theorem dX11_addConstructor_34 : decode cX11_addConstructor 34 = .ok (.athrow, 1) := by decide +kernel
theorem dX11_addConstructor_35 : decode cX11_addConstructor 35 = .ok (.iload_n 2, 1) := by decide +kernel
theorem dX11_addConstructor_36 : decode cX11_addConstructor 36 = .ok (.iconst (-1), 1) := by decide +kernel
theorem dX11_addConstructor_37 : decode cX11_addConstructor 37 = .ok (.if_icmp .ne 16, 3) := by decide +kernel
theorem dX11_addConstructor_40 : decode cX11_addConstructor 40 = .ok (.iload_n 3, 1) := by decide +kernel
theorem dX11_addConstructor_41 : decode cX11_addConstructor 41 = .ok (.iconst (-1), 1) := by decide +kernel
theorem dX11_addConstructor_42 : decode cX11_addConstructor 42 = .ok (.if_icmp .eq 11, 3) := by decide +kernel
theorem dX11_addConstructor_45 : decode cX11_addConstructor 45 = .ok (.new 83, 3) := by decide +kernel
theorem dX11_addConstructor_48 : decode cX11_addConstructor 48 = .ok (.dup, 1) := by decide +kernel
theorem dX11_addConstructor_49 : decode cX11_addConstructor 49 = .ok (.invokespecial 85, 3) := by decide +kernel
theorem dX11_addConstructor_52 : decode cX11_addConstructor 52 = .ok (.athrow, 1) := by decide +kernel
theorem dX11_addConstructor_53 : decode cX11_addConstructor 53 = .ok (.aload_n 0, 1) := by decide +kernel
theorem dX11_addConstructor_54 : decode cX11_addConstructor 54 = .ok (.getfield 10, 3) := by decide +kernel
theorem dX11_addConstructor_57 : decode cX11_addConstructor 57 = .ok (.invokevirtual 86, 3) := by decide +kernel
theorem dX11_addConstructor_60 : decode cX11_addConstructor 60 = .ok (.bipush 10, 2) := by decide +kernel
theorem dX11_addConstructor_62 : decode cX11_addConstructor 62 = .ok (.if_icmp .ge 10, 3) := by decide +kernel
theorem dX11_addConstructor_65 : decode cX11_addConstructor 65 = .ok (.aload_n 0, 1) := by decide +kernel
theorem dX11_addConstructor_66 : decode cX11_addConstructor 66 = .ok (.getfield 51, 3) := by decide +kernel
theorem dX11_addConstructor_69 : decode cX11_addConstructor 69 = .ok (.ifCond .eq 11, 3) := by decide +kernel
theorem dX11_addConstructor_72 : decode cX11_addConstructor 72 = .ok (.new 67, 3) := by decide +kernel
theorem dX11_addConstructor_75 : decode cX11_addConstructor 75 = .ok (.dup, 1) := by decide +kernel
theorem dX11_addConstructor_76 : decode cX11_addConstructor 76 = .ok (.invokespecial 69, 3) := by decide +kernel
theorem dX11_addConstructor_79 : decode cX11_addConstructor 79 = .ok (.athrow, 1) := by decide +kernel
theorem dX11_addConstructor_80 : decode cX11_addConstructor 80 = .ok (.aload_n 0, 1) := by decide +kernel
theorem dX11_addConstructor_81 : decode cX11_addConstructor 81 = .ok (.getfield 10, 3) := by decide +kernel
theorem dX11_addConstructor_84 : decode cX11_addConstructor 84 = .ok (.iload_n 1, 1) := by decide +kernel
theorem dX11_addConstructor_85 : decode cX11_addConstructor 85 = .ok (.iload_n 2, 1) := by decide +kernel
theorem dX11_addConstructor_86 : decode cX11_addConstructor 86 = .ok (.iload_n 3, 1) := by decide +kernel
theorem dX11_addConstructor_87 : decode cX11_addConstructor 87 = .ok (.invokevirtual 89, 3) := by decide +kernel
theorem dX11_addConstructor_90 : decode cX11_addConstructor 90 = .ok (.ireturn, 1) := by decide +kernel
theorem dX11_term_0 : decode cX11_term 0 = .ok (.aload_n 0, 1) := by decide +kernel
theorem dX11_term_1 : decode cX11_term 1 = .ok (.getfield 10, 3) := by decide +kernel
theorem dX11_term_4 : decode cX11_term 4 = .ok (.iload_n 1, 1) := by decide +kernel
theorem dX11_term_5 : decode cX11_term 5 = .ok (.invokevirtual 93, 3) := by decide +kernel
theorem dX11_term_8 : decode cX11_term 8 = .ok (.ifCond .eq 16, 3) := by decide +kernel
theorem dX11_term_11 : decode cX11_term 11 = .ok (.aload_n 0, 1) := by decide +kernel
theorem dX11_term_12 : decode cX11_term 12 = .ok (.getfield 10, 3) := by decide +kernel
theorem dX11_term_15 : decode cX11_term 15 = .ok (.iload_n 1, 1) := by decide +kernel
theorem dX11_term_16 : decode cX11_term 16 = .ok (.iload_n 2, 1) := by decide +kernel
theorem dX11_term_17 : decode cX11_term 17 = .ok (.iload_n 3, 1) := by decide +kernel
theorem dX11_term_18 : decode cX11_term 18 = .ok (.invokevirtual 96, 3) := by decide +kernel
theorem dX11_term_21 : decode cX11_term 21 = .ok (.ifCond .ne 11, 3) := by decide +kernel
theorem dX11_term_24 : decode cX11_term 24 = .ok (.new 80, 3) := by decide +kernel
theorem dX11_term_27 : decode cX11_term 27 = .ok (.dup, 1) := by decide +kernel
theorem dX11_term_28 : decode cX11_term 28 = .ok (.invokespecial 82, 3) := by decide +kernel
theorem dX11_term_31 : decode cX11_term 31 = .ok (.athrow, 1) := by decide +kernel
theorem dX11_term_32 : decode cX11_term 32 = .ok (.aload_n 0, 1) := by decide +kernel
theorem dX11_term_33 : decode cX11_term 33 = .ok (.getfield 10, 3) := by decide +kernel
theorem dX11_term_36 : decode cX11_term 36 = .ok (.iload_n 1, 1) := by decide +kernel
theorem dX11_term_37 : decode cX11_term 37 = .ok (.iload_n 2, 1) := by decide +kernel
theorem dX11_term_38 : decode cX11_term 38 = .ok (.iload_n 3, 1) := by decide +kernel
theorem dX11_term_39 : decode cX11_term 39 = .ok (.invokevirtual 100, 3) := by decide +kernel
theorem dX11_term_42 : decode cX11_term 42 = .ok (.ifCond .ne 11, 3) := by decide +kernel
theorem dX11_term_45 : decode cX11_term 45 = .ok (.new 83, 3) := by decide +kernel
theorem dX11_term_48 : decode cX11_term 48 = .ok (.dup, 1) := by decide +kernel
theorem dX11_term_49 : decode cX11_term 49 = .ok (.invokespecial 85, 3) := by decide +kernel
theorem dX11_term_52 : decode cX11_term 52 = .ok (.athrow, 1) := by decide +kernel
theorem dX11_term_53 : decode cX11_term 53 = .ok (.aload_n 0, 1) := by decide +kernel
theorem dX11_term_54 : decode cX11_term 54 = .ok (.getfield 10, 3) := by decide +kernel
theorem dX11_term_57 : decode cX11_term 57 = .ok (.iload_n 1, 1) := by decide +kernel
theorem dX11_term_58 : decode cX11_term 58 = .ok (.iload_n 2, 1) := by decide +kernel
theorem dX11_term_59 : decode cX11_term 59 = .ok (.iload_n 3, 1) := by decide +kernel
theorem dX11_term_60 : decode cX11_term 60 = .ok (.invokevirtual 103, 3) := by decide +kernel
theorem dX11_term_63 : decode cX11_term 63 = .ok (.istore 4, 2) := by decide +kernel
theorem dX11_term_65 : decode cX11_term 65 = .ok (.iload 4, 2) := by decide +kernel
theorem dX11_term_67 : decode cX11_term 67 = .ok (.iconst (-1), 1) := by decide +kernel
theorem dX11_term_68 : decode cX11_term 68 = .ok (.if_icmp .ne 11, 3) := by decide +kernel
theorem dX11_term_71 : decode cX11_term 71 = .ok (.new 67, 3) := by decide +kernel
theorem dX11_term_74 : decode cX11_term 74 = .ok (.dup, 1) := by decide +kernel
theorem dX11_term_75 : decode cX11_term 75 = .ok (.invokespecial 69, 3) := by decide +kernel
theorem dX11_term_78 : decode cX11_term 78 = .ok (.athrow, 1) := by decide +kernel
theorem dX11_term_79 : decode cX11_term 79 = .ok (.iload 4, 2) := by decide +kernel
theorem dX11_term_81 : decode cX11_term 81 = .ok (.ireturn, 1) := by decide +kernel
theorem dX11_constructorOf_0 : decode cX11_constructorOf 0 = .ok (.aload_n 0, 1) := by decide +kernel
theorem dX11_constructorOf_1 : decode cX11_constructorOf 1 = .ok (.iload_n 1, 1) := by decide +kernel
theorem dX11_constructorOf_2 : decode cX11_constructorOf 2 = .ok (.invokevirtual 106, 3) := by decide +kernel
theorem dX11_constructorOf_5 : decode cX11_constructorOf 5 = .ok (.aload_n 0, 1) := by decide +kernel
theorem dX11_constructorOf_6 : decode cX11_constructorOf 6 = .ok (.getfield 10, 3) := by decide +kernel
theorem dX11_constructorOf_9 : decode cX11_constructorOf 9 = .ok (.iload_n 1, 1) := by decide +kernel
theorem dX11_constructorOf_10 : decode cX11_constructorOf 10 = .ok (.invokevirtual 110, 3) := by decide +kernel
theorem dX11_constructorOf_13 : decode cX11_constructorOf 13 = .ok (.ireturn, 1) := by decide +kernel
theorem dX11_partOf_0 : decode cX11_partOf 0 = .ok (.aload_n 0, 1) := by decide +kernel
theorem dX11_partOf_1 : decode cX11_partOf 1 = .ok (.iload_n 1, 1) := by decide +kernel
theorem dX11_partOf_2 : decode cX11_partOf 2 = .ok (.invokevirtual 106, 3) := by decide +kernel
theorem dX11_partOf_5 : decode cX11_partOf 5 = .ok (.iload_n 2, 1) := by decide +kernel
theorem dX11_partOf_6 : decode cX11_partOf 6 = .ok (.ifCond .lt 22, 3) := by decide +kernel
theorem dX11_partOf_9 : decode cX11_partOf 9 = .ok (.iload_n 2, 1) := by decide +kernel
theorem dX11_partOf_10 : decode cX11_partOf 10 = .ok (.aload_n 0, 1) := by decide +kernel
theorem dX11_partOf_11 : decode cX11_partOf 11 = .ok (.getfield 10, 3) := by decide +kernel
theorem dX11_partOf_14 : decode cX11_partOf 14 = .ok (.aload_n 0, 1) := by decide +kernel
theorem dX11_partOf_15 : decode cX11_partOf 15 = .ok (.getfield 10, 3) := by decide +kernel
theorem dX11_partOf_18 : decode cX11_partOf 18 = .ok (.iload_n 1, 1) := by decide +kernel
theorem dX11_partOf_19 : decode cX11_partOf 19 = .ok (.invokevirtual 110, 3) := by decide +kernel
theorem dX11_partOf_22 : decode cX11_partOf 22 = .ok (.invokevirtual 114, 3) := by decide +kernel
theorem dX11_partOf_25 : decode cX11_partOf 25 = .ok (.if_icmp .lt 11, 3) := by decide +kernel
theorem dX11_partOf_28 : decode cX11_partOf 28 = .ok (.new 117, 3) := by decide +kernel
theorem dX11_partOf_31 : decode cX11_partOf 31 = .ok (.dup, 1) := by decide +kernel
theorem dX11_partOf_32 : decode cX11_partOf 32 = .ok (.invokespecial 119, 3) := by decide +kernel
theorem dX11_partOf_35 : decode cX11_partOf 35 = .ok (.athrow, 1) := by decide +kernel
theorem dX11_partOf_36 : decode cX11_partOf 36 = .ok (.aload_n 0, 1) := by decide +kernel
theorem dX11_partOf_37 : decode cX11_partOf 37 = .ok (.getfield 10, 3) := by decide +kernel
theorem dX11_partOf_40 : decode cX11_partOf 40 = .ok (.iload_n 1, 1) := by decide +kernel
theorem dX11_partOf_41 : decode cX11_partOf 41 = .ok (.iload_n 2, 1) := by decide +kernel
theorem dX11_partOf_42 : decode cX11_partOf 42 = .ok (.invokevirtual 120, 3) := by decide +kernel
theorem dX11_partOf_45 : decode cX11_partOf 45 = .ok (.ireturn, 1) := by decide +kernel
theorem dX11_sizeOf_0 : decode cX11_sizeOf 0 = .ok (.aload_n 0, 1) := by decide +kernel
theorem dX11_sizeOf_1 : decode cX11_sizeOf 1 = .ok (.iload_n 1, 1) := by decide +kernel
theorem dX11_sizeOf_2 : decode cX11_sizeOf 2 = .ok (.invokevirtual 106, 3) := by decide +kernel
theorem dX11_sizeOf_5 : decode cX11_sizeOf 5 = .ok (.aload_n 0, 1) := by decide +kernel
theorem dX11_sizeOf_6 : decode cX11_sizeOf 6 = .ok (.getfield 10, 3) := by decide +kernel
theorem dX11_sizeOf_9 : decode cX11_sizeOf 9 = .ok (.iload_n 1, 1) := by decide +kernel
theorem dX11_sizeOf_10 : decode cX11_sizeOf 10 = .ok (.invokevirtual 124, 3) := by decide +kernel
theorem dX11_sizeOf_13 : decode cX11_sizeOf 13 = .ok (.lreturn, 1) := by decide +kernel
theorem dX11_addPredicate_0 : decode cX11_addPredicate 0 = .ok (.aload_n 0, 1) := by decide +kernel
theorem dX11_addPredicate_1 : decode cX11_addPredicate 1 = .ok (.iload_n 1, 1) := by decide +kernel
theorem dX11_addPredicate_2 : decode cX11_addPredicate 2 = .ok (.invokevirtual 77, 3) := by decide +kernel
theorem dX11_addPredicate_5 : decode cX11_addPredicate 5 = .ok (.ifCond .eq 19, 3) := by decide +kernel
theorem dX11_addPredicate_8 : decode cX11_addPredicate 8 = .ok (.aload_n 0, 1) := by decide +kernel
theorem dX11_addPredicate_9 : decode cX11_addPredicate 9 = .ok (.iload_n 2, 1) := by decide +kernel
theorem dX11_addPredicate_10 : decode cX11_addPredicate 10 = .ok (.invokevirtual 77, 3) := by decide +kernel
theorem dX11_addPredicate_13 : decode cX11_addPredicate 13 = .ok (.ifCond .eq 11, 3) := by decide +kernel
theorem dX11_addPredicate_16 : decode cX11_addPredicate 16 = .ok (.aload_n 0, 1) := by decide +kernel
theorem dX11_addPredicate_17 : decode cX11_addPredicate 17 = .ok (.iload_n 3, 1) := by decide +kernel
theorem dX11_addPredicate_18 : decode cX11_addPredicate 18 = .ok (.invokevirtual 77, 3) := by decide +kernel
theorem dX11_addPredicate_21 : decode cX11_addPredicate 21 = .ok (.ifCond .ne 11, 3) := by decide +kernel
theorem dX11_addPredicate_24 : decode cX11_addPredicate 24 = .ok (.new 80, 3) := by decide +kernel
theorem dX11_addPredicate_27 : decode cX11_addPredicate 27 = .ok (.dup, 1) := by decide +kernel
theorem dX11_addPredicate_28 : decode cX11_addPredicate 28 = .ok (.invokespecial 82, 3) := by decide +kernel
theorem dX11_addPredicate_31 : decode cX11_addPredicate 31 = .ok (.athrow, 1) := by decide +kernel
theorem dX11_addPredicate_32 : decode cX11_addPredicate 32 = .ok (.iload_n 1, 1) := by decide +kernel
theorem dX11_addPredicate_33 : decode cX11_addPredicate 33 = .ok (.iconst (-1), 1) := by decide +kernel
theorem dX11_addPredicate_34 : decode cX11_addPredicate 34 = .ok (.if_icmp .ne 8, 3) := by decide +kernel
theorem dX11_addPredicate_37 : decode cX11_addPredicate 37 = .ok (.iload_n 2, 1) := by decide +kernel
theorem dX11_addPredicate_38 : decode cX11_addPredicate 38 = .ok (.iconst (-1), 1) := by decide +kernel
theorem dX11_addPredicate_39 : decode cX11_addPredicate 39 = .ok (.if_icmp .ne 13, 3) := by decide +kernel
theorem dX11_addPredicate_42 : decode cX11_addPredicate 42 = .ok (.iload_n 2, 1) := by decide +kernel
theorem dX11_addPredicate_43 : decode cX11_addPredicate 43 = .ok (.iconst (-1), 1) := by decide +kernel
theorem dX11_addPredicate_44 : decode cX11_addPredicate 44 = .ok (.if_icmp .ne 16, 3) := by decide +kernel
theorem dX11_addPredicate_47 : decode cX11_addPredicate 47 = .ok (.iload_n 3, 1) := by decide +kernel
theorem dX11_addPredicate_48 : decode cX11_addPredicate 48 = .ok (.iconst (-1), 1) := by decide +kernel
theorem dX11_addPredicate_49 : decode cX11_addPredicate 49 = .ok (.if_icmp .eq 11, 3) := by decide +kernel
theorem dX11_addPredicate_52 : decode cX11_addPredicate 52 = .ok (.new 83, 3) := by decide +kernel
theorem dX11_addPredicate_55 : decode cX11_addPredicate 55 = .ok (.dup, 1) := by decide +kernel
theorem dX11_addPredicate_56 : decode cX11_addPredicate 56 = .ok (.invokespecial 85, 3) := by decide +kernel
theorem dX11_addPredicate_59 : decode cX11_addPredicate 59 = .ok (.athrow, 1) := by decide +kernel
theorem dX11_addPredicate_60 : decode cX11_addPredicate 60 = .ok (.aload_n 0, 1) := by decide +kernel
theorem dX11_addPredicate_61 : decode cX11_addPredicate 61 = .ok (.getfield 19, 3) := by decide +kernel
theorem dX11_addPredicate_64 : decode cX11_addPredicate 64 = .ok (.invokevirtual 128, 3) := by decide +kernel
theorem dX11_addPredicate_67 : decode cX11_addPredicate 67 = .ok (.iconst 5, 1) := by decide +kernel
theorem dX11_addPredicate_68 : decode cX11_addPredicate 68 = .ok (.if_icmp .ge 10, 3) := by decide +kernel
theorem dX11_addPredicate_71 : decode cX11_addPredicate 71 = .ok (.aload_n 0, 1) := by decide +kernel
theorem dX11_addPredicate_72 : decode cX11_addPredicate 72 = .ok (.getfield 51, 3) := by decide +kernel
theorem dX11_addPredicate_75 : decode cX11_addPredicate 75 = .ok (.ifCond .eq 11, 3) := by decide +kernel
theorem dX11_addPredicate_78 : decode cX11_addPredicate 78 = .ok (.new 67, 3) := by decide +kernel
theorem dX11_addPredicate_81 : decode cX11_addPredicate 81 = .ok (.dup, 1) := by decide +kernel
theorem dX11_addPredicate_82 : decode cX11_addPredicate 82 = .ok (.invokespecial 69, 3) := by decide +kernel
theorem dX11_addPredicate_85 : decode cX11_addPredicate 85 = .ok (.athrow, 1) := by decide +kernel
theorem dX11_addPredicate_86 : decode cX11_addPredicate 86 = .ok (.aload_n 0, 1) := by decide +kernel
theorem dX11_addPredicate_87 : decode cX11_addPredicate 87 = .ok (.getfield 19, 3) := by decide +kernel
theorem dX11_addPredicate_90 : decode cX11_addPredicate 90 = .ok (.iload_n 1, 1) := by decide +kernel
theorem dX11_addPredicate_91 : decode cX11_addPredicate 91 = .ok (.iload_n 2, 1) := by decide +kernel
theorem dX11_addPredicate_92 : decode cX11_addPredicate 92 = .ok (.iload_n 3, 1) := by decide +kernel
theorem dX11_addPredicate_93 : decode cX11_addPredicate 93 = .ok (.invokevirtual 131, 3) := by decide +kernel
theorem dX11_addPredicate_96 : decode cX11_addPredicate 96 = .ok (.ireturn, 1) := by decide +kernel
theorem dX11_addMode_0 : decode cX11_addMode 0 = .ok (.aload_n 0, 1) := by decide +kernel
theorem dX11_addMode_1 : decode cX11_addMode 1 = .ok (.getfield 19, 3) := by decide +kernel
theorem dX11_addMode_4 : decode cX11_addMode 4 = .ok (.iload_n 1, 1) := by decide +kernel
theorem dX11_addMode_5 : decode cX11_addMode 5 = .ok (.invokevirtual 134, 3) := by decide +kernel
theorem dX11_addMode_8 : decode cX11_addMode 8 = .ok (.astore 4, 2) := by decide +kernel
theorem dX11_addMode_10 : decode cX11_addMode 10 = .ok (.aload 4, 2) := by decide +kernel
theorem dX11_addMode_12 : decode cX11_addMode 12 = .ok (.ifnonnull 11, 3) := by decide +kernel
theorem dX11_addMode_15 : decode cX11_addMode 15 = .ok (.new 80, 3) := by decide +kernel
theorem dX11_addMode_18 : decode cX11_addMode 18 = .ok (.dup, 1) := by decide +kernel
theorem dX11_addMode_19 : decode cX11_addMode 19 = .ok (.invokespecial 82, 3) := by decide +kernel
theorem dX11_addMode_22 : decode cX11_addMode 22 = .ok (.athrow, 1) := by decide +kernel
theorem dX11_addMode_23 : decode cX11_addMode 23 = .ok (.iload_n 2, 1) := by decide +kernel
theorem dX11_addMode_24 : decode cX11_addMode 24 = .ok (.aload 4, 2) := by decide +kernel
theorem dX11_addMode_26 : decode cX11_addMode 26 = .ok (.invokevirtual 138, 3) := by decide +kernel
theorem dX11_addMode_29 : decode cX11_addMode 29 = .ok (.iconst (-1), 1) := by decide +kernel
theorem dX11_addMode_30 : decode cX11_addMode 30 = .ok (.ixor, 1) := by decide +kernel
theorem dX11_addMode_31 : decode cX11_addMode 31 = .ok (.iand, 1) := by decide +kernel
theorem dX11_addMode_32 : decode cX11_addMode 32 = .ok (.ifCond .ne 10, 3) := by decide +kernel
theorem dX11_addMode_35 : decode cX11_addMode 35 = .ok (.iload_n 3, 1) := by decide +kernel
theorem dX11_addMode_36 : decode cX11_addMode 36 = .ok (.invokestatic 143, 3) := by decide +kernel
theorem dX11_addMode_39 : decode cX11_addMode 39 = .ok (.ifCond .ne 11, 3) := by decide +kernel
theorem dX11_addMode_42 : decode cX11_addMode 42 = .ok (.new 83, 3) := by decide +kernel
