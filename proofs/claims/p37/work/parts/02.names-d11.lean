theorem dX9_set_27 : decode cX9_set 27 = .ok (.aload_n 0, 1) := by decide +kernel
theorem dX9_set_28 : decode cX9_set 28 = .ok (.getfield 9, 3) := by decide +kernel
theorem dX9_set_31 : decode cX9_set 31 = .ok (.if_icmp .ge 7, 3) := by decide +kernel
theorem dX9_set_34 : decode cX9_set 34 = .ok (.iconst 1, 1) := by decide +kernel
theorem dX9_set_35 : decode cX9_set 35 = .ok (.goto 4, 3) := by decide +kernel
theorem dX9_set_38 : decode cX9_set 38 = .ok (.iconst 0, 1) := by decide +kernel
theorem dX9_set_39 : decode cX9_set 39 = .ok (.istore 5, 2) := by decide +kernel
theorem dX9_set_41 : decode cX9_set 41 = .ok (.iload 5, 2) := by decide +kernel
theorem dX9_set_43 : decode cX9_set 43 = .ok (.ifCond .eq 26, 3) := by decide +kernel
theorem dX9_set_46 : decode cX9_set 46 = .ok (.iload 4, 2) := by decide +kernel
theorem dX9_set_48 : decode cX9_set 48 = .ok (.ifCond .lt 21, 3) := by decide +kernel
theorem dX9_set_51 : decode cX9_set 51 = .ok (.iload 4, 2) := by decide +kernel
theorem dX9_set_53 : decode cX9_set 53 = .ok (.aload_n 0, 1) := by decide +kernel
theorem dX9_set_54 : decode cX9_set 54 = .ok (.getfield 16, 3) := by decide +kernel
theorem dX9_set_57 : decode cX9_set 57 = .ok (.arraylength, 1) := by decide +kernel
theorem dX9_set_58 : decode cX9_set 58 = .ok (.if_icmp .ge 11, 3) := by decide +kernel
theorem dX9_set_61 : decode cX9_set 61 = .ok (.aload_n 0, 1) := by decide +kernel
theorem dX9_set_62 : decode cX9_set 62 = .ok (.getfield 16, 3) := by decide +kernel
theorem dX9_set_65 : decode cX9_set 65 = .ok (.iload 4, 2) := by decide +kernel
theorem dX9_set_67 : decode cX9_set 67 = .ok (.iload_n 3, 1) := by decide +kernel
theorem dX9_set_68 : decode cX9_set 68 = .ok (.iastore, 1) := by decide +kernel
theorem dX9_set_69 : decode cX9_set 69 = .ok (.return_, 1) := by decide +kernel
theorem dX9_add_0 : decode cX9_add 0 = .ok (.aload_n 0, 1) := by decide +kernel
theorem dX9_add_1 : decode cX9_add 1 = .ok (.getfield 20, 3) := by decide +kernel
theorem dX9_add_4 : decode cX9_add 4 = .ok (.aload_n 0, 1) := by decide +kernel
theorem dX9_add_5 : decode cX9_add 5 = .ok (.getfield 9, 3) := by decide +kernel
theorem dX9_add_8 : decode cX9_add 8 = .ok (.imul, 1) := by decide +kernel
theorem dX9_add_9 : decode cX9_add 9 = .ok (.istore 4, 2) := by decide +kernel
theorem dX9_add_11 : decode cX9_add 11 = .ok (.iload 4, 2) := by decide +kernel
theorem dX9_add_13 : decode cX9_add 13 = .ok (.aload_n 0, 1) := by decide +kernel
theorem dX9_add_14 : decode cX9_add 14 = .ok (.getfield 9, 3) := by decide +kernel
theorem dX9_add_17 : decode cX9_add 17 = .ok (.iadd, 1) := by decide +kernel
theorem dX9_add_18 : decode cX9_add 18 = .ok (.istore 5, 2) := by decide +kernel
theorem dX9_add_20 : decode cX9_add 20 = .ok (.iload 5, 2) := by decide +kernel
theorem dX9_add_22 : decode cX9_add 22 = .ok (.aload_n 0, 1) := by decide +kernel
theorem dX9_add_23 : decode cX9_add 23 = .ok (.getfield 16, 3) := by decide +kernel
theorem dX9_add_26 : decode cX9_add 26 = .ok (.arraylength, 1) := by decide +kernel
theorem dX9_add_27 : decode cX9_add 27 = .ok (.if_icmp .le 25, 3) := by decide +kernel
theorem dX9_add_30 : decode cX9_add 30 = .ok (.iload 5, 2) := by decide +kernel
theorem dX9_add_32 : decode cX9_add 32 = .ok (.ldc 15, 2) := by decide +kernel
theorem dX9_add_34 : decode cX9_add 34 = .ok (.if_icmp .ge 18, 3) := by decide +kernel
theorem dX9_add_37 : decode cX9_add 37 = .ok (.aload_n 0, 1) := by decide +kernel
theorem dX9_add_38 : decode cX9_add 38 = .ok (.aload_n 0, 1) := by decide +kernel
theorem dX9_add_39 : decode cX9_add 39 = .ok (.getfield 16, 3) := by decide +kernel
theorem dX9_add_42 : decode cX9_add 42 = .ok (.iconst 2, 1) := by decide +kernel
theorem dX9_add_43 : decode cX9_add 43 = .ok (.iload 5, 2) := by decide +kernel
theorem dX9_add_45 : decode cX9_add 45 = .ok (.imul, 1) := by decide +kernel
theorem dX9_add_46 : decode cX9_add 46 = .ok (.invokestatic 23, 3) := by decide +kernel
theorem dX9_add_49 : decode cX9_add 49 = .ok (.putfield 16, 3) := by decide +kernel
theorem dX9_add_52 : decode cX9_add 52 = .ok (.iload 4, 2) := by decide +kernel
theorem dX9_add_54 : decode cX9_add 54 = .ok (.ifCond .lt 13, 3) := by decide +kernel
theorem dX9_add_57 : decode cX9_add 57 = .ok (.iload 5, 2) := by decide +kernel
theorem dX9_add_59 : decode cX9_add 59 = .ok (.aload_n 0, 1) := by decide +kernel
theorem dX9_add_60 : decode cX9_add 60 = .ok (.getfield 16, 3) := by decide +kernel
theorem dX9_add_63 : decode cX9_add 63 = .ok (.arraylength, 1) := by decide +kernel
theorem dX9_add_64 : decode cX9_add 64 = .ok (.if_icmp .le 5, 3) := by decide +kernel
theorem dX9_add_67 : decode cX9_add 67 = .ok (.iconst (-1), 1) := by decide +kernel
theorem dX9_add_68 : decode cX9_add 68 = .ok (.ireturn, 1) := by decide +kernel
theorem dX9_add_69 : decode cX9_add 69 = .ok (.aload_n 0, 1) := by decide +kernel
theorem dX9_add_70 : decode cX9_add 70 = .ok (.getfield 16, 3) := by decide +kernel
theorem dX9_add_73 : decode cX9_add 73 = .ok (.iload 4, 2) := by decide +kernel
theorem dX9_add_75 : decode cX9_add 75 = .ok (.iload 5, 2) := by decide +kernel
theorem dX9_add_77 : decode cX9_add 77 = .ok (.iconst (-1), 1) := by decide +kernel
theorem dX9_add_78 : decode cX9_add 78 = .ok (.invokestatic 29, 3) := by decide +kernel
theorem dX9_add_81 : decode cX9_add 81 = .ok (.aload_n 0, 1) := by decide +kernel
theorem dX9_add_82 : decode cX9_add 82 = .ok (.dup, 1) := by decide +kernel
theorem dX9_add_83 : decode cX9_add 83 = .ok (.getfield 20, 3) := by decide +kernel
theorem dX9_add_86 : decode cX9_add 86 = .ok (.iconst 1, 1) := by decide +kernel
theorem dX9_add_87 : decode cX9_add 87 = .ok (.iadd, 1) := by decide +kernel
theorem dX9_add_88 : decode cX9_add 88 = .ok (.putfield 20, 3) := by decide +kernel
theorem dX9_add_91 : decode cX9_add 91 = .ok (.aload_n 0, 1) := by decide +kernel
theorem dX9_add_92 : decode cX9_add 92 = .ok (.aload_n 0, 1) := by decide +kernel
theorem dX9_add_93 : decode cX9_add 93 = .ok (.getfield 20, 3) := by decide +kernel
theorem dX9_add_96 : decode cX9_add 96 = .ok (.iconst 1, 1) := by decide +kernel
theorem dX9_add_97 : decode cX9_add 97 = .ok (.isub, 1) := by decide +kernel
theorem dX9_add_98 : decode cX9_add 98 = .ok (.iconst 0, 1) := by decide +kernel
theorem dX9_add_99 : decode cX9_add 99 = .ok (.iload_n 1, 1) := by decide +kernel
theorem dX9_add_100 : decode cX9_add 100 = .ok (.invokevirtual 33, 3) := by decide +kernel
theorem dX9_add_103 : decode cX9_add 103 = .ok (.aload_n 0, 1) := by decide +kernel
theorem dX9_add_104 : decode cX9_add 104 = .ok (.aload_n 0, 1) := by decide +kernel
theorem dX9_add_105 : decode cX9_add 105 = .ok (.getfield 20, 3) := by decide +kernel
theorem dX9_add_108 : decode cX9_add 108 = .ok (.iconst 1, 1) := by decide +kernel
theorem dX9_add_109 : decode cX9_add 109 = .ok (.isub, 1) := by decide +kernel
theorem dX9_add_110 : decode cX9_add 110 = .ok (.iconst 1, 1) := by decide +kernel
theorem dX9_add_111 : decode cX9_add 111 = .ok (.iload_n 2, 1) := by decide +kernel
theorem dX9_add_112 : decode cX9_add 112 = .ok (.invokevirtual 33, 3) := by decide +kernel
theorem dX9_add_115 : decode cX9_add 115 = .ok (.aload_n 0, 1) := by decide +kernel
theorem dX9_add_116 : decode cX9_add 116 = .ok (.aload_n 0, 1) := by decide +kernel
theorem dX9_add_117 : decode cX9_add 117 = .ok (.getfield 20, 3) := by decide +kernel
theorem dX9_add_120 : decode cX9_add 120 = .ok (.iconst 1, 1) := by decide +kernel
theorem dX9_add_121 : decode cX9_add 121 = .ok (.isub, 1) := by decide +kernel
theorem dX9_add_122 : decode cX9_add 122 = .ok (.iconst 2, 1) := by decide +kernel
theorem dX9_add_123 : decode cX9_add 123 = .ok (.iload_n 3, 1) := by decide +kernel
theorem dX9_add_124 : decode cX9_add 124 = .ok (.invokevirtual 33, 3) := by decide +kernel
theorem dX9_add_127 : decode cX9_add 127 = .ok (.aload_n 0, 1) := by decide +kernel
theorem dX9_add_128 : decode cX9_add 128 = .ok (.getfield 20, 3) := by decide +kernel
theorem dX9_add_131 : decode cX9_add 131 = .ok (.iconst 1, 1) := by decide +kernel
theorem dX9_add_132 : decode cX9_add 132 = .ok (.isub, 1) := by decide +kernel
theorem dX9_add_133 : decode cX9_add 133 = .ok (.ireturn, 1) := by decide +kernel
theorem dX9_cut_0 : decode cX9_cut 0 = .ok (.iload_n 1, 1) := by decide +kernel
theorem dX9_cut_1 : decode cX9_cut 1 = .ok (.ifCond .lt 16, 3) := by decide +kernel
theorem dX9_cut_4 : decode cX9_cut 4 = .ok (.iload_n 1, 1) := by decide +kernel
theorem dX9_cut_5 : decode cX9_cut 5 = .ok (.aload_n 0, 1) := by decide +kernel
theorem dX9_cut_6 : decode cX9_cut 6 = .ok (.getfield 20, 3) := by decide +kernel
theorem dX9_cut_9 : decode cX9_cut 9 = .ok (.if_icmp .ge 8, 3) := by decide +kernel
theorem dX9_cut_12 : decode cX9_cut 12 = .ok (.aload_n 0, 1) := by decide +kernel
theorem dX9_cut_13 : decode cX9_cut 13 = .ok (.iload_n 1, 1) := by decide +kernel
theorem dX9_cut_14 : decode cX9_cut 14 = .ok (.putfield 20, 3) := by decide +kernel
theorem dX9_cut_17 : decode cX9_cut 17 = .ok (.return_, 1) := by decide +kernel
theorem dX10_init_0 : decode cX10_init 0 = .ok (.aload_n 0, 1) := by decide +kernel
theorem dX10_init_1 : decode cX10_init 1 = .ok (.invokespecial 3, 3) := by decide +kernel
theorem dX10_init_4 : decode cX10_init 4 = .ok (.aload_n 0, 1) := by decide +kernel
theorem dX10_init_5 : decode cX10_init 5 = .ok (.iconst 0, 1) := by decide +kernel
theorem dX10_init_6 : decode cX10_init 6 = .ok (.putfield 9, 3) := by decide +kernel
theorem dX10_init_9 : decode cX10_init 9 = .ok (.aload_n 0, 1) := by decide +kernel
theorem dX10_init_10 : decode cX10_init 10 = .ok (.new 15, 3) := by decide +kernel
theorem dX10_init_13 : decode cX10_init 13 = .ok (.dup, 1) := by decide +kernel
theorem dX10_init_14 : decode cX10_init 14 = .ok (.iconst 3, 1) := by decide +kernel
theorem dX10_init_15 : decode cX10_init 15 = .ok (.bipush 10, 2) := by decide +kernel
theorem dX10_init_17 : decode cX10_init 17 = .ok (.invokespecial 17, 3) := by decide +kernel
theorem dX10_init_20 : decode cX10_init 20 = .ok (.putfield 20, 3) := by decide +kernel
theorem dX10_init_23 : decode cX10_init 23 = .ok (.aload_n 0, 1) := by decide +kernel
theorem dX10_init_24 : decode cX10_init 24 = .ok (.new 15, 3) := by decide +kernel
theorem dX10_init_27 : decode cX10_init 27 = .ok (.dup, 1) := by decide +kernel
theorem dX10_init_28 : decode cX10_init 28 = .ok (.iconst 4, 1) := by decide +kernel
theorem dX10_init_29 : decode cX10_init 29 = .ok (.sipush 200, 3) := by decide +kernel
theorem dX10_init_32 : decode cX10_init 32 = .ok (.invokespecial 17, 3) := by decide +kernel
theorem dX10_init_35 : decode cX10_init 35 = .ok (.putfield 24, 3) := by decide +kernel
theorem dX10_init_38 : decode cX10_init 38 = .ok (.aload_n 0, 1) := by decide +kernel
theorem dX10_init_39 : decode cX10_init 39 = .ok (.new 15, 3) := by decide +kernel
theorem dX10_init_42 : decode cX10_init 42 = .ok (.dup, 1) := by decide +kernel
theorem dX10_init_43 : decode cX10_init 43 = .ok (.iconst 1, 1) := by decide +kernel
theorem dX10_init_44 : decode cX10_init 44 = .ok (.bipush 64, 2) := by decide +kernel
theorem dX10_init_46 : decode cX10_init 46 = .ok (.invokespecial 17, 3) := by decide +kernel
theorem dX10_init_49 : decode cX10_init 49 = .ok (.putfield 27, 3) := by decide +kernel
theorem dX10_init_52 : decode cX10_init 52 = .ok (.iconst 0, 1) := by decide +kernel
theorem dX10_init_53 : decode cX10_init 53 = .ok (.istore_n 1, 1) := by decide +kernel
theorem dX10_init_54 : decode cX10_init 54 = .ok (.iload_n 1, 1) := by decide +kernel
theorem dX10_init_55 : decode cX10_init 55 = .ok (.bipush 64, 2) := by decide +kernel
theorem dX10_init_57 : decode cX10_init 57 = .ok (.if_icmp .ge 20, 3) := by decide +kernel
theorem dX10_init_60 : decode cX10_init 60 = .ok (.aload_n 0, 1) := by decide +kernel
theorem dX10_init_61 : decode cX10_init 61 = .ok (.getfield 27, 3) := by decide +kernel
theorem dX10_init_64 : decode cX10_init 64 = .ok (.iconst (-1), 1) := by decide +kernel
theorem dX10_init_65 : decode cX10_init 65 = .ok (.iconst (-1), 1) := by decide +kernel
theorem dX10_init_66 : decode cX10_init 66 = .ok (.iconst (-1), 1) := by decide +kernel
theorem dX10_init_67 : decode cX10_init 67 = .ok (.invokevirtual 30, 3) := by decide +kernel
theorem dX10_init_70 : decode cX10_init 70 = .ok (.pop, 1) := by decide +kernel
theorem dX10_init_71 : decode cX10_init 71 = .ok (.iinc 1 1, 3) := by decide +kernel
theorem dX10_init_74 : decode cX10_init 74 = .ok (.goto (-20), 3) := by decide +kernel
theorem dX10_init_77 : decode cX10_init 77 = .ok (.aload_n 0, 1) := by decide +kernel
theorem dX10_init_78 : decode cX10_init 78 = .ok (.sipush 200, 3) := by decide +kernel
theorem dX10_init_81 : decode cX10_init 81 = .ok (.newarray .long, 2) := by decide +kernel
theorem dX10_init_83 : decode cX10_init 83 = .ok (.putfield 34, 3) := by decide +kernel
theorem dX10_init_86 : decode cX10_init 86 = .ok (.return_, 1) := by decide +kernel
theorem dX10_typeCount_0 : decode cX10_typeCount 0 = .ok (.aload_n 0, 1) := by decide +kernel
theorem dX10_typeCount_1 : decode cX10_typeCount 1 = .ok (.getfield 9, 3) := by decide +kernel
theorem dX10_typeCount_4 : decode cX10_typeCount 4 = .ok (.ireturn, 1) := by decide +kernel
theorem dX10_constructorCount_0 : decode cX10_constructorCount 0 = .ok (.aload_n 0, 1) := by decide +kernel
theorem dX10_constructorCount_1 : decode cX10_constructorCount 1 = .ok (.getfield 20, 3) := by decide +kernel
theorem dX10_constructorCount_4 : decode cX10_constructorCount 4 = .ok (.invokevirtual 38, 3) := by decide +kernel
theorem dX10_constructorCount_7 : decode cX10_constructorCount 7 = .ok (.ireturn, 1) := by decide +kernel
theorem dX10_termCount_0 : decode cX10_termCount 0 = .ok (.aload_n 0, 1) := by decide +kernel
theorem dX10_termCount_1 : decode cX10_termCount 1 = .ok (.getfield 24, 3) := by decide +kernel
theorem dX10_termCount_4 : decode cX10_termCount 4 = .ok (.invokevirtual 38, 3) := by decide +kernel
theorem dX10_termCount_7 : decode cX10_termCount 7 = .ok (.ireturn, 1) := by decide +kernel
theorem dX10_hasType_0 : decode cX10_hasType 0 = .ok (.iload_n 1, 1) := by decide +kernel
theorem dX10_hasType_1 : decode cX10_hasType 1 = .ok (.ifCond .lt 15, 3) := by decide +kernel
theorem dX10_hasType_4 : decode cX10_hasType 4 = .ok (.iload_n 1, 1) := by decide +kernel
theorem dX10_hasType_5 : decode cX10_hasType 5 = .ok (.aload_n 0, 1) := by decide +kernel
theorem dX10_hasType_6 : decode cX10_hasType 6 = .ok (.getfield 9, 3) := by decide +kernel
theorem dX10_hasType_9 : decode cX10_hasType 9 = .ok (.if_icmp .ge 7, 3) := by decide +kernel
theorem dX10_hasType_12 : decode cX10_hasType 12 = .ok (.iconst 1, 1) := by decide +kernel
theorem dX10_hasType_13 : decode cX10_hasType 13 = .ok (.goto 4, 3) := by decide +kernel
theorem dX10_hasType_16 : decode cX10_hasType 16 = .ok (.iconst 0, 1) := by decide +kernel
theorem dX10_hasType_17 : decode cX10_hasType 17 = .ok (.ireturn, 1) := by decide +kernel
theorem dX10_hasConstructor_0 : decode cX10_hasConstructor 0 = .ok (.iload_n 1, 1) := by decide +kernel
theorem dX10_hasConstructor_1 : decode cX10_hasConstructor 1 = .ok (.ifCond .lt 18, 3) := by decide +kernel
theorem dX10_hasConstructor_4 : decode cX10_hasConstructor 4 = .ok (.iload_n 1, 1) := by decide +kernel
theorem dX10_hasConstructor_5 : decode cX10_hasConstructor 5 = .ok (.aload_n 0, 1) := by decide +kernel
theorem dX10_hasConstructor_6 : decode cX10_hasConstructor 6 = .ok (.getfield 20, 3) := by decide +kernel
theorem dX10_hasConstructor_9 : decode cX10_hasConstructor 9 = .ok (.invokevirtual 38, 3) := by decide +kernel
theorem dX10_hasConstructor_12 : decode cX10_hasConstructor 12 = .ok (.if_icmp .ge 7, 3) := by decide +kernel
theorem dX10_hasConstructor_15 : decode cX10_hasConstructor 15 = .ok (.iconst 1, 1) := by decide +kernel
theorem dX10_hasConstructor_16 : decode cX10_hasConstructor 16 = .ok (.goto 4, 3) := by decide +kernel
theorem dX10_hasConstructor_19 : decode cX10_hasConstructor 19 = .ok (.iconst 0, 1) := by decide +kernel
theorem dX10_hasConstructor_20 : decode cX10_hasConstructor 20 = .ok (.ireturn, 1) := by decide +kernel
theorem dX10_hasTerm_0 : decode cX10_hasTerm 0 = .ok (.iload_n 1, 1) := by decide +kernel
theorem dX10_hasTerm_1 : decode cX10_hasTerm 1 = .ok (.ifCond .lt 18, 3) := by decide +kernel
theorem dX10_hasTerm_4 : decode cX10_hasTerm 4 = .ok (.iload_n 1, 1) := by decide +kernel
theorem dX10_hasTerm_5 : decode cX10_hasTerm 5 = .ok (.aload_n 0, 1) := by decide +kernel
theorem dX10_hasTerm_6 : decode cX10_hasTerm 6 = .ok (.getfield 24, 3) := by decide +kernel
theorem dX10_hasTerm_9 : decode cX10_hasTerm 9 = .ok (.invokevirtual 38, 3) := by decide +kernel
theorem dX10_hasTerm_12 : decode cX10_hasTerm 12 = .ok (.if_icmp .ge 7, 3) := by decide +kernel
theorem dX10_hasTerm_15 : decode cX10_hasTerm 15 = .ok (.iconst 1, 1) := by decide +kernel
theorem dX10_hasTerm_16 : decode cX10_hasTerm 16 = .ok (.goto 4, 3) := by decide +kernel
theorem dX10_hasTerm_19 : decode cX10_hasTerm 19 = .ok (.iconst 0, 1) := by decide +kernel
theorem dX10_hasTerm_20 : decode cX10_hasTerm 20 = .ok (.ireturn, 1) := by decide +kernel
theorem dX10_newType_0 : decode cX10_newType 0 = .ok (.aload_n 0, 1) := by decide +kernel
theorem dX10_newType_1 : decode cX10_newType 1 = .ok (.dup, 1) := by decide +kernel
theorem dX10_newType_2 : decode cX10_newType 2 = .ok (.getfield 9, 3) := by decide +kernel
theorem dX10_newType_5 : decode cX10_newType 5 = .ok (.iconst 1, 1) := by decide +kernel
theorem dX10_newType_6 : decode cX10_newType 6 = .ok (.iadd, 1) := by decide +kernel
theorem dX10_newType_7 : decode cX10_newType 7 = .ok (.putfield 9, 3) := by decide +kernel
theorem dX10_newType_10 : decode cX10_newType 10 = .ok (.aload_n 0, 1) := by decide +kernel
theorem dX10_newType_11 : decode cX10_newType 11 = .ok (.getfield 9, 3) := by decide +kernel
theorem dX10_newType_14 : decode cX10_newType 14 = .ok (.iconst 1, 1) := by decide +kernel
theorem dX10_newType_15 : decode cX10_newType 15 = .ok (.isub, 1) := by decide +kernel
theorem dX10_newType_16 : decode cX10_newType 16 = .ok (.ireturn, 1) := by decide +kernel
theorem dX10_newConstructor_0 : decode cX10_newConstructor 0 = .ok (.aload_n 0, 1) := by decide +kernel
theorem dX10_newConstructor_1 : decode cX10_newConstructor 1 = .ok (.getfield 20, 3) := by decide +kernel
theorem dX10_newConstructor_4 : decode cX10_newConstructor 4 = .ok (.iload_n 1, 1) := by decide +kernel
theorem dX10_newConstructor_5 : decode cX10_newConstructor 5 = .ok (.iload_n 2, 1) := by decide +kernel
theorem dX10_newConstructor_6 : decode cX10_newConstructor 6 = .ok (.iload_n 3, 1) := by decide +kernel
theorem dX10_newConstructor_7 : decode cX10_newConstructor 7 = .ok (.invokevirtual 30, 3) := by decide +kernel
theorem dX10_newConstructor_10 : decode cX10_newConstructor 10 = .ok (.ireturn, 1) := by decide +kernel
theorem dX10_typeOfHead_0 : decode cX10_typeOfHead 0 = .ok (.aload_n 0, 1) := by decide +kernel
theorem dX10_typeOfHead_1 : decode cX10_typeOfHead 1 = .ok (.getfield 20, 3) := by decide +kernel
theorem dX10_typeOfHead_4 : decode cX10_typeOfHead 4 = .ok (.iload_n 1, 1) := by decide +kernel
theorem dX10_typeOfHead_5 : decode cX10_typeOfHead 5 = .ok (.iconst 0, 1) := by decide +kernel
theorem dX10_typeOfHead_6 : decode cX10_typeOfHead 6 = .ok (.invokevirtual 42, 3) := by decide +kernel
theorem dX10_typeOfHead_9 : decode cX10_typeOfHead 9 = .ok (.ireturn, 1) := by decide +kernel
theorem dX10_partType_0 : decode cX10_partType 0 = .ok (.aload_n 0, 1) := by decide +kernel
theorem dX10_partType_1 : decode cX10_partType 1 = .ok (.getfield 20, 3) := by decide +kernel
theorem dX10_partType_4 : decode cX10_partType 4 = .ok (.iload_n 1, 1) := by decide +kernel
theorem dX10_partType_5 : decode cX10_partType 5 = .ok (.iload_n 2, 1) := by decide +kernel
theorem dX10_partType_6 : decode cX10_partType 6 = .ok (.ifCond .ne 7, 3) := by decide +kernel
theorem dX10_partType_9 : decode cX10_partType 9 = .ok (.iconst 1, 1) := by decide +kernel
theorem dX10_partType_10 : decode cX10_partType 10 = .ok (.goto 4, 3) := by decide +kernel
theorem dX10_partType_13 : decode cX10_partType 13 = .ok (.iconst 2, 1) := by decide +kernel
theorem dX10_partType_14 : decode cX10_partType 14 = .ok (.invokevirtual 42, 3) := by decide +kernel
theorem dX10_partType_17 : decode cX10_partType 17 = .ok (.ireturn, 1) := by decide +kernel
theorem dX10_partCount_0 : decode cX10_partCount 0 = .ok (.aload_n 0, 1) := by decide +kernel
theorem dX10_partCount_1 : decode cX10_partCount 1 = .ok (.getfield 20, 3) := by decide +kernel
theorem dX10_partCount_4 : decode cX10_partCount 4 = .ok (.iload_n 1, 1) := by decide +kernel
theorem dX10_partCount_5 : decode cX10_partCount 5 = .ok (.iconst 1, 1) := by decide +kernel
theorem dX10_partCount_6 : decode cX10_partCount 6 = .ok (.invokevirtual 42, 3) := by decide +kernel
theorem dX10_partCount_9 : decode cX10_partCount 9 = .ok (.iconst (-1), 1) := by decide +kernel
theorem dX10_partCount_10 : decode cX10_partCount 10 = .ok (.if_icmp .ne 5, 3) := by decide +kernel
theorem dX10_partCount_13 : decode cX10_partCount 13 = .ok (.iconst 0, 1) := by decide +kernel
theorem dX10_partCount_14 : decode cX10_partCount 14 = .ok (.ireturn, 1) := by decide +kernel
theorem dX10_partCount_15 : decode cX10_partCount 15 = .ok (.aload_n 0, 1) := by decide +kernel
theorem dX10_partCount_16 : decode cX10_partCount 16 = .ok (.getfield 20, 3) := by decide +kernel
theorem dX10_partCount_19 : decode cX10_partCount 19 = .ok (.iload_n 1, 1) := by decide +kernel
theorem dX10_partCount_20 : decode cX10_partCount 20 = .ok (.iconst 2, 1) := by decide +kernel
theorem dX10_partCount_21 : decode cX10_partCount 21 = .ok (.invokevirtual 42, 3) := by decide +kernel
theorem dX10_partCount_24 : decode cX10_partCount 24 = .ok (.iconst (-1), 1) := by decide +kernel
theorem dX10_partCount_25 : decode cX10_partCount 25 = .ok (.if_icmp .ne 7, 3) := by decide +kernel
theorem dX10_partCount_28 : decode cX10_partCount 28 = .ok (.iconst 1, 1) := by decide +kernel
theorem dX10_partCount_29 : decode cX10_partCount 29 = .ok (.goto 4, 3) := by decide +kernel
theorem dX10_partCount_32 : decode cX10_partCount 32 = .ok (.iconst 2, 1) := by decide +kernel
theorem dX10_partCount_33 : decode cX10_partCount 33 = .ok (.ireturn, 1) := by decide +kernel
theorem dX10_headOf_0 : decode cX10_headOf 0 = .ok (.aload_n 0, 1) := by decide +kernel
theorem dX10_headOf_1 : decode cX10_headOf 1 = .ok (.getfield 24, 3) := by decide +kernel
theorem dX10_headOf_4 : decode cX10_headOf 4 = .ok (.iload_n 1, 1) := by decide +kernel
theorem dX10_headOf_5 : decode cX10_headOf 5 = .ok (.iconst 0, 1) := by decide +kernel
theorem dX10_headOf_6 : decode cX10_headOf 6 = .ok (.invokevirtual 42, 3) := by decide +kernel
theorem dX10_headOf_9 : decode cX10_headOf 9 = .ok (.ireturn, 1) := by decide +kernel
theorem dX10_part_0 : decode cX10_part 0 = .ok (.aload_n 0, 1) := by decide +kernel
theorem dX10_part_1 : decode cX10_part 1 = .ok (.getfield 24, 3) := by decide +kernel
theorem dX10_part_4 : decode cX10_part 4 = .ok (.iload_n 1, 1) := by decide +kernel
theorem dX10_part_5 : decode cX10_part 5 = .ok (.iload_n 2, 1) := by decide +kernel
theorem dX10_part_6 : decode cX10_part 6 = .ok (.ifCond .ne 7, 3) := by decide +kernel
theorem dX10_part_9 : decode cX10_part 9 = .ok (.iconst 1, 1) := by decide +kernel
theorem dX10_part_10 : decode cX10_part 10 = .ok (.goto 4, 3) := by decide +kernel
theorem dX10_part_13 : decode cX10_part 13 = .ok (.iconst 2, 1) := by decide +kernel
theorem dX10_part_14 : decode cX10_part 14 = .ok (.invokevirtual 42, 3) := by decide +kernel
theorem dX10_part_17 : decode cX10_part 17 = .ok (.ireturn, 1) := by decide +kernel
theorem dX10_size_0 : decode cX10_size 0 = .ok (.iload_n 1, 1) := by decide +kernel
theorem dX10_size_1 : decode cX10_size 1 = .ok (.ifCond .lt 21, 3) := by decide +kernel
theorem dX10_size_4 : decode cX10_size 4 = .ok (.iload_n 1, 1) := by decide +kernel
theorem dX10_size_5 : decode cX10_size 5 = .ok (.aload_n 0, 1) := by decide +kernel
theorem dX10_size_6 : decode cX10_size 6 = .ok (.getfield 34, 3) := by decide +kernel
theorem dX10_size_9 : decode cX10_size 9 = .ok (.arraylength, 1) := by decide +kernel
theorem dX10_size_10 : decode cX10_size 10 = .ok (.if_icmp .ge 12, 3) := by decide +kernel
theorem dX10_size_13 : decode cX10_size 13 = .ok (.aload_n 0, 1) := by decide +kernel
theorem dX10_size_14 : decode cX10_size 14 = .ok (.getfield 34, 3) := by decide +kernel
theorem dX10_size_17 : decode cX10_size 17 = .ok (.iload_n 1, 1) := by decide +kernel
theorem dX10_size_18 : decode cX10_size 18 = .ok (.laload, 1) := by decide +kernel
theorem dX10_size_19 : decode cX10_size 19 = .ok (.goto 4, 3) := by decide +kernel
theorem dX10_size_22 : decode cX10_size 22 = .ok (.lconst 0, 1) := by decide +kernel
theorem dX10_size_23 : decode cX10_size 23 = .ok (.lreturn, 1) := by decide +kernel
theorem dX10_hasParts_0 : decode cX10_hasParts 0 = .ok (.aload_n 0, 1) := by decide +kernel
theorem dX10_hasParts_1 : decode cX10_hasParts 1 = .ok (.iload_n 1, 1) := by decide +kernel
theorem dX10_hasParts_2 : decode cX10_hasParts 2 = .ok (.invokevirtual 46, 3) := by decide +kernel
theorem dX10_hasParts_5 : decode cX10_hasParts 5 = .ok (.istore 4, 2) := by decide +kernel
theorem dX10_hasParts_7 : decode cX10_hasParts 7 = .ok (.iload 4, 2) := by decide +kernel
theorem dX10_hasParts_9 : decode cX10_hasParts 9 = .ok (.iconst 1, 1) := by decide +kernel
theorem dX10_hasParts_10 : decode cX10_hasParts 10 = .ok (.if_icmp .lt 11, 3) := by decide +kernel
theorem dX10_hasParts_13 : decode cX10_hasParts 13 = .ok (.aload_n 0, 1) := by decide +kernel
theorem dX10_hasParts_14 : decode cX10_hasParts 14 = .ok (.iload_n 2, 1) := by decide +kernel
theorem dX10_hasParts_15 : decode cX10_hasParts 15 = .ok (.invokevirtual 50, 3) := by decide +kernel
theorem dX10_hasParts_18 : decode cX10_hasParts 18 = .ok (.ifCond .eq 21, 3) := by decide +kernel
theorem dX10_hasParts_21 : decode cX10_hasParts 21 = .ok (.iload 4, 2) := by decide +kernel
theorem dX10_hasParts_23 : decode cX10_hasParts 23 = .ok (.iconst 2, 1) := by decide +kernel
theorem dX10_hasParts_24 : decode cX10_hasParts 24 = .ok (.if_icmp .lt 11, 3) := by decide +kernel
theorem dX10_hasParts_27 : decode cX10_hasParts 27 = .ok (.aload_n 0, 1) := by decide +kernel
theorem dX10_hasParts_28 : decode cX10_hasParts 28 = .ok (.iload_n 3, 1) := by decide +kernel
theorem dX10_hasParts_29 : decode cX10_hasParts 29 = .ok (.invokevirtual 50, 3) := by decide +kernel
theorem dX10_hasParts_32 : decode cX10_hasParts 32 = .ok (.ifCond .eq 7, 3) := by decide +kernel
theorem dX10_hasParts_35 : decode cX10_hasParts 35 = .ok (.iconst 1, 1) := by decide +kernel
theorem dX10_hasParts_36 : decode cX10_hasParts 36 = .ok (.goto 4, 3) := by decide +kernel
theorem dX10_hasParts_39 : decode cX10_hasParts 39 = .ok (.iconst 0, 1) := by decide +kernel
theorem dX10_hasParts_40 : decode cX10_hasParts 40 = .ok (.ireturn, 1) := by decide +kernel
theorem dX10_fits_0 : decode cX10_fits 0 = .ok (.aload_n 0, 1) := by decide +kernel
theorem dX10_fits_1 : decode cX10_fits 1 = .ok (.iload_n 1, 1) := by decide +kernel
theorem dX10_fits_2 : decode cX10_fits 2 = .ok (.iconst 0, 1) := by decide +kernel
theorem dX10_fits_3 : decode cX10_fits 3 = .ok (.iload_n 2, 1) := by decide +kernel
theorem dX10_fits_4 : decode cX10_fits 4 = .ok (.invokevirtual 54, 3) := by decide +kernel
theorem dX10_fits_7 : decode cX10_fits 7 = .ok (.ifCond .eq 17, 3) := by decide +kernel
theorem dX10_fits_10 : decode cX10_fits 10 = .ok (.aload_n 0, 1) := by decide +kernel
theorem dX10_fits_11 : decode cX10_fits 11 = .ok (.iload_n 1, 1) := by decide +kernel
theorem dX10_fits_12 : decode cX10_fits 12 = .ok (.iconst 1, 1) := by decide +kernel
theorem dX10_fits_13 : decode cX10_fits 13 = .ok (.iload_n 3, 1) := by decide +kernel
theorem dX10_fits_14 : decode cX10_fits 14 = .ok (.invokevirtual 54, 3) := by decide +kernel
theorem dX10_fits_17 : decode cX10_fits 17 = .ok (.ifCond .eq 7, 3) := by decide +kernel
theorem dX10_fits_20 : decode cX10_fits 20 = .ok (.iconst 1, 1) := by decide +kernel
theorem dX10_fits_21 : decode cX10_fits 21 = .ok (.goto 4, 3) := by decide +kernel
theorem dX10_fits_24 : decode cX10_fits 24 = .ok (.iconst 0, 1) := by decide +kernel
theorem dX10_fits_25 : decode cX10_fits 25 = .ok (.ireturn, 1) := by decide +kernel
theorem dX10_fitsPart_0 : decode cX10_fitsPart 0 = .ok (.aload_n 0, 1) := by decide +kernel
theorem dX10_fitsPart_1 : decode cX10_fitsPart 1 = .ok (.iload_n 1, 1) := by decide +kernel
theorem dX10_fitsPart_2 : decode cX10_fitsPart 2 = .ok (.iload_n 2, 1) := by decide +kernel
theorem dX10_fitsPart_3 : decode cX10_fitsPart 3 = .ok (.invokevirtual 58, 3) := by decide +kernel
theorem dX10_fitsPart_6 : decode cX10_fitsPart 6 = .ok (.istore 4, 2) := by decide +kernel
theorem dX10_fitsPart_8 : decode cX10_fitsPart 8 = .ok (.iload 4, 2) := by decide +kernel
theorem dX10_fitsPart_10 : decode cX10_fitsPart 10 = .ok (.iconst (-1), 1) := by decide +kernel
theorem dX10_fitsPart_11 : decode cX10_fitsPart 11 = .ok (.if_icmp .ne 15, 3) := by decide +kernel
theorem dX10_fitsPart_14 : decode cX10_fitsPart 14 = .ok (.iload_n 3, 1) := by decide +kernel
theorem dX10_fitsPart_15 : decode cX10_fitsPart 15 = .ok (.ifCond .ne 7, 3) := by decide +kernel
theorem dX10_fitsPart_18 : decode cX10_fitsPart 18 = .ok (.iconst 1, 1) := by decide +kernel
theorem dX10_fitsPart_19 : decode cX10_fitsPart 19 = .ok (.goto 26, 3) := by decide +kernel
theorem dX10_fitsPart_22 : decode cX10_fitsPart 22 = .ok (.iconst 0, 1) := by decide +kernel
theorem dX10_fitsPart_23 : decode cX10_fitsPart 23 = .ok (.goto 22, 3) := by decide +kernel
theorem dX10_fitsPart_26 : decode cX10_fitsPart 26 = .ok (.aload_n 0, 1) := by decide +kernel
theorem dX10_fitsPart_27 : decode cX10_fitsPart 27 = .ok (.aload_n 0, 1) := by decide +kernel
theorem dX10_fitsPart_28 : decode cX10_fitsPart 28 = .ok (.iload_n 3, 1) := by decide +kernel
theorem dX10_fitsPart_29 : decode cX10_fitsPart 29 = .ok (.invokevirtual 61, 3) := by decide +kernel
theorem dX10_fitsPart_32 : decode cX10_fitsPart 32 = .ok (.invokevirtual 64, 3) := by decide +kernel
theorem dX10_fitsPart_35 : decode cX10_fitsPart 35 = .ok (.iload 4, 2) := by decide +kernel
theorem dX10_fitsPart_37 : decode cX10_fitsPart 37 = .ok (.if_icmp .ne 7, 3) := by decide +kernel
theorem dX10_fitsPart_40 : decode cX10_fitsPart 40 = .ok (.iconst 1, 1) := by decide +kernel
theorem dX10_fitsPart_41 : decode cX10_fitsPart 41 = .ok (.goto 4, 3) := by decide +kernel
theorem dX10_fitsPart_44 : decode cX10_fitsPart 44 = .ok (.iconst 0, 1) := by decide +kernel
theorem dX10_fitsPart_45 : decode cX10_fitsPart 45 = .ok (.ireturn, 1) := by decide +kernel
theorem dX10_chainOf_0 : decode cX10_chainOf 0 = .ok (.bipush 31, 2) := by decide +kernel
theorem dX10_chainOf_2 : decode cX10_chainOf 2 = .ok (.iload_n 0, 1) := by decide +kernel
theorem dX10_chainOf_3 : decode cX10_chainOf 3 = .ok (.imul, 1) := by decide +kernel
theorem dX10_chainOf_4 : decode cX10_chainOf 4 = .ok (.bipush 7, 2) := by decide +kernel
theorem dX10_chainOf_6 : decode cX10_chainOf 6 = .ok (.iload_n 1, 1) := by decide +kernel
theorem dX10_chainOf_7 : decode cX10_chainOf 7 = .ok (.imul, 1) := by decide +kernel
theorem dX10_chainOf_8 : decode cX10_chainOf 8 = .ok (.iadd, 1) := by decide +kernel
theorem dX10_chainOf_9 : decode cX10_chainOf 9 = .ok (.iload_n 2, 1) := by decide +kernel
theorem dX10_chainOf_10 : decode cX10_chainOf 10 = .ok (.iadd, 1) := by decide +kernel
theorem dX10_chainOf_11 : decode cX10_chainOf 11 = .ok (.bipush 63, 2) := by decide +kernel
theorem dX10_chainOf_13 : decode cX10_chainOf 13 = .ok (.iand, 1) := by decide +kernel
theorem dX10_chainOf_14 : decode cX10_chainOf 14 = .ok (.ireturn, 1) := by decide +kernel
theorem dX10_find_0 : decode cX10_find 0 = .ok (.aload_n 0, 1) := by decide +kernel
theorem dX10_find_1 : decode cX10_find 1 = .ok (.getfield 27, 3) := by decide +kernel
theorem dX10_find_4 : decode cX10_find 4 = .ok (.iload_n 1, 1) := by decide +kernel
theorem dX10_find_5 : decode cX10_find 5 = .ok (.iload_n 2, 1) := by decide +kernel
theorem dX10_find_6 : decode cX10_find 6 = .ok (.iload_n 3, 1) := by decide +kernel
theorem dX10_find_7 : decode cX10_find 7 = .ok (.invokestatic 67, 3) := by decide +kernel
theorem dX10_find_10 : decode cX10_find 10 = .ok (.iconst 0, 1) := by decide +kernel
theorem dX10_find_11 : decode cX10_find 11 = .ok (.invokevirtual 42, 3) := by decide +kernel
theorem dX10_find_14 : decode cX10_find 14 = .ok (.istore 4, 2) := by decide +kernel
theorem dX10_find_16 : decode cX10_find 16 = .ok (.iconst 0, 1) := by decide +kernel
theorem dX10_find_17 : decode cX10_find 17 = .ok (.istore 5, 2) := by decide +kernel
theorem dX10_find_19 : decode cX10_find 19 = .ok (.iload 5, 2) := by decide +kernel
theorem dX10_find_21 : decode cX10_find 21 = .ok (.sipush 200, 3) := by decide +kernel
theorem dX10_find_24 : decode cX10_find 24 = .ok (.if_icmp .ge 84, 3) := by decide +kernel
theorem dX10_find_27 : decode cX10_find 27 = .ok (.iload 4, 2) := by decide +kernel
theorem dX10_find_29 : decode cX10_find 29 = .ok (.iconst (-1), 1) := by decide +kernel
theorem dX10_find_30 : decode cX10_find 30 = .ok (.if_icmp .eq 78, 3) := by decide +kernel
theorem dX10_find_33 : decode cX10_find 33 = .ok (.aload_n 0, 1) := by decide +kernel
theorem dX10_find_34 : decode cX10_find 34 = .ok (.getfield 24, 3) := by decide +kernel
theorem dX10_find_37 : decode cX10_find 37 = .ok (.iload 4, 2) := by decide +kernel
theorem dX10_find_39 : decode cX10_find 39 = .ok (.iconst 0, 1) := by decide +kernel
theorem dX10_find_40 : decode cX10_find 40 = .ok (.invokevirtual 42, 3) := by decide +kernel
theorem dX10_find_43 : decode cX10_find 43 = .ok (.iload_n 1, 1) := by decide +kernel
theorem dX10_find_44 : decode cX10_find 44 = .ok (.if_icmp .ne 35, 3) := by decide +kernel
theorem dX10_find_47 : decode cX10_find 47 = .ok (.aload_n 0, 1) := by decide +kernel
theorem dX10_find_48 : decode cX10_find 48 = .ok (.getfield 24, 3) := by decide +kernel
theorem dX10_find_51 : decode cX10_find 51 = .ok (.iload 4, 2) := by decide +kernel
theorem dX10_find_53 : decode cX10_find 53 = .ok (.iconst 1, 1) := by decide +kernel
theorem dX10_find_54 : decode cX10_find 54 = .ok (.invokevirtual 42, 3) := by decide +kernel
theorem dX10_find_57 : decode cX10_find 57 = .ok (.iload_n 2, 1) := by decide +kernel
theorem dX10_find_58 : decode cX10_find 58 = .ok (.if_icmp .ne 21, 3) := by decide +kernel
theorem dX10_find_61 : decode cX10_find 61 = .ok (.aload_n 0, 1) := by decide +kernel
theorem dX10_find_62 : decode cX10_find 62 = .ok (.getfield 24, 3) := by decide +kernel
theorem dX10_find_65 : decode cX10_find 65 = .ok (.iload 4, 2) := by decide +kernel
theorem dX10_find_67 : decode cX10_find 67 = .ok (.iconst 2, 1) := by decide +kernel
theorem dX10_find_68 : decode cX10_find 68 = .ok (.invokevirtual 42, 3) := by decide +kernel
theorem dX10_find_71 : decode cX10_find 71 = .ok (.iload_n 3, 1) := by decide +kernel
theorem dX10_find_72 : decode cX10_find 72 = .ok (.if_icmp .ne 7, 3) := by decide +kernel
theorem dX10_find_75 : decode cX10_find 75 = .ok (.iconst 1, 1) := by decide +kernel
theorem dX10_find_76 : decode cX10_find 76 = .ok (.goto 4, 3) := by decide +kernel
theorem dX10_find_79 : decode cX10_find 79 = .ok (.iconst 0, 1) := by decide +kernel
theorem dX10_find_80 : decode cX10_find 80 = .ok (.istore 6, 2) := by decide +kernel
theorem dX10_find_82 : decode cX10_find 82 = .ok (.iload 6, 2) := by decide +kernel
theorem dX10_find_84 : decode cX10_find 84 = .ok (.ifCond .eq 6, 3) := by decide +kernel
