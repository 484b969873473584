theorem dX0_init_0 : decode cX0_init 0 = .ok (.aload_n 0, 1) := by decide +kernel
theorem dX0_init_1 : decode cX0_init 1 = .ok (.invokespecial 3, 3) := by decide +kernel
theorem dX0_init_4 : decode cX0_init 4 = .ok (.aload_n 0, 1) := by decide +kernel
theorem dX0_init_5 : decode cX0_init 5 = .ok (.aload_n 1, 1) := by decide +kernel
theorem dX0_init_6 : decode cX0_init 6 = .ok (.putfield 9, 3) := by decide +kernel
theorem dX0_init_9 : decode cX0_init 9 = .ok (.aload_n 0, 1) := by decide +kernel
theorem dX0_init_10 : decode cX0_init 10 = .ok (.aload_n 2, 1) := by decide +kernel
theorem dX0_init_11 : decode cX0_init 11 = .ok (.putfield 15, 3) := by decide +kernel
theorem dX0_init_14 : decode cX0_init 14 = .ok (.aload_n 0, 1) := by decide +kernel
theorem dX0_init_15 : decode cX0_init 15 = .ok (.new 19, 3) := by decide +kernel
theorem dX0_init_18 : decode cX0_init 18 = .ok (.dup, 1) := by decide +kernel
theorem dX0_init_19 : decode cX0_init 19 = .ok (.iconst 5, 1) := by decide +kernel
theorem dX0_init_20 : decode cX0_init 20 = .ok (.bipush 64, 2) := by decide +kernel
theorem dX0_init_22 : decode cX0_init 22 = .ok (.invokespecial 21, 3) := by decide +kernel
theorem dX0_init_25 : decode cX0_init 25 = .ok (.putfield 24, 3) := by decide +kernel
theorem dX0_init_28 : decode cX0_init 28 = .ok (.aload_n 0, 1) := by decide +kernel
theorem dX0_init_29 : decode cX0_init 29 = .ok (.new 19, 3) := by decide +kernel
theorem dX0_init_32 : decode cX0_init 32 = .ok (.dup, 1) := by decide +kernel
theorem dX0_init_33 : decode cX0_init 33 = .ok (.iconst 1, 1) := by decide +kernel
theorem dX0_init_34 : decode cX0_init 34 = .ok (.bipush 64, 2) := by decide +kernel
theorem dX0_init_36 : decode cX0_init 36 = .ok (.invokespecial 21, 3) := by decide +kernel
theorem dX0_init_39 : decode cX0_init 39 = .ok (.putfield 28, 3) := by decide +kernel
theorem dX0_init_42 : decode cX0_init 42 = .ok (.aload_n 0, 1) := by decide +kernel
theorem dX0_init_43 : decode cX0_init 43 = .ok (.new 19, 3) := by decide +kernel
theorem dX0_init_46 : decode cX0_init 46 = .ok (.dup, 1) := by decide +kernel
theorem dX0_init_47 : decode cX0_init 47 = .ok (.iconst 3, 1) := by decide +kernel
theorem dX0_init_48 : decode cX0_init 48 = .ok (.bipush 64, 2) := by decide +kernel
theorem dX0_init_50 : decode cX0_init 50 = .ok (.invokespecial 21, 3) := by decide +kernel
theorem dX0_init_53 : decode cX0_init 53 = .ok (.putfield 31, 3) := by decide +kernel
theorem dX0_init_56 : decode cX0_init 56 = .ok (.aload_n 0, 1) := by decide +kernel
theorem dX0_init_57 : decode cX0_init 57 = .ok (.new 19, 3) := by decide +kernel
theorem dX0_init_60 : decode cX0_init 60 = .ok (.dup, 1) := by decide +kernel
theorem dX0_init_61 : decode cX0_init 61 = .ok (.iconst 4, 1) := by decide +kernel
theorem dX0_init_62 : decode cX0_init 62 = .ok (.bipush 64, 2) := by decide +kernel
theorem dX0_init_64 : decode cX0_init 64 = .ok (.invokespecial 21, 3) := by decide +kernel
theorem dX0_init_67 : decode cX0_init 67 = .ok (.putfield 34, 3) := by decide +kernel
theorem dX0_init_70 : decode cX0_init 70 = .ok (.aload_n 0, 1) := by decide +kernel
theorem dX0_init_71 : decode cX0_init 71 = .ok (.new 19, 3) := by decide +kernel
theorem dX0_init_74 : decode cX0_init 74 = .ok (.dup, 1) := by decide +kernel
theorem dX0_init_75 : decode cX0_init 75 = .ok (.bipush 6, 2) := by decide +kernel
theorem dX0_init_77 : decode cX0_init 77 = .ok (.bipush 64, 2) := by decide +kernel
theorem dX0_init_79 : decode cX0_init 79 = .ok (.invokespecial 21, 3) := by decide +kernel
theorem dX0_init_82 : decode cX0_init 82 = .ok (.putfield 37, 3) := by decide +kernel
theorem dX0_init_85 : decode cX0_init 85 = .ok (.aload_n 0, 1) := by decide +kernel
theorem dX0_init_86 : decode cX0_init 86 = .ok (.new 19, 3) := by decide +kernel
theorem dX0_init_89 : decode cX0_init 89 = .ok (.dup, 1) := by decide +kernel
theorem dX0_init_90 : decode cX0_init 90 = .ok (.iconst 2, 1) := by decide +kernel
theorem dX0_init_91 : decode cX0_init 91 = .ok (.bipush 64, 2) := by decide +kernel
theorem dX0_init_93 : decode cX0_init 93 = .ok (.invokespecial 21, 3) := by decide +kernel
theorem dX0_init_96 : decode cX0_init 96 = .ok (.putfield 40, 3) := by decide +kernel
theorem dX0_init_99 : decode cX0_init 99 = .ok (.aload_n 0, 1) := by decide +kernel
theorem dX0_init_100 : decode cX0_init 100 = .ok (.new 19, 3) := by decide +kernel
theorem dX0_init_103 : decode cX0_init 103 = .ok (.dup, 1) := by decide +kernel
theorem dX0_init_104 : decode cX0_init 104 = .ok (.iconst 4, 1) := by decide +kernel
theorem dX0_init_105 : decode cX0_init 105 = .ok (.bipush 8, 2) := by decide +kernel
theorem dX0_init_107 : decode cX0_init 107 = .ok (.invokespecial 21, 3) := by decide +kernel
theorem dX0_init_110 : decode cX0_init 110 = .ok (.putfield 43, 3) := by decide +kernel
theorem dX0_init_113 : decode cX0_init 113 = .ok (.aload_n 0, 1) := by decide +kernel
theorem dX0_init_114 : decode cX0_init 114 = .ok (.new 19, 3) := by decide +kernel
theorem dX0_init_117 : decode cX0_init 117 = .ok (.dup, 1) := by decide +kernel
theorem dX0_init_118 : decode cX0_init 118 = .ok (.iconst 3, 1) := by decide +kernel
theorem dX0_init_119 : decode cX0_init 119 = .ok (.bipush 64, 2) := by decide +kernel
theorem dX0_init_121 : decode cX0_init 121 = .ok (.invokespecial 21, 3) := by decide +kernel
theorem dX0_init_124 : decode cX0_init 124 = .ok (.putfield 46, 3) := by decide +kernel
theorem dX0_init_127 : decode cX0_init 127 = .ok (.return_, 1) := by decide +kernel
theorem dX0_count_0 : decode cX0_count 0 = .ok (.aload_n 1, 1) := by decide +kernel
theorem dX0_count_1 : decode cX0_count 1 = .ok (.getfield 49, 3) := by decide +kernel
theorem dX0_count_4 : decode cX0_count 4 = .ok (.ifnonnull 5, 3) := by decide +kernel
theorem dX0_count_7 : decode cX0_count 7 = .ok (.iconst (-1), 1) := by decide +kernel
theorem dX0_count_8 : decode cX0_count 8 = .ok (.ireturn, 1) := by decide +kernel
theorem dX0_count_9 : decode cX0_count 9 = .ok (.aload_n 0, 1) := by decide +kernel
theorem dX0_count_10 : decode cX0_count 10 = .ok (.aload_n 1, 1) := by decide +kernel
theorem dX0_count_11 : decode cX0_count 11 = .ok (.getfield 49, 3) := by decide +kernel
theorem dX0_count_14 : decode cX0_count 14 = .ok (.getfield 55, 3) := by decide +kernel
theorem dX0_count_17 : decode cX0_count 17 = .ok (.aload_n 1, 1) := by decide +kernel
theorem dX0_count_18 : decode cX0_count 18 = .ok (.invokevirtual 61, 3) := by decide +kernel
theorem dX0_count_21 : decode cX0_count 21 = .ok (.iconst 0, 1) := by decide +kernel
theorem dX0_count_22 : decode cX0_count 22 = .ok (.istore_n 2, 1) := by decide +kernel
theorem dX0_count_23 : decode cX0_count 23 = .ok (.iconst 0, 1) := by decide +kernel
theorem dX0_count_24 : decode cX0_count 24 = .ok (.istore_n 3, 1) := by decide +kernel
theorem dX0_count_25 : decode cX0_count 25 = .ok (.iload_n 3, 1) := by decide +kernel
theorem dX0_count_26 : decode cX0_count 26 = .ok (.ldc 65, 2) := by decide +kernel
theorem dX0_count_28 : decode cX0_count 28 = .ok (.if_icmp .ge 105, 3) := by decide +kernel
theorem dX0_count_31 : decode cX0_count 31 = .ok (.aload_n 0, 1) := by decide +kernel
theorem dX0_count_32 : decode cX0_count 32 = .ok (.getfield 66, 3) := by decide +kernel
theorem dX0_count_35 : decode cX0_count 35 = .ok (.aload_n 0, 1) := by decide +kernel
theorem dX0_count_36 : decode cX0_count 36 = .ok (.getfield 37, 3) := by decide +kernel
theorem dX0_count_39 : decode cX0_count 39 = .ok (.invokevirtual 70, 3) := by decide +kernel
theorem dX0_count_42 : decode cX0_count 42 = .ok (.if_icmp .lt 23, 3) := by decide +kernel
theorem dX0_count_45 : decode cX0_count 45 = .ok (.aload_n 0, 1) := by decide +kernel
theorem dX0_count_46 : decode cX0_count 46 = .ok (.getfield 43, 3) := by decide +kernel
theorem dX0_count_49 : decode cX0_count 49 = .ok (.invokevirtual 70, 3) := by decide +kernel
theorem dX0_count_52 : decode cX0_count 52 = .ok (.ifCond .ne 5, 3) := by decide +kernel
theorem dX0_count_55 : decode cX0_count 55 = .ok (.iload_n 2, 1) := by decide +kernel
theorem dX0_count_56 : decode cX0_count 56 = .ok (.ireturn, 1) := by decide +kernel
theorem dX0_count_57 : decode cX0_count 57 = .ok (.aload_n 0, 1) := by decide +kernel
theorem dX0_count_58 : decode cX0_count 58 = .ok (.iconst 1, 1) := by decide +kernel
theorem dX0_count_59 : decode cX0_count 59 = .ok (.invokevirtual 74, 3) := by decide +kernel
theorem dX0_count_62 : decode cX0_count 62 = .ok (.goto 65, 3) := by decide +kernel
theorem dX0_count_65 : decode cX0_count 65 = .ok (.aload_n 0, 1) := by decide +kernel
theorem dX0_count_66 : decode cX0_count 66 = .ok (.getfield 78, 3) := by decide +kernel
theorem dX0_count_69 : decode cX0_count 69 = .ok (.sipush 150, 3) := by decide +kernel
theorem dX0_count_72 : decode cX0_count 72 = .ok (.if_icmp .lt 5, 3) := by decide +kernel
theorem dX0_count_75 : decode cX0_count 75 = .ok (.iconst (-1), 1) := by decide +kernel
theorem dX0_count_76 : decode cX0_count 76 = .ok (.ireturn, 1) := by decide +kernel
theorem dX0_count_77 : decode cX0_count 77 = .ok (.aload_n 0, 1) := by decide +kernel
theorem dX0_count_78 : decode cX0_count 78 = .ok (.invokevirtual 81, 3) := by decide +kernel
theorem dX0_count_81 : decode cX0_count 81 = .ok (.istore 4, 2) := by decide +kernel
theorem dX0_count_83 : decode cX0_count 83 = .ok (.aload_n 0, 1) := by decide +kernel
theorem dX0_count_84 : decode cX0_count 84 = .ok (.getfield 34, 3) := by decide +kernel
theorem dX0_count_87 : decode cX0_count 87 = .ok (.iload 4, 2) := by decide +kernel
theorem dX0_count_89 : decode cX0_count 89 = .ok (.iconst 3, 1) := by decide +kernel
theorem dX0_count_90 : decode cX0_count 90 = .ok (.invokevirtual 84, 3) := by decide +kernel
theorem dX0_count_93 : decode cX0_count 93 = .ok (.iconst (-1), 1) := by decide +kernel
theorem dX0_count_94 : decode cX0_count 94 = .ok (.if_icmp .eq 12, 3) := by decide +kernel
theorem dX0_count_97 : decode cX0_count 97 = .ok (.aload_n 0, 1) := by decide +kernel
theorem dX0_count_98 : decode cX0_count 98 = .ok (.iload 4, 2) := by decide +kernel
theorem dX0_count_100 : decode cX0_count 100 = .ok (.invokevirtual 88, 3) := by decide +kernel
theorem dX0_count_103 : decode cX0_count 103 = .ok (.goto 24, 3) := by decide +kernel
theorem dX0_count_106 : decode cX0_count 106 = .ok (.aload_n 0, 1) := by decide +kernel
theorem dX0_count_107 : decode cX0_count 107 = .ok (.getfield 43, 3) := by decide +kernel
theorem dX0_count_110 : decode cX0_count 110 = .ok (.invokevirtual 70, 3) := by decide +kernel
theorem dX0_count_113 : decode cX0_count 113 = .ok (.ifCond .ne 9, 3) := by decide +kernel
theorem dX0_count_116 : decode cX0_count 116 = .ok (.iinc 2 1, 3) := by decide +kernel
theorem dX0_count_119 : decode cX0_count 119 = .ok (.goto 8, 3) := by decide +kernel
theorem dX0_count_122 : decode cX0_count 122 = .ok (.aload_n 0, 1) := by decide +kernel
theorem dX0_count_123 : decode cX0_count 123 = .ok (.iconst 0, 1) := by decide +kernel
theorem dX0_count_124 : decode cX0_count 124 = .ok (.invokevirtual 74, 3) := by decide +kernel
theorem dX0_count_127 : decode cX0_count 127 = .ok (.iinc 3 1, 3) := by decide +kernel
theorem dX0_count_130 : decode cX0_count 130 = .ok (.goto (-105), 3) := by decide +kernel
theorem dX0_count_133 : decode cX0_count 133 = .ok (.iconst (-1), 1) := by decide +kernel
theorem dX0_count_134 : decode cX0_count 134 = .ok (.ireturn, 1) := by decide +kernel
theorem dX0_begin_0 : decode cX0_begin 0 = .ok (.aload_n 0, 1) := by decide +kernel
theorem dX0_begin_1 : decode cX0_begin 1 = .ok (.getfield 24, 3) := by decide +kernel
theorem dX0_begin_4 : decode cX0_begin 4 = .ok (.iconst 0, 1) := by decide +kernel
theorem dX0_begin_5 : decode cX0_begin 5 = .ok (.invokevirtual 92, 3) := by decide +kernel
theorem dX0_begin_8 : decode cX0_begin 8 = .ok (.aload_n 0, 1) := by decide +kernel
theorem dX0_begin_9 : decode cX0_begin 9 = .ok (.getfield 28, 3) := by decide +kernel
theorem dX0_begin_12 : decode cX0_begin 12 = .ok (.iconst 0, 1) := by decide +kernel
theorem dX0_begin_13 : decode cX0_begin 13 = .ok (.invokevirtual 92, 3) := by decide +kernel
theorem dX0_begin_16 : decode cX0_begin 16 = .ok (.aload_n 0, 1) := by decide +kernel
theorem dX0_begin_17 : decode cX0_begin 17 = .ok (.getfield 31, 3) := by decide +kernel
theorem dX0_begin_20 : decode cX0_begin 20 = .ok (.iconst 0, 1) := by decide +kernel
theorem dX0_begin_21 : decode cX0_begin 21 = .ok (.invokevirtual 92, 3) := by decide +kernel
theorem dX0_begin_24 : decode cX0_begin 24 = .ok (.aload_n 0, 1) := by decide +kernel
theorem dX0_begin_25 : decode cX0_begin 25 = .ok (.getfield 34, 3) := by decide +kernel
theorem dX0_begin_28 : decode cX0_begin 28 = .ok (.iconst 0, 1) := by decide +kernel
theorem dX0_begin_29 : decode cX0_begin 29 = .ok (.invokevirtual 92, 3) := by decide +kernel
theorem dX0_begin_32 : decode cX0_begin 32 = .ok (.aload_n 0, 1) := by decide +kernel
theorem dX0_begin_33 : decode cX0_begin 33 = .ok (.getfield 37, 3) := by decide +kernel
theorem dX0_begin_36 : decode cX0_begin 36 = .ok (.iconst 0, 1) := by decide +kernel
theorem dX0_begin_37 : decode cX0_begin 37 = .ok (.invokevirtual 92, 3) := by decide +kernel
theorem dX0_begin_40 : decode cX0_begin 40 = .ok (.aload_n 0, 1) := by decide +kernel
theorem dX0_begin_41 : decode cX0_begin 41 = .ok (.getfield 40, 3) := by decide +kernel
theorem dX0_begin_44 : decode cX0_begin 44 = .ok (.iconst 0, 1) := by decide +kernel
theorem dX0_begin_45 : decode cX0_begin 45 = .ok (.invokevirtual 92, 3) := by decide +kernel
theorem dX0_begin_48 : decode cX0_begin 48 = .ok (.aload_n 0, 1) := by decide +kernel
theorem dX0_begin_49 : decode cX0_begin 49 = .ok (.getfield 43, 3) := by decide +kernel
theorem dX0_begin_52 : decode cX0_begin 52 = .ok (.iconst 0, 1) := by decide +kernel
theorem dX0_begin_53 : decode cX0_begin 53 = .ok (.invokevirtual 92, 3) := by decide +kernel
theorem dX0_begin_56 : decode cX0_begin 56 = .ok (.aload_n 0, 1) := by decide +kernel
theorem dX0_begin_57 : decode cX0_begin 57 = .ok (.iconst 0, 1) := by decide +kernel
theorem dX0_begin_58 : decode cX0_begin 58 = .ok (.putfield 66, 3) := by decide +kernel
theorem dX0_begin_61 : decode cX0_begin 61 = .ok (.aload_n 0, 1) := by decide +kernel
theorem dX0_begin_62 : decode cX0_begin 62 = .ok (.iconst 0, 1) := by decide +kernel
theorem dX0_begin_63 : decode cX0_begin 63 = .ok (.putfield 78, 3) := by decide +kernel
theorem dX0_begin_66 : decode cX0_begin 66 = .ok (.aload_n 0, 1) := by decide +kernel
theorem dX0_begin_67 : decode cX0_begin 67 = .ok (.iconst (-1), 1) := by decide +kernel
theorem dX0_begin_68 : decode cX0_begin 68 = .ok (.putfield 95, 3) := by decide +kernel
theorem dX0_begin_71 : decode cX0_begin 71 = .ok (.aload_n 0, 1) := by decide +kernel
theorem dX0_begin_72 : decode cX0_begin 72 = .ok (.iconst 0, 1) := by decide +kernel
theorem dX0_begin_73 : decode cX0_begin 73 = .ok (.putfield 98, 3) := by decide +kernel
theorem dX0_begin_76 : decode cX0_begin 76 = .ok (.iconst 0, 1) := by decide +kernel
theorem dX0_begin_77 : decode cX0_begin 77 = .ok (.istore_n 3, 1) := by decide +kernel
theorem dX0_begin_78 : decode cX0_begin 78 = .ok (.iload_n 3, 1) := by decide +kernel
theorem dX0_begin_79 : decode cX0_begin 79 = .ok (.aload_n 0, 1) := by decide +kernel
theorem dX0_begin_80 : decode cX0_begin 80 = .ok (.getfield 15, 3) := by decide +kernel
theorem dX0_begin_83 : decode cX0_begin 83 = .ok (.invokevirtual 101, 3) := by decide +kernel
theorem dX0_begin_86 : decode cX0_begin 86 = .ok (.if_icmp .ge 43, 3) := by decide +kernel
theorem dX0_begin_89 : decode cX0_begin 89 = .ok (.aload_n 0, 1) := by decide +kernel
theorem dX0_begin_90 : decode cX0_begin 90 = .ok (.getfield 24, 3) := by decide +kernel
theorem dX0_begin_93 : decode cX0_begin 93 = .ok (.aload_n 0, 1) := by decide +kernel
theorem dX0_begin_94 : decode cX0_begin 94 = .ok (.getfield 15, 3) := by decide +kernel
theorem dX0_begin_97 : decode cX0_begin 97 = .ok (.iload_n 3, 1) := by decide +kernel
theorem dX0_begin_98 : decode cX0_begin 98 = .ok (.invokevirtual 106, 3) := by decide +kernel
theorem dX0_begin_101 : decode cX0_begin 101 = .ok (.aload_n 0, 1) := by decide +kernel
theorem dX0_begin_102 : decode cX0_begin 102 = .ok (.getfield 15, 3) := by decide +kernel
theorem dX0_begin_105 : decode cX0_begin 105 = .ok (.iload_n 3, 1) := by decide +kernel
theorem dX0_begin_106 : decode cX0_begin 106 = .ok (.iconst 0, 1) := by decide +kernel
theorem dX0_begin_107 : decode cX0_begin 107 = .ok (.invokevirtual 110, 3) := by decide +kernel
theorem dX0_begin_110 : decode cX0_begin 110 = .ok (.aload_n 0, 1) := by decide +kernel
theorem dX0_begin_111 : decode cX0_begin 111 = .ok (.getfield 15, 3) := by decide +kernel
theorem dX0_begin_114 : decode cX0_begin 114 = .ok (.iload_n 3, 1) := by decide +kernel
theorem dX0_begin_115 : decode cX0_begin 115 = .ok (.iconst 1, 1) := by decide +kernel
theorem dX0_begin_116 : decode cX0_begin 116 = .ok (.invokevirtual 110, 3) := by decide +kernel
theorem dX0_begin_119 : decode cX0_begin 119 = .ok (.invokevirtual 113, 3) := by decide +kernel
theorem dX0_begin_122 : decode cX0_begin 122 = .ok (.pop, 1) := by decide +kernel
theorem dX0_begin_123 : decode cX0_begin 123 = .ok (.iinc 3 1, 3) := by decide +kernel
theorem dX0_begin_126 : decode cX0_begin 126 = .ok (.goto (-48), 3) := by decide +kernel
theorem dX0_begin_129 : decode cX0_begin 129 = .ok (.aload_n 0, 1) := by decide +kernel
theorem dX0_begin_130 : decode cX0_begin 130 = .ok (.aload_n 0, 1) := by decide +kernel
theorem dX0_begin_131 : decode cX0_begin 131 = .ok (.getfield 24, 3) := by decide +kernel
theorem dX0_begin_134 : decode cX0_begin 134 = .ok (.invokevirtual 70, 3) := by decide +kernel
theorem dX0_begin_137 : decode cX0_begin 137 = .ok (.putfield 117, 3) := by decide +kernel
theorem dX0_begin_140 : decode cX0_begin 140 = .ok (.iconst 0, 1) := by decide +kernel
theorem dX0_begin_141 : decode cX0_begin 141 = .ok (.istore_n 3, 1) := by decide +kernel
theorem dX0_begin_142 : decode cX0_begin 142 = .ok (.iload_n 3, 1) := by decide +kernel
theorem dX0_begin_143 : decode cX0_begin 143 = .ok (.aload_n 1, 1) := by decide +kernel
theorem dX0_begin_144 : decode cX0_begin 144 = .ok (.invokevirtual 120, 3) := by decide +kernel
theorem dX0_begin_147 : decode cX0_begin 147 = .ok (.if_icmp .ge 41, 3) := by decide +kernel
theorem dX0_begin_150 : decode cX0_begin 150 = .ok (.aload_n 2, 1) := by decide +kernel
theorem dX0_begin_151 : decode cX0_begin 151 = .ok (.iload_n 3, 1) := by decide +kernel
theorem dX0_begin_152 : decode cX0_begin 152 = .ok (.invokevirtual 125, 3) := by decide +kernel
theorem dX0_begin_155 : decode cX0_begin 155 = .ok (.istore 4, 2) := by decide +kernel
theorem dX0_begin_157 : decode cX0_begin 157 = .ok (.aload_n 0, 1) := by decide +kernel
theorem dX0_begin_158 : decode cX0_begin 158 = .ok (.getfield 28, 3) := by decide +kernel
theorem dX0_begin_161 : decode cX0_begin 161 = .ok (.iload 4, 2) := by decide +kernel
theorem dX0_begin_163 : decode cX0_begin 163 = .ok (.iconst (-1), 1) := by decide +kernel
theorem dX0_begin_164 : decode cX0_begin 164 = .ok (.if_icmp .eq 8, 3) := by decide +kernel
theorem dX0_begin_167 : decode cX0_begin 167 = .ok (.iload 4, 2) := by decide +kernel
theorem dX0_begin_169 : decode cX0_begin 169 = .ok (.goto 7, 3) := by decide +kernel
theorem dX0_begin_172 : decode cX0_begin 172 = .ok (.aload_n 0, 1) := by decide +kernel
theorem dX0_begin_173 : decode cX0_begin 173 = .ok (.invokevirtual 128, 3) := by decide +kernel
theorem dX0_begin_176 : decode cX0_begin 176 = .ok (.iconst (-1), 1) := by decide +kernel
theorem dX0_begin_177 : decode cX0_begin 177 = .ok (.iconst (-1), 1) := by decide +kernel
theorem dX0_begin_178 : decode cX0_begin 178 = .ok (.invokevirtual 113, 3) := by decide +kernel
theorem dX0_begin_181 : decode cX0_begin 181 = .ok (.pop, 1) := by decide +kernel
theorem dX0_begin_182 : decode cX0_begin 182 = .ok (.iinc 3 1, 3) := by decide +kernel
theorem dX0_begin_185 : decode cX0_begin 185 = .ok (.goto (-43), 3) := by decide +kernel
theorem dX0_begin_188 : decode cX0_begin 188 = .ok (.aload_n 0, 1) := by decide +kernel
theorem dX0_begin_189 : decode cX0_begin 189 = .ok (.aload_n 1, 1) := by decide +kernel
theorem dX0_begin_190 : decode cX0_begin 190 = .ok (.getfield 131, 3) := by decide +kernel
theorem dX0_begin_193 : decode cX0_begin 193 = .ok (.iconst 0, 1) := by decide +kernel
theorem dX0_begin_194 : decode cX0_begin 194 = .ok (.iconst (-1), 1) := by decide +kernel
theorem dX0_begin_195 : decode cX0_begin 195 = .ok (.invokevirtual 134, 3) := by decide +kernel
theorem dX0_begin_198 : decode cX0_begin 198 = .ok (.return_, 1) := by decide +kernel
theorem dX0_newUnknown_0 : decode cX0_newUnknown 0 = .ok (.aload_n 0, 1) := by decide +kernel
theorem dX0_newUnknown_1 : decode cX0_newUnknown 1 = .ok (.getfield 24, 3) := by decide +kernel
theorem dX0_newUnknown_4 : decode cX0_newUnknown 4 = .ok (.iconst (-1), 1) := by decide +kernel
theorem dX0_newUnknown_5 : decode cX0_newUnknown 5 = .ok (.iconst (-1), 1) := by decide +kernel
theorem dX0_newUnknown_6 : decode cX0_newUnknown 6 = .ok (.iconst (-1), 1) := by decide +kernel
theorem dX0_newUnknown_7 : decode cX0_newUnknown 7 = .ok (.invokevirtual 113, 3) := by decide +kernel
theorem dX0_newUnknown_10 : decode cX0_newUnknown 10 = .ok (.ireturn, 1) := by decide +kernel
theorem dX0_putQuestion_0 : decode cX0_putQuestion 0 = .ok (.aload_n 0, 1) := by decide +kernel
theorem dX0_putQuestion_1 : decode cX0_putQuestion 1 = .ok (.iload_n 3, 1) := by decide +kernel
theorem dX0_putQuestion_2 : decode cX0_putQuestion 2 = .ok (.iconst 0, 1) := by decide +kernel
theorem dX0_putQuestion_3 : decode cX0_putQuestion 3 = .ok (.iconst 0, 1) := by decide +kernel
theorem dX0_putQuestion_4 : decode cX0_putQuestion 4 = .ok (.aload_n 0, 1) := by decide +kernel
theorem dX0_putQuestion_5 : decode cX0_putQuestion 5 = .ok (.getfield 31, 3) := by decide +kernel
theorem dX0_putQuestion_8 : decode cX0_putQuestion 8 = .ok (.bipush 60, 2) := by decide +kernel
theorem dX0_putQuestion_10 : decode cX0_putQuestion 10 = .ok (.iload_n 1, 1) := by decide +kernel
theorem dX0_putQuestion_11 : decode cX0_putQuestion 11 = .ok (.iadd, 1) := by decide +kernel
theorem dX0_putQuestion_12 : decode cX0_putQuestion 12 = .ok (.iload_n 2, 1) := by decide +kernel
theorem dX0_putQuestion_13 : decode cX0_putQuestion 13 = .ok (.iconst (-1), 1) := by decide +kernel
theorem dX0_putQuestion_14 : decode cX0_putQuestion 14 = .ok (.invokevirtual 113, 3) := by decide +kernel
theorem dX0_putQuestion_17 : decode cX0_putQuestion 17 = .ok (.iconst (-1), 1) := by decide +kernel
theorem dX0_putQuestion_18 : decode cX0_putQuestion 18 = .ok (.invokevirtual 138, 3) := by decide +kernel
theorem dX0_putQuestion_21 : decode cX0_putQuestion 21 = .ok (.return_, 1) := by decide +kernel
theorem dX0_addToRow_0 : decode cX0_addToRow 0 = .ok (.aload_n 0, 1) := by decide +kernel
theorem dX0_addToRow_1 : decode cX0_addToRow 1 = .ok (.getfield 37, 3) := by decide +kernel
theorem dX0_addToRow_4 : decode cX0_addToRow 4 = .ok (.iload_n 1, 1) := by decide +kernel
theorem dX0_addToRow_5 : decode cX0_addToRow 5 = .ok (.iload_n 2, 1) := by decide +kernel
theorem dX0_addToRow_6 : decode cX0_addToRow 6 = .ok (.iload_n 3, 1) := by decide +kernel
theorem dX0_addToRow_7 : decode cX0_addToRow 7 = .ok (.invokevirtual 113, 3) := by decide +kernel
theorem dX0_addToRow_10 : decode cX0_addToRow 10 = .ok (.istore 6, 2) := by decide +kernel
theorem dX0_addToRow_12 : decode cX0_addToRow 12 = .ok (.aload_n 0, 1) := by decide +kernel
theorem dX0_addToRow_13 : decode cX0_addToRow 13 = .ok (.getfield 37, 3) := by decide +kernel
theorem dX0_addToRow_16 : decode cX0_addToRow 16 = .ok (.iload 6, 2) := by decide +kernel
theorem dX0_addToRow_18 : decode cX0_addToRow 18 = .ok (.iconst 3, 1) := by decide +kernel
theorem dX0_addToRow_19 : decode cX0_addToRow 19 = .ok (.iload 4, 2) := by decide +kernel
theorem dX0_addToRow_21 : decode cX0_addToRow 21 = .ok (.invokevirtual 142, 3) := by decide +kernel
theorem dX0_addToRow_24 : decode cX0_addToRow 24 = .ok (.aload_n 0, 1) := by decide +kernel
theorem dX0_addToRow_25 : decode cX0_addToRow 25 = .ok (.getfield 37, 3) := by decide +kernel
theorem dX0_addToRow_28 : decode cX0_addToRow 28 = .ok (.iload 6, 2) := by decide +kernel
theorem dX0_addToRow_30 : decode cX0_addToRow 30 = .ok (.iconst 4, 1) := by decide +kernel
theorem dX0_addToRow_31 : decode cX0_addToRow 31 = .ok (.iload 5, 2) := by decide +kernel
theorem dX0_addToRow_33 : decode cX0_addToRow 33 = .ok (.invokevirtual 142, 3) := by decide +kernel
theorem dX0_addToRow_36 : decode cX0_addToRow 36 = .ok (.aload_n 0, 1) := by decide +kernel
theorem dX0_addToRow_37 : decode cX0_addToRow 37 = .ok (.getfield 37, 3) := by decide +kernel
theorem dX0_addToRow_40 : decode cX0_addToRow 40 = .ok (.iload 6, 2) := by decide +kernel
theorem dX0_addToRow_42 : decode cX0_addToRow 42 = .ok (.iconst 5, 1) := by decide +kernel
theorem dX0_addToRow_43 : decode cX0_addToRow 43 = .ok (.iconst 0, 1) := by decide +kernel
theorem dX0_addToRow_44 : decode cX0_addToRow 44 = .ok (.invokevirtual 142, 3) := by decide +kernel
theorem dX0_addToRow_47 : decode cX0_addToRow 47 = .ok (.return_, 1) := by decide +kernel
theorem dX0_goalOf_0 : decode cX0_goalOf 0 = .ok (.aload_n 0, 1) := by decide +kernel
theorem dX0_goalOf_1 : decode cX0_goalOf 1 = .ok (.getfield 31, 3) := by decide +kernel
theorem dX0_goalOf_4 : decode cX0_goalOf 4 = .ok (.iload_n 1, 1) := by decide +kernel
theorem dX0_goalOf_5 : decode cX0_goalOf 5 = .ok (.iconst 0, 1) := by decide +kernel
theorem dX0_goalOf_6 : decode cX0_goalOf 6 = .ok (.invokevirtual 84, 3) := by decide +kernel
theorem dX0_goalOf_9 : decode cX0_goalOf 9 = .ok (.istore_n 2, 1) := by decide +kernel
theorem dX0_goalOf_10 : decode cX0_goalOf 10 = .ok (.iload_n 2, 1) := by decide +kernel
theorem dX0_goalOf_11 : decode cX0_goalOf 11 = .ok (.bipush 60, 2) := by decide +kernel
theorem dX0_goalOf_13 : decode cX0_goalOf 13 = .ok (.if_icmp .lt 28, 3) := by decide +kernel
theorem dX0_goalOf_16 : decode cX0_goalOf 16 = .ok (.aload_n 0, 1) := by decide +kernel
theorem dX0_goalOf_17 : decode cX0_goalOf 17 = .ok (.getfield 9, 3) := by decide +kernel
theorem dX0_goalOf_20 : decode cX0_goalOf 20 = .ok (.iload_n 2, 1) := by decide +kernel
theorem dX0_goalOf_21 : decode cX0_goalOf 21 = .ok (.bipush 60, 2) := by decide +kernel
theorem dX0_goalOf_23 : decode cX0_goalOf 23 = .ok (.isub, 1) := by decide +kernel
theorem dX0_goalOf_24 : decode cX0_goalOf 24 = .ok (.invokevirtual 145, 3) := by decide +kernel
theorem dX0_goalOf_27 : decode cX0_goalOf 27 = .ok (.astore_n 3, 1) := by decide +kernel
theorem dX0_goalOf_28 : decode cX0_goalOf 28 = .ok (.aload_n 3, 1) := by decide +kernel
theorem dX0_goalOf_29 : decode cX0_goalOf 29 = .ok (.ifnonnull 7, 3) := by decide +kernel
theorem dX0_goalOf_32 : decode cX0_goalOf 32 = .ok (.aconst_null, 1) := by decide +kernel
theorem dX0_goalOf_33 : decode cX0_goalOf 33 = .ok (.goto 7, 3) := by decide +kernel
theorem dX0_goalOf_36 : decode cX0_goalOf 36 = .ok (.aload_n 3, 1) := by decide +kernel
theorem dX0_goalOf_37 : decode cX0_goalOf 37 = .ok (.getfield 151, 3) := by decide +kernel
theorem dX0_goalOf_40 : decode cX0_goalOf 40 = .ok (.areturn, 1) := by decide +kernel
theorem dX0_goalOf_41 : decode cX0_goalOf 41 = .ok (.iload_n 2, 1) := by decide +kernel
theorem dX0_goalOf_42 : decode cX0_goalOf 42 = .ok (.ifCond .ge 7, 3) := by decide +kernel
theorem dX0_goalOf_45 : decode cX0_goalOf 45 = .ok (.aconst_null, 1) := by decide +kernel
theorem dX0_goalOf_46 : decode cX0_goalOf 46 = .ok (.goto 13, 3) := by decide +kernel
theorem dX0_goalOf_49 : decode cX0_goalOf 49 = .ok (.aload_n 0, 1) := by decide +kernel
theorem dX0_goalOf_50 : decode cX0_goalOf 50 = .ok (.getfield 9, 3) := by decide +kernel
theorem dX0_goalOf_53 : decode cX0_goalOf 53 = .ok (.iload_n 2, 1) := by decide +kernel
theorem dX0_goalOf_54 : decode cX0_goalOf 54 = .ok (.iconst 5, 1) := by decide +kernel
theorem dX0_goalOf_55 : decode cX0_goalOf 55 = .ok (.idiv, 1) := by decide +kernel
theorem dX0_goalOf_56 : decode cX0_goalOf 56 = .ok (.invokevirtual 155, 3) := by decide +kernel
theorem dX0_goalOf_59 : decode cX0_goalOf 59 = .ok (.astore_n 3, 1) := by decide +kernel
theorem dX0_goalOf_60 : decode cX0_goalOf 60 = .ok (.aload_n 3, 1) := by decide +kernel
theorem dX0_goalOf_61 : decode cX0_goalOf 61 = .ok (.ifnonnull 7, 3) := by decide +kernel
theorem dX0_goalOf_64 : decode cX0_goalOf 64 = .ok (.aconst_null, 1) := by decide +kernel
theorem dX0_goalOf_65 : decode cX0_goalOf 65 = .ok (.goto 10, 3) := by decide +kernel
theorem dX0_goalOf_68 : decode cX0_goalOf 68 = .ok (.aload_n 3, 1) := by decide +kernel
theorem dX0_goalOf_69 : decode cX0_goalOf 69 = .ok (.iload_n 2, 1) := by decide +kernel
theorem dX0_goalOf_70 : decode cX0_goalOf 70 = .ok (.iconst 5, 1) := by decide +kernel
theorem dX0_goalOf_71 : decode cX0_goalOf 71 = .ok (.irem, 1) := by decide +kernel
theorem dX0_goalOf_72 : decode cX0_goalOf 72 = .ok (.invokevirtual 159, 3) := by decide +kernel
theorem dX0_goalOf_75 : decode cX0_goalOf 75 = .ok (.areturn, 1) := by decide +kernel
theorem dX0_nodeOf_0 : decode cX0_nodeOf 0 = .ok (.aload_n 0, 1) := by decide +kernel
theorem dX0_nodeOf_1 : decode cX0_nodeOf 1 = .ok (.getfield 28, 3) := by decide +kernel
theorem dX0_nodeOf_4 : decode cX0_nodeOf 4 = .ok (.iload_n 2, 1) := by decide +kernel
theorem dX0_nodeOf_5 : decode cX0_nodeOf 5 = .ok (.aload_n 1, 1) := by decide +kernel
theorem dX0_nodeOf_6 : decode cX0_nodeOf 6 = .ok (.iload_n 3, 1) := by decide +kernel
theorem dX0_nodeOf_7 : decode cX0_nodeOf 7 = .ok (.invokevirtual 165, 3) := by decide +kernel
theorem dX0_nodeOf_10 : decode cX0_nodeOf 10 = .ok (.iadd, 1) := by decide +kernel
theorem dX0_nodeOf_11 : decode cX0_nodeOf 11 = .ok (.iconst 0, 1) := by decide +kernel
theorem dX0_nodeOf_12 : decode cX0_nodeOf 12 = .ok (.invokevirtual 84, 3) := by decide +kernel
theorem dX0_nodeOf_15 : decode cX0_nodeOf 15 = .ok (.ireturn, 1) := by decide +kernel
theorem dX0_takeOff_0 : decode cX0_takeOff 0 = .ok (.aload_n 0, 1) := by decide +kernel
theorem dX0_takeOff_1 : decode cX0_takeOff 1 = .ok (.dup, 1) := by decide +kernel
theorem dX0_takeOff_2 : decode cX0_takeOff 2 = .ok (.getfield 78, 3) := by decide +kernel
theorem dX0_takeOff_5 : decode cX0_takeOff 5 = .ok (.iconst 1, 1) := by decide +kernel
theorem dX0_takeOff_6 : decode cX0_takeOff 6 = .ok (.iadd, 1) := by decide +kernel
theorem dX0_takeOff_7 : decode cX0_takeOff 7 = .ok (.putfield 78, 3) := by decide +kernel
theorem dX0_takeOff_10 : decode cX0_takeOff 10 = .ok (.aload_n 0, 1) := by decide +kernel
theorem dX0_takeOff_11 : decode cX0_takeOff 11 = .ok (.getfield 37, 3) := by decide +kernel
theorem dX0_takeOff_14 : decode cX0_takeOff 14 = .ok (.aload_n 0, 1) := by decide +kernel
theorem dX0_takeOff_15 : decode cX0_takeOff 15 = .ok (.getfield 66, 3) := by decide +kernel
theorem dX0_takeOff_18 : decode cX0_takeOff 18 = .ok (.iconst 4, 1) := by decide +kernel
theorem dX0_takeOff_19 : decode cX0_takeOff 19 = .ok (.invokevirtual 84, 3) := by decide +kernel
theorem dX0_takeOff_22 : decode cX0_takeOff 22 = .ok (.istore_n 1, 1) := by decide +kernel
theorem dX0_takeOff_23 : decode cX0_takeOff 23 = .ok (.aload_n 0, 1) := by decide +kernel
theorem dX0_takeOff_24 : decode cX0_takeOff 24 = .ok (.getfield 34, 3) := by decide +kernel
theorem dX0_takeOff_27 : decode cX0_takeOff 27 = .ok (.aload_n 0, 1) := by decide +kernel
theorem dX0_takeOff_28 : decode cX0_takeOff 28 = .ok (.getfield 37, 3) := by decide +kernel
theorem dX0_takeOff_31 : decode cX0_takeOff 31 = .ok (.aload_n 0, 1) := by decide +kernel
theorem dX0_takeOff_32 : decode cX0_takeOff 32 = .ok (.getfield 66, 3) := by decide +kernel
theorem dX0_takeOff_35 : decode cX0_takeOff 35 = .ok (.iconst 0, 1) := by decide +kernel
theorem dX0_takeOff_36 : decode cX0_takeOff 36 = .ok (.invokevirtual 84, 3) := by decide +kernel
theorem dX0_takeOff_39 : decode cX0_takeOff 39 = .ok (.aload_n 0, 1) := by decide +kernel
theorem dX0_takeOff_40 : decode cX0_takeOff 40 = .ok (.getfield 37, 3) := by decide +kernel
theorem dX0_takeOff_43 : decode cX0_takeOff 43 = .ok (.aload_n 0, 1) := by decide +kernel
theorem dX0_takeOff_44 : decode cX0_takeOff 44 = .ok (.getfield 66, 3) := by decide +kernel
theorem dX0_takeOff_47 : decode cX0_takeOff 47 = .ok (.iconst 1, 1) := by decide +kernel
theorem dX0_takeOff_48 : decode cX0_takeOff 48 = .ok (.invokevirtual 84, 3) := by decide +kernel
theorem dX0_takeOff_51 : decode cX0_takeOff 51 = .ok (.aload_n 0, 1) := by decide +kernel
theorem dX0_takeOff_52 : decode cX0_takeOff 52 = .ok (.getfield 37, 3) := by decide +kernel
theorem dX0_takeOff_55 : decode cX0_takeOff 55 = .ok (.aload_n 0, 1) := by decide +kernel
theorem dX0_takeOff_56 : decode cX0_takeOff 56 = .ok (.getfield 66, 3) := by decide +kernel
theorem dX0_takeOff_59 : decode cX0_takeOff 59 = .ok (.iconst 2, 1) := by decide +kernel
theorem dX0_takeOff_60 : decode cX0_takeOff 60 = .ok (.invokevirtual 84, 3) := by decide +kernel
theorem dX0_takeOff_63 : decode cX0_takeOff 63 = .ok (.invokevirtual 113, 3) := by decide +kernel
theorem dX0_takeOff_66 : decode cX0_takeOff 66 = .ok (.istore_n 2, 1) := by decide +kernel
theorem dX0_takeOff_67 : decode cX0_takeOff 67 = .ok (.aload_n 0, 1) := by decide +kernel
theorem dX0_takeOff_68 : decode cX0_takeOff 68 = .ok (.getfield 34, 3) := by decide +kernel
theorem dX0_takeOff_71 : decode cX0_takeOff 71 = .ok (.iload_n 2, 1) := by decide +kernel
theorem dX0_takeOff_72 : decode cX0_takeOff 72 = .ok (.iconst 3, 1) := by decide +kernel
theorem dX0_takeOff_73 : decode cX0_takeOff 73 = .ok (.aload_n 0, 1) := by decide +kernel
theorem dX0_takeOff_74 : decode cX0_takeOff 74 = .ok (.getfield 37, 3) := by decide +kernel
theorem dX0_takeOff_77 : decode cX0_takeOff 77 = .ok (.aload_n 0, 1) := by decide +kernel
theorem dX0_takeOff_78 : decode cX0_takeOff 78 = .ok (.getfield 66, 3) := by decide +kernel
theorem dX0_takeOff_81 : decode cX0_takeOff 81 = .ok (.iconst 3, 1) := by decide +kernel
theorem dX0_takeOff_82 : decode cX0_takeOff 82 = .ok (.invokevirtual 84, 3) := by decide +kernel
theorem dX0_takeOff_85 : decode cX0_takeOff 85 = .ok (.invokevirtual 142, 3) := by decide +kernel
theorem dX0_takeOff_88 : decode cX0_takeOff 88 = .ok (.aload_n 0, 1) := by decide +kernel
theorem dX0_takeOff_89 : decode cX0_takeOff 89 = .ok (.iload_n 1, 1) := by decide +kernel
theorem dX0_takeOff_90 : decode cX0_takeOff 90 = .ok (.invokevirtual 170, 3) := by decide +kernel
theorem dX0_takeOff_93 : decode cX0_takeOff 93 = .ok (.astore_n 3, 1) := by decide +kernel
theorem dX0_takeOff_94 : decode cX0_takeOff 94 = .ok (.aload_n 3, 1) := by decide +kernel
theorem dX0_takeOff_95 : decode cX0_takeOff 95 = .ok (.ifnonnull 7, 3) := by decide +kernel
theorem dX0_takeOff_98 : decode cX0_takeOff 98 = .ok (.aconst_null, 1) := by decide +kernel
theorem dX0_takeOff_99 : decode cX0_takeOff 99 = .ok (.goto 14, 3) := by decide +kernel
theorem dX0_takeOff_102 : decode cX0_takeOff 102 = .ok (.aload_n 0, 1) := by decide +kernel
theorem dX0_takeOff_103 : decode cX0_takeOff 103 = .ok (.getfield 9, 3) := by decide +kernel
theorem dX0_takeOff_106 : decode cX0_takeOff 106 = .ok (.aload_n 3, 1) := by decide +kernel
theorem dX0_takeOff_107 : decode cX0_takeOff 107 = .ok (.getfield 173, 3) := by decide +kernel
theorem dX0_takeOff_110 : decode cX0_takeOff 110 = .ok (.invokevirtual 145, 3) := by decide +kernel
theorem dX0_takeOff_113 : decode cX0_takeOff 113 = .ok (.astore 4, 2) := by decide +kernel
theorem dX0_takeOff_115 : decode cX0_takeOff 115 = .ok (.aload_n 0, 1) := by decide +kernel
theorem dX0_takeOff_116 : decode cX0_takeOff 116 = .ok (.getfield 37, 3) := by decide +kernel
