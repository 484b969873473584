theorem dX7_newClause_30 : decode cX7_newClause 30 = .ok (.invokevirtual 47, 3) := by decide +kernel
theorem dX7_newClause_33 : decode cX7_newClause 33 = .ok (.pop, 1) := by decide +kernel
theorem dX7_newClause_34 : decode cX7_newClause 34 = .ok (.aload_n 2, 1) := by decide +kernel
theorem dX7_newClause_35 : decode cX7_newClause 35 = .ok (.getfield 65, 3) := by decide +kernel
theorem dX7_newClause_38 : decode cX7_newClause 38 = .ok (.ireturn, 1) := by decide +kernel
theorem dX7_faultCount_0 : decode cX7_faultCount 0 = .ok (.iconst 0, 1) := by decide +kernel
theorem dX7_faultCount_1 : decode cX7_faultCount 1 = .ok (.istore_n 1, 1) := by decide +kernel
theorem dX7_faultCount_2 : decode cX7_faultCount 2 = .ok (.iconst 0, 1) := by decide +kernel
theorem dX7_faultCount_3 : decode cX7_faultCount 3 = .ok (.istore_n 2, 1) := by decide +kernel
theorem dX7_faultCount_4 : decode cX7_faultCount 4 = .ok (.iload_n 2, 1) := by decide +kernel
theorem dX7_faultCount_5 : decode cX7_faultCount 5 = .ok (.aload_n 0, 1) := by decide +kernel
theorem dX7_faultCount_6 : decode cX7_faultCount 6 = .ok (.getfield 18, 3) := by decide +kernel
theorem dX7_faultCount_9 : decode cX7_faultCount 9 = .ok (.invokevirtual 24, 3) := by decide +kernel
theorem dX7_faultCount_12 : decode cX7_faultCount 12 = .ok (.if_icmp .ge 36, 3) := by decide +kernel
theorem dX7_faultCount_15 : decode cX7_faultCount 15 = .ok (.iload_n 1, 1) := by decide +kernel
theorem dX7_faultCount_16 : decode cX7_faultCount 16 = .ok (.aload_n 0, 1) := by decide +kernel
theorem dX7_faultCount_17 : decode cX7_faultCount 17 = .ok (.getfield 18, 3) := by decide +kernel
theorem dX7_faultCount_20 : decode cX7_faultCount 20 = .ok (.iload_n 2, 1) := by decide +kernel
theorem dX7_faultCount_21 : decode cX7_faultCount 21 = .ok (.invokevirtual 28, 3) := by decide +kernel
theorem dX7_faultCount_24 : decode cX7_faultCount 24 = .ok (.checkcast 51, 3) := by decide +kernel
theorem dX7_faultCount_27 : decode cX7_faultCount 27 = .ok (.invokevirtual 66, 3) := by decide +kernel
theorem dX7_faultCount_30 : decode cX7_faultCount 30 = .ok (.bipush 45, 2) := by decide +kernel
theorem dX7_faultCount_32 : decode cX7_faultCount 32 = .ok (.if_icmp .ne 7, 3) := by decide +kernel
theorem dX7_faultCount_35 : decode cX7_faultCount 35 = .ok (.iconst 0, 1) := by decide +kernel
theorem dX7_faultCount_36 : decode cX7_faultCount 36 = .ok (.goto 4, 3) := by decide +kernel
theorem dX7_faultCount_39 : decode cX7_faultCount 39 = .ok (.iconst 1, 1) := by decide +kernel
theorem dX7_faultCount_40 : decode cX7_faultCount 40 = .ok (.iadd, 1) := by decide +kernel
theorem dX7_faultCount_41 : decode cX7_faultCount 41 = .ok (.istore_n 1, 1) := by decide +kernel
theorem dX7_faultCount_42 : decode cX7_faultCount 42 = .ok (.iinc 2 1, 3) := by decide +kernel
theorem dX7_faultCount_45 : decode cX7_faultCount 45 = .ok (.goto (-41), 3) := by decide +kernel
theorem dX7_faultCount_48 : decode cX7_faultCount 48 = .ok (.iload_n 1, 1) := by decide +kernel
theorem dX7_faultCount_49 : decode cX7_faultCount 49 = .ok (.ireturn, 1) := by decide +kernel
theorem dX7_analyse_0 : decode cX7_analyse 0 = .ok (.iconst 0, 1) := by decide +kernel
theorem dX7_analyse_1 : decode cX7_analyse 1 = .ok (.istore_n 2, 1) := by decide +kernel
theorem dX7_analyse_2 : decode cX7_analyse 2 = .ok (.iload_n 2, 1) := by decide +kernel
theorem dX7_analyse_3 : decode cX7_analyse 3 = .ok (.aload_n 0, 1) := by decide +kernel
theorem dX7_analyse_4 : decode cX7_analyse 4 = .ok (.getfield 18, 3) := by decide +kernel
theorem dX7_analyse_7 : decode cX7_analyse 7 = .ok (.invokevirtual 24, 3) := by decide +kernel
theorem dX7_analyse_10 : decode cX7_analyse 10 = .ok (.if_icmp .ge 72, 3) := by decide +kernel
theorem dX7_analyse_13 : decode cX7_analyse 13 = .ok (.aload_n 0, 1) := by decide +kernel
theorem dX7_analyse_14 : decode cX7_analyse 14 = .ok (.getfield 18, 3) := by decide +kernel
theorem dX7_analyse_17 : decode cX7_analyse 17 = .ok (.iload_n 2, 1) := by decide +kernel
theorem dX7_analyse_18 : decode cX7_analyse 18 = .ok (.invokevirtual 28, 3) := by decide +kernel
theorem dX7_analyse_21 : decode cX7_analyse 21 = .ok (.checkcast 51, 3) := by decide +kernel
theorem dX7_analyse_24 : decode cX7_analyse 24 = .ok (.astore_n 3, 1) := by decide +kernel
theorem dX7_analyse_25 : decode cX7_analyse 25 = .ok (.aload_n 3, 1) := by decide +kernel
theorem dX7_analyse_26 : decode cX7_analyse 26 = .ok (.aload_n 0, 1) := by decide +kernel
theorem dX7_analyse_27 : decode cX7_analyse 27 = .ok (.aload_n 3, 1) := by decide +kernel
theorem dX7_analyse_28 : decode cX7_analyse 28 = .ok (.invokevirtual 77, 3) := by decide +kernel
theorem dX7_analyse_31 : decode cX7_analyse 31 = .ok (.ifCond .ne 7, 3) := by decide +kernel
theorem dX7_analyse_34 : decode cX7_analyse 34 = .ok (.iconst 1, 1) := by decide +kernel
theorem dX7_analyse_35 : decode cX7_analyse 35 = .ok (.goto 4, 3) := by decide +kernel
theorem dX7_analyse_38 : decode cX7_analyse 38 = .ok (.iconst 0, 1) := by decide +kernel
theorem dX7_analyse_39 : decode cX7_analyse 39 = .ok (.putfield 81, 3) := by decide +kernel
theorem dX7_analyse_42 : decode cX7_analyse 42 = .ok (.aload_n 3, 1) := by decide +kernel
theorem dX7_analyse_43 : decode cX7_analyse 43 = .ok (.aload_n 3, 1) := by decide +kernel
theorem dX7_analyse_44 : decode cX7_analyse 44 = .ok (.getfield 81, 3) := by decide +kernel
theorem dX7_analyse_47 : decode cX7_analyse 47 = .ok (.ifCond .ne 7, 3) := by decide +kernel
theorem dX7_analyse_50 : decode cX7_analyse 50 = .ok (.iconst 1, 1) := by decide +kernel
theorem dX7_analyse_51 : decode cX7_analyse 51 = .ok (.goto 4, 3) := by decide +kernel
theorem dX7_analyse_54 : decode cX7_analyse 54 = .ok (.iconst 0, 1) := by decide +kernel
theorem dX7_analyse_55 : decode cX7_analyse 55 = .ok (.putfield 70, 3) := by decide +kernel
theorem dX7_analyse_58 : decode cX7_analyse 58 = .ok (.aload_n 3, 1) := by decide +kernel
theorem dX7_analyse_59 : decode cX7_analyse 59 = .ok (.iconst 0, 1) := by decide +kernel
theorem dX7_analyse_60 : decode cX7_analyse 60 = .ok (.putfield 84, 3) := by decide +kernel
theorem dX7_analyse_63 : decode cX7_analyse 63 = .ok (.aload_n 3, 1) := by decide +kernel
theorem dX7_analyse_64 : decode cX7_analyse 64 = .ok (.iconst 0, 1) := by decide +kernel
theorem dX7_analyse_65 : decode cX7_analyse 65 = .ok (.putfield 74, 3) := by decide +kernel
theorem dX7_analyse_68 : decode cX7_analyse 68 = .ok (.aload_n 3, 1) := by decide +kernel
theorem dX7_analyse_69 : decode cX7_analyse 69 = .ok (.aload_n 3, 1) := by decide +kernel
theorem dX7_analyse_70 : decode cX7_analyse 70 = .ok (.invokestatic 87, 3) := by decide +kernel
theorem dX7_analyse_73 : decode cX7_analyse 73 = .ok (.putfield 91, 3) := by decide +kernel
theorem dX7_analyse_76 : decode cX7_analyse 76 = .ok (.iinc 2 1, 3) := by decide +kernel
theorem dX7_analyse_79 : decode cX7_analyse 79 = .ok (.goto (-77), 3) := by decide +kernel
theorem dX7_analyse_82 : decode cX7_analyse 82 = .ok (.iconst 1, 1) := by decide +kernel
theorem dX7_analyse_83 : decode cX7_analyse 83 = .ok (.istore_n 2, 1) := by decide +kernel
theorem dX7_analyse_84 : decode cX7_analyse 84 = .ok (.iconst 0, 1) := by decide +kernel
theorem dX7_analyse_85 : decode cX7_analyse 85 = .ok (.istore_n 3, 1) := by decide +kernel
theorem dX7_analyse_86 : decode cX7_analyse 86 = .ok (.iload_n 3, 1) := by decide +kernel
theorem dX7_analyse_87 : decode cX7_analyse 87 = .ok (.aload_n 0, 1) := by decide +kernel
theorem dX7_analyse_88 : decode cX7_analyse 88 = .ok (.getfield 18, 3) := by decide +kernel
theorem dX7_analyse_91 : decode cX7_analyse 91 = .ok (.invokevirtual 24, 3) := by decide +kernel
theorem dX7_analyse_94 : decode cX7_analyse 94 = .ok (.if_icmp .gt 18, 3) := by decide +kernel
theorem dX7_analyse_97 : decode cX7_analyse 97 = .ok (.iload_n 2, 1) := by decide +kernel
theorem dX7_analyse_98 : decode cX7_analyse 98 = .ok (.ifCond .eq 14, 3) := by decide +kernel
theorem dX7_analyse_101 : decode cX7_analyse 101 = .ok (.aload_n 0, 1) := by decide +kernel
theorem dX7_analyse_102 : decode cX7_analyse 102 = .ok (.invokevirtual 94, 3) := by decide +kernel
theorem dX7_analyse_105 : decode cX7_analyse 105 = .ok (.istore_n 2, 1) := by decide +kernel
theorem dX7_analyse_106 : decode cX7_analyse 106 = .ok (.iinc 3 1, 3) := by decide +kernel
theorem dX7_analyse_109 : decode cX7_analyse 109 = .ok (.goto (-23), 3) := by decide +kernel
theorem dX7_analyse_112 : decode cX7_analyse 112 = .ok (.iconst 1, 1) := by decide +kernel
theorem dX7_analyse_113 : decode cX7_analyse 113 = .ok (.istore_n 2, 1) := by decide +kernel
theorem dX7_analyse_114 : decode cX7_analyse 114 = .ok (.iconst 0, 1) := by decide +kernel
theorem dX7_analyse_115 : decode cX7_analyse 115 = .ok (.istore_n 3, 1) := by decide +kernel
theorem dX7_analyse_116 : decode cX7_analyse 116 = .ok (.iload_n 3, 1) := by decide +kernel
theorem dX7_analyse_117 : decode cX7_analyse 117 = .ok (.iconst 2, 1) := by decide +kernel
theorem dX7_analyse_118 : decode cX7_analyse 118 = .ok (.aload_n 0, 1) := by decide +kernel
theorem dX7_analyse_119 : decode cX7_analyse 119 = .ok (.getfield 18, 3) := by decide +kernel
theorem dX7_analyse_122 : decode cX7_analyse 122 = .ok (.invokevirtual 24, 3) := by decide +kernel
theorem dX7_analyse_125 : decode cX7_analyse 125 = .ok (.imul, 1) := by decide +kernel
theorem dX7_analyse_126 : decode cX7_analyse 126 = .ok (.if_icmp .gt 19, 3) := by decide +kernel
theorem dX7_analyse_129 : decode cX7_analyse 129 = .ok (.iload_n 2, 1) := by decide +kernel
theorem dX7_analyse_130 : decode cX7_analyse 130 = .ok (.ifCond .eq 15, 3) := by decide +kernel
theorem dX7_analyse_133 : decode cX7_analyse 133 = .ok (.aload_n 0, 1) := by decide +kernel
theorem dX7_analyse_134 : decode cX7_analyse 134 = .ok (.aload_n 1, 1) := by decide +kernel
theorem dX7_analyse_135 : decode cX7_analyse 135 = .ok (.invokevirtual 98, 3) := by decide +kernel
theorem dX7_analyse_138 : decode cX7_analyse 138 = .ok (.istore_n 2, 1) := by decide +kernel
theorem dX7_analyse_139 : decode cX7_analyse 139 = .ok (.iinc 3 1, 3) := by decide +kernel
theorem dX7_analyse_142 : decode cX7_analyse 142 = .ok (.goto (-26), 3) := by decide +kernel
theorem dX7_analyse_145 : decode cX7_analyse 145 = .ok (.return_, 1) := by decide +kernel
theorem dX7_putInOrder_0 : decode cX7_putInOrder 0 = .ok (.iconst 1, 1) := by decide +kernel
theorem dX7_putInOrder_1 : decode cX7_putInOrder 1 = .ok (.istore_n 2, 1) := by decide +kernel
theorem dX7_putInOrder_2 : decode cX7_putInOrder 2 = .ok (.iconst 0, 1) := by decide +kernel
theorem dX7_putInOrder_3 : decode cX7_putInOrder 3 = .ok (.istore_n 3, 1) := by decide +kernel
theorem dX7_putInOrder_4 : decode cX7_putInOrder 4 = .ok (.iload_n 3, 1) := by decide +kernel
theorem dX7_putInOrder_5 : decode cX7_putInOrder 5 = .ok (.aload_n 1, 1) := by decide +kernel
theorem dX7_putInOrder_6 : decode cX7_putInOrder 6 = .ok (.getfield 102, 3) := by decide +kernel
theorem dX7_putInOrder_9 : decode cX7_putInOrder 9 = .ok (.invokevirtual 106, 3) := by decide +kernel
theorem dX7_putInOrder_12 : decode cX7_putInOrder 12 = .ok (.if_icmp .ge 36, 3) := by decide +kernel
theorem dX7_putInOrder_15 : decode cX7_putInOrder 15 = .ok (.aload_n 1, 1) := by decide +kernel
theorem dX7_putInOrder_16 : decode cX7_putInOrder 16 = .ok (.getfield 102, 3) := by decide +kernel
theorem dX7_putInOrder_19 : decode cX7_putInOrder 19 = .ok (.iload_n 3, 1) := by decide +kernel
theorem dX7_putInOrder_20 : decode cX7_putInOrder 20 = .ok (.invokevirtual 109, 3) := by decide +kernel
theorem dX7_putInOrder_23 : decode cX7_putInOrder 23 = .ok (.astore 4, 2) := by decide +kernel
theorem dX7_putInOrder_25 : decode cX7_putInOrder 25 = .ok (.aload 4, 2) := by decide +kernel
theorem dX7_putInOrder_27 : decode cX7_putInOrder 27 = .ok (.ifnull 15, 3) := by decide +kernel
theorem dX7_putInOrder_30 : decode cX7_putInOrder 30 = .ok (.aload_n 0, 1) := by decide +kernel
theorem dX7_putInOrder_31 : decode cX7_putInOrder 31 = .ok (.aload 4, 2) := by decide +kernel
theorem dX7_putInOrder_33 : decode cX7_putInOrder 33 = .ok (.aload_n 1, 1) := by decide +kernel
theorem dX7_putInOrder_34 : decode cX7_putInOrder 34 = .ok (.invokevirtual 113, 3) := by decide +kernel
theorem dX7_putInOrder_37 : decode cX7_putInOrder 37 = .ok (.ifCond .ne 5, 3) := by decide +kernel
theorem dX7_putInOrder_40 : decode cX7_putInOrder 40 = .ok (.iconst 0, 1) := by decide +kernel
theorem dX7_putInOrder_41 : decode cX7_putInOrder 41 = .ok (.istore_n 2, 1) := by decide +kernel
theorem dX7_putInOrder_42 : decode cX7_putInOrder 42 = .ok (.iinc 3 1, 3) := by decide +kernel
theorem dX7_putInOrder_45 : decode cX7_putInOrder 45 = .ok (.goto (-41), 3) := by decide +kernel
theorem dX7_putInOrder_48 : decode cX7_putInOrder 48 = .ok (.iload_n 2, 1) := by decide +kernel
theorem dX7_putInOrder_49 : decode cX7_putInOrder 49 = .ok (.ireturn, 1) := by decide +kernel
theorem dX7_putClauseInOrder_0 : decode cX7_putClauseInOrder 0 = .ok (.aload_n 1, 1) := by decide +kernel
theorem dX7_putClauseInOrder_1 : decode cX7_putClauseInOrder 1 = .ok (.aload_n 2, 1) := by decide +kernel
theorem dX7_putClauseInOrder_2 : decode cX7_putClauseInOrder 2 = .ok (.getfield 57, 3) := by decide +kernel
theorem dX7_putClauseInOrder_5 : decode cX7_putClauseInOrder 5 = .ok (.invokevirtual 117, 3) := by decide +kernel
theorem dX7_putClauseInOrder_8 : decode cX7_putClauseInOrder 8 = .ok (.aload_n 2, 1) := by decide +kernel
theorem dX7_putClauseInOrder_9 : decode cX7_putClauseInOrder 9 = .ok (.getfield 121, 3) := by decide +kernel
theorem dX7_putClauseInOrder_12 : decode cX7_putClauseInOrder 12 = .ok (.istore_n 3, 1) := by decide +kernel
theorem dX7_putClauseInOrder_13 : decode cX7_putClauseInOrder 13 = .ok (.iconst 0, 1) := by decide +kernel
theorem dX7_putClauseInOrder_14 : decode cX7_putClauseInOrder 14 = .ok (.istore 4, 2) := by decide +kernel
theorem dX7_putClauseInOrder_16 : decode cX7_putClauseInOrder 16 = .ok (.iconst 0, 1) := by decide +kernel
theorem dX7_putClauseInOrder_17 : decode cX7_putClauseInOrder 17 = .ok (.istore 5, 2) := by decide +kernel
theorem dX7_putClauseInOrder_19 : decode cX7_putClauseInOrder 19 = .ok (.iload 5, 2) := by decide +kernel
theorem dX7_putClauseInOrder_21 : decode cX7_putClauseInOrder 21 = .ok (.aload_n 1, 1) := by decide +kernel
theorem dX7_putClauseInOrder_22 : decode cX7_putClauseInOrder 22 = .ok (.invokevirtual 124, 3) := by decide +kernel
theorem dX7_putClauseInOrder_25 : decode cX7_putClauseInOrder 25 = .ok (.if_icmp .ge 70, 3) := by decide +kernel
theorem dX7_putClauseInOrder_28 : decode cX7_putClauseInOrder 28 = .ok (.aload_n 0, 1) := by decide +kernel
theorem dX7_putClauseInOrder_29 : decode cX7_putClauseInOrder 29 = .ok (.aload_n 1, 1) := by decide +kernel
theorem dX7_putClauseInOrder_30 : decode cX7_putClauseInOrder 30 = .ok (.iload 4, 2) := by decide +kernel
theorem dX7_putClauseInOrder_32 : decode cX7_putClauseInOrder 32 = .ok (.iload_n 3, 1) := by decide +kernel
theorem dX7_putClauseInOrder_33 : decode cX7_putClauseInOrder 33 = .ok (.invokevirtual 127, 3) := by decide +kernel
theorem dX7_putClauseInOrder_36 : decode cX7_putClauseInOrder 36 = .ok (.istore 6, 2) := by decide +kernel
theorem dX7_putClauseInOrder_38 : decode cX7_putClauseInOrder 38 = .ok (.aload_n 1, 1) := by decide +kernel
theorem dX7_putClauseInOrder_39 : decode cX7_putClauseInOrder 39 = .ok (.iload 6, 2) := by decide +kernel
theorem dX7_putClauseInOrder_41 : decode cX7_putClauseInOrder 41 = .ok (.invokevirtual 131, 3) := by decide +kernel
theorem dX7_putClauseInOrder_44 : decode cX7_putClauseInOrder 44 = .ok (.astore 7, 2) := by decide +kernel
theorem dX7_putClauseInOrder_46 : decode cX7_putClauseInOrder 46 = .ok (.aload 7, 2) := by decide +kernel
theorem dX7_putClauseInOrder_48 : decode cX7_putClauseInOrder 48 = .ok (.ifnonnull 5, 3) := by decide +kernel
theorem dX7_putClauseInOrder_51 : decode cX7_putClauseInOrder 51 = .ok (.iconst 0, 1) := by decide +kernel
theorem dX7_putClauseInOrder_52 : decode cX7_putClauseInOrder 52 = .ok (.ireturn, 1) := by decide +kernel
theorem dX7_putClauseInOrder_53 : decode cX7_putClauseInOrder 53 = .ok (.aload_n 1, 1) := by decide +kernel
theorem dX7_putClauseInOrder_54 : decode cX7_putClauseInOrder 54 = .ok (.aload_n 2, 1) := by decide +kernel
theorem dX7_putClauseInOrder_55 : decode cX7_putClauseInOrder 55 = .ok (.getfield 57, 3) := by decide +kernel
theorem dX7_putClauseInOrder_58 : decode cX7_putClauseInOrder 58 = .ok (.iload 6, 2) := by decide +kernel
theorem dX7_putClauseInOrder_60 : decode cX7_putClauseInOrder 60 = .ok (.aload_n 0, 1) := by decide +kernel
theorem dX7_putClauseInOrder_61 : decode cX7_putClauseInOrder 61 = .ok (.aload 7, 2) := by decide +kernel
theorem dX7_putClauseInOrder_63 : decode cX7_putClauseInOrder 63 = .ok (.iload_n 3, 1) := by decide +kernel
theorem dX7_putClauseInOrder_64 : decode cX7_putClauseInOrder 64 = .ok (.invokevirtual 135, 3) := by decide +kernel
theorem dX7_putClauseInOrder_67 : decode cX7_putClauseInOrder 67 = .ok (.iload_n 3, 1) := by decide +kernel
theorem dX7_putClauseInOrder_68 : decode cX7_putClauseInOrder 68 = .ok (.invokevirtual 139, 3) := by decide +kernel
theorem dX7_putClauseInOrder_71 : decode cX7_putClauseInOrder 71 = .ok (.iload 4, 2) := by decide +kernel
theorem dX7_putClauseInOrder_73 : decode cX7_putClauseInOrder 73 = .ok (.iconst 1, 1) := by decide +kernel
theorem dX7_putClauseInOrder_74 : decode cX7_putClauseInOrder 74 = .ok (.iload 6, 2) := by decide +kernel
theorem dX7_putClauseInOrder_76 : decode cX7_putClauseInOrder 76 = .ok (.ishl, 1) := by decide +kernel
theorem dX7_putClauseInOrder_77 : decode cX7_putClauseInOrder 77 = .ok (.ior, 1) := by decide +kernel
theorem dX7_putClauseInOrder_78 : decode cX7_putClauseInOrder 78 = .ok (.istore 4, 2) := by decide +kernel
theorem dX7_putClauseInOrder_80 : decode cX7_putClauseInOrder 80 = .ok (.iload_n 3, 1) := by decide +kernel
theorem dX7_putClauseInOrder_81 : decode cX7_putClauseInOrder 81 = .ok (.aload 7, 2) := by decide +kernel
theorem dX7_putClauseInOrder_83 : decode cX7_putClauseInOrder 83 = .ok (.iconst 0, 1) := by decide +kernel
theorem dX7_putClauseInOrder_84 : decode cX7_putClauseInOrder 84 = .ok (.invokevirtual 143, 3) := by decide +kernel
theorem dX7_putClauseInOrder_87 : decode cX7_putClauseInOrder 87 = .ok (.ior, 1) := by decide +kernel
theorem dX7_putClauseInOrder_88 : decode cX7_putClauseInOrder 88 = .ok (.istore_n 3, 1) := by decide +kernel
theorem dX7_putClauseInOrder_89 : decode cX7_putClauseInOrder 89 = .ok (.iinc 5 1, 3) := by decide +kernel
theorem dX7_putClauseInOrder_92 : decode cX7_putClauseInOrder 92 = .ok (.goto (-73), 3) := by decide +kernel
theorem dX7_putClauseInOrder_95 : decode cX7_putClauseInOrder 95 = .ok (.aload_n 2, 1) := by decide +kernel
theorem dX7_putClauseInOrder_96 : decode cX7_putClauseInOrder 96 = .ok (.getfield 102, 3) := by decide +kernel
theorem dX7_putClauseInOrder_99 : decode cX7_putClauseInOrder 99 = .ok (.invokevirtual 149, 3) := by decide +kernel
theorem dX7_putClauseInOrder_102 : decode cX7_putClauseInOrder 102 = .ok (.iload_n 3, 1) := by decide +kernel
theorem dX7_putClauseInOrder_103 : decode cX7_putClauseInOrder 103 = .ok (.iconst (-1), 1) := by decide +kernel
theorem dX7_putClauseInOrder_104 : decode cX7_putClauseInOrder 104 = .ok (.ixor, 1) := by decide +kernel
theorem dX7_putClauseInOrder_105 : decode cX7_putClauseInOrder 105 = .ok (.iand, 1) := by decide +kernel
theorem dX7_putClauseInOrder_106 : decode cX7_putClauseInOrder 106 = .ok (.ifCond .ne 7, 3) := by decide +kernel
theorem dX7_putClauseInOrder_109 : decode cX7_putClauseInOrder 109 = .ok (.iconst 1, 1) := by decide +kernel
theorem dX7_putClauseInOrder_110 : decode cX7_putClauseInOrder 110 = .ok (.goto 4, 3) := by decide +kernel
theorem dX7_putClauseInOrder_113 : decode cX7_putClauseInOrder 113 = .ok (.iconst 0, 1) := by decide +kernel
theorem dX7_putClauseInOrder_114 : decode cX7_putClauseInOrder 114 = .ok (.ireturn, 1) := by decide +kernel
theorem dX7_nextGoal_0 : decode cX7_nextGoal 0 = .ok (.iconst 0, 1) := by decide +kernel
theorem dX7_nextGoal_1 : decode cX7_nextGoal 1 = .ok (.istore 4, 2) := by decide +kernel
theorem dX7_nextGoal_3 : decode cX7_nextGoal 3 = .ok (.iload 4, 2) := by decide +kernel
theorem dX7_nextGoal_5 : decode cX7_nextGoal 5 = .ok (.aload_n 1, 1) := by decide +kernel
theorem dX7_nextGoal_6 : decode cX7_nextGoal 6 = .ok (.invokevirtual 124, 3) := by decide +kernel
theorem dX7_nextGoal_9 : decode cX7_nextGoal 9 = .ok (.if_icmp .ge 62, 3) := by decide +kernel
theorem dX7_nextGoal_12 : decode cX7_nextGoal 12 = .ok (.aload_n 1, 1) := by decide +kernel
theorem dX7_nextGoal_13 : decode cX7_nextGoal 13 = .ok (.iload 4, 2) := by decide +kernel
theorem dX7_nextGoal_15 : decode cX7_nextGoal 15 = .ok (.invokevirtual 131, 3) := by decide +kernel
theorem dX7_nextGoal_18 : decode cX7_nextGoal 18 = .ok (.astore 5, 2) := by decide +kernel
theorem dX7_nextGoal_20 : decode cX7_nextGoal 20 = .ok (.iload_n 2, 1) := by decide +kernel
theorem dX7_nextGoal_21 : decode cX7_nextGoal 21 = .ok (.iload 4, 2) := by decide +kernel
theorem dX7_nextGoal_23 : decode cX7_nextGoal 23 = .ok (.ishr, 1) := by decide +kernel
theorem dX7_nextGoal_24 : decode cX7_nextGoal 24 = .ok (.iconst 1, 1) := by decide +kernel
theorem dX7_nextGoal_25 : decode cX7_nextGoal 25 = .ok (.iand, 1) := by decide +kernel
theorem dX7_nextGoal_26 : decode cX7_nextGoal 26 = .ok (.ifCond .ne 7, 3) := by decide +kernel
theorem dX7_nextGoal_29 : decode cX7_nextGoal 29 = .ok (.iconst 1, 1) := by decide +kernel
theorem dX7_nextGoal_30 : decode cX7_nextGoal 30 = .ok (.goto 4, 3) := by decide +kernel
theorem dX7_nextGoal_33 : decode cX7_nextGoal 33 = .ok (.iconst 0, 1) := by decide +kernel
theorem dX7_nextGoal_34 : decode cX7_nextGoal 34 = .ok (.istore 6, 2) := by decide +kernel
theorem dX7_nextGoal_36 : decode cX7_nextGoal 36 = .ok (.iload 6, 2) := by decide +kernel
theorem dX7_nextGoal_38 : decode cX7_nextGoal 38 = .ok (.ifCond .eq 27, 3) := by decide +kernel
theorem dX7_nextGoal_41 : decode cX7_nextGoal 41 = .ok (.aload 5, 2) := by decide +kernel
theorem dX7_nextGoal_43 : decode cX7_nextGoal 43 = .ok (.ifnull 22, 3) := by decide +kernel
theorem dX7_nextGoal_46 : decode cX7_nextGoal 46 = .ok (.aload 5, 2) := by decide +kernel
theorem dX7_nextGoal_48 : decode cX7_nextGoal 48 = .ok (.aload_n 0, 1) := by decide +kernel
theorem dX7_nextGoal_49 : decode cX7_nextGoal 49 = .ok (.aload 5, 2) := by decide +kernel
theorem dX7_nextGoal_51 : decode cX7_nextGoal 51 = .ok (.iload_n 3, 1) := by decide +kernel
theorem dX7_nextGoal_52 : decode cX7_nextGoal 52 = .ok (.invokevirtual 135, 3) := by decide +kernel
theorem dX7_nextGoal_55 : decode cX7_nextGoal 55 = .ok (.iload_n 3, 1) := by decide +kernel
theorem dX7_nextGoal_56 : decode cX7_nextGoal 56 = .ok (.invokestatic 152, 3) := by decide +kernel
theorem dX7_nextGoal_59 : decode cX7_nextGoal 59 = .ok (.ifCond .eq 6, 3) := by decide +kernel
theorem dX7_nextGoal_62 : decode cX7_nextGoal 62 = .ok (.iload 4, 2) := by decide +kernel
theorem dX7_nextGoal_64 : decode cX7_nextGoal 64 = .ok (.ireturn, 1) := by decide +kernel
theorem dX7_nextGoal_65 : decode cX7_nextGoal 65 = .ok (.iinc 4 1, 3) := by decide +kernel
theorem dX7_nextGoal_68 : decode cX7_nextGoal 68 = .ok (.goto (-65), 3) := by decide +kernel
theorem dX7_nextGoal_71 : decode cX7_nextGoal 71 = .ok (.iconst (-1), 1) := by decide +kernel
theorem dX7_nextGoal_72 : decode cX7_nextGoal 72 = .ok (.ireturn, 1) := by decide +kernel
theorem dX7_canBeTaken_0 : decode cX7_canBeTaken 0 = .ok (.iload_n 2, 1) := by decide +kernel
theorem dX7_canBeTaken_1 : decode cX7_canBeTaken 1 = .ok (.aload_n 0, 1) := by decide +kernel
theorem dX7_canBeTaken_2 : decode cX7_canBeTaken 2 = .ok (.iconst 0, 1) := by decide +kernel
theorem dX7_canBeTaken_3 : decode cX7_canBeTaken 3 = .ok (.invokevirtual 156, 3) := by decide +kernel
theorem dX7_canBeTaken_6 : decode cX7_canBeTaken 6 = .ok (.ishr, 1) := by decide +kernel
theorem dX7_canBeTaken_7 : decode cX7_canBeTaken 7 = .ok (.iconst 1, 1) := by decide +kernel
theorem dX7_canBeTaken_8 : decode cX7_canBeTaken 8 = .ok (.iand, 1) := by decide +kernel
theorem dX7_canBeTaken_9 : decode cX7_canBeTaken 9 = .ok (.iconst 1, 1) := by decide +kernel
theorem dX7_canBeTaken_10 : decode cX7_canBeTaken 10 = .ok (.if_icmp .ne 7, 3) := by decide +kernel
theorem dX7_canBeTaken_13 : decode cX7_canBeTaken 13 = .ok (.iconst 1, 1) := by decide +kernel
theorem dX7_canBeTaken_14 : decode cX7_canBeTaken 14 = .ok (.goto 4, 3) := by decide +kernel
theorem dX7_canBeTaken_17 : decode cX7_canBeTaken 17 = .ok (.iconst 0, 1) := by decide +kernel
theorem dX7_canBeTaken_18 : decode cX7_canBeTaken 18 = .ok (.istore_n 3, 1) := by decide +kernel
theorem dX7_canBeTaken_19 : decode cX7_canBeTaken 19 = .ok (.aload_n 0, 1) := by decide +kernel
theorem dX7_canBeTaken_20 : decode cX7_canBeTaken 20 = .ok (.getfield 159, 3) := by decide +kernel
theorem dX7_canBeTaken_23 : decode cX7_canBeTaken 23 = .ok (.tableswitch 80 0 2 #[25, 47, 70], 25) := by decide +kernel
theorem dX7_canBeTaken_48 : decode cX7_canBeTaken 48 = .ok (.iload_n 3, 1) := by decide +kernel
theorem dX7_canBeTaken_49 : decode cX7_canBeTaken 49 = .ok (.ifCond .ne 15, 3) := by decide +kernel
theorem dX7_canBeTaken_52 : decode cX7_canBeTaken 52 = .ok (.aload_n 0, 1) := by decide +kernel
theorem dX7_canBeTaken_53 : decode cX7_canBeTaken 53 = .ok (.iconst 1, 1) := by decide +kernel
theorem dX7_canBeTaken_54 : decode cX7_canBeTaken 54 = .ok (.invokevirtual 143, 3) := by decide +kernel
theorem dX7_canBeTaken_57 : decode cX7_canBeTaken 57 = .ok (.iload_n 2, 1) := by decide +kernel
theorem dX7_canBeTaken_58 : decode cX7_canBeTaken 58 = .ok (.iconst (-1), 1) := by decide +kernel
theorem dX7_canBeTaken_59 : decode cX7_canBeTaken 59 = .ok (.ixor, 1) := by decide +kernel
theorem dX7_canBeTaken_60 : decode cX7_canBeTaken 60 = .ok (.iand, 1) := by decide +kernel
theorem dX7_canBeTaken_61 : decode cX7_canBeTaken 61 = .ok (.ifCond .ne 7, 3) := by decide +kernel
theorem dX7_canBeTaken_64 : decode cX7_canBeTaken 64 = .ok (.iconst 1, 1) := by decide +kernel
theorem dX7_canBeTaken_65 : decode cX7_canBeTaken 65 = .ok (.goto 4, 3) := by decide +kernel
theorem dX7_canBeTaken_68 : decode cX7_canBeTaken 68 = .ok (.iconst 0, 1) := by decide +kernel
theorem dX7_canBeTaken_69 : decode cX7_canBeTaken 69 = .ok (.ireturn, 1) := by decide +kernel
theorem dX7_canBeTaken_70 : decode cX7_canBeTaken 70 = .ok (.iload_n 3, 1) := by decide +kernel
theorem dX7_canBeTaken_71 : decode cX7_canBeTaken 71 = .ok (.ifCond .ne 16, 3) := by decide +kernel
theorem dX7_canBeTaken_74 : decode cX7_canBeTaken 74 = .ok (.iload_n 2, 1) := by decide +kernel
theorem dX7_canBeTaken_75 : decode cX7_canBeTaken 75 = .ok (.aload_n 0, 1) := by decide +kernel
theorem dX7_canBeTaken_76 : decode cX7_canBeTaken 76 = .ok (.iconst 1, 1) := by decide +kernel
theorem dX7_canBeTaken_77 : decode cX7_canBeTaken 77 = .ok (.invokevirtual 156, 3) := by decide +kernel
theorem dX7_canBeTaken_80 : decode cX7_canBeTaken 80 = .ok (.ishr, 1) := by decide +kernel
theorem dX7_canBeTaken_81 : decode cX7_canBeTaken 81 = .ok (.iconst 1, 1) := by decide +kernel
theorem dX7_canBeTaken_82 : decode cX7_canBeTaken 82 = .ok (.iand, 1) := by decide +kernel
theorem dX7_canBeTaken_83 : decode cX7_canBeTaken 83 = .ok (.iconst 1, 1) := by decide +kernel
theorem dX7_canBeTaken_84 : decode cX7_canBeTaken 84 = .ok (.if_icmp .ne 7, 3) := by decide +kernel
theorem dX7_canBeTaken_87 : decode cX7_canBeTaken 87 = .ok (.iconst 1, 1) := by decide +kernel
theorem dX7_canBeTaken_88 : decode cX7_canBeTaken 88 = .ok (.goto 4, 3) := by decide +kernel
theorem dX7_canBeTaken_91 : decode cX7_canBeTaken 91 = .ok (.iconst 0, 1) := by decide +kernel
theorem dX7_canBeTaken_92 : decode cX7_canBeTaken 92 = .ok (.ireturn, 1) := by decide +kernel
theorem dX7_canBeTaken_93 : decode cX7_canBeTaken 93 = .ok (.aload_n 1, 1) := by decide +kernel
theorem dX7_canBeTaken_94 : decode cX7_canBeTaken 94 = .ok (.ifnull 7, 3) := by decide +kernel
theorem dX7_canBeTaken_97 : decode cX7_canBeTaken 97 = .ok (.iconst 1, 1) := by decide +kernel
theorem dX7_canBeTaken_98 : decode cX7_canBeTaken 98 = .ok (.goto 4, 3) := by decide +kernel
theorem dX7_canBeTaken_101 : decode cX7_canBeTaken 101 = .ok (.iconst 0, 1) := by decide +kernel
theorem dX7_canBeTaken_102 : decode cX7_canBeTaken 102 = .ok (.ireturn, 1) := by decide +kernel
theorem dX7_canBeTaken_103 : decode cX7_canBeTaken 103 = .ok (.aload_n 1, 1) := by decide +kernel
theorem dX7_canBeTaken_104 : decode cX7_canBeTaken 104 = .ok (.ifnull 19, 3) := by decide +kernel
theorem dX7_canBeTaken_107 : decode cX7_canBeTaken 107 = .ok (.aload_n 0, 1) := by decide +kernel
theorem dX7_canBeTaken_108 : decode cX7_canBeTaken 108 = .ok (.iconst 0, 1) := by decide +kernel
theorem dX7_canBeTaken_109 : decode cX7_canBeTaken 109 = .ok (.invokevirtual 143, 3) := by decide +kernel
theorem dX7_canBeTaken_112 : decode cX7_canBeTaken 112 = .ok (.iload_n 2, 1) := by decide +kernel
theorem dX7_canBeTaken_113 : decode cX7_canBeTaken 113 = .ok (.iconst (-1), 1) := by decide +kernel
theorem dX7_canBeTaken_114 : decode cX7_canBeTaken 114 = .ok (.ixor, 1) := by decide +kernel
theorem dX7_canBeTaken_115 : decode cX7_canBeTaken 115 = .ok (.iand, 1) := by decide +kernel
theorem dX7_canBeTaken_116 : decode cX7_canBeTaken 116 = .ok (.ifCond .ne 7, 3) := by decide +kernel
theorem dX7_canBeTaken_119 : decode cX7_canBeTaken 119 = .ok (.iconst 1, 1) := by decide +kernel
theorem dX7_canBeTaken_120 : decode cX7_canBeTaken 120 = .ok (.goto 4, 3) := by decide +kernel
theorem dX7_canBeTaken_123 : decode cX7_canBeTaken 123 = .ok (.iconst 0, 1) := by decide +kernel
theorem dX7_canBeTaken_124 : decode cX7_canBeTaken 124 = .ok (.ireturn, 1) := by decide +kernel
theorem dX7_chooseMode_0 : decode cX7_chooseMode 0 = .ok (.aload_n 1, 1) := by decide +kernel
theorem dX7_chooseMode_1 : decode cX7_chooseMode 1 = .ok (.invokevirtual 162, 3) := by decide +kernel
theorem dX7_chooseMode_4 : decode cX7_chooseMode 4 = .ok (.ifCond .eq 14, 3) := by decide +kernel
theorem dX7_chooseMode_7 : decode cX7_chooseMode 7 = .ok (.aload_n 0, 1) := by decide +kernel
theorem dX7_chooseMode_8 : decode cX7_chooseMode 8 = .ok (.aload_n 1, 1) := by decide +kernel
theorem dX7_chooseMode_9 : decode cX7_chooseMode 9 = .ok (.getfield 165, 3) := by decide +kernel
theorem dX7_chooseMode_12 : decode cX7_chooseMode 12 = .ok (.invokevirtual 36, 3) := by decide +kernel
theorem dX7_chooseMode_15 : decode cX7_chooseMode 15 = .ok (.goto 4, 3) := by decide +kernel
theorem dX7_chooseMode_18 : decode cX7_chooseMode 18 = .ok (.aconst_null, 1) := by decide +kernel
theorem dX7_chooseMode_19 : decode cX7_chooseMode 19 = .ok (.astore_n 3, 1) := by decide +kernel
theorem dX7_chooseMode_20 : decode cX7_chooseMode 20 = .ok (.aload_n 3, 1) := by decide +kernel
theorem dX7_chooseMode_21 : decode cX7_chooseMode 21 = .ok (.ifnonnull 7, 3) := by decide +kernel
theorem dX7_chooseMode_24 : decode cX7_chooseMode 24 = .ok (.iconst 0, 1) := by decide +kernel
theorem dX7_chooseMode_25 : decode cX7_chooseMode 25 = .ok (.goto 7, 3) := by decide +kernel
theorem dX7_chooseMode_28 : decode cX7_chooseMode 28 = .ok (.aload_n 3, 1) := by decide +kernel
theorem dX7_chooseMode_29 : decode cX7_chooseMode 29 = .ok (.invokevirtual 168, 3) := by decide +kernel
theorem dX7_chooseMode_32 : decode cX7_chooseMode 32 = .ok (.istore 4, 2) := by decide +kernel
theorem dX7_chooseMode_34 : decode cX7_chooseMode 34 = .ok (.iconst 0, 1) := by decide +kernel
theorem dX7_chooseMode_35 : decode cX7_chooseMode 35 = .ok (.istore 5, 2) := by decide +kernel
theorem dX7_chooseMode_37 : decode cX7_chooseMode 37 = .ok (.iload 5, 2) := by decide +kernel
theorem dX7_chooseMode_39 : decode cX7_chooseMode 39 = .ok (.iload 4, 2) := by decide +kernel
theorem dX7_chooseMode_41 : decode cX7_chooseMode 41 = .ok (.if_icmp .ge 35, 3) := by decide +kernel
theorem dX7_chooseMode_44 : decode cX7_chooseMode 44 = .ok (.aload_n 3, 1) := by decide +kernel
theorem dX7_chooseMode_45 : decode cX7_chooseMode 45 = .ok (.iload 5, 2) := by decide +kernel
theorem dX7_chooseMode_47 : decode cX7_chooseMode 47 = .ok (.invokevirtual 40, 3) := by decide +kernel
theorem dX7_chooseMode_50 : decode cX7_chooseMode 50 = .ok (.astore 6, 2) := by decide +kernel
theorem dX7_chooseMode_52 : decode cX7_chooseMode 52 = .ok (.aload 6, 2) := by decide +kernel
theorem dX7_chooseMode_54 : decode cX7_chooseMode 54 = .ok (.ifnull 16, 3) := by decide +kernel
theorem dX7_chooseMode_57 : decode cX7_chooseMode 57 = .ok (.aload_n 1, 1) := by decide +kernel
theorem dX7_chooseMode_58 : decode cX7_chooseMode 58 = .ok (.aload 6, 2) := by decide +kernel
theorem dX7_chooseMode_60 : decode cX7_chooseMode 60 = .ok (.iload_n 2, 1) := by decide +kernel
theorem dX7_chooseMode_61 : decode cX7_chooseMode 61 = .ok (.invokestatic 171, 3) := by decide +kernel
theorem dX7_chooseMode_64 : decode cX7_chooseMode 64 = .ok (.ifCond .eq 6, 3) := by decide +kernel
theorem dX7_chooseMode_67 : decode cX7_chooseMode 67 = .ok (.aload 6, 2) := by decide +kernel
theorem dX7_chooseMode_69 : decode cX7_chooseMode 69 = .ok (.areturn, 1) := by decide +kernel
theorem dX7_chooseMode_70 : decode cX7_chooseMode 70 = .ok (.iinc 5 1, 3) := by decide +kernel
theorem dX7_chooseMode_73 : decode cX7_chooseMode 73 = .ok (.goto (-36), 3) := by decide +kernel
theorem dX7_chooseMode_76 : decode cX7_chooseMode 76 = .ok (.aconst_null, 1) := by decide +kernel
theorem dX7_chooseMode_77 : decode cX7_chooseMode 77 = .ok (.areturn, 1) := by decide +kernel
theorem dX7_areInputsKnown_0 : decode cX7_areInputsKnown 0 = .ok (.iconst 0, 1) := by decide +kernel
theorem dX7_areInputsKnown_1 : decode cX7_areInputsKnown 1 = .ok (.istore_n 3, 1) := by decide +kernel
theorem dX7_areInputsKnown_2 : decode cX7_areInputsKnown 2 = .ok (.iload_n 3, 1) := by decide +kernel
theorem dX7_areInputsKnown_3 : decode cX7_areInputsKnown 3 = .ok (.aload_n 0, 1) := by decide +kernel
theorem dX7_areInputsKnown_4 : decode cX7_areInputsKnown 4 = .ok (.getfield 174, 3) := by decide +kernel
theorem dX7_areInputsKnown_7 : decode cX7_areInputsKnown 7 = .ok (.if_icmp .ge 31, 3) := by decide +kernel
theorem dX7_areInputsKnown_10 : decode cX7_areInputsKnown 10 = .ok (.aload_n 1, 1) := by decide +kernel
theorem dX7_areInputsKnown_11 : decode cX7_areInputsKnown 11 = .ok (.iload_n 3, 1) := by decide +kernel
theorem dX7_areInputsKnown_12 : decode cX7_areInputsKnown 12 = .ok (.invokevirtual 177, 3) := by decide +kernel
theorem dX7_areInputsKnown_15 : decode cX7_areInputsKnown 15 = .ok (.ifCond .eq 17, 3) := by decide +kernel
theorem dX7_areInputsKnown_18 : decode cX7_areInputsKnown 18 = .ok (.iload_n 2, 1) := by decide +kernel
theorem dX7_areInputsKnown_19 : decode cX7_areInputsKnown 19 = .ok (.aload_n 0, 1) := by decide +kernel
theorem dX7_areInputsKnown_20 : decode cX7_areInputsKnown 20 = .ok (.iload_n 3, 1) := by decide +kernel
theorem dX7_areInputsKnown_21 : decode cX7_areInputsKnown 21 = .ok (.invokevirtual 156, 3) := by decide +kernel
theorem dX7_areInputsKnown_24 : decode cX7_areInputsKnown 24 = .ok (.ishr, 1) := by decide +kernel
theorem dX7_areInputsKnown_25 : decode cX7_areInputsKnown 25 = .ok (.iconst 1, 1) := by decide +kernel
theorem dX7_areInputsKnown_26 : decode cX7_areInputsKnown 26 = .ok (.iand, 1) := by decide +kernel
theorem dX7_areInputsKnown_27 : decode cX7_areInputsKnown 27 = .ok (.ifCond .ne 5, 3) := by decide +kernel
theorem dX7_areInputsKnown_30 : decode cX7_areInputsKnown 30 = .ok (.iconst 0, 1) := by decide +kernel
theorem dX7_areInputsKnown_31 : decode cX7_areInputsKnown 31 = .ok (.ireturn, 1) := by decide +kernel
theorem dX7_areInputsKnown_32 : decode cX7_areInputsKnown 32 = .ok (.iinc 3 1, 3) := by decide +kernel
theorem dX7_areInputsKnown_35 : decode cX7_areInputsKnown 35 = .ok (.goto (-33), 3) := by decide +kernel
theorem dX7_areInputsKnown_38 : decode cX7_areInputsKnown 38 = .ok (.iconst 1, 1) := by decide +kernel
theorem dX7_areInputsKnown_39 : decode cX7_areInputsKnown 39 = .ok (.ireturn, 1) := by decide +kernel
theorem dX7_findSwitch_0 : decode cX7_findSwitch 0 = .ok (.iconst (-1), 1) := by decide +kernel
theorem dX7_findSwitch_1 : decode cX7_findSwitch 1 = .ok (.istore_n 1, 1) := by decide +kernel
theorem dX7_findSwitch_2 : decode cX7_findSwitch 2 = .ok (.iconst 0, 1) := by decide +kernel
theorem dX7_findSwitch_3 : decode cX7_findSwitch 3 = .ok (.istore_n 2, 1) := by decide +kernel
theorem dX7_findSwitch_4 : decode cX7_findSwitch 4 = .ok (.iconst 0, 1) := by decide +kernel
theorem dX7_findSwitch_5 : decode cX7_findSwitch 5 = .ok (.istore_n 3, 1) := by decide +kernel
theorem dX7_findSwitch_6 : decode cX7_findSwitch 6 = .ok (.iload_n 3, 1) := by decide +kernel
theorem dX7_findSwitch_7 : decode cX7_findSwitch 7 = .ok (.aload_n 0, 1) := by decide +kernel
theorem dX7_findSwitch_8 : decode cX7_findSwitch 8 = .ok (.getfield 102, 3) := by decide +kernel
theorem dX7_findSwitch_11 : decode cX7_findSwitch 11 = .ok (.invokevirtual 106, 3) := by decide +kernel
theorem dX7_findSwitch_14 : decode cX7_findSwitch 14 = .ok (.if_icmp .ge 127, 3) := by decide +kernel
theorem dX7_findSwitch_17 : decode cX7_findSwitch 17 = .ok (.aload_n 0, 1) := by decide +kernel
theorem dX7_findSwitch_18 : decode cX7_findSwitch 18 = .ok (.getfield 102, 3) := by decide +kernel
theorem dX7_findSwitch_21 : decode cX7_findSwitch 21 = .ok (.iload_n 3, 1) := by decide +kernel
theorem dX7_findSwitch_22 : decode cX7_findSwitch 22 = .ok (.invokevirtual 109, 3) := by decide +kernel
theorem dX7_findSwitch_25 : decode cX7_findSwitch 25 = .ok (.astore 4, 2) := by decide +kernel
theorem dX7_findSwitch_27 : decode cX7_findSwitch 27 = .ok (.aload 4, 2) := by decide +kernel
theorem dX7_findSwitch_29 : decode cX7_findSwitch 29 = .ok (.ifnonnull 7, 3) := by decide +kernel
theorem dX7_findSwitch_32 : decode cX7_findSwitch 32 = .ok (.aconst_null, 1) := by decide +kernel
theorem dX7_findSwitch_33 : decode cX7_findSwitch 33 = .ok (.goto 13, 3) := by decide +kernel
theorem dX7_findSwitch_36 : decode cX7_findSwitch 36 = .ok (.aload 4, 2) := by decide +kernel
theorem dX7_findSwitch_38 : decode cX7_findSwitch 38 = .ok (.aload_n 0, 1) := by decide +kernel
theorem dX7_findSwitch_39 : decode cX7_findSwitch 39 = .ok (.getfield 57, 3) := by decide +kernel
theorem dX7_findSwitch_42 : decode cX7_findSwitch 42 = .ok (.iconst 0, 1) := by decide +kernel
theorem dX7_findSwitch_43 : decode cX7_findSwitch 43 = .ok (.invokevirtual 181, 3) := by decide +kernel
theorem dX7_findSwitch_46 : decode cX7_findSwitch 46 = .ok (.astore 5, 2) := by decide +kernel
theorem dX7_findSwitch_48 : decode cX7_findSwitch 48 = .ok (.aload 5, 2) := by decide +kernel
theorem dX7_findSwitch_50 : decode cX7_findSwitch 50 = .ok (.ifnull 24, 3) := by decide +kernel
theorem dX7_findSwitch_53 : decode cX7_findSwitch 53 = .ok (.aload 5, 2) := by decide +kernel
theorem dX7_findSwitch_55 : decode cX7_findSwitch 55 = .ok (.getfield 159, 3) := by decide +kernel
theorem dX7_findSwitch_58 : decode cX7_findSwitch 58 = .ok (.ifCond .ne 16, 3) := by decide +kernel
theorem dX7_findSwitch_61 : decode cX7_findSwitch 61 = .ok (.aload_n 0, 1) := by decide +kernel
