theorem dX4_run_150 : decode cX4_run 150 = .ok (.iconst 1, 1) := by decide +kernel
theorem dX4_run_151 : decode cX4_run 151 = .ok (.goto 4, 3) := by decide +kernel
theorem dX4_run_154 : decode cX4_run 154 = .ok (.iconst 0, 1) := by decide +kernel
theorem dX4_run_155 : decode cX4_run 155 = .ok (.ireturn, 1) := by decide +kernel
theorem dX4_begin_0 : decode cX4_begin 0 = .ok (.aload_n 0, 1) := by decide +kernel
theorem dX4_begin_1 : decode cX4_begin 1 = .ok (.aload_n 2, 1) := by decide +kernel
theorem dX4_begin_2 : decode cX4_begin 2 = .ok (.putfield 15, 3) := by decide +kernel
theorem dX4_begin_5 : decode cX4_begin 5 = .ok (.aload_n 0, 1) := by decide +kernel
theorem dX4_begin_6 : decode cX4_begin 6 = .ok (.getfield 31, 3) := by decide +kernel
theorem dX4_begin_9 : decode cX4_begin 9 = .ok (.iconst 0, 1) := by decide +kernel
theorem dX4_begin_10 : decode cX4_begin 10 = .ok (.invokevirtual 107, 3) := by decide +kernel
theorem dX4_begin_13 : decode cX4_begin 13 = .ok (.aload_n 0, 1) := by decide +kernel
theorem dX4_begin_14 : decode cX4_begin 14 = .ok (.getfield 35, 3) := by decide +kernel
theorem dX4_begin_17 : decode cX4_begin 17 = .ok (.iconst 0, 1) := by decide +kernel
theorem dX4_begin_18 : decode cX4_begin 18 = .ok (.invokevirtual 107, 3) := by decide +kernel
theorem dX4_begin_21 : decode cX4_begin 21 = .ok (.aload_n 0, 1) := by decide +kernel
theorem dX4_begin_22 : decode cX4_begin 22 = .ok (.iconst 0, 1) := by decide +kernel
theorem dX4_begin_23 : decode cX4_begin 23 = .ok (.putfield 110, 3) := by decide +kernel
theorem dX4_begin_26 : decode cX4_begin 26 = .ok (.aload_n 0, 1) := by decide +kernel
theorem dX4_begin_27 : decode cX4_begin 27 = .ok (.aconst_null, 1) := by decide +kernel
theorem dX4_begin_28 : decode cX4_begin 28 = .ok (.putfield 53, 3) := by decide +kernel
theorem dX4_begin_31 : decode cX4_begin 31 = .ok (.aload_n 0, 1) := by decide +kernel
theorem dX4_begin_32 : decode cX4_begin 32 = .ok (.iconst 0, 1) := by decide +kernel
theorem dX4_begin_33 : decode cX4_begin 33 = .ok (.putfield 69, 3) := by decide +kernel
theorem dX4_begin_36 : decode cX4_begin 36 = .ok (.aload_n 0, 1) := by decide +kernel
theorem dX4_begin_37 : decode cX4_begin 37 = .ok (.aconst_null, 1) := by decide +kernel
theorem dX4_begin_38 : decode cX4_begin 38 = .ok (.putfield 113, 3) := by decide +kernel
theorem dX4_begin_41 : decode cX4_begin 41 = .ok (.aload_n 0, 1) := by decide +kernel
theorem dX4_begin_42 : decode cX4_begin 42 = .ok (.iconst 0, 1) := by decide +kernel
theorem dX4_begin_43 : decode cX4_begin 43 = .ok (.putfield 57, 3) := by decide +kernel
theorem dX4_begin_46 : decode cX4_begin 46 = .ok (.aload_n 0, 1) := by decide +kernel
theorem dX4_begin_47 : decode cX4_begin 47 = .ok (.iconst 0, 1) := by decide +kernel
theorem dX4_begin_48 : decode cX4_begin 48 = .ok (.putfield 49, 3) := by decide +kernel
theorem dX4_begin_51 : decode cX4_begin 51 = .ok (.aload_n 0, 1) := by decide +kernel
theorem dX4_begin_52 : decode cX4_begin 52 = .ok (.iconst 0, 1) := by decide +kernel
theorem dX4_begin_53 : decode cX4_begin 53 = .ok (.putfield 100, 3) := by decide +kernel
theorem dX4_begin_56 : decode cX4_begin 56 = .ok (.aload_n 0, 1) := by decide +kernel
theorem dX4_begin_57 : decode cX4_begin 57 = .ok (.aload_n 1, 1) := by decide +kernel
theorem dX4_begin_58 : decode cX4_begin 58 = .ok (.aconst_null, 1) := by decide +kernel
theorem dX4_begin_59 : decode cX4_begin 59 = .ok (.invokevirtual 116, 3) := by decide +kernel
theorem dX4_begin_62 : decode cX4_begin 62 = .ok (.astore_n 3, 1) := by decide +kernel
theorem dX4_begin_63 : decode cX4_begin 63 = .ok (.iconst 0, 1) := by decide +kernel
theorem dX4_begin_64 : decode cX4_begin 64 = .ok (.istore 4, 2) := by decide +kernel
theorem dX4_begin_66 : decode cX4_begin 66 = .ok (.iload 4, 2) := by decide +kernel
theorem dX4_begin_68 : decode cX4_begin 68 = .ok (.iconst 3, 1) := by decide +kernel
theorem dX4_begin_69 : decode cX4_begin 69 = .ok (.if_icmp .ge 21, 3) := by decide +kernel
theorem dX4_begin_72 : decode cX4_begin 72 = .ok (.aload_n 3, 1) := by decide +kernel
theorem dX4_begin_73 : decode cX4_begin 73 = .ok (.iload 4, 2) := by decide +kernel
theorem dX4_begin_75 : decode cX4_begin 75 = .ok (.aload_n 2, 1) := by decide +kernel
theorem dX4_begin_76 : decode cX4_begin 76 = .ok (.iload 4, 2) := by decide +kernel
theorem dX4_begin_78 : decode cX4_begin 78 = .ok (.invokevirtual 120, 3) := by decide +kernel
theorem dX4_begin_81 : decode cX4_begin 81 = .ok (.invokevirtual 125, 3) := by decide +kernel
theorem dX4_begin_84 : decode cX4_begin 84 = .ok (.iinc 4 1, 3) := by decide +kernel
theorem dX4_begin_87 : decode cX4_begin 87 = .ok (.goto (-21), 3) := by decide +kernel
theorem dX4_begin_90 : decode cX4_begin 90 = .ok (.aload_n 0, 1) := by decide +kernel
theorem dX4_begin_91 : decode cX4_begin 91 = .ok (.aload_n 3, 1) := by decide +kernel
theorem dX4_begin_92 : decode cX4_begin 92 = .ok (.invokevirtual 128, 3) := by decide +kernel
theorem dX4_begin_95 : decode cX4_begin 95 = .ok (.return_, 1) := by decide +kernel
theorem dX4_newFrame_0 : decode cX4_newFrame 0 = .ok (.aload_n 0, 1) := by decide +kernel
theorem dX4_newFrame_1 : decode cX4_newFrame 1 = .ok (.getfield 110, 3) := by decide +kernel
theorem dX4_newFrame_4 : decode cX4_newFrame 4 = .ok (.ifCond .lt 17, 3) := by decide +kernel
theorem dX4_newFrame_7 : decode cX4_newFrame 7 = .ok (.aload_n 0, 1) := by decide +kernel
theorem dX4_newFrame_8 : decode cX4_newFrame 8 = .ok (.getfield 110, 3) := by decide +kernel
theorem dX4_newFrame_11 : decode cX4_newFrame 11 = .ok (.aload_n 0, 1) := by decide +kernel
theorem dX4_newFrame_12 : decode cX4_newFrame 12 = .ok (.getfield 22, 3) := by decide +kernel
theorem dX4_newFrame_15 : decode cX4_newFrame 15 = .ok (.invokevirtual 131, 3) := by decide +kernel
theorem dX4_newFrame_18 : decode cX4_newFrame 18 = .ok (.if_icmp .lt 34, 3) := by decide +kernel
theorem dX4_newFrame_21 : decode cX4_newFrame 21 = .ok (.aload_n 0, 1) := by decide +kernel
theorem dX4_newFrame_22 : decode cX4_newFrame 22 = .ok (.aload_n 0, 1) := by decide +kernel
theorem dX4_newFrame_23 : decode cX4_newFrame 23 = .ok (.getfield 22, 3) := by decide +kernel
theorem dX4_newFrame_26 : decode cX4_newFrame 26 = .ok (.invokevirtual 131, 3) := by decide +kernel
theorem dX4_newFrame_29 : decode cX4_newFrame 29 = .ok (.putfield 110, 3) := by decide +kernel
theorem dX4_newFrame_32 : decode cX4_newFrame 32 = .ok (.aload_n 0, 1) := by decide +kernel
theorem dX4_newFrame_33 : decode cX4_newFrame 33 = .ok (.getfield 22, 3) := by decide +kernel
theorem dX4_newFrame_36 : decode cX4_newFrame 36 = .ok (.new 61, 3) := by decide +kernel
theorem dX4_newFrame_39 : decode cX4_newFrame 39 = .ok (.dup, 1) := by decide +kernel
theorem dX4_newFrame_40 : decode cX4_newFrame 40 = .ok (.aload_n 0, 1) := by decide +kernel
theorem dX4_newFrame_41 : decode cX4_newFrame 41 = .ok (.getfield 110, 3) := by decide +kernel
theorem dX4_newFrame_44 : decode cX4_newFrame 44 = .ok (.aload_n 1, 1) := by decide +kernel
theorem dX4_newFrame_45 : decode cX4_newFrame 45 = .ok (.invokespecial 134, 3) := by decide +kernel
theorem dX4_newFrame_48 : decode cX4_newFrame 48 = .ok (.invokevirtual 137, 3) := by decide +kernel
theorem dX4_newFrame_51 : decode cX4_newFrame 51 = .ok (.pop, 1) := by decide +kernel
theorem dX4_newFrame_52 : decode cX4_newFrame 52 = .ok (.aload_n 0, 1) := by decide +kernel
theorem dX4_newFrame_53 : decode cX4_newFrame 53 = .ok (.getfield 22, 3) := by decide +kernel
theorem dX4_newFrame_56 : decode cX4_newFrame 56 = .ok (.aload_n 0, 1) := by decide +kernel
theorem dX4_newFrame_57 : decode cX4_newFrame 57 = .ok (.getfield 110, 3) := by decide +kernel
theorem dX4_newFrame_60 : decode cX4_newFrame 60 = .ok (.invokevirtual 141, 3) := by decide +kernel
theorem dX4_newFrame_63 : decode cX4_newFrame 63 = .ok (.checkcast 61, 3) := by decide +kernel
theorem dX4_newFrame_66 : decode cX4_newFrame 66 = .ok (.astore_n 3, 1) := by decide +kernel
theorem dX4_newFrame_67 : decode cX4_newFrame 67 = .ok (.aload_n 0, 1) := by decide +kernel
theorem dX4_newFrame_68 : decode cX4_newFrame 68 = .ok (.dup, 1) := by decide +kernel
theorem dX4_newFrame_69 : decode cX4_newFrame 69 = .ok (.getfield 110, 3) := by decide +kernel
theorem dX4_newFrame_72 : decode cX4_newFrame 72 = .ok (.iconst 1, 1) := by decide +kernel
theorem dX4_newFrame_73 : decode cX4_newFrame 73 = .ok (.iadd, 1) := by decide +kernel
theorem dX4_newFrame_74 : decode cX4_newFrame 74 = .ok (.putfield 110, 3) := by decide +kernel
theorem dX4_newFrame_77 : decode cX4_newFrame 77 = .ok (.aload_n 3, 1) := by decide +kernel
theorem dX4_newFrame_78 : decode cX4_newFrame 78 = .ok (.aload_n 1, 1) := by decide +kernel
theorem dX4_newFrame_79 : decode cX4_newFrame 79 = .ok (.aload_n 2, 1) := by decide +kernel
theorem dX4_newFrame_80 : decode cX4_newFrame 80 = .ok (.aload_n 0, 1) := by decide +kernel
theorem dX4_newFrame_81 : decode cX4_newFrame 81 = .ok (.getfield 69, 3) := by decide +kernel
theorem dX4_newFrame_84 : decode cX4_newFrame 84 = .ok (.invokevirtual 145, 3) := by decide +kernel
theorem dX4_newFrame_87 : decode cX4_newFrame 87 = .ok (.aload_n 3, 1) := by decide +kernel
theorem dX4_newFrame_88 : decode cX4_newFrame 88 = .ok (.areturn, 1) := by decide +kernel
theorem dX4_finish_0 : decode cX4_finish 0 = .ok (.aload_n 0, 1) := by decide +kernel
theorem dX4_finish_1 : decode cX4_finish 1 = .ok (.getfield 15, 3) := by decide +kernel
theorem dX4_finish_4 : decode cX4_finish 4 = .ok (.iload_n 1, 1) := by decide +kernel
theorem dX4_finish_5 : decode cX4_finish 5 = .ok (.putfield 148, 3) := by decide +kernel
theorem dX4_finish_8 : decode cX4_finish 8 = .ok (.aload_n 0, 1) := by decide +kernel
theorem dX4_finish_9 : decode cX4_finish 9 = .ok (.iconst 1, 1) := by decide +kernel
theorem dX4_finish_10 : decode cX4_finish 10 = .ok (.putfield 49, 3) := by decide +kernel
theorem dX4_finish_13 : decode cX4_finish 13 = .ok (.return_, 1) := by decide +kernel
theorem dX4_enter_0 : decode cX4_enter 0 = .ok (.aload_n 1, 1) := by decide +kernel
theorem dX4_enter_1 : decode cX4_enter 1 = .ok (.getfield 73, 3) := by decide +kernel
theorem dX4_enter_4 : decode cX4_enter 4 = .ok (.getfield 152, 3) := by decide +kernel
theorem dX4_enter_7 : decode cX4_enter 7 = .ok (.astore_n 2, 1) := by decide +kernel
theorem dX4_enter_8 : decode cX4_enter 8 = .ok (.aload_n 0, 1) := by decide +kernel
theorem dX4_enter_9 : decode cX4_enter 9 = .ok (.getfield 15, 3) := by decide +kernel
theorem dX4_enter_12 : decode cX4_enter 12 = .ok (.bipush 99, 2) := by decide +kernel
theorem dX4_enter_14 : decode cX4_enter 14 = .ok (.aload_n 2, 1) := by decide +kernel
theorem dX4_enter_15 : decode cX4_enter 15 = .ok (.getfield 156, 3) := by decide +kernel
theorem dX4_enter_18 : decode cX4_enter 18 = .ok (.aload_n 1, 1) := by decide +kernel
theorem dX4_enter_19 : decode cX4_enter 19 = .ok (.getfield 159, 3) := by decide +kernel
theorem dX4_enter_22 : decode cX4_enter 22 = .ok (.invokevirtual 162, 3) := by decide +kernel
theorem dX4_enter_25 : decode cX4_enter 25 = .ok (.aload_n 0, 1) := by decide +kernel
theorem dX4_enter_26 : decode cX4_enter 26 = .ok (.getfield 15, 3) := by decide +kernel
theorem dX4_enter_29 : decode cX4_enter 29 = .ok (.aload_n 0, 1) := by decide +kernel
theorem dX4_enter_30 : decode cX4_enter 30 = .ok (.getfield 15, 3) := by decide +kernel
theorem dX4_enter_33 : decode cX4_enter 33 = .ok (.getfield 166, 3) := by decide +kernel
theorem dX4_enter_36 : decode cX4_enter 36 = .ok (.aload_n 1, 1) := by decide +kernel
theorem dX4_enter_37 : decode cX4_enter 37 = .ok (.getfield 159, 3) := by decide +kernel
theorem dX4_enter_40 : decode cX4_enter 40 = .ok (.invokestatic 169, 3) := by decide +kernel
theorem dX4_enter_43 : decode cX4_enter 43 = .ok (.putfield 166, 3) := by decide +kernel
theorem dX4_enter_46 : decode cX4_enter 46 = .ok (.aload_n 0, 1) := by decide +kernel
theorem dX4_enter_47 : decode cX4_enter 47 = .ok (.aload_n 1, 1) := by decide +kernel
theorem dX4_enter_48 : decode cX4_enter 48 = .ok (.invokevirtual 175, 3) := by decide +kernel
theorem dX4_enter_51 : decode cX4_enter 51 = .ok (.astore_n 3, 1) := by decide +kernel
theorem dX4_enter_52 : decode cX4_enter 52 = .ok (.aload_n 3, 1) := by decide +kernel
theorem dX4_enter_53 : decode cX4_enter 53 = .ok (.ifnonnull 26, 3) := by decide +kernel
theorem dX4_enter_56 : decode cX4_enter 56 = .ok (.aload_n 0, 1) := by decide +kernel
theorem dX4_enter_57 : decode cX4_enter 57 = .ok (.getfield 15, 3) := by decide +kernel
theorem dX4_enter_60 : decode cX4_enter 60 = .ok (.bipush 102, 2) := by decide +kernel
theorem dX4_enter_62 : decode cX4_enter 62 = .ok (.aload_n 2, 1) := by decide +kernel
theorem dX4_enter_63 : decode cX4_enter 63 = .ok (.getfield 156, 3) := by decide +kernel
theorem dX4_enter_66 : decode cX4_enter 66 = .ok (.aload_n 1, 1) := by decide +kernel
theorem dX4_enter_67 : decode cX4_enter 67 = .ok (.getfield 159, 3) := by decide +kernel
theorem dX4_enter_70 : decode cX4_enter 70 = .ok (.invokevirtual 162, 3) := by decide +kernel
theorem dX4_enter_73 : decode cX4_enter 73 = .ok (.aload_n 0, 1) := by decide +kernel
theorem dX4_enter_74 : decode cX4_enter 74 = .ok (.iconst 1, 1) := by decide +kernel
theorem dX4_enter_75 : decode cX4_enter 75 = .ok (.putfield 57, 3) := by decide +kernel
theorem dX4_enter_78 : decode cX4_enter 78 = .ok (.return_, 1) := by decide +kernel
theorem dX4_enter_79 : decode cX4_enter 79 = .ok (.aload_n 1, 1) := by decide +kernel
theorem dX4_enter_80 : decode cX4_enter 80 = .ok (.getfield 73, 3) := by decide +kernel
theorem dX4_enter_83 : decode cX4_enter 83 = .ok (.getfield 179, 3) := by decide +kernel
theorem dX4_enter_86 : decode cX4_enter 86 = .ok (.iconst (-1), 1) := by decide +kernel
theorem dX4_enter_87 : decode cX4_enter 87 = .ok (.if_icmp .ne 44, 3) := by decide +kernel
theorem dX4_enter_90 : decode cX4_enter 90 = .ok (.aload_n 2, 1) := by decide +kernel
theorem dX4_enter_91 : decode cX4_enter 91 = .ok (.invokevirtual 182, 3) := by decide +kernel
theorem dX4_enter_94 : decode cX4_enter 94 = .ok (.iconst 1, 1) := by decide +kernel
theorem dX4_enter_95 : decode cX4_enter 95 = .ok (.if_icmp .le 36, 3) := by decide +kernel
theorem dX4_enter_98 : decode cX4_enter 98 = .ok (.aload_n 0, 1) := by decide +kernel
theorem dX4_enter_99 : decode cX4_enter 99 = .ok (.getfield 31, 3) := by decide +kernel
theorem dX4_enter_102 : decode cX4_enter 102 = .ok (.aload_n 1, 1) := by decide +kernel
theorem dX4_enter_103 : decode cX4_enter 103 = .ok (.getfield 185, 3) := by decide +kernel
theorem dX4_enter_106 : decode cX4_enter 106 = .ok (.iconst 1, 1) := by decide +kernel
theorem dX4_enter_107 : decode cX4_enter 107 = .ok (.aload_n 0, 1) := by decide +kernel
theorem dX4_enter_108 : decode cX4_enter 108 = .ok (.getfield 35, 3) := by decide +kernel
theorem dX4_enter_111 : decode cX4_enter 111 = .ok (.invokevirtual 186, 3) := by decide +kernel
theorem dX4_enter_114 : decode cX4_enter 114 = .ok (.invokevirtual 189, 3) := by decide +kernel
theorem dX4_enter_117 : decode cX4_enter 117 = .ok (.pop, 1) := by decide +kernel
theorem dX4_enter_118 : decode cX4_enter 118 = .ok (.aload_n 0, 1) := by decide +kernel
theorem dX4_enter_119 : decode cX4_enter 119 = .ok (.getfield 15, 3) := by decide +kernel
theorem dX4_enter_122 : decode cX4_enter 122 = .ok (.dup, 1) := by decide +kernel
theorem dX4_enter_123 : decode cX4_enter 123 = .ok (.getfield 192, 3) := by decide +kernel
theorem dX4_enter_126 : decode cX4_enter 126 = .ok (.iconst 1, 1) := by decide +kernel
theorem dX4_enter_127 : decode cX4_enter 127 = .ok (.iadd, 1) := by decide +kernel
theorem dX4_enter_128 : decode cX4_enter 128 = .ok (.putfield 192, 3) := by decide +kernel
theorem dX4_enter_131 : decode cX4_enter 131 = .ok (.aload_n 0, 1) := by decide +kernel
theorem dX4_enter_132 : decode cX4_enter 132 = .ok (.aload_n 1, 1) := by decide +kernel
theorem dX4_enter_133 : decode cX4_enter 133 = .ok (.aload_n 3, 1) := by decide +kernel
theorem dX4_enter_134 : decode cX4_enter 134 = .ok (.invokevirtual 195, 3) := by decide +kernel
theorem dX4_enter_137 : decode cX4_enter 137 = .ok (.return_, 1) := by decide +kernel
theorem dX4_firstClause_0 : decode cX4_firstClause 0 = .ok (.aload_n 1, 1) := by decide +kernel
theorem dX4_firstClause_1 : decode cX4_firstClause 1 = .ok (.getfield 73, 3) := by decide +kernel
theorem dX4_firstClause_4 : decode cX4_firstClause 4 = .ok (.astore_n 2, 1) := by decide +kernel
theorem dX4_firstClause_5 : decode cX4_firstClause 5 = .ok (.aload_n 2, 1) := by decide +kernel
theorem dX4_firstClause_6 : decode cX4_firstClause 6 = .ok (.getfield 179, 3) := by decide +kernel
theorem dX4_firstClause_9 : decode cX4_firstClause 9 = .ok (.iconst (-1), 1) := by decide +kernel
theorem dX4_firstClause_10 : decode cX4_firstClause 10 = .ok (.if_icmp .ne 12, 3) := by decide +kernel
theorem dX4_firstClause_13 : decode cX4_firstClause 13 = .ok (.aload_n 2, 1) := by decide +kernel
theorem dX4_firstClause_14 : decode cX4_firstClause 14 = .ok (.getfield 152, 3) := by decide +kernel
theorem dX4_firstClause_17 : decode cX4_firstClause 17 = .ok (.iconst 0, 1) := by decide +kernel
theorem dX4_firstClause_18 : decode cX4_firstClause 18 = .ok (.invokevirtual 199, 3) := by decide +kernel
theorem dX4_firstClause_21 : decode cX4_firstClause 21 = .ok (.areturn, 1) := by decide +kernel
theorem dX4_firstClause_22 : decode cX4_firstClause 22 = .ok (.aload_n 0, 1) := by decide +kernel
theorem dX4_firstClause_23 : decode cX4_firstClause 23 = .ok (.getfield 9, 3) := by decide +kernel
theorem dX4_firstClause_26 : decode cX4_firstClause 26 = .ok (.aload_n 1, 1) := by decide +kernel
theorem dX4_firstClause_27 : decode cX4_firstClause 27 = .ok (.aload_n 2, 1) := by decide +kernel
theorem dX4_firstClause_28 : decode cX4_firstClause 28 = .ok (.getfield 179, 3) := by decide +kernel
theorem dX4_firstClause_31 : decode cX4_firstClause 31 = .ok (.invokevirtual 203, 3) := by decide +kernel
theorem dX4_firstClause_34 : decode cX4_firstClause 34 = .ok (.invokevirtual 206, 3) := by decide +kernel
theorem dX4_firstClause_37 : decode cX4_firstClause 37 = .ok (.istore_n 3, 1) := by decide +kernel
theorem dX4_firstClause_38 : decode cX4_firstClause 38 = .ok (.iconst 0, 1) := by decide +kernel
theorem dX4_firstClause_39 : decode cX4_firstClause 39 = .ok (.istore 4, 2) := by decide +kernel
theorem dX4_firstClause_41 : decode cX4_firstClause 41 = .ok (.iload 4, 2) := by decide +kernel
theorem dX4_firstClause_43 : decode cX4_firstClause 43 = .ok (.aload_n 2, 1) := by decide +kernel
theorem dX4_firstClause_44 : decode cX4_firstClause 44 = .ok (.getfield 152, 3) := by decide +kernel
theorem dX4_firstClause_47 : decode cX4_firstClause 47 = .ok (.invokevirtual 182, 3) := by decide +kernel
theorem dX4_firstClause_50 : decode cX4_firstClause 50 = .ok (.if_icmp .ge 58, 3) := by decide +kernel
theorem dX4_firstClause_53 : decode cX4_firstClause 53 = .ok (.aload_n 2, 1) := by decide +kernel
theorem dX4_firstClause_54 : decode cX4_firstClause 54 = .ok (.getfield 152, 3) := by decide +kernel
theorem dX4_firstClause_57 : decode cX4_firstClause 57 = .ok (.iload 4, 2) := by decide +kernel
theorem dX4_firstClause_59 : decode cX4_firstClause 59 = .ok (.invokevirtual 199, 3) := by decide +kernel
theorem dX4_firstClause_62 : decode cX4_firstClause 62 = .ok (.astore 5, 2) := by decide +kernel
theorem dX4_firstClause_64 : decode cX4_firstClause 64 = .ok (.aload 5, 2) := by decide +kernel
theorem dX4_firstClause_66 : decode cX4_firstClause 66 = .ok (.ifnonnull 7, 3) := by decide +kernel
theorem dX4_firstClause_69 : decode cX4_firstClause 69 = .ok (.aconst_null, 1) := by decide +kernel
theorem dX4_firstClause_70 : decode cX4_firstClause 70 = .ok (.goto 13, 3) := by decide +kernel
theorem dX4_firstClause_73 : decode cX4_firstClause 73 = .ok (.aload 5, 2) := by decide +kernel
theorem dX4_firstClause_75 : decode cX4_firstClause 75 = .ok (.aload_n 2, 1) := by decide +kernel
theorem dX4_firstClause_76 : decode cX4_firstClause 76 = .ok (.getfield 77, 3) := by decide +kernel
theorem dX4_firstClause_79 : decode cX4_firstClause 79 = .ok (.iconst 0, 1) := by decide +kernel
theorem dX4_firstClause_80 : decode cX4_firstClause 80 = .ok (.invokevirtual 92, 3) := by decide +kernel
theorem dX4_firstClause_83 : decode cX4_firstClause 83 = .ok (.astore 6, 2) := by decide +kernel
theorem dX4_firstClause_85 : decode cX4_firstClause 85 = .ok (.aload 6, 2) := by decide +kernel
theorem dX4_firstClause_87 : decode cX4_firstClause 87 = .ok (.ifnull 15, 3) := by decide +kernel
theorem dX4_firstClause_90 : decode cX4_firstClause 90 = .ok (.aload 6, 2) := by decide +kernel
theorem dX4_firstClause_92 : decode cX4_firstClause 92 = .ok (.getfield 209, 3) := by decide +kernel
theorem dX4_firstClause_95 : decode cX4_firstClause 95 = .ok (.iload_n 3, 1) := by decide +kernel
theorem dX4_firstClause_96 : decode cX4_firstClause 96 = .ok (.if_icmp .ne 6, 3) := by decide +kernel
theorem dX4_firstClause_99 : decode cX4_firstClause 99 = .ok (.aload 5, 2) := by decide +kernel
theorem dX4_firstClause_101 : decode cX4_firstClause 101 = .ok (.areturn, 1) := by decide +kernel
theorem dX4_firstClause_102 : decode cX4_firstClause 102 = .ok (.iinc 4 1, 3) := by decide +kernel
theorem dX4_firstClause_105 : decode cX4_firstClause 105 = .ok (.goto (-64), 3) := by decide +kernel
theorem dX4_firstClause_108 : decode cX4_firstClause 108 = .ok (.aconst_null, 1) := by decide +kernel
theorem dX4_firstClause_109 : decode cX4_firstClause 109 = .ok (.areturn, 1) := by decide +kernel
theorem dX4_tryClause_0 : decode cX4_tryClause 0 = .ok (.aload_n 1, 1) := by decide +kernel
theorem dX4_tryClause_1 : decode cX4_tryClause 1 = .ok (.aload_n 2, 1) := by decide +kernel
theorem dX4_tryClause_2 : decode cX4_tryClause 2 = .ok (.putfield 60, 3) := by decide +kernel
theorem dX4_tryClause_5 : decode cX4_tryClause 5 = .ok (.aload_n 0, 1) := by decide +kernel
theorem dX4_tryClause_6 : decode cX4_tryClause 6 = .ok (.aload_n 1, 1) := by decide +kernel
theorem dX4_tryClause_7 : decode cX4_tryClause 7 = .ok (.putfield 53, 3) := by decide +kernel
theorem dX4_tryClause_10 : decode cX4_tryClause 10 = .ok (.aload_n 0, 1) := by decide +kernel
theorem dX4_tryClause_11 : decode cX4_tryClause 11 = .ok (.iconst 0, 1) := by decide +kernel
theorem dX4_tryClause_12 : decode cX4_tryClause 12 = .ok (.putfield 69, 3) := by decide +kernel
theorem dX4_tryClause_15 : decode cX4_tryClause 15 = .ok (.return_, 1) := by decide +kernel
theorem dX4_goBack_0 : decode cX4_goBack 0 = .ok (.aload_n 0, 1) := by decide +kernel
theorem dX4_goBack_1 : decode cX4_goBack 1 = .ok (.iconst 0, 1) := by decide +kernel
theorem dX4_goBack_2 : decode cX4_goBack 2 = .ok (.putfield 57, 3) := by decide +kernel
theorem dX4_goBack_5 : decode cX4_goBack 5 = .ok (.aload_n 0, 1) := by decide +kernel
theorem dX4_goBack_6 : decode cX4_goBack 6 = .ok (.getfield 113, 3) := by decide +kernel
theorem dX4_goBack_9 : decode cX4_goBack 9 = .ok (.astore_n 1, 1) := by decide +kernel
theorem dX4_goBack_10 : decode cX4_goBack 10 = .ok (.aload_n 1, 1) := by decide +kernel
theorem dX4_goBack_11 : decode cX4_goBack 11 = .ok (.ifnull 44, 3) := by decide +kernel
theorem dX4_goBack_14 : decode cX4_goBack 14 = .ok (.aload_n 0, 1) := by decide +kernel
theorem dX4_goBack_15 : decode cX4_goBack 15 = .ok (.getfield 31, 3) := by decide +kernel
theorem dX4_goBack_18 : decode cX4_goBack 18 = .ok (.invokevirtual 186, 3) := by decide +kernel
theorem dX4_goBack_21 : decode cX4_goBack 21 = .ok (.aload_n 1, 1) := by decide +kernel
theorem dX4_goBack_22 : decode cX4_goBack 22 = .ok (.getfield 214, 3) := by decide +kernel
theorem dX4_goBack_25 : decode cX4_goBack 25 = .ok (.if_icmp .gt 30, 3) := by decide +kernel
theorem dX4_goBack_28 : decode cX4_goBack 28 = .ok (.aload_n 0, 1) := by decide +kernel
theorem dX4_goBack_29 : decode cX4_goBack 29 = .ok (.aload_n 1, 1) := by decide +kernel
theorem dX4_goBack_30 : decode cX4_goBack 30 = .ok (.getfield 217, 3) := by decide +kernel
theorem dX4_goBack_33 : decode cX4_goBack 33 = .ok (.putfield 113, 3) := by decide +kernel
theorem dX4_goBack_36 : decode cX4_goBack 36 = .ok (.aload_n 0, 1) := by decide +kernel
theorem dX4_goBack_37 : decode cX4_goBack 37 = .ok (.aload_n 1, 1) := by decide +kernel
theorem dX4_goBack_38 : decode cX4_goBack 38 = .ok (.getfield 220, 3) := by decide +kernel
theorem dX4_goBack_41 : decode cX4_goBack 41 = .ok (.putfield 53, 3) := by decide +kernel
theorem dX4_goBack_44 : decode cX4_goBack 44 = .ok (.aload_n 0, 1) := by decide +kernel
theorem dX4_goBack_45 : decode cX4_goBack 45 = .ok (.aload_n 1, 1) := by decide +kernel
theorem dX4_goBack_46 : decode cX4_goBack 46 = .ok (.getfield 223, 3) := by decide +kernel
theorem dX4_goBack_49 : decode cX4_goBack 49 = .ok (.iconst 1, 1) := by decide +kernel
theorem dX4_goBack_50 : decode cX4_goBack 50 = .ok (.iadd, 1) := by decide +kernel
theorem dX4_goBack_51 : decode cX4_goBack 51 = .ok (.putfield 69, 3) := by decide +kernel
theorem dX4_goBack_54 : decode cX4_goBack 54 = .ok (.return_, 1) := by decide +kernel
theorem dX4_goBack_55 : decode cX4_goBack 55 = .ok (.aload_n 0, 1) := by decide +kernel
theorem dX4_goBack_56 : decode cX4_goBack 56 = .ok (.getfield 31, 3) := by decide +kernel
theorem dX4_goBack_59 : decode cX4_goBack 59 = .ok (.invokevirtual 186, 3) := by decide +kernel
theorem dX4_goBack_62 : decode cX4_goBack 62 = .ok (.iconst 1, 1) := by decide +kernel
theorem dX4_goBack_63 : decode cX4_goBack 63 = .ok (.isub, 1) := by decide +kernel
theorem dX4_goBack_64 : decode cX4_goBack 64 = .ok (.istore_n 2, 1) := by decide +kernel
theorem dX4_goBack_65 : decode cX4_goBack 65 = .ok (.aload_n 0, 1) := by decide +kernel
theorem dX4_goBack_66 : decode cX4_goBack 66 = .ok (.aload_n 0, 1) := by decide +kernel
theorem dX4_goBack_67 : decode cX4_goBack 67 = .ok (.getfield 31, 3) := by decide +kernel
theorem dX4_goBack_70 : decode cX4_goBack 70 = .ok (.iload_n 2, 1) := by decide +kernel
theorem dX4_goBack_71 : decode cX4_goBack 71 = .ok (.iconst 0, 1) := by decide +kernel
theorem dX4_goBack_72 : decode cX4_goBack 72 = .ok (.invokevirtual 226, 3) := by decide +kernel
theorem dX4_goBack_75 : decode cX4_goBack 75 = .ok (.invokevirtual 228, 3) := by decide +kernel
theorem dX4_goBack_78 : decode cX4_goBack 78 = .ok (.astore_n 3, 1) := by decide +kernel
theorem dX4_goBack_79 : decode cX4_goBack 79 = .ok (.aload_n 3, 1) := by decide +kernel
theorem dX4_goBack_80 : decode cX4_goBack 80 = .ok (.ifnonnull 10, 3) := by decide +kernel
theorem dX4_goBack_83 : decode cX4_goBack 83 = .ok (.aload_n 0, 1) := by decide +kernel
theorem dX4_goBack_84 : decode cX4_goBack 84 = .ok (.bipush 101, 2) := by decide +kernel
theorem dX4_goBack_86 : decode cX4_goBack 86 = .ok (.invokevirtual 232, 3) := by decide +kernel
theorem dX4_goBack_89 : decode cX4_goBack 89 = .ok (.return_, 1) := by decide +kernel
theorem dX4_goBack_90 : decode cX4_goBack 90 = .ok (.aload_n 0, 1) := by decide +kernel
theorem dX4_goBack_91 : decode cX4_goBack 91 = .ok (.aload_n 0, 1) := by decide +kernel
theorem dX4_goBack_92 : decode cX4_goBack 92 = .ok (.getfield 31, 3) := by decide +kernel
theorem dX4_goBack_95 : decode cX4_goBack 95 = .ok (.iload_n 2, 1) := by decide +kernel
theorem dX4_goBack_96 : decode cX4_goBack 96 = .ok (.iconst 2, 1) := by decide +kernel
theorem dX4_goBack_97 : decode cX4_goBack 97 = .ok (.invokevirtual 226, 3) := by decide +kernel
theorem dX4_goBack_100 : decode cX4_goBack 100 = .ok (.invokevirtual 236, 3) := by decide +kernel
theorem dX4_goBack_103 : decode cX4_goBack 103 = .ok (.aload_n 3, 1) := by decide +kernel
theorem dX4_goBack_104 : decode cX4_goBack 104 = .ok (.getfield 73, 3) := by decide +kernel
theorem dX4_goBack_107 : decode cX4_goBack 107 = .ok (.getfield 152, 3) := by decide +kernel
theorem dX4_goBack_110 : decode cX4_goBack 110 = .ok (.astore 4, 2) := by decide +kernel
theorem dX4_goBack_112 : decode cX4_goBack 112 = .ok (.aload_n 0, 1) := by decide +kernel
theorem dX4_goBack_113 : decode cX4_goBack 113 = .ok (.getfield 31, 3) := by decide +kernel
theorem dX4_goBack_116 : decode cX4_goBack 116 = .ok (.iload_n 2, 1) := by decide +kernel
theorem dX4_goBack_117 : decode cX4_goBack 117 = .ok (.iconst 1, 1) := by decide +kernel
theorem dX4_goBack_118 : decode cX4_goBack 118 = .ok (.invokevirtual 226, 3) := by decide +kernel
theorem dX4_goBack_121 : decode cX4_goBack 121 = .ok (.istore 5, 2) := by decide +kernel
theorem dX4_goBack_123 : decode cX4_goBack 123 = .ok (.aload_n 0, 1) := by decide +kernel
theorem dX4_goBack_124 : decode cX4_goBack 124 = .ok (.getfield 31, 3) := by decide +kernel
theorem dX4_goBack_127 : decode cX4_goBack 127 = .ok (.iload_n 2, 1) := by decide +kernel
theorem dX4_goBack_128 : decode cX4_goBack 128 = .ok (.iconst 1, 1) := by decide +kernel
theorem dX4_goBack_129 : decode cX4_goBack 129 = .ok (.iload 5, 2) := by decide +kernel
theorem dX4_goBack_131 : decode cX4_goBack 131 = .ok (.iconst 1, 1) := by decide +kernel
theorem dX4_goBack_132 : decode cX4_goBack 132 = .ok (.iadd, 1) := by decide +kernel
theorem dX4_goBack_133 : decode cX4_goBack 133 = .ok (.invokevirtual 239, 3) := by decide +kernel
theorem dX4_goBack_136 : decode cX4_goBack 136 = .ok (.iload 5, 2) := by decide +kernel
theorem dX4_goBack_138 : decode cX4_goBack 138 = .ok (.iconst 1, 1) := by decide +kernel
theorem dX4_goBack_139 : decode cX4_goBack 139 = .ok (.iadd, 1) := by decide +kernel
theorem dX4_goBack_140 : decode cX4_goBack 140 = .ok (.aload 4, 2) := by decide +kernel
theorem dX4_goBack_142 : decode cX4_goBack 142 = .ok (.invokevirtual 182, 3) := by decide +kernel
theorem dX4_goBack_145 : decode cX4_goBack 145 = .ok (.if_icmp .lt 11, 3) := by decide +kernel
theorem dX4_goBack_148 : decode cX4_goBack 148 = .ok (.aload_n 0, 1) := by decide +kernel
theorem dX4_goBack_149 : decode cX4_goBack 149 = .ok (.getfield 31, 3) := by decide +kernel
theorem dX4_goBack_152 : decode cX4_goBack 152 = .ok (.iload_n 2, 1) := by decide +kernel
theorem dX4_goBack_153 : decode cX4_goBack 153 = .ok (.invokevirtual 107, 3) := by decide +kernel
theorem dX4_goBack_156 : decode cX4_goBack 156 = .ok (.aload_n 0, 1) := by decide +kernel
theorem dX4_goBack_157 : decode cX4_goBack 157 = .ok (.getfield 15, 3) := by decide +kernel
theorem dX4_goBack_160 : decode cX4_goBack 160 = .ok (.bipush 114, 2) := by decide +kernel
theorem dX4_goBack_162 : decode cX4_goBack 162 = .ok (.aload 4, 2) := by decide +kernel
theorem dX4_goBack_164 : decode cX4_goBack 164 = .ok (.getfield 156, 3) := by decide +kernel
theorem dX4_goBack_167 : decode cX4_goBack 167 = .ok (.aload_n 3, 1) := by decide +kernel
theorem dX4_goBack_168 : decode cX4_goBack 168 = .ok (.getfield 159, 3) := by decide +kernel
theorem dX4_goBack_171 : decode cX4_goBack 171 = .ok (.invokevirtual 162, 3) := by decide +kernel
theorem dX4_goBack_174 : decode cX4_goBack 174 = .ok (.aload_n 0, 1) := by decide +kernel
theorem dX4_goBack_175 : decode cX4_goBack 175 = .ok (.aload_n 3, 1) := by decide +kernel
theorem dX4_goBack_176 : decode cX4_goBack 176 = .ok (.aload 4, 2) := by decide +kernel
theorem dX4_goBack_178 : decode cX4_goBack 178 = .ok (.iload 5, 2) := by decide +kernel
theorem dX4_goBack_180 : decode cX4_goBack 180 = .ok (.invokevirtual 199, 3) := by decide +kernel
theorem dX4_goBack_183 : decode cX4_goBack 183 = .ok (.invokevirtual 195, 3) := by decide +kernel
theorem dX4_goBack_186 : decode cX4_goBack 186 = .ok (.return_, 1) := by decide +kernel
theorem dX4_frameAt_0 : decode cX4_frameAt 0 = .ok (.iload_n 1, 1) := by decide +kernel
theorem dX4_frameAt_1 : decode cX4_frameAt 1 = .ok (.ifCond .lt 28, 3) := by decide +kernel
theorem dX4_frameAt_4 : decode cX4_frameAt 4 = .ok (.iload_n 1, 1) := by decide +kernel
theorem dX4_frameAt_5 : decode cX4_frameAt 5 = .ok (.aload_n 0, 1) := by decide +kernel
theorem dX4_frameAt_6 : decode cX4_frameAt 6 = .ok (.getfield 22, 3) := by decide +kernel
theorem dX4_frameAt_9 : decode cX4_frameAt 9 = .ok (.invokevirtual 131, 3) := by decide +kernel
theorem dX4_frameAt_12 : decode cX4_frameAt 12 = .ok (.if_icmp .ge 17, 3) := by decide +kernel
theorem dX4_frameAt_15 : decode cX4_frameAt 15 = .ok (.aload_n 0, 1) := by decide +kernel
theorem dX4_frameAt_16 : decode cX4_frameAt 16 = .ok (.getfield 22, 3) := by decide +kernel
theorem dX4_frameAt_19 : decode cX4_frameAt 19 = .ok (.iload_n 1, 1) := by decide +kernel
theorem dX4_frameAt_20 : decode cX4_frameAt 20 = .ok (.invokevirtual 141, 3) := by decide +kernel
theorem dX4_frameAt_23 : decode cX4_frameAt 23 = .ok (.checkcast 61, 3) := by decide +kernel
theorem dX4_frameAt_26 : decode cX4_frameAt 26 = .ok (.goto 4, 3) := by decide +kernel
theorem dX4_frameAt_29 : decode cX4_frameAt 29 = .ok (.aconst_null, 1) := by decide +kernel
theorem dX4_frameAt_30 : decode cX4_frameAt 30 = .ok (.areturn, 1) := by decide +kernel
theorem dX4_undo_0 : decode cX4_undo 0 = .ok (.aload_n 0, 1) := by decide +kernel
theorem dX4_undo_1 : decode cX4_undo 1 = .ok (.getfield 35, 3) := by decide +kernel
theorem dX4_undo_4 : decode cX4_undo 4 = .ok (.invokevirtual 186, 3) := by decide +kernel
theorem dX4_undo_7 : decode cX4_undo 7 = .ok (.iconst 1, 1) := by decide +kernel
theorem dX4_undo_8 : decode cX4_undo 8 = .ok (.isub, 1) := by decide +kernel
theorem dX4_undo_9 : decode cX4_undo 9 = .ok (.istore_n 2, 1) := by decide +kernel
theorem dX4_undo_10 : decode cX4_undo 10 = .ok (.iload_n 2, 1) := by decide +kernel
theorem dX4_undo_11 : decode cX4_undo 11 = .ok (.iload_n 1, 1) := by decide +kernel
theorem dX4_undo_12 : decode cX4_undo 12 = .ok (.if_icmp .lt 45, 3) := by decide +kernel
theorem dX4_undo_15 : decode cX4_undo 15 = .ok (.iload_n 2, 1) := by decide +kernel
theorem dX4_undo_16 : decode cX4_undo 16 = .ok (.ifCond .lt 41, 3) := by decide +kernel
theorem dX4_undo_19 : decode cX4_undo 19 = .ok (.aload_n 0, 1) := by decide +kernel
theorem dX4_undo_20 : decode cX4_undo 20 = .ok (.aload_n 0, 1) := by decide +kernel
theorem dX4_undo_21 : decode cX4_undo 21 = .ok (.getfield 35, 3) := by decide +kernel
theorem dX4_undo_24 : decode cX4_undo 24 = .ok (.iload_n 2, 1) := by decide +kernel
theorem dX4_undo_25 : decode cX4_undo 25 = .ok (.iconst 0, 1) := by decide +kernel
theorem dX4_undo_26 : decode cX4_undo 26 = .ok (.invokevirtual 226, 3) := by decide +kernel
theorem dX4_undo_29 : decode cX4_undo 29 = .ok (.invokevirtual 228, 3) := by decide +kernel
theorem dX4_undo_32 : decode cX4_undo 32 = .ok (.astore_n 3, 1) := by decide +kernel
theorem dX4_undo_33 : decode cX4_undo 33 = .ok (.aload_n 3, 1) := by decide +kernel
theorem dX4_undo_34 : decode cX4_undo 34 = .ok (.ifnull 17, 3) := by decide +kernel
theorem dX4_undo_37 : decode cX4_undo 37 = .ok (.aload_n 3, 1) := by decide +kernel
theorem dX4_undo_38 : decode cX4_undo 38 = .ok (.aload_n 0, 1) := by decide +kernel
theorem dX4_undo_39 : decode cX4_undo 39 = .ok (.getfield 35, 3) := by decide +kernel
theorem dX4_undo_42 : decode cX4_undo 42 = .ok (.iload_n 2, 1) := by decide +kernel
theorem dX4_undo_43 : decode cX4_undo 43 = .ok (.iconst 1, 1) := by decide +kernel
theorem dX4_undo_44 : decode cX4_undo 44 = .ok (.invokevirtual 226, 3) := by decide +kernel
theorem dX4_undo_47 : decode cX4_undo 47 = .ok (.iconst (-1), 1) := by decide +kernel
theorem dX4_undo_48 : decode cX4_undo 48 = .ok (.invokevirtual 125, 3) := by decide +kernel
theorem dX4_undo_51 : decode cX4_undo 51 = .ok (.iinc 2 (-1), 3) := by decide +kernel
theorem dX4_undo_54 : decode cX4_undo 54 = .ok (.goto (-44), 3) := by decide +kernel
theorem dX4_undo_57 : decode cX4_undo 57 = .ok (.aload_n 0, 1) := by decide +kernel
theorem dX4_undo_58 : decode cX4_undo 58 = .ok (.getfield 35, 3) := by decide +kernel
theorem dX4_undo_61 : decode cX4_undo 61 = .ok (.iload_n 1, 1) := by decide +kernel
theorem dX4_undo_62 : decode cX4_undo 62 = .ok (.invokevirtual 107, 3) := by decide +kernel
theorem dX4_undo_65 : decode cX4_undo 65 = .ok (.return_, 1) := by decide +kernel
theorem dX4_leave_0 : decode cX4_leave 0 = .ok (.aload_n 0, 1) := by decide +kernel
theorem dX4_leave_1 : decode cX4_leave 1 = .ok (.getfield 15, 3) := by decide +kernel
theorem dX4_leave_4 : decode cX4_leave 4 = .ok (.bipush 120, 2) := by decide +kernel
theorem dX4_leave_6 : decode cX4_leave 6 = .ok (.aload_n 1, 1) := by decide +kernel
theorem dX4_leave_7 : decode cX4_leave 7 = .ok (.getfield 73, 3) := by decide +kernel
