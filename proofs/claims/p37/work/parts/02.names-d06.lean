theorem dX4_leave_10 : decode cX4_leave 10 = .ok (.getfield 152, 3) := by decide +kernel
theorem dX4_leave_13 : decode cX4_leave 13 = .ok (.getfield 156, 3) := by decide +kernel
theorem dX4_leave_16 : decode cX4_leave 16 = .ok (.aload_n 1, 1) := by decide +kernel
theorem dX4_leave_17 : decode cX4_leave 17 = .ok (.getfield 159, 3) := by decide +kernel
theorem dX4_leave_20 : decode cX4_leave 20 = .ok (.invokevirtual 162, 3) := by decide +kernel
theorem dX4_leave_23 : decode cX4_leave 23 = .ok (.aload_n 1, 1) := by decide +kernel
theorem dX4_leave_24 : decode cX4_leave 24 = .ok (.getfield 220, 3) := by decide +kernel
theorem dX4_leave_27 : decode cX4_leave 27 = .ok (.ifnonnull 11, 3) := by decide +kernel
theorem dX4_leave_30 : decode cX4_leave 30 = .ok (.aload_n 0, 1) := by decide +kernel
theorem dX4_leave_31 : decode cX4_leave 31 = .ok (.aload_n 1, 1) := by decide +kernel
theorem dX4_leave_32 : decode cX4_leave 32 = .ok (.invokevirtual 243, 3) := by decide +kernel
theorem dX4_leave_35 : decode cX4_leave 35 = .ok (.goto 88, 3) := by decide +kernel
theorem dX4_leave_38 : decode cX4_leave 38 = .ok (.aload_n 1, 1) := by decide +kernel
theorem dX4_leave_39 : decode cX4_leave 39 = .ok (.getfield 246, 3) := by decide +kernel
theorem dX4_leave_42 : decode cX4_leave 42 = .ok (.ifCond .eq 42, 3) := by decide +kernel
theorem dX4_leave_45 : decode cX4_leave 45 = .ok (.aload_n 0, 1) := by decide +kernel
theorem dX4_leave_46 : decode cX4_leave 46 = .ok (.aload_n 1, 1) := by decide +kernel
theorem dX4_leave_47 : decode cX4_leave 47 = .ok (.aload_n 1, 1) := by decide +kernel
theorem dX4_leave_48 : decode cX4_leave 48 = .ok (.getfield 220, 3) := by decide +kernel
theorem dX4_leave_51 : decode cX4_leave 51 = .ok (.invokevirtual 249, 3) := by decide +kernel
theorem dX4_leave_54 : decode cX4_leave 54 = .ok (.ifCond .eq 22, 3) := by decide +kernel
theorem dX4_leave_57 : decode cX4_leave 57 = .ok (.aload_n 0, 1) := by decide +kernel
theorem dX4_leave_58 : decode cX4_leave 58 = .ok (.getfield 31, 3) := by decide +kernel
theorem dX4_leave_61 : decode cX4_leave 61 = .ok (.aload_n 1, 1) := by decide +kernel
theorem dX4_leave_62 : decode cX4_leave 62 = .ok (.getfield 214, 3) := by decide +kernel
theorem dX4_leave_65 : decode cX4_leave 65 = .ok (.invokevirtual 107, 3) := by decide +kernel
theorem dX4_leave_68 : decode cX4_leave 68 = .ok (.aload_n 0, 1) := by decide +kernel
theorem dX4_leave_69 : decode cX4_leave 69 = .ok (.aload_n 1, 1) := by decide +kernel
theorem dX4_leave_70 : decode cX4_leave 70 = .ok (.getfield 217, 3) := by decide +kernel
theorem dX4_leave_73 : decode cX4_leave 73 = .ok (.putfield 113, 3) := by decide +kernel
theorem dX4_leave_76 : decode cX4_leave 76 = .ok (.aload_n 0, 1) := by decide +kernel
theorem dX4_leave_77 : decode cX4_leave 77 = .ok (.iconst 1, 1) := by decide +kernel
theorem dX4_leave_78 : decode cX4_leave 78 = .ok (.putfield 57, 3) := by decide +kernel
theorem dX4_leave_81 : decode cX4_leave 81 = .ok (.goto 42, 3) := by decide +kernel
theorem dX4_leave_84 : decode cX4_leave 84 = .ok (.aload_n 0, 1) := by decide +kernel
theorem dX4_leave_85 : decode cX4_leave 85 = .ok (.aload_n 1, 1) := by decide +kernel
theorem dX4_leave_86 : decode cX4_leave 86 = .ok (.getfield 220, 3) := by decide +kernel
theorem dX4_leave_89 : decode cX4_leave 89 = .ok (.putfield 53, 3) := by decide +kernel
theorem dX4_leave_92 : decode cX4_leave 92 = .ok (.aload_n 0, 1) := by decide +kernel
theorem dX4_leave_93 : decode cX4_leave 93 = .ok (.aload_n 1, 1) := by decide +kernel
theorem dX4_leave_94 : decode cX4_leave 94 = .ok (.getfield 223, 3) := by decide +kernel
theorem dX4_leave_97 : decode cX4_leave 97 = .ok (.iconst 1, 1) := by decide +kernel
theorem dX4_leave_98 : decode cX4_leave 98 = .ok (.iadd, 1) := by decide +kernel
theorem dX4_leave_99 : decode cX4_leave 99 = .ok (.putfield 69, 3) := by decide +kernel
theorem dX4_leave_102 : decode cX4_leave 102 = .ok (.aload_n 0, 1) := by decide +kernel
theorem dX4_leave_103 : decode cX4_leave 103 = .ok (.aload_n 0, 1) := by decide +kernel
theorem dX4_leave_104 : decode cX4_leave 104 = .ok (.aload_n 1, 1) := by decide +kernel
theorem dX4_leave_105 : decode cX4_leave 105 = .ok (.aload_n 1, 1) := by decide +kernel
theorem dX4_leave_106 : decode cX4_leave 106 = .ok (.getfield 220, 3) := by decide +kernel
theorem dX4_leave_109 : decode cX4_leave 109 = .ok (.invokevirtual 249, 3) := by decide +kernel
theorem dX4_leave_112 : decode cX4_leave 112 = .ok (.ifCond .ne 7, 3) := by decide +kernel
theorem dX4_leave_115 : decode cX4_leave 115 = .ok (.iconst 1, 1) := by decide +kernel
theorem dX4_leave_116 : decode cX4_leave 116 = .ok (.goto 4, 3) := by decide +kernel
theorem dX4_leave_119 : decode cX4_leave 119 = .ok (.iconst 0, 1) := by decide +kernel
theorem dX4_leave_120 : decode cX4_leave 120 = .ok (.putfield 57, 3) := by decide +kernel
theorem dX4_leave_123 : decode cX4_leave 123 = .ok (.return_, 1) := by decide +kernel
theorem dX4_addAnswer_0 : decode cX4_addAnswer 0 = .ok (.aload_n 0, 1) := by decide +kernel
theorem dX4_addAnswer_1 : decode cX4_addAnswer 1 = .ok (.getfield 15, 3) := by decide +kernel
theorem dX4_addAnswer_4 : decode cX4_addAnswer 4 = .ok (.invokevirtual 253, 3) := by decide +kernel
theorem dX4_addAnswer_7 : decode cX4_addAnswer 7 = .ok (.bipush 50, 2) := by decide +kernel
theorem dX4_addAnswer_9 : decode cX4_addAnswer 9 = .ok (.if_icmp .lt 10, 3) := by decide +kernel
theorem dX4_addAnswer_12 : decode cX4_addAnswer 12 = .ok (.aload_n 0, 1) := by decide +kernel
theorem dX4_addAnswer_13 : decode cX4_addAnswer 13 = .ok (.bipush 108, 2) := by decide +kernel
theorem dX4_addAnswer_15 : decode cX4_addAnswer 15 = .ok (.invokevirtual 232, 3) := by decide +kernel
theorem dX4_addAnswer_18 : decode cX4_addAnswer 18 = .ok (.return_, 1) := by decide +kernel
theorem dX4_addAnswer_19 : decode cX4_addAnswer 19 = .ok (.aload_n 1, 1) := by decide +kernel
theorem dX4_addAnswer_20 : decode cX4_addAnswer 20 = .ok (.getfield 73, 3) := by decide +kernel
theorem dX4_addAnswer_23 : decode cX4_addAnswer 23 = .ok (.getfield 152, 3) := by decide +kernel
theorem dX4_addAnswer_26 : decode cX4_addAnswer 26 = .ok (.invokevirtual 256, 3) := by decide +kernel
theorem dX4_addAnswer_29 : decode cX4_addAnswer 29 = .ok (.istore_n 2, 1) := by decide +kernel
theorem dX4_addAnswer_30 : decode cX4_addAnswer 30 = .ok (.iload_n 2, 1) := by decide +kernel
theorem dX4_addAnswer_31 : decode cX4_addAnswer 31 = .ok (.ifCond .le 11, 3) := by decide +kernel
theorem dX4_addAnswer_34 : decode cX4_addAnswer 34 = .ok (.aload_n 1, 1) := by decide +kernel
theorem dX4_addAnswer_35 : decode cX4_addAnswer 35 = .ok (.iconst 0, 1) := by decide +kernel
theorem dX4_addAnswer_36 : decode cX4_addAnswer 36 = .ok (.invokevirtual 203, 3) := by decide +kernel
theorem dX4_addAnswer_39 : decode cX4_addAnswer 39 = .ok (.goto 4, 3) := by decide +kernel
theorem dX4_addAnswer_42 : decode cX4_addAnswer 42 = .ok (.iconst (-1), 1) := by decide +kernel
theorem dX4_addAnswer_43 : decode cX4_addAnswer 43 = .ok (.istore_n 3, 1) := by decide +kernel
theorem dX4_addAnswer_44 : decode cX4_addAnswer 44 = .ok (.iload_n 2, 1) := by decide +kernel
theorem dX4_addAnswer_45 : decode cX4_addAnswer 45 = .ok (.iconst 1, 1) := by decide +kernel
theorem dX4_addAnswer_46 : decode cX4_addAnswer 46 = .ok (.if_icmp .le 11, 3) := by decide +kernel
theorem dX4_addAnswer_49 : decode cX4_addAnswer 49 = .ok (.aload_n 1, 1) := by decide +kernel
theorem dX4_addAnswer_50 : decode cX4_addAnswer 50 = .ok (.iconst 1, 1) := by decide +kernel
theorem dX4_addAnswer_51 : decode cX4_addAnswer 51 = .ok (.invokevirtual 203, 3) := by decide +kernel
theorem dX4_addAnswer_54 : decode cX4_addAnswer 54 = .ok (.goto 4, 3) := by decide +kernel
theorem dX4_addAnswer_57 : decode cX4_addAnswer 57 = .ok (.iconst (-1), 1) := by decide +kernel
theorem dX4_addAnswer_58 : decode cX4_addAnswer 58 = .ok (.istore 4, 2) := by decide +kernel
theorem dX4_addAnswer_60 : decode cX4_addAnswer 60 = .ok (.iload_n 2, 1) := by decide +kernel
theorem dX4_addAnswer_61 : decode cX4_addAnswer 61 = .ok (.iconst 2, 1) := by decide +kernel
theorem dX4_addAnswer_62 : decode cX4_addAnswer 62 = .ok (.if_icmp .le 11, 3) := by decide +kernel
theorem dX4_addAnswer_65 : decode cX4_addAnswer 65 = .ok (.aload_n 1, 1) := by decide +kernel
theorem dX4_addAnswer_66 : decode cX4_addAnswer 66 = .ok (.iconst 2, 1) := by decide +kernel
theorem dX4_addAnswer_67 : decode cX4_addAnswer 67 = .ok (.invokevirtual 203, 3) := by decide +kernel
theorem dX4_addAnswer_70 : decode cX4_addAnswer 70 = .ok (.goto 4, 3) := by decide +kernel
theorem dX4_addAnswer_73 : decode cX4_addAnswer 73 = .ok (.iconst (-1), 1) := by decide +kernel
theorem dX4_addAnswer_74 : decode cX4_addAnswer 74 = .ok (.istore 5, 2) := by decide +kernel
theorem dX4_addAnswer_76 : decode cX4_addAnswer 76 = .ok (.aload_n 0, 1) := by decide +kernel
theorem dX4_addAnswer_77 : decode cX4_addAnswer 77 = .ok (.getfield 15, 3) := by decide +kernel
theorem dX4_addAnswer_80 : decode cX4_addAnswer 80 = .ok (.iload_n 3, 1) := by decide +kernel
theorem dX4_addAnswer_81 : decode cX4_addAnswer 81 = .ok (.iload 4, 2) := by decide +kernel
theorem dX4_addAnswer_83 : decode cX4_addAnswer 83 = .ok (.iload 5, 2) := by decide +kernel
theorem dX4_addAnswer_85 : decode cX4_addAnswer 85 = .ok (.invokevirtual 259, 3) := by decide +kernel
theorem dX4_addAnswer_88 : decode cX4_addAnswer 88 = .ok (.aload_n 0, 1) := by decide +kernel
theorem dX4_addAnswer_89 : decode cX4_addAnswer 89 = .ok (.iconst 1, 1) := by decide +kernel
theorem dX4_addAnswer_90 : decode cX4_addAnswer 90 = .ok (.putfield 57, 3) := by decide +kernel
theorem dX4_addAnswer_93 : decode cX4_addAnswer 93 = .ok (.return_, 1) := by decide +kernel
theorem dX4_handsBack_0 : decode cX4_handsBack 0 = .ok (.aload_n 2, 1) := by decide +kernel
theorem dX4_handsBack_1 : decode cX4_handsBack 1 = .ok (.getfield 60, 3) := by decide +kernel
theorem dX4_handsBack_4 : decode cX4_handsBack 4 = .ok (.ifnonnull 7, 3) := by decide +kernel
theorem dX4_handsBack_7 : decode cX4_handsBack 7 = .ok (.aconst_null, 1) := by decide +kernel
theorem dX4_handsBack_8 : decode cX4_handsBack 8 = .ok (.goto 21, 3) := by decide +kernel
theorem dX4_handsBack_11 : decode cX4_handsBack 11 = .ok (.aload_n 2, 1) := by decide +kernel
theorem dX4_handsBack_12 : decode cX4_handsBack 12 = .ok (.getfield 60, 3) := by decide +kernel
theorem dX4_handsBack_15 : decode cX4_handsBack 15 = .ok (.aload_n 2, 1) := by decide +kernel
theorem dX4_handsBack_16 : decode cX4_handsBack 16 = .ok (.getfield 73, 3) := by decide +kernel
theorem dX4_handsBack_19 : decode cX4_handsBack 19 = .ok (.getfield 77, 3) := by decide +kernel
theorem dX4_handsBack_22 : decode cX4_handsBack 22 = .ok (.aload_n 1, 1) := by decide +kernel
theorem dX4_handsBack_23 : decode cX4_handsBack 23 = .ok (.getfield 223, 3) := by decide +kernel
theorem dX4_handsBack_26 : decode cX4_handsBack 26 = .ok (.invokevirtual 92, 3) := by decide +kernel
theorem dX4_handsBack_29 : decode cX4_handsBack 29 = .ok (.astore_n 3, 1) := by decide +kernel
theorem dX4_handsBack_30 : decode cX4_handsBack 30 = .ok (.aload_n 3, 1) := by decide +kernel
theorem dX4_handsBack_31 : decode cX4_handsBack 31 = .ok (.ifnonnull 7, 3) := by decide +kernel
theorem dX4_handsBack_34 : decode cX4_handsBack 34 = .ok (.iconst 0, 1) := by decide +kernel
theorem dX4_handsBack_35 : decode cX4_handsBack 35 = .ok (.goto 7, 3) := by decide +kernel
theorem dX4_handsBack_38 : decode cX4_handsBack 38 = .ok (.aload_n 3, 1) := by decide +kernel
theorem dX4_handsBack_39 : decode cX4_handsBack 39 = .ok (.getfield 261, 3) := by decide +kernel
theorem dX4_handsBack_42 : decode cX4_handsBack 42 = .ok (.istore 4, 2) := by decide +kernel
theorem dX4_handsBack_44 : decode cX4_handsBack 44 = .ok (.iconst 0, 1) := by decide +kernel
theorem dX4_handsBack_45 : decode cX4_handsBack 45 = .ok (.istore 5, 2) := by decide +kernel
theorem dX4_handsBack_47 : decode cX4_handsBack 47 = .ok (.iload 5, 2) := by decide +kernel
theorem dX4_handsBack_49 : decode cX4_handsBack 49 = .ok (.iload 4, 2) := by decide +kernel
theorem dX4_handsBack_51 : decode cX4_handsBack 51 = .ok (.if_icmp .ge 55, 3) := by decide +kernel
theorem dX4_handsBack_54 : decode cX4_handsBack 54 = .ok (.aload_n 1, 1) := by decide +kernel
theorem dX4_handsBack_55 : decode cX4_handsBack 55 = .ok (.getfield 73, 3) := by decide +kernel
theorem dX4_handsBack_58 : decode cX4_handsBack 58 = .ok (.iload 5, 2) := by decide +kernel
theorem dX4_handsBack_60 : decode cX4_handsBack 60 = .ok (.invokevirtual 263, 3) := by decide +kernel
theorem dX4_handsBack_63 : decode cX4_handsBack 63 = .ok (.ifCond .ne 7, 3) := by decide +kernel
theorem dX4_handsBack_66 : decode cX4_handsBack 66 = .ok (.iconst 1, 1) := by decide +kernel
theorem dX4_handsBack_67 : decode cX4_handsBack 67 = .ok (.goto 4, 3) := by decide +kernel
theorem dX4_handsBack_70 : decode cX4_handsBack 70 = .ok (.iconst 0, 1) := by decide +kernel
theorem dX4_handsBack_71 : decode cX4_handsBack 71 = .ok (.istore 6, 2) := by decide +kernel
theorem dX4_handsBack_73 : decode cX4_handsBack 73 = .ok (.iload 6, 2) := by decide +kernel
theorem dX4_handsBack_75 : decode cX4_handsBack 75 = .ok (.ifCond .eq 25, 3) := by decide +kernel
theorem dX4_handsBack_78 : decode cX4_handsBack 78 = .ok (.aload_n 0, 1) := by decide +kernel
theorem dX4_handsBack_79 : decode cX4_handsBack 79 = .ok (.aload_n 2, 1) := by decide +kernel
theorem dX4_handsBack_80 : decode cX4_handsBack 80 = .ok (.aload_n 3, 1) := by decide +kernel
theorem dX4_handsBack_81 : decode cX4_handsBack 81 = .ok (.iload 5, 2) := by decide +kernel
theorem dX4_handsBack_83 : decode cX4_handsBack 83 = .ok (.invokevirtual 267, 3) := by decide +kernel
theorem dX4_handsBack_86 : decode cX4_handsBack 86 = .ok (.aload_n 1, 1) := by decide +kernel
theorem dX4_handsBack_87 : decode cX4_handsBack 87 = .ok (.iload 5, 2) := by decide +kernel
theorem dX4_handsBack_89 : decode cX4_handsBack 89 = .ok (.invokevirtual 203, 3) := by decide +kernel
theorem dX4_handsBack_92 : decode cX4_handsBack 92 = .ok (.invokevirtual 270, 3) := by decide +kernel
theorem dX4_handsBack_95 : decode cX4_handsBack 95 = .ok (.ifCond .ne 5, 3) := by decide +kernel
theorem dX4_handsBack_98 : decode cX4_handsBack 98 = .ok (.iconst 0, 1) := by decide +kernel
theorem dX4_handsBack_99 : decode cX4_handsBack 99 = .ok (.ireturn, 1) := by decide +kernel
theorem dX4_handsBack_100 : decode cX4_handsBack 100 = .ok (.iinc 5 1, 3) := by decide +kernel
theorem dX4_handsBack_103 : decode cX4_handsBack 103 = .ok (.goto (-56), 3) := by decide +kernel
theorem dX4_handsBack_106 : decode cX4_handsBack 106 = .ok (.iconst 1, 1) := by decide +kernel
theorem dX4_handsBack_107 : decode cX4_handsBack 107 = .ok (.ireturn, 1) := by decide +kernel
theorem dX4_agrees_0 : decode cX4_agrees 0 = .ok (.aload_n 1, 1) := by decide +kernel
theorem dX4_agrees_1 : decode cX4_agrees 1 = .ok (.iload_n 2, 1) := by decide +kernel
theorem dX4_agrees_2 : decode cX4_agrees 2 = .ok (.invokevirtual 203, 3) := by decide +kernel
theorem dX4_agrees_5 : decode cX4_agrees 5 = .ok (.iconst (-1), 1) := by decide +kernel
theorem dX4_agrees_6 : decode cX4_agrees 6 = .ok (.if_icmp .ne 23, 3) := by decide +kernel
theorem dX4_agrees_9 : decode cX4_agrees 9 = .ok (.aload_n 1, 1) := by decide +kernel
theorem dX4_agrees_10 : decode cX4_agrees 10 = .ok (.iload_n 2, 1) := by decide +kernel
theorem dX4_agrees_11 : decode cX4_agrees 11 = .ok (.iload_n 3, 1) := by decide +kernel
theorem dX4_agrees_12 : decode cX4_agrees 12 = .ok (.invokevirtual 125, 3) := by decide +kernel
theorem dX4_agrees_15 : decode cX4_agrees 15 = .ok (.aload_n 0, 1) := by decide +kernel
theorem dX4_agrees_16 : decode cX4_agrees 16 = .ok (.getfield 35, 3) := by decide +kernel
theorem dX4_agrees_19 : decode cX4_agrees 19 = .ok (.aload_n 1, 1) := by decide +kernel
theorem dX4_agrees_20 : decode cX4_agrees 20 = .ok (.getfield 185, 3) := by decide +kernel
theorem dX4_agrees_23 : decode cX4_agrees 23 = .ok (.iload_n 2, 1) := by decide +kernel
theorem dX4_agrees_24 : decode cX4_agrees 24 = .ok (.iconst (-1), 1) := by decide +kernel
theorem dX4_agrees_25 : decode cX4_agrees 25 = .ok (.invokevirtual 189, 3) := by decide +kernel
theorem dX4_agrees_28 : decode cX4_agrees 28 = .ok (.pop, 1) := by decide +kernel
theorem dX4_agrees_29 : decode cX4_agrees 29 = .ok (.aload_n 1, 1) := by decide +kernel
theorem dX4_agrees_30 : decode cX4_agrees 30 = .ok (.iload_n 2, 1) := by decide +kernel
theorem dX4_agrees_31 : decode cX4_agrees 31 = .ok (.invokevirtual 203, 3) := by decide +kernel
theorem dX4_agrees_34 : decode cX4_agrees 34 = .ok (.iload_n 3, 1) := by decide +kernel
theorem dX4_agrees_35 : decode cX4_agrees 35 = .ok (.if_icmp .ne 7, 3) := by decide +kernel
theorem dX4_agrees_38 : decode cX4_agrees 38 = .ok (.iconst 1, 1) := by decide +kernel
theorem dX4_agrees_39 : decode cX4_agrees 39 = .ok (.goto 4, 3) := by decide +kernel
theorem dX4_agrees_42 : decode cX4_agrees 42 = .ok (.iconst 0, 1) := by decide +kernel
theorem dX4_agrees_43 : decode cX4_agrees 43 = .ok (.ireturn, 1) := by decide +kernel
theorem dX4_beginGoal_0 : decode cX4_beginGoal 0 = .ok (.aload_n 2, 1) := by decide +kernel
theorem dX4_beginGoal_1 : decode cX4_beginGoal 1 = .ok (.ifnull 16, 3) := by decide +kernel
theorem dX4_beginGoal_4 : decode cX4_beginGoal 4 = .ok (.aload_n 0, 1) := by decide +kernel
theorem dX4_beginGoal_5 : decode cX4_beginGoal 5 = .ok (.getfield 15, 3) := by decide +kernel
theorem dX4_beginGoal_8 : decode cX4_beginGoal 8 = .ok (.getfield 274, 3) := by decide +kernel
theorem dX4_beginGoal_11 : decode cX4_beginGoal 11 = .ok (.sipush 300, 3) := by decide +kernel
theorem dX4_beginGoal_14 : decode cX4_beginGoal 14 = .ok (.if_icmp .lt 10, 3) := by decide +kernel
theorem dX4_beginGoal_17 : decode cX4_beginGoal 17 = .ok (.aload_n 0, 1) := by decide +kernel
theorem dX4_beginGoal_18 : decode cX4_beginGoal 18 = .ok (.bipush 108, 2) := by decide +kernel
theorem dX4_beginGoal_20 : decode cX4_beginGoal 20 = .ok (.invokevirtual 232, 3) := by decide +kernel
theorem dX4_beginGoal_23 : decode cX4_beginGoal 23 = .ok (.return_, 1) := by decide +kernel
theorem dX4_beginGoal_24 : decode cX4_beginGoal 24 = .ok (.aload_n 0, 1) := by decide +kernel
theorem dX4_beginGoal_25 : decode cX4_beginGoal 25 = .ok (.getfield 15, 3) := by decide +kernel
theorem dX4_beginGoal_28 : decode cX4_beginGoal 28 = .ok (.dup, 1) := by decide +kernel
theorem dX4_beginGoal_29 : decode cX4_beginGoal 29 = .ok (.getfield 274, 3) := by decide +kernel
theorem dX4_beginGoal_32 : decode cX4_beginGoal 32 = .ok (.iconst 1, 1) := by decide +kernel
theorem dX4_beginGoal_33 : decode cX4_beginGoal 33 = .ok (.iadd, 1) := by decide +kernel
theorem dX4_beginGoal_34 : decode cX4_beginGoal 34 = .ok (.putfield 274, 3) := by decide +kernel
theorem dX4_beginGoal_37 : decode cX4_beginGoal 37 = .ok (.aload_n 2, 1) := by decide +kernel
theorem dX4_beginGoal_38 : decode cX4_beginGoal 38 = .ok (.invokevirtual 277, 3) := by decide +kernel
theorem dX4_beginGoal_41 : decode cX4_beginGoal 41 = .ok (.ifCond .eq 10, 3) := by decide +kernel
theorem dX4_beginGoal_44 : decode cX4_beginGoal 44 = .ok (.aload_n 0, 1) := by decide +kernel
theorem dX4_beginGoal_45 : decode cX4_beginGoal 45 = .ok (.aload_n 1, 1) := by decide +kernel
theorem dX4_beginGoal_46 : decode cX4_beginGoal 46 = .ok (.aload_n 2, 1) := by decide +kernel
theorem dX4_beginGoal_47 : decode cX4_beginGoal 47 = .ok (.invokevirtual 281, 3) := by decide +kernel
theorem dX4_beginGoal_50 : decode cX4_beginGoal 50 = .ok (.return_, 1) := by decide +kernel
theorem dX4_beginGoal_51 : decode cX4_beginGoal 51 = .ok (.aload_n 2, 1) := by decide +kernel
theorem dX4_beginGoal_52 : decode cX4_beginGoal 52 = .ok (.iconst 0, 1) := by decide +kernel
theorem dX4_beginGoal_53 : decode cX4_beginGoal 53 = .ok (.invokevirtual 267, 3) := by decide +kernel
theorem dX4_beginGoal_56 : decode cX4_beginGoal 56 = .ok (.istore_n 3, 1) := by decide +kernel
theorem dX4_beginGoal_57 : decode cX4_beginGoal 57 = .ok (.aload_n 2, 1) := by decide +kernel
theorem dX4_beginGoal_58 : decode cX4_beginGoal 58 = .ok (.iconst 1, 1) := by decide +kernel
theorem dX4_beginGoal_59 : decode cX4_beginGoal 59 = .ok (.invokevirtual 267, 3) := by decide +kernel
theorem dX4_beginGoal_62 : decode cX4_beginGoal 62 = .ok (.istore 4, 2) := by decide +kernel
theorem dX4_beginGoal_64 : decode cX4_beginGoal 64 = .ok (.aload_n 2, 1) := by decide +kernel
theorem dX4_beginGoal_65 : decode cX4_beginGoal 65 = .ok (.getfield 284, 3) := by decide +kernel
theorem dX4_beginGoal_68 : decode cX4_beginGoal 68 = .ok (.iconst 1, 1) := by decide +kernel
theorem dX4_beginGoal_69 : decode cX4_beginGoal 69 = .ok (.if_icmp .ne 69, 3) := by decide +kernel
theorem dX4_beginGoal_72 : decode cX4_beginGoal 72 = .ok (.aload_n 1, 1) := by decide +kernel
theorem dX4_beginGoal_73 : decode cX4_beginGoal 73 = .ok (.iload_n 3, 1) := by decide +kernel
theorem dX4_beginGoal_74 : decode cX4_beginGoal 74 = .ok (.invokevirtual 203, 3) := by decide +kernel
theorem dX4_beginGoal_77 : decode cX4_beginGoal 77 = .ok (.iconst (-1), 1) := by decide +kernel
theorem dX4_beginGoal_78 : decode cX4_beginGoal 78 = .ok (.if_icmp .eq 7, 3) := by decide +kernel
theorem dX4_beginGoal_81 : decode cX4_beginGoal 81 = .ok (.iconst 1, 1) := by decide +kernel
theorem dX4_beginGoal_82 : decode cX4_beginGoal 82 = .ok (.goto 4, 3) := by decide +kernel
theorem dX4_beginGoal_85 : decode cX4_beginGoal 85 = .ok (.iconst 0, 1) := by decide +kernel
theorem dX4_beginGoal_86 : decode cX4_beginGoal 86 = .ok (.istore 5, 2) := by decide +kernel
theorem dX4_beginGoal_88 : decode cX4_beginGoal 88 = .ok (.aload_n 1, 1) := by decide +kernel
theorem dX4_beginGoal_89 : decode cX4_beginGoal 89 = .ok (.iload 5, 2) := by decide +kernel
theorem dX4_beginGoal_91 : decode cX4_beginGoal 91 = .ok (.ifCond .eq 7, 3) := by decide +kernel
theorem dX4_beginGoal_94 : decode cX4_beginGoal 94 = .ok (.iload_n 3, 1) := by decide +kernel
theorem dX4_beginGoal_95 : decode cX4_beginGoal 95 = .ok (.goto 5, 3) := by decide +kernel
theorem dX4_beginGoal_98 : decode cX4_beginGoal 98 = .ok (.iload 4, 2) := by decide +kernel
theorem dX4_beginGoal_100 : decode cX4_beginGoal 100 = .ok (.invokevirtual 203, 3) := by decide +kernel
theorem dX4_beginGoal_103 : decode cX4_beginGoal 103 = .ok (.istore 6, 2) := by decide +kernel
theorem dX4_beginGoal_105 : decode cX4_beginGoal 105 = .ok (.aload_n 0, 1) := by decide +kernel
theorem dX4_beginGoal_106 : decode cX4_beginGoal 106 = .ok (.aload_n 0, 1) := by decide +kernel
theorem dX4_beginGoal_107 : decode cX4_beginGoal 107 = .ok (.aload_n 1, 1) := by decide +kernel
theorem dX4_beginGoal_108 : decode cX4_beginGoal 108 = .ok (.iload 5, 2) := by decide +kernel
theorem dX4_beginGoal_110 : decode cX4_beginGoal 110 = .ok (.ifCond .eq 8, 3) := by decide +kernel
theorem dX4_beginGoal_113 : decode cX4_beginGoal 113 = .ok (.iload 4, 2) := by decide +kernel
theorem dX4_beginGoal_115 : decode cX4_beginGoal 115 = .ok (.goto 4, 3) := by decide +kernel
theorem dX4_beginGoal_118 : decode cX4_beginGoal 118 = .ok (.iload_n 3, 1) := by decide +kernel
theorem dX4_beginGoal_119 : decode cX4_beginGoal 119 = .ok (.iload 6, 2) := by decide +kernel
theorem dX4_beginGoal_121 : decode cX4_beginGoal 121 = .ok (.invokevirtual 270, 3) := by decide +kernel
theorem dX4_beginGoal_124 : decode cX4_beginGoal 124 = .ok (.ifCond .ne 7, 3) := by decide +kernel
theorem dX4_beginGoal_127 : decode cX4_beginGoal 127 = .ok (.iconst 1, 1) := by decide +kernel
theorem dX4_beginGoal_128 : decode cX4_beginGoal 128 = .ok (.goto 4, 3) := by decide +kernel
theorem dX4_beginGoal_131 : decode cX4_beginGoal 131 = .ok (.iconst 0, 1) := by decide +kernel
theorem dX4_beginGoal_132 : decode cX4_beginGoal 132 = .ok (.putfield 57, 3) := by decide +kernel
theorem dX4_beginGoal_135 : decode cX4_beginGoal 135 = .ok (.goto 44, 3) := by decide +kernel
theorem dX4_beginGoal_138 : decode cX4_beginGoal 138 = .ok (.aload_n 1, 1) := by decide +kernel
theorem dX4_beginGoal_139 : decode cX4_beginGoal 139 = .ok (.iload_n 3, 1) := by decide +kernel
theorem dX4_beginGoal_140 : decode cX4_beginGoal 140 = .ok (.invokevirtual 203, 3) := by decide +kernel
theorem dX4_beginGoal_143 : decode cX4_beginGoal 143 = .ok (.iconst (-1), 1) := by decide +kernel
theorem dX4_beginGoal_144 : decode cX4_beginGoal 144 = .ok (.if_icmp .ne 12, 3) := by decide +kernel
theorem dX4_beginGoal_147 : decode cX4_beginGoal 147 = .ok (.aload_n 0, 1) := by decide +kernel
theorem dX4_beginGoal_148 : decode cX4_beginGoal 148 = .ok (.aload_n 1, 1) := by decide +kernel
theorem dX4_beginGoal_149 : decode cX4_beginGoal 149 = .ok (.aload_n 2, 1) := by decide +kernel
theorem dX4_beginGoal_150 : decode cX4_beginGoal 150 = .ok (.invokevirtual 287, 3) := by decide +kernel
theorem dX4_beginGoal_153 : decode cX4_beginGoal 153 = .ok (.goto 26, 3) := by decide +kernel
theorem dX4_beginGoal_156 : decode cX4_beginGoal 156 = .ok (.aload_n 0, 1) := by decide +kernel
theorem dX4_beginGoal_157 : decode cX4_beginGoal 157 = .ok (.aload_n 0, 1) := by decide +kernel
theorem dX4_beginGoal_158 : decode cX4_beginGoal 158 = .ok (.aload_n 1, 1) := by decide +kernel
theorem dX4_beginGoal_159 : decode cX4_beginGoal 159 = .ok (.aload_n 2, 1) := by decide +kernel
theorem dX4_beginGoal_160 : decode cX4_beginGoal 160 = .ok (.aload_n 1, 1) := by decide +kernel
theorem dX4_beginGoal_161 : decode cX4_beginGoal 161 = .ok (.iload_n 3, 1) := by decide +kernel
theorem dX4_beginGoal_162 : decode cX4_beginGoal 162 = .ok (.invokevirtual 203, 3) := by decide +kernel
theorem dX4_beginGoal_165 : decode cX4_beginGoal 165 = .ok (.invokevirtual 290, 3) := by decide +kernel
theorem dX4_beginGoal_168 : decode cX4_beginGoal 168 = .ok (.ifCond .ne 7, 3) := by decide +kernel
theorem dX4_beginGoal_171 : decode cX4_beginGoal 171 = .ok (.iconst 1, 1) := by decide +kernel
theorem dX4_beginGoal_172 : decode cX4_beginGoal 172 = .ok (.goto 4, 3) := by decide +kernel
theorem dX4_beginGoal_175 : decode cX4_beginGoal 175 = .ok (.iconst 0, 1) := by decide +kernel
theorem dX4_beginGoal_176 : decode cX4_beginGoal 176 = .ok (.putfield 57, 3) := by decide +kernel
theorem dX4_beginGoal_179 : decode cX4_beginGoal 179 = .ok (.aload_n 0, 1) := by decide +kernel
theorem dX4_beginGoal_180 : decode cX4_beginGoal 180 = .ok (.dup, 1) := by decide +kernel
theorem dX4_beginGoal_181 : decode cX4_beginGoal 181 = .ok (.getfield 69, 3) := by decide +kernel
theorem dX4_beginGoal_184 : decode cX4_beginGoal 184 = .ok (.iconst 1, 1) := by decide +kernel
theorem dX4_beginGoal_185 : decode cX4_beginGoal 185 = .ok (.iadd, 1) := by decide +kernel
theorem dX4_beginGoal_186 : decode cX4_beginGoal 186 = .ok (.putfield 69, 3) := by decide +kernel
theorem dX4_beginGoal_189 : decode cX4_beginGoal 189 = .ok (.return_, 1) := by decide +kernel
theorem dX4_beginCall_0 : decode cX4_beginCall 0 = .ok (.aload_n 1, 1) := by decide +kernel
theorem dX4_beginCall_1 : decode cX4_beginCall 1 = .ok (.getfield 60, 3) := by decide +kernel
theorem dX4_beginCall_4 : decode cX4_beginCall 4 = .ok (.ifnonnull 7, 3) := by decide +kernel
theorem dX4_beginCall_7 : decode cX4_beginCall 7 = .ok (.aconst_null, 1) := by decide +kernel
theorem dX4_beginCall_8 : decode cX4_beginCall 8 = .ok (.goto 21, 3) := by decide +kernel
theorem dX4_beginCall_11 : decode cX4_beginCall 11 = .ok (.aload_n 1, 1) := by decide +kernel
theorem dX4_beginCall_12 : decode cX4_beginCall 12 = .ok (.getfield 60, 3) := by decide +kernel
theorem dX4_beginCall_15 : decode cX4_beginCall 15 = .ok (.aload_n 1, 1) := by decide +kernel
theorem dX4_beginCall_16 : decode cX4_beginCall 16 = .ok (.getfield 73, 3) := by decide +kernel
theorem dX4_beginCall_19 : decode cX4_beginCall 19 = .ok (.getfield 77, 3) := by decide +kernel
theorem dX4_beginCall_22 : decode cX4_beginCall 22 = .ok (.aload_n 0, 1) := by decide +kernel
theorem dX4_beginCall_23 : decode cX4_beginCall 23 = .ok (.getfield 69, 3) := by decide +kernel
theorem dX4_beginCall_26 : decode cX4_beginCall 26 = .ok (.invokevirtual 294, 3) := by decide +kernel
theorem dX4_beginCall_29 : decode cX4_beginCall 29 = .ok (.astore_n 3, 1) := by decide +kernel
theorem dX4_beginCall_30 : decode cX4_beginCall 30 = .ok (.aload_n 3, 1) := by decide +kernel
theorem dX4_beginCall_31 : decode cX4_beginCall 31 = .ok (.ifnull 12, 3) := by decide +kernel
theorem dX4_beginCall_34 : decode cX4_beginCall 34 = .ok (.aload_n 1, 1) := by decide +kernel
theorem dX4_beginCall_35 : decode cX4_beginCall 35 = .ok (.getfield 159, 3) := by decide +kernel
theorem dX4_beginCall_38 : decode cX4_beginCall 38 = .ok (.bipush 30, 2) := by decide +kernel
theorem dX4_beginCall_40 : decode cX4_beginCall 40 = .ok (.if_icmp .lt 10, 3) := by decide +kernel
theorem dX4_beginCall_43 : decode cX4_beginCall 43 = .ok (.aload_n 0, 1) := by decide +kernel
theorem dX4_beginCall_44 : decode cX4_beginCall 44 = .ok (.bipush 108, 2) := by decide +kernel
theorem dX4_beginCall_46 : decode cX4_beginCall 46 = .ok (.invokevirtual 232, 3) := by decide +kernel
theorem dX4_beginCall_49 : decode cX4_beginCall 49 = .ok (.return_, 1) := by decide +kernel
theorem dX4_beginCall_50 : decode cX4_beginCall 50 = .ok (.aload_n 0, 1) := by decide +kernel
theorem dX4_beginCall_51 : decode cX4_beginCall 51 = .ok (.aload_n 3, 1) := by decide +kernel
theorem dX4_beginCall_52 : decode cX4_beginCall 52 = .ok (.aload_n 1, 1) := by decide +kernel
theorem dX4_beginCall_53 : decode cX4_beginCall 53 = .ok (.invokevirtual 116, 3) := by decide +kernel
theorem dX4_beginCall_56 : decode cX4_beginCall 56 = .ok (.astore 4, 2) := by decide +kernel
theorem dX4_beginCall_58 : decode cX4_beginCall 58 = .ok (.iconst 0, 1) := by decide +kernel
theorem dX4_beginCall_59 : decode cX4_beginCall 59 = .ok (.istore 5, 2) := by decide +kernel
theorem dX4_beginCall_61 : decode cX4_beginCall 61 = .ok (.iload 5, 2) := by decide +kernel
theorem dX4_beginCall_63 : decode cX4_beginCall 63 = .ok (.aload_n 2, 1) := by decide +kernel
theorem dX4_beginCall_64 : decode cX4_beginCall 64 = .ok (.getfield 261, 3) := by decide +kernel
theorem dX4_beginCall_67 : decode cX4_beginCall 67 = .ok (.if_icmp .ge 35, 3) := by decide +kernel
theorem dX4_beginCall_70 : decode cX4_beginCall 70 = .ok (.aload_n 3, 1) := by decide +kernel
theorem dX4_beginCall_71 : decode cX4_beginCall 71 = .ok (.iload 5, 2) := by decide +kernel
theorem dX4_beginCall_73 : decode cX4_beginCall 73 = .ok (.invokevirtual 263, 3) := by decide +kernel
theorem dX4_beginCall_76 : decode cX4_beginCall 76 = .ok (.ifCond .eq 20, 3) := by decide +kernel
theorem dX4_beginCall_79 : decode cX4_beginCall 79 = .ok (.aload 4, 2) := by decide +kernel
theorem dX4_beginCall_81 : decode cX4_beginCall 81 = .ok (.iload 5, 2) := by decide +kernel
theorem dX4_beginCall_83 : decode cX4_beginCall 83 = .ok (.aload_n 1, 1) := by decide +kernel
theorem dX4_beginCall_84 : decode cX4_beginCall 84 = .ok (.aload_n 2, 1) := by decide +kernel
theorem dX4_beginCall_85 : decode cX4_beginCall 85 = .ok (.iload 5, 2) := by decide +kernel
theorem dX4_beginCall_87 : decode cX4_beginCall 87 = .ok (.invokevirtual 267, 3) := by decide +kernel
theorem dX4_beginCall_90 : decode cX4_beginCall 90 = .ok (.invokevirtual 203, 3) := by decide +kernel
theorem dX4_beginCall_93 : decode cX4_beginCall 93 = .ok (.invokevirtual 125, 3) := by decide +kernel
theorem dX4_beginCall_96 : decode cX4_beginCall 96 = .ok (.iinc 5 1, 3) := by decide +kernel
theorem dX4_beginCall_99 : decode cX4_beginCall 99 = .ok (.goto (-38), 3) := by decide +kernel
theorem dX4_beginCall_102 : decode cX4_beginCall 102 = .ok (.aload_n 2, 1) := by decide +kernel
theorem dX4_beginCall_103 : decode cX4_beginCall 103 = .ok (.getfield 284, 3) := by decide +kernel
theorem dX4_beginCall_106 : decode cX4_beginCall 106 = .ok (.iconst 3, 1) := by decide +kernel
theorem dX4_beginCall_107 : decode cX4_beginCall 107 = .ok (.if_icmp .ne 36, 3) := by decide +kernel
theorem dX4_beginCall_110 : decode cX4_beginCall 110 = .ok (.aload 4, 2) := by decide +kernel
theorem dX4_beginCall_112 : decode cX4_beginCall 112 = .ok (.iconst 1, 1) := by decide +kernel
theorem dX4_beginCall_113 : decode cX4_beginCall 113 = .ok (.putfield 246, 3) := by decide +kernel
theorem dX4_beginCall_116 : decode cX4_beginCall 116 = .ok (.aload 4, 2) := by decide +kernel
theorem dX4_beginCall_118 : decode cX4_beginCall 118 = .ok (.aload_n 0, 1) := by decide +kernel
theorem dX4_beginCall_119 : decode cX4_beginCall 119 = .ok (.getfield 113, 3) := by decide +kernel
theorem dX4_beginCall_122 : decode cX4_beginCall 122 = .ok (.putfield 217, 3) := by decide +kernel
theorem dX4_beginCall_125 : decode cX4_beginCall 125 = .ok (.aload 4, 2) := by decide +kernel
theorem dX4_beginCall_127 : decode cX4_beginCall 127 = .ok (.aload_n 0, 1) := by decide +kernel
theorem dX4_beginCall_128 : decode cX4_beginCall 128 = .ok (.getfield 31, 3) := by decide +kernel
theorem dX4_beginCall_131 : decode cX4_beginCall 131 = .ok (.invokevirtual 186, 3) := by decide +kernel
theorem dX4_beginCall_134 : decode cX4_beginCall 134 = .ok (.putfield 214, 3) := by decide +kernel
theorem dX4_beginCall_137 : decode cX4_beginCall 137 = .ok (.aload_n 0, 1) := by decide +kernel
theorem dX4_beginCall_138 : decode cX4_beginCall 138 = .ok (.aload 4, 2) := by decide +kernel
theorem dX4_beginCall_140 : decode cX4_beginCall 140 = .ok (.putfield 113, 3) := by decide +kernel
theorem dX4_beginCall_143 : decode cX4_beginCall 143 = .ok (.aload_n 0, 1) := by decide +kernel
theorem dX4_beginCall_144 : decode cX4_beginCall 144 = .ok (.aload 4, 2) := by decide +kernel
theorem dX4_beginCall_146 : decode cX4_beginCall 146 = .ok (.invokevirtual 128, 3) := by decide +kernel
theorem dX4_beginCall_149 : decode cX4_beginCall 149 = .ok (.return_, 1) := by decide +kernel
theorem dX4_build_0 : decode cX4_build 0 = .ok (.aload_n 2, 1) := by decide +kernel
theorem dX4_build_1 : decode cX4_build 1 = .ok (.getfield 261, 3) := by decide +kernel
theorem dX4_build_4 : decode cX4_build 4 = .ok (.iconst 1, 1) := by decide +kernel
theorem dX4_build_5 : decode cX4_build 5 = .ok (.if_icmp .le 15, 3) := by decide +kernel
theorem dX4_build_8 : decode cX4_build 8 = .ok (.aload_n 1, 1) := by decide +kernel
theorem dX4_build_9 : decode cX4_build 9 = .ok (.aload_n 2, 1) := by decide +kernel
theorem dX4_build_10 : decode cX4_build 10 = .ok (.iconst 1, 1) := by decide +kernel
theorem dX4_build_11 : decode cX4_build 11 = .ok (.invokevirtual 267, 3) := by decide +kernel
theorem dX4_build_14 : decode cX4_build 14 = .ok (.invokevirtual 203, 3) := by decide +kernel
theorem dX4_build_17 : decode cX4_build 17 = .ok (.goto 4, 3) := by decide +kernel
theorem dX4_build_20 : decode cX4_build 20 = .ok (.iconst 0, 1) := by decide +kernel
theorem dX4_build_21 : decode cX4_build 21 = .ok (.istore_n 3, 1) := by decide +kernel
theorem dX4_build_22 : decode cX4_build 22 = .ok (.aload_n 2, 1) := by decide +kernel
theorem dX4_build_23 : decode cX4_build 23 = .ok (.getfield 261, 3) := by decide +kernel
theorem dX4_build_26 : decode cX4_build 26 = .ok (.iconst 2, 1) := by decide +kernel
theorem dX4_build_27 : decode cX4_build 27 = .ok (.if_icmp .le 15, 3) := by decide +kernel
theorem dX4_build_30 : decode cX4_build 30 = .ok (.aload_n 1, 1) := by decide +kernel
theorem dX4_build_31 : decode cX4_build 31 = .ok (.aload_n 2, 1) := by decide +kernel
theorem dX4_build_32 : decode cX4_build 32 = .ok (.iconst 2, 1) := by decide +kernel
theorem dX4_build_33 : decode cX4_build 33 = .ok (.invokevirtual 267, 3) := by decide +kernel
theorem dX4_build_36 : decode cX4_build 36 = .ok (.invokevirtual 203, 3) := by decide +kernel
theorem dX4_build_39 : decode cX4_build 39 = .ok (.goto 4, 3) := by decide +kernel
theorem dX4_build_42 : decode cX4_build 42 = .ok (.iconst 0, 1) := by decide +kernel
theorem dX4_build_43 : decode cX4_build 43 = .ok (.istore 4, 2) := by decide +kernel
theorem dX4_build_45 : decode cX4_build 45 = .ok (.aload_n 0, 1) := by decide +kernel
theorem dX4_build_46 : decode cX4_build 46 = .ok (.getfield 9, 3) := by decide +kernel
theorem dX4_build_49 : decode cX4_build 49 = .ok (.aload_n 2, 1) := by decide +kernel
theorem dX4_build_50 : decode cX4_build 50 = .ok (.getfield 209, 3) := by decide +kernel
theorem dX4_build_53 : decode cX4_build 53 = .ok (.iload_n 3, 1) := by decide +kernel
theorem dX4_build_54 : decode cX4_build 54 = .ok (.iload 4, 2) := by decide +kernel
theorem dX4_build_56 : decode cX4_build 56 = .ok (.invokevirtual 298, 3) := by decide +kernel
theorem dX4_build_59 : decode cX4_build 59 = .ok (.istore 5, 2) := by decide +kernel
theorem dX4_build_61 : decode cX4_build 61 = .ok (.iload 5, 2) := by decide +kernel
theorem dX4_build_63 : decode cX4_build 63 = .ok (.iconst (-1), 1) := by decide +kernel
theorem dX4_build_64 : decode cX4_build 64 = .ok (.if_icmp .ne 14, 3) := by decide +kernel
theorem dX4_build_67 : decode cX4_build 67 = .ok (.aload_n 0, 1) := by decide +kernel
theorem dX4_build_68 : decode cX4_build 68 = .ok (.iconst 1, 1) := by decide +kernel
theorem dX4_build_69 : decode cX4_build 69 = .ok (.putfield 100, 3) := by decide +kernel
theorem dX4_build_72 : decode cX4_build 72 = .ok (.aload_n 0, 1) := by decide +kernel
theorem dX4_build_73 : decode cX4_build 73 = .ok (.iconst 1, 1) := by decide +kernel
theorem dX4_build_74 : decode cX4_build 74 = .ok (.putfield 49, 3) := by decide +kernel
theorem dX4_build_77 : decode cX4_build 77 = .ok (.return_, 1) := by decide +kernel
