theorem dX7_canClauseFail_117 : decode cX7_canClauseFail 117 = .ok (.goto (-98), 3) := by decide +kernel
theorem dX7_canClauseFail_120 : decode cX7_canClauseFail 120 = .ok (.iconst 0, 1) := by decide +kernel
theorem dX7_canClauseFail_121 : decode cX7_canClauseFail 121 = .ok (.ireturn, 1) := by decide +kernel
theorem dX7_canGoalFail_0 : decode cX7_canGoalFail 0 = .ok (.iload_n 2, 1) := by decide +kernel
theorem dX7_canGoalFail_1 : decode cX7_canGoalFail 1 = .ok (.aload_n 0, 1) := by decide +kernel
theorem dX7_canGoalFail_2 : decode cX7_canGoalFail 2 = .ok (.iconst 0, 1) := by decide +kernel
theorem dX7_canGoalFail_3 : decode cX7_canGoalFail 3 = .ok (.invokevirtual 156, 3) := by decide +kernel
theorem dX7_canGoalFail_6 : decode cX7_canGoalFail 6 = .ok (.ishr, 1) := by decide +kernel
theorem dX7_canGoalFail_7 : decode cX7_canGoalFail 7 = .ok (.iconst 1, 1) := by decide +kernel
theorem dX7_canGoalFail_8 : decode cX7_canGoalFail 8 = .ok (.iand, 1) := by decide +kernel
theorem dX7_canGoalFail_9 : decode cX7_canGoalFail 9 = .ok (.iconst 1, 1) := by decide +kernel
theorem dX7_canGoalFail_10 : decode cX7_canGoalFail 10 = .ok (.if_icmp .ne 7, 3) := by decide +kernel
theorem dX7_canGoalFail_13 : decode cX7_canGoalFail 13 = .ok (.iconst 1, 1) := by decide +kernel
theorem dX7_canGoalFail_14 : decode cX7_canGoalFail 14 = .ok (.goto 4, 3) := by decide +kernel
theorem dX7_canGoalFail_17 : decode cX7_canGoalFail 17 = .ok (.iconst 0, 1) := by decide +kernel
theorem dX7_canGoalFail_18 : decode cX7_canGoalFail 18 = .ok (.istore_n 3, 1) := by decide +kernel
theorem dX7_canGoalFail_19 : decode cX7_canGoalFail 19 = .ok (.aload_n 0, 1) := by decide +kernel
theorem dX7_canGoalFail_20 : decode cX7_canGoalFail 20 = .ok (.getfield 159, 3) := by decide +kernel
theorem dX7_canGoalFail_23 : decode cX7_canGoalFail 23 = .ok (.tableswitch 76 0 2 #[25, 27, 50], 25) := by decide +kernel
theorem dX7_canGoalFail_48 : decode cX7_canGoalFail 48 = .ok (.iload_n 3, 1) := by decide +kernel
theorem dX7_canGoalFail_49 : decode cX7_canGoalFail 49 = .ok (.ireturn, 1) := by decide +kernel
theorem dX7_canGoalFail_50 : decode cX7_canGoalFail 50 = .ok (.iload_n 3, 1) := by decide +kernel
theorem dX7_canGoalFail_51 : decode cX7_canGoalFail 51 = .ok (.ifCond .eq 20, 3) := by decide +kernel
theorem dX7_canGoalFail_54 : decode cX7_canGoalFail 54 = .ok (.iload_n 2, 1) := by decide +kernel
theorem dX7_canGoalFail_55 : decode cX7_canGoalFail 55 = .ok (.aload_n 0, 1) := by decide +kernel
theorem dX7_canGoalFail_56 : decode cX7_canGoalFail 56 = .ok (.iconst 1, 1) := by decide +kernel
theorem dX7_canGoalFail_57 : decode cX7_canGoalFail 57 = .ok (.invokevirtual 156, 3) := by decide +kernel
theorem dX7_canGoalFail_60 : decode cX7_canGoalFail 60 = .ok (.ishr, 1) := by decide +kernel
theorem dX7_canGoalFail_61 : decode cX7_canGoalFail 61 = .ok (.iconst 1, 1) := by decide +kernel
theorem dX7_canGoalFail_62 : decode cX7_canGoalFail 62 = .ok (.iand, 1) := by decide +kernel
theorem dX7_canGoalFail_63 : decode cX7_canGoalFail 63 = .ok (.iconst 1, 1) := by decide +kernel
theorem dX7_canGoalFail_64 : decode cX7_canGoalFail 64 = .ok (.if_icmp .ne 7, 3) := by decide +kernel
theorem dX7_canGoalFail_67 : decode cX7_canGoalFail 67 = .ok (.iconst 1, 1) := by decide +kernel
theorem dX7_canGoalFail_68 : decode cX7_canGoalFail 68 = .ok (.goto 4, 3) := by decide +kernel
theorem dX7_canGoalFail_71 : decode cX7_canGoalFail 71 = .ok (.iconst 0, 1) := by decide +kernel
theorem dX7_canGoalFail_72 : decode cX7_canGoalFail 72 = .ok (.ireturn, 1) := by decide +kernel
theorem dX7_canGoalFail_73 : decode cX7_canGoalFail 73 = .ok (.aload_n 1, 1) := by decide +kernel
theorem dX7_canGoalFail_74 : decode cX7_canGoalFail 74 = .ok (.ifnull 23, 3) := by decide +kernel
theorem dX7_canGoalFail_77 : decode cX7_canGoalFail 77 = .ok (.aload_n 1, 1) := by decide +kernel
theorem dX7_canGoalFail_78 : decode cX7_canGoalFail 78 = .ok (.getfield 84, 3) := by decide +kernel
theorem dX7_canGoalFail_81 : decode cX7_canGoalFail 81 = .ok (.ifCond .ne 12, 3) := by decide +kernel
theorem dX7_canGoalFail_84 : decode cX7_canGoalFail 84 = .ok (.aload_n 0, 1) := by decide +kernel
theorem dX7_canGoalFail_85 : decode cX7_canGoalFail 85 = .ok (.aload_n 1, 1) := by decide +kernel
theorem dX7_canGoalFail_86 : decode cX7_canGoalFail 86 = .ok (.iload_n 2, 1) := by decide +kernel
theorem dX7_canGoalFail_87 : decode cX7_canGoalFail 87 = .ok (.invokestatic 226, 3) := by decide +kernel
theorem dX7_canGoalFail_90 : decode cX7_canGoalFail 90 = .ok (.ifCond .eq 7, 3) := by decide +kernel
theorem dX7_canGoalFail_93 : decode cX7_canGoalFail 93 = .ok (.iconst 1, 1) := by decide +kernel
theorem dX7_canGoalFail_94 : decode cX7_canGoalFail 94 = .ok (.goto 4, 3) := by decide +kernel
theorem dX7_canGoalFail_97 : decode cX7_canGoalFail 97 = .ok (.iconst 0, 1) := by decide +kernel
theorem dX7_canGoalFail_98 : decode cX7_canGoalFail 98 = .ok (.ireturn, 1) := by decide +kernel
theorem dX7_canGoalFail_99 : decode cX7_canGoalFail 99 = .ok (.iconst 1, 1) := by decide +kernel
theorem dX7_canGoalFail_100 : decode cX7_canGoalFail 100 = .ok (.ireturn, 1) := by decide +kernel
theorem dX7_clashes_0 : decode cX7_clashes 0 = .ok (.iload_n 2, 1) := by decide +kernel
theorem dX7_clashes_1 : decode cX7_clashes 1 = .ok (.istore_n 3, 1) := by decide +kernel
theorem dX7_clashes_2 : decode cX7_clashes 2 = .ok (.aload_n 1, 1) := by decide +kernel
theorem dX7_clashes_3 : decode cX7_clashes 3 = .ok (.ifnonnull 7, 3) := by decide +kernel
theorem dX7_clashes_6 : decode cX7_clashes 6 = .ok (.iconst 1, 1) := by decide +kernel
theorem dX7_clashes_7 : decode cX7_clashes 7 = .ok (.goto 4, 3) := by decide +kernel
theorem dX7_clashes_10 : decode cX7_clashes 10 = .ok (.iconst 0, 1) := by decide +kernel
theorem dX7_clashes_11 : decode cX7_clashes 11 = .ok (.istore 4, 2) := by decide +kernel
theorem dX7_clashes_13 : decode cX7_clashes 13 = .ok (.iload 4, 2) := by decide +kernel
theorem dX7_clashes_15 : decode cX7_clashes 15 = .ok (.aload_n 0, 1) := by decide +kernel
theorem dX7_clashes_16 : decode cX7_clashes 16 = .ok (.getfield 174, 3) := by decide +kernel
theorem dX7_clashes_19 : decode cX7_clashes 19 = .ok (.if_icmp .ge 49, 3) := by decide +kernel
theorem dX7_clashes_22 : decode cX7_clashes 22 = .ok (.aload_n 1, 1) := by decide +kernel
theorem dX7_clashes_23 : decode cX7_clashes 23 = .ok (.ifnull 12, 3) := by decide +kernel
theorem dX7_clashes_26 : decode cX7_clashes 26 = .ok (.aload_n 1, 1) := by decide +kernel
theorem dX7_clashes_27 : decode cX7_clashes 27 = .ok (.iload 4, 2) := by decide +kernel
theorem dX7_clashes_29 : decode cX7_clashes 29 = .ok (.invokevirtual 177, 3) := by decide +kernel
theorem dX7_clashes_32 : decode cX7_clashes 32 = .ok (.ifCond .ne 30, 3) := by decide +kernel
theorem dX7_clashes_35 : decode cX7_clashes 35 = .ok (.iload_n 3, 1) := by decide +kernel
theorem dX7_clashes_36 : decode cX7_clashes 36 = .ok (.aload_n 0, 1) := by decide +kernel
theorem dX7_clashes_37 : decode cX7_clashes 37 = .ok (.iload 4, 2) := by decide +kernel
theorem dX7_clashes_39 : decode cX7_clashes 39 = .ok (.invokevirtual 156, 3) := by decide +kernel
theorem dX7_clashes_42 : decode cX7_clashes 42 = .ok (.ishr, 1) := by decide +kernel
theorem dX7_clashes_43 : decode cX7_clashes 43 = .ok (.iconst 1, 1) := by decide +kernel
theorem dX7_clashes_44 : decode cX7_clashes 44 = .ok (.iand, 1) := by decide +kernel
theorem dX7_clashes_45 : decode cX7_clashes 45 = .ok (.iconst 1, 1) := by decide +kernel
theorem dX7_clashes_46 : decode cX7_clashes 46 = .ok (.if_icmp .ne 5, 3) := by decide +kernel
theorem dX7_clashes_49 : decode cX7_clashes 49 = .ok (.iconst 1, 1) := by decide +kernel
theorem dX7_clashes_50 : decode cX7_clashes 50 = .ok (.ireturn, 1) := by decide +kernel
theorem dX7_clashes_51 : decode cX7_clashes 51 = .ok (.iload_n 3, 1) := by decide +kernel
theorem dX7_clashes_52 : decode cX7_clashes 52 = .ok (.iconst 1, 1) := by decide +kernel
theorem dX7_clashes_53 : decode cX7_clashes 53 = .ok (.aload_n 0, 1) := by decide +kernel
theorem dX7_clashes_54 : decode cX7_clashes 54 = .ok (.iload 4, 2) := by decide +kernel
theorem dX7_clashes_56 : decode cX7_clashes 56 = .ok (.invokevirtual 156, 3) := by decide +kernel
theorem dX7_clashes_59 : decode cX7_clashes 59 = .ok (.ishl, 1) := by decide +kernel
theorem dX7_clashes_60 : decode cX7_clashes 60 = .ok (.ior, 1) := by decide +kernel
theorem dX7_clashes_61 : decode cX7_clashes 61 = .ok (.istore_n 3, 1) := by decide +kernel
theorem dX7_clashes_62 : decode cX7_clashes 62 = .ok (.iinc 4 1, 3) := by decide +kernel
theorem dX7_clashes_65 : decode cX7_clashes 65 = .ok (.goto (-52), 3) := by decide +kernel
theorem dX7_clashes_68 : decode cX7_clashes 68 = .ok (.iconst 0, 1) := by decide +kernel
theorem dX7_clashes_69 : decode cX7_clashes 69 = .ok (.ireturn, 1) := by decide +kernel
theorem dX8_init_0 : decode cX8_init 0 = .ok (.aload_n 0, 1) := by decide +kernel
theorem dX8_init_1 : decode cX8_init 1 = .ok (.invokespecial 3, 3) := by decide +kernel
theorem dX8_init_4 : decode cX8_init 4 = .ok (.aload_n 0, 1) := by decide +kernel
theorem dX8_init_5 : decode cX8_init 5 = .ok (.aconst_null, 1) := by decide +kernel
theorem dX8_init_6 : decode cX8_init 6 = .ok (.putfield 9, 3) := by decide +kernel
theorem dX8_init_9 : decode cX8_init 9 = .ok (.aload_n 0, 1) := by decide +kernel
theorem dX8_init_10 : decode cX8_init 10 = .ok (.new 15, 3) := by decide +kernel
theorem dX8_init_13 : decode cX8_init 13 = .ok (.dup, 1) := by decide +kernel
theorem dX8_init_14 : decode cX8_init 14 = .ok (.iconst 1, 1) := by decide +kernel
theorem dX8_init_15 : decode cX8_init 15 = .ok (.iconst 3, 1) := by decide +kernel
theorem dX8_init_16 : decode cX8_init 16 = .ok (.invokespecial 17, 3) := by decide +kernel
theorem dX8_init_19 : decode cX8_init 19 = .ok (.putfield 20, 3) := by decide +kernel
theorem dX8_init_22 : decode cX8_init 22 = .ok (.aload_n 0, 1) := by decide +kernel
theorem dX8_init_23 : decode cX8_init 23 = .ok (.new 15, 3) := by decide +kernel
theorem dX8_init_26 : decode cX8_init 26 = .ok (.dup, 1) := by decide +kernel
theorem dX8_init_27 : decode cX8_init 27 = .ok (.iconst 3, 1) := by decide +kernel
theorem dX8_init_28 : decode cX8_init 28 = .ok (.bipush 50, 2) := by decide +kernel
theorem dX8_init_30 : decode cX8_init 30 = .ok (.invokespecial 17, 3) := by decide +kernel
theorem dX8_init_33 : decode cX8_init 33 = .ok (.putfield 24, 3) := by decide +kernel
theorem dX8_init_36 : decode cX8_init 36 = .ok (.aload_n 0, 1) := by decide +kernel
theorem dX8_init_37 : decode cX8_init 37 = .ok (.new 15, 3) := by decide +kernel
theorem dX8_init_40 : decode cX8_init 40 = .ok (.dup, 1) := by decide +kernel
theorem dX8_init_41 : decode cX8_init 41 = .ok (.iconst 2, 1) := by decide +kernel
theorem dX8_init_42 : decode cX8_init 42 = .ok (.bipush 80, 2) := by decide +kernel
theorem dX8_init_44 : decode cX8_init 44 = .ok (.invokespecial 17, 3) := by decide +kernel
theorem dX8_init_47 : decode cX8_init 47 = .ok (.putfield 27, 3) := by decide +kernel
theorem dX8_init_50 : decode cX8_init 50 = .ok (.aload_n 0, 1) := by decide +kernel
theorem dX8_init_51 : decode cX8_init 51 = .ok (.bipush 101, 2) := by decide +kernel
theorem dX8_init_53 : decode cX8_init 53 = .ok (.putfield 30, 3) := by decide +kernel
theorem dX8_init_56 : decode cX8_init 56 = .ok (.return_, 1) := by decide +kernel
theorem dX8_begin_0 : decode cX8_begin 0 = .ok (.aload_n 0, 1) := by decide +kernel
theorem dX8_begin_1 : decode cX8_begin 1 = .ok (.aload_n 1, 1) := by decide +kernel
theorem dX8_begin_2 : decode cX8_begin 2 = .ok (.putfield 9, 3) := by decide +kernel
theorem dX8_begin_5 : decode cX8_begin 5 = .ok (.aload_n 0, 1) := by decide +kernel
theorem dX8_begin_6 : decode cX8_begin 6 = .ok (.getfield 20, 3) := by decide +kernel
theorem dX8_begin_9 : decode cX8_begin 9 = .ok (.iconst 0, 1) := by decide +kernel
theorem dX8_begin_10 : decode cX8_begin 10 = .ok (.invokevirtual 34, 3) := by decide +kernel
theorem dX8_begin_13 : decode cX8_begin 13 = .ok (.iconst 0, 1) := by decide +kernel
theorem dX8_begin_14 : decode cX8_begin 14 = .ok (.istore 5, 2) := by decide +kernel
theorem dX8_begin_16 : decode cX8_begin 16 = .ok (.iload 5, 2) := by decide +kernel
theorem dX8_begin_18 : decode cX8_begin 18 = .ok (.iconst 3, 1) := by decide +kernel
theorem dX8_begin_19 : decode cX8_begin 19 = .ok (.if_icmp .ge 45, 3) := by decide +kernel
theorem dX8_begin_22 : decode cX8_begin 22 = .ok (.iload 5, 2) := by decide +kernel
theorem dX8_begin_24 : decode cX8_begin 24 = .ok (.iload_n 2, 1) := by decide +kernel
theorem dX8_begin_25 : decode cX8_begin 25 = .ok (.iload_n 3, 1) := by decide +kernel
theorem dX8_begin_26 : decode cX8_begin 26 = .ok (.iload 4, 2) := by decide +kernel
theorem dX8_begin_28 : decode cX8_begin 28 = .ok (.invokestatic 38, 3) := by decide +kernel
theorem dX8_begin_31 : decode cX8_begin 31 = .ok (.istore 6, 2) := by decide +kernel
theorem dX8_begin_33 : decode cX8_begin 33 = .ok (.aload_n 0, 1) := by decide +kernel
theorem dX8_begin_34 : decode cX8_begin 34 = .ok (.getfield 20, 3) := by decide +kernel
theorem dX8_begin_37 : decode cX8_begin 37 = .ok (.aload_n 1, 1) := by decide +kernel
theorem dX8_begin_38 : decode cX8_begin 38 = .ok (.iload 5, 2) := by decide +kernel
theorem dX8_begin_40 : decode cX8_begin 40 = .ok (.invokevirtual 42, 3) := by decide +kernel
theorem dX8_begin_43 : decode cX8_begin 43 = .ok (.ifCond .eq 8, 3) := by decide +kernel
theorem dX8_begin_46 : decode cX8_begin 46 = .ok (.iload 6, 2) := by decide +kernel
theorem dX8_begin_48 : decode cX8_begin 48 = .ok (.goto 4, 3) := by decide +kernel
theorem dX8_begin_51 : decode cX8_begin 51 = .ok (.iconst (-1), 1) := by decide +kernel
theorem dX8_begin_52 : decode cX8_begin 52 = .ok (.iconst (-1), 1) := by decide +kernel
theorem dX8_begin_53 : decode cX8_begin 53 = .ok (.iconst (-1), 1) := by decide +kernel
theorem dX8_begin_54 : decode cX8_begin 54 = .ok (.invokevirtual 48, 3) := by decide +kernel
theorem dX8_begin_57 : decode cX8_begin 57 = .ok (.pop, 1) := by decide +kernel
theorem dX8_begin_58 : decode cX8_begin 58 = .ok (.iinc 5 1, 3) := by decide +kernel
theorem dX8_begin_61 : decode cX8_begin 61 = .ok (.goto (-45), 3) := by decide +kernel
theorem dX8_begin_64 : decode cX8_begin 64 = .ok (.aload_n 0, 1) := by decide +kernel
theorem dX8_begin_65 : decode cX8_begin 65 = .ok (.getfield 24, 3) := by decide +kernel
theorem dX8_begin_68 : decode cX8_begin 68 = .ok (.iconst 0, 1) := by decide +kernel
theorem dX8_begin_69 : decode cX8_begin 69 = .ok (.invokevirtual 34, 3) := by decide +kernel
theorem dX8_begin_72 : decode cX8_begin 72 = .ok (.aload_n 0, 1) := by decide +kernel
theorem dX8_begin_73 : decode cX8_begin 73 = .ok (.getfield 27, 3) := by decide +kernel
theorem dX8_begin_76 : decode cX8_begin 76 = .ok (.iconst 0, 1) := by decide +kernel
theorem dX8_begin_77 : decode cX8_begin 77 = .ok (.invokevirtual 34, 3) := by decide +kernel
theorem dX8_begin_80 : decode cX8_begin 80 = .ok (.aload_n 0, 1) := by decide +kernel
theorem dX8_begin_81 : decode cX8_begin 81 = .ok (.iconst 0, 1) := by decide +kernel
theorem dX8_begin_82 : decode cX8_begin 82 = .ok (.putfield 52, 3) := by decide +kernel
theorem dX8_begin_85 : decode cX8_begin 85 = .ok (.aload_n 0, 1) := by decide +kernel
theorem dX8_begin_86 : decode cX8_begin 86 = .ok (.iconst 0, 1) := by decide +kernel
theorem dX8_begin_87 : decode cX8_begin 87 = .ok (.putfield 56, 3) := by decide +kernel
theorem dX8_begin_90 : decode cX8_begin 90 = .ok (.aload_n 0, 1) := by decide +kernel
theorem dX8_begin_91 : decode cX8_begin 91 = .ok (.iconst 0, 1) := by decide +kernel
theorem dX8_begin_92 : decode cX8_begin 92 = .ok (.putfield 59, 3) := by decide +kernel
theorem dX8_begin_95 : decode cX8_begin 95 = .ok (.aload_n 0, 1) := by decide +kernel
theorem dX8_begin_96 : decode cX8_begin 96 = .ok (.bipush 101, 2) := by decide +kernel
theorem dX8_begin_98 : decode cX8_begin 98 = .ok (.putfield 30, 3) := by decide +kernel
theorem dX8_begin_101 : decode cX8_begin 101 = .ok (.aload_n 0, 1) := by decide +kernel
theorem dX8_begin_102 : decode cX8_begin 102 = .ok (.iconst 0, 1) := by decide +kernel
theorem dX8_begin_103 : decode cX8_begin 103 = .ok (.putfield 62, 3) := by decide +kernel
theorem dX8_begin_106 : decode cX8_begin 106 = .ok (.aload_n 0, 1) := by decide +kernel
theorem dX8_begin_107 : decode cX8_begin 107 = .ok (.iconst (-1), 1) := by decide +kernel
theorem dX8_begin_108 : decode cX8_begin 108 = .ok (.putfield 66, 3) := by decide +kernel
theorem dX8_begin_111 : decode cX8_begin 111 = .ok (.return_, 1) := by decide +kernel
theorem dX8_inputAt_0 : decode cX8_inputAt 0 = .ok (.aload_n 0, 1) := by decide +kernel
theorem dX8_inputAt_1 : decode cX8_inputAt 1 = .ok (.getfield 20, 3) := by decide +kernel
theorem dX8_inputAt_4 : decode cX8_inputAt 4 = .ok (.iload_n 1, 1) := by decide +kernel
theorem dX8_inputAt_5 : decode cX8_inputAt 5 = .ok (.iconst 0, 1) := by decide +kernel
theorem dX8_inputAt_6 : decode cX8_inputAt 6 = .ok (.invokevirtual 69, 3) := by decide +kernel
theorem dX8_inputAt_9 : decode cX8_inputAt 9 = .ok (.ireturn, 1) := by decide +kernel
theorem dX8_note_0 : decode cX8_note 0 = .ok (.aload_n 0, 1) := by decide +kernel
theorem dX8_note_1 : decode cX8_note 1 = .ok (.getfield 27, 3) := by decide +kernel
theorem dX8_note_4 : decode cX8_note 4 = .ok (.invokevirtual 73, 3) := by decide +kernel
theorem dX8_note_7 : decode cX8_note 7 = .ok (.bipush 80, 2) := by decide +kernel
theorem dX8_note_9 : decode cX8_note 9 = .ok (.if_icmp .ge 19, 3) := by decide +kernel
theorem dX8_note_12 : decode cX8_note 12 = .ok (.aload_n 0, 1) := by decide +kernel
theorem dX8_note_13 : decode cX8_note 13 = .ok (.getfield 27, 3) := by decide +kernel
theorem dX8_note_16 : decode cX8_note 16 = .ok (.iload_n 1, 1) := by decide +kernel
theorem dX8_note_17 : decode cX8_note 17 = .ok (.bipush 100, 2) := by decide +kernel
theorem dX8_note_19 : decode cX8_note 19 = .ok (.iload_n 2, 1) := by decide +kernel
theorem dX8_note_20 : decode cX8_note 20 = .ok (.imul, 1) := by decide +kernel
theorem dX8_note_21 : decode cX8_note 21 = .ok (.iload_n 3, 1) := by decide +kernel
theorem dX8_note_22 : decode cX8_note 22 = .ok (.iadd, 1) := by decide +kernel
theorem dX8_note_23 : decode cX8_note 23 = .ok (.iconst (-1), 1) := by decide +kernel
theorem dX8_note_24 : decode cX8_note 24 = .ok (.invokevirtual 48, 3) := by decide +kernel
theorem dX8_note_27 : decode cX8_note 27 = .ok (.pop, 1) := by decide +kernel
theorem dX8_note_28 : decode cX8_note 28 = .ok (.return_, 1) := by decide +kernel
theorem dX8_noteCount_0 : decode cX8_noteCount 0 = .ok (.aload_n 0, 1) := by decide +kernel
theorem dX8_noteCount_1 : decode cX8_noteCount 1 = .ok (.getfield 27, 3) := by decide +kernel
theorem dX8_noteCount_4 : decode cX8_noteCount 4 = .ok (.invokevirtual 73, 3) := by decide +kernel
theorem dX8_noteCount_7 : decode cX8_noteCount 7 = .ok (.ireturn, 1) := by decide +kernel
theorem dX8_noteSign_0 : decode cX8_noteSign 0 = .ok (.aload_n 0, 1) := by decide +kernel
theorem dX8_noteSign_1 : decode cX8_noteSign 1 = .ok (.getfield 27, 3) := by decide +kernel
theorem dX8_noteSign_4 : decode cX8_noteSign 4 = .ok (.iload_n 1, 1) := by decide +kernel
theorem dX8_noteSign_5 : decode cX8_noteSign 5 = .ok (.iconst 0, 1) := by decide +kernel
theorem dX8_noteSign_6 : decode cX8_noteSign 6 = .ok (.invokevirtual 69, 3) := by decide +kernel
theorem dX8_noteSign_9 : decode cX8_noteSign 9 = .ok (.i2c, 1) := by decide +kernel
theorem dX8_noteSign_10 : decode cX8_noteSign 10 = .ok (.ireturn, 1) := by decide +kernel
theorem dX8_notePlace_0 : decode cX8_notePlace 0 = .ok (.aload_n 0, 1) := by decide +kernel
theorem dX8_notePlace_1 : decode cX8_notePlace 1 = .ok (.getfield 27, 3) := by decide +kernel
theorem dX8_notePlace_4 : decode cX8_notePlace 4 = .ok (.iload_n 1, 1) := by decide +kernel
theorem dX8_notePlace_5 : decode cX8_notePlace 5 = .ok (.iconst 1, 1) := by decide +kernel
theorem dX8_notePlace_6 : decode cX8_notePlace 6 = .ok (.invokevirtual 69, 3) := by decide +kernel
theorem dX8_notePlace_9 : decode cX8_notePlace 9 = .ok (.ireturn, 1) := by decide +kernel
theorem dX8_answerCount_0 : decode cX8_answerCount 0 = .ok (.aload_n 0, 1) := by decide +kernel
theorem dX8_answerCount_1 : decode cX8_answerCount 1 = .ok (.getfield 24, 3) := by decide +kernel
theorem dX8_answerCount_4 : decode cX8_answerCount 4 = .ok (.invokevirtual 73, 3) := by decide +kernel
theorem dX8_answerCount_7 : decode cX8_answerCount 7 = .ok (.ireturn, 1) := by decide +kernel
theorem dX8_addAnswer_0 : decode cX8_addAnswer 0 = .ok (.aload_n 0, 1) := by decide +kernel
theorem dX8_addAnswer_1 : decode cX8_addAnswer 1 = .ok (.getfield 24, 3) := by decide +kernel
theorem dX8_addAnswer_4 : decode cX8_addAnswer 4 = .ok (.iload_n 1, 1) := by decide +kernel
theorem dX8_addAnswer_5 : decode cX8_addAnswer 5 = .ok (.iload_n 2, 1) := by decide +kernel
theorem dX8_addAnswer_6 : decode cX8_addAnswer 6 = .ok (.iload_n 3, 1) := by decide +kernel
theorem dX8_addAnswer_7 : decode cX8_addAnswer 7 = .ok (.invokevirtual 48, 3) := by decide +kernel
theorem dX8_addAnswer_10 : decode cX8_addAnswer 10 = .ok (.pop, 1) := by decide +kernel
theorem dX8_addAnswer_11 : decode cX8_addAnswer 11 = .ok (.return_, 1) := by decide +kernel
theorem dX8_hasAnswer_0 : decode cX8_hasAnswer 0 = .ok (.iload_n 1, 1) := by decide +kernel
theorem dX8_hasAnswer_1 : decode cX8_hasAnswer 1 = .ok (.ifCond .lt 18, 3) := by decide +kernel
theorem dX8_hasAnswer_4 : decode cX8_hasAnswer 4 = .ok (.iload_n 1, 1) := by decide +kernel
theorem dX8_hasAnswer_5 : decode cX8_hasAnswer 5 = .ok (.aload_n 0, 1) := by decide +kernel
theorem dX8_hasAnswer_6 : decode cX8_hasAnswer 6 = .ok (.getfield 24, 3) := by decide +kernel
theorem dX8_hasAnswer_9 : decode cX8_hasAnswer 9 = .ok (.invokevirtual 73, 3) := by decide +kernel
theorem dX8_hasAnswer_12 : decode cX8_hasAnswer 12 = .ok (.if_icmp .ge 7, 3) := by decide +kernel
theorem dX8_hasAnswer_15 : decode cX8_hasAnswer 15 = .ok (.iconst 1, 1) := by decide +kernel
theorem dX8_hasAnswer_16 : decode cX8_hasAnswer 16 = .ok (.goto 4, 3) := by decide +kernel
theorem dX8_hasAnswer_19 : decode cX8_hasAnswer 19 = .ok (.iconst 0, 1) := by decide +kernel
theorem dX8_hasAnswer_20 : decode cX8_hasAnswer 20 = .ok (.ireturn, 1) := by decide +kernel
theorem dX8_hasArgument_0 : decode cX8_hasArgument 0 = .ok (.aload_n 0, 1) := by decide +kernel
theorem dX8_hasArgument_1 : decode cX8_hasArgument 1 = .ok (.getfield 9, 3) := by decide +kernel
theorem dX8_hasArgument_4 : decode cX8_hasArgument 4 = .ok (.ifnull 25, 3) := by decide +kernel
theorem dX8_hasArgument_7 : decode cX8_hasArgument 7 = .ok (.iload_n 1, 1) := by decide +kernel
theorem dX8_hasArgument_8 : decode cX8_hasArgument 8 = .ok (.ifCond .lt 21, 3) := by decide +kernel
theorem dX8_hasArgument_11 : decode cX8_hasArgument 11 = .ok (.iload_n 1, 1) := by decide +kernel
theorem dX8_hasArgument_12 : decode cX8_hasArgument 12 = .ok (.aload_n 0, 1) := by decide +kernel
theorem dX8_hasArgument_13 : decode cX8_hasArgument 13 = .ok (.getfield 9, 3) := by decide +kernel
theorem dX8_hasArgument_16 : decode cX8_hasArgument 16 = .ok (.getfield 77, 3) := by decide +kernel
theorem dX8_hasArgument_19 : decode cX8_hasArgument 19 = .ok (.invokevirtual 81, 3) := by decide +kernel
theorem dX8_hasArgument_22 : decode cX8_hasArgument 22 = .ok (.if_icmp .ge 7, 3) := by decide +kernel
theorem dX8_hasArgument_25 : decode cX8_hasArgument 25 = .ok (.iconst 1, 1) := by decide +kernel
theorem dX8_hasArgument_26 : decode cX8_hasArgument 26 = .ok (.goto 4, 3) := by decide +kernel
theorem dX8_hasArgument_29 : decode cX8_hasArgument 29 = .ok (.iconst 0, 1) := by decide +kernel
theorem dX8_hasArgument_30 : decode cX8_hasArgument 30 = .ok (.ireturn, 1) := by decide +kernel
theorem dX8_answerPart_0 : decode cX8_answerPart 0 = .ok (.aload_n 0, 1) := by decide +kernel
theorem dX8_answerPart_1 : decode cX8_answerPart 1 = .ok (.getfield 24, 3) := by decide +kernel
theorem dX8_answerPart_4 : decode cX8_answerPart 4 = .ok (.iload_n 1, 1) := by decide +kernel
theorem dX8_answerPart_5 : decode cX8_answerPart 5 = .ok (.iload_n 2, 1) := by decide +kernel
theorem dX8_answerPart_6 : decode cX8_answerPart 6 = .ok (.invokevirtual 69, 3) := by decide +kernel
theorem dX8_answerPart_9 : decode cX8_answerPart 9 = .ok (.ireturn, 1) := by decide +kernel
theorem dX8_countLike_0 : decode cX8_countLike 0 = .ok (.iconst 0, 1) := by decide +kernel
theorem dX8_countLike_1 : decode cX8_countLike 1 = .ok (.istore_n 2, 1) := by decide +kernel
theorem dX8_countLike_2 : decode cX8_countLike 2 = .ok (.iconst 0, 1) := by decide +kernel
theorem dX8_countLike_3 : decode cX8_countLike 3 = .ok (.istore_n 3, 1) := by decide +kernel
theorem dX8_countLike_4 : decode cX8_countLike 4 = .ok (.iload_n 3, 1) := by decide +kernel
theorem dX8_countLike_5 : decode cX8_countLike 5 = .ok (.aload_n 0, 1) := by decide +kernel
theorem dX8_countLike_6 : decode cX8_countLike 6 = .ok (.getfield 24, 3) := by decide +kernel
theorem dX8_countLike_9 : decode cX8_countLike 9 = .ok (.invokevirtual 73, 3) := by decide +kernel
theorem dX8_countLike_12 : decode cX8_countLike 12 = .ok (.if_icmp .ge 75, 3) := by decide +kernel
theorem dX8_countLike_15 : decode cX8_countLike 15 = .ok (.iconst 1, 1) := by decide +kernel
theorem dX8_countLike_16 : decode cX8_countLike 16 = .ok (.istore 4, 2) := by decide +kernel
theorem dX8_countLike_18 : decode cX8_countLike 18 = .ok (.iconst 0, 1) := by decide +kernel
theorem dX8_countLike_19 : decode cX8_countLike 19 = .ok (.istore 5, 2) := by decide +kernel
theorem dX8_countLike_21 : decode cX8_countLike 21 = .ok (.iload 5, 2) := by decide +kernel
theorem dX8_countLike_23 : decode cX8_countLike 23 = .ok (.iconst 3, 1) := by decide +kernel
theorem dX8_countLike_24 : decode cX8_countLike 24 = .ok (.if_icmp .ge 44, 3) := by decide +kernel
theorem dX8_countLike_27 : decode cX8_countLike 27 = .ok (.iload 4, 2) := by decide +kernel
theorem dX8_countLike_29 : decode cX8_countLike 29 = .ok (.ifCond .eq 30, 3) := by decide +kernel
theorem dX8_countLike_32 : decode cX8_countLike 32 = .ok (.aload_n 0, 1) := by decide +kernel
theorem dX8_countLike_33 : decode cX8_countLike 33 = .ok (.getfield 24, 3) := by decide +kernel
theorem dX8_countLike_36 : decode cX8_countLike 36 = .ok (.iload_n 3, 1) := by decide +kernel
theorem dX8_countLike_37 : decode cX8_countLike 37 = .ok (.iload 5, 2) := by decide +kernel
theorem dX8_countLike_39 : decode cX8_countLike 39 = .ok (.invokevirtual 69, 3) := by decide +kernel
theorem dX8_countLike_42 : decode cX8_countLike 42 = .ok (.aload_n 0, 1) := by decide +kernel
theorem dX8_countLike_43 : decode cX8_countLike 43 = .ok (.getfield 24, 3) := by decide +kernel
theorem dX8_countLike_46 : decode cX8_countLike 46 = .ok (.iload_n 1, 1) := by decide +kernel
theorem dX8_countLike_47 : decode cX8_countLike 47 = .ok (.iload 5, 2) := by decide +kernel
theorem dX8_countLike_49 : decode cX8_countLike 49 = .ok (.invokevirtual 69, 3) := by decide +kernel
theorem dX8_countLike_52 : decode cX8_countLike 52 = .ok (.if_icmp .ne 7, 3) := by decide +kernel
theorem dX8_countLike_55 : decode cX8_countLike 55 = .ok (.iconst 1, 1) := by decide +kernel
theorem dX8_countLike_56 : decode cX8_countLike 56 = .ok (.goto 4, 3) := by decide +kernel
theorem dX8_countLike_59 : decode cX8_countLike 59 = .ok (.iconst 0, 1) := by decide +kernel
theorem dX8_countLike_60 : decode cX8_countLike 60 = .ok (.istore 4, 2) := by decide +kernel
theorem dX8_countLike_62 : decode cX8_countLike 62 = .ok (.iinc 5 1, 3) := by decide +kernel
theorem dX8_countLike_65 : decode cX8_countLike 65 = .ok (.goto (-44), 3) := by decide +kernel
theorem dX8_countLike_68 : decode cX8_countLike 68 = .ok (.iload_n 2, 1) := by decide +kernel
theorem dX8_countLike_69 : decode cX8_countLike 69 = .ok (.iload 4, 2) := by decide +kernel
theorem dX8_countLike_71 : decode cX8_countLike 71 = .ok (.ifCond .eq 7, 3) := by decide +kernel
theorem dX8_countLike_74 : decode cX8_countLike 74 = .ok (.iconst 1, 1) := by decide +kernel
theorem dX8_countLike_75 : decode cX8_countLike 75 = .ok (.goto 4, 3) := by decide +kernel
theorem dX8_countLike_78 : decode cX8_countLike 78 = .ok (.iconst 0, 1) := by decide +kernel
theorem dX8_countLike_79 : decode cX8_countLike 79 = .ok (.iadd, 1) := by decide +kernel
theorem dX8_countLike_80 : decode cX8_countLike 80 = .ok (.istore_n 2, 1) := by decide +kernel
theorem dX8_countLike_81 : decode cX8_countLike 81 = .ok (.iinc 3 1, 3) := by decide +kernel
theorem dX8_countLike_84 : decode cX8_countLike 84 = .ok (.goto (-80), 3) := by decide +kernel
theorem dX8_countLike_87 : decode cX8_countLike 87 = .ok (.iload_n 2, 1) := by decide +kernel
theorem dX8_countLike_88 : decode cX8_countLike 88 = .ok (.ireturn, 1) := by decide +kernel
theorem dX9_init_0 : decode cX9_init 0 = .ok (.aload_n 0, 1) := by decide +kernel
theorem dX9_init_1 : decode cX9_init 1 = .ok (.invokespecial 3, 3) := by decide +kernel
theorem dX9_init_4 : decode cX9_init 4 = .ok (.aload_n 0, 1) := by decide +kernel
theorem dX9_init_5 : decode cX9_init 5 = .ok (.iload_n 1, 1) := by decide +kernel
theorem dX9_init_6 : decode cX9_init 6 = .ok (.ifCond .le 7, 3) := by decide +kernel
theorem dX9_init_9 : decode cX9_init 9 = .ok (.iload_n 1, 1) := by decide +kernel
theorem dX9_init_10 : decode cX9_init 10 = .ok (.goto 4, 3) := by decide +kernel
theorem dX9_init_13 : decode cX9_init 13 = .ok (.iconst 1, 1) := by decide +kernel
theorem dX9_init_14 : decode cX9_init 14 = .ok (.putfield 9, 3) := by decide +kernel
theorem dX9_init_17 : decode cX9_init 17 = .ok (.aload_n 0, 1) := by decide +kernel
theorem dX9_init_18 : decode cX9_init 18 = .ok (.iload_n 2, 1) := by decide +kernel
theorem dX9_init_19 : decode cX9_init 19 = .ok (.ifCond .le 18, 3) := by decide +kernel
theorem dX9_init_22 : decode cX9_init 22 = .ok (.iload_n 2, 1) := by decide +kernel
theorem dX9_init_23 : decode cX9_init 23 = .ok (.ldc 15, 2) := by decide +kernel
theorem dX9_init_25 : decode cX9_init 25 = .ok (.if_icmp .ge 12, 3) := by decide +kernel
theorem dX9_init_28 : decode cX9_init 28 = .ok (.aload_n 0, 1) := by decide +kernel
theorem dX9_init_29 : decode cX9_init 29 = .ok (.getfield 9, 3) := by decide +kernel
theorem dX9_init_32 : decode cX9_init 32 = .ok (.iload_n 2, 1) := by decide +kernel
theorem dX9_init_33 : decode cX9_init 33 = .ok (.imul, 1) := by decide +kernel
theorem dX9_init_34 : decode cX9_init 34 = .ok (.goto 7, 3) := by decide +kernel
theorem dX9_init_37 : decode cX9_init 37 = .ok (.aload_n 0, 1) := by decide +kernel
theorem dX9_init_38 : decode cX9_init 38 = .ok (.getfield 9, 3) := by decide +kernel
theorem dX9_init_41 : decode cX9_init 41 = .ok (.newarray .int, 2) := by decide +kernel
theorem dX9_init_43 : decode cX9_init 43 = .ok (.putfield 16, 3) := by decide +kernel
theorem dX9_init_46 : decode cX9_init 46 = .ok (.aload_n 0, 1) := by decide +kernel
theorem dX9_init_47 : decode cX9_init 47 = .ok (.iconst 0, 1) := by decide +kernel
theorem dX9_init_48 : decode cX9_init 48 = .ok (.putfield 20, 3) := by decide +kernel
theorem dX9_init_51 : decode cX9_init 51 = .ok (.return_, 1) := by decide +kernel
theorem dX9_count_0 : decode cX9_count 0 = .ok (.aload_n 0, 1) := by decide +kernel
theorem dX9_count_1 : decode cX9_count 1 = .ok (.getfield 20, 3) := by decide +kernel
theorem dX9_count_4 : decode cX9_count 4 = .ok (.ireturn, 1) := by decide +kernel
theorem dX9_get_0 : decode cX9_get 0 = .ok (.iload_n 1, 1) := by decide +kernel
theorem dX9_get_1 : decode cX9_get 1 = .ok (.aload_n 0, 1) := by decide +kernel
theorem dX9_get_2 : decode cX9_get 2 = .ok (.getfield 9, 3) := by decide +kernel
theorem dX9_get_5 : decode cX9_get 5 = .ok (.imul, 1) := by decide +kernel
theorem dX9_get_6 : decode cX9_get 6 = .ok (.iload_n 2, 1) := by decide +kernel
theorem dX9_get_7 : decode cX9_get 7 = .ok (.iadd, 1) := by decide +kernel
theorem dX9_get_8 : decode cX9_get 8 = .ok (.istore_n 3, 1) := by decide +kernel
theorem dX9_get_9 : decode cX9_get 9 = .ok (.iload_n 1, 1) := by decide +kernel
theorem dX9_get_10 : decode cX9_get 10 = .ok (.ifCond .lt 27, 3) := by decide +kernel
theorem dX9_get_13 : decode cX9_get 13 = .ok (.iload_n 1, 1) := by decide +kernel
theorem dX9_get_14 : decode cX9_get 14 = .ok (.aload_n 0, 1) := by decide +kernel
theorem dX9_get_15 : decode cX9_get 15 = .ok (.getfield 20, 3) := by decide +kernel
theorem dX9_get_18 : decode cX9_get 18 = .ok (.if_icmp .ge 19, 3) := by decide +kernel
theorem dX9_get_21 : decode cX9_get 21 = .ok (.iload_n 2, 1) := by decide +kernel
theorem dX9_get_22 : decode cX9_get 22 = .ok (.ifCond .lt 15, 3) := by decide +kernel
theorem dX9_get_25 : decode cX9_get 25 = .ok (.iload_n 2, 1) := by decide +kernel
theorem dX9_get_26 : decode cX9_get 26 = .ok (.aload_n 0, 1) := by decide +kernel
theorem dX9_get_27 : decode cX9_get 27 = .ok (.getfield 9, 3) := by decide +kernel
theorem dX9_get_30 : decode cX9_get 30 = .ok (.if_icmp .ge 7, 3) := by decide +kernel
theorem dX9_get_33 : decode cX9_get 33 = .ok (.iconst 1, 1) := by decide +kernel
theorem dX9_get_34 : decode cX9_get 34 = .ok (.goto 4, 3) := by decide +kernel
theorem dX9_get_37 : decode cX9_get 37 = .ok (.iconst 0, 1) := by decide +kernel
theorem dX9_get_38 : decode cX9_get 38 = .ok (.istore 4, 2) := by decide +kernel
theorem dX9_get_40 : decode cX9_get 40 = .ok (.iload 4, 2) := by decide +kernel
theorem dX9_get_42 : decode cX9_get 42 = .ok (.ifCond .eq 25, 3) := by decide +kernel
theorem dX9_get_45 : decode cX9_get 45 = .ok (.iload_n 3, 1) := by decide +kernel
theorem dX9_get_46 : decode cX9_get 46 = .ok (.ifCond .lt 21, 3) := by decide +kernel
theorem dX9_get_49 : decode cX9_get 49 = .ok (.iload_n 3, 1) := by decide +kernel
theorem dX9_get_50 : decode cX9_get 50 = .ok (.aload_n 0, 1) := by decide +kernel
theorem dX9_get_51 : decode cX9_get 51 = .ok (.getfield 16, 3) := by decide +kernel
theorem dX9_get_54 : decode cX9_get 54 = .ok (.arraylength, 1) := by decide +kernel
theorem dX9_get_55 : decode cX9_get 55 = .ok (.if_icmp .ge 12, 3) := by decide +kernel
theorem dX9_get_58 : decode cX9_get 58 = .ok (.aload_n 0, 1) := by decide +kernel
theorem dX9_get_59 : decode cX9_get 59 = .ok (.getfield 16, 3) := by decide +kernel
theorem dX9_get_62 : decode cX9_get 62 = .ok (.iload_n 3, 1) := by decide +kernel
theorem dX9_get_63 : decode cX9_get 63 = .ok (.iaload, 1) := by decide +kernel
theorem dX9_get_64 : decode cX9_get 64 = .ok (.goto 4, 3) := by decide +kernel
theorem dX9_get_67 : decode cX9_get 67 = .ok (.iconst (-1), 1) := by decide +kernel
theorem dX9_get_68 : decode cX9_get 68 = .ok (.ireturn, 1) := by decide +kernel
theorem dX9_set_0 : decode cX9_set 0 = .ok (.iload_n 1, 1) := by decide +kernel
theorem dX9_set_1 : decode cX9_set 1 = .ok (.aload_n 0, 1) := by decide +kernel
theorem dX9_set_2 : decode cX9_set 2 = .ok (.getfield 9, 3) := by decide +kernel
theorem dX9_set_5 : decode cX9_set 5 = .ok (.imul, 1) := by decide +kernel
theorem dX9_set_6 : decode cX9_set 6 = .ok (.iload_n 2, 1) := by decide +kernel
theorem dX9_set_7 : decode cX9_set 7 = .ok (.iadd, 1) := by decide +kernel
theorem dX9_set_8 : decode cX9_set 8 = .ok (.istore 4, 2) := by decide +kernel
theorem dX9_set_10 : decode cX9_set 10 = .ok (.iload_n 1, 1) := by decide +kernel
theorem dX9_set_11 : decode cX9_set 11 = .ok (.ifCond .lt 27, 3) := by decide +kernel
theorem dX9_set_14 : decode cX9_set 14 = .ok (.iload_n 1, 1) := by decide +kernel
theorem dX9_set_15 : decode cX9_set 15 = .ok (.aload_n 0, 1) := by decide +kernel
theorem dX9_set_16 : decode cX9_set 16 = .ok (.getfield 20, 3) := by decide +kernel
theorem dX9_set_19 : decode cX9_set 19 = .ok (.if_icmp .ge 19, 3) := by decide +kernel
theorem dX9_set_22 : decode cX9_set 22 = .ok (.iload_n 2, 1) := by decide +kernel
theorem dX9_set_23 : decode cX9_set 23 = .ok (.ifCond .lt 15, 3) := by decide +kernel
theorem dX9_set_26 : decode cX9_set 26 = .ok (.iload_n 2, 1) := by decide +kernel
