theorem dX1_takeNext_73 : decode cX1_takeNext 73 = .ok (.aload_n 0, 1) := by decide +kernel
theorem dX1_takeNext_74 : decode cX1_takeNext 74 = .ok (.getfield 60, 3) := by decide +kernel
theorem dX1_takeNext_77 : decode cX1_takeNext 77 = .ok (.arraylength, 1) := by decide +kernel
theorem dX1_takeNext_78 : decode cX1_takeNext 78 = .ok (.if_icmp .ge 50, 3) := by decide +kernel
theorem dX1_takeNext_81 : decode cX1_takeNext 81 = .ok (.iload 6, 2) := by decide +kernel
theorem dX1_takeNext_83 : decode cX1_takeNext 83 = .ok (.aload_n 0, 1) := by decide +kernel
theorem dX1_takeNext_84 : decode cX1_takeNext 84 = .ok (.getfield 64, 3) := by decide +kernel
theorem dX1_takeNext_87 : decode cX1_takeNext 87 = .ok (.arraylength, 1) := by decide +kernel
theorem dX1_takeNext_88 : decode cX1_takeNext 88 = .ok (.if_icmp .ge 40, 3) := by decide +kernel
theorem dX1_takeNext_91 : decode cX1_takeNext 91 = .ok (.aload_n 0, 1) := by decide +kernel
theorem dX1_takeNext_92 : decode cX1_takeNext 92 = .ok (.getfield 49, 3) := by decide +kernel
theorem dX1_takeNext_95 : decode cX1_takeNext 95 = .ok (.iload 6, 2) := by decide +kernel
theorem dX1_takeNext_97 : decode cX1_takeNext 97 = .ok (.iload_n 2, 1) := by decide +kernel
theorem dX1_takeNext_98 : decode cX1_takeNext 98 = .ok (.iastore, 1) := by decide +kernel
theorem dX1_takeNext_99 : decode cX1_takeNext 99 = .ok (.aload_n 0, 1) := by decide +kernel
theorem dX1_takeNext_100 : decode cX1_takeNext 100 = .ok (.getfield 54, 3) := by decide +kernel
theorem dX1_takeNext_103 : decode cX1_takeNext 103 = .ok (.iload 6, 2) := by decide +kernel
theorem dX1_takeNext_105 : decode cX1_takeNext 105 = .ok (.aload_n 0, 1) := by decide +kernel
theorem dX1_takeNext_106 : decode cX1_takeNext 106 = .ok (.iload_n 2, 1) := by decide +kernel
theorem dX1_takeNext_107 : decode cX1_takeNext 107 = .ok (.invokevirtual 102, 3) := by decide +kernel
theorem dX1_takeNext_110 : decode cX1_takeNext 110 = .ok (.aastore, 1) := by decide +kernel
theorem dX1_takeNext_111 : decode cX1_takeNext 111 = .ok (.aload_n 0, 1) := by decide +kernel
theorem dX1_takeNext_112 : decode cX1_takeNext 112 = .ok (.getfield 60, 3) := by decide +kernel
theorem dX1_takeNext_115 : decode cX1_takeNext 115 = .ok (.iload 6, 2) := by decide +kernel
theorem dX1_takeNext_117 : decode cX1_takeNext 117 = .ok (.aload_n 3, 1) := by decide +kernel
theorem dX1_takeNext_118 : decode cX1_takeNext 118 = .ok (.aastore, 1) := by decide +kernel
theorem dX1_takeNext_119 : decode cX1_takeNext 119 = .ok (.aload_n 0, 1) := by decide +kernel
theorem dX1_takeNext_120 : decode cX1_takeNext 120 = .ok (.getfield 64, 3) := by decide +kernel
theorem dX1_takeNext_123 : decode cX1_takeNext 123 = .ok (.iload 6, 2) := by decide +kernel
theorem dX1_takeNext_125 : decode cX1_takeNext 125 = .ok (.iload 4, 2) := by decide +kernel
theorem dX1_takeNext_127 : decode cX1_takeNext 127 = .ok (.iastore, 1) := by decide +kernel
theorem dX1_takeNext_128 : decode cX1_takeNext 128 = .ok (.return_, 1) := by decide +kernel
theorem dX1_slot_0 : decode cX1_slot 0 = .ok (.iload_n 1, 1) := by decide +kernel
theorem dX1_slot_1 : decode cX1_slot 1 = .ok (.ifCond .lt 16, 3) := by decide +kernel
theorem dX1_slot_4 : decode cX1_slot 4 = .ok (.iload_n 1, 1) := by decide +kernel
theorem dX1_slot_5 : decode cX1_slot 5 = .ok (.aload_n 0, 1) := by decide +kernel
theorem dX1_slot_6 : decode cX1_slot 6 = .ok (.getfield 45, 3) := by decide +kernel
theorem dX1_slot_9 : decode cX1_slot 9 = .ok (.arraylength, 1) := by decide +kernel
theorem dX1_slot_10 : decode cX1_slot 10 = .ok (.if_icmp .ge 7, 3) := by decide +kernel
theorem dX1_slot_13 : decode cX1_slot 13 = .ok (.iconst 1, 1) := by decide +kernel
theorem dX1_slot_14 : decode cX1_slot 14 = .ok (.goto 4, 3) := by decide +kernel
theorem dX1_slot_17 : decode cX1_slot 17 = .ok (.iconst 0, 1) := by decide +kernel
theorem dX1_slot_18 : decode cX1_slot 18 = .ok (.istore_n 3, 1) := by decide +kernel
theorem dX1_slot_19 : decode cX1_slot 19 = .ok (.iload_n 3, 1) := by decide +kernel
theorem dX1_slot_20 : decode cX1_slot 20 = .ok (.ifCond .eq 30, 3) := by decide +kernel
theorem dX1_slot_23 : decode cX1_slot 23 = .ok (.iload_n 2, 1) := by decide +kernel
theorem dX1_slot_24 : decode cX1_slot 24 = .ok (.ifCond .lt 26, 3) := by decide +kernel
theorem dX1_slot_27 : decode cX1_slot 27 = .ok (.iload_n 2, 1) := by decide +kernel
theorem dX1_slot_28 : decode cX1_slot 28 = .ok (.iconst 5, 1) := by decide +kernel
theorem dX1_slot_29 : decode cX1_slot 29 = .ok (.if_icmp .ge 21, 3) := by decide +kernel
theorem dX1_slot_32 : decode cX1_slot 32 = .ok (.iload_n 2, 1) := by decide +kernel
theorem dX1_slot_33 : decode cX1_slot 33 = .ok (.aload_n 0, 1) := by decide +kernel
theorem dX1_slot_34 : decode cX1_slot 34 = .ok (.getfield 45, 3) := by decide +kernel
theorem dX1_slot_37 : decode cX1_slot 37 = .ok (.iload_n 1, 1) := by decide +kernel
theorem dX1_slot_38 : decode cX1_slot 38 = .ok (.iaload, 1) := by decide +kernel
theorem dX1_slot_39 : decode cX1_slot 39 = .ok (.if_icmp .ge 11, 3) := by decide +kernel
theorem dX1_slot_42 : decode cX1_slot 42 = .ok (.iload_n 1, 1) := by decide +kernel
theorem dX1_slot_43 : decode cX1_slot 43 = .ok (.iconst 5, 1) := by decide +kernel
theorem dX1_slot_44 : decode cX1_slot 44 = .ok (.imul, 1) := by decide +kernel
theorem dX1_slot_45 : decode cX1_slot 45 = .ok (.iload_n 2, 1) := by decide +kernel
theorem dX1_slot_46 : decode cX1_slot 46 = .ok (.iadd, 1) := by decide +kernel
theorem dX1_slot_47 : decode cX1_slot 47 = .ok (.goto 4, 3) := by decide +kernel
theorem dX1_slot_50 : decode cX1_slot 50 = .ok (.iconst (-1), 1) := by decide +kernel
theorem dX1_slot_51 : decode cX1_slot 51 = .ok (.ireturn, 1) := by decide +kernel
theorem dX1_goalNumberIn_0 : decode cX1_goalNumberIn 0 = .ok (.aload_n 0, 1) := by decide +kernel
theorem dX1_goalNumberIn_1 : decode cX1_goalNumberIn 1 = .ok (.iload_n 1, 1) := by decide +kernel
theorem dX1_goalNumberIn_2 : decode cX1_goalNumberIn 2 = .ok (.iload_n 2, 1) := by decide +kernel
theorem dX1_goalNumberIn_3 : decode cX1_goalNumberIn 3 = .ok (.invokevirtual 99, 3) := by decide +kernel
theorem dX1_goalNumberIn_6 : decode cX1_goalNumberIn 6 = .ok (.istore_n 3, 1) := by decide +kernel
theorem dX1_goalNumberIn_7 : decode cX1_goalNumberIn 7 = .ok (.iload_n 3, 1) := by decide +kernel
theorem dX1_goalNumberIn_8 : decode cX1_goalNumberIn 8 = .ok (.ifCond .lt 21, 3) := by decide +kernel
theorem dX1_goalNumberIn_11 : decode cX1_goalNumberIn 11 = .ok (.iload_n 3, 1) := by decide +kernel
theorem dX1_goalNumberIn_12 : decode cX1_goalNumberIn 12 = .ok (.aload_n 0, 1) := by decide +kernel
theorem dX1_goalNumberIn_13 : decode cX1_goalNumberIn 13 = .ok (.getfield 49, 3) := by decide +kernel
theorem dX1_goalNumberIn_16 : decode cX1_goalNumberIn 16 = .ok (.arraylength, 1) := by decide +kernel
theorem dX1_goalNumberIn_17 : decode cX1_goalNumberIn 17 = .ok (.if_icmp .ge 12, 3) := by decide +kernel
theorem dX1_goalNumberIn_20 : decode cX1_goalNumberIn 20 = .ok (.aload_n 0, 1) := by decide +kernel
theorem dX1_goalNumberIn_21 : decode cX1_goalNumberIn 21 = .ok (.getfield 49, 3) := by decide +kernel
theorem dX1_goalNumberIn_24 : decode cX1_goalNumberIn 24 = .ok (.iload_n 3, 1) := by decide +kernel
theorem dX1_goalNumberIn_25 : decode cX1_goalNumberIn 25 = .ok (.iaload, 1) := by decide +kernel
theorem dX1_goalNumberIn_26 : decode cX1_goalNumberIn 26 = .ok (.goto 4, 3) := by decide +kernel
theorem dX1_goalNumberIn_29 : decode cX1_goalNumberIn 29 = .ok (.iconst (-1), 1) := by decide +kernel
theorem dX1_goalNumberIn_30 : decode cX1_goalNumberIn 30 = .ok (.ireturn, 1) := by decide +kernel
theorem dX1_goalIn_0 : decode cX1_goalIn 0 = .ok (.aload_n 0, 1) := by decide +kernel
theorem dX1_goalIn_1 : decode cX1_goalIn 1 = .ok (.iload_n 1, 1) := by decide +kernel
theorem dX1_goalIn_2 : decode cX1_goalIn 2 = .ok (.iload_n 2, 1) := by decide +kernel
theorem dX1_goalIn_3 : decode cX1_goalIn 3 = .ok (.invokevirtual 99, 3) := by decide +kernel
theorem dX1_goalIn_6 : decode cX1_goalIn 6 = .ok (.istore_n 3, 1) := by decide +kernel
theorem dX1_goalIn_7 : decode cX1_goalIn 7 = .ok (.iload_n 3, 1) := by decide +kernel
theorem dX1_goalIn_8 : decode cX1_goalIn 8 = .ok (.ifCond .lt 21, 3) := by decide +kernel
theorem dX1_goalIn_11 : decode cX1_goalIn 11 = .ok (.iload_n 3, 1) := by decide +kernel
theorem dX1_goalIn_12 : decode cX1_goalIn 12 = .ok (.aload_n 0, 1) := by decide +kernel
theorem dX1_goalIn_13 : decode cX1_goalIn 13 = .ok (.getfield 54, 3) := by decide +kernel
theorem dX1_goalIn_16 : decode cX1_goalIn 16 = .ok (.arraylength, 1) := by decide +kernel
theorem dX1_goalIn_17 : decode cX1_goalIn 17 = .ok (.if_icmp .ge 12, 3) := by decide +kernel
theorem dX1_goalIn_20 : decode cX1_goalIn 20 = .ok (.aload_n 0, 1) := by decide +kernel
theorem dX1_goalIn_21 : decode cX1_goalIn 21 = .ok (.getfield 54, 3) := by decide +kernel
theorem dX1_goalIn_24 : decode cX1_goalIn 24 = .ok (.iload_n 3, 1) := by decide +kernel
theorem dX1_goalIn_25 : decode cX1_goalIn 25 = .ok (.aaload, 1) := by decide +kernel
theorem dX1_goalIn_26 : decode cX1_goalIn 26 = .ok (.goto 4, 3) := by decide +kernel
theorem dX1_goalIn_29 : decode cX1_goalIn 29 = .ok (.aconst_null, 1) := by decide +kernel
theorem dX1_goalIn_30 : decode cX1_goalIn 30 = .ok (.areturn, 1) := by decide +kernel
theorem dX1_chosenIn_0 : decode cX1_chosenIn 0 = .ok (.aload_n 0, 1) := by decide +kernel
theorem dX1_chosenIn_1 : decode cX1_chosenIn 1 = .ok (.iload_n 1, 1) := by decide +kernel
theorem dX1_chosenIn_2 : decode cX1_chosenIn 2 = .ok (.iload_n 2, 1) := by decide +kernel
theorem dX1_chosenIn_3 : decode cX1_chosenIn 3 = .ok (.invokevirtual 99, 3) := by decide +kernel
theorem dX1_chosenIn_6 : decode cX1_chosenIn 6 = .ok (.istore_n 3, 1) := by decide +kernel
theorem dX1_chosenIn_7 : decode cX1_chosenIn 7 = .ok (.iload_n 3, 1) := by decide +kernel
theorem dX1_chosenIn_8 : decode cX1_chosenIn 8 = .ok (.ifCond .lt 21, 3) := by decide +kernel
theorem dX1_chosenIn_11 : decode cX1_chosenIn 11 = .ok (.iload_n 3, 1) := by decide +kernel
theorem dX1_chosenIn_12 : decode cX1_chosenIn 12 = .ok (.aload_n 0, 1) := by decide +kernel
theorem dX1_chosenIn_13 : decode cX1_chosenIn 13 = .ok (.getfield 60, 3) := by decide +kernel
theorem dX1_chosenIn_16 : decode cX1_chosenIn 16 = .ok (.arraylength, 1) := by decide +kernel
theorem dX1_chosenIn_17 : decode cX1_chosenIn 17 = .ok (.if_icmp .ge 12, 3) := by decide +kernel
theorem dX1_chosenIn_20 : decode cX1_chosenIn 20 = .ok (.aload_n 0, 1) := by decide +kernel
theorem dX1_chosenIn_21 : decode cX1_chosenIn 21 = .ok (.getfield 60, 3) := by decide +kernel
theorem dX1_chosenIn_24 : decode cX1_chosenIn 24 = .ok (.iload_n 3, 1) := by decide +kernel
theorem dX1_chosenIn_25 : decode cX1_chosenIn 25 = .ok (.aaload, 1) := by decide +kernel
theorem dX1_chosenIn_26 : decode cX1_chosenIn 26 = .ok (.goto 4, 3) := by decide +kernel
theorem dX1_chosenIn_29 : decode cX1_chosenIn 29 = .ok (.aconst_null, 1) := by decide +kernel
theorem dX1_chosenIn_30 : decode cX1_chosenIn 30 = .ok (.areturn, 1) := by decide +kernel
theorem dX1_knownIn_0 : decode cX1_knownIn 0 = .ok (.aload_n 0, 1) := by decide +kernel
theorem dX1_knownIn_1 : decode cX1_knownIn 1 = .ok (.iload_n 1, 1) := by decide +kernel
theorem dX1_knownIn_2 : decode cX1_knownIn 2 = .ok (.iload_n 2, 1) := by decide +kernel
theorem dX1_knownIn_3 : decode cX1_knownIn 3 = .ok (.invokevirtual 99, 3) := by decide +kernel
theorem dX1_knownIn_6 : decode cX1_knownIn 6 = .ok (.istore_n 3, 1) := by decide +kernel
theorem dX1_knownIn_7 : decode cX1_knownIn 7 = .ok (.iload_n 3, 1) := by decide +kernel
theorem dX1_knownIn_8 : decode cX1_knownIn 8 = .ok (.ifCond .lt 21, 3) := by decide +kernel
theorem dX1_knownIn_11 : decode cX1_knownIn 11 = .ok (.iload_n 3, 1) := by decide +kernel
theorem dX1_knownIn_12 : decode cX1_knownIn 12 = .ok (.aload_n 0, 1) := by decide +kernel
theorem dX1_knownIn_13 : decode cX1_knownIn 13 = .ok (.getfield 64, 3) := by decide +kernel
theorem dX1_knownIn_16 : decode cX1_knownIn 16 = .ok (.arraylength, 1) := by decide +kernel
theorem dX1_knownIn_17 : decode cX1_knownIn 17 = .ok (.if_icmp .ge 12, 3) := by decide +kernel
theorem dX1_knownIn_20 : decode cX1_knownIn 20 = .ok (.aload_n 0, 1) := by decide +kernel
theorem dX1_knownIn_21 : decode cX1_knownIn 21 = .ok (.getfield 64, 3) := by decide +kernel
theorem dX1_knownIn_24 : decode cX1_knownIn 24 = .ok (.iload_n 3, 1) := by decide +kernel
theorem dX1_knownIn_25 : decode cX1_knownIn 25 = .ok (.iaload, 1) := by decide +kernel
theorem dX1_knownIn_26 : decode cX1_knownIn 26 = .ok (.goto 4, 3) := by decide +kernel
theorem dX1_knownIn_29 : decode cX1_knownIn 29 = .ok (.iconst 0, 1) := by decide +kernel
theorem dX1_knownIn_30 : decode cX1_knownIn 30 = .ok (.ireturn, 1) := by decide +kernel
theorem dX2_init_0 : decode cX2_init 0 = .ok (.aload_n 0, 1) := by decide +kernel
theorem dX2_init_1 : decode cX2_init 1 = .ok (.invokespecial 3, 3) := by decide +kernel
theorem dX2_init_4 : decode cX2_init 4 = .ok (.aload_n 0, 1) := by decide +kernel
theorem dX2_init_5 : decode cX2_init 5 = .ok (.iload_n 1, 1) := by decide +kernel
theorem dX2_init_6 : decode cX2_init 6 = .ok (.putfield 9, 3) := by decide +kernel
theorem dX2_init_9 : decode cX2_init 9 = .ok (.aload_n 0, 1) := by decide +kernel
theorem dX2_init_10 : decode cX2_init 10 = .ok (.aload_n 2, 1) := by decide +kernel
theorem dX2_init_11 : decode cX2_init 11 = .ok (.putfield 15, 3) := by decide +kernel
theorem dX2_init_14 : decode cX2_init 14 = .ok (.aload_n 0, 1) := by decide +kernel
theorem dX2_init_15 : decode cX2_init 15 = .ok (.bipush 8, 2) := by decide +kernel
theorem dX2_init_17 : decode cX2_init 17 = .ok (.newarray .int, 2) := by decide +kernel
theorem dX2_init_19 : decode cX2_init 19 = .ok (.putfield 19, 3) := by decide +kernel
theorem dX2_init_22 : decode cX2_init 22 = .ok (.return_, 1) := by decide +kernel
theorem dX2_begin_0 : decode cX2_begin 0 = .ok (.aload_n 0, 1) := by decide +kernel
theorem dX2_begin_1 : decode cX2_begin 1 = .ok (.getfield 19, 3) := by decide +kernel
theorem dX2_begin_4 : decode cX2_begin 4 = .ok (.iconst (-1), 1) := by decide +kernel
theorem dX2_begin_5 : decode cX2_begin 5 = .ok (.invokestatic 23, 3) := by decide +kernel
theorem dX2_begin_8 : decode cX2_begin 8 = .ok (.aload_n 0, 1) := by decide +kernel
theorem dX2_begin_9 : decode cX2_begin 9 = .ok (.aload_n 1, 1) := by decide +kernel
theorem dX2_begin_10 : decode cX2_begin 10 = .ok (.putfield 15, 3) := by decide +kernel
theorem dX2_begin_13 : decode cX2_begin 13 = .ok (.aload_n 0, 1) := by decide +kernel
theorem dX2_begin_14 : decode cX2_begin 14 = .ok (.aload_n 2, 1) := by decide +kernel
theorem dX2_begin_15 : decode cX2_begin 15 = .ok (.putfield 29, 3) := by decide +kernel
theorem dX2_begin_18 : decode cX2_begin 18 = .ok (.aload_n 0, 1) := by decide +kernel
theorem dX2_begin_19 : decode cX2_begin 19 = .ok (.iload_n 3, 1) := by decide +kernel
theorem dX2_begin_20 : decode cX2_begin 20 = .ok (.putfield 33, 3) := by decide +kernel
theorem dX2_begin_23 : decode cX2_begin 23 = .ok (.aload_n 0, 1) := by decide +kernel
theorem dX2_begin_24 : decode cX2_begin 24 = .ok (.aload_n 2, 1) := by decide +kernel
theorem dX2_begin_25 : decode cX2_begin 25 = .ok (.ifnonnull 7, 3) := by decide +kernel
theorem dX2_begin_28 : decode cX2_begin 28 = .ok (.iconst 1, 1) := by decide +kernel
theorem dX2_begin_29 : decode cX2_begin 29 = .ok (.goto 9, 3) := by decide +kernel
theorem dX2_begin_32 : decode cX2_begin 32 = .ok (.aload_n 2, 1) := by decide +kernel
theorem dX2_begin_33 : decode cX2_begin 33 = .ok (.getfield 36, 3) := by decide +kernel
theorem dX2_begin_36 : decode cX2_begin 36 = .ok (.iconst 1, 1) := by decide +kernel
theorem dX2_begin_37 : decode cX2_begin 37 = .ok (.iadd, 1) := by decide +kernel
theorem dX2_begin_38 : decode cX2_begin 38 = .ok (.putfield 36, 3) := by decide +kernel
theorem dX2_begin_41 : decode cX2_begin 41 = .ok (.aload_n 0, 1) := by decide +kernel
theorem dX2_begin_42 : decode cX2_begin 42 = .ok (.aconst_null, 1) := by decide +kernel
theorem dX2_begin_43 : decode cX2_begin 43 = .ok (.putfield 39, 3) := by decide +kernel
theorem dX2_begin_46 : decode cX2_begin 46 = .ok (.aload_n 0, 1) := by decide +kernel
theorem dX2_begin_47 : decode cX2_begin 47 = .ok (.iconst 0, 1) := by decide +kernel
theorem dX2_begin_48 : decode cX2_begin 48 = .ok (.putfield 43, 3) := by decide +kernel
theorem dX2_begin_51 : decode cX2_begin 51 = .ok (.aload_n 0, 1) := by decide +kernel
theorem dX2_begin_52 : decode cX2_begin 52 = .ok (.aconst_null, 1) := by decide +kernel
theorem dX2_begin_53 : decode cX2_begin 53 = .ok (.putfield 47, 3) := by decide +kernel
theorem dX2_begin_56 : decode cX2_begin 56 = .ok (.aload_n 0, 1) := by decide +kernel
theorem dX2_begin_57 : decode cX2_begin 57 = .ok (.iconst 0, 1) := by decide +kernel
theorem dX2_begin_58 : decode cX2_begin 58 = .ok (.putfield 50, 3) := by decide +kernel
theorem dX2_begin_61 : decode cX2_begin 61 = .ok (.return_, 1) := by decide +kernel
theorem dX2_valueOf_0 : decode cX2_valueOf 0 = .ok (.iload_n 1, 1) := by decide +kernel
theorem dX2_valueOf_1 : decode cX2_valueOf 1 = .ok (.ifCond .lt 21, 3) := by decide +kernel
theorem dX2_valueOf_4 : decode cX2_valueOf 4 = .ok (.iload_n 1, 1) := by decide +kernel
theorem dX2_valueOf_5 : decode cX2_valueOf 5 = .ok (.aload_n 0, 1) := by decide +kernel
theorem dX2_valueOf_6 : decode cX2_valueOf 6 = .ok (.getfield 19, 3) := by decide +kernel
theorem dX2_valueOf_9 : decode cX2_valueOf 9 = .ok (.arraylength, 1) := by decide +kernel
theorem dX2_valueOf_10 : decode cX2_valueOf 10 = .ok (.if_icmp .ge 12, 3) := by decide +kernel
theorem dX2_valueOf_13 : decode cX2_valueOf 13 = .ok (.aload_n 0, 1) := by decide +kernel
theorem dX2_valueOf_14 : decode cX2_valueOf 14 = .ok (.getfield 19, 3) := by decide +kernel
theorem dX2_valueOf_17 : decode cX2_valueOf 17 = .ok (.iload_n 1, 1) := by decide +kernel
theorem dX2_valueOf_18 : decode cX2_valueOf 18 = .ok (.iaload, 1) := by decide +kernel
theorem dX2_valueOf_19 : decode cX2_valueOf 19 = .ok (.goto 4, 3) := by decide +kernel
theorem dX2_valueOf_22 : decode cX2_valueOf 22 = .ok (.iconst (-1), 1) := by decide +kernel
theorem dX2_valueOf_23 : decode cX2_valueOf 23 = .ok (.ireturn, 1) := by decide +kernel
theorem dX2_setValue_0 : decode cX2_setValue 0 = .ok (.iload_n 1, 1) := by decide +kernel
theorem dX2_setValue_1 : decode cX2_setValue 1 = .ok (.ifCond .lt 19, 3) := by decide +kernel
theorem dX2_setValue_4 : decode cX2_setValue 4 = .ok (.iload_n 1, 1) := by decide +kernel
theorem dX2_setValue_5 : decode cX2_setValue 5 = .ok (.aload_n 0, 1) := by decide +kernel
theorem dX2_setValue_6 : decode cX2_setValue 6 = .ok (.getfield 19, 3) := by decide +kernel
theorem dX2_setValue_9 : decode cX2_setValue 9 = .ok (.arraylength, 1) := by decide +kernel
theorem dX2_setValue_10 : decode cX2_setValue 10 = .ok (.if_icmp .ge 10, 3) := by decide +kernel
theorem dX2_setValue_13 : decode cX2_setValue 13 = .ok (.aload_n 0, 1) := by decide +kernel
theorem dX2_setValue_14 : decode cX2_setValue 14 = .ok (.getfield 19, 3) := by decide +kernel
theorem dX2_setValue_17 : decode cX2_setValue 17 = .ok (.iload_n 1, 1) := by decide +kernel
theorem dX2_setValue_18 : decode cX2_setValue 18 = .ok (.iload_n 2, 1) := by decide +kernel
theorem dX2_setValue_19 : decode cX2_setValue 19 = .ok (.iastore, 1) := by decide +kernel
theorem dX2_setValue_20 : decode cX2_setValue 20 = .ok (.return_, 1) := by decide +kernel
theorem dX3_init_0 : decode cX3_init 0 = .ok (.aload_n 0, 1) := by decide +kernel
theorem dX3_init_1 : decode cX3_init 1 = .ok (.invokespecial 3, 3) := by decide +kernel
theorem dX3_init_4 : decode cX3_init 4 = .ok (.aload_n 0, 1) := by decide +kernel
theorem dX3_init_5 : decode cX3_init 5 = .ok (.iload_n 1, 1) := by decide +kernel
theorem dX3_init_6 : decode cX3_init 6 = .ok (.putfield 9, 3) := by decide +kernel
theorem dX3_init_9 : decode cX3_init 9 = .ok (.aload_n 0, 1) := by decide +kernel
theorem dX3_init_10 : decode cX3_init 10 = .ok (.iload_n 2, 1) := by decide +kernel
theorem dX3_init_11 : decode cX3_init 11 = .ok (.putfield 15, 3) := by decide +kernel
theorem dX3_init_14 : decode cX3_init 14 = .ok (.aload_n 0, 1) := by decide +kernel
theorem dX3_init_15 : decode cX3_init 15 = .ok (.iload_n 3, 1) := by decide +kernel
theorem dX3_init_16 : decode cX3_init 16 = .ok (.putfield 18, 3) := by decide +kernel
theorem dX3_init_19 : decode cX3_init 19 = .ok (.aload_n 0, 1) := by decide +kernel
theorem dX3_init_20 : decode cX3_init 20 = .ok (.iconst 3, 1) := by decide +kernel
theorem dX3_init_21 : decode cX3_init 21 = .ok (.newarray .int, 2) := by decide +kernel
theorem dX3_init_23 : decode cX3_init 23 = .ok (.dup, 1) := by decide +kernel
theorem dX3_init_24 : decode cX3_init 24 = .ok (.iconst 0, 1) := by decide +kernel
theorem dX3_init_25 : decode cX3_init 25 = .ok (.iload 4, 2) := by decide +kernel
theorem dX3_init_27 : decode cX3_init 27 = .ok (.iastore, 1) := by decide +kernel
theorem dX3_init_28 : decode cX3_init 28 = .ok (.dup, 1) := by decide +kernel
theorem dX3_init_29 : decode cX3_init 29 = .ok (.iconst 1, 1) := by decide +kernel
theorem dX3_init_30 : decode cX3_init 30 = .ok (.iload 5, 2) := by decide +kernel
theorem dX3_init_32 : decode cX3_init 32 = .ok (.iastore, 1) := by decide +kernel
theorem dX3_init_33 : decode cX3_init 33 = .ok (.dup, 1) := by decide +kernel
theorem dX3_init_34 : decode cX3_init 34 = .ok (.iconst 2, 1) := by decide +kernel
theorem dX3_init_35 : decode cX3_init 35 = .ok (.iload 6, 2) := by decide +kernel
theorem dX3_init_37 : decode cX3_init 37 = .ok (.iastore, 1) := by decide +kernel
theorem dX3_init_38 : decode cX3_init 38 = .ok (.putfield 21, 3) := by decide +kernel
theorem dX3_init_41 : decode cX3_init 41 = .ok (.return_, 1) := by decide +kernel
theorem dX3_isCalling_0 : decode cX3_isCalling 0 = .ok (.aload_n 0, 1) := by decide +kernel
theorem dX3_isCalling_1 : decode cX3_isCalling 1 = .ok (.getfield 9, 3) := by decide +kernel
theorem dX3_isCalling_4 : decode cX3_isCalling 4 = .ok (.iconst 2, 1) := by decide +kernel
theorem dX3_isCalling_5 : decode cX3_isCalling 5 = .ok (.if_icmp .eq 11, 3) := by decide +kernel
theorem dX3_isCalling_8 : decode cX3_isCalling 8 = .ok (.aload_n 0, 1) := by decide +kernel
theorem dX3_isCalling_9 : decode cX3_isCalling 9 = .ok (.getfield 9, 3) := by decide +kernel
theorem dX3_isCalling_12 : decode cX3_isCalling 12 = .ok (.iconst 3, 1) := by decide +kernel
theorem dX3_isCalling_13 : decode cX3_isCalling 13 = .ok (.if_icmp .ne 7, 3) := by decide +kernel
theorem dX3_isCalling_16 : decode cX3_isCalling 16 = .ok (.iconst 1, 1) := by decide +kernel
theorem dX3_isCalling_17 : decode cX3_isCalling 17 = .ok (.goto 4, 3) := by decide +kernel
theorem dX3_isCalling_20 : decode cX3_isCalling 20 = .ok (.iconst 0, 1) := by decide +kernel
theorem dX3_isCalling_21 : decode cX3_isCalling 21 = .ok (.ireturn, 1) := by decide +kernel
theorem dX3_variableAt_0 : decode cX3_variableAt 0 = .ok (.iload_n 1, 1) := by decide +kernel
theorem dX3_variableAt_1 : decode cX3_variableAt 1 = .ok (.ifCond .lt 21, 3) := by decide +kernel
theorem dX3_variableAt_4 : decode cX3_variableAt 4 = .ok (.iload_n 1, 1) := by decide +kernel
theorem dX3_variableAt_5 : decode cX3_variableAt 5 = .ok (.aload_n 0, 1) := by decide +kernel
theorem dX3_variableAt_6 : decode cX3_variableAt 6 = .ok (.getfield 21, 3) := by decide +kernel
theorem dX3_variableAt_9 : decode cX3_variableAt 9 = .ok (.arraylength, 1) := by decide +kernel
theorem dX3_variableAt_10 : decode cX3_variableAt 10 = .ok (.if_icmp .ge 12, 3) := by decide +kernel
theorem dX3_variableAt_13 : decode cX3_variableAt 13 = .ok (.aload_n 0, 1) := by decide +kernel
theorem dX3_variableAt_14 : decode cX3_variableAt 14 = .ok (.getfield 21, 3) := by decide +kernel
theorem dX3_variableAt_17 : decode cX3_variableAt 17 = .ok (.iload_n 1, 1) := by decide +kernel
theorem dX3_variableAt_18 : decode cX3_variableAt 18 = .ok (.iaload, 1) := by decide +kernel
theorem dX3_variableAt_19 : decode cX3_variableAt 19 = .ok (.goto 4, 3) := by decide +kernel
theorem dX3_variableAt_22 : decode cX3_variableAt 22 = .ok (.iconst 0, 1) := by decide +kernel
theorem dX3_variableAt_23 : decode cX3_variableAt 23 = .ok (.ireturn, 1) := by decide +kernel
theorem dX3_isBareBehindEnd_0 : decode cX3_isBareBehindEnd 0 = .ok (.aload_n 0, 1) := by decide +kernel
theorem dX3_isBareBehindEnd_1 : decode cX3_isBareBehindEnd 1 = .ok (.getfield 18, 3) := by decide +kernel
theorem dX3_isBareBehindEnd_4 : decode cX3_isBareBehindEnd 4 = .ok (.istore_n 1, 1) := by decide +kernel
theorem dX3_isBareBehindEnd_5 : decode cX3_isBareBehindEnd 5 = .ok (.iload_n 1, 1) := by decide +kernel
theorem dX3_isBareBehindEnd_6 : decode cX3_isBareBehindEnd 6 = .ok (.iconst 3, 1) := by decide +kernel
theorem dX3_isBareBehindEnd_7 : decode cX3_isBareBehindEnd 7 = .ok (.if_icmp .ge 19, 3) := by decide +kernel
theorem dX3_isBareBehindEnd_10 : decode cX3_isBareBehindEnd 10 = .ok (.aload_n 0, 1) := by decide +kernel
theorem dX3_isBareBehindEnd_11 : decode cX3_isBareBehindEnd 11 = .ok (.iload_n 1, 1) := by decide +kernel
theorem dX3_isBareBehindEnd_12 : decode cX3_isBareBehindEnd 12 = .ok (.invokevirtual 25, 3) := by decide +kernel
theorem dX3_isBareBehindEnd_15 : decode cX3_isBareBehindEnd 15 = .ok (.ifCond .eq 5, 3) := by decide +kernel
theorem dX3_isBareBehindEnd_18 : decode cX3_isBareBehindEnd 18 = .ok (.iconst 0, 1) := by decide +kernel
theorem dX3_isBareBehindEnd_19 : decode cX3_isBareBehindEnd 19 = .ok (.ireturn, 1) := by decide +kernel
theorem dX3_isBareBehindEnd_20 : decode cX3_isBareBehindEnd 20 = .ok (.iinc 1 1, 3) := by decide +kernel
theorem dX3_isBareBehindEnd_23 : decode cX3_isBareBehindEnd 23 = .ok (.goto (-18), 3) := by decide +kernel
theorem dX3_isBareBehindEnd_26 : decode cX3_isBareBehindEnd 26 = .ok (.iconst 1, 1) := by decide +kernel
theorem dX3_isBareBehindEnd_27 : decode cX3_isBareBehindEnd 27 = .ok (.ireturn, 1) := by decide +kernel
theorem dX3_variableSet_0 : decode cX3_variableSet 0 = .ok (.iconst 0, 1) := by decide +kernel
theorem dX3_variableSet_1 : decode cX3_variableSet 1 = .ok (.istore_n 2, 1) := by decide +kernel
theorem dX3_variableSet_2 : decode cX3_variableSet 2 = .ok (.iload_n 1, 1) := by decide +kernel
theorem dX3_variableSet_3 : decode cX3_variableSet 3 = .ok (.istore_n 3, 1) := by decide +kernel
theorem dX3_variableSet_4 : decode cX3_variableSet 4 = .ok (.iload_n 3, 1) := by decide +kernel
theorem dX3_variableSet_5 : decode cX3_variableSet 5 = .ok (.aload_n 0, 1) := by decide +kernel
theorem dX3_variableSet_6 : decode cX3_variableSet 6 = .ok (.getfield 18, 3) := by decide +kernel
theorem dX3_variableSet_9 : decode cX3_variableSet 9 = .ok (.if_icmp .ge 19, 3) := by decide +kernel
theorem dX3_variableSet_12 : decode cX3_variableSet 12 = .ok (.iload_n 2, 1) := by decide +kernel
theorem dX3_variableSet_13 : decode cX3_variableSet 13 = .ok (.iconst 1, 1) := by decide +kernel
theorem dX3_variableSet_14 : decode cX3_variableSet 14 = .ok (.aload_n 0, 1) := by decide +kernel
theorem dX3_variableSet_15 : decode cX3_variableSet 15 = .ok (.iload_n 3, 1) := by decide +kernel
theorem dX3_variableSet_16 : decode cX3_variableSet 16 = .ok (.invokevirtual 25, 3) := by decide +kernel
theorem dX3_variableSet_19 : decode cX3_variableSet 19 = .ok (.ishl, 1) := by decide +kernel
theorem dX3_variableSet_20 : decode cX3_variableSet 20 = .ok (.ior, 1) := by decide +kernel
theorem dX3_variableSet_21 : decode cX3_variableSet 21 = .ok (.istore_n 2, 1) := by decide +kernel
theorem dX3_variableSet_22 : decode cX3_variableSet 22 = .ok (.iinc 3 1, 3) := by decide +kernel
theorem dX3_variableSet_25 : decode cX3_variableSet 25 = .ok (.goto (-21), 3) := by decide +kernel
theorem dX3_variableSet_28 : decode cX3_variableSet 28 = .ok (.iload_n 2, 1) := by decide +kernel
theorem dX3_variableSet_29 : decode cX3_variableSet 29 = .ok (.ireturn, 1) := by decide +kernel
theorem dX4_init_0 : decode cX4_init 0 = .ok (.aload_n 0, 1) := by decide +kernel
theorem dX4_init_1 : decode cX4_init 1 = .ok (.invokespecial 3, 3) := by decide +kernel
theorem dX4_init_4 : decode cX4_init 4 = .ok (.aload_n 0, 1) := by decide +kernel
theorem dX4_init_5 : decode cX4_init 5 = .ok (.aload_n 1, 1) := by decide +kernel
theorem dX4_init_6 : decode cX4_init 6 = .ok (.putfield 9, 3) := by decide +kernel
theorem dX4_init_9 : decode cX4_init 9 = .ok (.aload_n 0, 1) := by decide +kernel
theorem dX4_init_10 : decode cX4_init 10 = .ok (.aload_n 2, 1) := by decide +kernel
theorem dX4_init_11 : decode cX4_init 11 = .ok (.putfield 15, 3) := by decide +kernel
theorem dX4_init_14 : decode cX4_init 14 = .ok (.aload_n 0, 1) := by decide +kernel
theorem dX4_init_15 : decode cX4_init 15 = .ok (.new 19, 3) := by decide +kernel
theorem dX4_init_18 : decode cX4_init 18 = .ok (.dup, 1) := by decide +kernel
theorem dX4_init_19 : decode cX4_init 19 = .ok (.invokespecial 21, 3) := by decide +kernel
theorem dX4_init_22 : decode cX4_init 22 = .ok (.putfield 22, 3) := by decide +kernel
theorem dX4_init_25 : decode cX4_init 25 = .ok (.aload_n 0, 1) := by decide +kernel
theorem dX4_init_26 : decode cX4_init 26 = .ok (.new 26, 3) := by decide +kernel
theorem dX4_init_29 : decode cX4_init 29 = .ok (.dup, 1) := by decide +kernel
theorem dX4_init_30 : decode cX4_init 30 = .ok (.iconst 3, 1) := by decide +kernel
theorem dX4_init_31 : decode cX4_init 31 = .ok (.bipush 30, 2) := by decide +kernel
theorem dX4_init_33 : decode cX4_init 33 = .ok (.invokespecial 28, 3) := by decide +kernel
theorem dX4_init_36 : decode cX4_init 36 = .ok (.putfield 31, 3) := by decide +kernel
theorem dX4_init_39 : decode cX4_init 39 = .ok (.aload_n 0, 1) := by decide +kernel
theorem dX4_init_40 : decode cX4_init 40 = .ok (.new 26, 3) := by decide +kernel
theorem dX4_init_43 : decode cX4_init 43 = .ok (.dup, 1) := by decide +kernel
theorem dX4_init_44 : decode cX4_init 44 = .ok (.iconst 2, 1) := by decide +kernel
theorem dX4_init_45 : decode cX4_init 45 = .ok (.bipush 30, 2) := by decide +kernel
theorem dX4_init_47 : decode cX4_init 47 = .ok (.invokespecial 28, 3) := by decide +kernel
theorem dX4_init_50 : decode cX4_init 50 = .ok (.putfield 35, 3) := by decide +kernel
theorem dX4_init_53 : decode cX4_init 53 = .ok (.return_, 1) := by decide +kernel
theorem dX4_run_0 : decode cX4_run 0 = .ok (.aload_n 0, 1) := by decide +kernel
theorem dX4_run_1 : decode cX4_run 1 = .ok (.getfield 9, 3) := by decide +kernel
theorem dX4_run_4 : decode cX4_run 4 = .ok (.invokevirtual 38, 3) := by decide +kernel
theorem dX4_run_7 : decode cX4_run 7 = .ok (.istore_n 3, 1) := by decide +kernel
theorem dX4_run_8 : decode cX4_run 8 = .ok (.aload_n 0, 1) := by decide +kernel
theorem dX4_run_9 : decode cX4_run 9 = .ok (.aload_n 1, 1) := by decide +kernel
theorem dX4_run_10 : decode cX4_run 10 = .ok (.aload_n 2, 1) := by decide +kernel
theorem dX4_run_11 : decode cX4_run 11 = .ok (.invokevirtual 44, 3) := by decide +kernel
theorem dX4_run_14 : decode cX4_run 14 = .ok (.iconst 0, 1) := by decide +kernel
theorem dX4_run_15 : decode cX4_run 15 = .ok (.istore 4, 2) := by decide +kernel
theorem dX4_run_17 : decode cX4_run 17 = .ok (.iload 4, 2) := by decide +kernel
theorem dX4_run_19 : decode cX4_run 19 = .ok (.ldc 48, 2) := by decide +kernel
theorem dX4_run_21 : decode cX4_run 21 = .ok (.if_icmp .ge 107, 3) := by decide +kernel
theorem dX4_run_24 : decode cX4_run 24 = .ok (.aload_n 0, 1) := by decide +kernel
theorem dX4_run_25 : decode cX4_run 25 = .ok (.getfield 49, 3) := by decide +kernel
theorem dX4_run_28 : decode cX4_run 28 = .ok (.ifCond .ne 100, 3) := by decide +kernel
theorem dX4_run_31 : decode cX4_run 31 = .ok (.aload_n 0, 1) := by decide +kernel
theorem dX4_run_32 : decode cX4_run 32 = .ok (.getfield 53, 3) := by decide +kernel
theorem dX4_run_35 : decode cX4_run 35 = .ok (.astore 5, 2) := by decide +kernel
theorem dX4_run_37 : decode cX4_run 37 = .ok (.aload_n 0, 1) := by decide +kernel
theorem dX4_run_38 : decode cX4_run 38 = .ok (.getfield 57, 3) := by decide +kernel
theorem dX4_run_41 : decode cX4_run 41 = .ok (.ifCond .ne 16, 3) := by decide +kernel
theorem dX4_run_44 : decode cX4_run 44 = .ok (.aload 5, 2) := by decide +kernel
theorem dX4_run_46 : decode cX4_run 46 = .ok (.ifnull 11, 3) := by decide +kernel
theorem dX4_run_49 : decode cX4_run 49 = .ok (.aload 5, 2) := by decide +kernel
theorem dX4_run_51 : decode cX4_run 51 = .ok (.getfield 60, 3) := by decide +kernel
theorem dX4_run_54 : decode cX4_run 54 = .ok (.ifnonnull 10, 3) := by decide +kernel
theorem dX4_run_57 : decode cX4_run 57 = .ok (.aload_n 0, 1) := by decide +kernel
theorem dX4_run_58 : decode cX4_run 58 = .ok (.invokevirtual 66, 3) := by decide +kernel
theorem dX4_run_61 : decode cX4_run 61 = .ok (.goto 61, 3) := by decide +kernel
theorem dX4_run_64 : decode cX4_run 64 = .ok (.aload_n 0, 1) := by decide +kernel
theorem dX4_run_65 : decode cX4_run 65 = .ok (.getfield 69, 3) := by decide +kernel
theorem dX4_run_68 : decode cX4_run 68 = .ok (.aload 5, 2) := by decide +kernel
theorem dX4_run_70 : decode cX4_run 70 = .ok (.getfield 60, 3) := by decide +kernel
theorem dX4_run_73 : decode cX4_run 73 = .ok (.aload 5, 2) := by decide +kernel
theorem dX4_run_75 : decode cX4_run 75 = .ok (.getfield 73, 3) := by decide +kernel
theorem dX4_run_78 : decode cX4_run 78 = .ok (.getfield 77, 3) := by decide +kernel
theorem dX4_run_81 : decode cX4_run 81 = .ok (.invokevirtual 82, 3) := by decide +kernel
theorem dX4_run_84 : decode cX4_run 84 = .ok (.if_icmp .lt 12, 3) := by decide +kernel
theorem dX4_run_87 : decode cX4_run 87 = .ok (.aload_n 0, 1) := by decide +kernel
theorem dX4_run_88 : decode cX4_run 88 = .ok (.aload 5, 2) := by decide +kernel
theorem dX4_run_90 : decode cX4_run 90 = .ok (.invokevirtual 88, 3) := by decide +kernel
theorem dX4_run_93 : decode cX4_run 93 = .ok (.goto 29, 3) := by decide +kernel
theorem dX4_run_96 : decode cX4_run 96 = .ok (.aload_n 0, 1) := by decide +kernel
theorem dX4_run_97 : decode cX4_run 97 = .ok (.aload 5, 2) := by decide +kernel
theorem dX4_run_99 : decode cX4_run 99 = .ok (.aload 5, 2) := by decide +kernel
theorem dX4_run_101 : decode cX4_run 101 = .ok (.getfield 60, 3) := by decide +kernel
theorem dX4_run_104 : decode cX4_run 104 = .ok (.aload 5, 2) := by decide +kernel
theorem dX4_run_106 : decode cX4_run 106 = .ok (.getfield 73, 3) := by decide +kernel
theorem dX4_run_109 : decode cX4_run 109 = .ok (.getfield 77, 3) := by decide +kernel
theorem dX4_run_112 : decode cX4_run 112 = .ok (.aload_n 0, 1) := by decide +kernel
theorem dX4_run_113 : decode cX4_run 113 = .ok (.getfield 69, 3) := by decide +kernel
theorem dX4_run_116 : decode cX4_run 116 = .ok (.invokevirtual 92, 3) := by decide +kernel
theorem dX4_run_119 : decode cX4_run 119 = .ok (.invokevirtual 96, 3) := by decide +kernel
theorem dX4_run_122 : decode cX4_run 122 = .ok (.iinc 4 1, 3) := by decide +kernel
theorem dX4_run_125 : decode cX4_run 125 = .ok (.goto (-108), 3) := by decide +kernel
theorem dX4_run_128 : decode cX4_run 128 = .ok (.aload_n 0, 1) := by decide +kernel
theorem dX4_run_129 : decode cX4_run 129 = .ok (.getfield 100, 3) := by decide +kernel
theorem dX4_run_132 : decode cX4_run 132 = .ok (.ifCond .eq 11, 3) := by decide +kernel
theorem dX4_run_135 : decode cX4_run 135 = .ok (.aload_n 0, 1) := by decide +kernel
theorem dX4_run_136 : decode cX4_run 136 = .ok (.getfield 9, 3) := by decide +kernel
theorem dX4_run_139 : decode cX4_run 139 = .ok (.iload_n 3, 1) := by decide +kernel
theorem dX4_run_140 : decode cX4_run 140 = .ok (.invokevirtual 103, 3) := by decide +kernel
theorem dX4_run_143 : decode cX4_run 143 = .ok (.aload_n 0, 1) := by decide +kernel
theorem dX4_run_144 : decode cX4_run 144 = .ok (.getfield 100, 3) := by decide +kernel
theorem dX4_run_147 : decode cX4_run 147 = .ok (.ifCond .ne 7, 3) := by decide +kernel
