theorem dX11_ask_132 : decode cX11_ask 132 = .ok (.getfield 55, 3) := by decide +kernel
theorem dX11_ask_135 : decode cX11_ask 135 = .ok (.iconst 1, 1) := by decide +kernel
theorem dX11_ask_136 : decode cX11_ask 136 = .ok (.iadd, 1) := by decide +kernel
theorem dX11_ask_137 : decode cX11_ask 137 = .ok (.putfield 55, 3) := by decide +kernel
theorem dX11_ask_140 : decode cX11_ask 140 = .ok (.aload_n 0, 1) := by decide +kernel
theorem dX11_ask_141 : decode cX11_ask 141 = .ok (.dup, 1) := by decide +kernel
theorem dX11_ask_142 : decode cX11_ask 142 = .ok (.getfield 59, 3) := by decide +kernel
theorem dX11_ask_145 : decode cX11_ask 145 = .ok (.aload_n 0, 1) := by decide +kernel
theorem dX11_ask_146 : decode cX11_ask 146 = .ok (.getfield 26, 3) := by decide +kernel
theorem dX11_ask_149 : decode cX11_ask 149 = .ok (.getfield 258, 3) := by decide +kernel
theorem dX11_ask_152 : decode cX11_ask 152 = .ok (.i2l, 1) := by decide +kernel
theorem dX11_ask_153 : decode cX11_ask 153 = .ok (.ladd, 1) := by decide +kernel
theorem dX11_ask_154 : decode cX11_ask 154 = .ok (.putfield 59, 3) := by decide +kernel
theorem dX11_ask_157 : decode cX11_ask 157 = .ok (.aload_n 0, 1) := by decide +kernel
theorem dX11_ask_158 : decode cX11_ask 158 = .ok (.getfield 26, 3) := by decide +kernel
theorem dX11_ask_161 : decode cX11_ask 161 = .ok (.invokevirtual 261, 3) := by decide +kernel
theorem dX11_ask_164 : decode cX11_ask 164 = .ok (.ireturn, 1) := by decide +kernel
theorem dX11_ending_0 : decode cX11_ending 0 = .ok (.aload_n 0, 1) := by decide +kernel
theorem dX11_ending_1 : decode cX11_ending 1 = .ok (.invokevirtual 264, 3) := by decide +kernel
theorem dX11_ending_4 : decode cX11_ending 4 = .ok (.aload_n 0, 1) := by decide +kernel
theorem dX11_ending_5 : decode cX11_ending 5 = .ok (.getfield 26, 3) := by decide +kernel
theorem dX11_ending_8 : decode cX11_ending 8 = .ok (.getfield 267, 3) := by decide +kernel
theorem dX11_ending_11 : decode cX11_ending 11 = .ok (.ireturn, 1) := by decide +kernel
theorem dX11_answerAt_0 : decode cX11_answerAt 0 = .ok (.aload_n 0, 1) := by decide +kernel
theorem dX11_answerAt_1 : decode cX11_answerAt 1 = .ok (.invokevirtual 264, 3) := by decide +kernel
theorem dX11_answerAt_4 : decode cX11_answerAt 4 = .ok (.aload_n 0, 1) := by decide +kernel
theorem dX11_answerAt_5 : decode cX11_answerAt 5 = .ok (.getfield 26, 3) := by decide +kernel
theorem dX11_answerAt_8 : decode cX11_answerAt 8 = .ok (.iload_n 1, 1) := by decide +kernel
theorem dX11_answerAt_9 : decode cX11_answerAt 9 = .ok (.invokevirtual 271, 3) := by decide +kernel
theorem dX11_answerAt_12 : decode cX11_answerAt 12 = .ok (.ifCond .eq 14, 3) := by decide +kernel
theorem dX11_answerAt_15 : decode cX11_answerAt 15 = .ok (.aload_n 0, 1) := by decide +kernel
theorem dX11_answerAt_16 : decode cX11_answerAt 16 = .ok (.getfield 26, 3) := by decide +kernel
theorem dX11_answerAt_19 : decode cX11_answerAt 19 = .ok (.iload_n 2, 1) := by decide +kernel
theorem dX11_answerAt_20 : decode cX11_answerAt 20 = .ok (.invokevirtual 274, 3) := by decide +kernel
theorem dX11_answerAt_23 : decode cX11_answerAt 23 = .ok (.ifCond .ne 11, 3) := by decide +kernel
theorem dX11_answerAt_26 : decode cX11_answerAt 26 = .ok (.new 80, 3) := by decide +kernel
theorem dX11_answerAt_29 : decode cX11_answerAt 29 = .ok (.dup, 1) := by decide +kernel
theorem dX11_answerAt_30 : decode cX11_answerAt 30 = .ok (.invokespecial 82, 3) := by decide +kernel
theorem dX11_answerAt_33 : decode cX11_answerAt 33 = .ok (.athrow, 1) := by decide +kernel
theorem dX11_answerAt_34 : decode cX11_answerAt 34 = .ok (.aload_n 0, 1) := by decide +kernel
theorem dX11_answerAt_35 : decode cX11_answerAt 35 = .ok (.getfield 26, 3) := by decide +kernel
theorem dX11_answerAt_38 : decode cX11_answerAt 38 = .ok (.iload_n 1, 1) := by decide +kernel
theorem dX11_answerAt_39 : decode cX11_answerAt 39 = .ok (.iload_n 2, 1) := by decide +kernel
theorem dX11_answerAt_40 : decode cX11_answerAt 40 = .ok (.invokevirtual 277, 3) := by decide +kernel
theorem dX11_answerAt_43 : decode cX11_answerAt 43 = .ok (.ireturn, 1) := by decide +kernel
theorem dX11_multiplicity_0 : decode cX11_multiplicity 0 = .ok (.aload_n 0, 1) := by decide +kernel
theorem dX11_multiplicity_1 : decode cX11_multiplicity 1 = .ok (.invokevirtual 264, 3) := by decide +kernel
theorem dX11_multiplicity_4 : decode cX11_multiplicity 4 = .ok (.aload_n 0, 1) := by decide +kernel
theorem dX11_multiplicity_5 : decode cX11_multiplicity 5 = .ok (.getfield 26, 3) := by decide +kernel
theorem dX11_multiplicity_8 : decode cX11_multiplicity 8 = .ok (.iload_n 1, 1) := by decide +kernel
theorem dX11_multiplicity_9 : decode cX11_multiplicity 9 = .ok (.invokevirtual 271, 3) := by decide +kernel
theorem dX11_multiplicity_12 : decode cX11_multiplicity 12 = .ok (.ifCond .ne 11, 3) := by decide +kernel
theorem dX11_multiplicity_15 : decode cX11_multiplicity 15 = .ok (.new 80, 3) := by decide +kernel
theorem dX11_multiplicity_18 : decode cX11_multiplicity 18 = .ok (.dup, 1) := by decide +kernel
theorem dX11_multiplicity_19 : decode cX11_multiplicity 19 = .ok (.invokespecial 82, 3) := by decide +kernel
theorem dX11_multiplicity_22 : decode cX11_multiplicity 22 = .ok (.athrow, 1) := by decide +kernel
theorem dX11_multiplicity_23 : decode cX11_multiplicity 23 = .ok (.aload_n 0, 1) := by decide +kernel
theorem dX11_multiplicity_24 : decode cX11_multiplicity 24 = .ok (.getfield 26, 3) := by decide +kernel
theorem dX11_multiplicity_27 : decode cX11_multiplicity 27 = .ok (.iload_n 1, 1) := by decide +kernel
theorem dX11_multiplicity_28 : decode cX11_multiplicity 28 = .ok (.invokevirtual 280, 3) := by decide +kernel
theorem dX11_multiplicity_31 : decode cX11_multiplicity 31 = .ok (.ireturn, 1) := by decide +kernel
theorem dX11_answersByBreadth_0 : decode cX11_answersByBreadth 0 = .ok (.aload_n 0, 1) := by decide +kernel
theorem dX11_answersByBreadth_1 : decode cX11_answersByBreadth 1 = .ok (.invokevirtual 264, 3) := by decide +kernel
theorem dX11_answersByBreadth_4 : decode cX11_answersByBreadth 4 = .ok (.aload_n 0, 1) := by decide +kernel
theorem dX11_answersByBreadth_5 : decode cX11_answersByBreadth 5 = .ok (.getfield 26, 3) := by decide +kernel
theorem dX11_answersByBreadth_8 : decode cX11_answersByBreadth 8 = .ok (.getfield 283, 3) := by decide +kernel
theorem dX11_answersByBreadth_11 : decode cX11_answersByBreadth 11 = .ok (.ifCond .ne 29, 3) := by decide +kernel
theorem dX11_answersByBreadth_14 : decode cX11_answersByBreadth 14 = .ok (.aload_n 0, 1) := by decide +kernel
theorem dX11_answersByBreadth_15 : decode cX11_answersByBreadth 15 = .ok (.getfield 26, 3) := by decide +kernel
theorem dX11_answersByBreadth_18 : decode cX11_answersByBreadth 18 = .ok (.aload_n 0, 1) := by decide +kernel
theorem dX11_answersByBreadth_19 : decode cX11_answersByBreadth 19 = .ok (.getfield 47, 3) := by decide +kernel
theorem dX11_answersByBreadth_22 : decode cX11_answersByBreadth 22 = .ok (.aload_n 0, 1) := by decide +kernel
theorem dX11_answersByBreadth_23 : decode cX11_answersByBreadth 23 = .ok (.getfield 26, 3) := by decide +kernel
theorem dX11_answersByBreadth_26 : decode cX11_answersByBreadth 26 = .ok (.invokevirtual 286, 3) := by decide +kernel
theorem dX11_answersByBreadth_29 : decode cX11_answersByBreadth 29 = .ok (.putfield 290, 3) := by decide +kernel
theorem dX11_answersByBreadth_32 : decode cX11_answersByBreadth 32 = .ok (.aload_n 0, 1) := by decide +kernel
theorem dX11_answersByBreadth_33 : decode cX11_answersByBreadth 33 = .ok (.getfield 26, 3) := by decide +kernel
theorem dX11_answersByBreadth_36 : decode cX11_answersByBreadth 36 = .ok (.iconst 1, 1) := by decide +kernel
theorem dX11_answersByBreadth_37 : decode cX11_answersByBreadth 37 = .ok (.putfield 283, 3) := by decide +kernel
theorem dX11_answersByBreadth_40 : decode cX11_answersByBreadth 40 = .ok (.aload_n 0, 1) := by decide +kernel
theorem dX11_answersByBreadth_41 : decode cX11_answersByBreadth 41 = .ok (.getfield 26, 3) := by decide +kernel
theorem dX11_answersByBreadth_44 : decode cX11_answersByBreadth 44 = .ok (.getfield 290, 3) := by decide +kernel
theorem dX11_answersByBreadth_47 : decode cX11_answersByBreadth 47 = .ok (.iconst (-1), 1) := by decide +kernel
theorem dX11_answersByBreadth_48 : decode cX11_answersByBreadth 48 = .ok (.if_icmp .ne 11, 3) := by decide +kernel
theorem dX11_answersByBreadth_51 : decode cX11_answersByBreadth 51 = .ok (.new 255, 3) := by decide +kernel
theorem dX11_answersByBreadth_54 : decode cX11_answersByBreadth 54 = .ok (.dup, 1) := by decide +kernel
theorem dX11_answersByBreadth_55 : decode cX11_answersByBreadth 55 = .ok (.invokespecial 257, 3) := by decide +kernel
theorem dX11_answersByBreadth_58 : decode cX11_answersByBreadth 58 = .ok (.athrow, 1) := by decide +kernel
theorem dX11_answersByBreadth_59 : decode cX11_answersByBreadth 59 = .ok (.aload_n 0, 1) := by decide +kernel
theorem dX11_answersByBreadth_60 : decode cX11_answersByBreadth 60 = .ok (.getfield 26, 3) := by decide +kernel
theorem dX11_answersByBreadth_63 : decode cX11_answersByBreadth 63 = .ok (.getfield 290, 3) := by decide +kernel
theorem dX11_answersByBreadth_66 : decode cX11_answersByBreadth 66 = .ok (.ireturn, 1) := by decide +kernel
theorem dX11_steps_0 : decode cX11_steps 0 = .ok (.aload_n 0, 1) := by decide +kernel
theorem dX11_steps_1 : decode cX11_steps 1 = .ok (.invokevirtual 264, 3) := by decide +kernel
theorem dX11_steps_4 : decode cX11_steps 4 = .ok (.aload_n 0, 1) := by decide +kernel
theorem dX11_steps_5 : decode cX11_steps 5 = .ok (.getfield 26, 3) := by decide +kernel
theorem dX11_steps_8 : decode cX11_steps 8 = .ok (.getfield 258, 3) := by decide +kernel
theorem dX11_steps_11 : decode cX11_steps 11 = .ok (.ireturn, 1) := by decide +kernel
theorem dX11_choicePoints_0 : decode cX11_choicePoints 0 = .ok (.aload_n 0, 1) := by decide +kernel
theorem dX11_choicePoints_1 : decode cX11_choicePoints 1 = .ok (.invokevirtual 264, 3) := by decide +kernel
theorem dX11_choicePoints_4 : decode cX11_choicePoints 4 = .ok (.aload_n 0, 1) := by decide +kernel
theorem dX11_choicePoints_5 : decode cX11_choicePoints 5 = .ok (.getfield 26, 3) := by decide +kernel
theorem dX11_choicePoints_8 : decode cX11_choicePoints 8 = .ok (.getfield 293, 3) := by decide +kernel
theorem dX11_choicePoints_11 : decode cX11_choicePoints 11 = .ok (.ireturn, 1) := by decide +kernel
theorem dX11_deepest_0 : decode cX11_deepest 0 = .ok (.aload_n 0, 1) := by decide +kernel
theorem dX11_deepest_1 : decode cX11_deepest 1 = .ok (.invokevirtual 264, 3) := by decide +kernel
theorem dX11_deepest_4 : decode cX11_deepest 4 = .ok (.aload_n 0, 1) := by decide +kernel
theorem dX11_deepest_5 : decode cX11_deepest 5 = .ok (.getfield 26, 3) := by decide +kernel
theorem dX11_deepest_8 : decode cX11_deepest 8 = .ok (.getfield 296, 3) := by decide +kernel
theorem dX11_deepest_11 : decode cX11_deepest 11 = .ok (.ireturn, 1) := by decide +kernel
theorem dX11_recorded_0 : decode cX11_recorded 0 = .ok (.aload_n 0, 1) := by decide +kernel
theorem dX11_recorded_1 : decode cX11_recorded 1 = .ok (.invokevirtual 264, 3) := by decide +kernel
theorem dX11_recorded_4 : decode cX11_recorded 4 = .ok (.aload_n 0, 1) := by decide +kernel
theorem dX11_recorded_5 : decode cX11_recorded 5 = .ok (.getfield 26, 3) := by decide +kernel
theorem dX11_recorded_8 : decode cX11_recorded 8 = .ok (.invokevirtual 299, 3) := by decide +kernel
theorem dX11_recorded_11 : decode cX11_recorded 11 = .ok (.ireturn, 1) := by decide +kernel
theorem dX11_recordAt_0 : decode cX11_recordAt 0 = .ok (.aload_n 0, 1) := by decide +kernel
theorem dX11_recordAt_1 : decode cX11_recordAt 1 = .ok (.iload_n 1, 1) := by decide +kernel
theorem dX11_recordAt_2 : decode cX11_recordAt 2 = .ok (.invokevirtual 302, 3) := by decide +kernel
theorem dX11_recordAt_5 : decode cX11_recordAt 5 = .ok (.aload_n 0, 1) := by decide +kernel
theorem dX11_recordAt_6 : decode cX11_recordAt 6 = .ok (.getfield 26, 3) := by decide +kernel
theorem dX11_recordAt_9 : decode cX11_recordAt 9 = .ok (.iload_n 1, 1) := by decide +kernel
theorem dX11_recordAt_10 : decode cX11_recordAt 10 = .ok (.invokevirtual 305, 3) := by decide +kernel
theorem dX11_recordAt_13 : decode cX11_recordAt 13 = .ok (.ireturn, 1) := by decide +kernel
theorem dX11_whereAt_0 : decode cX11_whereAt 0 = .ok (.aload_n 0, 1) := by decide +kernel
theorem dX11_whereAt_1 : decode cX11_whereAt 1 = .ok (.iload_n 1, 1) := by decide +kernel
theorem dX11_whereAt_2 : decode cX11_whereAt 2 = .ok (.invokevirtual 302, 3) := by decide +kernel
theorem dX11_whereAt_5 : decode cX11_whereAt 5 = .ok (.aload_n 0, 1) := by decide +kernel
theorem dX11_whereAt_6 : decode cX11_whereAt 6 = .ok (.getfield 26, 3) := by decide +kernel
theorem dX11_whereAt_9 : decode cX11_whereAt 9 = .ok (.iload_n 1, 1) := by decide +kernel
theorem dX11_whereAt_10 : decode cX11_whereAt 10 = .ok (.invokevirtual 309, 3) := by decide +kernel
theorem dX11_whereAt_13 : decode cX11_whereAt 13 = .ok (.ireturn, 1) := by decide +kernel
theorem dX11_terms_0 : decode cX11_terms 0 = .ok (.aload_n 0, 1) := by decide +kernel
theorem dX11_terms_1 : decode cX11_terms 1 = .ok (.getfield 10, 3) := by decide +kernel
theorem dX11_terms_4 : decode cX11_terms 4 = .ok (.invokevirtual 312, 3) := by decide +kernel
theorem dX11_terms_7 : decode cX11_terms 7 = .ok (.ireturn, 1) := by decide +kernel
theorem dX11_isTypeOrNone_0 : decode cX11_isTypeOrNone 0 = .ok (.iload_n 1, 1) := by decide +kernel
theorem dX11_isTypeOrNone_1 : decode cX11_isTypeOrNone 1 = .ok (.iconst (-1), 1) := by decide +kernel
theorem dX11_isTypeOrNone_2 : decode cX11_isTypeOrNone 2 = .ok (.if_icmp .eq 14, 3) := by decide +kernel
theorem dX11_isTypeOrNone_5 : decode cX11_isTypeOrNone 5 = .ok (.aload_n 0, 1) := by decide +kernel
theorem dX11_isTypeOrNone_6 : decode cX11_isTypeOrNone 6 = .ok (.getfield 10, 3) := by decide +kernel
theorem dX11_isTypeOrNone_9 : decode cX11_isTypeOrNone 9 = .ok (.iload_n 1, 1) := by decide +kernel
theorem dX11_isTypeOrNone_10 : decode cX11_isTypeOrNone 10 = .ok (.invokevirtual 73, 3) := by decide +kernel
theorem dX11_isTypeOrNone_13 : decode cX11_isTypeOrNone 13 = .ok (.ifCond .eq 7, 3) := by decide +kernel
theorem dX11_isTypeOrNone_16 : decode cX11_isTypeOrNone 16 = .ok (.iconst 1, 1) := by decide +kernel
theorem dX11_isTypeOrNone_17 : decode cX11_isTypeOrNone 17 = .ok (.goto 4, 3) := by decide +kernel
theorem dX11_isTypeOrNone_20 : decode cX11_isTypeOrNone 20 = .ok (.iconst 0, 1) := by decide +kernel
theorem dX11_isTypeOrNone_21 : decode cX11_isTypeOrNone 21 = .ok (.ireturn, 1) := by decide +kernel
theorem dX11_isPromise_0 : decode cX11_isPromise 0 = .ok (.iload_n 0, 1) := by decide +kernel
theorem dX11_isPromise_1 : decode cX11_isPromise 1 = .ok (.bipush 100, 2) := by decide +kernel
theorem dX11_isPromise_3 : decode cX11_isPromise 3 = .ok (.if_icmp .eq 21, 3) := by decide +kernel
theorem dX11_isPromise_6 : decode cX11_isPromise 6 = .ok (.iload_n 0, 1) := by decide +kernel
theorem dX11_isPromise_7 : decode cX11_isPromise 7 = .ok (.bipush 115, 2) := by decide +kernel
theorem dX11_isPromise_9 : decode cX11_isPromise 9 = .ok (.if_icmp .eq 15, 3) := by decide +kernel
theorem dX11_isPromise_12 : decode cX11_isPromise 12 = .ok (.iload_n 0, 1) := by decide +kernel
theorem dX11_isPromise_13 : decode cX11_isPromise 13 = .ok (.bipush 109, 2) := by decide +kernel
theorem dX11_isPromise_15 : decode cX11_isPromise 15 = .ok (.if_icmp .eq 9, 3) := by decide +kernel
theorem dX11_isPromise_18 : decode cX11_isPromise 18 = .ok (.iload_n 0, 1) := by decide +kernel
theorem dX11_isPromise_19 : decode cX11_isPromise 19 = .ok (.bipush 110, 2) := by decide +kernel
theorem dX11_isPromise_21 : decode cX11_isPromise 21 = .ok (.if_icmp .ne 7, 3) := by decide +kernel
theorem dX11_isPromise_24 : decode cX11_isPromise 24 = .ok (.iconst 1, 1) := by decide +kernel
theorem dX11_isPromise_25 : decode cX11_isPromise 25 = .ok (.goto 4, 3) := by decide +kernel
theorem dX11_isPromise_28 : decode cX11_isPromise 28 = .ok (.iconst 0, 1) := by decide +kernel
theorem dX11_isPromise_29 : decode cX11_isPromise 29 = .ok (.ireturn, 1) := by decide +kernel
theorem dX11_areVariables_0 : decode cX11_areVariables 0 = .ok (.iload_n 0, 1) := by decide +kernel
theorem dX11_areVariables_1 : decode cX11_areVariables 1 = .ok (.ifCond .lt 33, 3) := by decide +kernel
theorem dX11_areVariables_4 : decode cX11_areVariables 4 = .ok (.iload_n 0, 1) := by decide +kernel
theorem dX11_areVariables_5 : decode cX11_areVariables 5 = .ok (.bipush 8, 2) := by decide +kernel
theorem dX11_areVariables_7 : decode cX11_areVariables 7 = .ok (.if_icmp .ge 27, 3) := by decide +kernel
theorem dX11_areVariables_10 : decode cX11_areVariables 10 = .ok (.iload_n 1, 1) := by decide +kernel
theorem dX11_areVariables_11 : decode cX11_areVariables 11 = .ok (.ifCond .lt 23, 3) := by decide +kernel
theorem dX11_areVariables_14 : decode cX11_areVariables 14 = .ok (.iload_n 1, 1) := by decide +kernel
theorem dX11_areVariables_15 : decode cX11_areVariables 15 = .ok (.bipush 8, 2) := by decide +kernel
theorem dX11_areVariables_17 : decode cX11_areVariables 17 = .ok (.if_icmp .ge 17, 3) := by decide +kernel
theorem dX11_areVariables_20 : decode cX11_areVariables 20 = .ok (.iload_n 2, 1) := by decide +kernel
theorem dX11_areVariables_21 : decode cX11_areVariables 21 = .ok (.ifCond .lt 13, 3) := by decide +kernel
theorem dX11_areVariables_24 : decode cX11_areVariables 24 = .ok (.iload_n 2, 1) := by decide +kernel
theorem dX11_areVariables_25 : decode cX11_areVariables 25 = .ok (.bipush 8, 2) := by decide +kernel
theorem dX11_areVariables_27 : decode cX11_areVariables 27 = .ok (.if_icmp .ge 7, 3) := by decide +kernel
theorem dX11_areVariables_30 : decode cX11_areVariables 30 = .ok (.iconst 1, 1) := by decide +kernel
theorem dX11_areVariables_31 : decode cX11_areVariables 31 = .ok (.goto 4, 3) := by decide +kernel
theorem dX11_areVariables_34 : decode cX11_areVariables 34 = .ok (.iconst 0, 1) := by decide +kernel
theorem dX11_areVariables_35 : decode cX11_areVariables 35 = .ok (.ireturn, 1) := by decide +kernel
theorem dX11_pick_0 : decode cX11_pick 0 = .ok (.iload_n 0, 1) := by decide +kernel
theorem dX11_pick_1 : decode cX11_pick 1 = .ok (.ifCond .ne 7, 3) := by decide +kernel
theorem dX11_pick_4 : decode cX11_pick 4 = .ok (.iload_n 1, 1) := by decide +kernel
theorem dX11_pick_5 : decode cX11_pick 5 = .ok (.goto 13, 3) := by decide +kernel
theorem dX11_pick_8 : decode cX11_pick 8 = .ok (.iload_n 0, 1) := by decide +kernel
theorem dX11_pick_9 : decode cX11_pick 9 = .ok (.iconst 1, 1) := by decide +kernel
theorem dX11_pick_10 : decode cX11_pick 10 = .ok (.if_icmp .ne 7, 3) := by decide +kernel
theorem dX11_pick_13 : decode cX11_pick 13 = .ok (.iload_n 2, 1) := by decide +kernel
theorem dX11_pick_14 : decode cX11_pick 14 = .ok (.goto 4, 3) := by decide +kernel
theorem dX11_pick_17 : decode cX11_pick 17 = .ok (.iload_n 3, 1) := by decide +kernel
theorem dX11_pick_18 : decode cX11_pick 18 = .ok (.ireturn, 1) := by decide +kernel
theorem dX11_addGoal_0 : decode cX11_addGoal 0 = .ok (.aload_n 2, 1) := by decide +kernel
theorem dX11_addGoal_1 : decode cX11_addGoal 1 = .ok (.invokevirtual 324, 3) := by decide +kernel
theorem dX11_addGoal_4 : decode cX11_addGoal 4 = .ok (.ifCond .eq 16, 3) := by decide +kernel
theorem dX11_addGoal_7 : decode cX11_addGoal 7 = .ok (.aload_n 1, 1) := by decide +kernel
theorem dX11_addGoal_8 : decode cX11_addGoal 8 = .ok (.aload_n 2, 1) := by decide +kernel
theorem dX11_addGoal_9 : decode cX11_addGoal 9 = .ok (.iload_n 3, 1) := by decide +kernel
theorem dX11_addGoal_10 : decode cX11_addGoal 10 = .ok (.iload 4, 2) := by decide +kernel
theorem dX11_addGoal_12 : decode cX11_addGoal 12 = .ok (.iload 5, 2) := by decide +kernel
theorem dX11_addGoal_14 : decode cX11_addGoal 14 = .ok (.invokevirtual 328, 3) := by decide +kernel
theorem dX11_addGoal_17 : decode cX11_addGoal 17 = .ok (.ifCond .ne 11, 3) := by decide +kernel
theorem dX11_addGoal_20 : decode cX11_addGoal 20 = .ok (.new 83, 3) := by decide +kernel
theorem dX11_addGoal_23 : decode cX11_addGoal 23 = .ok (.dup, 1) := by decide +kernel
theorem dX11_addGoal_24 : decode cX11_addGoal 24 = .ok (.invokespecial 85, 3) := by decide +kernel
theorem dX11_addGoal_27 : decode cX11_addGoal 27 = .ok (.athrow, 1) := by decide +kernel
theorem dX11_addGoal_28 : decode cX11_addGoal 28 = .ok (.aload_n 1, 1) := by decide +kernel
theorem dX11_addGoal_29 : decode cX11_addGoal 29 = .ok (.invokevirtual 332, 3) := by decide +kernel
theorem dX11_addGoal_32 : decode cX11_addGoal 32 = .ok (.iconst 5, 1) := by decide +kernel
theorem dX11_addGoal_33 : decode cX11_addGoal 33 = .ok (.if_icmp .ge 10, 3) := by decide +kernel
theorem dX11_addGoal_36 : decode cX11_addGoal 36 = .ok (.aload_n 0, 1) := by decide +kernel
theorem dX11_addGoal_37 : decode cX11_addGoal 37 = .ok (.getfield 51, 3) := by decide +kernel
theorem dX11_addGoal_40 : decode cX11_addGoal 40 = .ok (.ifCond .eq 11, 3) := by decide +kernel
theorem dX11_addGoal_43 : decode cX11_addGoal 43 = .ok (.new 67, 3) := by decide +kernel
theorem dX11_addGoal_46 : decode cX11_addGoal 46 = .ok (.dup, 1) := by decide +kernel
theorem dX11_addGoal_47 : decode cX11_addGoal 47 = .ok (.invokespecial 69, 3) := by decide +kernel
theorem dX11_addGoal_50 : decode cX11_addGoal 50 = .ok (.athrow, 1) := by decide +kernel
theorem dX11_addGoal_51 : decode cX11_addGoal 51 = .ok (.aload_n 1, 1) := by decide +kernel
theorem dX11_addGoal_52 : decode cX11_addGoal 52 = .ok (.aload_n 2, 1) := by decide +kernel
theorem dX11_addGoal_53 : decode cX11_addGoal 53 = .ok (.iload_n 3, 1) := by decide +kernel
theorem dX11_addGoal_54 : decode cX11_addGoal 54 = .ok (.iload 4, 2) := by decide +kernel
theorem dX11_addGoal_56 : decode cX11_addGoal 56 = .ok (.iload 5, 2) := by decide +kernel
theorem dX11_addGoal_58 : decode cX11_addGoal 58 = .ok (.invokevirtual 335, 3) := by decide +kernel
theorem dX11_addGoal_61 : decode cX11_addGoal 61 = .ok (.ireturn, 1) := by decide +kernel
theorem dX11_areInputsThere_0 : decode cX11_areInputsThere 0 = .ok (.iconst 0, 1) := by decide +kernel
theorem dX11_areInputsThere_1 : decode cX11_areInputsThere 1 = .ok (.istore 5, 2) := by decide +kernel
theorem dX11_areInputsThere_3 : decode cX11_areInputsThere 3 = .ok (.iload 5, 2) := by decide +kernel
theorem dX11_areInputsThere_5 : decode cX11_areInputsThere 5 = .ok (.iconst 3, 1) := by decide +kernel
theorem dX11_areInputsThere_6 : decode cX11_areInputsThere 6 = .ok (.if_icmp .ge 39, 3) := by decide +kernel
theorem dX11_areInputsThere_9 : decode cX11_areInputsThere 9 = .ok (.aload_n 1, 1) := by decide +kernel
theorem dX11_areInputsThere_10 : decode cX11_areInputsThere 10 = .ok (.iload 5, 2) := by decide +kernel
theorem dX11_areInputsThere_12 : decode cX11_areInputsThere 12 = .ok (.invokevirtual 339, 3) := by decide +kernel
theorem dX11_areInputsThere_15 : decode cX11_areInputsThere 15 = .ok (.ifCond .eq 24, 3) := by decide +kernel
theorem dX11_areInputsThere_18 : decode cX11_areInputsThere 18 = .ok (.aload_n 0, 1) := by decide +kernel
theorem dX11_areInputsThere_19 : decode cX11_areInputsThere 19 = .ok (.getfield 10, 3) := by decide +kernel
theorem dX11_areInputsThere_22 : decode cX11_areInputsThere 22 = .ok (.iload 5, 2) := by decide +kernel
theorem dX11_areInputsThere_24 : decode cX11_areInputsThere 24 = .ok (.iload_n 2, 1) := by decide +kernel
theorem dX11_areInputsThere_25 : decode cX11_areInputsThere 25 = .ok (.iload_n 3, 1) := by decide +kernel
theorem dX11_areInputsThere_26 : decode cX11_areInputsThere 26 = .ok (.iload 4, 2) := by decide +kernel
theorem dX11_areInputsThere_28 : decode cX11_areInputsThere 28 = .ok (.invokestatic 342, 3) := by decide +kernel
theorem dX11_areInputsThere_31 : decode cX11_areInputsThere 31 = .ok (.invokevirtual 346, 3) := by decide +kernel
theorem dX11_areInputsThere_34 : decode cX11_areInputsThere 34 = .ok (.ifCond .ne 5, 3) := by decide +kernel
theorem dX11_areInputsThere_37 : decode cX11_areInputsThere 37 = .ok (.iconst 0, 1) := by decide +kernel
theorem dX11_areInputsThere_38 : decode cX11_areInputsThere 38 = .ok (.ireturn, 1) := by decide +kernel
theorem dX11_areInputsThere_39 : decode cX11_areInputsThere 39 = .ok (.iinc 5 1, 3) := by decide +kernel
theorem dX11_areInputsThere_42 : decode cX11_areInputsThere 42 = .ok (.goto (-39), 3) := by decide +kernel
theorem dX11_areInputsThere_45 : decode cX11_areInputsThere 45 = .ok (.iconst 1, 1) := by decide +kernel
theorem dX11_areInputsThere_46 : decode cX11_areInputsThere 46 = .ok (.ireturn, 1) := by decide +kernel
theorem dX11_doInputsFit_0 : decode cX11_doInputsFit 0 = .ok (.iconst 0, 1) := by decide +kernel
theorem dX11_doInputsFit_1 : decode cX11_doInputsFit 1 = .ok (.istore 5, 2) := by decide +kernel
theorem dX11_doInputsFit_3 : decode cX11_doInputsFit 3 = .ok (.iload 5, 2) := by decide +kernel
theorem dX11_doInputsFit_5 : decode cX11_doInputsFit 5 = .ok (.iconst 3, 1) := by decide +kernel
theorem dX11_doInputsFit_6 : decode cX11_doInputsFit 6 = .ok (.if_icmp .ge 84, 3) := by decide +kernel
theorem dX11_doInputsFit_9 : decode cX11_doInputsFit 9 = .ok (.iload 5, 2) := by decide +kernel
theorem dX11_doInputsFit_11 : decode cX11_doInputsFit 11 = .ok (.iload_n 2, 1) := by decide +kernel
theorem dX11_doInputsFit_12 : decode cX11_doInputsFit 12 = .ok (.iload_n 3, 1) := by decide +kernel
theorem dX11_doInputsFit_13 : decode cX11_doInputsFit 13 = .ok (.iload 4, 2) := by decide +kernel
theorem dX11_doInputsFit_15 : decode cX11_doInputsFit 15 = .ok (.invokestatic 342, 3) := by decide +kernel
theorem dX11_doInputsFit_18 : decode cX11_doInputsFit 18 = .ok (.istore 6, 2) := by decide +kernel
theorem dX11_doInputsFit_20 : decode cX11_doInputsFit 20 = .ok (.aload_n 1, 1) := by decide +kernel
theorem dX11_doInputsFit_21 : decode cX11_doInputsFit 21 = .ok (.iload 5, 2) := by decide +kernel
theorem dX11_doInputsFit_23 : decode cX11_doInputsFit 23 = .ok (.invokevirtual 339, 3) := by decide +kernel
theorem dX11_doInputsFit_26 : decode cX11_doInputsFit 26 = .ok (.ifCond .eq 39, 3) := by decide +kernel
theorem dX11_doInputsFit_29 : decode cX11_doInputsFit 29 = .ok (.aload_n 0, 1) := by decide +kernel
theorem dX11_doInputsFit_30 : decode cX11_doInputsFit 30 = .ok (.getfield 10, 3) := by decide +kernel
theorem dX11_doInputsFit_33 : decode cX11_doInputsFit 33 = .ok (.aload_n 0, 1) := by decide +kernel
theorem dX11_doInputsFit_34 : decode cX11_doInputsFit 34 = .ok (.getfield 10, 3) := by decide +kernel
theorem dX11_doInputsFit_37 : decode cX11_doInputsFit 37 = .ok (.iload 6, 2) := by decide +kernel
theorem dX11_doInputsFit_39 : decode cX11_doInputsFit 39 = .ok (.invokevirtual 110, 3) := by decide +kernel
theorem dX11_doInputsFit_42 : decode cX11_doInputsFit 42 = .ok (.invokevirtual 173, 3) := by decide +kernel
theorem dX11_doInputsFit_45 : decode cX11_doInputsFit 45 = .ok (.aload_n 1, 1) := by decide +kernel
theorem dX11_doInputsFit_46 : decode cX11_doInputsFit 46 = .ok (.getfield 349, 3) := by decide +kernel
theorem dX11_doInputsFit_49 : decode cX11_doInputsFit 49 = .ok (.iload 5, 2) := by decide +kernel
theorem dX11_doInputsFit_51 : decode cX11_doInputsFit 51 = .ok (.invokevirtual 191, 3) := by decide +kernel
theorem dX11_doInputsFit_54 : decode cX11_doInputsFit 54 = .ok (.if_icmp .ne 7, 3) := by decide +kernel
theorem dX11_doInputsFit_57 : decode cX11_doInputsFit 57 = .ok (.iconst 1, 1) := by decide +kernel
theorem dX11_doInputsFit_58 : decode cX11_doInputsFit 58 = .ok (.goto 17, 3) := by decide +kernel
theorem dX11_doInputsFit_61 : decode cX11_doInputsFit 61 = .ok (.iconst 0, 1) := by decide +kernel
theorem dX11_doInputsFit_62 : decode cX11_doInputsFit 62 = .ok (.goto 13, 3) := by decide +kernel
theorem dX11_doInputsFit_65 : decode cX11_doInputsFit 65 = .ok (.iload 6, 2) := by decide +kernel
theorem dX11_doInputsFit_67 : decode cX11_doInputsFit 67 = .ok (.ifCond .ne 7, 3) := by decide +kernel
theorem dX11_doInputsFit_70 : decode cX11_doInputsFit 70 = .ok (.iconst 1, 1) := by decide +kernel
theorem dX11_doInputsFit_71 : decode cX11_doInputsFit 71 = .ok (.goto 4, 3) := by decide +kernel
theorem dX11_doInputsFit_74 : decode cX11_doInputsFit 74 = .ok (.iconst 0, 1) := by decide +kernel
theorem dX11_doInputsFit_75 : decode cX11_doInputsFit 75 = .ok (.istore 7, 2) := by decide +kernel
theorem dX11_doInputsFit_77 : decode cX11_doInputsFit 77 = .ok (.iload 7, 2) := by decide +kernel
theorem dX11_doInputsFit_79 : decode cX11_doInputsFit 79 = .ok (.ifCond .ne 5, 3) := by decide +kernel
theorem dX11_doInputsFit_82 : decode cX11_doInputsFit 82 = .ok (.iconst 0, 1) := by decide +kernel
theorem dX11_doInputsFit_83 : decode cX11_doInputsFit 83 = .ok (.ireturn, 1) := by decide +kernel
theorem dX11_doInputsFit_84 : decode cX11_doInputsFit 84 = .ok (.iinc 5 1, 3) := by decide +kernel
theorem dX11_doInputsFit_87 : decode cX11_doInputsFit 87 = .ok (.goto (-84), 3) := by decide +kernel
theorem dX11_doInputsFit_90 : decode cX11_doInputsFit 90 = .ok (.iconst 1, 1) := by decide +kernel
theorem dX11_doInputsFit_91 : decode cX11_doInputsFit 91 = .ok (.ireturn, 1) := by decide +kernel
theorem dX11_compiledMode_0 : decode cX11_compiledMode 0 = .ok (.aload_n 0, 1) := by decide +kernel
theorem dX11_compiledMode_1 : decode cX11_compiledMode 1 = .ok (.getfield 19, 3) := by decide +kernel
theorem dX11_compiledMode_4 : decode cX11_compiledMode 4 = .ok (.iload_n 1, 1) := by decide +kernel
theorem dX11_compiledMode_5 : decode cX11_compiledMode 5 = .ok (.iload_n 2, 1) := by decide +kernel
theorem dX11_compiledMode_6 : decode cX11_compiledMode 6 = .ok (.invokevirtual 237, 3) := by decide +kernel
theorem dX11_compiledMode_9 : decode cX11_compiledMode 9 = .ok (.astore_n 3, 1) := by decide +kernel
theorem dX11_compiledMode_10 : decode cX11_compiledMode 10 = .ok (.aload_n 3, 1) := by decide +kernel
theorem dX11_compiledMode_11 : decode cX11_compiledMode 11 = .ok (.ifnonnull 11, 3) := by decide +kernel
theorem dX11_compiledMode_14 : decode cX11_compiledMode 14 = .ok (.new 80, 3) := by decide +kernel
theorem dX11_compiledMode_17 : decode cX11_compiledMode 17 = .ok (.dup, 1) := by decide +kernel
theorem dX11_compiledMode_18 : decode cX11_compiledMode 18 = .ok (.invokespecial 82, 3) := by decide +kernel
theorem dX11_compiledMode_21 : decode cX11_compiledMode 21 = .ok (.athrow, 1) := by decide +kernel
theorem dX11_compiledMode_22 : decode cX11_compiledMode 22 = .ok (.aload_n 0, 1) := by decide +kernel
theorem dX11_compiledMode_23 : decode cX11_compiledMode 23 = .ok (.invokevirtual 199, 3) := by decide +kernel
theorem dX11_compiledMode_26 : decode cX11_compiledMode 26 = .ok (.aload_n 3, 1) := by decide +kernel
theorem dX11_compiledMode_27 : decode cX11_compiledMode 27 = .ok (.areturn, 1) := by decide +kernel
theorem dX11_orderedClause_0 : decode cX11_orderedClause 0 = .ok (.aload_n 0, 1) := by decide +kernel
theorem dX11_orderedClause_1 : decode cX11_orderedClause 1 = .ok (.getfield 19, 3) := by decide +kernel
theorem dX11_orderedClause_4 : decode cX11_orderedClause 4 = .ok (.iload_n 1, 1) := by decide +kernel
theorem dX11_orderedClause_5 : decode cX11_orderedClause 5 = .ok (.invokevirtual 161, 3) := by decide +kernel
theorem dX11_orderedClause_8 : decode cX11_orderedClause 8 = .ok (.astore_n 3, 1) := by decide +kernel
theorem dX11_orderedClause_9 : decode cX11_orderedClause 9 = .ok (.aload_n 3, 1) := by decide +kernel
theorem dX11_orderedClause_10 : decode cX11_orderedClause 10 = .ok (.ifnull 14, 3) := by decide +kernel
theorem dX11_orderedClause_13 : decode cX11_orderedClause 13 = .ok (.aload_n 3, 1) := by decide +kernel
theorem dX11_orderedClause_14 : decode cX11_orderedClause 14 = .ok (.getfield 353, 3) := by decide +kernel
theorem dX11_orderedClause_17 : decode cX11_orderedClause 17 = .ok (.iload_n 2, 1) := by decide +kernel
theorem dX11_orderedClause_18 : decode cX11_orderedClause 18 = .ok (.invokevirtual 354, 3) := by decide +kernel
theorem dX11_orderedClause_21 : decode cX11_orderedClause 21 = .ok (.ifnonnull 11, 3) := by decide +kernel
theorem dX11_orderedClause_24 : decode cX11_orderedClause 24 = .ok (.new 80, 3) := by decide +kernel
theorem dX11_orderedClause_27 : decode cX11_orderedClause 27 = .ok (.dup, 1) := by decide +kernel
theorem dX11_orderedClause_28 : decode cX11_orderedClause 28 = .ok (.invokespecial 82, 3) := by decide +kernel
theorem dX11_orderedClause_31 : decode cX11_orderedClause 31 = .ok (.athrow, 1) := by decide +kernel
theorem dX11_orderedClause_32 : decode cX11_orderedClause 32 = .ok (.aload_n 0, 1) := by decide +kernel
theorem dX11_orderedClause_33 : decode cX11_orderedClause 33 = .ok (.invokevirtual 199, 3) := by decide +kernel
theorem dX11_orderedClause_36 : decode cX11_orderedClause 36 = .ok (.aload_n 3, 1) := by decide +kernel
theorem dX11_orderedClause_37 : decode cX11_orderedClause 37 = .ok (.areturn, 1) := by decide +kernel
theorem dX11_refuseMissingTerm_0 : decode cX11_refuseMissingTerm 0 = .ok (.aload_n 0, 1) := by decide +kernel
theorem dX11_refuseMissingTerm_1 : decode cX11_refuseMissingTerm 1 = .ok (.getfield 10, 3) := by decide +kernel
theorem dX11_refuseMissingTerm_4 : decode cX11_refuseMissingTerm 4 = .ok (.iload_n 1, 1) := by decide +kernel
theorem dX11_refuseMissingTerm_5 : decode cX11_refuseMissingTerm 5 = .ok (.invokevirtual 346, 3) := by decide +kernel
theorem dX11_refuseMissingTerm_8 : decode cX11_refuseMissingTerm 8 = .ok (.ifCond .ne 11, 3) := by decide +kernel
theorem dX11_refuseMissingTerm_11 : decode cX11_refuseMissingTerm 11 = .ok (.new 80, 3) := by decide +kernel
theorem dX11_refuseMissingTerm_14 : decode cX11_refuseMissingTerm 14 = .ok (.dup, 1) := by decide +kernel
theorem dX11_refuseMissingTerm_15 : decode cX11_refuseMissingTerm 15 = .ok (.invokespecial 82, 3) := by decide +kernel
theorem dX11_refuseMissingTerm_18 : decode cX11_refuseMissingTerm 18 = .ok (.athrow, 1) := by decide +kernel
theorem dX11_refuseMissingTerm_19 : decode cX11_refuseMissingTerm 19 = .ok (.return_, 1) := by decide +kernel
theorem dX11_refuseUncompiled_0 : decode cX11_refuseUncompiled 0 = .ok (.aload_n 0, 1) := by decide +kernel
theorem dX11_refuseUncompiled_1 : decode cX11_refuseUncompiled 1 = .ok (.getfield 51, 3) := by decide +kernel
theorem dX11_refuseUncompiled_4 : decode cX11_refuseUncompiled 4 = .ok (.ifCond .ne 11, 3) := by decide +kernel
theorem dX11_refuseUncompiled_7 : decode cX11_refuseUncompiled 7 = .ok (.new 67, 3) := by decide +kernel
theorem dX11_refuseUncompiled_10 : decode cX11_refuseUncompiled 10 = .ok (.dup, 1) := by decide +kernel
theorem dX11_refuseUncompiled_11 : decode cX11_refuseUncompiled 11 = .ok (.invokespecial 69, 3) := by decide +kernel
theorem dX11_refuseUncompiled_14 : decode cX11_refuseUncompiled 14 = .ok (.athrow, 1) := by decide +kernel
theorem dX11_refuseUncompiled_15 : decode cX11_refuseUncompiled 15 = .ok (.return_, 1) := by decide +kernel
theorem dX11_refuseUnasked_0 : decode cX11_refuseUnasked 0 = .ok (.aload_n 0, 1) := by decide +kernel
theorem dX11_refuseUnasked_1 : decode cX11_refuseUnasked 1 = .ok (.getfield 55, 3) := by decide +kernel
theorem dX11_refuseUnasked_4 : decode cX11_refuseUnasked 4 = .ok (.ifCond .ne 11, 3) := by decide +kernel
theorem dX11_refuseUnasked_7 : decode cX11_refuseUnasked 7 = .ok (.new 117, 3) := by decide +kernel
theorem dX11_refuseUnasked_10 : decode cX11_refuseUnasked 10 = .ok (.dup, 1) := by decide +kernel
theorem dX11_refuseUnasked_11 : decode cX11_refuseUnasked 11 = .ok (.invokespecial 119, 3) := by decide +kernel
theorem dX11_refuseUnasked_14 : decode cX11_refuseUnasked 14 = .ok (.athrow, 1) := by decide +kernel
theorem dX11_refuseUnasked_15 : decode cX11_refuseUnasked 15 = .ok (.return_, 1) := by decide +kernel
theorem dX11_refuseMissingNote_0 : decode cX11_refuseMissingNote 0 = .ok (.aload_n 0, 1) := by decide +kernel
theorem dX11_refuseMissingNote_1 : decode cX11_refuseMissingNote 1 = .ok (.invokevirtual 264, 3) := by decide +kernel
theorem dX11_refuseMissingNote_4 : decode cX11_refuseMissingNote 4 = .ok (.iload_n 1, 1) := by decide +kernel
theorem dX11_refuseMissingNote_5 : decode cX11_refuseMissingNote 5 = .ok (.ifCond .lt 14, 3) := by decide +kernel
theorem dX11_refuseMissingNote_8 : decode cX11_refuseMissingNote 8 = .ok (.iload_n 1, 1) := by decide +kernel
theorem dX11_refuseMissingNote_9 : decode cX11_refuseMissingNote 9 = .ok (.aload_n 0, 1) := by decide +kernel
theorem dX11_refuseMissingNote_10 : decode cX11_refuseMissingNote 10 = .ok (.getfield 26, 3) := by decide +kernel
theorem dX11_refuseMissingNote_13 : decode cX11_refuseMissingNote 13 = .ok (.invokevirtual 299, 3) := by decide +kernel
theorem dX11_refuseMissingNote_16 : decode cX11_refuseMissingNote 16 = .ok (.if_icmp .lt 11, 3) := by decide +kernel
theorem dX11_refuseMissingNote_19 : decode cX11_refuseMissingNote 19 = .ok (.new 80, 3) := by decide +kernel
theorem dX11_refuseMissingNote_22 : decode cX11_refuseMissingNote 22 = .ok (.dup, 1) := by decide +kernel
theorem dX11_refuseMissingNote_23 : decode cX11_refuseMissingNote 23 = .ok (.invokespecial 82, 3) := by decide +kernel
theorem dX11_refuseMissingNote_26 : decode cX11_refuseMissingNote 26 = .ok (.athrow, 1) := by decide +kernel
theorem dX11_refuseMissingNote_27 : decode cX11_refuseMissingNote 27 = .ok (.return_, 1) := by decide +kernel
theorem dJx4a65c_init_da8c8_0 : decode cJx4a65c_init_da8c8 0 = .ok (.aload_n 0, 1) := by decide +kernel
theorem dJx4a65c_init_da8c8_1 : decode cJx4a65c_init_da8c8 1 = .ok (.invokespecial 1, 3) := by decide +kernel
theorem dJx4a65c_init_da8c8_4 : decode cJx4a65c_init_da8c8 4 = .ok (.aload_n 0, 1) := by decide +kernel
theorem dJx4a65c_init_da8c8_5 : decode cJx4a65c_init_da8c8 5 = .ok (.getstatic 39, 3) := by decide +kernel
theorem dJx4a65c_init_da8c8_8 : decode cJx4a65c_init_da8c8 8 = .ok (.putfield 9, 3) := by decide +kernel
theorem dJx4a65c_init_da8c8_11 : decode cJx4a65c_init_da8c8 11 = .ok (.return_, 1) := by decide +kernel
theorem dJx4a65c_grow_92f84_0 : decode cJx4a65c_grow_92f84 0 = .ok (.aload_n 0, 1) := by decide +kernel
theorem dJx4a65c_grow_92f84_1 : decode cJx4a65c_grow_92f84 1 = .ok (.getfield 9, 3) := by decide +kernel
theorem dJx4a65c_grow_92f84_4 : decode cJx4a65c_grow_92f84 4 = .ok (.arraylength, 1) := by decide +kernel
theorem dJx4a65c_grow_92f84_5 : decode cJx4a65c_grow_92f84 5 = .ok (.istore_n 2, 1) := by decide +kernel
theorem dJx4a65c_grow_92f84_6 : decode cJx4a65c_grow_92f84 6 = .ok (.iload_n 2, 1) := by decide +kernel
theorem dJx4a65c_grow_92f84_7 : decode cJx4a65c_grow_92f84 7 = .ok (.ifCond .gt 13, 3) := by decide +kernel
theorem dJx4a65c_grow_92f84_10 : decode cJx4a65c_grow_92f84 10 = .ok (.aload_n 0, 1) := by decide +kernel
theorem dJx4a65c_grow_92f84_11 : decode cJx4a65c_grow_92f84 11 = .ok (.getfield 9, 3) := by decide +kernel
theorem dJx4a65c_grow_92f84_14 : decode cJx4a65c_grow_92f84 14 = .ok (.getstatic 39, 3) := by decide +kernel
theorem dJx4a65c_grow_92f84_17 : decode cJx4a65c_grow_92f84 17 = .ok (.if_acmp .eq 28, 3) := by decide +kernel
theorem dJx4a65c_grow_92f84_20 : decode cJx4a65c_grow_92f84 20 = .ok (.iload_n 2, 1) := by decide +kernel
theorem dJx4a65c_grow_92f84_21 : decode cJx4a65c_grow_92f84 21 = .ok (.iload_n 1, 1) := by decide +kernel
theorem dJx4a65c_grow_92f84_22 : decode cJx4a65c_grow_92f84 22 = .ok (.iload_n 2, 1) := by decide +kernel
theorem dJx4a65c_grow_92f84_23 : decode cJx4a65c_grow_92f84 23 = .ok (.isub, 1) := by decide +kernel
theorem dJx4a65c_grow_92f84_24 : decode cJx4a65c_grow_92f84 24 = .ok (.iload_n 2, 1) := by decide +kernel
theorem dJx4a65c_grow_92f84_25 : decode cJx4a65c_grow_92f84 25 = .ok (.iconst 1, 1) := by decide +kernel
theorem dJx4a65c_grow_92f84_26 : decode cJx4a65c_grow_92f84 26 = .ok (.ishr, 1) := by decide +kernel
theorem dJx4a65c_grow_92f84_27 : decode cJx4a65c_grow_92f84 27 = .ok (.invokestatic 73, 3) := by decide +kernel
theorem dJx4a65c_grow_92f84_30 : decode cJx4a65c_grow_92f84 30 = .ok (.istore_n 3, 1) := by decide +kernel
theorem dJx4a65c_grow_92f84_31 : decode cJx4a65c_grow_92f84 31 = .ok (.aload_n 0, 1) := by decide +kernel
theorem dJx4a65c_grow_92f84_32 : decode cJx4a65c_grow_92f84 32 = .ok (.aload_n 0, 1) := by decide +kernel
theorem dJx4a65c_grow_92f84_33 : decode cJx4a65c_grow_92f84 33 = .ok (.getfield 9, 3) := by decide +kernel
theorem dJx4a65c_grow_92f84_36 : decode cJx4a65c_grow_92f84 36 = .ok (.iload_n 3, 1) := by decide +kernel
