set_option maxRecDepth 20000 in
theorem gX18_ask_X18_isPredicate : GoodIn wsX18_ask (wsV RX18 172 RX18 yX18_isPredicate wsX18_isPredicate) := goodIn_app (goodIn_of _ (by decide +kernel)) ggX18_ask_X18_isPredicate
set_option maxRecDepth 20000 in
theorem ggX18_ask_X18_fails : GoodIn wsX18_ask wsX18_fails := goodIn_r _ [47, 1, 190, 191, 192, 193, 194, 195, 196, 197, 198, 199, 200, 201, 202, 203, 204, 205, 206, 207, 208, 209, 210, 211, 212, 213, 214, 215, 216, 217, 218, 219, 220, 221, 222, 223, 224, 225, 226, 227, 228, 229, 230, 231, 232, 233, 234, 235, 236, 237, 238, 239, 240, 241, 242, 243, 244, 245, 246, 247, 248, 249, 250, 251, 252, 253, 254, 255, 256, 257, 258, 259] (by decide +kernel) (by decide +kernel)
set_option maxRecDepth 20000 in
theorem gX18_ask_X18_fails : GoodIn wsX18_ask (wsV RX18 141 RX18 yX18_fails wsX18_fails) := goodIn_app (goodIn_of _ (by decide +kernel)) ggX18_ask_X18_fails
theorem dX18_ask_0 : decode cX18_ask 0 = .ok (.aload_n 0, 1) := by decide +kernel
theorem dX18_ask_1 : decode cX18_ask 1 = .ok (.iconst 0, 1) := by decide +kernel
theorem dX18_ask_2 : decode cX18_ask 2 = .ok (.putfield 130, 3) := by decide +kernel
theorem dX18_ask_5 : decode cX18_ask 5 = .ok (.aload_n 0, 1) := by decide +kernel
theorem dX18_ask_6 : decode cX18_ask 6 = .ok (.iload_n 1, 1) := by decide +kernel
theorem dX18_ask_7 : decode cX18_ask 7 = .ok (.invokevirtual 172, 3) := by decide +kernel
theorem dX18_ask_10 : decode cX18_ask 10 = .ok (.ifCond .eq 19, 3) := by decide +kernel
theorem dX18_ask_29 : decode cX18_ask 29 = .ok (.aload_n 0, 1) := by decide +kernel
theorem dX18_ask_30 : decode cX18_ask 30 = .ok (.iconst 1, 1) := by decide +kernel
theorem dX18_ask_31 : decode cX18_ask 31 = .ok (.invokevirtual 141, 3) := by decide +kernel
theorem dX18_ask_34 : decode cX18_ask 34 = .ok (.ireturn, 1) := by decide +kernel
theorem dX18_wasAsked_0 : decode cX18_wasAsked 0 = .ok (.aload_n 0, 1) := by decide +kernel
theorem dX18_wasAsked_1 : decode cX18_wasAsked 1 = .ok (.aload_n 0, 1) := by decide +kernel
theorem dX18_wasAsked_2 : decode cX18_wasAsked 2 = .ok (.getfield 234, 3) := by decide +kernel
theorem dX18_wasAsked_5 : decode cX18_wasAsked 5 = .ok (.ifCond .eq 7, 3) := by decide +kernel
theorem dX18_wasAsked_12 : decode cX18_wasAsked 12 = .ok (.iconst 1, 1) := by decide +kernel
theorem dX18_wasAsked_13 : decode cX18_wasAsked 13 = .ok (.putfield 130, 3) := by decide +kernel
theorem dX18_wasAsked_16 : decode cX18_wasAsked 16 = .ok (.aload_n 0, 1) := by decide +kernel
theorem dX18_wasAsked_17 : decode cX18_wasAsked 17 = .ok (.getfield 234, 3) := by decide +kernel
theorem dX18_wasAsked_20 : decode cX18_wasAsked 20 = .ok (.ireturn, 1) := by decide +kernel
set_option maxRecDepth 20000 in
theorem ggX18_ending_X18_wasAsked : GoodIn wsX18_ending wsX18_wasAsked := goodIn_r _ [6, 7, 8, 9, 10, 11, 12, 13, 14, 15, 16, 17, 18, 19, 20, 21, 22, 23, 24, 25, 26, 27, 28, 29, 30, 31, 32, 33, 34, 35, 36, 37, 38, 39, 40, 41, 42, 43, 44, 45, 46, 47, 48, 49, 50, 51, 52, 53, 54, 55, 56, 57, 58, 59, 60, 61, 62, 63, 64, 65, 66, 67, 68, 69, 70, 71, 72, 73, 74, 75, 76, 77, 78] (by decide +kernel) (by decide +kernel)
set_option maxRecDepth 20000 in
theorem gX18_ending_X18_wasAsked : GoodIn wsX18_ending (wsV RX18 424 RX18 yX18_wasAsked wsX18_wasAsked) := goodIn_app (goodIn_of _ (by decide +kernel)) ggX18_ending_X18_wasAsked
theorem dX18_ending_0 : decode cX18_ending 0 = .ok (.aload_n 0, 1) := by decide +kernel
theorem dX18_ending_1 : decode cX18_ending 1 = .ok (.invokevirtual 424, 3) := by decide +kernel
theorem dX18_ending_4 : decode cX18_ending 4 = .ok (.ifCond .eq 10, 3) := by decide +kernel
theorem dX18_ending_14 : decode cX18_ending 14 = .ok (.iconst 0, 1) := by decide +kernel
theorem dX18_ending_15 : decode cX18_ending 15 = .ok (.ireturn, 1) := by decide +kernel
set_option maxRecDepth 20000 in
theorem ggX18_answerAt_X18_wasAsked : GoodIn wsX18_answerAt wsX18_wasAsked := goodIn_r _ [9, 10, 11, 19, 20, 21, 22, 23, 24, 25, 26, 27, 28, 29, 30, 31, 32, 33, 34, 35, 36, 37, 38, 39, 40, 41, 42, 43, 44, 45, 46, 47, 48, 49, 50, 51, 52, 53, 54, 55, 56, 57, 58, 59, 60, 61, 62, 63, 64, 65, 66, 67, 68, 69, 70, 71, 72, 73, 74, 75, 76, 77, 78, 79, 80, 81, 82, 83, 84, 85, 86, 87, 88] (by decide +kernel) (by decide +kernel)
set_option maxRecDepth 20000 in
theorem gX18_answerAt_X18_wasAsked : GoodIn wsX18_answerAt (wsV RX18 424 RX18 yX18_wasAsked wsX18_wasAsked) := goodIn_app (goodIn_of _ (by decide +kernel)) ggX18_answerAt_X18_wasAsked
theorem dX18_answerAt_0 : decode cX18_answerAt 0 = .ok (.aload_n 0, 1) := by decide +kernel
theorem dX18_answerAt_1 : decode cX18_answerAt 1 = .ok (.invokevirtual 424, 3) := by decide +kernel
theorem dX18_answerAt_4 : decode cX18_answerAt 4 = .ok (.ifCond .ne 5, 3) := by decide +kernel
theorem dX18_answerAt_7 : decode cX18_answerAt 7 = .ok (.iconst 0, 1) := by decide +kernel
theorem dX18_answerAt_8 : decode cX18_answerAt 8 = .ok (.ireturn, 1) := by decide +kernel
set_option maxRecDepth 20000 in
theorem ggX18_multiplicity_X18_wasAsked : GoodIn wsX18_multiplicity wsX18_wasAsked := goodIn_r _ [9, 10, 11, 19, 20, 21, 22, 23, 24, 25, 26, 27, 28, 29, 30, 31, 32, 33, 34, 35, 36, 37, 38, 39, 40, 41, 42, 43, 44, 45, 46, 47, 48, 49, 50, 51, 52, 53, 54, 55, 56, 57, 58, 59, 60, 61, 62, 63, 64, 65, 66, 67, 68, 69, 70, 71, 72, 73, 74, 75, 76, 77, 78, 79, 80, 81, 82, 83, 84, 85, 86, 87, 88] (by decide +kernel) (by decide +kernel)
set_option maxRecDepth 20000 in
theorem gX18_multiplicity_X18_wasAsked : GoodIn wsX18_multiplicity (wsV RX18 424 RX18 yX18_wasAsked wsX18_wasAsked) := goodIn_app (goodIn_of _ (by decide +kernel)) ggX18_multiplicity_X18_wasAsked
theorem dX18_multiplicity_0 : decode cX18_multiplicity 0 = .ok (.aload_n 0, 1) := by decide +kernel
theorem dX18_multiplicity_1 : decode cX18_multiplicity 1 = .ok (.invokevirtual 424, 3) := by decide +kernel
theorem dX18_multiplicity_4 : decode cX18_multiplicity 4 = .ok (.ifCond .ne 5, 3) := by decide +kernel
theorem dX18_multiplicity_7 : decode cX18_multiplicity 7 = .ok (.iconst 0, 1) := by decide +kernel
theorem dX18_multiplicity_8 : decode cX18_multiplicity 8 = .ok (.ireturn, 1) := by decide +kernel
set_option maxRecDepth 20000 in
theorem ggX18_steps_X18_wasAsked : GoodIn wsX18_steps wsX18_wasAsked := goodIn_r _ [6, 7, 8, 9, 10, 11, 12, 13, 14, 15, 16, 17, 18, 19, 20, 21, 22, 23, 24, 25, 26, 27, 28, 29, 30, 31, 32, 33, 34, 35, 36, 37, 38, 39, 40, 41, 42, 43, 44, 45, 46, 47, 48, 49, 50, 51, 52, 53, 54, 55, 56, 57, 58, 59, 60, 61, 62, 63, 64, 65, 66, 67, 68, 69, 70, 71, 72, 73, 74, 75, 76, 77, 78] (by decide +kernel) (by decide +kernel)
set_option maxRecDepth 20000 in
theorem gX18_steps_X18_wasAsked : GoodIn wsX18_steps (wsV RX18 424 RX18 yX18_wasAsked wsX18_wasAsked) := goodIn_app (goodIn_of _ (by decide +kernel)) ggX18_steps_X18_wasAsked
theorem dX18_steps_0 : decode cX18_steps 0 = .ok (.aload_n 0, 1) := by decide +kernel
theorem dX18_steps_1 : decode cX18_steps 1 = .ok (.invokevirtual 424, 3) := by decide +kernel
theorem dX18_steps_4 : decode cX18_steps 4 = .ok (.ifCond .eq 10, 3) := by decide +kernel
theorem dX18_steps_14 : decode cX18_steps 14 = .ok (.iconst 0, 1) := by decide +kernel
theorem dX18_steps_15 : decode cX18_steps 15 = .ok (.ireturn, 1) := by decide +kernel
set_option maxRecDepth 20000 in
theorem ggX18_choicePoints_X18_wasAsked : GoodIn wsX18_choicePoints wsX18_wasAsked := goodIn_r _ [6, 7, 8, 9, 10, 11, 12, 13, 14, 15, 16, 17, 18, 19, 20, 21, 22, 23, 24, 25, 26, 27, 28, 29, 30, 31, 32, 33, 34, 35, 36, 37, 38, 39, 40, 41, 42, 43, 44, 45, 46, 47, 48, 49, 50, 51, 52, 53, 54, 55, 56, 57, 58, 59, 60, 61, 62, 63, 64, 65, 66, 67, 68, 69, 70, 71, 72, 73, 74, 75, 76, 77, 78] (by decide +kernel) (by decide +kernel)
set_option maxRecDepth 20000 in
theorem gX18_choicePoints_X18_wasAsked : GoodIn wsX18_choicePoints (wsV RX18 424 RX18 yX18_wasAsked wsX18_wasAsked) := goodIn_app (goodIn_of _ (by decide +kernel)) ggX18_choicePoints_X18_wasAsked
theorem dX18_choicePoints_0 : decode cX18_choicePoints 0 = .ok (.aload_n 0, 1) := by decide +kernel
theorem dX18_choicePoints_1 : decode cX18_choicePoints 1 = .ok (.invokevirtual 424, 3) := by decide +kernel
theorem dX18_choicePoints_4 : decode cX18_choicePoints 4 = .ok (.ifCond .eq 10, 3) := by decide +kernel
theorem dX18_choicePoints_14 : decode cX18_choicePoints 14 = .ok (.iconst 0, 1) := by decide +kernel
theorem dX18_choicePoints_15 : decode cX18_choicePoints 15 = .ok (.ireturn, 1) := by decide +kernel
set_option maxRecDepth 20000 in
theorem ggX18_deepest_X18_wasAsked : GoodIn wsX18_deepest wsX18_wasAsked := goodIn_r _ [6, 7, 8, 9, 10, 11, 12, 13, 14, 15, 16, 17, 18, 19, 20, 21, 22, 23, 24, 25, 26, 27, 28, 29, 30, 31, 32, 33, 34, 35, 36, 37, 38, 39, 40, 41, 42, 43, 44, 45, 46, 47, 48, 49, 50, 51, 52, 53, 54, 55, 56, 57, 58, 59, 60, 61, 62, 63, 64, 65, 66, 67, 68, 69, 70, 71, 72, 73, 74, 75, 76, 77, 78] (by decide +kernel) (by decide +kernel)
set_option maxRecDepth 20000 in
theorem gX18_deepest_X18_wasAsked : GoodIn wsX18_deepest (wsV RX18 424 RX18 yX18_wasAsked wsX18_wasAsked) := goodIn_app (goodIn_of _ (by decide +kernel)) ggX18_deepest_X18_wasAsked
theorem dX18_deepest_0 : decode cX18_deepest 0 = .ok (.aload_n 0, 1) := by decide +kernel
theorem dX18_deepest_1 : decode cX18_deepest 1 = .ok (.invokevirtual 424, 3) := by decide +kernel
theorem dX18_deepest_4 : decode cX18_deepest 4 = .ok (.ifCond .eq 10, 3) := by decide +kernel
theorem dX18_deepest_14 : decode cX18_deepest 14 = .ok (.iconst 0, 1) := by decide +kernel
theorem dX18_deepest_15 : decode cX18_deepest 15 = .ok (.ireturn, 1) := by decide +kernel
set_option maxRecDepth 20000 in
theorem ggX18_recorded_X18_wasAsked : GoodIn wsX18_recorded wsX18_wasAsked := goodIn_r _ [6, 7, 8, 9, 10, 11, 12, 13, 14, 15, 16, 17, 18, 19, 20, 21, 22, 23, 24, 25, 26, 27, 28, 29, 30, 31, 32, 33, 34, 35, 36, 37, 38, 39, 40, 41, 42, 43, 44, 45, 46, 47, 48, 49, 50, 51, 52, 53, 54, 55, 56, 57, 58, 59, 60, 61, 62, 63, 64, 65, 66, 67, 68, 69, 70, 71, 72, 73, 74, 75, 76, 77, 78] (by decide +kernel) (by decide +kernel)
set_option maxRecDepth 20000 in
theorem gX18_recorded_X18_wasAsked : GoodIn wsX18_recorded (wsV RX18 424 RX18 yX18_wasAsked wsX18_wasAsked) := goodIn_app (goodIn_of _ (by decide +kernel)) ggX18_recorded_X18_wasAsked
theorem dX18_recorded_0 : decode cX18_recorded 0 = .ok (.aload_n 0, 1) := by decide +kernel
theorem dX18_recorded_1 : decode cX18_recorded 1 = .ok (.invokevirtual 424, 3) := by decide +kernel
theorem dX18_recorded_4 : decode cX18_recorded 4 = .ok (.ifCond .eq 10, 3) := by decide +kernel
theorem dX18_recorded_14 : decode cX18_recorded 14 = .ok (.iconst 0, 1) := by decide +kernel
theorem dX18_recorded_15 : decode cX18_recorded 15 = .ok (.ireturn, 1) := by decide +kernel
set_option maxRecDepth 20000 in
theorem ggX18_recordAt_X18_wasAsked : GoodIn wsX18_recordAt wsX18_wasAsked := goodIn_r _ [8, 9, 2, 13, 14, 15, 16, 17, 18, 19, 20, 21, 22, 23, 24, 25, 26, 27, 28, 29, 30, 31, 32, 33, 34, 35, 36, 37, 38, 39, 40, 41, 42, 43, 44, 45, 46, 47, 48, 49, 50, 51, 52, 53, 54, 55, 56, 57, 58, 59, 60, 61, 62, 63, 64, 65, 66, 67, 68, 69, 70, 71, 72, 73, 74, 75, 76, 77, 78, 79, 80, 81, 82] (by decide +kernel) (by decide +kernel)
set_option maxRecDepth 20000 in
theorem gX18_recordAt_X18_wasAsked : GoodIn wsX18_recordAt (wsV RX18 424 RX18 yX18_wasAsked wsX18_wasAsked) := goodIn_app (goodIn_of _ (by decide +kernel)) ggX18_recordAt_X18_wasAsked
theorem dX18_recordAt_0 : decode cX18_recordAt 0 = .ok (.aload_n 0, 1) := by decide +kernel
theorem dX18_recordAt_1 : decode cX18_recordAt 1 = .ok (.invokevirtual 424, 3) := by decide +kernel
theorem dX18_recordAt_4 : decode cX18_recordAt 4 = .ok (.ifCond .ne 5, 3) := by decide +kernel
theorem dX18_recordAt_7 : decode cX18_recordAt 7 = .ok (.iconst 0, 1) := by decide +kernel
theorem dX18_recordAt_8 : decode cX18_recordAt 8 = .ok (.ireturn, 1) := by decide +kernel
set_option maxRecDepth 20000 in
theorem ggX18_whereAt_X18_wasAsked : GoodIn wsX18_whereAt wsX18_wasAsked := goodIn_r _ [7, 8, 9, 17, 18, 19, 20, 21, 22, 23, 24, 25, 26, 27, 28, 29, 30, 31, 32, 33, 34, 35, 36, 37, 38, 39, 40, 41, 42, 43, 44, 45, 46, 47, 48, 49, 50, 51, 52, 53, 54, 55, 56, 57, 58, 59, 60, 61, 62, 63, 64, 65, 66, 67, 68, 69, 70, 71, 72, 73, 74, 75, 76, 77, 78, 79, 80, 81, 82, 83, 84, 85, 86] (by decide +kernel) (by decide +kernel)
set_option maxRecDepth 20000 in
theorem gX18_whereAt_X18_wasAsked : GoodIn wsX18_whereAt (wsV RX18 424 RX18 yX18_wasAsked wsX18_wasAsked) := goodIn_app (goodIn_of _ (by decide +kernel)) ggX18_whereAt_X18_wasAsked
theorem dX18_whereAt_0 : decode cX18_whereAt 0 = .ok (.aload_n 0, 1) := by decide +kernel
theorem dX18_whereAt_1 : decode cX18_whereAt 1 = .ok (.invokevirtual 424, 3) := by decide +kernel
theorem dX18_whereAt_4 : decode cX18_whereAt 4 = .ok (.ifCond .ne 5, 3) := by decide +kernel
theorem dX18_whereAt_7 : decode cX18_whereAt 7 = .ok (.iconst 0, 1) := by decide +kernel
theorem dX18_whereAt_8 : decode cX18_whereAt 8 = .ok (.ireturn, 1) := by decide +kernel
theorem dX18_terms_0 : decode cX18_terms 0 = .ok (.aload_n 0, 1) := by decide +kernel
theorem dX18_terms_1 : decode cX18_terms 1 = .ok (.iconst 0, 1) := by decide +kernel
theorem dX18_terms_2 : decode cX18_terms 2 = .ok (.putfield 130, 3) := by decide +kernel
theorem dX18_terms_5 : decode cX18_terms 5 = .ok (.aload_n 0, 1) := by decide +kernel
theorem dX18_terms_6 : decode cX18_terms 6 = .ok (.getfield 152, 3) := by decide +kernel
theorem dX18_terms_9 : decode cX18_terms 9 = .ok (.ireturn, 1) := by decide +kernel
theorem dX18_onceShare_0 : decode cX18_onceShare 0 = .ok (.aload_n 0, 1) := by decide +kernel
theorem dX18_onceShare_1 : decode cX18_onceShare 1 = .ok (.aload_n 0, 1) := by decide +kernel
theorem dX18_onceShare_2 : decode cX18_onceShare 2 = .ok (.getfield 137, 3) := by decide +kernel
theorem dX18_onceShare_5 : decode cX18_onceShare 5 = .ok (.ifCond .eq 7, 3) := by decide +kernel
theorem dX18_onceShare_12 : decode cX18_onceShare 12 = .ok (.iconst 1, 1) := by decide +kernel
theorem dX18_onceShare_13 : decode cX18_onceShare 13 = .ok (.putfield 130, 3) := by decide +kernel
theorem dX18_onceShare_16 : decode cX18_onceShare 16 = .ok (.iconst 0, 1) := by decide +kernel
theorem dX18_onceShare_17 : decode cX18_onceShare 17 = .ok (.istore_n 1, 1) := by decide +kernel
theorem dX18_onceShare_18 : decode cX18_onceShare 18 = .ok (.iconst 0, 1) := by decide +kernel
theorem dX18_onceShare_19 : decode cX18_onceShare 19 = .ok (.istore_n 2, 1) := by decide +kernel
theorem dX18_onceShare_20 : decode cX18_onceShare 20 = .ok (.iconst 0, 1) := by decide +kernel
theorem dX18_onceShare_21 : decode cX18_onceShare 21 = .ok (.istore_n 3, 1) := by decide +kernel
theorem dX18_onceShare_22 : decode cX18_onceShare 22 = .ok (.iload_n 3, 1) := by decide +kernel
theorem dX18_onceShare_23 : decode cX18_onceShare 23 = .ok (.bipush 10, 2) := by decide +kernel
theorem dX18_onceShare_25 : decode cX18_onceShare 25 = .ok (.if_icmp .ge 91, 3) := by decide +kernel
theorem dX18_onceShare_28 : decode cX18_onceShare 28 = .ok (.aload_n 0, 1) := by decide +kernel
theorem dX18_onceShare_29 : decode cX18_onceShare 29 = .ok (.getfield 130, 3) := by decide +kernel
theorem dX18_onceShare_32 : decode cX18_onceShare 32 = .ok (.ifCond .ne 84, 3) := by decide +kernel
theorem dX18_onceShare_116 : decode cX18_onceShare 116 = .ok (.aload_n 0, 1) := by decide +kernel
theorem dX18_onceShare_117 : decode cX18_onceShare 117 = .ok (.aload_n 0, 1) := by decide +kernel
theorem dX18_onceShare_118 : decode cX18_onceShare 118 = .ok (.getfield 130, 3) := by decide +kernel
theorem dX18_onceShare_121 : decode cX18_onceShare 121 = .ok (.ifCond .ne 11, 3) := by decide +kernel
theorem dX18_onceShare_132 : decode cX18_onceShare 132 = .ok (.aload_n 0, 1) := by decide +kernel
theorem dX18_onceShare_133 : decode cX18_onceShare 133 = .ok (.getfield 130, 3) := by decide +kernel
theorem dX18_onceShare_136 : decode cX18_onceShare 136 = .ok (.putfield 130, 3) := by decide +kernel
theorem dX18_onceShare_139 : decode cX18_onceShare 139 = .ok (.aload_n 0, 1) := by decide +kernel
theorem dX18_onceShare_140 : decode cX18_onceShare 140 = .ok (.getfield 130, 3) := by decide +kernel
theorem dX18_onceShare_143 : decode cX18_onceShare 143 = .ok (.ifCond .le 7, 3) := by decide +kernel
theorem dX18_onceShare_146 : decode cX18_onceShare 146 = .ok (.fconst 0, 1) := by decide +kernel
theorem dX18_onceShare_147 : decode cX18_onceShare 147 = .ok (.goto 8, 3) := by decide +kernel
theorem dX18_onceShare_155 : decode cX18_onceShare 155 = .ok (.freturn, 1) := by decide +kernel
theorem dX18_meanSteps_0 : decode cX18_meanSteps 0 = .ok (.aload_n 0, 1) := by decide +kernel
theorem dX18_meanSteps_1 : decode cX18_meanSteps 1 = .ok (.aload_n 0, 1) := by decide +kernel
theorem dX18_meanSteps_2 : decode cX18_meanSteps 2 = .ok (.getfield 227, 3) := by decide +kernel
theorem dX18_meanSteps_5 : decode cX18_meanSteps 5 = .ok (.ifCond .ne 7, 3) := by decide +kernel
theorem dX18_meanSteps_8 : decode cX18_meanSteps 8 = .ok (.iconst 1, 1) := by decide +kernel
theorem dX18_meanSteps_9 : decode cX18_meanSteps 9 = .ok (.goto 4, 3) := by decide +kernel
theorem dX18_meanSteps_13 : decode cX18_meanSteps 13 = .ok (.putfield 130, 3) := by decide +kernel
theorem dX18_meanSteps_16 : decode cX18_meanSteps 16 = .ok (.aload_n 0, 1) := by decide +kernel
theorem dX18_meanSteps_17 : decode cX18_meanSteps 17 = .ok (.getfield 130, 3) := by decide +kernel
theorem dX18_meanSteps_20 : decode cX18_meanSteps 20 = .ok (.ifCond .le 7, 3) := by decide +kernel
theorem dX18_meanSteps_23 : decode cX18_meanSteps 23 = .ok (.dconst 0, 1) := by decide +kernel
theorem dX18_meanSteps_24 : decode cX18_meanSteps 24 = .ok (.goto 14, 3) := by decide +kernel
theorem dX18_meanSteps_38 : decode cX18_meanSteps 38 = .ok (.dreturn, 1) := by decide +kernel
set_option maxRecDepth 20000 in
theorem ggX18_answersByBreadth_X18_wasAsked : GoodIn wsX18_answersByBreadth wsX18_wasAsked := goodIn_r _ [22, 23, 24, 123, 124, 125, 126, 127, 128, 129, 130, 131, 132, 133, 134, 135, 136, 137, 138, 139, 140, 141, 142, 143, 144, 145, 146, 147, 148, 149, 150, 151, 152, 153, 154, 155, 156, 157, 158, 159, 160, 161, 162, 163, 164, 165, 166, 167, 168, 169, 170, 171, 172, 173, 174, 175, 176, 177, 178, 179, 180, 181, 182, 183, 184, 185, 186, 187, 188, 189, 190, 191, 192] (by decide +kernel) (by decide +kernel)
set_option maxRecDepth 20000 in
theorem gX18_answersByBreadth_X18_wasAsked : GoodIn wsX18_answersByBreadth (wsV RX18 424 RX18 yX18_wasAsked wsX18_wasAsked) := goodIn_app (goodIn_of _ (by decide +kernel)) ggX18_answersByBreadth_X18_wasAsked
theorem dX18_answersByBreadth_0 : decode cX18_answersByBreadth 0 = .ok (.aload_n 0, 1) := by decide +kernel
theorem dX18_answersByBreadth_1 : decode cX18_answersByBreadth 1 = .ok (.invokevirtual 424, 3) := by decide +kernel
theorem dX18_answersByBreadth_4 : decode cX18_answersByBreadth 4 = .ok (.ifCond .ne 5, 3) := by decide +kernel
theorem dX18_answersByBreadth_7 : decode cX18_answersByBreadth 7 = .ok (.iconst 0, 1) := by decide +kernel
theorem dX18_answersByBreadth_8 : decode cX18_answersByBreadth 8 = .ok (.ireturn, 1) := by decide +kernel
theorem dJxa1e45_init_da8c8_0 : decode cJxa1e45_init_da8c8 0 = .ok (.aload_n 0, 1) := by decide +kernel
theorem dJxa1e45_init_da8c8_1 : decode cJxa1e45_init_da8c8 1 = .ok (.invokespecial 1, 3) := by decide +kernel
theorem dJxa1e45_init_da8c8_4 : decode cJxa1e45_init_da8c8 4 = .ok (.return_, 1) := by decide +kernel
set_option maxRecDepth 20000 in
theorem ggJxc12de_init_da8c8_Jxa1e45_init_da8c8 : GoodIn wsJxc12de_init_da8c8 wsJxa1e45_init_da8c8 := goodIn_r _ [5, 6, 7, 8] (by decide +kernel) (by decide +kernel)
set_option maxRecDepth 20000 in
theorem gJxc12de_init_da8c8_Jxa1e45_init_da8c8 : GoodIn wsJxc12de_init_da8c8 (wsJxa1e45_init_da8c8) := ggJxc12de_init_da8c8_Jxa1e45_init_da8c8
theorem dJxc12de_init_da8c8_0 : decode cJxc12de_init_da8c8 0 = .ok (.aload_n 0, 1) := by decide +kernel
theorem dJxc12de_init_da8c8_1 : decode cJxc12de_init_da8c8 1 = .ok (.invokespecial 1, 3) := by decide +kernel
theorem dJxc12de_init_da8c8_4 : decode cJxc12de_init_da8c8 4 = .ok (.aload_n 0, 1) := by decide +kernel
theorem dJxc12de_init_da8c8_5 : decode cJxc12de_init_da8c8 5 = .ok (.iconst 0, 1) := by decide +kernel
theorem dJxc12de_init_da8c8_6 : decode cJxc12de_init_da8c8 6 = .ok (.putfield 7, 3) := by decide +kernel
theorem dJxc12de_init_da8c8_9 : decode cJxc12de_init_da8c8 9 = .ok (.return_, 1) := by decide +kernel
set_option maxRecDepth 20000 in
theorem ggJx4a65c_init_da8c8_Jxc12de_init_da8c8 : GoodIn wsJx4a65c_init_da8c8 wsJxc12de_init_da8c8 := goodIn_r _ [6, 7, 8, 9, 10, 11, 12, 13, 14, 15, 16, 17] (by decide +kernel) (by decide +kernel)
set_option maxRecDepth 20000 in
theorem gJx4a65c_init_da8c8_Jxc12de_init_da8c8 : GoodIn wsJx4a65c_init_da8c8 (wsJxc12de_init_da8c8) := ggJx4a65c_init_da8c8_Jxc12de_init_da8c8
theorem dJx4a65c_init_da8c8_0 : decode cJx4a65c_init_da8c8 0 = .ok (.aload_n 0, 1) := by decide +kernel
theorem dJx4a65c_init_da8c8_1 : decode cJx4a65c_init_da8c8 1 = .ok (.invokespecial 1, 3) := by decide +kernel
theorem dJx4a65c_init_da8c8_4 : decode cJx4a65c_init_da8c8 4 = .ok (.aload_n 0, 1) := by decide +kernel
theorem dJx4a65c_init_da8c8_5 : decode cJx4a65c_init_da8c8 5 = .ok (.getstatic 39, 3) := by decide +kernel
theorem dJx4a65c_init_da8c8_8 : decode cJx4a65c_init_da8c8 8 = .ok (.putfield 9, 3) := by decide +kernel
theorem dJx4a65c_init_da8c8_11 : decode cJx4a65c_init_da8c8 11 = .ok (.return_, 1) := by decide +kernel
theorem dJx4a65c_grow_92f84_0 : decode cJx4a65c_grow_92f84 0 = .ok (.aload_n 0, 1) := by decide +kernel
theorem dJx4a65c_grow_92f84_1 : decode cJx4a65c_grow_92f84 1 = .ok (.getfield 9, 3) := by decide +kernel
theorem dJx4a65c_grow_92f84_4 : decode cJx4a65c_grow_92f84 4 = .ok (.arraylength, 1) := by decide +kernel
theorem dJx4a65c_grow_92f84_5 : decode cJx4a65c_grow_92f84 5 = .ok (.istore_n 2, 1) := by decide +kernel
theorem dJx4a65c_grow_92f84_6 : decode cJx4a65c_grow_92f84 6 = .ok (.iload_n 2, 1) := by decide +kernel
theorem dJx4a65c_grow_92f84_7 : decode cJx4a65c_grow_92f84 7 = .ok (.ifCond .gt 13, 3) := by decide +kernel
theorem dJx4a65c_grow_92f84_10 : decode cJx4a65c_grow_92f84 10 = .ok (.aload_n 0, 1) := by decide +kernel
theorem dJx4a65c_grow_92f84_11 : decode cJx4a65c_grow_92f84 11 = .ok (.getfield 9, 3) := by decide +kernel
theorem dJx4a65c_grow_92f84_14 : decode cJx4a65c_grow_92f84 14 = .ok (.getstatic 39, 3) := by decide +kernel
theorem dJx4a65c_grow_92f84_17 : decode cJx4a65c_grow_92f84 17 = .ok (.if_acmp .eq 28, 3) := by decide +kernel
theorem dJx4a65c_grow_92f84_45 : decode cJx4a65c_grow_92f84 45 = .ok (.aload_n 0, 1) := by decide +kernel
theorem dJx4a65c_grow_92f84_46 : decode cJx4a65c_grow_92f84 46 = .ok (.bipush 10, 2) := by decide +kernel
theorem dJx4a65c_grow_92f84_48 : decode cJx4a65c_grow_92f84 48 = .ok (.iload_n 1, 1) := by decide +kernel
theorem dJx4a65c_grow_92f84_49 : decode cJx4a65c_grow_92f84 49 = .ok (.invokestatic 79, 3) := by decide +kernel
theorem dJx4a65c_grow_92f84_52 : decode cJx4a65c_grow_92f84 52 = .ok (.anewarray 7, 3) := by decide +kernel
theorem dJx4a65c_grow_92f84_55 : decode cJx4a65c_grow_92f84 55 = .ok (.dup_x1, 1) := by decide +kernel
theorem dJx4a65c_grow_92f84_56 : decode cJx4a65c_grow_92f84 56 = .ok (.putfield 9, 3) := by decide +kernel
theorem dJx4a65c_grow_92f84_59 : decode cJx4a65c_grow_92f84 59 = .ok (.areturn, 1) := by decide +kernel
set_option maxRecDepth 20000 in
theorem ggJx4a65c_grow_d5877_Jx4a65c_grow_92f84 : GoodIn wsJx4a65c_grow_d5877 wsJx4a65c_grow_92f84 := goodIn_r _ [6, 7, 8, 9, 10, 11, 12, 13, 14, 15, 16, 17, 18, 19, 20, 21, 22, 23, 24, 25, 26, 27, 28, 29, 30, 31, 32, 33, 34, 35, 36, 37, 38, 39, 40, 41, 42, 43, 44, 45] (by decide +kernel) (by decide +kernel)
set_option maxRecDepth 20000 in
theorem gJx4a65c_grow_d5877_Jx4a65c_grow_92f84 : GoodIn wsJx4a65c_grow_d5877 (wsV RJx4a65c 69 RJx4a65c yJx4a65c_grow_92f84 wsJx4a65c_grow_92f84) := goodIn_app (goodIn_of _ (by decide +kernel)) ggJx4a65c_grow_d5877_Jx4a65c_grow_92f84
theorem dJx4a65c_grow_d5877_0 : decode cJx4a65c_grow_d5877 0 = .ok (.aload_n 0, 1) := by decide +kernel
theorem dJx4a65c_grow_d5877_1 : decode cJx4a65c_grow_d5877 1 = .ok (.aload_n 0, 1) := by decide +kernel
theorem dJx4a65c_grow_d5877_2 : decode cJx4a65c_grow_d5877 2 = .ok (.getfield 48, 3) := by decide +kernel
theorem dJx4a65c_grow_d5877_5 : decode cJx4a65c_grow_d5877 5 = .ok (.iconst 1, 1) := by decide +kernel
theorem dJx4a65c_grow_d5877_6 : decode cJx4a65c_grow_d5877 6 = .ok (.iadd, 1) := by decide +kernel
theorem dJx4a65c_grow_d5877_7 : decode cJx4a65c_grow_d5877 7 = .ok (.invokevirtual 69, 3) := by decide +kernel
theorem dJx4a65c_grow_d5877_10 : decode cJx4a65c_grow_d5877 10 = .ok (.areturn, 1) := by decide +kernel
theorem dJx4a65c_size_8abf5_0 : decode cJx4a65c_size_8abf5 0 = .ok (.aload_n 0, 1) := by decide +kernel
theorem dJx4a65c_size_8abf5_1 : decode cJx4a65c_size_8abf5 1 = .ok (.getfield 48, 3) := by decide +kernel
theorem dJx4a65c_size_8abf5_4 : decode cJx4a65c_size_8abf5 4 = .ok (.ireturn, 1) := by decide +kernel
set_option maxRecDepth 20000 in
theorem ggJx4a65c_add_72be8_Jx4a65c_grow_d5877 : GoodIn wsJx4a65c_add_72be8 wsJx4a65c_grow_d5877 := goodIn_r _ [6, 1, 7, 8, 9, 5, 10, 11, 12, 13, 14, 15, 16, 17, 18, 19, 20, 21, 22, 23, 24, 25, 26, 27, 28, 29, 30, 31, 32, 33, 34, 35, 36, 37, 38, 39, 40, 41, 42, 43, 44, 45, 46, 47, 48, 49] (by decide +kernel) (by decide +kernel)
set_option maxRecDepth 20000 in
theorem gJx4a65c_add_72be8_Jx4a65c_grow_d5877 : GoodIn wsJx4a65c_add_72be8 (wsV RJx4a65c 129 RJx4a65c yJx4a65c_grow_d5877 wsJx4a65c_grow_d5877) := goodIn_app (goodIn_of _ (by decide +kernel)) ggJx4a65c_add_72be8_Jx4a65c_grow_d5877
theorem dJx4a65c_add_72be8_0 : decode cJx4a65c_add_72be8 0 = .ok (.iload_n 3, 1) := by decide +kernel
theorem dJx4a65c_add_72be8_1 : decode cJx4a65c_add_72be8 1 = .ok (.aload_n 2, 1) := by decide +kernel
theorem dJx4a65c_add_72be8_2 : decode cJx4a65c_add_72be8 2 = .ok (.arraylength, 1) := by decide +kernel
theorem dJx4a65c_add_72be8_3 : decode cJx4a65c_add_72be8 3 = .ok (.if_icmp .ne 8, 3) := by decide +kernel
theorem dJx4a65c_add_72be8_6 : decode cJx4a65c_add_72be8 6 = .ok (.aload_n 0, 1) := by decide +kernel
theorem dJx4a65c_add_72be8_7 : decode cJx4a65c_add_72be8 7 = .ok (.invokevirtual 129, 3) := by decide +kernel
theorem dJx4a65c_add_72be8_10 : decode cJx4a65c_add_72be8 10 = .ok (.astore_n 2, 1) := by decide +kernel
theorem dJx4a65c_add_72be8_11 : decode cJx4a65c_add_72be8 11 = .ok (.aload_n 2, 1) := by decide +kernel
theorem dJx4a65c_add_72be8_12 : decode cJx4a65c_add_72be8 12 = .ok (.iload_n 3, 1) := by decide +kernel
theorem dJx4a65c_add_72be8_13 : decode cJx4a65c_add_72be8 13 = .ok (.aload_n 1, 1) := by decide +kernel
theorem dJx4a65c_add_72be8_14 : decode cJx4a65c_add_72be8 14 = .ok (.aastore, 1) := by decide +kernel
theorem dJx4a65c_add_72be8_15 : decode cJx4a65c_add_72be8 15 = .ok (.aload_n 0, 1) := by decide +kernel
theorem dJx4a65c_add_72be8_16 : decode cJx4a65c_add_72be8 16 = .ok (.iload_n 3, 1) := by decide +kernel
theorem dJx4a65c_add_72be8_17 : decode cJx4a65c_add_72be8 17 = .ok (.iconst 1, 1) := by decide +kernel
theorem dJx4a65c_add_72be8_18 : decode cJx4a65c_add_72be8 18 = .ok (.iadd, 1) := by decide +kernel
theorem dJx4a65c_add_72be8_19 : decode cJx4a65c_add_72be8 19 = .ok (.putfield 48, 3) := by decide +kernel
theorem dJx4a65c_add_72be8_22 : decode cJx4a65c_add_72be8 22 = .ok (.return_, 1) := by decide +kernel
set_option maxRecDepth 20000 in
theorem ggJx4a65c_add_9ea2d_Jx4a65c_add_72be8 : GoodIn wsJx4a65c_add_9ea2d wsJx4a65c_add_72be8 := goodIn_r _ [9, 4, 10, 11, 12, 8, 13, 14, 15, 16, 17, 3, 18, 19, 20, 21, 22, 23, 24, 25, 26, 27, 28, 29, 30, 31, 32, 33, 34, 35, 36, 37, 38, 39, 40, 41, 42, 43, 44, 45, 46, 47, 48, 49, 50, 51, 52, 53, 54, 55] (by decide +kernel) (by decide +kernel)
set_option maxRecDepth 20000 in
theorem gJx4a65c_add_9ea2d_Jx4a65c_add_72be8 : GoodIn wsJx4a65c_add_9ea2d (wsV RJx4a65c 131 RJx4a65c yJx4a65c_add_72be8 wsJx4a65c_add_72be8) := goodIn_app (goodIn_of _ (by decide +kernel)) ggJx4a65c_add_9ea2d_Jx4a65c_add_72be8
theorem dJx4a65c_add_9ea2d_0 : decode cJx4a65c_add_9ea2d 0 = .ok (.aload_n 0, 1) := by decide +kernel
theorem dJx4a65c_add_9ea2d_1 : decode cJx4a65c_add_9ea2d 1 = .ok (.dup, 1) := by decide +kernel
theorem dJx4a65c_add_9ea2d_2 : decode cJx4a65c_add_9ea2d 2 = .ok (.getfield 63, 3) := by decide +kernel
theorem dJx4a65c_add_9ea2d_5 : decode cJx4a65c_add_9ea2d 5 = .ok (.iconst 1, 1) := by decide +kernel
theorem dJx4a65c_add_9ea2d_6 : decode cJx4a65c_add_9ea2d 6 = .ok (.iadd, 1) := by decide +kernel
theorem dJx4a65c_add_9ea2d_7 : decode cJx4a65c_add_9ea2d 7 = .ok (.putfield 63, 3) := by decide +kernel
theorem dJx4a65c_add_9ea2d_10 : decode cJx4a65c_add_9ea2d 10 = .ok (.aload_n 0, 1) := by decide +kernel
theorem dJx4a65c_add_9ea2d_11 : decode cJx4a65c_add_9ea2d 11 = .ok (.aload_n 1, 1) := by decide +kernel
theorem dJx4a65c_add_9ea2d_12 : decode cJx4a65c_add_9ea2d 12 = .ok (.aload_n 0, 1) := by decide +kernel
theorem dJx4a65c_add_9ea2d_13 : decode cJx4a65c_add_9ea2d 13 = .ok (.getfield 9, 3) := by decide +kernel
theorem dJx4a65c_add_9ea2d_16 : decode cJx4a65c_add_9ea2d 16 = .ok (.aload_n 0, 1) := by decide +kernel
theorem dJx4a65c_add_9ea2d_17 : decode cJx4a65c_add_9ea2d 17 = .ok (.getfield 48, 3) := by decide +kernel
theorem dJx4a65c_add_9ea2d_20 : decode cJx4a65c_add_9ea2d 20 = .ok (.invokevirtual 131, 3) := by decide +kernel
theorem dJx4a65c_add_9ea2d_23 : decode cJx4a65c_add_9ea2d 23 = .ok (.iconst 1, 1) := by decide +kernel
theorem dJx4a65c_add_9ea2d_24 : decode cJx4a65c_add_9ea2d 24 = .ok (.ireturn, 1) := by decide +kernel
theorem dJ7_rangeCheck_23922_0 : decode cJ7_rangeCheck_23922 0 = .ok (.iload_n 1, 1) := by decide +kernel
theorem dJ7_rangeCheck_23922_1 : decode cJ7_rangeCheck_23922 1 = .ok (.iload_n 2, 1) := by decide +kernel
theorem dJ7_rangeCheck_23922_2 : decode cJ7_rangeCheck_23922 2 = .ok (.if_icmp .le 44, 3) := by decide +kernel
theorem dJ7_rangeCheck_23922_46 : decode cJ7_rangeCheck_23922 46 = .ok (.iload_n 1, 1) := by decide +kernel
theorem dJ7_rangeCheck_23922_47 : decode cJ7_rangeCheck_23922 47 = .ok (.ifCond .ge 12, 3) := by decide +kernel
theorem dJ7_rangeCheck_23922_59 : decode cJ7_rangeCheck_23922 59 = .ok (.iload_n 2, 1) := by decide +kernel
theorem dJ7_rangeCheck_23922_60 : decode cJ7_rangeCheck_23922 60 = .ok (.iload_n 0, 1) := by decide +kernel
theorem dJ7_rangeCheck_23922_61 : decode cJ7_rangeCheck_23922 61 = .ok (.if_icmp .le 12, 3) := by decide +kernel
theorem dJ7_rangeCheck_23922_73 : decode cJ7_rangeCheck_23922 73 = .ok (.return_, 1) := by decide +kernel
set_option maxRecDepth 20000 in
theorem ggJ7_fill_fda19_J7_rangeCheck_23922 : GoodIn wsJ7_fill_fda19 wsJ7_rangeCheck_23922 := goodIn_r _ [4, 5, 6, 7, 8, 9, 10, 11, 12, 13, 14, 15, 16, 17, 18, 19, 20] (by decide +kernel) (by decide +kernel)
set_option maxRecDepth 20000 in
theorem gJ7_fill_fda19_J7_rangeCheck_23922 : GoodIn wsJ7_fill_fda19 (va_wsS RJ7 13 yJ7_rangeCheck_23922 wsJ7_rangeCheck_23922) := goodIn_app (goodIn_of _ (by decide +kernel)) ggJ7_fill_fda19_J7_rangeCheck_23922
theorem dJ7_fill_fda19_0 : decode cJ7_fill_fda19 0 = .ok (.aload_n 0, 1) := by decide +kernel
theorem dJ7_fill_fda19_1 : decode cJ7_fill_fda19 1 = .ok (.arraylength, 1) := by decide +kernel
theorem dJ7_fill_fda19_2 : decode cJ7_fill_fda19 2 = .ok (.iload_n 1, 1) := by decide +kernel
theorem dJ7_fill_fda19_3 : decode cJ7_fill_fda19 3 = .ok (.iload_n 2, 1) := by decide +kernel
theorem dJ7_fill_fda19_4 : decode cJ7_fill_fda19 4 = .ok (.invokestatic 13, 3) := by decide +kernel
theorem dJ7_fill_fda19_7 : decode cJ7_fill_fda19 7 = .ok (.iload_n 1, 1) := by decide +kernel
theorem dJ7_fill_fda19_8 : decode cJ7_fill_fda19 8 = .ok (.istore 4, 2) := by decide +kernel
theorem dJ7_fill_fda19_10 : decode cJ7_fill_fda19 10 = .ok (.iload 4, 2) := by decide +kernel
theorem dJ7_fill_fda19_12 : decode cJ7_fill_fda19 12 = .ok (.iload_n 2, 1) := by decide +kernel
theorem dJ7_fill_fda19_13 : decode cJ7_fill_fda19 13 = .ok (.if_icmp .ge 14, 3) := by decide +kernel
theorem dJ7_fill_fda19_16 : decode cJ7_fill_fda19 16 = .ok (.aload_n 0, 1) := by decide +kernel
theorem dJ7_fill_fda19_17 : decode cJ7_fill_fda19 17 = .ok (.iload 4, 2) := by decide +kernel
theorem dJ7_fill_fda19_19 : decode cJ7_fill_fda19 19 = .ok (.iload_n 3, 1) := by decide +kernel
theorem dJ7_fill_fda19_20 : decode cJ7_fill_fda19 20 = .ok (.iastore, 1) := by decide +kernel
theorem dJ7_fill_fda19_21 : decode cJ7_fill_fda19 21 = .ok (.iinc 4 1, 3) := by decide +kernel
theorem dJ7_fill_fda19_24 : decode cJ7_fill_fda19 24 = .ok (.goto (-14), 3) := by decide +kernel
theorem dJ7_fill_fda19_27 : decode cJ7_fill_fda19 27 = .ok (.return_, 1) := by decide +kernel
set_option maxRecDepth 20000 in
theorem ggL_addType_X11_addType : GoodIn wsL_addType wsX11_addType := goodIn_ca (goodIn_r _ [6, 7, 8, 9, 10, 11, 12, 13, 14, 15, 16, 17, 18, 19, 20, 21, 22, 23, 24, 25, 26, 27, 28, 29, 30, 31, 32, 33, 34] (by decide +kernel) (by decide +kernel)) (goodIn_sub (fun _ h => List.mem_cons_of_mem _ (List.mem_append_right _ h)) (by decide +kernel))
set_option maxRecDepth 20000 in
theorem gL_addType_X11_addType : GoodIn wsL_addType (wsV RL 7 RX11 yX11_addType wsX11_addType) := goodIn_app (goodIn_of _ (by decide +kernel)) ggL_addType_X11_addType
theorem dL_addType_0 : decode cL_addType 0 = .ok (.aload_n 1, 1) := by decide +kernel
theorem dL_addType_1 : decode cL_addType 1 = .ok (.iconst 0, 1) := by decide +kernel
theorem dL_addType_2 : decode cL_addType 2 = .ok (.aload_n 0, 1) := by decide +kernel
theorem dL_addType_3 : decode cL_addType 3 = .ok (.invokevirtual 7, 3) := by decide +kernel
theorem dL_addType_6 : decode cL_addType 6 = .ok (.i2l, 1) := by decide +kernel
theorem dL_addType_7 : decode cL_addType 7 = .ok (.lastore, 1) := by decide +kernel
theorem dL_addType_8 : decode cL_addType 8 = .ok (.goto 6, 3) := by decide +kernel
theorem dL_addType_14 : decode cL_addType 14 = .ok (.iconst 0, 1) := by decide +kernel
theorem dL_addType_15 : decode cL_addType 15 = .ok (.ireturn, 1) := by decide +kernel
set_option maxRecDepth 20000 in
theorem ggL_addConstructor_X11_addConstructor : GoodIn wsL_addConstructor wsX11_addConstructor := goodIn_ca (goodIn_ca (goodIn_ca (goodIn_ca (goodIn_r _ [8, 9, 10, 11, 12, 13, 14, 15, 16, 17, 18, 19, 20, 21, 22, 23, 24, 25, 7, 26, 27, 28, 29, 30, 31, 32, 33, 34, 35, 36, 37, 38, 39, 40, 41, 42, 43, 44, 45, 46, 47, 48, 49, 50, 51, 52, 53, 54, 55, 56, 57, 58, 59, 60, 61, 62, 63, 64, 65, 66, 67, 68, 69, 70, 71, 72, 73, 74, 75, 76, 77, 78, 79, 80, 81, 82, 83, 84, 85, 86, 87, 88, 89, 90, 91, 92, 93, 94, 95, 96, 97, 98, 99, 100, 101, 102, 103, 104, 105, 106, 107, 108, 109, 110] (by decide +kernel) (by decide +kernel)) (goodIn_sub (fun _ h => List.mem_cons_of_mem _ (List.mem_append_left _ (List.mem_append_left _ (List.mem_append_right _ h)))) (by decide +kernel))) (goodIn_sub (fun _ h => List.mem_cons_of_mem _ (List.mem_append_left _ (List.mem_append_right _ h))) (by decide +kernel))) (goodIn_sub (fun _ h => List.mem_cons_of_mem _ (List.mem_append_right _ h)) (by decide +kernel))) (goodIn_sub (fun _ h => List.mem_cons_of_mem _ (List.mem_append_left _ (List.mem_append_left _ (List.mem_append_left _ (List.mem_append_right _ h))))) (by decide +kernel))
set_option maxRecDepth 20000 in
theorem gL_addConstructor_X11_addConstructor : GoodIn wsL_addConstructor (wsV RL 15 RX11 yX11_addConstructor wsX11_addConstructor) := goodIn_app (goodIn_of _ (by decide +kernel)) ggL_addConstructor_X11_addConstructor
theorem dL_addConstructor_0 : decode cL_addConstructor 0 = .ok (.aload 4, 2) := by decide +kernel
theorem dL_addConstructor_2 : decode cL_addConstructor 2 = .ok (.iconst 0, 1) := by decide +kernel
theorem dL_addConstructor_3 : decode cL_addConstructor 3 = .ok (.aload_n 0, 1) := by decide +kernel
theorem dL_addConstructor_4 : decode cL_addConstructor 4 = .ok (.iload_n 1, 1) := by decide +kernel
theorem dL_addConstructor_5 : decode cL_addConstructor 5 = .ok (.iload_n 2, 1) := by decide +kernel
theorem dL_addConstructor_6 : decode cL_addConstructor 6 = .ok (.iload_n 3, 1) := by decide +kernel
theorem dL_addConstructor_7 : decode cL_addConstructor 7 = .ok (.invokevirtual 15, 3) := by decide +kernel
theorem dL_addConstructor_15 : decode cL_addConstructor 15 = .ok (.astore 5, 2) := by decide +kernel
theorem dL_addConstructor_17 : decode cL_addConstructor 17 = .ok (.iconst 1, 1) := by decide +kernel
theorem dL_addConstructor_18 : decode cL_addConstructor 18 = .ok (.ireturn, 1) := by decide +kernel
set_option maxRecDepth 20000 in
theorem ggL_term_X11_term : GoodIn wsL_term wsX11_term := goodIn_ca (goodIn_ca (goodIn_ca (goodIn_ca (goodIn_r _ [8, 9, 10, 11, 12, 13, 14, 15, 16, 17, 18, 19, 20, 21, 22, 23, 24, 25, 26, 27, 28, 29, 30, 31, 32, 33, 34, 35, 36, 37, 38, 39, 40, 41, 42, 43, 44, 45, 46, 47, 48, 49, 50, 51, 52, 53, 54, 55, 56, 57, 58, 59, 60, 61, 62, 63, 64, 65, 66, 67, 68, 69, 70, 71, 72, 73, 74, 75, 76, 77, 78, 79, 80, 81, 82, 83, 84, 85, 86, 87, 88, 89, 90, 91, 92, 93, 94, 95, 96, 97, 98, 99, 100, 101, 102, 103, 104, 105, 106, 107, 108, 109, 110, 111, 112, 113, 114, 115, 116, 117, 118, 119, 120, 121, 122, 123, 124, 125, 126, 127, 128, 129, 130, 131, 132, 133, 134, 135, 136, 137, 138, 139, 140, 141, 142, 143, 144, 145, 146, 147, 148, 149, 150, 151] (by decide +kernel) (by decide +kernel)) (goodIn_sub (fun _ h => List.mem_cons_of_mem _ (List.mem_append_left _ (List.mem_append_left _ (List.mem_append_right _ h)))) (by decide +kernel))) (goodIn_sub (fun _ h => List.mem_cons_of_mem _ (List.mem_append_left _ (List.mem_append_right _ h))) (by decide +kernel))) (goodIn_sub (fun _ h => List.mem_cons_of_mem _ (List.mem_append_right _ h)) (by decide +kernel))) (goodIn_sub (fun _ h => List.mem_cons_of_mem _ (List.mem_append_left _ (List.mem_append_left _ (List.mem_append_left _ (List.mem_append_right _ h))))) (by decide +kernel))
set_option maxRecDepth 20000 in
theorem gL_term_X11_term : GoodIn wsL_term (wsV RL 23 RX11 yX11_term wsX11_term) := goodIn_app (goodIn_of _ (by decide +kernel)) ggL_term_X11_term
theorem dL_term_0 : decode cL_term 0 = .ok (.aload 4, 2) := by decide +kernel
theorem dL_term_2 : decode cL_term 2 = .ok (.iconst 0, 1) := by decide +kernel
theorem dL_term_3 : decode cL_term 3 = .ok (.aload_n 0, 1) := by decide +kernel
theorem dL_term_4 : decode cL_term 4 = .ok (.iload_n 1, 1) := by decide +kernel
theorem dL_term_5 : decode cL_term 5 = .ok (.iload_n 2, 1) := by decide +kernel
theorem dL_term_6 : decode cL_term 6 = .ok (.iload_n 3, 1) := by decide +kernel
theorem dL_term_7 : decode cL_term 7 = .ok (.invokevirtual 23, 3) := by decide +kernel
theorem dL_term_15 : decode cL_term 15 = .ok (.astore 5, 2) := by decide +kernel
theorem dL_term_17 : decode cL_term 17 = .ok (.iconst 1, 1) := by decide +kernel
theorem dL_term_18 : decode cL_term 18 = .ok (.ireturn, 1) := by decide +kernel
set_option maxRecDepth 20000 in
theorem ggL_constructorOf_X11_constructorOf : GoodIn wsL_constructorOf wsX11_constructorOf := goodIn_ca (goodIn_ca (goodIn_r _ [6, 7, 8, 9, 10, 5, 11, 12, 13, 14, 15, 16, 17, 18, 19, 20, 21, 22, 23, 24, 25, 26, 27, 28, 29, 30, 31, 32, 33, 34, 35, 36, 37, 38, 39, 40, 41, 42, 43, 44, 45, 46, 47, 48, 49, 50, 51, 52] (by decide +kernel) (by decide +kernel)) (goodIn_sub (fun _ h => List.mem_cons_of_mem _ (List.mem_append_right _ h)) (by decide +kernel))) (goodIn_sub (fun _ h => List.mem_cons_of_mem _ (List.mem_append_left _ (List.mem_append_right _ h))) (by decide +kernel))
set_option maxRecDepth 20000 in
theorem gL_constructorOf_X11_constructorOf : GoodIn wsL_constructorOf (wsV RL 26 RX11 yX11_constructorOf wsX11_constructorOf) := goodIn_app (goodIn_of _ (by decide +kernel)) ggL_constructorOf_X11_constructorOf
theorem dL_constructorOf_0 : decode cL_constructorOf 0 = .ok (.aload_n 2, 1) := by decide +kernel
theorem dL_constructorOf_1 : decode cL_constructorOf 1 = .ok (.iconst 0, 1) := by decide +kernel
theorem dL_constructorOf_2 : decode cL_constructorOf 2 = .ok (.aload_n 0, 1) := by decide +kernel
theorem dL_constructorOf_3 : decode cL_constructorOf 3 = .ok (.iload_n 1, 1) := by decide +kernel
theorem dL_constructorOf_4 : decode cL_constructorOf 4 = .ok (.invokevirtual 26, 3) := by decide +kernel
theorem dL_constructorOf_12 : decode cL_constructorOf 12 = .ok (.astore_n 3, 1) := by decide +kernel
theorem dL_constructorOf_13 : decode cL_constructorOf 13 = .ok (.iconst 1, 1) := by decide +kernel
theorem dL_constructorOf_14 : decode cL_constructorOf 14 = .ok (.ireturn, 1) := by decide +kernel
set_option maxRecDepth 20000 in
theorem ggL_partOf_X11_partOf : GoodIn wsL_partOf wsX11_partOf := goodIn_ca (goodIn_ca (goodIn_ca (goodIn_r _ [7, 8, 9, 10, 11, 12, 13, 6, 14, 15, 16, 17, 18, 19, 20, 21, 22, 23, 24, 25, 26, 27, 28, 29, 30, 31, 32, 33, 34, 35, 36, 37, 38, 39, 40, 41, 42, 43, 44, 45, 46, 47, 48, 49, 50, 51, 52, 53, 54, 55, 56, 57, 58, 59, 60, 61, 62, 63, 64] (by decide +kernel) (by decide +kernel)) (goodIn_sub (fun _ h => List.mem_cons_of_mem _ (List.mem_append_left _ (List.mem_append_right _ h))) (by decide +kernel))) (goodIn_sub (fun _ h => List.mem_cons_of_mem _ (List.mem_append_right _ h)) (by decide +kernel))) (goodIn_sub (fun _ h => List.mem_cons_of_mem _ (List.mem_append_left _ (List.mem_append_left _ (List.mem_append_right _ h)))) (by decide +kernel))
set_option maxRecDepth 20000 in
theorem gL_partOf_X11_partOf : GoodIn wsL_partOf (wsV RL 30 RX11 yX11_partOf wsX11_partOf) := goodIn_app (goodIn_of _ (by decide +kernel)) ggL_partOf_X11_partOf
theorem dL_partOf_0 : decode cL_partOf 0 = .ok (.aload_n 3, 1) := by decide +kernel
theorem dL_partOf_1 : decode cL_partOf 1 = .ok (.iconst 0, 1) := by decide +kernel
theorem dL_partOf_2 : decode cL_partOf 2 = .ok (.aload_n 0, 1) := by decide +kernel
theorem dL_partOf_3 : decode cL_partOf 3 = .ok (.iload_n 1, 1) := by decide +kernel
theorem dL_partOf_4 : decode cL_partOf 4 = .ok (.iload_n 2, 1) := by decide +kernel
theorem dL_partOf_5 : decode cL_partOf 5 = .ok (.invokevirtual 30, 3) := by decide +kernel
theorem dL_partOf_13 : decode cL_partOf 13 = .ok (.astore 4, 2) := by decide +kernel
theorem dL_partOf_15 : decode cL_partOf 15 = .ok (.iconst 1, 1) := by decide +kernel
theorem dL_partOf_16 : decode cL_partOf 16 = .ok (.ireturn, 1) := by decide +kernel
set_option maxRecDepth 20000 in
theorem ggL_sizeOf_X11_sizeOf : GoodIn wsL_sizeOf wsX11_sizeOf := goodIn_ca (goodIn_ca (goodIn_r _ [6, 7, 8, 9, 10, 5, 11, 12, 13, 14, 15, 16, 17, 18, 19, 20, 21, 22, 23, 24, 25, 26, 27, 28, 29, 30, 31, 32, 33, 34, 35, 36, 37, 38, 39, 40, 41, 42, 43, 44, 45, 46, 47] (by decide +kernel) (by decide +kernel)) (goodIn_sub (fun _ h => List.mem_cons_of_mem _ (List.mem_append_right _ h)) (by decide +kernel))) (goodIn_sub (fun _ h => List.mem_cons_of_mem _ (List.mem_append_left _ (List.mem_append_right _ h))) (by decide +kernel))
set_option maxRecDepth 20000 in
theorem gL_sizeOf_X11_sizeOf : GoodIn wsL_sizeOf (wsV RL 36 RX11 yX11_sizeOf wsX11_sizeOf) := goodIn_app (goodIn_of _ (by decide +kernel)) ggL_sizeOf_X11_sizeOf
theorem dL_sizeOf_0 : decode cL_sizeOf 0 = .ok (.aload_n 2, 1) := by decide +kernel
theorem dL_sizeOf_1 : decode cL_sizeOf 1 = .ok (.iconst 0, 1) := by decide +kernel
theorem dL_sizeOf_2 : decode cL_sizeOf 2 = .ok (.aload_n 0, 1) := by decide +kernel
theorem dL_sizeOf_3 : decode cL_sizeOf 3 = .ok (.iload_n 1, 1) := by decide +kernel
theorem dL_sizeOf_4 : decode cL_sizeOf 4 = .ok (.invokevirtual 36, 3) := by decide +kernel
theorem dL_sizeOf_11 : decode cL_sizeOf 11 = .ok (.astore_n 3, 1) := by decide +kernel
theorem dL_sizeOf_12 : decode cL_sizeOf 12 = .ok (.iconst 1, 1) := by decide +kernel
theorem dL_sizeOf_13 : decode cL_sizeOf 13 = .ok (.ireturn, 1) := by decide +kernel
set_option maxRecDepth 20000 in
theorem ggL_addPredicate_X11_addPredicate : GoodIn wsL_addPredicate wsX11_addPredicate := goodIn_ca (goodIn_ca (goodIn_ca (goodIn_ca (goodIn_r _ [8, 9, 10, 11, 12, 13, 14, 15, 16, 17, 18, 19, 7, 20, 21, 22, 23, 24, 25, 26, 27, 28, 29, 30, 31, 32, 33, 34, 35, 36, 37, 38, 39, 40, 41, 42, 43, 44, 45, 46, 47, 48, 49, 50, 51, 52, 53, 54, 55, 56, 57, 58, 59, 60, 61, 62, 63, 64, 65, 66, 67, 68, 69, 70, 71, 72, 73, 74, 75, 76, 77, 78, 79, 80, 81, 82, 83, 84, 85, 86, 87, 88, 89, 90, 91, 92, 93, 94, 95, 96, 97, 98, 99, 100, 101, 102, 103, 104, 105, 106, 107, 108, 109, 110, 111, 112, 113, 114, 115, 116, 117, 118, 119, 120, 121, 122, 123, 124, 125, 126, 127, 128, 129, 130, 131, 132, 133, 134, 135, 136, 137, 138, 139, 140, 141, 142, 143, 144, 145, 146, 147, 148, 149, 150, 151, 152, 153, 154, 155, 156, 157, 158, 159, 160, 161, 162, 163, 164, 165, 166, 167, 168, 169, 170, 171, 172, 173, 174, 175, 176, 177, 178, 179, 180, 181, 182, 183, 184, 185, 186, 187, 188, 189, 190, 191, 192, 193, 194, 195, 196, 197, 198, 199, 200, 201, 202, 203, 204, 205, 206, 207, 208, 209, 210, 211, 212, 213, 214, 215, 216, 217, 218, 219, 220, 221, 222] (by decide +kernel) (by decide +kernel)) (goodIn_sub (fun _ h => List.mem_cons_of_mem _ (List.mem_append_left _ (List.mem_append_left _ (List.mem_append_right _ h)))) (by decide +kernel))) (goodIn_sub (fun _ h => List.mem_cons_of_mem _ (List.mem_append_left _ (List.mem_append_right _ h))) (by decide +kernel))) (goodIn_sub (fun _ h => List.mem_cons_of_mem _ (List.mem_append_right _ h)) (by decide +kernel))) (goodIn_sub (fun _ h => List.mem_cons_of_mem _ (List.mem_append_left _ (List.mem_append_left _ (List.mem_append_left _ (List.mem_append_right _ h))))) (by decide +kernel))
set_option maxRecDepth 20000 in
theorem gL_addPredicate_X11_addPredicate : GoodIn wsL_addPredicate (wsV RL 40 RX11 yX11_addPredicate wsX11_addPredicate) := goodIn_app (goodIn_of _ (by decide +kernel)) ggL_addPredicate_X11_addPredicate
theorem dL_addPredicate_0 : decode cL_addPredicate 0 = .ok (.aload 4, 2) := by decide +kernel
theorem dL_addPredicate_2 : decode cL_addPredicate 2 = .ok (.iconst 0, 1) := by decide +kernel
theorem dL_addPredicate_3 : decode cL_addPredicate 3 = .ok (.aload_n 0, 1) := by decide +kernel
theorem dL_addPredicate_4 : decode cL_addPredicate 4 = .ok (.iload_n 1, 1) := by decide +kernel
theorem dL_addPredicate_5 : decode cL_addPredicate 5 = .ok (.iload_n 2, 1) := by decide +kernel
theorem dL_addPredicate_6 : decode cL_addPredicate 6 = .ok (.iload_n 3, 1) := by decide +kernel
theorem dL_addPredicate_7 : decode cL_addPredicate 7 = .ok (.invokevirtual 40, 3) := by decide +kernel
theorem dL_addPredicate_10 : decode cL_addPredicate 10 = .ok (.i2l, 1) := by decide +kernel
theorem dL_addPredicate_11 : decode cL_addPredicate 11 = .ok (.lastore, 1) := by decide +kernel
theorem dL_addPredicate_12 : decode cL_addPredicate 12 = .ok (.goto 15, 3) := by decide +kernel
theorem dL_addPredicate_15 : decode cL_addPredicate 15 = .ok (.astore 5, 2) := by decide +kernel
theorem dL_addPredicate_17 : decode cL_addPredicate 17 = .ok (.iconst 1, 1) := by decide +kernel
theorem dL_addPredicate_18 : decode cL_addPredicate 18 = .ok (.ireturn, 1) := by decide +kernel
theorem dL_addPredicate_27 : decode cL_addPredicate 27 = .ok (.iconst 0, 1) := by decide +kernel
theorem dL_addPredicate_28 : decode cL_addPredicate 28 = .ok (.ireturn, 1) := by decide +kernel
set_option maxRecDepth 20000 in
theorem ggL_addMode_X11_addMode : GoodIn wsL_addMode wsX11_addMode := goodIn_ca (goodIn_ca (goodIn_ca (goodIn_r _ [8, 9, 10, 11, 12, 13, 14, 15, 16, 17, 18, 19, 20, 21, 22, 23, 24, 25, 26, 27, 28, 29, 30, 31, 32, 33, 34, 35, 36, 37, 38, 39, 40, 41, 42, 43, 44, 45, 46, 47, 48, 49, 50, 51, 52, 53, 54, 55, 56, 57, 58, 59, 60, 7, 61, 62, 63, 64, 65, 66, 67, 68, 69, 70, 71, 72, 73, 74, 75, 76, 77, 78, 79, 80, 81, 82, 83, 84, 85, 86, 87, 88, 89, 90, 91, 92, 93, 94, 95, 96, 97, 98, 99, 100, 101, 102, 103, 104, 105, 106, 107, 108, 109, 110, 111, 112, 113, 114, 115, 116, 117, 118, 119, 120, 121, 122, 123, 124, 125, 126, 127, 128, 129, 130, 131, 132, 133, 134, 135, 136, 137, 138, 139, 140, 141, 142, 143, 144, 145, 146, 147, 148, 149, 150, 151, 152, 153, 154, 155, 156, 157, 158, 159, 160, 161, 162, 163, 164, 165, 166, 167, 168, 169, 170, 171] (by decide +kernel) (by decide +kernel)) (goodIn_sub (fun _ h => List.mem_cons_of_mem _ (List.mem_append_left _ (List.mem_append_left _ (List.mem_append_right _ h)))) (by decide +kernel))) (goodIn_sub (fun _ h => List.mem_cons_of_mem _ (List.mem_append_left _ (List.mem_append_right _ h))) (by decide +kernel))) (goodIn_sub (fun _ h => List.mem_cons_of_mem _ (List.mem_append_right _ h)) (by decide +kernel))
set_option maxRecDepth 20000 in
theorem gL_addMode_X11_addMode : GoodIn wsL_addMode (wsV RL 43 RX11 yX11_addMode wsX11_addMode) := goodIn_app (goodIn_of _ (by decide +kernel)) ggL_addMode_X11_addMode
theorem dL_addMode_0 : decode cL_addMode 0 = .ok (.aload 4, 2) := by decide +kernel
theorem dL_addMode_2 : decode cL_addMode 2 = .ok (.iconst 0, 1) := by decide +kernel
theorem dL_addMode_3 : decode cL_addMode 3 = .ok (.aload_n 0, 1) := by decide +kernel
theorem dL_addMode_4 : decode cL_addMode 4 = .ok (.iload_n 1, 1) := by decide +kernel
theorem dL_addMode_5 : decode cL_addMode 5 = .ok (.iload_n 2, 1) := by decide +kernel
theorem dL_addMode_6 : decode cL_addMode 6 = .ok (.iload_n 3, 1) := by decide +kernel
theorem dL_addMode_7 : decode cL_addMode 7 = .ok (.invokevirtual 43, 3) := by decide +kernel
theorem dL_addMode_15 : decode cL_addMode 15 = .ok (.astore 5, 2) := by decide +kernel
theorem dL_addMode_17 : decode cL_addMode 17 = .ok (.iconst 1, 1) := by decide +kernel
theorem dL_addMode_18 : decode cL_addMode 18 = .ok (.ireturn, 1) := by decide +kernel
set_option maxRecDepth 20000 in
theorem ggL_addClause_X11_addClause : GoodIn wsL_addClause wsX11_addClause := goodIn_ca (goodIn_ca (goodIn_ca (goodIn_r _ [7, 8, 9, 10, 11, 12, 13, 14, 15, 16, 17, 18, 19, 20, 21, 22, 23, 24, 25, 26, 27, 28, 29, 30, 31, 32, 33, 34, 35, 36, 37, 38, 39, 40, 41, 42, 43, 44, 45, 46, 47, 48, 49, 50, 51, 52, 53, 54, 55, 56, 57, 58, 59, 60, 61, 62, 63, 64, 65, 66, 67, 68, 69, 70, 71, 72, 73, 74, 75, 76, 77, 78, 79, 80, 81, 82, 83, 84, 85, 86, 87, 88, 89, 90, 91, 92, 93, 94, 95, 96, 97, 98, 99, 100, 101, 102, 103, 104, 105, 106, 107, 108, 109, 110, 111, 112, 113, 114, 115, 116, 117, 118, 119, 120, 121, 122, 123, 124, 125, 126, 127, 128, 129, 130, 131, 132, 133, 134, 135, 136, 137, 138, 139, 140, 141, 142, 143, 144, 145, 146, 147, 148, 149, 150, 151, 152, 153, 154, 155, 156, 157, 158, 159, 160, 161, 162, 163, 164, 165, 166, 167, 168, 169, 170, 171, 172, 173, 174, 175, 176, 177, 178, 179, 180, 181, 182, 183, 184, 185, 186, 187, 188, 189, 190, 191, 192, 193, 194, 195, 196, 197, 198, 199, 200, 201, 202, 203, 204, 205, 206, 207, 208, 209, 210, 211, 212, 213, 214, 215, 216, 217, 218, 219, 220, 221, 222, 223, 224, 225, 226, 227, 228, 229, 230, 231, 232, 233] (by decide +kernel) (by decide +kernel)) (goodIn_sub (fun _ h => List.mem_cons_of_mem _ (List.mem_append_left _ (List.mem_append_right _ h))) (by decide +kernel))) (goodIn_sub (fun _ h => List.mem_cons_of_mem _ (List.mem_append_right _ h)) (by decide +kernel))) (goodIn_sub (fun _ h => List.mem_cons_of_mem _ (List.mem_append_left _ (List.mem_append_left _ (List.mem_append_right _ h)))) (by decide +kernel))
set_option maxRecDepth 20000 in
theorem gL_addClause_X11_addClause : GoodIn wsL_addClause (wsV RL 47 RX11 yX11_addClause wsX11_addClause) := goodIn_app (goodIn_of _ (by decide +kernel)) ggL_addClause_X11_addClause
theorem dL_addClause_0 : decode cL_addClause 0 = .ok (.aload_n 2, 1) := by decide +kernel
theorem dL_addClause_1 : decode cL_addClause 1 = .ok (.iconst 0, 1) := by decide +kernel
theorem dL_addClause_2 : decode cL_addClause 2 = .ok (.aload_n 0, 1) := by decide +kernel
theorem dL_addClause_3 : decode cL_addClause 3 = .ok (.iload_n 1, 1) := by decide +kernel
theorem dL_addClause_4 : decode cL_addClause 4 = .ok (.invokevirtual 47, 3) := by decide +kernel
theorem dL_addClause_12 : decode cL_addClause 12 = .ok (.astore_n 3, 1) := by decide +kernel
theorem dL_addClause_13 : decode cL_addClause 13 = .ok (.iconst 1, 1) := by decide +kernel
theorem dL_addClause_14 : decode cL_addClause 14 = .ok (.ireturn, 1) := by decide +kernel
set_option maxRecDepth 20000 in
theorem ggL_addBuild_X11_addBuild : GoodIn wsL_addBuild wsX11_addBuild := goodIn_ca (goodIn_ca (goodIn_ca (goodIn_ca (goodIn_r _ [8, 9, 10, 11, 12, 13, 14, 15, 16, 17, 18, 19, 20, 21, 22, 23, 24, 25, 26, 27, 28, 29, 30, 31, 32, 33, 34, 35, 36, 37, 38, 39, 40, 41, 42, 43, 44, 45, 46, 47, 48, 49, 50, 51, 52, 53, 54, 55, 56, 57, 58, 59, 7, 60, 61, 62, 63, 64, 65, 66, 67, 68, 69, 70, 71, 72, 73, 74, 75, 76, 77, 78, 79, 80, 81, 82, 83, 84, 85, 86, 87, 88, 89, 90, 91, 92, 93, 94, 95, 96, 97, 98, 99, 100, 101, 102, 103, 104, 105, 106, 107, 108, 109, 110, 111, 112, 113, 114, 115, 116, 117, 118, 119, 120, 121, 122, 123, 124, 125, 126, 127, 128, 129, 130, 131, 132, 133, 134, 135, 136, 137, 138, 139, 140, 141, 142, 143, 144, 145, 146, 147, 148, 149, 150, 151, 152, 153, 154, 155, 156, 157, 158, 159, 160, 161, 162, 163, 164, 165, 166, 167, 168, 169, 170, 171, 172, 173, 174, 175, 176, 177, 178, 179, 180, 181, 182, 183, 184, 185, 186, 187, 188, 189, 190, 191, 192, 193, 194, 195, 196, 197, 198, 199, 200, 201, 202, 203, 204, 205, 206, 207, 208, 209, 210, 211, 212, 213, 214, 215, 216, 217, 218, 219, 220, 221, 222, 223] (by decide +kernel) (by decide +kernel)) (goodIn_sub (fun _ h => List.mem_cons_of_mem _ (List.mem_append_left _ (List.mem_append_left _ (List.mem_append_right _ h)))) (by decide +kernel))) (goodIn_sub (fun _ h => List.mem_cons_of_mem _ (List.mem_append_left _ (List.mem_append_left _ (List.mem_append_left _ (List.mem_append_right _ h))))) (by decide +kernel))) (goodIn_sub (fun _ h => List.mem_cons_of_mem _ (List.mem_append_left _ (List.mem_append_right _ h))) (by decide +kernel))) (goodIn_sub (fun _ h => List.mem_cons_of_mem _ (List.mem_append_right _ h)) (by decide +kernel))
set_option maxRecDepth 20000 in
theorem gL_addBuild_X11_addBuild : GoodIn wsL_addBuild (wsV RL 50 RX11 yX11_addBuild wsX11_addBuild) := goodIn_app (goodIn_of _ (by decide +kernel)) ggL_addBuild_X11_addBuild
theorem dL_addBuild_0 : decode cL_addBuild 0 = .ok (.aload 6, 2) := by decide +kernel
theorem dL_addBuild_2 : decode cL_addBuild 2 = .ok (.iconst 0, 1) := by decide +kernel
theorem dL_addBuild_3 : decode cL_addBuild 3 = .ok (.aload_n 0, 1) := by decide +kernel
theorem dL_addBuild_4 : decode cL_addBuild 4 = .ok (.iload_n 1, 1) := by decide +kernel
theorem dL_addBuild_5 : decode cL_addBuild 5 = .ok (.iload_n 2, 1) := by decide +kernel
theorem dL_addBuild_6 : decode cL_addBuild 6 = .ok (.iload_n 3, 1) := by decide +kernel
theorem dL_addBuild_7 : decode cL_addBuild 7 = .ok (.iload 4, 2) := by decide +kernel
theorem dL_addBuild_9 : decode cL_addBuild 9 = .ok (.iload 5, 2) := by decide +kernel
theorem dL_addBuild_11 : decode cL_addBuild 11 = .ok (.invokevirtual 50, 3) := by decide +kernel
theorem dL_addBuild_19 : decode cL_addBuild 19 = .ok (.astore 7, 2) := by decide +kernel
theorem dL_addBuild_21 : decode cL_addBuild 21 = .ok (.iconst 1, 1) := by decide +kernel
theorem dL_addBuild_22 : decode cL_addBuild 22 = .ok (.ireturn, 1) := by decide +kernel
set_option maxRecDepth 20000 in
theorem ggL_addSame_X11_addSame : GoodIn wsL_addSame wsX11_addSame := goodIn_ca (goodIn_ca (goodIn_ca (goodIn_ca (goodIn_r _ [8, 9, 10, 11, 12, 13, 14, 15, 16, 17, 18, 19, 20, 21, 22, 23, 24, 25, 26, 27, 28, 29, 30, 31, 32, 33, 34, 35, 36, 37, 38, 39, 40, 41, 42, 43, 44, 45, 46, 47, 48, 7, 49, 50, 51, 52, 53, 54, 55, 56, 57, 58, 59, 60, 61, 62, 63, 64, 65, 66, 67, 68, 69, 70, 71, 72, 73, 74, 75, 76, 77, 78, 79, 80, 81, 82, 83, 84, 85, 86, 87, 88, 89, 90, 91, 92, 93, 94, 95, 96, 97, 98, 99, 100, 101, 102, 103, 104, 105, 106, 107, 108, 109, 110, 111, 112, 113, 114, 115, 116, 117, 118, 119, 120, 121, 122, 123, 124, 125, 126, 127, 128, 129, 130, 131, 132, 133, 134, 135, 136, 137, 138, 139, 140, 141, 142, 143, 144, 145, 146, 147, 148, 149, 150, 151, 152, 153, 154, 155, 156, 157, 158, 159, 160, 161, 162, 163, 164, 165, 166, 167, 168, 169, 170, 171, 172, 173, 174, 175, 176, 177, 178, 179, 180, 181, 182, 183, 184, 185, 186, 187, 188, 189, 190, 191, 192, 193, 194, 195] (by decide +kernel) (by decide +kernel)) (goodIn_sub (fun _ h => List.mem_cons_of_mem _ (List.mem_append_left _ (List.mem_append_left _ (List.mem_append_right _ h)))) (by decide +kernel))) (goodIn_sub (fun _ h => List.mem_cons_of_mem _ (List.mem_append_left _ (List.mem_append_right _ h))) (by decide +kernel))) (goodIn_sub (fun _ h => List.mem_cons_of_mem _ (List.mem_append_left _ (List.mem_append_left _ (List.mem_append_left _ (List.mem_append_right _ h))))) (by decide +kernel))) (goodIn_sub (fun _ h => List.mem_cons_of_mem _ (List.mem_append_right _ h)) (by decide +kernel))
set_option maxRecDepth 20000 in
theorem gL_addSame_X11_addSame : GoodIn wsL_addSame (wsV RL 54 RX11 yX11_addSame wsX11_addSame) := goodIn_app (goodIn_of _ (by decide +kernel)) ggL_addSame_X11_addSame
theorem dL_addSame_0 : decode cL_addSame 0 = .ok (.aload 4, 2) := by decide +kernel
theorem dL_addSame_2 : decode cL_addSame 2 = .ok (.iconst 0, 1) := by decide +kernel
theorem dL_addSame_3 : decode cL_addSame 3 = .ok (.aload_n 0, 1) := by decide +kernel
theorem dL_addSame_4 : decode cL_addSame 4 = .ok (.iload_n 1, 1) := by decide +kernel
theorem dL_addSame_5 : decode cL_addSame 5 = .ok (.iload_n 2, 1) := by decide +kernel
theorem dL_addSame_6 : decode cL_addSame 6 = .ok (.iload_n 3, 1) := by decide +kernel
theorem dL_addSame_7 : decode cL_addSame 7 = .ok (.invokevirtual 54, 3) := by decide +kernel
theorem dL_addSame_15 : decode cL_addSame 15 = .ok (.astore 5, 2) := by decide +kernel
theorem dL_addSame_17 : decode cL_addSame 17 = .ok (.iconst 1, 1) := by decide +kernel
theorem dL_addSame_18 : decode cL_addSame 18 = .ok (.ireturn, 1) := by decide +kernel
set_option maxRecDepth 20000 in
theorem ggL_addCall_X11_addCall : GoodIn wsL_addCall wsX11_addCall := goodIn_ca (goodIn_ca (goodIn_ca (goodIn_ca (goodIn_r _ [8, 9, 10, 11, 12, 13, 14, 15, 16, 17, 18, 19, 20, 21, 22, 23, 24, 25, 26, 27, 28, 29, 30, 31, 32, 33, 34, 35, 36, 37, 38, 39, 40, 41, 42, 43, 44, 45, 46, 47, 48, 49, 50, 51, 52, 7, 53, 54, 55, 56, 57, 58, 59, 60, 61, 62, 63, 64, 65, 66, 67, 68, 69, 70, 71, 72, 73, 74, 75, 76, 77, 78, 79, 80, 81, 82, 83, 84, 85, 86, 87, 88, 89, 90, 91, 92, 93, 94, 95, 96, 97, 98, 99, 100, 101, 102, 103, 104, 105, 106, 107, 108, 109, 110, 111, 112, 113, 114, 115, 116, 117, 118, 119, 120, 121, 122, 123, 124, 125, 126, 127, 128, 129, 130, 131, 132, 133, 134, 135, 136, 137, 138, 139, 140, 141, 142, 143, 144, 145, 146, 147, 148, 149, 150, 151, 152, 153, 154, 155, 156, 157, 158, 159, 160, 161, 162, 163, 164, 165, 166, 167, 168, 169, 170, 171, 172, 173, 174, 175, 176, 177, 178, 179, 180, 181, 182, 183, 184, 185, 186, 187, 188, 189, 190, 191, 192, 193, 194, 195, 196, 197, 198, 199, 200, 201, 202, 203, 204, 205, 206, 207, 208, 209, 210, 211, 212, 213, 214, 215, 216, 217, 218, 219, 220] (by decide +kernel) (by decide +kernel)) (goodIn_sub (fun _ h => List.mem_cons_of_mem _ (List.mem_append_left _ (List.mem_append_left _ (List.mem_append_right _ h)))) (by decide +kernel))) (goodIn_sub (fun _ h => List.mem_cons_of_mem _ (List.mem_append_left _ (List.mem_append_left _ (List.mem_append_left _ (List.mem_append_right _ h))))) (by decide +kernel))) (goodIn_sub (fun _ h => List.mem_cons_of_mem _ (List.mem_append_left _ (List.mem_append_right _ h))) (by decide +kernel))) (goodIn_sub (fun _ h => List.mem_cons_of_mem _ (List.mem_append_right _ h)) (by decide +kernel))
set_option maxRecDepth 20000 in
theorem gL_addCall_X11_addCall : GoodIn wsL_addCall (wsV RL 57 RX11 yX11_addCall wsX11_addCall) := goodIn_app (goodIn_of _ (by decide +kernel)) ggL_addCall_X11_addCall
theorem dL_addCall_0 : decode cL_addCall 0 = .ok (.aload 7, 2) := by decide +kernel
theorem dL_addCall_2 : decode cL_addCall 2 = .ok (.iconst 0, 1) := by decide +kernel
theorem dL_addCall_3 : decode cL_addCall 3 = .ok (.aload_n 0, 1) := by decide +kernel
theorem dL_addCall_4 : decode cL_addCall 4 = .ok (.iload_n 1, 1) := by decide +kernel
theorem dL_addCall_5 : decode cL_addCall 5 = .ok (.iload_n 2, 1) := by decide +kernel
theorem dL_addCall_6 : decode cL_addCall 6 = .ok (.iload_n 3, 1) := by decide +kernel
theorem dL_addCall_7 : decode cL_addCall 7 = .ok (.iload 4, 2) := by decide +kernel
theorem dL_addCall_9 : decode cL_addCall 9 = .ok (.iload 5, 2) := by decide +kernel
theorem dL_addCall_11 : decode cL_addCall 11 = .ok (.iload 6, 2) := by decide +kernel
theorem dL_addCall_13 : decode cL_addCall 13 = .ok (.invokevirtual 57, 3) := by decide +kernel
theorem dL_addCall_21 : decode cL_addCall 21 = .ok (.astore 8, 2) := by decide +kernel
theorem dL_addCall_23 : decode cL_addCall 23 = .ok (.iconst 1, 1) := by decide +kernel
theorem dL_addCall_24 : decode cL_addCall 24 = .ok (.ireturn, 1) := by decide +kernel
set_option maxRecDepth 20000 in
theorem ggL_compile_X11_compile : GoodIn wsL_compile wsX11_compile := goodIn_ca (goodIn_ca (goodIn_r _ [6, 7, 8, 9, 10, 11, 12, 13, 14, 15, 16, 17, 18, 19, 20, 21, 22, 23, 24, 25, 26, 27, 28, 29, 30, 31, 32, 33, 34, 35, 36, 37, 38, 39, 40, 41, 42, 43, 44, 45, 46, 47, 48, 49, 50, 51, 52, 53, 54, 55, 56, 57, 58, 59, 60, 61, 62, 63, 64, 65, 66, 67, 68, 69, 70, 71, 72, 73, 74, 75, 76, 77, 78, 79, 80, 81, 82, 83, 84, 85, 86, 87, 88, 89, 90, 91, 92, 93, 94, 95, 96, 97, 98, 99, 100, 101, 102, 103, 104, 105, 106, 107, 108, 109, 110, 111, 112, 113, 114, 115, 116, 117, 118, 119, 120, 121, 122, 123, 124, 125, 126, 127, 128, 129, 130, 131, 132, 133, 134, 135, 136, 137, 138, 139, 140, 141, 142, 143, 144, 145, 146, 147, 148, 149, 150, 151, 152, 153, 154, 155, 156, 157, 158, 159, 160, 161, 162, 163, 164, 165, 166, 167, 168, 169, 170, 171, 172, 173, 174, 175, 176, 177, 178, 179, 180, 181, 182, 183, 184, 185, 186, 187, 188, 189, 190, 191, 192, 193, 194, 195, 196, 197, 198, 199, 200, 201, 202, 203, 204, 205, 206, 207, 208, 209, 210, 211, 212, 213, 214, 215, 216, 217, 218, 219, 220, 221, 222, 223, 224, 225, 226, 227, 228, 229, 230, 231, 232, 233, 234, 235, 236, 237, 238, 239, 240, 241, 242, 243, 244, 245, 246, 247, 248, 249, 250, 251, 252, 253, 254, 255, 256, 257, 258, 259, 260, 261, 262, 263, 264, 265, 266, 267, 268, 269, 270, 271, 272, 273, 274, 275, 276, 277, 278, 279, 280, 281, 282, 283, 284, 285, 286, 287, 288, 289, 290, 291, 292, 293, 294, 295, 296, 297, 298] (by decide +kernel) (by decide +kernel)) (goodIn_sub (fun _ h => List.mem_cons_of_mem _ (List.mem_append_right _ h)) (by decide +kernel))) (goodIn_sub (fun _ h => List.mem_cons_of_mem _ (List.mem_append_left _ (List.mem_append_right _ h))) (by decide +kernel))
set_option maxRecDepth 20000 in
theorem gL_compile_X11_compile : GoodIn wsL_compile (wsV RL 61 RX11 yX11_compile wsX11_compile) := goodIn_app (goodIn_of _ (by decide +kernel)) ggL_compile_X11_compile
theorem dL_compile_0 : decode cL_compile 0 = .ok (.aload_n 1, 1) := by decide +kernel
theorem dL_compile_1 : decode cL_compile 1 = .ok (.iconst 0, 1) := by decide +kernel
theorem dL_compile_2 : decode cL_compile 2 = .ok (.aload_n 0, 1) := by decide +kernel
theorem dL_compile_3 : decode cL_compile 3 = .ok (.invokevirtual 61, 3) := by decide +kernel
theorem dL_compile_6 : decode cL_compile 6 = .ok (.i2l, 1) := by decide +kernel
theorem dL_compile_7 : decode cL_compile 7 = .ok (.lastore, 1) := by decide +kernel
theorem dL_compile_8 : decode cL_compile 8 = .ok (.goto 6, 3) := by decide +kernel
theorem dL_compile_14 : decode cL_compile 14 = .ok (.iconst 0, 1) := by decide +kernel
theorem dL_compile_15 : decode cL_compile 15 = .ok (.ireturn, 1) := by decide +kernel
set_option maxRecDepth 20000 in
theorem ggL_open_X11_open : GoodIn wsL_open wsX11_open := goodIn_ca (goodIn_r _ [6, 7, 8, 9, 10, 11, 12, 5, 13, 14, 15, 16, 17, 18, 19, 20, 21, 22, 23, 24] (by decide +kernel) (by decide +kernel)) (goodIn_sub (fun _ h => List.mem_cons_of_mem _ (List.mem_append_right _ h)) (by decide +kernel))
set_option maxRecDepth 20000 in
theorem gL_open_X11_open : GoodIn wsL_open (wsV RL 64 RX11 yX11_open wsX11_open) := goodIn_app (goodIn_of _ (by decide +kernel)) ggL_open_X11_open
theorem dL_open_0 : decode cL_open 0 = .ok (.aload_n 1, 1) := by decide +kernel
theorem dL_open_1 : decode cL_open 1 = .ok (.iconst 0, 1) := by decide +kernel
theorem dL_open_2 : decode cL_open 2 = .ok (.aload_n 0, 1) := by decide +kernel
theorem dL_open_3 : decode cL_open 3 = .ok (.invokevirtual 64, 3) := by decide +kernel
theorem dL_open_11 : decode cL_open 11 = .ok (.astore_n 2, 1) := by decide +kernel
theorem dL_open_12 : decode cL_open 12 = .ok (.iconst 1, 1) := by decide +kernel
theorem dL_open_13 : decode cL_open 13 = .ok (.ireturn, 1) := by decide +kernel
set_option maxRecDepth 20000 in
theorem ggL_fault_X11_fault : GoodIn wsL_fault wsX11_fault := goodIn_ca (goodIn_ca (goodIn_r _ [7, 8, 9, 10, 6, 11, 12, 13, 14, 15, 16, 17, 18, 19, 20, 21, 22, 23, 24, 25, 26, 27, 28, 29, 30, 31, 32, 33, 34, 35, 36, 37, 38, 39, 40, 41, 42, 43, 44, 45, 46, 47, 48, 49, 50, 51, 52, 53, 54, 55, 56, 57, 58, 59, 60, 61, 62, 63, 64, 65, 66, 67, 68, 69, 70, 71, 72, 73, 74, 75, 76, 77, 78, 79, 80, 81, 82, 83, 84, 85, 86, 87, 88, 89, 90, 91, 92, 93, 94, 95, 96, 97, 98, 99, 100, 101, 102, 103, 104, 105, 106, 107] (by decide +kernel) (by decide +kernel)) (goodIn_sub (fun _ h => List.mem_cons_of_mem _ (List.mem_append_left _ (List.mem_append_right _ h))) (by decide +kernel))) (goodIn_sub (fun _ h => List.mem_cons_of_mem _ (List.mem_append_right _ h)) (by decide +kernel))
set_option maxRecDepth 20000 in
theorem gL_fault_X11_fault : GoodIn wsL_fault (wsV RL 67 RX11 yX11_fault wsX11_fault) := goodIn_app (goodIn_of _ (by decide +kernel)) ggL_fault_X11_fault
theorem dL_fault_0 : decode cL_fault 0 = .ok (.aload_n 3, 1) := by decide +kernel
theorem dL_fault_1 : decode cL_fault 1 = .ok (.iconst 0, 1) := by decide +kernel
theorem dL_fault_2 : decode cL_fault 2 = .ok (.aload_n 0, 1) := by decide +kernel
theorem dL_fault_3 : decode cL_fault 3 = .ok (.iload_n 1, 1) := by decide +kernel
theorem dL_fault_4 : decode cL_fault 4 = .ok (.iload_n 2, 1) := by decide +kernel
theorem dL_fault_5 : decode cL_fault 5 = .ok (.invokevirtual 67, 3) := by decide +kernel
theorem dL_fault_13 : decode cL_fault 13 = .ok (.astore 4, 2) := by decide +kernel
theorem dL_fault_15 : decode cL_fault 15 = .ok (.iconst 1, 1) := by decide +kernel
theorem dL_fault_16 : decode cL_fault 16 = .ok (.ireturn, 1) := by decide +kernel
set_option maxRecDepth 20000 in
theorem ggL_isGood_X11_isGood : GoodIn wsL_isGood wsX11_isGood := goodIn_ca (goodIn_ca (goodIn_r _ [7, 8, 9, 10, 6, 11, 12, 13, 14, 15, 16, 17, 18, 19, 20, 21, 22, 23, 24, 25, 26, 27, 28, 29, 30, 31, 32, 33, 34, 35, 36, 37, 38, 39, 40, 41, 42, 43, 44, 45, 46, 47, 48, 49, 50, 51, 52, 53, 54, 55, 56, 57, 58, 59, 60, 61, 62, 63, 64, 65, 66, 67, 68, 69, 70, 71, 72, 73, 74, 75, 76, 77, 78, 79, 80, 81, 82, 83, 84, 85, 86, 87, 88, 89, 90, 91, 92, 93] (by decide +kernel) (by decide +kernel)) (goodIn_sub (fun _ h => List.mem_cons_of_mem _ (List.mem_append_left _ (List.mem_append_right _ h))) (by decide +kernel))) (goodIn_sub (fun _ h => List.mem_cons_of_mem _ (List.mem_append_right _ h)) (by decide +kernel))
set_option maxRecDepth 20000 in
theorem gL_isGood_X11_isGood : GoodIn wsL_isGood (wsV RL 71 RX11 yX11_isGood wsX11_isGood) := goodIn_app (goodIn_of _ (by decide +kernel)) ggL_isGood_X11_isGood
theorem dL_isGood_0 : decode cL_isGood 0 = .ok (.aload_n 3, 1) := by decide +kernel
theorem dL_isGood_1 : decode cL_isGood 1 = .ok (.iconst 0, 1) := by decide +kernel
theorem dL_isGood_2 : decode cL_isGood 2 = .ok (.aload_n 0, 1) := by decide +kernel
theorem dL_isGood_3 : decode cL_isGood 3 = .ok (.iload_n 1, 1) := by decide +kernel
theorem dL_isGood_4 : decode cL_isGood 4 = .ok (.iload_n 2, 1) := by decide +kernel
theorem dL_isGood_5 : decode cL_isGood 5 = .ok (.invokevirtual 71, 3) := by decide +kernel
theorem dL_isGood_20 : decode cL_isGood 20 = .ok (.astore 4, 2) := by decide +kernel
theorem dL_isGood_22 : decode cL_isGood 22 = .ok (.iconst 1, 1) := by decide +kernel
theorem dL_isGood_23 : decode cL_isGood 23 = .ok (.ireturn, 1) := by decide +kernel
set_option maxRecDepth 20000 in
theorem ggL_found_X11_found : GoodIn wsL_found wsX11_found := goodIn_ca (goodIn_ca (goodIn_ca (goodIn_r _ [8, 9, 10, 11, 12, 13, 7, 14, 15, 16, 17, 18, 19, 20, 21, 22, 23, 24, 25, 26, 27, 28, 29, 30, 31, 32, 33, 34, 35, 36, 37, 38, 39, 40, 41, 42, 43, 44, 45, 46, 47, 48, 49, 50, 51, 52, 53, 54, 55, 56, 57, 58, 59, 60, 61, 62, 63, 64, 65, 66, 67, 68, 69, 70, 71, 72, 73, 74, 75, 76, 77, 78, 79, 80, 81, 82, 83, 84, 85, 86, 87, 88, 89, 90, 91, 92, 93, 94, 95, 96, 97, 98, 99, 100, 101, 102, 103] (by decide +kernel) (by decide +kernel)) (goodIn_sub (fun _ h => List.mem_cons_of_mem _ (List.mem_append_left _ (List.mem_append_left _ (List.mem_append_right _ h)))) (by decide +kernel))) (goodIn_sub (fun _ h => List.mem_cons_of_mem _ (List.mem_append_left _ (List.mem_append_right _ h))) (by decide +kernel))) (goodIn_sub (fun _ h => List.mem_cons_of_mem _ (List.mem_append_right _ h)) (by decide +kernel))
set_option maxRecDepth 20000 in
theorem gL_found_X11_found : GoodIn wsL_found (wsV RL 75 RX11 yX11_found wsX11_found) := goodIn_app (goodIn_of _ (by decide +kernel)) ggL_found_X11_found
theorem dL_found_0 : decode cL_found 0 = .ok (.aload_n 3, 1) := by decide +kernel
theorem dL_found_1 : decode cL_found 1 = .ok (.iconst 0, 1) := by decide +kernel
theorem dL_found_2 : decode cL_found 2 = .ok (.aload_n 0, 1) := by decide +kernel
theorem dL_found_3 : decode cL_found 3 = .ok (.iload_n 1, 1) := by decide +kernel
theorem dL_found_4 : decode cL_found 4 = .ok (.iload_n 2, 1) := by decide +kernel
theorem dL_found_5 : decode cL_found 5 = .ok (.invokevirtual 75, 3) := by decide +kernel
theorem dL_found_13 : decode cL_found 13 = .ok (.astore 4, 2) := by decide +kernel
theorem dL_found_15 : decode cL_found 15 = .ok (.iconst 1, 1) := by decide +kernel
theorem dL_found_16 : decode cL_found 16 = .ok (.ireturn, 1) := by decide +kernel
set_option maxRecDepth 20000 in
theorem ggL_switchOf_X11_switchOf : GoodIn wsL_switchOf wsX11_switchOf := goodIn_ca (goodIn_ca (goodIn_ca (goodIn_r _ [8, 9, 10, 11, 12, 13, 7, 14, 15, 16, 17, 18, 19, 20, 21, 22, 23, 24, 25, 26, 27, 28, 29, 30, 31, 32, 33, 34, 35, 36, 37, 38, 39, 40, 41, 42, 43, 44, 45, 46, 47, 48, 49, 50, 51, 52, 53, 54, 55, 56, 57, 58, 59, 60, 61, 62, 63, 64, 65, 66, 67, 68, 69, 70, 71, 72, 73, 74, 75, 76, 77, 78, 79, 80, 81, 82, 83, 84, 85, 86, 87, 88, 89, 90, 91, 92, 93, 94, 95, 96] (by decide +kernel) (by decide +kernel)) (goodIn_sub (fun _ h => List.mem_cons_of_mem _ (List.mem_append_left _ (List.mem_append_left _ (List.mem_append_right _ h)))) (by decide +kernel))) (goodIn_sub (fun _ h => List.mem_cons_of_mem _ (List.mem_append_left _ (List.mem_append_right _ h))) (by decide +kernel))) (goodIn_sub (fun _ h => List.mem_cons_of_mem _ (List.mem_append_right _ h)) (by decide +kernel))
set_option maxRecDepth 20000 in
theorem gL_switchOf_X11_switchOf : GoodIn wsL_switchOf (wsV RL 78 RX11 yX11_switchOf wsX11_switchOf) := goodIn_app (goodIn_of _ (by decide +kernel)) ggL_switchOf_X11_switchOf
theorem dL_switchOf_0 : decode cL_switchOf 0 = .ok (.aload_n 3, 1) := by decide +kernel
theorem dL_switchOf_1 : decode cL_switchOf 1 = .ok (.iconst 0, 1) := by decide +kernel
theorem dL_switchOf_2 : decode cL_switchOf 2 = .ok (.aload_n 0, 1) := by decide +kernel
theorem dL_switchOf_3 : decode cL_switchOf 3 = .ok (.iload_n 1, 1) := by decide +kernel
theorem dL_switchOf_4 : decode cL_switchOf 4 = .ok (.iload_n 2, 1) := by decide +kernel
theorem dL_switchOf_5 : decode cL_switchOf 5 = .ok (.invokevirtual 78, 3) := by decide +kernel
theorem dL_switchOf_13 : decode cL_switchOf 13 = .ok (.astore 4, 2) := by decide +kernel
theorem dL_switchOf_15 : decode cL_switchOf 15 = .ok (.iconst 1, 1) := by decide +kernel
theorem dL_switchOf_16 : decode cL_switchOf 16 = .ok (.ireturn, 1) := by decide +kernel
set_option maxRecDepth 20000 in
theorem ggL_goalAt_X11_goalAt : GoodIn wsL_goalAt wsX11_goalAt := goodIn_ca (goodIn_ca (goodIn_ca (goodIn_ca (goodIn_r _ [8, 9, 10, 11, 12, 13, 7, 14, 15, 16, 17, 18, 19, 20, 21, 22, 23, 24, 25, 26, 27, 28, 29, 30, 31, 32, 33, 34, 35, 36, 37, 38, 39, 40, 41, 42, 43, 44, 45, 46, 47, 48, 49, 50, 51, 52, 53, 54, 55, 56, 57, 58, 59, 60, 61, 62, 63, 64, 65, 66, 67, 68, 69, 70, 71, 72, 73, 74, 75, 76, 77, 78, 79, 80, 81, 82, 83, 84, 85, 86, 87, 88, 89, 90, 91, 92, 93, 94, 95, 96, 97, 98, 99, 100, 101, 102, 103] (by decide +kernel) (by decide +kernel)) (goodIn_sub (fun _ h => List.mem_cons_of_mem _ (List.mem_append_left _ (List.mem_append_left _ (List.mem_append_right _ h)))) (by decide +kernel))) (goodIn_sub (fun _ h => List.mem_cons_of_mem _ (List.mem_append_left _ (List.mem_append_right _ h))) (by decide +kernel))) (goodIn_sub (fun _ h => List.mem_cons_of_mem _ (List.mem_append_right _ h)) (by decide +kernel))) (goodIn_sub (fun _ h => List.mem_cons_of_mem _ (List.mem_append_left _ (List.mem_append_left _ (List.mem_append_left _ (List.mem_append_right _ h))))) (by decide +kernel))
set_option maxRecDepth 20000 in
theorem gL_goalAt_X11_goalAt : GoodIn wsL_goalAt (wsV RL 81 RX11 yX11_goalAt wsX11_goalAt) := goodIn_app (goodIn_of _ (by decide +kernel)) ggL_goalAt_X11_goalAt
theorem dL_goalAt_0 : decode cL_goalAt 0 = .ok (.aload 4, 2) := by decide +kernel
theorem dL_goalAt_2 : decode cL_goalAt 2 = .ok (.iconst 0, 1) := by decide +kernel
theorem dL_goalAt_3 : decode cL_goalAt 3 = .ok (.aload_n 0, 1) := by decide +kernel
theorem dL_goalAt_4 : decode cL_goalAt 4 = .ok (.iload_n 1, 1) := by decide +kernel
theorem dL_goalAt_5 : decode cL_goalAt 5 = .ok (.iload_n 2, 1) := by decide +kernel
theorem dL_goalAt_6 : decode cL_goalAt 6 = .ok (.iload_n 3, 1) := by decide +kernel
theorem dL_goalAt_7 : decode cL_goalAt 7 = .ok (.invokevirtual 81, 3) := by decide +kernel
theorem dL_goalAt_15 : decode cL_goalAt 15 = .ok (.astore 5, 2) := by decide +kernel
theorem dL_goalAt_17 : decode cL_goalAt 17 = .ok (.iconst 1, 1) := by decide +kernel
theorem dL_goalAt_18 : decode cL_goalAt 18 = .ok (.ireturn, 1) := by decide +kernel
set_option maxRecDepth 20000 in
theorem ggL_chosenAt_X11_chosenAt : GoodIn wsL_chosenAt wsX11_chosenAt := goodIn_ca (goodIn_ca (goodIn_ca (goodIn_ca (goodIn_r _ [8, 9, 10, 11, 12, 13, 7, 14, 15, 16, 17, 18, 19, 20, 21, 22, 23, 24, 25, 26, 27, 28, 29, 30, 31, 32, 33, 34, 35, 36, 37, 38, 39, 40, 41, 42, 43, 44, 45, 46, 47, 48, 49, 50, 51, 52, 53, 54, 55, 56, 57, 58, 59, 60, 61, 62, 63, 64, 65, 66, 67, 68, 69, 70, 71, 72, 73, 74, 75, 76, 77, 78, 79, 80, 81, 82, 83, 84, 85, 86, 87, 88, 89, 90, 91, 92, 93, 94, 95, 96, 97, 98, 99, 100, 101, 102, 103, 104, 105, 106, 107, 108, 109, 110, 111, 112] (by decide +kernel) (by decide +kernel)) (goodIn_sub (fun _ h => List.mem_cons_of_mem _ (List.mem_append_left _ (List.mem_append_left _ (List.mem_append_right _ h)))) (by decide +kernel))) (goodIn_sub (fun _ h => List.mem_cons_of_mem _ (List.mem_append_left _ (List.mem_append_right _ h))) (by decide +kernel))) (goodIn_sub (fun _ h => List.mem_cons_of_mem _ (List.mem_append_right _ h)) (by decide +kernel))) (goodIn_sub (fun _ h => List.mem_cons_of_mem _ (List.mem_append_left _ (List.mem_append_left _ (List.mem_append_left _ (List.mem_append_right _ h))))) (by decide +kernel))
set_option maxRecDepth 20000 in
theorem gL_chosenAt_X11_chosenAt : GoodIn wsL_chosenAt (wsV RL 84 RX11 yX11_chosenAt wsX11_chosenAt) := goodIn_app (goodIn_of _ (by decide +kernel)) ggL_chosenAt_X11_chosenAt
theorem dL_chosenAt_0 : decode cL_chosenAt 0 = .ok (.aload 4, 2) := by decide +kernel
theorem dL_chosenAt_2 : decode cL_chosenAt 2 = .ok (.iconst 0, 1) := by decide +kernel
theorem dL_chosenAt_3 : decode cL_chosenAt 3 = .ok (.aload_n 0, 1) := by decide +kernel
theorem dL_chosenAt_4 : decode cL_chosenAt 4 = .ok (.iload_n 1, 1) := by decide +kernel
theorem dL_chosenAt_5 : decode cL_chosenAt 5 = .ok (.iload_n 2, 1) := by decide +kernel
theorem dL_chosenAt_6 : decode cL_chosenAt 6 = .ok (.iload_n 3, 1) := by decide +kernel
theorem dL_chosenAt_7 : decode cL_chosenAt 7 = .ok (.invokevirtual 84, 3) := by decide +kernel
theorem dL_chosenAt_15 : decode cL_chosenAt 15 = .ok (.astore 5, 2) := by decide +kernel
theorem dL_chosenAt_17 : decode cL_chosenAt 17 = .ok (.iconst 1, 1) := by decide +kernel
theorem dL_chosenAt_18 : decode cL_chosenAt 18 = .ok (.ireturn, 1) := by decide +kernel
set_option maxRecDepth 20000 in
theorem ggL_ask_X11_ask : GoodIn wsL_ask wsX11_ask := goodIn_ca (goodIn_ca (goodIn_ca (goodIn_ca (goodIn_ca (goodIn_r _ [9, 10, 11, 12, 13, 14, 15, 16, 17, 18, 19, 20, 21, 22, 23, 24, 25, 26, 27, 28, 29, 30, 31, 32, 33, 34, 35, 36, 37, 38, 39, 40, 41, 42, 43, 44, 45, 46, 47, 48, 49, 50, 51, 52, 53, 54, 55, 56, 57, 58, 59, 60, 61, 62, 63, 64, 65, 66, 67, 8, 68, 69, 70, 71, 72, 73, 74, 75, 76, 77, 78, 79, 80, 81, 82, 83, 84, 85, 86, 87, 88, 89, 90, 91, 92, 93, 94, 95, 96, 97, 98, 99, 100, 101, 102, 103, 104, 105, 106, 107, 108, 109, 110, 111, 112, 113, 114, 115, 116, 117, 118, 119, 120, 121, 122, 123, 124, 125, 126, 127, 128, 129, 130, 131, 132, 133, 134, 135, 136, 137, 138, 139, 140, 141, 142, 143, 144, 145, 146, 147, 148, 149, 150, 151, 152, 153, 154, 155, 156, 157, 158, 159, 160, 161, 162, 163, 164, 165, 166, 167, 168, 169, 170, 171, 172, 173, 174, 175, 176, 177, 178, 179, 180, 181, 182, 183, 184, 185, 186, 187, 188, 189, 190, 191, 192, 193, 194, 195, 196, 197, 198, 199, 200, 201, 202, 203, 204, 205, 206, 207, 208, 209, 210, 211, 212, 213, 214, 215, 216, 217, 218, 219, 220, 221, 222, 223, 224, 225, 226, 227, 228, 229, 230, 231, 232, 233, 234, 235, 236, 237, 238, 239, 240, 241, 242, 243, 244, 245, 246, 247, 248, 249, 250, 251, 252, 253, 254, 255, 256, 257, 258, 259, 260, 261, 262, 263, 264, 265, 266, 267, 268, 269, 270, 271, 272, 273, 274, 275, 276, 277, 278, 279, 280, 281, 282, 283, 284, 285, 286, 287, 288, 289, 290, 291, 292, 293, 294, 295, 296, 297, 298, 299, 300, 301, 302, 303, 304, 305, 306, 307, 308, 309, 310, 311, 312, 313, 314, 315, 316, 317, 318, 319, 320, 321, 322, 323, 324, 325, 326, 327, 328, 329, 330, 331, 332, 333, 334, 335, 336, 337, 338, 339, 340, 341, 342, 343, 344, 345, 346, 347, 348, 349, 350, 351, 352, 353, 354, 355, 356, 357, 358, 359, 360, 361, 362, 363, 364, 365, 366, 367, 368, 369, 370, 371, 372, 373, 374, 375, 376, 377, 378, 379, 380, 381, 382, 383, 384, 385, 386, 387, 388, 389, 390, 391, 392, 393, 394, 395, 396, 397, 398, 399, 400, 401, 402, 403, 404, 405, 406, 407, 408, 409, 410, 411, 412, 413, 414, 415, 416, 417, 418, 419, 420, 421, 422, 423, 424, 425, 426, 427, 428, 429, 430, 431, 432, 433, 434, 435, 436, 437, 438, 439, 440, 441, 442, 443, 444, 445, 446, 447, 448, 449, 450, 451, 452, 453, 454, 455, 456, 457, 458, 459, 460, 461, 462, 463, 464, 465, 466, 467, 468, 469, 470, 471, 472, 473, 474, 475, 476, 477, 478, 479, 480, 481, 482, 483, 484, 485, 486, 487, 488, 489, 490, 491, 492, 493, 494, 495, 496, 497, 498, 499, 500, 501, 502, 503, 504, 505, 506, 507, 508, 509, 510, 511, 512, 513, 514, 515, 516, 517, 518, 519, 520, 521, 522, 523, 524, 525, 526, 527, 528, 529, 530, 531, 532, 533, 534, 535, 536, 537, 538, 539, 540, 541, 542, 543, 544, 545, 546, 547, 548, 549, 550, 551, 552] (by decide +kernel) (by decide +kernel)) (goodIn_sub (fun _ h => List.mem_cons_of_mem _ (List.mem_append_left _ (List.mem_append_left _ (List.mem_append_left _ (List.mem_append_right _ h))))) (by decide +kernel))) (goodIn_sub (fun _ h => List.mem_cons_of_mem _ (List.mem_append_left _ (List.mem_append_left _ (List.mem_append_right _ h)))) (by decide +kernel))) (goodIn_sub (fun _ h => List.mem_cons_of_mem _ (List.mem_append_left _ (List.mem_append_right _ h))) (by decide +kernel))) (goodIn_sub (fun _ h => List.mem_cons_of_mem _ (List.mem_append_left _ (List.mem_append_left _ (List.mem_append_left _ (List.mem_append_left _ (List.mem_append_right _ h)))))) (by decide +kernel))) (goodIn_sub (fun _ h => List.mem_cons_of_mem _ (List.mem_append_right _ h)) (by decide +kernel))
set_option maxRecDepth 20000 in
theorem gL_ask_X11_ask : GoodIn wsL_ask (wsV RL 87 RX11 yX11_ask wsX11_ask) := goodIn_app (goodIn_of _ (by decide +kernel)) ggL_ask_X11_ask
theorem dL_ask_0 : decode cL_ask 0 = .ok (.aload 6, 2) := by decide +kernel
theorem dL_ask_2 : decode cL_ask 2 = .ok (.iconst 0, 1) := by decide +kernel
theorem dL_ask_3 : decode cL_ask 3 = .ok (.aload_n 0, 1) := by decide +kernel
theorem dL_ask_4 : decode cL_ask 4 = .ok (.iload_n 1, 1) := by decide +kernel
theorem dL_ask_5 : decode cL_ask 5 = .ok (.iload_n 2, 1) := by decide +kernel
theorem dL_ask_6 : decode cL_ask 6 = .ok (.iload_n 3, 1) := by decide +kernel
theorem dL_ask_7 : decode cL_ask 7 = .ok (.iload 4, 2) := by decide +kernel
theorem dL_ask_9 : decode cL_ask 9 = .ok (.iload 5, 2) := by decide +kernel
theorem dL_ask_11 : decode cL_ask 11 = .ok (.invokevirtual 87, 3) := by decide +kernel
theorem dL_ask_19 : decode cL_ask 19 = .ok (.astore 7, 2) := by decide +kernel
theorem dL_ask_21 : decode cL_ask 21 = .ok (.iconst 1, 1) := by decide +kernel
theorem dL_ask_22 : decode cL_ask 22 = .ok (.ireturn, 1) := by decide +kernel
set_option maxRecDepth 20000 in
theorem ggL_ending_X11_ending : GoodIn wsL_ending wsX11_ending := goodIn_ca (goodIn_r _ [6, 7, 8, 9, 10, 5, 11, 12, 13, 14, 15, 16, 17, 18, 19, 20, 21, 22, 23, 24, 25, 26, 27, 28, 29, 30, 31, 32, 33] (by decide +kernel) (by decide +kernel)) (goodIn_sub (fun _ h => List.mem_cons_of_mem _ (List.mem_append_right _ h)) (by decide +kernel))
set_option maxRecDepth 20000 in
theorem gL_ending_X11_ending : GoodIn wsL_ending (wsV RL 92 RX11 yX11_ending wsX11_ending) := goodIn_app (goodIn_of _ (by decide +kernel)) ggL_ending_X11_ending
theorem dL_ending_0 : decode cL_ending 0 = .ok (.aload_n 1, 1) := by decide +kernel
theorem dL_ending_1 : decode cL_ending 1 = .ok (.iconst 0, 1) := by decide +kernel
theorem dL_ending_2 : decode cL_ending 2 = .ok (.aload_n 0, 1) := by decide +kernel
theorem dL_ending_3 : decode cL_ending 3 = .ok (.invokevirtual 92, 3) := by decide +kernel
theorem dL_ending_11 : decode cL_ending 11 = .ok (.astore_n 2, 1) := by decide +kernel
theorem dL_ending_12 : decode cL_ending 12 = .ok (.iconst 1, 1) := by decide +kernel
theorem dL_ending_13 : decode cL_ending 13 = .ok (.ireturn, 1) := by decide +kernel
set_option maxRecDepth 20000 in
theorem ggL_answerAt_X11_answerAt : GoodIn wsL_answerAt wsX11_answerAt := goodIn_ca (goodIn_ca (goodIn_ca (goodIn_r _ [7, 8, 9, 10, 11, 12, 13, 6, 14, 15, 16, 17, 18, 19, 20, 21, 22, 23, 24, 25, 26, 27, 28, 29, 30, 31, 32, 33, 34, 35, 36, 37, 38, 39, 40, 41, 42, 43, 44, 45, 46, 47, 48, 49, 50, 51, 52, 53, 54, 55, 56, 57, 58, 59, 60, 61, 62, 63, 64, 65, 66, 67, 68, 69, 70, 71, 72, 73, 74, 75, 76, 77, 78, 79, 80, 81, 82, 83, 84, 85, 86, 87] (by decide +kernel) (by decide +kernel)) (goodIn_sub (fun _ h => List.mem_cons_of_mem _ (List.mem_append_left _ (List.mem_append_right _ h))) (by decide +kernel))) (goodIn_sub (fun _ h => List.mem_cons_of_mem _ (List.mem_append_right _ h)) (by decide +kernel))) (goodIn_sub (fun _ h => List.mem_cons_of_mem _ (List.mem_append_left _ (List.mem_append_left _ (List.mem_append_right _ h)))) (by decide +kernel))
set_option maxRecDepth 20000 in
theorem gL_answerAt_X11_answerAt : GoodIn wsL_answerAt (wsV RL 96 RX11 yX11_answerAt wsX11_answerAt) := goodIn_app (goodIn_of _ (by decide +kernel)) ggL_answerAt_X11_answerAt
theorem dL_answerAt_0 : decode cL_answerAt 0 = .ok (.aload_n 3, 1) := by decide +kernel
theorem dL_answerAt_1 : decode cL_answerAt 1 = .ok (.iconst 0, 1) := by decide +kernel
theorem dL_answerAt_2 : decode cL_answerAt 2 = .ok (.aload_n 0, 1) := by decide +kernel
theorem dL_answerAt_3 : decode cL_answerAt 3 = .ok (.iload_n 1, 1) := by decide +kernel
theorem dL_answerAt_4 : decode cL_answerAt 4 = .ok (.iload_n 2, 1) := by decide +kernel
theorem dL_answerAt_5 : decode cL_answerAt 5 = .ok (.invokevirtual 96, 3) := by decide +kernel
theorem dL_answerAt_13 : decode cL_answerAt 13 = .ok (.astore 4, 2) := by decide +kernel
theorem dL_answerAt_15 : decode cL_answerAt 15 = .ok (.iconst 1, 1) := by decide +kernel
theorem dL_answerAt_16 : decode cL_answerAt 16 = .ok (.ireturn, 1) := by decide +kernel
set_option maxRecDepth 20000 in
theorem ggL_multiplicity_X11_multiplicity : GoodIn wsL_multiplicity wsX11_multiplicity := goodIn_ca (goodIn_ca (goodIn_ca (goodIn_r _ [7, 8, 9, 10, 11, 12, 13, 6, 14, 15, 16, 17, 18, 19, 20, 21, 22, 23, 24, 25, 26, 27, 28, 29, 30, 31, 32, 33, 34, 35, 36, 37, 38, 39, 40, 41, 42, 43, 44, 45, 46, 47, 48, 49, 50, 51, 52, 53, 54, 55, 56, 57, 58, 59, 60, 61] (by decide +kernel) (by decide +kernel)) (goodIn_sub (fun _ h => List.mem_cons_of_mem _ (List.mem_append_left _ (List.mem_append_right _ h))) (by decide +kernel))) (goodIn_sub (fun _ h => List.mem_cons_of_mem _ (List.mem_append_right _ h)) (by decide +kernel))) (goodIn_sub (fun _ h => List.mem_cons_of_mem _ (List.mem_append_left _ (List.mem_append_left _ (List.mem_append_right _ h)))) (by decide +kernel))
set_option maxRecDepth 20000 in
theorem gL_multiplicity_X11_multiplicity : GoodIn wsL_multiplicity (wsV RL 99 RX11 yX11_multiplicity wsX11_multiplicity) := goodIn_app (goodIn_of _ (by decide +kernel)) ggL_multiplicity_X11_multiplicity
theorem dL_multiplicity_0 : decode cL_multiplicity 0 = .ok (.aload_n 2, 1) := by decide +kernel
theorem dL_multiplicity_1 : decode cL_multiplicity 1 = .ok (.iconst 0, 1) := by decide +kernel
theorem dL_multiplicity_2 : decode cL_multiplicity 2 = .ok (.aload_n 0, 1) := by decide +kernel
theorem dL_multiplicity_3 : decode cL_multiplicity 3 = .ok (.iload_n 1, 1) := by decide +kernel
theorem dL_multiplicity_4 : decode cL_multiplicity 4 = .ok (.invokevirtual 99, 3) := by decide +kernel
theorem dL_multiplicity_12 : decode cL_multiplicity 12 = .ok (.astore_n 3, 1) := by decide +kernel
theorem dL_multiplicity_13 : decode cL_multiplicity 13 = .ok (.iconst 1, 1) := by decide +kernel
theorem dL_multiplicity_14 : decode cL_multiplicity 14 = .ok (.ireturn, 1) := by decide +kernel
set_option maxRecDepth 20000 in
theorem ggL_answersByBreadth_X11_answersByBreadth : GoodIn wsL_answersByBreadth wsX11_answersByBreadth := goodIn_ca (goodIn_ca (goodIn_ca (goodIn_r _ [7, 8, 9, 10, 11, 12, 13, 14, 6, 15, 16, 17, 18, 19, 20, 21, 22, 23, 24, 25, 26, 27, 28, 29, 30, 31, 32, 33, 34, 35, 36, 37, 38, 39, 40, 41, 42, 43, 44, 45, 46, 47, 48, 49, 50, 51, 52, 53, 54, 55, 56, 57, 58, 59, 60, 61, 62, 63, 64, 65, 66, 67, 68, 69, 70, 71, 72, 73, 74, 75, 76, 77, 78, 79, 80, 81, 82, 83, 84, 85, 86, 87, 88, 89, 90, 91, 92, 93, 94, 95, 96, 97, 98, 99, 100, 101, 102, 103, 104, 105, 106, 107, 108, 109, 110, 111, 112, 113, 114, 115, 116, 117, 118, 119, 120, 121, 122, 123, 124, 125, 126, 127, 128, 129, 130, 131, 132, 133, 134, 135, 136, 137, 138, 139, 140, 141, 142, 143, 144, 145, 146, 147, 148, 149, 150, 151, 152, 153, 154, 155, 156, 157, 158, 159, 160, 161, 162, 163, 164, 165, 166, 167, 168, 169, 170, 171, 172, 173, 174, 175, 176, 177, 178, 179, 180, 181, 182, 183, 184, 185, 186, 187, 188, 189, 190, 191, 192, 193, 194, 195, 196, 197, 198, 199, 200, 201, 202, 203, 204, 205, 206, 207, 208, 209, 210, 211, 212, 213, 214, 215, 216, 217, 218, 219, 220, 221, 222, 223, 224, 225, 226, 227, 228, 229, 230, 231, 232, 233, 234, 235, 236, 237, 238, 239, 240, 241, 242, 243, 244, 245, 246, 247, 248, 249, 250, 251, 252, 253, 254, 255, 256, 257, 258, 259, 260, 261, 262, 263, 264, 265, 266, 267, 268, 269, 270, 271, 272, 273, 274, 275, 276, 277, 278, 279, 280, 281, 282, 283, 284, 285, 286, 287, 288, 289, 290, 291, 292, 293, 294, 295, 296, 297, 298, 299, 300, 301, 302, 303, 304, 305, 306, 307, 308, 309, 310, 311, 312, 313, 314, 315, 316, 317, 318, 319, 320, 321, 322, 323, 324, 325, 326, 327, 328, 329, 330, 331, 332, 333, 334, 335, 336, 337, 338, 339, 340, 341, 342, 343, 344, 345, 346, 347, 348, 349, 350, 351, 352, 353, 354, 355, 356, 357, 358, 359, 360, 361, 362, 363, 364, 365, 366, 367, 368, 369, 370, 371, 372, 373, 374, 375, 376, 377, 378, 379, 380, 381, 382, 383, 384, 385, 386, 387, 388, 389, 390, 391, 392, 393] (by decide +kernel) (by decide +kernel)) (goodIn_sub (fun _ h => List.mem_cons_of_mem _ (List.mem_append_left _ (List.mem_append_right _ h))) (by decide +kernel))) (goodIn_sub (fun _ h => List.mem_cons_of_mem _ (List.mem_append_right _ h)) (by decide +kernel))) (goodIn_sub (fun _ h => List.mem_cons_of_mem _ (List.mem_append_left _ (List.mem_append_left _ (List.mem_append_right _ h)))) (by decide +kernel))
set_option maxRecDepth 20000 in
theorem gL_answersByBreadth_X11_answersByBreadth : GoodIn wsL_answersByBreadth (wsV RL 102 RX11 yX11_answersByBreadth wsX11_answersByBreadth) := goodIn_app (goodIn_of _ (by decide +kernel)) ggL_answersByBreadth_X11_answersByBreadth
theorem dL_answersByBreadth_0 : decode cL_answersByBreadth 0 = .ok (.aload_n 1, 1) := by decide +kernel
theorem dL_answersByBreadth_1 : decode cL_answersByBreadth 1 = .ok (.iconst 0, 1) := by decide +kernel
theorem dL_answersByBreadth_2 : decode cL_answersByBreadth 2 = .ok (.aload_n 0, 1) := by decide +kernel
theorem dL_answersByBreadth_3 : decode cL_answersByBreadth 3 = .ok (.invokevirtual 102, 3) := by decide +kernel
theorem dL_answersByBreadth_11 : decode cL_answersByBreadth 11 = .ok (.astore_n 2, 1) := by decide +kernel
theorem dL_answersByBreadth_12 : decode cL_answersByBreadth 12 = .ok (.iconst 1, 1) := by decide +kernel
theorem dL_answersByBreadth_13 : decode cL_answersByBreadth 13 = .ok (.ireturn, 1) := by decide +kernel
set_option maxRecDepth 20000 in
theorem ggL_steps_X11_steps : GoodIn wsL_steps wsX11_steps := goodIn_ca (goodIn_r _ [6, 7, 8, 9, 10, 5, 11, 12, 13, 14, 15, 16, 17, 18, 19, 20, 21, 22, 23, 24, 25, 26, 27, 28, 29, 30, 31, 32, 33] (by decide +kernel) (by decide +kernel)) (goodIn_sub (fun _ h => List.mem_cons_of_mem _ (List.mem_append_right _ h)) (by decide +kernel))
set_option maxRecDepth 20000 in
theorem gL_steps_X11_steps : GoodIn wsL_steps (wsV RL 105 RX11 yX11_steps wsX11_steps) := goodIn_app (goodIn_of _ (by decide +kernel)) ggL_steps_X11_steps
theorem dL_steps_0 : decode cL_steps 0 = .ok (.aload_n 1, 1) := by decide +kernel
theorem dL_steps_1 : decode cL_steps 1 = .ok (.iconst 0, 1) := by decide +kernel
theorem dL_steps_2 : decode cL_steps 2 = .ok (.aload_n 0, 1) := by decide +kernel
theorem dL_steps_3 : decode cL_steps 3 = .ok (.invokevirtual 105, 3) := by decide +kernel
theorem dL_steps_11 : decode cL_steps 11 = .ok (.astore_n 2, 1) := by decide +kernel
theorem dL_steps_12 : decode cL_steps 12 = .ok (.iconst 1, 1) := by decide +kernel
theorem dL_steps_13 : decode cL_steps 13 = .ok (.ireturn, 1) := by decide +kernel
set_option maxRecDepth 20000 in
theorem ggL_choicePoints_X11_choicePoints : GoodIn wsL_choicePoints wsX11_choicePoints := goodIn_ca (goodIn_r _ [6, 7, 8, 9, 10, 5, 11, 12, 13, 14, 15, 16, 17, 18, 19, 20, 21, 22, 23, 24, 25, 26, 27, 28, 29, 30, 31, 32, 33] (by decide +kernel) (by decide +kernel)) (goodIn_sub (fun _ h => List.mem_cons_of_mem _ (List.mem_append_right _ h)) (by decide +kernel))
set_option maxRecDepth 20000 in
theorem gL_choicePoints_X11_choicePoints : GoodIn wsL_choicePoints (wsV RL 108 RX11 yX11_choicePoints wsX11_choicePoints) := goodIn_app (goodIn_of _ (by decide +kernel)) ggL_choicePoints_X11_choicePoints
theorem dL_choicePoints_0 : decode cL_choicePoints 0 = .ok (.aload_n 1, 1) := by decide +kernel
theorem dL_choicePoints_1 : decode cL_choicePoints 1 = .ok (.iconst 0, 1) := by decide +kernel
theorem dL_choicePoints_2 : decode cL_choicePoints 2 = .ok (.aload_n 0, 1) := by decide +kernel
theorem dL_choicePoints_3 : decode cL_choicePoints 3 = .ok (.invokevirtual 108, 3) := by decide +kernel
theorem dL_choicePoints_11 : decode cL_choicePoints 11 = .ok (.astore_n 2, 1) := by decide +kernel
theorem dL_choicePoints_12 : decode cL_choicePoints 12 = .ok (.iconst 1, 1) := by decide +kernel
theorem dL_choicePoints_13 : decode cL_choicePoints 13 = .ok (.ireturn, 1) := by decide +kernel
set_option maxRecDepth 20000 in
theorem ggL_deepest_X11_deepest : GoodIn wsL_deepest wsX11_deepest := goodIn_ca (goodIn_r _ [6, 7, 8, 9, 10, 5, 11, 12, 13, 14, 15, 16, 17, 18, 19, 20, 21, 22, 23, 24, 25, 26, 27, 28, 29, 30, 31, 32, 33] (by decide +kernel) (by decide +kernel)) (goodIn_sub (fun _ h => List.mem_cons_of_mem _ (List.mem_append_right _ h)) (by decide +kernel))
set_option maxRecDepth 20000 in
theorem gL_deepest_X11_deepest : GoodIn wsL_deepest (wsV RL 111 RX11 yX11_deepest wsX11_deepest) := goodIn_app (goodIn_of _ (by decide +kernel)) ggL_deepest_X11_deepest
theorem dL_deepest_0 : decode cL_deepest 0 = .ok (.aload_n 1, 1) := by decide +kernel
theorem dL_deepest_1 : decode cL_deepest 1 = .ok (.iconst 0, 1) := by decide +kernel
theorem dL_deepest_2 : decode cL_deepest 2 = .ok (.aload_n 0, 1) := by decide +kernel
theorem dL_deepest_3 : decode cL_deepest 3 = .ok (.invokevirtual 111, 3) := by decide +kernel
theorem dL_deepest_11 : decode cL_deepest 11 = .ok (.astore_n 2, 1) := by decide +kernel
theorem dL_deepest_12 : decode cL_deepest 12 = .ok (.iconst 1, 1) := by decide +kernel
theorem dL_deepest_13 : decode cL_deepest 13 = .ok (.ireturn, 1) := by decide +kernel
set_option maxRecDepth 20000 in
theorem ggL_recorded_X11_recorded : GoodIn wsL_recorded wsX11_recorded := goodIn_ca (goodIn_r _ [6, 7, 8, 9, 10, 5, 11, 12, 13, 14, 15, 16, 17, 18, 19, 20, 21, 22, 23, 24, 25, 26, 27, 28, 29, 30, 31, 32, 33, 34, 35, 36, 37, 38, 39, 40, 41, 42, 43, 44, 45, 46, 47, 48] (by decide +kernel) (by decide +kernel)) (goodIn_sub (fun _ h => List.mem_cons_of_mem _ (List.mem_append_right _ h)) (by decide +kernel))
set_option maxRecDepth 20000 in
theorem gL_recorded_X11_recorded : GoodIn wsL_recorded (wsV RL 114 RX11 yX11_recorded wsX11_recorded) := goodIn_app (goodIn_of _ (by decide +kernel)) ggL_recorded_X11_recorded
theorem dL_recorded_0 : decode cL_recorded 0 = .ok (.aload_n 1, 1) := by decide +kernel
theorem dL_recorded_1 : decode cL_recorded 1 = .ok (.iconst 0, 1) := by decide +kernel
theorem dL_recorded_2 : decode cL_recorded 2 = .ok (.aload_n 0, 1) := by decide +kernel
theorem dL_recorded_3 : decode cL_recorded 3 = .ok (.invokevirtual 114, 3) := by decide +kernel
theorem dL_recorded_11 : decode cL_recorded 11 = .ok (.astore_n 2, 1) := by decide +kernel
theorem dL_recorded_12 : decode cL_recorded 12 = .ok (.iconst 1, 1) := by decide +kernel
theorem dL_recorded_13 : decode cL_recorded 13 = .ok (.ireturn, 1) := by decide +kernel
set_option maxRecDepth 20000 in
theorem ggL_recordAt_X11_recordAt : GoodIn wsL_recordAt wsX11_recordAt := goodIn_ca (goodIn_ca (goodIn_ca (goodIn_r _ [7, 8, 9, 10, 11, 6, 12, 13, 14, 15, 16, 17, 18, 19, 20, 21, 22, 23, 24, 25, 26, 27, 28, 29, 30, 31, 32, 33, 34, 35, 36, 37, 38, 39, 40, 41, 42, 43, 44, 45, 46, 47, 48, 49, 50, 51, 52, 53, 54, 55, 56, 57, 58, 59, 60, 61, 62, 63, 64, 65] (by decide +kernel) (by decide +kernel)) (goodIn_sub (fun _ h => List.mem_cons_of_mem _ (List.mem_append_left _ (List.mem_append_right _ h))) (by decide +kernel))) (goodIn_sub (fun _ h => List.mem_cons_of_mem _ (List.mem_append_right _ h)) (by decide +kernel))) (goodIn_sub (fun _ h => List.mem_cons_of_mem _ (List.mem_append_left _ (List.mem_append_left _ (List.mem_append_right _ h)))) (by decide +kernel))
set_option maxRecDepth 20000 in
theorem gL_recordAt_X11_recordAt : GoodIn wsL_recordAt (wsV RL 117 RX11 yX11_recordAt wsX11_recordAt) := goodIn_app (goodIn_of _ (by decide +kernel)) ggL_recordAt_X11_recordAt
theorem dL_recordAt_0 : decode cL_recordAt 0 = .ok (.aload_n 2, 1) := by decide +kernel
theorem dL_recordAt_1 : decode cL_recordAt 1 = .ok (.iconst 0, 1) := by decide +kernel
theorem dL_recordAt_2 : decode cL_recordAt 2 = .ok (.aload_n 0, 1) := by decide +kernel
theorem dL_recordAt_3 : decode cL_recordAt 3 = .ok (.iload_n 1, 1) := by decide +kernel
theorem dL_recordAt_4 : decode cL_recordAt 4 = .ok (.invokevirtual 117, 3) := by decide +kernel
theorem dL_recordAt_12 : decode cL_recordAt 12 = .ok (.astore_n 3, 1) := by decide +kernel
theorem dL_recordAt_13 : decode cL_recordAt 13 = .ok (.iconst 1, 1) := by decide +kernel
theorem dL_recordAt_14 : decode cL_recordAt 14 = .ok (.ireturn, 1) := by decide +kernel
set_option maxRecDepth 20000 in
theorem ggL_whereAt_X11_whereAt : GoodIn wsL_whereAt wsX11_whereAt := goodIn_ca (goodIn_ca (goodIn_ca (goodIn_r _ [7, 8, 9, 10, 11, 6, 12, 13, 14, 15, 16, 17, 18, 19, 20, 21, 22, 23, 24, 25, 26, 27, 28, 29, 30, 31, 32, 33, 34, 35, 36, 37, 38, 39, 40, 41, 42, 43, 44, 45, 46, 47, 48, 49, 50, 51, 52, 53, 54, 55, 56, 57, 58, 59, 60, 61, 62, 63, 64, 65] (by decide +kernel) (by decide +kernel)) (goodIn_sub (fun _ h => List.mem_cons_of_mem _ (List.mem_append_left _ (List.mem_append_right _ h))) (by decide +kernel))) (goodIn_sub (fun _ h => List.mem_cons_of_mem _ (List.mem_append_right _ h)) (by decide +kernel))) (goodIn_sub (fun _ h => List.mem_cons_of_mem _ (List.mem_append_left _ (List.mem_append_left _ (List.mem_append_right _ h)))) (by decide +kernel))
set_option maxRecDepth 20000 in
theorem gL_whereAt_X11_whereAt : GoodIn wsL_whereAt (wsV RL 121 RX11 yX11_whereAt wsX11_whereAt) := goodIn_app (goodIn_of _ (by decide +kernel)) ggL_whereAt_X11_whereAt
theorem dL_whereAt_0 : decode cL_whereAt 0 = .ok (.aload_n 2, 1) := by decide +kernel
theorem dL_whereAt_1 : decode cL_whereAt 1 = .ok (.iconst 0, 1) := by decide +kernel
theorem dL_whereAt_2 : decode cL_whereAt 2 = .ok (.aload_n 0, 1) := by decide +kernel
theorem dL_whereAt_3 : decode cL_whereAt 3 = .ok (.iload_n 1, 1) := by decide +kernel
theorem dL_whereAt_4 : decode cL_whereAt 4 = .ok (.invokevirtual 121, 3) := by decide +kernel
theorem dL_whereAt_12 : decode cL_whereAt 12 = .ok (.astore_n 3, 1) := by decide +kernel
theorem dL_whereAt_13 : decode cL_whereAt 13 = .ok (.iconst 1, 1) := by decide +kernel
theorem dL_whereAt_14 : decode cL_whereAt 14 = .ok (.ireturn, 1) := by decide +kernel
set_option maxRecDepth 20000 in
theorem ggL_onceShare_X11_onceShare : GoodIn wsL_onceShare wsX11_onceShare := goodIn_ca (goodIn_ca (goodIn_r _ [7, 8, 9, 10, 11, 12, 13, 6, 14, 15, 16, 17, 18, 19, 20, 21, 22, 23, 24, 25, 26, 27, 28, 29, 30, 31, 32, 33, 34, 35, 36, 37, 38, 39, 40, 41, 42, 43, 44, 45, 46, 47, 48, 49, 50, 51, 52, 53, 54, 55, 56, 57, 58, 59, 60, 61, 62, 63, 64, 65, 66, 67, 68, 69, 70, 71, 72, 73, 74, 75] (by decide +kernel) (by decide +kernel)) (goodIn_sub (fun _ h => List.mem_cons_of_mem _ (List.mem_append_left _ (List.mem_append_right _ h))) (by decide +kernel))) (goodIn_sub (fun _ h => List.mem_cons_of_mem _ (List.mem_append_right _ h)) (by decide +kernel))
set_option maxRecDepth 20000 in
theorem gL_onceShare_X11_onceShare : GoodIn wsL_onceShare (wsV RL 124 RX11 yX11_onceShare wsX11_onceShare) := goodIn_app (goodIn_of _ (by decide +kernel)) ggL_onceShare_X11_onceShare
theorem dL_onceShare_0 : decode cL_onceShare 0 = .ok (.aload_n 1, 1) := by decide +kernel
theorem dL_onceShare_1 : decode cL_onceShare 1 = .ok (.iconst 0, 1) := by decide +kernel
theorem dL_onceShare_2 : decode cL_onceShare 2 = .ok (.aload_n 0, 1) := by decide +kernel
theorem dL_onceShare_3 : decode cL_onceShare 3 = .ok (.invokevirtual 124, 3) := by decide +kernel
theorem dL_onceShare_11 : decode cL_onceShare 11 = .ok (.astore_n 2, 1) := by decide +kernel
theorem dL_onceShare_12 : decode cL_onceShare 12 = .ok (.iconst 1, 1) := by decide +kernel
theorem dL_onceShare_13 : decode cL_onceShare 13 = .ok (.ireturn, 1) := by decide +kernel
set_option maxRecDepth 20000 in
theorem ggL_meanSteps_X11_meanSteps : GoodIn wsL_meanSteps wsX11_meanSteps := goodIn_ca (goodIn_r _ [6, 7, 8, 9, 10, 11, 12, 13, 14, 15, 16, 17, 18, 19] (by decide +kernel) (by decide +kernel)) (goodIn_sub (fun _ h => List.mem_cons_of_mem _ (List.mem_append_right _ h)) (by decide +kernel))
set_option maxRecDepth 20000 in
theorem gL_meanSteps_X11_meanSteps : GoodIn wsL_meanSteps (wsV RL 130 RX11 yX11_meanSteps wsX11_meanSteps) := goodIn_app (goodIn_of _ (by decide +kernel)) ggL_meanSteps_X11_meanSteps
theorem dL_meanSteps_0 : decode cL_meanSteps 0 = .ok (.aload_n 1, 1) := by decide +kernel
theorem dL_meanSteps_1 : decode cL_meanSteps 1 = .ok (.iconst 0, 1) := by decide +kernel
theorem dL_meanSteps_2 : decode cL_meanSteps 2 = .ok (.aload_n 0, 1) := by decide +kernel
theorem dL_meanSteps_3 : decode cL_meanSteps 3 = .ok (.invokevirtual 130, 3) := by decide +kernel
theorem dL_meanSteps_10 : decode cL_meanSteps 10 = .ok (.astore_n 2, 1) := by decide +kernel
theorem dL_meanSteps_11 : decode cL_meanSteps 11 = .ok (.iconst 1, 1) := by decide +kernel
theorem dL_meanSteps_12 : decode cL_meanSteps 12 = .ok (.ireturn, 1) := by decide +kernel
set_option maxRecDepth 20000 in
theorem ggL_law_X11_init : GoodIn wsL_law wsX11_init := goodIn_ca (goodIn_r _ [10, 11, 12, 13, 14, 15, 16, 17, 18, 19, 20, 21, 22, 23, 24, 25, 26, 27, 28, 29, 30, 31, 32, 33, 34, 35, 36, 37, 38, 39, 40, 41, 42, 43, 44, 45, 46, 47, 48, 6, 49, 50, 51, 52, 53, 54, 55, 56, 57, 58, 59, 60, 61, 62, 63, 64, 65, 66, 67, 68, 69, 70, 71, 72, 73, 74, 75, 76, 77, 78, 79, 80, 81, 82, 83, 84, 85, 86, 87, 88, 89, 90, 91, 92, 93, 94, 95, 96, 97, 98, 99, 100, 101, 102, 103, 104, 105, 106, 107, 108, 109, 110, 111, 112, 113, 114, 115, 116, 117, 118, 119, 120, 121, 122, 123, 124, 125, 126, 127, 128, 129, 130, 131, 132, 133, 134, 135, 136, 137, 138, 139, 140, 141, 142, 143, 144, 145, 146, 147, 148, 149, 150, 151, 152, 153, 154, 155, 156, 157, 158, 159, 160, 161, 1863, 1864, 1865, 1866, 1867, 1784, 1785, 1786, 1787, 1788, 1789, 1790, 1791, 1792, 1868, 1869, 1870, 1871, 1872, 1873, 1874, 1875, 1876, 1877, 1878, 1879, 1880, 1881, 1882, 1883, 1884, 1885, 1886, 1887, 1888, 1889, 1890, 1891, 1892, 1893, 1894, 1895, 1896, 1897, 1898, 1899, 1900, 1901, 1902, 1903, 1904, 1905, 1906, 1907, 1908, 1909, 1910, 1911, 1912, 1913, 1914, 1915, 1916, 1917, 1918, 1919, 1920, 1921, 1922, 1923] (by decide +kernel) (by decide +kernel)) (goodIn_sub (fun _ h => List.mem_append_left _ (List.mem_append_left _ (List.mem_append_left _ (List.mem_append_left _ (List.mem_append_left _ (List.mem_append_left _ (List.mem_append_right _ h))))))) (by decide +kernel))
set_option maxRecDepth 20000 in
theorem gL_law_X11_init : GoodIn wsL_law (wsX11_init) := ggL_law_X11_init
set_option maxRecDepth 20000 in
theorem ggL_law_X18_init : GoodIn wsL_law wsX18_init := goodIn_r _ [164, 165, 12, 13, 56, 166, 167, 168, 169, 6, 170, 171, 172, 173, 174, 175, 176, 177, 178, 179, 180, 181, 182, 183, 184, 185, 186, 187, 188, 189, 190, 191, 192, 193, 194, 195, 196, 197, 198, 199, 200, 201, 202, 203, 204, 205, 206, 1793, 1794, 1795, 1796, 1797, 1798, 1799, 1800, 1801, 1802, 1803, 1804, 1805, 1806, 1807, 1808, 1809, 1810, 1811, 1812, 1813, 1814, 1815, 1816, 1817, 1818, 1819, 1820, 1821, 1822, 1823, 1824, 1825, 1826, 1827, 1828, 1829, 1830, 1831, 1832, 1833, 1834, 1835, 1836, 1837, 1838, 1839, 1840, 1841, 1842, 1843, 1844, 1845, 1846, 1847, 1848, 1849, 1850, 1851, 1852, 1853, 1854, 1855, 1856, 1857, 1858, 1859, 1860, 1861, 1862] (by decide +kernel) (by decide +kernel)
set_option maxRecDepth 20000 in
theorem gL_law_X18_init : GoodIn wsL_law (wsX18_init) := ggL_law_X18_init
set_option maxRecDepth 20000 in
theorem ggL_law_L_addType : GoodIn wsL_law wsL_addType := goodIn_ca (goodIn_ca (goodIn_r _ [210, 211, 212, 213, 214, 2, 215, 216, 217, 17, 35, 218, 219, 220, 16, 221, 42, 222, 223, 224, 225, 1784, 1785, 1786, 1787, 1788, 1789, 1790, 1791, 1792, 1863, 1864, 1865, 1866, 1867] (by decide +kernel) (by decide +kernel)) (goodIn_sub (fun _ h => List.mem_append_left _ (List.mem_append_left _ (List.mem_append_left _ (List.mem_append_left _ (List.mem_append_left _ (List.mem_append_left _ (List.mem_append_right _ h))))))) (by decide +kernel))) (goodIn_sub (fun _ h => List.mem_append_left _ (List.mem_append_left _ (List.mem_append_left _ (List.mem_append_left _ (List.mem_append_left _ (List.mem_append_right _ h)))))) (by decide +kernel))
set_option maxRecDepth 20000 in
theorem gL_law_L_addType : GoodIn wsL_law (va_wsS RL 138 yL_addType wsL_addType) := goodIn_app (goodIn_of _ (by decide +kernel)) ggL_law_L_addType
set_option maxRecDepth 20000 in
theorem ggL_law_X18_addType : GoodIn wsL_law wsX18_addType := goodIn_r _ [229, 230, 231, 232, 233, 234, 235, 5, 236, 1793, 1794, 1795, 1796, 1797, 1798, 1799, 1800, 1801, 1802, 1803, 1804, 1805, 1806, 1807, 1808, 1809, 1810, 1811, 1812, 1813, 1814, 1815, 1816, 1817, 1818, 1819, 1820, 1821, 1822, 1823, 1824, 1825, 1826, 1827, 1828, 1829, 1830, 1831, 1832, 1833, 1834, 1835, 1836, 1837, 1838, 1839, 1840, 1841, 1842, 1843, 1844, 1845, 1846, 1847, 1848, 1849, 1850, 1851, 1852, 1853, 1854, 1855, 1856, 1857, 1858, 1859, 1860, 1861, 1862] (by decide +kernel) (by decide +kernel)
set_option maxRecDepth 20000 in
theorem gL_law_X18_addType : GoodIn wsL_law (wsV RL 143 RX18 yX18_addType wsX18_addType) := goodIn_app (goodIn_of _ (by decide +kernel)) ggL_law_X18_addType
set_option maxRecDepth 20000 in
theorem ggL_law_X18_thrown : GoodIn wsL_law wsX18_thrown := goodIn_r _ [240, 230, 1793, 1794, 1795, 1796, 1797, 1798, 1799, 1800, 1801, 1802, 1803, 1804, 1805, 1806, 1807, 1808, 1809, 1810, 1811, 1812, 1813, 1814, 1815, 1816, 1817, 1818, 1819, 1820, 1821, 1822, 1823, 1824, 1825, 1826, 1827, 1828, 1829, 1830, 1831, 1832, 1833, 1834, 1835, 1836, 1837, 1838, 1839, 1840, 1841, 1842, 1843, 1844, 1845, 1846, 1847, 1848, 1849, 1850, 1851, 1852, 1853, 1854, 1855, 1856, 1857, 1858, 1859, 1860, 1861, 1862] (by decide +kernel) (by decide +kernel)
set_option maxRecDepth 20000 in
theorem gL_law_X18_thrown : GoodIn wsL_law (wsV RL 144 RX18 yX18_thrown wsX18_thrown) := goodIn_app (goodIn_of _ (by decide +kernel)) ggL_law_X18_thrown
set_option maxRecDepth 20000 in
theorem ggL_law_L_addConstructor : GoodIn wsL_law wsL_addConstructor := goodIn_ca (goodIn_ca (goodIn_ca (goodIn_ca (goodIn_r _ [243, 244, 245, 211, 246, 247, 248, 2, 249, 250, 251, 252, 253, 216, 217, 17, 35, 254, 255, 256, 16, 257, 42, 258, 259, 260, 261, 262, 263, 264, 265, 46, 266, 267, 268, 45, 269, 58, 270, 271, 272, 273, 59, 60, 61, 62, 54, 57, 55, 63, 64, 65, 66, 67, 68, 69, 70, 71, 72, 56, 73, 74, 75, 76, 77, 78, 79, 80, 81, 82, 83, 84, 85, 86, 87, 88, 89, 90, 91, 92, 93, 94, 95, 96, 1784, 1785, 1786, 1787, 1788, 1789, 1790, 1791, 1792, 1863, 1864, 1865, 1866, 1867, 1908, 1909, 1910, 1911, 1912, 1913, 1914, 1915, 1916, 1917, 1918, 1919, 1920] (by decide +kernel) (by decide +kernel)) (goodIn_sub (fun _ h => List.mem_append_left _ (List.mem_append_left _ (List.mem_append_left _ (List.mem_append_left _ (List.mem_append_left _ (List.mem_append_left _ (List.mem_append_right _ h))))))) (by decide +kernel))) (goodIn_sub (fun _ h => List.mem_append_left _ (List.mem_append_left _ (List.mem_append_left _ (List.mem_append_left _ (List.mem_append_right _ h))))) (by decide +kernel))) (goodIn_sub (fun _ h => List.mem_append_left _ (List.mem_append_left _ (List.mem_append_left _ (List.mem_append_right _ h)))) (by decide +kernel))) (goodIn_sub (fun _ h => List.mem_append_left _ (List.mem_append_left _ (List.mem_append_left _ (List.mem_append_left _ (List.mem_append_left _ (List.mem_append_right _ h)))))) (by decide +kernel))
set_option maxRecDepth 20000 in
theorem gL_law_L_addConstructor : GoodIn wsL_law (va_wsS RL 147 yL_addConstructor wsL_addConstructor) := goodIn_app (goodIn_of _ (by decide +kernel)) ggL_law_L_addConstructor
set_option maxRecDepth 20000 in
theorem ggL_law_X18_addConstructor : GoodIn wsL_law wsX18_addConstructor := goodIn_ca (goodIn_r _ [277, 230, 231, 278, 232, 166, 167, 279, 280, 5, 281, 233, 234, 235, 236, 1793, 1794, 1795, 1796, 1797, 1798, 1799, 1800, 1801, 1802, 1803, 1804, 1805, 1806, 1807, 1808, 1809, 1810, 1811, 1812, 1813, 1814, 1815, 1816, 1817, 1818, 1819, 1820, 1821, 1822, 1823, 1824, 1825, 1826, 1827, 1828, 1829, 1830, 1831, 1832, 1833, 1834, 1835, 1836, 1837, 1838, 1839, 1840, 1841, 1842, 1843, 1844, 1845, 1846, 1847, 1848, 1849, 1850, 1851, 1852, 1853, 1854, 1855, 1856, 1857, 1858, 1859, 1860, 1861, 1862] (by decide +kernel) (by decide +kernel)) (goodIn_sub (fun _ h => List.mem_append_left _ (List.mem_append_left _ (List.mem_append_left _ (List.mem_append_left _ (List.mem_append_left _ (List.mem_append_left _ (List.mem_append_right _ h))))))) (by decide +kernel))
set_option maxRecDepth 20000 in
theorem gL_law_X18_addConstructor : GoodIn wsL_law (wsV RL 150 RX18 yX18_addConstructor wsX18_addConstructor) := goodIn_app (goodIn_of _ (by decide +kernel)) ggL_law_X18_addConstructor
set_option maxRecDepth 20000 in
theorem ggL_law_L_term : GoodIn wsL_law wsL_term := goodIn_ca (goodIn_ca (goodIn_ca (goodIn_ca (goodIn_r _ [284, 244, 245, 211, 285, 286, 287, 2, 288, 250, 251, 252, 253, 216, 217, 17, 289, 290, 291, 16, 292, 46, 266, 267, 268, 45, 269, 58, 293, 294, 295, 296, 297, 298, 299, 300, 301, 302, 303, 304, 54, 57, 305, 306, 307, 308, 47, 309, 310, 311, 312, 313, 314, 315, 316, 317, 318, 319, 320, 321, 322, 323, 324, 325, 326, 327, 328, 329, 330, 331, 332, 48, 49, 333, 334, 335, 336, 337, 338, 339, 59, 60, 61, 62, 55, 63, 64, 65, 66, 67, 68, 69, 70, 71, 72, 56, 73, 74, 75, 76, 77, 78, 79, 80, 81, 82, 83, 84, 85, 86, 87, 88, 89, 90, 91, 92, 93, 94, 95, 96, 340, 341, 342, 343, 344, 1784, 1785, 1786, 1787, 1788, 1789, 1790, 1791, 1792, 1863, 1864, 1865, 1866, 1867, 1908, 1909, 1910, 1911, 1912, 1913, 1914, 1915, 1916, 1917, 1918, 1919, 1920] (by decide +kernel) (by decide +kernel)) (goodIn_sub (fun _ h => List.mem_append_left _ (List.mem_append_left _ (List.mem_append_left _ (List.mem_append_left _ (List.mem_append_left _ (List.mem_append_left _ (List.mem_append_right _ h))))))) (by decide +kernel))) (goodIn_sub (fun _ h => List.mem_append_left _ (List.mem_append_left _ (List.mem_append_left _ (List.mem_append_left _ (List.mem_append_right _ h))))) (by decide +kernel))) (goodIn_sub (fun _ h => List.mem_append_left _ (List.mem_append_left _ (List.mem_append_left _ (List.mem_append_right _ h)))) (by decide +kernel))) (goodIn_sub (fun _ h => List.mem_append_left _ (List.mem_append_left _ (List.mem_append_left _ (List.mem_append_left _ (List.mem_append_left _ (List.mem_append_right _ h)))))) (by decide +kernel))
set_option maxRecDepth 20000 in
theorem gL_law_L_term : GoodIn wsL_law (va_wsS RL 151 yL_term wsL_term) := goodIn_app (goodIn_of _ (by decide +kernel)) ggL_law_L_term
set_option maxRecDepth 20000 in
theorem ggL_law_X18_term : GoodIn wsL_law wsX18_term := goodIn_ca (goodIn_r _ [348, 230, 278, 167, 279, 280, 5, 281, 349, 350, 351, 352, 353, 354, 355, 356, 357, 233, 234, 235, 236, 358, 359, 360, 361, 166, 168, 362, 363, 364, 365, 169, 170, 1793, 1794, 1795, 1796, 1797, 1798, 1799, 1800, 1801, 1802, 1803, 1804, 1805, 1806, 1807, 1808, 1809, 1810, 1811, 1812, 1813, 1814, 1815, 1816, 1817, 1818, 1819, 1820, 1821, 1822, 1823, 1824, 1825, 1826, 1827, 1828, 1829, 1830, 1831, 1832, 1833, 1834, 1835, 1836, 1837, 1838, 1839, 1840, 1841, 1842, 1843, 1844, 1845, 1846, 1847, 1848, 1849, 1850, 1851, 1852, 1853, 1854, 1855, 1856, 1857, 1858, 1859, 1860, 1861, 1862] (by decide +kernel) (by decide +kernel)) (goodIn_sub (fun _ h => List.mem_append_left _ (List.mem_append_left _ (List.mem_append_left _ (List.mem_append_left _ (List.mem_append_left _ (List.mem_append_left _ (List.mem_append_right _ h))))))) (by decide +kernel))
set_option maxRecDepth 20000 in
theorem gL_law_X18_term : GoodIn wsL_law (wsV RL 153 RX18 yX18_term wsX18_term) := goodIn_app (goodIn_of _ (by decide +kernel)) ggL_law_X18_term
set_option maxRecDepth 20000 in
theorem ggL_law_L_constructorOf : GoodIn wsL_law wsL_constructorOf := goodIn_ca (goodIn_ca (goodIn_r _ [368, 244, 369, 370, 371, 2, 372, 17, 373, 374, 375, 376, 250, 251, 377, 306, 307, 16, 308, 47, 266, 267, 268, 45, 269, 58, 378, 322, 323, 324, 301, 302, 303, 304, 54, 57, 1784, 1785, 1786, 1787, 1788, 1789, 1790, 1791, 1792, 1863, 1864, 1865, 1866, 1867, 1908, 1909, 1910] (by decide +kernel) (by decide +kernel)) (goodIn_sub (fun _ h => List.mem_append_left _ (List.mem_append_left _ (List.mem_append_left _ (List.mem_append_left _ (List.mem_append_left _ (List.mem_append_left _ (List.mem_append_right _ h))))))) (by decide +kernel))) (goodIn_sub (fun _ h => List.mem_append_left _ (List.mem_append_left _ (List.mem_append_left _ (List.mem_append_left _ (List.mem_append_right _ h))))) (by decide +kernel))
set_option maxRecDepth 20000 in
theorem gL_law_L_constructorOf : GoodIn wsL_law (va_wsS RL 154 yL_constructorOf wsL_constructorOf) := goodIn_app (goodIn_of _ (by decide +kernel)) ggL_law_L_constructorOf
set_option maxRecDepth 20000 in
theorem ggL_law_X18_constructorOf : GoodIn wsL_law wsX18_constructorOf := goodIn_ca (goodIn_r _ [382, 230, 168, 353, 354, 355, 5, 356, 357, 279, 280, 281, 233, 234, 235, 236, 1793, 1794, 1795, 1796, 1797, 1798, 1799, 1800, 1801, 1802, 1803, 1804, 1805, 1806, 1807, 1808, 1809, 1810, 1811, 1812, 1813, 1814, 1815, 1816, 1817, 1818, 1819, 1820, 1821, 1822, 1823, 1824, 1825, 1826, 1827, 1828, 1829, 1830, 1831, 1832, 1833, 1834, 1835, 1836, 1837, 1838, 1839, 1840, 1841, 1842, 1843, 1844, 1845, 1846, 1847, 1848, 1849, 1850, 1851, 1852, 1853, 1854, 1855, 1856, 1857, 1858, 1859, 1860, 1861, 1862] (by decide +kernel) (by decide +kernel)) (goodIn_sub (fun _ h => List.mem_append_left _ (List.mem_append_left _ (List.mem_append_left _ (List.mem_append_left _ (List.mem_append_left _ (List.mem_append_left _ (List.mem_append_right _ h))))))) (by decide +kernel))
set_option maxRecDepth 20000 in
theorem gL_law_X18_constructorOf : GoodIn wsL_law (wsV RL 157 RX18 yX18_constructorOf wsX18_constructorOf) := goodIn_app (goodIn_of _ (by decide +kernel)) ggL_law_X18_constructorOf
set_option maxRecDepth 20000 in
theorem ggL_law_L_partOf : GoodIn wsL_law wsL_partOf := goodIn_ca (goodIn_ca (goodIn_ca (goodIn_r _ [385, 244, 386, 387, 388, 389, 2, 390, 391, 392, 17, 373, 374, 375, 376, 250, 251, 377, 306, 307, 16, 308, 47, 266, 267, 268, 45, 269, 58, 378, 322, 323, 324, 301, 302, 303, 304, 54, 57, 393, 298, 299, 300, 46, 394, 395, 396, 397, 1784, 1785, 1786, 1787, 1788, 1789, 1790, 1791, 1792, 1863, 1864, 1865, 1866, 1867, 1908, 1909, 1910] (by decide +kernel) (by decide +kernel)) (goodIn_sub (fun _ h => List.mem_append_left _ (List.mem_append_left _ (List.mem_append_left _ (List.mem_append_left _ (List.mem_append_left _ (List.mem_append_left _ (List.mem_append_right _ h))))))) (by decide +kernel))) (goodIn_sub (fun _ h => List.mem_append_left _ (List.mem_append_left _ (List.mem_append_right _ h))) (by decide +kernel))) (goodIn_sub (fun _ h => List.mem_append_left _ (List.mem_append_left _ (List.mem_append_left _ (List.mem_append_left _ (List.mem_append_right _ h))))) (by decide +kernel))
set_option maxRecDepth 20000 in
theorem gL_law_L_partOf : GoodIn wsL_law (va_wsS RL 158 yL_partOf wsL_partOf) := goodIn_app (goodIn_of _ (by decide +kernel)) ggL_law_L_partOf
set_option maxRecDepth 20000 in
theorem ggL_law_X18_partOf : GoodIn wsL_law wsX18_partOf := goodIn_ca (goodIn_r _ [401, 230, 168, 169, 353, 354, 355, 5, 356, 357, 279, 280, 281, 233, 234, 235, 236, 349, 350, 351, 352, 167, 1793, 1794, 1795, 1796, 1797, 1798, 1799, 1800, 1801, 1802, 1803, 1804, 1805, 1806, 1807, 1808, 1809, 1810, 1811, 1812, 1813, 1814, 1815, 1816, 1817, 1818, 1819, 1820, 1821, 1822, 1823, 1824, 1825, 1826, 1827, 1828, 1829, 1830, 1831, 1832, 1833, 1834, 1835, 1836, 1837, 1838, 1839, 1840, 1841, 1842, 1843, 1844, 1845, 1846, 1847, 1848, 1849, 1850, 1851, 1852, 1853, 1854, 1855, 1856, 1857, 1858, 1859, 1860, 1861, 1862] (by decide +kernel) (by decide +kernel)) (goodIn_sub (fun _ h => List.mem_append_left _ (List.mem_append_left _ (List.mem_append_left _ (List.mem_append_left _ (List.mem_append_left _ (List.mem_append_left _ (List.mem_append_right _ h))))))) (by decide +kernel))
set_option maxRecDepth 20000 in
theorem gL_law_X18_partOf : GoodIn wsL_law (wsV RL 161 RX18 yX18_partOf wsX18_partOf) := goodIn_app (goodIn_of _ (by decide +kernel)) ggL_law_X18_partOf
set_option maxRecDepth 20000 in
theorem ggL_law_L_sizeOf : GoodIn wsL_law wsL_sizeOf := goodIn_ca (goodIn_ca (goodIn_r _ [404, 244, 405, 406, 407, 2, 408, 17, 373, 374, 375, 376, 250, 251, 377, 306, 307, 16, 308, 47, 266, 267, 268, 45, 269, 58, 409, 342, 343, 344, 49, 1784, 1785, 1786, 1787, 1788, 1789, 1790, 1791, 1792, 1863, 1864, 1865, 1866, 1867, 1908, 1909, 1910] (by decide +kernel) (by decide +kernel)) (goodIn_sub (fun _ h => List.mem_append_left _ (List.mem_append_left _ (List.mem_append_left _ (List.mem_append_left _ (List.mem_append_left _ (List.mem_append_left _ (List.mem_append_right _ h))))))) (by decide +kernel))) (goodIn_sub (fun _ h => List.mem_append_left _ (List.mem_append_left _ (List.mem_append_left _ (List.mem_append_left _ (List.mem_append_right _ h))))) (by decide +kernel))
set_option maxRecDepth 20000 in
theorem gL_law_L_sizeOf : GoodIn wsL_law (va_wsS RL 162 yL_sizeOf wsL_sizeOf) := goodIn_app (goodIn_of _ (by decide +kernel)) ggL_law_L_sizeOf
set_option maxRecDepth 20000 in
theorem ggL_law_X18_sizeOf : GoodIn wsL_law wsX18_sizeOf := goodIn_ca (goodIn_r _ [413, 230, 170, 353, 354, 355, 5, 356, 357, 279, 280, 281, 1793, 1794, 1795, 1796, 1797, 1798, 1799, 1800, 1801, 1802, 1803, 1804, 1805, 1806, 1807, 1808, 1809, 1810, 1811, 1812, 1813, 1814, 1815, 1816, 1817, 1818, 1819, 1820, 1821, 1822, 1823, 1824, 1825, 1826, 1827, 1828, 1829, 1830, 1831, 1832, 1833, 1834, 1835, 1836, 1837, 1838, 1839, 1840, 1841, 1842, 1843, 1844, 1845, 1846, 1847, 1848, 1849, 1850, 1851, 1852, 1853, 1854, 1855, 1856, 1857, 1858, 1859, 1860, 1861, 1862] (by decide +kernel) (by decide +kernel)) (goodIn_sub (fun _ h => List.mem_append_left _ (List.mem_append_left _ (List.mem_append_left _ (List.mem_append_left _ (List.mem_append_left _ (List.mem_append_left _ (List.mem_append_right _ h))))))) (by decide +kernel))
set_option maxRecDepth 20000 in
theorem gL_law_X18_sizeOf : GoodIn wsL_law (wsV RL 164 RX18 yX18_sizeOf wsX18_sizeOf) := goodIn_app (goodIn_of _ (by decide +kernel)) ggL_law_X18_sizeOf
set_option maxRecDepth 20000 in
theorem ggL_law_L_addPredicate : GoodIn wsL_law wsL_addPredicate := goodIn_ca (goodIn_ca (goodIn_ca (goodIn_ca (goodIn_r _ [416, 244, 245, 211, 417, 418, 419, 2, 420, 250, 251, 252, 253, 216, 217, 21, 35, 258, 259, 260, 261, 17, 254, 255, 256, 16, 257, 42, 421, 422, 423, 20, 424, 104, 425, 426, 427, 103, 428, 429, 430, 431, 432, 433, 434, 435, 436, 437, 438, 439, 440, 12, 13, 441, 442, 44, 45, 443, 444, 102, 445, 446, 447, 448, 449, 450, 451, 51, 52, 53, 54, 55, 56, 57, 58, 452, 453, 454, 60, 61, 62, 63, 64, 65, 66, 67, 68, 69, 70, 71, 72, 73, 74, 75, 76, 77, 78, 79, 80, 81, 82, 83, 84, 85, 86, 87, 88, 89, 90, 91, 92, 93, 94, 95, 96, 455, 108, 109, 110, 111, 112, 113, 114, 115, 116, 117, 118, 119, 120, 121, 456, 457, 458, 459, 460, 461, 462, 463, 464, 465, 466, 467, 468, 469, 470, 471, 472, 473, 474, 475, 476, 477, 478, 479, 480, 481, 482, 483, 484, 485, 486, 487, 488, 489, 490, 491, 492, 493, 494, 495, 496, 497, 498, 499, 500, 501, 502, 503, 504, 505, 506, 1784, 1785, 1786, 1787, 1788, 1789, 1790, 1791, 1792, 1863, 1864, 1865, 1866, 1867, 1868, 1869, 1870, 1921, 1922, 1923, 1924, 1925, 1926, 1927, 1928, 1908, 1909, 1910, 1929, 1930, 1931, 1932, 1911, 1912, 1913, 1914, 1915, 1916, 1917, 1918, 1919, 1920] (by decide +kernel) (by decide +kernel)) (goodIn_sub (fun _ h => List.mem_append_left _ (List.mem_append_left _ (List.mem_append_left _ (List.mem_append_left _ (List.mem_append_left _ (List.mem_append_left _ (List.mem_append_right _ h))))))) (by decide +kernel))) (goodIn_sub (fun _ h => List.mem_append_left _ (List.mem_append_left _ (List.mem_append_left _ (List.mem_append_left _ (List.mem_append_right _ h))))) (by decide +kernel))) (goodIn_sub (fun _ h => List.mem_append_left _ (List.mem_append_left _ (List.mem_append_left _ (List.mem_append_right _ h)))) (by decide +kernel))) (goodIn_sub (fun _ h => List.mem_append_left _ (List.mem_append_left _ (List.mem_append_left _ (List.mem_append_left _ (List.mem_append_left _ (List.mem_append_right _ h)))))) (by decide +kernel))
set_option maxRecDepth 20000 in
theorem gL_law_L_addPredicate : GoodIn wsL_law (va_wsS RL 165 yL_addPredicate wsL_addPredicate) := goodIn_app (goodIn_of _ (by decide +kernel)) ggL_law_L_addPredicate
set_option maxRecDepth 20000 in
theorem ggL_law_X18_addPredicate : GoodIn wsL_law wsX18_addPredicate := goodIn_ca (goodIn_r _ [510, 230, 231, 511, 232, 172, 171, 279, 280, 5, 281, 233, 234, 235, 236, 1793, 1794, 1795, 1796, 1797, 1798, 1799, 1800, 1801, 1802, 1803, 1804, 1805, 1806, 1807, 1808, 1809, 1810, 1811, 1812, 1813, 1814, 1815, 1816, 1817, 1818, 1819, 1820, 1821, 1822, 1823, 1824, 1825, 1826, 1827, 1828, 1829, 1830, 1831, 1832, 1833, 1834, 1835, 1836, 1837, 1838, 1839, 1840, 1841, 1842, 1843, 1844, 1845, 1846, 1847, 1848, 1849, 1850, 1851, 1852, 1853, 1854, 1855, 1856, 1857, 1858, 1859, 1860, 1861, 1862] (by decide +kernel) (by decide +kernel)) (goodIn_sub (fun _ h => List.mem_append_left _ (List.mem_append_left _ (List.mem_append_left _ (List.mem_append_left _ (List.mem_append_left _ (List.mem_append_left _ (List.mem_append_right _ h))))))) (by decide +kernel))
set_option maxRecDepth 20000 in
theorem gL_law_X18_addPredicate : GoodIn wsL_law (wsV RL 167 RX18 yX18_addPredicate wsX18_addPredicate) := goodIn_app (goodIn_of _ (by decide +kernel)) ggL_law_X18_addPredicate
set_option maxRecDepth 20000 in
theorem ggL_law_L_addMode : GoodIn wsL_law wsL_addMode := goodIn_ca (goodIn_ca (goodIn_ca (goodIn_ca (goodIn_r _ [514, 244, 245, 211, 515, 516, 517, 2, 518, 250, 251, 252, 253, 216, 217, 21, 35, 519, 520, 521, 20, 522, 104, 523, 425, 426, 427, 103, 428, 429, 524, 525, 526, 527, 528, 529, 530, 531, 532, 533, 534, 535, 536, 537, 538, 539, 111, 540, 541, 542, 436, 543, 443, 544, 267, 268, 45, 269, 58, 545, 546, 547, 548, 549, 550, 551, 445, 552, 553, 554, 555, 556, 557, 558, 559, 105, 560, 561, 562, 563, 12, 13, 564, 565, 566, 567, 568, 464, 465, 466, 467, 468, 469, 470, 471, 472, 473, 474, 475, 476, 477, 478, 479, 480, 481, 110, 482, 483, 75, 484, 485, 486, 487, 488, 489, 490, 491, 492, 493, 494, 495, 496, 65, 497, 498, 499, 500, 501, 502, 503, 504, 505, 506, 73, 74, 76, 77, 78, 79, 80, 1784, 1785, 1786, 1787, 1788, 1789, 1790, 1791, 1792, 1868, 1869, 1870, 1921, 1922, 1923, 1924, 1925, 1926, 1927, 1928, 1908, 1909, 1910, 1933, 1934, 1935, 1936, 1937, 1938, 1939, 1940, 1941] (by decide +kernel) (by decide +kernel)) (goodIn_sub (fun _ h => List.mem_append_left _ (List.mem_append_left _ (List.mem_append_left _ (List.mem_append_left _ (List.mem_append_left _ (List.mem_append_left _ (List.mem_append_right _ h))))))) (by decide +kernel))) (goodIn_sub (fun _ h => List.mem_append_left _ (List.mem_append_left _ (List.mem_append_left _ (List.mem_append_left _ (List.mem_append_right _ h))))) (by decide +kernel))) (goodIn_sub (fun _ h => List.mem_append_left _ (List.mem_append_left _ (List.mem_append_left _ (List.mem_append_right _ h)))) (by decide +kernel))) (goodIn_sub (fun _ h => List.mem_append_left _ (List.mem_append_left _ (List.mem_append_left _ (List.mem_append_left _ (List.mem_append_left _ (List.mem_append_right _ h)))))) (by decide +kernel))
set_option maxRecDepth 20000 in
theorem gL_law_L_addMode : GoodIn wsL_law (va_wsS RL 168 yL_addMode wsL_addMode) := goodIn_app (goodIn_of _ (by decide +kernel)) ggL_law_L_addMode
set_option maxRecDepth 20000 in
theorem ggL_law_X18_addMode : GoodIn wsL_law wsX18_addMode := goodIn_ca (goodIn_r _ [572, 230, 171, 173, 232, 174, 176, 573, 574, 575, 5, 576, 511, 279, 280, 281, 233, 234, 235, 236, 1793, 1794, 1795, 1796, 1797, 1798, 1799, 1800, 1801, 1802, 1803, 1804, 1805, 1806, 1807, 1808, 1809, 1810, 1811, 1812, 1813, 1814, 1815, 1816, 1817, 1818, 1819, 1820, 1821, 1822, 1823, 1824, 1825, 1826, 1827, 1828, 1829, 1830, 1831, 1832, 1833, 1834, 1835, 1836, 1837, 1838, 1839, 1840, 1841, 1842, 1843, 1844, 1845, 1846, 1847, 1848, 1849, 1850, 1851, 1852, 1853, 1854, 1855, 1856, 1857, 1858, 1859, 1860, 1861, 1862] (by decide +kernel) (by decide +kernel)) (goodIn_sub (fun _ h => List.mem_append_left _ (List.mem_append_left _ (List.mem_append_left _ (List.mem_append_left _ (List.mem_append_left _ (List.mem_append_left _ (List.mem_append_right _ h))))))) (by decide +kernel))
set_option maxRecDepth 20000 in
theorem gL_law_X18_addMode : GoodIn wsL_law (wsV RL 171 RX18 yX18_addMode wsX18_addMode) := goodIn_app (goodIn_of _ (by decide +kernel)) ggL_law_X18_addMode
set_option maxRecDepth 20000 in
theorem ggL_law_L_addClause : GoodIn wsL_law wsL_addClause := goodIn_ca (goodIn_ca (goodIn_ca (goodIn_r _ [579, 244, 211, 580, 581, 582, 2, 583, 250, 251, 216, 217, 21, 35, 519, 520, 521, 20, 522, 104, 523, 425, 426, 427, 103, 428, 429, 524, 525, 526, 527, 528, 529, 530, 531, 532, 533, 534, 535, 536, 537, 538, 539, 111, 584, 585, 586, 587, 106, 588, 589, 590, 591, 592, 593, 594, 595, 596, 597, 598, 12, 13, 599, 600, 601, 44, 45, 602, 603, 102, 604, 56, 605, 606, 607, 608, 609, 610, 611, 612, 51, 52, 53, 54, 55, 57, 58, 613, 614, 615, 436, 616, 443, 617, 302, 303, 304, 618, 60, 61, 62, 63, 64, 65, 66, 67, 68, 69, 70, 71, 72, 73, 74, 75, 76, 77, 78, 79, 80, 81, 82, 83, 84, 85, 86, 87, 88, 89, 90, 91, 92, 93, 94, 95, 96, 619, 108, 109, 110, 112, 113, 114, 115, 116, 117, 118, 119, 120, 121, 464, 465, 466, 467, 468, 469, 470, 471, 472, 473, 474, 475, 476, 477, 478, 479, 480, 481, 482, 483, 484, 485, 486, 487, 488, 489, 490, 491, 492, 493, 494, 495, 496, 497, 498, 499, 500, 501, 502, 503, 504, 505, 506, 1784, 1785, 1786, 1787, 1788, 1789, 1790, 1791, 1792, 1868, 1869, 1870, 1921, 1922, 1923, 1942, 1943, 1944, 1945, 1946, 1947, 1948, 1949, 1950, 1924, 1925, 1926, 1927, 1928, 1908, 1909, 1910, 1911, 1912, 1913, 1914, 1915, 1916, 1917, 1918, 1919, 1920] (by decide +kernel) (by decide +kernel)) (goodIn_sub (fun _ h => List.mem_append_left _ (List.mem_append_left _ (List.mem_append_left _ (List.mem_append_left _ (List.mem_append_left _ (List.mem_append_left _ (List.mem_append_right _ h))))))) (by decide +kernel))) (goodIn_sub (fun _ h => List.mem_append_left _ (List.mem_append_left _ (List.mem_append_left _ (List.mem_append_left _ (List.mem_append_right _ h))))) (by decide +kernel))) (goodIn_sub (fun _ h => List.mem_append_left _ (List.mem_append_left _ (List.mem_append_left _ (List.mem_append_left _ (List.mem_append_left _ (List.mem_append_right _ h)))))) (by decide +kernel))
set_option maxRecDepth 20000 in
theorem gL_law_L_addClause : GoodIn wsL_law (va_wsS RL 172 yL_addClause wsL_addClause) := goodIn_app (goodIn_of _ (by decide +kernel)) ggL_law_L_addClause
set_option maxRecDepth 20000 in
theorem ggL_law_X18_addClause : GoodIn wsL_law wsX18_addClause := goodIn_ca (goodIn_r _ [623, 230, 624, 232, 177, 179, 171, 172, 573, 574, 575, 5, 576, 511, 279, 280, 281, 233, 234, 235, 236, 1793, 1794, 1795, 1796, 1797, 1798, 1799, 1800, 1801, 1802, 1803, 1804, 1805, 1806, 1807, 1808, 1809, 1810, 1811, 1812, 1813, 1814, 1815, 1816, 1817, 1818, 1819, 1820, 1821, 1822, 1823, 1824, 1825, 1826, 1827, 1828, 1829, 1830, 1831, 1832, 1833, 1834, 1835, 1836, 1837, 1838, 1839, 1840, 1841, 1842, 1843, 1844, 1845, 1846, 1847, 1848, 1849, 1850, 1851, 1852, 1853, 1854, 1855, 1856, 1857, 1858, 1859, 1860, 1861, 1862] (by decide +kernel) (by decide +kernel)) (goodIn_sub (fun _ h => List.mem_append_left _ (List.mem_append_left _ (List.mem_append_left _ (List.mem_append_left _ (List.mem_append_left _ (List.mem_append_left _ (List.mem_append_right _ h))))))) (by decide +kernel))
set_option maxRecDepth 20000 in
theorem gL_law_X18_addClause : GoodIn wsL_law (wsV RL 174 RX18 yX18_addClause wsX18_addClause) := goodIn_app (goodIn_of _ (by decide +kernel)) ggL_law_X18_addClause
set_option maxRecDepth 20000 in
theorem ggL_law_L_addBuild : GoodIn wsL_law wsL_addBuild := goodIn_ca (goodIn_ca (goodIn_ca (goodIn_ca (goodIn_r _ [627, 244, 245, 211, 628, 629, 630, 2, 631, 250, 251, 21, 17, 632, 448, 449, 633, 634, 635, 20, 636, 106, 637, 425, 426, 427, 103, 428, 429, 524, 525, 526, 527, 528, 529, 530, 531, 532, 533, 534, 535, 536, 537, 538, 539, 111, 289, 290, 291, 16, 292, 46, 266, 267, 268, 45, 269, 58, 638, 639, 640, 393, 298, 299, 300, 301, 302, 303, 304, 54, 57, 641, 457, 458, 459, 12, 13, 460, 461, 462, 56, 463, 642, 326, 327, 328, 643, 318, 319, 320, 644, 645, 646, 647, 252, 253, 216, 217, 35, 648, 649, 650, 651, 652, 653, 654, 655, 656, 657, 658, 594, 659, 452, 453, 660, 661, 662, 663, 664, 602, 665, 666, 667, 668, 669, 604, 670, 671, 672, 673, 674, 675, 94, 95, 96, 676, 465, 466, 467, 468, 469, 470, 471, 472, 473, 474, 475, 476, 477, 478, 479, 480, 481, 110, 482, 483, 75, 484, 485, 486, 487, 488, 489, 490, 491, 492, 493, 494, 495, 496, 65, 497, 498, 499, 500, 501, 502, 503, 504, 505, 506, 73, 74, 76, 77, 78, 79, 80, 1784, 1785, 1786, 1787, 1788, 1789, 1790, 1791, 1792, 1929, 1930, 1931, 1932, 1868, 1869, 1870, 1921, 1922, 1923, 1863, 1864, 1865, 1866, 1867, 1908, 1909, 1910, 1942, 1943, 1944, 1945, 1946, 1947, 1948, 1949, 1950] (by decide +kernel) (by decide +kernel)) (goodIn_sub (fun _ h => List.mem_append_left _ (List.mem_append_left _ (List.mem_append_left _ (List.mem_append_left _ (List.mem_append_left _ (List.mem_append_left _ (List.mem_append_right _ h))))))) (by decide +kernel))) (goodIn_sub (fun _ h => List.mem_append_left _ (List.mem_append_left _ (List.mem_append_left _ (List.mem_append_left _ (List.mem_append_right _ h))))) (by decide +kernel))) (goodIn_sub (fun _ h => List.mem_append_left _ (List.mem_append_left _ (List.mem_append_left _ (List.mem_append_right _ h)))) (by decide +kernel))) (goodIn_sub (fun _ h => List.mem_append_left _ (List.mem_append_left _ (List.mem_append_left _ (List.mem_append_left _ (List.mem_append_left _ (List.mem_append_right _ h)))))) (by decide +kernel))
set_option maxRecDepth 20000 in
theorem gL_law_L_addBuild : GoodIn wsL_law (va_wsS RL 175 yL_addBuild wsL_addBuild) := goodIn_app (goodIn_of _ (by decide +kernel)) ggL_law_L_addBuild
set_option maxRecDepth 20000 in
theorem ggL_law_X18_addBuild : GoodIn wsL_law wsX18_addBuild := goodIn_ca (goodIn_r _ [680, 230, 278, 166, 167, 681, 682, 683, 5, 684, 624, 279, 280, 281, 233, 234, 235, 236, 685, 686, 687, 688, 193, 179, 689, 690, 691, 692, 349, 350, 351, 352, 693, 694, 695, 696, 178, 232, 180, 181, 182, 1793, 1794, 1795, 1796, 1797, 1798, 1799, 1800, 1801, 1802, 1803, 1804, 1805, 1806, 1807, 1808, 1809, 1810, 1811, 1812, 1813, 1814, 1815, 1816, 1817, 1818, 1819, 1820, 1821, 1822, 1823, 1824, 1825, 1826, 1827, 1828, 1829, 1830, 1831, 1832, 1833, 1834, 1835, 1836, 1837, 1838, 1839, 1840, 1841, 1842, 1843, 1844, 1845, 1846, 1847, 1848, 1849, 1850, 1851, 1852, 1853, 1854, 1855, 1856, 1857, 1858, 1859, 1860, 1861, 1862] (by decide +kernel) (by decide +kernel)) (goodIn_sub (fun _ h => List.mem_append_left _ (List.mem_append_left _ (List.mem_append_left _ (List.mem_append_left _ (List.mem_append_left _ (List.mem_append_left _ (List.mem_append_right _ h))))))) (by decide +kernel))
set_option maxRecDepth 20000 in
theorem gL_law_X18_addBuild : GoodIn wsL_law (wsV RL 178 RX18 yX18_addBuild wsX18_addBuild) := goodIn_app (goodIn_of _ (by decide +kernel)) ggL_law_X18_addBuild
set_option maxRecDepth 20000 in
theorem ggL_law_L_addSame : GoodIn wsL_law wsL_addSame := goodIn_ca (goodIn_ca (goodIn_ca (goodIn_ca (goodIn_r _ [699, 244, 245, 211, 700, 701, 702, 2, 703, 250, 251, 252, 253, 21, 632, 448, 449, 633, 634, 635, 20, 636, 106, 637, 425, 426, 427, 103, 428, 429, 524, 525, 526, 527, 528, 529, 530, 531, 532, 533, 534, 535, 536, 537, 538, 539, 111, 638, 639, 640, 704, 662, 663, 594, 664, 602, 665, 302, 303, 45, 304, 54, 58, 57, 641, 457, 458, 459, 12, 13, 460, 461, 462, 56, 463, 644, 645, 646, 647, 216, 217, 35, 648, 649, 650, 651, 652, 653, 654, 655, 656, 657, 658, 659, 452, 453, 660, 661, 666, 667, 668, 669, 604, 670, 671, 672, 673, 674, 675, 94, 95, 96, 676, 465, 466, 467, 468, 469, 470, 471, 472, 473, 474, 475, 476, 477, 478, 479, 480, 481, 110, 482, 483, 75, 484, 485, 486, 487, 488, 489, 490, 491, 492, 493, 494, 495, 496, 65, 497, 498, 499, 500, 501, 502, 503, 504, 505, 506, 73, 74, 76, 77, 78, 79, 80, 1784, 1785, 1786, 1787, 1788, 1789, 1790, 1791, 1792, 1929, 1930, 1931, 1932, 1868, 1869, 1870, 1921, 1922, 1923, 1942, 1943, 1944, 1945, 1946, 1947, 1948, 1949, 1950, 1908, 1909, 1910] (by decide +kernel) (by decide +kernel)) (goodIn_sub (fun _ h => List.mem_append_left _ (List.mem_append_left _ (List.mem_append_left _ (List.mem_append_left _ (List.mem_append_left _ (List.mem_append_left _ (List.mem_append_right _ h))))))) (by decide +kernel))) (goodIn_sub (fun _ h => List.mem_append_left _ (List.mem_append_left _ (List.mem_append_left _ (List.mem_append_left _ (List.mem_append_right _ h))))) (by decide +kernel))) (goodIn_sub (fun _ h => List.mem_append_left _ (List.mem_append_left _ (List.mem_append_left _ (List.mem_append_right _ h)))) (by decide +kernel))) (goodIn_sub (fun _ h => List.mem_append_left _ (List.mem_append_left _ (List.mem_append_left _ (List.mem_append_left _ (List.mem_append_left _ (List.mem_append_right _ h)))))) (by decide +kernel))
set_option maxRecDepth 20000 in
theorem gL_law_L_addSame : GoodIn wsL_law (va_wsS RL 179 yL_addSame wsL_addSame) := goodIn_app (goodIn_of _ (by decide +kernel)) ggL_law_L_addSame
set_option maxRecDepth 20000 in
theorem ggL_law_X18_addSame : GoodIn wsL_law wsX18_addSame := goodIn_ca (goodIn_r _ [708, 230, 193, 681, 682, 683, 5, 684, 624, 279, 280, 281, 233, 234, 235, 236, 685, 686, 687, 688, 179, 689, 690, 691, 692, 693, 694, 695, 696, 178, 232, 180, 181, 182, 1793, 1794, 1795, 1796, 1797, 1798, 1799, 1800, 1801, 1802, 1803, 1804, 1805, 1806, 1807, 1808, 1809, 1810, 1811, 1812, 1813, 1814, 1815, 1816, 1817, 1818, 1819, 1820, 1821, 1822, 1823, 1824, 1825, 1826, 1827, 1828, 1829, 1830, 1831, 1832, 1833, 1834, 1835, 1836, 1837, 1838, 1839, 1840, 1841, 1842, 1843, 1844, 1845, 1846, 1847, 1848, 1849, 1850, 1851, 1852, 1853, 1854, 1855, 1856, 1857, 1858, 1859, 1860, 1861, 1862] (by decide +kernel) (by decide +kernel)) (goodIn_sub (fun _ h => List.mem_append_left _ (List.mem_append_left _ (List.mem_append_left _ (List.mem_append_left _ (List.mem_append_left _ (List.mem_append_left _ (List.mem_append_right _ h))))))) (by decide +kernel))
set_option maxRecDepth 20000 in
theorem gL_law_X18_addSame : GoodIn wsL_law (wsV RL 181 RX18 yX18_addSame wsX18_addSame) := goodIn_app (goodIn_of _ (by decide +kernel)) ggL_law_X18_addSame
set_option maxRecDepth 20000 in
theorem ggL_law_L_addCall : GoodIn wsL_law wsL_addCall := goodIn_ca (goodIn_ca (goodIn_ca (goodIn_ca (goodIn_r _ [711, 244, 245, 211, 712, 713, 714, 2, 715, 250, 251, 21, 632, 448, 449, 633, 634, 635, 20, 636, 106, 637, 425, 426, 427, 103, 428, 429, 524, 525, 526, 527, 528, 529, 530, 531, 532, 533, 534, 535, 536, 537, 538, 539, 111, 519, 520, 521, 522, 104, 523, 638, 639, 640, 716, 717, 718, 436, 719, 443, 544, 267, 268, 45, 269, 58, 641, 457, 458, 459, 12, 13, 460, 461, 462, 56, 463, 720, 614, 615, 616, 617, 302, 303, 304, 54, 57, 644, 645, 646, 647, 252, 253, 216, 217, 35, 648, 649, 650, 651, 652, 653, 654, 655, 656, 657, 658, 594, 659, 452, 453, 660, 661, 662, 663, 664, 602, 665, 666, 667, 668, 669, 604, 670, 671, 672, 673, 674, 675, 94, 95, 96, 676, 465, 466, 467, 468, 469, 470, 471, 472, 473, 474, 475, 476, 477, 478, 479, 480, 481, 110, 482, 483, 75, 484, 485, 486, 487, 488, 489, 490, 491, 492, 493, 494, 495, 496, 65, 497, 498, 499, 500, 501, 502, 503, 504, 505, 506, 73, 74, 76, 77, 78, 79, 80, 1784, 1785, 1786, 1787, 1788, 1789, 1790, 1791, 1792, 1929, 1930, 1931, 1932, 1868, 1869, 1870, 1921, 1922, 1923, 1924, 1925, 1926, 1927, 1928, 1908, 1909, 1910, 1942, 1943, 1944, 1945, 1946, 1947, 1948, 1949, 1950] (by decide +kernel) (by decide +kernel)) (goodIn_sub (fun _ h => List.mem_append_left _ (List.mem_append_left _ (List.mem_append_left _ (List.mem_append_left _ (List.mem_append_left _ (List.mem_append_left _ (List.mem_append_right _ h))))))) (by decide +kernel))) (goodIn_sub (fun _ h => List.mem_append_left _ (List.mem_append_left _ (List.mem_append_left _ (List.mem_append_left _ (List.mem_append_right _ h))))) (by decide +kernel))) (goodIn_sub (fun _ h => List.mem_append_left _ (List.mem_append_left _ (List.mem_append_left _ (List.mem_append_right _ h)))) (by decide +kernel))) (goodIn_sub (fun _ h => List.mem_append_left _ (List.mem_append_left _ (List.mem_append_left _ (List.mem_append_left _ (List.mem_append_left _ (List.mem_append_right _ h)))))) (by decide +kernel))
set_option maxRecDepth 20000 in
theorem gL_law_L_addCall : GoodIn wsL_law (va_wsS RL 182 yL_addCall wsL_addCall) := goodIn_app (goodIn_of _ (by decide +kernel)) ggL_law_L_addCall
set_option maxRecDepth 20000 in
theorem ggL_law_X18_addCall : GoodIn wsL_law wsX18_addCall := goodIn_ca (goodIn_r _ [724, 230, 171, 172, 681, 682, 683, 5, 684, 624, 279, 280, 281, 573, 574, 575, 576, 511, 233, 234, 235, 236, 685, 686, 687, 688, 193, 179, 689, 690, 691, 692, 693, 694, 695, 696, 178, 232, 180, 181, 182, 1793, 1794, 1795, 1796, 1797, 1798, 1799, 1800, 1801, 1802, 1803, 1804, 1805, 1806, 1807, 1808, 1809, 1810, 1811, 1812, 1813, 1814, 1815, 1816, 1817, 1818, 1819, 1820, 1821, 1822, 1823, 1824, 1825, 1826, 1827, 1828, 1829, 1830, 1831, 1832, 1833, 1834, 1835, 1836, 1837, 1838, 1839, 1840, 1841, 1842, 1843, 1844, 1845, 1846, 1847, 1848, 1849, 1850, 1851, 1852, 1853, 1854, 1855, 1856, 1857, 1858, 1859, 1860, 1861, 1862] (by decide +kernel) (by decide +kernel)) (goodIn_sub (fun _ h => List.mem_append_left _ (List.mem_append_left _ (List.mem_append_left _ (List.mem_append_left _ (List.mem_append_left _ (List.mem_append_left _ (List.mem_append_right _ h))))))) (by decide +kernel))
set_option maxRecDepth 20000 in
theorem gL_law_X18_addCall : GoodIn wsL_law (wsV RL 185 RX18 yX18_addCall wsX18_addCall) := goodIn_app (goodIn_of _ (by decide +kernel)) ggL_law_X18_addCall
set_option maxRecDepth 20000 in
theorem ggL_law_L_compile : GoodIn wsL_law wsL_compile := goodIn_ca (goodIn_ca (goodIn_r _ [727, 211, 728, 729, 730, 2, 731, 216, 217, 35, 21, 17, 732, 733, 734, 20, 735, 105, 736, 425, 426, 427, 103, 428, 429, 524, 525, 526, 527, 528, 529, 530, 531, 532, 533, 534, 535, 536, 537, 538, 539, 111, 737, 738, 739, 740, 741, 742, 743, 436, 744, 446, 552, 745, 746, 747, 748, 749, 750, 751, 752, 753, 754, 755, 756, 757, 594, 758, 605, 759, 667, 668, 669, 604, 670, 760, 761, 762, 763, 764, 765, 766, 767, 768, 769, 770, 771, 772, 773, 774, 775, 776, 449, 777, 460, 778, 520, 521, 522, 104, 523, 779, 549, 550, 551, 445, 780, 781, 782, 783, 784, 785, 786, 787, 788, 789, 790, 559, 791, 566, 792, 653, 654, 655, 463, 793, 794, 795, 796, 797, 798, 799, 462, 652, 800, 801, 802, 803, 606, 608, 610, 611, 804, 805, 806, 807, 808, 809, 810, 811, 812, 813, 541, 542, 543, 443, 544, 267, 268, 45, 269, 58, 814, 815, 816, 817, 818, 819, 820, 821, 822, 823, 824, 825, 826, 827, 828, 829, 830, 831, 832, 833, 834, 835, 836, 837, 838, 839, 840, 841, 842, 843, 844, 845, 846, 847, 848, 849, 850, 851, 852, 853, 854, 855, 856, 614, 615, 616, 617, 302, 303, 304, 54, 57, 857, 263, 264, 16, 265, 46, 266, 858, 326, 327, 328, 301, 859, 860, 861, 862, 863, 864, 865, 866, 867, 868, 869, 870, 871, 872, 873, 874, 875, 876, 877, 878, 879, 567, 880, 1784, 1785, 1786, 1787, 1788, 1789, 1790, 1791, 1792, 1868, 1869, 1870, 1933, 1934, 1935, 1936, 1937, 1938, 1939, 1940, 1941, 1921, 1922, 1923, 1924, 1925, 1926, 1927, 1928, 1942, 1943, 1944, 1945, 1946, 1947, 1948, 1949, 1950, 1929, 1930, 1931, 1932, 1908, 1909, 1910, 1863, 1864, 1865, 1866, 1867] (by decide +kernel) (by decide +kernel)) (goodIn_sub (fun _ h => List.mem_append_left _ (List.mem_append_left _ (List.mem_append_left _ (List.mem_append_left _ (List.mem_append_left _ (List.mem_append_left _ (List.mem_append_right _ h))))))) (by decide +kernel))) (goodIn_sub (fun _ h => List.mem_append_left _ (List.mem_append_left _ (List.mem_append_left _ (List.mem_append_left _ (List.mem_append_left _ (List.mem_append_right _ h)))))) (by decide +kernel))
set_option maxRecDepth 20000 in
theorem gL_law_L_compile : GoodIn wsL_law (va_wsS RL 186 yL_compile wsL_compile) := goodIn_app (goodIn_of _ (by decide +kernel)) ggL_law_L_compile
set_option maxRecDepth 20000 in
theorem ggL_law_X18_compile : GoodIn wsL_law wsX18_compile := goodIn_ca (goodIn_r _ [884, 230, 232, 885, 886, 887, 173, 511, 189, 233, 234, 235, 5, 236, 888, 889, 890, 891, 624, 177, 188, 190, 191, 192, 892, 893, 894, 895, 174, 183, 178, 180, 184, 185, 186, 171, 896, 897, 898, 899, 181, 182, 900, 901, 902, 903, 349, 350, 351, 352, 167, 904, 905, 906, 907, 908, 909, 910, 911, 912, 913, 914, 915, 916, 917, 918, 919, 172, 278, 166, 920, 921, 922, 923, 924, 925, 926, 927, 928, 929, 930, 931, 932, 933, 934, 935, 936, 937, 938, 939, 940, 941, 942, 943, 176, 1793, 1794, 1795, 1796, 1797, 1798, 1799, 1800, 1801, 1802, 1803, 1804, 1805, 1806, 1807, 1808, 1809, 1810, 1811, 1812, 1813, 1814, 1815, 1816, 1817, 1818, 1819, 1820, 1821, 1822, 1823, 1824, 1825, 1826, 1827, 1828, 1829, 1830, 1831, 1832, 1833, 1834, 1835, 1836, 1837, 1838, 1839, 1840, 1841, 1842, 1843, 1844, 1845, 1846, 1847, 1848, 1849, 1850, 1851, 1852, 1853, 1854, 1855, 1856, 1857, 1858, 1859, 1860, 1861, 1862] (by decide +kernel) (by decide +kernel)) (goodIn_sub (fun _ h => List.mem_append_left _ (List.mem_append_left _ (List.mem_append_left _ (List.mem_append_left _ (List.mem_append_left _ (List.mem_append_left _ (List.mem_append_right _ h))))))) (by decide +kernel))
set_option maxRecDepth 20000 in
theorem gL_law_X18_compile : GoodIn wsL_law (wsV RL 188 RX18 yX18_compile wsX18_compile) := goodIn_app (goodIn_of _ (by decide +kernel)) ggL_law_X18_compile
set_option maxRecDepth 20000 in
theorem ggL_law_L_open : GoodIn wsL_law wsL_open := goodIn_ca (goodIn_ca (goodIn_r _ [946, 211, 947, 948, 949, 2, 950, 36, 35, 37, 951, 952, 953, 954, 216, 217, 1784, 1785, 1786, 1787, 1788, 1789, 1790, 1791, 1792] (by decide +kernel) (by decide +kernel)) (goodIn_sub (fun _ h => List.mem_append_left _ (List.mem_append_left _ (List.mem_append_left _ (List.mem_append_left _ (List.mem_append_left _ (List.mem_append_left _ (List.mem_append_right _ h))))))) (by decide +kernel))) (goodIn_sub (fun _ h => List.mem_append_left _ (List.mem_append_left _ (List.mem_append_left _ (List.mem_append_left _ (List.mem_append_left _ (List.mem_append_right _ h)))))) (by decide +kernel))
set_option maxRecDepth 20000 in
theorem gL_law_L_open : GoodIn wsL_law (va_wsS RL 189 yL_open wsL_open) := goodIn_app (goodIn_of _ (by decide +kernel)) ggL_law_L_open
set_option maxRecDepth 20000 in
theorem ggL_law_X18_open : GoodIn wsL_law wsX18_open := goodIn_r _ [958, 230, 232, 887, 885, 886, 233, 234, 235, 5, 236, 1793, 1794, 1795, 1796, 1797, 1798, 1799, 1800, 1801, 1802, 1803, 1804, 1805, 1806, 1807, 1808, 1809, 1810, 1811, 1812, 1813, 1814, 1815, 1816, 1817, 1818, 1819, 1820, 1821, 1822, 1823, 1824, 1825, 1826, 1827, 1828, 1829, 1830, 1831, 1832, 1833, 1834, 1835, 1836, 1837, 1838, 1839, 1840, 1841, 1842, 1843, 1844, 1845, 1846, 1847, 1848, 1849, 1850, 1851, 1852, 1853, 1854, 1855, 1856, 1857, 1858, 1859, 1860, 1861, 1862] (by decide +kernel) (by decide +kernel)
set_option maxRecDepth 20000 in
theorem gL_law_X18_open : GoodIn wsL_law (wsV RL 191 RX18 yX18_open wsX18_open) := goodIn_app (goodIn_of _ (by decide +kernel)) ggL_law_X18_open
set_option maxRecDepth 20000 in
theorem ggL_law_L_fault : GoodIn wsL_law wsL_fault := goodIn_ca (goodIn_ca (goodIn_ca (goodIn_r _ [961, 244, 211, 962, 963, 964, 2, 965, 966, 967, 968, 969, 250, 251, 21, 970, 971, 972, 20, 973, 778, 520, 521, 522, 104, 523, 425, 426, 427, 103, 428, 429, 524, 525, 526, 527, 528, 529, 530, 531, 532, 533, 534, 535, 536, 537, 538, 539, 111, 780, 781, 782, 436, 783, 445, 784, 552, 750, 951, 952, 953, 954, 216, 217, 35, 974, 870, 871, 559, 872, 873, 874, 875, 876, 877, 878, 879, 567, 880, 1784, 1785, 1786, 1787, 1788, 1789, 1790, 1791, 1792, 1868, 1869, 1870, 1921, 1922, 1923, 1924, 1925, 1926, 1927, 1928, 1933, 1934, 1935, 1936, 1937, 1938, 1939, 1940, 1941] (by decide +kernel) (by decide +kernel)) (goodIn_sub (fun _ h => List.mem_append_left _ (List.mem_append_left _ (List.mem_append_left _ (List.mem_append_left _ (List.mem_append_left _ (List.mem_append_left _ (List.mem_append_right _ h))))))) (by decide +kernel))) (goodIn_sub (fun _ h => List.mem_append_left _ (List.mem_append_left _ (List.mem_append_left _ (List.mem_append_left _ (List.mem_append_right _ h))))) (by decide +kernel))) (goodIn_sub (fun _ h => List.mem_append_left _ (List.mem_append_left _ (List.mem_append_left _ (List.mem_append_left _ (List.mem_append_left _ (List.mem_append_right _ h)))))) (by decide +kernel))
set_option maxRecDepth 20000 in
theorem gL_law_L_fault : GoodIn wsL_law (va_wsS RL 192 yL_fault wsL_fault) := goodIn_app (goodIn_of _ (by decide +kernel)) ggL_law_L_fault
set_option maxRecDepth 20000 in
theorem ggL_law_X18_fault : GoodIn wsL_law wsX18_fault := goodIn_ca (goodIn_r _ [978, 979, 980, 981, 5, 982, 173, 232, 230, 573, 574, 575, 576, 511, 279, 280, 281, 940, 941, 942, 943, 188, 176, 190, 191, 189, 1793, 1794, 1795, 1796, 1797, 1798, 1799, 1800, 1801, 1802, 1803, 1804, 1805, 1806, 1807, 1808, 1809, 1810, 1811, 1812, 1813, 1814, 1815, 1816, 1817, 1818, 1819, 1820, 1821, 1822, 1823, 1824, 1825, 1826, 1827, 1828, 1829, 1830, 1831, 1832, 1833, 1834, 1835, 1836, 1837, 1838, 1839, 1840, 1841, 1842, 1843, 1844, 1845, 1846, 1847, 1848, 1849, 1850, 1851, 1852, 1853, 1854, 1855, 1856, 1857, 1858, 1859, 1860, 1861, 1862] (by decide +kernel) (by decide +kernel)) (goodIn_sub (fun _ h => List.mem_append_left _ (List.mem_append_left _ (List.mem_append_left _ (List.mem_append_left _ (List.mem_append_left _ (List.mem_append_left _ (List.mem_append_right _ h))))))) (by decide +kernel))
set_option maxRecDepth 20000 in
theorem gL_law_X18_fault : GoodIn wsL_law (wsV RL 194 RX18 yX18_fault wsX18_fault) := goodIn_app (goodIn_of _ (by decide +kernel)) ggL_law_X18_fault
set_option maxRecDepth 20000 in
theorem ggL_law_L_isGood : GoodIn wsL_law wsL_isGood := goodIn_ca (goodIn_ca (goodIn_ca (goodIn_r _ [985, 244, 211, 986, 987, 988, 2, 989, 966, 967, 968, 969, 250, 251, 21, 970, 971, 972, 20, 973, 778, 520, 521, 522, 104, 523, 425, 426, 427, 103, 428, 429, 524, 525, 526, 527, 528, 529, 530, 531, 532, 533, 534, 535, 536, 537, 538, 539, 111, 780, 781, 782, 436, 783, 445, 784, 552, 750, 951, 952, 953, 954, 216, 217, 35, 1933, 1934, 1935, 1936, 1937, 1938, 1939, 1940, 1941, 1784, 1785, 1786, 1787, 1788, 1789, 1790, 1791, 1792, 1868, 1869, 1870, 1921, 1922, 1923, 1924, 1925, 1926, 1927, 1928] (by decide +kernel) (by decide +kernel)) (goodIn_sub (fun _ h => List.mem_append_left _ (List.mem_append_left _ (List.mem_append_left _ (List.mem_append_left _ (List.mem_append_left _ (List.mem_append_left _ (List.mem_append_right _ h))))))) (by decide +kernel))) (goodIn_sub (fun _ h => List.mem_append_left _ (List.mem_append_left _ (List.mem_append_left _ (List.mem_append_left _ (List.mem_append_right _ h))))) (by decide +kernel))) (goodIn_sub (fun _ h => List.mem_append_left _ (List.mem_append_left _ (List.mem_append_left _ (List.mem_append_left _ (List.mem_append_left _ (List.mem_append_right _ h)))))) (by decide +kernel))
set_option maxRecDepth 20000 in
theorem gL_law_L_isGood : GoodIn wsL_law (va_wsS RL 195 yL_isGood wsL_isGood) := goodIn_app (goodIn_of _ (by decide +kernel)) ggL_law_L_isGood
set_option maxRecDepth 20000 in
theorem ggL_law_X18_isGood : GoodIn wsL_law wsX18_isGood := goodIn_ca (goodIn_r _ [993, 189, 979, 980, 981, 5, 982, 173, 232, 230, 573, 574, 575, 576, 511, 279, 280, 281, 1793, 1794, 1795, 1796, 1797, 1798, 1799, 1800, 1801, 1802, 1803, 1804, 1805, 1806, 1807, 1808, 1809, 1810, 1811, 1812, 1813, 1814, 1815, 1816, 1817, 1818, 1819, 1820, 1821, 1822, 1823, 1824, 1825, 1826, 1827, 1828, 1829, 1830, 1831, 1832, 1833, 1834, 1835, 1836, 1837, 1838, 1839, 1840, 1841, 1842, 1843, 1844, 1845, 1846, 1847, 1848, 1849, 1850, 1851, 1852, 1853, 1854, 1855, 1856, 1857, 1858, 1859, 1860, 1861, 1862] (by decide +kernel) (by decide +kernel)) (goodIn_sub (fun _ h => List.mem_append_left _ (List.mem_append_left _ (List.mem_append_left _ (List.mem_append_left _ (List.mem_append_left _ (List.mem_append_left _ (List.mem_append_right _ h))))))) (by decide +kernel))
set_option maxRecDepth 20000 in
theorem gL_law_X18_isGood : GoodIn wsL_law (wsV RL 197 RX18 yX18_isGood wsX18_isGood) := goodIn_app (goodIn_of _ (by decide +kernel)) ggL_law_X18_isGood
set_option maxRecDepth 20000 in
theorem ggL_law_L_found : GoodIn wsL_law wsL_found := goodIn_ca (goodIn_ca (goodIn_ca (goodIn_ca (goodIn_r _ [996, 244, 211, 386, 997, 998, 999, 2, 1000, 391, 392, 966, 967, 968, 969, 250, 251, 21, 970, 971, 972, 20, 973, 778, 520, 521, 522, 104, 523, 425, 426, 427, 103, 428, 429, 524, 525, 526, 527, 528, 529, 530, 531, 532, 533, 534, 535, 536, 537, 538, 539, 111, 780, 781, 782, 436, 783, 445, 784, 552, 750, 951, 952, 953, 954, 216, 217, 35, 1001, 1002, 1003, 559, 1004, 880, 879, 1933, 1934, 1935, 1936, 1937, 1938, 1939, 1940, 1941, 1784, 1785, 1786, 1787, 1788, 1789, 1790, 1791, 1792, 1868, 1869, 1870, 1921, 1922, 1923, 1924, 1925, 1926, 1927, 1928] (by decide +kernel) (by decide +kernel)) (goodIn_sub (fun _ h => List.mem_append_left _ (List.mem_append_left _ (List.mem_append_left _ (List.mem_append_left _ (List.mem_append_left _ (List.mem_append_left _ (List.mem_append_right _ h))))))) (by decide +kernel))) (goodIn_sub (fun _ h => List.mem_append_left _ (List.mem_append_left _ (List.mem_append_right _ h))) (by decide +kernel))) (goodIn_sub (fun _ h => List.mem_append_left _ (List.mem_append_left _ (List.mem_append_left _ (List.mem_append_left _ (List.mem_append_right _ h))))) (by decide +kernel))) (goodIn_sub (fun _ h => List.mem_append_left _ (List.mem_append_left _ (List.mem_append_left _ (List.mem_append_left _ (List.mem_append_left _ (List.mem_append_right _ h)))))) (by decide +kernel))
set_option maxRecDepth 20000 in
theorem gL_law_L_found : GoodIn wsL_law (va_wsS RL 198 yL_found wsL_found) := goodIn_app (goodIn_of _ (by decide +kernel)) ggL_law_L_found
set_option maxRecDepth 20000 in
theorem ggL_law_X18_found : GoodIn wsL_law wsX18_found := goodIn_ca (goodIn_r _ [1008, 189, 230, 190, 191, 979, 980, 981, 5, 982, 173, 232, 573, 574, 575, 576, 511, 279, 280, 281, 1793, 1794, 1795, 1796, 1797, 1798, 1799, 1800, 1801, 1802, 1803, 1804, 1805, 1806, 1807, 1808, 1809, 1810, 1811, 1812, 1813, 1814, 1815, 1816, 1817, 1818, 1819, 1820, 1821, 1822, 1823, 1824, 1825, 1826, 1827, 1828, 1829, 1830, 1831, 1832, 1833, 1834, 1835, 1836, 1837, 1838, 1839, 1840, 1841, 1842, 1843, 1844, 1845, 1846, 1847, 1848, 1849, 1850, 1851, 1852, 1853, 1854, 1855, 1856, 1857, 1858, 1859, 1860, 1861, 1862] (by decide +kernel) (by decide +kernel)) (goodIn_sub (fun _ h => List.mem_append_left _ (List.mem_append_left _ (List.mem_append_left _ (List.mem_append_left _ (List.mem_append_left _ (List.mem_append_left _ (List.mem_append_right _ h))))))) (by decide +kernel))
set_option maxRecDepth 20000 in
theorem gL_law_X18_found : GoodIn wsL_law (wsV RL 200 RX18 yX18_found wsX18_found) := goodIn_app (goodIn_of _ (by decide +kernel)) ggL_law_X18_found
set_option maxRecDepth 20000 in
theorem ggL_law_L_switchOf : GoodIn wsL_law wsL_switchOf := goodIn_ca (goodIn_ca (goodIn_ca (goodIn_ca (goodIn_r _ [1011, 244, 211, 386, 1012, 1013, 1014, 2, 1015, 391, 392, 966, 967, 968, 969, 250, 251, 21, 970, 971, 972, 20, 973, 778, 520, 521, 522, 104, 523, 425, 426, 427, 103, 428, 429, 524, 525, 526, 527, 528, 529, 530, 531, 532, 533, 534, 535, 536, 537, 538, 539, 111, 780, 781, 782, 436, 783, 445, 784, 552, 750, 951, 952, 953, 954, 216, 217, 35, 1933, 1934, 1935, 1936, 1937, 1938, 1939, 1940, 1941, 1784, 1785, 1786, 1787, 1788, 1789, 1790, 1791, 1792, 1868, 1869, 1870, 1921, 1922, 1923, 1924, 1925, 1926, 1927, 1928] (by decide +kernel) (by decide +kernel)) (goodIn_sub (fun _ h => List.mem_append_left _ (List.mem_append_left _ (List.mem_append_left _ (List.mem_append_left _ (List.mem_append_left _ (List.mem_append_left _ (List.mem_append_right _ h))))))) (by decide +kernel))) (goodIn_sub (fun _ h => List.mem_append_left _ (List.mem_append_left _ (List.mem_append_right _ h))) (by decide +kernel))) (goodIn_sub (fun _ h => List.mem_append_left _ (List.mem_append_left _ (List.mem_append_left _ (List.mem_append_left _ (List.mem_append_right _ h))))) (by decide +kernel))) (goodIn_sub (fun _ h => List.mem_append_left _ (List.mem_append_left _ (List.mem_append_left _ (List.mem_append_left _ (List.mem_append_left _ (List.mem_append_right _ h)))))) (by decide +kernel))
set_option maxRecDepth 20000 in
theorem gL_law_L_switchOf : GoodIn wsL_law (va_wsS RL 201 yL_switchOf wsL_switchOf) := goodIn_app (goodIn_of _ (by decide +kernel)) ggL_law_L_switchOf
set_option maxRecDepth 20000 in
theorem ggL_law_X18_switchOf : GoodIn wsL_law wsX18_switchOf := goodIn_ca (goodIn_r _ [1019, 188, 192, 979, 980, 981, 5, 982, 173, 232, 230, 573, 574, 575, 576, 511, 279, 280, 281, 233, 234, 235, 236, 1793, 1794, 1795, 1796, 1797, 1798, 1799, 1800, 1801, 1802, 1803, 1804, 1805, 1806, 1807, 1808, 1809, 1810, 1811, 1812, 1813, 1814, 1815, 1816, 1817, 1818, 1819, 1820, 1821, 1822, 1823, 1824, 1825, 1826, 1827, 1828, 1829, 1830, 1831, 1832, 1833, 1834, 1835, 1836, 1837, 1838, 1839, 1840, 1841, 1842, 1843, 1844, 1845, 1846, 1847, 1848, 1849, 1850, 1851, 1852, 1853, 1854, 1855, 1856, 1857, 1858, 1859, 1860, 1861, 1862] (by decide +kernel) (by decide +kernel)) (goodIn_sub (fun _ h => List.mem_append_left _ (List.mem_append_left _ (List.mem_append_left _ (List.mem_append_left _ (List.mem_append_left _ (List.mem_append_left _ (List.mem_append_right _ h))))))) (by decide +kernel))
set_option maxRecDepth 20000 in
theorem gL_law_X18_switchOf : GoodIn wsL_law (wsV RL 203 RX18 yX18_switchOf wsX18_switchOf) := goodIn_app (goodIn_of _ (by decide +kernel)) ggL_law_X18_switchOf
set_option maxRecDepth 20000 in
theorem ggL_law_L_goalAt : GoodIn wsL_law wsL_goalAt := goodIn_ca (goodIn_ca (goodIn_ca (goodIn_ca (goodIn_r _ [1022, 244, 211, 386, 1023, 1024, 1025, 2, 1026, 391, 392, 1027, 1028, 1029, 1030, 250, 251, 21, 633, 634, 635, 20, 636, 106, 637, 425, 426, 427, 103, 428, 429, 524, 525, 526, 527, 528, 529, 530, 531, 532, 533, 534, 535, 536, 537, 538, 539, 111, 1031, 781, 782, 436, 783, 445, 784, 552, 750, 951, 952, 953, 954, 216, 217, 35, 1032, 1033, 1034, 594, 1035, 606, 808, 809, 810, 811, 605, 1784, 1785, 1786, 1787, 1788, 1789, 1790, 1791, 1792, 1942, 1943, 1944, 1945, 1946, 1947, 1948, 1949, 1950, 1868, 1869, 1870, 1921, 1922, 1923, 1924, 1925, 1926, 1927, 1928] (by decide +kernel) (by decide +kernel)) (goodIn_sub (fun _ h => List.mem_append_left _ (List.mem_append_left _ (List.mem_append_left _ (List.mem_append_left _ (List.mem_append_left _ (List.mem_append_left _ (List.mem_append_right _ h))))))) (by decide +kernel))) (goodIn_sub (fun _ h => List.mem_append_left _ (List.mem_append_left _ (List.mem_append_right _ h))) (by decide +kernel))) (goodIn_sub (fun _ h => List.mem_append_left _ (List.mem_append_left _ (List.mem_append_left _ (List.mem_append_left _ (List.mem_append_right _ h))))) (by decide +kernel))) (goodIn_sub (fun _ h => List.mem_append_left _ (List.mem_append_left _ (List.mem_append_left _ (List.mem_append_left _ (List.mem_append_left _ (List.mem_append_right _ h)))))) (by decide +kernel))
set_option maxRecDepth 20000 in
theorem gL_law_L_goalAt : GoodIn wsL_law (va_wsS RL 204 yL_goalAt wsL_goalAt) := goodIn_app (goodIn_of _ (by decide +kernel)) ggL_law_L_goalAt
set_option maxRecDepth 20000 in
theorem ggL_law_X18_goalAt : GoodIn wsL_law wsX18_goalAt := goodIn_ca (goodIn_r _ [1039, 184, 1040, 1041, 1042, 5, 1043, 173, 177, 232, 183, 230, 681, 682, 683, 684, 624, 279, 280, 281, 1793, 1794, 1795, 1796, 1797, 1798, 1799, 1800, 1801, 1802, 1803, 1804, 1805, 1806, 1807, 1808, 1809, 1810, 1811, 1812, 1813, 1814, 1815, 1816, 1817, 1818, 1819, 1820, 1821, 1822, 1823, 1824, 1825, 1826, 1827, 1828, 1829, 1830, 1831, 1832, 1833, 1834, 1835, 1836, 1837, 1838, 1839, 1840, 1841, 1842, 1843, 1844, 1845, 1846, 1847, 1848, 1849, 1850, 1851, 1852, 1853, 1854, 1855, 1856, 1857, 1858, 1859, 1860, 1861, 1862] (by decide +kernel) (by decide +kernel)) (goodIn_sub (fun _ h => List.mem_append_left _ (List.mem_append_left _ (List.mem_append_left _ (List.mem_append_left _ (List.mem_append_left _ (List.mem_append_left _ (List.mem_append_right _ h))))))) (by decide +kernel))
set_option maxRecDepth 20000 in
theorem gL_law_X18_goalAt : GoodIn wsL_law (wsV RL 206 RX18 yX18_goalAt wsX18_goalAt) := goodIn_app (goodIn_of _ (by decide +kernel)) ggL_law_X18_goalAt
set_option maxRecDepth 20000 in
theorem ggL_law_L_chosenAt : GoodIn wsL_law wsL_chosenAt := goodIn_ca (goodIn_ca (goodIn_ca (goodIn_ca (goodIn_r _ [1046, 244, 211, 386, 1047, 1048, 1049, 2, 1050, 391, 392, 1027, 1028, 1029, 1030, 250, 251, 21, 633, 634, 635, 20, 636, 106, 637, 425, 426, 427, 103, 428, 429, 524, 525, 526, 527, 528, 529, 530, 531, 532, 533, 534, 535, 536, 537, 538, 539, 111, 1031, 781, 782, 436, 783, 445, 784, 552, 750, 951, 952, 953, 954, 216, 217, 35, 1051, 830, 831, 594, 832, 610, 808, 809, 810, 811, 605, 1933, 1934, 1935, 1936, 1937, 1938, 1939, 1940, 1941, 1784, 1785, 1786, 1787, 1788, 1789, 1790, 1791, 1792, 1942, 1943, 1944, 1945, 1946, 1947, 1948, 1949, 1950, 1868, 1869, 1870, 1921, 1922, 1923, 1924, 1925, 1926, 1927, 1928] (by decide +kernel) (by decide +kernel)) (goodIn_sub (fun _ h => List.mem_append_left _ (List.mem_append_left _ (List.mem_append_left _ (List.mem_append_left _ (List.mem_append_left _ (List.mem_append_left _ (List.mem_append_right _ h))))))) (by decide +kernel))) (goodIn_sub (fun _ h => List.mem_append_left _ (List.mem_append_left _ (List.mem_append_right _ h))) (by decide +kernel))) (goodIn_sub (fun _ h => List.mem_append_left _ (List.mem_append_left _ (List.mem_append_left _ (List.mem_append_left _ (List.mem_append_right _ h))))) (by decide +kernel))) (goodIn_sub (fun _ h => List.mem_append_left _ (List.mem_append_left _ (List.mem_append_left _ (List.mem_append_left _ (List.mem_append_left _ (List.mem_append_right _ h)))))) (by decide +kernel))
set_option maxRecDepth 20000 in
theorem gL_law_L_chosenAt : GoodIn wsL_law (va_wsS RL 207 yL_chosenAt wsL_chosenAt) := goodIn_app (goodIn_of _ (by decide +kernel)) ggL_law_L_chosenAt
set_option maxRecDepth 20000 in
theorem ggL_law_X18_chosenAt : GoodIn wsL_law wsX18_chosenAt := goodIn_ca (goodIn_r _ [1055, 185, 1040, 1041, 1042, 5, 1043, 173, 177, 232, 183, 230, 681, 682, 683, 684, 624, 279, 280, 281, 233, 234, 235, 236, 1793, 1794, 1795, 1796, 1797, 1798, 1799, 1800, 1801, 1802, 1803, 1804, 1805, 1806, 1807, 1808, 1809, 1810, 1811, 1812, 1813, 1814, 1815, 1816, 1817, 1818, 1819, 1820, 1821, 1822, 1823, 1824, 1825, 1826, 1827, 1828, 1829, 1830, 1831, 1832, 1833, 1834, 1835, 1836, 1837, 1838, 1839, 1840, 1841, 1842, 1843, 1844, 1845, 1846, 1847, 1848, 1849, 1850, 1851, 1852, 1853, 1854, 1855, 1856, 1857, 1858, 1859, 1860, 1861, 1862] (by decide +kernel) (by decide +kernel)) (goodIn_sub (fun _ h => List.mem_append_left _ (List.mem_append_left _ (List.mem_append_left _ (List.mem_append_left _ (List.mem_append_left _ (List.mem_append_left _ (List.mem_append_right _ h))))))) (by decide +kernel))
set_option maxRecDepth 20000 in
theorem gL_law_X18_chosenAt : GoodIn wsL_law (wsV RL 209 RX18 yX18_chosenAt wsX18_chosenAt) := goodIn_app (goodIn_of _ (by decide +kernel)) ggL_law_X18_chosenAt
set_option maxRecDepth 20000 in
theorem ggL_law_L_ask : GoodIn wsL_law wsL_ask := goodIn_ca (goodIn_ca (goodIn_ca (goodIn_ca (goodIn_ca (goodIn_r _ [1058, 244, 245, 211, 1059, 1060, 1061, 1062, 2, 1063, 250, 251, 252, 253, 1064, 1065, 21, 26, 30, 25, 36, 37, 970, 971, 972, 20, 973, 778, 520, 521, 522, 104, 523, 425, 426, 427, 103, 428, 429, 524, 525, 526, 527, 528, 529, 530, 531, 532, 533, 534, 535, 536, 537, 538, 539, 111, 780, 781, 782, 436, 783, 445, 784, 552, 750, 1066, 1067, 1068, 1069, 17, 1070, 789, 790, 559, 791, 566, 1071, 452, 453, 377, 306, 307, 16, 308, 47, 266, 267, 268, 45, 269, 58, 1072, 1073, 1074, 1075, 378, 322, 323, 324, 301, 302, 303, 304, 54, 57, 642, 326, 327, 328, 46, 720, 614, 615, 616, 443, 617, 951, 952, 953, 954, 216, 217, 35, 1076, 1077, 1078, 24, 1079, 126, 128, 129, 130, 1080, 1081, 1082, 131, 1083, 1084, 1085, 1086, 1087, 1088, 1089, 1090, 60, 61, 62, 55, 63, 64, 65, 66, 67, 68, 69, 70, 71, 72, 56, 73, 74, 75, 76, 77, 78, 79, 80, 81, 82, 83, 84, 85, 86, 87, 88, 89, 90, 91, 92, 93, 94, 95, 96, 1091, 1092, 1093, 29, 1094, 137, 1095, 1096, 1097, 1098, 1099, 1100, 1101, 1102, 1103, 1104, 1105, 1106, 1107, 1108, 138, 142, 143, 1109, 1110, 1111, 1112, 1113, 1114, 1115, 140, 1116, 1117, 1118, 1119, 1120, 1121, 1122, 1123, 1124, 12, 13, 1125, 1126, 1127, 1128, 465, 466, 467, 468, 469, 470, 471, 472, 473, 474, 475, 476, 477, 478, 479, 480, 481, 110, 482, 483, 484, 485, 486, 487, 488, 489, 490, 491, 492, 493, 494, 495, 496, 497, 498, 499, 500, 501, 502, 503, 504, 505, 506, 1129, 1130, 1131, 1132, 1133, 1134, 1135, 1136, 1137, 1138, 1139, 1140, 1141, 1142, 1143, 1144, 1145, 1146, 1147, 1148, 1149, 1150, 1151, 1152, 1153, 1154, 1155, 1156, 1157, 1158, 1159, 1160, 1161, 1162, 1163, 1164, 1165, 1166, 1167, 746, 747, 748, 446, 749, 1168, 1169, 1170, 1171, 1172, 1173, 742, 743, 744, 1174, 818, 819, 594, 820, 608, 808, 809, 810, 811, 605, 1175, 1176, 1177, 1178, 1179, 1180, 1181, 1182, 1183, 1184, 1185, 1186, 1187, 1188, 1189, 1190, 1191, 1192, 1193, 1194, 1195, 1196, 1197, 1198, 1199, 805, 806, 807, 1200, 1201, 1202, 1203, 1204, 1205, 1206, 1207, 1208, 1209, 1210, 1211, 1212, 717, 718, 719, 544, 1213, 1214, 1215, 1216, 1217, 1218, 1219, 1220, 1221, 1222, 653, 654, 449, 655, 463, 1223, 1224, 1225, 1226, 1227, 1228, 1229, 1230, 1231, 775, 776, 777, 460, 1232, 1233, 1234, 1235, 1236, 830, 831, 832, 610, 1237, 1238, 1239, 1240, 1241, 330, 331, 332, 48, 49, 333, 334, 335, 336, 337, 338, 339, 59, 340, 297, 298, 299, 300, 341, 342, 343, 344, 1242, 1243, 1244, 1245, 1246, 395, 396, 397, 1247, 1248, 1249, 1250, 321, 1251, 1252, 1253, 1784, 1785, 1786, 1787, 1788, 1789, 1790, 1791, 1792, 1933, 1934, 1935, 1936, 1937, 1938, 1939, 1940, 1941, 1871, 1872, 1873, 1874, 1875, 1876, 1877, 1878, 1879, 1880, 1868, 1869, 1870, 1921, 1922, 1923, 1924, 1925, 1926, 1927, 1928, 1863, 1864, 1865, 1866, 1867, 1908, 1909, 1910, 1911, 1912, 1913, 1914, 1915, 1916, 1917, 1918, 1919, 1920, 1881, 1882, 1883, 1884, 1885, 1886, 1887, 1888, 1889, 1890, 1891, 1892, 1951, 1952, 1953, 1954, 1955, 1956, 1957, 1958, 1959, 1960, 1929, 1930, 1931, 1932, 1942, 1943, 1944, 1945, 1946, 1947, 1948, 1949, 1950] (by decide +kernel) (by decide +kernel)) (goodIn_sub (fun _ h => List.mem_append_left _ (List.mem_append_left _ (List.mem_append_left _ (List.mem_append_left _ (List.mem_append_left _ (List.mem_append_left _ (List.mem_append_right _ h))))))) (by decide +kernel))) (goodIn_sub (fun _ h => List.mem_append_left _ (List.mem_append_left _ (List.mem_append_left _ (List.mem_append_left _ (List.mem_append_right _ h))))) (by decide +kernel))) (goodIn_sub (fun _ h => List.mem_append_left _ (List.mem_append_left _ (List.mem_append_left _ (List.mem_append_right _ h)))) (by decide +kernel))) (goodIn_sub (fun _ h => List.mem_append_left _ (List.mem_append_right _ h)) (by decide +kernel))) (goodIn_sub (fun _ h => List.mem_append_left _ (List.mem_append_left _ (List.mem_append_left _ (List.mem_append_left _ (List.mem_append_left _ (List.mem_append_right _ h)))))) (by decide +kernel))
set_option maxRecDepth 20000 in
theorem gL_law_L_ask : GoodIn wsL_law (va_wsS RL 210 yL_ask wsL_ask) := goodIn_app (goodIn_of _ (by decide +kernel)) ggL_law_L_ask
set_option maxRecDepth 20000 in
theorem ggL_law_X18_ask : GoodIn wsL_law wsX18_ask := goodIn_ca (goodIn_r _ [1257, 230, 173, 56, 172, 232, 189, 357, 1258, 1259, 1260, 1261, 1262, 1263, 1264, 1265, 1266, 887, 885, 1267, 1268, 1269, 1270, 1271, 886, 1272, 1273, 1274, 194, 195, 198, 196, 199, 197, 200, 573, 574, 575, 5, 576, 511, 279, 280, 281, 233, 234, 235, 236, 1275, 1276, 1277, 1278, 171, 174, 353, 354, 355, 356, 358, 359, 360, 361, 166, 168, 1279, 1280, 1281, 1282, 1283, 183, 1284, 177, 1285, 1286, 1287, 1288, 1289, 483, 75, 484, 1290, 1291, 1292, 1293, 1294, 1295, 1296, 1297, 1298, 1299, 1300, 192, 624, 184, 181, 1301, 1302, 1303, 1304, 12, 13, 1305, 1306, 1307, 1308, 1309, 1310, 1311, 1312, 1313, 1314, 1315, 1316, 201, 1317, 1318, 1319, 1320, 1321, 1322, 1323, 1324, 1325, 1326, 1327, 1328, 1329, 1330, 1331, 1332, 1333, 1334, 1335, 1336, 202, 203, 1337, 1338, 1339, 1340, 1341, 1342, 1343, 182, 1344, 1345, 1346, 1347, 1348, 1349, 1350, 1351, 1352, 1353, 1354, 1355, 1356, 1357, 1358, 1359, 1360, 180, 185, 1361, 1362, 1363, 1364, 1365, 1366, 1367, 1368, 169, 349, 350, 351, 352, 167, 362, 363, 364, 365, 170, 1369, 1370, 1371, 1372, 1373, 1374, 1375, 1376, 1793, 1794, 1795, 1796, 1797, 1798, 1799, 1800, 1801, 1802, 1803, 1804, 1805, 1806, 1807, 1808, 1809, 1810, 1811, 1812, 1813, 1814, 1815, 1816, 1817, 1818, 1819, 1820, 1821, 1822, 1823, 1824, 1825, 1826, 1827, 1828, 1829, 1830, 1831, 1832, 1833, 1834, 1835, 1836, 1837, 1838, 1839, 1840, 1841, 1842, 1843, 1844, 1845, 1846, 1847, 1848, 1849, 1850, 1851, 1852, 1853, 1854, 1855, 1856, 1857, 1858, 1859, 1860, 1861, 1862, 1961, 1962, 1963, 1964, 1965, 1966, 1967, 1968, 1969, 1970, 1971, 1972, 1973, 1974, 1975] (by decide +kernel) (by decide +kernel)) (goodIn_sub (fun _ h => List.mem_append_left _ (List.mem_append_left _ (List.mem_append_left _ (List.mem_append_left _ (List.mem_append_left _ (List.mem_append_left _ (List.mem_append_right _ h))))))) (by decide +kernel))
set_option maxRecDepth 20000 in
theorem gL_law_X18_ask : GoodIn wsL_law (wsV RL 212 RX18 yX18_ask wsX18_ask) := goodIn_app (goodIn_of _ (by decide +kernel)) ggL_law_X18_ask
set_option maxRecDepth 20000 in
theorem ggL_law_L_ending : GoodIn wsL_law wsL_ending := goodIn_ca (goodIn_ca (goodIn_r _ [1379, 386, 1380, 1381, 1382, 2, 1383, 25, 1384, 1385, 1386, 1387, 391, 392, 36, 1784, 1785, 1786, 1787, 1788, 1789, 1790, 1791, 1792, 1871, 1872, 1873, 1874, 1875, 1876, 1877, 1878, 1879, 1880] (by decide +kernel) (by decide +kernel)) (goodIn_sub (fun _ h => List.mem_append_left _ (List.mem_append_left _ (List.mem_append_left _ (List.mem_append_left _ (List.mem_append_left _ (List.mem_append_left _ (List.mem_append_right _ h))))))) (by decide +kernel))) (goodIn_sub (fun _ h => List.mem_append_left _ (List.mem_append_left _ (List.mem_append_right _ h))) (by decide +kernel))
set_option maxRecDepth 20000 in
theorem gL_law_L_ending : GoodIn wsL_law (va_wsS RL 213 yL_ending wsL_ending) := goodIn_app (goodIn_of _ (by decide +kernel)) ggL_law_L_ending
set_option maxRecDepth 20000 in
theorem ggL_law_X18_ending : GoodIn wsL_law wsX18_ending := goodIn_r _ [1391, 1269, 1392, 1393, 1394, 5, 1395, 887, 230, 1793, 1794, 1795, 1796, 1797, 1798, 1799, 1800, 1801, 1802, 1803, 1804, 1805, 1806, 1807, 1808, 1809, 1810, 1811, 1812, 1813, 1814, 1815, 1816, 1817, 1818, 1819, 1820, 1821, 1822, 1823, 1824, 1825, 1826, 1827, 1828, 1829, 1830, 1831, 1832, 1833, 1834, 1835, 1836, 1837, 1838, 1839, 1840, 1841, 1842, 1843, 1844, 1845, 1846, 1847, 1848, 1849, 1850, 1851, 1852, 1853, 1854, 1855, 1856, 1857, 1858, 1859, 1860, 1861, 1862] (by decide +kernel) (by decide +kernel)
set_option maxRecDepth 20000 in
theorem gL_law_X18_ending : GoodIn wsL_law (wsV RL 215 RX18 yX18_ending wsX18_ending) := goodIn_app (goodIn_of _ (by decide +kernel)) ggL_law_X18_ending
set_option maxRecDepth 20000 in
theorem ggL_law_L_answerAt : GoodIn wsL_law wsL_answerAt := goodIn_ca (goodIn_ca (goodIn_ca (goodIn_r _ [1398, 386, 244, 1399, 1400, 1401, 2, 1402, 250, 251, 25, 1384, 1385, 1386, 1387, 391, 392, 36, 1403, 1404, 1405, 24, 1406, 129, 1162, 267, 268, 45, 269, 58, 1407, 1408, 1409, 1410, 126, 1411, 717, 718, 436, 719, 443, 544, 1412, 1413, 1414, 1415, 1148, 302, 303, 304, 54, 57, 1784, 1785, 1786, 1787, 1788, 1789, 1790, 1791, 1792, 1871, 1872, 1873, 1874, 1875, 1876, 1877, 1878, 1879, 1880, 1908, 1909, 1910, 1933, 1934, 1935, 1936, 1937, 1938, 1939, 1940, 1941, 1924, 1925, 1926, 1927, 1928] (by decide +kernel) (by decide +kernel)) (goodIn_sub (fun _ h => List.mem_append_left _ (List.mem_append_left _ (List.mem_append_left _ (List.mem_append_left _ (List.mem_append_left _ (List.mem_append_left _ (List.mem_append_right _ h))))))) (by decide +kernel))) (goodIn_sub (fun _ h => List.mem_append_left _ (List.mem_append_left _ (List.mem_append_left _ (List.mem_append_left _ (List.mem_append_right _ h))))) (by decide +kernel))) (goodIn_sub (fun _ h => List.mem_append_left _ (List.mem_append_left _ (List.mem_append_right _ h))) (by decide +kernel))
set_option maxRecDepth 20000 in
theorem gL_law_L_answerAt : GoodIn wsL_law (va_wsS RL 216 yL_answerAt wsL_answerAt) := goodIn_app (goodIn_of _ (by decide +kernel)) ggL_law_L_answerAt
set_option maxRecDepth 20000 in
theorem ggL_law_X18_answerAt : GoodIn wsL_law wsX18_answerAt := goodIn_ca (goodIn_r _ [1419, 1270, 171, 1267, 195, 1392, 1393, 1394, 5, 1395, 887, 230, 279, 280, 281, 233, 234, 235, 236, 1793, 1794, 1795, 1796, 1797, 1798, 1799, 1800, 1801, 1802, 1803, 1804, 1805, 1806, 1807, 1808, 1809, 1810, 1811, 1812, 1813, 1814, 1815, 1816, 1817, 1818, 1819, 1820, 1821, 1822, 1823, 1824, 1825, 1826, 1827, 1828, 1829, 1830, 1831, 1832, 1833, 1834, 1835, 1836, 1837, 1838, 1839, 1840, 1841, 1842, 1843, 1844, 1845, 1846, 1847, 1848, 1849, 1850, 1851, 1852, 1853, 1854, 1855, 1856, 1857, 1858, 1859, 1860, 1861, 1862] (by decide +kernel) (by decide +kernel)) (goodIn_sub (fun _ h => List.mem_append_left _ (List.mem_append_left _ (List.mem_append_left _ (List.mem_append_left _ (List.mem_append_left _ (List.mem_append_left _ (List.mem_append_right _ h))))))) (by decide +kernel))
set_option maxRecDepth 20000 in
theorem gL_law_X18_answerAt : GoodIn wsL_law (wsV RL 218 RX18 yX18_answerAt wsX18_answerAt) := goodIn_app (goodIn_of _ (by decide +kernel)) ggL_law_X18_answerAt
set_option maxRecDepth 20000 in
theorem ggL_law_L_multiplicity : GoodIn wsL_law wsL_multiplicity := goodIn_ca (goodIn_ca (goodIn_ca (goodIn_r _ [1422, 386, 244, 1423, 1424, 1425, 2, 1426, 250, 251, 25, 1384, 1385, 1386, 1387, 391, 392, 36, 1403, 1404, 1405, 24, 1406, 129, 1162, 267, 268, 45, 269, 58, 1427, 1428, 1429, 1430, 1148, 302, 303, 304, 54, 57, 1784, 1785, 1786, 1787, 1788, 1789, 1790, 1791, 1792, 1871, 1872, 1873, 1874, 1875, 1876, 1877, 1878, 1879, 1880, 1908, 1909, 1910] (by decide +kernel) (by decide +kernel)) (goodIn_sub (fun _ h => List.mem_append_left _ (List.mem_append_left _ (List.mem_append_left _ (List.mem_append_left _ (List.mem_append_left _ (List.mem_append_left _ (List.mem_append_right _ h))))))) (by decide +kernel))) (goodIn_sub (fun _ h => List.mem_append_left _ (List.mem_append_left _ (List.mem_append_left _ (List.mem_append_left _ (List.mem_append_right _ h))))) (by decide +kernel))) (goodIn_sub (fun _ h => List.mem_append_left _ (List.mem_append_left _ (List.mem_append_right _ h))) (by decide +kernel))
set_option maxRecDepth 20000 in
theorem gL_law_L_multiplicity : GoodIn wsL_law (va_wsS RL 219 yL_multiplicity wsL_multiplicity) := goodIn_app (goodIn_of _ (by decide +kernel)) ggL_law_L_multiplicity
set_option maxRecDepth 20000 in
theorem ggL_law_X18_multiplicity : GoodIn wsL_law wsX18_multiplicity := goodIn_ca (goodIn_r _ [1434, 1270, 171, 1267, 195, 1392, 1393, 1394, 5, 1395, 887, 230, 279, 280, 281, 233, 234, 235, 236, 1793, 1794, 1795, 1796, 1797, 1798, 1799, 1800, 1801, 1802, 1803, 1804, 1805, 1806, 1807, 1808, 1809, 1810, 1811, 1812, 1813, 1814, 1815, 1816, 1817, 1818, 1819, 1820, 1821, 1822, 1823, 1824, 1825, 1826, 1827, 1828, 1829, 1830, 1831, 1832, 1833, 1834, 1835, 1836, 1837, 1838, 1839, 1840, 1841, 1842, 1843, 1844, 1845, 1846, 1847, 1848, 1849, 1850, 1851, 1852, 1853, 1854, 1855, 1856, 1857, 1858, 1859, 1860, 1861, 1862] (by decide +kernel) (by decide +kernel)) (goodIn_sub (fun _ h => List.mem_append_left _ (List.mem_append_left _ (List.mem_append_left _ (List.mem_append_left _ (List.mem_append_left _ (List.mem_append_left _ (List.mem_append_right _ h))))))) (by decide +kernel))
set_option maxRecDepth 20000 in
theorem gL_law_X18_multiplicity : GoodIn wsL_law (wsV RL 221 RX18 yX18_multiplicity wsX18_multiplicity) := goodIn_app (goodIn_of _ (by decide +kernel)) ggL_law_X18_multiplicity
set_option maxRecDepth 20000 in
theorem ggL_law_L_answersByBreadth : GoodIn wsL_law wsL_answersByBreadth := goodIn_ca (goodIn_ca (goodIn_ca (goodIn_r _ [1437, 386, 1059, 1438, 1439, 1440, 2, 1441, 1064, 1065, 25, 34, 1384, 1385, 1386, 1387, 391, 392, 36, 1442, 1443, 1444, 33, 1445, 1446, 1447, 157, 159, 1448, 156, 1449, 1450, 1451, 1452, 153, 154, 155, 158, 1453, 1454, 151, 1455, 1456, 1086, 1087, 45, 1088, 58, 1457, 1102, 1103, 16, 1104, 47, 266, 267, 268, 269, 1458, 322, 323, 324, 301, 302, 303, 304, 54, 57, 1459, 395, 396, 397, 1460, 60, 61, 62, 55, 63, 64, 65, 66, 67, 68, 69, 70, 71, 72, 56, 73, 74, 75, 76, 77, 78, 79, 80, 81, 82, 83, 84, 85, 86, 87, 88, 89, 90, 91, 92, 93, 94, 95, 96, 1461, 1462, 717, 718, 436, 719, 443, 544, 1463, 1145, 1146, 24, 1147, 128, 1148, 1464, 1465, 1466, 1467, 1468, 1469, 1470, 1471, 1472, 1473, 1474, 1475, 1476, 1477, 1478, 1479, 1480, 1481, 1482, 1483, 1484, 1485, 150, 1486, 1487, 1488, 1489, 1490, 520, 521, 20, 522, 104, 523, 425, 426, 427, 103, 428, 429, 524, 525, 526, 527, 528, 529, 530, 531, 532, 533, 534, 535, 536, 537, 538, 539, 111, 1491, 634, 635, 636, 106, 637, 1492, 765, 766, 594, 767, 604, 768, 670, 769, 1493, 746, 747, 748, 446, 749, 552, 750, 1494, 1495, 1496, 1497, 1498, 1499, 1500, 1501, 1502, 653, 654, 449, 655, 463, 1503, 662, 663, 664, 602, 665, 1504, 667, 668, 669, 1505, 742, 743, 744, 1506, 1507, 1508, 1509, 1510, 1511, 1512, 1513, 1514, 1515, 1516, 1517, 1518, 1519, 1520, 1521, 1522, 1523, 1524, 1525, 1526, 1527, 1528, 1529, 1530, 1531, 1532, 1533, 1534, 1535, 1536, 1537, 1538, 483, 484, 1539, 1540, 1541, 1542, 160, 1543, 298, 299, 300, 46, 1544, 1545, 1546, 1547, 1548, 1549, 1550, 1551, 1552, 1553, 1554, 1555, 1556, 1557, 1558, 1559, 1560, 1561, 1562, 1563, 1564, 1565, 1566, 1567, 1568, 1569, 1570, 1571, 1572, 1784, 1785, 1786, 1787, 1788, 1789, 1790, 1791, 1792, 1871, 1872, 1873, 1874, 1875, 1876, 1877, 1878, 1879, 1880, 1933, 1934, 1935, 1936, 1937, 1938, 1939, 1940, 1941, 1893, 1894, 1895, 1896, 1897, 1898, 1899, 1900, 1901, 1902, 1903, 1904, 1905, 1906, 1907, 1924, 1925, 1926, 1927, 1928, 1908, 1909, 1910, 1863, 1864, 1865, 1866, 1867, 1911, 1912, 1913, 1914, 1915, 1916, 1917, 1918, 1919, 1920, 1929, 1930, 1931, 1932, 1868, 1869, 1870, 1921, 1922, 1923, 1942, 1943, 1944, 1945, 1946, 1947, 1948, 1949, 1950] (by decide +kernel) (by decide +kernel)) (goodIn_sub (fun _ h => List.mem_append_left _ (List.mem_append_left _ (List.mem_append_left _ (List.mem_append_left _ (List.mem_append_left _ (List.mem_append_left _ (List.mem_append_right _ h))))))) (by decide +kernel))) (goodIn_sub (fun _ h => List.mem_append_left _ (List.mem_append_right _ h)) (by decide +kernel))) (goodIn_sub (fun _ h => List.mem_append_left _ (List.mem_append_left _ (List.mem_append_right _ h))) (by decide +kernel))
set_option maxRecDepth 20000 in
theorem gL_law_L_answersByBreadth : GoodIn wsL_law (va_wsS RL 222 yL_answersByBreadth wsL_answersByBreadth) := goodIn_app (goodIn_of _ (by decide +kernel)) ggL_law_L_answersByBreadth
set_option maxRecDepth 20000 in
theorem ggL_law_X18_answersByBreadth : GoodIn wsL_law wsX18_answersByBreadth := goodIn_ca (goodIn_r _ [1576, 204, 357, 168, 169, 1577, 1578, 171, 1267, 1268, 194, 1579, 1580, 1581, 1582, 1583, 1584, 1585, 1392, 1393, 1394, 5, 1395, 887, 230, 349, 350, 351, 352, 167, 1586, 1587, 1588, 1589, 12, 13, 1590, 1591, 1592, 1275, 1276, 1277, 1278, 174, 1593, 1594, 1595, 1596, 1597, 1598, 1599, 1600, 1601, 1602, 1603, 1604, 1605, 1606, 1607, 1608, 1609, 1610, 1611, 1612, 624, 177, 1613, 1614, 1615, 1616, 1617, 1618, 1619, 1620, 1621, 1622, 1623, 1624, 1625, 1626, 1627, 1628, 1629, 1630, 1631, 1632, 1633, 1634, 1635, 1636, 178, 180, 181, 182, 1637, 1638, 1639, 1640, 1641, 1642, 1643, 1644, 1645, 1646, 1647, 1648, 1649, 1650, 1651, 1652, 1653, 1654, 1655, 1656, 1657, 1658, 1659, 205, 206, 233, 234, 235, 236, 1793, 1794, 1795, 1796, 1797, 1798, 1799, 1800, 1801, 1802, 1803, 1804, 1805, 1806, 1807, 1808, 1809, 1810, 1811, 1812, 1813, 1814, 1815, 1816, 1817, 1818, 1819, 1820, 1821, 1822, 1823, 1824, 1825, 1826, 1827, 1828, 1829, 1830, 1831, 1832, 1833, 1834, 1835, 1836, 1837, 1838, 1839, 1840, 1841, 1842, 1843, 1844, 1845, 1846, 1847, 1848, 1849, 1850, 1851, 1852, 1853, 1854, 1855, 1856, 1857, 1858, 1859, 1860, 1861, 1862, 1976, 1977, 1978, 1979, 1980, 1981, 1982, 1983, 1984, 1985, 1986, 1987, 1988, 1989, 1990, 1991] (by decide +kernel) (by decide +kernel)) (goodIn_sub (fun _ h => List.mem_append_left _ (List.mem_append_left _ (List.mem_append_left _ (List.mem_append_left _ (List.mem_append_left _ (List.mem_append_left _ (List.mem_append_right _ h))))))) (by decide +kernel))
set_option maxRecDepth 20000 in
theorem gL_law_X18_answersByBreadth : GoodIn wsL_law (wsV RL 224 RX18 yX18_answersByBreadth wsX18_answersByBreadth) := goodIn_app (goodIn_of _ (by decide +kernel)) ggL_law_X18_answersByBreadth
set_option maxRecDepth 20000 in
theorem ggL_law_L_steps : GoodIn wsL_law wsL_steps := goodIn_ca (goodIn_ca (goodIn_r _ [1662, 386, 1663, 1664, 1665, 2, 1666, 25, 1384, 1385, 1386, 1387, 391, 392, 36, 1784, 1785, 1786, 1787, 1788, 1789, 1790, 1791, 1792, 1871, 1872, 1873, 1874, 1875, 1876, 1877, 1878, 1879, 1880] (by decide +kernel) (by decide +kernel)) (goodIn_sub (fun _ h => List.mem_append_left _ (List.mem_append_left _ (List.mem_append_left _ (List.mem_append_left _ (List.mem_append_left _ (List.mem_append_left _ (List.mem_append_right _ h))))))) (by decide +kernel))) (goodIn_sub (fun _ h => List.mem_append_left _ (List.mem_append_left _ (List.mem_append_right _ h))) (by decide +kernel))
set_option maxRecDepth 20000 in
theorem gL_law_L_steps : GoodIn wsL_law (va_wsS RL 225 yL_steps wsL_steps) := goodIn_app (goodIn_of _ (by decide +kernel)) ggL_law_L_steps
set_option maxRecDepth 20000 in
theorem ggL_law_X18_steps : GoodIn wsL_law wsX18_steps := goodIn_r _ [1670, 1271, 1392, 1393, 1394, 5, 1395, 887, 230, 1793, 1794, 1795, 1796, 1797, 1798, 1799, 1800, 1801, 1802, 1803, 1804, 1805, 1806, 1807, 1808, 1809, 1810, 1811, 1812, 1813, 1814, 1815, 1816, 1817, 1818, 1819, 1820, 1821, 1822, 1823, 1824, 1825, 1826, 1827, 1828, 1829, 1830, 1831, 1832, 1833, 1834, 1835, 1836, 1837, 1838, 1839, 1840, 1841, 1842, 1843, 1844, 1845, 1846, 1847, 1848, 1849, 1850, 1851, 1852, 1853, 1854, 1855, 1856, 1857, 1858, 1859, 1860, 1861, 1862] (by decide +kernel) (by decide +kernel)
set_option maxRecDepth 20000 in
theorem gL_law_X18_steps : GoodIn wsL_law (wsV RL 227 RX18 yX18_steps wsX18_steps) := goodIn_app (goodIn_of _ (by decide +kernel)) ggL_law_X18_steps
set_option maxRecDepth 20000 in
theorem ggL_law_L_choicePoints : GoodIn wsL_law wsL_choicePoints := goodIn_ca (goodIn_ca (goodIn_r _ [1673, 386, 1674, 1675, 1676, 2, 1677, 25, 1384, 1385, 1386, 1387, 391, 392, 36, 1784, 1785, 1786, 1787, 1788, 1789, 1790, 1791, 1792, 1871, 1872, 1873, 1874, 1875, 1876, 1877, 1878, 1879, 1880] (by decide +kernel) (by decide +kernel)) (goodIn_sub (fun _ h => List.mem_append_left _ (List.mem_append_left _ (List.mem_append_left _ (List.mem_append_left _ (List.mem_append_left _ (List.mem_append_left _ (List.mem_append_right _ h))))))) (by decide +kernel))) (goodIn_sub (fun _ h => List.mem_append_left _ (List.mem_append_left _ (List.mem_append_right _ h))) (by decide +kernel))
set_option maxRecDepth 20000 in
theorem gL_law_L_choicePoints : GoodIn wsL_law (va_wsS RL 228 yL_choicePoints wsL_choicePoints) := goodIn_app (goodIn_of _ (by decide +kernel)) ggL_law_L_choicePoints
set_option maxRecDepth 20000 in
theorem ggL_law_X18_choicePoints : GoodIn wsL_law wsX18_choicePoints := goodIn_r _ [1681, 1272, 1392, 1393, 1394, 5, 1395, 887, 230, 1793, 1794, 1795, 1796, 1797, 1798, 1799, 1800, 1801, 1802, 1803, 1804, 1805, 1806, 1807, 1808, 1809, 1810, 1811, 1812, 1813, 1814, 1815, 1816, 1817, 1818, 1819, 1820, 1821, 1822, 1823, 1824, 1825, 1826, 1827, 1828, 1829, 1830, 1831, 1832, 1833, 1834, 1835, 1836, 1837, 1838, 1839, 1840, 1841, 1842, 1843, 1844, 1845, 1846, 1847, 1848, 1849, 1850, 1851, 1852, 1853, 1854, 1855, 1856, 1857, 1858, 1859, 1860, 1861, 1862] (by decide +kernel) (by decide +kernel)
set_option maxRecDepth 20000 in
theorem gL_law_X18_choicePoints : GoodIn wsL_law (wsV RL 230 RX18 yX18_choicePoints wsX18_choicePoints) := goodIn_app (goodIn_of _ (by decide +kernel)) ggL_law_X18_choicePoints
set_option maxRecDepth 20000 in
theorem ggL_law_L_deepest : GoodIn wsL_law wsL_deepest := goodIn_ca (goodIn_ca (goodIn_r _ [1684, 386, 1685, 1686, 1687, 2, 1688, 25, 1384, 1385, 1386, 1387, 391, 392, 36, 1784, 1785, 1786, 1787, 1788, 1789, 1790, 1791, 1792, 1871, 1872, 1873, 1874, 1875, 1876, 1877, 1878, 1879, 1880] (by decide +kernel) (by decide +kernel)) (goodIn_sub (fun _ h => List.mem_append_left _ (List.mem_append_left _ (List.mem_append_left _ (List.mem_append_left _ (List.mem_append_left _ (List.mem_append_left _ (List.mem_append_right _ h))))))) (by decide +kernel))) (goodIn_sub (fun _ h => List.mem_append_left _ (List.mem_append_left _ (List.mem_append_right _ h))) (by decide +kernel))
set_option maxRecDepth 20000 in
theorem gL_law_L_deepest : GoodIn wsL_law (va_wsS RL 231 yL_deepest wsL_deepest) := goodIn_app (goodIn_of _ (by decide +kernel)) ggL_law_L_deepest
set_option maxRecDepth 20000 in
theorem ggL_law_X18_deepest : GoodIn wsL_law wsX18_deepest := goodIn_r _ [1692, 1273, 1392, 1393, 1394, 5, 1395, 887, 230, 1793, 1794, 1795, 1796, 1797, 1798, 1799, 1800, 1801, 1802, 1803, 1804, 1805, 1806, 1807, 1808, 1809, 1810, 1811, 1812, 1813, 1814, 1815, 1816, 1817, 1818, 1819, 1820, 1821, 1822, 1823, 1824, 1825, 1826, 1827, 1828, 1829, 1830, 1831, 1832, 1833, 1834, 1835, 1836, 1837, 1838, 1839, 1840, 1841, 1842, 1843, 1844, 1845, 1846, 1847, 1848, 1849, 1850, 1851, 1852, 1853, 1854, 1855, 1856, 1857, 1858, 1859, 1860, 1861, 1862] (by decide +kernel) (by decide +kernel)
set_option maxRecDepth 20000 in
theorem gL_law_X18_deepest : GoodIn wsL_law (wsV RL 233 RX18 yX18_deepest wsX18_deepest) := goodIn_app (goodIn_of _ (by decide +kernel)) ggL_law_X18_deepest
set_option maxRecDepth 20000 in
theorem ggL_law_L_recorded : GoodIn wsL_law wsL_recorded := goodIn_ca (goodIn_ca (goodIn_r _ [1695, 386, 1696, 1697, 1698, 2, 1699, 25, 1384, 1385, 1386, 1387, 391, 392, 36, 1700, 1701, 1702, 24, 1703, 130, 1162, 267, 268, 45, 269, 58, 1784, 1785, 1786, 1787, 1788, 1789, 1790, 1791, 1792, 1871, 1872, 1873, 1874, 1875, 1876, 1877, 1878, 1879, 1880, 1908, 1909, 1910] (by decide +kernel) (by decide +kernel)) (goodIn_sub (fun _ h => List.mem_append_left _ (List.mem_append_left _ (List.mem_append_left _ (List.mem_append_left _ (List.mem_append_left _ (List.mem_append_left _ (List.mem_append_right _ h))))))) (by decide +kernel))) (goodIn_sub (fun _ h => List.mem_append_left _ (List.mem_append_left _ (List.mem_append_right _ h))) (by decide +kernel))
set_option maxRecDepth 20000 in
theorem gL_law_L_recorded : GoodIn wsL_law (va_wsS RL 234 yL_recorded wsL_recorded) := goodIn_app (goodIn_of _ (by decide +kernel)) ggL_law_L_recorded
set_option maxRecDepth 20000 in
theorem ggL_law_X18_recorded : GoodIn wsL_law wsX18_recorded := goodIn_r _ [1707, 1274, 1392, 1393, 1394, 5, 1395, 887, 230, 1793, 1794, 1795, 1796, 1797, 1798, 1799, 1800, 1801, 1802, 1803, 1804, 1805, 1806, 1807, 1808, 1809, 1810, 1811, 1812, 1813, 1814, 1815, 1816, 1817, 1818, 1819, 1820, 1821, 1822, 1823, 1824, 1825, 1826, 1827, 1828, 1829, 1830, 1831, 1832, 1833, 1834, 1835, 1836, 1837, 1838, 1839, 1840, 1841, 1842, 1843, 1844, 1845, 1846, 1847, 1848, 1849, 1850, 1851, 1852, 1853, 1854, 1855, 1856, 1857, 1858, 1859, 1860, 1861, 1862] (by decide +kernel) (by decide +kernel)
set_option maxRecDepth 20000 in
theorem gL_law_X18_recorded : GoodIn wsL_law (wsV RL 236 RX18 yX18_recorded wsX18_recorded) := goodIn_app (goodIn_of _ (by decide +kernel)) ggL_law_X18_recorded
set_option maxRecDepth 20000 in
theorem ggL_law_L_recordAt : GoodIn wsL_law wsL_recordAt := goodIn_ca (goodIn_ca (goodIn_ca (goodIn_r _ [1710, 386, 244, 1711, 1712, 1713, 2, 1714, 25, 1715, 1716, 1717, 1718, 250, 251, 1384, 1385, 1386, 1387, 391, 392, 36, 1700, 1701, 1702, 24, 1703, 130, 1162, 267, 268, 45, 269, 58, 1719, 1720, 1721, 1722, 1148, 302, 303, 304, 54, 57, 1784, 1785, 1786, 1787, 1788, 1789, 1790, 1791, 1792, 1871, 1872, 1873, 1874, 1875, 1876, 1877, 1878, 1879, 1880, 1908, 1909, 1910] (by decide +kernel) (by decide +kernel)) (goodIn_sub (fun _ h => List.mem_append_left _ (List.mem_append_left _ (List.mem_append_left _ (List.mem_append_left _ (List.mem_append_left _ (List.mem_append_left _ (List.mem_append_right _ h))))))) (by decide +kernel))) (goodIn_sub (fun _ h => List.mem_append_left _ (List.mem_append_left _ (List.mem_append_left _ (List.mem_append_left _ (List.mem_append_right _ h))))) (by decide +kernel))) (goodIn_sub (fun _ h => List.mem_append_left _ (List.mem_append_left _ (List.mem_append_right _ h))) (by decide +kernel))
set_option maxRecDepth 20000 in
theorem gL_law_L_recordAt : GoodIn wsL_law (va_wsS RL 237 yL_recordAt wsL_recordAt) := goodIn_app (goodIn_of _ (by decide +kernel)) ggL_law_L_recordAt
set_option maxRecDepth 20000 in
theorem ggL_law_X18_recordAt : GoodIn wsL_law wsX18_recordAt := goodIn_ca (goodIn_r _ [1726, 1274, 230, 196, 1392, 1393, 1394, 5, 1395, 887, 279, 280, 281, 1793, 1794, 1795, 1796, 1797, 1798, 1799, 1800, 1801, 1802, 1803, 1804, 1805, 1806, 1807, 1808, 1809, 1810, 1811, 1812, 1813, 1814, 1815, 1816, 1817, 1818, 1819, 1820, 1821, 1822, 1823, 1824, 1825, 1826, 1827, 1828, 1829, 1830, 1831, 1832, 1833, 1834, 1835, 1836, 1837, 1838, 1839, 1840, 1841, 1842, 1843, 1844, 1845, 1846, 1847, 1848, 1849, 1850, 1851, 1852, 1853, 1854, 1855, 1856, 1857, 1858, 1859, 1860, 1861, 1862] (by decide +kernel) (by decide +kernel)) (goodIn_sub (fun _ h => List.mem_append_left _ (List.mem_append_left _ (List.mem_append_left _ (List.mem_append_left _ (List.mem_append_left _ (List.mem_append_left _ (List.mem_append_right _ h))))))) (by decide +kernel))
set_option maxRecDepth 20000 in
theorem gL_law_X18_recordAt : GoodIn wsL_law (wsV RL 239 RX18 yX18_recordAt wsX18_recordAt) := goodIn_app (goodIn_of _ (by decide +kernel)) ggL_law_X18_recordAt
set_option maxRecDepth 20000 in
theorem ggL_law_L_whereAt : GoodIn wsL_law wsL_whereAt := goodIn_ca (goodIn_ca (goodIn_ca (goodIn_r _ [1729, 386, 244, 1730, 1731, 1732, 2, 1733, 25, 1715, 1716, 1717, 1718, 250, 251, 1384, 1385, 1386, 1387, 391, 392, 36, 1700, 1701, 1702, 24, 1703, 130, 1162, 267, 268, 45, 269, 58, 1734, 1735, 1736, 1737, 1148, 302, 303, 304, 54, 57, 1784, 1785, 1786, 1787, 1788, 1789, 1790, 1791, 1792, 1871, 1872, 1873, 1874, 1875, 1876, 1877, 1878, 1879, 1880, 1908, 1909, 1910] (by decide +kernel) (by decide +kernel)) (goodIn_sub (fun _ h => List.mem_append_left _ (List.mem_append_left _ (List.mem_append_left _ (List.mem_append_left _ (List.mem_append_left _ (List.mem_append_left _ (List.mem_append_right _ h))))))) (by decide +kernel))) (goodIn_sub (fun _ h => List.mem_append_left _ (List.mem_append_left _ (List.mem_append_left _ (List.mem_append_left _ (List.mem_append_right _ h))))) (by decide +kernel))) (goodIn_sub (fun _ h => List.mem_append_left _ (List.mem_append_left _ (List.mem_append_right _ h))) (by decide +kernel))
set_option maxRecDepth 20000 in
theorem gL_law_L_whereAt : GoodIn wsL_law (va_wsS RL 240 yL_whereAt wsL_whereAt) := goodIn_app (goodIn_of _ (by decide +kernel)) ggL_law_L_whereAt
set_option maxRecDepth 20000 in
theorem ggL_law_X18_whereAt : GoodIn wsL_law wsX18_whereAt := goodIn_ca (goodIn_r _ [1741, 1274, 197, 1392, 1393, 1394, 5, 1395, 887, 230, 279, 280, 281, 233, 234, 235, 236, 1793, 1794, 1795, 1796, 1797, 1798, 1799, 1800, 1801, 1802, 1803, 1804, 1805, 1806, 1807, 1808, 1809, 1810, 1811, 1812, 1813, 1814, 1815, 1816, 1817, 1818, 1819, 1820, 1821, 1822, 1823, 1824, 1825, 1826, 1827, 1828, 1829, 1830, 1831, 1832, 1833, 1834, 1835, 1836, 1837, 1838, 1839, 1840, 1841, 1842, 1843, 1844, 1845, 1846, 1847, 1848, 1849, 1850, 1851, 1852, 1853, 1854, 1855, 1856, 1857, 1858, 1859, 1860, 1861, 1862] (by decide +kernel) (by decide +kernel)) (goodIn_sub (fun _ h => List.mem_append_left _ (List.mem_append_left _ (List.mem_append_left _ (List.mem_append_left _ (List.mem_append_left _ (List.mem_append_left _ (List.mem_append_right _ h))))))) (by decide +kernel))
set_option maxRecDepth 20000 in
theorem gL_law_X18_whereAt : GoodIn wsL_law (wsV RL 242 RX18 yX18_whereAt wsX18_whereAt) := goodIn_app (goodIn_of _ (by decide +kernel)) ggL_law_X18_whereAt
set_option maxRecDepth 20000 in
theorem ggL_law_X11_terms : GoodIn wsL_law wsX11_terms := goodIn_r _ [1745, 17, 1746, 1102, 1103, 16, 1104, 47, 266, 267, 268, 45, 269, 58, 1784, 1785, 1786, 1787, 1788, 1789, 1790, 1791, 1792, 1863, 1864, 1865, 1866, 1867, 1908, 1909, 1910] (by decide +kernel) (by decide +kernel)
set_option maxRecDepth 20000 in
theorem gL_law_X11_terms : GoodIn wsL_law (wsV RL 243 RX11 yX11_terms wsX11_terms) := goodIn_app (goodIn_of _ (by decide +kernel)) ggL_law_X11_terms
set_option maxRecDepth 20000 in
theorem ggL_law_X18_terms : GoodIn wsL_law wsX18_terms := goodIn_r _ [1750, 230, 357, 1793, 1794, 1795, 1796, 1797, 1798, 1799, 1800, 1801, 1802, 1803, 1804, 1805, 1806, 1807, 1808, 1809, 1810, 1811, 1812, 1813, 1814, 1815, 1816, 1817, 1818, 1819, 1820, 1821, 1822, 1823, 1824, 1825, 1826, 1827, 1828, 1829, 1830, 1831, 1832, 1833, 1834, 1835, 1836, 1837, 1838, 1839, 1840, 1841, 1842, 1843, 1844, 1845, 1846, 1847, 1848, 1849, 1850, 1851, 1852, 1853, 1854, 1855, 1856, 1857, 1858, 1859, 1860, 1861, 1862] (by decide +kernel) (by decide +kernel)
set_option maxRecDepth 20000 in
theorem gL_law_X18_terms : GoodIn wsL_law (wsV RL 246 RX18 yX18_terms wsX18_terms) := goodIn_app (goodIn_of _ (by decide +kernel)) ggL_law_X18_terms
set_option maxRecDepth 20000 in
theorem ggL_law_L_onceShare : GoodIn wsL_law wsL_onceShare := goodIn_ca (goodIn_ca (goodIn_ca (goodIn_r _ [1753, 211, 1754, 1755, 1756, 1757, 2, 1758, 1759, 1760, 21, 951, 952, 953, 954, 216, 217, 35, 1761, 1762, 1763, 20, 1764, 105, 736, 425, 426, 427, 103, 428, 429, 524, 525, 526, 527, 528, 529, 530, 531, 532, 533, 534, 535, 536, 537, 538, 539, 111, 1765, 1766, 1767, 1768, 1784, 1785, 1786, 1787, 1788, 1789, 1790, 1791, 1792, 1868, 1869, 1870, 1933, 1934, 1935, 1936, 1937, 1938, 1939, 1940, 1941, 1921, 1922, 1923] (by decide +kernel) (by decide +kernel)) (goodIn_sub (fun _ h => List.mem_append_left _ (List.mem_append_left _ (List.mem_append_left _ (List.mem_append_left _ (List.mem_append_left _ (List.mem_append_left _ (List.mem_append_right _ h))))))) (by decide +kernel))) (goodIn_sub (fun _ h => List.mem_append_right _ h) (by decide +kernel))) (goodIn_sub (fun _ h => List.mem_append_left _ (List.mem_append_left _ (List.mem_append_left _ (List.mem_append_left _ (List.mem_append_left _ (List.mem_append_right _ h)))))) (by decide +kernel))
set_option maxRecDepth 20000 in
theorem gL_law_L_onceShare : GoodIn wsL_law (va_wsS RL 247 yL_onceShare wsL_onceShare) := goodIn_app (goodIn_of _ (by decide +kernel)) ggL_law_L_onceShare
set_option maxRecDepth 20000 in
theorem ggL_law_X18_onceShare : GoodIn wsL_law wsX18_onceShare := goodIn_ca (goodIn_r _ [1772, 232, 230, 511, 173, 189, 191, 1793, 1794, 1795, 1796, 1797, 1798, 1799, 1800, 1801, 1802, 1803, 1804, 1805, 1806, 1807, 1808, 1809, 1810, 1811, 1812, 1813, 1814, 1815, 1816, 1817, 1818, 1819, 1820, 1821, 1822, 1823, 1824, 1825, 1826, 1827, 1828, 1829, 1830, 1831, 1832, 1833, 1834, 1835, 1836, 1837, 1838, 1839, 1840, 1841, 1842, 1843, 1844, 1845, 1846, 1847, 1848, 1849, 1850, 1851, 1852, 1853, 1854, 1855, 1856, 1857, 1858, 1859, 1860, 1861, 1862] (by decide +kernel) (by decide +kernel)) (goodIn_sub (fun _ h => List.mem_append_left _ (List.mem_append_left _ (List.mem_append_left _ (List.mem_append_left _ (List.mem_append_left _ (List.mem_append_left _ (List.mem_append_right _ h))))))) (by decide +kernel))
set_option maxRecDepth 20000 in
theorem gL_law_X18_onceShare : GoodIn wsL_law (wsV RL 250 RX18 yX18_onceShare wsX18_onceShare) := goodIn_app (goodIn_of _ (by decide +kernel)) ggL_law_X18_onceShare
set_option maxRecDepth 20000 in
theorem ggL_law_L_meanSteps : GoodIn wsL_law wsL_meanSteps := goodIn_ca (goodIn_ca (goodIn_r _ [1775, 1754, 1776, 1777, 1778, 2, 1779, 1759, 1760, 36, 37, 1784, 1785, 1786, 1787, 1788, 1789, 1790, 1791, 1792] (by decide +kernel) (by decide +kernel)) (goodIn_sub (fun _ h => List.mem_append_left _ (List.mem_append_left _ (List.mem_append_left _ (List.mem_append_left _ (List.mem_append_left _ (List.mem_append_left _ (List.mem_append_right _ h))))))) (by decide +kernel))) (goodIn_sub (fun _ h => List.mem_append_right _ h) (by decide +kernel))
set_option maxRecDepth 20000 in
theorem gL_law_L_meanSteps : GoodIn wsL_law (va_wsS RL 251 yL_meanSteps wsL_meanSteps) := goodIn_app (goodIn_of _ (by decide +kernel)) ggL_law_L_meanSteps
set_option maxRecDepth 20000 in
theorem ggL_law_X18_meanSteps : GoodIn wsL_law wsX18_meanSteps := goodIn_r _ [1783, 885, 230, 886, 1793, 1794, 1795, 1796, 1797, 1798, 1799, 1800, 1801, 1802, 1803, 1804, 1805, 1806, 1807, 1808, 1809, 1810, 1811, 1812, 1813, 1814, 1815, 1816, 1817, 1818, 1819, 1820, 1821, 1822, 1823, 1824, 1825, 1826, 1827, 1828, 1829, 1830, 1831, 1832, 1833, 1834, 1835, 1836, 1837, 1838, 1839, 1840, 1841, 1842, 1843, 1844, 1845, 1846, 1847, 1848, 1849, 1850, 1851, 1852, 1853, 1854, 1855, 1856, 1857, 1858, 1859, 1860, 1861, 1862] (by decide +kernel) (by decide +kernel)
set_option maxRecDepth 20000 in
theorem gL_law_X18_meanSteps : GoodIn wsL_law (wsV RL 253 RX18 yX18_meanSteps wsX18_meanSteps) := goodIn_app (goodIn_of _ (by decide +kernel)) ggL_law_X18_meanSteps
theorem dL_law_0 : decode cL_law 0 = .ok (.new 8, 3) := by decide +kernel
theorem dL_law_3 : decode cL_law 3 = .ok (.dup, 1) := by decide +kernel
theorem dL_law_4 : decode cL_law 4 = .ok (.invokespecial 134, 3) := by decide +kernel
theorem dL_law_7 : decode cL_law 7 = .ok (.astore_n 1, 1) := by decide +kernel
theorem dL_law_8 : decode cL_law 8 = .ok (.new 135, 3) := by decide +kernel
theorem dL_law_11 : decode cL_law 11 = .ok (.dup, 1) := by decide +kernel
theorem dL_law_12 : decode cL_law 12 = .ok (.invokespecial 137, 3) := by decide +kernel
theorem dL_law_15 : decode cL_law 15 = .ok (.astore_n 2, 1) := by decide +kernel
theorem dL_law_16 : decode cL_law 16 = .ok (.iconst 1, 1) := by decide +kernel
theorem dL_law_17 : decode cL_law 17 = .ok (.newarray .long, 2) := by decide +kernel
theorem dL_law_19 : decode cL_law 19 = .ok (.astore_n 3, 1) := by decide +kernel
theorem dL_law_20 : decode cL_law 20 = .ok (.iconst 1, 1) := by decide +kernel
theorem dL_law_21 : decode cL_law 21 = .ok (.newarray .double, 2) := by decide +kernel
theorem dL_law_23 : decode cL_law 23 = .ok (.astore 4, 2) := by decide +kernel
theorem dL_law_25 : decode cL_law 25 = .ok (.iconst 0, 1) := by decide +kernel
theorem dL_law_26 : decode cL_law 26 = .ok (.istore 5, 2) := by decide +kernel
theorem dL_law_28 : decode cL_law 28 = .ok (.iload 5, 2) := by decide +kernel
theorem dL_law_30 : decode cL_law 30 = .ok (.aload_n 0, 1) := by decide +kernel
theorem dL_law_31 : decode cL_law 31 = .ok (.arraylength, 1) := by decide +kernel
theorem dL_law_32 : decode cL_law 32 = .ok (.bipush 7, 2) := by decide +kernel
theorem dL_law_34 : decode cL_law 34 = .ok (.isub, 1) := by decide +kernel
theorem dL_law_35 : decode cL_law 35 = .ok (.if_icmp .gt 2361, 3) := by decide +kernel
theorem dL_law_38 : decode cL_law 38 = .ok (.aload_n 0, 1) := by decide +kernel
theorem dL_law_39 : decode cL_law 39 = .ok (.iload 5, 2) := by decide +kernel
theorem dL_law_41 : decode cL_law 41 = .ok (.iaload, 1) := by decide +kernel
theorem dL_law_42 : decode cL_law 42 = .ok (.bipush 63, 2) := by decide +kernel
theorem dL_law_44 : decode cL_law 44 = .ok (.iand, 1) := by decide +kernel
theorem dL_law_45 : decode cL_law 45 = .ok (.tableswitch 2345 0 33 #[151, 195, 275, 355, 411, 479, 534, 614, 696, 752, 856, 936, 1070, 1114, 1158, 1226, 1301, 1369, 1437, 1517, 1597, 1701, 1745, 1813, 1869, 1913, 1957, 2001, 2045, 2089, 2145, 2201, 2214, 2280], 151) := by decide +kernel
theorem dL_law_196 : decode cL_law 196 = .ok (.aload_n 1, 1) := by decide +kernel
theorem dL_law_197 : decode cL_law 197 = .ok (.aload_n 3, 1) := by decide +kernel
theorem dL_law_198 : decode cL_law 198 = .ok (.invokestatic 138, 3) := by decide +kernel
theorem dL_law_201 : decode cL_law 201 = .ok (.istore 6, 2) := by decide +kernel
theorem dL_law_203 : decode cL_law 203 = .ok (.aload_n 2, 1) := by decide +kernel
theorem dL_law_204 : decode cL_law 204 = .ok (.invokevirtual 143, 3) := by decide +kernel
theorem dL_law_207 : decode cL_law 207 = .ok (.istore 7, 2) := by decide +kernel
theorem dL_law_209 : decode cL_law 209 = .ok (.aload_n 2, 1) := by decide +kernel
theorem dL_law_210 : decode cL_law 210 = .ok (.invokevirtual 144, 3) := by decide +kernel
theorem dL_law_213 : decode cL_law 213 = .ok (.iload 6, 2) := by decide +kernel
theorem dL_law_215 : decode cL_law 215 = .ok (.if_icmp .eq 5, 3) := by decide +kernel
theorem dL_law_220 : decode cL_law 220 = .ok (.iload 6, 2) := by decide +kernel
theorem dL_law_222 : decode cL_law 222 = .ok (.ifCond .ne 15, 3) := by decide +kernel
theorem dL_law_225 : decode cL_law 225 = .ok (.aload_n 3, 1) := by decide +kernel
theorem dL_law_226 : decode cL_law 226 = .ok (.iconst 0, 1) := by decide +kernel
theorem dL_law_227 : decode cL_law 227 = .ok (.laload, 1) := by decide +kernel
theorem dL_law_228 : decode cL_law 228 = .ok (.iload 7, 2) := by decide +kernel
theorem dL_law_230 : decode cL_law 230 = .ok (.i2l, 1) := by decide +kernel
theorem dL_law_231 : decode cL_law 231 = .ok (.lcmp, 1) := by decide +kernel
theorem dL_law_232 : decode cL_law 232 = .ok (.ifCond .eq 5, 3) := by decide +kernel
theorem dL_law_237 : decode cL_law 237 = .ok (.goto 2153, 3) := by decide +kernel
theorem dL_law_240 : decode cL_law 240 = .ok (.aload_n 1, 1) := by decide +kernel
theorem dL_law_241 : decode cL_law 241 = .ok (.aload_n 0, 1) := by decide +kernel
theorem dL_law_242 : decode cL_law 242 = .ok (.iload 5, 2) := by decide +kernel
theorem dL_law_244 : decode cL_law 244 = .ok (.iconst 1, 1) := by decide +kernel
theorem dL_law_245 : decode cL_law 245 = .ok (.iadd, 1) := by decide +kernel
theorem dL_law_246 : decode cL_law 246 = .ok (.iaload, 1) := by decide +kernel
theorem dL_law_247 : decode cL_law 247 = .ok (.aload_n 0, 1) := by decide +kernel
theorem dL_law_248 : decode cL_law 248 = .ok (.iload 5, 2) := by decide +kernel
theorem dL_law_250 : decode cL_law 250 = .ok (.iconst 2, 1) := by decide +kernel
theorem dL_law_251 : decode cL_law 251 = .ok (.iadd, 1) := by decide +kernel
theorem dL_law_252 : decode cL_law 252 = .ok (.iaload, 1) := by decide +kernel
theorem dL_law_253 : decode cL_law 253 = .ok (.aload_n 0, 1) := by decide +kernel
theorem dL_law_254 : decode cL_law 254 = .ok (.iload 5, 2) := by decide +kernel
theorem dL_law_256 : decode cL_law 256 = .ok (.iconst 3, 1) := by decide +kernel
theorem dL_law_257 : decode cL_law 257 = .ok (.iadd, 1) := by decide +kernel
theorem dL_law_258 : decode cL_law 258 = .ok (.iaload, 1) := by decide +kernel
theorem dL_law_259 : decode cL_law 259 = .ok (.aload_n 3, 1) := by decide +kernel
theorem dL_law_260 : decode cL_law 260 = .ok (.invokestatic 147, 3) := by decide +kernel
theorem dL_law_263 : decode cL_law 263 = .ok (.istore 6, 2) := by decide +kernel
theorem dL_law_265 : decode cL_law 265 = .ok (.aload_n 2, 1) := by decide +kernel
theorem dL_law_266 : decode cL_law 266 = .ok (.aload_n 0, 1) := by decide +kernel
theorem dL_law_267 : decode cL_law 267 = .ok (.iload 5, 2) := by decide +kernel
theorem dL_law_269 : decode cL_law 269 = .ok (.iconst 1, 1) := by decide +kernel
theorem dL_law_270 : decode cL_law 270 = .ok (.iadd, 1) := by decide +kernel
theorem dL_law_271 : decode cL_law 271 = .ok (.iaload, 1) := by decide +kernel
theorem dL_law_272 : decode cL_law 272 = .ok (.aload_n 0, 1) := by decide +kernel
theorem dL_law_273 : decode cL_law 273 = .ok (.iload 5, 2) := by decide +kernel
theorem dL_law_275 : decode cL_law 275 = .ok (.iconst 2, 1) := by decide +kernel
theorem dL_law_276 : decode cL_law 276 = .ok (.iadd, 1) := by decide +kernel
theorem dL_law_277 : decode cL_law 277 = .ok (.iaload, 1) := by decide +kernel
theorem dL_law_278 : decode cL_law 278 = .ok (.aload_n 0, 1) := by decide +kernel
theorem dL_law_279 : decode cL_law 279 = .ok (.iload 5, 2) := by decide +kernel
theorem dL_law_281 : decode cL_law 281 = .ok (.iconst 3, 1) := by decide +kernel
theorem dL_law_282 : decode cL_law 282 = .ok (.iadd, 1) := by decide +kernel
theorem dL_law_283 : decode cL_law 283 = .ok (.iaload, 1) := by decide +kernel
theorem dL_law_284 : decode cL_law 284 = .ok (.invokevirtual 150, 3) := by decide +kernel
theorem dL_law_287 : decode cL_law 287 = .ok (.istore 7, 2) := by decide +kernel
theorem dL_law_289 : decode cL_law 289 = .ok (.aload_n 2, 1) := by decide +kernel
theorem dL_law_290 : decode cL_law 290 = .ok (.invokevirtual 144, 3) := by decide +kernel
theorem dL_law_293 : decode cL_law 293 = .ok (.iload 6, 2) := by decide +kernel
theorem dL_law_295 : decode cL_law 295 = .ok (.if_icmp .eq 5, 3) := by decide +kernel
theorem dL_law_300 : decode cL_law 300 = .ok (.iload 6, 2) := by decide +kernel
theorem dL_law_302 : decode cL_law 302 = .ok (.ifCond .ne 15, 3) := by decide +kernel
theorem dL_law_317 : decode cL_law 317 = .ok (.goto 2073, 3) := by decide +kernel
theorem dL_law_320 : decode cL_law 320 = .ok (.aload_n 1, 1) := by decide +kernel
theorem dL_law_321 : decode cL_law 321 = .ok (.aload_n 0, 1) := by decide +kernel
theorem dL_law_322 : decode cL_law 322 = .ok (.iload 5, 2) := by decide +kernel
theorem dL_law_324 : decode cL_law 324 = .ok (.iconst 1, 1) := by decide +kernel
theorem dL_law_325 : decode cL_law 325 = .ok (.iadd, 1) := by decide +kernel
theorem dL_law_326 : decode cL_law 326 = .ok (.iaload, 1) := by decide +kernel
theorem dL_law_327 : decode cL_law 327 = .ok (.aload_n 0, 1) := by decide +kernel
theorem dL_law_328 : decode cL_law 328 = .ok (.iload 5, 2) := by decide +kernel
theorem dL_law_330 : decode cL_law 330 = .ok (.iconst 2, 1) := by decide +kernel
theorem dL_law_331 : decode cL_law 331 = .ok (.iadd, 1) := by decide +kernel
theorem dL_law_332 : decode cL_law 332 = .ok (.iaload, 1) := by decide +kernel
theorem dL_law_333 : decode cL_law 333 = .ok (.aload_n 0, 1) := by decide +kernel
theorem dL_law_334 : decode cL_law 334 = .ok (.iload 5, 2) := by decide +kernel
theorem dL_law_336 : decode cL_law 336 = .ok (.iconst 3, 1) := by decide +kernel
theorem dL_law_337 : decode cL_law 337 = .ok (.iadd, 1) := by decide +kernel
theorem dL_law_338 : decode cL_law 338 = .ok (.iaload, 1) := by decide +kernel
theorem dL_law_339 : decode cL_law 339 = .ok (.aload_n 3, 1) := by decide +kernel
theorem dL_law_340 : decode cL_law 340 = .ok (.invokestatic 151, 3) := by decide +kernel
theorem dL_law_343 : decode cL_law 343 = .ok (.istore 6, 2) := by decide +kernel
theorem dL_law_345 : decode cL_law 345 = .ok (.aload_n 2, 1) := by decide +kernel
theorem dL_law_346 : decode cL_law 346 = .ok (.aload_n 0, 1) := by decide +kernel
theorem dL_law_347 : decode cL_law 347 = .ok (.iload 5, 2) := by decide +kernel
theorem dL_law_349 : decode cL_law 349 = .ok (.iconst 1, 1) := by decide +kernel
theorem dL_law_350 : decode cL_law 350 = .ok (.iadd, 1) := by decide +kernel
theorem dL_law_351 : decode cL_law 351 = .ok (.iaload, 1) := by decide +kernel
theorem dL_law_352 : decode cL_law 352 = .ok (.aload_n 0, 1) := by decide +kernel
theorem dL_law_353 : decode cL_law 353 = .ok (.iload 5, 2) := by decide +kernel
theorem dL_law_355 : decode cL_law 355 = .ok (.iconst 2, 1) := by decide +kernel
theorem dL_law_356 : decode cL_law 356 = .ok (.iadd, 1) := by decide +kernel
theorem dL_law_357 : decode cL_law 357 = .ok (.iaload, 1) := by decide +kernel
theorem dL_law_358 : decode cL_law 358 = .ok (.aload_n 0, 1) := by decide +kernel
theorem dL_law_359 : decode cL_law 359 = .ok (.iload 5, 2) := by decide +kernel
theorem dL_law_361 : decode cL_law 361 = .ok (.iconst 3, 1) := by decide +kernel
theorem dL_law_362 : decode cL_law 362 = .ok (.iadd, 1) := by decide +kernel
theorem dL_law_363 : decode cL_law 363 = .ok (.iaload, 1) := by decide +kernel
theorem dL_law_364 : decode cL_law 364 = .ok (.invokevirtual 153, 3) := by decide +kernel
theorem dL_law_367 : decode cL_law 367 = .ok (.istore 7, 2) := by decide +kernel
theorem dL_law_369 : decode cL_law 369 = .ok (.aload_n 2, 1) := by decide +kernel
theorem dL_law_370 : decode cL_law 370 = .ok (.invokevirtual 144, 3) := by decide +kernel
theorem dL_law_373 : decode cL_law 373 = .ok (.iload 6, 2) := by decide +kernel
theorem dL_law_375 : decode cL_law 375 = .ok (.if_icmp .eq 5, 3) := by decide +kernel
theorem dL_law_380 : decode cL_law 380 = .ok (.iload 6, 2) := by decide +kernel
theorem dL_law_382 : decode cL_law 382 = .ok (.ifCond .ne 15, 3) := by decide +kernel
theorem dL_law_397 : decode cL_law 397 = .ok (.goto 1993, 3) := by decide +kernel
theorem dL_law_400 : decode cL_law 400 = .ok (.aload_n 1, 1) := by decide +kernel
theorem dL_law_401 : decode cL_law 401 = .ok (.aload_n 0, 1) := by decide +kernel
theorem dL_law_402 : decode cL_law 402 = .ok (.iload 5, 2) := by decide +kernel
theorem dL_law_404 : decode cL_law 404 = .ok (.iconst 1, 1) := by decide +kernel
theorem dL_law_405 : decode cL_law 405 = .ok (.iadd, 1) := by decide +kernel
theorem dL_law_406 : decode cL_law 406 = .ok (.iaload, 1) := by decide +kernel
theorem dL_law_407 : decode cL_law 407 = .ok (.aload_n 3, 1) := by decide +kernel
theorem dL_law_408 : decode cL_law 408 = .ok (.invokestatic 154, 3) := by decide +kernel
theorem dL_law_411 : decode cL_law 411 = .ok (.istore 6, 2) := by decide +kernel
theorem dL_law_413 : decode cL_law 413 = .ok (.aload_n 2, 1) := by decide +kernel
theorem dL_law_414 : decode cL_law 414 = .ok (.aload_n 0, 1) := by decide +kernel
theorem dL_law_415 : decode cL_law 415 = .ok (.iload 5, 2) := by decide +kernel
theorem dL_law_417 : decode cL_law 417 = .ok (.iconst 1, 1) := by decide +kernel
theorem dL_law_418 : decode cL_law 418 = .ok (.iadd, 1) := by decide +kernel
theorem dL_law_419 : decode cL_law 419 = .ok (.iaload, 1) := by decide +kernel
theorem dL_law_420 : decode cL_law 420 = .ok (.invokevirtual 157, 3) := by decide +kernel
theorem dL_law_423 : decode cL_law 423 = .ok (.istore 7, 2) := by decide +kernel
theorem dL_law_425 : decode cL_law 425 = .ok (.aload_n 2, 1) := by decide +kernel
theorem dL_law_426 : decode cL_law 426 = .ok (.invokevirtual 144, 3) := by decide +kernel
theorem dL_law_429 : decode cL_law 429 = .ok (.iload 6, 2) := by decide +kernel
theorem dL_law_431 : decode cL_law 431 = .ok (.if_icmp .eq 5, 3) := by decide +kernel
theorem dL_law_436 : decode cL_law 436 = .ok (.iload 6, 2) := by decide +kernel
theorem dL_law_438 : decode cL_law 438 = .ok (.ifCond .ne 15, 3) := by decide +kernel
theorem dL_law_453 : decode cL_law 453 = .ok (.goto 1937, 3) := by decide +kernel
theorem dL_law_456 : decode cL_law 456 = .ok (.aload_n 1, 1) := by decide +kernel
theorem dL_law_457 : decode cL_law 457 = .ok (.aload_n 0, 1) := by decide +kernel
theorem dL_law_458 : decode cL_law 458 = .ok (.iload 5, 2) := by decide +kernel
theorem dL_law_460 : decode cL_law 460 = .ok (.iconst 1, 1) := by decide +kernel
theorem dL_law_461 : decode cL_law 461 = .ok (.iadd, 1) := by decide +kernel
theorem dL_law_462 : decode cL_law 462 = .ok (.iaload, 1) := by decide +kernel
theorem dL_law_463 : decode cL_law 463 = .ok (.aload_n 0, 1) := by decide +kernel
theorem dL_law_464 : decode cL_law 464 = .ok (.iload 5, 2) := by decide +kernel
theorem dL_law_466 : decode cL_law 466 = .ok (.iconst 2, 1) := by decide +kernel
theorem dL_law_467 : decode cL_law 467 = .ok (.iadd, 1) := by decide +kernel
theorem dL_law_468 : decode cL_law 468 = .ok (.iaload, 1) := by decide +kernel
theorem dL_law_469 : decode cL_law 469 = .ok (.aload_n 3, 1) := by decide +kernel
theorem dL_law_470 : decode cL_law 470 = .ok (.invokestatic 158, 3) := by decide +kernel
theorem dL_law_473 : decode cL_law 473 = .ok (.istore 6, 2) := by decide +kernel
theorem dL_law_475 : decode cL_law 475 = .ok (.aload_n 2, 1) := by decide +kernel
theorem dL_law_476 : decode cL_law 476 = .ok (.aload_n 0, 1) := by decide +kernel
theorem dL_law_477 : decode cL_law 477 = .ok (.iload 5, 2) := by decide +kernel
theorem dL_law_479 : decode cL_law 479 = .ok (.iconst 1, 1) := by decide +kernel
theorem dL_law_480 : decode cL_law 480 = .ok (.iadd, 1) := by decide +kernel
theorem dL_law_481 : decode cL_law 481 = .ok (.iaload, 1) := by decide +kernel
theorem dL_law_482 : decode cL_law 482 = .ok (.aload_n 0, 1) := by decide +kernel
theorem dL_law_483 : decode cL_law 483 = .ok (.iload 5, 2) := by decide +kernel
theorem dL_law_485 : decode cL_law 485 = .ok (.iconst 2, 1) := by decide +kernel
theorem dL_law_486 : decode cL_law 486 = .ok (.iadd, 1) := by decide +kernel
theorem dL_law_487 : decode cL_law 487 = .ok (.iaload, 1) := by decide +kernel
theorem dL_law_488 : decode cL_law 488 = .ok (.invokevirtual 161, 3) := by decide +kernel
theorem dL_law_491 : decode cL_law 491 = .ok (.istore 7, 2) := by decide +kernel
theorem dL_law_493 : decode cL_law 493 = .ok (.aload_n 2, 1) := by decide +kernel
theorem dL_law_494 : decode cL_law 494 = .ok (.invokevirtual 144, 3) := by decide +kernel
theorem dL_law_497 : decode cL_law 497 = .ok (.iload 6, 2) := by decide +kernel
theorem dL_law_499 : decode cL_law 499 = .ok (.if_icmp .eq 5, 3) := by decide +kernel
theorem dL_law_504 : decode cL_law 504 = .ok (.iload 6, 2) := by decide +kernel
theorem dL_law_506 : decode cL_law 506 = .ok (.ifCond .ne 15, 3) := by decide +kernel
theorem dL_law_521 : decode cL_law 521 = .ok (.goto 1869, 3) := by decide +kernel
theorem dL_law_524 : decode cL_law 524 = .ok (.aload_n 1, 1) := by decide +kernel
theorem dL_law_525 : decode cL_law 525 = .ok (.aload_n 0, 1) := by decide +kernel
theorem dL_law_526 : decode cL_law 526 = .ok (.iload 5, 2) := by decide +kernel
theorem dL_law_528 : decode cL_law 528 = .ok (.iconst 1, 1) := by decide +kernel
theorem dL_law_529 : decode cL_law 529 = .ok (.iadd, 1) := by decide +kernel
theorem dL_law_530 : decode cL_law 530 = .ok (.iaload, 1) := by decide +kernel
theorem dL_law_531 : decode cL_law 531 = .ok (.aload_n 3, 1) := by decide +kernel
theorem dL_law_532 : decode cL_law 532 = .ok (.invokestatic 162, 3) := by decide +kernel
theorem dL_law_535 : decode cL_law 535 = .ok (.istore 6, 2) := by decide +kernel
theorem dL_law_537 : decode cL_law 537 = .ok (.aload_n 2, 1) := by decide +kernel
theorem dL_law_538 : decode cL_law 538 = .ok (.aload_n 0, 1) := by decide +kernel
theorem dL_law_539 : decode cL_law 539 = .ok (.iload 5, 2) := by decide +kernel
theorem dL_law_541 : decode cL_law 541 = .ok (.iconst 1, 1) := by decide +kernel
theorem dL_law_542 : decode cL_law 542 = .ok (.iadd, 1) := by decide +kernel
theorem dL_law_543 : decode cL_law 543 = .ok (.iaload, 1) := by decide +kernel
theorem dL_law_544 : decode cL_law 544 = .ok (.invokevirtual 164, 3) := by decide +kernel
theorem dL_law_547 : decode cL_law 547 = .ok (.lstore 7, 2) := by decide +kernel
theorem dL_law_549 : decode cL_law 549 = .ok (.aload_n 2, 1) := by decide +kernel
theorem dL_law_550 : decode cL_law 550 = .ok (.invokevirtual 144, 3) := by decide +kernel
theorem dL_law_553 : decode cL_law 553 = .ok (.iload 6, 2) := by decide +kernel
theorem dL_law_555 : decode cL_law 555 = .ok (.if_icmp .eq 5, 3) := by decide +kernel
theorem dL_law_560 : decode cL_law 560 = .ok (.iload 6, 2) := by decide +kernel
theorem dL_law_562 : decode cL_law 562 = .ok (.ifCond .ne 14, 3) := by decide +kernel
theorem dL_law_576 : decode cL_law 576 = .ok (.goto 1814, 3) := by decide +kernel
theorem dL_law_579 : decode cL_law 579 = .ok (.aload_n 1, 1) := by decide +kernel
theorem dL_law_580 : decode cL_law 580 = .ok (.aload_n 0, 1) := by decide +kernel
theorem dL_law_581 : decode cL_law 581 = .ok (.iload 5, 2) := by decide +kernel
theorem dL_law_583 : decode cL_law 583 = .ok (.iconst 1, 1) := by decide +kernel
theorem dL_law_584 : decode cL_law 584 = .ok (.iadd, 1) := by decide +kernel
theorem dL_law_585 : decode cL_law 585 = .ok (.iaload, 1) := by decide +kernel
theorem dL_law_586 : decode cL_law 586 = .ok (.aload_n 0, 1) := by decide +kernel
theorem dL_law_587 : decode cL_law 587 = .ok (.iload 5, 2) := by decide +kernel
theorem dL_law_589 : decode cL_law 589 = .ok (.iconst 2, 1) := by decide +kernel
theorem dL_law_590 : decode cL_law 590 = .ok (.iadd, 1) := by decide +kernel
theorem dL_law_591 : decode cL_law 591 = .ok (.iaload, 1) := by decide +kernel
theorem dL_law_592 : decode cL_law 592 = .ok (.aload_n 0, 1) := by decide +kernel
theorem dL_law_593 : decode cL_law 593 = .ok (.iload 5, 2) := by decide +kernel
theorem dL_law_595 : decode cL_law 595 = .ok (.iconst 3, 1) := by decide +kernel
theorem dL_law_596 : decode cL_law 596 = .ok (.iadd, 1) := by decide +kernel
theorem dL_law_597 : decode cL_law 597 = .ok (.iaload, 1) := by decide +kernel
theorem dL_law_598 : decode cL_law 598 = .ok (.aload_n 3, 1) := by decide +kernel
theorem dL_law_599 : decode cL_law 599 = .ok (.invokestatic 165, 3) := by decide +kernel
theorem dL_law_602 : decode cL_law 602 = .ok (.istore 6, 2) := by decide +kernel
theorem dL_law_604 : decode cL_law 604 = .ok (.aload_n 2, 1) := by decide +kernel
theorem dL_law_605 : decode cL_law 605 = .ok (.aload_n 0, 1) := by decide +kernel
theorem dL_law_606 : decode cL_law 606 = .ok (.iload 5, 2) := by decide +kernel
theorem dL_law_608 : decode cL_law 608 = .ok (.iconst 1, 1) := by decide +kernel
theorem dL_law_609 : decode cL_law 609 = .ok (.iadd, 1) := by decide +kernel
theorem dL_law_610 : decode cL_law 610 = .ok (.iaload, 1) := by decide +kernel
theorem dL_law_611 : decode cL_law 611 = .ok (.aload_n 0, 1) := by decide +kernel
theorem dL_law_612 : decode cL_law 612 = .ok (.iload 5, 2) := by decide +kernel
theorem dL_law_614 : decode cL_law 614 = .ok (.iconst 2, 1) := by decide +kernel
theorem dL_law_615 : decode cL_law 615 = .ok (.iadd, 1) := by decide +kernel
theorem dL_law_616 : decode cL_law 616 = .ok (.iaload, 1) := by decide +kernel
theorem dL_law_617 : decode cL_law 617 = .ok (.aload_n 0, 1) := by decide +kernel
theorem dL_law_618 : decode cL_law 618 = .ok (.iload 5, 2) := by decide +kernel
theorem dL_law_620 : decode cL_law 620 = .ok (.iconst 3, 1) := by decide +kernel
theorem dL_law_621 : decode cL_law 621 = .ok (.iadd, 1) := by decide +kernel
theorem dL_law_622 : decode cL_law 622 = .ok (.iaload, 1) := by decide +kernel
theorem dL_law_623 : decode cL_law 623 = .ok (.invokevirtual 167, 3) := by decide +kernel
theorem dL_law_626 : decode cL_law 626 = .ok (.istore 7, 2) := by decide +kernel
theorem dL_law_628 : decode cL_law 628 = .ok (.aload_n 2, 1) := by decide +kernel
theorem dL_law_629 : decode cL_law 629 = .ok (.invokevirtual 144, 3) := by decide +kernel
theorem dL_law_632 : decode cL_law 632 = .ok (.iload 6, 2) := by decide +kernel
theorem dL_law_634 : decode cL_law 634 = .ok (.if_icmp .eq 5, 3) := by decide +kernel
theorem dL_law_639 : decode cL_law 639 = .ok (.iload 6, 2) := by decide +kernel
theorem dL_law_641 : decode cL_law 641 = .ok (.ifCond .ne 15, 3) := by decide +kernel
theorem dL_law_644 : decode cL_law 644 = .ok (.aload_n 3, 1) := by decide +kernel
theorem dL_law_645 : decode cL_law 645 = .ok (.iconst 0, 1) := by decide +kernel
theorem dL_law_646 : decode cL_law 646 = .ok (.laload, 1) := by decide +kernel
theorem dL_law_647 : decode cL_law 647 = .ok (.iload 7, 2) := by decide +kernel
theorem dL_law_649 : decode cL_law 649 = .ok (.i2l, 1) := by decide +kernel
theorem dL_law_650 : decode cL_law 650 = .ok (.lcmp, 1) := by decide +kernel
theorem dL_law_651 : decode cL_law 651 = .ok (.ifCond .eq 5, 3) := by decide +kernel
theorem dL_law_656 : decode cL_law 656 = .ok (.goto 1734, 3) := by decide +kernel
theorem dL_law_659 : decode cL_law 659 = .ok (.aload_n 1, 1) := by decide +kernel
theorem dL_law_660 : decode cL_law 660 = .ok (.aload_n 0, 1) := by decide +kernel
theorem dL_law_661 : decode cL_law 661 = .ok (.iload 5, 2) := by decide +kernel
theorem dL_law_663 : decode cL_law 663 = .ok (.iconst 1, 1) := by decide +kernel
theorem dL_law_664 : decode cL_law 664 = .ok (.iadd, 1) := by decide +kernel
theorem dL_law_665 : decode cL_law 665 = .ok (.iaload, 1) := by decide +kernel
theorem dL_law_666 : decode cL_law 666 = .ok (.aload_n 0, 1) := by decide +kernel
theorem dL_law_667 : decode cL_law 667 = .ok (.iload 5, 2) := by decide +kernel
theorem dL_law_669 : decode cL_law 669 = .ok (.iconst 2, 1) := by decide +kernel
theorem dL_law_670 : decode cL_law 670 = .ok (.iadd, 1) := by decide +kernel
theorem dL_law_671 : decode cL_law 671 = .ok (.iaload, 1) := by decide +kernel
theorem dL_law_672 : decode cL_law 672 = .ok (.aload_n 0, 1) := by decide +kernel
theorem dL_law_673 : decode cL_law 673 = .ok (.iload 5, 2) := by decide +kernel
theorem dL_law_675 : decode cL_law 675 = .ok (.iconst 3, 1) := by decide +kernel
theorem dL_law_676 : decode cL_law 676 = .ok (.iadd, 1) := by decide +kernel
theorem dL_law_677 : decode cL_law 677 = .ok (.iaload, 1) := by decide +kernel
theorem dL_law_678 : decode cL_law 678 = .ok (.i2c, 1) := by decide +kernel
theorem dL_law_679 : decode cL_law 679 = .ok (.aload_n 3, 1) := by decide +kernel
theorem dL_law_680 : decode cL_law 680 = .ok (.invokestatic 168, 3) := by decide +kernel
theorem dL_law_683 : decode cL_law 683 = .ok (.istore 6, 2) := by decide +kernel
theorem dL_law_685 : decode cL_law 685 = .ok (.aload_n 2, 1) := by decide +kernel
theorem dL_law_686 : decode cL_law 686 = .ok (.aload_n 0, 1) := by decide +kernel
theorem dL_law_687 : decode cL_law 687 = .ok (.iload 5, 2) := by decide +kernel
theorem dL_law_689 : decode cL_law 689 = .ok (.iconst 1, 1) := by decide +kernel
theorem dL_law_690 : decode cL_law 690 = .ok (.iadd, 1) := by decide +kernel
theorem dL_law_691 : decode cL_law 691 = .ok (.iaload, 1) := by decide +kernel
theorem dL_law_692 : decode cL_law 692 = .ok (.aload_n 0, 1) := by decide +kernel
theorem dL_law_693 : decode cL_law 693 = .ok (.iload 5, 2) := by decide +kernel
theorem dL_law_695 : decode cL_law 695 = .ok (.iconst 2, 1) := by decide +kernel
theorem dL_law_696 : decode cL_law 696 = .ok (.iadd, 1) := by decide +kernel
theorem dL_law_697 : decode cL_law 697 = .ok (.iaload, 1) := by decide +kernel
theorem dL_law_698 : decode cL_law 698 = .ok (.aload_n 0, 1) := by decide +kernel
theorem dL_law_699 : decode cL_law 699 = .ok (.iload 5, 2) := by decide +kernel
theorem dL_law_701 : decode cL_law 701 = .ok (.iconst 3, 1) := by decide +kernel
theorem dL_law_702 : decode cL_law 702 = .ok (.iadd, 1) := by decide +kernel
theorem dL_law_703 : decode cL_law 703 = .ok (.iaload, 1) := by decide +kernel
theorem dL_law_704 : decode cL_law 704 = .ok (.i2c, 1) := by decide +kernel
theorem dL_law_705 : decode cL_law 705 = .ok (.invokevirtual 171, 3) := by decide +kernel
theorem dL_law_708 : decode cL_law 708 = .ok (.istore 7, 2) := by decide +kernel
theorem dL_law_710 : decode cL_law 710 = .ok (.aload_n 2, 1) := by decide +kernel
theorem dL_law_711 : decode cL_law 711 = .ok (.invokevirtual 144, 3) := by decide +kernel
theorem dL_law_714 : decode cL_law 714 = .ok (.iload 6, 2) := by decide +kernel
theorem dL_law_716 : decode cL_law 716 = .ok (.if_icmp .eq 5, 3) := by decide +kernel
theorem dL_law_721 : decode cL_law 721 = .ok (.iload 6, 2) := by decide +kernel
theorem dL_law_723 : decode cL_law 723 = .ok (.ifCond .ne 15, 3) := by decide +kernel
theorem dL_law_738 : decode cL_law 738 = .ok (.goto 1652, 3) := by decide +kernel
theorem dL_law_741 : decode cL_law 741 = .ok (.aload_n 1, 1) := by decide +kernel
theorem dL_law_742 : decode cL_law 742 = .ok (.aload_n 0, 1) := by decide +kernel
theorem dL_law_743 : decode cL_law 743 = .ok (.iload 5, 2) := by decide +kernel
theorem dL_law_745 : decode cL_law 745 = .ok (.iconst 1, 1) := by decide +kernel
theorem dL_law_746 : decode cL_law 746 = .ok (.iadd, 1) := by decide +kernel
theorem dL_law_747 : decode cL_law 747 = .ok (.iaload, 1) := by decide +kernel
theorem dL_law_748 : decode cL_law 748 = .ok (.aload_n 3, 1) := by decide +kernel
theorem dL_law_749 : decode cL_law 749 = .ok (.invokestatic 172, 3) := by decide +kernel
theorem dL_law_752 : decode cL_law 752 = .ok (.istore 6, 2) := by decide +kernel
theorem dL_law_754 : decode cL_law 754 = .ok (.aload_n 2, 1) := by decide +kernel
theorem dL_law_755 : decode cL_law 755 = .ok (.aload_n 0, 1) := by decide +kernel
theorem dL_law_756 : decode cL_law 756 = .ok (.iload 5, 2) := by decide +kernel
theorem dL_law_758 : decode cL_law 758 = .ok (.iconst 1, 1) := by decide +kernel
theorem dL_law_759 : decode cL_law 759 = .ok (.iadd, 1) := by decide +kernel
theorem dL_law_760 : decode cL_law 760 = .ok (.iaload, 1) := by decide +kernel
theorem dL_law_761 : decode cL_law 761 = .ok (.invokevirtual 174, 3) := by decide +kernel
theorem dL_law_764 : decode cL_law 764 = .ok (.istore 7, 2) := by decide +kernel
theorem dL_law_766 : decode cL_law 766 = .ok (.aload_n 2, 1) := by decide +kernel
theorem dL_law_767 : decode cL_law 767 = .ok (.invokevirtual 144, 3) := by decide +kernel
theorem dL_law_770 : decode cL_law 770 = .ok (.iload 6, 2) := by decide +kernel
theorem dL_law_772 : decode cL_law 772 = .ok (.if_icmp .eq 5, 3) := by decide +kernel
theorem dL_law_777 : decode cL_law 777 = .ok (.iload 6, 2) := by decide +kernel
theorem dL_law_779 : decode cL_law 779 = .ok (.ifCond .ne 15, 3) := by decide +kernel
theorem dL_law_794 : decode cL_law 794 = .ok (.goto 1596, 3) := by decide +kernel
theorem dL_law_797 : decode cL_law 797 = .ok (.aload_n 1, 1) := by decide +kernel
theorem dL_law_798 : decode cL_law 798 = .ok (.aload_n 0, 1) := by decide +kernel
theorem dL_law_799 : decode cL_law 799 = .ok (.iload 5, 2) := by decide +kernel
theorem dL_law_801 : decode cL_law 801 = .ok (.iconst 1, 1) := by decide +kernel
theorem dL_law_802 : decode cL_law 802 = .ok (.iadd, 1) := by decide +kernel
theorem dL_law_803 : decode cL_law 803 = .ok (.iaload, 1) := by decide +kernel
theorem dL_law_804 : decode cL_law 804 = .ok (.aload_n 0, 1) := by decide +kernel
