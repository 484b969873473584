theorem dX18_steps_15 : decode cX18_steps 15 = .ok (.ireturn, 1) := by decide +kernel
set_option maxRecDepth 20000 in
theorem ggX18_choicePoints_X18_wasAsked : GoodIn wsX18_choicePoints wsX18_wasAsked := goodIn_r _ [6, 7, 8, 9, 10, 11, 12, 13, 14, 15, 16, 17, 18, 19, 20, 21, 22, 23, 24, 25, 26, 27, 28, 29, 30, 31, 32, 33, 34, 35, 36, 37, 38, 39, 40, 41, 42, 43, 44, 45, 46, 47, 48, 49, 50, 51, 52, 53, 54, 55, 56, 57, 58, 59, 60, 61, 62, 63, 64, 65, 66, 67, 68, 69, 70, 71, 72, 73, 74, 75, 76, 77, 78] (by decide +kernel) (by decide +kernel)
set_option maxRecDepth 20000 in
theorem gX18_choicePoints_X18_wasAsked : GoodIn wsX18_choicePoints (wsV RX18 424 RX18 yX18_wasAsked wsX18_wasAsked) := goodIn_app (goodIn_of _ (by decide +kernel)) ggX18_choicePoints_X18_wasAsked
theorem dX18_choicePoints_0 : decode cX18_choicePoints 0 = .ok (.aload_n 0, 1) := by decide +kernel
theorem dX18_choicePoints_1 : decode cX18_choicePoints 1 = .ok (.invokevirtual 424, 3) := by decide +kernel
theorem dX18_choicePoints_4 : decode cX18_choicePoints 4 = .ok (.ifCond .eq 10, 3) := by decide +kernel
theorem dX18_choicePoints_14 : decode cX18_choicePoints 14 = .ok (.iconst 0, 1) := by decide +kernel
theorem dX18_choicePoints_15 : decode cX18_choicePoints 15 = .ok (.ireturn, 1) := by decide +kernel
set_option maxRecDepth 20000 in
theorem ggX18_deepest_X18_wasAsked : GoodIn wsX18_deepest wsX18_wasAsked := goodIn_r _ [6, 7, 8, 9, 10, 11, 12, 13, 14, 15, 16, 17, 18, 19, 20, 21, 22, 23, 24, 25, 26, 27, 28, 29, 30, 31, 32, 33, 34, 35, 36, 37, 38, 39, 40, 41, 42, 43, 44, 45, 46, 47, 48, 49, 50, 51, 52, 53, 54, 55, 56, 57, 58, 59, 60, 61, 62, 63, 64, 65, 66, 67, 68, 69, 70, 71, 72, 73, 74, 75, 76, 77, 78] (by decide +kernel) (by decide +kernel)
set_option maxRecDepth 20000 in
theorem gX18_deepest_X18_wasAsked : GoodIn wsX18_deepest (wsV RX18 424 RX18 yX18_wasAsked wsX18_wasAsked) := goodIn_app (goodIn_of _ (by decide +kernel)) ggX18_deepest_X18_wasAsked
theorem dX18_deepest_0 : decode cX18_deepest 0 = .ok (.aload_n 0, 1) := by decide +kernel
theorem dX18_deepest_1 : decode cX18_deepest 1 = .ok (.invokevirtual 424, 3) := by decide +kernel
theorem dX18_deepest_4 : decode cX18_deepest 4 = .ok (.ifCond .eq 10, 3) := by decide +kernel
theorem dX18_deepest_14 : decode cX18_deepest 14 = .ok (.iconst 0, 1) := by decide +kernel
theorem dX18_deepest_15 : decode cX18_deepest 15 = .ok (.ireturn, 1) := by decide +kernel
set_option maxRecDepth 20000 in
theorem ggX18_recorded_X18_wasAsked : GoodIn wsX18_recorded wsX18_wasAsked := goodIn_r _ [6, 7, 8, 9, 10, 11, 12, 13, 14, 15, 16, 17, 18, 19, 20, 21, 22, 23, 24, 25, 26, 27, 28, 29, 30, 31, 32, 33, 34, 35, 36, 37, 38, 39, 40, 41, 42, 43, 44, 45, 46, 47, 48, 49, 50, 51, 52, 53, 54, 55, 56, 57, 58, 59, 60, 61, 62, 63, 64, 65, 66, 67, 68, 69, 70, 71, 72, 73, 74, 75, 76, 77, 78] (by decide +kernel) (by decide +kernel)
set_option maxRecDepth 20000 in
theorem gX18_recorded_X18_wasAsked : GoodIn wsX18_recorded (wsV RX18 424 RX18 yX18_wasAsked wsX18_wasAsked) := goodIn_app (goodIn_of _ (by decide +kernel)) ggX18_recorded_X18_wasAsked
theorem dX18_recorded_0 : decode cX18_recorded 0 = .ok (.aload_n 0, 1) := by decide +kernel
theorem dX18_recorded_1 : decode cX18_recorded 1 = .ok (.invokevirtual 424, 3) := by decide +kernel
theorem dX18_recorded_4 : decode cX18_recorded 4 = .ok (.ifCond .eq 10, 3) := by decide +kernel
theorem dX18_recorded_14 : decode cX18_recorded 14 = .ok (.iconst 0, 1) := by decide +kernel
theorem dX18_recorded_15 : decode cX18_recorded 15 = .ok (.ireturn, 1) := by decide +kernel
set_option maxRecDepth 20000 in
theorem ggX18_recordAt_X18_wasAsked : GoodIn wsX18_recordAt wsX18_wasAsked := goodIn_r _ [8, 9, 2, 13, 14, 15, 16, 17, 18, 19, 20, 21, 22, 23, 24, 25, 26, 27, 28, 29, 30, 31, 32, 33, 34, 35, 36, 37, 38, 39, 40, 41, 42, 43, 44, 45, 46, 47, 48, 49, 50, 51, 52, 53, 54, 55, 56, 57, 58, 59, 60, 61, 62, 63, 64, 65, 66, 67, 68, 69, 70, 71, 72, 73, 74, 75, 76, 77, 78, 79, 80, 81, 82] (by decide +kernel) (by decide +kernel)
set_option maxRecDepth 20000 in
theorem gX18_recordAt_X18_wasAsked : GoodIn wsX18_recordAt (wsV RX18 424 RX18 yX18_wasAsked wsX18_wasAsked) := goodIn_app (goodIn_of _ (by decide +kernel)) ggX18_recordAt_X18_wasAsked
theorem dX18_recordAt_0 : decode cX18_recordAt 0 = .ok (.aload_n 0, 1) := by decide +kernel
theorem dX18_recordAt_1 : decode cX18_recordAt 1 = .ok (.invokevirtual 424, 3) := by decide +kernel
theorem dX18_recordAt_4 : decode cX18_recordAt 4 = .ok (.ifCond .ne 5, 3) := by decide +kernel
theorem dX18_recordAt_7 : decode cX18_recordAt 7 = .ok (.iconst 0, 1) := by decide +kernel
theorem dX18_recordAt_8 : decode cX18_recordAt 8 = .ok (.ireturn, 1) := by decide +kernel
set_option maxRecDepth 20000 in
theorem ggX18_whereAt_X18_wasAsked : GoodIn wsX18_whereAt wsX18_wasAsked := goodIn_r _ [7, 8, 9, 17, 18, 19, 20, 21, 22, 23, 24, 25, 26, 27, 28, 29, 30, 31, 32, 33, 34, 35, 36, 37, 38, 39, 40, 41, 42, 43, 44, 45, 46, 47, 48, 49, 50, 51, 52, 53, 54, 55, 56, 57, 58, 59, 60, 61, 62, 63, 64, 65, 66, 67, 68, 69, 70, 71, 72, 73, 74, 75, 76, 77, 78, 79, 80, 81, 82, 83, 84, 85, 86] (by decide +kernel) (by decide +kernel)
set_option maxRecDepth 20000 in
theorem gX18_whereAt_X18_wasAsked : GoodIn wsX18_whereAt (wsV RX18 424 RX18 yX18_wasAsked wsX18_wasAsked) := goodIn_app (goodIn_of _ (by decide +kernel)) ggX18_whereAt_X18_wasAsked
theorem dX18_whereAt_0 : decode cX18_whereAt 0 = .ok (.aload_n 0, 1) := by decide +kernel
theorem dX18_whereAt_1 : decode cX18_whereAt 1 = .ok (.invokevirtual 424, 3) := by decide +kernel
theorem dX18_whereAt_4 : decode cX18_whereAt 4 = .ok (.ifCond .ne 5, 3) := by decide +kernel
theorem dX18_whereAt_7 : decode cX18_whereAt 7 = .ok (.iconst 0, 1) := by decide +kernel
theorem dX18_whereAt_8 : decode cX18_whereAt 8 = .ok (.ireturn, 1) := by decide +kernel
theorem dX18_terms_0 : decode cX18_terms 0 = .ok (.aload_n 0, 1) := by decide +kernel
theorem dX18_terms_1 : decode cX18_terms 1 = .ok (.iconst 0, 1) := by decide +kernel
theorem dX18_terms_2 : decode cX18_terms 2 = .ok (.putfield 130, 3) := by decide +kernel
theorem dX18_terms_5 : decode cX18_terms 5 = .ok (.aload_n 0, 1) := by decide +kernel
theorem dX18_terms_6 : decode cX18_terms 6 = .ok (.getfield 152, 3) := by decide +kernel
theorem dX18_terms_9 : decode cX18_terms 9 = .ok (.ireturn, 1) := by decide +kernel
theorem dX18_onceShare_0 : decode cX18_onceShare 0 = .ok (.aload_n 0, 1) := by decide +kernel
theorem dX18_onceShare_1 : decode cX18_onceShare 1 = .ok (.aload_n 0, 1) := by decide +kernel
theorem dX18_onceShare_2 : decode cX18_onceShare 2 = .ok (.getfield 137, 3) := by decide +kernel
theorem dX18_onceShare_5 : decode cX18_onceShare 5 = .ok (.ifCond .eq 7, 3) := by decide +kernel
theorem dX18_onceShare_12 : decode cX18_onceShare 12 = .ok (.iconst 1, 1) := by decide +kernel
theorem dX18_onceShare_13 : decode cX18_onceShare 13 = .ok (.putfield 130, 3) := by decide +kernel
theorem dX18_onceShare_16 : decode cX18_onceShare 16 = .ok (.iconst 0, 1) := by decide +kernel
theorem dX18_onceShare_17 : decode cX18_onceShare 17 = .ok (.istore_n 1, 1) := by decide +kernel
theorem dX18_onceShare_18 : decode cX18_onceShare 18 = .ok (.iconst 0, 1) := by decide +kernel
theorem dX18_onceShare_19 : decode cX18_onceShare 19 = .ok (.istore_n 2, 1) := by decide +kernel
theorem dX18_onceShare_20 : decode cX18_onceShare 20 = .ok (.iconst 0, 1) := by decide +kernel
theorem dX18_onceShare_21 : decode cX18_onceShare 21 = .ok (.istore_n 3, 1) := by decide +kernel
theorem dX18_onceShare_22 : decode cX18_onceShare 22 = .ok (.iload_n 3, 1) := by decide +kernel
theorem dX18_onceShare_23 : decode cX18_onceShare 23 = .ok (.bipush 10, 2) := by decide +kernel
theorem dX18_onceShare_25 : decode cX18_onceShare 25 = .ok (.if_icmp .ge 91, 3) := by decide +kernel
theorem dX18_onceShare_28 : decode cX18_onceShare 28 = .ok (.aload_n 0, 1) := by decide +kernel
theorem dX18_onceShare_29 : decode cX18_onceShare 29 = .ok (.getfield 130, 3) := by decide +kernel
theorem dX18_onceShare_32 : decode cX18_onceShare 32 = .ok (.ifCond .ne 84, 3) := by decide +kernel
theorem dX18_onceShare_116 : decode cX18_onceShare 116 = .ok (.aload_n 0, 1) := by decide +kernel
theorem dX18_onceShare_117 : decode cX18_onceShare 117 = .ok (.aload_n 0, 1) := by decide +kernel
theorem dX18_onceShare_118 : decode cX18_onceShare 118 = .ok (.getfield 130, 3) := by decide +kernel
theorem dX18_onceShare_121 : decode cX18_onceShare 121 = .ok (.ifCond .ne 11, 3) := by decide +kernel
theorem dX18_onceShare_132 : decode cX18_onceShare 132 = .ok (.aload_n 0, 1) := by decide +kernel
theorem dX18_onceShare_133 : decode cX18_onceShare 133 = .ok (.getfield 130, 3) := by decide +kernel
theorem dX18_onceShare_136 : decode cX18_onceShare 136 = .ok (.putfield 130, 3) := by decide +kernel
theorem dX18_onceShare_139 : decode cX18_onceShare 139 = .ok (.aload_n 0, 1) := by decide +kernel
theorem dX18_onceShare_140 : decode cX18_onceShare 140 = .ok (.getfield 130, 3) := by decide +kernel
theorem dX18_onceShare_143 : decode cX18_onceShare 143 = .ok (.ifCond .le 7, 3) := by decide +kernel
theorem dX18_onceShare_146 : decode cX18_onceShare 146 = .ok (.fconst 0, 1) := by decide +kernel
theorem dX18_onceShare_147 : decode cX18_onceShare 147 = .ok (.goto 8, 3) := by decide +kernel
theorem dX18_onceShare_155 : decode cX18_onceShare 155 = .ok (.freturn, 1) := by decide +kernel
theorem dX18_meanSteps_0 : decode cX18_meanSteps 0 = .ok (.aload_n 0, 1) := by decide +kernel
theorem dX18_meanSteps_1 : decode cX18_meanSteps 1 = .ok (.aload_n 0, 1) := by decide +kernel
theorem dX18_meanSteps_2 : decode cX18_meanSteps 2 = .ok (.getfield 227, 3) := by decide +kernel
theorem dX18_meanSteps_5 : decode cX18_meanSteps 5 = .ok (.ifCond .ne 7, 3) := by decide +kernel
theorem dX18_meanSteps_8 : decode cX18_meanSteps 8 = .ok (.iconst 1, 1) := by decide +kernel
theorem dX18_meanSteps_9 : decode cX18_meanSteps 9 = .ok (.goto 4, 3) := by decide +kernel
theorem dX18_meanSteps_13 : decode cX18_meanSteps 13 = .ok (.putfield 130, 3) := by decide +kernel
theorem dX18_meanSteps_16 : decode cX18_meanSteps 16 = .ok (.aload_n 0, 1) := by decide +kernel
theorem dX18_meanSteps_17 : decode cX18_meanSteps 17 = .ok (.getfield 130, 3) := by decide +kernel
theorem dX18_meanSteps_20 : decode cX18_meanSteps 20 = .ok (.ifCond .le 7, 3) := by decide +kernel
theorem dX18_meanSteps_23 : decode cX18_meanSteps 23 = .ok (.dconst 0, 1) := by decide +kernel
theorem dX18_meanSteps_24 : decode cX18_meanSteps 24 = .ok (.goto 14, 3) := by decide +kernel
theorem dX18_meanSteps_38 : decode cX18_meanSteps 38 = .ok (.dreturn, 1) := by decide +kernel
set_option maxRecDepth 20000 in
theorem ggX18_answersByBreadth_X18_wasAsked : GoodIn wsX18_answersByBreadth wsX18_wasAsked := goodIn_r _ [22, 23, 24, 123, 124, 125, 126, 127, 128, 129, 130, 131, 132, 133, 134, 135, 136, 137, 138, 139, 140, 141, 142, 143, 144, 145, 146, 147, 148, 149, 150, 151, 152, 153, 154, 155, 156, 157, 158, 159, 160, 161, 162, 163, 164, 165, 166, 167, 168, 169, 170, 171, 172, 173, 174, 175, 176, 177, 178, 179, 180, 181, 182, 183, 184, 185, 186, 187, 188, 189, 190, 191, 192] (by decide +kernel) (by decide +kernel)
set_option maxRecDepth 20000 in
theorem gX18_answersByBreadth_X18_wasAsked : GoodIn wsX18_answersByBreadth (wsV RX18 424 RX18 yX18_wasAsked wsX18_wasAsked) := goodIn_app (goodIn_of _ (by decide +kernel)) ggX18_answersByBreadth_X18_wasAsked
theorem dX18_answersByBreadth_0 : decode cX18_answersByBreadth 0 = .ok (.aload_n 0, 1) := by decide +kernel
theorem dX18_answersByBreadth_1 : decode cX18_answersByBreadth 1 = .ok (.invokevirtual 424, 3) := by decide +kernel
theorem dX18_answersByBreadth_4 : decode cX18_answersByBreadth 4 = .ok (.ifCond .ne 5, 3) := by decide +kernel
theorem dX18_answersByBreadth_7 : decode cX18_answersByBreadth 7 = .ok (.iconst 0, 1) := by decide +kernel
theorem dX18_answersByBreadth_8 : decode cX18_answersByBreadth 8 = .ok (.ireturn, 1) := by decide +kernel
theorem dJxa1e45_init_da8c8_0 : decode cJxa1e45_init_da8c8 0 = .ok (.aload_n 0, 1) := by decide +kernel
theorem dJxa1e45_init_da8c8_1 : decode cJxa1e45_init_da8c8 1 = .ok (.invokespecial 1, 3) := by decide +kernel
theorem dJxa1e45_init_da8c8_4 : decode cJxa1e45_init_da8c8 4 = .ok (.return_, 1) := by decide +kernel
set_option maxRecDepth 20000 in
theorem ggJxc12de_init_da8c8_Jxa1e45_init_da8c8 : GoodIn wsJxc12de_init_da8c8 wsJxa1e45_init_da8c8 := goodIn_r _ [5, 6, 7, 8] (by decide +kernel) (by decide +kernel)
set_option maxRecDepth 20000 in
theorem gJxc12de_init_da8c8_Jxa1e45_init_da8c8 : GoodIn wsJxc12de_init_da8c8 (wsJxa1e45_init_da8c8) := ggJxc12de_init_da8c8_Jxa1e45_init_da8c8
theorem dJxc12de_init_da8c8_0 : decode cJxc12de_init_da8c8 0 = .ok (.aload_n 0, 1) := by decide +kernel
theorem dJxc12de_init_da8c8_1 : decode cJxc12de_init_da8c8 1 = .ok (.invokespecial 1, 3) := by decide +kernel
theorem dJxc12de_init_da8c8_4 : decode cJxc12de_init_da8c8 4 = .ok (.aload_n 0, 1) := by decide +kernel
theorem dJxc12de_init_da8c8_5 : decode cJxc12de_init_da8c8 5 = .ok (.iconst 0, 1) := by decide +kernel
theorem dJxc12de_init_da8c8_6 : decode cJxc12de_init_da8c8 6 = .ok (.putfield 7, 3) := by decide +kernel
theorem dJxc12de_init_da8c8_9 : decode cJxc12de_init_da8c8 9 = .ok (.return_, 1) := by decide +kernel
set_option maxRecDepth 20000 in
theorem ggJx4a65c_init_da8c8_Jxc12de_init_da8c8 : GoodIn wsJx4a65c_init_da8c8 wsJxc12de_init_da8c8 := goodIn_r _ [6, 7, 8, 9, 10, 11, 12, 13, 14, 15, 16, 17] (by decide +kernel) (by decide +kernel)
set_option maxRecDepth 20000 in
theorem gJx4a65c_init_da8c8_Jxc12de_init_da8c8 : GoodIn wsJx4a65c_init_da8c8 (wsJxc12de_init_da8c8) := ggJx4a65c_init_da8c8_Jxc12de_init_da8c8
theorem dJx4a65c_init_da8c8_0 : decode cJx4a65c_init_da8c8 0 = .ok (.aload_n 0, 1) := by decide +kernel
theorem dJx4a65c_init_da8c8_1 : decode cJx4a65c_init_da8c8 1 = .ok (.invokespecial 1, 3) := by decide +kernel
theorem dJx4a65c_init_da8c8_4 : decode cJx4a65c_init_da8c8 4 = .ok (.aload_n 0, 1) := by decide +kernel
theorem dJx4a65c_init_da8c8_5 : decode cJx4a65c_init_da8c8 5 = .ok (.getstatic 39, 3) := by decide +kernel
theorem dJx4a65c_init_da8c8_8 : decode cJx4a65c_init_da8c8 8 = .ok (.putfield 9, 3) := by decide +kernel
theorem dJx4a65c_init_da8c8_11 : decode cJx4a65c_init_da8c8 11 = .ok (.return_, 1) := by decide +kernel
theorem dJx4a65c_grow_92f84_0 : decode cJx4a65c_grow_92f84 0 = .ok (.aload_n 0, 1) := by decide +kernel
theorem dJx4a65c_grow_92f84_1 : decode cJx4a65c_grow_92f84 1 = .ok (.getfield 9, 3) := by decide +kernel
theorem dJx4a65c_grow_92f84_4 : decode cJx4a65c_grow_92f84 4 = .ok (.arraylength, 1) := by decide +kernel
theorem dJx4a65c_grow_92f84_5 : decode cJx4a65c_grow_92f84 5 = .ok (.istore_n 2, 1) := by decide +kernel
theorem dJx4a65c_grow_92f84_6 : decode cJx4a65c_grow_92f84 6 = .ok (.iload_n 2, 1) := by decide +kernel
theorem dJx4a65c_grow_92f84_7 : decode cJx4a65c_grow_92f84 7 = .ok (.ifCond .gt 13, 3) := by decide +kernel
theorem dJx4a65c_grow_92f84_10 : decode cJx4a65c_grow_92f84 10 = .ok (.aload_n 0, 1) := by decide +kernel
theorem dJx4a65c_grow_92f84_11 : decode cJx4a65c_grow_92f84 11 = .ok (.getfield 9, 3) := by decide +kernel
theorem dJx4a65c_grow_92f84_14 : decode cJx4a65c_grow_92f84 14 = .ok (.getstatic 39, 3) := by decide +kernel
theorem dJx4a65c_grow_92f84_17 : decode cJx4a65c_grow_92f84 17 = .ok (.if_acmp .eq 28, 3) := by decide +kernel
theorem dJx4a65c_grow_92f84_45 : decode cJx4a65c_grow_92f84 45 = .ok (.aload_n 0, 1) := by decide +kernel
theorem dJx4a65c_grow_92f84_46 : decode cJx4a65c_grow_92f84 46 = .ok (.bipush 10, 2) := by decide +kernel
theorem dJx4a65c_grow_92f84_48 : decode cJx4a65c_grow_92f84 48 = .ok (.iload_n 1, 1) := by decide +kernel
theorem dJx4a65c_grow_92f84_49 : decode cJx4a65c_grow_92f84 49 = .ok (.invokestatic 79, 3) := by decide +kernel
theorem dJx4a65c_grow_92f84_52 : decode cJx4a65c_grow_92f84 52 = .ok (.anewarray 7, 3) := by decide +kernel
theorem dJx4a65c_grow_92f84_55 : decode cJx4a65c_grow_92f84 55 = .ok (.dup_x1, 1) := by decide +kernel
theorem dJx4a65c_grow_92f84_56 : decode cJx4a65c_grow_92f84 56 = .ok (.putfield 9, 3) := by decide +kernel
theorem dJx4a65c_grow_92f84_59 : decode cJx4a65c_grow_92f84 59 = .ok (.areturn, 1) := by decide +kernel
set_option maxRecDepth 20000 in
theorem ggJx4a65c_grow_d5877_Jx4a65c_grow_92f84 : GoodIn wsJx4a65c_grow_d5877 wsJx4a65c_grow_92f84 := goodIn_r _ [6, 7, 8, 9, 10, 11, 12, 13, 14, 15, 16, 17, 18, 19, 20, 21, 22, 23, 24, 25, 26, 27, 28, 29, 30, 31, 32, 33, 34, 35, 36, 37, 38, 39, 40, 41, 42, 43, 44, 45] (by decide +kernel) (by decide +kernel)
set_option maxRecDepth 20000 in
theorem gJx4a65c_grow_d5877_Jx4a65c_grow_92f84 : GoodIn wsJx4a65c_grow_d5877 (wsV RJx4a65c 69 RJx4a65c yJx4a65c_grow_92f84 wsJx4a65c_grow_92f84) := goodIn_app (goodIn_of _ (by decide +kernel)) ggJx4a65c_grow_d5877_Jx4a65c_grow_92f84
theorem dJx4a65c_grow_d5877_0 : decode cJx4a65c_grow_d5877 0 = .ok (.aload_n 0, 1) := by decide +kernel
theorem dJx4a65c_grow_d5877_1 : decode cJx4a65c_grow_d5877 1 = .ok (.aload_n 0, 1) := by decide +kernel
theorem dJx4a65c_grow_d5877_2 : decode cJx4a65c_grow_d5877 2 = .ok (.getfield 48, 3) := by decide +kernel
theorem dJx4a65c_grow_d5877_5 : decode cJx4a65c_grow_d5877 5 = .ok (.iconst 1, 1) := by decide +kernel
theorem dJx4a65c_grow_d5877_6 : decode cJx4a65c_grow_d5877 6 = .ok (.iadd, 1) := by decide +kernel
theorem dJx4a65c_grow_d5877_7 : decode cJx4a65c_grow_d5877 7 = .ok (.invokevirtual 69, 3) := by decide +kernel
theorem dJx4a65c_grow_d5877_10 : decode cJx4a65c_grow_d5877 10 = .ok (.areturn, 1) := by decide +kernel
theorem dJx4a65c_size_8abf5_0 : decode cJx4a65c_size_8abf5 0 = .ok (.aload_n 0, 1) := by decide +kernel
theorem dJx4a65c_size_8abf5_1 : decode cJx4a65c_size_8abf5 1 = .ok (.getfield 48, 3) := by decide +kernel
theorem dJx4a65c_size_8abf5_4 : decode cJx4a65c_size_8abf5 4 = .ok (.ireturn, 1) := by decide +kernel
set_option maxRecDepth 20000 in
theorem ggJx4a65c_add_72be8_Jx4a65c_grow_d5877 : GoodIn wsJx4a65c_add_72be8 wsJx4a65c_grow_d5877 := goodIn_r _ [6, 1, 7, 8, 9, 5, 10, 11, 12, 13, 14, 15, 16, 17, 18, 19, 20, 21, 22, 23, 24, 25, 26, 27, 28, 29, 30, 31, 32, 33, 34, 35, 36, 37, 38, 39, 40, 41, 42, 43, 44, 45, 46, 47, 48, 49] (by decide +kernel) (by decide +kernel)
set_option maxRecDepth 20000 in
theorem gJx4a65c_add_72be8_Jx4a65c_grow_d5877 : GoodIn wsJx4a65c_add_72be8 (wsV RJx4a65c 129 RJx4a65c yJx4a65c_grow_d5877 wsJx4a65c_grow_d5877) := goodIn_app (goodIn_of _ (by decide +kernel)) ggJx4a65c_add_72be8_Jx4a65c_grow_d5877
theorem dJx4a65c_add_72be8_0 : decode cJx4a65c_add_72be8 0 = .ok (.iload_n 3, 1) := by decide +kernel
theorem dJx4a65c_add_72be8_1 : decode cJx4a65c_add_72be8 1 = .ok (.aload_n 2, 1) := by decide +kernel
theorem dJx4a65c_add_72be8_2 : decode cJx4a65c_add_72be8 2 = .ok (.arraylength, 1) := by decide +kernel
theorem dJx4a65c_add_72be8_3 : decode cJx4a65c_add_72be8 3 = .ok (.if_icmp .ne 8, 3) := by decide +kernel
theorem dJx4a65c_add_72be8_6 : decode cJx4a65c_add_72be8 6 = .ok (.aload_n 0, 1) := by decide +kernel
theorem dJx4a65c_add_72be8_7 : decode cJx4a65c_add_72be8 7 = .ok (.invokevirtual 129, 3) := by decide +kernel
theorem dJx4a65c_add_72be8_10 : decode cJx4a65c_add_72be8 10 = .ok (.astore_n 2, 1) := by decide +kernel
theorem dJx4a65c_add_72be8_11 : decode cJx4a65c_add_72be8 11 = .ok (.aload_n 2, 1) := by decide +kernel
theorem dJx4a65c_add_72be8_12 : decode cJx4a65c_add_72be8 12 = .ok (.iload_n 3, 1) := by decide +kernel
theorem dJx4a65c_add_72be8_13 : decode cJx4a65c_add_72be8 13 = .ok (.aload_n 1, 1) := by decide +kernel
theorem dJx4a65c_add_72be8_14 : decode cJx4a65c_add_72be8 14 = .ok (.aastore, 1) := by decide +kernel
theorem dJx4a65c_add_72be8_15 : decode cJx4a65c_add_72be8 15 = .ok (.aload_n 0, 1) := by decide +kernel
theorem dJx4a65c_add_72be8_16 : decode cJx4a65c_add_72be8 16 = .ok (.iload_n 3, 1) := by decide +kernel
theorem dJx4a65c_add_72be8_17 : decode cJx4a65c_add_72be8 17 = .ok (.iconst 1, 1) := by decide +kernel
theorem dJx4a65c_add_72be8_18 : decode cJx4a65c_add_72be8 18 = .ok (.iadd, 1) := by decide +kernel
theorem dJx4a65c_add_72be8_19 : decode cJx4a65c_add_72be8 19 = .ok (.putfield 48, 3) := by decide +kernel
theorem dJx4a65c_add_72be8_22 : decode cJx4a65c_add_72be8 22 = .ok (.return_, 1) := by decide +kernel
set_option maxRecDepth 20000 in
theorem ggJx4a65c_add_9ea2d_Jx4a65c_add_72be8 : GoodIn wsJx4a65c_add_9ea2d wsJx4a65c_add_72be8 := goodIn_r _ [9, 4, 10, 11, 12, 8, 13, 14, 15, 16, 17, 3, 18, 19, 20, 21, 22, 23, 24, 25, 26, 27, 28, 29, 30, 31, 32, 33, 34, 35, 36, 37, 38, 39, 40, 41, 42, 43, 44, 45, 46, 47, 48, 49, 50, 51, 52, 53, 54, 55] (by decide +kernel) (by decide +kernel)
set_option maxRecDepth 20000 in
theorem gJx4a65c_add_9ea2d_Jx4a65c_add_72be8 : GoodIn wsJx4a65c_add_9ea2d (wsV RJx4a65c 131 RJx4a65c yJx4a65c_add_72be8 wsJx4a65c_add_72be8) := goodIn_app (goodIn_of _ (by decide +kernel)) ggJx4a65c_add_9ea2d_Jx4a65c_add_72be8
theorem dJx4a65c_add_9ea2d_0 : decode cJx4a65c_add_9ea2d 0 = .ok (.aload_n 0, 1) := by decide +kernel
theorem dJx4a65c_add_9ea2d_1 : decode cJx4a65c_add_9ea2d 1 = .ok (.dup, 1) := by decide +kernel
theorem dJx4a65c_add_9ea2d_2 : decode cJx4a65c_add_9ea2d 2 = .ok (.getfield 63, 3) := by decide +kernel
theorem dJx4a65c_add_9ea2d_5 : decode cJx4a65c_add_9ea2d 5 = .ok (.iconst 1, 1) := by decide +kernel
theorem dJx4a65c_add_9ea2d_6 : decode cJx4a65c_add_9ea2d 6 = .ok (.iadd, 1) := by decide +kernel
theorem dJx4a65c_add_9ea2d_7 : decode cJx4a65c_add_9ea2d 7 = .ok (.putfield 63, 3) := by decide +kernel
theorem dJx4a65c_add_9ea2d_10 : decode cJx4a65c_add_9ea2d 10 = .ok (.aload_n 0, 1) := by decide +kernel
theorem dJx4a65c_add_9ea2d_11 : decode cJx4a65c_add_9ea2d 11 = .ok (.aload_n 1, 1) := by decide +kernel
theorem dJx4a65c_add_9ea2d_12 : decode cJx4a65c_add_9ea2d 12 = .ok (.aload_n 0, 1) := by decide +kernel
theorem dJx4a65c_add_9ea2d_13 : decode cJx4a65c_add_9ea2d 13 = .ok (.getfield 9, 3) := by decide +kernel
theorem dJx4a65c_add_9ea2d_16 : decode cJx4a65c_add_9ea2d 16 = .ok (.aload_n 0, 1) := by decide +kernel
theorem dJx4a65c_add_9ea2d_17 : decode cJx4a65c_add_9ea2d 17 = .ok (.getfield 48, 3) := by decide +kernel
theorem dJx4a65c_add_9ea2d_20 : decode cJx4a65c_add_9ea2d 20 = .ok (.invokevirtual 131, 3) := by decide +kernel
theorem dJx4a65c_add_9ea2d_23 : decode cJx4a65c_add_9ea2d 23 = .ok (.iconst 1, 1) := by decide +kernel
theorem dJx4a65c_add_9ea2d_24 : decode cJx4a65c_add_9ea2d 24 = .ok (.ireturn, 1) := by decide +kernel
theorem dJ7_rangeCheck_23922_0 : decode cJ7_rangeCheck_23922 0 = .ok (.iload_n 1, 1) := by decide +kernel
theorem dJ7_rangeCheck_23922_1 : decode cJ7_rangeCheck_23922 1 = .ok (.iload_n 2, 1) := by decide +kernel
theorem dJ7_rangeCheck_23922_2 : decode cJ7_rangeCheck_23922 2 = .ok (.if_icmp .le 44, 3) := by decide +kernel
theorem dJ7_rangeCheck_23922_46 : decode cJ7_rangeCheck_23922 46 = .ok (.iload_n 1, 1) := by decide +kernel
theorem dJ7_rangeCheck_23922_47 : decode cJ7_rangeCheck_23922 47 = .ok (.ifCond .ge 12, 3) := by decide +kernel
theorem dJ7_rangeCheck_23922_59 : decode cJ7_rangeCheck_23922 59 = .ok (.iload_n 2, 1) := by decide +kernel
theorem dJ7_rangeCheck_23922_60 : decode cJ7_rangeCheck_23922 60 = .ok (.iload_n 0, 1) := by decide +kernel
theorem dJ7_rangeCheck_23922_61 : decode cJ7_rangeCheck_23922 61 = .ok (.if_icmp .le 12, 3) := by decide +kernel
theorem dJ7_rangeCheck_23922_73 : decode cJ7_rangeCheck_23922 73 = .ok (.return_, 1) := by decide +kernel
set_option maxRecDepth 20000 in
theorem ggJ7_fill_fda19_J7_rangeCheck_23922 : GoodIn wsJ7_fill_fda19 wsJ7_rangeCheck_23922 := goodIn_r _ [4, 5, 6, 7, 8, 9, 10, 11, 12, 13, 14, 15, 16, 17, 18, 19, 20] (by decide +kernel) (by decide +kernel)
set_option maxRecDepth 20000 in
theorem gJ7_fill_fda19_J7_rangeCheck_23922 : GoodIn wsJ7_fill_fda19 (va_wsS RJ7 13 yJ7_rangeCheck_23922 wsJ7_rangeCheck_23922) := goodIn_app (goodIn_of _ (by decide +kernel)) ggJ7_fill_fda19_J7_rangeCheck_23922
theorem dJ7_fill_fda19_0 : decode cJ7_fill_fda19 0 = .ok (.aload_n 0, 1) := by decide +kernel
theorem dJ7_fill_fda19_1 : decode cJ7_fill_fda19 1 = .ok (.arraylength, 1) := by decide +kernel
theorem dJ7_fill_fda19_2 : decode cJ7_fill_fda19 2 = .ok (.iload_n 1, 1) := by decide +kernel
theorem dJ7_fill_fda19_3 : decode cJ7_fill_fda19 3 = .ok (.iload_n 2, 1) := by decide +kernel
theorem dJ7_fill_fda19_4 : decode cJ7_fill_fda19 4 = .ok (.invokestatic 13, 3) := by decide +kernel
theorem dJ7_fill_fda19_7 : decode cJ7_fill_fda19 7 = .ok (.iload_n 1, 1) := by decide +kernel
theorem dJ7_fill_fda19_8 : decode cJ7_fill_fda19 8 = .ok (.istore 4, 2) := by decide +kernel
theorem dJ7_fill_fda19_10 : decode cJ7_fill_fda19 10 = .ok (.iload 4, 2) := by decide +kernel
theorem dJ7_fill_fda19_12 : decode cJ7_fill_fda19 12 = .ok (.iload_n 2, 1) := by decide +kernel
theorem dJ7_fill_fda19_13 : decode cJ7_fill_fda19 13 = .ok (.if_icmp .ge 14, 3) := by decide +kernel
theorem dJ7_fill_fda19_16 : decode cJ7_fill_fda19 16 = .ok (.aload_n 0, 1) := by decide +kernel
theorem dJ7_fill_fda19_17 : decode cJ7_fill_fda19 17 = .ok (.iload 4, 2) := by decide +kernel
theorem dJ7_fill_fda19_19 : decode cJ7_fill_fda19 19 = .ok (.iload_n 3, 1) := by decide +kernel
theorem dJ7_fill_fda19_20 : decode cJ7_fill_fda19 20 = .ok (.iastore, 1) := by decide +kernel
theorem dJ7_fill_fda19_21 : decode cJ7_fill_fda19 21 = .ok (.iinc 4 1, 3) := by decide +kernel
theorem dJ7_fill_fda19_24 : decode cJ7_fill_fda19 24 = .ok (.goto (-14), 3) := by decide +kernel
theorem dJ7_fill_fda19_27 : decode cJ7_fill_fda19 27 = .ok (.return_, 1) := by decide +kernel
set_option maxRecDepth 20000 in
theorem ggL_addType_X11_addType : GoodIn wsL_addType wsX11_addType := goodIn_ca (goodIn_r _ [6, 7, 8, 9, 10, 11, 12, 13, 14, 15, 16, 17, 18, 19, 20, 21, 22, 23, 24, 25, 26, 27, 28, 29, 30, 31, 32, 33, 34] rfl (by decide +kernel)) (goodIn_sub (fun _ h => List.mem_cons_of_mem _ (List.mem_append_right _ h)) (by decide +kernel))
set_option maxRecDepth 20000 in
theorem gL_addType_X11_addType : GoodIn wsL_addType (wsV RL 7 RX11 yX11_addType wsX11_addType) := goodIn_app (goodIn_of _ (by decide +kernel)) ggL_addType_X11_addType
theorem dL_addType_0 : decode cL_addType 0 = .ok (.aload_n 1, 1) := by decide +kernel
theorem dL_addType_1 : decode cL_addType 1 = .ok (.iconst 0, 1) := by decide +kernel
theorem dL_addType_2 : decode cL_addType 2 = .ok (.aload_n 0, 1) := by decide +kernel
theorem dL_addType_3 : decode cL_addType 3 = .ok (.invokevirtual 7, 3) := by decide +kernel
theorem dL_addType_6 : decode cL_addType 6 = .ok (.i2l, 1) := by decide +kernel
theorem dL_addType_7 : decode cL_addType 7 = .ok (.lastore, 1) := by decide +kernel
theorem dL_addType_8 : decode cL_addType 8 = .ok (.goto 6, 3) := by decide +kernel
theorem dL_addType_14 : decode cL_addType 14 = .ok (.iconst 0, 1) := by decide +kernel
theorem dL_addType_15 : decode cL_addType 15 = .ok (.ireturn, 1) := by decide +kernel
set_option maxRecDepth 20000 in
theorem ggL_addConstructor_X11_addConstructor : GoodIn wsL_addConstructor wsX11_addConstructor := goodIn_ca (goodIn_ca (goodIn_ca (goodIn_ca (goodIn_r _ [8, 9, 10, 11, 12, 13, 14, 15, 16, 17, 18, 19, 20, 21, 22, 23, 24, 25, 7, 26, 27, 28, 29, 30, 31, 32, 33, 34, 35, 36, 37, 38, 39, 40, 41, 42, 43, 44, 45, 46, 47, 48, 49, 50, 51, 52, 53, 54, 55, 56, 57, 58, 59, 60, 61, 62, 63, 64, 65, 66, 67, 68, 69, 70, 71, 72, 73, 74, 75, 76, 77, 78, 79, 80, 81, 82, 83, 84, 85, 86, 87, 88, 89, 90, 91, 92, 93, 94, 95, 96, 97, 98, 99, 100, 101, 102, 103, 104, 105, 106, 107, 108, 109, 110] rfl (by decide +kernel)) (goodIn_sub (fun _ h => List.mem_cons_of_mem _ (List.mem_append_left _ (List.mem_append_left _ (List.mem_append_right _ h)))) (by decide +kernel))) (goodIn_sub (fun _ h => List.mem_cons_of_mem _ (List.mem_append_left _ (List.mem_append_right _ h))) (by decide +kernel))) (goodIn_sub (fun _ h => List.mem_cons_of_mem _ (List.mem_append_right _ h)) (by decide +kernel))) (goodIn_sub (fun _ h => List.mem_cons_of_mem _ (List.mem_append_left _ (List.mem_append_left _ (List.mem_append_left _ (List.mem_append_right _ h))))) (by decide +kernel))
set_option maxRecDepth 20000 in
theorem gL_addConstructor_X11_addConstructor : GoodIn wsL_addConstructor (wsV RL 15 RX11 yX11_addConstructor wsX11_addConstructor) := goodIn_app (goodIn_of _ (by decide +kernel)) ggL_addConstructor_X11_addConstructor
theorem dL_addConstructor_0 : decode cL_addConstructor 0 = .ok (.aload 4, 2) := by decide +kernel
theorem dL_addConstructor_2 : decode cL_addConstructor 2 = .ok (.iconst 0, 1) := by decide +kernel
theorem dL_addConstructor_3 : decode cL_addConstructor 3 = .ok (.aload_n 0, 1) := by decide +kernel
theorem dL_addConstructor_4 : decode cL_addConstructor 4 = .ok (.iload_n 1, 1) := by decide +kernel
theorem dL_addConstructor_5 : decode cL_addConstructor 5 = .ok (.iload_n 2, 1) := by decide +kernel
theorem dL_addConstructor_6 : decode cL_addConstructor 6 = .ok (.iload_n 3, 1) := by decide +kernel
theorem dL_addConstructor_7 : decode cL_addConstructor 7 = .ok (.invokevirtual 15, 3) := by decide +kernel
theorem dL_addConstructor_15 : decode cL_addConstructor 15 = .ok (.astore 5, 2) := by decide +kernel
theorem dL_addConstructor_17 : decode cL_addConstructor 17 = .ok (.iconst 1, 1) := by decide +kernel
theorem dL_addConstructor_18 : decode cL_addConstructor 18 = .ok (.ireturn, 1) := by decide +kernel
set_option maxRecDepth 20000 in
theorem ggL_term_X11_term : GoodIn wsL_term wsX11_term := goodIn_ca (goodIn_ca (goodIn_ca (goodIn_ca (goodIn_r _ [8, 9, 10, 11, 12, 13, 14, 15, 16, 17, 18, 19, 20, 21, 22, 23, 24, 25, 26, 27, 28, 29, 30, 31, 32, 33, 34, 35, 36, 37, 38, 39, 40, 41, 42, 43, 44, 45, 46, 47, 48, 49, 50, 51, 52, 53, 54, 55, 56, 57, 58, 59, 60, 61, 62, 63, 64, 65, 66, 67, 68, 69, 70, 71, 72, 73, 74, 75, 76, 77, 78, 79, 80, 81, 82, 83, 84, 85, 86, 87, 88, 89, 90, 91, 92, 93, 94, 95, 96, 97, 98, 99, 100, 101, 102, 103, 104, 105, 106, 107, 108, 109, 110, 111, 112, 113, 114, 115, 116, 117, 118, 119, 120, 121, 122, 123, 124, 125, 126, 127, 128, 129, 130, 131, 132, 133, 134, 135, 136, 137, 138, 139, 140, 141, 142, 143, 144, 145, 146, 147, 148, 149, 150, 151] rfl (by decide +kernel)) (goodIn_sub (fun _ h => List.mem_cons_of_mem _ (List.mem_append_left _ (List.mem_append_left _ (List.mem_append_right _ h)))) (by decide +kernel))) (goodIn_sub (fun _ h => List.mem_cons_of_mem _ (List.mem_append_left _ (List.mem_append_right _ h))) (by decide +kernel))) (goodIn_sub (fun _ h => List.mem_cons_of_mem _ (List.mem_append_right _ h)) (by decide +kernel))) (goodIn_sub (fun _ h => List.mem_cons_of_mem _ (List.mem_append_left _ (List.mem_append_left _ (List.mem_append_left _ (List.mem_append_right _ h))))) (by decide +kernel))
set_option maxRecDepth 20000 in
theorem gL_term_X11_term : GoodIn wsL_term (wsV RL 23 RX11 yX11_term wsX11_term) := goodIn_app (goodIn_of _ (by decide +kernel)) ggL_term_X11_term
theorem dL_term_0 : decode cL_term 0 = .ok (.aload 4, 2) := by decide +kernel
theorem dL_term_2 : decode cL_term 2 = .ok (.iconst 0, 1) := by decide +kernel
theorem dL_term_3 : decode cL_term 3 = .ok (.aload_n 0, 1) := by decide +kernel
theorem dL_term_4 : decode cL_term 4 = .ok (.iload_n 1, 1) := by decide +kernel
theorem dL_term_5 : decode cL_term 5 = .ok (.iload_n 2, 1) := by decide +kernel
theorem dL_term_6 : decode cL_term 6 = .ok (.iload_n 3, 1) := by decide +kernel
theorem dL_term_7 : decode cL_term 7 = .ok (.invokevirtual 23, 3) := by decide +kernel
theorem dL_term_15 : decode cL_term 15 = .ok (.astore 5, 2) := by decide +kernel
theorem dL_term_17 : decode cL_term 17 = .ok (.iconst 1, 1) := by decide +kernel
theorem dL_term_18 : decode cL_term 18 = .ok (.ireturn, 1) := by decide +kernel
set_option maxRecDepth 20000 in
theorem ggL_constructorOf_X11_constructorOf : GoodIn wsL_constructorOf wsX11_constructorOf := goodIn_ca (goodIn_ca (goodIn_r _ [6, 7, 8, 9, 10, 5, 11, 12, 13, 14, 15, 16, 17, 18, 19, 20, 21, 22, 23, 24, 25, 26, 27, 28, 29, 30, 31, 32, 33, 34, 35, 36, 37, 38, 39, 40, 41, 42, 43, 44, 45, 46, 47, 48, 49, 50, 51, 52] rfl (by decide +kernel)) (goodIn_sub (fun _ h => List.mem_cons_of_mem _ (List.mem_append_right _ h)) (by decide +kernel))) (goodIn_sub (fun _ h => List.mem_cons_of_mem _ (List.mem_append_left _ (List.mem_append_right _ h))) (by decide +kernel))
set_option maxRecDepth 20000 in
theorem gL_constructorOf_X11_constructorOf : GoodIn wsL_constructorOf (wsV RL 26 RX11 yX11_constructorOf wsX11_constructorOf) := goodIn_app (goodIn_of _ (by decide +kernel)) ggL_constructorOf_X11_constructorOf
theorem dL_constructorOf_0 : decode cL_constructorOf 0 = .ok (.aload_n 2, 1) := by decide +kernel
theorem dL_constructorOf_1 : decode cL_constructorOf 1 = .ok (.iconst 0, 1) := by decide +kernel
theorem dL_constructorOf_2 : decode cL_constructorOf 2 = .ok (.aload_n 0, 1) := by decide +kernel
theorem dL_constructorOf_3 : decode cL_constructorOf 3 = .ok (.iload_n 1, 1) := by decide +kernel
theorem dL_constructorOf_4 : decode cL_constructorOf 4 = .ok (.invokevirtual 26, 3) := by decide +kernel
theorem dL_constructorOf_12 : decode cL_constructorOf 12 = .ok (.astore_n 3, 1) := by decide +kernel
theorem dL_constructorOf_13 : decode cL_constructorOf 13 = .ok (.iconst 1, 1) := by decide +kernel
theorem dL_constructorOf_14 : decode cL_constructorOf 14 = .ok (.ireturn, 1) := by decide +kernel
set_option maxRecDepth 20000 in
theorem ggL_partOf_X11_partOf : GoodIn wsL_partOf wsX11_partOf := goodIn_ca (goodIn_ca (goodIn_ca (goodIn_r _ [7, 8, 9, 10, 11, 12, 13, 6, 14, 15, 16, 17, 18, 19, 20, 21, 22, 23, 24, 25, 26, 27, 28, 29, 30, 31, 32, 33, 34, 35, 36, 37, 38, 39, 40, 41, 42, 43, 44, 45, 46, 47, 48, 49, 50, 51, 52, 53, 54, 55, 56, 57, 58, 59, 60, 61, 62, 63, 64] rfl (by decide +kernel)) (goodIn_sub (fun _ h => List.mem_cons_of_mem _ (List.mem_append_left _ (List.mem_append_right _ h))) (by decide +kernel))) (goodIn_sub (fun _ h => List.mem_cons_of_mem _ (List.mem_append_right _ h)) (by decide +kernel))) (goodIn_sub (fun _ h => List.mem_cons_of_mem _ (List.mem_append_left _ (List.mem_append_left _ (List.mem_append_right _ h)))) (by decide +kernel))
set_option maxRecDepth 20000 in
theorem gL_partOf_X11_partOf : GoodIn wsL_partOf (wsV RL 30 RX11 yX11_partOf wsX11_partOf) := goodIn_app (goodIn_of _ (by decide +kernel)) ggL_partOf_X11_partOf
theorem dL_partOf_0 : decode cL_partOf 0 = .ok (.aload_n 3, 1) := by decide +kernel
theorem dL_partOf_1 : decode cL_partOf 1 = .ok (.iconst 0, 1) := by decide +kernel
theorem dL_partOf_2 : decode cL_partOf 2 = .ok (.aload_n 0, 1) := by decide +kernel
theorem dL_partOf_3 : decode cL_partOf 3 = .ok (.iload_n 1, 1) := by decide +kernel
theorem dL_partOf_4 : decode cL_partOf 4 = .ok (.iload_n 2, 1) := by decide +kernel
theorem dL_partOf_5 : decode cL_partOf 5 = .ok (.invokevirtual 30, 3) := by decide +kernel
theorem dL_partOf_13 : decode cL_partOf 13 = .ok (.astore 4, 2) := by decide +kernel
theorem dL_partOf_15 : decode cL_partOf 15 = .ok (.iconst 1, 1) := by decide +kernel
theorem dL_partOf_16 : decode cL_partOf 16 = .ok (.ireturn, 1) := by decide +kernel
set_option maxRecDepth 20000 in
theorem ggL_sizeOf_X11_sizeOf : GoodIn wsL_sizeOf wsX11_sizeOf := goodIn_ca (goodIn_ca (goodIn_r _ [6, 7, 8, 9, 10, 5, 11, 12, 13, 14, 15, 16, 17, 18, 19, 20, 21, 22, 23, 24, 25, 26, 27, 28, 29, 30, 31, 32, 33, 34, 35, 36, 37, 38, 39, 40, 41, 42, 43, 44, 45, 46, 47] rfl (by decide +kernel)) (goodIn_sub (fun _ h => List.mem_cons_of_mem _ (List.mem_append_right _ h)) (by decide +kernel))) (goodIn_sub (fun _ h => List.mem_cons_of_mem _ (List.mem_append_left _ (List.mem_append_right _ h))) (by decide +kernel))
set_option maxRecDepth 20000 in
theorem gL_sizeOf_X11_sizeOf : GoodIn wsL_sizeOf (wsV RL 36 RX11 yX11_sizeOf wsX11_sizeOf) := goodIn_app (goodIn_of _ (by decide +kernel)) ggL_sizeOf_X11_sizeOf
theorem dL_sizeOf_0 : decode cL_sizeOf 0 = .ok (.aload_n 2, 1) := by decide +kernel
theorem dL_sizeOf_1 : decode cL_sizeOf 1 = .ok (.iconst 0, 1) := by decide +kernel
theorem dL_sizeOf_2 : decode cL_sizeOf 2 = .ok (.aload_n 0, 1) := by decide +kernel
theorem dL_sizeOf_3 : decode cL_sizeOf 3 = .ok (.iload_n 1, 1) := by decide +kernel
theorem dL_sizeOf_4 : decode cL_sizeOf 4 = .ok (.invokevirtual 36, 3) := by decide +kernel
theorem dL_sizeOf_11 : decode cL_sizeOf 11 = .ok (.astore_n 3, 1) := by decide +kernel
theorem dL_sizeOf_12 : decode cL_sizeOf 12 = .ok (.iconst 1, 1) := by decide +kernel
theorem dL_sizeOf_13 : decode cL_sizeOf 13 = .ok (.ireturn, 1) := by decide +kernel
set_option maxRecDepth 20000 in
theorem ggL_addPredicate_X11_addPredicate : GoodIn wsL_addPredicate wsX11_addPredicate := goodIn_ca (goodIn_ca (goodIn_ca (goodIn_ca (goodIn_r _ [8, 9, 10, 11, 12, 13, 14, 15, 16, 17, 18, 19, 7, 20, 21, 22, 23, 24, 25, 26, 27, 28, 29, 30, 31, 32, 33, 34, 35, 36, 37, 38, 39, 40, 41, 42, 43, 44, 45, 46, 47, 48, 49, 50, 51, 52, 53, 54, 55, 56, 57, 58, 59, 60, 61, 62, 63, 64, 65, 66, 67, 68, 69, 70, 71, 72, 73, 74, 75, 76, 77, 78, 79, 80, 81, 82, 83, 84, 85, 86, 87, 88, 89, 90, 91, 92, 93, 94, 95, 96, 97, 98, 99, 100, 101, 102, 103, 104, 105, 106, 107, 108, 109, 110, 111, 112, 113, 114, 115, 116, 117, 118, 119, 120, 121, 122, 123, 124, 125, 126, 127, 128, 129, 130, 131, 132, 133, 134, 135, 136, 137, 138, 139, 140, 141, 142, 143, 144, 145, 146, 147, 148, 149, 150, 151, 152, 153, 154, 155, 156, 157, 158, 159, 160, 161, 162, 163, 164, 165, 166, 167, 168, 169, 170, 171, 172, 173, 174, 175, 176, 177, 178, 179, 180, 181, 182, 183, 184, 185, 186, 187, 188, 189, 190, 191, 192, 193, 194, 195, 196, 197, 198, 199, 200, 201, 202, 203, 204, 205, 206, 207, 208, 209, 210, 211, 212, 213, 214, 215, 216, 217, 218, 219, 220, 221, 222] rfl (by decide +kernel)) (goodIn_sub (fun _ h => List.mem_cons_of_mem _ (List.mem_append_left _ (List.mem_append_left _ (List.mem_append_right _ h)))) (by decide +kernel))) (goodIn_sub (fun _ h => List.mem_cons_of_mem _ (List.mem_append_left _ (List.mem_append_right _ h))) (by decide +kernel))) (goodIn_sub (fun _ h => List.mem_cons_of_mem _ (List.mem_append_right _ h)) (by decide +kernel))) (goodIn_sub (fun _ h => List.mem_cons_of_mem _ (List.mem_append_left _ (List.mem_append_left _ (List.mem_append_left _ (List.mem_append_right _ h))))) (by decide +kernel))
set_option maxRecDepth 20000 in
theorem gL_addPredicate_X11_addPredicate : GoodIn wsL_addPredicate (wsV RL 40 RX11 yX11_addPredicate wsX11_addPredicate) := goodIn_app (goodIn_of _ (by decide +kernel)) ggL_addPredicate_X11_addPredicate
theorem dL_addPredicate_0 : decode cL_addPredicate 0 = .ok (.aload 4, 2) := by decide +kernel
theorem dL_addPredicate_2 : decode cL_addPredicate 2 = .ok (.iconst 0, 1) := by decide +kernel
theorem dL_addPredicate_3 : decode cL_addPredicate 3 = .ok (.aload_n 0, 1) := by decide +kernel
theorem dL_addPredicate_4 : decode cL_addPredicate 4 = .ok (.iload_n 1, 1) := by decide +kernel
theorem dL_addPredicate_5 : decode cL_addPredicate 5 = .ok (.iload_n 2, 1) := by decide +kernel
theorem dL_addPredicate_6 : decode cL_addPredicate 6 = .ok (.iload_n 3, 1) := by decide +kernel
theorem dL_addPredicate_7 : decode cL_addPredicate 7 = .ok (.invokevirtual 40, 3) := by decide +kernel
theorem dL_addPredicate_10 : decode cL_addPredicate 10 = .ok (.i2l, 1) := by decide +kernel
theorem dL_addPredicate_11 : decode cL_addPredicate 11 = .ok (.lastore, 1) := by decide +kernel
theorem dL_addPredicate_12 : decode cL_addPredicate 12 = .ok (.goto 15, 3) := by decide +kernel
theorem dL_addPredicate_15 : decode cL_addPredicate 15 = .ok (.astore 5, 2) := by decide +kernel
theorem dL_addPredicate_17 : decode cL_addPredicate 17 = .ok (.iconst 1, 1) := by decide +kernel
theorem dL_addPredicate_18 : decode cL_addPredicate 18 = .ok (.ireturn, 1) := by decide +kernel
theorem dL_addPredicate_27 : decode cL_addPredicate 27 = .ok (.iconst 0, 1) := by decide +kernel
theorem dL_addPredicate_28 : decode cL_addPredicate 28 = .ok (.ireturn, 1) := by decide +kernel
set_option maxRecDepth 20000 in
theorem ggL_addMode_X11_addMode : GoodIn wsL_addMode wsX11_addMode := goodIn_ca (goodIn_ca (goodIn_ca (goodIn_r _ [8, 9, 10, 11, 12, 13, 14, 15, 16, 17, 18, 19, 20, 21, 22, 23, 24, 25, 26, 27, 28, 29, 30, 31, 32, 33, 34, 35, 36, 37, 38, 39, 40, 41, 42, 43, 44, 45, 46, 47, 48, 49, 50, 51, 52, 53, 54, 55, 56, 57, 58, 59, 60, 7, 61, 62, 63, 64, 65, 66, 67, 68, 69, 70, 71, 72, 73, 74, 75, 76, 77, 78, 79, 80, 81, 82, 83, 84, 85, 86, 87, 88, 89, 90, 91, 92, 93, 94, 95, 96, 97, 98, 99, 100, 101, 102, 103, 104, 105, 106, 107, 108, 109, 110, 111, 112, 113, 114, 115, 116, 117, 118, 119, 120, 121, 122, 123, 124, 125, 126, 127, 128, 129, 130, 131, 132, 133, 134, 135, 136, 137, 138, 139, 140, 141, 142, 143, 144, 145, 146, 147, 148, 149, 150, 151, 152, 153, 154, 155, 156, 157, 158, 159, 160, 161, 162, 163, 164, 165, 166, 167, 168, 169, 170, 171] rfl (by decide +kernel)) (goodIn_sub (fun _ h => List.mem_cons_of_mem _ (List.mem_append_left _ (List.mem_append_left _ (List.mem_append_right _ h)))) (by decide +kernel))) (goodIn_sub (fun _ h => List.mem_cons_of_mem _ (List.mem_append_left _ (List.mem_append_right _ h))) (by decide +kernel))) (goodIn_sub (fun _ h => List.mem_cons_of_mem _ (List.mem_append_right _ h)) (by decide +kernel))
set_option maxRecDepth 20000 in
theorem gL_addMode_X11_addMode : GoodIn wsL_addMode (wsV RL 43 RX11 yX11_addMode wsX11_addMode) := goodIn_app (goodIn_of _ (by decide +kernel)) ggL_addMode_X11_addMode
theorem dL_addMode_0 : decode cL_addMode 0 = .ok (.aload 4, 2) := by decide +kernel
theorem dL_addMode_2 : decode cL_addMode 2 = .ok (.iconst 0, 1) := by decide +kernel
theorem dL_addMode_3 : decode cL_addMode 3 = .ok (.aload_n 0, 1) := by decide +kernel
theorem dL_addMode_4 : decode cL_addMode 4 = .ok (.iload_n 1, 1) := by decide +kernel
theorem dL_addMode_5 : decode cL_addMode 5 = .ok (.iload_n 2, 1) := by decide +kernel
theorem dL_addMode_6 : decode cL_addMode 6 = .ok (.iload_n 3, 1) := by decide +kernel
theorem dL_addMode_7 : decode cL_addMode 7 = .ok (.invokevirtual 43, 3) := by decide +kernel
theorem dL_addMode_15 : decode cL_addMode 15 = .ok (.astore 5, 2) := by decide +kernel
theorem dL_addMode_17 : decode cL_addMode 17 = .ok (.iconst 1, 1) := by decide +kernel
theorem dL_addMode_18 : decode cL_addMode 18 = .ok (.ireturn, 1) := by decide +kernel
set_option maxRecDepth 20000 in
theorem ggL_addClause_X11_addClause : GoodIn wsL_addClause wsX11_addClause := goodIn_ca (goodIn_ca (goodIn_ca (goodIn_r _ [7, 8, 9, 10, 11, 12, 13, 14, 15, 16, 17, 18, 19, 20, 21, 22, 23, 24, 25, 26, 27, 28, 29, 30, 31, 32, 33, 34, 35, 36, 37, 38, 39, 40, 41, 42, 43, 44, 45, 46, 47, 48, 49, 50, 51, 52, 53, 54, 55, 56, 57, 58, 59, 60, 61, 62, 63, 64, 65, 66, 67, 68, 69, 70, 71, 72, 73, 74, 75, 76, 77, 78, 79, 80, 81, 82, 83, 84, 85, 86, 87, 88, 89, 90, 91, 92, 93, 94, 95, 96, 97, 98, 99, 100, 101, 102, 103, 104, 105, 106, 107, 108, 109, 110, 111, 112, 113, 114, 115, 116, 117, 118, 119, 120, 121, 122, 123, 124, 125, 126, 127, 128, 129, 130, 131, 132, 133, 134, 135, 136, 137, 138, 139, 140, 141, 142, 143, 144, 145, 146, 147, 148, 149, 150, 151, 152, 153, 154, 155, 156, 157, 158, 159, 160, 161, 162, 163, 164, 165, 166, 167, 168, 169, 170, 171, 172, 173, 174, 175, 176, 177, 178, 179, 180, 181, 182, 183, 184, 185, 186, 187, 188, 189, 190, 191, 192, 193, 194, 195, 196, 197, 198, 199, 200, 201, 202, 203, 204, 205, 206, 207, 208, 209, 210, 211, 212, 213, 214, 215, 216, 217, 218, 219, 220, 221, 222, 223, 224, 225, 226, 227, 228, 229, 230, 231, 232, 233] rfl (by decide +kernel)) (goodIn_sub (fun _ h => List.mem_cons_of_mem _ (List.mem_append_left _ (List.mem_append_right _ h))) (by decide +kernel))) (goodIn_sub (fun _ h => List.mem_cons_of_mem _ (List.mem_append_right _ h)) (by decide +kernel))) (goodIn_sub (fun _ h => List.mem_cons_of_mem _ (List.mem_append_left _ (List.mem_append_left _ (List.mem_append_right _ h)))) (by decide +kernel))
set_option maxRecDepth 20000 in
theorem gL_addClause_X11_addClause : GoodIn wsL_addClause (wsV RL 47 RX11 yX11_addClause wsX11_addClause) := goodIn_app (goodIn_of _ (by decide +kernel)) ggL_addClause_X11_addClause
theorem dL_addClause_0 : decode cL_addClause 0 = .ok (.aload_n 2, 1) := by decide +kernel
theorem dL_addClause_1 : decode cL_addClause 1 = .ok (.iconst 0, 1) := by decide +kernel
theorem dL_addClause_2 : decode cL_addClause 2 = .ok (.aload_n 0, 1) := by decide +kernel
theorem dL_addClause_3 : decode cL_addClause 3 = .ok (.iload_n 1, 1) := by decide +kernel
theorem dL_addClause_4 : decode cL_addClause 4 = .ok (.invokevirtual 47, 3) := by decide +kernel
theorem dL_addClause_12 : decode cL_addClause 12 = .ok (.astore_n 3, 1) := by decide +kernel
theorem dL_addClause_13 : decode cL_addClause 13 = .ok (.iconst 1, 1) := by decide +kernel
theorem dL_addClause_14 : decode cL_addClause 14 = .ok (.ireturn, 1) := by decide +kernel
set_option maxRecDepth 20000 in
theorem ggL_addBuild_X11_addBuild : GoodIn wsL_addBuild wsX11_addBuild := goodIn_ca (goodIn_ca (goodIn_ca (goodIn_ca (goodIn_r _ [8, 9, 10, 11, 12, 13, 14, 15, 16, 17, 18, 19, 20, 21, 22, 23, 24, 25, 26, 27, 28, 29, 30, 31, 32, 33, 34, 35, 36, 37, 38, 39, 40, 41, 42, 43, 44, 45, 46, 47, 48, 49, 50, 51, 52, 53, 54, 55, 56, 57, 58, 59, 7, 60, 61, 62, 63, 64, 65, 66, 67, 68, 69, 70, 71, 72, 73, 74, 75, 76, 77, 78, 79, 80, 81, 82, 83, 84, 85, 86, 87, 88, 89, 90, 91, 92, 93, 94, 95, 96, 97, 98, 99, 100, 101, 102, 103, 104, 105, 106, 107, 108, 109, 110, 111, 112, 113, 114, 115, 116, 117, 118, 119, 120, 121, 122, 123, 124, 125, 126, 127, 128, 129, 130, 131, 132, 133, 134, 135, 136, 137, 138, 139, 140, 141, 142, 143, 144, 145, 146, 147, 148, 149, 150, 151, 152, 153, 154, 155, 156, 157, 158, 159, 160, 161, 162, 163, 164, 165, 166, 167, 168, 169, 170, 171, 172, 173, 174, 175, 176, 177, 178, 179, 180, 181, 182, 183, 184, 185, 186, 187, 188, 189, 190, 191, 192, 193, 194, 195, 196, 197, 198, 199, 200, 201, 202, 203, 204, 205, 206, 207, 208, 209, 210, 211, 212, 213, 214, 215, 216, 217, 218, 219, 220, 221, 222, 223] rfl (by decide +kernel)) (goodIn_sub (fun _ h => List.mem_cons_of_mem _ (List.mem_append_left _ (List.mem_append_left _ (List.mem_append_right _ h)))) (by decide +kernel))) (goodIn_sub (fun _ h => List.mem_cons_of_mem _ (List.mem_append_left _ (List.mem_append_left _ (List.mem_append_left _ (List.mem_append_right _ h))))) (by decide +kernel))) (goodIn_sub (fun _ h => List.mem_cons_of_mem _ (List.mem_append_left _ (List.mem_append_right _ h))) (by decide +kernel))) (goodIn_sub (fun _ h => List.mem_cons_of_mem _ (List.mem_append_right _ h)) (by decide +kernel))
set_option maxRecDepth 20000 in
theorem gL_addBuild_X11_addBuild : GoodIn wsL_addBuild (wsV RL 50 RX11 yX11_addBuild wsX11_addBuild) := goodIn_app (goodIn_of _ (by decide +kernel)) ggL_addBuild_X11_addBuild
theorem dL_addBuild_0 : decode cL_addBuild 0 = .ok (.aload 6, 2) := by decide +kernel
theorem dL_addBuild_2 : decode cL_addBuild 2 = .ok (.iconst 0, 1) := by decide +kernel
theorem dL_addBuild_3 : decode cL_addBuild 3 = .ok (.aload_n 0, 1) := by decide +kernel
theorem dL_addBuild_4 : decode cL_addBuild 4 = .ok (.iload_n 1, 1) := by decide +kernel
theorem dL_addBuild_5 : decode cL_addBuild 5 = .ok (.iload_n 2, 1) := by decide +kernel
theorem dL_addBuild_6 : decode cL_addBuild 6 = .ok (.iload_n 3, 1) := by decide +kernel
theorem dL_addBuild_7 : decode cL_addBuild 7 = .ok (.iload 4, 2) := by decide +kernel
theorem dL_addBuild_9 : decode cL_addBuild 9 = .ok (.iload 5, 2) := by decide +kernel
theorem dL_addBuild_11 : decode cL_addBuild 11 = .ok (.invokevirtual 50, 3) := by decide +kernel
theorem dL_addBuild_19 : decode cL_addBuild 19 = .ok (.astore 7, 2) := by decide +kernel
theorem dL_addBuild_21 : decode cL_addBuild 21 = .ok (.iconst 1, 1) := by decide +kernel
theorem dL_addBuild_22 : decode cL_addBuild 22 = .ok (.ireturn, 1) := by decide +kernel
set_option maxRecDepth 20000 in
theorem ggL_addSame_X11_addSame : GoodIn wsL_addSame wsX11_addSame := goodIn_ca (goodIn_ca (goodIn_ca (goodIn_ca (goodIn_r _ [8, 9, 10, 11, 12, 13, 14, 15, 16, 17, 18, 19, 20, 21, 22, 23, 24, 25, 26, 27, 28, 29, 30, 31, 32, 33, 34, 35, 36, 37, 38, 39, 40, 41, 42, 43, 44, 45, 46, 47, 48, 7, 49, 50, 51, 52, 53, 54, 55, 56, 57, 58, 59, 60, 61, 62, 63, 64, 65, 66, 67, 68, 69, 70, 71, 72, 73, 74, 75, 76, 77, 78, 79, 80, 81, 82, 83, 84, 85, 86, 87, 88, 89, 90, 91, 92, 93, 94, 95, 96, 97, 98, 99, 100, 101, 102, 103, 104, 105, 106, 107, 108, 109, 110, 111, 112, 113, 114, 115, 116, 117, 118, 119, 120, 121, 122, 123, 124, 125, 126, 127, 128, 129, 130, 131, 132, 133, 134, 135, 136, 137, 138, 139, 140, 141, 142, 143, 144, 145, 146, 147, 148, 149, 150, 151, 152, 153, 154, 155, 156, 157, 158, 159, 160, 161, 162, 163, 164, 165, 166, 167, 168, 169, 170, 171, 172, 173, 174, 175, 176, 177, 178, 179, 180, 181, 182, 183, 184, 185, 186, 187, 188, 189, 190, 191, 192, 193, 194, 195] rfl (by decide +kernel)) (goodIn_sub (fun _ h => List.mem_cons_of_mem _ (List.mem_append_left _ (List.mem_append_left _ (List.mem_append_right _ h)))) (by decide +kernel))) (goodIn_sub (fun _ h => List.mem_cons_of_mem _ (List.mem_append_left _ (List.mem_append_right _ h))) (by decide +kernel))) (goodIn_sub (fun _ h => List.mem_cons_of_mem _ (List.mem_append_left _ (List.mem_append_left _ (List.mem_append_left _ (List.mem_append_right _ h))))) (by decide +kernel))) (goodIn_sub (fun _ h => List.mem_cons_of_mem _ (List.mem_append_right _ h)) (by decide +kernel))
set_option maxRecDepth 20000 in
theorem gL_addSame_X11_addSame : GoodIn wsL_addSame (wsV RL 54 RX11 yX11_addSame wsX11_addSame) := goodIn_app (goodIn_of _ (by decide +kernel)) ggL_addSame_X11_addSame
theorem dL_addSame_0 : decode cL_addSame 0 = .ok (.aload 4, 2) := by decide +kernel
theorem dL_addSame_2 : decode cL_addSame 2 = .ok (.iconst 0, 1) := by decide +kernel
theorem dL_addSame_3 : decode cL_addSame 3 = .ok (.aload_n 0, 1) := by decide +kernel
theorem dL_addSame_4 : decode cL_addSame 4 = .ok (.iload_n 1, 1) := by decide +kernel
theorem dL_addSame_5 : decode cL_addSame 5 = .ok (.iload_n 2, 1) := by decide +kernel
theorem dL_addSame_6 : decode cL_addSame 6 = .ok (.iload_n 3, 1) := by decide +kernel
theorem dL_addSame_7 : decode cL_addSame 7 = .ok (.invokevirtual 54, 3) := by decide +kernel
theorem dL_addSame_15 : decode cL_addSame 15 = .ok (.astore 5, 2) := by decide +kernel
theorem dL_addSame_17 : decode cL_addSame 17 = .ok (.iconst 1, 1) := by decide +kernel
theorem dL_addSame_18 : decode cL_addSame 18 = .ok (.ireturn, 1) := by decide +kernel
set_option maxRecDepth 20000 in
theorem ggL_addCall_X11_addCall : GoodIn wsL_addCall wsX11_addCall := goodIn_ca (goodIn_ca (goodIn_ca (goodIn_ca (goodIn_r _ [8, 9, 10, 11, 12, 13, 14, 15, 16, 17, 18, 19, 20, 21, 22, 23, 24, 25, 26, 27, 28, 29, 30, 31, 32, 33, 34, 35, 36, 37, 38, 39, 40, 41, 42, 43, 44, 45, 46, 47, 48, 49, 50, 51, 52, 7, 53, 54, 55, 56, 57, 58, 59, 60, 61, 62, 63, 64, 65, 66, 67, 68, 69, 70, 71, 72, 73, 74, 75, 76, 77, 78, 79, 80, 81, 82, 83, 84, 85, 86, 87, 88, 89, 90, 91, 92, 93, 94, 95, 96, 97, 98, 99, 100, 101, 102, 103, 104, 105, 106, 107, 108, 109, 110, 111, 112, 113, 114, 115, 116, 117, 118, 119, 120, 121, 122, 123, 124, 125, 126, 127, 128, 129, 130, 131, 132, 133, 134, 135, 136, 137, 138, 139, 140, 141, 142, 143, 144, 145, 146, 147, 148, 149, 150, 151, 152, 153, 154, 155, 156, 157, 158, 159, 160, 161, 162, 163, 164, 165, 166, 167, 168, 169, 170, 171, 172, 173, 174, 175, 176, 177, 178, 179, 180, 181, 182, 183, 184, 185, 186, 187, 188, 189, 190, 191, 192, 193, 194, 195, 196, 197, 198, 199, 200, 201, 202, 203, 204, 205, 206, 207, 208, 209, 210, 211, 212, 213, 214, 215, 216, 217, 218, 219, 220] rfl (by decide +kernel)) (goodIn_sub (fun _ h => List.mem_cons_of_mem _ (List.mem_append_left _ (List.mem_append_left _ (List.mem_append_right _ h)))) (by decide +kernel))) (goodIn_sub (fun _ h => List.mem_cons_of_mem _ (List.mem_append_left _ (List.mem_append_left _ (List.mem_append_left _ (List.mem_append_right _ h))))) (by decide +kernel))) (goodIn_sub (fun _ h => List.mem_cons_of_mem _ (List.mem_append_left _ (List.mem_append_right _ h))) (by decide +kernel))) (goodIn_sub (fun _ h => List.mem_cons_of_mem _ (List.mem_append_right _ h)) (by decide +kernel))
set_option maxRecDepth 20000 in
theorem gL_addCall_X11_addCall : GoodIn wsL_addCall (wsV RL 57 RX11 yX11_addCall wsX11_addCall) := goodIn_app (goodIn_of _ (by decide +kernel)) ggL_addCall_X11_addCall
theorem dL_addCall_0 : decode cL_addCall 0 = .ok (.aload 7, 2) := by decide +kernel
theorem dL_addCall_2 : decode cL_addCall 2 = .ok (.iconst 0, 1) := by decide +kernel
theorem dL_addCall_3 : decode cL_addCall 3 = .ok (.aload_n 0, 1) := by decide +kernel
theorem dL_addCall_4 : decode cL_addCall 4 = .ok (.iload_n 1, 1) := by decide +kernel
theorem dL_addCall_5 : decode cL_addCall 5 = .ok (.iload_n 2, 1) := by decide +kernel
theorem dL_addCall_6 : decode cL_addCall 6 = .ok (.iload_n 3, 1) := by decide +kernel
theorem dL_addCall_7 : decode cL_addCall 7 = .ok (.iload 4, 2) := by decide +kernel
theorem dL_addCall_9 : decode cL_addCall 9 = .ok (.iload 5, 2) := by decide +kernel
theorem dL_addCall_11 : decode cL_addCall 11 = .ok (.iload 6, 2) := by decide +kernel
theorem dL_addCall_13 : decode cL_addCall 13 = .ok (.invokevirtual 57, 3) := by decide +kernel
theorem dL_addCall_21 : decode cL_addCall 21 = .ok (.astore 8, 2) := by decide +kernel
theorem dL_addCall_23 : decode cL_addCall 23 = .ok (.iconst 1, 1) := by decide +kernel
theorem dL_addCall_24 : decode cL_addCall 24 = .ok (.ireturn, 1) := by decide +kernel
set_option maxRecDepth 20000 in
theorem ggL_compile_X11_compile : GoodIn wsL_compile wsX11_compile := goodIn_ca (goodIn_ca (goodIn_r _ [6, 7, 8, 9, 10, 11, 12, 13, 14, 15, 16, 17, 18, 19, 20, 21, 22, 23, 24, 25, 26, 27, 28, 29, 30, 31, 32, 33, 34, 35, 36, 37, 38, 39, 40, 41, 42, 43, 44, 45, 46, 47, 48, 49, 50, 51, 52, 53, 54, 55, 56, 57, 58, 59, 60, 61, 62, 63, 64, 65, 66, 67, 68, 69, 70, 71, 72, 73, 74, 75, 76, 77, 78, 79, 80, 81, 82, 83, 84, 85, 86, 87, 88, 89, 90, 91, 92, 93, 94, 95, 96, 97, 98, 99, 100, 101, 102, 103, 104, 105, 106, 107, 108, 109, 110, 111, 112, 113, 114, 115, 116, 117, 118, 119, 120, 121, 122, 123, 124, 125, 126, 127, 128, 129, 130, 131, 132, 133, 134, 135, 136, 137, 138, 139, 140, 141, 142, 143, 144, 145, 146, 147, 148, 149, 150, 151, 152, 153, 154, 155, 156, 157, 158, 159, 160, 161, 162, 163, 164, 165, 166, 167, 168, 169, 170, 171, 172, 173, 174, 175, 176, 177, 178, 179, 180, 181, 182, 183, 184, 185, 186, 187, 188, 189, 190, 191, 192, 193, 194, 195, 196, 197, 198, 199, 200, 201, 202, 203, 204, 205, 206, 207, 208, 209, 210, 211, 212, 213, 214, 215, 216, 217, 218, 219, 220, 221, 222, 223, 224, 225, 226, 227, 228, 229, 230, 231, 232, 233, 234, 235, 236, 237, 238, 239, 240, 241, 242, 243, 244, 245, 246, 247, 248, 249, 250, 251, 252, 253, 254, 255, 256, 257, 258, 259, 260, 261, 262, 263, 264, 265, 266, 267, 268, 269, 270, 271, 272, 273, 274, 275, 276, 277, 278, 279, 280, 281, 282, 283, 284, 285, 286, 287, 288, 289, 290, 291, 292, 293, 294, 295, 296, 297, 298] rfl (by decide +kernel)) (goodIn_sub (fun _ h => List.mem_cons_of_mem _ (List.mem_append_right _ h)) (by decide +kernel))) (goodIn_sub (fun _ h => List.mem_cons_of_mem _ (List.mem_append_left _ (List.mem_append_right _ h))) (by decide +kernel))
set_option maxRecDepth 20000 in
theorem gL_compile_X11_compile : GoodIn wsL_compile (wsV RL 61 RX11 yX11_compile wsX11_compile) := goodIn_app (goodIn_of _ (by decide +kernel)) ggL_compile_X11_compile
theorem dL_compile_0 : decode cL_compile 0 = .ok (.aload_n 1, 1) := by decide +kernel
theorem dL_compile_1 : decode cL_compile 1 = .ok (.iconst 0, 1) := by decide +kernel
theorem dL_compile_2 : decode cL_compile 2 = .ok (.aload_n 0, 1) := by decide +kernel
theorem dL_compile_3 : decode cL_compile 3 = .ok (.invokevirtual 61, 3) := by decide +kernel
theorem dL_compile_6 : decode cL_compile 6 = .ok (.i2l, 1) := by decide +kernel
theorem dL_compile_7 : decode cL_compile 7 = .ok (.lastore, 1) := by decide +kernel
theorem dL_compile_8 : decode cL_compile 8 = .ok (.goto 6, 3) := by decide +kernel
theorem dL_compile_14 : decode cL_compile 14 = .ok (.iconst 0, 1) := by decide +kernel
theorem dL_compile_15 : decode cL_compile 15 = .ok (.ireturn, 1) := by decide +kernel
set_option maxRecDepth 20000 in
theorem ggL_open_X11_open : GoodIn wsL_open wsX11_open := goodIn_ca (goodIn_r _ [6, 7, 8, 9, 10, 11, 12, 5, 13, 14, 15, 16, 17, 18, 19, 20, 21, 22, 23, 24] rfl (by decide +kernel)) (goodIn_sub (fun _ h => List.mem_cons_of_mem _ (List.mem_append_right _ h)) (by decide +kernel))
set_option maxRecDepth 20000 in
theorem gL_open_X11_open : GoodIn wsL_open (wsV RL 64 RX11 yX11_open wsX11_open) := goodIn_app (goodIn_of _ (by decide +kernel)) ggL_open_X11_open
theorem dL_open_0 : decode cL_open 0 = .ok (.aload_n 1, 1) := by decide +kernel
theorem dL_open_1 : decode cL_open 1 = .ok (.iconst 0, 1) := by decide +kernel
theorem dL_open_2 : decode cL_open 2 = .ok (.aload_n 0, 1) := by decide +kernel
theorem dL_open_3 : decode cL_open 3 = .ok (.invokevirtual 64, 3) := by decide +kernel
theorem dL_open_11 : decode cL_open 11 = .ok (.astore_n 2, 1) := by decide +kernel
theorem dL_open_12 : decode cL_open 12 = .ok (.iconst 1, 1) := by decide +kernel
theorem dL_open_13 : decode cL_open 13 = .ok (.ireturn, 1) := by decide +kernel
set_option maxRecDepth 20000 in
theorem ggL_fault_X11_fault : GoodIn wsL_fault wsX11_fault := goodIn_ca (goodIn_ca (goodIn_r _ [7, 8, 9, 10, 6, 11, 12, 13, 14, 15, 16, 17, 18, 19, 20, 21, 22, 23, 24, 25, 26, 27, 28, 29, 30, 31, 32, 33, 34, 35, 36, 37, 38, 39, 40, 41, 42, 43, 44, 45, 46, 47, 48, 49, 50, 51, 52, 53, 54, 55, 56, 57, 58, 59, 60, 61, 62, 63, 64, 65, 66, 67, 68, 69, 70, 71, 72, 73, 74, 75, 76, 77, 78, 79, 80, 81, 82, 83, 84, 85, 86, 87, 88, 89, 90, 91, 92, 93, 94, 95, 96, 97, 98, 99, 100, 101, 102, 103, 104, 105, 106, 107] rfl (by decide +kernel)) (goodIn_sub (fun _ h => List.mem_cons_of_mem _ (List.mem_append_left _ (List.mem_append_right _ h))) (by decide +kernel))) (goodIn_sub (fun _ h => List.mem_cons_of_mem _ (List.mem_append_right _ h)) (by decide +kernel))
set_option maxRecDepth 20000 in
theorem gL_fault_X11_fault : GoodIn wsL_fault (wsV RL 67 RX11 yX11_fault wsX11_fault) := goodIn_app (goodIn_of _ (by decide +kernel)) ggL_fault_X11_fault
theorem dL_fault_0 : decode cL_fault 0 = .ok (.aload_n 3, 1) := by decide +kernel
theorem dL_fault_1 : decode cL_fault 1 = .ok (.iconst 0, 1) := by decide +kernel
theorem dL_fault_2 : decode cL_fault 2 = .ok (.aload_n 0, 1) := by decide +kernel
theorem dL_fault_3 : decode cL_fault 3 = .ok (.iload_n 1, 1) := by decide +kernel
theorem dL_fault_4 : decode cL_fault 4 = .ok (.iload_n 2, 1) := by decide +kernel
theorem dL_fault_5 : decode cL_fault 5 = .ok (.invokevirtual 67, 3) := by decide +kernel
theorem dL_fault_13 : decode cL_fault 13 = .ok (.astore 4, 2) := by decide +kernel
theorem dL_fault_15 : decode cL_fault 15 = .ok (.iconst 1, 1) := by decide +kernel
theorem dL_fault_16 : decode cL_fault 16 = .ok (.ireturn, 1) := by decide +kernel
set_option maxRecDepth 20000 in
theorem ggL_isGood_X11_isGood : GoodIn wsL_isGood wsX11_isGood := goodIn_ca (goodIn_ca (goodIn_r _ [7, 8, 9, 10, 6, 11, 12, 13, 14, 15, 16, 17, 18, 19, 20, 21, 22, 23, 24, 25, 26, 27, 28, 29, 30, 31, 32, 33, 34, 35, 36, 37, 38, 39, 40, 41, 42, 43, 44, 45, 46, 47, 48, 49, 50, 51, 52, 53, 54, 55, 56, 57, 58, 59, 60, 61, 62, 63, 64, 65, 66, 67, 68, 69, 70, 71, 72, 73, 74, 75, 76, 77, 78, 79, 80, 81, 82, 83, 84, 85, 86, 87, 88, 89, 90, 91, 92, 93] rfl (by decide +kernel)) (goodIn_sub (fun _ h => List.mem_cons_of_mem _ (List.mem_append_left _ (List.mem_append_right _ h))) (by decide +kernel))) (goodIn_sub (fun _ h => List.mem_cons_of_mem _ (List.mem_append_right _ h)) (by decide +kernel))
set_option maxRecDepth 20000 in
theorem gL_isGood_X11_isGood : GoodIn wsL_isGood (wsV RL 71 RX11 yX11_isGood wsX11_isGood) := goodIn_app (goodIn_of _ (by decide +kernel)) ggL_isGood_X11_isGood
theorem dL_isGood_0 : decode cL_isGood 0 = .ok (.aload_n 3, 1) := by decide +kernel
theorem dL_isGood_1 : decode cL_isGood 1 = .ok (.iconst 0, 1) := by decide +kernel
theorem dL_isGood_2 : decode cL_isGood 2 = .ok (.aload_n 0, 1) := by decide +kernel
theorem dL_isGood_3 : decode cL_isGood 3 = .ok (.iload_n 1, 1) := by decide +kernel
theorem dL_isGood_4 : decode cL_isGood 4 = .ok (.iload_n 2, 1) := by decide +kernel
theorem dL_isGood_5 : decode cL_isGood 5 = .ok (.invokevirtual 71, 3) := by decide +kernel
theorem dL_isGood_20 : decode cL_isGood 20 = .ok (.astore 4, 2) := by decide +kernel
theorem dL_isGood_22 : decode cL_isGood 22 = .ok (.iconst 1, 1) := by decide +kernel
theorem dL_isGood_23 : decode cL_isGood 23 = .ok (.ireturn, 1) := by decide +kernel
set_option maxRecDepth 20000 in
theorem ggL_found_X11_found : GoodIn wsL_found wsX11_found := goodIn_ca (goodIn_ca (goodIn_ca (goodIn_r _ [8, 9, 10, 11, 12, 13, 7, 14, 15, 16, 17, 18, 19, 20, 21, 22, 23, 24, 25, 26, 27, 28, 29, 30, 31, 32, 33, 34, 35, 36, 37, 38, 39, 40, 41, 42, 43, 44, 45, 46, 47, 48, 49, 50, 51, 52, 53, 54, 55, 56, 57, 58, 59, 60, 61, 62, 63, 64, 65, 66, 67, 68, 69, 70, 71, 72, 73, 74, 75, 76, 77, 78, 79, 80, 81, 82, 83, 84, 85, 86, 87, 88, 89, 90, 91, 92, 93, 94, 95, 96, 97, 98, 99, 100, 101, 102, 103] rfl (by decide +kernel)) (goodIn_sub (fun _ h => List.mem_cons_of_mem _ (List.mem_append_left _ (List.mem_append_left _ (List.mem_append_right _ h)))) (by decide +kernel))) (goodIn_sub (fun _ h => List.mem_cons_of_mem _ (List.mem_append_left _ (List.mem_append_right _ h))) (by decide +kernel))) (goodIn_sub (fun _ h => List.mem_cons_of_mem _ (List.mem_append_right _ h)) (by decide +kernel))
set_option maxRecDepth 20000 in
theorem gL_found_X11_found : GoodIn wsL_found (wsV RL 75 RX11 yX11_found wsX11_found) := goodIn_app (goodIn_of _ (by decide +kernel)) ggL_found_X11_found
theorem dL_found_0 : decode cL_found 0 = .ok (.aload_n 3, 1) := by decide +kernel
theorem dL_found_1 : decode cL_found 1 = .ok (.iconst 0, 1) := by decide +kernel
theorem dL_found_2 : decode cL_found 2 = .ok (.aload_n 0, 1) := by decide +kernel
theorem dL_found_3 : decode cL_found 3 = .ok (.iload_n 1, 1) := by decide +kernel
theorem dL_found_4 : decode cL_found 4 = .ok (.iload_n 2, 1) := by decide +kernel
theorem dL_found_5 : decode cL_found 5 = .ok (.invokevirtual 75, 3) := by decide +kernel
theorem dL_found_13 : decode cL_found 13 = .ok (.astore 4, 2) := by decide +kernel
theorem dL_found_15 : decode cL_found 15 = .ok (.iconst 1, 1) := by decide +kernel
theorem dL_found_16 : decode cL_found 16 = .ok (.ireturn, 1) := by decide +kernel
set_option maxRecDepth 20000 in
theorem ggL_switchOf_X11_switchOf : GoodIn wsL_switchOf wsX11_switchOf := goodIn_ca (goodIn_ca (goodIn_ca (goodIn_r _ [8, 9, 10, 11, 12, 13, 7, 14, 15, 16, 17, 18, 19, 20, 21, 22, 23, 24, 25, 26, 27, 28, 29, 30, 31, 32, 33, 34, 35, 36, 37, 38, 39, 40, 41, 42, 43, 44, 45, 46, 47, 48, 49, 50, 51, 52, 53, 54, 55, 56, 57, 58, 59, 60, 61, 62, 63, 64, 65, 66, 67, 68, 69, 70, 71, 72, 73, 74, 75, 76, 77, 78, 79, 80, 81, 82, 83, 84, 85, 86, 87, 88, 89, 90, 91, 92, 93, 94, 95, 96] rfl (by decide +kernel)) (goodIn_sub (fun _ h => List.mem_cons_of_mem _ (List.mem_append_left _ (List.mem_append_left _ (List.mem_append_right _ h)))) (by decide +kernel))) (goodIn_sub (fun _ h => List.mem_cons_of_mem _ (List.mem_append_left _ (List.mem_append_right _ h))) (by decide +kernel))) (goodIn_sub (fun _ h => List.mem_cons_of_mem _ (List.mem_append_right _ h)) (by decide +kernel))
set_option maxRecDepth 20000 in
theorem gL_switchOf_X11_switchOf : GoodIn wsL_switchOf (wsV RL 78 RX11 yX11_switchOf wsX11_switchOf) := goodIn_app (goodIn_of _ (by decide +kernel)) ggL_switchOf_X11_switchOf
theorem dL_switchOf_0 : decode cL_switchOf 0 = .ok (.aload_n 3, 1) := by decide +kernel
theorem dL_switchOf_1 : decode cL_switchOf 1 = .ok (.iconst 0, 1) := by decide +kernel
theorem dL_switchOf_2 : decode cL_switchOf 2 = .ok (.aload_n 0, 1) := by decide +kernel
theorem dL_switchOf_3 : decode cL_switchOf 3 = .ok (.iload_n 1, 1) := by decide +kernel
theorem dL_switchOf_4 : decode cL_switchOf 4 = .ok (.iload_n 2, 1) := by decide +kernel
theorem dL_switchOf_5 : decode cL_switchOf 5 = .ok (.invokevirtual 78, 3) := by decide +kernel
theorem dL_switchOf_13 : decode cL_switchOf 13 = .ok (.astore 4, 2) := by decide +kernel
theorem dL_switchOf_15 : decode cL_switchOf 15 = .ok (.iconst 1, 1) := by decide +kernel
theorem dL_switchOf_16 : decode cL_switchOf 16 = .ok (.ireturn, 1) := by decide +kernel
set_option maxRecDepth 20000 in
theorem ggL_goalAt_X11_goalAt : GoodIn wsL_goalAt wsX11_goalAt := goodIn_ca (goodIn_ca (goodIn_ca (goodIn_ca (goodIn_r _ [8, 9, 10, 11, 12, 13, 7, 14, 15, 16, 17, 18, 19, 20, 21, 22, 23, 24, 25, 26, 27, 28, 29, 30, 31, 32, 33, 34, 35, 36, 37, 38, 39, 40, 41, 42, 43, 44, 45, 46, 47, 48, 49, 50, 51, 52, 53, 54, 55, 56, 57, 58, 59, 60, 61, 62, 63, 64, 65, 66, 67, 68, 69, 70, 71, 72, 73, 74, 75, 76, 77, 78, 79, 80, 81, 82, 83, 84, 85, 86, 87, 88, 89, 90, 91, 92, 93, 94, 95, 96, 97, 98, 99, 100, 101, 102, 103] rfl (by decide +kernel)) (goodIn_sub (fun _ h => List.mem_cons_of_mem _ (List.mem_append_left _ (List.mem_append_left _ (List.mem_append_right _ h)))) (by decide +kernel))) (goodIn_sub (fun _ h => List.mem_cons_of_mem _ (List.mem_append_left _ (List.mem_append_right _ h))) (by decide +kernel))) (goodIn_sub (fun _ h => List.mem_cons_of_mem _ (List.mem_append_right _ h)) (by decide +kernel))) (goodIn_sub (fun _ h => List.mem_cons_of_mem _ (List.mem_append_left _ (List.mem_append_left _ (List.mem_append_left _ (List.mem_append_right _ h))))) (by decide +kernel))
set_option maxRecDepth 20000 in
theorem gL_goalAt_X11_goalAt : GoodIn wsL_goalAt (wsV RL 81 RX11 yX11_goalAt wsX11_goalAt) := goodIn_app (goodIn_of _ (by decide +kernel)) ggL_goalAt_X11_goalAt
theorem dL_goalAt_0 : decode cL_goalAt 0 = .ok (.aload 4, 2) := by decide +kernel
theorem dL_goalAt_2 : decode cL_goalAt 2 = .ok (.iconst 0, 1) := by decide +kernel
theorem dL_goalAt_3 : decode cL_goalAt 3 = .ok (.aload_n 0, 1) := by decide +kernel
theorem dL_goalAt_4 : decode cL_goalAt 4 = .ok (.iload_n 1, 1) := by decide +kernel
theorem dL_goalAt_5 : decode cL_goalAt 5 = .ok (.iload_n 2, 1) := by decide +kernel
theorem dL_goalAt_6 : decode cL_goalAt 6 = .ok (.iload_n 3, 1) := by decide +kernel
theorem dL_goalAt_7 : decode cL_goalAt 7 = .ok (.invokevirtual 81, 3) := by decide +kernel
theorem dL_goalAt_15 : decode cL_goalAt 15 = .ok (.astore 5, 2) := by decide +kernel
theorem dL_goalAt_17 : decode cL_goalAt 17 = .ok (.iconst 1, 1) := by decide +kernel
theorem dL_goalAt_18 : decode cL_goalAt 18 = .ok (.ireturn, 1) := by decide +kernel
set_option maxRecDepth 20000 in
theorem ggL_chosenAt_X11_chosenAt : GoodIn wsL_chosenAt wsX11_chosenAt := goodIn_ca (goodIn_ca (goodIn_ca (goodIn_ca (goodIn_r _ [8, 9, 10, 11, 12, 13, 7, 14, 15, 16, 17, 18, 19, 20, 21, 22, 23, 24, 25, 26, 27, 28, 29, 30, 31, 32, 33, 34, 35, 36, 37, 38, 39, 40, 41, 42, 43, 44, 45, 46, 47, 48, 49, 50, 51, 52, 53, 54, 55, 56, 57, 58, 59, 60, 61, 62, 63, 64, 65, 66, 67, 68, 69, 70, 71, 72, 73, 74, 75, 76, 77, 78, 79, 80, 81, 82, 83, 84, 85, 86, 87, 88, 89, 90, 91, 92, 93, 94, 95, 96, 97, 98, 99, 100, 101, 102, 103, 104, 105, 106, 107, 108, 109, 110, 111, 112] rfl (by decide +kernel)) (goodIn_sub (fun _ h => List.mem_cons_of_mem _ (List.mem_append_left _ (List.mem_append_left _ (List.mem_append_right _ h)))) (by decide +kernel))) (goodIn_sub (fun _ h => List.mem_cons_of_mem _ (List.mem_append_left _ (List.mem_append_right _ h))) (by decide +kernel))) (goodIn_sub (fun _ h => List.mem_cons_of_mem _ (List.mem_append_right _ h)) (by decide +kernel))) (goodIn_sub (fun _ h => List.mem_cons_of_mem _ (List.mem_append_left _ (List.mem_append_left _ (List.mem_append_left _ (List.mem_append_right _ h))))) (by decide +kernel))
set_option maxRecDepth 20000 in
theorem gL_chosenAt_X11_chosenAt : GoodIn wsL_chosenAt (wsV RL 84 RX11 yX11_chosenAt wsX11_chosenAt) := goodIn_app (goodIn_of _ (by decide +kernel)) ggL_chosenAt_X11_chosenAt
theorem dL_chosenAt_0 : decode cL_chosenAt 0 = .ok (.aload 4, 2) := by decide +kernel
theorem dL_chosenAt_2 : decode cL_chosenAt 2 = .ok (.iconst 0, 1) := by decide +kernel
theorem dL_chosenAt_3 : decode cL_chosenAt 3 = .ok (.aload_n 0, 1) := by decide +kernel
theorem dL_chosenAt_4 : decode cL_chosenAt 4 = .ok (.iload_n 1, 1) := by decide +kernel
theorem dL_chosenAt_5 : decode cL_chosenAt 5 = .ok (.iload_n 2, 1) := by decide +kernel
theorem dL_chosenAt_6 : decode cL_chosenAt 6 = .ok (.iload_n 3, 1) := by decide +kernel
theorem dL_chosenAt_7 : decode cL_chosenAt 7 = .ok (.invokevirtual 84, 3) := by decide +kernel
theorem dL_chosenAt_15 : decode cL_chosenAt 15 = .ok (.astore 5, 2) := by decide +kernel
theorem dL_chosenAt_17 : decode cL_chosenAt 17 = .ok (.iconst 1, 1) := by decide +kernel
theorem dL_chosenAt_18 : decode cL_chosenAt 18 = .ok (.ireturn, 1) := by decide +kernel
set_option maxRecDepth 20000 in
theorem ggL_ask_X11_ask : GoodIn wsL_ask wsX11_ask := goodIn_ca (goodIn_ca (goodIn_ca (goodIn_ca (goodIn_ca (goodIn_r _ [9, 10, 11, 12, 13, 14, 15, 16, 17, 18, 19, 20, 21, 22, 23, 24, 25, 26, 27, 28, 29, 30, 31, 32, 33, 34, 35, 36, 37, 38, 39, 40, 41, 42, 43, 44, 45, 46, 47, 48, 49, 50, 51, 52, 53, 54, 55, 56, 57, 58, 59, 60, 61, 62, 63, 64, 65, 66, 67, 8, 68, 69, 70, 71, 72, 73, 74, 75, 76, 77, 78, 79, 80, 81, 82, 83, 84, 85, 86, 87, 88, 89, 90, 91, 92, 93, 94, 95, 96, 97, 98, 99, 100, 101, 102, 103, 104, 105, 106, 107, 108, 109, 110, 111, 112, 113, 114, 115, 116, 117, 118, 119, 120, 121, 122, 123, 124, 125, 126, 127, 128, 129, 130, 131, 132, 133, 134, 135, 136, 137, 138, 139, 140, 141, 142, 143, 144, 145, 146, 147, 148, 149, 150, 151, 152, 153, 154, 155, 156, 157, 158, 159, 160, 161, 162, 163, 164, 165, 166, 167, 168, 169, 170, 171, 172, 173, 174, 175, 176, 177, 178, 179, 180, 181, 182, 183, 184, 185, 186, 187, 188, 189, 190, 191, 192, 193, 194, 195, 196, 197, 198, 199, 200, 201, 202, 203, 204, 205, 206, 207, 208, 209, 210, 211, 212, 213, 214, 215, 216, 217, 218, 219, 220, 221, 222, 223, 224, 225, 226, 227, 228, 229, 230, 231, 232, 233, 234, 235, 236, 237, 238, 239, 240, 241, 242, 243, 244, 245, 246, 247, 248, 249, 250, 251, 252, 253, 254, 255, 256, 257, 258, 259, 260, 261, 262, 263, 264, 265, 266, 267, 268, 269, 270, 271, 272, 273, 274, 275, 276, 277, 278, 279, 280, 281, 282, 283, 284, 285, 286, 287, 288, 289, 290, 291, 292, 293, 294, 295, 296, 297, 298, 299, 300, 301, 302, 303, 304, 305, 306, 307, 308, 309, 310, 311, 312, 313, 314, 315, 316, 317, 318, 319, 320, 321, 322, 323, 324, 325, 326, 327, 328, 329, 330, 331, 332, 333, 334, 335, 336, 337, 338, 339, 340, 341, 342, 343, 344, 345, 346, 347, 348, 349, 350, 351, 352, 353, 354, 355, 356, 357, 358, 359, 360, 361, 362, 363, 364, 365, 366, 367, 368, 369, 370, 371, 372, 373, 374, 375, 376, 377, 378, 379, 380, 381, 382, 383, 384, 385, 386, 387, 388, 389, 390, 391, 392, 393, 394, 395, 396, 397, 398, 399, 400, 401, 402, 403, 404, 405, 406, 407, 408, 409, 410, 411, 412, 413, 414, 415, 416, 417, 418, 419, 420, 421, 422, 423, 424, 425, 426, 427, 428, 429, 430, 431, 432, 433, 434, 435, 436, 437, 438, 439, 440, 441, 442, 443, 444, 445, 446, 447, 448, 449, 450, 451, 452, 453, 454, 455, 456, 457, 458, 459, 460, 461, 462, 463, 464, 465, 466, 467, 468, 469, 470, 471, 472, 473, 474, 475, 476, 477, 478, 479, 480, 481, 482, 483, 484, 485, 486, 487, 488, 489, 490, 491, 492, 493, 494, 495, 496, 497, 498, 499, 500, 501, 502, 503, 504, 505, 506, 507, 508, 509, 510, 511, 512, 513, 514, 515, 516, 517, 518, 519, 520, 521, 522, 523, 524, 525, 526, 527, 528, 529, 530, 531, 532, 533, 534, 535, 536, 537, 538, 539, 540, 541, 542, 543, 544, 545, 546, 547, 548, 549, 550, 551, 552] rfl (by decide +kernel)) (goodIn_sub (fun _ h => List.mem_cons_of_mem _ (List.mem_append_left _ (List.mem_append_left _ (List.mem_append_left _ (List.mem_append_right _ h))))) (by decide +kernel))) (goodIn_sub (fun _ h => List.mem_cons_of_mem _ (List.mem_append_left _ (List.mem_append_left _ (List.mem_append_right _ h)))) (by decide +kernel))) (goodIn_sub (fun _ h => List.mem_cons_of_mem _ (List.mem_append_left _ (List.mem_append_right _ h))) (by decide +kernel))) (goodIn_sub (fun _ h => List.mem_cons_of_mem _ (List.mem_append_left _ (List.mem_append_left _ (List.mem_append_left _ (List.mem_append_left _ (List.mem_append_right _ h)))))) (by decide +kernel))) (goodIn_sub (fun _ h => List.mem_cons_of_mem _ (List.mem_append_right _ h)) (by decide +kernel))
set_option maxRecDepth 20000 in
theorem gL_ask_X11_ask : GoodIn wsL_ask (wsV RL 87 RX11 yX11_ask wsX11_ask) := goodIn_app (goodIn_of _ (by decide +kernel)) ggL_ask_X11_ask
theorem dL_ask_0 : decode cL_ask 0 = .ok (.aload 6, 2) := by decide +kernel
theorem dL_ask_2 : decode cL_ask 2 = .ok (.iconst 0, 1) := by decide +kernel
theorem dL_ask_3 : decode cL_ask 3 = .ok (.aload_n 0, 1) := by decide +kernel
theorem dL_ask_4 : decode cL_ask 4 = .ok (.iload_n 1, 1) := by decide +kernel
theorem dL_ask_5 : decode cL_ask 5 = .ok (.iload_n 2, 1) := by decide +kernel
theorem dL_ask_6 : decode cL_ask 6 = .ok (.iload_n 3, 1) := by decide +kernel
theorem dL_ask_7 : decode cL_ask 7 = .ok (.iload 4, 2) := by decide +kernel
theorem dL_ask_9 : decode cL_ask 9 = .ok (.iload 5, 2) := by decide +kernel
theorem dL_ask_11 : decode cL_ask 11 = .ok (.invokevirtual 87, 3) := by decide +kernel
theorem dL_ask_19 : decode cL_ask 19 = .ok (.astore 7, 2) := by decide +kernel
theorem dL_ask_21 : decode cL_ask 21 = .ok (.iconst 1, 1) := by decide +kernel
theorem dL_ask_22 : decode cL_ask 22 = .ok (.ireturn, 1) := by decide +kernel
set_option maxRecDepth 20000 in
theorem ggL_ending_X11_ending : GoodIn wsL_ending wsX11_ending := goodIn_ca (goodIn_r _ [6, 7, 8, 9, 10, 5, 11, 12, 13, 14, 15, 16, 17, 18, 19, 20, 21, 22, 23, 24, 25, 26, 27, 28, 29, 30, 31, 32, 33] rfl (by decide +kernel)) (goodIn_sub (fun _ h => List.mem_cons_of_mem _ (List.mem_append_right _ h)) (by decide +kernel))
set_option maxRecDepth 20000 in
theorem gL_ending_X11_ending : GoodIn wsL_ending (wsV RL 92 RX11 yX11_ending wsX11_ending) := goodIn_app (goodIn_of _ (by decide +kernel)) ggL_ending_X11_ending
theorem dL_ending_0 : decode cL_ending 0 = .ok (.aload_n 1, 1) := by decide +kernel
theorem dL_ending_1 : decode cL_ending 1 = .ok (.iconst 0, 1) := by decide +kernel
theorem dL_ending_2 : decode cL_ending 2 = .ok (.aload_n 0, 1) := by decide +kernel
theorem dL_ending_3 : decode cL_ending 3 = .ok (.invokevirtual 92, 3) := by decide +kernel
theorem dL_ending_11 : decode cL_ending 11 = .ok (.astore_n 2, 1) := by decide +kernel
theorem dL_ending_12 : decode cL_ending 12 = .ok (.iconst 1, 1) := by decide +kernel
theorem dL_ending_13 : decode cL_ending 13 = .ok (.ireturn, 1) := by decide +kernel
set_option maxRecDepth 20000 in
theorem ggL_answerAt_X11_answerAt : GoodIn wsL_answerAt wsX11_answerAt := goodIn_ca (goodIn_ca (goodIn_ca (goodIn_r _ [7, 8, 9, 10, 11, 12, 13, 6, 14, 15, 16, 17, 18, 19, 20, 21, 22, 23, 24, 25, 26, 27, 28, 29, 30, 31, 32, 33, 34, 35, 36, 37, 38, 39, 40, 41, 42, 43, 44, 45, 46, 47, 48, 49, 50, 51, 52, 53, 54, 55, 56, 57, 58, 59, 60, 61, 62, 63, 64, 65, 66, 67, 68, 69, 70, 71, 72, 73, 74, 75, 76, 77, 78, 79, 80, 81, 82, 83, 84, 85, 86, 87] rfl (by decide +kernel)) (goodIn_sub (fun _ h => List.mem_cons_of_mem _ (List.mem_append_left _ (List.mem_append_right _ h))) (by decide +kernel))) (goodIn_sub (fun _ h => List.mem_cons_of_mem _ (List.mem_append_right _ h)) (by decide +kernel))) (goodIn_sub (fun _ h => List.mem_cons_of_mem _ (List.mem_append_left _ (List.mem_append_left _ (List.mem_append_right _ h)))) (by decide +kernel))
set_option maxRecDepth 20000 in
theorem gL_answerAt_X11_answerAt : GoodIn wsL_answerAt (wsV RL 96 RX11 yX11_answerAt wsX11_answerAt) := goodIn_app (goodIn_of _ (by decide +kernel)) ggL_answerAt_X11_answerAt
theorem dL_answerAt_0 : decode cL_answerAt 0 = .ok (.aload_n 3, 1) := by decide +kernel
theorem dL_answerAt_1 : decode cL_answerAt 1 = .ok (.iconst 0, 1) := by decide +kernel
theorem dL_answerAt_2 : decode cL_answerAt 2 = .ok (.aload_n 0, 1) := by decide +kernel
theorem dL_answerAt_3 : decode cL_answerAt 3 = .ok (.iload_n 1, 1) := by decide +kernel
theorem dL_answerAt_4 : decode cL_answerAt 4 = .ok (.iload_n 2, 1) := by decide +kernel
theorem dL_answerAt_5 : decode cL_answerAt 5 = .ok (.invokevirtual 96, 3) := by decide +kernel
theorem dL_answerAt_13 : decode cL_answerAt 13 = .ok (.astore 4, 2) := by decide +kernel
theorem dL_answerAt_15 : decode cL_answerAt 15 = .ok (.iconst 1, 1) := by decide +kernel
theorem dL_answerAt_16 : decode cL_answerAt 16 = .ok (.ireturn, 1) := by decide +kernel
set_option maxRecDepth 20000 in
theorem ggL_multiplicity_X11_multiplicity : GoodIn wsL_multiplicity wsX11_multiplicity := goodIn_ca (goodIn_ca (goodIn_ca (goodIn_r _ [7, 8, 9, 10, 11, 12, 13, 6, 14, 15, 16, 17, 18, 19, 20, 21, 22, 23, 24, 25, 26, 27, 28, 29, 30, 31, 32, 33, 34, 35, 36, 37, 38, 39, 40, 41, 42, 43, 44, 45, 46, 47, 48, 49, 50, 51, 52, 53, 54, 55, 56, 57, 58, 59, 60, 61] rfl (by decide +kernel)) (goodIn_sub (fun _ h => List.mem_cons_of_mem _ (List.mem_append_left _ (List.mem_append_right _ h))) (by decide +kernel))) (goodIn_sub (fun _ h => List.mem_cons_of_mem _ (List.mem_append_right _ h)) (by decide +kernel))) (goodIn_sub (fun _ h => List.mem_cons_of_mem _ (List.mem_append_left _ (List.mem_append_left _ (List.mem_append_right _ h)))) (by decide +kernel))
set_option maxRecDepth 20000 in
theorem gL_multiplicity_X11_multiplicity : GoodIn wsL_multiplicity (wsV RL 99 RX11 yX11_multiplicity wsX11_multiplicity) := goodIn_app (goodIn_of _ (by decide +kernel)) ggL_multiplicity_X11_multiplicity
theorem dL_multiplicity_0 : decode cL_multiplicity 0 = .ok (.aload_n 2, 1) := by decide +kernel
theorem dL_multiplicity_1 : decode cL_multiplicity 1 = .ok (.iconst 0, 1) := by decide +kernel
theorem dL_multiplicity_2 : decode cL_multiplicity 2 = .ok (.aload_n 0, 1) := by decide +kernel
theorem dL_multiplicity_3 : decode cL_multiplicity 3 = .ok (.iload_n 1, 1) := by decide +kernel
theorem dL_multiplicity_4 : decode cL_multiplicity 4 = .ok (.invokevirtual 99, 3) := by decide +kernel
theorem dL_multiplicity_12 : decode cL_multiplicity 12 = .ok (.astore_n 3, 1) := by decide +kernel
theorem dL_multiplicity_13 : decode cL_multiplicity 13 = .ok (.iconst 1, 1) := by decide +kernel
theorem dL_multiplicity_14 : decode cL_multiplicity 14 = .ok (.ireturn, 1) := by decide +kernel
set_option maxRecDepth 20000 in
theorem ggL_answersByBreadth_X11_answersByBreadth : GoodIn wsL_answersByBreadth wsX11_answersByBreadth := goodIn_ca (goodIn_ca (goodIn_ca (goodIn_r _ [7, 8, 9, 10, 11, 12, 13, 14, 6, 15, 16, 17, 18, 19, 20, 21, 22, 23, 24, 25, 26, 27, 28, 29, 30, 31, 32, 33, 34, 35, 36, 37, 38, 39, 40, 41, 42, 43, 44, 45, 46, 47, 48, 49, 50, 51, 52, 53, 54, 55, 56, 57, 58, 59, 60, 61, 62, 63, 64, 65, 66, 67, 68, 69, 70, 71, 72, 73, 74, 75, 76, 77, 78, 79, 80, 81, 82, 83, 84, 85, 86, 87, 88, 89, 90, 91, 92, 93, 94, 95, 96, 97, 98, 99, 100, 101, 102, 103, 104, 105, 106, 107, 108, 109, 110, 111, 112, 113, 114, 115, 116, 117, 118, 119, 120, 121, 122, 123, 124, 125, 126, 127, 128, 129, 130, 131, 132, 133, 134, 135, 136, 137, 138, 139, 140, 141, 142, 143, 144, 145, 146, 147, 148, 149, 150, 151, 152, 153, 154, 155, 156, 157, 158, 159, 160, 161, 162, 163, 164, 165, 166, 167, 168, 169, 170, 171, 172, 173, 174, 175, 176, 177, 178, 179, 180, 181, 182, 183, 184, 185, 186, 187, 188, 189, 190, 191, 192, 193, 194, 195, 196, 197, 198, 199, 200, 201, 202, 203, 204, 205, 206, 207, 208, 209, 210, 211, 212, 213, 214, 215, 216, 217, 218, 219, 220, 221, 222, 223, 224, 225, 226, 227, 228, 229, 230, 231, 232, 233, 234, 235, 236, 237, 238, 239, 240, 241, 242, 243, 244, 245, 246, 247, 248, 249, 250, 251, 252, 253, 254, 255, 256, 257, 258, 259, 260, 261, 262, 263, 264, 265, 266, 267, 268, 269, 270, 271, 272, 273, 274, 275, 276, 277, 278, 279, 280, 281, 282, 283, 284, 285, 286, 287, 288, 289, 290, 291, 292, 293, 294, 295, 296, 297, 298, 299, 300, 301, 302, 303, 304, 305, 306, 307, 308, 309, 310, 311, 312, 313, 314, 315, 316, 317, 318, 319, 320, 321, 322, 323, 324, 325, 326, 327, 328, 329, 330, 331, 332, 333, 334, 335, 336, 337, 338, 339, 340, 341, 342, 343, 344, 345, 346, 347, 348, 349, 350, 351, 352, 353, 354, 355, 356, 357, 358, 359, 360, 361, 362, 363, 364, 365, 366, 367, 368, 369, 370, 371, 372, 373, 374, 375, 376, 377, 378, 379, 380, 381, 382, 383, 384, 385, 386, 387, 388, 389, 390, 391, 392, 393] rfl (by decide +kernel)) (goodIn_sub (fun _ h => List.mem_cons_of_mem _ (List.mem_append_left _ (List.mem_append_right _ h))) (by decide +kernel))) (goodIn_sub (fun _ h => List.mem_cons_of_mem _ (List.mem_append_right _ h)) (by decide +kernel))) (goodIn_sub (fun _ h => List.mem_cons_of_mem _ (List.mem_append_left _ (List.mem_append_left _ (List.mem_append_right _ h)))) (by decide +kernel))
set_option maxRecDepth 20000 in
theorem gL_answersByBreadth_X11_answersByBreadth : GoodIn wsL_answersByBreadth (wsV RL 102 RX11 yX11_answersByBreadth wsX11_answersByBreadth) := goodIn_app (goodIn_of _ (by decide +kernel)) ggL_answersByBreadth_X11_answersByBreadth
theorem dL_answersByBreadth_0 : decode cL_answersByBreadth 0 = .ok (.aload_n 1, 1) := by decide +kernel
theorem dL_answersByBreadth_1 : decode cL_answersByBreadth 1 = .ok (.iconst 0, 1) := by decide +kernel
theorem dL_answersByBreadth_2 : decode cL_answersByBreadth 2 = .ok (.aload_n 0, 1) := by decide +kernel
theorem dL_answersByBreadth_3 : decode cL_answersByBreadth 3 = .ok (.invokevirtual 102, 3) := by decide +kernel
theorem dL_answersByBreadth_11 : decode cL_answersByBreadth 11 = .ok (.astore_n 2, 1) := by decide +kernel
theorem dL_answersByBreadth_12 : decode cL_answersByBreadth 12 = .ok (.iconst 1, 1) := by decide +kernel
theorem dL_answersByBreadth_13 : decode cL_answersByBreadth 13 = .ok (.ireturn, 1) := by decide +kernel
set_option maxRecDepth 20000 in
theorem ggL_steps_X11_steps : GoodIn wsL_steps wsX11_steps := goodIn_ca (goodIn_r _ [6, 7, 8, 9, 10, 5, 11, 12, 13, 14, 15, 16, 17, 18, 19, 20, 21, 22, 23, 24, 25, 26, 27, 28, 29, 30, 31, 32, 33] rfl (by decide +kernel)) (goodIn_sub (fun _ h => List.mem_cons_of_mem _ (List.mem_append_right _ h)) (by decide +kernel))
set_option maxRecDepth 20000 in
theorem gL_steps_X11_steps : GoodIn wsL_steps (wsV RL 105 RX11 yX11_steps wsX11_steps) := goodIn_app (goodIn_of _ (by decide +kernel)) ggL_steps_X11_steps
theorem dL_steps_0 : decode cL_steps 0 = .ok (.aload_n 1, 1) := by decide +kernel
theorem dL_steps_1 : decode cL_steps 1 = .ok (.iconst 0, 1) := by decide +kernel
theorem dL_steps_2 : decode cL_steps 2 = .ok (.aload_n 0, 1) := by decide +kernel
theorem dL_steps_3 : decode cL_steps 3 = .ok (.invokevirtual 105, 3) := by decide +kernel
theorem dL_steps_11 : decode cL_steps 11 = .ok (.astore_n 2, 1) := by decide +kernel
theorem dL_steps_12 : decode cL_steps 12 = .ok (.iconst 1, 1) := by decide +kernel
theorem dL_steps_13 : decode cL_steps 13 = .ok (.ireturn, 1) := by decide +kernel
set_option maxRecDepth 20000 in
theorem ggL_choicePoints_X11_choicePoints : GoodIn wsL_choicePoints wsX11_choicePoints := goodIn_ca (goodIn_r _ [6, 7, 8, 9, 10, 5, 11, 12, 13, 14, 15, 16, 17, 18, 19, 20, 21, 22, 23, 24, 25, 26, 27, 28, 29, 30, 31, 32, 33] rfl (by decide +kernel)) (goodIn_sub (fun _ h => List.mem_cons_of_mem _ (List.mem_append_right _ h)) (by decide +kernel))
set_option maxRecDepth 20000 in
theorem gL_choicePoints_X11_choicePoints : GoodIn wsL_choicePoints (wsV RL 108 RX11 yX11_choicePoints wsX11_choicePoints) := goodIn_app (goodIn_of _ (by decide +kernel)) ggL_choicePoints_X11_choicePoints
theorem dL_choicePoints_0 : decode cL_choicePoints 0 = .ok (.aload_n 1, 1) := by decide +kernel
theorem dL_choicePoints_1 : decode cL_choicePoints 1 = .ok (.iconst 0, 1) := by decide +kernel
theorem dL_choicePoints_2 : decode cL_choicePoints 2 = .ok (.aload_n 0, 1) := by decide +kernel
theorem dL_choicePoints_3 : decode cL_choicePoints 3 = .ok (.invokevirtual 108, 3) := by decide +kernel
theorem dL_choicePoints_11 : decode cL_choicePoints 11 = .ok (.astore_n 2, 1) := by decide +kernel
theorem dL_choicePoints_12 : decode cL_choicePoints 12 = .ok (.iconst 1, 1) := by decide +kernel
theorem dL_choicePoints_13 : decode cL_choicePoints 13 = .ok (.ireturn, 1) := by decide +kernel
set_option maxRecDepth 20000 in
theorem ggL_deepest_X11_deepest : GoodIn wsL_deepest wsX11_deepest := goodIn_ca (goodIn_r _ [6, 7, 8, 9, 10, 5, 11, 12, 13, 14, 15, 16, 17, 18, 19, 20, 21, 22, 23, 24, 25, 26, 27, 28, 29, 30, 31, 32, 33] rfl (by decide +kernel)) (goodIn_sub (fun _ h => List.mem_cons_of_mem _ (List.mem_append_right _ h)) (by decide +kernel))
set_option maxRecDepth 20000 in
theorem gL_deepest_X11_deepest : GoodIn wsL_deepest (wsV RL 111 RX11 yX11_deepest wsX11_deepest) := goodIn_app (goodIn_of _ (by decide +kernel)) ggL_deepest_X11_deepest
theorem dL_deepest_0 : decode cL_deepest 0 = .ok (.aload_n 1, 1) := by decide +kernel
theorem dL_deepest_1 : decode cL_deepest 1 = .ok (.iconst 0, 1) := by decide +kernel
theorem dL_deepest_2 : decode cL_deepest 2 = .ok (.aload_n 0, 1) := by decide +kernel
theorem dL_deepest_3 : decode cL_deepest 3 = .ok (.invokevirtual 111, 3) := by decide +kernel
theorem dL_deepest_11 : decode cL_deepest 11 = .ok (.astore_n 2, 1) := by decide +kernel
theorem dL_deepest_12 : decode cL_deepest 12 = .ok (.iconst 1, 1) := by decide +kernel
theorem dL_deepest_13 : decode cL_deepest 13 = .ok (.ireturn, 1) := by decide +kernel
set_option maxRecDepth 20000 in
theorem ggL_recorded_X11_recorded : GoodIn wsL_recorded wsX11_recorded := goodIn_ca (goodIn_r _ [6, 7, 8, 9, 10, 5, 11, 12, 13, 14, 15, 16, 17, 18, 19, 20, 21, 22, 23, 24, 25, 26, 27, 28, 29, 30, 31, 32, 33, 34, 35, 36, 37, 38, 39, 40, 41, 42, 43, 44, 45, 46, 47, 48] rfl (by decide +kernel)) (goodIn_sub (fun _ h => List.mem_cons_of_mem _ (List.mem_append_right _ h)) (by decide +kernel))
set_option maxRecDepth 20000 in
theorem gL_recorded_X11_recorded : GoodIn wsL_recorded (wsV RL 114 RX11 yX11_recorded wsX11_recorded) := goodIn_app (goodIn_of _ (by decide +kernel)) ggL_recorded_X11_recorded
theorem dL_recorded_0 : decode cL_recorded 0 = .ok (.aload_n 1, 1) := by decide +kernel
theorem dL_recorded_1 : decode cL_recorded 1 = .ok (.iconst 0, 1) := by decide +kernel
theorem dL_recorded_2 : decode cL_recorded 2 = .ok (.aload_n 0, 1) := by decide +kernel
theorem dL_recorded_3 : decode cL_recorded 3 = .ok (.invokevirtual 114, 3) := by decide +kernel
theorem dL_recorded_11 : decode cL_recorded 11 = .ok (.astore_n 2, 1) := by decide +kernel
theorem dL_recorded_12 : decode cL_recorded 12 = .ok (.iconst 1, 1) := by decide +kernel
theorem dL_recorded_13 : decode cL_recorded 13 = .ok (.ireturn, 1) := by decide +kernel
set_option maxRecDepth 20000 in
theorem ggL_recordAt_X11_recordAt : GoodIn wsL_recordAt wsX11_recordAt := goodIn_ca (goodIn_ca (goodIn_ca (goodIn_r _ [7, 8, 9, 10, 11, 6, 12, 13, 14, 15, 16, 17, 18, 19, 20, 21, 22, 23, 24, 25, 26, 27, 28, 29, 30, 31, 32, 33, 34, 35, 36, 37, 38, 39, 40, 41, 42, 43, 44, 45, 46, 47, 48, 49, 50, 51, 52, 53, 54, 55, 56, 57, 58, 59, 60, 61, 62, 63, 64, 65] rfl (by decide +kernel)) (goodIn_sub (fun _ h => List.mem_cons_of_mem _ (List.mem_append_left _ (List.mem_append_right _ h))) (by decide +kernel))) (goodIn_sub (fun _ h => List.mem_cons_of_mem _ (List.mem_append_right _ h)) (by decide +kernel))) (goodIn_sub (fun _ h => List.mem_cons_of_mem _ (List.mem_append_left _ (List.mem_append_left _ (List.mem_append_right _ h)))) (by decide +kernel))
set_option maxRecDepth 20000 in
theorem gL_recordAt_X11_recordAt : GoodIn wsL_recordAt (wsV RL 117 RX11 yX11_recordAt wsX11_recordAt) := goodIn_app (goodIn_of _ (by decide +kernel)) ggL_recordAt_X11_recordAt
theorem dL_recordAt_0 : decode cL_recordAt 0 = .ok (.aload_n 2, 1) := by decide +kernel
theorem dL_recordAt_1 : decode cL_recordAt 1 = .ok (.iconst 0, 1) := by decide +kernel
theorem dL_recordAt_2 : decode cL_recordAt 2 = .ok (.aload_n 0, 1) := by decide +kernel
theorem dL_recordAt_3 : decode cL_recordAt 3 = .ok (.iload_n 1, 1) := by decide +kernel
theorem dL_recordAt_4 : decode cL_recordAt 4 = .ok (.invokevirtual 117, 3) := by decide +kernel
theorem dL_recordAt_12 : decode cL_recordAt 12 = .ok (.astore_n 3, 1) := by decide +kernel
theorem dL_recordAt_13 : decode cL_recordAt 13 = .ok (.iconst 1, 1) := by decide +kernel
theorem dL_recordAt_14 : decode cL_recordAt 14 = .ok (.ireturn, 1) := by decide +kernel
set_option maxRecDepth 20000 in
theorem ggL_whereAt_X11_whereAt : GoodIn wsL_whereAt wsX11_whereAt := goodIn_ca (goodIn_ca (goodIn_ca (goodIn_r _ [7, 8, 9, 10, 11, 6, 12, 13, 14, 15, 16, 17, 18, 19, 20, 21, 22, 23, 24, 25, 26, 27, 28, 29, 30, 31, 32, 33, 34, 35, 36, 37, 38, 39, 40, 41, 42, 43, 44, 45, 46, 47, 48, 49, 50, 51, 52, 53, 54, 55, 56, 57, 58, 59, 60, 61, 62, 63, 64, 65] rfl (by decide +kernel)) (goodIn_sub (fun _ h => List.mem_cons_of_mem _ (List.mem_append_left _ (List.mem_append_right _ h))) (by decide +kernel))) (goodIn_sub (fun _ h => List.mem_cons_of_mem _ (List.mem_append_right _ h)) (by decide +kernel))) (goodIn_sub (fun _ h => List.mem_cons_of_mem _ (List.mem_append_left _ (List.mem_append_left _ (List.mem_append_right _ h)))) (by decide +kernel))
set_option maxRecDepth 20000 in
theorem gL_whereAt_X11_whereAt : GoodIn wsL_whereAt (wsV RL 121 RX11 yX11_whereAt wsX11_whereAt) := goodIn_app (goodIn_of _ (by decide +kernel)) ggL_whereAt_X11_whereAt
theorem dL_whereAt_0 : decode cL_whereAt 0 = .ok (.aload_n 2, 1) := by decide +kernel
theorem dL_whereAt_1 : decode cL_whereAt 1 = .ok (.iconst 0, 1) := by decide +kernel
theorem dL_whereAt_2 : decode cL_whereAt 2 = .ok (.aload_n 0, 1) := by decide +kernel
theorem dL_whereAt_3 : decode cL_whereAt 3 = .ok (.iload_n 1, 1) := by decide +kernel
theorem dL_whereAt_4 : decode cL_whereAt 4 = .ok (.invokevirtual 121, 3) := by decide +kernel
theorem dL_whereAt_12 : decode cL_whereAt 12 = .ok (.astore_n 3, 1) := by decide +kernel
theorem dL_whereAt_13 : decode cL_whereAt 13 = .ok (.iconst 1, 1) := by decide +kernel
theorem dL_whereAt_14 : decode cL_whereAt 14 = .ok (.ireturn, 1) := by decide +kernel
set_option maxRecDepth 20000 in
theorem ggL_onceShare_X11_onceShare : GoodIn wsL_onceShare wsX11_onceShare := goodIn_ca (goodIn_ca (goodIn_r _ [7, 8, 9, 10, 11, 12, 13, 6, 14, 15, 16, 17, 18, 19, 20, 21, 22, 23, 24, 25, 26, 27, 28, 29, 30, 31, 32, 33, 34, 35, 36, 37, 38, 39, 40, 41, 42, 43, 44, 45, 46, 47, 48, 49, 50, 51, 52, 53, 54, 55, 56, 57, 58, 59, 60, 61, 62, 63, 64, 65, 66, 67, 68, 69, 70, 71, 72, 73, 74, 75] rfl (by decide +kernel)) (goodIn_sub (fun _ h => List.mem_cons_of_mem _ (List.mem_append_left _ (List.mem_append_right _ h))) (by decide +kernel))) (goodIn_sub (fun _ h => List.mem_cons_of_mem _ (List.mem_append_right _ h)) (by decide +kernel))
set_option maxRecDepth 20000 in
theorem gL_onceShare_X11_onceShare : GoodIn wsL_onceShare (wsV RL 124 RX11 yX11_onceShare wsX11_onceShare) := goodIn_app (goodIn_of _ (by decide +kernel)) ggL_onceShare_X11_onceShare
