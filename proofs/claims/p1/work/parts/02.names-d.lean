theorem wsL_law_x0 : ∀ w ∈ (vx_atM "java/lang/ArrayIndexOutOfBoundsException" ["java/lang/IndexOutOfBoundsException", "java/lang/RuntimeException", "java/lang/Exception"]).filter goodWord, w ∈ lw_tbl := by decide +kernel
theorem wsL_law_x1 : ∀ w ∈ (vx_at0 RX11 69 "java/lang/IllegalStateException" ["java/lang/RuntimeException", "java/lang/Exception"]).filter goodWord, w ∈ lw_tbl := by decide +kernel
theorem wsL_law_x2 : ∀ w ∈ (vx_at0 RX11 82 "java/lang/IndexOutOfBoundsException" ["java/lang/RuntimeException", "java/lang/Exception"]).filter goodWord, w ∈ lw_tbl := by decide +kernel
theorem wsL_law_x3 : ∀ w ∈ (vx_at0 RX11 85 "java/lang/IllegalArgumentException" ["java/lang/RuntimeException", "java/lang/Exception"]).filter goodWord, w ∈ lw_tbl := by decide +kernel
theorem wsL_law_x4 : ∀ w ∈ (vx_at0 RX11 119 "java/util/NoSuchElementException" ["java/lang/RuntimeException", "java/lang/Exception"]).filter goodWord, w ∈ lw_tbl := by decide +kernel
theorem wsL_law_x5 : ∀ w ∈ (vx_at0 RX11 257 "java/lang/UnsupportedOperationException" ["java/lang/RuntimeException", "java/lang/Exception"]).filter goodWord, w ∈ lw_tbl := by decide +kernel
theorem wsL_law_x6 : ∀ w ∈ (vx_at0 RX11 320 "java/lang/ArithmeticException" ["java/lang/RuntimeException", "java/lang/Exception"]).filter goodWord, w ∈ lw_tbl := by decide +kernel
theorem wsL_law_in : ∀ w ∈ wsL_law, w ∈ lw_tbl := fun w h => (List.mem_append.mp h).elim (fun h => (List.mem_append.mp h).elim (fun h => (List.mem_append.mp h).elim (fun h => (List.mem_append.mp h).elim (fun h => (List.mem_append.mp h).elim (fun h => (List.mem_append.mp h).elim (fun h => (List.mem_append.mp h).elim (fun h => wsL_law_in0 w h) (fun h => wsL_law_x0 w h)) (fun h => wsL_law_x1 w h)) (fun h => wsL_law_x2 w h)) (fun h => wsL_law_x3 w h)) (fun h => wsL_law_x4 w h)) (fun h => wsL_law_x5 w h)) (fun h => wsL_law_x6 w h)
theorem inlX0 : ∀ w ∈ wsX00, w ∈ wsL_law := fun _ h => List.mem_append_left _ (List.mem_append_left _ (List.mem_append_left _ (List.mem_append_left _ (List.mem_append_left _ (List.mem_append_left _ (List.mem_append_left _ (List.mem_append_left _ (List.mem_append_left _ (List.mem_append_left _ (List.mem_append_left _ (List.mem_append_left _ (List.mem_append_left _ (List.mem_append_left _ (List.mem_append_left _ (List.mem_append_left _ (List.mem_append_left _ (List.mem_append_left _ (List.mem_append_left _ (List.mem_append_left _ (List.mem_append_left _ (List.mem_append_left _ (List.mem_append_left _ (List.mem_append_right _ h)))))))))))))))))))))))
theorem inX0 : ∀ w ∈ wsX00, w ∈ lw_tbl := fun w h => wsL_law_in w (inlX0 w h)
theorem inlX1 : ∀ w ∈ wsX10, w ∈ wsL_law := fun _ h => List.mem_append_left _ (List.mem_append_left _ (List.mem_append_left _ (List.mem_append_left _ (List.mem_append_left _ (List.mem_append_left _ (List.mem_append_left _ (List.mem_append_left _ (List.mem_append_left _ (List.mem_append_left _ (List.mem_append_left _ (List.mem_append_left _ (List.mem_append_left _ (List.mem_append_left _ (List.mem_append_left _ (List.mem_append_right _ h)))))))))))))))
theorem inX1 : ∀ w ∈ wsX10, w ∈ lw_tbl := fun w h => wsL_law_in w (inlX1 w h)
theorem inlX2 : ∀ w ∈ wsX20, w ∈ wsL_law := fun _ h => List.mem_append_left _ (List.mem_append_left _ (List.mem_append_left _ (List.mem_append_left _ (List.mem_append_left _ (List.mem_append_left _ (List.mem_append_left _ (List.mem_append_left _ (List.mem_append_left _ (List.mem_append_left _ (List.mem_append_left _ (List.mem_append_left _ (List.mem_append_left _ (List.mem_append_left _ (List.mem_append_right _ h))))))))))))))
theorem inX2 : ∀ w ∈ wsX20, w ∈ lw_tbl := fun w h => wsL_law_in w (inlX2 w h)
theorem inlX3 : ∀ w ∈ wsX30, w ∈ wsL_law := fun _ h => List.mem_append_left _ (List.mem_append_left _ (List.mem_append_left _ (List.mem_append_left _ (List.mem_append_left _ (List.mem_append_left _ (List.mem_append_left _ (List.mem_append_left _ (List.mem_append_left _ (List.mem_append_left _ (List.mem_append_left _ (List.mem_append_left _ (List.mem_append_left _ (List.mem_append_left _ (List.mem_append_left _ (List.mem_append_left _ (List.mem_append_left _ (List.mem_append_right _ h)))))))))))))))))
theorem inX3 : ∀ w ∈ wsX30, w ∈ lw_tbl := fun w h => wsL_law_in w (inlX3 w h)
theorem inlX4 : ∀ w ∈ wsX40, w ∈ wsL_law := fun _ h => List.mem_append_left _ (List.mem_append_left _ (List.mem_append_left _ (List.mem_append_left _ (List.mem_append_left _ (List.mem_append_left _ (List.mem_append_left _ (List.mem_append_left _ (List.mem_append_left _ (List.mem_append_left _ (List.mem_append_left _ (List.mem_append_left _ (List.mem_append_left _ (List.mem_append_left _ (List.mem_append_left _ (List.mem_append_left _ (List.mem_append_left _ (List.mem_append_left _ (List.mem_append_left _ (List.mem_append_left _ (List.mem_append_left _ (List.mem_append_left _ (List.mem_append_left _ (List.mem_append_left _ (List.mem_append_right _ h))))))))))))))))))))))))
theorem inX4 : ∀ w ∈ wsX40, w ∈ lw_tbl := fun w h => wsL_law_in w (inlX4 w h)
theorem inlX5 : ∀ w ∈ wsX50, w ∈ wsL_law := fun _ h => List.mem_append_left _ (List.mem_append_left _ (List.mem_append_left _ (List.mem_append_left _ (List.mem_append_left _ (List.mem_append_left _ (List.mem_append_left _ (List.mem_append_left _ (List.mem_append_left _ (List.mem_append_left _ (List.mem_append_left _ (List.mem_append_left _ (List.mem_append_left _ (List.mem_append_left _ (List.mem_append_left _ (List.mem_append_left _ (List.mem_append_right _ h))))))))))))))))
theorem inX5 : ∀ w ∈ wsX50, w ∈ lw_tbl := fun w h => wsL_law_in w (inlX5 w h)
theorem inlX6 : ∀ w ∈ wsX60, w ∈ wsL_law := fun _ h => List.mem_append_left _ (List.mem_append_left _ (List.mem_append_left _ (List.mem_append_left _ (List.mem_append_left _ (List.mem_append_left _ (List.mem_append_left _ (List.mem_append_left _ (List.mem_append_left _ (List.mem_append_left _ (List.mem_append_left _ (List.mem_append_left _ (List.mem_append_left _ (List.mem_append_left _ (List.mem_append_left _ (List.mem_append_left _ (List.mem_append_left _ (List.mem_append_left _ (List.mem_append_right _ h))))))))))))))))))
theorem inX6 : ∀ w ∈ wsX60, w ∈ lw_tbl := fun w h => wsL_law_in w (inlX6 w h)
theorem inlX7 : ∀ w ∈ wsX70, w ∈ wsL_law := fun _ h => List.mem_append_left _ (List.mem_append_left _ (List.mem_append_left _ (List.mem_append_left _ (List.mem_append_left _ (List.mem_append_left _ (List.mem_append_left _ (List.mem_append_left _ (List.mem_append_left _ (List.mem_append_left _ (List.mem_append_left _ (List.mem_append_left _ (List.mem_append_left _ (List.mem_append_left _ (List.mem_append_left _ (List.mem_append_left _ (List.mem_append_left _ (List.mem_append_left _ (List.mem_append_left _ (List.mem_append_left _ (List.mem_append_left _ (List.mem_append_left _ (List.mem_append_left _ (List.mem_append_left _ (List.mem_append_left _ (List.mem_append_left _ (List.mem_append_right _ h))))))))))))))))))))))))))
theorem inX7 : ∀ w ∈ wsX70, w ∈ lw_tbl := fun w h => wsL_law_in w (inlX7 w h)
theorem inlX8 : ∀ w ∈ wsX80, w ∈ wsL_law := fun _ h => List.mem_append_left _ (List.mem_append_left _ (List.mem_append_left _ (List.mem_append_left _ (List.mem_append_left _ (List.mem_append_left _ (List.mem_append_left _ (List.mem_append_left _ (List.mem_append_left _ (List.mem_append_left _ (List.mem_append_left _ (List.mem_append_left _ (List.mem_append_left _ (List.mem_append_left _ (List.mem_append_left _ (List.mem_append_left _ (List.mem_append_left _ (List.mem_append_left _ (List.mem_append_left _ (List.mem_append_left _ (List.mem_append_left _ (List.mem_append_left _ (List.mem_append_left _ (List.mem_append_left _ (List.mem_append_left _ (List.mem_append_right _ h)))))))))))))))))))))))))
theorem inX8 : ∀ w ∈ wsX80, w ∈ lw_tbl := fun w h => wsL_law_in w (inlX8 w h)
theorem inlX9 : ∀ w ∈ wsX90, w ∈ wsL_law := fun _ h => List.mem_append_left _ (List.mem_append_left _ (List.mem_append_left _ (List.mem_append_left _ (List.mem_append_left _ (List.mem_append_left _ (List.mem_append_left _ (List.mem_append_left _ (List.mem_append_left _ (List.mem_append_left _ (List.mem_append_left _ (List.mem_append_left _ (List.mem_append_left _ (List.mem_append_left _ (List.mem_append_left _ (List.mem_append_left _ (List.mem_append_left _ (List.mem_append_left _ (List.mem_append_left _ (List.mem_append_left _ (List.mem_append_left _ (List.mem_append_left _ (List.mem_append_right _ h))))))))))))))))))))))
theorem inX9 : ∀ w ∈ wsX90, w ∈ lw_tbl := fun w h => wsL_law_in w (inlX9 w h)
theorem inlX10 : ∀ w ∈ wsX100, w ∈ wsL_law := fun _ h => List.mem_append_left _ (List.mem_append_left _ (List.mem_append_left _ (List.mem_append_left _ (List.mem_append_left _ (List.mem_append_left _ (List.mem_append_left _ (List.mem_append_left _ (List.mem_append_left _ (List.mem_append_left _ (List.mem_append_left _ (List.mem_append_left _ (List.mem_append_left _ (List.mem_append_left _ (List.mem_append_left _ (List.mem_append_left _ (List.mem_append_left _ (List.mem_append_left _ (List.mem_append_left _ (List.mem_append_left _ (List.mem_append_left _ (List.mem_append_left _ (List.mem_append_left _ (List.mem_append_left _ (List.mem_append_left _ (List.mem_append_left _ (List.mem_append_left _ (List.mem_append_right _ h)))))))))))))))))))))))))))
theorem inX10 : ∀ w ∈ wsX100, w ∈ lw_tbl := fun w h => wsL_law_in w (inlX10 w h)
theorem inlX11 : ∀ w ∈ wsX110, w ∈ wsL_law := fun _ h => List.mem_append_left _ (List.mem_append_left _ (List.mem_append_left _ (List.mem_append_left _ (List.mem_append_left _ (List.mem_append_left _ (List.mem_append_left _ (List.mem_append_left _ (List.mem_append_left _ (List.mem_append_left _ (List.mem_append_left _ (List.mem_append_left _ (List.mem_append_left _ (List.mem_append_left _ (List.mem_append_left _ (List.mem_append_left _ (List.mem_append_left _ (List.mem_append_left _ (List.mem_append_left _ (List.mem_append_left _ (List.mem_append_left _ (List.mem_append_left _ (List.mem_append_left _ (List.mem_append_left _ (List.mem_append_left _ (List.mem_append_left _ (List.mem_append_left _ (List.mem_append_left _ (List.mem_append_left _ (List.mem_append_right _ h)))))))))))))))))))))))))))))
theorem inX11 : ∀ w ∈ wsX110, w ∈ lw_tbl := fun w h => wsL_law_in w (inlX11 w h)
theorem inlX12 : ∀ w ∈ wsX120, w ∈ wsL_law := fun _ h => List.mem_append_left _ (List.mem_append_left _ (List.mem_append_left _ (List.mem_append_left _ (List.mem_append_left _ (List.mem_append_left _ (List.mem_append_left _ (List.mem_append_left _ (List.mem_append_right _ h))))))))
theorem inX12 : ∀ w ∈ wsX120, w ∈ lw_tbl := fun w h => wsL_law_in w (inlX12 w h)
theorem inlX13 : ∀ w ∈ wsX130, w ∈ wsL_law := fun _ h => List.mem_append_left _ (List.mem_append_left _ (List.mem_append_left _ (List.mem_append_left _ (List.mem_append_left _ (List.mem_append_left _ (List.mem_append_left _ (List.mem_append_left _ (List.mem_append_left _ (List.mem_append_left _ (List.mem_append_left _ (List.mem_append_left _ (List.mem_append_right _ h))))))))))))
theorem inX13 : ∀ w ∈ wsX130, w ∈ lw_tbl := fun w h => wsL_law_in w (inlX13 w h)
theorem inlX14 : ∀ w ∈ wsX140, w ∈ wsL_law := fun _ h => List.mem_append_left _ (List.mem_append_left _ (List.mem_append_left _ (List.mem_append_left _ (List.mem_append_left _ (List.mem_append_left _ (List.mem_append_left _ (List.mem_append_left _ (List.mem_append_left _ (List.mem_append_left _ (List.mem_append_left _ (List.mem_append_left _ (List.mem_append_left _ (List.mem_append_right _ h)))))))))))))
theorem inX14 : ∀ w ∈ wsX140, w ∈ lw_tbl := fun w h => wsL_law_in w (inlX14 w h)
theorem inlX15 : ∀ w ∈ wsX150, w ∈ wsL_law := fun _ h => List.mem_append_left _ (List.mem_append_left _ (List.mem_append_left _ (List.mem_append_left _ (List.mem_append_left _ (List.mem_append_left _ (List.mem_append_left _ (List.mem_append_left _ (List.mem_append_left _ (List.mem_append_right _ h)))))))))
theorem inX15 : ∀ w ∈ wsX150, w ∈ lw_tbl := fun w h => wsL_law_in w (inlX15 w h)
theorem inlX16 : ∀ w ∈ wsX160, w ∈ wsL_law := fun _ h => List.mem_append_left _ (List.mem_append_left _ (List.mem_append_left _ (List.mem_append_left _ (List.mem_append_left _ (List.mem_append_left _ (List.mem_append_left _ (List.mem_append_left _ (List.mem_append_left _ (List.mem_append_left _ (List.mem_append_right _ h))))))))))
theorem inX16 : ∀ w ∈ wsX160, w ∈ lw_tbl := fun w h => wsL_law_in w (inlX16 w h)
theorem inlX17 : ∀ w ∈ wsX170, w ∈ wsL_law := fun _ h => List.mem_append_left _ (List.mem_append_left _ (List.mem_append_left _ (List.mem_append_left _ (List.mem_append_left _ (List.mem_append_left _ (List.mem_append_left _ (List.mem_append_left _ (List.mem_append_left _ (List.mem_append_left _ (List.mem_append_left _ (List.mem_append_right _ h)))))))))))
theorem inX17 : ∀ w ∈ wsX170, w ∈ lw_tbl := fun w h => wsL_law_in w (inlX17 w h)
theorem inlX18 : ∀ w ∈ wsX180, w ∈ wsL_law := fun _ h => List.mem_append_left _ (List.mem_append_left _ (List.mem_append_left _ (List.mem_append_left _ (List.mem_append_left _ (List.mem_append_left _ (List.mem_append_left _ (List.mem_append_left _ (List.mem_append_left _ (List.mem_append_left _ (List.mem_append_left _ (List.mem_append_left _ (List.mem_append_left _ (List.mem_append_left _ (List.mem_append_left _ (List.mem_append_left _ (List.mem_append_left _ (List.mem_append_left _ (List.mem_append_left _ (List.mem_append_left _ (List.mem_append_left _ (List.mem_append_left _ (List.mem_append_left _ (List.mem_append_left _ (List.mem_append_left _ (List.mem_append_left _ (List.mem_append_left _ (List.mem_append_left _ (List.mem_append_right _ h))))))))))))))))))))))))))))
theorem inX18 : ∀ w ∈ wsX180, w ∈ lw_tbl := fun w h => wsL_law_in w (inlX18 w h)
theorem inlJx00060 : ∀ w ∈ wsJx000600, w ∈ wsL_law := fun _ h => List.mem_append_left _ (List.mem_append_left _ (List.mem_append_left _ (List.mem_append_left _ (List.mem_append_left _ (List.mem_append_left _ (List.mem_append_left _ (List.mem_append_left _ (List.mem_append_left _ (List.mem_append_left _ (List.mem_append_left _ (List.mem_append_left _ (List.mem_append_left _ (List.mem_append_left _ (List.mem_append_left _ (List.mem_append_left _ (List.mem_append_left _ (List.mem_append_left _ (List.mem_append_left _ (List.mem_append_left _ (List.mem_append_right _ h))))))))))))))))))))
theorem inJx00060 : ∀ w ∈ wsJx000600, w ∈ lw_tbl := fun w h => wsL_law_in w (inlJx00060 w h)
theorem inJ0 : ∀ w ∈ wsJ00, w ∈ lw_tbl := by decide +kernel
theorem inlJ4 : ∀ w ∈ wsJ40, w ∈ wsL_law := fun _ h => List.mem_append_left _ (List.mem_append_left _ (List.mem_append_left _ (List.mem_append_left _ (List.mem_append_left _ (List.mem_append_left _ (List.mem_append_left _ (List.mem_append_left _ (List.mem_append_left _ (List.mem_append_left _ (List.mem_append_left _ (List.mem_append_left _ (List.mem_append_left _ (List.mem_append_left _ (List.mem_append_left _ (List.mem_append_left _ (List.mem_append_left _ (List.mem_append_left _ (List.mem_append_left _ (List.mem_append_left _ (List.mem_append_left _ (List.mem_append_right _ h)))))))))))))))))))))
theorem inJ4 : ∀ w ∈ wsJ40, w ∈ lw_tbl := fun w h => wsL_law_in w (inlJ4 w h)
theorem inlJx4a65c : ∀ w ∈ wsJx4a65c0, w ∈ wsL_law := fun _ h => List.mem_append_left _ (List.mem_append_left _ (List.mem_append_left _ (List.mem_append_left _ (List.mem_append_left _ (List.mem_append_left _ (List.mem_append_left _ (List.mem_append_left _ (List.mem_append_left _ (List.mem_append_left _ (List.mem_append_left _ (List.mem_append_left _ (List.mem_append_left _ (List.mem_append_left _ (List.mem_append_left _ (List.mem_append_left _ (List.mem_append_left _ (List.mem_append_left _ (List.mem_append_left _ (List.mem_append_right _ h)))))))))))))))))))
theorem inJx4a65c : ∀ w ∈ wsJx4a65c0, w ∈ lw_tbl := fun w h => wsL_law_in w (inlJx4a65c w h)
set_option maxRecDepth 20000 in
theorem ggX0_init_X9_init : GoodIn wsX0_init wsX9_init := goodIn_r _ [19, 20, 2, 3, 21, 22, 23, 24, 25, 41, 42, 43] (by decide +kernel) (by decide +kernel)
set_option maxRecDepth 20000 in
theorem gX0_init_X9_init : GoodIn wsX0_init (wsX9_init) := ggX0_init_X9_init
theorem dX0_init_0 : decode cX0_init 0 = .ok (.aload_n 0, 1) := by decide +kernel
theorem dX0_init_1 : decode cX0_init 1 = .ok (.invokespecial 3, 3) := by decide +kernel
theorem dX0_init_4 : decode cX0_init 4 = .ok (.aload_n 0, 1) := by decide +kernel
theorem dX0_init_5 : decode cX0_init 5 = .ok (.aload_n 1, 1) := by decide +kernel
theorem dX0_init_6 : decode cX0_init 6 = .ok (.putfield 9, 3) := by decide +kernel
theorem dX0_init_9 : decode cX0_init 9 = .ok (.aload_n 0, 1) := by decide +kernel
theorem dX0_init_10 : decode cX0_init 10 = .ok (.aload_n 2, 1) := by decide +kernel
theorem dX0_init_11 : decode cX0_init 11 = .ok (.putfield 15, 3) := by decide +kernel
theorem dX0_init_14 : decode cX0_init 14 = .ok (.aload_n 0, 1) := by decide +kernel
theorem dX0_init_15 : decode cX0_init 15 = .ok (.new 19, 3) := by decide +kernel
theorem dX0_init_18 : decode cX0_init 18 = .ok (.dup, 1) := by decide +kernel
theorem dX0_init_19 : decode cX0_init 19 = .ok (.iconst 5, 1) := by decide +kernel
theorem dX0_init_20 : decode cX0_init 20 = .ok (.bipush 64, 2) := by decide +kernel
theorem dX0_init_22 : decode cX0_init 22 = .ok (.invokespecial 21, 3) := by decide +kernel
theorem dX0_init_25 : decode cX0_init 25 = .ok (.putfield 24, 3) := by decide +kernel
theorem dX0_init_28 : decode cX0_init 28 = .ok (.aload_n 0, 1) := by decide +kernel
theorem dX0_init_29 : decode cX0_init 29 = .ok (.new 19, 3) := by decide +kernel
theorem dX0_init_32 : decode cX0_init 32 = .ok (.dup, 1) := by decide +kernel
theorem dX0_init_33 : decode cX0_init 33 = .ok (.iconst 1, 1) := by decide +kernel
theorem dX0_init_34 : decode cX0_init 34 = .ok (.bipush 64, 2) := by decide +kernel
theorem dX0_init_36 : decode cX0_init 36 = .ok (.invokespecial 21, 3) := by decide +kernel
theorem dX0_init_39 : decode cX0_init 39 = .ok (.putfield 28, 3) := by decide +kernel
theorem dX0_init_42 : decode cX0_init 42 = .ok (.aload_n 0, 1) := by decide +kernel
theorem dX0_init_43 : decode cX0_init 43 = .ok (.new 19, 3) := by decide +kernel
theorem dX0_init_46 : decode cX0_init 46 = .ok (.dup, 1) := by decide +kernel
theorem dX0_init_47 : decode cX0_init 47 = .ok (.iconst 3, 1) := by decide +kernel
theorem dX0_init_48 : decode cX0_init 48 = .ok (.bipush 64, 2) := by decide +kernel
theorem dX0_init_50 : decode cX0_init 50 = .ok (.invokespecial 21, 3) := by decide +kernel
theorem dX0_init_53 : decode cX0_init 53 = .ok (.putfield 31, 3) := by decide +kernel
theorem dX0_init_56 : decode cX0_init 56 = .ok (.aload_n 0, 1) := by decide +kernel
theorem dX0_init_57 : decode cX0_init 57 = .ok (.new 19, 3) := by decide +kernel
theorem dX0_init_60 : decode cX0_init 60 = .ok (.dup, 1) := by decide +kernel
theorem dX0_init_61 : decode cX0_init 61 = .ok (.iconst 4, 1) := by decide +kernel
theorem dX0_init_62 : decode cX0_init 62 = .ok (.bipush 64, 2) := by decide +kernel
theorem dX0_init_64 : decode cX0_init 64 = .ok (.invokespecial 21, 3) := by decide +kernel
theorem dX0_init_67 : decode cX0_init 67 = .ok (.putfield 34, 3) := by decide +kernel
theorem dX0_init_70 : decode cX0_init 70 = .ok (.aload_n 0, 1) := by decide +kernel
theorem dX0_init_71 : decode cX0_init 71 = .ok (.new 19, 3) := by decide +kernel
theorem dX0_init_74 : decode cX0_init 74 = .ok (.dup, 1) := by decide +kernel
theorem dX0_init_75 : decode cX0_init 75 = .ok (.bipush 6, 2) := by decide +kernel
theorem dX0_init_77 : decode cX0_init 77 = .ok (.bipush 64, 2) := by decide +kernel
theorem dX0_init_79 : decode cX0_init 79 = .ok (.invokespecial 21, 3) := by decide +kernel
theorem dX0_init_82 : decode cX0_init 82 = .ok (.putfield 37, 3) := by decide +kernel
theorem dX0_init_85 : decode cX0_init 85 = .ok (.aload_n 0, 1) := by decide +kernel
theorem dX0_init_86 : decode cX0_init 86 = .ok (.new 19, 3) := by decide +kernel
theorem dX0_init_89 : decode cX0_init 89 = .ok (.dup, 1) := by decide +kernel
theorem dX0_init_90 : decode cX0_init 90 = .ok (.iconst 2, 1) := by decide +kernel
theorem dX0_init_91 : decode cX0_init 91 = .ok (.bipush 64, 2) := by decide +kernel
theorem dX0_init_93 : decode cX0_init 93 = .ok (.invokespecial 21, 3) := by decide +kernel
theorem dX0_init_96 : decode cX0_init 96 = .ok (.putfield 40, 3) := by decide +kernel
theorem dX0_init_99 : decode cX0_init 99 = .ok (.aload_n 0, 1) := by decide +kernel
theorem dX0_init_100 : decode cX0_init 100 = .ok (.new 19, 3) := by decide +kernel
theorem dX0_init_103 : decode cX0_init 103 = .ok (.dup, 1) := by decide +kernel
theorem dX0_init_104 : decode cX0_init 104 = .ok (.iconst 4, 1) := by decide +kernel
theorem dX0_init_105 : decode cX0_init 105 = .ok (.bipush 8, 2) := by decide +kernel
theorem dX0_init_107 : decode cX0_init 107 = .ok (.invokespecial 21, 3) := by decide +kernel
theorem dX0_init_110 : decode cX0_init 110 = .ok (.putfield 43, 3) := by decide +kernel
theorem dX0_init_113 : decode cX0_init 113 = .ok (.aload_n 0, 1) := by decide +kernel
theorem dX0_init_114 : decode cX0_init 114 = .ok (.new 19, 3) := by decide +kernel
theorem dX0_init_117 : decode cX0_init 117 = .ok (.dup, 1) := by decide +kernel
theorem dX0_init_118 : decode cX0_init 118 = .ok (.iconst 3, 1) := by decide +kernel
theorem dX0_init_119 : decode cX0_init 119 = .ok (.bipush 64, 2) := by decide +kernel
theorem dX0_init_121 : decode cX0_init 121 = .ok (.invokespecial 21, 3) := by decide +kernel
theorem dX0_init_124 : decode cX0_init 124 = .ok (.putfield 46, 3) := by decide +kernel
theorem dX0_init_127 : decode cX0_init 127 = .ok (.return_, 1) := by decide +kernel
theorem dX3_init_0 : decode cX3_init 0 = .ok (.aload_n 0, 1) := by decide +kernel
theorem dX3_init_1 : decode cX3_init 1 = .ok (.invokespecial 3, 3) := by decide +kernel
theorem dX3_init_4 : decode cX3_init 4 = .ok (.aload_n 0, 1) := by decide +kernel
theorem dX3_init_5 : decode cX3_init 5 = .ok (.iload_n 1, 1) := by decide +kernel
theorem dX3_init_6 : decode cX3_init 6 = .ok (.putfield 9, 3) := by decide +kernel
theorem dX3_init_9 : decode cX3_init 9 = .ok (.aload_n 0, 1) := by decide +kernel
theorem dX3_init_10 : decode cX3_init 10 = .ok (.iload_n 2, 1) := by decide +kernel
theorem dX3_init_11 : decode cX3_init 11 = .ok (.putfield 15, 3) := by decide +kernel
theorem dX3_init_14 : decode cX3_init 14 = .ok (.aload_n 0, 1) := by decide +kernel
theorem dX3_init_15 : decode cX3_init 15 = .ok (.iload_n 3, 1) := by decide +kernel
theorem dX3_init_16 : decode cX3_init 16 = .ok (.putfield 18, 3) := by decide +kernel
theorem dX3_init_19 : decode cX3_init 19 = .ok (.aload_n 0, 1) := by decide +kernel
theorem dX3_init_20 : decode cX3_init 20 = .ok (.iconst 3, 1) := by decide +kernel
theorem dX3_init_21 : decode cX3_init 21 = .ok (.newarray .int, 2) := by decide +kernel
theorem dX3_init_23 : decode cX3_init 23 = .ok (.dup, 1) := by decide +kernel
theorem dX3_init_24 : decode cX3_init 24 = .ok (.iconst 0, 1) := by decide +kernel
theorem dX3_init_25 : decode cX3_init 25 = .ok (.iload 4, 2) := by decide +kernel
theorem dX3_init_27 : decode cX3_init 27 = .ok (.iastore, 1) := by decide +kernel
theorem dX3_init_28 : decode cX3_init 28 = .ok (.dup, 1) := by decide +kernel
theorem dX3_init_29 : decode cX3_init 29 = .ok (.iconst 1, 1) := by decide +kernel
theorem dX3_init_30 : decode cX3_init 30 = .ok (.iload 5, 2) := by decide +kernel
theorem dX3_init_32 : decode cX3_init 32 = .ok (.iastore, 1) := by decide +kernel
theorem dX3_init_33 : decode cX3_init 33 = .ok (.dup, 1) := by decide +kernel
theorem dX3_init_34 : decode cX3_init 34 = .ok (.iconst 2, 1) := by decide +kernel
theorem dX3_init_35 : decode cX3_init 35 = .ok (.iload 6, 2) := by decide +kernel
theorem dX3_init_37 : decode cX3_init 37 = .ok (.iastore, 1) := by decide +kernel
theorem dX3_init_38 : decode cX3_init 38 = .ok (.putfield 21, 3) := by decide +kernel
theorem dX3_init_41 : decode cX3_init 41 = .ok (.return_, 1) := by decide +kernel
set_option maxRecDepth 20000 in
theorem ggX4_init_Jx4a65c_init_da8c8 : GoodIn wsX4_init wsJx4a65c_init_da8c8 := goodIn_r _ [17, 18, 19, 20, 21, 22, 23, 24, 25, 26, 27, 28, 29, 2, 3, 51, 52, 53] (by decide +kernel) (by decide +kernel)
set_option maxRecDepth 20000 in
theorem gX4_init_Jx4a65c_init_da8c8 : GoodIn wsX4_init (wsJx4a65c_init_da8c8) := ggX4_init_Jx4a65c_init_da8c8
set_option maxRecDepth 20000 in
theorem ggX4_init_X9_init : GoodIn wsX4_init wsX9_init := goodIn_r _ [32, 33, 2, 3, 34, 35, 36, 37, 38, 54, 55, 56] (by decide +kernel) (by decide +kernel)
set_option maxRecDepth 20000 in
theorem gX4_init_X9_init : GoodIn wsX4_init (wsX9_init) := ggX4_init_X9_init
theorem dX4_init_0 : decode cX4_init 0 = .ok (.aload_n 0, 1) := by decide +kernel
theorem dX4_init_1 : decode cX4_init 1 = .ok (.invokespecial 3, 3) := by decide +kernel
theorem dX4_init_4 : decode cX4_init 4 = .ok (.aload_n 0, 1) := by decide +kernel
theorem dX4_init_5 : decode cX4_init 5 = .ok (.aload_n 1, 1) := by decide +kernel
theorem dX4_init_6 : decode cX4_init 6 = .ok (.putfield 9, 3) := by decide +kernel
theorem dX4_init_9 : decode cX4_init 9 = .ok (.aload_n 0, 1) := by decide +kernel
theorem dX4_init_10 : decode cX4_init 10 = .ok (.aload_n 2, 1) := by decide +kernel
theorem dX4_init_11 : decode cX4_init 11 = .ok (.putfield 15, 3) := by decide +kernel
theorem dX4_init_14 : decode cX4_init 14 = .ok (.aload_n 0, 1) := by decide +kernel
theorem dX4_init_15 : decode cX4_init 15 = .ok (.new 19, 3) := by decide +kernel
theorem dX4_init_18 : decode cX4_init 18 = .ok (.dup, 1) := by decide +kernel
theorem dX4_init_19 : decode cX4_init 19 = .ok (.invokespecial 21, 3) := by decide +kernel
theorem dX4_init_22 : decode cX4_init 22 = .ok (.putfield 22, 3) := by decide +kernel
theorem dX4_init_25 : decode cX4_init 25 = .ok (.aload_n 0, 1) := by decide +kernel
theorem dX4_init_26 : decode cX4_init 26 = .ok (.new 26, 3) := by decide +kernel
theorem dX4_init_29 : decode cX4_init 29 = .ok (.dup, 1) := by decide +kernel
theorem dX4_init_30 : decode cX4_init 30 = .ok (.iconst 3, 1) := by decide +kernel
theorem dX4_init_31 : decode cX4_init 31 = .ok (.bipush 30, 2) := by decide +kernel
theorem dX4_init_33 : decode cX4_init 33 = .ok (.invokespecial 28, 3) := by decide +kernel
theorem dX4_init_36 : decode cX4_init 36 = .ok (.putfield 31, 3) := by decide +kernel
theorem dX4_init_39 : decode cX4_init 39 = .ok (.aload_n 0, 1) := by decide +kernel
theorem dX4_init_40 : decode cX4_init 40 = .ok (.new 26, 3) := by decide +kernel
theorem dX4_init_43 : decode cX4_init 43 = .ok (.dup, 1) := by decide +kernel
theorem dX4_init_44 : decode cX4_init 44 = .ok (.iconst 2, 1) := by decide +kernel
theorem dX4_init_45 : decode cX4_init 45 = .ok (.bipush 30, 2) := by decide +kernel
theorem dX4_init_47 : decode cX4_init 47 = .ok (.invokespecial 28, 3) := by decide +kernel
theorem dX4_init_50 : decode cX4_init 50 = .ok (.putfield 35, 3) := by decide +kernel
theorem dX4_init_53 : decode cX4_init 53 = .ok (.return_, 1) := by decide +kernel
set_option maxRecDepth 20000 in
theorem ggX6_init_X9_init : GoodIn wsX6_init wsX9_init := goodIn_r _ [20, 21, 2, 3, 22, 23, 24, 25, 26, 96, 97, 98] (by decide +kernel) (by decide +kernel)
set_option maxRecDepth 20000 in
theorem gX6_init_X9_init : GoodIn wsX6_init (wsX9_init) := ggX6_init_X9_init
set_option maxRecDepth 20000 in
theorem ggX6_init_Jx4a65c_init_da8c8 : GoodIn wsX6_init wsJx4a65c_init_da8c8 := goodIn_r _ [70, 71, 72, 73, 74, 75, 76, 77, 78, 79, 80, 81, 82, 2, 3, 99, 100, 101] (by decide +kernel) (by decide +kernel)
set_option maxRecDepth 20000 in
theorem gX6_init_Jx4a65c_init_da8c8 : GoodIn wsX6_init (wsJx4a65c_init_da8c8) := ggX6_init_Jx4a65c_init_da8c8
set_option maxRecDepth 20000 in
theorem ggX6_init_X3_init : GoodIn wsX6_init wsX3_init := goodIn_ca (goodIn_r _ [85, 86, 2, 3, 87, 88, 89, 24, 90, 102, 103, 104, 105] (by decide +kernel) (by decide +kernel)) (goodIn_sub (fun _ h => List.mem_cons_of_mem _ (List.mem_append_right _ h)) (by decide +kernel))
set_option maxRecDepth 20000 in
theorem gX6_init_X3_init : GoodIn wsX6_init (wsX3_init) := ggX6_init_X3_init
theorem dX6_init_0 : decode cX6_init 0 = .ok (.aload_n 0, 1) := by decide +kernel
theorem dX6_init_1 : decode cX6_init 1 = .ok (.invokespecial 3, 3) := by decide +kernel
theorem dX6_init_4 : decode cX6_init 4 = .ok (.aload_n 0, 1) := by decide +kernel
theorem dX6_init_5 : decode cX6_init 5 = .ok (.iload_n 1, 1) := by decide +kernel
theorem dX6_init_6 : decode cX6_init 6 = .ok (.putfield 9, 3) := by decide +kernel
theorem dX6_init_9 : decode cX6_init 9 = .ok (.iload_n 2, 1) := by decide +kernel
theorem dX6_init_10 : decode cX6_init 10 = .ok (.iconst (-1), 1) := by decide +kernel
theorem dX6_init_11 : decode cX6_init 11 = .ok (.if_icmp .ne 7, 3) := by decide +kernel
theorem dX6_init_14 : decode cX6_init 14 = .ok (.iconst 0, 1) := by decide +kernel
theorem dX6_init_15 : decode cX6_init 15 = .ok (.goto 23, 3) := by decide +kernel
theorem dX6_init_38 : decode cX6_init 38 = .ok (.istore 5, 2) := by decide +kernel
theorem dX6_init_40 : decode cX6_init 40 = .ok (.aload_n 0, 1) := by decide +kernel
theorem dX6_init_41 : decode cX6_init 41 = .ok (.new 15, 3) := by decide +kernel
theorem dX6_init_44 : decode cX6_init 44 = .ok (.dup, 1) := by decide +kernel
theorem dX6_init_45 : decode cX6_init 45 = .ok (.iconst 1, 1) := by decide +kernel
theorem dX6_init_46 : decode cX6_init 46 = .ok (.iconst 3, 1) := by decide +kernel
theorem dX6_init_47 : decode cX6_init 47 = .ok (.invokespecial 17, 3) := by decide +kernel
theorem dX6_init_50 : decode cX6_init 50 = .ok (.putfield 20, 3) := by decide +kernel
theorem dX6_init_53 : decode cX6_init 53 = .ok (.iconst 0, 1) := by decide +kernel
theorem dX6_init_54 : decode cX6_init 54 = .ok (.istore 6, 2) := by decide +kernel
theorem dX6_init_56 : decode cX6_init 56 = .ok (.iload 6, 2) := by decide +kernel
theorem dX6_init_58 : decode cX6_init 58 = .ok (.iload 5, 2) := by decide +kernel
theorem dX6_init_60 : decode cX6_init 60 = .ok (.if_icmp .ge 28, 3) := by decide +kernel
theorem dX6_init_88 : decode cX6_init 88 = .ok (.aload_n 0, 1) := by decide +kernel
theorem dX6_init_89 : decode cX6_init 89 = .ok (.new 32, 3) := by decide +kernel
theorem dX6_init_92 : decode cX6_init 92 = .ok (.dup, 1) := by decide +kernel
theorem dX6_init_93 : decode cX6_init 93 = .ok (.invokespecial 34, 3) := by decide +kernel
theorem dX6_init_96 : decode cX6_init 96 = .ok (.putfield 35, 3) := by decide +kernel
theorem dX6_init_99 : decode cX6_init 99 = .ok (.aload_n 0, 1) := by decide +kernel
theorem dX6_init_100 : decode cX6_init 100 = .ok (.new 32, 3) := by decide +kernel
theorem dX6_init_103 : decode cX6_init 103 = .ok (.dup, 1) := by decide +kernel
theorem dX6_init_104 : decode cX6_init 104 = .ok (.invokespecial 34, 3) := by decide +kernel
theorem dX6_init_107 : decode cX6_init 107 = .ok (.putfield 39, 3) := by decide +kernel
theorem dX6_init_110 : decode cX6_init 110 = .ok (.aload_n 0, 1) := by decide +kernel
theorem dX6_init_111 : decode cX6_init 111 = .ok (.new 42, 3) := by decide +kernel
theorem dX6_init_114 : decode cX6_init 114 = .ok (.dup, 1) := by decide +kernel
theorem dX6_init_115 : decode cX6_init 115 = .ok (.iconst 2, 1) := by decide +kernel
theorem dX6_init_116 : decode cX6_init 116 = .ok (.iload_n 1, 1) := by decide +kernel
theorem dX6_init_117 : decode cX6_init 117 = .ok (.iload 5, 2) := by decide +kernel
theorem dX6_init_119 : decode cX6_init 119 = .ok (.iconst 0, 1) := by decide +kernel
theorem dX6_init_120 : decode cX6_init 120 = .ok (.iconst 1, 1) := by decide +kernel
theorem dX6_init_121 : decode cX6_init 121 = .ok (.iconst 2, 1) := by decide +kernel
theorem dX6_init_122 : decode cX6_init 122 = .ok (.invokespecial 44, 3) := by decide +kernel
theorem dX6_init_125 : decode cX6_init 125 = .ok (.putfield 47, 3) := by decide +kernel
theorem dX6_init_128 : decode cX6_init 128 = .ok (.return_, 1) := by decide +kernel
set_option maxRecDepth 20000 in
theorem ggX7_init_Jx4a65c_init_da8c8 : GoodIn wsX7_init wsJx4a65c_init_da8c8 := goodIn_r _ [12, 13, 14, 15, 16, 17, 18, 19, 20, 21, 22, 23, 24, 2, 3, 25, 26, 27] (by decide +kernel) (by decide +kernel)
set_option maxRecDepth 20000 in
theorem gX7_init_Jx4a65c_init_da8c8 : GoodIn wsX7_init (wsJx4a65c_init_da8c8) := ggX7_init_Jx4a65c_init_da8c8
theorem dX7_init_0 : decode cX7_init 0 = .ok (.aload_n 0, 1) := by decide +kernel
theorem dX7_init_1 : decode cX7_init 1 = .ok (.invokespecial 3, 3) := by decide +kernel
theorem dX7_init_4 : decode cX7_init 4 = .ok (.aload_n 0, 1) := by decide +kernel
theorem dX7_init_5 : decode cX7_init 5 = .ok (.new 9, 3) := by decide +kernel
theorem dX7_init_8 : decode cX7_init 8 = .ok (.dup, 1) := by decide +kernel
theorem dX7_init_9 : decode cX7_init 9 = .ok (.invokespecial 11, 3) := by decide +kernel
theorem dX7_init_12 : decode cX7_init 12 = .ok (.putfield 12, 3) := by decide +kernel
theorem dX7_init_15 : decode cX7_init 15 = .ok (.aload_n 0, 1) := by decide +kernel
theorem dX7_init_16 : decode cX7_init 16 = .ok (.new 9, 3) := by decide +kernel
theorem dX7_init_19 : decode cX7_init 19 = .ok (.dup, 1) := by decide +kernel
theorem dX7_init_20 : decode cX7_init 20 = .ok (.invokespecial 11, 3) := by decide +kernel
theorem dX7_init_23 : decode cX7_init 23 = .ok (.putfield 18, 3) := by decide +kernel
theorem dX7_init_26 : decode cX7_init 26 = .ok (.aload_n 0, 1) := by decide +kernel
theorem dX7_init_27 : decode cX7_init 27 = .ok (.new 9, 3) := by decide +kernel
theorem dX7_init_30 : decode cX7_init 30 = .ok (.dup, 1) := by decide +kernel
theorem dX7_init_31 : decode cX7_init 31 = .ok (.invokespecial 11, 3) := by decide +kernel
theorem dX7_init_34 : decode cX7_init 34 = .ok (.putfield 21, 3) := by decide +kernel
theorem dX7_init_37 : decode cX7_init 37 = .ok (.return_, 1) := by decide +kernel
set_option maxRecDepth 20000 in
theorem ggX7_predicateCount_Jx4a65c_size_8abf5 : GoodIn wsX7_predicateCount wsJx4a65c_size_8abf5 := goodIn_r _ [6, 7, 11, 12, 13] (by decide +kernel) (by decide +kernel)
set_option maxRecDepth 20000 in
theorem gX7_predicateCount_Jx4a65c_size_8abf5 : GoodIn wsX7_predicateCount (wsV RX7 24 RJx4a65c yJx4a65c_size_8abf5 wsJx4a65c_size_8abf5) := goodIn_app (goodIn_of _ (by decide +kernel)) ggX7_predicateCount_Jx4a65c_size_8abf5
theorem dX7_predicateCount_0 : decode cX7_predicateCount 0 = .ok (.aload_n 0, 1) := by decide +kernel
theorem dX7_predicateCount_1 : decode cX7_predicateCount 1 = .ok (.getfield 12, 3) := by decide +kernel
theorem dX7_predicateCount_4 : decode cX7_predicateCount 4 = .ok (.invokevirtual 24, 3) := by decide +kernel
theorem dX7_predicateCount_7 : decode cX7_predicateCount 7 = .ok (.ireturn, 1) := by decide +kernel
set_option maxRecDepth 20000 in
theorem ggX7_predicateAt_Jx4a65c_size_8abf5 : GoodIn wsX7_predicateAt wsJx4a65c_size_8abf5 := goodIn_r _ [7, 8, 29, 30, 31] (by decide +kernel) (by decide +kernel)
set_option maxRecDepth 20000 in
theorem gX7_predicateAt_Jx4a65c_size_8abf5 : GoodIn wsX7_predicateAt (wsV RX7 24 RJx4a65c yJx4a65c_size_8abf5 wsJx4a65c_size_8abf5) := goodIn_app (goodIn_of _ (by decide +kernel)) ggX7_predicateAt_Jx4a65c_size_8abf5
theorem dX7_predicateAt_0 : decode cX7_predicateAt 0 = .ok (.iload_n 1, 1) := by decide +kernel
theorem dX7_predicateAt_1 : decode cX7_predicateAt 1 = .ok (.ifCond .lt 28, 3) := by decide +kernel
theorem dX7_predicateAt_4 : decode cX7_predicateAt 4 = .ok (.iload_n 1, 1) := by decide +kernel
theorem dX7_predicateAt_5 : decode cX7_predicateAt 5 = .ok (.aload_n 0, 1) := by decide +kernel
theorem dX7_predicateAt_6 : decode cX7_predicateAt 6 = .ok (.getfield 12, 3) := by decide +kernel
theorem dX7_predicateAt_9 : decode cX7_predicateAt 9 = .ok (.invokevirtual 24, 3) := by decide +kernel
theorem dX7_predicateAt_12 : decode cX7_predicateAt 12 = .ok (.if_icmp .ge 17, 3) := by decide +kernel
theorem dX7_predicateAt_29 : decode cX7_predicateAt 29 = .ok (.aconst_null, 1) := by decide +kernel
theorem dX7_predicateAt_30 : decode cX7_predicateAt 30 = .ok (.areturn, 1) := by decide +kernel
set_option maxRecDepth 20000 in
theorem ggX7_clauseAt_Jx4a65c_size_8abf5 : GoodIn wsX7_clauseAt wsJx4a65c_size_8abf5 := goodIn_r _ [7, 8, 29, 30, 31] (by decide +kernel) (by decide +kernel)
set_option maxRecDepth 20000 in
theorem gX7_clauseAt_Jx4a65c_size_8abf5 : GoodIn wsX7_clauseAt (wsV RX7 24 RJx4a65c yJx4a65c_size_8abf5 wsJx4a65c_size_8abf5) := goodIn_app (goodIn_of _ (by decide +kernel)) ggX7_clauseAt_Jx4a65c_size_8abf5
theorem dX7_clauseAt_0 : decode cX7_clauseAt 0 = .ok (.iload_n 1, 1) := by decide +kernel
theorem dX7_clauseAt_1 : decode cX7_clauseAt 1 = .ok (.ifCond .lt 28, 3) := by decide +kernel
theorem dX7_clauseAt_4 : decode cX7_clauseAt 4 = .ok (.iload_n 1, 1) := by decide +kernel
theorem dX7_clauseAt_5 : decode cX7_clauseAt 5 = .ok (.aload_n 0, 1) := by decide +kernel
theorem dX7_clauseAt_6 : decode cX7_clauseAt 6 = .ok (.getfield 21, 3) := by decide +kernel
theorem dX7_clauseAt_9 : decode cX7_clauseAt 9 = .ok (.invokevirtual 24, 3) := by decide +kernel
theorem dX7_clauseAt_12 : decode cX7_clauseAt 12 = .ok (.if_icmp .ge 17, 3) := by decide +kernel
theorem dX7_clauseAt_29 : decode cX7_clauseAt 29 = .ok (.aconst_null, 1) := by decide +kernel
theorem dX7_clauseAt_30 : decode cX7_clauseAt 30 = .ok (.areturn, 1) := by decide +kernel
set_option maxRecDepth 20000 in
theorem ggX7_modeAt_X7_predicateAt : GoodIn wsX7_modeAt wsX7_predicateAt := goodIn_r _ [5, 6, 7, 8, 9, 10, 11, 12, 13, 14, 15, 16, 17, 18, 19, 20, 21, 22, 23, 24, 25, 26, 27, 28, 29, 30, 40, 41, 42, 43, 44, 45] (by decide +kernel) (by decide +kernel)
set_option maxRecDepth 20000 in
theorem gX7_modeAt_X7_predicateAt : GoodIn wsX7_modeAt (wsV RX7 36 RX7 yX7_predicateAt wsX7_predicateAt) := goodIn_app (goodIn_of _ (by decide +kernel)) ggX7_modeAt_X7_predicateAt
theorem dX7_modeAt_0 : decode cX7_modeAt 0 = .ok (.aload_n 0, 1) := by decide +kernel
theorem dX7_modeAt_1 : decode cX7_modeAt 1 = .ok (.iload_n 1, 1) := by decide +kernel
theorem dX7_modeAt_2 : decode cX7_modeAt 2 = .ok (.invokevirtual 36, 3) := by decide +kernel
theorem dX7_modeAt_5 : decode cX7_modeAt 5 = .ok (.astore_n 3, 1) := by decide +kernel
theorem dX7_modeAt_6 : decode cX7_modeAt 6 = .ok (.aload_n 3, 1) := by decide +kernel
theorem dX7_modeAt_7 : decode cX7_modeAt 7 = .ok (.ifnonnull 7, 3) := by decide +kernel
theorem dX7_modeAt_10 : decode cX7_modeAt 10 = .ok (.aconst_null, 1) := by decide +kernel
theorem dX7_modeAt_11 : decode cX7_modeAt 11 = .ok (.goto 8, 3) := by decide +kernel
theorem dX7_modeAt_19 : decode cX7_modeAt 19 = .ok (.areturn, 1) := by decide +kernel
set_option maxRecDepth 20000 in
theorem ggX7_newPredicate_Jx4a65c_size_8abf5 : GoodIn wsX7_newPredicate wsJx4a65c_size_8abf5 := goodIn_r _ [9, 10, 154, 155, 156] (by decide +kernel) (by decide +kernel)
set_option maxRecDepth 20000 in
theorem gX7_newPredicate_Jx4a65c_size_8abf5 : GoodIn wsX7_newPredicate (wsV RX7 24 RJx4a65c yJx4a65c_size_8abf5 wsJx4a65c_size_8abf5) := goodIn_app (goodIn_of _ (by decide +kernel)) ggX7_newPredicate_Jx4a65c_size_8abf5
set_option maxRecDepth 20000 in
theorem ggX7_newPredicate_X6_init : GoodIn wsX7_newPredicate wsX6_init := goodIn_ca (goodIn_r _ [13, 14, 15, 16, 17, 18, 19, 20, 21, 22, 23, 8, 24, 25, 26, 27, 28, 29, 30, 31, 32, 33, 34, 35, 36, 37, 38, 39, 40, 41, 42, 43, 44, 45, 46, 47, 48, 49, 50, 51, 52, 53, 54, 55, 56, 57, 58, 59, 60, 61, 62, 63, 64, 65, 66, 67, 68, 69, 70, 71, 72, 73, 74, 75, 76, 77, 78, 79, 80, 81, 82, 83, 84, 85, 86, 87, 88, 89, 90, 91, 92, 93, 94, 95, 96, 97, 98, 99, 100, 101, 102, 149, 150, 151, 152, 153, 157, 158, 159, 154, 155, 156, 160, 161, 162, 163, 164, 165, 166, 167, 168, 169, 170, 171, 172, 173] (by decide +kernel) (by decide +kernel)) (goodIn_sub (fun _ h => List.mem_cons_of_mem _ (List.mem_append_right _ h)) (by decide +kernel))
set_option maxRecDepth 20000 in
theorem gX7_newPredicate_X6_init : GoodIn wsX7_newPredicate (wsX6_init) := ggX7_newPredicate_X6_init
set_option maxRecDepth 20000 in
theorem ggX7_newPredicate_Jx4a65c_add_9ea2d : GoodIn wsX7_newPredicate wsJx4a65c_add_9ea2d := goodIn_r _ [106, 107, 108, 84, 10, 109, 110, 111, 8, 112, 113, 114, 115, 116, 117, 118, 119, 120, 83, 121, 122, 58, 123, 124, 125, 126, 127, 128, 129, 130, 131, 132, 133, 134, 135, 48, 136, 137, 138, 139, 140, 141, 142, 143, 144, 145, 56, 57, 59, 60, 61, 62, 63, 154, 155, 156] (by decide +kernel) (by decide +kernel)
set_option maxRecDepth 20000 in
theorem gX7_newPredicate_Jx4a65c_add_9ea2d : GoodIn wsX7_newPredicate (wsV RX7 47 RJx4a65c yJx4a65c_add_9ea2d wsJx4a65c_add_9ea2d) := goodIn_app (goodIn_of _ (by decide +kernel)) ggX7_newPredicate_Jx4a65c_add_9ea2d
theorem dX7_newPredicate_0 : decode cX7_newPredicate 0 = .ok (.aload_n 0, 1) := by decide +kernel
theorem dX7_newPredicate_1 : decode cX7_newPredicate 1 = .ok (.getfield 12, 3) := by decide +kernel
theorem dX7_newPredicate_4 : decode cX7_newPredicate 4 = .ok (.new 32, 3) := by decide +kernel
theorem dX7_newPredicate_7 : decode cX7_newPredicate 7 = .ok (.dup, 1) := by decide +kernel
theorem dX7_newPredicate_8 : decode cX7_newPredicate 8 = .ok (.aload_n 0, 1) := by decide +kernel
theorem dX7_newPredicate_9 : decode cX7_newPredicate 9 = .ok (.getfield 12, 3) := by decide +kernel
theorem dX7_newPredicate_12 : decode cX7_newPredicate 12 = .ok (.invokevirtual 24, 3) := by decide +kernel
theorem dX7_newPredicate_15 : decode cX7_newPredicate 15 = .ok (.iload_n 1, 1) := by decide +kernel
theorem dX7_newPredicate_16 : decode cX7_newPredicate 16 = .ok (.iload_n 2, 1) := by decide +kernel
theorem dX7_newPredicate_17 : decode cX7_newPredicate 17 = .ok (.iload_n 3, 1) := by decide +kernel
theorem dX7_newPredicate_18 : decode cX7_newPredicate 18 = .ok (.invokespecial 44, 3) := by decide +kernel
theorem dX7_newPredicate_21 : decode cX7_newPredicate 21 = .ok (.invokevirtual 47, 3) := by decide +kernel
theorem dX7_newPredicate_24 : decode cX7_newPredicate 24 = .ok (.pop, 1) := by decide +kernel
theorem dX7_newPredicate_25 : decode cX7_newPredicate 25 = .ok (.aload_n 0, 1) := by decide +kernel
theorem dX7_newPredicate_26 : decode cX7_newPredicate 26 = .ok (.getfield 12, 3) := by decide +kernel
theorem dX7_newPredicate_29 : decode cX7_newPredicate 29 = .ok (.invokevirtual 24, 3) := by decide +kernel
theorem dX7_newPredicate_32 : decode cX7_newPredicate 32 = .ok (.iconst 1, 1) := by decide +kernel
theorem dX7_newPredicate_33 : decode cX7_newPredicate 33 = .ok (.isub, 1) := by decide +kernel
theorem dX7_newPredicate_34 : decode cX7_newPredicate 34 = .ok (.ireturn, 1) := by decide +kernel
set_option maxRecDepth 20000 in
theorem ggX7_faultCount_Jx4a65c_size_8abf5 : GoodIn wsX7_faultCount wsJx4a65c_size_8abf5 := goodIn_r _ [7, 8, 43, 44, 45] (by decide +kernel) (by decide +kernel)
set_option maxRecDepth 20000 in
theorem gX7_faultCount_Jx4a65c_size_8abf5 : GoodIn wsX7_faultCount (wsV RX7 24 RJx4a65c yJx4a65c_size_8abf5 wsJx4a65c_size_8abf5) := goodIn_app (goodIn_of _ (by decide +kernel)) ggX7_faultCount_Jx4a65c_size_8abf5
theorem dX7_faultCount_0 : decode cX7_faultCount 0 = .ok (.iconst 0, 1) := by decide +kernel
theorem dX7_faultCount_1 : decode cX7_faultCount 1 = .ok (.istore_n 1, 1) := by decide +kernel
theorem dX7_faultCount_2 : decode cX7_faultCount 2 = .ok (.iconst 0, 1) := by decide +kernel
theorem dX7_faultCount_3 : decode cX7_faultCount 3 = .ok (.istore_n 2, 1) := by decide +kernel
theorem dX7_faultCount_4 : decode cX7_faultCount 4 = .ok (.iload_n 2, 1) := by decide +kernel
theorem dX7_faultCount_5 : decode cX7_faultCount 5 = .ok (.aload_n 0, 1) := by decide +kernel
theorem dX7_faultCount_6 : decode cX7_faultCount 6 = .ok (.getfield 18, 3) := by decide +kernel
theorem dX7_faultCount_9 : decode cX7_faultCount 9 = .ok (.invokevirtual 24, 3) := by decide +kernel
theorem dX7_faultCount_12 : decode cX7_faultCount 12 = .ok (.if_icmp .ge 36, 3) := by decide +kernel
theorem dX7_faultCount_48 : decode cX7_faultCount 48 = .ok (.iload_n 1, 1) := by decide +kernel
theorem dX7_faultCount_49 : decode cX7_faultCount 49 = .ok (.ireturn, 1) := by decide +kernel
set_option maxRecDepth 20000 in
theorem ggX7_analyse_Jx4a65c_size_8abf5 : GoodIn wsX7_analyse wsJx4a65c_size_8abf5 := goodIn_r _ [7, 8, 229, 230, 231] (by decide +kernel) (by decide +kernel)
set_option maxRecDepth 20000 in
theorem gX7_analyse_Jx4a65c_size_8abf5 : GoodIn wsX7_analyse (wsV RX7 24 RJx4a65c yJx4a65c_size_8abf5 wsJx4a65c_size_8abf5) := goodIn_app (goodIn_of _ (by decide +kernel)) ggX7_analyse_Jx4a65c_size_8abf5
set_option maxRecDepth 20000 in
theorem ggX7_analyse_X7_spreadFaults : GoodIn wsX7_analyse wsX7_spreadFaults := goodIn_ca (goodIn_r _ [157, 1, 2, 3, 4, 5, 6, 7, 8, 9, 10, 11, 12, 13, 14, 15, 16, 17, 18, 19, 20, 21, 22, 23, 24, 25, 158, 159, 29, 160, 31, 32, 33, 34, 35, 36, 37, 38, 39, 40, 41, 42, 43, 161, 128, 129, 51, 130, 53, 162, 163, 164, 165, 125, 131, 132, 133, 134, 217, 218, 219, 220, 221, 222, 223, 224, 225, 226, 227, 228, 229, 230, 231, 232, 233, 234, 235, 236, 237, 238, 239, 240, 241, 242, 243, 244, 245] (by decide +kernel) (by decide +kernel)) (goodIn_sub (fun _ h => List.mem_cons_of_mem _ (List.mem_append_right _ h)) (by decide +kernel))
set_option maxRecDepth 20000 in
theorem gX7_analyse_X7_spreadFaults : GoodIn wsX7_analyse (wsV RX7 94 RX7 yX7_spreadFaults wsX7_spreadFaults) := goodIn_app (goodIn_of _ (by decide +kernel)) ggX7_analyse_X7_spreadFaults
set_option maxRecDepth 20000 in
theorem ggX7_analyse_X7_spreadFound : GoodIn wsX7_analyse wsX7_spreadFound := goodIn_ca (goodIn_r _ [169, 1, 2, 3, 4, 5, 6, 7, 8, 9, 10, 11, 12, 13, 14, 15, 16, 17, 18, 19, 20, 21, 22, 23, 24, 25, 170, 171, 29, 172, 31, 32, 33, 34, 35, 36, 37, 38, 39, 40, 41, 42, 43, 173, 174, 175, 161, 128, 129, 51, 130, 53, 150, 151, 152, 153, 124, 131, 132, 133, 134, 176, 177, 178, 179, 126, 162, 163, 164, 165, 125, 180, 181, 182, 99, 100, 101, 102, 103, 104, 105, 106, 107, 77, 108, 109, 183, 184, 185, 186, 187, 188, 189, 190, 191, 192, 140, 193, 194, 195, 144, 196, 197, 146, 198, 199, 200, 201, 202, 203, 204, 205, 142, 143, 145, 206, 207, 208, 209, 210, 211, 212, 213, 214, 215, 216, 217, 218, 219, 220, 221, 222, 223, 224, 225, 226, 227, 228, 229, 230, 231, 232, 233, 234, 235, 236, 237, 238, 239, 240, 241, 242, 243, 244, 245, 246, 247, 248, 249, 250, 251, 252, 253, 254, 255, 256, 257] (by decide +kernel) (by decide +kernel)) (goodIn_sub (fun _ h => List.mem_cons_of_mem _ (List.mem_append_right _ h)) (by decide +kernel))
set_option maxRecDepth 20000 in
theorem gX7_analyse_X7_spreadFound : GoodIn wsX7_analyse (wsV RX7 98 RX7 yX7_spreadFound wsX7_spreadFound) := goodIn_app (goodIn_of _ (by decide +kernel)) ggX7_analyse_X7_spreadFound
theorem dX7_analyse_0 : decode cX7_analyse 0 = .ok (.iconst 0, 1) := by decide +kernel
theorem dX7_analyse_1 : decode cX7_analyse 1 = .ok (.istore_n 2, 1) := by decide +kernel
theorem dX7_analyse_2 : decode cX7_analyse 2 = .ok (.iload_n 2, 1) := by decide +kernel
theorem dX7_analyse_3 : decode cX7_analyse 3 = .ok (.aload_n 0, 1) := by decide +kernel
theorem dX7_analyse_4 : decode cX7_analyse 4 = .ok (.getfield 18, 3) := by decide +kernel
theorem dX7_analyse_7 : decode cX7_analyse 7 = .ok (.invokevirtual 24, 3) := by decide +kernel
theorem dX7_analyse_10 : decode cX7_analyse 10 = .ok (.if_icmp .ge 72, 3) := by decide +kernel
theorem dX7_analyse_82 : decode cX7_analyse 82 = .ok (.iconst 1, 1) := by decide +kernel
theorem dX7_analyse_83 : decode cX7_analyse 83 = .ok (.istore_n 2, 1) := by decide +kernel
theorem dX7_analyse_84 : decode cX7_analyse 84 = .ok (.iconst 0, 1) := by decide +kernel
theorem dX7_analyse_85 : decode cX7_analyse 85 = .ok (.istore_n 3, 1) := by decide +kernel
theorem dX7_analyse_86 : decode cX7_analyse 86 = .ok (.iload_n 3, 1) := by decide +kernel
theorem dX7_analyse_87 : decode cX7_analyse 87 = .ok (.aload_n 0, 1) := by decide +kernel
theorem dX7_analyse_88 : decode cX7_analyse 88 = .ok (.getfield 18, 3) := by decide +kernel
theorem dX7_analyse_91 : decode cX7_analyse 91 = .ok (.invokevirtual 24, 3) := by decide +kernel
theorem dX7_analyse_94 : decode cX7_analyse 94 = .ok (.if_icmp .gt 18, 3) := by decide +kernel
theorem dX7_analyse_97 : decode cX7_analyse 97 = .ok (.iload_n 2, 1) := by decide +kernel
theorem dX7_analyse_98 : decode cX7_analyse 98 = .ok (.ifCond .eq 14, 3) := by decide +kernel
theorem dX7_analyse_101 : decode cX7_analyse 101 = .ok (.aload_n 0, 1) := by decide +kernel
theorem dX7_analyse_102 : decode cX7_analyse 102 = .ok (.invokevirtual 94, 3) := by decide +kernel
theorem dX7_analyse_105 : decode cX7_analyse 105 = .ok (.istore_n 2, 1) := by decide +kernel
theorem dX7_analyse_106 : decode cX7_analyse 106 = .ok (.iinc 3 1, 3) := by decide +kernel
theorem dX7_analyse_109 : decode cX7_analyse 109 = .ok (.goto (-23), 3) := by decide +kernel
theorem dX7_analyse_112 : decode cX7_analyse 112 = .ok (.iconst 1, 1) := by decide +kernel
theorem dX7_analyse_113 : decode cX7_analyse 113 = .ok (.istore_n 2, 1) := by decide +kernel
theorem dX7_analyse_114 : decode cX7_analyse 114 = .ok (.iconst 0, 1) := by decide +kernel
theorem dX7_analyse_115 : decode cX7_analyse 115 = .ok (.istore_n 3, 1) := by decide +kernel
theorem dX7_analyse_116 : decode cX7_analyse 116 = .ok (.iload_n 3, 1) := by decide +kernel
theorem dX7_analyse_117 : decode cX7_analyse 117 = .ok (.iconst 2, 1) := by decide +kernel
theorem dX7_analyse_118 : decode cX7_analyse 118 = .ok (.aload_n 0, 1) := by decide +kernel
theorem dX7_analyse_119 : decode cX7_analyse 119 = .ok (.getfield 18, 3) := by decide +kernel
theorem dX7_analyse_122 : decode cX7_analyse 122 = .ok (.invokevirtual 24, 3) := by decide +kernel
theorem dX7_analyse_125 : decode cX7_analyse 125 = .ok (.imul, 1) := by decide +kernel
theorem dX7_analyse_126 : decode cX7_analyse 126 = .ok (.if_icmp .gt 19, 3) := by decide +kernel
theorem dX7_analyse_129 : decode cX7_analyse 129 = .ok (.iload_n 2, 1) := by decide +kernel
theorem dX7_analyse_130 : decode cX7_analyse 130 = .ok (.ifCond .eq 15, 3) := by decide +kernel
theorem dX7_analyse_133 : decode cX7_analyse 133 = .ok (.aload_n 0, 1) := by decide +kernel
theorem dX7_analyse_134 : decode cX7_analyse 134 = .ok (.aload_n 1, 1) := by decide +kernel
theorem dX7_analyse_135 : decode cX7_analyse 135 = .ok (.invokevirtual 98, 3) := by decide +kernel
theorem dX7_analyse_138 : decode cX7_analyse 138 = .ok (.istore_n 2, 1) := by decide +kernel
theorem dX7_analyse_139 : decode cX7_analyse 139 = .ok (.iinc 3 1, 3) := by decide +kernel
theorem dX7_analyse_142 : decode cX7_analyse 142 = .ok (.goto (-26), 3) := by decide +kernel
theorem dX7_analyse_145 : decode cX7_analyse 145 = .ok (.return_, 1) := by decide +kernel
set_option maxRecDepth 20000 in
theorem ggX7_spreadFaults_Jx4a65c_size_8abf5 : GoodIn wsX7_spreadFaults wsJx4a65c_size_8abf5 := goodIn_r _ [7, 8, 70, 71, 72] (by decide +kernel) (by decide +kernel)
set_option maxRecDepth 20000 in
theorem gX7_spreadFaults_Jx4a65c_size_8abf5 : GoodIn wsX7_spreadFaults (wsV RX7 24 RJx4a65c yJx4a65c_size_8abf5 wsJx4a65c_size_8abf5) := goodIn_app (goodIn_of _ (by decide +kernel)) ggX7_spreadFaults_Jx4a65c_size_8abf5
theorem dX7_spreadFaults_0 : decode cX7_spreadFaults 0 = .ok (.iconst 0, 1) := by decide +kernel
theorem dX7_spreadFaults_1 : decode cX7_spreadFaults 1 = .ok (.istore_n 1, 1) := by decide +kernel
theorem dX7_spreadFaults_2 : decode cX7_spreadFaults 2 = .ok (.iconst 0, 1) := by decide +kernel
theorem dX7_spreadFaults_3 : decode cX7_spreadFaults 3 = .ok (.istore_n 2, 1) := by decide +kernel
theorem dX7_spreadFaults_4 : decode cX7_spreadFaults 4 = .ok (.iload_n 2, 1) := by decide +kernel
theorem dX7_spreadFaults_5 : decode cX7_spreadFaults 5 = .ok (.aload_n 0, 1) := by decide +kernel
theorem dX7_spreadFaults_6 : decode cX7_spreadFaults 6 = .ok (.getfield 18, 3) := by decide +kernel
theorem dX7_spreadFaults_9 : decode cX7_spreadFaults 9 = .ok (.invokevirtual 24, 3) := by decide +kernel
theorem dX7_spreadFaults_12 : decode cX7_spreadFaults 12 = .ok (.if_icmp .ge 42, 3) := by decide +kernel
theorem dX7_spreadFaults_54 : decode cX7_spreadFaults 54 = .ok (.iload_n 1, 1) := by decide +kernel
theorem dX7_spreadFaults_55 : decode cX7_spreadFaults 55 = .ok (.ireturn, 1) := by decide +kernel
set_option maxRecDepth 20000 in
theorem ggX7_spreadFound_Jx4a65c_size_8abf5 : GoodIn wsX7_spreadFound wsJx4a65c_size_8abf5 := goodIn_r _ [7, 8, 138, 139, 140] (by decide +kernel) (by decide +kernel)
set_option maxRecDepth 20000 in
theorem gX7_spreadFound_Jx4a65c_size_8abf5 : GoodIn wsX7_spreadFound (wsV RX7 24 RJx4a65c yJx4a65c_size_8abf5 wsJx4a65c_size_8abf5) := goodIn_app (goodIn_of _ (by decide +kernel)) ggX7_spreadFound_Jx4a65c_size_8abf5
theorem dX7_spreadFound_0 : decode cX7_spreadFound 0 = .ok (.iconst 0, 1) := by decide +kernel
theorem dX7_spreadFound_1 : decode cX7_spreadFound 1 = .ok (.istore_n 2, 1) := by decide +kernel
theorem dX7_spreadFound_2 : decode cX7_spreadFound 2 = .ok (.iconst 0, 1) := by decide +kernel
theorem dX7_spreadFound_3 : decode cX7_spreadFound 3 = .ok (.istore_n 3, 1) := by decide +kernel
theorem dX7_spreadFound_4 : decode cX7_spreadFound 4 = .ok (.iload_n 3, 1) := by decide +kernel
theorem dX7_spreadFound_5 : decode cX7_spreadFound 5 = .ok (.aload_n 0, 1) := by decide +kernel
theorem dX7_spreadFound_6 : decode cX7_spreadFound 6 = .ok (.getfield 18, 3) := by decide +kernel
theorem dX7_spreadFound_9 : decode cX7_spreadFound 9 = .ok (.invokevirtual 24, 3) := by decide +kernel
theorem dX7_spreadFound_12 : decode cX7_spreadFound 12 = .ok (.if_icmp .ge 121, 3) := by decide +kernel
theorem dX7_spreadFound_133 : decode cX7_spreadFound 133 = .ok (.iload_n 2, 1) := by decide +kernel
theorem dX7_spreadFound_134 : decode cX7_spreadFound 134 = .ok (.ireturn, 1) := by decide +kernel
set_option maxRecDepth 20000 in
theorem ggX8_init_X9_init : GoodIn wsX8_init wsX9_init := goodIn_r _ [14, 15, 2, 3, 16, 17, 18, 19, 20, 31, 32, 33] (by decide +kernel) (by decide +kernel)
set_option maxRecDepth 20000 in
theorem gX8_init_X9_init : GoodIn wsX8_init (wsX9_init) := ggX8_init_X9_init
theorem dX8_init_0 : decode cX8_init 0 = .ok (.aload_n 0, 1) := by decide +kernel
theorem dX8_init_1 : decode cX8_init 1 = .ok (.invokespecial 3, 3) := by decide +kernel
theorem dX8_init_4 : decode cX8_init 4 = .ok (.aload_n 0, 1) := by decide +kernel
theorem dX8_init_5 : decode cX8_init 5 = .ok (.aconst_null, 1) := by decide +kernel
theorem dX8_init_6 : decode cX8_init 6 = .ok (.putfield 9, 3) := by decide +kernel
theorem dX8_init_9 : decode cX8_init 9 = .ok (.aload_n 0, 1) := by decide +kernel
theorem dX8_init_10 : decode cX8_init 10 = .ok (.new 15, 3) := by decide +kernel
theorem dX8_init_13 : decode cX8_init 13 = .ok (.dup, 1) := by decide +kernel
theorem dX8_init_14 : decode cX8_init 14 = .ok (.iconst 1, 1) := by decide +kernel
theorem dX8_init_15 : decode cX8_init 15 = .ok (.iconst 3, 1) := by decide +kernel
theorem dX8_init_16 : decode cX8_init 16 = .ok (.invokespecial 17, 3) := by decide +kernel
theorem dX8_init_19 : decode cX8_init 19 = .ok (.putfield 20, 3) := by decide +kernel
theorem dX8_init_22 : decode cX8_init 22 = .ok (.aload_n 0, 1) := by decide +kernel
theorem dX8_init_23 : decode cX8_init 23 = .ok (.new 15, 3) := by decide +kernel
theorem dX8_init_26 : decode cX8_init 26 = .ok (.dup, 1) := by decide +kernel
theorem dX8_init_27 : decode cX8_init 27 = .ok (.iconst 3, 1) := by decide +kernel
theorem dX8_init_28 : decode cX8_init 28 = .ok (.bipush 50, 2) := by decide +kernel
theorem dX8_init_30 : decode cX8_init 30 = .ok (.invokespecial 17, 3) := by decide +kernel
theorem dX8_init_33 : decode cX8_init 33 = .ok (.putfield 24, 3) := by decide +kernel
theorem dX8_init_36 : decode cX8_init 36 = .ok (.aload_n 0, 1) := by decide +kernel
theorem dX8_init_37 : decode cX8_init 37 = .ok (.new 15, 3) := by decide +kernel
theorem dX8_init_40 : decode cX8_init 40 = .ok (.dup, 1) := by decide +kernel
theorem dX8_init_41 : decode cX8_init 41 = .ok (.iconst 2, 1) := by decide +kernel
theorem dX8_init_42 : decode cX8_init 42 = .ok (.bipush 80, 2) := by decide +kernel
theorem dX8_init_44 : decode cX8_init 44 = .ok (.invokespecial 17, 3) := by decide +kernel
theorem dX8_init_47 : decode cX8_init 47 = .ok (.putfield 27, 3) := by decide +kernel
theorem dX8_init_50 : decode cX8_init 50 = .ok (.aload_n 0, 1) := by decide +kernel
theorem dX8_init_51 : decode cX8_init 51 = .ok (.bipush 101, 2) := by decide +kernel
theorem dX8_init_53 : decode cX8_init 53 = .ok (.putfield 30, 3) := by decide +kernel
theorem dX8_init_56 : decode cX8_init 56 = .ok (.return_, 1) := by decide +kernel
theorem dX9_init_0 : decode cX9_init 0 = .ok (.aload_n 0, 1) := by decide +kernel
theorem dX9_init_1 : decode cX9_init 1 = .ok (.invokespecial 3, 3) := by decide +kernel
theorem dX9_init_4 : decode cX9_init 4 = .ok (.aload_n 0, 1) := by decide +kernel
theorem dX9_init_5 : decode cX9_init 5 = .ok (.iload_n 1, 1) := by decide +kernel
theorem dX9_init_6 : decode cX9_init 6 = .ok (.ifCond .le 7, 3) := by decide +kernel
theorem dX9_init_9 : decode cX9_init 9 = .ok (.iload_n 1, 1) := by decide +kernel
theorem dX9_init_10 : decode cX9_init 10 = .ok (.goto 4, 3) := by decide +kernel
theorem dX9_init_14 : decode cX9_init 14 = .ok (.putfield 9, 3) := by decide +kernel
theorem dX9_init_17 : decode cX9_init 17 = .ok (.aload_n 0, 1) := by decide +kernel
theorem dX9_init_18 : decode cX9_init 18 = .ok (.iload_n 2, 1) := by decide +kernel
theorem dX9_init_19 : decode cX9_init 19 = .ok (.ifCond .le 18, 3) := by decide +kernel
theorem dX9_init_22 : decode cX9_init 22 = .ok (.iload_n 2, 1) := by decide +kernel
theorem dX9_init_23 : decode cX9_init 23 = .ok (.ldc 15, 2) := by decide +kernel
theorem dX9_init_25 : decode cX9_init 25 = .ok (.if_icmp .ge 12, 3) := by decide +kernel
theorem dX9_init_28 : decode cX9_init 28 = .ok (.aload_n 0, 1) := by decide +kernel
theorem dX9_init_29 : decode cX9_init 29 = .ok (.getfield 9, 3) := by decide +kernel
theorem dX9_init_32 : decode cX9_init 32 = .ok (.iload_n 2, 1) := by decide +kernel
theorem dX9_init_33 : decode cX9_init 33 = .ok (.imul, 1) := by decide +kernel
theorem dX9_init_34 : decode cX9_init 34 = .ok (.goto 7, 3) := by decide +kernel
theorem dX9_init_41 : decode cX9_init 41 = .ok (.newarray .int, 2) := by decide +kernel
theorem dX9_init_43 : decode cX9_init 43 = .ok (.putfield 16, 3) := by decide +kernel
theorem dX9_init_46 : decode cX9_init 46 = .ok (.aload_n 0, 1) := by decide +kernel
theorem dX9_init_47 : decode cX9_init 47 = .ok (.iconst 0, 1) := by decide +kernel
theorem dX9_init_48 : decode cX9_init 48 = .ok (.putfield 20, 3) := by decide +kernel
theorem dX9_init_51 : decode cX9_init 51 = .ok (.return_, 1) := by decide +kernel
theorem dX9_count_0 : decode cX9_count 0 = .ok (.aload_n 0, 1) := by decide +kernel
theorem dX9_count_1 : decode cX9_count 1 = .ok (.getfield 20, 3) := by decide +kernel
theorem dX9_count_4 : decode cX9_count 4 = .ok (.ireturn, 1) := by decide +kernel
theorem dX9_set_0 : decode cX9_set 0 = .ok (.iload_n 1, 1) := by decide +kernel
theorem dX9_set_1 : decode cX9_set 1 = .ok (.aload_n 0, 1) := by decide +kernel
theorem dX9_set_2 : decode cX9_set 2 = .ok (.getfield 9, 3) := by decide +kernel
theorem dX9_set_5 : decode cX9_set 5 = .ok (.imul, 1) := by decide +kernel
theorem dX9_set_6 : decode cX9_set 6 = .ok (.iload_n 2, 1) := by decide +kernel
theorem dX9_set_7 : decode cX9_set 7 = .ok (.iadd, 1) := by decide +kernel
theorem dX9_set_8 : decode cX9_set 8 = .ok (.istore 4, 2) := by decide +kernel
theorem dX9_set_10 : decode cX9_set 10 = .ok (.iload_n 1, 1) := by decide +kernel
theorem dX9_set_11 : decode cX9_set 11 = .ok (.ifCond .lt 27, 3) := by decide +kernel
theorem dX9_set_14 : decode cX9_set 14 = .ok (.iload_n 1, 1) := by decide +kernel
theorem dX9_set_15 : decode cX9_set 15 = .ok (.aload_n 0, 1) := by decide +kernel
theorem dX9_set_16 : decode cX9_set 16 = .ok (.getfield 20, 3) := by decide +kernel
theorem dX9_set_19 : decode cX9_set 19 = .ok (.if_icmp .ge 19, 3) := by decide +kernel
theorem dX9_set_22 : decode cX9_set 22 = .ok (.iload_n 2, 1) := by decide +kernel
theorem dX9_set_23 : decode cX9_set 23 = .ok (.ifCond .lt 15, 3) := by decide +kernel
theorem dX9_set_26 : decode cX9_set 26 = .ok (.iload_n 2, 1) := by decide +kernel
theorem dX9_set_27 : decode cX9_set 27 = .ok (.aload_n 0, 1) := by decide +kernel
theorem dX9_set_28 : decode cX9_set 28 = .ok (.getfield 9, 3) := by decide +kernel
theorem dX9_set_31 : decode cX9_set 31 = .ok (.if_icmp .ge 7, 3) := by decide +kernel
theorem dX9_set_34 : decode cX9_set 34 = .ok (.iconst 1, 1) := by decide +kernel
theorem dX9_set_35 : decode cX9_set 35 = .ok (.goto 4, 3) := by decide +kernel
theorem dX9_set_38 : decode cX9_set 38 = .ok (.iconst 0, 1) := by decide +kernel
theorem dX9_set_39 : decode cX9_set 39 = .ok (.istore 5, 2) := by decide +kernel
theorem dX9_set_41 : decode cX9_set 41 = .ok (.iload 5, 2) := by decide +kernel
theorem dX9_set_43 : decode cX9_set 43 = .ok (.ifCond .eq 26, 3) := by decide +kernel
theorem dX9_set_46 : decode cX9_set 46 = .ok (.iload 4, 2) := by decide +kernel
theorem dX9_set_48 : decode cX9_set 48 = .ok (.ifCond .lt 21, 3) := by decide +kernel
theorem dX9_set_51 : decode cX9_set 51 = .ok (.iload 4, 2) := by decide +kernel
theorem dX9_set_53 : decode cX9_set 53 = .ok (.aload_n 0, 1) := by decide +kernel
theorem dX9_set_54 : decode cX9_set 54 = .ok (.getfield 16, 3) := by decide +kernel
theorem dX9_set_57 : decode cX9_set 57 = .ok (.arraylength, 1) := by decide +kernel
theorem dX9_set_58 : decode cX9_set 58 = .ok (.if_icmp .ge 11, 3) := by decide +kernel
theorem dX9_set_61 : decode cX9_set 61 = .ok (.aload_n 0, 1) := by decide +kernel
theorem dX9_set_62 : decode cX9_set 62 = .ok (.getfield 16, 3) := by decide +kernel
theorem dX9_set_65 : decode cX9_set 65 = .ok (.iload 4, 2) := by decide +kernel
theorem dX9_set_67 : decode cX9_set 67 = .ok (.iload_n 3, 1) := by decide +kernel
theorem dX9_set_68 : decode cX9_set 68 = .ok (.iastore, 1) := by decide +kernel
theorem dX9_set_69 : decode cX9_set 69 = .ok (.return_, 1) := by decide +kernel
set_option maxRecDepth 20000 in
theorem ggX9_add_J7_fill_fda19 : GoodIn wsX9_add wsJ7_fill_fda19 := goodIn_r _ [26, 27, 28, 7, 29, 30, 31, 32, 33, 34, 35, 44, 45, 46, 47, 48, 49, 50, 51, 52, 53] (by decide +kernel) (by decide +kernel)
set_option maxRecDepth 20000 in
theorem gX9_add_J7_fill_fda19 : GoodIn wsX9_add (va_wsS RX9 29 yJ7_fill_fda19 wsJ7_fill_fda19) := goodIn_app (goodIn_of _ (by decide +kernel)) ggX9_add_J7_fill_fda19
set_option maxRecDepth 20000 in
theorem ggX9_add_X9_set : GoodIn wsX9_add wsX9_set := goodIn_ca (goodIn_r _ [40, 2, 1, 3, 41, 42, 43] (by decide +kernel) (by decide +kernel)) (goodIn_sub (fun _ h => List.mem_cons_of_mem _ (List.mem_append_right _ h)) (by decide +kernel))
set_option maxRecDepth 20000 in
theorem gX9_add_X9_set : GoodIn wsX9_add (wsV RX9 33 RX9 yX9_set wsX9_set) := goodIn_app (goodIn_of _ (by decide +kernel)) ggX9_add_X9_set
theorem dX9_add_0 : decode cX9_add 0 = .ok (.aload_n 0, 1) := by decide +kernel
theorem dX9_add_1 : decode cX9_add 1 = .ok (.getfield 20, 3) := by decide +kernel
theorem dX9_add_4 : decode cX9_add 4 = .ok (.aload_n 0, 1) := by decide +kernel
theorem dX9_add_5 : decode cX9_add 5 = .ok (.getfield 9, 3) := by decide +kernel
theorem dX9_add_8 : decode cX9_add 8 = .ok (.imul, 1) := by decide +kernel
theorem dX9_add_9 : decode cX9_add 9 = .ok (.istore 4, 2) := by decide +kernel
theorem dX9_add_11 : decode cX9_add 11 = .ok (.iload 4, 2) := by decide +kernel
theorem dX9_add_13 : decode cX9_add 13 = .ok (.aload_n 0, 1) := by decide +kernel
theorem dX9_add_14 : decode cX9_add 14 = .ok (.getfield 9, 3) := by decide +kernel
theorem dX9_add_17 : decode cX9_add 17 = .ok (.iadd, 1) := by decide +kernel
theorem dX9_add_18 : decode cX9_add 18 = .ok (.istore 5, 2) := by decide +kernel
theorem dX9_add_20 : decode cX9_add 20 = .ok (.iload 5, 2) := by decide +kernel
theorem dX9_add_22 : decode cX9_add 22 = .ok (.aload_n 0, 1) := by decide +kernel
theorem dX9_add_23 : decode cX9_add 23 = .ok (.getfield 16, 3) := by decide +kernel
theorem dX9_add_26 : decode cX9_add 26 = .ok (.arraylength, 1) := by decide +kernel
theorem dX9_add_27 : decode cX9_add 27 = .ok (.if_icmp .le 25, 3) := by decide +kernel
theorem dX9_add_52 : decode cX9_add 52 = .ok (.iload 4, 2) := by decide +kernel
theorem dX9_add_54 : decode cX9_add 54 = .ok (.ifCond .lt 13, 3) := by decide +kernel
theorem dX9_add_57 : decode cX9_add 57 = .ok (.iload 5, 2) := by decide +kernel
theorem dX9_add_59 : decode cX9_add 59 = .ok (.aload_n 0, 1) := by decide +kernel
theorem dX9_add_60 : decode cX9_add 60 = .ok (.getfield 16, 3) := by decide +kernel
theorem dX9_add_63 : decode cX9_add 63 = .ok (.arraylength, 1) := by decide +kernel
theorem dX9_add_64 : decode cX9_add 64 = .ok (.if_icmp .le 5, 3) := by decide +kernel
theorem dX9_add_69 : decode cX9_add 69 = .ok (.aload_n 0, 1) := by decide +kernel
theorem dX9_add_70 : decode cX9_add 70 = .ok (.getfield 16, 3) := by decide +kernel
theorem dX9_add_73 : decode cX9_add 73 = .ok (.iload 4, 2) := by decide +kernel
theorem dX9_add_75 : decode cX9_add 75 = .ok (.iload 5, 2) := by decide +kernel
theorem dX9_add_77 : decode cX9_add 77 = .ok (.iconst (-1), 1) := by decide +kernel
theorem dX9_add_78 : decode cX9_add 78 = .ok (.invokestatic 29, 3) := by decide +kernel
theorem dX9_add_81 : decode cX9_add 81 = .ok (.aload_n 0, 1) := by decide +kernel
theorem dX9_add_82 : decode cX9_add 82 = .ok (.dup, 1) := by decide +kernel
theorem dX9_add_83 : decode cX9_add 83 = .ok (.getfield 20, 3) := by decide +kernel
theorem dX9_add_86 : decode cX9_add 86 = .ok (.iconst 1, 1) := by decide +kernel
theorem dX9_add_87 : decode cX9_add 87 = .ok (.iadd, 1) := by decide +kernel
theorem dX9_add_88 : decode cX9_add 88 = .ok (.putfield 20, 3) := by decide +kernel
theorem dX9_add_91 : decode cX9_add 91 = .ok (.aload_n 0, 1) := by decide +kernel
theorem dX9_add_92 : decode cX9_add 92 = .ok (.aload_n 0, 1) := by decide +kernel
theorem dX9_add_93 : decode cX9_add 93 = .ok (.getfield 20, 3) := by decide +kernel
theorem dX9_add_96 : decode cX9_add 96 = .ok (.iconst 1, 1) := by decide +kernel
theorem dX9_add_97 : decode cX9_add 97 = .ok (.isub, 1) := by decide +kernel
theorem dX9_add_98 : decode cX9_add 98 = .ok (.iconst 0, 1) := by decide +kernel
theorem dX9_add_99 : decode cX9_add 99 = .ok (.iload_n 1, 1) := by decide +kernel
theorem dX9_add_100 : decode cX9_add 100 = .ok (.invokevirtual 33, 3) := by decide +kernel
theorem dX9_add_103 : decode cX9_add 103 = .ok (.aload_n 0, 1) := by decide +kernel
theorem dX9_add_104 : decode cX9_add 104 = .ok (.aload_n 0, 1) := by decide +kernel
theorem dX9_add_105 : decode cX9_add 105 = .ok (.getfield 20, 3) := by decide +kernel
theorem dX9_add_108 : decode cX9_add 108 = .ok (.iconst 1, 1) := by decide +kernel
theorem dX9_add_109 : decode cX9_add 109 = .ok (.isub, 1) := by decide +kernel
theorem dX9_add_110 : decode cX9_add 110 = .ok (.iconst 1, 1) := by decide +kernel
theorem dX9_add_111 : decode cX9_add 111 = .ok (.iload_n 2, 1) := by decide +kernel
theorem dX9_add_112 : decode cX9_add 112 = .ok (.invokevirtual 33, 3) := by decide +kernel
theorem dX9_add_115 : decode cX9_add 115 = .ok (.aload_n 0, 1) := by decide +kernel
theorem dX9_add_116 : decode cX9_add 116 = .ok (.aload_n 0, 1) := by decide +kernel
theorem dX9_add_117 : decode cX9_add 117 = .ok (.getfield 20, 3) := by decide +kernel
theorem dX9_add_120 : decode cX9_add 120 = .ok (.iconst 1, 1) := by decide +kernel
theorem dX9_add_121 : decode cX9_add 121 = .ok (.isub, 1) := by decide +kernel
theorem dX9_add_122 : decode cX9_add 122 = .ok (.iconst 2, 1) := by decide +kernel
theorem dX9_add_123 : decode cX9_add 123 = .ok (.iload_n 3, 1) := by decide +kernel
theorem dX9_add_124 : decode cX9_add 124 = .ok (.invokevirtual 33, 3) := by decide +kernel
theorem dX9_add_127 : decode cX9_add 127 = .ok (.aload_n 0, 1) := by decide +kernel
theorem dX9_add_128 : decode cX9_add 128 = .ok (.getfield 20, 3) := by decide +kernel
theorem dX9_add_131 : decode cX9_add 131 = .ok (.iconst 1, 1) := by decide +kernel
theorem dX9_add_132 : decode cX9_add 132 = .ok (.isub, 1) := by decide +kernel
theorem dX9_add_133 : decode cX9_add 133 = .ok (.ireturn, 1) := by decide +kernel
set_option maxRecDepth 20000 in
theorem ggX10_init_X9_init : GoodIn wsX10_init wsX9_init := goodIn_r _ [15, 16, 2, 3, 17, 18, 19, 20, 21, 65, 66, 67] (by decide +kernel) (by decide +kernel)
set_option maxRecDepth 20000 in
theorem gX10_init_X9_init : GoodIn wsX10_init (wsX9_init) := ggX10_init_X9_init
set_option maxRecDepth 20000 in
theorem ggX10_init_X9_add : GoodIn wsX10_init wsX9_add := goodIn_ca (goodIn_r _ [25, 21, 17, 20, 18, 26, 27, 28, 29, 30, 31, 32, 33, 34, 35, 19, 36, 37, 38, 39, 40, 41, 42, 43, 44, 45, 46, 47, 48, 49, 50, 51, 52, 53, 54, 55, 56, 57, 58, 7, 59, 65, 66, 67, 68, 69, 70, 71, 72, 73, 74, 75, 76, 77] (by decide +kernel) (by decide +kernel)) (goodIn_sub (fun _ h => List.mem_cons_of_mem _ (List.mem_append_right _ h)) (by decide +kernel))
set_option maxRecDepth 20000 in
theorem gX10_init_X9_add : GoodIn wsX10_init (wsV RX10 30 RX9 yX9_add wsX9_add) := goodIn_app (goodIn_of _ (by decide +kernel)) ggX10_init_X9_add
theorem dX10_init_0 : decode cX10_init 0 = .ok (.aload_n 0, 1) := by decide +kernel
theorem dX10_init_1 : decode cX10_init 1 = .ok (.invokespecial 3, 3) := by decide +kernel
theorem dX10_init_4 : decode cX10_init 4 = .ok (.aload_n 0, 1) := by decide +kernel
theorem dX10_init_5 : decode cX10_init 5 = .ok (.iconst 0, 1) := by decide +kernel
theorem dX10_init_6 : decode cX10_init 6 = .ok (.putfield 9, 3) := by decide +kernel
theorem dX10_init_9 : decode cX10_init 9 = .ok (.aload_n 0, 1) := by decide +kernel
theorem dX10_init_10 : decode cX10_init 10 = .ok (.new 15, 3) := by decide +kernel
theorem dX10_init_13 : decode cX10_init 13 = .ok (.dup, 1) := by decide +kernel
theorem dX10_init_14 : decode cX10_init 14 = .ok (.iconst 3, 1) := by decide +kernel
theorem dX10_init_15 : decode cX10_init 15 = .ok (.bipush 10, 2) := by decide +kernel
theorem dX10_init_17 : decode cX10_init 17 = .ok (.invokespecial 17, 3) := by decide +kernel
theorem dX10_init_20 : decode cX10_init 20 = .ok (.putfield 20, 3) := by decide +kernel
theorem dX10_init_23 : decode cX10_init 23 = .ok (.aload_n 0, 1) := by decide +kernel
theorem dX10_init_24 : decode cX10_init 24 = .ok (.new 15, 3) := by decide +kernel
theorem dX10_init_27 : decode cX10_init 27 = .ok (.dup, 1) := by decide +kernel
theorem dX10_init_28 : decode cX10_init 28 = .ok (.iconst 4, 1) := by decide +kernel
theorem dX10_init_29 : decode cX10_init 29 = .ok (.sipush 200, 3) := by decide +kernel
theorem dX10_init_32 : decode cX10_init 32 = .ok (.invokespecial 17, 3) := by decide +kernel
theorem dX10_init_35 : decode cX10_init 35 = .ok (.putfield 24, 3) := by decide +kernel
theorem dX10_init_38 : decode cX10_init 38 = .ok (.aload_n 0, 1) := by decide +kernel
theorem dX10_init_39 : decode cX10_init 39 = .ok (.new 15, 3) := by decide +kernel
theorem dX10_init_42 : decode cX10_init 42 = .ok (.dup, 1) := by decide +kernel
theorem dX10_init_43 : decode cX10_init 43 = .ok (.iconst 1, 1) := by decide +kernel
theorem dX10_init_44 : decode cX10_init 44 = .ok (.bipush 64, 2) := by decide +kernel
theorem dX10_init_46 : decode cX10_init 46 = .ok (.invokespecial 17, 3) := by decide +kernel
theorem dX10_init_49 : decode cX10_init 49 = .ok (.putfield 27, 3) := by decide +kernel
theorem dX10_init_52 : decode cX10_init 52 = .ok (.iconst 0, 1) := by decide +kernel
theorem dX10_init_53 : decode cX10_init 53 = .ok (.istore_n 1, 1) := by decide +kernel
theorem dX10_init_54 : decode cX10_init 54 = .ok (.iload_n 1, 1) := by decide +kernel
theorem dX10_init_55 : decode cX10_init 55 = .ok (.bipush 64, 2) := by decide +kernel
theorem dX10_init_57 : decode cX10_init 57 = .ok (.if_icmp .ge 20, 3) := by decide +kernel
theorem dX10_init_60 : decode cX10_init 60 = .ok (.aload_n 0, 1) := by decide +kernel
theorem dX10_init_61 : decode cX10_init 61 = .ok (.getfield 27, 3) := by decide +kernel
theorem dX10_init_64 : decode cX10_init 64 = .ok (.iconst (-1), 1) := by decide +kernel
theorem dX10_init_65 : decode cX10_init 65 = .ok (.iconst (-1), 1) := by decide +kernel
theorem dX10_init_66 : decode cX10_init 66 = .ok (.iconst (-1), 1) := by decide +kernel
theorem dX10_init_67 : decode cX10_init 67 = .ok (.invokevirtual 30, 3) := by decide +kernel
theorem dX10_init_70 : decode cX10_init 70 = .ok (.pop, 1) := by decide +kernel
theorem dX10_init_71 : decode cX10_init 71 = .ok (.iinc 1 1, 3) := by decide +kernel
theorem dX10_init_74 : decode cX10_init 74 = .ok (.goto (-20), 3) := by decide +kernel
theorem dX10_init_77 : decode cX10_init 77 = .ok (.aload_n 0, 1) := by decide +kernel
theorem dX10_init_78 : decode cX10_init 78 = .ok (.sipush 200, 3) := by decide +kernel
theorem dX10_init_81 : decode cX10_init 81 = .ok (.newarray .long, 2) := by decide +kernel
theorem dX10_init_83 : decode cX10_init 83 = .ok (.putfield 34, 3) := by decide +kernel
theorem dX10_init_86 : decode cX10_init 86 = .ok (.return_, 1) := by decide +kernel
theorem dX10_typeCount_0 : decode cX10_typeCount 0 = .ok (.aload_n 0, 1) := by decide +kernel
theorem dX10_typeCount_1 : decode cX10_typeCount 1 = .ok (.getfield 9, 3) := by decide +kernel
theorem dX10_typeCount_4 : decode cX10_typeCount 4 = .ok (.ireturn, 1) := by decide +kernel
set_option maxRecDepth 20000 in
theorem ggX10_termCount_X9_count : GoodIn wsX10_termCount wsX9_count := goodIn_r _ [6, 7, 13, 14, 15] (by decide +kernel) (by decide +kernel)
set_option maxRecDepth 20000 in
theorem gX10_termCount_X9_count : GoodIn wsX10_termCount (wsV RX10 38 RX9 yX9_count wsX9_count) := goodIn_app (goodIn_of _ (by decide +kernel)) ggX10_termCount_X9_count
theorem dX10_termCount_0 : decode cX10_termCount 0 = .ok (.aload_n 0, 1) := by decide +kernel
theorem dX10_termCount_1 : decode cX10_termCount 1 = .ok (.getfield 24, 3) := by decide +kernel
theorem dX10_termCount_4 : decode cX10_termCount 4 = .ok (.invokevirtual 38, 3) := by decide +kernel
theorem dX10_termCount_7 : decode cX10_termCount 7 = .ok (.ireturn, 1) := by decide +kernel
theorem dX10_hasType_0 : decode cX10_hasType 0 = .ok (.iload_n 1, 1) := by decide +kernel
theorem dX10_hasType_1 : decode cX10_hasType 1 = .ok (.ifCond .lt 15, 3) := by decide +kernel
theorem dX10_hasType_4 : decode cX10_hasType 4 = .ok (.iload_n 1, 1) := by decide +kernel
theorem dX10_hasType_5 : decode cX10_hasType 5 = .ok (.aload_n 0, 1) := by decide +kernel
theorem dX10_hasType_6 : decode cX10_hasType 6 = .ok (.getfield 9, 3) := by decide +kernel
theorem dX10_hasType_9 : decode cX10_hasType 9 = .ok (.if_icmp .ge 7, 3) := by decide +kernel
theorem dX10_hasType_16 : decode cX10_hasType 16 = .ok (.iconst 0, 1) := by decide +kernel
theorem dX10_hasType_17 : decode cX10_hasType 17 = .ok (.ireturn, 1) := by decide +kernel
set_option maxRecDepth 20000 in
theorem ggX10_hasConstructor_X9_count : GoodIn wsX10_hasConstructor wsX9_count := goodIn_r _ [6, 7, 13, 14, 15] (by decide +kernel) (by decide +kernel)
set_option maxRecDepth 20000 in
theorem gX10_hasConstructor_X9_count : GoodIn wsX10_hasConstructor (wsV RX10 38 RX9 yX9_count wsX9_count) := goodIn_app (goodIn_of _ (by decide +kernel)) ggX10_hasConstructor_X9_count
theorem dX10_hasConstructor_0 : decode cX10_hasConstructor 0 = .ok (.iload_n 1, 1) := by decide +kernel
theorem dX10_hasConstructor_1 : decode cX10_hasConstructor 1 = .ok (.ifCond .lt 18, 3) := by decide +kernel
theorem dX10_hasConstructor_4 : decode cX10_hasConstructor 4 = .ok (.iload_n 1, 1) := by decide +kernel
theorem dX10_hasConstructor_5 : decode cX10_hasConstructor 5 = .ok (.aload_n 0, 1) := by decide +kernel
theorem dX10_hasConstructor_6 : decode cX10_hasConstructor 6 = .ok (.getfield 20, 3) := by decide +kernel
theorem dX10_hasConstructor_9 : decode cX10_hasConstructor 9 = .ok (.invokevirtual 38, 3) := by decide +kernel
theorem dX10_hasConstructor_12 : decode cX10_hasConstructor 12 = .ok (.if_icmp .ge 7, 3) := by decide +kernel
theorem dX10_hasConstructor_19 : decode cX10_hasConstructor 19 = .ok (.iconst 0, 1) := by decide +kernel
theorem dX10_hasConstructor_20 : decode cX10_hasConstructor 20 = .ok (.ireturn, 1) := by decide +kernel
set_option maxRecDepth 20000 in
theorem ggX10_hasTerm_X9_count : GoodIn wsX10_hasTerm wsX9_count := goodIn_r _ [6, 7, 13, 14, 15] (by decide +kernel) (by decide +kernel)
set_option maxRecDepth 20000 in
theorem gX10_hasTerm_X9_count : GoodIn wsX10_hasTerm (wsV RX10 38 RX9 yX9_count wsX9_count) := goodIn_app (goodIn_of _ (by decide +kernel)) ggX10_hasTerm_X9_count
theorem dX10_hasTerm_0 : decode cX10_hasTerm 0 = .ok (.iload_n 1, 1) := by decide +kernel
theorem dX10_hasTerm_1 : decode cX10_hasTerm 1 = .ok (.ifCond .lt 18, 3) := by decide +kernel
theorem dX10_hasTerm_4 : decode cX10_hasTerm 4 = .ok (.iload_n 1, 1) := by decide +kernel
theorem dX10_hasTerm_5 : decode cX10_hasTerm 5 = .ok (.aload_n 0, 1) := by decide +kernel
theorem dX10_hasTerm_6 : decode cX10_hasTerm 6 = .ok (.getfield 24, 3) := by decide +kernel
theorem dX10_hasTerm_9 : decode cX10_hasTerm 9 = .ok (.invokevirtual 38, 3) := by decide +kernel
theorem dX10_hasTerm_12 : decode cX10_hasTerm 12 = .ok (.if_icmp .ge 7, 3) := by decide +kernel
theorem dX10_hasTerm_19 : decode cX10_hasTerm 19 = .ok (.iconst 0, 1) := by decide +kernel
theorem dX10_hasTerm_20 : decode cX10_hasTerm 20 = .ok (.ireturn, 1) := by decide +kernel
theorem dX10_newType_0 : decode cX10_newType 0 = .ok (.aload_n 0, 1) := by decide +kernel
theorem dX10_newType_1 : decode cX10_newType 1 = .ok (.dup, 1) := by decide +kernel
theorem dX10_newType_2 : decode cX10_newType 2 = .ok (.getfield 9, 3) := by decide +kernel
theorem dX10_newType_5 : decode cX10_newType 5 = .ok (.iconst 1, 1) := by decide +kernel
theorem dX10_newType_6 : decode cX10_newType 6 = .ok (.iadd, 1) := by decide +kernel
theorem dX10_newType_7 : decode cX10_newType 7 = .ok (.putfield 9, 3) := by decide +kernel
theorem dX10_newType_10 : decode cX10_newType 10 = .ok (.aload_n 0, 1) := by decide +kernel
theorem dX10_newType_11 : decode cX10_newType 11 = .ok (.getfield 9, 3) := by decide +kernel
theorem dX10_newType_14 : decode cX10_newType 14 = .ok (.iconst 1, 1) := by decide +kernel
theorem dX10_newType_15 : decode cX10_newType 15 = .ok (.isub, 1) := by decide +kernel
theorem dX10_newType_16 : decode cX10_newType 16 = .ok (.ireturn, 1) := by decide +kernel
set_option maxRecDepth 20000 in
theorem ggX11_init_X10_init : GoodIn wsX11_init wsX10_init := goodIn_ca (goodIn_r _ [30, 31, 2, 3, 32, 33, 34, 35, 36, 37, 38, 39, 40, 41, 42, 43, 44, 45, 46, 47, 48, 49, 50, 51, 52, 53, 54, 55, 56, 57, 58, 59, 60, 61, 62, 63, 64, 65, 66, 67, 68, 69, 70, 71, 72, 73, 74, 75, 76, 77, 78, 79, 80, 81, 82, 83, 84, 85, 86, 87, 153, 154, 155, 156, 157, 207, 208, 209, 210, 211, 212, 213, 214, 215, 216, 217, 218, 219] (by decide +kernel) (by decide +kernel)) (goodIn_sub (fun _ h => List.mem_cons_of_mem _ (List.mem_append_right _ h)) (by decide +kernel))
set_option maxRecDepth 20000 in
theorem gX11_init_X10_init : GoodIn wsX11_init (wsX10_init) := ggX11_init_X10_init
set_option maxRecDepth 20000 in
theorem ggX11_init_X7_init : GoodIn wsX11_init wsX7_init := goodIn_r _ [90, 91, 2, 3, 92, 93, 94, 95, 96, 97, 98, 99, 100, 101, 102, 103, 104, 105, 106, 107, 108, 109, 110, 111, 112, 220, 221, 222, 167, 168, 169] (by decide +kernel) (by decide +kernel)
set_option maxRecDepth 20000 in
theorem gX11_init_X7_init : GoodIn wsX11_init (wsX7_init) := ggX11_init_X7_init
set_option maxRecDepth 20000 in
theorem ggX11_init_X8_init : GoodIn wsX11_init wsX8_init := goodIn_r _ [115, 116, 2, 3, 117, 118, 34, 35, 119, 120, 121, 122, 123, 42, 43, 44, 45, 46, 47, 48, 49, 170, 171, 172, 173, 174, 175, 176, 177, 178, 179, 207, 208, 209] (by decide +kernel) (by decide +kernel)
set_option maxRecDepth 20000 in
theorem gX11_init_X8_init : GoodIn wsX11_init (wsX8_init) := ggX11_init_X8_init
set_option maxRecDepth 20000 in
theorem ggX11_init_X4_init : GoodIn wsX11_init wsX4_init := goodIn_r _ [126, 127, 2, 3, 128, 129, 130, 93, 94, 131, 132, 34, 35, 133, 134, 135, 99, 100, 101, 102, 103, 104, 105, 106, 107, 108, 109, 110, 111, 112, 136, 42, 43, 44, 45, 46, 47, 48, 49, 180, 181, 182, 183, 184, 185, 186, 187, 188, 189, 190, 191, 220, 221, 222, 207, 208, 209] (by decide +kernel) (by decide +kernel)
set_option maxRecDepth 20000 in
theorem gX11_init_X4_init : GoodIn wsX11_init (wsX4_init) := ggX11_init_X4_init
set_option maxRecDepth 20000 in
theorem ggX11_init_X0_init : GoodIn wsX11_init wsX0_init := goodIn_r _ [139, 140, 2, 3, 141, 142, 143, 34, 35, 144, 145, 146, 147, 148, 149, 150, 151, 152, 42, 43, 44, 45, 46, 47, 48, 49, 192, 193, 194, 195, 196, 197, 198, 199, 200, 201, 202, 203, 204, 205, 206, 207, 208, 209] (by decide +kernel) (by decide +kernel)
set_option maxRecDepth 20000 in
theorem gX11_init_X0_init : GoodIn wsX11_init (wsX0_init) := ggX11_init_X0_init
theorem dX11_init_0 : decode cX11_init 0 = .ok (.aload_n 0, 1) := by decide +kernel
theorem dX11_init_1 : decode cX11_init 1 = .ok (.invokespecial 1, 3) := by decide +kernel
theorem dX11_init_4 : decode cX11_init 4 = .ok (.aload_n 0, 1) := by decide +kernel
theorem dX11_init_5 : decode cX11_init 5 = .ok (.new 7, 3) := by decide +kernel
theorem dX11_init_8 : decode cX11_init 8 = .ok (.dup, 1) := by decide +kernel
theorem dX11_init_9 : decode cX11_init 9 = .ok (.invokespecial 9, 3) := by decide +kernel
theorem dX11_init_12 : decode cX11_init 12 = .ok (.putfield 10, 3) := by decide +kernel
theorem dX11_init_15 : decode cX11_init 15 = .ok (.aload_n 0, 1) := by decide +kernel
theorem dX11_init_16 : decode cX11_init 16 = .ok (.new 16, 3) := by decide +kernel
theorem dX11_init_19 : decode cX11_init 19 = .ok (.dup, 1) := by decide +kernel
theorem dX11_init_20 : decode cX11_init 20 = .ok (.invokespecial 18, 3) := by decide +kernel
theorem dX11_init_23 : decode cX11_init 23 = .ok (.putfield 19, 3) := by decide +kernel
theorem dX11_init_26 : decode cX11_init 26 = .ok (.aload_n 0, 1) := by decide +kernel
theorem dX11_init_27 : decode cX11_init 27 = .ok (.new 23, 3) := by decide +kernel
theorem dX11_init_30 : decode cX11_init 30 = .ok (.dup, 1) := by decide +kernel
theorem dX11_init_31 : decode cX11_init 31 = .ok (.invokespecial 25, 3) := by decide +kernel
theorem dX11_init_34 : decode cX11_init 34 = .ok (.putfield 26, 3) := by decide +kernel
theorem dX11_init_37 : decode cX11_init 37 = .ok (.aload_n 0, 1) := by decide +kernel
theorem dX11_init_38 : decode cX11_init 38 = .ok (.new 23, 3) := by decide +kernel
theorem dX11_init_41 : decode cX11_init 41 = .ok (.dup, 1) := by decide +kernel
theorem dX11_init_42 : decode cX11_init 42 = .ok (.invokespecial 25, 3) := by decide +kernel
theorem dX11_init_45 : decode cX11_init 45 = .ok (.putfield 30, 3) := by decide +kernel
theorem dX11_init_48 : decode cX11_init 48 = .ok (.aload_n 0, 1) := by decide +kernel
theorem dX11_init_49 : decode cX11_init 49 = .ok (.new 33, 3) := by decide +kernel
theorem dX11_init_52 : decode cX11_init 52 = .ok (.dup, 1) := by decide +kernel
theorem dX11_init_53 : decode cX11_init 53 = .ok (.aload_n 0, 1) := by decide +kernel
theorem dX11_init_54 : decode cX11_init 54 = .ok (.getfield 10, 3) := by decide +kernel
theorem dX11_init_57 : decode cX11_init 57 = .ok (.aload_n 0, 1) := by decide +kernel
theorem dX11_init_58 : decode cX11_init 58 = .ok (.getfield 30, 3) := by decide +kernel
theorem dX11_init_61 : decode cX11_init 61 = .ok (.invokespecial 35, 3) := by decide +kernel
theorem dX11_init_64 : decode cX11_init 64 = .ok (.putfield 38, 3) := by decide +kernel
theorem dX11_init_67 : decode cX11_init 67 = .ok (.aload_n 0, 1) := by decide +kernel
theorem dX11_init_68 : decode cX11_init 68 = .ok (.new 42, 3) := by decide +kernel
theorem dX11_init_71 : decode cX11_init 71 = .ok (.dup, 1) := by decide +kernel
theorem dX11_init_72 : decode cX11_init 72 = .ok (.aload_n 0, 1) := by decide +kernel
theorem dX11_init_73 : decode cX11_init 73 = .ok (.getfield 19, 3) := by decide +kernel
theorem dX11_init_76 : decode cX11_init 76 = .ok (.aload_n 0, 1) := by decide +kernel
theorem dX11_init_77 : decode cX11_init 77 = .ok (.getfield 10, 3) := by decide +kernel
theorem dX11_init_80 : decode cX11_init 80 = .ok (.invokespecial 44, 3) := by decide +kernel
theorem dX11_init_83 : decode cX11_init 83 = .ok (.putfield 47, 3) := by decide +kernel
theorem dX11_init_86 : decode cX11_init 86 = .ok (.aload_n 0, 1) := by decide +kernel
theorem dX11_init_87 : decode cX11_init 87 = .ok (.iconst 0, 1) := by decide +kernel
theorem dX11_init_88 : decode cX11_init 88 = .ok (.putfield 51, 3) := by decide +kernel
theorem dX11_init_91 : decode cX11_init 91 = .ok (.aload_n 0, 1) := by decide +kernel
theorem dX11_init_92 : decode cX11_init 92 = .ok (.iconst 0, 1) := by decide +kernel
theorem dX11_init_93 : decode cX11_init 93 = .ok (.putfield 55, 3) := by decide +kernel
theorem dX11_init_96 : decode cX11_init 96 = .ok (.aload_n 0, 1) := by decide +kernel
theorem dX11_init_97 : decode cX11_init 97 = .ok (.lconst 0, 1) := by decide +kernel
theorem dX11_init_98 : decode cX11_init 98 = .ok (.putfield 59, 3) := by decide +kernel
theorem dX11_init_101 : decode cX11_init 101 = .ok (.return_, 1) := by decide +kernel
set_option maxRecDepth 20000 in
theorem ggX11_addType_X10_typeCount : GoodIn wsX11_addType wsX10_typeCount := goodIn_r _ [9, 10, 24, 25, 26, 27, 28] (by decide +kernel) (by decide +kernel)
set_option maxRecDepth 20000 in
theorem gX11_addType_X10_typeCount : GoodIn wsX11_addType (wsV RX11 63 RX10 yX10_typeCount wsX10_typeCount) := goodIn_app (goodIn_of _ (by decide +kernel)) ggX11_addType_X10_typeCount
set_option maxRecDepth 20000 in
theorem ggX11_addType_X10_newType : GoodIn wsX11_addType wsX10_newType := goodIn_r _ [14, 10, 24, 25, 26, 27, 28] (by decide +kernel) (by decide +kernel)
set_option maxRecDepth 20000 in
theorem gX11_addType_X10_newType : GoodIn wsX11_addType (wsV RX11 70 RX10 yX10_newType wsX10_newType) := goodIn_app (goodIn_of _ (by decide +kernel)) ggX11_addType_X10_newType
theorem dX11_addType_0 : decode cX11_addType 0 = .ok (.aload_n 0, 1) := by decide +kernel
theorem dX11_addType_1 : decode cX11_addType 1 = .ok (.getfield 10, 3) := by decide +kernel
theorem dX11_addType_4 : decode cX11_addType 4 = .ok (.invokevirtual 63, 3) := by decide +kernel
theorem dX11_addType_7 : decode cX11_addType 7 = .ok (.iconst 3, 1) := by decide +kernel
theorem dX11_addType_8 : decode cX11_addType 8 = .ok (.if_icmp .ge 10, 3) := by decide +kernel
theorem dX11_addType_11 : decode cX11_addType 11 = .ok (.aload_n 0, 1) := by decide +kernel
theorem dX11_addType_12 : decode cX11_addType 12 = .ok (.getfield 51, 3) := by decide +kernel
theorem dX11_addType_15 : decode cX11_addType 15 = .ok (.ifCond .eq 11, 3) := by decide +kernel
theorem dX11_addType_26 : decode cX11_addType 26 = .ok (.aload_n 0, 1) := by decide +kernel
theorem dX11_addType_27 : decode cX11_addType 27 = .ok (.getfield 10, 3) := by decide +kernel
theorem dX11_addType_30 : decode cX11_addType 30 = .ok (.invokevirtual 70, 3) := by decide +kernel
theorem dX11_addType_33 : decode cX11_addType 33 = .ok (.ireturn, 1) := by decide +kernel
set_option maxRecDepth 20000 in
theorem ggX11_addConstructor_X10_hasType : GoodIn wsX11_addConstructor wsX10_hasType := goodIn_r _ [13, 14, 86, 87, 88, 89, 90] (by decide +kernel) (by decide +kernel)
set_option maxRecDepth 20000 in
theorem gX11_addConstructor_X10_hasType : GoodIn wsX11_addConstructor (wsV RX11 73 RX10 yX10_hasType wsX10_hasType) := goodIn_app (goodIn_of _ (by decide +kernel)) ggX11_addConstructor_X10_hasType
theorem dX11_addConstructor_0 : decode cX11_addConstructor 0 = .ok (.aload_n 0, 1) := by decide +kernel
theorem dX11_addConstructor_1 : decode cX11_addConstructor 1 = .ok (.getfield 10, 3) := by decide +kernel
theorem dX11_addConstructor_4 : decode cX11_addConstructor 4 = .ok (.iload_n 1, 1) := by decide +kernel
theorem dX11_addConstructor_5 : decode cX11_addConstructor 5 = .ok (.invokevirtual 73, 3) := by decide +kernel
theorem dX11_addConstructor_8 : decode cX11_addConstructor 8 = .ok (.ifCond .eq 19, 3) := by decide +kernel
theorem dX11_addConstructor_27 : decode cX11_addConstructor 27 = .ok (.new 80, 3) := by decide +kernel
theorem dX11_addConstructor_30 : decode cX11_addConstructor 30 = .ok (.dup, 1) := by decide +kernel
theorem dX11_addConstructor_31 : decode cX11_addConstructor 31 = .ok (.invokespecial 82, 3) := by decide +kernel
theorem dX11_addConstructor_34 : decode cX11_addConstructor 34 = .ok (.athrow, 1) := by decide +kernel
set_option maxRecDepth 20000 in
theorem ggX11_term_X10_hasConstructor : GoodIn wsX11_term wsX10_hasConstructor := goodIn_r _ [12, 13, 14, 15, 16, 17, 18, 19, 126, 127, 128, 129, 130, 131, 132, 133] (by decide +kernel) (by decide +kernel)
set_option maxRecDepth 20000 in
theorem gX11_term_X10_hasConstructor : GoodIn wsX11_term (wsV RX11 93 RX10 yX10_hasConstructor wsX10_hasConstructor) := goodIn_app (goodIn_of _ (by decide +kernel)) ggX11_term_X10_hasConstructor
theorem dX11_term_0 : decode cX11_term 0 = .ok (.aload_n 0, 1) := by decide +kernel
theorem dX11_term_1 : decode cX11_term 1 = .ok (.getfield 10, 3) := by decide +kernel
theorem dX11_term_4 : decode cX11_term 4 = .ok (.iload_n 1, 1) := by decide +kernel
theorem dX11_term_5 : decode cX11_term 5 = .ok (.invokevirtual 93, 3) := by decide +kernel
theorem dX11_term_8 : decode cX11_term 8 = .ok (.ifCond .eq 16, 3) := by decide +kernel
theorem dX11_term_24 : decode cX11_term 24 = .ok (.new 80, 3) := by decide +kernel
theorem dX11_term_27 : decode cX11_term 27 = .ok (.dup, 1) := by decide +kernel
theorem dX11_term_28 : decode cX11_term 28 = .ok (.invokespecial 82, 3) := by decide +kernel
theorem dX11_term_31 : decode cX11_term 31 = .ok (.athrow, 1) := by decide +kernel
set_option maxRecDepth 20000 in
theorem ggX11_constructorOf_X11_refuseMissingTerm : GoodIn wsX11_constructorOf wsX11_refuseMissingTerm := goodIn_ca (goodIn_r _ [6, 7, 8, 1, 9, 10, 11, 12, 13, 14, 15, 16, 17, 18, 19, 20, 31, 32, 33, 34, 35, 36, 37, 38, 39, 40, 41, 42, 43, 44, 45, 46, 47] (by decide +kernel) (by decide +kernel)) (goodIn_sub (fun _ h => List.mem_cons_of_mem _ (List.mem_append_left _ (List.mem_append_right _ h))) (by decide +kernel))
set_option maxRecDepth 20000 in
theorem gX11_constructorOf_X11_refuseMissingTerm : GoodIn wsX11_constructorOf (wsV RX11 106 RX11 yX11_refuseMissingTerm wsX11_refuseMissingTerm) := goodIn_app (goodIn_of _ (by decide +kernel)) ggX11_constructorOf_X11_refuseMissingTerm
theorem dX11_constructorOf_0 : decode cX11_constructorOf 0 = .ok (.aload_n 0, 1) := by decide +kernel
theorem dX11_constructorOf_1 : decode cX11_constructorOf 1 = .ok (.iload_n 1, 1) := by decide +kernel
theorem dX11_constructorOf_2 : decode cX11_constructorOf 2 = .ok (.invokevirtual 106, 3) := by decide +kernel
set_option maxRecDepth 20000 in
theorem ggX11_partOf_X11_refuseMissingTerm : GoodIn wsX11_partOf wsX11_refuseMissingTerm := goodIn_ca (goodIn_r _ [8, 9, 10, 3, 11, 12, 13, 14, 15, 16, 17, 18, 19, 20, 21, 22, 42, 43, 44, 45, 46, 47, 48, 49, 50, 51, 52, 53, 54, 55, 56, 57, 58] (by decide +kernel) (by decide +kernel)) (goodIn_sub (fun _ h => List.mem_cons_of_mem _ (List.mem_append_left _ (List.mem_append_right _ h))) (by decide +kernel))
set_option maxRecDepth 20000 in
theorem gX11_partOf_X11_refuseMissingTerm : GoodIn wsX11_partOf (wsV RX11 106 RX11 yX11_refuseMissingTerm wsX11_refuseMissingTerm) := goodIn_app (goodIn_of _ (by decide +kernel)) ggX11_partOf_X11_refuseMissingTerm
theorem dX11_partOf_0 : decode cX11_partOf 0 = .ok (.aload_n 0, 1) := by decide +kernel
theorem dX11_partOf_1 : decode cX11_partOf 1 = .ok (.iload_n 1, 1) := by decide +kernel
theorem dX11_partOf_2 : decode cX11_partOf 2 = .ok (.invokevirtual 106, 3) := by decide +kernel
set_option maxRecDepth 20000 in
theorem ggX11_sizeOf_X11_refuseMissingTerm : GoodIn wsX11_sizeOf wsX11_refuseMissingTerm := goodIn_ca (goodIn_r _ [6, 7, 8, 1, 9, 10, 11, 12, 13, 14, 15, 16, 17, 18, 19, 20, 26, 27, 28, 29, 30, 31, 32, 33, 34, 35, 36, 37, 38, 39, 40, 41, 42] (by decide +kernel) (by decide +kernel)) (goodIn_sub (fun _ h => List.mem_cons_of_mem _ (List.mem_append_left _ (List.mem_append_right _ h))) (by decide +kernel))
set_option maxRecDepth 20000 in
theorem gX11_sizeOf_X11_refuseMissingTerm : GoodIn wsX11_sizeOf (wsV RX11 106 RX11 yX11_refuseMissingTerm wsX11_refuseMissingTerm) := goodIn_app (goodIn_of _ (by decide +kernel)) ggX11_sizeOf_X11_refuseMissingTerm
theorem dX11_sizeOf_0 : decode cX11_sizeOf 0 = .ok (.aload_n 0, 1) := by decide +kernel
theorem dX11_sizeOf_1 : decode cX11_sizeOf 1 = .ok (.iload_n 1, 1) := by decide +kernel
theorem dX11_sizeOf_2 : decode cX11_sizeOf 2 = .ok (.invokevirtual 106, 3) := by decide +kernel
set_option maxRecDepth 20000 in
theorem ggX11_addPredicate_X11_isTypeOrNone : GoodIn wsX11_addPredicate wsX11_isTypeOrNone := goodIn_r _ [13, 14, 15, 16, 17, 18, 19, 20, 174, 175, 176, 177, 178, 179, 180, 181, 182, 183, 184, 185, 186, 187] (by decide +kernel) (by decide +kernel)
set_option maxRecDepth 20000 in
theorem gX11_addPredicate_X11_isTypeOrNone : GoodIn wsX11_addPredicate (wsV RX11 77 RX11 yX11_isTypeOrNone wsX11_isTypeOrNone) := goodIn_app (goodIn_of _ (by decide +kernel)) ggX11_addPredicate_X11_isTypeOrNone
set_option maxRecDepth 20000 in
theorem ggX11_addPredicate_X7_predicateCount : GoodIn wsX11_addPredicate wsX7_predicateCount := goodIn_r _ [25, 26, 27, 28, 29, 30, 31, 32, 188, 189, 190, 191, 192, 193] (by decide +kernel) (by decide +kernel)
set_option maxRecDepth 20000 in
theorem gX11_addPredicate_X7_predicateCount : GoodIn wsX11_addPredicate (wsV RX11 128 RX7 yX7_predicateCount wsX7_predicateCount) := goodIn_app (goodIn_of _ (by decide +kernel)) ggX11_addPredicate_X7_predicateCount
set_option maxRecDepth 20000 in
theorem ggX11_addPredicate_X7_newPredicate : GoodIn wsX11_addPredicate wsX7_newPredicate := goodIn_ca (goodIn_r _ [36, 26, 37, 38, 39, 27, 28, 29, 30, 31, 32, 40, 41, 42, 43, 44, 45, 46, 47, 48, 49, 50, 51, 52, 53, 54, 55, 56, 57, 58, 59, 60, 61, 62, 63, 64, 65, 66, 67, 68, 12, 69, 70, 71, 72, 73, 74, 75, 76, 77, 78, 79, 80, 81, 82, 83, 84, 85, 86, 87, 88, 89, 90, 91, 92, 93, 94, 95, 96, 97, 98, 99, 100, 101, 102, 103, 104, 105, 106, 107, 108, 109, 110, 111, 112, 113, 114, 115, 116, 117, 118, 119, 120, 121, 122, 123, 124, 125, 126, 127, 128, 129, 130, 131, 132, 133, 134, 135, 136, 137, 138, 139, 140, 141, 142, 143, 144, 145, 146, 147, 148, 149, 150, 151, 152, 153, 154, 155, 156, 157, 158, 159, 160, 161, 162, 163, 164, 165, 166, 167, 168, 169, 170, 171, 172, 173, 188, 189, 190, 194, 195, 196, 197, 198, 191, 192, 193, 199, 200, 201, 202, 203, 204, 205, 206, 207, 208, 209, 210, 211, 212, 213, 214, 215] (by decide +kernel) (by decide +kernel)) (goodIn_sub (fun _ h => List.mem_cons_of_mem _ (List.mem_append_right _ h)) (by decide +kernel))
set_option maxRecDepth 20000 in
theorem gX11_addPredicate_X7_newPredicate : GoodIn wsX11_addPredicate (wsV RX11 131 RX7 yX7_newPredicate wsX7_newPredicate) := goodIn_app (goodIn_of _ (by decide +kernel)) ggX11_addPredicate_X7_newPredicate
theorem dX11_addPredicate_0 : decode cX11_addPredicate 0 = .ok (.aload_n 0, 1) := by decide +kernel
theorem dX11_addPredicate_1 : decode cX11_addPredicate 1 = .ok (.iload_n 1, 1) := by decide +kernel
theorem dX11_addPredicate_2 : decode cX11_addPredicate 2 = .ok (.invokevirtual 77, 3) := by decide +kernel
theorem dX11_addPredicate_5 : decode cX11_addPredicate 5 = .ok (.ifCond .eq 19, 3) := by decide +kernel
theorem dX11_addPredicate_8 : decode cX11_addPredicate 8 = .ok (.aload_n 0, 1) := by decide +kernel
theorem dX11_addPredicate_9 : decode cX11_addPredicate 9 = .ok (.iload_n 2, 1) := by decide +kernel
theorem dX11_addPredicate_10 : decode cX11_addPredicate 10 = .ok (.invokevirtual 77, 3) := by decide +kernel
theorem dX11_addPredicate_13 : decode cX11_addPredicate 13 = .ok (.ifCond .eq 11, 3) := by decide +kernel
theorem dX11_addPredicate_16 : decode cX11_addPredicate 16 = .ok (.aload_n 0, 1) := by decide +kernel
theorem dX11_addPredicate_17 : decode cX11_addPredicate 17 = .ok (.iload_n 3, 1) := by decide +kernel
theorem dX11_addPredicate_18 : decode cX11_addPredicate 18 = .ok (.invokevirtual 77, 3) := by decide +kernel
theorem dX11_addPredicate_21 : decode cX11_addPredicate 21 = .ok (.ifCond .ne 11, 3) := by decide +kernel
theorem dX11_addPredicate_24 : decode cX11_addPredicate 24 = .ok (.new 80, 3) := by decide +kernel
theorem dX11_addPredicate_27 : decode cX11_addPredicate 27 = .ok (.dup, 1) := by decide +kernel
theorem dX11_addPredicate_28 : decode cX11_addPredicate 28 = .ok (.invokespecial 82, 3) := by decide +kernel
theorem dX11_addPredicate_31 : decode cX11_addPredicate 31 = .ok (.athrow, 1) := by decide +kernel
theorem dX11_addPredicate_32 : decode cX11_addPredicate 32 = .ok (.iload_n 1, 1) := by decide +kernel
theorem dX11_addPredicate_33 : decode cX11_addPredicate 33 = .ok (.iconst (-1), 1) := by decide +kernel
theorem dX11_addPredicate_34 : decode cX11_addPredicate 34 = .ok (.if_icmp .ne 8, 3) := by decide +kernel
theorem dX11_addPredicate_37 : decode cX11_addPredicate 37 = .ok (.iload_n 2, 1) := by decide +kernel
theorem dX11_addPredicate_38 : decode cX11_addPredicate 38 = .ok (.iconst (-1), 1) := by decide +kernel
theorem dX11_addPredicate_39 : decode cX11_addPredicate 39 = .ok (.if_icmp .ne 13, 3) := by decide +kernel
theorem dX11_addPredicate_42 : decode cX11_addPredicate 42 = .ok (.iload_n 2, 1) := by decide +kernel
theorem dX11_addPredicate_43 : decode cX11_addPredicate 43 = .ok (.iconst (-1), 1) := by decide +kernel
theorem dX11_addPredicate_44 : decode cX11_addPredicate 44 = .ok (.if_icmp .ne 16, 3) := by decide +kernel
theorem dX11_addPredicate_47 : decode cX11_addPredicate 47 = .ok (.iload_n 3, 1) := by decide +kernel
theorem dX11_addPredicate_48 : decode cX11_addPredicate 48 = .ok (.iconst (-1), 1) := by decide +kernel
theorem dX11_addPredicate_49 : decode cX11_addPredicate 49 = .ok (.if_icmp .eq 11, 3) := by decide +kernel
theorem dX11_addPredicate_60 : decode cX11_addPredicate 60 = .ok (.aload_n 0, 1) := by decide +kernel
theorem dX11_addPredicate_61 : decode cX11_addPredicate 61 = .ok (.getfield 19, 3) := by decide +kernel
theorem dX11_addPredicate_64 : decode cX11_addPredicate 64 = .ok (.invokevirtual 128, 3) := by decide +kernel
theorem dX11_addPredicate_67 : decode cX11_addPredicate 67 = .ok (.iconst 5, 1) := by decide +kernel
theorem dX11_addPredicate_68 : decode cX11_addPredicate 68 = .ok (.if_icmp .ge 10, 3) := by decide +kernel
theorem dX11_addPredicate_71 : decode cX11_addPredicate 71 = .ok (.aload_n 0, 1) := by decide +kernel
theorem dX11_addPredicate_72 : decode cX11_addPredicate 72 = .ok (.getfield 51, 3) := by decide +kernel
theorem dX11_addPredicate_75 : decode cX11_addPredicate 75 = .ok (.ifCond .eq 11, 3) := by decide +kernel
theorem dX11_addPredicate_86 : decode cX11_addPredicate 86 = .ok (.aload_n 0, 1) := by decide +kernel
theorem dX11_addPredicate_87 : decode cX11_addPredicate 87 = .ok (.getfield 19, 3) := by decide +kernel
theorem dX11_addPredicate_90 : decode cX11_addPredicate 90 = .ok (.iload_n 1, 1) := by decide +kernel
theorem dX11_addPredicate_91 : decode cX11_addPredicate 91 = .ok (.iload_n 2, 1) := by decide +kernel
theorem dX11_addPredicate_92 : decode cX11_addPredicate 92 = .ok (.iload_n 3, 1) := by decide +kernel
theorem dX11_addPredicate_93 : decode cX11_addPredicate 93 = .ok (.invokevirtual 131, 3) := by decide +kernel
theorem dX11_addPredicate_96 : decode cX11_addPredicate 96 = .ok (.ireturn, 1) := by decide +kernel
set_option maxRecDepth 20000 in
theorem ggX11_addMode_X7_predicateAt : GoodIn wsX11_addMode wsX7_predicateAt := goodIn_r _ [13, 14, 15, 16, 17, 18, 19, 20, 21, 22, 23, 24, 25, 26, 27, 28, 29, 30, 31, 32, 33, 34, 35, 36, 37, 38, 142, 143, 144, 145, 146, 147] (by decide +kernel) (by decide +kernel)
set_option maxRecDepth 20000 in
theorem gX11_addMode_X7_predicateAt : GoodIn wsX11_addMode (wsV RX11 134 RX7 yX7_predicateAt wsX7_predicateAt) := goodIn_app (goodIn_of _ (by decide +kernel)) ggX11_addMode_X7_predicateAt
theorem dX11_addMode_0 : decode cX11_addMode 0 = .ok (.aload_n 0, 1) := by decide +kernel
theorem dX11_addMode_1 : decode cX11_addMode 1 = .ok (.getfield 19, 3) := by decide +kernel
theorem dX11_addMode_4 : decode cX11_addMode 4 = .ok (.iload_n 1, 1) := by decide +kernel
theorem dX11_addMode_5 : decode cX11_addMode 5 = .ok (.invokevirtual 134, 3) := by decide +kernel
theorem dX11_addMode_8 : decode cX11_addMode 8 = .ok (.astore 4, 2) := by decide +kernel
theorem dX11_addMode_10 : decode cX11_addMode 10 = .ok (.aload 4, 2) := by decide +kernel
theorem dX11_addMode_12 : decode cX11_addMode 12 = .ok (.ifnonnull 11, 3) := by decide +kernel
theorem dX11_addMode_15 : decode cX11_addMode 15 = .ok (.new 80, 3) := by decide +kernel
theorem dX11_addMode_18 : decode cX11_addMode 18 = .ok (.dup, 1) := by decide +kernel
theorem dX11_addMode_19 : decode cX11_addMode 19 = .ok (.invokespecial 82, 3) := by decide +kernel
theorem dX11_addMode_22 : decode cX11_addMode 22 = .ok (.athrow, 1) := by decide +kernel
set_option maxRecDepth 20000 in
theorem ggX11_addClause_X7_predicateAt : GoodIn wsX11_addClause wsX7_predicateAt := goodIn_r _ [11, 12, 13, 14, 15, 16, 17, 18, 19, 20, 21, 22, 23, 24, 25, 26, 27, 28, 29, 30, 31, 32, 33, 34, 35, 36, 194, 195, 196, 197, 198, 199] (by decide +kernel) (by decide +kernel)
set_option maxRecDepth 20000 in
theorem gX11_addClause_X7_predicateAt : GoodIn wsX11_addClause (wsV RX11 134 RX7 yX7_predicateAt wsX7_predicateAt) := goodIn_app (goodIn_of _ (by decide +kernel)) ggX11_addClause_X7_predicateAt
theorem dX11_addClause_0 : decode cX11_addClause 0 = .ok (.aload_n 0, 1) := by decide +kernel
theorem dX11_addClause_1 : decode cX11_addClause 1 = .ok (.getfield 19, 3) := by decide +kernel
theorem dX11_addClause_4 : decode cX11_addClause 4 = .ok (.iload_n 1, 1) := by decide +kernel
theorem dX11_addClause_5 : decode cX11_addClause 5 = .ok (.invokevirtual 134, 3) := by decide +kernel
theorem dX11_addClause_8 : decode cX11_addClause 8 = .ok (.astore_n 2, 1) := by decide +kernel
theorem dX11_addClause_9 : decode cX11_addClause 9 = .ok (.aload_n 2, 1) := by decide +kernel
theorem dX11_addClause_10 : decode cX11_addClause 10 = .ok (.ifnonnull 11, 3) := by decide +kernel
theorem dX11_addClause_13 : decode cX11_addClause 13 = .ok (.new 80, 3) := by decide +kernel
theorem dX11_addClause_16 : decode cX11_addClause 16 = .ok (.dup, 1) := by decide +kernel
theorem dX11_addClause_17 : decode cX11_addClause 17 = .ok (.invokespecial 82, 3) := by decide +kernel
theorem dX11_addClause_20 : decode cX11_addClause 20 = .ok (.athrow, 1) := by decide +kernel
set_option maxRecDepth 20000 in
theorem ggX11_addBuild_X7_clauseAt : GoodIn wsX11_addBuild wsX7_clauseAt := goodIn_r _ [12, 13, 14, 15, 16, 17, 18, 19, 20, 21, 22, 23, 24, 25, 26, 27, 28, 29, 30, 31, 32, 33, 34, 35, 36, 37, 194, 195, 196, 197, 198, 199] (by decide +kernel) (by decide +kernel)
set_option maxRecDepth 20000 in
theorem gX11_addBuild_X7_clauseAt : GoodIn wsX11_addBuild (wsV RX11 161 RX7 yX7_clauseAt wsX7_clauseAt) := goodIn_app (goodIn_of _ (by decide +kernel)) ggX11_addBuild_X7_clauseAt
theorem dX11_addBuild_0 : decode cX11_addBuild 0 = .ok (.aload_n 0, 1) := by decide +kernel
theorem dX11_addBuild_1 : decode cX11_addBuild 1 = .ok (.getfield 19, 3) := by decide +kernel
theorem dX11_addBuild_4 : decode cX11_addBuild 4 = .ok (.iload_n 1, 1) := by decide +kernel
theorem dX11_addBuild_5 : decode cX11_addBuild 5 = .ok (.invokevirtual 161, 3) := by decide +kernel
theorem dX11_addBuild_8 : decode cX11_addBuild 8 = .ok (.astore 6, 2) := by decide +kernel
theorem dX11_addBuild_10 : decode cX11_addBuild 10 = .ok (.aload 6, 2) := by decide +kernel
theorem dX11_addBuild_12 : decode cX11_addBuild 12 = .ok (.ifnull 25, 3) := by decide +kernel
theorem dX11_addBuild_37 : decode cX11_addBuild 37 = .ok (.new 80, 3) := by decide +kernel
theorem dX11_addBuild_40 : decode cX11_addBuild 40 = .ok (.dup, 1) := by decide +kernel
theorem dX11_addBuild_41 : decode cX11_addBuild 41 = .ok (.invokespecial 82, 3) := by decide +kernel
theorem dX11_addBuild_44 : decode cX11_addBuild 44 = .ok (.athrow, 1) := by decide +kernel
set_option maxRecDepth 20000 in
theorem ggX11_addSame_X7_clauseAt : GoodIn wsX11_addSame wsX7_clauseAt := goodIn_r _ [13, 14, 15, 16, 17, 18, 19, 20, 21, 22, 23, 24, 25, 26, 27, 28, 29, 30, 31, 32, 33, 34, 35, 36, 37, 38, 171, 172, 173, 174, 175, 176] (by decide +kernel) (by decide +kernel)
set_option maxRecDepth 20000 in
theorem gX11_addSame_X7_clauseAt : GoodIn wsX11_addSame (wsV RX11 161 RX7 yX7_clauseAt wsX7_clauseAt) := goodIn_app (goodIn_of _ (by decide +kernel)) ggX11_addSame_X7_clauseAt
theorem dX11_addSame_0 : decode cX11_addSame 0 = .ok (.aload_n 0, 1) := by decide +kernel
theorem dX11_addSame_1 : decode cX11_addSame 1 = .ok (.getfield 19, 3) := by decide +kernel
theorem dX11_addSame_4 : decode cX11_addSame 4 = .ok (.iload_n 1, 1) := by decide +kernel
theorem dX11_addSame_5 : decode cX11_addSame 5 = .ok (.invokevirtual 161, 3) := by decide +kernel
theorem dX11_addSame_8 : decode cX11_addSame 8 = .ok (.astore 4, 2) := by decide +kernel
theorem dX11_addSame_10 : decode cX11_addSame 10 = .ok (.aload 4, 2) := by decide +kernel
theorem dX11_addSame_12 : decode cX11_addSame 12 = .ok (.ifnull 12, 3) := by decide +kernel
theorem dX11_addSame_24 : decode cX11_addSame 24 = .ok (.new 80, 3) := by decide +kernel
theorem dX11_addSame_27 : decode cX11_addSame 27 = .ok (.dup, 1) := by decide +kernel
theorem dX11_addSame_28 : decode cX11_addSame 28 = .ok (.invokespecial 82, 3) := by decide +kernel
theorem dX11_addSame_31 : decode cX11_addSame 31 = .ok (.athrow, 1) := by decide +kernel
set_option maxRecDepth 20000 in
theorem ggX11_addCall_X7_clauseAt : GoodIn wsX11_addCall wsX7_clauseAt := goodIn_r _ [11, 12, 13, 14, 15, 16, 17, 18, 19, 20, 21, 22, 23, 24, 25, 26, 27, 28, 29, 30, 31, 32, 33, 34, 35, 36, 191, 192, 193, 194, 195, 196] (by decide +kernel) (by decide +kernel)
set_option maxRecDepth 20000 in
theorem gX11_addCall_X7_clauseAt : GoodIn wsX11_addCall (wsV RX11 161 RX7 yX7_clauseAt wsX7_clauseAt) := goodIn_app (goodIn_of _ (by decide +kernel)) ggX11_addCall_X7_clauseAt
set_option maxRecDepth 20000 in
theorem ggX11_addCall_X7_predicateAt : GoodIn wsX11_addCall wsX7_predicateAt := goodIn_r _ [40, 41, 42, 14, 15, 16, 17, 18, 19, 20, 21, 22, 23, 24, 25, 26, 27, 28, 29, 30, 31, 32, 33, 34, 35, 36, 191, 192, 193, 194, 195, 196] (by decide +kernel) (by decide +kernel)
set_option maxRecDepth 20000 in
theorem gX11_addCall_X7_predicateAt : GoodIn wsX11_addCall (wsV RX11 134 RX7 yX7_predicateAt wsX7_predicateAt) := goodIn_app (goodIn_of _ (by decide +kernel)) ggX11_addCall_X7_predicateAt
theorem dX11_addCall_0 : decode cX11_addCall 0 = .ok (.aload_n 0, 1) := by decide +kernel
theorem dX11_addCall_1 : decode cX11_addCall 1 = .ok (.getfield 19, 3) := by decide +kernel
theorem dX11_addCall_4 : decode cX11_addCall 4 = .ok (.iload_n 1, 1) := by decide +kernel
theorem dX11_addCall_5 : decode cX11_addCall 5 = .ok (.invokevirtual 161, 3) := by decide +kernel
theorem dX11_addCall_8 : decode cX11_addCall 8 = .ok (.astore 7, 2) := by decide +kernel
theorem dX11_addCall_10 : decode cX11_addCall 10 = .ok (.aload_n 0, 1) := by decide +kernel
theorem dX11_addCall_11 : decode cX11_addCall 11 = .ok (.getfield 19, 3) := by decide +kernel
theorem dX11_addCall_14 : decode cX11_addCall 14 = .ok (.iload_n 2, 1) := by decide +kernel
theorem dX11_addCall_15 : decode cX11_addCall 15 = .ok (.invokevirtual 134, 3) := by decide +kernel
theorem dX11_addCall_18 : decode cX11_addCall 18 = .ok (.astore 8, 2) := by decide +kernel
theorem dX11_addCall_20 : decode cX11_addCall 20 = .ok (.aload 7, 2) := by decide +kernel
theorem dX11_addCall_22 : decode cX11_addCall 22 = .ok (.ifnull 19, 3) := by decide +kernel
theorem dX11_addCall_41 : decode cX11_addCall 41 = .ok (.new 80, 3) := by decide +kernel
theorem dX11_addCall_44 : decode cX11_addCall 44 = .ok (.dup, 1) := by decide +kernel
theorem dX11_addCall_45 : decode cX11_addCall 45 = .ok (.invokespecial 82, 3) := by decide +kernel
theorem dX11_addCall_48 : decode cX11_addCall 48 = .ok (.athrow, 1) := by decide +kernel
set_option maxRecDepth 20000 in
theorem ggX11_compile_X7_analyse : GoodIn wsX11_compile wsX7_analyse := goodIn_ca (goodIn_r _ [10, 11, 12, 13, 14, 15, 16, 17, 18, 19, 20, 21, 22, 23, 24, 25, 26, 27, 28, 29, 30, 31, 32, 33, 34, 35, 36, 37, 38, 9, 39, 40, 41, 42, 43, 44, 45, 46, 47, 48, 49, 50, 51, 52, 53, 54, 55, 56, 57, 58, 59, 60, 61, 62, 63, 64, 65, 66, 67, 68, 69, 70, 71, 72, 73, 74, 75, 76, 77, 78, 79, 80, 81, 82, 83, 84, 85, 86, 87, 88, 89, 90, 91, 92, 93, 94, 95, 96, 97, 98, 99, 100, 101, 102, 103, 104, 105, 106, 107, 108, 109, 110, 111, 112, 113, 114, 115, 116, 117, 118, 119, 120, 121, 122, 123, 124, 125, 126, 127, 128, 129, 130, 131, 132, 133, 134, 135, 136, 137, 138, 139, 140, 141, 142, 143, 144, 145, 146, 147, 148, 149, 150, 151, 152, 153, 154, 155, 156, 157, 158, 159, 160, 161, 162, 163, 164, 165, 166, 167, 168, 169, 170, 171, 172, 173, 174, 175, 176, 177, 178, 179, 180, 181, 182, 183, 184, 185, 186, 187, 188, 189, 190, 191, 192, 193, 194, 195, 196, 197, 198, 199, 200, 201, 202, 203, 204, 205, 206, 207, 208, 209, 210, 211, 212, 213, 214, 215, 216, 217, 218, 219, 220, 221, 222, 223, 224, 225, 252, 253, 254, 255, 256, 257, 258, 259, 260, 261, 262, 263, 264, 265, 266, 267, 268, 269, 270, 271, 272, 273, 274, 275, 276, 277, 278, 279, 280, 281, 282, 283, 284, 285, 286, 287, 288, 289, 290, 291, 292] (by decide +kernel) (by decide +kernel)) (goodIn_sub (fun _ h => List.mem_cons_of_mem _ (List.mem_append_right _ h)) (by decide +kernel))
set_option maxRecDepth 20000 in
theorem gX11_compile_X7_analyse : GoodIn wsX11_compile (wsV RX11 192 RX7 yX7_analyse wsX7_analyse) := goodIn_app (goodIn_of _ (by decide +kernel)) ggX11_compile_X7_analyse
set_option maxRecDepth 20000 in
theorem ggX11_compile_X7_faultCount : GoodIn wsX11_compile wsX7_faultCount := goodIn_r _ [229, 11, 12, 13, 14, 15, 16, 17, 18, 19, 20, 21, 22, 23, 24, 25, 26, 27, 28, 29, 30, 31, 32, 33, 34, 35, 230, 231, 232, 111, 233, 234, 235, 236, 237, 238, 239, 240, 241, 242, 252, 253, 254, 264, 265, 266, 255, 256, 257, 258, 259, 260, 261, 262, 263] (by decide +kernel) (by decide +kernel)
set_option maxRecDepth 20000 in
theorem gX11_compile_X7_faultCount : GoodIn wsX11_compile (wsV RX11 196 RX7 yX7_faultCount wsX7_faultCount) := goodIn_app (goodIn_of _ (by decide +kernel)) ggX11_compile_X7_faultCount
theorem dX11_compile_0 : decode cX11_compile 0 = .ok (.aload_n 0, 1) := by decide +kernel
theorem dX11_compile_1 : decode cX11_compile 1 = .ok (.getfield 51, 3) := by decide +kernel
theorem dX11_compile_4 : decode cX11_compile 4 = .ok (.ifCond .eq 11, 3) := by decide +kernel
theorem dX11_compile_15 : decode cX11_compile 15 = .ok (.aload_n 0, 1) := by decide +kernel
theorem dX11_compile_16 : decode cX11_compile 16 = .ok (.getfield 19, 3) := by decide +kernel
theorem dX11_compile_19 : decode cX11_compile 19 = .ok (.aload_n 0, 1) := by decide +kernel
theorem dX11_compile_20 : decode cX11_compile 20 = .ok (.getfield 10, 3) := by decide +kernel
theorem dX11_compile_23 : decode cX11_compile 23 = .ok (.invokevirtual 192, 3) := by decide +kernel
theorem dX11_compile_26 : decode cX11_compile 26 = .ok (.aload_n 0, 1) := by decide +kernel
theorem dX11_compile_27 : decode cX11_compile 27 = .ok (.iconst 1, 1) := by decide +kernel
theorem dX11_compile_28 : decode cX11_compile 28 = .ok (.putfield 51, 3) := by decide +kernel
theorem dX11_compile_31 : decode cX11_compile 31 = .ok (.aload_n 0, 1) := by decide +kernel
theorem dX11_compile_32 : decode cX11_compile 32 = .ok (.getfield 19, 3) := by decide +kernel
theorem dX11_compile_35 : decode cX11_compile 35 = .ok (.invokevirtual 196, 3) := by decide +kernel
theorem dX11_compile_38 : decode cX11_compile 38 = .ok (.ireturn, 1) := by decide +kernel
set_option maxRecDepth 20000 in
theorem ggX11_open_X11_refuseUncompiled : GoodIn wsX11_open wsX11_refuseUncompiled := goodIn_ca (goodIn_r _ [8, 9, 10, 2, 11, 12, 13, 14, 15, 16, 17, 18, 19] (by decide +kernel) (by decide +kernel)) (goodIn_sub (fun _ h => List.mem_cons_of_mem _ (List.mem_append_right _ h)) (by decide +kernel))
set_option maxRecDepth 20000 in
theorem gX11_open_X11_refuseUncompiled : GoodIn wsX11_open (wsV RX11 199 RX11 yX11_refuseUncompiled wsX11_refuseUncompiled) := goodIn_app (goodIn_of _ (by decide +kernel)) ggX11_open_X11_refuseUncompiled
theorem dX11_open_0 : decode cX11_open 0 = .ok (.aload_n 0, 1) := by decide +kernel
theorem dX11_open_1 : decode cX11_open 1 = .ok (.invokevirtual 199, 3) := by decide +kernel
set_option maxRecDepth 20000 in
theorem ggX11_fault_X11_compiledMode : GoodIn wsX11_fault wsX11_compiledMode := goodIn_ca (goodIn_ca (goodIn_r _ [5, 6, 7, 8, 9, 10, 11, 12, 13, 14, 15, 16, 17, 18, 19, 20, 21, 22, 23, 24, 25, 26, 27, 28, 29, 30, 31, 32, 33, 34, 35, 36, 37, 38, 39, 40, 41, 42, 43, 44, 45, 46, 47, 48, 49, 50, 51, 52, 53, 54, 4, 55, 56, 57, 58, 73, 74, 75, 76, 77, 78, 79, 80, 81, 82, 83, 84, 85, 86, 87, 88, 89, 90, 91, 92] (by decide +kernel) (by decide +kernel)) (goodIn_sub (fun _ h => List.mem_cons_of_mem _ (List.mem_append_left _ (List.mem_append_right _ h))) (by decide +kernel))) (goodIn_sub (fun _ h => List.mem_cons_of_mem _ (List.mem_append_right _ h)) (by decide +kernel))
set_option maxRecDepth 20000 in
theorem gX11_fault_X11_compiledMode : GoodIn wsX11_fault (wsV RX11 202 RX11 yX11_compiledMode wsX11_compiledMode) := goodIn_app (goodIn_of _ (by decide +kernel)) ggX11_fault_X11_compiledMode
theorem dX11_fault_0 : decode cX11_fault 0 = .ok (.aload_n 0, 1) := by decide +kernel
theorem dX11_fault_1 : decode cX11_fault 1 = .ok (.iload_n 1, 1) := by decide +kernel
theorem dX11_fault_2 : decode cX11_fault 2 = .ok (.iload_n 2, 1) := by decide +kernel
theorem dX11_fault_3 : decode cX11_fault 3 = .ok (.invokevirtual 202, 3) := by decide +kernel
set_option maxRecDepth 20000 in
theorem ggX11_isGood_X11_compiledMode : GoodIn wsX11_isGood wsX11_compiledMode := goodIn_ca (goodIn_ca (goodIn_r _ [5, 6, 7, 8, 9, 10, 11, 12, 13, 14, 15, 16, 17, 18, 19, 20, 21, 22, 23, 24, 25, 26, 27, 28, 29, 30, 31, 32, 33, 34, 35, 36, 37, 38, 39, 40, 41, 42, 43, 44, 45, 46, 47, 48, 49, 50, 51, 52, 53, 54, 4, 55, 56, 57, 58, 68, 69, 70, 71, 72, 73, 74, 75, 76, 77, 78, 79, 80, 81, 82, 83, 84, 85, 86, 87] (by decide +kernel) (by decide +kernel)) (goodIn_sub (fun _ h => List.mem_cons_of_mem _ (List.mem_append_left _ (List.mem_append_right _ h))) (by decide +kernel))) (goodIn_sub (fun _ h => List.mem_cons_of_mem _ (List.mem_append_right _ h)) (by decide +kernel))
set_option maxRecDepth 20000 in
theorem gX11_isGood_X11_compiledMode : GoodIn wsX11_isGood (wsV RX11 202 RX11 yX11_compiledMode wsX11_compiledMode) := goodIn_app (goodIn_of _ (by decide +kernel)) ggX11_isGood_X11_compiledMode
theorem dX11_isGood_0 : decode cX11_isGood 0 = .ok (.aload_n 0, 1) := by decide +kernel
theorem dX11_isGood_1 : decode cX11_isGood 1 = .ok (.iload_n 1, 1) := by decide +kernel
theorem dX11_isGood_2 : decode cX11_isGood 2 = .ok (.iload_n 2, 1) := by decide +kernel
theorem dX11_isGood_3 : decode cX11_isGood 3 = .ok (.invokevirtual 202, 3) := by decide +kernel
set_option maxRecDepth 20000 in
theorem ggX11_found_X11_compiledMode : GoodIn wsX11_found wsX11_compiledMode := goodIn_ca (goodIn_ca (goodIn_r _ [7, 8, 9, 10, 11, 12, 13, 14, 15, 16, 17, 18, 19, 20, 21, 22, 23, 24, 25, 26, 27, 28, 29, 30, 31, 32, 33, 34, 35, 36, 37, 38, 39, 40, 41, 42, 43, 44, 45, 46, 47, 48, 49, 50, 51, 52, 53, 54, 55, 56, 6, 57, 58, 59, 60, 77, 78, 79, 80, 81, 82, 83, 84, 85, 86, 87, 88, 89, 90, 91, 92, 93, 94, 95, 96] (by decide +kernel) (by decide +kernel)) (goodIn_sub (fun _ h => List.mem_cons_of_mem _ (List.mem_append_left _ (List.mem_append_right _ h))) (by decide +kernel))) (goodIn_sub (fun _ h => List.mem_cons_of_mem _ (List.mem_append_right _ h)) (by decide +kernel))
set_option maxRecDepth 20000 in
theorem gX11_found_X11_compiledMode : GoodIn wsX11_found (wsV RX11 202 RX11 yX11_compiledMode wsX11_compiledMode) := goodIn_app (goodIn_of _ (by decide +kernel)) ggX11_found_X11_compiledMode
theorem dX11_found_0 : decode cX11_found 0 = .ok (.aload_n 0, 1) := by decide +kernel
theorem dX11_found_1 : decode cX11_found 1 = .ok (.iload_n 1, 1) := by decide +kernel
theorem dX11_found_2 : decode cX11_found 2 = .ok (.iload_n 2, 1) := by decide +kernel
theorem dX11_found_3 : decode cX11_found 3 = .ok (.invokevirtual 202, 3) := by decide +kernel
set_option maxRecDepth 20000 in
theorem ggX11_switchOf_X11_compiledMode : GoodIn wsX11_switchOf wsX11_compiledMode := goodIn_ca (goodIn_ca (goodIn_r _ [7, 8, 9, 10, 11, 12, 13, 14, 15, 16, 17, 18, 19, 20, 21, 22, 23, 24, 25, 26, 27, 28, 29, 30, 31, 32, 33, 34, 35, 36, 37, 38, 39, 40, 41, 42, 43, 44, 45, 46, 47, 48, 49, 50, 51, 52, 53, 54, 55, 56, 6, 57, 58, 59, 60, 70, 71, 72, 73, 74, 75, 76, 77, 78, 79, 80, 81, 82, 83, 84, 85, 86, 87, 88, 89] (by decide +kernel) (by decide +kernel)) (goodIn_sub (fun _ h => List.mem_cons_of_mem _ (List.mem_append_left _ (List.mem_append_right _ h))) (by decide +kernel))) (goodIn_sub (fun _ h => List.mem_cons_of_mem _ (List.mem_append_right _ h)) (by decide +kernel))
set_option maxRecDepth 20000 in
theorem gX11_switchOf_X11_compiledMode : GoodIn wsX11_switchOf (wsV RX11 202 RX11 yX11_compiledMode wsX11_compiledMode) := goodIn_app (goodIn_of _ (by decide +kernel)) ggX11_switchOf_X11_compiledMode
theorem dX11_switchOf_0 : decode cX11_switchOf 0 = .ok (.aload_n 0, 1) := by decide +kernel
theorem dX11_switchOf_1 : decode cX11_switchOf 1 = .ok (.iload_n 1, 1) := by decide +kernel
theorem dX11_switchOf_2 : decode cX11_switchOf 2 = .ok (.iload_n 2, 1) := by decide +kernel
theorem dX11_switchOf_3 : decode cX11_switchOf 3 = .ok (.invokevirtual 202, 3) := by decide +kernel
set_option maxRecDepth 20000 in
theorem ggX11_goalAt_X11_orderedClause : GoodIn wsX11_goalAt wsX11_orderedClause := goodIn_ca (goodIn_ca (goodIn_r _ [7, 8, 9, 10, 11, 12, 13, 14, 15, 16, 17, 18, 19, 20, 21, 22, 23, 24, 25, 26, 27, 28, 29, 30, 31, 32, 33, 34, 35, 36, 37, 38, 39, 40, 41, 42, 43, 44, 45, 46, 47, 48, 49, 50, 51, 52, 6, 53, 54, 55, 56, 68, 69, 70, 71, 72, 73, 74, 75, 76, 77, 78, 79, 80, 81, 82, 83, 84, 85, 86, 87, 88, 89, 90, 91, 92, 93, 94, 95, 96] (by decide +kernel) (by decide +kernel)) (goodIn_sub (fun _ h => List.mem_cons_of_mem _ (List.mem_append_left _ (List.mem_append_left _ (List.mem_append_right _ h)))) (by decide +kernel))) (goodIn_sub (fun _ h => List.mem_cons_of_mem _ (List.mem_append_left _ (List.mem_append_right _ h))) (by decide +kernel))
set_option maxRecDepth 20000 in
theorem gX11_goalAt_X11_orderedClause : GoodIn wsX11_goalAt (wsV RX11 224 RX11 yX11_orderedClause wsX11_orderedClause) := goodIn_app (goodIn_of _ (by decide +kernel)) ggX11_goalAt_X11_orderedClause
theorem dX11_goalAt_0 : decode cX11_goalAt 0 = .ok (.aload_n 0, 1) := by decide +kernel
theorem dX11_goalAt_1 : decode cX11_goalAt 1 = .ok (.iload_n 1, 1) := by decide +kernel
theorem dX11_goalAt_2 : decode cX11_goalAt 2 = .ok (.iload_n 2, 1) := by decide +kernel
theorem dX11_goalAt_3 : decode cX11_goalAt 3 = .ok (.invokevirtual 224, 3) := by decide +kernel
set_option maxRecDepth 20000 in
theorem ggX11_chosenAt_X11_orderedClause : GoodIn wsX11_chosenAt wsX11_orderedClause := goodIn_ca (goodIn_ca (goodIn_r _ [7, 8, 9, 10, 11, 12, 13, 14, 15, 16, 17, 18, 19, 20, 21, 22, 23, 24, 25, 26, 27, 28, 29, 30, 31, 32, 33, 34, 35, 36, 37, 38, 39, 40, 41, 42, 43, 44, 45, 46, 47, 48, 49, 50, 51, 52, 6, 53, 54, 55, 56, 77, 78, 79, 80, 81, 82, 83, 84, 85, 86, 87, 88, 89, 90, 91, 92, 93, 94, 95, 96, 97, 98, 99, 100, 101, 102, 103, 104, 105] (by decide +kernel) (by decide +kernel)) (goodIn_sub (fun _ h => List.mem_cons_of_mem _ (List.mem_append_left _ (List.mem_append_left _ (List.mem_append_right _ h)))) (by decide +kernel))) (goodIn_sub (fun _ h => List.mem_cons_of_mem _ (List.mem_append_left _ (List.mem_append_right _ h))) (by decide +kernel))
set_option maxRecDepth 20000 in
theorem gX11_chosenAt_X11_orderedClause : GoodIn wsX11_chosenAt (wsV RX11 224 RX11 yX11_orderedClause wsX11_orderedClause) := goodIn_app (goodIn_of _ (by decide +kernel)) ggX11_chosenAt_X11_orderedClause
theorem dX11_chosenAt_0 : decode cX11_chosenAt 0 = .ok (.aload_n 0, 1) := by decide +kernel
theorem dX11_chosenAt_1 : decode cX11_chosenAt 1 = .ok (.iload_n 1, 1) := by decide +kernel
theorem dX11_chosenAt_2 : decode cX11_chosenAt 2 = .ok (.iload_n 2, 1) := by decide +kernel
theorem dX11_chosenAt_3 : decode cX11_chosenAt 3 = .ok (.invokevirtual 224, 3) := by decide +kernel
set_option maxRecDepth 20000 in
theorem ggX11_ask_X7_modeAt : GoodIn wsX11_ask wsX7_modeAt := goodIn_r _ [17, 18, 19, 20, 16, 21, 22, 23, 24, 25, 26, 27, 28, 29, 30, 31, 32, 33, 34, 35, 36, 37, 38, 39, 40, 41, 42, 43, 44, 45, 46, 47, 48, 49, 50, 51, 52, 53, 54, 55, 481, 482, 483, 484, 485, 486, 487, 488, 489, 490, 491] (by decide +kernel) (by decide +kernel)
set_option maxRecDepth 20000 in
theorem gX11_ask_X7_modeAt : GoodIn wsX11_ask (wsV RX11 237 RX7 yX7_modeAt wsX7_modeAt) := goodIn_app (goodIn_of _ (by decide +kernel)) ggX11_ask_X7_modeAt
theorem dX11_ask_0 : decode cX11_ask 0 = .ok (.aload_n 0, 1) := by decide +kernel
theorem dX11_ask_1 : decode cX11_ask 1 = .ok (.getfield 19, 3) := by decide +kernel
theorem dX11_ask_4 : decode cX11_ask 4 = .ok (.iload_n 1, 1) := by decide +kernel
theorem dX11_ask_5 : decode cX11_ask 5 = .ok (.iload_n 2, 1) := by decide +kernel
theorem dX11_ask_6 : decode cX11_ask 6 = .ok (.invokevirtual 237, 3) := by decide +kernel
theorem dX11_ask_9 : decode cX11_ask 9 = .ok (.astore 6, 2) := by decide +kernel
theorem dX11_ask_11 : decode cX11_ask 11 = .ok (.aload 6, 2) := by decide +kernel
theorem dX11_ask_13 : decode cX11_ask 13 = .ok (.ifnull 17, 3) := by decide +kernel
theorem dX11_ask_30 : decode cX11_ask 30 = .ok (.new 80, 3) := by decide +kernel
theorem dX11_ask_33 : decode cX11_ask 33 = .ok (.dup, 1) := by decide +kernel
theorem dX11_ask_34 : decode cX11_ask 34 = .ok (.invokespecial 82, 3) := by decide +kernel
theorem dX11_ask_37 : decode cX11_ask 37 = .ok (.athrow, 1) := by decide +kernel
set_option maxRecDepth 20000 in
theorem ggX11_ending_X11_refuseUnasked : GoodIn wsX11_ending wsX11_refuseUnasked := goodIn_ca (goodIn_r _ [6, 7, 8, 9, 10, 11, 12, 13, 14, 15, 16, 17, 18] (by decide +kernel) (by decide +kernel)) (goodIn_sub (fun _ h => List.mem_cons_of_mem _ (List.mem_append_right _ h)) (by decide +kernel))
set_option maxRecDepth 20000 in
theorem gX11_ending_X11_refuseUnasked : GoodIn wsX11_ending (wsV RX11 264 RX11 yX11_refuseUnasked wsX11_refuseUnasked) := goodIn_app (goodIn_of _ (by decide +kernel)) ggX11_ending_X11_refuseUnasked
theorem dX11_ending_0 : decode cX11_ending 0 = .ok (.aload_n 0, 1) := by decide +kernel
theorem dX11_ending_1 : decode cX11_ending 1 = .ok (.invokevirtual 264, 3) := by decide +kernel
set_option maxRecDepth 20000 in
theorem ggX11_answerAt_X11_refuseUnasked : GoodIn wsX11_answerAt wsX11_refuseUnasked := goodIn_ca (goodIn_r _ [8, 9, 10, 11, 46, 47, 48, 49, 50, 51, 52, 53, 54] (by decide +kernel) (by decide +kernel)) (goodIn_sub (fun _ h => List.mem_cons_of_mem _ (List.mem_append_left _ (List.mem_append_right _ h))) (by decide +kernel))
set_option maxRecDepth 20000 in
theorem gX11_answerAt_X11_refuseUnasked : GoodIn wsX11_answerAt (wsV RX11 264 RX11 yX11_refuseUnasked wsX11_refuseUnasked) := goodIn_app (goodIn_of _ (by decide +kernel)) ggX11_answerAt_X11_refuseUnasked
theorem dX11_answerAt_0 : decode cX11_answerAt 0 = .ok (.aload_n 0, 1) := by decide +kernel
theorem dX11_answerAt_1 : decode cX11_answerAt 1 = .ok (.invokevirtual 264, 3) := by decide +kernel
set_option maxRecDepth 20000 in
theorem ggX11_multiplicity_X11_refuseUnasked : GoodIn wsX11_multiplicity wsX11_refuseUnasked := goodIn_ca (goodIn_r _ [8, 9, 10, 11, 34, 35, 36, 37, 38, 39, 40, 41, 42] (by decide +kernel) (by decide +kernel)) (goodIn_sub (fun _ h => List.mem_cons_of_mem _ (List.mem_append_left _ (List.mem_append_right _ h))) (by decide +kernel))
set_option maxRecDepth 20000 in
theorem gX11_multiplicity_X11_refuseUnasked : GoodIn wsX11_multiplicity (wsV RX11 264 RX11 yX11_refuseUnasked wsX11_refuseUnasked) := goodIn_app (goodIn_of _ (by decide +kernel)) ggX11_multiplicity_X11_refuseUnasked
theorem dX11_multiplicity_0 : decode cX11_multiplicity 0 = .ok (.aload_n 0, 1) := by decide +kernel
theorem dX11_multiplicity_1 : decode cX11_multiplicity 1 = .ok (.invokevirtual 264, 3) := by decide +kernel
set_option maxRecDepth 20000 in
theorem ggX11_answersByBreadth_X11_refuseUnasked : GoodIn wsX11_answersByBreadth wsX11_refuseUnasked := goodIn_ca (goodIn_r _ [9, 10, 11, 12, 303, 304, 305, 306, 307, 308, 309, 310, 311] (by decide +kernel) (by decide +kernel)) (goodIn_sub (fun _ h => List.mem_cons_of_mem _ (List.mem_append_left _ (List.mem_append_right _ h))) (by decide +kernel))
set_option maxRecDepth 20000 in
theorem gX11_answersByBreadth_X11_refuseUnasked : GoodIn wsX11_answersByBreadth (wsV RX11 264 RX11 yX11_refuseUnasked wsX11_refuseUnasked) := goodIn_app (goodIn_of _ (by decide +kernel)) ggX11_answersByBreadth_X11_refuseUnasked
theorem dX11_answersByBreadth_0 : decode cX11_answersByBreadth 0 = .ok (.aload_n 0, 1) := by decide +kernel
theorem dX11_answersByBreadth_1 : decode cX11_answersByBreadth 1 = .ok (.invokevirtual 264, 3) := by decide +kernel
set_option maxRecDepth 20000 in
theorem ggX11_steps_X11_refuseUnasked : GoodIn wsX11_steps wsX11_refuseUnasked := goodIn_ca (goodIn_r _ [6, 7, 8, 9, 10, 11, 12, 13, 14, 15, 16, 17, 18] (by decide +kernel) (by decide +kernel)) (goodIn_sub (fun _ h => List.mem_cons_of_mem _ (List.mem_append_right _ h)) (by decide +kernel))
set_option maxRecDepth 20000 in
theorem gX11_steps_X11_refuseUnasked : GoodIn wsX11_steps (wsV RX11 264 RX11 yX11_refuseUnasked wsX11_refuseUnasked) := goodIn_app (goodIn_of _ (by decide +kernel)) ggX11_steps_X11_refuseUnasked
theorem dX11_steps_0 : decode cX11_steps 0 = .ok (.aload_n 0, 1) := by decide +kernel
theorem dX11_steps_1 : decode cX11_steps 1 = .ok (.invokevirtual 264, 3) := by decide +kernel
set_option maxRecDepth 20000 in
theorem ggX11_choicePoints_X11_refuseUnasked : GoodIn wsX11_choicePoints wsX11_refuseUnasked := goodIn_ca (goodIn_r _ [6, 7, 8, 9, 10, 11, 12, 13, 14, 15, 16, 17, 18] (by decide +kernel) (by decide +kernel)) (goodIn_sub (fun _ h => List.mem_cons_of_mem _ (List.mem_append_right _ h)) (by decide +kernel))
set_option maxRecDepth 20000 in
theorem gX11_choicePoints_X11_refuseUnasked : GoodIn wsX11_choicePoints (wsV RX11 264 RX11 yX11_refuseUnasked wsX11_refuseUnasked) := goodIn_app (goodIn_of _ (by decide +kernel)) ggX11_choicePoints_X11_refuseUnasked
theorem dX11_choicePoints_0 : decode cX11_choicePoints 0 = .ok (.aload_n 0, 1) := by decide +kernel
theorem dX11_choicePoints_1 : decode cX11_choicePoints 1 = .ok (.invokevirtual 264, 3) := by decide +kernel
set_option maxRecDepth 20000 in
theorem ggX11_deepest_X11_refuseUnasked : GoodIn wsX11_deepest wsX11_refuseUnasked := goodIn_ca (goodIn_r _ [6, 7, 8, 9, 10, 11, 12, 13, 14, 15, 16, 17, 18] (by decide +kernel) (by decide +kernel)) (goodIn_sub (fun _ h => List.mem_cons_of_mem _ (List.mem_append_right _ h)) (by decide +kernel))
set_option maxRecDepth 20000 in
theorem gX11_deepest_X11_refuseUnasked : GoodIn wsX11_deepest (wsV RX11 264 RX11 yX11_refuseUnasked wsX11_refuseUnasked) := goodIn_app (goodIn_of _ (by decide +kernel)) ggX11_deepest_X11_refuseUnasked
theorem dX11_deepest_0 : decode cX11_deepest 0 = .ok (.aload_n 0, 1) := by decide +kernel
theorem dX11_deepest_1 : decode cX11_deepest 1 = .ok (.invokevirtual 264, 3) := by decide +kernel
set_option maxRecDepth 20000 in
theorem ggX11_recorded_X11_refuseUnasked : GoodIn wsX11_recorded wsX11_refuseUnasked := goodIn_ca (goodIn_r _ [6, 7, 8, 9, 22, 23, 24, 25, 26, 27, 28, 29, 30] (by decide +kernel) (by decide +kernel)) (goodIn_sub (fun _ h => List.mem_cons_of_mem _ (List.mem_append_right _ h)) (by decide +kernel))
set_option maxRecDepth 20000 in
theorem gX11_recorded_X11_refuseUnasked : GoodIn wsX11_recorded (wsV RX11 264 RX11 yX11_refuseUnasked wsX11_refuseUnasked) := goodIn_app (goodIn_of _ (by decide +kernel)) ggX11_recorded_X11_refuseUnasked
theorem dX11_recorded_0 : decode cX11_recorded 0 = .ok (.aload_n 0, 1) := by decide +kernel
theorem dX11_recorded_1 : decode cX11_recorded 1 = .ok (.invokevirtual 264, 3) := by decide +kernel
set_option maxRecDepth 20000 in
theorem ggX11_recordAt_X11_refuseMissingNote : GoodIn wsX11_recordAt wsX11_refuseMissingNote := goodIn_ca (goodIn_ca (goodIn_r _ [6, 7, 8, 1, 9, 10, 11, 5, 12, 13, 14, 15, 16, 17, 18, 19, 20, 21, 22, 23, 24, 25, 26, 27, 38, 39, 40, 41, 42, 43, 44, 45, 46, 47, 48, 49, 50, 51, 52, 53, 54, 55, 56, 57, 58, 59] (by decide +kernel) (by decide +kernel)) (goodIn_sub (fun _ h => List.mem_cons_of_mem _ (List.mem_append_left _ (List.mem_append_left _ (List.mem_append_right _ h)))) (by decide +kernel))) (goodIn_sub (fun _ h => List.mem_cons_of_mem _ (List.mem_append_left _ (List.mem_append_right _ h))) (by decide +kernel))
set_option maxRecDepth 20000 in
theorem gX11_recordAt_X11_refuseMissingNote : GoodIn wsX11_recordAt (wsV RX11 302 RX11 yX11_refuseMissingNote wsX11_refuseMissingNote) := goodIn_app (goodIn_of _ (by decide +kernel)) ggX11_recordAt_X11_refuseMissingNote
theorem dX11_recordAt_0 : decode cX11_recordAt 0 = .ok (.aload_n 0, 1) := by decide +kernel
theorem dX11_recordAt_1 : decode cX11_recordAt 1 = .ok (.iload_n 1, 1) := by decide +kernel
theorem dX11_recordAt_2 : decode cX11_recordAt 2 = .ok (.invokevirtual 302, 3) := by decide +kernel
set_option maxRecDepth 20000 in
theorem ggX11_whereAt_X11_refuseMissingNote : GoodIn wsX11_whereAt wsX11_refuseMissingNote := goodIn_ca (goodIn_ca (goodIn_r _ [6, 7, 8, 1, 9, 10, 11, 5, 12, 13, 14, 15, 16, 17, 18, 19, 20, 21, 22, 23, 24, 25, 26, 27, 38, 39, 40, 41, 42, 43, 44, 45, 46, 47, 48, 49, 50, 51, 52, 53, 54, 55, 56, 57, 58, 59] (by decide +kernel) (by decide +kernel)) (goodIn_sub (fun _ h => List.mem_cons_of_mem _ (List.mem_append_left _ (List.mem_append_left _ (List.mem_append_right _ h)))) (by decide +kernel))) (goodIn_sub (fun _ h => List.mem_cons_of_mem _ (List.mem_append_left _ (List.mem_append_right _ h))) (by decide +kernel))
set_option maxRecDepth 20000 in
theorem gX11_whereAt_X11_refuseMissingNote : GoodIn wsX11_whereAt (wsV RX11 302 RX11 yX11_refuseMissingNote wsX11_refuseMissingNote) := goodIn_app (goodIn_of _ (by decide +kernel)) ggX11_whereAt_X11_refuseMissingNote
theorem dX11_whereAt_0 : decode cX11_whereAt 0 = .ok (.aload_n 0, 1) := by decide +kernel
theorem dX11_whereAt_1 : decode cX11_whereAt 1 = .ok (.iload_n 1, 1) := by decide +kernel
theorem dX11_whereAt_2 : decode cX11_whereAt 2 = .ok (.invokevirtual 302, 3) := by decide +kernel
set_option maxRecDepth 20000 in
theorem ggX11_terms_X10_termCount : GoodIn wsX11_terms wsX10_termCount := goodIn_r _ [6, 7, 8, 9, 10, 11, 12, 13, 23, 24, 25, 26, 27, 28, 29, 30] (by decide +kernel) (by decide +kernel)
set_option maxRecDepth 20000 in
theorem gX11_terms_X10_termCount : GoodIn wsX11_terms (wsV RX11 312 RX10 yX10_termCount wsX10_termCount) := goodIn_app (goodIn_of _ (by decide +kernel)) ggX11_terms_X10_termCount
theorem dX11_terms_0 : decode cX11_terms 0 = .ok (.aload_n 0, 1) := by decide +kernel
theorem dX11_terms_1 : decode cX11_terms 1 = .ok (.getfield 10, 3) := by decide +kernel
theorem dX11_terms_4 : decode cX11_terms 4 = .ok (.invokevirtual 312, 3) := by decide +kernel
theorem dX11_terms_7 : decode cX11_terms 7 = .ok (.ireturn, 1) := by decide +kernel
set_option maxRecDepth 20000 in
theorem ggX11_onceShare_X11_refuseUncompiled : GoodIn wsX11_onceShare wsX11_refuseUncompiled := goodIn_ca (goodIn_r _ [8, 9, 10, 11, 46, 47, 48, 49, 50, 51, 52, 53, 54] (by decide +kernel) (by decide +kernel)) (goodIn_sub (fun _ h => List.mem_cons_of_mem _ (List.mem_append_right _ h)) (by decide +kernel))
set_option maxRecDepth 20000 in
theorem gX11_onceShare_X11_refuseUncompiled : GoodIn wsX11_onceShare (wsV RX11 199 RX11 yX11_refuseUncompiled wsX11_refuseUncompiled) := goodIn_app (goodIn_of _ (by decide +kernel)) ggX11_onceShare_X11_refuseUncompiled
theorem dX11_onceShare_0 : decode cX11_onceShare 0 = .ok (.aload_n 0, 1) := by decide +kernel
theorem dX11_onceShare_1 : decode cX11_onceShare 1 = .ok (.invokevirtual 199, 3) := by decide +kernel
theorem dX11_meanSteps_0 : decode cX11_meanSteps 0 = .ok (.aload_n 0, 1) := by decide +kernel
theorem dX11_meanSteps_1 : decode cX11_meanSteps 1 = .ok (.getfield 55, 3) := by decide +kernel
theorem dX11_meanSteps_4 : decode cX11_meanSteps 4 = .ok (.ifCond .ne 11, 3) := by decide +kernel
theorem dX11_meanSteps_7 : decode cX11_meanSteps 7 = .ok (.new 318, 3) := by decide +kernel
theorem dX11_meanSteps_10 : decode cX11_meanSteps 10 = .ok (.dup, 1) := by decide +kernel
theorem dX11_meanSteps_11 : decode cX11_meanSteps 11 = .ok (.invokespecial 320, 3) := by decide +kernel
theorem dX11_meanSteps_14 : decode cX11_meanSteps 14 = .ok (.athrow, 1) := by decide +kernel
set_option maxRecDepth 20000 in
theorem ggX11_isTypeOrNone_X10_hasType : GoodIn wsX11_isTypeOrNone wsX10_hasType := goodIn_r _ [6, 7, 17, 18, 19, 20, 21] (by decide +kernel) (by decide +kernel)
set_option maxRecDepth 20000 in
theorem gX11_isTypeOrNone_X10_hasType : GoodIn wsX11_isTypeOrNone (wsV RX11 73 RX10 yX10_hasType wsX10_hasType) := goodIn_app (goodIn_of _ (by decide +kernel)) ggX11_isTypeOrNone_X10_hasType
theorem dX11_isTypeOrNone_0 : decode cX11_isTypeOrNone 0 = .ok (.iload_n 1, 1) := by decide +kernel
theorem dX11_isTypeOrNone_1 : decode cX11_isTypeOrNone 1 = .ok (.iconst (-1), 1) := by decide +kernel
theorem dX11_isTypeOrNone_2 : decode cX11_isTypeOrNone 2 = .ok (.if_icmp .eq 14, 3) := by decide +kernel
theorem dX11_isTypeOrNone_5 : decode cX11_isTypeOrNone 5 = .ok (.aload_n 0, 1) := by decide +kernel
theorem dX11_isTypeOrNone_6 : decode cX11_isTypeOrNone 6 = .ok (.getfield 10, 3) := by decide +kernel
theorem dX11_isTypeOrNone_9 : decode cX11_isTypeOrNone 9 = .ok (.iload_n 1, 1) := by decide +kernel
theorem dX11_isTypeOrNone_10 : decode cX11_isTypeOrNone 10 = .ok (.invokevirtual 73, 3) := by decide +kernel
theorem dX11_isTypeOrNone_13 : decode cX11_isTypeOrNone 13 = .ok (.ifCond .eq 7, 3) := by decide +kernel
theorem dX11_isTypeOrNone_16 : decode cX11_isTypeOrNone 16 = .ok (.iconst 1, 1) := by decide +kernel
theorem dX11_isTypeOrNone_17 : decode cX11_isTypeOrNone 17 = .ok (.goto 4, 3) := by decide +kernel
theorem dX11_isTypeOrNone_20 : decode cX11_isTypeOrNone 20 = .ok (.iconst 0, 1) := by decide +kernel
theorem dX11_isTypeOrNone_21 : decode cX11_isTypeOrNone 21 = .ok (.ireturn, 1) := by decide +kernel
set_option maxRecDepth 20000 in
theorem ggX11_compiledMode_X7_modeAt : GoodIn wsX11_compiledMode wsX7_modeAt := goodIn_r _ [8, 9, 10, 11, 7, 12, 13, 14, 15, 16, 17, 18, 19, 20, 21, 22, 23, 24, 25, 26, 27, 28, 29, 30, 31, 32, 33, 34, 35, 36, 37, 38, 39, 40, 41, 42, 43, 44, 45, 46, 64, 65, 66, 67, 68, 69, 70, 71, 72, 73, 74] (by decide +kernel) (by decide +kernel)
set_option maxRecDepth 20000 in
theorem gX11_compiledMode_X7_modeAt : GoodIn wsX11_compiledMode (wsV RX11 237 RX7 yX7_modeAt wsX7_modeAt) := goodIn_app (goodIn_of _ (by decide +kernel)) ggX11_compiledMode_X7_modeAt
theorem dX11_compiledMode_0 : decode cX11_compiledMode 0 = .ok (.aload_n 0, 1) := by decide +kernel
theorem dX11_compiledMode_1 : decode cX11_compiledMode 1 = .ok (.getfield 19, 3) := by decide +kernel
theorem dX11_compiledMode_4 : decode cX11_compiledMode 4 = .ok (.iload_n 1, 1) := by decide +kernel
theorem dX11_compiledMode_5 : decode cX11_compiledMode 5 = .ok (.iload_n 2, 1) := by decide +kernel
theorem dX11_compiledMode_6 : decode cX11_compiledMode 6 = .ok (.invokevirtual 237, 3) := by decide +kernel
theorem dX11_compiledMode_9 : decode cX11_compiledMode 9 = .ok (.astore_n 3, 1) := by decide +kernel
theorem dX11_compiledMode_10 : decode cX11_compiledMode 10 = .ok (.aload_n 3, 1) := by decide +kernel
theorem dX11_compiledMode_11 : decode cX11_compiledMode 11 = .ok (.ifnonnull 11, 3) := by decide +kernel
theorem dX11_compiledMode_14 : decode cX11_compiledMode 14 = .ok (.new 80, 3) := by decide +kernel
theorem dX11_compiledMode_17 : decode cX11_compiledMode 17 = .ok (.dup, 1) := by decide +kernel
theorem dX11_compiledMode_18 : decode cX11_compiledMode 18 = .ok (.invokespecial 82, 3) := by decide +kernel
theorem dX11_compiledMode_21 : decode cX11_compiledMode 21 = .ok (.athrow, 1) := by decide +kernel
set_option maxRecDepth 20000 in
theorem ggX11_orderedClause_X7_clauseAt : GoodIn wsX11_orderedClause wsX7_clauseAt := goodIn_r _ [8, 9, 10, 11, 12, 13, 14, 15, 16, 17, 18, 19, 20, 21, 22, 23, 24, 25, 26, 27, 28, 29, 30, 31, 32, 33, 69, 70, 71, 72, 73, 74] (by decide +kernel) (by decide +kernel)
set_option maxRecDepth 20000 in
theorem gX11_orderedClause_X7_clauseAt : GoodIn wsX11_orderedClause (wsV RX11 161 RX7 yX7_clauseAt wsX7_clauseAt) := goodIn_app (goodIn_of _ (by decide +kernel)) ggX11_orderedClause_X7_clauseAt
theorem dX11_orderedClause_0 : decode cX11_orderedClause 0 = .ok (.aload_n 0, 1) := by decide +kernel
theorem dX11_orderedClause_1 : decode cX11_orderedClause 1 = .ok (.getfield 19, 3) := by decide +kernel
theorem dX11_orderedClause_4 : decode cX11_orderedClause 4 = .ok (.iload_n 1, 1) := by decide +kernel
theorem dX11_orderedClause_5 : decode cX11_orderedClause 5 = .ok (.invokevirtual 161, 3) := by decide +kernel
theorem dX11_orderedClause_8 : decode cX11_orderedClause 8 = .ok (.astore_n 3, 1) := by decide +kernel
theorem dX11_orderedClause_9 : decode cX11_orderedClause 9 = .ok (.aload_n 3, 1) := by decide +kernel
theorem dX11_orderedClause_10 : decode cX11_orderedClause 10 = .ok (.ifnull 14, 3) := by decide +kernel
theorem dX11_orderedClause_24 : decode cX11_orderedClause 24 = .ok (.new 80, 3) := by decide +kernel
theorem dX11_orderedClause_27 : decode cX11_orderedClause 27 = .ok (.dup, 1) := by decide +kernel
theorem dX11_orderedClause_28 : decode cX11_orderedClause 28 = .ok (.invokespecial 82, 3) := by decide +kernel
theorem dX11_orderedClause_31 : decode cX11_orderedClause 31 = .ok (.athrow, 1) := by decide +kernel
set_option maxRecDepth 20000 in
theorem ggX11_refuseMissingTerm_X10_hasTerm : GoodIn wsX11_refuseMissingTerm wsX10_hasTerm := goodIn_r _ [8, 9, 10, 11, 12, 13, 14, 15, 25, 26, 27, 28, 29, 30, 31, 32] (by decide +kernel) (by decide +kernel)
set_option maxRecDepth 20000 in
theorem gX11_refuseMissingTerm_X10_hasTerm : GoodIn wsX11_refuseMissingTerm (wsV RX11 346 RX10 yX10_hasTerm wsX10_hasTerm) := goodIn_app (goodIn_of _ (by decide +kernel)) ggX11_refuseMissingTerm_X10_hasTerm
theorem dX11_refuseMissingTerm_0 : decode cX11_refuseMissingTerm 0 = .ok (.aload_n 0, 1) := by decide +kernel
theorem dX11_refuseMissingTerm_1 : decode cX11_refuseMissingTerm 1 = .ok (.getfield 10, 3) := by decide +kernel
theorem dX11_refuseMissingTerm_4 : decode cX11_refuseMissingTerm 4 = .ok (.iload_n 1, 1) := by decide +kernel
theorem dX11_refuseMissingTerm_5 : decode cX11_refuseMissingTerm 5 = .ok (.invokevirtual 346, 3) := by decide +kernel
theorem dX11_refuseMissingTerm_8 : decode cX11_refuseMissingTerm 8 = .ok (.ifCond .ne 11, 3) := by decide +kernel
theorem dX11_refuseMissingTerm_11 : decode cX11_refuseMissingTerm 11 = .ok (.new 80, 3) := by decide +kernel
theorem dX11_refuseMissingTerm_14 : decode cX11_refuseMissingTerm 14 = .ok (.dup, 1) := by decide +kernel
theorem dX11_refuseMissingTerm_15 : decode cX11_refuseMissingTerm 15 = .ok (.invokespecial 82, 3) := by decide +kernel
theorem dX11_refuseMissingTerm_18 : decode cX11_refuseMissingTerm 18 = .ok (.athrow, 1) := by decide +kernel
theorem dX11_refuseUncompiled_0 : decode cX11_refuseUncompiled 0 = .ok (.aload_n 0, 1) := by decide +kernel
theorem dX11_refuseUncompiled_1 : decode cX11_refuseUncompiled 1 = .ok (.getfield 51, 3) := by decide +kernel
theorem dX11_refuseUncompiled_4 : decode cX11_refuseUncompiled 4 = .ok (.ifCond .ne 11, 3) := by decide +kernel
theorem dX11_refuseUncompiled_7 : decode cX11_refuseUncompiled 7 = .ok (.new 67, 3) := by decide +kernel
theorem dX11_refuseUncompiled_10 : decode cX11_refuseUncompiled 10 = .ok (.dup, 1) := by decide +kernel
theorem dX11_refuseUncompiled_11 : decode cX11_refuseUncompiled 11 = .ok (.invokespecial 69, 3) := by decide +kernel
theorem dX11_refuseUncompiled_14 : decode cX11_refuseUncompiled 14 = .ok (.athrow, 1) := by decide +kernel
theorem dX11_refuseUnasked_0 : decode cX11_refuseUnasked 0 = .ok (.aload_n 0, 1) := by decide +kernel
theorem dX11_refuseUnasked_1 : decode cX11_refuseUnasked 1 = .ok (.getfield 55, 3) := by decide +kernel
theorem dX11_refuseUnasked_4 : decode cX11_refuseUnasked 4 = .ok (.ifCond .ne 11, 3) := by decide +kernel
theorem dX11_refuseUnasked_7 : decode cX11_refuseUnasked 7 = .ok (.new 117, 3) := by decide +kernel
theorem dX11_refuseUnasked_10 : decode cX11_refuseUnasked 10 = .ok (.dup, 1) := by decide +kernel
theorem dX11_refuseUnasked_11 : decode cX11_refuseUnasked 11 = .ok (.invokespecial 119, 3) := by decide +kernel
theorem dX11_refuseUnasked_14 : decode cX11_refuseUnasked 14 = .ok (.athrow, 1) := by decide +kernel
set_option maxRecDepth 20000 in
theorem ggX11_refuseMissingNote_X11_refuseUnasked : GoodIn wsX11_refuseMissingNote wsX11_refuseUnasked := goodIn_ca (goodIn_r _ [8, 9, 10, 11, 24, 25, 26, 27, 28, 29, 30, 31, 32] (by decide +kernel) (by decide +kernel)) (goodIn_sub (fun _ h => List.mem_cons_of_mem _ (List.mem_append_right _ h)) (by decide +kernel))
set_option maxRecDepth 20000 in
theorem gX11_refuseMissingNote_X11_refuseUnasked : GoodIn wsX11_refuseMissingNote (wsV RX11 264 RX11 yX11_refuseUnasked wsX11_refuseUnasked) := goodIn_app (goodIn_of _ (by decide +kernel)) ggX11_refuseMissingNote_X11_refuseUnasked
theorem dX11_refuseMissingNote_0 : decode cX11_refuseMissingNote 0 = .ok (.aload_n 0, 1) := by decide +kernel
theorem dX11_refuseMissingNote_1 : decode cX11_refuseMissingNote 1 = .ok (.invokevirtual 264, 3) := by decide +kernel
theorem dX18_init_0 : decode cX18_init 0 = .ok (.aload_n 0, 1) := by decide +kernel
theorem dX18_init_1 : decode cX18_init 1 = .ok (.invokespecial 1, 3) := by decide +kernel
theorem dX18_init_4 : decode cX18_init 4 = .ok (.aload_n 0, 1) := by decide +kernel
theorem dX18_init_5 : decode cX18_init 5 = .ok (.bipush 10, 2) := by decide +kernel
theorem dX18_init_7 : decode cX18_init 7 = .ok (.newarray .int, 2) := by decide +kernel
theorem dX18_init_9 : decode cX18_init 9 = .ok (.putfield 7, 3) := by decide +kernel
theorem dX18_init_12 : decode cX18_init 12 = .ok (.aload_n 0, 1) := by decide +kernel
theorem dX18_init_13 : decode cX18_init 13 = .ok (.bipush 20, 2) := by decide +kernel
theorem dX18_init_15 : decode cX18_init 15 = .ok (.newarray .int, 2) := by decide +kernel
theorem dX18_init_17 : decode cX18_init 17 = .ok (.putfield 13, 3) := by decide +kernel
theorem dX18_init_20 : decode cX18_init 20 = .ok (.aload_n 0, 1) := by decide +kernel
theorem dX18_init_21 : decode cX18_init 21 = .ok (.sipush 200, 3) := by decide +kernel
theorem dX18_init_24 : decode cX18_init 24 = .ok (.newarray .int, 2) := by decide +kernel
theorem dX18_init_26 : decode cX18_init 26 = .ok (.putfield 16, 3) := by decide +kernel
theorem dX18_init_29 : decode cX18_init 29 = .ok (.aload_n 0, 1) := by decide +kernel
theorem dX18_init_30 : decode cX18_init 30 = .ok (.sipush 400, 3) := by decide +kernel
theorem dX18_init_33 : decode cX18_init 33 = .ok (.newarray .int, 2) := by decide +kernel
theorem dX18_init_35 : decode cX18_init 35 = .ok (.putfield 19, 3) := by decide +kernel
theorem dX18_init_38 : decode cX18_init 38 = .ok (.aload_n 0, 1) := by decide +kernel
theorem dX18_init_39 : decode cX18_init 39 = .ok (.sipush 200, 3) := by decide +kernel
theorem dX18_init_42 : decode cX18_init 42 = .ok (.newarray .long, 2) := by decide +kernel
theorem dX18_init_44 : decode cX18_init 44 = .ok (.putfield 22, 3) := by decide +kernel
theorem dX18_init_47 : decode cX18_init 47 = .ok (.aload_n 0, 1) := by decide +kernel
theorem dX18_init_48 : decode cX18_init 48 = .ok (.iconst 5, 1) := by decide +kernel
theorem dX18_init_49 : decode cX18_init 49 = .ok (.newarray .int, 2) := by decide +kernel
theorem dX18_init_51 : decode cX18_init 51 = .ok (.putfield 26, 3) := by decide +kernel
theorem dX18_init_54 : decode cX18_init 54 = .ok (.aload_n 0, 1) := by decide +kernel
theorem dX18_init_55 : decode cX18_init 55 = .ok (.bipush 15, 2) := by decide +kernel
theorem dX18_init_57 : decode cX18_init 57 = .ok (.newarray .int, 2) := by decide +kernel
theorem dX18_init_59 : decode cX18_init 59 = .ok (.putfield 29, 3) := by decide +kernel
theorem dX18_init_62 : decode cX18_init 62 = .ok (.aload_n 0, 1) := by decide +kernel
theorem dX18_init_63 : decode cX18_init 63 = .ok (.iconst 5, 1) := by decide +kernel
theorem dX18_init_64 : decode cX18_init 64 = .ok (.newarray .int, 2) := by decide +kernel
theorem dX18_init_66 : decode cX18_init 66 = .ok (.putfield 32, 3) := by decide +kernel
theorem dX18_init_69 : decode cX18_init 69 = .ok (.aload_n 0, 1) := by decide +kernel
theorem dX18_init_70 : decode cX18_init 70 = .ok (.bipush 10, 2) := by decide +kernel
theorem dX18_init_72 : decode cX18_init 72 = .ok (.newarray .int, 2) := by decide +kernel
theorem dX18_init_74 : decode cX18_init 74 = .ok (.putfield 35, 3) := by decide +kernel
theorem dX18_init_77 : decode cX18_init 77 = .ok (.aload_n 0, 1) := by decide +kernel
theorem dX18_init_78 : decode cX18_init 78 = .ok (.bipush 10, 2) := by decide +kernel
theorem dX18_init_80 : decode cX18_init 80 = .ok (.newarray .char, 2) := by decide +kernel
theorem dX18_init_82 : decode cX18_init 82 = .ok (.putfield 38, 3) := by decide +kernel
theorem dX18_init_85 : decode cX18_init 85 = .ok (.aload_n 0, 1) := by decide +kernel
theorem dX18_init_86 : decode cX18_init 86 = .ok (.bipush 12, 2) := by decide +kernel
theorem dX18_init_88 : decode cX18_init 88 = .ok (.newarray .int, 2) := by decide +kernel
theorem dX18_init_90 : decode cX18_init 90 = .ok (.putfield 42, 3) := by decide +kernel
theorem dX18_init_93 : decode cX18_init 93 = .ok (.aload_n 0, 1) := by decide +kernel
theorem dX18_init_94 : decode cX18_init 94 = .ok (.bipush 12, 2) := by decide +kernel
theorem dX18_init_96 : decode cX18_init 96 = .ok (.newarray .int, 2) := by decide +kernel
theorem dX18_init_98 : decode cX18_init 98 = .ok (.putfield 45, 3) := by decide +kernel
theorem dX18_init_101 : decode cX18_init 101 = .ok (.aload_n 0, 1) := by decide +kernel
theorem dX18_init_102 : decode cX18_init 102 = .ok (.bipush 96, 2) := by decide +kernel
theorem dX18_init_104 : decode cX18_init 104 = .ok (.newarray .int, 2) := by decide +kernel
theorem dX18_init_106 : decode cX18_init 106 = .ok (.putfield 48, 3) := by decide +kernel
theorem dX18_init_109 : decode cX18_init 109 = .ok (.aload_n 0, 1) := by decide +kernel
theorem dX18_init_110 : decode cX18_init 110 = .ok (.bipush 60, 2) := by decide +kernel
theorem dX18_init_112 : decode cX18_init 112 = .ok (.newarray .char, 2) := by decide +kernel
theorem dX18_init_114 : decode cX18_init 114 = .ok (.putfield 51, 3) := by decide +kernel
theorem dX18_init_117 : decode cX18_init 117 = .ok (.aload_n 0, 1) := by decide +kernel
theorem dX18_init_118 : decode cX18_init 118 = .ok (.bipush 60, 2) := by decide +kernel
theorem dX18_init_120 : decode cX18_init 120 = .ok (.newarray .int, 2) := by decide +kernel
theorem dX18_init_122 : decode cX18_init 122 = .ok (.putfield 54, 3) := by decide +kernel
theorem dX18_init_125 : decode cX18_init 125 = .ok (.aload_n 0, 1) := by decide +kernel
theorem dX18_init_126 : decode cX18_init 126 = .ok (.sipush 180, 3) := by decide +kernel
theorem dX18_init_129 : decode cX18_init 129 = .ok (.newarray .int, 2) := by decide +kernel
theorem dX18_init_131 : decode cX18_init 131 = .ok (.putfield 57, 3) := by decide +kernel
theorem dX18_init_134 : decode cX18_init 134 = .ok (.aload_n 0, 1) := by decide +kernel
theorem dX18_init_135 : decode cX18_init 135 = .ok (.bipush 24, 2) := by decide +kernel
theorem dX18_init_137 : decode cX18_init 137 = .ok (.newarray .int, 2) := by decide +kernel
theorem dX18_init_139 : decode cX18_init 139 = .ok (.putfield 60, 3) := by decide +kernel
theorem dX18_init_142 : decode cX18_init 142 = .ok (.aload_n 0, 1) := by decide +kernel
theorem dX18_init_143 : decode cX18_init 143 = .ok (.bipush 120, 2) := by decide +kernel
theorem dX18_init_145 : decode cX18_init 145 = .ok (.newarray .int, 2) := by decide +kernel
theorem dX18_init_147 : decode cX18_init 147 = .ok (.putfield 63, 3) := by decide +kernel
theorem dX18_init_150 : decode cX18_init 150 = .ok (.aload_n 0, 1) := by decide +kernel
theorem dX18_init_151 : decode cX18_init 151 = .ok (.bipush 120, 2) := by decide +kernel
theorem dX18_init_153 : decode cX18_init 153 = .ok (.newarray .int, 2) := by decide +kernel
theorem dX18_init_155 : decode cX18_init 155 = .ok (.putfield 66, 3) := by decide +kernel
theorem dX18_init_158 : decode cX18_init 158 = .ok (.aload_n 0, 1) := by decide +kernel
theorem dX18_init_159 : decode cX18_init 159 = .ok (.bipush 120, 2) := by decide +kernel
theorem dX18_init_161 : decode cX18_init 161 = .ok (.newarray .int, 2) := by decide +kernel
theorem dX18_init_163 : decode cX18_init 163 = .ok (.putfield 69, 3) := by decide +kernel
theorem dX18_init_166 : decode cX18_init 166 = .ok (.aload_n 0, 1) := by decide +kernel
theorem dX18_init_167 : decode cX18_init 167 = .ok (.bipush 10, 2) := by decide +kernel
theorem dX18_init_169 : decode cX18_init 169 = .ok (.newarray .boolean, 2) := by decide +kernel
theorem dX18_init_171 : decode cX18_init 171 = .ok (.putfield 72, 3) := by decide +kernel
theorem dX18_init_174 : decode cX18_init 174 = .ok (.aload_n 0, 1) := by decide +kernel
theorem dX18_init_175 : decode cX18_init 175 = .ok (.bipush 10, 2) := by decide +kernel
theorem dX18_init_177 : decode cX18_init 177 = .ok (.newarray .boolean, 2) := by decide +kernel
theorem dX18_init_179 : decode cX18_init 179 = .ok (.putfield 76, 3) := by decide +kernel
theorem dX18_init_182 : decode cX18_init 182 = .ok (.aload_n 0, 1) := by decide +kernel
theorem dX18_init_183 : decode cX18_init 183 = .ok (.bipush 10, 2) := by decide +kernel
theorem dX18_init_185 : decode cX18_init 185 = .ok (.newarray .boolean, 2) := by decide +kernel
theorem dX18_init_187 : decode cX18_init 187 = .ok (.putfield 79, 3) := by decide +kernel
theorem dX18_init_190 : decode cX18_init 190 = .ok (.aload_n 0, 1) := by decide +kernel
theorem dX18_init_191 : decode cX18_init 191 = .ok (.bipush 10, 2) := by decide +kernel
theorem dX18_init_193 : decode cX18_init 193 = .ok (.newarray .boolean, 2) := by decide +kernel
theorem dX18_init_195 : decode cX18_init 195 = .ok (.putfield 82, 3) := by decide +kernel
theorem dX18_init_198 : decode cX18_init 198 = .ok (.aload_n 0, 1) := by decide +kernel
theorem dX18_init_199 : decode cX18_init 199 = .ok (.bipush 10, 2) := by decide +kernel
theorem dX18_init_201 : decode cX18_init 201 = .ok (.newarray .int, 2) := by decide +kernel
theorem dX18_init_203 : decode cX18_init 203 = .ok (.putfield 85, 3) := by decide +kernel
theorem dX18_init_206 : decode cX18_init 206 = .ok (.aload_n 0, 1) := by decide +kernel
theorem dX18_init_207 : decode cX18_init 207 = .ok (.bipush 8, 2) := by decide +kernel
theorem dX18_init_209 : decode cX18_init 209 = .ok (.newarray .int, 2) := by decide +kernel
theorem dX18_init_211 : decode cX18_init 211 = .ok (.putfield 88, 3) := by decide +kernel
theorem dX18_init_214 : decode cX18_init 214 = .ok (.aload_n 0, 1) := by decide +kernel
theorem dX18_init_215 : decode cX18_init 215 = .ok (.iconst 3, 1) := by decide +kernel
theorem dX18_init_216 : decode cX18_init 216 = .ok (.newarray .int, 2) := by decide +kernel
theorem dX18_init_218 : decode cX18_init 218 = .ok (.putfield 91, 3) := by decide +kernel
theorem dX18_init_221 : decode cX18_init 221 = .ok (.aload_n 0, 1) := by decide +kernel
theorem dX18_init_222 : decode cX18_init 222 = .ok (.sipush 150, 3) := by decide +kernel
theorem dX18_init_225 : decode cX18_init 225 = .ok (.newarray .int, 2) := by decide +kernel
theorem dX18_init_227 : decode cX18_init 227 = .ok (.putfield 94, 3) := by decide +kernel
theorem dX18_init_230 : decode cX18_init 230 = .ok (.aload_n 0, 1) := by decide +kernel
theorem dX18_init_231 : decode cX18_init 231 = .ok (.bipush 80, 2) := by decide +kernel
theorem dX18_init_233 : decode cX18_init 233 = .ok (.newarray .char, 2) := by decide +kernel
theorem dX18_init_235 : decode cX18_init 235 = .ok (.putfield 97, 3) := by decide +kernel
theorem dX18_init_238 : decode cX18_init 238 = .ok (.aload_n 0, 1) := by decide +kernel
theorem dX18_init_239 : decode cX18_init 239 = .ok (.bipush 80, 2) := by decide +kernel
theorem dX18_init_241 : decode cX18_init 241 = .ok (.newarray .int, 2) := by decide +kernel
theorem dX18_init_243 : decode cX18_init 243 = .ok (.putfield 100, 3) := by decide +kernel
theorem dX18_init_246 : decode cX18_init 246 = .ok (.aload_n 0, 1) := by decide +kernel
theorem dX18_init_247 : decode cX18_init 247 = .ok (.sipush 150, 3) := by decide +kernel
theorem dX18_init_250 : decode cX18_init 250 = .ok (.newarray .int, 2) := by decide +kernel
theorem dX18_init_252 : decode cX18_init 252 = .ok (.putfield 103, 3) := by decide +kernel
theorem dX18_init_255 : decode cX18_init 255 = .ok (.aload_n 0, 1) := by decide +kernel
theorem dX18_init_256 : decode cX18_init 256 = .ok (.bipush 80, 2) := by decide +kernel
theorem dX18_init_258 : decode cX18_init 258 = .ok (.newarray .char, 2) := by decide +kernel
theorem dX18_init_260 : decode cX18_init 260 = .ok (.putfield 106, 3) := by decide +kernel
theorem dX18_init_263 : decode cX18_init 263 = .ok (.aload_n 0, 1) := by decide +kernel
theorem dX18_init_264 : decode cX18_init 264 = .ok (.bipush 80, 2) := by decide +kernel
theorem dX18_init_266 : decode cX18_init 266 = .ok (.newarray .int, 2) := by decide +kernel
theorem dX18_init_268 : decode cX18_init 268 = .ok (.putfield 109, 3) := by decide +kernel
theorem dX18_init_271 : decode cX18_init 271 = .ok (.aload_n 0, 1) := by decide +kernel
theorem dX18_init_272 : decode cX18_init 272 = .ok (.sipush 4000, 3) := by decide +kernel
theorem dX18_init_275 : decode cX18_init 275 = .ok (.anewarray 112, 3) := by decide +kernel
theorem dX18_init_278 : decode cX18_init 278 = .ok (.putfield 114, 3) := by decide +kernel
theorem dX18_init_281 : decode cX18_init 281 = .ok (.aload_n 0, 1) := by decide +kernel
theorem dX18_init_282 : decode cX18_init 282 = .ok (.sipush 4000, 3) := by decide +kernel
theorem dX18_init_285 : decode cX18_init 285 = .ok (.newarray .int, 2) := by decide +kernel
theorem dX18_init_287 : decode cX18_init 287 = .ok (.putfield 118, 3) := by decide +kernel
theorem dX18_init_290 : decode cX18_init 290 = .ok (.aload_n 0, 1) := by decide +kernel
theorem dX18_init_291 : decode cX18_init 291 = .ok (.bipush 64, 2) := by decide +kernel
theorem dX18_init_293 : decode cX18_init 293 = .ok (.anewarray 121, 3) := by decide +kernel
theorem dX18_init_296 : decode cX18_init 296 = .ok (.putfield 123, 3) := by decide +kernel
theorem dX18_init_299 : decode cX18_init 299 = .ok (.aload_n 0, 1) := by decide +kernel
theorem dX18_init_300 : decode cX18_init 300 = .ok (.bipush 64, 2) := by decide +kernel
theorem dX18_init_302 : decode cX18_init 302 = .ok (.anewarray 121, 3) := by decide +kernel
theorem dX18_init_305 : decode cX18_init 305 = .ok (.putfield 127, 3) := by decide +kernel
theorem dX18_init_308 : decode cX18_init 308 = .ok (.return_, 1) := by decide +kernel
theorem dX18_thrown_0 : decode cX18_thrown 0 = .ok (.aload_n 0, 1) := by decide +kernel
theorem dX18_thrown_1 : decode cX18_thrown 1 = .ok (.getfield 130, 3) := by decide +kernel
theorem dX18_thrown_4 : decode cX18_thrown 4 = .ok (.ireturn, 1) := by decide +kernel
theorem dX18_in_0 : decode cX18_in 0 = .ok (.iload_n 0, 1) := by decide +kernel
theorem dX18_in_1 : decode cX18_in 1 = .ok (.iload_n 1, 1) := by decide +kernel
theorem dX18_in_2 : decode cX18_in 2 = .ok (.if_icmp .lt 12, 3) := by decide +kernel
theorem dX18_in_5 : decode cX18_in 5 = .ok (.iload_n 0, 1) := by decide +kernel
theorem dX18_in_6 : decode cX18_in 6 = .ok (.iload_n 2, 1) := by decide +kernel
theorem dX18_in_7 : decode cX18_in 7 = .ok (.if_icmp .gt 7, 3) := by decide +kernel
theorem dX18_in_10 : decode cX18_in 10 = .ok (.iconst 1, 1) := by decide +kernel
theorem dX18_in_11 : decode cX18_in 11 = .ok (.goto 4, 3) := by decide +kernel
theorem dX18_in_14 : decode cX18_in 14 = .ok (.iconst 0, 1) := by decide +kernel
theorem dX18_in_15 : decode cX18_in 15 = .ok (.ireturn, 1) := by decide +kernel
theorem dX18_fails_0 : decode cX18_fails 0 = .ok (.aload_n 0, 1) := by decide +kernel
theorem dX18_fails_1 : decode cX18_fails 1 = .ok (.iload_n 1, 1) := by decide +kernel
theorem dX18_fails_2 : decode cX18_fails 2 = .ok (.putfield 130, 3) := by decide +kernel
theorem dX18_fails_5 : decode cX18_fails 5 = .ok (.iconst 0, 1) := by decide +kernel
theorem dX18_fails_6 : decode cX18_fails 6 = .ok (.ireturn, 1) := by decide +kernel
theorem dX18_addType_0 : decode cX18_addType 0 = .ok (.aload_n 0, 1) := by decide +kernel
theorem dX18_addType_1 : decode cX18_addType 1 = .ok (.iconst 0, 1) := by decide +kernel
theorem dX18_addType_2 : decode cX18_addType 2 = .ok (.putfield 130, 3) := by decide +kernel
theorem dX18_addType_5 : decode cX18_addType 5 = .ok (.aload_n 0, 1) := by decide +kernel
theorem dX18_addType_6 : decode cX18_addType 6 = .ok (.getfield 134, 3) := by decide +kernel
theorem dX18_addType_9 : decode cX18_addType 9 = .ok (.iconst 3, 1) := by decide +kernel
theorem dX18_addType_10 : decode cX18_addType 10 = .ok (.if_icmp .eq 10, 3) := by decide +kernel
theorem dX18_addType_13 : decode cX18_addType 13 = .ok (.aload_n 0, 1) := by decide +kernel
theorem dX18_addType_14 : decode cX18_addType 14 = .ok (.getfield 137, 3) := by decide +kernel
theorem dX18_addType_17 : decode cX18_addType 17 = .ok (.ifCond .eq 9, 3) := by decide +kernel
theorem dX18_addType_26 : decode cX18_addType 26 = .ok (.aload_n 0, 1) := by decide +kernel
theorem dX18_addType_27 : decode cX18_addType 27 = .ok (.dup, 1) := by decide +kernel
theorem dX18_addType_28 : decode cX18_addType 28 = .ok (.getfield 134, 3) := by decide +kernel
theorem dX18_addType_31 : decode cX18_addType 31 = .ok (.iconst 1, 1) := by decide +kernel
theorem dX18_addType_32 : decode cX18_addType 32 = .ok (.iadd, 1) := by decide +kernel
theorem dX18_addType_33 : decode cX18_addType 33 = .ok (.putfield 134, 3) := by decide +kernel
theorem dX18_addType_36 : decode cX18_addType 36 = .ok (.aload_n 0, 1) := by decide +kernel
theorem dX18_addType_37 : decode cX18_addType 37 = .ok (.getfield 134, 3) := by decide +kernel
theorem dX18_addType_40 : decode cX18_addType 40 = .ok (.iconst 1, 1) := by decide +kernel
theorem dX18_addType_41 : decode cX18_addType 41 = .ok (.isub, 1) := by decide +kernel
theorem dX18_addType_42 : decode cX18_addType 42 = .ok (.ireturn, 1) := by decide +kernel
set_option maxRecDepth 20000 in
theorem ggX18_addConstructor_X18_in : GoodIn wsX18_addConstructor wsX18_in := goodIn_r _ [10] (by decide +kernel) (by decide +kernel)
set_option maxRecDepth 20000 in
theorem gX18_addConstructor_X18_in : GoodIn wsX18_addConstructor (va_wsS RX18 145 yX18_in wsX18_in) := goodIn_app (goodIn_of _ (by decide +kernel)) ggX18_addConstructor_X18_in
set_option maxRecDepth 20000 in
theorem ggX18_addConstructor_X18_fails : GoodIn wsX18_addConstructor wsX18_fails := goodIn_r _ [14, 1, 15, 16, 17, 18, 19, 20, 21, 22, 23, 24, 25, 26, 27, 28, 29, 30, 31, 32, 33, 34, 35, 36, 37, 38, 39, 40, 41, 42, 43, 44, 45, 46, 47, 48, 49, 50, 51, 52, 53, 54, 55, 56, 57, 58, 59, 60, 61, 62, 63, 64, 65, 66, 67, 68, 69, 70, 71, 72, 73, 74, 75, 76, 77, 78, 79, 80, 81, 82, 83, 84] (by decide +kernel) (by decide +kernel)
set_option maxRecDepth 20000 in
theorem gX18_addConstructor_X18_fails : GoodIn wsX18_addConstructor (wsV RX18 141 RX18 yX18_fails wsX18_fails) := goodIn_app (goodIn_of _ (by decide +kernel)) ggX18_addConstructor_X18_fails
theorem dX18_addConstructor_0 : decode cX18_addConstructor 0 = .ok (.aload_n 0, 1) := by decide +kernel
theorem dX18_addConstructor_1 : decode cX18_addConstructor 1 = .ok (.iconst 0, 1) := by decide +kernel
theorem dX18_addConstructor_2 : decode cX18_addConstructor 2 = .ok (.putfield 130, 3) := by decide +kernel
theorem dX18_addConstructor_5 : decode cX18_addConstructor 5 = .ok (.iload_n 1, 1) := by decide +kernel
theorem dX18_addConstructor_6 : decode cX18_addConstructor 6 = .ok (.iconst 0, 1) := by decide +kernel
theorem dX18_addConstructor_7 : decode cX18_addConstructor 7 = .ok (.aload_n 0, 1) := by decide +kernel
theorem dX18_addConstructor_8 : decode cX18_addConstructor 8 = .ok (.getfield 134, 3) := by decide +kernel
theorem dX18_addConstructor_11 : decode cX18_addConstructor 11 = .ok (.iconst 1, 1) := by decide +kernel
theorem dX18_addConstructor_12 : decode cX18_addConstructor 12 = .ok (.isub, 1) := by decide +kernel
theorem dX18_addConstructor_13 : decode cX18_addConstructor 13 = .ok (.invokestatic 145, 3) := by decide +kernel
theorem dX18_addConstructor_16 : decode cX18_addConstructor 16 = .ok (.ifCond .eq 31, 3) := by decide +kernel
theorem dX18_addConstructor_47 : decode cX18_addConstructor 47 = .ok (.aload_n 0, 1) := by decide +kernel
theorem dX18_addConstructor_48 : decode cX18_addConstructor 48 = .ok (.iconst 1, 1) := by decide +kernel
theorem dX18_addConstructor_49 : decode cX18_addConstructor 49 = .ok (.invokevirtual 141, 3) := by decide +kernel
theorem dX18_addConstructor_52 : decode cX18_addConstructor 52 = .ok (.ireturn, 1) := by decide +kernel
set_option maxRecDepth 20000 in
theorem ggX18_isTerm_X18_in : GoodIn wsX18_isTerm wsX18_in := goodIn_r _ [5] (by decide +kernel) (by decide +kernel)
set_option maxRecDepth 20000 in
theorem gX18_isTerm_X18_in : GoodIn wsX18_isTerm (va_wsS RX18 145 yX18_in wsX18_in) := goodIn_app (goodIn_of _ (by decide +kernel)) ggX18_isTerm_X18_in
theorem dX18_isTerm_0 : decode cX18_isTerm 0 = .ok (.iload_n 1, 1) := by decide +kernel
theorem dX18_isTerm_1 : decode cX18_isTerm 1 = .ok (.iconst 0, 1) := by decide +kernel
theorem dX18_isTerm_2 : decode cX18_isTerm 2 = .ok (.aload_n 0, 1) := by decide +kernel
theorem dX18_isTerm_3 : decode cX18_isTerm 3 = .ok (.getfield 152, 3) := by decide +kernel
theorem dX18_isTerm_6 : decode cX18_isTerm 6 = .ok (.iconst 1, 1) := by decide +kernel
theorem dX18_isTerm_7 : decode cX18_isTerm 7 = .ok (.isub, 1) := by decide +kernel
theorem dX18_isTerm_8 : decode cX18_isTerm 8 = .ok (.invokestatic 145, 3) := by decide +kernel
theorem dX18_isTerm_11 : decode cX18_isTerm 11 = .ok (.ireturn, 1) := by decide +kernel
set_option maxRecDepth 20000 in
theorem ggX18_term_X18_in : GoodIn wsX18_term wsX18_in := goodIn_r _ [7] (by decide +kernel) (by decide +kernel)
set_option maxRecDepth 20000 in
theorem gX18_term_X18_in : GoodIn wsX18_term (va_wsS RX18 145 yX18_in wsX18_in) := goodIn_app (goodIn_of _ (by decide +kernel)) ggX18_term_X18_in
set_option maxRecDepth 20000 in
theorem ggX18_term_X18_fails : GoodIn wsX18_term wsX18_fails := goodIn_r _ [20, 1, 33, 34, 35, 36, 37, 38, 39, 40, 41, 42, 43, 44, 45, 46, 47, 48, 49, 50, 51, 52, 53, 54, 55, 56, 57, 58, 59, 60, 61, 62, 63, 64, 65, 66, 67, 68, 69, 70, 71, 72, 73, 74, 75, 76, 77, 78, 79, 80, 81, 82, 83, 84, 85, 86, 87, 88, 89, 90, 91, 92, 93, 94, 95, 96, 97, 98, 99, 100, 101, 102] (by decide +kernel) (by decide +kernel)
set_option maxRecDepth 20000 in
theorem gX18_term_X18_fails : GoodIn wsX18_term (wsV RX18 141 RX18 yX18_fails wsX18_fails) := goodIn_app (goodIn_of _ (by decide +kernel)) ggX18_term_X18_fails
theorem dX18_term_0 : decode cX18_term 0 = .ok (.aload_n 0, 1) := by decide +kernel
theorem dX18_term_1 : decode cX18_term 1 = .ok (.iconst 0, 1) := by decide +kernel
theorem dX18_term_2 : decode cX18_term 2 = .ok (.putfield 130, 3) := by decide +kernel
theorem dX18_term_5 : decode cX18_term 5 = .ok (.iload_n 1, 1) := by decide +kernel
theorem dX18_term_6 : decode cX18_term 6 = .ok (.iconst 0, 1) := by decide +kernel
theorem dX18_term_7 : decode cX18_term 7 = .ok (.aload_n 0, 1) := by decide +kernel
theorem dX18_term_8 : decode cX18_term 8 = .ok (.getfield 149, 3) := by decide +kernel
theorem dX18_term_11 : decode cX18_term 11 = .ok (.iconst 1, 1) := by decide +kernel
theorem dX18_term_12 : decode cX18_term 12 = .ok (.isub, 1) := by decide +kernel
theorem dX18_term_13 : decode cX18_term 13 = .ok (.invokestatic 145, 3) := by decide +kernel
theorem dX18_term_16 : decode cX18_term 16 = .ok (.ifCond .eq 36, 3) := by decide +kernel
theorem dX18_term_52 : decode cX18_term 52 = .ok (.aload_n 0, 1) := by decide +kernel
theorem dX18_term_53 : decode cX18_term 53 = .ok (.iconst 1, 1) := by decide +kernel
theorem dX18_term_54 : decode cX18_term 54 = .ok (.invokevirtual 141, 3) := by decide +kernel
theorem dX18_term_57 : decode cX18_term 57 = .ok (.ireturn, 1) := by decide +kernel
set_option maxRecDepth 20000 in
theorem ggX18_constructorOf_X18_isTerm : GoodIn wsX18_constructorOf wsX18_isTerm := goodIn_r _ [7, 8, 9, 10, 6, 11, 16, 17, 18, 19, 20, 21, 22, 23, 24, 25, 26, 27, 28, 29, 30, 31, 32, 33, 34, 35, 36, 37, 38, 39, 40, 41, 42, 43, 44, 45, 46, 47, 48, 49, 50, 51, 52, 53, 54, 55, 56, 57, 58, 59, 60, 61, 62, 63, 64, 65, 66, 67, 68, 69, 70, 71, 72, 73, 74, 75, 76, 77, 78, 79, 80, 81, 82, 83, 84, 85] (by decide +kernel) (by decide +kernel)
set_option maxRecDepth 20000 in
theorem gX18_constructorOf_X18_isTerm : GoodIn wsX18_constructorOf (wsV RX18 158 RX18 yX18_isTerm wsX18_isTerm) := goodIn_app (goodIn_of _ (by decide +kernel)) ggX18_constructorOf_X18_isTerm
set_option maxRecDepth 20000 in
theorem ggX18_constructorOf_X18_fails : GoodIn wsX18_constructorOf wsX18_fails := goodIn_r _ [15, 1, 16, 17, 18, 19, 20, 21, 22, 23, 24, 25, 26, 27, 28, 29, 30, 31, 32, 33, 34, 35, 36, 37, 38, 39, 40, 41, 42, 43, 44, 45, 46, 47, 48, 49, 50, 51, 52, 53, 54, 55, 56, 57, 58, 59, 60, 61, 62, 63, 64, 65, 66, 67, 68, 69, 70, 71, 72, 73, 74, 75, 76, 77, 78, 79, 80, 81, 82, 83, 84, 85] (by decide +kernel) (by decide +kernel)
set_option maxRecDepth 20000 in
theorem gX18_constructorOf_X18_fails : GoodIn wsX18_constructorOf (wsV RX18 141 RX18 yX18_fails wsX18_fails) := goodIn_app (goodIn_of _ (by decide +kernel)) ggX18_constructorOf_X18_fails
theorem dX18_constructorOf_0 : decode cX18_constructorOf 0 = .ok (.aload_n 0, 1) := by decide +kernel
theorem dX18_constructorOf_1 : decode cX18_constructorOf 1 = .ok (.iconst 0, 1) := by decide +kernel
theorem dX18_constructorOf_2 : decode cX18_constructorOf 2 = .ok (.putfield 130, 3) := by decide +kernel
theorem dX18_constructorOf_5 : decode cX18_constructorOf 5 = .ok (.aload_n 0, 1) := by decide +kernel
theorem dX18_constructorOf_6 : decode cX18_constructorOf 6 = .ok (.iload_n 1, 1) := by decide +kernel
theorem dX18_constructorOf_7 : decode cX18_constructorOf 7 = .ok (.invokevirtual 158, 3) := by decide +kernel
theorem dX18_constructorOf_10 : decode cX18_constructorOf 10 = .ok (.ifCond .eq 12, 3) := by decide +kernel
theorem dX18_constructorOf_22 : decode cX18_constructorOf 22 = .ok (.aload_n 0, 1) := by decide +kernel
theorem dX18_constructorOf_23 : decode cX18_constructorOf 23 = .ok (.iconst 1, 1) := by decide +kernel
theorem dX18_constructorOf_24 : decode cX18_constructorOf 24 = .ok (.invokevirtual 141, 3) := by decide +kernel
theorem dX18_constructorOf_27 : decode cX18_constructorOf 27 = .ok (.ireturn, 1) := by decide +kernel
set_option maxRecDepth 20000 in
theorem ggX18_partOf_X18_isTerm : GoodIn wsX18_partOf wsX18_isTerm := goodIn_r _ [8, 9, 10, 11, 7, 12, 22, 23, 24, 25, 26, 27, 28, 29, 30, 31, 32, 33, 34, 35, 36, 37, 38, 39, 40, 41, 42, 43, 44, 45, 46, 47, 48, 49, 50, 51, 52, 53, 54, 55, 56, 57, 58, 59, 60, 61, 62, 63, 64, 65, 66, 67, 68, 69, 70, 71, 72, 73, 74, 75, 76, 77, 78, 79, 80, 81, 82, 83, 84, 85, 86, 87, 88, 89, 90, 91] (by decide +kernel) (by decide +kernel)
set_option maxRecDepth 20000 in
theorem gX18_partOf_X18_isTerm : GoodIn wsX18_partOf (wsV RX18 158 RX18 yX18_isTerm wsX18_isTerm) := goodIn_app (goodIn_of _ (by decide +kernel)) ggX18_partOf_X18_isTerm
set_option maxRecDepth 20000 in
theorem ggX18_partOf_X18_fails : GoodIn wsX18_partOf wsX18_fails := goodIn_r _ [16, 1, 22, 23, 24, 25, 26, 27, 28, 29, 30, 31, 32, 33, 34, 35, 36, 37, 38, 39, 40, 41, 42, 43, 44, 45, 46, 47, 48, 49, 50, 51, 52, 53, 54, 55, 56, 57, 58, 59, 60, 61, 62, 63, 64, 65, 66, 67, 68, 69, 70, 71, 72, 73, 74, 75, 76, 77, 78, 79, 80, 81, 82, 83, 84, 85, 86, 87, 88, 89, 90, 91] (by decide +kernel) (by decide +kernel)
set_option maxRecDepth 20000 in
theorem gX18_partOf_X18_fails : GoodIn wsX18_partOf (wsV RX18 141 RX18 yX18_fails wsX18_fails) := goodIn_app (goodIn_of _ (by decide +kernel)) ggX18_partOf_X18_fails
theorem dX18_partOf_0 : decode cX18_partOf 0 = .ok (.aload_n 0, 1) := by decide +kernel
theorem dX18_partOf_1 : decode cX18_partOf 1 = .ok (.iconst 0, 1) := by decide +kernel
theorem dX18_partOf_2 : decode cX18_partOf 2 = .ok (.putfield 130, 3) := by decide +kernel
theorem dX18_partOf_5 : decode cX18_partOf 5 = .ok (.aload_n 0, 1) := by decide +kernel
theorem dX18_partOf_6 : decode cX18_partOf 6 = .ok (.iload_n 1, 1) := by decide +kernel
theorem dX18_partOf_7 : decode cX18_partOf 7 = .ok (.invokevirtual 158, 3) := by decide +kernel
theorem dX18_partOf_10 : decode cX18_partOf 10 = .ok (.ifCond .ne 9, 3) := by decide +kernel
theorem dX18_partOf_13 : decode cX18_partOf 13 = .ok (.aload_n 0, 1) := by decide +kernel
theorem dX18_partOf_14 : decode cX18_partOf 14 = .ok (.iconst 1, 1) := by decide +kernel
theorem dX18_partOf_15 : decode cX18_partOf 15 = .ok (.invokevirtual 141, 3) := by decide +kernel
theorem dX18_partOf_18 : decode cX18_partOf 18 = .ok (.ireturn, 1) := by decide +kernel
set_option maxRecDepth 20000 in
theorem ggX18_sizeOf_X18_isTerm : GoodIn wsX18_sizeOf wsX18_isTerm := goodIn_r _ [7, 8, 9, 10, 6, 11, 12, 13, 14, 15, 16, 17, 18, 19, 20, 21, 22, 23, 24, 25, 26, 27, 28, 29, 30, 31, 32, 33, 34, 35, 36, 37, 38, 39, 40, 41, 42, 43, 44, 45, 46, 47, 48, 49, 50, 51, 52, 53, 54, 55, 56, 57, 58, 59, 60, 61, 62, 63, 64, 65, 66, 67, 68, 69, 70, 71, 72, 73, 74, 75, 76, 77, 78, 79, 80, 81] (by decide +kernel) (by decide +kernel)
set_option maxRecDepth 20000 in
theorem gX18_sizeOf_X18_isTerm : GoodIn wsX18_sizeOf (wsV RX18 158 RX18 yX18_isTerm wsX18_isTerm) := goodIn_app (goodIn_of _ (by decide +kernel)) ggX18_sizeOf_X18_isTerm
theorem dX18_sizeOf_0 : decode cX18_sizeOf 0 = .ok (.aload_n 0, 1) := by decide +kernel
theorem dX18_sizeOf_1 : decode cX18_sizeOf 1 = .ok (.aload_n 0, 1) := by decide +kernel
theorem dX18_sizeOf_2 : decode cX18_sizeOf 2 = .ok (.iload_n 1, 1) := by decide +kernel
theorem dX18_sizeOf_3 : decode cX18_sizeOf 3 = .ok (.invokevirtual 158, 3) := by decide +kernel
theorem dX18_sizeOf_6 : decode cX18_sizeOf 6 = .ok (.ifCond .eq 7, 3) := by decide +kernel
theorem dX18_sizeOf_13 : decode cX18_sizeOf 13 = .ok (.iconst 1, 1) := by decide +kernel
theorem dX18_sizeOf_14 : decode cX18_sizeOf 14 = .ok (.putfield 130, 3) := by decide +kernel
theorem dX18_sizeOf_17 : decode cX18_sizeOf 17 = .ok (.aload_n 0, 1) := by decide +kernel
theorem dX18_sizeOf_18 : decode cX18_sizeOf 18 = .ok (.getfield 130, 3) := by decide +kernel
theorem dX18_sizeOf_21 : decode cX18_sizeOf 21 = .ok (.ifCond .le 7, 3) := by decide +kernel
theorem dX18_sizeOf_24 : decode cX18_sizeOf 24 = .ok (.lconst 0, 1) := by decide +kernel
theorem dX18_sizeOf_25 : decode cX18_sizeOf 25 = .ok (.goto 9, 3) := by decide +kernel
theorem dX18_sizeOf_34 : decode cX18_sizeOf 34 = .ok (.lreturn, 1) := by decide +kernel
set_option maxRecDepth 20000 in
theorem ggX18_addPredicate_X18_in : GoodIn wsX18_addPredicate wsX18_in := goodIn_r _ [10] (by decide +kernel) (by decide +kernel)
set_option maxRecDepth 20000 in
theorem gX18_addPredicate_X18_in : GoodIn wsX18_addPredicate (va_wsS RX18 145 yX18_in wsX18_in) := goodIn_app (goodIn_of _ (by decide +kernel)) ggX18_addPredicate_X18_in
set_option maxRecDepth 20000 in
theorem ggX18_addPredicate_X18_fails : GoodIn wsX18_addPredicate wsX18_fails := goodIn_r _ [14, 1, 15, 16, 17, 18, 19, 20, 21, 22, 23, 24, 25, 26, 27, 28, 29, 30, 31, 32, 33, 34, 35, 36, 37, 38, 39, 40, 41, 42, 43, 44, 45, 46, 47, 48, 49, 50, 51, 52, 53, 54, 55, 56, 57, 58, 59, 60, 61, 62, 63, 64, 65, 66, 67, 68, 69, 70, 71, 72, 73, 74, 75, 76, 77, 78, 79, 80, 81, 82, 83, 84] (by decide +kernel) (by decide +kernel)
set_option maxRecDepth 20000 in
theorem gX18_addPredicate_X18_fails : GoodIn wsX18_addPredicate (wsV RX18 141 RX18 yX18_fails wsX18_fails) := goodIn_app (goodIn_of _ (by decide +kernel)) ggX18_addPredicate_X18_fails
theorem dX18_addPredicate_0 : decode cX18_addPredicate 0 = .ok (.aload_n 0, 1) := by decide +kernel
theorem dX18_addPredicate_1 : decode cX18_addPredicate 1 = .ok (.iconst 0, 1) := by decide +kernel
theorem dX18_addPredicate_2 : decode cX18_addPredicate 2 = .ok (.putfield 130, 3) := by decide +kernel
theorem dX18_addPredicate_5 : decode cX18_addPredicate 5 = .ok (.iload_n 1, 1) := by decide +kernel
theorem dX18_addPredicate_6 : decode cX18_addPredicate 6 = .ok (.iconst (-1), 1) := by decide +kernel
theorem dX18_addPredicate_7 : decode cX18_addPredicate 7 = .ok (.aload_n 0, 1) := by decide +kernel
theorem dX18_addPredicate_8 : decode cX18_addPredicate 8 = .ok (.getfield 134, 3) := by decide +kernel
theorem dX18_addPredicate_11 : decode cX18_addPredicate 11 = .ok (.iconst 1, 1) := by decide +kernel
theorem dX18_addPredicate_12 : decode cX18_addPredicate 12 = .ok (.isub, 1) := by decide +kernel
theorem dX18_addPredicate_13 : decode cX18_addPredicate 13 = .ok (.invokestatic 145, 3) := by decide +kernel
theorem dX18_addPredicate_16 : decode cX18_addPredicate 16 = .ok (.ifCond .eq 31, 3) := by decide +kernel
theorem dX18_addPredicate_19 : decode cX18_addPredicate 19 = .ok (.iload_n 2, 1) := by decide +kernel
theorem dX18_addPredicate_20 : decode cX18_addPredicate 20 = .ok (.iconst (-1), 1) := by decide +kernel
theorem dX18_addPredicate_21 : decode cX18_addPredicate 21 = .ok (.aload_n 0, 1) := by decide +kernel
theorem dX18_addPredicate_22 : decode cX18_addPredicate 22 = .ok (.getfield 134, 3) := by decide +kernel
theorem dX18_addPredicate_25 : decode cX18_addPredicate 25 = .ok (.iconst 1, 1) := by decide +kernel
theorem dX18_addPredicate_26 : decode cX18_addPredicate 26 = .ok (.isub, 1) := by decide +kernel
theorem dX18_addPredicate_27 : decode cX18_addPredicate 27 = .ok (.invokestatic 145, 3) := by decide +kernel
theorem dX18_addPredicate_30 : decode cX18_addPredicate 30 = .ok (.ifCond .eq 17, 3) := by decide +kernel
theorem dX18_addPredicate_33 : decode cX18_addPredicate 33 = .ok (.iload_n 3, 1) := by decide +kernel
theorem dX18_addPredicate_34 : decode cX18_addPredicate 34 = .ok (.iconst (-1), 1) := by decide +kernel
theorem dX18_addPredicate_35 : decode cX18_addPredicate 35 = .ok (.aload_n 0, 1) := by decide +kernel
theorem dX18_addPredicate_36 : decode cX18_addPredicate 36 = .ok (.getfield 134, 3) := by decide +kernel
theorem dX18_addPredicate_39 : decode cX18_addPredicate 39 = .ok (.iconst 1, 1) := by decide +kernel
theorem dX18_addPredicate_40 : decode cX18_addPredicate 40 = .ok (.isub, 1) := by decide +kernel
theorem dX18_addPredicate_41 : decode cX18_addPredicate 41 = .ok (.invokestatic 145, 3) := by decide +kernel
theorem dX18_addPredicate_44 : decode cX18_addPredicate 44 = .ok (.ifCond .ne 9, 3) := by decide +kernel
theorem dX18_addPredicate_47 : decode cX18_addPredicate 47 = .ok (.aload_n 0, 1) := by decide +kernel
theorem dX18_addPredicate_48 : decode cX18_addPredicate 48 = .ok (.iconst 1, 1) := by decide +kernel
theorem dX18_addPredicate_49 : decode cX18_addPredicate 49 = .ok (.invokevirtual 141, 3) := by decide +kernel
theorem dX18_addPredicate_52 : decode cX18_addPredicate 52 = .ok (.ireturn, 1) := by decide +kernel
theorem dX18_addPredicate_53 : decode cX18_addPredicate 53 = .ok (.iload_n 1, 1) := by decide +kernel
theorem dX18_addPredicate_54 : decode cX18_addPredicate 54 = .ok (.iconst (-1), 1) := by decide +kernel
theorem dX18_addPredicate_55 : decode cX18_addPredicate 55 = .ok (.if_icmp .ne 8, 3) := by decide +kernel
theorem dX18_addPredicate_58 : decode cX18_addPredicate 58 = .ok (.iload_n 2, 1) := by decide +kernel
theorem dX18_addPredicate_59 : decode cX18_addPredicate 59 = .ok (.iconst (-1), 1) := by decide +kernel
theorem dX18_addPredicate_60 : decode cX18_addPredicate 60 = .ok (.if_icmp .ne 13, 3) := by decide +kernel
theorem dX18_addPredicate_63 : decode cX18_addPredicate 63 = .ok (.iload_n 2, 1) := by decide +kernel
theorem dX18_addPredicate_64 : decode cX18_addPredicate 64 = .ok (.iconst (-1), 1) := by decide +kernel
theorem dX18_addPredicate_65 : decode cX18_addPredicate 65 = .ok (.if_icmp .ne 14, 3) := by decide +kernel
theorem dX18_addPredicate_68 : decode cX18_addPredicate 68 = .ok (.iload_n 3, 1) := by decide +kernel
theorem dX18_addPredicate_69 : decode cX18_addPredicate 69 = .ok (.iconst (-1), 1) := by decide +kernel
theorem dX18_addPredicate_70 : decode cX18_addPredicate 70 = .ok (.if_icmp .eq 9, 3) := by decide +kernel
theorem dX18_addPredicate_79 : decode cX18_addPredicate 79 = .ok (.aload_n 0, 1) := by decide +kernel
theorem dX18_addPredicate_80 : decode cX18_addPredicate 80 = .ok (.getfield 169, 3) := by decide +kernel
theorem dX18_addPredicate_83 : decode cX18_addPredicate 83 = .ok (.iconst 5, 1) := by decide +kernel
theorem dX18_addPredicate_84 : decode cX18_addPredicate 84 = .ok (.if_icmp .eq 10, 3) := by decide +kernel
theorem dX18_addPredicate_87 : decode cX18_addPredicate 87 = .ok (.aload_n 0, 1) := by decide +kernel
theorem dX18_addPredicate_88 : decode cX18_addPredicate 88 = .ok (.getfield 137, 3) := by decide +kernel
theorem dX18_addPredicate_91 : decode cX18_addPredicate 91 = .ok (.ifCond .eq 9, 3) := by decide +kernel
theorem dX18_addPredicate_100 : decode cX18_addPredicate 100 = .ok (.aload_n 0, 1) := by decide +kernel
theorem dX18_addPredicate_101 : decode cX18_addPredicate 101 = .ok (.getfield 29, 3) := by decide +kernel
theorem dX18_addPredicate_104 : decode cX18_addPredicate 104 = .ok (.iconst 3, 1) := by decide +kernel
theorem dX18_addPredicate_105 : decode cX18_addPredicate 105 = .ok (.aload_n 0, 1) := by decide +kernel
theorem dX18_addPredicate_106 : decode cX18_addPredicate 106 = .ok (.getfield 169, 3) := by decide +kernel
theorem dX18_addPredicate_109 : decode cX18_addPredicate 109 = .ok (.imul, 1) := by decide +kernel
theorem dX18_addPredicate_110 : decode cX18_addPredicate 110 = .ok (.iload_n 1, 1) := by decide +kernel
theorem dX18_addPredicate_111 : decode cX18_addPredicate 111 = .ok (.iastore, 1) := by decide +kernel
theorem dX18_addPredicate_112 : decode cX18_addPredicate 112 = .ok (.aload_n 0, 1) := by decide +kernel
theorem dX18_addPredicate_113 : decode cX18_addPredicate 113 = .ok (.getfield 29, 3) := by decide +kernel
theorem dX18_addPredicate_116 : decode cX18_addPredicate 116 = .ok (.iconst 3, 1) := by decide +kernel
theorem dX18_addPredicate_117 : decode cX18_addPredicate 117 = .ok (.aload_n 0, 1) := by decide +kernel
theorem dX18_addPredicate_118 : decode cX18_addPredicate 118 = .ok (.getfield 169, 3) := by decide +kernel
theorem dX18_addPredicate_121 : decode cX18_addPredicate 121 = .ok (.imul, 1) := by decide +kernel
theorem dX18_addPredicate_122 : decode cX18_addPredicate 122 = .ok (.iconst 1, 1) := by decide +kernel
theorem dX18_addPredicate_123 : decode cX18_addPredicate 123 = .ok (.iadd, 1) := by decide +kernel
theorem dX18_addPredicate_124 : decode cX18_addPredicate 124 = .ok (.iload_n 2, 1) := by decide +kernel
theorem dX18_addPredicate_125 : decode cX18_addPredicate 125 = .ok (.iastore, 1) := by decide +kernel
theorem dX18_addPredicate_126 : decode cX18_addPredicate 126 = .ok (.aload_n 0, 1) := by decide +kernel
theorem dX18_addPredicate_127 : decode cX18_addPredicate 127 = .ok (.getfield 29, 3) := by decide +kernel
theorem dX18_addPredicate_130 : decode cX18_addPredicate 130 = .ok (.iconst 3, 1) := by decide +kernel
theorem dX18_addPredicate_131 : decode cX18_addPredicate 131 = .ok (.aload_n 0, 1) := by decide +kernel
theorem dX18_addPredicate_132 : decode cX18_addPredicate 132 = .ok (.getfield 169, 3) := by decide +kernel
theorem dX18_addPredicate_135 : decode cX18_addPredicate 135 = .ok (.imul, 1) := by decide +kernel
theorem dX18_addPredicate_136 : decode cX18_addPredicate 136 = .ok (.iconst 2, 1) := by decide +kernel
theorem dX18_addPredicate_137 : decode cX18_addPredicate 137 = .ok (.iadd, 1) := by decide +kernel
theorem dX18_addPredicate_138 : decode cX18_addPredicate 138 = .ok (.iload_n 3, 1) := by decide +kernel
theorem dX18_addPredicate_139 : decode cX18_addPredicate 139 = .ok (.iastore, 1) := by decide +kernel
theorem dX18_addPredicate_140 : decode cX18_addPredicate 140 = .ok (.aload_n 0, 1) := by decide +kernel
theorem dX18_addPredicate_141 : decode cX18_addPredicate 141 = .ok (.getfield 26, 3) := by decide +kernel
theorem dX18_addPredicate_144 : decode cX18_addPredicate 144 = .ok (.aload_n 0, 1) := by decide +kernel
theorem dX18_addPredicate_145 : decode cX18_addPredicate 145 = .ok (.getfield 169, 3) := by decide +kernel
theorem dX18_addPredicate_148 : decode cX18_addPredicate 148 = .ok (.iload_n 1, 1) := by decide +kernel
theorem dX18_addPredicate_149 : decode cX18_addPredicate 149 = .ok (.iconst (-1), 1) := by decide +kernel
theorem dX18_addPredicate_150 : decode cX18_addPredicate 150 = .ok (.if_icmp .ne 7, 3) := by decide +kernel
theorem dX18_addPredicate_153 : decode cX18_addPredicate 153 = .ok (.iconst 0, 1) := by decide +kernel
theorem dX18_addPredicate_154 : decode cX18_addPredicate 154 = .ok (.goto 22, 3) := by decide +kernel
theorem dX18_addPredicate_176 : decode cX18_addPredicate 176 = .ok (.iastore, 1) := by decide +kernel
theorem dX18_addPredicate_177 : decode cX18_addPredicate 177 = .ok (.aload_n 0, 1) := by decide +kernel
theorem dX18_addPredicate_178 : decode cX18_addPredicate 178 = .ok (.dup, 1) := by decide +kernel
theorem dX18_addPredicate_179 : decode cX18_addPredicate 179 = .ok (.getfield 169, 3) := by decide +kernel
theorem dX18_addPredicate_182 : decode cX18_addPredicate 182 = .ok (.iconst 1, 1) := by decide +kernel
theorem dX18_addPredicate_183 : decode cX18_addPredicate 183 = .ok (.iadd, 1) := by decide +kernel
theorem dX18_addPredicate_184 : decode cX18_addPredicate 184 = .ok (.putfield 169, 3) := by decide +kernel
theorem dX18_addPredicate_187 : decode cX18_addPredicate 187 = .ok (.aload_n 0, 1) := by decide +kernel
theorem dX18_addPredicate_188 : decode cX18_addPredicate 188 = .ok (.getfield 169, 3) := by decide +kernel
theorem dX18_addPredicate_191 : decode cX18_addPredicate 191 = .ok (.iconst 1, 1) := by decide +kernel
theorem dX18_addPredicate_192 : decode cX18_addPredicate 192 = .ok (.isub, 1) := by decide +kernel
theorem dX18_addPredicate_193 : decode cX18_addPredicate 193 = .ok (.ireturn, 1) := by decide +kernel
set_option maxRecDepth 20000 in
theorem ggX18_isPredicate_X18_in : GoodIn wsX18_isPredicate wsX18_in := goodIn_r _ [5] (by decide +kernel) (by decide +kernel)
set_option maxRecDepth 20000 in
theorem gX18_isPredicate_X18_in : GoodIn wsX18_isPredicate (va_wsS RX18 145 yX18_in wsX18_in) := goodIn_app (goodIn_of _ (by decide +kernel)) ggX18_isPredicate_X18_in
theorem dX18_isPredicate_0 : decode cX18_isPredicate 0 = .ok (.iload_n 1, 1) := by decide +kernel
theorem dX18_isPredicate_1 : decode cX18_isPredicate 1 = .ok (.iconst 0, 1) := by decide +kernel
theorem dX18_isPredicate_2 : decode cX18_isPredicate 2 = .ok (.aload_n 0, 1) := by decide +kernel
theorem dX18_isPredicate_3 : decode cX18_isPredicate 3 = .ok (.getfield 169, 3) := by decide +kernel
theorem dX18_isPredicate_6 : decode cX18_isPredicate 6 = .ok (.iconst 1, 1) := by decide +kernel
theorem dX18_isPredicate_7 : decode cX18_isPredicate 7 = .ok (.isub, 1) := by decide +kernel
theorem dX18_isPredicate_8 : decode cX18_isPredicate 8 = .ok (.invokestatic 145, 3) := by decide +kernel
theorem dX18_isPredicate_11 : decode cX18_isPredicate 11 = .ok (.ireturn, 1) := by decide +kernel
set_option maxRecDepth 20000 in
theorem ggX18_addMode_X18_isPredicate : GoodIn wsX18_addMode wsX18_isPredicate := goodIn_r _ [11, 12, 13, 14, 10, 15, 20, 21, 22, 23, 24, 25, 26, 27, 28, 29, 30, 31, 32, 33, 34, 35, 36, 37, 38, 39, 40, 41, 42, 43, 44, 45, 46, 47, 48, 49, 50, 51, 52, 53, 54, 55, 56, 57, 58, 59, 60, 61, 62, 63, 64, 65, 66, 67, 68, 69, 70, 71, 72, 73, 74, 75, 76, 77, 78, 79, 80, 81, 82, 83, 84, 85, 86, 87, 88, 89] (by decide +kernel) (by decide +kernel)
set_option maxRecDepth 20000 in
theorem gX18_addMode_X18_isPredicate : GoodIn wsX18_addMode (wsV RX18 172 RX18 yX18_isPredicate wsX18_isPredicate) := goodIn_app (goodIn_of _ (by decide +kernel)) ggX18_addMode_X18_isPredicate
set_option maxRecDepth 20000 in
theorem ggX18_addMode_X18_fails : GoodIn wsX18_addMode wsX18_fails := goodIn_r _ [19, 1, 20, 21, 22, 23, 24, 25, 26, 27, 28, 29, 30, 31, 32, 33, 34, 35, 36, 37, 38, 39, 40, 41, 42, 43, 44, 45, 46, 47, 48, 49, 50, 51, 52, 53, 54, 55, 56, 57, 58, 59, 60, 61, 62, 63, 64, 65, 66, 67, 68, 69, 70, 71, 72, 73, 74, 75, 76, 77, 78, 79, 80, 81, 82, 83, 84, 85, 86, 87, 88, 89] (by decide +kernel) (by decide +kernel)
set_option maxRecDepth 20000 in
theorem gX18_addMode_X18_fails : GoodIn wsX18_addMode (wsV RX18 141 RX18 yX18_fails wsX18_fails) := goodIn_app (goodIn_of _ (by decide +kernel)) ggX18_addMode_X18_fails
theorem dX18_addMode_0 : decode cX18_addMode 0 = .ok (.aload_n 0, 1) := by decide +kernel
theorem dX18_addMode_1 : decode cX18_addMode 1 = .ok (.iconst 0, 1) := by decide +kernel
theorem dX18_addMode_2 : decode cX18_addMode 2 = .ok (.putfield 130, 3) := by decide +kernel
theorem dX18_addMode_5 : decode cX18_addMode 5 = .ok (.aload_n 0, 1) := by decide +kernel
theorem dX18_addMode_6 : decode cX18_addMode 6 = .ok (.iload_n 1, 1) := by decide +kernel
theorem dX18_addMode_7 : decode cX18_addMode 7 = .ok (.invokevirtual 172, 3) := by decide +kernel
theorem dX18_addMode_10 : decode cX18_addMode 10 = .ok (.ifCond .ne 9, 3) := by decide +kernel
theorem dX18_addMode_13 : decode cX18_addMode 13 = .ok (.aload_n 0, 1) := by decide +kernel
theorem dX18_addMode_14 : decode cX18_addMode 14 = .ok (.iconst 1, 1) := by decide +kernel
theorem dX18_addMode_15 : decode cX18_addMode 15 = .ok (.invokevirtual 141, 3) := by decide +kernel
theorem dX18_addMode_18 : decode cX18_addMode 18 = .ok (.ireturn, 1) := by decide +kernel
set_option maxRecDepth 20000 in
theorem ggX18_addClause_X18_isPredicate : GoodIn wsX18_addClause wsX18_isPredicate := goodIn_r _ [12, 13, 14, 15, 11, 16, 21, 22, 23, 24, 25, 26, 27, 28, 29, 30, 31, 32, 33, 34, 35, 36, 37, 38, 39, 40, 41, 42, 43, 44, 45, 46, 47, 48, 49, 50, 51, 52, 53, 54, 55, 56, 57, 58, 59, 60, 61, 62, 63, 64, 65, 66, 67, 68, 69, 70, 71, 72, 73, 74, 75, 76, 77, 78, 79, 80, 81, 82, 83, 84, 85, 86, 87, 88, 89, 90] (by decide +kernel) (by decide +kernel)
set_option maxRecDepth 20000 in
theorem gX18_addClause_X18_isPredicate : GoodIn wsX18_addClause (wsV RX18 172 RX18 yX18_isPredicate wsX18_isPredicate) := goodIn_app (goodIn_of _ (by decide +kernel)) ggX18_addClause_X18_isPredicate
set_option maxRecDepth 20000 in
theorem ggX18_addClause_X18_fails : GoodIn wsX18_addClause wsX18_fails := goodIn_r _ [20, 1, 21, 22, 23, 24, 25, 26, 27, 28, 29, 30, 31, 32, 33, 34, 35, 36, 37, 38, 39, 40, 41, 42, 43, 44, 45, 46, 47, 48, 49, 50, 51, 52, 53, 54, 55, 56, 57, 58, 59, 60, 61, 62, 63, 64, 65, 66, 67, 68, 69, 70, 71, 72, 73, 74, 75, 76, 77, 78, 79, 80, 81, 82, 83, 84, 85, 86, 87, 88, 89, 90] (by decide +kernel) (by decide +kernel)
set_option maxRecDepth 20000 in
theorem gX18_addClause_X18_fails : GoodIn wsX18_addClause (wsV RX18 141 RX18 yX18_fails wsX18_fails) := goodIn_app (goodIn_of _ (by decide +kernel)) ggX18_addClause_X18_fails
theorem dX18_addClause_0 : decode cX18_addClause 0 = .ok (.aload_n 0, 1) := by decide +kernel
theorem dX18_addClause_1 : decode cX18_addClause 1 = .ok (.iconst 0, 1) := by decide +kernel
theorem dX18_addClause_2 : decode cX18_addClause 2 = .ok (.putfield 130, 3) := by decide +kernel
theorem dX18_addClause_5 : decode cX18_addClause 5 = .ok (.aload_n 0, 1) := by decide +kernel
theorem dX18_addClause_6 : decode cX18_addClause 6 = .ok (.iload_n 1, 1) := by decide +kernel
theorem dX18_addClause_7 : decode cX18_addClause 7 = .ok (.invokevirtual 172, 3) := by decide +kernel
theorem dX18_addClause_10 : decode cX18_addClause 10 = .ok (.ifCond .ne 9, 3) := by decide +kernel
theorem dX18_addClause_13 : decode cX18_addClause 13 = .ok (.aload_n 0, 1) := by decide +kernel
theorem dX18_addClause_14 : decode cX18_addClause 14 = .ok (.iconst 1, 1) := by decide +kernel
theorem dX18_addClause_15 : decode cX18_addClause 15 = .ok (.invokevirtual 141, 3) := by decide +kernel
theorem dX18_addClause_18 : decode cX18_addClause 18 = .ok (.ireturn, 1) := by decide +kernel
set_option maxRecDepth 20000 in
theorem ggX18_isClause_X18_in : GoodIn wsX18_isClause wsX18_in := goodIn_r _ [5] (by decide +kernel) (by decide +kernel)
set_option maxRecDepth 20000 in
theorem gX18_isClause_X18_in : GoodIn wsX18_isClause (va_wsS RX18 145 yX18_in wsX18_in) := goodIn_app (goodIn_of _ (by decide +kernel)) ggX18_isClause_X18_in
theorem dX18_isClause_0 : decode cX18_isClause 0 = .ok (.iload_n 1, 1) := by decide +kernel
theorem dX18_isClause_1 : decode cX18_isClause 1 = .ok (.iconst 0, 1) := by decide +kernel
theorem dX18_isClause_2 : decode cX18_isClause 2 = .ok (.aload_n 0, 1) := by decide +kernel
theorem dX18_isClause_3 : decode cX18_isClause 3 = .ok (.getfield 175, 3) := by decide +kernel
theorem dX18_isClause_6 : decode cX18_isClause 6 = .ok (.iconst 1, 1) := by decide +kernel
theorem dX18_isClause_7 : decode cX18_isClause 7 = .ok (.isub, 1) := by decide +kernel
theorem dX18_isClause_8 : decode cX18_isClause 8 = .ok (.invokestatic 145, 3) := by decide +kernel
theorem dX18_isClause_11 : decode cX18_isClause 11 = .ok (.ireturn, 1) := by decide +kernel
set_option maxRecDepth 20000 in
theorem ggX18_addBuild_X18_isClause : GoodIn wsX18_addBuild wsX18_isClause := goodIn_r _ [9, 10, 11, 12, 8, 13, 41, 42, 43, 44, 45, 46, 47, 48, 49, 50, 51, 52, 53, 54, 55, 56, 57, 58, 59, 60, 61, 62, 63, 64, 65, 66, 67, 68, 69, 70, 71, 72, 73, 74, 75, 76, 77, 78, 79, 80, 81, 82, 83, 84, 85, 86, 87, 88, 89, 90, 91, 92, 93, 94, 95, 96, 97, 98, 99, 100, 101, 102, 103, 104, 105, 106, 107, 108, 109, 110] (by decide +kernel) (by decide +kernel)
set_option maxRecDepth 20000 in
theorem gX18_addBuild_X18_isClause : GoodIn wsX18_addBuild (wsV RX18 178 RX18 yX18_isClause wsX18_isClause) := goodIn_app (goodIn_of _ (by decide +kernel)) ggX18_addBuild_X18_isClause
set_option maxRecDepth 20000 in
theorem ggX18_addBuild_X18_fails : GoodIn wsX18_addBuild wsX18_fails := goodIn_r _ [17, 1, 41, 42, 43, 44, 45, 46, 47, 48, 49, 50, 51, 52, 53, 54, 55, 56, 57, 58, 59, 60, 61, 62, 63, 64, 65, 66, 67, 68, 69, 70, 71, 72, 73, 74, 75, 76, 77, 78, 79, 80, 81, 82, 83, 84, 85, 86, 87, 88, 89, 90, 91, 92, 93, 94, 95, 96, 97, 98, 99, 100, 101, 102, 103, 104, 105, 106, 107, 108, 109, 110] (by decide +kernel) (by decide +kernel)
set_option maxRecDepth 20000 in
theorem gX18_addBuild_X18_fails : GoodIn wsX18_addBuild (wsV RX18 141 RX18 yX18_fails wsX18_fails) := goodIn_app (goodIn_of _ (by decide +kernel)) ggX18_addBuild_X18_fails
theorem dX18_addBuild_0 : decode cX18_addBuild 0 = .ok (.aload_n 0, 1) := by decide +kernel
theorem dX18_addBuild_1 : decode cX18_addBuild 1 = .ok (.iconst 0, 1) := by decide +kernel
theorem dX18_addBuild_2 : decode cX18_addBuild 2 = .ok (.putfield 130, 3) := by decide +kernel
theorem dX18_addBuild_5 : decode cX18_addBuild 5 = .ok (.aload_n 0, 1) := by decide +kernel
theorem dX18_addBuild_6 : decode cX18_addBuild 6 = .ok (.iload_n 1, 1) := by decide +kernel
theorem dX18_addBuild_7 : decode cX18_addBuild 7 = .ok (.invokevirtual 178, 3) := by decide +kernel
theorem dX18_addBuild_10 : decode cX18_addBuild 10 = .ok (.ifCond .eq 49, 3) := by decide +kernel
theorem dX18_addBuild_59 : decode cX18_addBuild 59 = .ok (.aload_n 0, 1) := by decide +kernel
theorem dX18_addBuild_60 : decode cX18_addBuild 60 = .ok (.iconst 1, 1) := by decide +kernel
theorem dX18_addBuild_61 : decode cX18_addBuild 61 = .ok (.invokevirtual 141, 3) := by decide +kernel
theorem dX18_addBuild_64 : decode cX18_addBuild 64 = .ok (.ireturn, 1) := by decide +kernel
set_option maxRecDepth 20000 in
theorem ggX18_addSame_X18_isClause : GoodIn wsX18_addSame wsX18_isClause := goodIn_r _ [7, 8, 9, 10, 6, 11, 34, 35, 36, 37, 38, 39, 40, 41, 42, 43, 44, 45, 46, 47, 48, 49, 50, 51, 52, 53, 54, 55, 56, 57, 58, 59, 60, 61, 62, 63, 64, 65, 66, 67, 68, 69, 70, 71, 72, 73, 74, 75, 76, 77, 78, 79, 80, 81, 82, 83, 84, 85, 86, 87, 88, 89, 90, 91, 92, 93, 94, 95, 96, 97, 98, 99, 100, 101, 102, 103] (by decide +kernel) (by decide +kernel)
set_option maxRecDepth 20000 in
theorem gX18_addSame_X18_isClause : GoodIn wsX18_addSame (wsV RX18 178 RX18 yX18_isClause wsX18_isClause) := goodIn_app (goodIn_of _ (by decide +kernel)) ggX18_addSame_X18_isClause
set_option maxRecDepth 20000 in
theorem ggX18_addSame_X18_fails : GoodIn wsX18_addSame wsX18_fails := goodIn_r _ [15, 1, 34, 35, 36, 37, 38, 39, 40, 41, 42, 43, 44, 45, 46, 47, 48, 49, 50, 51, 52, 53, 54, 55, 56, 57, 58, 59, 60, 61, 62, 63, 64, 65, 66, 67, 68, 69, 70, 71, 72, 73, 74, 75, 76, 77, 78, 79, 80, 81, 82, 83, 84, 85, 86, 87, 88, 89, 90, 91, 92, 93, 94, 95, 96, 97, 98, 99, 100, 101, 102, 103] (by decide +kernel) (by decide +kernel)
set_option maxRecDepth 20000 in
theorem gX18_addSame_X18_fails : GoodIn wsX18_addSame (wsV RX18 141 RX18 yX18_fails wsX18_fails) := goodIn_app (goodIn_of _ (by decide +kernel)) ggX18_addSame_X18_fails
theorem dX18_addSame_0 : decode cX18_addSame 0 = .ok (.aload_n 0, 1) := by decide +kernel
theorem dX18_addSame_1 : decode cX18_addSame 1 = .ok (.iconst 0, 1) := by decide +kernel
theorem dX18_addSame_2 : decode cX18_addSame 2 = .ok (.putfield 130, 3) := by decide +kernel
theorem dX18_addSame_5 : decode cX18_addSame 5 = .ok (.aload_n 0, 1) := by decide +kernel
theorem dX18_addSame_6 : decode cX18_addSame 6 = .ok (.iload_n 1, 1) := by decide +kernel
theorem dX18_addSame_7 : decode cX18_addSame 7 = .ok (.invokevirtual 178, 3) := by decide +kernel
theorem dX18_addSame_10 : decode cX18_addSame 10 = .ok (.ifCond .eq 23, 3) := by decide +kernel
theorem dX18_addSame_33 : decode cX18_addSame 33 = .ok (.aload_n 0, 1) := by decide +kernel
theorem dX18_addSame_34 : decode cX18_addSame 34 = .ok (.iconst 1, 1) := by decide +kernel
theorem dX18_addSame_35 : decode cX18_addSame 35 = .ok (.invokevirtual 141, 3) := by decide +kernel
theorem dX18_addSame_38 : decode cX18_addSame 38 = .ok (.ireturn, 1) := by decide +kernel
set_option maxRecDepth 20000 in
theorem ggX18_addCall_X18_isClause : GoodIn wsX18_addCall wsX18_isClause := goodIn_r _ [8, 9, 10, 11, 7, 12, 41, 42, 43, 44, 45, 46, 47, 48, 49, 50, 51, 52, 53, 54, 55, 56, 57, 58, 59, 60, 61, 62, 63, 64, 65, 66, 67, 68, 69, 70, 71, 72, 73, 74, 75, 76, 77, 78, 79, 80, 81, 82, 83, 84, 85, 86, 87, 88, 89, 90, 91, 92, 93, 94, 95, 96, 97, 98, 99, 100, 101, 102, 103, 104, 105, 106, 107, 108, 109, 110] (by decide +kernel) (by decide +kernel)
set_option maxRecDepth 20000 in
theorem gX18_addCall_X18_isClause : GoodIn wsX18_addCall (wsV RX18 178 RX18 yX18_isClause wsX18_isClause) := goodIn_app (goodIn_of _ (by decide +kernel)) ggX18_addCall_X18_isClause
set_option maxRecDepth 20000 in
theorem ggX18_addCall_X18_fails : GoodIn wsX18_addCall wsX18_fails := goodIn_r _ [21, 1, 41, 42, 43, 44, 45, 46, 47, 48, 49, 50, 51, 52, 53, 54, 55, 56, 57, 58, 59, 60, 61, 62, 63, 64, 65, 66, 67, 68, 69, 70, 71, 72, 73, 74, 75, 76, 77, 78, 79, 80, 81, 82, 83, 84, 85, 86, 87, 88, 89, 90, 91, 92, 93, 94, 95, 96, 97, 98, 99, 100, 101, 102, 103, 104, 105, 106, 107, 108, 109, 110] (by decide +kernel) (by decide +kernel)
set_option maxRecDepth 20000 in
theorem gX18_addCall_X18_fails : GoodIn wsX18_addCall (wsV RX18 141 RX18 yX18_fails wsX18_fails) := goodIn_app (goodIn_of _ (by decide +kernel)) ggX18_addCall_X18_fails
theorem dX18_addCall_0 : decode cX18_addCall 0 = .ok (.aload_n 0, 1) := by decide +kernel
theorem dX18_addCall_1 : decode cX18_addCall 1 = .ok (.iconst 0, 1) := by decide +kernel
theorem dX18_addCall_2 : decode cX18_addCall 2 = .ok (.putfield 130, 3) := by decide +kernel
theorem dX18_addCall_5 : decode cX18_addCall 5 = .ok (.aload_n 0, 1) := by decide +kernel
theorem dX18_addCall_6 : decode cX18_addCall 6 = .ok (.iload_n 1, 1) := by decide +kernel
theorem dX18_addCall_7 : decode cX18_addCall 7 = .ok (.invokevirtual 178, 3) := by decide +kernel
theorem dX18_addCall_10 : decode cX18_addCall 10 = .ok (.ifCond .eq 43, 3) := by decide +kernel
theorem dX18_addCall_53 : decode cX18_addCall 53 = .ok (.aload_n 0, 1) := by decide +kernel
theorem dX18_addCall_54 : decode cX18_addCall 54 = .ok (.iconst 1, 1) := by decide +kernel
theorem dX18_addCall_55 : decode cX18_addCall 55 = .ok (.invokevirtual 141, 3) := by decide +kernel
theorem dX18_addCall_58 : decode cX18_addCall 58 = .ok (.ireturn, 1) := by decide +kernel
theorem dX18_orders__0 : decode cX18_orders_ 0 = .ok (.iconst 0, 1) := by decide +kernel
theorem dX18_orders__1 : decode cX18_orders_ 1 = .ok (.istore_n 1, 1) := by decide +kernel
theorem dX18_orders__2 : decode cX18_orders_ 2 = .ok (.iload_n 1, 1) := by decide +kernel
theorem dX18_orders__3 : decode cX18_orders_ 3 = .ok (.aload_n 0, 1) := by decide +kernel
theorem dX18_orders__4 : decode cX18_orders_ 4 = .ok (.getfield 169, 3) := by decide +kernel
theorem dX18_orders__7 : decode cX18_orders_ 7 = .ok (.if_icmp .ge 158, 3) := by decide +kernel
theorem dX18_orders__165 : decode cX18_orders_ 165 = .ok (.return_, 1) := by decide +kernel
set_option maxRecDepth 20000 in
theorem ggX18_compile_X18_orders_ : GoodIn wsX18_compile wsX18_orders_ := goodIn_ca (goodIn_r _ [17, 7, 6, 18, 19, 20, 8, 21, 22, 23, 24, 25, 26, 12, 27, 28, 29, 30, 31, 32, 33, 34, 35, 36, 37, 38, 39, 40, 41, 42, 43, 44, 45, 46, 47, 48, 49, 50, 51, 52, 53, 54, 55, 56, 57, 58, 95, 96, 97, 98, 99, 100, 101, 102, 103, 104, 105, 106, 107, 108, 109, 110, 111, 112, 113, 114, 115, 116, 117, 118, 119, 120, 121, 122, 123, 124, 125, 126, 127, 128, 129, 130, 131, 132, 133, 134, 135, 136, 137, 138, 139, 140, 141, 142, 143, 144, 145, 146, 147, 148, 149, 150, 151, 152, 153, 154, 155, 156, 157, 158, 159, 160, 161, 162, 163, 164] (by decide +kernel) (by decide +kernel)) (goodIn_sub (fun _ h => List.mem_cons_of_mem _ (List.mem_append_right _ h)) (by decide +kernel))
set_option maxRecDepth 20000 in
theorem gX18_compile_X18_orders_ : GoodIn wsX18_compile (wsV RX18 237 RX18 yX18_orders_ wsX18_orders_) := goodIn_app (goodIn_of _ (by decide +kernel)) ggX18_compile_X18_orders_
theorem dX18_compile_0 : decode cX18_compile 0 = .ok (.aload_n 0, 1) := by decide +kernel
theorem dX18_compile_1 : decode cX18_compile 1 = .ok (.iconst 0, 1) := by decide +kernel
theorem dX18_compile_2 : decode cX18_compile 2 = .ok (.putfield 130, 3) := by decide +kernel
theorem dX18_compile_5 : decode cX18_compile 5 = .ok (.aload_n 0, 1) := by decide +kernel
theorem dX18_compile_6 : decode cX18_compile 6 = .ok (.getfield 137, 3) := by decide +kernel
theorem dX18_compile_9 : decode cX18_compile 9 = .ok (.ifCond .eq 9, 3) := by decide +kernel
theorem dX18_compile_18 : decode cX18_compile 18 = .ok (.aload_n 0, 1) := by decide +kernel
theorem dX18_compile_19 : decode cX18_compile 19 = .ok (.iconst 1, 1) := by decide +kernel
theorem dX18_compile_20 : decode cX18_compile 20 = .ok (.putfield 137, 3) := by decide +kernel
theorem dX18_compile_23 : decode cX18_compile 23 = .ok (.aload_n 0, 1) := by decide +kernel
theorem dX18_compile_24 : decode cX18_compile 24 = .ok (.iconst 0, 1) := by decide +kernel
theorem dX18_compile_25 : decode cX18_compile 25 = .ok (.putfield 227, 3) := by decide +kernel
theorem dX18_compile_28 : decode cX18_compile 28 = .ok (.aload_n 0, 1) := by decide +kernel
theorem dX18_compile_29 : decode cX18_compile 29 = .ok (.lconst 0, 1) := by decide +kernel
theorem dX18_compile_30 : decode cX18_compile 30 = .ok (.putfield 230, 3) := by decide +kernel
theorem dX18_compile_33 : decode cX18_compile 33 = .ok (.aload_n 0, 1) := by decide +kernel
theorem dX18_compile_34 : decode cX18_compile 34 = .ok (.iconst 0, 1) := by decide +kernel
theorem dX18_compile_35 : decode cX18_compile 35 = .ok (.putfield 234, 3) := by decide +kernel
theorem dX18_compile_38 : decode cX18_compile 38 = .ok (.aload_n 0, 1) := by decide +kernel
theorem dX18_compile_39 : decode cX18_compile 39 = .ok (.invokevirtual 237, 3) := by decide +kernel
theorem dX18_compile_42 : decode cX18_compile 42 = .ok (.iconst 1, 1) := by decide +kernel
theorem dX18_compile_43 : decode cX18_compile 43 = .ok (.istore_n 1, 1) := by decide +kernel
theorem dX18_compile_44 : decode cX18_compile 44 = .ok (.iload_n 1, 1) := by decide +kernel
theorem dX18_compile_45 : decode cX18_compile 45 = .ok (.ifCond .eq 87, 3) := by decide +kernel
theorem dX18_compile_48 : decode cX18_compile 48 = .ok (.iconst 0, 1) := by decide +kernel
theorem dX18_compile_49 : decode cX18_compile 49 = .ok (.istore_n 1, 1) := by decide +kernel
theorem dX18_compile_50 : decode cX18_compile 50 = .ok (.iconst 0, 1) := by decide +kernel
theorem dX18_compile_51 : decode cX18_compile 51 = .ok (.istore_n 2, 1) := by decide +kernel
theorem dX18_compile_52 : decode cX18_compile 52 = .ok (.iload_n 2, 1) := by decide +kernel
theorem dX18_compile_53 : decode cX18_compile 53 = .ok (.bipush 10, 2) := by decide +kernel
theorem dX18_compile_55 : decode cX18_compile 55 = .ok (.if_icmp .ge 74, 3) := by decide +kernel
theorem dX18_compile_58 : decode cX18_compile 58 = .ok (.iload_n 2, 1) := by decide +kernel
theorem dX18_compile_59 : decode cX18_compile 59 = .ok (.iconst 2, 1) := by decide +kernel
theorem dX18_compile_60 : decode cX18_compile 60 = .ok (.irem, 1) := by decide +kernel
theorem dX18_compile_61 : decode cX18_compile 61 = .ok (.aload_n 0, 1) := by decide +kernel
theorem dX18_compile_62 : decode cX18_compile 62 = .ok (.getfield 32, 3) := by decide +kernel
theorem dX18_compile_65 : decode cX18_compile 65 = .ok (.iload_n 2, 1) := by decide +kernel
theorem dX18_compile_66 : decode cX18_compile 66 = .ok (.iconst 2, 1) := by decide +kernel
theorem dX18_compile_67 : decode cX18_compile 67 = .ok (.idiv, 1) := by decide +kernel
theorem dX18_compile_68 : decode cX18_compile 68 = .ok (.iaload, 1) := by decide +kernel
theorem dX18_compile_69 : decode cX18_compile 69 = .ok (.if_icmp .ge 17, 3) := by decide +kernel
theorem dX18_compile_86 : decode cX18_compile 86 = .ok (.iconst 0, 1) := by decide +kernel
theorem dX18_compile_87 : decode cX18_compile 87 = .ok (.istore_n 3, 1) := by decide +kernel
theorem dX18_compile_88 : decode cX18_compile 88 = .ok (.iload_n 3, 1) := by decide +kernel
theorem dX18_compile_89 : decode cX18_compile 89 = .ok (.ifCond .eq 34, 3) := by decide +kernel
theorem dX18_compile_123 : decode cX18_compile 123 = .ok (.iinc 2 1, 3) := by decide +kernel
theorem dX18_compile_126 : decode cX18_compile 126 = .ok (.goto (-74), 3) := by decide +kernel
theorem dX18_compile_129 : decode cX18_compile 129 = .ok (.goto (-85), 3) := by decide +kernel
theorem dX18_compile_132 : decode cX18_compile 132 = .ok (.iconst 1, 1) := by decide +kernel
theorem dX18_compile_133 : decode cX18_compile 133 = .ok (.istore_n 1, 1) := by decide +kernel
theorem dX18_compile_134 : decode cX18_compile 134 = .ok (.iload_n 1, 1) := by decide +kernel
theorem dX18_compile_135 : decode cX18_compile 135 = .ok (.ifCond .eq 88, 3) := by decide +kernel
theorem dX18_compile_138 : decode cX18_compile 138 = .ok (.iconst 0, 1) := by decide +kernel
theorem dX18_compile_139 : decode cX18_compile 139 = .ok (.istore_n 1, 1) := by decide +kernel
theorem dX18_compile_140 : decode cX18_compile 140 = .ok (.iconst 0, 1) := by decide +kernel
theorem dX18_compile_141 : decode cX18_compile 141 = .ok (.istore_n 2, 1) := by decide +kernel
theorem dX18_compile_142 : decode cX18_compile 142 = .ok (.iload_n 2, 1) := by decide +kernel
theorem dX18_compile_143 : decode cX18_compile 143 = .ok (.bipush 10, 2) := by decide +kernel
theorem dX18_compile_145 : decode cX18_compile 145 = .ok (.if_icmp .ge 75, 3) := by decide +kernel
theorem dX18_compile_148 : decode cX18_compile 148 = .ok (.iload_n 2, 1) := by decide +kernel
theorem dX18_compile_149 : decode cX18_compile 149 = .ok (.iconst 2, 1) := by decide +kernel
theorem dX18_compile_150 : decode cX18_compile 150 = .ok (.irem, 1) := by decide +kernel
theorem dX18_compile_151 : decode cX18_compile 151 = .ok (.aload_n 0, 1) := by decide +kernel
theorem dX18_compile_152 : decode cX18_compile 152 = .ok (.getfield 32, 3) := by decide +kernel
theorem dX18_compile_155 : decode cX18_compile 155 = .ok (.iload_n 2, 1) := by decide +kernel
theorem dX18_compile_156 : decode cX18_compile 156 = .ok (.iconst 2, 1) := by decide +kernel
theorem dX18_compile_157 : decode cX18_compile 157 = .ok (.idiv, 1) := by decide +kernel
theorem dX18_compile_158 : decode cX18_compile 158 = .ok (.iaload, 1) := by decide +kernel
theorem dX18_compile_159 : decode cX18_compile 159 = .ok (.if_icmp .ge 26, 3) := by decide +kernel
theorem dX18_compile_185 : decode cX18_compile 185 = .ok (.iconst 0, 1) := by decide +kernel
theorem dX18_compile_186 : decode cX18_compile 186 = .ok (.istore_n 3, 1) := by decide +kernel
theorem dX18_compile_187 : decode cX18_compile 187 = .ok (.iload_n 3, 1) := by decide +kernel
theorem dX18_compile_188 : decode cX18_compile 188 = .ok (.ifCond .eq 16, 3) := by decide +kernel
theorem dX18_compile_204 : decode cX18_compile 204 = .ok (.iload_n 1, 1) := by decide +kernel
theorem dX18_compile_205 : decode cX18_compile 205 = .ok (.ifCond .eq 7, 3) := by decide +kernel
theorem dX18_compile_212 : decode cX18_compile 212 = .ok (.iconst 0, 1) := by decide +kernel
theorem dX18_compile_213 : decode cX18_compile 213 = .ok (.istore_n 1, 1) := by decide +kernel
theorem dX18_compile_214 : decode cX18_compile 214 = .ok (.iinc 2 1, 3) := by decide +kernel
theorem dX18_compile_217 : decode cX18_compile 217 = .ok (.goto (-75), 3) := by decide +kernel
theorem dX18_compile_220 : decode cX18_compile 220 = .ok (.goto (-86), 3) := by decide +kernel
theorem dX18_compile_223 : decode cX18_compile 223 = .ok (.iconst 0, 1) := by decide +kernel
theorem dX18_compile_224 : decode cX18_compile 224 = .ok (.istore_n 2, 1) := by decide +kernel
theorem dX18_compile_225 : decode cX18_compile 225 = .ok (.iconst 0, 1) := by decide +kernel
theorem dX18_compile_226 : decode cX18_compile 226 = .ok (.istore_n 3, 1) := by decide +kernel
theorem dX18_compile_227 : decode cX18_compile 227 = .ok (.iload_n 3, 1) := by decide +kernel
theorem dX18_compile_228 : decode cX18_compile 228 = .ok (.bipush 10, 2) := by decide +kernel
theorem dX18_compile_230 : decode cX18_compile 230 = .ok (.if_icmp .ge 51, 3) := by decide +kernel
theorem dX18_compile_233 : decode cX18_compile 233 = .ok (.iload_n 2, 1) := by decide +kernel
theorem dX18_compile_234 : decode cX18_compile 234 = .ok (.iload_n 3, 1) := by decide +kernel
theorem dX18_compile_235 : decode cX18_compile 235 = .ok (.iconst 2, 1) := by decide +kernel
theorem dX18_compile_236 : decode cX18_compile 236 = .ok (.idiv, 1) := by decide +kernel
theorem dX18_compile_237 : decode cX18_compile 237 = .ok (.aload_n 0, 1) := by decide +kernel
theorem dX18_compile_238 : decode cX18_compile 238 = .ok (.getfield 169, 3) := by decide +kernel
theorem dX18_compile_241 : decode cX18_compile 241 = .ok (.if_icmp .ge 31, 3) := by decide +kernel
theorem dX18_compile_272 : decode cX18_compile 272 = .ok (.iconst 0, 1) := by decide +kernel
theorem dX18_compile_273 : decode cX18_compile 273 = .ok (.iadd, 1) := by decide +kernel
theorem dX18_compile_274 : decode cX18_compile 274 = .ok (.istore_n 2, 1) := by decide +kernel
theorem dX18_compile_275 : decode cX18_compile 275 = .ok (.iinc 3 1, 3) := by decide +kernel
theorem dX18_compile_278 : decode cX18_compile 278 = .ok (.goto (-51), 3) := by decide +kernel
theorem dX18_compile_281 : decode cX18_compile 281 = .ok (.iload_n 2, 1) := by decide +kernel
theorem dX18_compile_282 : decode cX18_compile 282 = .ok (.ireturn, 1) := by decide +kernel
set_option maxRecDepth 20000 in
theorem ggX18_open_X18_fails : GoodIn wsX18_open wsX18_fails := goodIn_r _ [10, 1, 11, 12, 13, 14, 15, 16, 17, 18, 19, 20, 21, 22, 23, 24, 25, 26, 27, 28, 29, 30, 31, 32, 33, 34, 35, 36, 37, 38, 39, 40, 41, 42, 43, 44, 45, 46, 47, 48, 49, 50, 51, 52, 53, 54, 55, 56, 57, 58, 59, 60, 61, 62, 63, 64, 65, 66, 67, 68, 69, 70, 71, 72, 73, 74, 75, 76, 77, 78, 79, 80] (by decide +kernel) (by decide +kernel)
set_option maxRecDepth 20000 in
theorem gX18_open_X18_fails : GoodIn wsX18_open (wsV RX18 141 RX18 yX18_fails wsX18_fails) := goodIn_app (goodIn_of _ (by decide +kernel)) ggX18_open_X18_fails
theorem dX18_open_0 : decode cX18_open 0 = .ok (.aload_n 0, 1) := by decide +kernel
theorem dX18_open_1 : decode cX18_open 1 = .ok (.iconst 0, 1) := by decide +kernel
theorem dX18_open_2 : decode cX18_open 2 = .ok (.putfield 130, 3) := by decide +kernel
theorem dX18_open_5 : decode cX18_open 5 = .ok (.aload_n 0, 1) := by decide +kernel
theorem dX18_open_6 : decode cX18_open 6 = .ok (.getfield 137, 3) := by decide +kernel
theorem dX18_open_9 : decode cX18_open 9 = .ok (.ifCond .ne 9, 3) := by decide +kernel
theorem dX18_open_12 : decode cX18_open 12 = .ok (.aload_n 0, 1) := by decide +kernel
theorem dX18_open_13 : decode cX18_open 13 = .ok (.iconst 1, 1) := by decide +kernel
theorem dX18_open_14 : decode cX18_open 14 = .ok (.invokevirtual 141, 3) := by decide +kernel
theorem dX18_open_17 : decode cX18_open 17 = .ok (.ireturn, 1) := by decide +kernel
set_option maxRecDepth 20000 in
theorem ggX18_looks_X18_isPredicate : GoodIn wsX18_looks wsX18_isPredicate := goodIn_r _ [8, 9, 10, 11, 7, 12, 13, 14, 15, 16, 17, 18, 19, 20, 21, 22, 23, 24, 25, 26, 27, 28, 29, 30, 31, 32, 33, 34, 35, 36, 37, 38, 39, 40, 41, 42, 43, 44, 45, 46, 47, 48, 49, 50, 51, 52, 53, 54, 55, 56, 57, 58, 59, 60, 61, 62, 63, 64, 65, 66, 67, 68, 69, 70, 71, 72, 73, 74, 75, 76, 77, 78, 79, 80, 81, 82] (by decide +kernel) (by decide +kernel)
set_option maxRecDepth 20000 in
theorem gX18_looks_X18_isPredicate : GoodIn wsX18_looks (wsV RX18 172 RX18 yX18_isPredicate wsX18_isPredicate) := goodIn_app (goodIn_of _ (by decide +kernel)) ggX18_looks_X18_isPredicate
theorem dX18_looks_0 : decode cX18_looks 0 = .ok (.aload_n 0, 1) := by decide +kernel
theorem dX18_looks_1 : decode cX18_looks 1 = .ok (.aload_n 0, 1) := by decide +kernel
theorem dX18_looks_2 : decode cX18_looks 2 = .ok (.iload_n 1, 1) := by decide +kernel
theorem dX18_looks_3 : decode cX18_looks 3 = .ok (.invokevirtual 172, 3) := by decide +kernel
theorem dX18_looks_6 : decode cX18_looks 6 = .ok (.ifCond .eq 19, 3) := by decide +kernel
theorem dX18_looks_25 : decode cX18_looks 25 = .ok (.iconst 1, 1) := by decide +kernel
theorem dX18_looks_26 : decode cX18_looks 26 = .ok (.goto 15, 3) := by decide +kernel
theorem dX18_looks_41 : decode cX18_looks 41 = .ok (.putfield 130, 3) := by decide +kernel
theorem dX18_looks_44 : decode cX18_looks 44 = .ok (.aload_n 0, 1) := by decide +kernel
theorem dX18_looks_45 : decode cX18_looks 45 = .ok (.getfield 130, 3) := by decide +kernel
theorem dX18_looks_48 : decode cX18_looks 48 = .ok (.ifCond .ne 7, 3) := by decide +kernel
theorem dX18_looks_55 : decode cX18_looks 55 = .ok (.iconst 0, 1) := by decide +kernel
theorem dX18_looks_56 : decode cX18_looks 56 = .ok (.ireturn, 1) := by decide +kernel
set_option maxRecDepth 20000 in
theorem ggX18_fault_X18_looks : GoodIn wsX18_fault wsX18_looks := goodIn_ca (goodIn_r _ [5, 6, 7, 8, 9, 10, 11, 4, 12, 13, 14, 15, 16, 26, 27, 28, 29, 30, 31, 32, 33, 34, 35, 36, 37, 38, 39, 40, 41, 42, 43, 44, 45, 46, 47, 48, 49, 50, 51, 52, 53, 54, 55, 56, 57, 58, 59, 60, 61, 62, 63, 64, 65, 66, 67, 68, 69, 70, 71, 72, 73, 74, 75, 76, 77, 78, 79, 80, 81, 82, 83, 84, 85, 86, 87, 88, 89, 90, 91, 92, 93, 94, 95] (by decide +kernel) (by decide +kernel)) (goodIn_sub (fun _ h => List.mem_cons_of_mem _ (List.mem_append_right _ h)) (by decide +kernel))
set_option maxRecDepth 20000 in
theorem gX18_fault_X18_looks : GoodIn wsX18_fault (wsV RX18 249 RX18 yX18_looks wsX18_looks) := goodIn_app (goodIn_of _ (by decide +kernel)) ggX18_fault_X18_looks
theorem dX18_fault_0 : decode cX18_fault 0 = .ok (.aload_n 0, 1) := by decide +kernel
theorem dX18_fault_1 : decode cX18_fault 1 = .ok (.iload_n 1, 1) := by decide +kernel
theorem dX18_fault_2 : decode cX18_fault 2 = .ok (.iload_n 2, 1) := by decide +kernel
theorem dX18_fault_3 : decode cX18_fault 3 = .ok (.invokevirtual 249, 3) := by decide +kernel
theorem dX18_fault_6 : decode cX18_fault 6 = .ok (.ifCond .eq 15, 3) := by decide +kernel
theorem dX18_fault_21 : decode cX18_fault 21 = .ok (.iconst 0, 1) := by decide +kernel
theorem dX18_fault_22 : decode cX18_fault 22 = .ok (.ireturn, 1) := by decide +kernel
set_option maxRecDepth 20000 in
theorem ggX18_isGood_X18_looks : GoodIn wsX18_isGood wsX18_looks := goodIn_ca (goodIn_r _ [6, 7, 8, 9, 10, 11, 12, 5, 13, 14, 15, 16, 17, 18, 19, 20, 21, 22, 23, 24, 25, 26, 27, 28, 29, 30, 31, 32, 33, 34, 35, 36, 37, 38, 39, 40, 41, 42, 43, 44, 45, 46, 47, 48, 49, 50, 51, 52, 53, 54, 55, 56, 57, 58, 59, 60, 61, 62, 63, 64, 65, 66, 67, 68, 69, 70, 71, 72, 73, 74, 75, 76, 77, 78, 79, 80, 81, 82, 83, 84, 85, 86, 87] (by decide +kernel) (by decide +kernel)) (goodIn_sub (fun _ h => List.mem_cons_of_mem _ (List.mem_append_right _ h)) (by decide +kernel))
set_option maxRecDepth 20000 in
theorem gX18_isGood_X18_looks : GoodIn wsX18_isGood (wsV RX18 249 RX18 yX18_looks wsX18_looks) := goodIn_app (goodIn_of _ (by decide +kernel)) ggX18_isGood_X18_looks
theorem dX18_isGood_0 : decode cX18_isGood 0 = .ok (.aload_n 0, 1) := by decide +kernel
theorem dX18_isGood_1 : decode cX18_isGood 1 = .ok (.iload_n 1, 1) := by decide +kernel
theorem dX18_isGood_2 : decode cX18_isGood 2 = .ok (.iload_n 2, 1) := by decide +kernel
theorem dX18_isGood_3 : decode cX18_isGood 3 = .ok (.invokevirtual 249, 3) := by decide +kernel
theorem dX18_isGood_6 : decode cX18_isGood 6 = .ok (.ifCond .eq 20, 3) := by decide +kernel
theorem dX18_isGood_26 : decode cX18_isGood 26 = .ok (.iconst 0, 1) := by decide +kernel
theorem dX18_isGood_27 : decode cX18_isGood 27 = .ok (.ireturn, 1) := by decide +kernel
set_option maxRecDepth 20000 in
theorem ggX18_found_X18_looks : GoodIn wsX18_found wsX18_looks := goodIn_ca (goodIn_r _ [9, 10, 11, 2, 12, 13, 14, 8, 15, 16, 17, 18, 19, 20, 21, 22, 23, 24, 25, 26, 27, 28, 29, 30, 31, 32, 33, 34, 35, 36, 37, 38, 39, 40, 41, 42, 43, 44, 45, 46, 47, 48, 49, 50, 51, 52, 53, 54, 55, 56, 57, 58, 59, 60, 61, 62, 63, 64, 65, 66, 67, 68, 69, 70, 71, 72, 73, 74, 75, 76, 77, 78, 79, 80, 81, 82, 83, 84, 85, 86, 87, 88, 89] (by decide +kernel) (by decide +kernel)) (goodIn_sub (fun _ h => List.mem_cons_of_mem _ (List.mem_append_right _ h)) (by decide +kernel))
set_option maxRecDepth 20000 in
theorem gX18_found_X18_looks : GoodIn wsX18_found (wsV RX18 249 RX18 yX18_looks wsX18_looks) := goodIn_app (goodIn_of _ (by decide +kernel)) ggX18_found_X18_looks
theorem dX18_found_0 : decode cX18_found 0 = .ok (.aload_n 0, 1) := by decide +kernel
theorem dX18_found_1 : decode cX18_found 1 = .ok (.iload_n 1, 1) := by decide +kernel
theorem dX18_found_2 : decode cX18_found 2 = .ok (.iload_n 2, 1) := by decide +kernel
theorem dX18_found_3 : decode cX18_found 3 = .ok (.invokevirtual 249, 3) := by decide +kernel
theorem dX18_found_6 : decode cX18_found 6 = .ok (.ifCond .ne 5, 3) := by decide +kernel
theorem dX18_found_9 : decode cX18_found 9 = .ok (.iconst 0, 1) := by decide +kernel
theorem dX18_found_10 : decode cX18_found 10 = .ok (.ireturn, 1) := by decide +kernel
set_option maxRecDepth 20000 in
theorem ggX18_switchOf_X18_looks : GoodIn wsX18_switchOf wsX18_looks := goodIn_ca (goodIn_r _ [7, 8, 9, 10, 11, 12, 13, 6, 14, 15, 16, 17, 18, 23, 24, 25, 26, 27, 28, 29, 30, 31, 32, 33, 34, 35, 36, 37, 38, 39, 40, 41, 42, 43, 44, 45, 46, 47, 48, 49, 50, 51, 52, 53, 54, 55, 56, 57, 58, 59, 60, 61, 62, 63, 64, 65, 66, 67, 68, 69, 70, 71, 72, 73, 74, 75, 76, 77, 78, 79, 80, 81, 82, 83, 84, 85, 86, 87, 88, 89, 90, 91, 92] (by decide +kernel) (by decide +kernel)) (goodIn_sub (fun _ h => List.mem_cons_of_mem _ (List.mem_append_right _ h)) (by decide +kernel))
set_option maxRecDepth 20000 in
theorem gX18_switchOf_X18_looks : GoodIn wsX18_switchOf (wsV RX18 249 RX18 yX18_looks wsX18_looks) := goodIn_app (goodIn_of _ (by decide +kernel)) ggX18_switchOf_X18_looks
theorem dX18_switchOf_0 : decode cX18_switchOf 0 = .ok (.aload_n 0, 1) := by decide +kernel
theorem dX18_switchOf_1 : decode cX18_switchOf 1 = .ok (.iload_n 1, 1) := by decide +kernel
theorem dX18_switchOf_2 : decode cX18_switchOf 2 = .ok (.iload_n 2, 1) := by decide +kernel
theorem dX18_switchOf_3 : decode cX18_switchOf 3 = .ok (.invokevirtual 249, 3) := by decide +kernel
theorem dX18_switchOf_6 : decode cX18_switchOf 6 = .ok (.ifCond .ne 5, 3) := by decide +kernel
theorem dX18_switchOf_9 : decode cX18_switchOf 9 = .ok (.iconst 0, 1) := by decide +kernel
theorem dX18_switchOf_10 : decode cX18_switchOf 10 = .ok (.ireturn, 1) := by decide +kernel
set_option maxRecDepth 20000 in
theorem ggX18_spot_X18_isClause : GoodIn wsX18_spot wsX18_isClause := goodIn_r _ [10, 11, 12, 13, 9, 14, 15, 16, 17, 18, 19, 20, 21, 22, 23, 24, 25, 26, 27, 28, 29, 30, 31, 32, 33, 34, 35, 36, 37, 38, 39, 40, 41, 42, 43, 44, 45, 46, 47, 48, 49, 50, 51, 52, 53, 54, 55, 56, 57, 58, 59, 60, 61, 62, 63, 64, 65, 66, 67, 68, 69, 70, 71, 72, 73, 74, 75, 76, 77, 78, 79, 80, 81, 82, 83, 84] (by decide +kernel) (by decide +kernel)
set_option maxRecDepth 20000 in
theorem gX18_spot_X18_isClause : GoodIn wsX18_spot (wsV RX18 178 RX18 yX18_isClause wsX18_isClause) := goodIn_app (goodIn_of _ (by decide +kernel)) ggX18_spot_X18_isClause
theorem dX18_spot_0 : decode cX18_spot 0 = .ok (.aload_n 0, 1) := by decide +kernel
theorem dX18_spot_1 : decode cX18_spot 1 = .ok (.aload_n 0, 1) := by decide +kernel
theorem dX18_spot_2 : decode cX18_spot 2 = .ok (.iload_n 1, 1) := by decide +kernel
theorem dX18_spot_3 : decode cX18_spot 3 = .ok (.invokevirtual 178, 3) := by decide +kernel
theorem dX18_spot_6 : decode cX18_spot 6 = .ok (.ifCond .eq 24, 3) := by decide +kernel
theorem dX18_spot_30 : decode cX18_spot 30 = .ok (.iconst 1, 1) := by decide +kernel
theorem dX18_spot_31 : decode cX18_spot 31 = .ok (.goto 39, 3) := by decide +kernel
theorem dX18_spot_70 : decode cX18_spot 70 = .ok (.putfield 130, 3) := by decide +kernel
theorem dX18_spot_73 : decode cX18_spot 73 = .ok (.aload_n 0, 1) := by decide +kernel
theorem dX18_spot_74 : decode cX18_spot 74 = .ok (.getfield 130, 3) := by decide +kernel
theorem dX18_spot_77 : decode cX18_spot 77 = .ok (.ifCond .le 7, 3) := by decide +kernel
theorem dX18_spot_80 : decode cX18_spot 80 = .ok (.iconst (-1), 1) := by decide +kernel
theorem dX18_spot_81 : decode cX18_spot 81 = .ok (.goto 12, 3) := by decide +kernel
theorem dX18_spot_93 : decode cX18_spot 93 = .ok (.ireturn, 1) := by decide +kernel
set_option maxRecDepth 20000 in
theorem ggX18_goalAt_X18_spot : GoodIn wsX18_goalAt wsX18_spot := goodIn_ca (goodIn_r _ [6, 7, 8, 9, 10, 11, 12, 13, 14, 5, 15, 16, 17, 18, 19, 20, 21, 22, 23, 24, 25, 26, 27, 28, 29, 30, 31, 32, 33, 34, 35, 36, 37, 38, 39, 40, 41, 42, 43, 44, 45, 46, 47, 48, 49, 50, 51, 52, 53, 54, 55, 56, 57, 58, 59, 60, 61, 62, 63, 64, 65, 66, 67, 68, 69, 70, 71, 72, 73, 74, 75, 76, 77, 78, 79, 80, 81, 82, 83, 84, 85, 86, 87, 88, 89] (by decide +kernel) (by decide +kernel)) (goodIn_sub (fun _ h => List.mem_cons_of_mem _ (List.mem_append_right _ h)) (by decide +kernel))
set_option maxRecDepth 20000 in
theorem gX18_goalAt_X18_spot : GoodIn wsX18_goalAt (wsV RX18 252 RX18 yX18_spot wsX18_spot) := goodIn_app (goodIn_of _ (by decide +kernel)) ggX18_goalAt_X18_spot
theorem dX18_goalAt_0 : decode cX18_goalAt 0 = .ok (.aload_n 0, 1) := by decide +kernel
theorem dX18_goalAt_1 : decode cX18_goalAt 1 = .ok (.iload_n 1, 1) := by decide +kernel
theorem dX18_goalAt_2 : decode cX18_goalAt 2 = .ok (.iload_n 2, 1) := by decide +kernel
theorem dX18_goalAt_3 : decode cX18_goalAt 3 = .ok (.iload_n 3, 1) := by decide +kernel
theorem dX18_goalAt_4 : decode cX18_goalAt 4 = .ok (.invokevirtual 252, 3) := by decide +kernel
theorem dX18_goalAt_7 : decode cX18_goalAt 7 = .ok (.istore 4, 2) := by decide +kernel
theorem dX18_goalAt_9 : decode cX18_goalAt 9 = .ok (.iload 4, 2) := by decide +kernel
theorem dX18_goalAt_11 : decode cX18_goalAt 11 = .ok (.iconst (-1), 1) := by decide +kernel
theorem dX18_goalAt_12 : decode cX18_goalAt 12 = .ok (.if_icmp .ne 7, 3) := by decide +kernel
theorem dX18_goalAt_15 : decode cX18_goalAt 15 = .ok (.iconst 0, 1) := by decide +kernel
theorem dX18_goalAt_16 : decode cX18_goalAt 16 = .ok (.goto 10, 3) := by decide +kernel
theorem dX18_goalAt_26 : decode cX18_goalAt 26 = .ok (.ireturn, 1) := by decide +kernel
set_option maxRecDepth 20000 in
theorem ggX18_chosenAt_X18_spot : GoodIn wsX18_chosenAt wsX18_spot := goodIn_ca (goodIn_r _ [6, 7, 8, 9, 10, 11, 12, 13, 14, 5, 15, 16, 17, 18, 19, 24, 25, 26, 27, 28, 29, 30, 31, 32, 33, 34, 35, 36, 37, 38, 39, 40, 41, 42, 43, 44, 45, 46, 47, 48, 49, 50, 51, 52, 53, 54, 55, 56, 57, 58, 59, 60, 61, 62, 63, 64, 65, 66, 67, 68, 69, 70, 71, 72, 73, 74, 75, 76, 77, 78, 79, 80, 81, 82, 83, 84, 85, 86, 87, 88, 89, 90, 91, 92, 93] (by decide +kernel) (by decide +kernel)) (goodIn_sub (fun _ h => List.mem_cons_of_mem _ (List.mem_append_right _ h)) (by decide +kernel))
set_option maxRecDepth 20000 in
theorem gX18_chosenAt_X18_spot : GoodIn wsX18_chosenAt (wsV RX18 252 RX18 yX18_spot wsX18_spot) := goodIn_app (goodIn_of _ (by decide +kernel)) ggX18_chosenAt_X18_spot
theorem dX18_chosenAt_0 : decode cX18_chosenAt 0 = .ok (.aload_n 0, 1) := by decide +kernel
theorem dX18_chosenAt_1 : decode cX18_chosenAt 1 = .ok (.iload_n 1, 1) := by decide +kernel
theorem dX18_chosenAt_2 : decode cX18_chosenAt 2 = .ok (.iload_n 2, 1) := by decide +kernel
theorem dX18_chosenAt_3 : decode cX18_chosenAt 3 = .ok (.iload_n 3, 1) := by decide +kernel
theorem dX18_chosenAt_4 : decode cX18_chosenAt 4 = .ok (.invokevirtual 252, 3) := by decide +kernel
theorem dX18_chosenAt_7 : decode cX18_chosenAt 7 = .ok (.istore 4, 2) := by decide +kernel
theorem dX18_chosenAt_9 : decode cX18_chosenAt 9 = .ok (.iload 4, 2) := by decide +kernel
theorem dX18_chosenAt_11 : decode cX18_chosenAt 11 = .ok (.iconst (-1), 1) := by decide +kernel
theorem dX18_chosenAt_12 : decode cX18_chosenAt 12 = .ok (.if_icmp .ne 5, 3) := by decide +kernel
theorem dX18_chosenAt_15 : decode cX18_chosenAt 15 = .ok (.iconst 0, 1) := by decide +kernel
theorem dX18_chosenAt_16 : decode cX18_chosenAt 16 = .ok (.ireturn, 1) := by decide +kernel
set_option maxRecDepth 20000 in
theorem ggX18_ask_X18_isPredicate : GoodIn wsX18_ask wsX18_isPredicate := goodIn_r _ [39, 40, 41, 42, 38, 43, 190, 191, 192, 193, 194, 195, 196, 197, 198, 199, 200, 201, 202, 203, 204, 205, 206, 207, 208, 209, 210, 211, 212, 213, 214, 215, 216, 217, 218, 219, 220, 221, 222, 223, 224, 225, 226, 227, 228, 229, 230, 231, 232, 233, 234, 235, 236, 237, 238, 239, 240, 241, 242, 243, 244, 245, 246, 247, 248, 249, 250, 251, 252, 253, 254, 255, 256, 257, 258, 259] (by decide +kernel) (by decide +kernel)
