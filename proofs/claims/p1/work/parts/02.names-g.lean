set_option maxRecDepth 20000 in
theorem wsL_law_x0 : ∀ w ∈ (vx_atM "java/lang/ArrayIndexOutOfBoundsException" ["java/lang/IndexOutOfBoundsException", "java/lang/RuntimeException", "java/lang/Exception"]).filter goodWord, w ∈ lw_tbl := o_idx [(1, 7), (1, 126), (1, 135), (1, 143), (1, 146), (1, 148), (1, 127), (1, 128), (1, 52), (1, 53), (1, 129), (1, 134), (1, 144), (2, 132), (1, 116), (2, 133), (1, 118), (2, 134), (1, 120), (1, 130), (1, 132), (1, 122), (2, 128), (2, 129), (2, 131), (1, 122), (4, 8), (4, 9), (2, 187), (2, 188), (2, 188), (2, 189), (2, 190), (2, 122), (2, 122), (2, 123), (2, 124), (2, 125), (2, 125), (2, 126), (2, 127), (2, 128), (1, 13), (2, 86), (1, 180), (2, 158), (2, 160), (2, 159), (2, 161), (1, 21), (2, 168), (2, 172), (1, 138), (2, 173), (2, 174), (2, 175), (2, 176), (1, 125), (1, 124), (2, 177)] rfl
set_option maxRecDepth 20000 in
theorem wsL_law_x1 : ∀ w ∈ (vx_at0 RX11 69 "java/lang/IllegalStateException" ["java/lang/RuntimeException", "java/lang/Exception"]).filter goodWord, w ∈ lw_tbl := o_idx [(1, 7), (1, 126), (1, 135), (1, 143), (1, 146), (1, 148), (1, 127), (1, 128), (1, 52), (1, 53), (1, 129), (1, 134), (1, 144), (2, 132), (1, 116), (2, 133), (1, 118), (2, 134), (1, 120), (1, 130), (1, 132), (1, 122), (3, 229), (3, 230), (3, 231), (3, 232), (3, 232), (3, 233), (3, 234), (3, 235), (3, 235), (3, 236), (3, 237), (1, 127), (3, 228), (3, 220), (3, 222), (1, 139), (3, 223), (3, 224), (3, 225), (3, 226), (1, 125), (1, 124), (3, 227)] rfl
set_option maxRecDepth 20000 in
theorem wsL_law_x2 : ∀ w ∈ (vx_at0 RX11 82 "java/lang/IndexOutOfBoundsException" ["java/lang/RuntimeException", "java/lang/Exception"]).filter goodWord, w ∈ lw_tbl := o_idx [(1, 7), (1, 126), (1, 135), (1, 143), (1, 146), (1, 148), (1, 127), (1, 128), (1, 52), (1, 53), (1, 129), (1, 134), (1, 144), (2, 132), (1, 116), (2, 133), (1, 118), (2, 134), (1, 120), (1, 130), (1, 132), (1, 122), (4, 33), (4, 34), (4, 35), (3, 232), (3, 232), (3, 233), (3, 234), (3, 235), (3, 235), (3, 236), (3, 237), (1, 127), (4, 32), (4, 24), (4, 26), (1, 140), (4, 27), (4, 28), (4, 29), (4, 30), (1, 125), (1, 124), (4, 31)] rfl
set_option maxRecDepth 20000 in
theorem wsL_law_x3 : ∀ w ∈ (vx_at0 RX11 85 "java/lang/IllegalArgumentException" ["java/lang/RuntimeException", "java/lang/Exception"]).filter goodWord, w ∈ lw_tbl := o_idx [(1, 7), (1, 126), (1, 135), (1, 143), (1, 146), (1, 148), (1, 127), (1, 128), (1, 52), (1, 53), (1, 129), (1, 134), (1, 144), (2, 132), (1, 116), (2, 133), (1, 118), (2, 134), (1, 120), (1, 130), (1, 132), (1, 122), (4, 40), (4, 41), (4, 42), (3, 232), (3, 232), (3, 233), (3, 234), (3, 235), (3, 235), (3, 236), (3, 237), (1, 127), (4, 39), (1, 105), (1, 113), (1, 114), (1, 115), (1, 117), (1, 119), (1, 121), (1, 125), (1, 124), (1, 123)] rfl
set_option maxRecDepth 20000 in
theorem wsL_law_x4 : ∀ w ∈ (vx_at0 RX11 119 "java/util/NoSuchElementException" ["java/lang/RuntimeException", "java/lang/Exception"]).filter goodWord, w ∈ lw_tbl := o_idx [(1, 7), (1, 126), (1, 135), (1, 143), (1, 146), (1, 148), (1, 127), (1, 128), (1, 52), (1, 53), (1, 129), (1, 134), (1, 144), (2, 132), (1, 116), (2, 133), (1, 118), (2, 134), (1, 120), (1, 130), (1, 132), (1, 122), (4, 146), (4, 147), (4, 148), (3, 232), (3, 232), (3, 233), (3, 234), (3, 235), (3, 235), (3, 236), (3, 237), (1, 127), (4, 145), (4, 137), (4, 139), (1, 142), (4, 140), (4, 141), (4, 142), (4, 143), (1, 125), (1, 124), (4, 144)] rfl
set_option maxRecDepth 20000 in
theorem wsL_law_x5 : ∀ w ∈ (vx_at0 RX11 257 "java/lang/UnsupportedOperationException" ["java/lang/RuntimeException", "java/lang/Exception"]).filter goodWord, w ∈ lw_tbl := o_idx [(1, 7), (1, 126), (1, 135), (1, 143), (1, 146), (1, 148), (1, 127), (1, 128), (1, 52), (1, 53), (1, 129), (1, 134), (1, 144), (2, 132), (1, 116), (2, 133), (1, 118), (2, 134), (1, 120), (1, 130), (1, 132), (1, 122), (8, 24), (8, 25), (8, 26), (3, 232), (3, 232), (3, 233), (3, 234), (3, 235), (3, 235), (3, 236), (3, 237), (1, 127), (8, 23), (8, 15), (8, 17), (1, 141), (8, 18), (8, 19), (8, 20), (8, 21), (1, 125), (1, 124), (8, 22)] rfl
set_option maxRecDepth 20000 in
theorem wsL_law_x6 : ∀ w ∈ (vx_at0 RX11 320 "java/lang/ArithmeticException" ["java/lang/RuntimeException", "java/lang/Exception"]).filter goodWord, w ∈ lw_tbl := o_idx [(1, 7), (1, 126), (1, 135), (1, 143), (1, 146), (1, 148), (1, 127), (1, 128), (1, 52), (1, 53), (1, 129), (1, 134), (1, 144), (2, 132), (1, 116), (2, 133), (1, 118), (2, 134), (1, 120), (1, 130), (1, 132), (1, 122), (9, 50), (9, 51), (9, 52), (3, 232), (3, 232), (3, 233), (3, 234), (3, 235), (3, 235), (3, 236), (3, 237), (1, 127), (9, 49), (9, 27), (9, 39), (1, 137), (9, 33), (9, 34), (9, 36), (9, 32), (1, 125), (1, 124), (9, 31)] rfl
theorem wsL_law_in : ∀ w ∈ wsL_law, w ∈ lw_tbl := fun w h => (List.mem_append.mp h).elim (fun h => (List.mem_append.mp h).elim (fun h => (List.mem_append.mp h).elim (fun h => (List.mem_append.mp h).elim (fun h => (List.mem_append.mp h).elim (fun h => (List.mem_append.mp h).elim (fun h => (List.mem_append.mp h).elim (fun h => wsL_law_in0 w h) (fun h => wsL_law_x0 w h)) (fun h => wsL_law_x1 w h)) (fun h => wsL_law_x2 w h)) (fun h => wsL_law_x3 w h)) (fun h => wsL_law_x4 w h)) (fun h => wsL_law_x5 w h)) (fun h => wsL_law_x6 w h)
theorem inlX0 : ∀ w ∈ wsX00, w ∈ wsL_law := fun _ h => List.mem_append_left _ (List.mem_append_left _ (List.mem_append_left _ (List.mem_append_left _ (List.mem_append_left _ (List.mem_append_left _ (List.mem_append_left _ (List.mem_append_left _ (List.mem_append_left _ (List.mem_append_left _ (List.mem_append_left _ (List.mem_append_left _ (List.mem_append_left _ (List.mem_append_left _ (List.mem_append_left _ (List.mem_append_left _ (List.mem_append_left _ (List.mem_append_left _ (List.mem_append_left _ (List.mem_append_left _ (List.mem_append_left _ (List.mem_append_left _ (List.mem_append_left _ (List.mem_append_right _ h)))))))))))))))))))))))
theorem inX0 : ∀ w ∈ wsX00, w ∈ lw_tbl := fun w h => wsL_law_in w (inlX0 w h)
theorem inlX1 : ∀ w ∈ wsX10, w ∈ wsL_law := fun _ h => List.mem_append_left _ (List.mem_append_left _ (List.mem_append_left _ (List.mem_append_left _ (List.mem_append_left _ (List.mem_append_left _ (List.mem_append_left _ (List.mem_append_left _ (List.mem_append_left _ (List.mem_append_left _ (List.mem_append_left _ (List.mem_append_left _ (List.mem_append_left _ (List.mem_append_left _ (List.mem_append_left _ (List.mem_append_right _ h)))))))))))))))
theorem inX1 : ∀ w ∈ wsX10, w ∈ lw_tbl := fun w h => wsL_law_in w (inlX1 w h)
theorem inlX2 : ∀ w ∈ wsX20, w ∈ wsL_law := fun _ h => List.mem_append_left _ (List.mem_append_left _ (List.mem_append_left _ (List.mem_append_left _ (List.mem_append_left _ (List.mem_append_left _ (List.mem_append_left _ (List.mem_append_left _ (List.mem_append_left _ (List.mem_append_left _ (List.mem_append_left _ (List.mem_append_left _ (List.mem_append_left _ (List.mem_append_left _ (List.mem_append_right _ h))))))))))))))
theorem inX2 : ∀ w ∈ wsX20, w ∈ lw_tbl := fun w h => wsL_law_in w (inlX2 w h)
theorem inlX3 : ∀ w ∈ wsX30, w ∈ wsL_law := fun _ h => List.mem_append_left _ (List.mem_append_left _ (List.mem_append_left _ (List.mem_append_left _ (List.mem_append_left _ (List.mem_append_left _ (List.mem_append_left _ (List.mem_append_left _ (List.mem_append_left _ (List.mem_append_left _ (List.mem_append_left _ (List.mem_append_left _ (List.mem_append_left _ (List.mem_append_left _ (List.mem_append_left _ (List.mem_append_left _ (List.mem_append_left _ (List.mem_append_right _ h)))))))))))))))))
theorem inX3 : ∀ w ∈ wsX30, w ∈ lw_tbl := fun w h => wsL_law_in w (inlX3 w h)
theorem inlX4 : ∀ w ∈ wsX40, w ∈ wsL_law := fun _ h => List.mem_append_left _ (List.mem_append_left _ (List.mem_append_left _ (List.mem_append_left _ (List.mem_append_left _ (List.mem_append_left _ (List.mem_append_left _ (List.mem_append_left _ (List.mem_append_left _ (List.mem_append_left _ (List.mem_append_left _ (List.mem_append_left _ (List.mem_append_left _ (List.mem_append_left _ (List.mem_append_left _ (List.mem_append_left _ (List.mem_append_left _ (List.mem_append_left _ (List.mem_append_left _ (List.mem_append_left _ (List.mem_append_left _ (List.mem_append_left _ (List.mem_append_left _ (List.mem_append_left _ (List.mem_append_right _ h))))))))))))))))))))))))
theorem inX4 : ∀ w ∈ wsX40, w ∈ lw_tbl := fun w h => wsL_law_in w (inlX4 w h)
theorem inlX5 : ∀ w ∈ wsX50, w ∈ wsL_law := fun _ h => List.mem_append_left _ (List.mem_append_left _ (List.mem_append_left _ (List.mem_append_left _ (List.mem_append_left _ (List.mem_append_left _ (List.mem_append_left _ (List.mem_append_left _ (List.mem_append_left _ (List.mem_append_left _ (List.mem_append_left _ (List.mem_append_left _ (List.mem_append_left _ (List.mem_append_left _ (List.mem_append_left _ (List.mem_append_left _ (List.mem_append_right _ h))))))))))))))))
theorem inX5 : ∀ w ∈ wsX50, w ∈ lw_tbl := fun w h => wsL_law_in w (inlX5 w h)
theorem inlX6 : ∀ w ∈ wsX60, w ∈ wsL_law := fun _ h => List.mem_append_left _ (List.mem_append_left _ (List.mem_append_left _ (List.mem_append_left _ (List.mem_append_left _ (List.mem_append_left _ (List.mem_append_left _ (List.mem_append_left _ (List.mem_append_left _ (List.mem_append_left _ (List.mem_append_left _ (List.mem_append_left _ (List.mem_append_left _ (List.mem_append_left _ (List.mem_append_left _ (List.mem_append_left _ (List.mem_append_left _ (List.mem_append_left _ (List.mem_append_right _ h))))))))))))))))))
theorem inX6 : ∀ w ∈ wsX60, w ∈ lw_tbl := fun w h => wsL_law_in w (inlX6 w h)
theorem inlX7 : ∀ w ∈ wsX70, w ∈ wsL_law := fun _ h => List.mem_append_left _ (List.mem_append_left _ (List.mem_append_left _ (List.mem_append_left _ (List.mem_append_left _ (List.mem_append_left _ (List.mem_append_left _ (List.mem_append_left _ (List.mem_append_left _ (List.mem_append_left _ (List.mem_append_left _ (List.mem_append_left _ (List.mem_append_left _ (List.mem_append_left _ (List.mem_append_left _ (List.mem_append_left _ (List.mem_append_left _ (List.mem_append_left _ (List.mem_append_left _ (List.mem_append_left _ (List.mem_append_left _ (List.mem_append_left _ (List.mem_append_left _ (List.mem_append_left _ (List.mem_append_left _ (List.mem_append_left _ (List.mem_append_right _ h))))))))))))))))))))))))))
theorem inX7 : ∀ w ∈ wsX70, w ∈ lw_tbl := fun w h => wsL_law_in w (inlX7 w h)
theorem inlX8 : ∀ w ∈ wsX80, w ∈ wsL_law := fun _ h => List.mem_append_left _ (List.mem_append_left _ (List.mem_append_left _ (List.mem_append_left _ (List.mem_append_left _ (List.mem_append_left _ (List.mem_append_left _ (List.mem_append_left _ (List.mem_append_left _ (List.mem_append_left _ (List.mem_append_left _ (List.mem_append_left _ (List.mem_append_left _ (List.mem_append_left _ (List.mem_append_left _ (List.mem_append_left _ (List.mem_append_left _ (List.mem_append_left _ (List.mem_append_left _ (List.mem_append_left _ (List.mem_append_left _ (List.mem_append_left _ (List.mem_append_left _ (List.mem_append_left _ (List.mem_append_left _ (List.mem_append_right _ h)))))))))))))))))))))))))
theorem inX8 : ∀ w ∈ wsX80, w ∈ lw_tbl := fun w h => wsL_law_in w (inlX8 w h)
theorem inlX9 : ∀ w ∈ wsX90, w ∈ wsL_law := fun _ h => List.mem_append_left _ (List.mem_append_left _ (List.mem_append_left _ (List.mem_append_left _ (List.mem_append_left _ (List.mem_append_left _ (List.mem_append_left _ (List.mem_append_left _ (List.mem_append_left _ (List.mem_append_left _ (List.mem_append_left _ (List.mem_append_left _ (List.mem_append_left _ (List.mem_append_left _ (List.mem_append_left _ (List.mem_append_left _ (List.mem_append_left _ (List.mem_append_left _ (List.mem_append_left _ (List.mem_append_left _ (List.mem_append_left _ (List.mem_append_left _ (List.mem_append_right _ h))))))))))))))))))))))
theorem inX9 : ∀ w ∈ wsX90, w ∈ lw_tbl := fun w h => wsL_law_in w (inlX9 w h)
theorem inlX10 : ∀ w ∈ wsX100, w ∈ wsL_law := fun _ h => List.mem_append_left _ (List.mem_append_left _ (List.mem_append_left _ (List.mem_append_left _ (List.mem_append_left _ (List.mem_append_left _ (List.mem_append_left _ (List.mem_append_left _ (List.mem_append_left _ (List.mem_append_left _ (List.mem_append_left _ (List.mem_append_left _ (List.mem_append_left _ (List.mem_append_left _ (List.mem_append_left _ (List.mem_append_left _ (List.mem_append_left _ (List.mem_append_left _ (List.mem_append_left _ (List.mem_append_left _ (List.mem_append_left _ (List.mem_append_left _ (List.mem_append_left _ (List.mem_append_left _ (List.mem_append_left _ (List.mem_append_left _ (List.mem_append_left _ (List.mem_append_right _ h)))))))))))))))))))))))))))
theorem inX10 : ∀ w ∈ wsX100, w ∈ lw_tbl := fun w h => wsL_law_in w (inlX10 w h)
theorem inlX11 : ∀ w ∈ wsX110, w ∈ wsL_law := fun _ h => List.mem_append_left _ (List.mem_append_left _ (List.mem_append_left _ (List.mem_append_left _ (List.mem_append_left _ (List.mem_append_left _ (List.mem_append_left _ (List.mem_append_left _ (List.mem_append_left _ (List.mem_append_left _ (List.mem_append_left _ (List.mem_append_left _ (List.mem_append_left _ (List.mem_append_left _ (List.mem_append_left _ (List.mem_append_left _ (List.mem_append_left _ (List.mem_append_left _ (List.mem_append_left _ (List.mem_append_left _ (List.mem_append_left _ (List.mem_append_left _ (List.mem_append_left _ (List.mem_append_left _ (List.mem_append_left _ (List.mem_append_left _ (List.mem_append_left _ (List.mem_append_left _ (List.mem_append_left _ (List.mem_append_right _ h)))))))))))))))))))))))))))))
theorem inX11 : ∀ w ∈ wsX110, w ∈ lw_tbl := fun w h => wsL_law_in w (inlX11 w h)
theorem inlX12 : ∀ w ∈ wsX120, w ∈ wsL_law := fun _ h => List.mem_append_left _ (List.mem_append_left _ (List.mem_append_left _ (List.mem_append_left _ (List.mem_append_left _ (List.mem_append_left _ (List.mem_append_left _ (List.mem_append_left _ (List.mem_append_right _ h))))))))
theorem inX12 : ∀ w ∈ wsX120, w ∈ lw_tbl := fun w h => wsL_law_in w (inlX12 w h)
theorem inlX13 : ∀ w ∈ wsX130, w ∈ wsL_law := fun _ h => List.mem_append_left _ (List.mem_append_left _ (List.mem_append_left _ (List.mem_append_left _ (List.mem_append_left _ (List.mem_append_left _ (List.mem_append_left _ (List.mem_append_left _ (List.mem_append_left _ (List.mem_append_left _ (List.mem_append_left _ (List.mem_append_left _ (List.mem_append_right _ h))))))))))))
theorem inX13 : ∀ w ∈ wsX130, w ∈ lw_tbl := fun w h => wsL_law_in w (inlX13 w h)
theorem inlX14 : ∀ w ∈ wsX140, w ∈ wsL_law := fun _ h => List.mem_append_left _ (List.mem_append_left _ (List.mem_append_left _ (List.mem_append_left _ (List.mem_append_left _ (List.mem_append_left _ (List.mem_append_left _ (List.mem_append_left _ (List.mem_append_left _ (List.mem_append_left _ (List.mem_append_left _ (List.mem_append_left _ (List.mem_append_left _ (List.mem_append_right _ h)))))))))))))
theorem inX14 : ∀ w ∈ wsX140, w ∈ lw_tbl := fun w h => wsL_law_in w (inlX14 w h)
theorem inlX15 : ∀ w ∈ wsX150, w ∈ wsL_law := fun _ h => List.mem_append_left _ (List.mem_append_left _ (List.mem_append_left _ (List.mem_append_left _ (List.mem_append_left _ (List.mem_append_left _ (List.mem_append_left _ (List.mem_append_left _ (List.mem_append_left _ (List.mem_append_right _ h)))))))))
theorem inX15 : ∀ w ∈ wsX150, w ∈ lw_tbl := fun w h => wsL_law_in w (inlX15 w h)
theorem inlX16 : ∀ w ∈ wsX160, w ∈ wsL_law := fun _ h => List.mem_append_left _ (List.mem_append_left _ (List.mem_append_left _ (List.mem_append_left _ (List.mem_append_left _ (List.mem_append_left _ (List.mem_append_left _ (List.mem_append_left _ (List.mem_append_left _ (List.mem_append_left _ (List.mem_append_right _ h))))))))))
theorem inX16 : ∀ w ∈ wsX160, w ∈ lw_tbl := fun w h => wsL_law_in w (inlX16 w h)
theorem inlX17 : ∀ w ∈ wsX170, w ∈ wsL_law := fun _ h => List.mem_append_left _ (List.mem_append_left _ (List.mem_append_left _ (List.mem_append_left _ (List.mem_append_left _ (List.mem_append_left _ (List.mem_append_left _ (List.mem_append_left _ (List.mem_append_left _ (List.mem_append_left _ (List.mem_append_left _ (List.mem_append_right _ h)))))))))))
theorem inX17 : ∀ w ∈ wsX170, w ∈ lw_tbl := fun w h => wsL_law_in w (inlX17 w h)
theorem inlX18 : ∀ w ∈ wsX180, w ∈ wsL_law := fun _ h => List.mem_append_left _ (List.mem_append_left _ (List.mem_append_left _ (List.mem_append_left _ (List.mem_append_left _ (List.mem_append_left _ (List.mem_append_left _ (List.mem_append_left _ (List.mem_append_left _ (List.mem_append_left _ (List.mem_append_left _ (List.mem_append_left _ (List.mem_append_left _ (List.mem_append_left _ (List.mem_append_left _ (List.mem_append_left _ (List.mem_append_left _ (List.mem_append_left _ (List.mem_append_left _ (List.mem_append_left _ (List.mem_append_left _ (List.mem_append_left _ (List.mem_append_left _ (List.mem_append_left _ (List.mem_append_left _ (List.mem_append_left _ (List.mem_append_left _ (List.mem_append_left _ (List.mem_append_right _ h))))))))))))))))))))))))))))
theorem inX18 : ∀ w ∈ wsX180, w ∈ lw_tbl := fun w h => wsL_law_in w (inlX18 w h)
theorem inlJx00060 : ∀ w ∈ wsJx000600, w ∈ wsL_law := fun _ h => List.mem_append_left _ (List.mem_append_left _ (List.mem_append_left _ (List.mem_append_left _ (List.mem_append_left _ (List.mem_append_left _ (List.mem_append_left _ (List.mem_append_left _ (List.mem_append_left _ (List.mem_append_left _ (List.mem_append_left _ (List.mem_append_left _ (List.mem_append_left _ (List.mem_append_left _ (List.mem_append_left _ (List.mem_append_left _ (List.mem_append_left _ (List.mem_append_left _ (List.mem_append_left _ (List.mem_append_left _ (List.mem_append_right _ h))))))))))))))))))))
theorem inJx00060 : ∀ w ∈ wsJx000600, w ∈ lw_tbl := fun w h => wsL_law_in w (inlJx00060 w h)
theorem inJ0 : ∀ w ∈ wsJ00, w ∈ lw_tbl := by decide +kernel
theorem inlJ4 : ∀ w ∈ wsJ40, w ∈ wsL_law := fun _ h => List.mem_append_left _ (List.mem_append_left _ (List.mem_append_left _ (List.mem_append_left _ (List.mem_append_left _ (List.mem_append_left _ (List.mem_append_left _ (List.mem_append_left _ (List.mem_append_left _ (List.mem_append_left _ (List.mem_append_left _ (List.mem_append_left _ (List.mem_append_left _ (List.mem_append_left _ (List.mem_append_left _ (List.mem_append_left _ (List.mem_append_left _ (List.mem_append_left _ (List.mem_append_left _ (List.mem_append_left _ (List.mem_append_left _ (List.mem_append_right _ h)))))))))))))))))))))
theorem inJ4 : ∀ w ∈ wsJ40, w ∈ lw_tbl := fun w h => wsL_law_in w (inlJ4 w h)
theorem inlJx4a65c : ∀ w ∈ wsJx4a65c0, w ∈ wsL_law := fun _ h => List.mem_append_left _ (List.mem_append_left _ (List.mem_append_left _ (List.mem_append_left _ (List.mem_append_left _ (List.mem_append_left _ (List.mem_append_left _ (List.mem_append_left _ (List.mem_append_left _ (List.mem_append_left _ (List.mem_append_left _ (List.mem_append_left _ (List.mem_append_left _ (List.mem_append_left _ (List.mem_append_left _ (List.mem_append_left _ (List.mem_append_left _ (List.mem_append_left _ (List.mem_append_left _ (List.mem_append_right _ h)))))))))))))))))))
theorem inJx4a65c : ∀ w ∈ wsJx4a65c0, w ∈ lw_tbl := fun w h => wsL_law_in w (inlJx4a65c w h)
set_option maxRecDepth 20000 in
theorem ggX0_init_X9_init : GoodIn wsX0_init wsX9_init := goodIn_r _ [19, 20, 2, 3, 21, 22, 23, 24, 25, 41, 42, 43] (by decide +kernel) (by decide +kernel)
set_option maxRecDepth 20000 in
theorem gX0_init_X9_init : GoodIn wsX0_init (wsX9_init) := ggX0_init_X9_init
theorem dX0_init_0 : decode cX0_init 0 = .ok (.aload_n 0, 1) := by decide +kernel
theorem dX0_init_1 : decode cX0_init 1 = .ok (.invokespecial 3, 3) := by decide +kernel
theorem dX0_init_4 : decode cX0_init 4 = .ok (.aload_n 0, 1) := by decide +kernel
theorem dX0_init_5 : decode cX0_init 5 = .ok (.aload_n 1, 1) := by decide +kernel
theorem dX0_init_6 : decode cX0_init 6 = .ok (.putfield 9, 3) := by decide +kernel
theorem dX0_init_9 : decode cX0_init 9 = .ok (.aload_n 0, 1) := by decide +kernel
theorem dX0_init_10 : decode cX0_init 10 = .ok (.aload_n 2, 1) := by decide +kernel
theorem dX0_init_11 : decode cX0_init 11 = .ok (.putfield 15, 3) := by decide +kernel
theorem dX0_init_14 : decode cX0_init 14 = .ok (.aload_n 0, 1) := by decide +kernel
theorem dX0_init_15 : decode cX0_init 15 = .ok (.new 19, 3) := by decide +kernel
theorem dX0_init_18 : decode cX0_init 18 = .ok (.dup, 1) := by decide +kernel
theorem dX0_init_19 : decode cX0_init 19 = .ok (.iconst 5, 1) := by decide +kernel
theorem dX0_init_20 : decode cX0_init 20 = .ok (.bipush 64, 2) := by decide +kernel
theorem dX0_init_22 : decode cX0_init 22 = .ok (.invokespecial 21, 3) := by decide +kernel
theorem dX0_init_25 : decode cX0_init 25 = .ok (.putfield 24, 3) := by decide +kernel
theorem dX0_init_28 : decode cX0_init 28 = .ok (.aload_n 0, 1) := by decide +kernel
theorem dX0_init_29 : decode cX0_init 29 = .ok (.new 19, 3) := by decide +kernel
theorem dX0_init_32 : decode cX0_init 32 = .ok (.dup, 1) := by decide +kernel
theorem dX0_init_33 : decode cX0_init 33 = .ok (.iconst 1, 1) := by decide +kernel
theorem dX0_init_34 : decode cX0_init 34 = .ok (.bipush 64, 2) := by decide +kernel
theorem dX0_init_36 : decode cX0_init 36 = .ok (.invokespecial 21, 3) := by decide +kernel
theorem dX0_init_39 : decode cX0_init 39 = .ok (.putfield 28, 3) := by decide +kernel
theorem dX0_init_42 : decode cX0_init 42 = .ok (.aload_n 0, 1) := by decide +kernel
theorem dX0_init_43 : decode cX0_init 43 = .ok (.new 19, 3) := by decide +kernel
theorem dX0_init_46 : decode cX0_init 46 = .ok (.dup, 1) := by decide +kernel
theorem dX0_init_47 : decode cX0_init 47 = .ok (.iconst 3, 1) := by decide +kernel
theorem dX0_init_48 : decode cX0_init 48 = .ok (.bipush 64, 2) := by decide +kernel
theorem dX0_init_50 : decode cX0_init 50 = .ok (.invokespecial 21, 3) := by decide +kernel
theorem dX0_init_53 : decode cX0_init 53 = .ok (.putfield 31, 3) := by decide +kernel
theorem dX0_init_56 : decode cX0_init 56 = .ok (.aload_n 0, 1) := by decide +kernel
theorem dX0_init_57 : decode cX0_init 57 = .ok (.new 19, 3) := by decide +kernel
theorem dX0_init_60 : decode cX0_init 60 = .ok (.dup, 1) := by decide +kernel
theorem dX0_init_61 : decode cX0_init 61 = .ok (.iconst 4, 1) := by decide +kernel
theorem dX0_init_62 : decode cX0_init 62 = .ok (.bipush 64, 2) := by decide +kernel
theorem dX0_init_64 : decode cX0_init 64 = .ok (.invokespecial 21, 3) := by decide +kernel
theorem dX0_init_67 : decode cX0_init 67 = .ok (.putfield 34, 3) := by decide +kernel
theorem dX0_init_70 : decode cX0_init 70 = .ok (.aload_n 0, 1) := by decide +kernel
theorem dX0_init_71 : decode cX0_init 71 = .ok (.new 19, 3) := by decide +kernel
theorem dX0_init_74 : decode cX0_init 74 = .ok (.dup, 1) := by decide +kernel
theorem dX0_init_75 : decode cX0_init 75 = .ok (.bipush 6, 2) := by decide +kernel
theorem dX0_init_77 : decode cX0_init 77 = .ok (.bipush 64, 2) := by decide +kernel
theorem dX0_init_79 : decode cX0_init 79 = .ok (.invokespecial 21, 3) := by decide +kernel
theorem dX0_init_82 : decode cX0_init 82 = .ok (.putfield 37, 3) := by decide +kernel
theorem dX0_init_85 : decode cX0_init 85 = .ok (.aload_n 0, 1) := by decide +kernel
theorem dX0_init_86 : decode cX0_init 86 = .ok (.new 19, 3) := by decide +kernel
theorem dX0_init_89 : decode cX0_init 89 = .ok (.dup, 1) := by decide +kernel
theorem dX0_init_90 : decode cX0_init 90 = .ok (.iconst 2, 1) := by decide +kernel
theorem dX0_init_91 : decode cX0_init 91 = .ok (.bipush 64, 2) := by decide +kernel
theorem dX0_init_93 : decode cX0_init 93 = .ok (.invokespecial 21, 3) := by decide +kernel
theorem dX0_init_96 : decode cX0_init 96 = .ok (.putfield 40, 3) := by decide +kernel
theorem dX0_init_99 : decode cX0_init 99 = .ok (.aload_n 0, 1) := by decide +kernel
theorem dX0_init_100 : decode cX0_init 100 = .ok (.new 19, 3) := by decide +kernel
theorem dX0_init_103 : decode cX0_init 103 = .ok (.dup, 1) := by decide +kernel
theorem dX0_init_104 : decode cX0_init 104 = .ok (.iconst 4, 1) := by decide +kernel
theorem dX0_init_105 : decode cX0_init 105 = .ok (.bipush 8, 2) := by decide +kernel
theorem dX0_init_107 : decode cX0_init 107 = .ok (.invokespecial 21, 3) := by decide +kernel
theorem dX0_init_110 : decode cX0_init 110 = .ok (.putfield 43, 3) := by decide +kernel
theorem dX0_init_113 : decode cX0_init 113 = .ok (.aload_n 0, 1) := by decide +kernel
theorem dX0_init_114 : decode cX0_init 114 = .ok (.new 19, 3) := by decide +kernel
theorem dX0_init_117 : decode cX0_init 117 = .ok (.dup, 1) := by decide +kernel
theorem dX0_init_118 : decode cX0_init 118 = .ok (.iconst 3, 1) := by decide +kernel
theorem dX0_init_119 : decode cX0_init 119 = .ok (.bipush 64, 2) := by decide +kernel
theorem dX0_init_121 : decode cX0_init 121 = .ok (.invokespecial 21, 3) := by decide +kernel
theorem dX0_init_124 : decode cX0_init 124 = .ok (.putfield 46, 3) := by decide +kernel
theorem dX0_init_127 : decode cX0_init 127 = .ok (.return_, 1) := by decide +kernel
theorem dX3_init_0 : decode cX3_init 0 = .ok (.aload_n 0, 1) := by decide +kernel
theorem dX3_init_1 : decode cX3_init 1 = .ok (.invokespecial 3, 3) := by decide +kernel
theorem dX3_init_4 : decode cX3_init 4 = .ok (.aload_n 0, 1) := by decide +kernel
theorem dX3_init_5 : decode cX3_init 5 = .ok (.iload_n 1, 1) := by decide +kernel
theorem dX3_init_6 : decode cX3_init 6 = .ok (.putfield 9, 3) := by decide +kernel
theorem dX3_init_9 : decode cX3_init 9 = .ok (.aload_n 0, 1) := by decide +kernel
theorem dX3_init_10 : decode cX3_init 10 = .ok (.iload_n 2, 1) := by decide +kernel
theorem dX3_init_11 : decode cX3_init 11 = .ok (.putfield 15, 3) := by decide +kernel
theorem dX3_init_14 : decode cX3_init 14 = .ok (.aload_n 0, 1) := by decide +kernel
theorem dX3_init_15 : decode cX3_init 15 = .ok (.iload_n 3, 1) := by decide +kernel
theorem dX3_init_16 : decode cX3_init 16 = .ok (.putfield 18, 3) := by decide +kernel
theorem dX3_init_19 : decode cX3_init 19 = .ok (.aload_n 0, 1) := by decide +kernel
theorem dX3_init_20 : decode cX3_init 20 = .ok (.iconst 3, 1) := by decide +kernel
theorem dX3_init_21 : decode cX3_init 21 = .ok (.newarray .int, 2) := by decide +kernel
theorem dX3_init_23 : decode cX3_init 23 = .ok (.dup, 1) := by decide +kernel
theorem dX3_init_24 : decode cX3_init 24 = .ok (.iconst 0, 1) := by decide +kernel
theorem dX3_init_25 : decode cX3_init 25 = .ok (.iload 4, 2) := by decide +kernel
theorem dX3_init_27 : decode cX3_init 27 = .ok (.iastore, 1) := by decide +kernel
theorem dX3_init_28 : decode cX3_init 28 = .ok (.dup, 1) := by decide +kernel
theorem dX3_init_29 : decode cX3_init 29 = .ok (.iconst 1, 1) := by decide +kernel
theorem dX3_init_30 : decode cX3_init 30 = .ok (.iload 5, 2) := by decide +kernel
theorem dX3_init_32 : decode cX3_init 32 = .ok (.iastore, 1) := by decide +kernel
theorem dX3_init_33 : decode cX3_init 33 = .ok (.dup, 1) := by decide +kernel
theorem dX3_init_34 : decode cX3_init 34 = .ok (.iconst 2, 1) := by decide +kernel
theorem dX3_init_35 : decode cX3_init 35 = .ok (.iload 6, 2) := by decide +kernel
theorem dX3_init_37 : decode cX3_init 37 = .ok (.iastore, 1) := by decide +kernel
theorem dX3_init_38 : decode cX3_init 38 = .ok (.putfield 21, 3) := by decide +kernel
theorem dX3_init_41 : decode cX3_init 41 = .ok (.return_, 1) := by decide +kernel
set_option maxRecDepth 20000 in
theorem ggX4_init_Jx4a65c_init_da8c8 : GoodIn wsX4_init wsJx4a65c_init_da8c8 := goodIn_r _ [17, 18, 19, 20, 21, 22, 23, 24, 25, 26, 27, 28, 29, 2, 3, 51, 52, 53] (by decide +kernel) (by decide +kernel)
set_option maxRecDepth 20000 in
theorem gX4_init_Jx4a65c_init_da8c8 : GoodIn wsX4_init (wsJx4a65c_init_da8c8) := ggX4_init_Jx4a65c_init_da8c8
set_option maxRecDepth 20000 in
theorem ggX4_init_X9_init : GoodIn wsX4_init wsX9_init := goodIn_r _ [32, 33, 2, 3, 34, 35, 36, 37, 38, 54, 55, 56] (by decide +kernel) (by decide +kernel)
set_option maxRecDepth 20000 in
theorem gX4_init_X9_init : GoodIn wsX4_init (wsX9_init) := ggX4_init_X9_init
theorem dX4_init_0 : decode cX4_init 0 = .ok (.aload_n 0, 1) := by decide +kernel
theorem dX4_init_1 : decode cX4_init 1 = .ok (.invokespecial 3, 3) := by decide +kernel
theorem dX4_init_4 : decode cX4_init 4 = .ok (.aload_n 0, 1) := by decide +kernel
theorem dX4_init_5 : decode cX4_init 5 = .ok (.aload_n 1, 1) := by decide +kernel
theorem dX4_init_6 : decode cX4_init 6 = .ok (.putfield 9, 3) := by decide +kernel
theorem dX4_init_9 : decode cX4_init 9 = .ok (.aload_n 0, 1) := by decide +kernel
theorem dX4_init_10 : decode cX4_init 10 = .ok (.aload_n 2, 1) := by decide +kernel
theorem dX4_init_11 : decode cX4_init 11 = .ok (.putfield 15, 3) := by decide +kernel
theorem dX4_init_14 : decode cX4_init 14 = .ok (.aload_n 0, 1) := by decide +kernel
theorem dX4_init_15 : decode cX4_init 15 = .ok (.new 19, 3) := by decide +kernel
theorem dX4_init_18 : decode cX4_init 18 = .ok (.dup, 1) := by decide +kernel
theorem dX4_init_19 : decode cX4_init 19 = .ok (.invokespecial 21, 3) := by decide +kernel
theorem dX4_init_22 : decode cX4_init 22 = .ok (.putfield 22, 3) := by decide +kernel
theorem dX4_init_25 : decode cX4_init 25 = .ok (.aload_n 0, 1) := by decide +kernel
theorem dX4_init_26 : decode cX4_init 26 = .ok (.new 26, 3) := by decide +kernel
theorem dX4_init_29 : decode cX4_init 29 = .ok (.dup, 1) := by decide +kernel
theorem dX4_init_30 : decode cX4_init 30 = .ok (.iconst 3, 1) := by decide +kernel
theorem dX4_init_31 : decode cX4_init 31 = .ok (.bipush 30, 2) := by decide +kernel
theorem dX4_init_33 : decode cX4_init 33 = .ok (.invokespecial 28, 3) := by decide +kernel
theorem dX4_init_36 : decode cX4_init 36 = .ok (.putfield 31, 3) := by decide +kernel
theorem dX4_init_39 : decode cX4_init 39 = .ok (.aload_n 0, 1) := by decide +kernel
theorem dX4_init_40 : decode cX4_init 40 = .ok (.new 26, 3) := by decide +kernel
theorem dX4_init_43 : decode cX4_init 43 = .ok (.dup, 1) := by decide +kernel
theorem dX4_init_44 : decode cX4_init 44 = .ok (.iconst 2, 1) := by decide +kernel
theorem dX4_init_45 : decode cX4_init 45 = .ok (.bipush 30, 2) := by decide +kernel
theorem dX4_init_47 : decode cX4_init 47 = .ok (.invokespecial 28, 3) := by decide +kernel
theorem dX4_init_50 : decode cX4_init 50 = .ok (.putfield 35, 3) := by decide +kernel
theorem dX4_init_53 : decode cX4_init 53 = .ok (.return_, 1) := by decide +kernel
set_option maxRecDepth 20000 in
theorem ggX6_init_X9_init : GoodIn wsX6_init wsX9_init := goodIn_r _ [20, 21, 2, 3, 22, 23, 24, 25, 26, 96, 97, 98] (by decide +kernel) (by decide +kernel)
set_option maxRecDepth 20000 in
theorem gX6_init_X9_init : GoodIn wsX6_init (wsX9_init) := ggX6_init_X9_init
set_option maxRecDepth 20000 in
theorem ggX6_init_Jx4a65c_init_da8c8 : GoodIn wsX6_init wsJx4a65c_init_da8c8 := goodIn_r _ [70, 71, 72, 73, 74, 75, 76, 77, 78, 79, 80, 81, 82, 2, 3, 99, 100, 101] (by decide +kernel) (by decide +kernel)
set_option maxRecDepth 20000 in
theorem gX6_init_Jx4a65c_init_da8c8 : GoodIn wsX6_init (wsJx4a65c_init_da8c8) := ggX6_init_Jx4a65c_init_da8c8
set_option maxRecDepth 20000 in
theorem ggX6_init_X3_init : GoodIn wsX6_init wsX3_init := goodIn_ca (goodIn_r _ [85, 86, 2, 3, 87, 88, 89, 24, 90, 102, 103, 104, 105] (by decide +kernel) (by decide +kernel)) (goodIn_sub (fun _ h => List.mem_cons_of_mem _ (List.mem_append_right _ h)) (by decide +kernel))
set_option maxRecDepth 20000 in
theorem gX6_init_X3_init : GoodIn wsX6_init (wsX3_init) := ggX6_init_X3_init
theorem dX6_init_0 : decode cX6_init 0 = .ok (.aload_n 0, 1) := by decide +kernel
theorem dX6_init_1 : decode cX6_init 1 = .ok (.invokespecial 3, 3) := by decide +kernel
theorem dX6_init_4 : decode cX6_init 4 = .ok (.aload_n 0, 1) := by decide +kernel
theorem dX6_init_5 : decode cX6_init 5 = .ok (.iload_n 1, 1) := by decide +kernel
theorem dX6_init_6 : decode cX6_init 6 = .ok (.putfield 9, 3) := by decide +kernel
theorem dX6_init_9 : decode cX6_init 9 = .ok (.iload_n 2, 1) := by decide +kernel
theorem dX6_init_10 : decode cX6_init 10 = .ok (.iconst (-1), 1) := by decide +kernel
theorem dX6_init_11 : decode cX6_init 11 = .ok (.if_icmp .ne 7, 3) := by decide +kernel
theorem dX6_init_14 : decode cX6_init 14 = .ok (.iconst 0, 1) := by decide +kernel
theorem dX6_init_15 : decode cX6_init 15 = .ok (.goto 23, 3) := by decide +kernel
theorem dX6_init_38 : decode cX6_init 38 = .ok (.istore 5, 2) := by decide +kernel
theorem dX6_init_40 : decode cX6_init 40 = .ok (.aload_n 0, 1) := by decide +kernel
theorem dX6_init_41 : decode cX6_init 41 = .ok (.new 15, 3) := by decide +kernel
theorem dX6_init_44 : decode cX6_init 44 = .ok (.dup, 1) := by decide +kernel
theorem dX6_init_45 : decode cX6_init 45 = .ok (.iconst 1, 1) := by decide +kernel
theorem dX6_init_46 : decode cX6_init 46 = .ok (.iconst 3, 1) := by decide +kernel
theorem dX6_init_47 : decode cX6_init 47 = .ok (.invokespecial 17, 3) := by decide +kernel
theorem dX6_init_50 : decode cX6_init 50 = .ok (.putfield 20, 3) := by decide +kernel
theorem dX6_init_53 : decode cX6_init 53 = .ok (.iconst 0, 1) := by decide +kernel
theorem dX6_init_54 : decode cX6_init 54 = .ok (.istore 6, 2) := by decide +kernel
theorem dX6_init_56 : decode cX6_init 56 = .ok (.iload 6, 2) := by decide +kernel
theorem dX6_init_58 : decode cX6_init 58 = .ok (.iload 5, 2) := by decide +kernel
theorem dX6_init_60 : decode cX6_init 60 = .ok (.if_icmp .ge 28, 3) := by decide +kernel
theorem dX6_init_88 : decode cX6_init 88 = .ok (.aload_n 0, 1) := by decide +kernel
theorem dX6_init_89 : decode cX6_init 89 = .ok (.new 32, 3) := by decide +kernel
theorem dX6_init_92 : decode cX6_init 92 = .ok (.dup, 1) := by decide +kernel
theorem dX6_init_93 : decode cX6_init 93 = .ok (.invokespecial 34, 3) := by decide +kernel
theorem dX6_init_96 : decode cX6_init 96 = .ok (.putfield 35, 3) := by decide +kernel
theorem dX6_init_99 : decode cX6_init 99 = .ok (.aload_n 0, 1) := by decide +kernel
theorem dX6_init_100 : decode cX6_init 100 = .ok (.new 32, 3) := by decide +kernel
theorem dX6_init_103 : decode cX6_init 103 = .ok (.dup, 1) := by decide +kernel
theorem dX6_init_104 : decode cX6_init 104 = .ok (.invokespecial 34, 3) := by decide +kernel
theorem dX6_init_107 : decode cX6_init 107 = .ok (.putfield 39, 3) := by decide +kernel
theorem dX6_init_110 : decode cX6_init 110 = .ok (.aload_n 0, 1) := by decide +kernel
theorem dX6_init_111 : decode cX6_init 111 = .ok (.new 42, 3) := by decide +kernel
theorem dX6_init_114 : decode cX6_init 114 = .ok (.dup, 1) := by decide +kernel
theorem dX6_init_115 : decode cX6_init 115 = .ok (.iconst 2, 1) := by decide +kernel
theorem dX6_init_116 : decode cX6_init 116 = .ok (.iload_n 1, 1) := by decide +kernel
theorem dX6_init_117 : decode cX6_init 117 = .ok (.iload 5, 2) := by decide +kernel
theorem dX6_init_119 : decode cX6_init 119 = .ok (.iconst 0, 1) := by decide +kernel
theorem dX6_init_120 : decode cX6_init 120 = .ok (.iconst 1, 1) := by decide +kernel
theorem dX6_init_121 : decode cX6_init 121 = .ok (.iconst 2, 1) := by decide +kernel
theorem dX6_init_122 : decode cX6_init 122 = .ok (.invokespecial 44, 3) := by decide +kernel
theorem dX6_init_125 : decode cX6_init 125 = .ok (.putfield 47, 3) := by decide +kernel
theorem dX6_init_128 : decode cX6_init 128 = .ok (.return_, 1) := by decide +kernel
set_option maxRecDepth 20000 in
theorem ggX7_init_Jx4a65c_init_da8c8 : GoodIn wsX7_init wsJx4a65c_init_da8c8 := goodIn_r _ [12, 13, 14, 15, 16, 17, 18, 19, 20, 21, 22, 23, 24, 2, 3, 25, 26, 27] (by decide +kernel) (by decide +kernel)
set_option maxRecDepth 20000 in
theorem gX7_init_Jx4a65c_init_da8c8 : GoodIn wsX7_init (wsJx4a65c_init_da8c8) := ggX7_init_Jx4a65c_init_da8c8
theorem dX7_init_0 : decode cX7_init 0 = .ok (.aload_n 0, 1) := by decide +kernel
theorem dX7_init_1 : decode cX7_init 1 = .ok (.invokespecial 3, 3) := by decide +kernel
theorem dX7_init_4 : decode cX7_init 4 = .ok (.aload_n 0, 1) := by decide +kernel
theorem dX7_init_5 : decode cX7_init 5 = .ok (.new 9, 3) := by decide +kernel
theorem dX7_init_8 : decode cX7_init 8 = .ok (.dup, 1) := by decide +kernel
theorem dX7_init_9 : decode cX7_init 9 = .ok (.invokespecial 11, 3) := by decide +kernel
theorem dX7_init_12 : decode cX7_init 12 = .ok (.putfield 12, 3) := by decide +kernel
theorem dX7_init_15 : decode cX7_init 15 = .ok (.aload_n 0, 1) := by decide +kernel
theorem dX7_init_16 : decode cX7_init 16 = .ok (.new 9, 3) := by decide +kernel
theorem dX7_init_19 : decode cX7_init 19 = .ok (.dup, 1) := by decide +kernel
theorem dX7_init_20 : decode cX7_init 20 = .ok (.invokespecial 11, 3) := by decide +kernel
theorem dX7_init_23 : decode cX7_init 23 = .ok (.putfield 18, 3) := by decide +kernel
theorem dX7_init_26 : decode cX7_init 26 = .ok (.aload_n 0, 1) := by decide +kernel
theorem dX7_init_27 : decode cX7_init 27 = .ok (.new 9, 3) := by decide +kernel
theorem dX7_init_30 : decode cX7_init 30 = .ok (.dup, 1) := by decide +kernel
theorem dX7_init_31 : decode cX7_init 31 = .ok (.invokespecial 11, 3) := by decide +kernel
theorem dX7_init_34 : decode cX7_init 34 = .ok (.putfield 21, 3) := by decide +kernel
theorem dX7_init_37 : decode cX7_init 37 = .ok (.return_, 1) := by decide +kernel
set_option maxRecDepth 20000 in
theorem ggX7_predicateCount_Jx4a65c_size_8abf5 : GoodIn wsX7_predicateCount wsJx4a65c_size_8abf5 := goodIn_r _ [6, 7, 11, 12, 13] (by decide +kernel) (by decide +kernel)
set_option maxRecDepth 20000 in
theorem gX7_predicateCount_Jx4a65c_size_8abf5 : GoodIn wsX7_predicateCount (wsV RX7 24 RJx4a65c yJx4a65c_size_8abf5 wsJx4a65c_size_8abf5) := goodIn_app (goodIn_of _ (by decide +kernel)) ggX7_predicateCount_Jx4a65c_size_8abf5
theorem dX7_predicateCount_0 : decode cX7_predicateCount 0 = .ok (.aload_n 0, 1) := by decide +kernel
theorem dX7_predicateCount_1 : decode cX7_predicateCount 1 = .ok (.getfield 12, 3) := by decide +kernel
theorem dX7_predicateCount_4 : decode cX7_predicateCount 4 = .ok (.invokevirtual 24, 3) := by decide +kernel
theorem dX7_predicateCount_7 : decode cX7_predicateCount 7 = .ok (.ireturn, 1) := by decide +kernel
set_option maxRecDepth 20000 in
theorem ggX7_predicateAt_Jx4a65c_size_8abf5 : GoodIn wsX7_predicateAt wsJx4a65c_size_8abf5 := goodIn_r _ [7, 8, 29, 30, 31] (by decide +kernel) (by decide +kernel)
set_option maxRecDepth 20000 in
theorem gX7_predicateAt_Jx4a65c_size_8abf5 : GoodIn wsX7_predicateAt (wsV RX7 24 RJx4a65c yJx4a65c_size_8abf5 wsJx4a65c_size_8abf5) := goodIn_app (goodIn_of _ (by decide +kernel)) ggX7_predicateAt_Jx4a65c_size_8abf5
theorem dX7_predicateAt_0 : decode cX7_predicateAt 0 = .ok (.iload_n 1, 1) := by decide +kernel
theorem dX7_predicateAt_1 : decode cX7_predicateAt 1 = .ok (.ifCond .lt 28, 3) := by decide +kernel
theorem dX7_predicateAt_4 : decode cX7_predicateAt 4 = .ok (.iload_n 1, 1) := by decide +kernel
theorem dX7_predicateAt_5 : decode cX7_predicateAt 5 = .ok (.aload_n 0, 1) := by decide +kernel
theorem dX7_predicateAt_6 : decode cX7_predicateAt 6 = .ok (.getfield 12, 3) := by decide +kernel
theorem dX7_predicateAt_9 : decode cX7_predicateAt 9 = .ok (.invokevirtual 24, 3) := by decide +kernel
theorem dX7_predicateAt_12 : decode cX7_predicateAt 12 = .ok (.if_icmp .ge 17, 3) := by decide +kernel
theorem dX7_predicateAt_29 : decode cX7_predicateAt 29 = .ok (.aconst_null, 1) := by decide +kernel
theorem dX7_predicateAt_30 : decode cX7_predicateAt 30 = .ok (.areturn, 1) := by decide +kernel
set_option maxRecDepth 20000 in
theorem ggX7_clauseAt_Jx4a65c_size_8abf5 : GoodIn wsX7_clauseAt wsJx4a65c_size_8abf5 := goodIn_r _ [7, 8, 29, 30, 31] (by decide +kernel) (by decide +kernel)
set_option maxRecDepth 20000 in
theorem gX7_clauseAt_Jx4a65c_size_8abf5 : GoodIn wsX7_clauseAt (wsV RX7 24 RJx4a65c yJx4a65c_size_8abf5 wsJx4a65c_size_8abf5) := goodIn_app (goodIn_of _ (by decide +kernel)) ggX7_clauseAt_Jx4a65c_size_8abf5
theorem dX7_clauseAt_0 : decode cX7_clauseAt 0 = .ok (.iload_n 1, 1) := by decide +kernel
theorem dX7_clauseAt_1 : decode cX7_clauseAt 1 = .ok (.ifCond .lt 28, 3) := by decide +kernel
theorem dX7_clauseAt_4 : decode cX7_clauseAt 4 = .ok (.iload_n 1, 1) := by decide +kernel
theorem dX7_clauseAt_5 : decode cX7_clauseAt 5 = .ok (.aload_n 0, 1) := by decide +kernel
theorem dX7_clauseAt_6 : decode cX7_clauseAt 6 = .ok (.getfield 21, 3) := by decide +kernel
theorem dX7_clauseAt_9 : decode cX7_clauseAt 9 = .ok (.invokevirtual 24, 3) := by decide +kernel
theorem dX7_clauseAt_12 : decode cX7_clauseAt 12 = .ok (.if_icmp .ge 17, 3) := by decide +kernel
theorem dX7_clauseAt_29 : decode cX7_clauseAt 29 = .ok (.aconst_null, 1) := by decide +kernel
theorem dX7_clauseAt_30 : decode cX7_clauseAt 30 = .ok (.areturn, 1) := by decide +kernel
set_option maxRecDepth 20000 in
theorem ggX7_modeAt_X7_predicateAt : GoodIn wsX7_modeAt wsX7_predicateAt := goodIn_r _ [5, 6, 7, 8, 9, 10, 11, 12, 13, 14, 15, 16, 17, 18, 19, 20, 21, 22, 23, 24, 25, 26, 27, 28, 29, 30, 40, 41, 42, 43, 44, 45] (by decide +kernel) (by decide +kernel)
set_option maxRecDepth 20000 in
theorem gX7_modeAt_X7_predicateAt : GoodIn wsX7_modeAt (wsV RX7 36 RX7 yX7_predicateAt wsX7_predicateAt) := goodIn_app (goodIn_of _ (by decide +kernel)) ggX7_modeAt_X7_predicateAt
theorem dX7_modeAt_0 : decode cX7_modeAt 0 = .ok (.aload_n 0, 1) := by decide +kernel
theorem dX7_modeAt_1 : decode cX7_modeAt 1 = .ok (.iload_n 1, 1) := by decide +kernel
theorem dX7_modeAt_2 : decode cX7_modeAt 2 = .ok (.invokevirtual 36, 3) := by decide +kernel
theorem dX7_modeAt_5 : decode cX7_modeAt 5 = .ok (.astore_n 3, 1) := by decide +kernel
theorem dX7_modeAt_6 : decode cX7_modeAt 6 = .ok (.aload_n 3, 1) := by decide +kernel
theorem dX7_modeAt_7 : decode cX7_modeAt 7 = .ok (.ifnonnull 7, 3) := by decide +kernel
theorem dX7_modeAt_10 : decode cX7_modeAt 10 = .ok (.aconst_null, 1) := by decide +kernel
theorem dX7_modeAt_11 : decode cX7_modeAt 11 = .ok (.goto 8, 3) := by decide +kernel
theorem dX7_modeAt_19 : decode cX7_modeAt 19 = .ok (.areturn, 1) := by decide +kernel
set_option maxRecDepth 20000 in
theorem ggX7_newPredicate_Jx4a65c_size_8abf5 : GoodIn wsX7_newPredicate wsJx4a65c_size_8abf5 := goodIn_r _ [9, 10, 154, 155, 156] (by decide +kernel) (by decide +kernel)
set_option maxRecDepth 20000 in
theorem gX7_newPredicate_Jx4a65c_size_8abf5 : GoodIn wsX7_newPredicate (wsV RX7 24 RJx4a65c yJx4a65c_size_8abf5 wsJx4a65c_size_8abf5) := goodIn_app (goodIn_of _ (by decide +kernel)) ggX7_newPredicate_Jx4a65c_size_8abf5
set_option maxRecDepth 20000 in
theorem ggX7_newPredicate_X6_init : GoodIn wsX7_newPredicate wsX6_init := goodIn_ca (goodIn_r _ [13, 14, 15, 16, 17, 18, 19, 20, 21, 22, 23, 8, 24, 25, 26, 27, 28, 29, 30, 31, 32, 33, 34, 35, 36, 37, 38, 39, 40, 41, 42, 43, 44, 45, 46, 47, 48, 49, 50, 51, 52, 53, 54, 55, 56, 57, 58, 59, 60, 61, 62, 63, 64, 65, 66, 67, 68, 69, 70, 71, 72, 73, 74, 75, 76, 77, 78, 79, 80, 81, 82, 83, 84, 85, 86, 87, 88, 89, 90, 91, 92, 93, 94, 95, 96, 97, 98, 99, 100, 101, 102, 149, 150, 151, 152, 153, 157, 158, 159, 154, 155, 156, 160, 161, 162, 163, 164, 165, 166, 167, 168, 169, 170, 171, 172, 173] (by decide +kernel) (by decide +kernel)) (goodIn_sub (fun _ h => List.mem_cons_of_mem _ (List.mem_append_right _ h)) (by decide +kernel))
set_option maxRecDepth 20000 in
theorem gX7_newPredicate_X6_init : GoodIn wsX7_newPredicate (wsX6_init) := ggX7_newPredicate_X6_init
set_option maxRecDepth 20000 in
theorem ggX7_newPredicate_Jx4a65c_add_9ea2d : GoodIn wsX7_newPredicate wsJx4a65c_add_9ea2d := goodIn_r _ [106, 107, 108, 84, 10, 109, 110, 111, 8, 112, 113, 114, 115, 116, 117, 118, 119, 120, 83, 121, 122, 58, 123, 124, 125, 126, 127, 128, 129, 130, 131, 132, 133, 134, 135, 48, 136, 137, 138, 139, 140, 141, 142, 143, 144, 145, 56, 57, 59, 60, 61, 62, 63, 154, 155, 156] (by decide +kernel) (by decide +kernel)
set_option maxRecDepth 20000 in
theorem gX7_newPredicate_Jx4a65c_add_9ea2d : GoodIn wsX7_newPredicate (wsV RX7 47 RJx4a65c yJx4a65c_add_9ea2d wsJx4a65c_add_9ea2d) := goodIn_app (goodIn_of _ (by decide +kernel)) ggX7_newPredicate_Jx4a65c_add_9ea2d
theorem dX7_newPredicate_0 : decode cX7_newPredicate 0 = .ok (.aload_n 0, 1) := by decide +kernel
theorem dX7_newPredicate_1 : decode cX7_newPredicate 1 = .ok (.getfield 12, 3) := by decide +kernel
theorem dX7_newPredicate_4 : decode cX7_newPredicate 4 = .ok (.new 32, 3) := by decide +kernel
theorem dX7_newPredicate_7 : decode cX7_newPredicate 7 = .ok (.dup, 1) := by decide +kernel
theorem dX7_newPredicate_8 : decode cX7_newPredicate 8 = .ok (.aload_n 0, 1) := by decide +kernel
theorem dX7_newPredicate_9 : decode cX7_newPredicate 9 = .ok (.getfield 12, 3) := by decide +kernel
theorem dX7_newPredicate_12 : decode cX7_newPredicate 12 = .ok (.invokevirtual 24, 3) := by decide +kernel
theorem dX7_newPredicate_15 : decode cX7_newPredicate 15 = .ok (.iload_n 1, 1) := by decide +kernel
theorem dX7_newPredicate_16 : decode cX7_newPredicate 16 = .ok (.iload_n 2, 1) := by decide +kernel
theorem dX7_newPredicate_17 : decode cX7_newPredicate 17 = .ok (.iload_n 3, 1) := by decide +kernel
theorem dX7_newPredicate_18 : decode cX7_newPredicate 18 = .ok (.invokespecial 44, 3) := by decide +kernel
theorem dX7_newPredicate_21 : decode cX7_newPredicate 21 = .ok (.invokevirtual 47, 3) := by decide +kernel
theorem dX7_newPredicate_24 : decode cX7_newPredicate 24 = .ok (.pop, 1) := by decide +kernel
theorem dX7_newPredicate_25 : decode cX7_newPredicate 25 = .ok (.aload_n 0, 1) := by decide +kernel
theorem dX7_newPredicate_26 : decode cX7_newPredicate 26 = .ok (.getfield 12, 3) := by decide +kernel
theorem dX7_newPredicate_29 : decode cX7_newPredicate 29 = .ok (.invokevirtual 24, 3) := by decide +kernel
theorem dX7_newPredicate_32 : decode cX7_newPredicate 32 = .ok (.iconst 1, 1) := by decide +kernel
theorem dX7_newPredicate_33 : decode cX7_newPredicate 33 = .ok (.isub, 1) := by decide +kernel
theorem dX7_newPredicate_34 : decode cX7_newPredicate 34 = .ok (.ireturn, 1) := by decide +kernel
set_option maxRecDepth 20000 in
theorem ggX7_faultCount_Jx4a65c_size_8abf5 : GoodIn wsX7_faultCount wsJx4a65c_size_8abf5 := goodIn_r _ [7, 8, 43, 44, 45] (by decide +kernel) (by decide +kernel)
set_option maxRecDepth 20000 in
theorem gX7_faultCount_Jx4a65c_size_8abf5 : GoodIn wsX7_faultCount (wsV RX7 24 RJx4a65c yJx4a65c_size_8abf5 wsJx4a65c_size_8abf5) := goodIn_app (goodIn_of _ (by decide +kernel)) ggX7_faultCount_Jx4a65c_size_8abf5
theorem dX7_faultCount_0 : decode cX7_faultCount 0 = .ok (.iconst 0, 1) := by decide +kernel
theorem dX7_faultCount_1 : decode cX7_faultCount 1 = .ok (.istore_n 1, 1) := by decide +kernel
theorem dX7_faultCount_2 : decode cX7_faultCount 2 = .ok (.iconst 0, 1) := by decide +kernel
theorem dX7_faultCount_3 : decode cX7_faultCount 3 = .ok (.istore_n 2, 1) := by decide +kernel
theorem dX7_faultCount_4 : decode cX7_faultCount 4 = .ok (.iload_n 2, 1) := by decide +kernel
theorem dX7_faultCount_5 : decode cX7_faultCount 5 = .ok (.aload_n 0, 1) := by decide +kernel
theorem dX7_faultCount_6 : decode cX7_faultCount 6 = .ok (.getfield 18, 3) := by decide +kernel
theorem dX7_faultCount_9 : decode cX7_faultCount 9 = .ok (.invokevirtual 24, 3) := by decide +kernel
theorem dX7_faultCount_12 : decode cX7_faultCount 12 = .ok (.if_icmp .ge 36, 3) := by decide +kernel
theorem dX7_faultCount_48 : decode cX7_faultCount 48 = .ok (.iload_n 1, 1) := by decide +kernel
theorem dX7_faultCount_49 : decode cX7_faultCount 49 = .ok (.ireturn, 1) := by decide +kernel
set_option maxRecDepth 20000 in
theorem ggX7_analyse_Jx4a65c_size_8abf5 : GoodIn wsX7_analyse wsJx4a65c_size_8abf5 := goodIn_r _ [7, 8, 229, 230, 231] (by decide +kernel) (by decide +kernel)
set_option maxRecDepth 20000 in
theorem gX7_analyse_Jx4a65c_size_8abf5 : GoodIn wsX7_analyse (wsV RX7 24 RJx4a65c yJx4a65c_size_8abf5 wsJx4a65c_size_8abf5) := goodIn_app (goodIn_of _ (by decide +kernel)) ggX7_analyse_Jx4a65c_size_8abf5
set_option maxRecDepth 20000 in
theorem ggX7_analyse_X7_spreadFaults : GoodIn wsX7_analyse wsX7_spreadFaults := goodIn_ca (goodIn_r _ [157, 1, 2, 3, 4, 5, 6, 7, 8, 9, 10, 11, 12, 13, 14, 15, 16, 17, 18, 19, 20, 21, 22, 23, 24, 25, 158, 159, 29, 160, 31, 32, 33, 34, 35, 36, 37, 38, 39, 40, 41, 42, 43, 161, 128, 129, 51, 130, 53, 162, 163, 164, 165, 125, 131, 132, 133, 134, 217, 218, 219, 220, 221, 222, 223, 224, 225, 226, 227, 228, 229, 230, 231, 232, 233, 234, 235, 236, 237, 238, 239, 240, 241, 242, 243, 244, 245] (by decide +kernel) (by decide +kernel)) (goodIn_sub (fun _ h => List.mem_cons_of_mem _ (List.mem_append_right _ h)) (by decide +kernel))
set_option maxRecDepth 20000 in
theorem gX7_analyse_X7_spreadFaults : GoodIn wsX7_analyse (wsV RX7 94 RX7 yX7_spreadFaults wsX7_spreadFaults) := goodIn_app (goodIn_of _ (by decide +kernel)) ggX7_analyse_X7_spreadFaults
set_option maxRecDepth 20000 in
theorem ggX7_analyse_X7_spreadFound : GoodIn wsX7_analyse wsX7_spreadFound := goodIn_ca (goodIn_r _ [169, 1, 2, 3, 4, 5, 6, 7, 8, 9, 10, 11, 12, 13, 14, 15, 16, 17, 18, 19, 20, 21, 22, 23, 24, 25, 170, 171, 29, 172, 31, 32, 33, 34, 35, 36, 37, 38, 39, 40, 41, 42, 43, 173, 174, 175, 161, 128, 129, 51, 130, 53, 150, 151, 152, 153, 124, 131, 132, 133, 134, 176, 177, 178, 179, 126, 162, 163, 164, 165, 125, 180, 181, 182, 99, 100, 101, 102, 103, 104, 105, 106, 107, 77, 108, 109, 183, 184, 185, 186, 187, 188, 189, 190, 191, 192, 140, 193, 194, 195, 144, 196, 197, 146, 198, 199, 200, 201, 202, 203, 204, 205, 142, 143, 145, 206, 207, 208, 209, 210, 211, 212, 213, 214, 215, 216, 217, 218, 219, 220, 221, 222, 223, 224, 225, 226, 227, 228, 229, 230, 231, 232, 233, 234, 235, 236, 237, 238, 239, 240, 241, 242, 243, 244, 245, 246, 247, 248, 249, 250, 251, 252, 253, 254, 255, 256, 257] (by decide +kernel) (by decide +kernel)) (goodIn_sub (fun _ h => List.mem_cons_of_mem _ (List.mem_append_right _ h)) (by decide +kernel))
set_option maxRecDepth 20000 in
theorem gX7_analyse_X7_spreadFound : GoodIn wsX7_analyse (wsV RX7 98 RX7 yX7_spreadFound wsX7_spreadFound) := goodIn_app (goodIn_of _ (by decide +kernel)) ggX7_analyse_X7_spreadFound
theorem dX7_analyse_0 : decode cX7_analyse 0 = .ok (.iconst 0, 1) := by decide +kernel
theorem dX7_analyse_1 : decode cX7_analyse 1 = .ok (.istore_n 2, 1) := by decide +kernel
theorem dX7_analyse_2 : decode cX7_analyse 2 = .ok (.iload_n 2, 1) := by decide +kernel
theorem dX7_analyse_3 : decode cX7_analyse 3 = .ok (.aload_n 0, 1) := by decide +kernel
theorem dX7_analyse_4 : decode cX7_analyse 4 = .ok (.getfield 18, 3) := by decide +kernel
theorem dX7_analyse_7 : decode cX7_analyse 7 = .ok (.invokevirtual 24, 3) := by decide +kernel
theorem dX7_analyse_10 : decode cX7_analyse 10 = .ok (.if_icmp .ge 72, 3) := by decide +kernel
theorem dX7_analyse_82 : decode cX7_analyse 82 = .ok (.iconst 1, 1) := by decide +kernel
theorem dX7_analyse_83 : decode cX7_analyse 83 = .ok (.istore_n 2, 1) := by decide +kernel
theorem dX7_analyse_84 : decode cX7_analyse 84 = .ok (.iconst 0, 1) := by decide +kernel
theorem dX7_analyse_85 : decode cX7_analyse 85 = .ok (.istore_n 3, 1) := by decide +kernel
theorem dX7_analyse_86 : decode cX7_analyse 86 = .ok (.iload_n 3, 1) := by decide +kernel
theorem dX7_analyse_87 : decode cX7_analyse 87 = .ok (.aload_n 0, 1) := by decide +kernel
theorem dX7_analyse_88 : decode cX7_analyse 88 = .ok (.getfield 18, 3) := by decide +kernel
theorem dX7_analyse_91 : decode cX7_analyse 91 = .ok (.invokevirtual 24, 3) := by decide +kernel
theorem dX7_analyse_94 : decode cX7_analyse 94 = .ok (.if_icmp .gt 18, 3) := by decide +kernel
theorem dX7_analyse_97 : decode cX7_analyse 97 = .ok (.iload_n 2, 1) := by decide +kernel
theorem dX7_analyse_98 : decode cX7_analyse 98 = .ok (.ifCond .eq 14, 3) := by decide +kernel
theorem dX7_analyse_101 : decode cX7_analyse 101 = .ok (.aload_n 0, 1) := by decide +kernel
theorem dX7_analyse_102 : decode cX7_analyse 102 = .ok (.invokevirtual 94, 3) := by decide +kernel
theorem dX7_analyse_105 : decode cX7_analyse 105 = .ok (.istore_n 2, 1) := by decide +kernel
theorem dX7_analyse_106 : decode cX7_analyse 106 = .ok (.iinc 3 1, 3) := by decide +kernel
theorem dX7_analyse_109 : decode cX7_analyse 109 = .ok (.goto (-23), 3) := by decide +kernel
theorem dX7_analyse_112 : decode cX7_analyse 112 = .ok (.iconst 1, 1) := by decide +kernel
theorem dX7_analyse_113 : decode cX7_analyse 113 = .ok (.istore_n 2, 1) := by decide +kernel
theorem dX7_analyse_114 : decode cX7_analyse 114 = .ok (.iconst 0, 1) := by decide +kernel
theorem dX7_analyse_115 : decode cX7_analyse 115 = .ok (.istore_n 3, 1) := by decide +kernel
theorem dX7_analyse_116 : decode cX7_analyse 116 = .ok (.iload_n 3, 1) := by decide +kernel
theorem dX7_analyse_117 : decode cX7_analyse 117 = .ok (.iconst 2, 1) := by decide +kernel
theorem dX7_analyse_118 : decode cX7_analyse 118 = .ok (.aload_n 0, 1) := by decide +kernel
theorem dX7_analyse_119 : decode cX7_analyse 119 = .ok (.getfield 18, 3) := by decide +kernel
theorem dX7_analyse_122 : decode cX7_analyse 122 = .ok (.invokevirtual 24, 3) := by decide +kernel
theorem dX7_analyse_125 : decode cX7_analyse 125 = .ok (.imul, 1) := by decide +kernel
theorem dX7_analyse_126 : decode cX7_analyse 126 = .ok (.if_icmp .gt 19, 3) := by decide +kernel
theorem dX7_analyse_129 : decode cX7_analyse 129 = .ok (.iload_n 2, 1) := by decide +kernel
theorem dX7_analyse_130 : decode cX7_analyse 130 = .ok (.ifCond .eq 15, 3) := by decide +kernel
theorem dX7_analyse_133 : decode cX7_analyse 133 = .ok (.aload_n 0, 1) := by decide +kernel
theorem dX7_analyse_134 : decode cX7_analyse 134 = .ok (.aload_n 1, 1) := by decide +kernel
theorem dX7_analyse_135 : decode cX7_analyse 135 = .ok (.invokevirtual 98, 3) := by decide +kernel
theorem dX7_analyse_138 : decode cX7_analyse 138 = .ok (.istore_n 2, 1) := by decide +kernel
theorem dX7_analyse_139 : decode cX7_analyse 139 = .ok (.iinc 3 1, 3) := by decide +kernel
theorem dX7_analyse_142 : decode cX7_analyse 142 = .ok (.goto (-26), 3) := by decide +kernel
theorem dX7_analyse_145 : decode cX7_analyse 145 = .ok (.return_, 1) := by decide +kernel
set_option maxRecDepth 20000 in
theorem ggX7_spreadFaults_Jx4a65c_size_8abf5 : GoodIn wsX7_spreadFaults wsJx4a65c_size_8abf5 := goodIn_r _ [7, 8, 70, 71, 72] (by decide +kernel) (by decide +kernel)
set_option maxRecDepth 20000 in
theorem gX7_spreadFaults_Jx4a65c_size_8abf5 : GoodIn wsX7_spreadFaults (wsV RX7 24 RJx4a65c yJx4a65c_size_8abf5 wsJx4a65c_size_8abf5) := goodIn_app (goodIn_of _ (by decide +kernel)) ggX7_spreadFaults_Jx4a65c_size_8abf5
theorem dX7_spreadFaults_0 : decode cX7_spreadFaults 0 = .ok (.iconst 0, 1) := by decide +kernel
theorem dX7_spreadFaults_1 : decode cX7_spreadFaults 1 = .ok (.istore_n 1, 1) := by decide +kernel
theorem dX7_spreadFaults_2 : decode cX7_spreadFaults 2 = .ok (.iconst 0, 1) := by decide +kernel
theorem dX7_spreadFaults_3 : decode cX7_spreadFaults 3 = .ok (.istore_n 2, 1) := by decide +kernel
theorem dX7_spreadFaults_4 : decode cX7_spreadFaults 4 = .ok (.iload_n 2, 1) := by decide +kernel
theorem dX7_spreadFaults_5 : decode cX7_spreadFaults 5 = .ok (.aload_n 0, 1) := by decide +kernel
theorem dX7_spreadFaults_6 : decode cX7_spreadFaults 6 = .ok (.getfield 18, 3) := by decide +kernel
theorem dX7_spreadFaults_9 : decode cX7_spreadFaults 9 = .ok (.invokevirtual 24, 3) := by decide +kernel
theorem dX7_spreadFaults_12 : decode cX7_spreadFaults 12 = .ok (.if_icmp .ge 42, 3) := by decide +kernel
theorem dX7_spreadFaults_54 : decode cX7_spreadFaults 54 = .ok (.iload_n 1, 1) := by decide +kernel
theorem dX7_spreadFaults_55 : decode cX7_spreadFaults 55 = .ok (.ireturn, 1) := by decide +kernel
set_option maxRecDepth 20000 in
theorem ggX7_spreadFound_Jx4a65c_size_8abf5 : GoodIn wsX7_spreadFound wsJx4a65c_size_8abf5 := goodIn_r _ [7, 8, 138, 139, 140] (by decide +kernel) (by decide +kernel)
set_option maxRecDepth 20000 in
theorem gX7_spreadFound_Jx4a65c_size_8abf5 : GoodIn wsX7_spreadFound (wsV RX7 24 RJx4a65c yJx4a65c_size_8abf5 wsJx4a65c_size_8abf5) := goodIn_app (goodIn_of _ (by decide +kernel)) ggX7_spreadFound_Jx4a65c_size_8abf5
theorem dX7_spreadFound_0 : decode cX7_spreadFound 0 = .ok (.iconst 0, 1) := by decide +kernel
theorem dX7_spreadFound_1 : decode cX7_spreadFound 1 = .ok (.istore_n 2, 1) := by decide +kernel
theorem dX7_spreadFound_2 : decode cX7_spreadFound 2 = .ok (.iconst 0, 1) := by decide +kernel
theorem dX7_spreadFound_3 : decode cX7_spreadFound 3 = .ok (.istore_n 3, 1) := by decide +kernel
theorem dX7_spreadFound_4 : decode cX7_spreadFound 4 = .ok (.iload_n 3, 1) := by decide +kernel
theorem dX7_spreadFound_5 : decode cX7_spreadFound 5 = .ok (.aload_n 0, 1) := by decide +kernel
theorem dX7_spreadFound_6 : decode cX7_spreadFound 6 = .ok (.getfield 18, 3) := by decide +kernel
theorem dX7_spreadFound_9 : decode cX7_spreadFound 9 = .ok (.invokevirtual 24, 3) := by decide +kernel
theorem dX7_spreadFound_12 : decode cX7_spreadFound 12 = .ok (.if_icmp .ge 121, 3) := by decide +kernel
theorem dX7_spreadFound_133 : decode cX7_spreadFound 133 = .ok (.iload_n 2, 1) := by decide +kernel
theorem dX7_spreadFound_134 : decode cX7_spreadFound 134 = .ok (.ireturn, 1) := by decide +kernel
set_option maxRecDepth 20000 in
theorem ggX8_init_X9_init : GoodIn wsX8_init wsX9_init := goodIn_r _ [14, 15, 2, 3, 16, 17, 18, 19, 20, 31, 32, 33] (by decide +kernel) (by decide +kernel)
set_option maxRecDepth 20000 in
theorem gX8_init_X9_init : GoodIn wsX8_init (wsX9_init) := ggX8_init_X9_init
theorem dX8_init_0 : decode cX8_init 0 = .ok (.aload_n 0, 1) := by decide +kernel
theorem dX8_init_1 : decode cX8_init 1 = .ok (.invokespecial 3, 3) := by decide +kernel
theorem dX8_init_4 : decode cX8_init 4 = .ok (.aload_n 0, 1) := by decide +kernel
theorem dX8_init_5 : decode cX8_init 5 = .ok (.aconst_null, 1) := by decide +kernel
theorem dX8_init_6 : decode cX8_init 6 = .ok (.putfield 9, 3) := by decide +kernel
theorem dX8_init_9 : decode cX8_init 9 = .ok (.aload_n 0, 1) := by decide +kernel
theorem dX8_init_10 : decode cX8_init 10 = .ok (.new 15, 3) := by decide +kernel
theorem dX8_init_13 : decode cX8_init 13 = .ok (.dup, 1) := by decide +kernel
theorem dX8_init_14 : decode cX8_init 14 = .ok (.iconst 1, 1) := by decide +kernel
theorem dX8_init_15 : decode cX8_init 15 = .ok (.iconst 3, 1) := by decide +kernel
theorem dX8_init_16 : decode cX8_init 16 = .ok (.invokespecial 17, 3) := by decide +kernel
theorem dX8_init_19 : decode cX8_init 19 = .ok (.putfield 20, 3) := by decide +kernel
theorem dX8_init_22 : decode cX8_init 22 = .ok (.aload_n 0, 1) := by decide +kernel
theorem dX8_init_23 : decode cX8_init 23 = .ok (.new 15, 3) := by decide +kernel
theorem dX8_init_26 : decode cX8_init 26 = .ok (.dup, 1) := by decide +kernel
theorem dX8_init_27 : decode cX8_init 27 = .ok (.iconst 3, 1) := by decide +kernel
theorem dX8_init_28 : decode cX8_init 28 = .ok (.bipush 50, 2) := by decide +kernel
theorem dX8_init_30 : decode cX8_init 30 = .ok (.invokespecial 17, 3) := by decide +kernel
theorem dX8_init_33 : decode cX8_init 33 = .ok (.putfield 24, 3) := by decide +kernel
theorem dX8_init_36 : decode cX8_init 36 = .ok (.aload_n 0, 1) := by decide +kernel
theorem dX8_init_37 : decode cX8_init 37 = .ok (.new 15, 3) := by decide +kernel
theorem dX8_init_40 : decode cX8_init 40 = .ok (.dup, 1) := by decide +kernel
theorem dX8_init_41 : decode cX8_init 41 = .ok (.iconst 2, 1) := by decide +kernel
theorem dX8_init_42 : decode cX8_init 42 = .ok (.bipush 80, 2) := by decide +kernel
theorem dX8_init_44 : decode cX8_init 44 = .ok (.invokespecial 17, 3) := by decide +kernel
theorem dX8_init_47 : decode cX8_init 47 = .ok (.putfield 27, 3) := by decide +kernel
theorem dX8_init_50 : decode cX8_init 50 = .ok (.aload_n 0, 1) := by decide +kernel
theorem dX8_init_51 : decode cX8_init 51 = .ok (.bipush 101, 2) := by decide +kernel
theorem dX8_init_53 : decode cX8_init 53 = .ok (.putfield 30, 3) := by decide +kernel
theorem dX8_init_56 : decode cX8_init 56 = .ok (.return_, 1) := by decide +kernel
theorem dX9_init_0 : decode cX9_init 0 = .ok (.aload_n 0, 1) := by decide +kernel
theorem dX9_init_1 : decode cX9_init 1 = .ok (.invokespecial 3, 3) := by decide +kernel
theorem dX9_init_4 : decode cX9_init 4 = .ok (.aload_n 0, 1) := by decide +kernel
theorem dX9_init_5 : decode cX9_init 5 = .ok (.iload_n 1, 1) := by decide +kernel
theorem dX9_init_6 : decode cX9_init 6 = .ok (.ifCond .le 7, 3) := by decide +kernel
theorem dX9_init_9 : decode cX9_init 9 = .ok (.iload_n 1, 1) := by decide +kernel
theorem dX9_init_10 : decode cX9_init 10 = .ok (.goto 4, 3) := by decide +kernel
theorem dX9_init_14 : decode cX9_init 14 = .ok (.putfield 9, 3) := by decide +kernel
theorem dX9_init_17 : decode cX9_init 17 = .ok (.aload_n 0, 1) := by decide +kernel
theorem dX9_init_18 : decode cX9_init 18 = .ok (.iload_n 2, 1) := by decide +kernel
theorem dX9_init_19 : decode cX9_init 19 = .ok (.ifCond .le 18, 3) := by decide +kernel
theorem dX9_init_22 : decode cX9_init 22 = .ok (.iload_n 2, 1) := by decide +kernel
theorem dX9_init_23 : decode cX9_init 23 = .ok (.ldc 15, 2) := by decide +kernel
theorem dX9_init_25 : decode cX9_init 25 = .ok (.if_icmp .ge 12, 3) := by decide +kernel
theorem dX9_init_28 : decode cX9_init 28 = .ok (.aload_n 0, 1) := by decide +kernel
theorem dX9_init_29 : decode cX9_init 29 = .ok (.getfield 9, 3) := by decide +kernel
theorem dX9_init_32 : decode cX9_init 32 = .ok (.iload_n 2, 1) := by decide +kernel
theorem dX9_init_33 : decode cX9_init 33 = .ok (.imul, 1) := by decide +kernel
theorem dX9_init_34 : decode cX9_init 34 = .ok (.goto 7, 3) := by decide +kernel
theorem dX9_init_41 : decode cX9_init 41 = .ok (.newarray .int, 2) := by decide +kernel
theorem dX9_init_43 : decode cX9_init 43 = .ok (.putfield 16, 3) := by decide +kernel
theorem dX9_init_46 : decode cX9_init 46 = .ok (.aload_n 0, 1) := by decide +kernel
theorem dX9_init_47 : decode cX9_init 47 = .ok (.iconst 0, 1) := by decide +kernel
theorem dX9_init_48 : decode cX9_init 48 = .ok (.putfield 20, 3) := by decide +kernel
theorem dX9_init_51 : decode cX9_init 51 = .ok (.return_, 1) := by decide +kernel
theorem dX9_count_0 : decode cX9_count 0 = .ok (.aload_n 0, 1) := by decide +kernel
theorem dX9_count_1 : decode cX9_count 1 = .ok (.getfield 20, 3) := by decide +kernel
theorem dX9_count_4 : decode cX9_count 4 = .ok (.ireturn, 1) := by decide +kernel
theorem dX9_set_0 : decode cX9_set 0 = .ok (.iload_n 1, 1) := by decide +kernel
theorem dX9_set_1 : decode cX9_set 1 = .ok (.aload_n 0, 1) := by decide +kernel
theorem dX9_set_2 : decode cX9_set 2 = .ok (.getfield 9, 3) := by decide +kernel
theorem dX9_set_5 : decode cX9_set 5 = .ok (.imul, 1) := by decide +kernel
theorem dX9_set_6 : decode cX9_set 6 = .ok (.iload_n 2, 1) := by decide +kernel
theorem dX9_set_7 : decode cX9_set 7 = .ok (.iadd, 1) := by decide +kernel
theorem dX9_set_8 : decode cX9_set 8 = .ok (.istore 4, 2) := by decide +kernel
theorem dX9_set_10 : decode cX9_set 10 = .ok (.iload_n 1, 1) := by decide +kernel
theorem dX9_set_11 : decode cX9_set 11 = .ok (.ifCond .lt 27, 3) := by decide +kernel
theorem dX9_set_14 : decode cX9_set 14 = .ok (.iload_n 1, 1) := by decide +kernel
theorem dX9_set_15 : decode cX9_set 15 = .ok (.aload_n 0, 1) := by decide +kernel
theorem dX9_set_16 : decode cX9_set 16 = .ok (.getfield 20, 3) := by decide +kernel
theorem dX9_set_19 : decode cX9_set 19 = .ok (.if_icmp .ge 19, 3) := by decide +kernel
theorem dX9_set_22 : decode cX9_set 22 = .ok (.iload_n 2, 1) := by decide +kernel
theorem dX9_set_23 : decode cX9_set 23 = .ok (.ifCond .lt 15, 3) := by decide +kernel
theorem dX9_set_26 : decode cX9_set 26 = .ok (.iload_n 2, 1) := by decide +kernel
theorem dX9_set_27 : decode cX9_set 27 = .ok (.aload_n 0, 1) := by decide +kernel
theorem dX9_set_28 : decode cX9_set 28 = .ok (.getfield 9, 3) := by decide +kernel
theorem dX9_set_31 : decode cX9_set 31 = .ok (.if_icmp .ge 7, 3) := by decide +kernel
theorem dX9_set_34 : decode cX9_set 34 = .ok (.iconst 1, 1) := by decide +kernel
theorem dX9_set_35 : decode cX9_set 35 = .ok (.goto 4, 3) := by decide +kernel
theorem dX9_set_38 : decode cX9_set 38 = .ok (.iconst 0, 1) := by decide +kernel
theorem dX9_set_39 : decode cX9_set 39 = .ok (.istore 5, 2) := by decide +kernel
theorem dX9_set_41 : decode cX9_set 41 = .ok (.iload 5, 2) := by decide +kernel
theorem dX9_set_43 : decode cX9_set 43 = .ok (.ifCond .eq 26, 3) := by decide +kernel
theorem dX9_set_46 : decode cX9_set 46 = .ok (.iload 4, 2) := by decide +kernel
theorem dX9_set_48 : decode cX9_set 48 = .ok (.ifCond .lt 21, 3) := by decide +kernel
theorem dX9_set_51 : decode cX9_set 51 = .ok (.iload 4, 2) := by decide +kernel
theorem dX9_set_53 : decode cX9_set 53 = .ok (.aload_n 0, 1) := by decide +kernel
theorem dX9_set_54 : decode cX9_set 54 = .ok (.getfield 16, 3) := by decide +kernel
theorem dX9_set_57 : decode cX9_set 57 = .ok (.arraylength, 1) := by decide +kernel
theorem dX9_set_58 : decode cX9_set 58 = .ok (.if_icmp .ge 11, 3) := by decide +kernel
theorem dX9_set_61 : decode cX9_set 61 = .ok (.aload_n 0, 1) := by decide +kernel
theorem dX9_set_62 : decode cX9_set 62 = .ok (.getfield 16, 3) := by decide +kernel
theorem dX9_set_65 : decode cX9_set 65 = .ok (.iload 4, 2) := by decide +kernel
theorem dX9_set_67 : decode cX9_set 67 = .ok (.iload_n 3, 1) := by decide +kernel
theorem dX9_set_68 : decode cX9_set 68 = .ok (.iastore, 1) := by decide +kernel
theorem dX9_set_69 : decode cX9_set 69 = .ok (.return_, 1) := by decide +kernel
set_option maxRecDepth 20000 in
theorem ggX9_add_J7_fill_fda19 : GoodIn wsX9_add wsJ7_fill_fda19 := goodIn_r _ [26, 27, 28, 7, 29, 30, 31, 32, 33, 34, 35, 44, 45, 46, 47, 48, 49, 50, 51, 52, 53] (by decide +kernel) (by decide +kernel)
set_option maxRecDepth 20000 in
theorem gX9_add_J7_fill_fda19 : GoodIn wsX9_add (va_wsS RX9 29 yJ7_fill_fda19 wsJ7_fill_fda19) := goodIn_app (goodIn_of _ (by decide +kernel)) ggX9_add_J7_fill_fda19
set_option maxRecDepth 20000 in
theorem ggX9_add_X9_set : GoodIn wsX9_add wsX9_set := goodIn_ca (goodIn_r _ [40, 2, 1, 3, 41, 42, 43] (by decide +kernel) (by decide +kernel)) (goodIn_sub (fun _ h => List.mem_cons_of_mem _ (List.mem_append_right _ h)) (by decide +kernel))
set_option maxRecDepth 20000 in
theorem gX9_add_X9_set : GoodIn wsX9_add (wsV RX9 33 RX9 yX9_set wsX9_set) := goodIn_app (goodIn_of _ (by decide +kernel)) ggX9_add_X9_set
theorem dX9_add_0 : decode cX9_add 0 = .ok (.aload_n 0, 1) := by decide +kernel
theorem dX9_add_1 : decode cX9_add 1 = .ok (.getfield 20, 3) := by decide +kernel
theorem dX9_add_4 : decode cX9_add 4 = .ok (.aload_n 0, 1) := by decide +kernel
theorem dX9_add_5 : decode cX9_add 5 = .ok (.getfield 9, 3) := by decide +kernel
theorem dX9_add_8 : decode cX9_add 8 = .ok (.imul, 1) := by decide +kernel
theorem dX9_add_9 : decode cX9_add 9 = .ok (.istore 4, 2) := by decide +kernel
theorem dX9_add_11 : decode cX9_add 11 = .ok (.iload 4, 2) := by decide +kernel
theorem dX9_add_13 : decode cX9_add 13 = .ok (.aload_n 0, 1) := by decide +kernel
theorem dX9_add_14 : decode cX9_add 14 = .ok (.getfield 9, 3) := by decide +kernel
theorem dX9_add_17 : decode cX9_add 17 = .ok (.iadd, 1) := by decide +kernel
theorem dX9_add_18 : decode cX9_add 18 = .ok (.istore 5, 2) := by decide +kernel
theorem dX9_add_20 : decode cX9_add 20 = .ok (.iload 5, 2) := by decide +kernel
theorem dX9_add_22 : decode cX9_add 22 = .ok (.aload_n 0, 1) := by decide +kernel
theorem dX9_add_23 : decode cX9_add 23 = .ok (.getfield 16, 3) := by decide +kernel
theorem dX9_add_26 : decode cX9_add 26 = .ok (.arraylength, 1) := by decide +kernel
theorem dX9_add_27 : decode cX9_add 27 = .ok (.if_icmp .le 25, 3) := by decide +kernel
theorem dX9_add_52 : decode cX9_add 52 = .ok (.iload 4, 2) := by decide +kernel
theorem dX9_add_54 : decode cX9_add 54 = .ok (.ifCond .lt 13, 3) := by decide +kernel
theorem dX9_add_57 : decode cX9_add 57 = .ok (.iload 5, 2) := by decide +kernel
theorem dX9_add_59 : decode cX9_add 59 = .ok (.aload_n 0, 1) := by decide +kernel
theorem dX9_add_60 : decode cX9_add 60 = .ok (.getfield 16, 3) := by decide +kernel
theorem dX9_add_63 : decode cX9_add 63 = .ok (.arraylength, 1) := by decide +kernel
theorem dX9_add_64 : decode cX9_add 64 = .ok (.if_icmp .le 5, 3) := by decide +kernel
theorem dX9_add_69 : decode cX9_add 69 = .ok (.aload_n 0, 1) := by decide +kernel
theorem dX9_add_70 : decode cX9_add 70 = .ok (.getfield 16, 3) := by decide +kernel
theorem dX9_add_73 : decode cX9_add 73 = .ok (.iload 4, 2) := by decide +kernel
theorem dX9_add_75 : decode cX9_add 75 = .ok (.iload 5, 2) := by decide +kernel
theorem dX9_add_77 : decode cX9_add 77 = .ok (.iconst (-1), 1) := by decide +kernel
theorem dX9_add_78 : decode cX9_add 78 = .ok (.invokestatic 29, 3) := by decide +kernel
theorem dX9_add_81 : decode cX9_add 81 = .ok (.aload_n 0, 1) := by decide +kernel
theorem dX9_add_82 : decode cX9_add 82 = .ok (.dup, 1) := by decide +kernel
theorem dX9_add_83 : decode cX9_add 83 = .ok (.getfield 20, 3) := by decide +kernel
theorem dX9_add_86 : decode cX9_add 86 = .ok (.iconst 1, 1) := by decide +kernel
theorem dX9_add_87 : decode cX9_add 87 = .ok (.iadd, 1) := by decide +kernel
theorem dX9_add_88 : decode cX9_add 88 = .ok (.putfield 20, 3) := by decide +kernel
theorem dX9_add_91 : decode cX9_add 91 = .ok (.aload_n 0, 1) := by decide +kernel
theorem dX9_add_92 : decode cX9_add 92 = .ok (.aload_n 0, 1) := by decide +kernel
theorem dX9_add_93 : decode cX9_add 93 = .ok (.getfield 20, 3) := by decide +kernel
theorem dX9_add_96 : decode cX9_add 96 = .ok (.iconst 1, 1) := by decide +kernel
theorem dX9_add_97 : decode cX9_add 97 = .ok (.isub, 1) := by decide +kernel
theorem dX9_add_98 : decode cX9_add 98 = .ok (.iconst 0, 1) := by decide +kernel
theorem dX9_add_99 : decode cX9_add 99 = .ok (.iload_n 1, 1) := by decide +kernel
theorem dX9_add_100 : decode cX9_add 100 = .ok (.invokevirtual 33, 3) := by decide +kernel
theorem dX9_add_103 : decode cX9_add 103 = .ok (.aload_n 0, 1) := by decide +kernel
theorem dX9_add_104 : decode cX9_add 104 = .ok (.aload_n 0, 1) := by decide +kernel
theorem dX9_add_105 : decode cX9_add 105 = .ok (.getfield 20, 3) := by decide +kernel
theorem dX9_add_108 : decode cX9_add 108 = .ok (.iconst 1, 1) := by decide +kernel
theorem dX9_add_109 : decode cX9_add 109 = .ok (.isub, 1) := by decide +kernel
theorem dX9_add_110 : decode cX9_add 110 = .ok (.iconst 1, 1) := by decide +kernel
theorem dX9_add_111 : decode cX9_add 111 = .ok (.iload_n 2, 1) := by decide +kernel
theorem dX9_add_112 : decode cX9_add 112 = .ok (.invokevirtual 33, 3) := by decide +kernel
theorem dX9_add_115 : decode cX9_add 115 = .ok (.aload_n 0, 1) := by decide +kernel
theorem dX9_add_116 : decode cX9_add 116 = .ok (.aload_n 0, 1) := by decide +kernel
theorem dX9_add_117 : decode cX9_add 117 = .ok (.getfield 20, 3) := by decide +kernel
theorem dX9_add_120 : decode cX9_add 120 = .ok (.iconst 1, 1) := by decide +kernel
theorem dX9_add_121 : decode cX9_add 121 = .ok (.isub, 1) := by decide +kernel
theorem dX9_add_122 : decode cX9_add 122 = .ok (.iconst 2, 1) := by decide +kernel
theorem dX9_add_123 : decode cX9_add 123 = .ok (.iload_n 3, 1) := by decide +kernel
theorem dX9_add_124 : decode cX9_add 124 = .ok (.invokevirtual 33, 3) := by decide +kernel
theorem dX9_add_127 : decode cX9_add 127 = .ok (.aload_n 0, 1) := by decide +kernel
theorem dX9_add_128 : decode cX9_add 128 = .ok (.getfield 20, 3) := by decide +kernel
theorem dX9_add_131 : decode cX9_add 131 = .ok (.iconst 1, 1) := by decide +kernel
theorem dX9_add_132 : decode cX9_add 132 = .ok (.isub, 1) := by decide +kernel
theorem dX9_add_133 : decode cX9_add 133 = .ok (.ireturn, 1) := by decide +kernel
set_option maxRecDepth 20000 in
theorem ggX10_init_X9_init : GoodIn wsX10_init wsX9_init := goodIn_r _ [15, 16, 2, 3, 17, 18, 19, 20, 21, 65, 66, 67] (by decide +kernel) (by decide +kernel)
set_option maxRecDepth 20000 in
theorem gX10_init_X9_init : GoodIn wsX10_init (wsX9_init) := ggX10_init_X9_init
set_option maxRecDepth 20000 in
theorem ggX10_init_X9_add : GoodIn wsX10_init wsX9_add := goodIn_ca (goodIn_r _ [25, 21, 17, 20, 18, 26, 27, 28, 29, 30, 31, 32, 33, 34, 35, 19, 36, 37, 38, 39, 40, 41, 42, 43, 44, 45, 46, 47, 48, 49, 50, 51, 52, 53, 54, 55, 56, 57, 58, 7, 59, 65, 66, 67, 68, 69, 70, 71, 72, 73, 74, 75, 76, 77] (by decide +kernel) (by decide +kernel)) (goodIn_sub (fun _ h => List.mem_cons_of_mem _ (List.mem_append_right _ h)) (by decide +kernel))
set_option maxRecDepth 20000 in
theorem gX10_init_X9_add : GoodIn wsX10_init (wsV RX10 30 RX9 yX9_add wsX9_add) := goodIn_app (goodIn_of _ (by decide +kernel)) ggX10_init_X9_add
theorem dX10_init_0 : decode cX10_init 0 = .ok (.aload_n 0, 1) := by decide +kernel
theorem dX10_init_1 : decode cX10_init 1 = .ok (.invokespecial 3, 3) := by decide +kernel
theorem dX10_init_4 : decode cX10_init 4 = .ok (.aload_n 0, 1) := by decide +kernel
theorem dX10_init_5 : decode cX10_init 5 = .ok (.iconst 0, 1) := by decide +kernel
theorem dX10_init_6 : decode cX10_init 6 = .ok (.putfield 9, 3) := by decide +kernel
theorem dX10_init_9 : decode cX10_init 9 = .ok (.aload_n 0, 1) := by decide +kernel
theorem dX10_init_10 : decode cX10_init 10 = .ok (.new 15, 3) := by decide +kernel
theorem dX10_init_13 : decode cX10_init 13 = .ok (.dup, 1) := by decide +kernel
theorem dX10_init_14 : decode cX10_init 14 = .ok (.iconst 3, 1) := by decide +kernel
theorem dX10_init_15 : decode cX10_init 15 = .ok (.bipush 10, 2) := by decide +kernel
theorem dX10_init_17 : decode cX10_init 17 = .ok (.invokespecial 17, 3) := by decide +kernel
theorem dX10_init_20 : decode cX10_init 20 = .ok (.putfield 20, 3) := by decide +kernel
theorem dX10_init_23 : decode cX10_init 23 = .ok (.aload_n 0, 1) := by decide +kernel
theorem dX10_init_24 : decode cX10_init 24 = .ok (.new 15, 3) := by decide +kernel
theorem dX10_init_27 : decode cX10_init 27 = .ok (.dup, 1) := by decide +kernel
theorem dX10_init_28 : decode cX10_init 28 = .ok (.iconst 4, 1) := by decide +kernel
theorem dX10_init_29 : decode cX10_init 29 = .ok (.sipush 200, 3) := by decide +kernel
theorem dX10_init_32 : decode cX10_init 32 = .ok (.invokespecial 17, 3) := by decide +kernel
theorem dX10_init_35 : decode cX10_init 35 = .ok (.putfield 24, 3) := by decide +kernel
theorem dX10_init_38 : decode cX10_init 38 = .ok (.aload_n 0, 1) := by decide +kernel
theorem dX10_init_39 : decode cX10_init 39 = .ok (.new 15, 3) := by decide +kernel
theorem dX10_init_42 : decode cX10_init 42 = .ok (.dup, 1) := by decide +kernel
theorem dX10_init_43 : decode cX10_init 43 = .ok (.iconst 1, 1) := by decide +kernel
theorem dX10_init_44 : decode cX10_init 44 = .ok (.bipush 64, 2) := by decide +kernel
theorem dX10_init_46 : decode cX10_init 46 = .ok (.invokespecial 17, 3) := by decide +kernel
theorem dX10_init_49 : decode cX10_init 49 = .ok (.putfield 27, 3) := by decide +kernel
theorem dX10_init_52 : decode cX10_init 52 = .ok (.iconst 0, 1) := by decide +kernel
theorem dX10_init_53 : decode cX10_init 53 = .ok (.istore_n 1, 1) := by decide +kernel
theorem dX10_init_54 : decode cX10_init 54 = .ok (.iload_n 1, 1) := by decide +kernel
theorem dX10_init_55 : decode cX10_init 55 = .ok (.bipush 64, 2) := by decide +kernel
theorem dX10_init_57 : decode cX10_init 57 = .ok (.if_icmp .ge 20, 3) := by decide +kernel
theorem dX10_init_60 : decode cX10_init 60 = .ok (.aload_n 0, 1) := by decide +kernel
theorem dX10_init_61 : decode cX10_init 61 = .ok (.getfield 27, 3) := by decide +kernel
theorem dX10_init_64 : decode cX10_init 64 = .ok (.iconst (-1), 1) := by decide +kernel
theorem dX10_init_65 : decode cX10_init 65 = .ok (.iconst (-1), 1) := by decide +kernel
theorem dX10_init_66 : decode cX10_init 66 = .ok (.iconst (-1), 1) := by decide +kernel
theorem dX10_init_67 : decode cX10_init 67 = .ok (.invokevirtual 30, 3) := by decide +kernel
theorem dX10_init_70 : decode cX10_init 70 = .ok (.pop, 1) := by decide +kernel
theorem dX10_init_71 : decode cX10_init 71 = .ok (.iinc 1 1, 3) := by decide +kernel
theorem dX10_init_74 : decode cX10_init 74 = .ok (.goto (-20), 3) := by decide +kernel
theorem dX10_init_77 : decode cX10_init 77 = .ok (.aload_n 0, 1) := by decide +kernel
theorem dX10_init_78 : decode cX10_init 78 = .ok (.sipush 200, 3) := by decide +kernel
theorem dX10_init_81 : decode cX10_init 81 = .ok (.newarray .long, 2) := by decide +kernel
theorem dX10_init_83 : decode cX10_init 83 = .ok (.putfield 34, 3) := by decide +kernel
theorem dX10_init_86 : decode cX10_init 86 = .ok (.return_, 1) := by decide +kernel
theorem dX10_typeCount_0 : decode cX10_typeCount 0 = .ok (.aload_n 0, 1) := by decide +kernel
theorem dX10_typeCount_1 : decode cX10_typeCount 1 = .ok (.getfield 9, 3) := by decide +kernel
theorem dX10_typeCount_4 : decode cX10_typeCount 4 = .ok (.ireturn, 1) := by decide +kernel
set_option maxRecDepth 20000 in
theorem ggX10_termCount_X9_count : GoodIn wsX10_termCount wsX9_count := goodIn_r _ [6, 7, 13, 14, 15] (by decide +kernel) (by decide +kernel)
set_option maxRecDepth 20000 in
theorem gX10_termCount_X9_count : GoodIn wsX10_termCount (wsV RX10 38 RX9 yX9_count wsX9_count) := goodIn_app (goodIn_of _ (by decide +kernel)) ggX10_termCount_X9_count
theorem dX10_termCount_0 : decode cX10_termCount 0 = .ok (.aload_n 0, 1) := by decide +kernel
theorem dX10_termCount_1 : decode cX10_termCount 1 = .ok (.getfield 24, 3) := by decide +kernel
theorem dX10_termCount_4 : decode cX10_termCount 4 = .ok (.invokevirtual 38, 3) := by decide +kernel
theorem dX10_termCount_7 : decode cX10_termCount 7 = .ok (.ireturn, 1) := by decide +kernel
theorem dX10_hasType_0 : decode cX10_hasType 0 = .ok (.iload_n 1, 1) := by decide +kernel
theorem dX10_hasType_1 : decode cX10_hasType 1 = .ok (.ifCond .lt 15, 3) := by decide +kernel
theorem dX10_hasType_4 : decode cX10_hasType 4 = .ok (.iload_n 1, 1) := by decide +kernel
theorem dX10_hasType_5 : decode cX10_hasType 5 = .ok (.aload_n 0, 1) := by decide +kernel
theorem dX10_hasType_6 : decode cX10_hasType 6 = .ok (.getfield 9, 3) := by decide +kernel
theorem dX10_hasType_9 : decode cX10_hasType 9 = .ok (.if_icmp .ge 7, 3) := by decide +kernel
theorem dX10_hasType_16 : decode cX10_hasType 16 = .ok (.iconst 0, 1) := by decide +kernel
theorem dX10_hasType_17 : decode cX10_hasType 17 = .ok (.ireturn, 1) := by decide +kernel
set_option maxRecDepth 20000 in
theorem ggX10_hasConstructor_X9_count : GoodIn wsX10_hasConstructor wsX9_count := goodIn_r _ [6, 7, 13, 14, 15] (by decide +kernel) (by decide +kernel)
set_option maxRecDepth 20000 in
theorem gX10_hasConstructor_X9_count : GoodIn wsX10_hasConstructor (wsV RX10 38 RX9 yX9_count wsX9_count) := goodIn_app (goodIn_of _ (by decide +kernel)) ggX10_hasConstructor_X9_count
theorem dX10_hasConstructor_0 : decode cX10_hasConstructor 0 = .ok (.iload_n 1, 1) := by decide +kernel
theorem dX10_hasConstructor_1 : decode cX10_hasConstructor 1 = .ok (.ifCond .lt 18, 3) := by decide +kernel
theorem dX10_hasConstructor_4 : decode cX10_hasConstructor 4 = .ok (.iload_n 1, 1) := by decide +kernel
theorem dX10_hasConstructor_5 : decode cX10_hasConstructor 5 = .ok (.aload_n 0, 1) := by decide +kernel
theorem dX10_hasConstructor_6 : decode cX10_hasConstructor 6 = .ok (.getfield 20, 3) := by decide +kernel
theorem dX10_hasConstructor_9 : decode cX10_hasConstructor 9 = .ok (.invokevirtual 38, 3) := by decide +kernel
theorem dX10_hasConstructor_12 : decode cX10_hasConstructor 12 = .ok (.if_icmp .ge 7, 3) := by decide +kernel
theorem dX10_hasConstructor_19 : decode cX10_hasConstructor 19 = .ok (.iconst 0, 1) := by decide +kernel
theorem dX10_hasConstructor_20 : decode cX10_hasConstructor 20 = .ok (.ireturn, 1) := by decide +kernel
set_option maxRecDepth 20000 in
theorem ggX10_hasTerm_X9_count : GoodIn wsX10_hasTerm wsX9_count := goodIn_r _ [6, 7, 13, 14, 15] (by decide +kernel) (by decide +kernel)
set_option maxRecDepth 20000 in
theorem gX10_hasTerm_X9_count : GoodIn wsX10_hasTerm (wsV RX10 38 RX9 yX9_count wsX9_count) := goodIn_app (goodIn_of _ (by decide +kernel)) ggX10_hasTerm_X9_count
theorem dX10_hasTerm_0 : decode cX10_hasTerm 0 = .ok (.iload_n 1, 1) := by decide +kernel
theorem dX10_hasTerm_1 : decode cX10_hasTerm 1 = .ok (.ifCond .lt 18, 3) := by decide +kernel
theorem dX10_hasTerm_4 : decode cX10_hasTerm 4 = .ok (.iload_n 1, 1) := by decide +kernel
theorem dX10_hasTerm_5 : decode cX10_hasTerm 5 = .ok (.aload_n 0, 1) := by decide +kernel
theorem dX10_hasTerm_6 : decode cX10_hasTerm 6 = .ok (.getfield 24, 3) := by decide +kernel
theorem dX10_hasTerm_9 : decode cX10_hasTerm 9 = .ok (.invokevirtual 38, 3) := by decide +kernel
theorem dX10_hasTerm_12 : decode cX10_hasTerm 12 = .ok (.if_icmp .ge 7, 3) := by decide +kernel
theorem dX10_hasTerm_19 : decode cX10_hasTerm 19 = .ok (.iconst 0, 1) := by decide +kernel
theorem dX10_hasTerm_20 : decode cX10_hasTerm 20 = .ok (.ireturn, 1) := by decide +kernel
theorem dX10_newType_0 : decode cX10_newType 0 = .ok (.aload_n 0, 1) := by decide +kernel
theorem dX10_newType_1 : decode cX10_newType 1 = .ok (.dup, 1) := by decide +kernel
theorem dX10_newType_2 : decode cX10_newType 2 = .ok (.getfield 9, 3) := by decide +kernel
theorem dX10_newType_5 : decode cX10_newType 5 = .ok (.iconst 1, 1) := by decide +kernel
theorem dX10_newType_6 : decode cX10_newType 6 = .ok (.iadd, 1) := by decide +kernel
theorem dX10_newType_7 : decode cX10_newType 7 = .ok (.putfield 9, 3) := by decide +kernel
theorem dX10_newType_10 : decode cX10_newType 10 = .ok (.aload_n 0, 1) := by decide +kernel
theorem dX10_newType_11 : decode cX10_newType 11 = .ok (.getfield 9, 3) := by decide +kernel
theorem dX10_newType_14 : decode cX10_newType 14 = .ok (.iconst 1, 1) := by decide +kernel
theorem dX10_newType_15 : decode cX10_newType 15 = .ok (.isub, 1) := by decide +kernel
theorem dX10_newType_16 : decode cX10_newType 16 = .ok (.ireturn, 1) := by decide +kernel
set_option maxRecDepth 20000 in
theorem ggX11_init_X10_init : GoodIn wsX11_init wsX10_init := goodIn_ca (goodIn_r _ [30, 31, 2, 3, 32, 33, 34, 35, 36, 37, 38, 39, 40, 41, 42, 43, 44, 45, 46, 47, 48, 49, 50, 51, 52, 53, 54, 55, 56, 57, 58, 59, 60, 61, 62, 63, 64, 65, 66, 67, 68, 69, 70, 71, 72, 73, 74, 75, 76, 77, 78, 79, 80, 81, 82, 83, 84, 85, 86, 87, 153, 154, 155, 156, 157, 207, 208, 209, 210, 211, 212, 213, 214, 215, 216, 217, 218, 219] (by decide +kernel) (by decide +kernel)) (goodIn_sub (fun _ h => List.mem_cons_of_mem _ (List.mem_append_right _ h)) (by decide +kernel))
set_option maxRecDepth 20000 in
theorem gX11_init_X10_init : GoodIn wsX11_init (wsX10_init) := ggX11_init_X10_init
set_option maxRecDepth 20000 in
theorem ggX11_init_X7_init : GoodIn wsX11_init wsX7_init := goodIn_r _ [90, 91, 2, 3, 92, 93, 94, 95, 96, 97, 98, 99, 100, 101, 102, 103, 104, 105, 106, 107, 108, 109, 110, 111, 112, 220, 221, 222, 167, 168, 169] (by decide +kernel) (by decide +kernel)
set_option maxRecDepth 20000 in
theorem gX11_init_X7_init : GoodIn wsX11_init (wsX7_init) := ggX11_init_X7_init
set_option maxRecDepth 20000 in
theorem ggX11_init_X8_init : GoodIn wsX11_init wsX8_init := goodIn_r _ [115, 116, 2, 3, 117, 118, 34, 35, 119, 120, 121, 122, 123, 42, 43, 44, 45, 46, 47, 48, 49, 170, 171, 172, 173, 174, 175, 176, 177, 178, 179, 207, 208, 209] (by decide +kernel) (by decide +kernel)
set_option maxRecDepth 20000 in
theorem gX11_init_X8_init : GoodIn wsX11_init (wsX8_init) := ggX11_init_X8_init
set_option maxRecDepth 20000 in
theorem ggX11_init_X4_init : GoodIn wsX11_init wsX4_init := goodIn_r _ [126, 127, 2, 3, 128, 129, 130, 93, 94, 131, 132, 34, 35, 133, 134, 135, 99, 100, 101, 102, 103, 104, 105, 106, 107, 108, 109, 110, 111, 112, 136, 42, 43, 44, 45, 46, 47, 48, 49, 180, 181, 182, 183, 184, 185, 186, 187, 188, 189, 190, 191, 220, 221, 222, 207, 208, 209] (by decide +kernel) (by decide +kernel)
set_option maxRecDepth 20000 in
theorem gX11_init_X4_init : GoodIn wsX11_init (wsX4_init) := ggX11_init_X4_init
set_option maxRecDepth 20000 in
theorem ggX11_init_X0_init : GoodIn wsX11_init wsX0_init := goodIn_r _ [139, 140, 2, 3, 141, 142, 143, 34, 35, 144, 145, 146, 147, 148, 149, 150, 151, 152, 42, 43, 44, 45, 46, 47, 48, 49, 192, 193, 194, 195, 196, 197, 198, 199, 200, 201, 202, 203, 204, 205, 206, 207, 208, 209] (by decide +kernel) (by decide +kernel)
set_option maxRecDepth 20000 in
theorem gX11_init_X0_init : GoodIn wsX11_init (wsX0_init) := ggX11_init_X0_init
theorem dX11_init_0 : decode cX11_init 0 = .ok (.aload_n 0, 1) := by decide +kernel
theorem dX11_init_1 : decode cX11_init 1 = .ok (.invokespecial 1, 3) := by decide +kernel
theorem dX11_init_4 : decode cX11_init 4 = .ok (.aload_n 0, 1) := by decide +kernel
theorem dX11_init_5 : decode cX11_init 5 = .ok (.new 7, 3) := by decide +kernel
theorem dX11_init_8 : decode cX11_init 8 = .ok (.dup, 1) := by decide +kernel
theorem dX11_init_9 : decode cX11_init 9 = .ok (.invokespecial 9, 3) := by decide +kernel
theorem dX11_init_12 : decode cX11_init 12 = .ok (.putfield 10, 3) := by decide +kernel
theorem dX11_init_15 : decode cX11_init 15 = .ok (.aload_n 0, 1) := by decide +kernel
theorem dX11_init_16 : decode cX11_init 16 = .ok (.new 16, 3) := by decide +kernel
theorem dX11_init_19 : decode cX11_init 19 = .ok (.dup, 1) := by decide +kernel
theorem dX11_init_20 : decode cX11_init 20 = .ok (.invokespecial 18, 3) := by decide +kernel
theorem dX11_init_23 : decode cX11_init 23 = .ok (.putfield 19, 3) := by decide +kernel
theorem dX11_init_26 : decode cX11_init 26 = .ok (.aload_n 0, 1) := by decide +kernel
theorem dX11_init_27 : decode cX11_init 27 = .ok (.new 23, 3) := by decide +kernel
theorem dX11_init_30 : decode cX11_init 30 = .ok (.dup, 1) := by decide +kernel
theorem dX11_init_31 : decode cX11_init 31 = .ok (.invokespecial 25, 3) := by decide +kernel
theorem dX11_init_34 : decode cX11_init 34 = .ok (.putfield 26, 3) := by decide +kernel
theorem dX11_init_37 : decode cX11_init 37 = .ok (.aload_n 0, 1) := by decide +kernel
theorem dX11_init_38 : decode cX11_init 38 = .ok (.new 23, 3) := by decide +kernel
theorem dX11_init_41 : decode cX11_init 41 = .ok (.dup, 1) := by decide +kernel
theorem dX11_init_42 : decode cX11_init 42 = .ok (.invokespecial 25, 3) := by decide +kernel
theorem dX11_init_45 : decode cX11_init 45 = .ok (.putfield 30, 3) := by decide +kernel
theorem dX11_init_48 : decode cX11_init 48 = .ok (.aload_n 0, 1) := by decide +kernel
theorem dX11_init_49 : decode cX11_init 49 = .ok (.new 33, 3) := by decide +kernel
theorem dX11_init_52 : decode cX11_init 52 = .ok (.dup, 1) := by decide +kernel
theorem dX11_init_53 : decode cX11_init 53 = .ok (.aload_n 0, 1) := by decide +kernel
theorem dX11_init_54 : decode cX11_init 54 = .ok (.getfield 10, 3) := by decide +kernel
theorem dX11_init_57 : decode cX11_init 57 = .ok (.aload_n 0, 1) := by decide +kernel
theorem dX11_init_58 : decode cX11_init 58 = .ok (.getfield 30, 3) := by decide +kernel
theorem dX11_init_61 : decode cX11_init 61 = .ok (.invokespecial 35, 3) := by decide +kernel
theorem dX11_init_64 : decode cX11_init 64 = .ok (.putfield 38, 3) := by decide +kernel
theorem dX11_init_67 : decode cX11_init 67 = .ok (.aload_n 0, 1) := by decide +kernel
theorem dX11_init_68 : decode cX11_init 68 = .ok (.new 42, 3) := by decide +kernel
theorem dX11_init_71 : decode cX11_init 71 = .ok (.dup, 1) := by decide +kernel
theorem dX11_init_72 : decode cX11_init 72 = .ok (.aload_n 0, 1) := by decide +kernel
theorem dX11_init_73 : decode cX11_init 73 = .ok (.getfield 19, 3) := by decide +kernel
theorem dX11_init_76 : decode cX11_init 76 = .ok (.aload_n 0, 1) := by decide +kernel
theorem dX11_init_77 : decode cX11_init 77 = .ok (.getfield 10, 3) := by decide +kernel
theorem dX11_init_80 : decode cX11_init 80 = .ok (.invokespecial 44, 3) := by decide +kernel
theorem dX11_init_83 : decode cX11_init 83 = .ok (.putfield 47, 3) := by decide +kernel
theorem dX11_init_86 : decode cX11_init 86 = .ok (.aload_n 0, 1) := by decide +kernel
theorem dX11_init_87 : decode cX11_init 87 = .ok (.iconst 0, 1) := by decide +kernel
theorem dX11_init_88 : decode cX11_init 88 = .ok (.putfield 51, 3) := by decide +kernel
theorem dX11_init_91 : decode cX11_init 91 = .ok (.aload_n 0, 1) := by decide +kernel
theorem dX11_init_92 : decode cX11_init 92 = .ok (.iconst 0, 1) := by decide +kernel
theorem dX11_init_93 : decode cX11_init 93 = .ok (.putfield 55, 3) := by decide +kernel
theorem dX11_init_96 : decode cX11_init 96 = .ok (.aload_n 0, 1) := by decide +kernel
theorem dX11_init_97 : decode cX11_init 97 = .ok (.lconst 0, 1) := by decide +kernel
theorem dX11_init_98 : decode cX11_init 98 = .ok (.putfield 59, 3) := by decide +kernel
theorem dX11_init_101 : decode cX11_init 101 = .ok (.return_, 1) := by decide +kernel
set_option maxRecDepth 20000 in
theorem ggX11_addType_X10_typeCount : GoodIn wsX11_addType wsX10_typeCount := goodIn_r _ [9, 10, 24, 25, 26, 27, 28] (by decide +kernel) (by decide +kernel)
set_option maxRecDepth 20000 in
theorem gX11_addType_X10_typeCount : GoodIn wsX11_addType (wsV RX11 63 RX10 yX10_typeCount wsX10_typeCount) := goodIn_app (goodIn_of _ (by decide +kernel)) ggX11_addType_X10_typeCount
set_option maxRecDepth 20000 in
theorem ggX11_addType_X10_newType : GoodIn wsX11_addType wsX10_newType := goodIn_r _ [14, 10, 24, 25, 26, 27, 28] (by decide +kernel) (by decide +kernel)
set_option maxRecDepth 20000 in
theorem gX11_addType_X10_newType : GoodIn wsX11_addType (wsV RX11 70 RX10 yX10_newType wsX10_newType) := goodIn_app (goodIn_of _ (by decide +kernel)) ggX11_addType_X10_newType
theorem dX11_addType_0 : decode cX11_addType 0 = .ok (.aload_n 0, 1) := by decide +kernel
theorem dX11_addType_1 : decode cX11_addType 1 = .ok (.getfield 10, 3) := by decide +kernel
theorem dX11_addType_4 : decode cX11_addType 4 = .ok (.invokevirtual 63, 3) := by decide +kernel
theorem dX11_addType_7 : decode cX11_addType 7 = .ok (.iconst 3, 1) := by decide +kernel
theorem dX11_addType_8 : decode cX11_addType 8 = .ok (.if_icmp .ge 10, 3) := by decide +kernel
theorem dX11_addType_11 : decode cX11_addType 11 = .ok (.aload_n 0, 1) := by decide +kernel
theorem dX11_addType_12 : decode cX11_addType 12 = .ok (.getfield 51, 3) := by decide +kernel
theorem dX11_addType_15 : decode cX11_addType 15 = .ok (.ifCond .eq 11, 3) := by decide +kernel
theorem dX11_addType_26 : decode cX11_addType 26 = .ok (.aload_n 0, 1) := by decide +kernel
theorem dX11_addType_27 : decode cX11_addType 27 = .ok (.getfield 10, 3) := by decide +kernel
theorem dX11_addType_30 : decode cX11_addType 30 = .ok (.invokevirtual 70, 3) := by decide +kernel
theorem dX11_addType_33 : decode cX11_addType 33 = .ok (.ireturn, 1) := by decide +kernel
set_option maxRecDepth 20000 in
theorem ggX11_addConstructor_X10_hasType : GoodIn wsX11_addConstructor wsX10_hasType := goodIn_r _ [13, 14, 86, 87, 88, 89, 90] (by decide +kernel) (by decide +kernel)
set_option maxRecDepth 20000 in
theorem gX11_addConstructor_X10_hasType : GoodIn wsX11_addConstructor (wsV RX11 73 RX10 yX10_hasType wsX10_hasType) := goodIn_app (goodIn_of _ (by decide +kernel)) ggX11_addConstructor_X10_hasType
theorem dX11_addConstructor_0 : decode cX11_addConstructor 0 = .ok (.aload_n 0, 1) := by decide +kernel
theorem dX11_addConstructor_1 : decode cX11_addConstructor 1 = .ok (.getfield 10, 3) := by decide +kernel
theorem dX11_addConstructor_4 : decode cX11_addConstructor 4 = .ok (.iload_n 1, 1) := by decide +kernel
theorem dX11_addConstructor_5 : decode cX11_addConstructor 5 = .ok (.invokevirtual 73, 3) := by decide +kernel
theorem dX11_addConstructor_8 : decode cX11_addConstructor 8 = .ok (.ifCond .eq 19, 3) := by decide +kernel
theorem dX11_addConstructor_27 : decode cX11_addConstructor 27 = .ok (.new 80, 3) := by decide +kernel
theorem dX11_addConstructor_30 : decode cX11_addConstructor 30 = .ok (.dup, 1) := by decide +kernel
theorem dX11_addConstructor_31 : decode cX11_addConstructor 31 = .ok (.invokespecial 82, 3) := by decide +kernel
theorem dX11_addConstructor_34 : decode cX11_addConstructor 34 = .ok (.athrow, 1) := by decide +kernel
set_option maxRecDepth 20000 in
theorem ggX11_term_X10_hasConstructor : GoodIn wsX11_term wsX10_hasConstructor := goodIn_r _ [12, 13, 14, 15, 16, 17, 18, 19, 126, 127, 128, 129, 130, 131, 132, 133] (by decide +kernel) (by decide +kernel)
set_option maxRecDepth 20000 in
theorem gX11_term_X10_hasConstructor : GoodIn wsX11_term (wsV RX11 93 RX10 yX10_hasConstructor wsX10_hasConstructor) := goodIn_app (goodIn_of _ (by decide +kernel)) ggX11_term_X10_hasConstructor
theorem dX11_term_0 : decode cX11_term 0 = .ok (.aload_n 0, 1) := by decide +kernel
theorem dX11_term_1 : decode cX11_term 1 = .ok (.getfield 10, 3) := by decide +kernel
theorem dX11_term_4 : decode cX11_term 4 = .ok (.iload_n 1, 1) := by decide +kernel
theorem dX11_term_5 : decode cX11_term 5 = .ok (.invokevirtual 93, 3) := by decide +kernel
theorem dX11_term_8 : decode cX11_term 8 = .ok (.ifCond .eq 16, 3) := by decide +kernel
theorem dX11_term_24 : decode cX11_term 24 = .ok (.new 80, 3) := by decide +kernel
theorem dX11_term_27 : decode cX11_term 27 = .ok (.dup, 1) := by decide +kernel
theorem dX11_term_28 : decode cX11_term 28 = .ok (.invokespecial 82, 3) := by decide +kernel
theorem dX11_term_31 : decode cX11_term 31 = .ok (.athrow, 1) := by decide +kernel
set_option maxRecDepth 20000 in
theorem ggX11_constructorOf_X11_refuseMissingTerm : GoodIn wsX11_constructorOf wsX11_refuseMissingTerm := goodIn_ca (goodIn_r _ [6, 7, 8, 1, 9, 10, 11, 12, 13, 14, 15, 16, 17, 18, 19, 20, 31, 32, 33, 34, 35, 36, 37, 38, 39, 40, 41, 42, 43, 44, 45, 46, 47] (by decide +kernel) (by decide +kernel)) (goodIn_sub (fun _ h => List.mem_cons_of_mem _ (List.mem_append_left _ (List.mem_append_right _ h))) (by decide +kernel))
set_option maxRecDepth 20000 in
theorem gX11_constructorOf_X11_refuseMissingTerm : GoodIn wsX11_constructorOf (wsV RX11 106 RX11 yX11_refuseMissingTerm wsX11_refuseMissingTerm) := goodIn_app (goodIn_of _ (by decide +kernel)) ggX11_constructorOf_X11_refuseMissingTerm
theorem dX11_constructorOf_0 : decode cX11_constructorOf 0 = .ok (.aload_n 0, 1) := by decide +kernel
theorem dX11_constructorOf_1 : decode cX11_constructorOf 1 = .ok (.iload_n 1, 1) := by decide +kernel
theorem dX11_constructorOf_2 : decode cX11_constructorOf 2 = .ok (.invokevirtual 106, 3) := by decide +kernel
set_option maxRecDepth 20000 in
theorem ggX11_partOf_X11_refuseMissingTerm : GoodIn wsX11_partOf wsX11_refuseMissingTerm := goodIn_ca (goodIn_r _ [8, 9, 10, 3, 11, 12, 13, 14, 15, 16, 17, 18, 19, 20, 21, 22, 42, 43, 44, 45, 46, 47, 48, 49, 50, 51, 52, 53, 54, 55, 56, 57, 58] (by decide +kernel) (by decide +kernel)) (goodIn_sub (fun _ h => List.mem_cons_of_mem _ (List.mem_append_left _ (List.mem_append_right _ h))) (by decide +kernel))
set_option maxRecDepth 20000 in
theorem gX11_partOf_X11_refuseMissingTerm : GoodIn wsX11_partOf (wsV RX11 106 RX11 yX11_refuseMissingTerm wsX11_refuseMissingTerm) := goodIn_app (goodIn_of _ (by decide +kernel)) ggX11_partOf_X11_refuseMissingTerm
theorem dX11_partOf_0 : decode cX11_partOf 0 = .ok (.aload_n 0, 1) := by decide +kernel
theorem dX11_partOf_1 : decode cX11_partOf 1 = .ok (.iload_n 1, 1) := by decide +kernel
theorem dX11_partOf_2 : decode cX11_partOf 2 = .ok (.invokevirtual 106, 3) := by decide +kernel
set_option maxRecDepth 20000 in
theorem ggX11_sizeOf_X11_refuseMissingTerm : GoodIn wsX11_sizeOf wsX11_refuseMissingTerm := goodIn_ca (goodIn_r _ [6, 7, 8, 1, 9, 10, 11, 12, 13, 14, 15, 16, 17, 18, 19, 20, 26, 27, 28, 29, 30, 31, 32, 33, 34, 35, 36, 37, 38, 39, 40, 41, 42] (by decide +kernel) (by decide +kernel)) (goodIn_sub (fun _ h => List.mem_cons_of_mem _ (List.mem_append_left _ (List.mem_append_right _ h))) (by decide +kernel))
set_option maxRecDepth 20000 in
theorem gX11_sizeOf_X11_refuseMissingTerm : GoodIn wsX11_sizeOf (wsV RX11 106 RX11 yX11_refuseMissingTerm wsX11_refuseMissingTerm) := goodIn_app (goodIn_of _ (by decide +kernel)) ggX11_sizeOf_X11_refuseMissingTerm
theorem dX11_sizeOf_0 : decode cX11_sizeOf 0 = .ok (.aload_n 0, 1) := by decide +kernel
theorem dX11_sizeOf_1 : decode cX11_sizeOf 1 = .ok (.iload_n 1, 1) := by decide +kernel
theorem dX11_sizeOf_2 : decode cX11_sizeOf 2 = .ok (.invokevirtual 106, 3) := by decide +kernel
set_option maxRecDepth 20000 in
theorem ggX11_addPredicate_X11_isTypeOrNone : GoodIn wsX11_addPredicate wsX11_isTypeOrNone := goodIn_r _ [13, 14, 15, 16, 17, 18, 19, 20, 174, 175, 176, 177, 178, 179, 180, 181, 182, 183, 184, 185, 186, 187] (by decide +kernel) (by decide +kernel)
set_option maxRecDepth 20000 in
theorem gX11_addPredicate_X11_isTypeOrNone : GoodIn wsX11_addPredicate (wsV RX11 77 RX11 yX11_isTypeOrNone wsX11_isTypeOrNone) := goodIn_app (goodIn_of _ (by decide +kernel)) ggX11_addPredicate_X11_isTypeOrNone
set_option maxRecDepth 20000 in
theorem ggX11_addPredicate_X7_predicateCount : GoodIn wsX11_addPredicate wsX7_predicateCount := goodIn_r _ [25, 26, 27, 28, 29, 30, 31, 32, 188, 189, 190, 191, 192, 193] (by decide +kernel) (by decide +kernel)
set_option maxRecDepth 20000 in
theorem gX11_addPredicate_X7_predicateCount : GoodIn wsX11_addPredicate (wsV RX11 128 RX7 yX7_predicateCount wsX7_predicateCount) := goodIn_app (goodIn_of _ (by decide +kernel)) ggX11_addPredicate_X7_predicateCount
set_option maxRecDepth 20000 in
theorem ggX11_addPredicate_X7_newPredicate : GoodIn wsX11_addPredicate wsX7_newPredicate := goodIn_ca (goodIn_r _ [36, 26, 37, 38, 39, 27, 28, 29, 30, 31, 32, 40, 41, 42, 43, 44, 45, 46, 47, 48, 49, 50, 51, 52, 53, 54, 55, 56, 57, 58, 59, 60, 61, 62, 63, 64, 65, 66, 67, 68, 12, 69, 70, 71, 72, 73, 74, 75, 76, 77, 78, 79, 80, 81, 82, 83, 84, 85, 86, 87, 88, 89, 90, 91, 92, 93, 94, 95, 96, 97, 98, 99, 100, 101, 102, 103, 104, 105, 106, 107, 108, 109, 110, 111, 112, 113, 114, 115, 116, 117, 118, 119, 120, 121, 122, 123, 124, 125, 126, 127, 128, 129, 130, 131, 132, 133, 134, 135, 136, 137, 138, 139, 140, 141, 142, 143, 144, 145, 146, 147, 148, 149, 150, 151, 152, 153, 154, 155, 156, 157, 158, 159, 160, 161, 162, 163, 164, 165, 166, 167, 168, 169, 170, 171, 172, 173, 188, 189, 190, 194, 195, 196, 197, 198, 191, 192, 193, 199, 200, 201, 202, 203, 204, 205, 206, 207, 208, 209, 210, 211, 212, 213, 214, 215] (by decide +kernel) (by decide +kernel)) (goodIn_sub (fun _ h => List.mem_cons_of_mem _ (List.mem_append_right _ h)) (by decide +kernel))
set_option maxRecDepth 20000 in
theorem gX11_addPredicate_X7_newPredicate : GoodIn wsX11_addPredicate (wsV RX11 131 RX7 yX7_newPredicate wsX7_newPredicate) := goodIn_app (goodIn_of _ (by decide +kernel)) ggX11_addPredicate_X7_newPredicate
theorem dX11_addPredicate_0 : decode cX11_addPredicate 0 = .ok (.aload_n 0, 1) := by decide +kernel
theorem dX11_addPredicate_1 : decode cX11_addPredicate 1 = .ok (.iload_n 1, 1) := by decide +kernel
theorem dX11_addPredicate_2 : decode cX11_addPredicate 2 = .ok (.invokevirtual 77, 3) := by decide +kernel
theorem dX11_addPredicate_5 : decode cX11_addPredicate 5 = .ok (.ifCond .eq 19, 3) := by decide +kernel
theorem dX11_addPredicate_8 : decode cX11_addPredicate 8 = .ok (.aload_n 0, 1) := by decide +kernel
theorem dX11_addPredicate_9 : decode cX11_addPredicate 9 = .ok (.iload_n 2, 1) := by decide +kernel
theorem dX11_addPredicate_10 : decode cX11_addPredicate 10 = .ok (.invokevirtual 77, 3) := by decide +kernel
theorem dX11_addPredicate_13 : decode cX11_addPredicate 13 = .ok (.ifCond .eq 11, 3) := by decide +kernel
theorem dX11_addPredicate_16 : decode cX11_addPredicate 16 = .ok (.aload_n 0, 1) := by decide +kernel
theorem dX11_addPredicate_17 : decode cX11_addPredicate 17 = .ok (.iload_n 3, 1) := by decide +kernel
theorem dX11_addPredicate_18 : decode cX11_addPredicate 18 = .ok (.invokevirtual 77, 3) := by decide +kernel
theorem dX11_addPredicate_21 : decode cX11_addPredicate 21 = .ok (.ifCond .ne 11, 3) := by decide +kernel
theorem dX11_addPredicate_24 : decode cX11_addPredicate 24 = .ok (.new 80, 3) := by decide +kernel
theorem dX11_addPredicate_27 : decode cX11_addPredicate 27 = .ok (.dup, 1) := by decide +kernel
theorem dX11_addPredicate_28 : decode cX11_addPredicate 28 = .ok (.invokespecial 82, 3) := by decide +kernel
theorem dX11_addPredicate_31 : decode cX11_addPredicate 31 = .ok (.athrow, 1) := by decide +kernel
theorem dX11_addPredicate_32 : decode cX11_addPredicate 32 = .ok (.iload_n 1, 1) := by decide +kernel
theorem dX11_addPredicate_33 : decode cX11_addPredicate 33 = .ok (.iconst (-1), 1) := by decide +kernel
theorem dX11_addPredicate_34 : decode cX11_addPredicate 34 = .ok (.if_icmp .ne 8, 3) := by decide +kernel
theorem dX11_addPredicate_37 : decode cX11_addPredicate 37 = .ok (.iload_n 2, 1) := by decide +kernel
theorem dX11_addPredicate_38 : decode cX11_addPredicate 38 = .ok (.iconst (-1), 1) := by decide +kernel
theorem dX11_addPredicate_39 : decode cX11_addPredicate 39 = .ok (.if_icmp .ne 13, 3) := by decide +kernel
theorem dX11_addPredicate_42 : decode cX11_addPredicate 42 = .ok (.iload_n 2, 1) := by decide +kernel
theorem dX11_addPredicate_43 : decode cX11_addPredicate 43 = .ok (.iconst (-1), 1) := by decide +kernel
theorem dX11_addPredicate_44 : decode cX11_addPredicate 44 = .ok (.if_icmp .ne 16, 3) := by decide +kernel
theorem dX11_addPredicate_47 : decode cX11_addPredicate 47 = .ok (.iload_n 3, 1) := by decide +kernel
theorem dX11_addPredicate_48 : decode cX11_addPredicate 48 = .ok (.iconst (-1), 1) := by decide +kernel
theorem dX11_addPredicate_49 : decode cX11_addPredicate 49 = .ok (.if_icmp .eq 11, 3) := by decide +kernel
theorem dX11_addPredicate_60 : decode cX11_addPredicate 60 = .ok (.aload_n 0, 1) := by decide +kernel
theorem dX11_addPredicate_61 : decode cX11_addPredicate 61 = .ok (.getfield 19, 3) := by decide +kernel
theorem dX11_addPredicate_64 : decode cX11_addPredicate 64 = .ok (.invokevirtual 128, 3) := by decide +kernel
theorem dX11_addPredicate_67 : decode cX11_addPredicate 67 = .ok (.iconst 5, 1) := by decide +kernel
theorem dX11_addPredicate_68 : decode cX11_addPredicate 68 = .ok (.if_icmp .ge 10, 3) := by decide +kernel
theorem dX11_addPredicate_71 : decode cX11_addPredicate 71 = .ok (.aload_n 0, 1) := by decide +kernel
theorem dX11_addPredicate_72 : decode cX11_addPredicate 72 = .ok (.getfield 51, 3) := by decide +kernel
theorem dX11_addPredicate_75 : decode cX11_addPredicate 75 = .ok (.ifCond .eq 11, 3) := by decide +kernel
theorem dX11_addPredicate_86 : decode cX11_addPredicate 86 = .ok (.aload_n 0, 1) := by decide +kernel
theorem dX11_addPredicate_87 : decode cX11_addPredicate 87 = .ok (.getfield 19, 3) := by decide +kernel
theorem dX11_addPredicate_90 : decode cX11_addPredicate 90 = .ok (.iload_n 1, 1) := by decide +kernel
theorem dX11_addPredicate_91 : decode cX11_addPredicate 91 = .ok (.iload_n 2, 1) := by decide +kernel
theorem dX11_addPredicate_92 : decode cX11_addPredicate 92 = .ok (.iload_n 3, 1) := by decide +kernel
theorem dX11_addPredicate_93 : decode cX11_addPredicate 93 = .ok (.invokevirtual 131, 3) := by decide +kernel
theorem dX11_addPredicate_96 : decode cX11_addPredicate 96 = .ok (.ireturn, 1) := by decide +kernel
set_option maxRecDepth 20000 in
theorem ggX11_addMode_X7_predicateAt : GoodIn wsX11_addMode wsX7_predicateAt := goodIn_r _ [13, 14, 15, 16, 17, 18, 19, 20, 21, 22, 23, 24, 25, 26, 27, 28, 29, 30, 31, 32, 33, 34, 35, 36, 37, 38, 142, 143, 144, 145, 146, 147] (by decide +kernel) (by decide +kernel)
set_option maxRecDepth 20000 in
theorem gX11_addMode_X7_predicateAt : GoodIn wsX11_addMode (wsV RX11 134 RX7 yX7_predicateAt wsX7_predicateAt) := goodIn_app (goodIn_of _ (by decide +kernel)) ggX11_addMode_X7_predicateAt
theorem dX11_addMode_0 : decode cX11_addMode 0 = .ok (.aload_n 0, 1) := by decide +kernel
theorem dX11_addMode_1 : decode cX11_addMode 1 = .ok (.getfield 19, 3) := by decide +kernel
theorem dX11_addMode_4 : decode cX11_addMode 4 = .ok (.iload_n 1, 1) := by decide +kernel
theorem dX11_addMode_5 : decode cX11_addMode 5 = .ok (.invokevirtual 134, 3) := by decide +kernel
theorem dX11_addMode_8 : decode cX11_addMode 8 = .ok (.astore 4, 2) := by decide +kernel
theorem dX11_addMode_10 : decode cX11_addMode 10 = .ok (.aload 4, 2) := by decide +kernel
theorem dX11_addMode_12 : decode cX11_addMode 12 = .ok (.ifnonnull 11, 3) := by decide +kernel
theorem dX11_addMode_15 : decode cX11_addMode 15 = .ok (.new 80, 3) := by decide +kernel
theorem dX11_addMode_18 : decode cX11_addMode 18 = .ok (.dup, 1) := by decide +kernel
theorem dX11_addMode_19 : decode cX11_addMode 19 = .ok (.invokespecial 82, 3) := by decide +kernel
theorem dX11_addMode_22 : decode cX11_addMode 22 = .ok (.athrow, 1) := by decide +kernel
set_option maxRecDepth 20000 in
theorem ggX11_addClause_X7_predicateAt : GoodIn wsX11_addClause wsX7_predicateAt := goodIn_r _ [11, 12, 13, 14, 15, 16, 17, 18, 19, 20, 21, 22, 23, 24, 25, 26, 27, 28, 29, 30, 31, 32, 33, 34, 35, 36, 194, 195, 196, 197, 198, 199] (by decide +kernel) (by decide +kernel)
set_option maxRecDepth 20000 in
theorem gX11_addClause_X7_predicateAt : GoodIn wsX11_addClause (wsV RX11 134 RX7 yX7_predicateAt wsX7_predicateAt) := goodIn_app (goodIn_of _ (by decide +kernel)) ggX11_addClause_X7_predicateAt
theorem dX11_addClause_0 : decode cX11_addClause 0 = .ok (.aload_n 0, 1) := by decide +kernel
theorem dX11_addClause_1 : decode cX11_addClause 1 = .ok (.getfield 19, 3) := by decide +kernel
theorem dX11_addClause_4 : decode cX11_addClause 4 = .ok (.iload_n 1, 1) := by decide +kernel
theorem dX11_addClause_5 : decode cX11_addClause 5 = .ok (.invokevirtual 134, 3) := by decide +kernel
theorem dX11_addClause_8 : decode cX11_addClause 8 = .ok (.astore_n 2, 1) := by decide +kernel
theorem dX11_addClause_9 : decode cX11_addClause 9 = .ok (.aload_n 2, 1) := by decide +kernel
theorem dX11_addClause_10 : decode cX11_addClause 10 = .ok (.ifnonnull 11, 3) := by decide +kernel
theorem dX11_addClause_13 : decode cX11_addClause 13 = .ok (.new 80, 3) := by decide +kernel
theorem dX11_addClause_16 : decode cX11_addClause 16 = .ok (.dup, 1) := by decide +kernel
theorem dX11_addClause_17 : decode cX11_addClause 17 = .ok (.invokespecial 82, 3) := by decide +kernel
theorem dX11_addClause_20 : decode cX11_addClause 20 = .ok (.athrow, 1) := by decide +kernel
set_option maxRecDepth 20000 in
theorem ggX11_addBuild_X7_clauseAt : GoodIn wsX11_addBuild wsX7_clauseAt := goodIn_r _ [12, 13, 14, 15, 16, 17, 18, 19, 20, 21, 22, 23, 24, 25, 26, 27, 28, 29, 30, 31, 32, 33, 34, 35, 36, 37, 194, 195, 196, 197, 198, 199] (by decide +kernel) (by decide +kernel)
set_option maxRecDepth 20000 in
theorem gX11_addBuild_X7_clauseAt : GoodIn wsX11_addBuild (wsV RX11 161 RX7 yX7_clauseAt wsX7_clauseAt) := goodIn_app (goodIn_of _ (by decide +kernel)) ggX11_addBuild_X7_clauseAt
theorem dX11_addBuild_0 : decode cX11_addBuild 0 = .ok (.aload_n 0, 1) := by decide +kernel
theorem dX11_addBuild_1 : decode cX11_addBuild 1 = .ok (.getfield 19, 3) := by decide +kernel
theorem dX11_addBuild_4 : decode cX11_addBuild 4 = .ok (.iload_n 1, 1) := by decide +kernel
theorem dX11_addBuild_5 : decode cX11_addBuild 5 = .ok (.invokevirtual 161, 3) := by decide +kernel
theorem dX11_addBuild_8 : decode cX11_addBuild 8 = .ok (.astore 6, 2) := by decide +kernel
theorem dX11_addBuild_10 : decode cX11_addBuild 10 = .ok (.aload 6, 2) := by decide +kernel
theorem dX11_addBuild_12 : decode cX11_addBuild 12 = .ok (.ifnull 25, 3) := by decide +kernel
theorem dX11_addBuild_37 : decode cX11_addBuild 37 = .ok (.new 80, 3) := by decide +kernel
theorem dX11_addBuild_40 : decode cX11_addBuild 40 = .ok (.dup, 1) := by decide +kernel
theorem dX11_addBuild_41 : decode cX11_addBuild 41 = .ok (.invokespecial 82, 3) := by decide +kernel
theorem dX11_addBuild_44 : decode cX11_addBuild 44 = .ok (.athrow, 1) := by decide +kernel
set_option maxRecDepth 20000 in
theorem ggX11_addSame_X7_clauseAt : GoodIn wsX11_addSame wsX7_clauseAt := goodIn_r _ [13, 14, 15, 16, 17, 18, 19, 20, 21, 22, 23, 24, 25, 26, 27, 28, 29, 30, 31, 32, 33, 34, 35, 36, 37, 38, 171, 172, 173, 174, 175, 176] (by decide +kernel) (by decide +kernel)
set_option maxRecDepth 20000 in
theorem gX11_addSame_X7_clauseAt : GoodIn wsX11_addSame (wsV RX11 161 RX7 yX7_clauseAt wsX7_clauseAt) := goodIn_app (goodIn_of _ (by decide +kernel)) ggX11_addSame_X7_clauseAt
theorem dX11_addSame_0 : decode cX11_addSame 0 = .ok (.aload_n 0, 1) := by decide +kernel
theorem dX11_addSame_1 : decode cX11_addSame 1 = .ok (.getfield 19, 3) := by decide +kernel
theorem dX11_addSame_4 : decode cX11_addSame 4 = .ok (.iload_n 1, 1) := by decide +kernel
theorem dX11_addSame_5 : decode cX11_addSame 5 = .ok (.invokevirtual 161, 3) := by decide +kernel
theorem dX11_addSame_8 : decode cX11_addSame 8 = .ok (.astore 4, 2) := by decide +kernel
theorem dX11_addSame_10 : decode cX11_addSame 10 = .ok (.aload 4, 2) := by decide +kernel
theorem dX11_addSame_12 : decode cX11_addSame 12 = .ok (.ifnull 12, 3) := by decide +kernel
theorem dX11_addSame_24 : decode cX11_addSame 24 = .ok (.new 80, 3) := by decide +kernel
theorem dX11_addSame_27 : decode cX11_addSame 27 = .ok (.dup, 1) := by decide +kernel
theorem dX11_addSame_28 : decode cX11_addSame 28 = .ok (.invokespecial 82, 3) := by decide +kernel
theorem dX11_addSame_31 : decode cX11_addSame 31 = .ok (.athrow, 1) := by decide +kernel
set_option maxRecDepth 20000 in
theorem ggX11_addCall_X7_clauseAt : GoodIn wsX11_addCall wsX7_clauseAt := goodIn_r _ [11, 12, 13, 14, 15, 16, 17, 18, 19, 20, 21, 22, 23, 24, 25, 26, 27, 28, 29, 30, 31, 32, 33, 34, 35, 36, 191, 192, 193, 194, 195, 196] (by decide +kernel) (by decide +kernel)
set_option maxRecDepth 20000 in
theorem gX11_addCall_X7_clauseAt : GoodIn wsX11_addCall (wsV RX11 161 RX7 yX7_clauseAt wsX7_clauseAt) := goodIn_app (goodIn_of _ (by decide +kernel)) ggX11_addCall_X7_clauseAt
set_option maxRecDepth 20000 in
theorem ggX11_addCall_X7_predicateAt : GoodIn wsX11_addCall wsX7_predicateAt := goodIn_r _ [40, 41, 42, 14, 15, 16, 17, 18, 19, 20, 21, 22, 23, 24, 25, 26, 27, 28, 29, 30, 31, 32, 33, 34, 35, 36, 191, 192, 193, 194, 195, 196] (by decide +kernel) (by decide +kernel)
set_option maxRecDepth 20000 in
theorem gX11_addCall_X7_predicateAt : GoodIn wsX11_addCall (wsV RX11 134 RX7 yX7_predicateAt wsX7_predicateAt) := goodIn_app (goodIn_of _ (by decide +kernel)) ggX11_addCall_X7_predicateAt
theorem dX11_addCall_0 : decode cX11_addCall 0 = .ok (.aload_n 0, 1) := by decide +kernel
theorem dX11_addCall_1 : decode cX11_addCall 1 = .ok (.getfield 19, 3) := by decide +kernel
theorem dX11_addCall_4 : decode cX11_addCall 4 = .ok (.iload_n 1, 1) := by decide +kernel
theorem dX11_addCall_5 : decode cX11_addCall 5 = .ok (.invokevirtual 161, 3) := by decide +kernel
theorem dX11_addCall_8 : decode cX11_addCall 8 = .ok (.astore 7, 2) := by decide +kernel
theorem dX11_addCall_10 : decode cX11_addCall 10 = .ok (.aload_n 0, 1) := by decide +kernel
theorem dX11_addCall_11 : decode cX11_addCall 11 = .ok (.getfield 19, 3) := by decide +kernel
theorem dX11_addCall_14 : decode cX11_addCall 14 = .ok (.iload_n 2, 1) := by decide +kernel
theorem dX11_addCall_15 : decode cX11_addCall 15 = .ok (.invokevirtual 134, 3) := by decide +kernel
theorem dX11_addCall_18 : decode cX11_addCall 18 = .ok (.astore 8, 2) := by decide +kernel
theorem dX11_addCall_20 : decode cX11_addCall 20 = .ok (.aload 7, 2) := by decide +kernel
theorem dX11_addCall_22 : decode cX11_addCall 22 = .ok (.ifnull 19, 3) := by decide +kernel
theorem dX11_addCall_41 : decode cX11_addCall 41 = .ok (.new 80, 3) := by decide +kernel
theorem dX11_addCall_44 : decode cX11_addCall 44 = .ok (.dup, 1) := by decide +kernel
theorem dX11_addCall_45 : decode cX11_addCall 45 = .ok (.invokespecial 82, 3) := by decide +kernel
