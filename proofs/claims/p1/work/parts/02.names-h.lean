def lw_ch : Nat → List Cond
  | 0 => k2_sels lw_privs
  | 1 => tables_1_1
  | 2 => tables_1_2
  | 3 => tables_1_3
  | 4 => tables_1_4
  | 5 => tables_1_5
  | 6 => tables_1_6
  | 7 => tables_1_7
  | 8 => tables_1_8
  | 9 => tables_1_9
  | 10 => tables_1_10
  | 11 => tables_1_11
  | 12 => tables_1_12
  | _ => []
theorem lw_ch_in : ∀ (c : Nat), ∀ w ∈ lw_ch c, w ∈ lw_tbl
  | 0 => fun w h => List.mem_append_left _ h
  | 1 => fun w h => List.mem_append_right _ (List.mem_append_left _ h)
  | 2 => fun w h => List.mem_append_right _ (List.mem_append_right _ (List.mem_append_left _ h))
  | 3 => fun w h => List.mem_append_right _ (List.mem_append_right _ (List.mem_append_right _ (List.mem_append_left _ h)))
  | 4 => fun w h => List.mem_append_right _ (List.mem_append_right _ (List.mem_append_right _ (List.mem_append_right _ (List.mem_append_left _ h))))
  | 5 => fun w h => List.mem_append_right _ (List.mem_append_right _ (List.mem_append_right _ (List.mem_append_right _ (List.mem_append_right _ (List.mem_append_left _ h)))))
  | 6 => fun w h => List.mem_append_right _ (List.mem_append_right _ (List.mem_append_right _ (List.mem_append_right _ (List.mem_append_right _ (List.mem_append_right _ (List.mem_append_left _ h))))))
  | 7 => fun w h => List.mem_append_right _ (List.mem_append_right _ (List.mem_append_right _ (List.mem_append_right _ (List.mem_append_right _ (List.mem_append_right _ (List.mem_append_right _ (List.mem_append_left _ h)))))))
  | 8 => fun w h => List.mem_append_right _ (List.mem_append_right _ (List.mem_append_right _ (List.mem_append_right _ (List.mem_append_right _ (List.mem_append_right _ (List.mem_append_right _ (List.mem_append_right _ (List.mem_append_left _ h))))))))
  | 9 => fun w h => List.mem_append_right _ (List.mem_append_right _ (List.mem_append_right _ (List.mem_append_right _ (List.mem_append_right _ (List.mem_append_right _ (List.mem_append_right _ (List.mem_append_right _ (List.mem_append_right _ (List.mem_append_left _ h)))))))))
  | 10 => fun w h => List.mem_append_right _ (List.mem_append_right _ (List.mem_append_right _ (List.mem_append_right _ (List.mem_append_right _ (List.mem_append_right _ (List.mem_append_right _ (List.mem_append_right _ (List.mem_append_right _ (List.mem_append_right _ (List.mem_append_left _ h))))))))))
  | 11 => fun w h => List.mem_append_right _ (List.mem_append_right _ (List.mem_append_right _ (List.mem_append_right _ (List.mem_append_right _ (List.mem_append_right _ (List.mem_append_right _ (List.mem_append_right _ (List.mem_append_right _ (List.mem_append_right _ (List.mem_append_right _ (List.mem_append_left _ h)))))))))))
  | 12 => fun w h => List.mem_append_right _ (List.mem_append_right _ (List.mem_append_right _ (List.mem_append_right _ (List.mem_append_right _ (List.mem_append_right _ (List.mem_append_right _ (List.mem_append_right _ (List.mem_append_right _ (List.mem_append_right _ (List.mem_append_right _ (List.mem_append_right _ (h))))))))))))
  | _ + 13 => fun w h => by simp [lw_ch] at h
theorem o_idx {ws : List Cond} (ps : List (Nat × Nat)) (hp : ws = ps.filterMap (fun i => (lw_ch i.1)[i.2]?)) : ∀ w ∈ ws, w ∈ lw_tbl := fun w hw => by
  rw [hp] at hw
  obtain ⟨i, -, hi⟩ := List.mem_filterMap.mp hw
  exact lw_ch_in _ w (List.mem_of_getElem? hi)
set_option maxRecDepth 20000 in
theorem lwi_wsL_law0_r1 : ∀ w ∈ wsL_law0_r1, w ∈ lw_tbl := o_idx [(1, 46), (1, 47), (1, 1), (9, 64), (9, 65), (1, 29), (2, 213), (12, 90), (1, 48), (1, 49), (1, 50), (1, 51), (1, 52), (1, 53), (1, 54), (1, 55), (1, 2), (3, 167), (2, 214), (2, 215), (1, 22), (3, 168), (3, 16), (3, 17)] rfl
set_option maxRecDepth 20000 in
theorem lwi_wsL_law0_r2 : ∀ w ∈ wsL_law0_r2, w ∈ lw_tbl := o_idx [(1, 26), (3, 171), (3, 172), (3, 66), (3, 67), (1, 27), (3, 169), (3, 113), (3, 114), (1, 28), (3, 170), (3, 173), (3, 174), (3, 175), (1, 56), (1, 57), (1, 58), (1, 59), (2, 197), (1, 60), (1, 61), (1, 3), (2, 198), (2, 199)] rfl
set_option maxRecDepth 20000 in
theorem lwi_wsL_law0_r3 : ∀ w ∈ wsL_law0_r3, w ∈ lw_tbl := o_idx [(2, 200), (2, 201), (1, 62), (1, 63), (1, 64), (1, 65), (1, 67), (1, 66), (1, 77), (1, 68), (1, 69), (1, 78), (1, 79), (1, 80), (1, 81), (1, 82), (1, 83), (1, 4), (1, 84), (1, 85), (1, 86), (1, 87), (1, 88), (1, 89)] rfl
set_option maxRecDepth 20000 in
theorem lwi_wsL_law0_r4 : ∀ w ∈ wsL_law0_r4, w ∈ lw_tbl := o_idx [(1, 91), (1, 92), (1, 93), (1, 5), (1, 94), (1, 95), (1, 97), (1, 96), (1, 6), (1, 98), (1, 99), (1, 100), (1, 101), (1, 102), (1, 103), (1, 149), (1, 150), (1, 12), (2, 167), (2, 168), (1, 21), (2, 193), (2, 194), (2, 195)] rfl
set_option maxRecDepth 20000 in
theorem lwi_wsL_law0_r5 : ∀ w ∈ wsL_law0_r5, w ∈ lw_tbl := o_idx [(2, 196), (2, 216), (2, 217), (2, 218), (2, 219), (2, 220), (2, 221), (1, 25), (3, 6), (3, 7), (3, 8), (2, 222), (2, 223), (2, 224), (2, 232), (2, 234), (2, 225), (2, 226), (1, 24), (2, 227), (2, 236), (2, 228), (2, 229), (1, 23)] rfl
set_option maxRecDepth 20000 in
theorem lwi_wsL_law0_r6 : ∀ w ∈ wsL_law0_r6, w ∈ lw_tbl := o_idx [(2, 230), (2, 231), (3, 18), (3, 19), (3, 20), (3, 21), (3, 24), (3, 22), (3, 26), (3, 27), (3, 28), (3, 38), (3, 23), (3, 68), (3, 69), (3, 70), (3, 71), (3, 76), (3, 80), (3, 72), (3, 77), (3, 74), (3, 78), (3, 79)] rfl
set_option maxRecDepth 20000 in
theorem lwi_wsL_law0_r7 : ∀ w ∈ wsL_law0_r7, w ∈ lw_tbl := o_idx [(3, 73), (3, 75), (3, 115), (3, 116), (3, 117), (3, 118), (3, 121), (3, 122), (3, 119), (3, 123), (3, 125), (3, 126), (3, 127), (3, 128), (3, 130), (3, 131), (3, 132), (3, 120), (9, 66), (9, 67), (9, 68), (9, 69), (9, 78), (9, 79)] rfl
set_option maxRecDepth 20000 in
theorem lwi_wsL_law0_r8 : ∀ w ∈ wsL_law0_r8, w ∈ lw_tbl := o_idx [(9, 81), (9, 82), (9, 83), (9, 85), (9, 86), (9, 87), (9, 88), (10, 45), (9, 89), (9, 91), (9, 92), (9, 93), (9, 94), (9, 95), (9, 96), (9, 97), (9, 98), (9, 99), (9, 100), (10, 46), (9, 101), (9, 102), (9, 103), (9, 104)] rfl
set_option maxRecDepth 20000 in
theorem lwi_wsL_law0_r9 : ∀ w ∈ wsL_law0_r9, w ∈ lw_tbl := o_idx [(9, 105), (9, 106), (9, 113), (9, 115), (9, 120), (9, 121), (9, 125), (9, 130), (9, 131), (9, 70), (9, 133), (9, 134), (9, 72), (9, 142), (9, 143), (3, 207), (3, 208), (1, 0), (3, 209), (3, 210), (3, 211), (3, 212), (3, 213), (3, 214)] rfl
set_option maxRecDepth 20000 in
theorem lwi_wsL_law0_r10 : ∀ w ∈ wsL_law0_r10, w ∈ lw_tbl := o_idx [(3, 219), (1, 30), (3, 215), (3, 216), (3, 217), (3, 218), (4, 0), (4, 1), (4, 2), (4, 3), (10, 51), (10, 52), (10, 53), (10, 54), (9, 74), (9, 76), (9, 75), (10, 55), (10, 57), (0, 66), (10, 58), (10, 47), (10, 48), (10, 49)] rfl
set_option maxRecDepth 20000 in
theorem lwi_wsL_law0_r11 : ∀ w ∈ wsL_law0_r11, w ∈ lw_tbl := o_idx [(10, 50), (4, 4), (4, 5), (4, 6), (4, 7), (4, 10), (4, 11), (4, 12), (4, 13), (4, 14), (4, 23), (1, 20), (4, 38), (1, 10), (4, 15), (4, 16), (4, 17), (4, 18), (4, 19), (4, 21), (0, 1), (4, 22), (4, 43), (4, 44)] rfl
set_option maxRecDepth 20000 in
theorem lwi_wsL_law0_r12 : ∀ w ∈ wsL_law0_r12, w ∈ lw_tbl := o_idx [(4, 45), (4, 46), (3, 203), (3, 204), (3, 205), (3, 206), (4, 47), (4, 48), (4, 49), (4, 50), (10, 59), (10, 60), (10, 61), (10, 62), (9, 77), (10, 63), (10, 64), (10, 65), (4, 51), (4, 52), (4, 53), (4, 54), (4, 55), (4, 56)] rfl
set_option maxRecDepth 20000 in
theorem lwi_wsL_law0_r13 : ∀ w ∈ wsL_law0_r13, w ∈ lw_tbl := o_idx [(4, 57), (4, 58), (4, 59), (4, 60), (4, 61), (4, 62), (4, 63), (4, 64), (4, 65), (4, 66), (4, 67), (4, 68), (4, 69), (4, 70), (4, 71), (4, 72), (4, 73), (4, 74), (4, 75), (4, 76), (4, 77), (4, 78), (4, 79), (4, 80)] rfl
set_option maxRecDepth 20000 in
theorem lwi_wsL_law0_r14 : ∀ w ∈ wsL_law0_r14, w ∈ lw_tbl := o_idx [(4, 81), (4, 82), (4, 84), (0, 2), (4, 85), (4, 86), (4, 87), (4, 88), (4, 89), (4, 90), (4, 91), (4, 92), (4, 93), (4, 94), (4, 95), (4, 96), (4, 97), (4, 98), (4, 99), (4, 100), (4, 101), (4, 102), (4, 104), (0, 3)] rfl
set_option maxRecDepth 20000 in
theorem lwi_wsL_law0_r15 : ∀ w ∈ wsL_law0_r15, w ∈ lw_tbl := o_idx [(4, 105), (4, 106), (4, 107), (4, 108), (4, 109), (4, 110), (4, 111), (4, 112), (4, 113), (10, 66), (10, 67), (10, 68), (10, 69), (10, 70), (10, 72), (0, 67), (10, 73), (10, 74), (10, 76), (0, 68), (10, 77), (9, 80), (10, 78), (10, 80)] rfl
set_option maxRecDepth 20000 in
theorem lwi_wsL_law0_r16 : ∀ w ∈ wsL_law0_r16, w ∈ lw_tbl := o_idx [(0, 69), (10, 81), (10, 82), (10, 84), (0, 70), (10, 85), (4, 114), (4, 115), (4, 116), (4, 117), (4, 118), (4, 119), (4, 120), (4, 121), (4, 123), (0, 4), (4, 124), (4, 125), (4, 126), (10, 86), (10, 87), (10, 88), (10, 89), (4, 127)] rfl
set_option maxRecDepth 20000 in
theorem lwi_wsL_law0_r17 : ∀ w ∈ wsL_law0_r17, w ∈ lw_tbl := o_idx [(4, 128), (4, 129), (4, 130), (4, 131), (4, 132), (4, 133), (4, 134), (4, 136), (1, 31), (4, 135), (4, 151), (4, 152), (4, 153), (4, 154), (10, 90), (10, 91), (10, 92), (10, 93), (4, 155), (4, 156), (4, 157), (4, 158), (4, 159), (4, 160)] rfl
set_option maxRecDepth 20000 in
theorem lwi_wsL_law0_r18 : ∀ w ∈ wsL_law0_r18, w ∈ lw_tbl := o_idx [(4, 161), (4, 162), (10, 94), (10, 95), (10, 96), (10, 97), (4, 163), (4, 164), (4, 165), (4, 166), (4, 167), (4, 168), (4, 169), (4, 170), (4, 171), (4, 172), (4, 173), (4, 174), (4, 175), (4, 176), (4, 177), (2, 235), (4, 178), (4, 179)] rfl
set_option maxRecDepth 20000 in
theorem lwi_wsL_law0_r19 : ∀ w ∈ wsL_law0_r19, w ∈ lw_tbl := o_idx [(4, 180), (4, 181), (4, 182), (4, 183), (1, 32), (4, 184), (4, 185), (4, 186), (4, 187), (4, 225), (4, 188), (4, 228), (4, 194), (4, 229), (4, 231), (4, 196), (4, 197), (1, 33), (4, 233), (4, 189), (4, 191), (4, 192), (4, 193), (4, 195)] rfl
set_option maxRecDepth 20000 in
theorem lwi_wsL_law0_r20 : ∀ w ∈ wsL_law0_r20, w ∈ lw_tbl := o_idx [(4, 198), (4, 199), (4, 200), (4, 201), (4, 202), (4, 206), (4, 210), (4, 215), (5, 6), (5, 7), (5, 8), (5, 9), (2, 237), (2, 238), (5, 10), (5, 12), (0, 5), (5, 13), (5, 14), (5, 16), (0, 6), (5, 17), (5, 18), (5, 20)] rfl
set_option maxRecDepth 20000 in
theorem lwi_wsL_law0_r21 : ∀ w ∈ wsL_law0_r21, w ∈ lw_tbl := o_idx [(0, 7), (5, 21), (5, 65), (1, 205), (1, 206), (5, 66), (5, 22), (1, 202), (1, 15), (1, 203), (1, 204), (1, 207), (1, 208), (1, 209), (1, 210), (5, 23), (5, 24), (5, 25), (5, 26), (12, 132), (5, 27), (5, 58), (5, 59), (5, 60)] rfl
set_option maxRecDepth 20000 in
theorem lwi_wsL_law0_r22 : ∀ w ∈ wsL_law0_r22, w ∈ lw_tbl := o_idx [(5, 61), (5, 62), (5, 64), (10, 98), (10, 99), (10, 100), (10, 101), (9, 84), (5, 67), (5, 68), (5, 69), (5, 70), (5, 71), (5, 72), (5, 73), (5, 74), (5, 75), (5, 76), (5, 77), (4, 182), (5, 78), (5, 79), (5, 80), (5, 81)] rfl
set_option maxRecDepth 20000 in
theorem lwi_wsL_law0_r23 : ∀ w ∈ wsL_law0_r23, w ∈ lw_tbl := o_idx [(5, 82), (5, 83), (1, 34), (5, 84), (5, 85), (5, 86), (1, 16), (5, 87), (5, 88), (5, 89), (5, 90), (5, 91), (5, 92), (5, 93), (5, 94), (5, 95), (5, 96), (5, 97), (5, 98), (5, 99), (5, 100), (5, 101), (5, 102), (5, 103)] rfl
set_option maxRecDepth 20000 in
theorem lwi_wsL_law0_r24 : ∀ w ∈ wsL_law0_r24, w ∈ lw_tbl := o_idx [(5, 104), (5, 105), (5, 106), (5, 107), (5, 108), (5, 109), (5, 110), (1, 35), (5, 111), (5, 112), (5, 113), (5, 114), (5, 115), (5, 121), (5, 125), (5, 127), (5, 138), (10, 102), (10, 103), (10, 104), (10, 105), (10, 106), (10, 108), (0, 71)] rfl
set_option maxRecDepth 20000 in
theorem lwi_wsL_law0_r25 : ∀ w ∈ wsL_law0_r25, w ∈ lw_tbl := o_idx [(10, 109), (5, 161), (5, 162), (5, 163), (5, 164), (5, 165), (5, 166), (5, 167), (5, 168), (5, 169), (5, 170), (5, 171), (5, 172), (5, 173), (5, 174), (5, 175), (5, 176), (5, 177), (1, 36), (5, 178), (5, 179), (5, 180), (5, 181), (5, 196)] rfl
set_option maxRecDepth 20000 in
theorem lwi_wsL_law0_r26 : ∀ w ∈ wsL_law0_r26, w ∈ lw_tbl := o_idx [(5, 199), (5, 182), (5, 201), (5, 190), (5, 202), (5, 203), (5, 204), (5, 192), (5, 205), (5, 194), (5, 206), (5, 207), (5, 183), (5, 184), (5, 185), (5, 186), (5, 187), (5, 188), (5, 189), (5, 191), (10, 110), (10, 111), (10, 112), (10, 113)] rfl
set_option maxRecDepth 20000 in
theorem lwi_wsL_law0_r27 : ∀ w ∈ wsL_law0_r27, w ∈ lw_tbl := o_idx [(9, 90), (5, 227), (5, 228), (5, 229), (5, 230), (5, 231), (5, 232), (5, 233), (6, 1), (5, 234), (5, 235), (5, 236), (5, 237), (5, 176), (5, 238), (5, 239), (6, 0), (6, 2), (6, 3), (6, 4), (6, 5), (6, 7), (0, 8), (6, 8)] rfl
set_option maxRecDepth 20000 in
theorem lwi_wsL_law0_r28 : ∀ w ∈ wsL_law0_r28, w ∈ lw_tbl := o_idx [(6, 9), (6, 10), (6, 11), (6, 12), (6, 13), (6, 14), (6, 15), (6, 16), (6, 17), (6, 18), (6, 19), (6, 20), (6, 22), (6, 23), (6, 24), (6, 25), (6, 26), (6, 27), (6, 28), (6, 29), (6, 30), (6, 31), (6, 32), (6, 33)] rfl
set_option maxRecDepth 20000 in
theorem lwi_wsL_law0_r29 : ∀ w ∈ wsL_law0_r29, w ∈ lw_tbl := o_idx [(6, 34), (6, 35), (6, 36), (6, 37), (6, 38), (10, 114), (10, 115), (10, 116), (10, 117), (10, 118), (10, 120), (0, 72), (10, 121), (10, 122), (10, 124), (0, 73), (10, 125), (10, 126), (10, 128), (0, 74), (10, 129), (10, 130), (10, 132), (0, 75)] rfl
set_option maxRecDepth 20000 in
theorem lwi_wsL_law0_r30 : ∀ w ∈ wsL_law0_r30, w ∈ lw_tbl := o_idx [(10, 133), (6, 39), (6, 40), (6, 41), (6, 42), (6, 43), (6, 44), (6, 45), (6, 46), (10, 134), (10, 135), (10, 136), (10, 137), (6, 47), (6, 48), (6, 49), (6, 50), (6, 51), (6, 52), (6, 53), (6, 54), (6, 55), (6, 56), (6, 57)] rfl
set_option maxRecDepth 20000 in
theorem lwi_wsL_law0_r31 : ∀ w ∈ wsL_law0_r31, w ∈ lw_tbl := o_idx [(6, 58), (10, 138), (10, 139), (10, 140), (10, 141), (6, 59), (6, 60), (6, 61), (6, 62), (6, 63), (6, 64), (6, 65), (6, 66), (6, 67), (6, 68), (6, 69), (5, 109), (6, 70), (6, 72), (0, 9), (6, 73), (6, 74), (6, 75), (6, 76)] rfl
set_option maxRecDepth 20000 in
theorem lwi_wsL_law0_r32 : ∀ w ∈ wsL_law0_r32, w ∈ lw_tbl := o_idx [(6, 77), (6, 78), (6, 79), (6, 80), (6, 81), (6, 83), (6, 82), (6, 84), (6, 86), (0, 10), (6, 87), (6, 88), (6, 89), (6, 90), (6, 91), (6, 92), (6, 93), (6, 95), (0, 11), (6, 96), (6, 97), (6, 98), (6, 99), (6, 100)] rfl
set_option maxRecDepth 20000 in
theorem lwi_wsL_law0_r33 : ∀ w ∈ wsL_law0_r33, w ∈ lw_tbl := o_idx [(5, 192), (6, 101), (6, 102), (6, 104), (0, 12), (6, 105), (6, 106), (6, 107), (6, 108), (6, 109), (6, 110), (6, 111), (6, 112), (6, 113), (6, 114), (6, 115), (6, 116), (6, 117), (6, 118), (6, 119), (6, 120), (6, 121), (6, 122), (6, 123)] rfl
set_option maxRecDepth 20000 in
theorem lwi_wsL_law0_r34 : ∀ w ∈ wsL_law0_r34, w ∈ lw_tbl := o_idx [(6, 124), (6, 125), (6, 126), (6, 127), (6, 128), (6, 129), (6, 130), (6, 131), (6, 132), (6, 133), (6, 134), (6, 135), (6, 136), (6, 137), (6, 138), (6, 139), (6, 140), (6, 142), (0, 13), (6, 143), (6, 144), (6, 145), (6, 146), (6, 147)] rfl
set_option maxRecDepth 20000 in
theorem lwi_wsL_law0_r35 : ∀ w ∈ wsL_law0_r35, w ∈ lw_tbl := o_idx [(6, 148), (6, 149), (6, 150), (6, 151), (6, 152), (6, 153), (6, 155), (0, 14), (6, 156), (6, 157), (6, 158), (6, 159), (6, 160), (6, 161), (6, 162), (6, 163), (6, 164), (6, 165), (6, 167), (0, 15), (6, 168), (6, 169), (6, 170), (6, 171)] rfl
set_option maxRecDepth 20000 in
theorem lwi_wsL_law0_r36 : ∀ w ∈ wsL_law0_r36, w ∈ lw_tbl := o_idx [(6, 172), (6, 173), (6, 174), (6, 175), (6, 176), (6, 177), (6, 178), (6, 179), (6, 180), (6, 181), (6, 182), (6, 183), (6, 184), (6, 185), (6, 186), (6, 187), (6, 188), (6, 189), (6, 190), (6, 191), (6, 192), (6, 193), (6, 194), (6, 195)] rfl
set_option maxRecDepth 20000 in
theorem lwi_wsL_law0_r37 : ∀ w ∈ wsL_law0_r37, w ∈ lw_tbl := o_idx [(6, 196), (6, 197), (6, 198), (6, 199), (6, 200), (6, 201), (6, 202), (6, 203), (6, 204), (5, 128), (5, 131), (6, 205), (6, 207), (0, 16), (6, 208), (5, 134), (5, 136), (10, 142), (10, 143), (10, 144), (10, 145), (9, 107), (9, 108), (9, 109)] rfl
set_option maxRecDepth 20000 in
theorem lwi_wsL_law0_r38 : ∀ w ∈ wsL_law0_r38, w ∈ lw_tbl := o_idx [(10, 146), (10, 148), (0, 76), (10, 149), (10, 150), (10, 152), (0, 77), (10, 153), (10, 154), (10, 156), (0, 78), (10, 157), (10, 158), (10, 160), (0, 79), (10, 161), (10, 162), (10, 164), (0, 80), (10, 165), (10, 166), (10, 168), (0, 81), (10, 169)] rfl
set_option maxRecDepth 20000 in
theorem lwi_wsL_law0_r39 : ∀ w ∈ wsL_law0_r39, w ∈ lw_tbl := o_idx [(10, 170), (10, 172), (0, 82), (10, 173), (10, 174), (10, 176), (0, 83), (10, 177), (10, 178), (10, 180), (0, 84), (10, 181), (10, 182), (10, 184), (0, 85), (10, 185), (10, 186), (10, 188), (0, 86), (10, 189), (10, 190), (10, 192), (0, 87), (10, 193)] rfl
set_option maxRecDepth 20000 in
theorem lwi_wsL_law0_r40 : ∀ w ∈ wsL_law0_r40, w ∈ lw_tbl := o_idx [(10, 194), (10, 196), (0, 88), (10, 197), (10, 198), (10, 200), (0, 89), (10, 201), (6, 209), (6, 210), (6, 211), (6, 212), (6, 213), (6, 214), (6, 215), (6, 216), (6, 218), (0, 17), (6, 219), (10, 202), (10, 203), (10, 204), (10, 205), (6, 220)] rfl
set_option maxRecDepth 20000 in
theorem lwi_wsL_law0_r41 : ∀ w ∈ wsL_law0_r41, w ∈ lw_tbl := o_idx [(6, 221), (6, 222), (6, 223), (6, 224), (6, 225), (6, 226), (6, 227), (6, 229), (0, 18), (6, 230), (6, 231), (6, 232), (6, 233), (6, 234), (6, 235), (10, 206), (10, 207), (10, 208), (10, 209), (10, 210), (10, 212), (0, 90), (10, 213), (6, 236)] rfl
set_option maxRecDepth 20000 in
theorem lwi_wsL_law0_r42 : ∀ w ∈ wsL_law0_r42, w ∈ lw_tbl := o_idx [(6, 237), (6, 238), (6, 239), (7, 0), (7, 1), (7, 2), (10, 214), (10, 215), (10, 216), (10, 217), (7, 3), (7, 4), (7, 5), (7, 6), (7, 7), (7, 8), (7, 9), (7, 10), (7, 11), (7, 12), (7, 13), (10, 218), (10, 219), (10, 220)] rfl
set_option maxRecDepth 20000 in
theorem lwi_wsL_law0_r43 : ∀ w ∈ wsL_law0_r43, w ∈ lw_tbl := o_idx [(10, 221), (7, 14), (7, 15), (7, 16), (7, 17), (7, 18), (7, 19), (7, 20), (10, 222), (10, 223), (10, 224), (10, 225), (7, 21), (7, 22), (7, 23), (7, 24), (7, 25), (7, 26), (7, 27), (7, 28), (7, 30), (0, 19), (7, 31), (7, 32)] rfl
set_option maxRecDepth 20000 in
theorem lwi_wsL_law0_r44 : ∀ w ∈ wsL_law0_r44, w ∈ lw_tbl := o_idx [(7, 33), (7, 34), (7, 35), (7, 36), (10, 226), (10, 227), (10, 228), (10, 229), (10, 230), (10, 232), (0, 91), (10, 233), (7, 37), (7, 38), (7, 39), (7, 40), (7, 41), (7, 42), (7, 43), (7, 44), (10, 234), (10, 235), (10, 236), (10, 237)] rfl
set_option maxRecDepth 20000 in
theorem lwi_wsL_law0_r45 : ∀ w ∈ wsL_law0_r45, w ∈ lw_tbl := o_idx [(7, 45), (7, 46), (7, 47), (7, 48), (7, 49), (7, 50), (7, 51), (7, 52), (8, 14), (1, 38), (7, 53), (7, 55), (0, 20), (7, 56), (7, 57), (7, 58), (7, 59), (7, 61), (0, 21), (7, 62), (7, 63), (7, 64), (7, 65), (7, 66)] rfl
set_option maxRecDepth 20000 in
theorem lwi_wsL_law0_r46 : ∀ w ∈ wsL_law0_r46, w ∈ lw_tbl := o_idx [(3, 29), (3, 32), (3, 35), (3, 41), (3, 43), (7, 67), (7, 68), (7, 69), (7, 70), (7, 72), (7, 73), (7, 74), (7, 75), (7, 76), (7, 77), (7, 181), (3, 86), (3, 82), (3, 85), (3, 83), (3, 87), (7, 78), (3, 200), (3, 201)] rfl
set_option maxRecDepth 20000 in
theorem lwi_wsL_law0_r47 : ∀ w ∈ wsL_law0_r47, w ∈ lw_tbl := o_idx [(3, 202), (7, 79), (7, 81), (0, 22), (7, 82), (3, 81), (3, 84), (7, 83), (7, 84), (7, 86), (0, 23), (7, 87), (7, 89), (7, 90), (1, 37), (7, 89), (7, 88), (7, 91), (7, 92), (7, 93), (7, 94), (7, 95), (7, 98), (7, 97)] rfl
set_option maxRecDepth 20000 in
theorem lwi_wsL_law0_r48 : ∀ w ∈ wsL_law0_r48, w ∈ lw_tbl := o_idx [(7, 135), (7, 136), (7, 137), (7, 138), (7, 139), (7, 140), (7, 100), (7, 102), (7, 104), (7, 106), (7, 108), (7, 110), (7, 112), (7, 141), (7, 142), (7, 143), (7, 144), (7, 145), (7, 146), (7, 147), (7, 148), (7, 149), (7, 150), (7, 151)] rfl
set_option maxRecDepth 20000 in
theorem lwi_wsL_law0_r49 : ∀ w ∈ wsL_law0_r49, w ∈ lw_tbl := o_idx [(7, 152), (7, 153), (7, 155), (0, 24), (7, 156), (7, 162), (7, 157), (7, 158), (7, 159), (7, 160), (7, 161), (7, 163), (7, 165), (0, 25), (7, 166), (7, 167), (7, 168), (7, 169), (7, 170), (7, 171), (7, 172), (7, 173), (7, 174), (7, 175)] rfl
set_option maxRecDepth 20000 in
theorem lwi_wsL_law0_r50 : ∀ w ∈ wsL_law0_r50, w ∈ lw_tbl := o_idx [(7, 176), (7, 177), (7, 179), (0, 26), (7, 180), (7, 182), (7, 184), (0, 27), (7, 185), (7, 186), (7, 187), (7, 189), (0, 28), (7, 190), (7, 191), (7, 193), (0, 29), (7, 194), (7, 195), (7, 197), (0, 30), (7, 198), (7, 199), (7, 200)] rfl
set_option maxRecDepth 20000 in
theorem lwi_wsL_law0_r51 : ∀ w ∈ wsL_law0_r51, w ∈ lw_tbl := o_idx [(7, 201), (7, 203), (0, 31), (7, 204), (7, 205), (7, 207), (0, 32), (7, 208), (7, 209), (7, 210), (7, 211), (7, 212), (7, 213), (7, 214), (7, 215), (7, 216), (7, 217), (7, 218), (7, 220), (0, 33), (7, 221), (7, 222), (7, 223), (7, 224)] rfl
set_option maxRecDepth 20000 in
theorem lwi_wsL_law0_r52 : ∀ w ∈ wsL_law0_r52, w ∈ lw_tbl := o_idx [(7, 226), (0, 34), (7, 227), (7, 228), (7, 230), (0, 35), (7, 231), (7, 232), (7, 233), (7, 235), (0, 36), (7, 236), (7, 237), (7, 238), (8, 0), (0, 37), (8, 1), (8, 2), (8, 3), (8, 5), (0, 38), (8, 6), (8, 7), (8, 8)] rfl
set_option maxRecDepth 20000 in
theorem lwi_wsL_law0_r53 : ∀ w ∈ wsL_law0_r53, w ∈ lw_tbl := o_idx [(8, 9), (8, 10), (8, 11), (8, 12), (8, 13), (8, 29), (10, 238), (10, 239), (11, 0), (11, 1), (9, 122), (9, 123), (9, 124), (9, 126), (9, 127), (9, 128), (9, 129), (9, 132), (9, 135), (9, 111), (9, 112), (9, 110), (9, 114), (9, 116)] rfl
set_option maxRecDepth 20000 in
theorem lwi_wsL_law0_r54 : ∀ w ∈ wsL_law0_r54, w ∈ lw_tbl := o_idx [(9, 117), (9, 118), (9, 119), (11, 2), (11, 4), (0, 92), (11, 5), (11, 6), (11, 8), (0, 93), (11, 9), (9, 137), (9, 136), (11, 10), (11, 12), (0, 94), (11, 13), (11, 18), (11, 23), (11, 24), (1, 39), (11, 14), (11, 16), (0, 95)] rfl
set_option maxRecDepth 20000 in
theorem lwi_wsL_law0_r55 : ∀ w ∈ wsL_law0_r55, w ∈ lw_tbl := o_idx [(11, 17), (11, 19), (11, 21), (0, 96), (11, 22), (11, 25), (11, 26), (11, 27), (11, 28), (11, 29), (11, 31), (11, 33), (11, 35), (11, 37), (11, 39), (11, 41), (11, 43), (11, 65), (11, 67), (0, 97), (11, 68), (11, 69), (1, 40), (11, 70)] rfl
set_option maxRecDepth 20000 in
theorem lwi_wsL_law0_r56 : ∀ w ∈ wsL_law0_r56, w ∈ lw_tbl := o_idx [(11, 71), (11, 72), (11, 73), (11, 84), (11, 74), (11, 76), (11, 78), (11, 80), (11, 82), (11, 99), (11, 101), (0, 98), (11, 102), (11, 103), (11, 105), (0, 99), (11, 106), (11, 107), (11, 109), (0, 100), (11, 135), (11, 137), (0, 107), (11, 138)] rfl
set_option maxRecDepth 20000 in
theorem lwi_wsL_law0_r57 : ∀ w ∈ wsL_law0_r57, w ∈ lw_tbl := o_idx [(11, 123), (11, 125), (0, 104), (11, 126), (11, 119), (11, 121), (0, 103), (11, 122), (11, 139), (11, 141), (0, 108), (11, 142), (11, 143), (11, 145), (0, 109), (11, 146), (11, 110), (11, 111), (11, 113), (0, 101), (11, 114), (11, 115), (11, 117), (0, 102)] rfl
set_option maxRecDepth 20000 in
theorem lwi_wsL_law0_r58 : ∀ w ∈ wsL_law0_r58, w ∈ lw_tbl := o_idx [(11, 118), (11, 127), (11, 129), (0, 105), (11, 130), (11, 131), (11, 133), (0, 106), (11, 134), (8, 30), (8, 31), (8, 32), (8, 33), (8, 34), (8, 35), (8, 36), (8, 37), (8, 39), (0, 39), (8, 40), (11, 147), (11, 148), (11, 149), (11, 150)] rfl
set_option maxRecDepth 20000 in
theorem lwi_wsL_law0_r59 : ∀ w ∈ wsL_law0_r59, w ∈ lw_tbl := o_idx [(11, 151), (11, 153), (0, 110), (11, 154), (8, 41), (8, 42), (8, 43), (8, 44), (8, 45), (8, 46), (8, 47), (8, 48), (8, 49), (8, 50), (8, 51), (8, 52), (8, 53), (8, 54), (8, 55), (8, 56), (8, 57), (8, 58), (8, 59), (8, 60)] rfl
set_option maxRecDepth 20000 in
theorem lwi_wsL_law0_r60 : ∀ w ∈ wsL_law0_r60, w ∈ lw_tbl := o_idx [(11, 155), (11, 156), (11, 157), (11, 158), (8, 61), (8, 62), (8, 63), (8, 64), (8, 65), (8, 66), (8, 67), (8, 68), (8, 69), (8, 70), (8, 71), (11, 159), (11, 160), (11, 161), (11, 162), (8, 72), (8, 73), (8, 74), (8, 75), (8, 76)] rfl
set_option maxRecDepth 20000 in
theorem lwi_wsL_law0_r61 : ∀ w ∈ wsL_law0_r61, w ∈ lw_tbl := o_idx [(8, 77), (8, 78), (8, 79), (8, 80), (8, 81), (8, 82), (8, 108), (3, 129), (3, 133), (8, 83), (8, 85), (0, 40), (8, 86), (3, 134), (3, 135), (3, 124), (8, 87), (8, 88), (8, 89), (8, 90), (8, 91), (8, 92), (8, 93), (8, 94)] rfl
set_option maxRecDepth 20000 in
theorem lwi_wsL_law0_r62 : ∀ w ∈ wsL_law0_r62, w ∈ lw_tbl := o_idx [(8, 95), (8, 97), (0, 41), (8, 98), (8, 99), (8, 101), (0, 42), (8, 102), (8, 103), (8, 105), (0, 43), (8, 106), (8, 107), (8, 109), (8, 111), (0, 44), (8, 112), (8, 113), (8, 114), (8, 116), (0, 45), (8, 117), (8, 118), (8, 120)] rfl
set_option maxRecDepth 20000 in
theorem lwi_wsL_law0_r63 : ∀ w ∈ wsL_law0_r63, w ∈ lw_tbl := o_idx [(0, 46), (8, 121), (8, 122), (8, 123), (8, 124), (8, 125), (8, 126), (8, 128), (0, 47), (8, 129), (8, 130), (8, 132), (0, 48), (8, 133), (8, 134), (8, 135), (8, 136), (8, 137), (8, 138), (8, 140), (0, 49), (8, 141), (8, 142), (8, 144)] rfl
set_option maxRecDepth 20000 in
theorem lwi_wsL_law0_r64 : ∀ w ∈ wsL_law0_r64, w ∈ lw_tbl := o_idx [(0, 50), (8, 145), (8, 146), (8, 148), (0, 51), (8, 149), (8, 150), (8, 152), (0, 52), (8, 153), (8, 154), (8, 156), (0, 53), (8, 157), (8, 158), (8, 160), (0, 54), (8, 161), (8, 162), (8, 164), (0, 55), (8, 165), (8, 166), (8, 168)] rfl
set_option maxRecDepth 20000 in
theorem lwi_wsL_law0_r65 : ∀ w ∈ wsL_law0_r65, w ∈ lw_tbl := o_idx [(0, 56), (8, 169), (8, 170), (8, 171), (8, 173), (0, 57), (8, 174), (8, 175), (8, 176), (8, 178), (0, 58), (8, 179), (8, 180), (8, 182), (0, 59), (8, 183), (8, 184), (8, 186), (0, 60), (8, 187), (8, 188), (8, 190), (0, 61), (8, 191)] rfl
set_option maxRecDepth 20000 in
theorem lwi_wsL_law0_r66 : ∀ w ∈ wsL_law0_r66, w ∈ lw_tbl := o_idx [(8, 192), (8, 194), (0, 62), (8, 195), (8, 196), (8, 197), (8, 199), (0, 63), (8, 200), (8, 201), (8, 203), (0, 64), (8, 204), (11, 199), (11, 200), (11, 201), (11, 202), (11, 203), (1, 41), (9, 138), (11, 224), (11, 225), (1, 42), (11, 226)] rfl
set_option maxRecDepth 20000 in
theorem lwi_wsL_law0_r67 : ∀ w ∈ wsL_law0_r67, w ∈ lw_tbl := o_idx [(11, 227), (1, 43), (11, 204), (11, 205), (11, 206), (11, 207), (11, 208), (11, 210), (11, 212), (11, 228), (11, 229), (11, 230), (11, 231), (11, 232), (11, 234), (11, 236), (11, 238), (12, 0), (12, 2), (12, 17), (12, 18), (12, 19), (12, 20), (12, 21)] rfl
set_option maxRecDepth 20000 in
theorem lwi_wsL_law0_r68 : ∀ w ∈ wsL_law0_r68, w ∈ lw_tbl := o_idx [(12, 23), (12, 33), (12, 35), (0, 111), (12, 36), (9, 140), (12, 37), (12, 39), (0, 112), (12, 40), (9, 139), (12, 41), (12, 43), (0, 113), (12, 44), (12, 45), (12, 46), (12, 47), (12, 48), (12, 49), (12, 50), (12, 51), (12, 53), (0, 114)] rfl
set_option maxRecDepth 20000 in
theorem lwi_wsL_law0_r69 : ∀ w ∈ wsL_law0_r69, w ∈ lw_tbl := o_idx [(12, 54), (12, 55), (12, 57), (0, 115), (12, 58), (12, 59), (12, 61), (0, 116), (12, 62), (9, 141), (12, 63), (12, 65), (0, 117), (12, 66), (12, 67), (12, 68), (1, 44), (12, 69), (12, 70), (12, 71), (12, 72), (12, 73), (12, 75), (12, 77)] rfl
set_option maxRecDepth 20000 in
theorem lwi_wsL_law0_r70 : ∀ w ∈ wsL_law0_r70, w ∈ lw_tbl := o_idx [(12, 86), (12, 88), (0, 118), (12, 89), (8, 205), (8, 206), (8, 207), (8, 208), (8, 209), (8, 210), (8, 211), (11, 163), (11, 164), (11, 165), (11, 166), (8, 212), (8, 213), (8, 214), (8, 215), (8, 216), (8, 217), (8, 218), (11, 167), (11, 168)] rfl
set_option maxRecDepth 20000 in
theorem lwi_wsL_law0_r71 : ∀ w ∈ wsL_law0_r71, w ∈ lw_tbl := o_idx [(11, 169), (11, 170), (8, 219), (8, 220), (8, 221), (8, 222), (8, 223), (8, 224), (8, 225), (11, 171), (11, 172), (11, 173), (11, 174), (8, 226), (8, 227), (8, 228), (8, 229), (8, 230), (8, 231), (8, 232), (8, 233), (8, 234), (8, 235), (8, 236)] rfl
set_option maxRecDepth 20000 in
theorem lwi_wsL_law0_r72 : ∀ w ∈ wsL_law0_r72, w ∈ lw_tbl := o_idx [(11, 175), (11, 176), (11, 177), (11, 178), (8, 237), (8, 238), (8, 239), (9, 0), (9, 1), (9, 2), (9, 3), (9, 4), (9, 6), (0, 65), (9, 7), (9, 8), (9, 9), (9, 10), (9, 11), (11, 179), (11, 180), (11, 181), (11, 182), (9, 12)] rfl
set_option maxRecDepth 20000 in
theorem lwi_wsL_law0_r73 : ∀ w ∈ wsL_law0_r73, w ∈ lw_tbl := o_idx [(9, 13), (9, 14), (9, 15), (9, 16), (9, 17), (9, 18), (9, 19), (9, 20), (9, 21), (9, 22), (11, 183), (11, 184), (11, 185), (11, 186), (3, 195), (3, 196), (3, 197), (3, 198), (3, 199), (11, 187), (11, 188), (11, 189), (11, 190), (9, 23)] rfl
set_option maxRecDepth 20000 in
theorem lwi_wsL_law0_r74 : ∀ w ∈ wsL_law0_r74, w ∈ lw_tbl := o_idx [(9, 24), (9, 25), (9, 26), (9, 40), (9, 41), (9, 42), (9, 43), (9, 48), (1, 45), (9, 44), (9, 45), (9, 46), (9, 47), (9, 53), (9, 54), (9, 55), (9, 56), (11, 191), (11, 192), (11, 193), (11, 194), (9, 57), (9, 58), (9, 59)] rfl
set_option maxRecDepth 20000 in
theorem lwi_wsL_law0_r75 : ∀ w ∈ wsL_law0_r75, w ∈ lw_tbl := o_idx [(9, 60), (9, 61), (9, 62), (9, 63), (11, 195), (11, 196), (11, 197), (11, 198)] rfl
set_option maxRecDepth 20000 in
theorem lwi_wsX110 : ∀ w ∈ wsX110, w ∈ lw_tbl := o_idx [(3, 176), (3, 178), (3, 180), (3, 182), (3, 184), (3, 186), (3, 188), (3, 190), (3, 192)] rfl
set_option maxRecDepth 20000 in
theorem lwi_wsX180 : ∀ w ∈ wsX180, w ∈ lw_tbl := o_idx [(9, 144), (9, 146), (9, 148), (9, 150), (9, 152), (9, 154), (9, 156), (9, 158), (9, 160), (9, 162), (9, 164), (9, 166), (9, 168), (9, 170), (9, 172), (9, 174), (9, 176), (9, 178), (9, 180), (9, 182), (9, 184), (9, 186), (9, 188), (9, 190), (9, 192), (9, 194), (9, 196), (9, 198), (9, 200), (9, 202), (9, 204), (9, 206), (9, 208), (9, 210), (9, 212), (9, 214), (9, 216), (9, 218), (9, 220), (9, 222), (9, 224), (9, 226), (9, 228), (9, 230), (9, 232), (9, 234), (9, 236), (9, 238), (10, 0), (10, 2), (10, 4), (10, 6), (10, 8), (10, 10), (10, 12), (10, 14), (10, 16), (10, 18), (10, 20), (10, 22), (10, 24), (10, 26), (10, 28), (10, 30), (10, 32), (10, 34), (10, 36), (10, 38), (10, 40), (10, 42)] rfl
set_option maxRecDepth 20000 in
theorem lwi_wsX100 : ∀ w ∈ wsX100, w ∈ lw_tbl := o_idx [(2, 202), (2, 204), (2, 206), (2, 208), (2, 210)] rfl
set_option maxRecDepth 20000 in
theorem lwi_wsX70 : ∀ w ∈ wsX70, w ∈ lw_tbl := o_idx [(3, 9), (3, 11), (3, 13)] rfl
set_option maxRecDepth 20000 in
theorem lwi_wsX80 : ∀ w ∈ wsX80, w ∈ lw_tbl := o_idx [(3, 45), (3, 47), (3, 49), (3, 51), (3, 53), (3, 55), (3, 57), (3, 59), (3, 61), (3, 63)] rfl
set_option maxRecDepth 20000 in
theorem lwi_wsX40 : ∀ w ∈ wsX40, w ∈ lw_tbl := o_idx [(3, 88), (3, 90), (3, 92), (3, 94), (3, 96), (3, 98), (3, 100), (3, 102), (3, 104), (3, 106), (3, 108), (3, 110)] rfl
set_option maxRecDepth 20000 in
theorem lwi_wsX00 : ∀ w ∈ wsX00, w ∈ lw_tbl := o_idx [(3, 136), (3, 138), (3, 140), (3, 142), (3, 144), (3, 146), (3, 148), (3, 150), (3, 152), (3, 154), (3, 156), (3, 158), (3, 160), (3, 162), (3, 164)] rfl
set_option maxRecDepth 20000 in
theorem lwi_wsX90 : ∀ w ∈ wsX90, w ∈ lw_tbl := o_idx [(1, 70), (1, 72), (1, 74)] rfl
set_option maxRecDepth 20000 in
theorem lwi_wsJ40 : ∀ w ∈ wsJ40, w ∈ lw_tbl := o_idx [(1, 171), (1, 173), (1, 175), (1, 177)] rfl
set_option maxRecDepth 20000 in
theorem lwi_wsJx000600 : ∀ w ∈ wsJx000600, w ∈ lw_tbl := o_idx [(2, 173), (2, 174), (2, 175), (2, 176), (2, 177), (2, 191)] rfl
set_option maxRecDepth 20000 in
theorem lwi_wsJx4a65c0 : ∀ w ∈ wsJx4a65c0, w ∈ lw_tbl := o_idx [(3, 3), (2, 239), (3, 1)] rfl
set_option maxRecDepth 20000 in
theorem lwi_wsX60 : ∀ w ∈ wsX60, w ∈ lw_tbl := o_idx [(4, 235), (4, 237), (4, 239), (5, 1), (5, 3)] rfl
set_option maxRecDepth 20000 in
theorem lwi_wsX30 : ∀ w ∈ wsX30, w ∈ lw_tbl := o_idx [(4, 216), (4, 218), (4, 220), (4, 222)] rfl
set_option maxRecDepth 20000 in
theorem lwi_wsX50 : ∀ w ∈ wsX50, w ∈ lw_tbl := o_idx [(5, 142), (5, 144), (5, 146), (5, 148), (5, 150), (5, 152), (5, 154), (5, 156), (5, 158)] rfl
set_option maxRecDepth 20000 in
theorem lwi_wsX10 : ∀ w ∈ wsX10, w ∈ lw_tbl := o_idx [(5, 208), (5, 210), (5, 212), (5, 214), (5, 216), (5, 218), (5, 220), (5, 222), (5, 224)] rfl
set_option maxRecDepth 20000 in
theorem lwi_wsX20 : ∀ w ∈ wsX20, w ∈ lw_tbl := o_idx [(7, 114), (7, 116), (7, 118), (7, 120), (7, 122), (7, 124), (7, 126), (7, 128), (7, 130), (7, 132)] rfl
set_option maxRecDepth 20000 in
theorem lwi_wsX140 : ∀ w ∈ wsX140, w ∈ lw_tbl := o_idx [(11, 86), (11, 88), (11, 90), (11, 92), (11, 94), (11, 96)] rfl
set_option maxRecDepth 20000 in
theorem lwi_wsX130 : ∀ w ∈ wsX130, w ∈ lw_tbl := o_idx [(11, 46), (11, 48), (11, 50), (11, 52), (11, 54), (11, 56), (11, 58), (11, 60), (11, 62)] rfl
set_option maxRecDepth 20000 in
theorem lwi_wsX170 : ∀ w ∈ wsX170, w ∈ lw_tbl := o_idx [(11, 215), (11, 217), (11, 219), (11, 221)] rfl
set_option maxRecDepth 20000 in
theorem lwi_wsX160 : ∀ w ∈ wsX160, w ∈ lw_tbl := o_idx [(12, 26), (12, 28), (12, 30)] rfl
set_option maxRecDepth 20000 in
theorem lwi_wsX150 : ∀ w ∈ wsX150, w ∈ lw_tbl := o_idx [(12, 4), (12, 6), (12, 8), (12, 10), (12, 12), (12, 14)] rfl
set_option maxRecDepth 20000 in
theorem lwi_wsX120 : ∀ w ∈ wsX120, w ∈ lw_tbl := o_idx [(12, 79), (12, 81), (12, 83)] rfl
set_option maxRecDepth 20000 in
theorem wsL_law_in0 : ∀ w ∈ wsL_law0, w ∈ lw_tbl := fun w => (fun h => (List.mem_append.mp h).elim (fun h => (List.mem_append.mp h).elim (fun h => (List.mem_append.mp h).elim (fun h => (List.mem_append.mp h).elim (fun h => (List.mem_append.mp h).elim (fun h => (List.mem_append.mp h).elim (fun h => (List.mem_append.mp h).elim (fun h => (List.mem_append.mp h).elim (fun h => (List.mem_append.mp h).elim (fun h => (List.mem_append.mp h).elim (fun h => (List.mem_append.mp h).elim (fun h => (List.mem_append.mp h).elim (fun h => (List.mem_append.mp h).elim (fun h => (List.mem_append.mp h).elim (fun h => (List.mem_append.mp h).elim (fun h => (List.mem_append.mp h).elim (fun h => (List.mem_append.mp h).elim (fun h => (List.mem_append.mp h).elim (fun h => (List.mem_append.mp h).elim (fun h => (List.mem_append.mp h).elim (fun h => (List.mem_append.mp h).elim (fun h => (List.mem_append.mp h).elim (fun h => (List.mem_append.mp h).elim (fun h => (List.mem_append.mp h).elim (fun h => lwi_wsL_law0_r1 w h) (fun h => (List.mem_append.mp h).elim (fun h => lwi_wsL_law0_r2 w h) (fun h => (List.mem_append.mp h).elim (fun h => lwi_wsL_law0_r3 w h) (fun h => (List.mem_append.mp h).elim (fun h => lwi_wsL_law0_r4 w h) (fun h => (List.mem_append.mp h).elim (fun h => lwi_wsL_law0_r5 w h) (fun h => (List.mem_append.mp h).elim (fun h => lwi_wsL_law0_r6 w h) (fun h => (List.mem_append.mp h).elim (fun h => lwi_wsL_law0_r7 w h) (fun h => (List.mem_append.mp h).elim (fun h => lwi_wsL_law0_r8 w h) (fun h => (List.mem_append.mp h).elim (fun h => lwi_wsL_law0_r9 w h) (fun h => (List.mem_append.mp h).elim (fun h => lwi_wsL_law0_r10 w h) (fun h => (List.mem_append.mp h).elim (fun h => lwi_wsL_law0_r11 w h) (fun h => (List.mem_append.mp h).elim (fun h => lwi_wsL_law0_r12 w h) (fun h => (List.mem_append.mp h).elim (fun h => lwi_wsL_law0_r13 w h) (fun h => (List.mem_append.mp h).elim (fun h => lwi_wsL_law0_r14 w h) (fun h => (List.mem_append.mp h).elim (fun h => lwi_wsL_law0_r15 w h) (fun h => (List.mem_append.mp h).elim (fun h => lwi_wsL_law0_r16 w h) (fun h => (List.mem_append.mp h).elim (fun h => lwi_wsL_law0_r17 w h) (fun h => (List.mem_append.mp h).elim (fun h => lwi_wsL_law0_r18 w h) (fun h => (List.mem_append.mp h).elim (fun h => lwi_wsL_law0_r19 w h) (fun h => (List.mem_append.mp h).elim (fun h => lwi_wsL_law0_r20 w h) (fun h => (List.mem_append.mp h).elim (fun h => lwi_wsL_law0_r21 w h) (fun h => (List.mem_append.mp h).elim (fun h => lwi_wsL_law0_r22 w h) (fun h => (List.mem_append.mp h).elim (fun h => lwi_wsL_law0_r23 w h) (fun h => (List.mem_append.mp h).elim (fun h => lwi_wsL_law0_r24 w h) (fun h => (List.mem_append.mp h).elim (fun h => lwi_wsL_law0_r25 w h) (fun h => (List.mem_append.mp h).elim (fun h => lwi_wsL_law0_r26 w h) (fun h => (List.mem_append.mp h).elim (fun h => lwi_wsL_law0_r27 w h) (fun h => (List.mem_append.mp h).elim (fun h => lwi_wsL_law0_r28 w h) (fun h => (List.mem_append.mp h).elim (fun h => lwi_wsL_law0_r29 w h) (fun h => (List.mem_append.mp h).elim (fun h => lwi_wsL_law0_r30 w h) (fun h => (List.mem_append.mp h).elim (fun h => lwi_wsL_law0_r31 w h) (fun h => (List.mem_append.mp h).elim (fun h => lwi_wsL_law0_r32 w h) (fun h => (List.mem_append.mp h).elim (fun h => lwi_wsL_law0_r33 w h) (fun h => (List.mem_append.mp h).elim (fun h => lwi_wsL_law0_r34 w h) (fun h => (List.mem_append.mp h).elim (fun h => lwi_wsL_law0_r35 w h) (fun h => (List.mem_append.mp h).elim (fun h => lwi_wsL_law0_r36 w h) (fun h => (List.mem_append.mp h).elim (fun h => lwi_wsL_law0_r37 w h) (fun h => (List.mem_append.mp h).elim (fun h => lwi_wsL_law0_r38 w h) (fun h => (List.mem_append.mp h).elim (fun h => lwi_wsL_law0_r39 w h) (fun h => (List.mem_append.mp h).elim (fun h => lwi_wsL_law0_r40 w h) (fun h => (List.mem_append.mp h).elim (fun h => lwi_wsL_law0_r41 w h) (fun h => (List.mem_append.mp h).elim (fun h => lwi_wsL_law0_r42 w h) (fun h => (List.mem_append.mp h).elim (fun h => lwi_wsL_law0_r43 w h) (fun h => (List.mem_append.mp h).elim (fun h => lwi_wsL_law0_r44 w h) (fun h => (List.mem_append.mp h).elim (fun h => lwi_wsL_law0_r45 w h) (fun h => (List.mem_append.mp h).elim (fun h => lwi_wsL_law0_r46 w h) (fun h => (List.mem_append.mp h).elim (fun h => lwi_wsL_law0_r47 w h) (fun h => (List.mem_append.mp h).elim (fun h => lwi_wsL_law0_r48 w h) (fun h => (List.mem_append.mp h).elim (fun h => lwi_wsL_law0_r49 w h) (fun h => (List.mem_append.mp h).elim (fun h => lwi_wsL_law0_r50 w h) (fun h => (List.mem_append.mp h).elim (fun h => lwi_wsL_law0_r51 w h) (fun h => (List.mem_append.mp h).elim (fun h => lwi_wsL_law0_r52 w h) (fun h => (List.mem_append.mp h).elim (fun h => lwi_wsL_law0_r53 w h) (fun h => (List.mem_append.mp h).elim (fun h => lwi_wsL_law0_r54 w h) (fun h => (List.mem_append.mp h).elim (fun h => lwi_wsL_law0_r55 w h) (fun h => (List.mem_append.mp h).elim (fun h => lwi_wsL_law0_r56 w h) (fun h => (List.mem_append.mp h).elim (fun h => lwi_wsL_law0_r57 w h) (fun h => (List.mem_append.mp h).elim (fun h => lwi_wsL_law0_r58 w h) (fun h => (List.mem_append.mp h).elim (fun h => lwi_wsL_law0_r59 w h) (fun h => (List.mem_append.mp h).elim (fun h => lwi_wsL_law0_r60 w h) (fun h => (List.mem_append.mp h).elim (fun h => lwi_wsL_law0_r61 w h) (fun h => (List.mem_append.mp h).elim (fun h => lwi_wsL_law0_r62 w h) (fun h => (List.mem_append.mp h).elim (fun h => lwi_wsL_law0_r63 w h) (fun h => (List.mem_append.mp h).elim (fun h => lwi_wsL_law0_r64 w h) (fun h => (List.mem_append.mp h).elim (fun h => lwi_wsL_law0_r65 w h) (fun h => (List.mem_append.mp h).elim (fun h => lwi_wsL_law0_r66 w h) (fun h => (List.mem_append.mp h).elim (fun h => lwi_wsL_law0_r67 w h) (fun h => (List.mem_append.mp h).elim (fun h => lwi_wsL_law0_r68 w h) (fun h => (List.mem_append.mp h).elim (fun h => lwi_wsL_law0_r69 w h) (fun h => (List.mem_append.mp h).elim (fun h => lwi_wsL_law0_r70 w h) (fun h => (List.mem_append.mp h).elim (fun h => lwi_wsL_law0_r71 w h) (fun h => (List.mem_append.mp h).elim (fun h => lwi_wsL_law0_r72 w h) (fun h => (List.mem_append.mp h).elim (fun h => lwi_wsL_law0_r73 w h) (fun h => (List.mem_append.mp h).elim (fun h => lwi_wsL_law0_r74 w h) (fun h => lwi_wsL_law0_r75 w h))))))))))))))))))))))))))))))))))))))))))))))))))))))))))))))))))))))))))) (fun h => lwi_wsX110 w h)) (fun h => lwi_wsX180 w h)) (fun h => lwi_wsX100 w h)) (fun h => lwi_wsX70 w h)) (fun h => lwi_wsX80 w h)) (fun h => lwi_wsX40 w h)) (fun h => lwi_wsX00 w h)) (fun h => lwi_wsX90 w h)) (fun h => lwi_wsJ40 w h)) (fun h => lwi_wsJx000600 w h)) (fun h => lwi_wsJx4a65c0 w h)) (fun h => lwi_wsX60 w h)) (fun h => lwi_wsX30 w h)) (fun h => lwi_wsX50 w h)) (fun h => lwi_wsX10 w h)) (fun h => lwi_wsX20 w h)) (fun h => lwi_wsX140 w h)) (fun h => lwi_wsX130 w h)) (fun h => lwi_wsX170 w h)) (fun h => lwi_wsX160 w h)) (fun h => lwi_wsX150 w h)) (fun h => lwi_wsX120 w h)) (fun h => absurd h (by simp)))
set_option maxRecDepth 20000 in
theorem wsL_law_x0 : ∀ w ∈ (vx_atM "java/lang/ArrayIndexOutOfBoundsException" ["java/lang/IndexOutOfBoundsException", "java/lang/RuntimeException", "java/lang/Exception"]).filter goodWord, w ∈ lw_tbl := o_idx [(1, 7), (1, 126), (1, 135), (1, 143), (1, 146), (1, 148), (1, 127), (1, 128), (1, 52), (1, 53), (1, 129), (1, 134), (1, 144), (2, 132), (1, 116), (2, 133), (1, 118), (2, 134), (1, 120), (1, 130), (1, 132), (1, 122), (2, 128), (2, 129), (2, 131), (1, 122), (4, 8), (4, 9), (2, 187), (2, 188), (2, 188), (2, 189), (2, 190), (2, 122), (2, 122), (2, 123), (2, 124), (2, 125), (2, 125), (2, 126), (2, 127), (2, 128), (1, 13), (2, 86), (1, 180), (2, 158), (2, 160), (2, 159), (2, 161), (1, 21), (2, 168), (2, 172), (1, 138), (2, 173), (2, 174), (2, 175), (2, 176), (1, 125), (1, 124), (2, 177)] rfl
set_option maxRecDepth 20000 in
theorem wsL_law_x1 : ∀ w ∈ (vx_at0 RX11 69 "java/lang/IllegalStateException" ["java/lang/RuntimeException", "java/lang/Exception"]).filter goodWord, w ∈ lw_tbl := o_idx [(1, 7), (1, 126), (1, 135), (1, 143), (1, 146), (1, 148), (1, 127), (1, 128), (1, 52), (1, 53), (1, 129), (1, 134), (1, 144), (2, 132), (1, 116), (2, 133), (1, 118), (2, 134), (1, 120), (1, 130), (1, 132), (1, 122), (3, 229), (3, 230), (3, 231), (3, 232), (3, 232), (3, 233), (3, 234), (3, 235), (3, 235), (3, 236), (3, 237), (1, 127), (3, 228), (3, 220), (3, 222), (1, 139), (3, 223), (3, 224), (3, 225), (3, 226), (1, 125), (1, 124), (3, 227)] rfl
set_option maxRecDepth 20000 in
theorem wsL_law_x2 : ∀ w ∈ (vx_at0 RX11 82 "java/lang/IndexOutOfBoundsException" ["java/lang/RuntimeException", "java/lang/Exception"]).filter goodWord, w ∈ lw_tbl := o_idx [(1, 7), (1, 126), (1, 135), (1, 143), (1, 146), (1, 148), (1, 127), (1, 128), (1, 52), (1, 53), (1, 129), (1, 134), (1, 144), (2, 132), (1, 116), (2, 133), (1, 118), (2, 134), (1, 120), (1, 130), (1, 132), (1, 122), (4, 33), (4, 34), (4, 35), (3, 232), (3, 232), (3, 233), (3, 234), (3, 235), (3, 235), (3, 236), (3, 237), (1, 127), (4, 32), (4, 24), (4, 26), (1, 140), (4, 27), (4, 28), (4, 29), (4, 30), (1, 125), (1, 124), (4, 31)] rfl
set_option maxRecDepth 20000 in
theorem wsL_law_x3 : ∀ w ∈ (vx_at0 RX11 85 "java/lang/IllegalArgumentException" ["java/lang/RuntimeException", "java/lang/Exception"]).filter goodWord, w ∈ lw_tbl := o_idx [(1, 7), (1, 126), (1, 135), (1, 143), (1, 146), (1, 148), (1, 127), (1, 128), (1, 52), (1, 53), (1, 129), (1, 134), (1, 144), (2, 132), (1, 116), (2, 133), (1, 118), (2, 134), (1, 120), (1, 130), (1, 132), (1, 122), (4, 40), (4, 41), (4, 42), (3, 232), (3, 232), (3, 233), (3, 234), (3, 235), (3, 235), (3, 236), (3, 237), (1, 127), (4, 39), (1, 105), (1, 113), (1, 114), (1, 115), (1, 117), (1, 119), (1, 121), (1, 125), (1, 124), (1, 123)] rfl
set_option maxRecDepth 20000 in
theorem wsL_law_x4 : ∀ w ∈ (vx_at0 RX11 119 "java/util/NoSuchElementException" ["java/lang/RuntimeException", "java/lang/Exception"]).filter goodWord, w ∈ lw_tbl := o_idx [(1, 7), (1, 126), (1, 135), (1, 143), (1, 146), (1, 148), (1, 127), (1, 128), (1, 52), (1, 53), (1, 129), (1, 134), (1, 144), (2, 132), (1, 116), (2, 133), (1, 118), (2, 134), (1, 120), (1, 130), (1, 132), (1, 122), (4, 146), (4, 147), (4, 148), (3, 232), (3, 232), (3, 233), (3, 234), (3, 235), (3, 235), (3, 236), (3, 237), (1, 127), (4, 145), (4, 137), (4, 139), (1, 142), (4, 140), (4, 141), (4, 142), (4, 143), (1, 125), (1, 124), (4, 144)] rfl
set_option maxRecDepth 20000 in
theorem wsL_law_x5 : ∀ w ∈ (vx_at0 RX11 257 "java/lang/UnsupportedOperationException" ["java/lang/RuntimeException", "java/lang/Exception"]).filter goodWord, w ∈ lw_tbl := o_idx [(1, 7), (1, 126), (1, 135), (1, 143), (1, 146), (1, 148), (1, 127), (1, 128), (1, 52), (1, 53), (1, 129), (1, 134), (1, 144), (2, 132), (1, 116), (2, 133), (1, 118), (2, 134), (1, 120), (1, 130), (1, 132), (1, 122), (8, 24), (8, 25), (8, 26), (3, 232), (3, 232), (3, 233), (3, 234), (3, 235), (3, 235), (3, 236), (3, 237), (1, 127), (8, 23), (8, 15), (8, 17), (1, 141), (8, 18), (8, 19), (8, 20), (8, 21), (1, 125), (1, 124), (8, 22)] rfl
set_option maxRecDepth 20000 in
theorem wsL_law_x6 : ∀ w ∈ (vx_at0 RX11 320 "java/lang/ArithmeticException" ["java/lang/RuntimeException", "java/lang/Exception"]).filter goodWord, w ∈ lw_tbl := o_idx [(1, 7), (1, 126), (1, 135), (1, 143), (1, 146), (1, 148), (1, 127), (1, 128), (1, 52), (1, 53), (1, 129), (1, 134), (1, 144), (2, 132), (1, 116), (2, 133), (1, 118), (2, 134), (1, 120), (1, 130), (1, 132), (1, 122), (9, 50), (9, 51), (9, 52), (3, 232), (3, 232), (3, 233), (3, 234), (3, 235), (3, 235), (3, 236), (3, 237), (1, 127), (9, 49), (9, 27), (9, 39), (1, 137), (9, 33), (9, 34), (9, 36), (9, 32), (1, 125), (1, 124), (9, 31)] rfl
theorem wsL_law_in : ∀ w ∈ wsL_law, w ∈ lw_tbl := fun w h => (List.mem_append.mp h).elim (fun h => (List.mem_append.mp h).elim (fun h => (List.mem_append.mp h).elim (fun h => (List.mem_append.mp h).elim (fun h => (List.mem_append.mp h).elim (fun h => (List.mem_append.mp h).elim (fun h => (List.mem_append.mp h).elim (fun h => wsL_law_in0 w h) (fun h => wsL_law_x0 w h)) (fun h => wsL_law_x1 w h)) (fun h => wsL_law_x2 w h)) (fun h => wsL_law_x3 w h)) (fun h => wsL_law_x4 w h)) (fun h => wsL_law_x5 w h)) (fun h => wsL_law_x6 w h)
theorem inlX0 : ∀ w ∈ wsX00, w ∈ wsL_law := fun _ h => List.mem_append_left _ (List.mem_append_left _ (List.mem_append_left _ (List.mem_append_left _ (List.mem_append_left _ (List.mem_append_left _ (List.mem_append_left _ (List.mem_append_left _ (List.mem_append_left _ (List.mem_append_left _ (List.mem_append_left _ (List.mem_append_left _ (List.mem_append_left _ (List.mem_append_left _ (List.mem_append_left _ (List.mem_append_left _ (List.mem_append_left _ (List.mem_append_left _ (List.mem_append_left _ (List.mem_append_left _ (List.mem_append_left _ (List.mem_append_left _ (List.mem_append_left _ (List.mem_append_right _ h)))))))))))))))))))))))
theorem inX0 : ∀ w ∈ wsX00, w ∈ lw_tbl := fun w h => wsL_law_in w (inlX0 w h)
theorem inlX1 : ∀ w ∈ wsX10, w ∈ wsL_law := fun _ h => List.mem_append_left _ (List.mem_append_left _ (List.mem_append_left _ (List.mem_append_left _ (List.mem_append_left _ (List.mem_append_left _ (List.mem_append_left _ (List.mem_append_left _ (List.mem_append_left _ (List.mem_append_left _ (List.mem_append_left _ (List.mem_append_left _ (List.mem_append_left _ (List.mem_append_left _ (List.mem_append_left _ (List.mem_append_right _ h)))))))))))))))
theorem inX1 : ∀ w ∈ wsX10, w ∈ lw_tbl := fun w h => wsL_law_in w (inlX1 w h)
theorem inlX2 : ∀ w ∈ wsX20, w ∈ wsL_law := fun _ h => List.mem_append_left _ (List.mem_append_left _ (List.mem_append_left _ (List.mem_append_left _ (List.mem_append_left _ (List.mem_append_left _ (List.mem_append_left _ (List.mem_append_left _ (List.mem_append_left _ (List.mem_append_left _ (List.mem_append_left _ (List.mem_append_left _ (List.mem_append_left _ (List.mem_append_left _ (List.mem_append_right _ h))))))))))))))
theorem inX2 : ∀ w ∈ wsX20, w ∈ lw_tbl := fun w h => wsL_law_in w (inlX2 w h)
theorem inlX3 : ∀ w ∈ wsX30, w ∈ wsL_law := fun _ h => List.mem_append_left _ (List.mem_append_left _ (List.mem_append_left _ (List.mem_append_left _ (List.mem_append_left _ (List.mem_append_left _ (List.mem_append_left _ (List.mem_append_left _ (List.mem_append_left _ (List.mem_append_left _ (List.mem_append_left _ (List.mem_append_left _ (List.mem_append_left _ (List.mem_append_left _ (List.mem_append_left _ (List.mem_append_left _ (List.mem_append_left _ (List.mem_append_right _ h)))))))))))))))))
theorem inX3 : ∀ w ∈ wsX30, w ∈ lw_tbl := fun w h => wsL_law_in w (inlX3 w h)
theorem inlX4 : ∀ w ∈ wsX40, w ∈ wsL_law := fun _ h => List.mem_append_left _ (List.mem_append_left _ (List.mem_append_left _ (List.mem_append_left _ (List.mem_append_left _ (List.mem_append_left _ (List.mem_append_left _ (List.mem_append_left _ (List.mem_append_left _ (List.mem_append_left _ (List.mem_append_left _ (List.mem_append_left _ (List.mem_append_left _ (List.mem_append_left _ (List.mem_append_left _ (List.mem_append_left _ (List.mem_append_left _ (List.mem_append_left _ (List.mem_append_left _ (List.mem_append_left _ (List.mem_append_left _ (List.mem_append_left _ (List.mem_append_left _ (List.mem_append_left _ (List.mem_append_right _ h))))))))))))))))))))))))
theorem inX4 : ∀ w ∈ wsX40, w ∈ lw_tbl := fun w h => wsL_law_in w (inlX4 w h)
theorem inlX5 : ∀ w ∈ wsX50, w ∈ wsL_law := fun _ h => List.mem_append_left _ (List.mem_append_left _ (List.mem_append_left _ (List.mem_append_left _ (List.mem_append_left _ (List.mem_append_left _ (List.mem_append_left _ (List.mem_append_left _ (List.mem_append_left _ (List.mem_append_left _ (List.mem_append_left _ (List.mem_append_left _ (List.mem_append_left _ (List.mem_append_left _ (List.mem_append_left _ (List.mem_append_left _ (List.mem_append_right _ h))))))))))))))))
theorem inX5 : ∀ w ∈ wsX50, w ∈ lw_tbl := fun w h => wsL_law_in w (inlX5 w h)
theorem inlX6 : ∀ w ∈ wsX60, w ∈ wsL_law := fun _ h => List.mem_append_left _ (List.mem_append_left _ (List.mem_append_left _ (List.mem_append_left _ (List.mem_append_left _ (List.mem_append_left _ (List.mem_append_left _ (List.mem_append_left _ (List.mem_append_left _ (List.mem_append_left _ (List.mem_append_left _ (List.mem_append_left _ (List.mem_append_left _ (List.mem_append_left _ (List.mem_append_left _ (List.mem_append_left _ (List.mem_append_left _ (List.mem_append_left _ (List.mem_append_right _ h))))))))))))))))))
theorem inX6 : ∀ w ∈ wsX60, w ∈ lw_tbl := fun w h => wsL_law_in w (inlX6 w h)
theorem inlX7 : ∀ w ∈ wsX70, w ∈ wsL_law := fun _ h => List.mem_append_left _ (List.mem_append_left _ (List.mem_append_left _ (List.mem_append_left _ (List.mem_append_left _ (List.mem_append_left _ (List.mem_append_left _ (List.mem_append_left _ (List.mem_append_left _ (List.mem_append_left _ (List.mem_append_left _ (List.mem_append_left _ (List.mem_append_left _ (List.mem_append_left _ (List.mem_append_left _ (List.mem_append_left _ (List.mem_append_left _ (List.mem_append_left _ (List.mem_append_left _ (List.mem_append_left _ (List.mem_append_left _ (List.mem_append_left _ (List.mem_append_left _ (List.mem_append_left _ (List.mem_append_left _ (List.mem_append_left _ (List.mem_append_right _ h))))))))))))))))))))))))))
theorem inX7 : ∀ w ∈ wsX70, w ∈ lw_tbl := fun w h => wsL_law_in w (inlX7 w h)
theorem inlX8 : ∀ w ∈ wsX80, w ∈ wsL_law := fun _ h => List.mem_append_left _ (List.mem_append_left _ (List.mem_append_left _ (List.mem_append_left _ (List.mem_append_left _ (List.mem_append_left _ (List.mem_append_left _ (List.mem_append_left _ (List.mem_append_left _ (List.mem_append_left _ (List.mem_append_left _ (List.mem_append_left _ (List.mem_append_left _ (List.mem_append_left _ (List.mem_append_left _ (List.mem_append_left _ (List.mem_append_left _ (List.mem_append_left _ (List.mem_append_left _ (List.mem_append_left _ (List.mem_append_left _ (List.mem_append_left _ (List.mem_append_left _ (List.mem_append_left _ (List.mem_append_left _ (List.mem_append_right _ h)))))))))))))))))))))))))
theorem inX8 : ∀ w ∈ wsX80, w ∈ lw_tbl := fun w h => wsL_law_in w (inlX8 w h)
theorem inlX9 : ∀ w ∈ wsX90, w ∈ wsL_law := fun _ h => List.mem_append_left _ (List.mem_append_left _ (List.mem_append_left _ (List.mem_append_left _ (List.mem_append_left _ (List.mem_append_left _ (List.mem_append_left _ (List.mem_append_left _ (List.mem_append_left _ (List.mem_append_left _ (List.mem_append_left _ (List.mem_append_left _ (List.mem_append_left _ (List.mem_append_left _ (List.mem_append_left _ (List.mem_append_left _ (List.mem_append_left _ (List.mem_append_left _ (List.mem_append_left _ (List.mem_append_left _ (List.mem_append_left _ (List.mem_append_left _ (List.mem_append_right _ h))))))))))))))))))))))
theorem inX9 : ∀ w ∈ wsX90, w ∈ lw_tbl := fun w h => wsL_law_in w (inlX9 w h)
theorem inlX10 : ∀ w ∈ wsX100, w ∈ wsL_law := fun _ h => List.mem_append_left _ (List.mem_append_left _ (List.mem_append_left _ (List.mem_append_left _ (List.mem_append_left _ (List.mem_append_left _ (List.mem_append_left _ (List.mem_append_left _ (List.mem_append_left _ (List.mem_append_left _ (List.mem_append_left _ (List.mem_append_left _ (List.mem_append_left _ (List.mem_append_left _ (List.mem_append_left _ (List.mem_append_left _ (List.mem_append_left _ (List.mem_append_left _ (List.mem_append_left _ (List.mem_append_left _ (List.mem_append_left _ (List.mem_append_left _ (List.mem_append_left _ (List.mem_append_left _ (List.mem_append_left _ (List.mem_append_left _ (List.mem_append_left _ (List.mem_append_right _ h)))))))))))))))))))))))))))
theorem inX10 : ∀ w ∈ wsX100, w ∈ lw_tbl := fun w h => wsL_law_in w (inlX10 w h)
theorem inlX11 : ∀ w ∈ wsX110, w ∈ wsL_law := fun _ h => List.mem_append_left _ (List.mem_append_left _ (List.mem_append_left _ (List.mem_append_left _ (List.mem_append_left _ (List.mem_append_left _ (List.mem_append_left _ (List.mem_append_left _ (List.mem_append_left _ (List.mem_append_left _ (List.mem_append_left _ (List.mem_append_left _ (List.mem_append_left _ (List.mem_append_left _ (List.mem_append_left _ (List.mem_append_left _ (List.mem_append_left _ (List.mem_append_left _ (List.mem_append_left _ (List.mem_append_left _ (List.mem_append_left _ (List.mem_append_left _ (List.mem_append_left _ (List.mem_append_left _ (List.mem_append_left _ (List.mem_append_left _ (List.mem_append_left _ (List.mem_append_left _ (List.mem_append_left _ (List.mem_append_right _ h)))))))))))))))))))))))))))))
theorem inX11 : ∀ w ∈ wsX110, w ∈ lw_tbl := fun w h => wsL_law_in w (inlX11 w h)
theorem inlX12 : ∀ w ∈ wsX120, w ∈ wsL_law := fun _ h => List.mem_append_left _ (List.mem_append_left _ (List.mem_append_left _ (List.mem_append_left _ (List.mem_append_left _ (List.mem_append_left _ (List.mem_append_left _ (List.mem_append_left _ (List.mem_append_right _ h))))))))
theorem inX12 : ∀ w ∈ wsX120, w ∈ lw_tbl := fun w h => wsL_law_in w (inlX12 w h)
theorem inlX13 : ∀ w ∈ wsX130, w ∈ wsL_law := fun _ h => List.mem_append_left _ (List.mem_append_left _ (List.mem_append_left _ (List.mem_append_left _ (List.mem_append_left _ (List.mem_append_left _ (List.mem_append_left _ (List.mem_append_left _ (List.mem_append_left _ (List.mem_append_left _ (List.mem_append_left _ (List.mem_append_left _ (List.mem_append_right _ h))))))))))))
theorem inX13 : ∀ w ∈ wsX130, w ∈ lw_tbl := fun w h => wsL_law_in w (inlX13 w h)
theorem inlX14 : ∀ w ∈ wsX140, w ∈ wsL_law := fun _ h => List.mem_append_left _ (List.mem_append_left _ (List.mem_append_left _ (List.mem_append_left _ (List.mem_append_left _ (List.mem_append_left _ (List.mem_append_left _ (List.mem_append_left _ (List.mem_append_left _ (List.mem_append_left _ (List.mem_append_left _ (List.mem_append_left _ (List.mem_append_left _ (List.mem_append_right _ h)))))))))))))
theorem inX14 : ∀ w ∈ wsX140, w ∈ lw_tbl := fun w h => wsL_law_in w (inlX14 w h)
theorem inlX15 : ∀ w ∈ wsX150, w ∈ wsL_law := fun _ h => List.mem_append_left _ (List.mem_append_left _ (List.mem_append_left _ (List.mem_append_left _ (List.mem_append_left _ (List.mem_append_left _ (List.mem_append_left _ (List.mem_append_left _ (List.mem_append_left _ (List.mem_append_right _ h)))))))))
theorem inX15 : ∀ w ∈ wsX150, w ∈ lw_tbl := fun w h => wsL_law_in w (inlX15 w h)
theorem inlX16 : ∀ w ∈ wsX160, w ∈ wsL_law := fun _ h => List.mem_append_left _ (List.mem_append_left _ (List.mem_append_left _ (List.mem_append_left _ (List.mem_append_left _ (List.mem_append_left _ (List.mem_append_left _ (List.mem_append_left _ (List.mem_append_left _ (List.mem_append_left _ (List.mem_append_right _ h))))))))))
theorem inX16 : ∀ w ∈ wsX160, w ∈ lw_tbl := fun w h => wsL_law_in w (inlX16 w h)
theorem inlX17 : ∀ w ∈ wsX170, w ∈ wsL_law := fun _ h => List.mem_append_left _ (List.mem_append_left _ (List.mem_append_left _ (List.mem_append_left _ (List.mem_append_left _ (List.mem_append_left _ (List.mem_append_left _ (List.mem_append_left _ (List.mem_append_left _ (List.mem_append_left _ (List.mem_append_left _ (List.mem_append_right _ h)))))))))))
theorem inX17 : ∀ w ∈ wsX170, w ∈ lw_tbl := fun w h => wsL_law_in w (inlX17 w h)
theorem inlX18 : ∀ w ∈ wsX180, w ∈ wsL_law := fun _ h => List.mem_append_left _ (List.mem_append_left _ (List.mem_append_left _ (List.mem_append_left _ (List.mem_append_left _ (List.mem_append_left _ (List.mem_append_left _ (List.mem_append_left _ (List.mem_append_left _ (List.mem_append_left _ (List.mem_append_left _ (List.mem_append_left _ (List.mem_append_left _ (List.mem_append_left _ (List.mem_append_left _ (List.mem_append_left _ (List.mem_append_left _ (List.mem_append_left _ (List.mem_append_left _ (List.mem_append_left _ (List.mem_append_left _ (List.mem_append_left _ (List.mem_append_left _ (List.mem_append_left _ (List.mem_append_left _ (List.mem_append_left _ (List.mem_append_left _ (List.mem_append_left _ (List.mem_append_right _ h))))))))))))))))))))))))))))
theorem inX18 : ∀ w ∈ wsX180, w ∈ lw_tbl := fun w h => wsL_law_in w (inlX18 w h)
theorem inlJx00060 : ∀ w ∈ wsJx000600, w ∈ wsL_law := fun _ h => List.mem_append_left _ (List.mem_append_left _ (List.mem_append_left _ (List.mem_append_left _ (List.mem_append_left _ (List.mem_append_left _ (List.mem_append_left _ (List.mem_append_left _ (List.mem_append_left _ (List.mem_append_left _ (List.mem_append_left _ (List.mem_append_left _ (List.mem_append_left _ (List.mem_append_left _ (List.mem_append_left _ (List.mem_append_left _ (List.mem_append_left _ (List.mem_append_left _ (List.mem_append_left _ (List.mem_append_left _ (List.mem_append_right _ h))))))))))))))))))))
theorem inJx00060 : ∀ w ∈ wsJx000600, w ∈ lw_tbl := fun w h => wsL_law_in w (inlJx00060 w h)
theorem inJ0 : ∀ w ∈ wsJ00, w ∈ lw_tbl := by decide +kernel
theorem inlJ4 : ∀ w ∈ wsJ40, w ∈ wsL_law := fun _ h => List.mem_append_left _ (List.mem_append_left _ (List.mem_append_left _ (List.mem_append_left _ (List.mem_append_left _ (List.mem_append_left _ (List.mem_append_left _ (List.mem_append_left _ (List.mem_append_left _ (List.mem_append_left _ (List.mem_append_left _ (List.mem_append_left _ (List.mem_append_left _ (List.mem_append_left _ (List.mem_append_left _ (List.mem_append_left _ (List.mem_append_left _ (List.mem_append_left _ (List.mem_append_left _ (List.mem_append_left _ (List.mem_append_left _ (List.mem_append_right _ h)))))))))))))))))))))
theorem inJ4 : ∀ w ∈ wsJ40, w ∈ lw_tbl := fun w h => wsL_law_in w (inlJ4 w h)
theorem inlJx4a65c : ∀ w ∈ wsJx4a65c0, w ∈ wsL_law := fun _ h => List.mem_append_left _ (List.mem_append_left _ (List.mem_append_left _ (List.mem_append_left _ (List.mem_append_left _ (List.mem_append_left _ (List.mem_append_left _ (List.mem_append_left _ (List.mem_append_left _ (List.mem_append_left _ (List.mem_append_left _ (List.mem_append_left _ (List.mem_append_left _ (List.mem_append_left _ (List.mem_append_left _ (List.mem_append_left _ (List.mem_append_left _ (List.mem_append_left _ (List.mem_append_left _ (List.mem_append_right _ h)))))))))))))))))))
theorem inJx4a65c : ∀ w ∈ wsJx4a65c0, w ∈ lw_tbl := fun w h => wsL_law_in w (inlJx4a65c w h)
set_option maxRecDepth 20000 in
theorem ggX0_init_X9_init : GoodIn wsX0_init wsX9_init := goodIn_r _ [19, 20, 2, 3, 21, 22, 23, 24, 25, 41, 42, 43] (by decide +kernel) (by decide +kernel)
set_option maxRecDepth 20000 in
theorem gX0_init_X9_init : GoodIn wsX0_init (wsX9_init) := ggX0_init_X9_init
theorem dX0_init_0 : decode cX0_init 0 = .ok (.aload_n 0, 1) := by decide +kernel
theorem dX0_init_1 : decode cX0_init 1 = .ok (.invokespecial 3, 3) := by decide +kernel
theorem dX0_init_4 : decode cX0_init 4 = .ok (.aload_n 0, 1) := by decide +kernel
theorem dX0_init_5 : decode cX0_init 5 = .ok (.aload_n 1, 1) := by decide +kernel
theorem dX0_init_6 : decode cX0_init 6 = .ok (.putfield 9, 3) := by decide +kernel
theorem dX0_init_9 : decode cX0_init 9 = .ok (.aload_n 0, 1) := by decide +kernel
theorem dX0_init_10 : decode cX0_init 10 = .ok (.aload_n 2, 1) := by decide +kernel
theorem dX0_init_11 : decode cX0_init 11 = .ok (.putfield 15, 3) := by decide +kernel
theorem dX0_init_14 : decode cX0_init 14 = .ok (.aload_n 0, 1) := by decide +kernel
theorem dX0_init_15 : decode cX0_init 15 = .ok (.new 19, 3) := by decide +kernel
theorem dX0_init_18 : decode cX0_init 18 = .ok (.dup, 1) := by decide +kernel
theorem dX0_init_19 : decode cX0_init 19 = .ok (.iconst 5, 1) := by decide +kernel
theorem dX0_init_20 : decode cX0_init 20 = .ok (.bipush 64, 2) := by decide +kernel
theorem dX0_init_22 : decode cX0_init 22 = .ok (.invokespecial 21, 3) := by decide +kernel
theorem dX0_init_25 : decode cX0_init 25 = .ok (.putfield 24, 3) := by decide +kernel
theorem dX0_init_28 : decode cX0_init 28 = .ok (.aload_n 0, 1) := by decide +kernel
theorem dX0_init_29 : decode cX0_init 29 = .ok (.new 19, 3) := by decide +kernel
theorem dX0_init_32 : decode cX0_init 32 = .ok (.dup, 1) := by decide +kernel
theorem dX0_init_33 : decode cX0_init 33 = .ok (.iconst 1, 1) := by decide +kernel
theorem dX0_init_34 : decode cX0_init 34 = .ok (.bipush 64, 2) := by decide +kernel
theorem dX0_init_36 : decode cX0_init 36 = .ok (.invokespecial 21, 3) := by decide +kernel
theorem dX0_init_39 : decode cX0_init 39 = .ok (.putfield 28, 3) := by decide +kernel
theorem dX0_init_42 : decode cX0_init 42 = .ok (.aload_n 0, 1) := by decide +kernel
theorem dX0_init_43 : decode cX0_init 43 = .ok (.new 19, 3) := by decide +kernel
theorem dX0_init_46 : decode cX0_init 46 = .ok (.dup, 1) := by decide +kernel
theorem dX0_init_47 : decode cX0_init 47 = .ok (.iconst 3, 1) := by decide +kernel
theorem dX0_init_48 : decode cX0_init 48 = .ok (.bipush 64, 2) := by decide +kernel
theorem dX0_init_50 : decode cX0_init 50 = .ok (.invokespecial 21, 3) := by decide +kernel
theorem dX0_init_53 : decode cX0_init 53 = .ok (.putfield 31, 3) := by decide +kernel
theorem dX0_init_56 : decode cX0_init 56 = .ok (.aload_n 0, 1) := by decide +kernel
theorem dX0_init_57 : decode cX0_init 57 = .ok (.new 19, 3) := by decide +kernel
theorem dX0_init_60 : decode cX0_init 60 = .ok (.dup, 1) := by decide +kernel
theorem dX0_init_61 : decode cX0_init 61 = .ok (.iconst 4, 1) := by decide +kernel
theorem dX0_init_62 : decode cX0_init 62 = .ok (.bipush 64, 2) := by decide +kernel
theorem dX0_init_64 : decode cX0_init 64 = .ok (.invokespecial 21, 3) := by decide +kernel
theorem dX0_init_67 : decode cX0_init 67 = .ok (.putfield 34, 3) := by decide +kernel
theorem dX0_init_70 : decode cX0_init 70 = .ok (.aload_n 0, 1) := by decide +kernel
theorem dX0_init_71 : decode cX0_init 71 = .ok (.new 19, 3) := by decide +kernel
theorem dX0_init_74 : decode cX0_init 74 = .ok (.dup, 1) := by decide +kernel
theorem dX0_init_75 : decode cX0_init 75 = .ok (.bipush 6, 2) := by decide +kernel
theorem dX0_init_77 : decode cX0_init 77 = .ok (.bipush 64, 2) := by decide +kernel
theorem dX0_init_79 : decode cX0_init 79 = .ok (.invokespecial 21, 3) := by decide +kernel
theorem dX0_init_82 : decode cX0_init 82 = .ok (.putfield 37, 3) := by decide +kernel
theorem dX0_init_85 : decode cX0_init 85 = .ok (.aload_n 0, 1) := by decide +kernel
theorem dX0_init_86 : decode cX0_init 86 = .ok (.new 19, 3) := by decide +kernel
theorem dX0_init_89 : decode cX0_init 89 = .ok (.dup, 1) := by decide +kernel
theorem dX0_init_90 : decode cX0_init 90 = .ok (.iconst 2, 1) := by decide +kernel
theorem dX0_init_91 : decode cX0_init 91 = .ok (.bipush 64, 2) := by decide +kernel
theorem dX0_init_93 : decode cX0_init 93 = .ok (.invokespecial 21, 3) := by decide +kernel
theorem dX0_init_96 : decode cX0_init 96 = .ok (.putfield 40, 3) := by decide +kernel
theorem dX0_init_99 : decode cX0_init 99 = .ok (.aload_n 0, 1) := by decide +kernel
theorem dX0_init_100 : decode cX0_init 100 = .ok (.new 19, 3) := by decide +kernel
theorem dX0_init_103 : decode cX0_init 103 = .ok (.dup, 1) := by decide +kernel
theorem dX0_init_104 : decode cX0_init 104 = .ok (.iconst 4, 1) := by decide +kernel
theorem dX0_init_105 : decode cX0_init 105 = .ok (.bipush 8, 2) := by decide +kernel
theorem dX0_init_107 : decode cX0_init 107 = .ok (.invokespecial 21, 3) := by decide +kernel
theorem dX0_init_110 : decode cX0_init 110 = .ok (.putfield 43, 3) := by decide +kernel
theorem dX0_init_113 : decode cX0_init 113 = .ok (.aload_n 0, 1) := by decide +kernel
theorem dX0_init_114 : decode cX0_init 114 = .ok (.new 19, 3) := by decide +kernel
theorem dX0_init_117 : decode cX0_init 117 = .ok (.dup, 1) := by decide +kernel
theorem dX0_init_118 : decode cX0_init 118 = .ok (.iconst 3, 1) := by decide +kernel
theorem dX0_init_119 : decode cX0_init 119 = .ok (.bipush 64, 2) := by decide +kernel
theorem dX0_init_121 : decode cX0_init 121 = .ok (.invokespecial 21, 3) := by decide +kernel
theorem dX0_init_124 : decode cX0_init 124 = .ok (.putfield 46, 3) := by decide +kernel
theorem dX0_init_127 : decode cX0_init 127 = .ok (.return_, 1) := by decide +kernel
theorem dX3_init_0 : decode cX3_init 0 = .ok (.aload_n 0, 1) := by decide +kernel
theorem dX3_init_1 : decode cX3_init 1 = .ok (.invokespecial 3, 3) := by decide +kernel
theorem dX3_init_4 : decode cX3_init 4 = .ok (.aload_n 0, 1) := by decide +kernel
theorem dX3_init_5 : decode cX3_init 5 = .ok (.iload_n 1, 1) := by decide +kernel
theorem dX3_init_6 : decode cX3_init 6 = .ok (.putfield 9, 3) := by decide +kernel
theorem dX3_init_9 : decode cX3_init 9 = .ok (.aload_n 0, 1) := by decide +kernel
theorem dX3_init_10 : decode cX3_init 10 = .ok (.iload_n 2, 1) := by decide +kernel
theorem dX3_init_11 : decode cX3_init 11 = .ok (.putfield 15, 3) := by decide +kernel
theorem dX3_init_14 : decode cX3_init 14 = .ok (.aload_n 0, 1) := by decide +kernel
theorem dX3_init_15 : decode cX3_init 15 = .ok (.iload_n 3, 1) := by decide +kernel
theorem dX3_init_16 : decode cX3_init 16 = .ok (.putfield 18, 3) := by decide +kernel
theorem dX3_init_19 : decode cX3_init 19 = .ok (.aload_n 0, 1) := by decide +kernel
theorem dX3_init_20 : decode cX3_init 20 = .ok (.iconst 3, 1) := by decide +kernel
theorem dX3_init_21 : decode cX3_init 21 = .ok (.newarray .int, 2) := by decide +kernel
theorem dX3_init_23 : decode cX3_init 23 = .ok (.dup, 1) := by decide +kernel
theorem dX3_init_24 : decode cX3_init 24 = .ok (.iconst 0, 1) := by decide +kernel
theorem dX3_init_25 : decode cX3_init 25 = .ok (.iload 4, 2) := by decide +kernel
theorem dX3_init_27 : decode cX3_init 27 = .ok (.iastore, 1) := by decide +kernel
theorem dX3_init_28 : decode cX3_init 28 = .ok (.dup, 1) := by decide +kernel
theorem dX3_init_29 : decode cX3_init 29 = .ok (.iconst 1, 1) := by decide +kernel
theorem dX3_init_30 : decode cX3_init 30 = .ok (.iload 5, 2) := by decide +kernel
theorem dX3_init_32 : decode cX3_init 32 = .ok (.iastore, 1) := by decide +kernel
theorem dX3_init_33 : decode cX3_init 33 = .ok (.dup, 1) := by decide +kernel
theorem dX3_init_34 : decode cX3_init 34 = .ok (.iconst 2, 1) := by decide +kernel
theorem dX3_init_35 : decode cX3_init 35 = .ok (.iload 6, 2) := by decide +kernel
theorem dX3_init_37 : decode cX3_init 37 = .ok (.iastore, 1) := by decide +kernel
theorem dX3_init_38 : decode cX3_init 38 = .ok (.putfield 21, 3) := by decide +kernel
theorem dX3_init_41 : decode cX3_init 41 = .ok (.return_, 1) := by decide +kernel
set_option maxRecDepth 20000 in
theorem ggX4_init_Jx4a65c_init_da8c8 : GoodIn wsX4_init wsJx4a65c_init_da8c8 := goodIn_r _ [17, 18, 19, 20, 21, 22, 23, 24, 25, 26, 27, 28, 29, 2, 3, 51, 52, 53] (by decide +kernel) (by decide +kernel)
set_option maxRecDepth 20000 in
theorem gX4_init_Jx4a65c_init_da8c8 : GoodIn wsX4_init (wsJx4a65c_init_da8c8) := ggX4_init_Jx4a65c_init_da8c8
set_option maxRecDepth 20000 in
theorem ggX4_init_X9_init : GoodIn wsX4_init wsX9_init := goodIn_r _ [32, 33, 2, 3, 34, 35, 36, 37, 38, 54, 55, 56] (by decide +kernel) (by decide +kernel)
set_option maxRecDepth 20000 in
theorem gX4_init_X9_init : GoodIn wsX4_init (wsX9_init) := ggX4_init_X9_init
theorem dX4_init_0 : decode cX4_init 0 = .ok (.aload_n 0, 1) := by decide +kernel
theorem dX4_init_1 : decode cX4_init 1 = .ok (.invokespecial 3, 3) := by decide +kernel
theorem dX4_init_4 : decode cX4_init 4 = .ok (.aload_n 0, 1) := by decide +kernel
theorem dX4_init_5 : decode cX4_init 5 = .ok (.aload_n 1, 1) := by decide +kernel
theorem dX4_init_6 : decode cX4_init 6 = .ok (.putfield 9, 3) := by decide +kernel
theorem dX4_init_9 : decode cX4_init 9 = .ok (.aload_n 0, 1) := by decide +kernel
theorem dX4_init_10 : decode cX4_init 10 = .ok (.aload_n 2, 1) := by decide +kernel
theorem dX4_init_11 : decode cX4_init 11 = .ok (.putfield 15, 3) := by decide +kernel
theorem dX4_init_14 : decode cX4_init 14 = .ok (.aload_n 0, 1) := by decide +kernel
theorem dX4_init_15 : decode cX4_init 15 = .ok (.new 19, 3) := by decide +kernel
theorem dX4_init_18 : decode cX4_init 18 = .ok (.dup, 1) := by decide +kernel
theorem dX4_init_19 : decode cX4_init 19 = .ok (.invokespecial 21, 3) := by decide +kernel
theorem dX4_init_22 : decode cX4_init 22 = .ok (.putfield 22, 3) := by decide +kernel
theorem dX4_init_25 : decode cX4_init 25 = .ok (.aload_n 0, 1) := by decide +kernel
theorem dX4_init_26 : decode cX4_init 26 = .ok (.new 26, 3) := by decide +kernel
theorem dX4_init_29 : decode cX4_init 29 = .ok (.dup, 1) := by decide +kernel
theorem dX4_init_30 : decode cX4_init 30 = .ok (.iconst 3, 1) := by decide +kernel
theorem dX4_init_31 : decode cX4_init 31 = .ok (.bipush 30, 2) := by decide +kernel
theorem dX4_init_33 : decode cX4_init 33 = .ok (.invokespecial 28, 3) := by decide +kernel
theorem dX4_init_36 : decode cX4_init 36 = .ok (.putfield 31, 3) := by decide +kernel
theorem dX4_init_39 : decode cX4_init 39 = .ok (.aload_n 0, 1) := by decide +kernel
theorem dX4_init_40 : decode cX4_init 40 = .ok (.new 26, 3) := by decide +kernel
theorem dX4_init_43 : decode cX4_init 43 = .ok (.dup, 1) := by decide +kernel
theorem dX4_init_44 : decode cX4_init 44 = .ok (.iconst 2, 1) := by decide +kernel
theorem dX4_init_45 : decode cX4_init 45 = .ok (.bipush 30, 2) := by decide +kernel
theorem dX4_init_47 : decode cX4_init 47 = .ok (.invokespecial 28, 3) := by decide +kernel
theorem dX4_init_50 : decode cX4_init 50 = .ok (.putfield 35, 3) := by decide +kernel
theorem dX4_init_53 : decode cX4_init 53 = .ok (.return_, 1) := by decide +kernel
set_option maxRecDepth 20000 in
theorem ggX6_init_X9_init : GoodIn wsX6_init wsX9_init := goodIn_r _ [20, 21, 2, 3, 22, 23, 24, 25, 26, 96, 97, 98] (by decide +kernel) (by decide +kernel)
set_option maxRecDepth 20000 in
theorem gX6_init_X9_init : GoodIn wsX6_init (wsX9_init) := ggX6_init_X9_init
set_option maxRecDepth 20000 in
theorem ggX6_init_Jx4a65c_init_da8c8 : GoodIn wsX6_init wsJx4a65c_init_da8c8 := goodIn_r _ [70, 71, 72, 73, 74, 75, 76, 77, 78, 79, 80, 81, 82, 2, 3, 99, 100, 101] (by decide +kernel) (by decide +kernel)
set_option maxRecDepth 20000 in
theorem gX6_init_Jx4a65c_init_da8c8 : GoodIn wsX6_init (wsJx4a65c_init_da8c8) := ggX6_init_Jx4a65c_init_da8c8
set_option maxRecDepth 20000 in
theorem ggX6_init_X3_init : GoodIn wsX6_init wsX3_init := goodIn_ca (goodIn_r _ [85, 86, 2, 3, 87, 88, 89, 24, 90, 102, 103, 104, 105] (by decide +kernel) (by decide +kernel)) (goodIn_sub (fun _ h => List.mem_cons_of_mem _ (List.mem_append_right _ h)) (by decide +kernel))
set_option maxRecDepth 20000 in
theorem gX6_init_X3_init : GoodIn wsX6_init (wsX3_init) := ggX6_init_X3_init
theorem dX6_init_0 : decode cX6_init 0 = .ok (.aload_n 0, 1) := by decide +kernel
theorem dX6_init_1 : decode cX6_init 1 = .ok (.invokespecial 3, 3) := by decide +kernel
theorem dX6_init_4 : decode cX6_init 4 = .ok (.aload_n 0, 1) := by decide +kernel
theorem dX6_init_5 : decode cX6_init 5 = .ok (.iload_n 1, 1) := by decide +kernel
theorem dX6_init_6 : decode cX6_init 6 = .ok (.putfield 9, 3) := by decide +kernel
theorem dX6_init_9 : decode cX6_init 9 = .ok (.iload_n 2, 1) := by decide +kernel
theorem dX6_init_10 : decode cX6_init 10 = .ok (.iconst (-1), 1) := by decide +kernel
theorem dX6_init_11 : decode cX6_init 11 = .ok (.if_icmp .ne 7, 3) := by decide +kernel
theorem dX6_init_14 : decode cX6_init 14 = .ok (.iconst 0, 1) := by decide +kernel
theorem dX6_init_15 : decode cX6_init 15 = .ok (.goto 23, 3) := by decide +kernel
theorem dX6_init_38 : decode cX6_init 38 = .ok (.istore 5, 2) := by decide +kernel
theorem dX6_init_40 : decode cX6_init 40 = .ok (.aload_n 0, 1) := by decide +kernel
theorem dX6_init_41 : decode cX6_init 41 = .ok (.new 15, 3) := by decide +kernel
theorem dX6_init_44 : decode cX6_init 44 = .ok (.dup, 1) := by decide +kernel
theorem dX6_init_45 : decode cX6_init 45 = .ok (.iconst 1, 1) := by decide +kernel
theorem dX6_init_46 : decode cX6_init 46 = .ok (.iconst 3, 1) := by decide +kernel
theorem dX6_init_47 : decode cX6_init 47 = .ok (.invokespecial 17, 3) := by decide +kernel
theorem dX6_init_50 : decode cX6_init 50 = .ok (.putfield 20, 3) := by decide +kernel
theorem dX6_init_53 : decode cX6_init 53 = .ok (.iconst 0, 1) := by decide +kernel
theorem dX6_init_54 : decode cX6_init 54 = .ok (.istore 6, 2) := by decide +kernel
theorem dX6_init_56 : decode cX6_init 56 = .ok (.iload 6, 2) := by decide +kernel
theorem dX6_init_58 : decode cX6_init 58 = .ok (.iload 5, 2) := by decide +kernel
theorem dX6_init_60 : decode cX6_init 60 = .ok (.if_icmp .ge 28, 3) := by decide +kernel
theorem dX6_init_88 : decode cX6_init 88 = .ok (.aload_n 0, 1) := by decide +kernel
theorem dX6_init_89 : decode cX6_init 89 = .ok (.new 32, 3) := by decide +kernel
theorem dX6_init_92 : decode cX6_init 92 = .ok (.dup, 1) := by decide +kernel
theorem dX6_init_93 : decode cX6_init 93 = .ok (.invokespecial 34, 3) := by decide +kernel
theorem dX6_init_96 : decode cX6_init 96 = .ok (.putfield 35, 3) := by decide +kernel
theorem dX6_init_99 : decode cX6_init 99 = .ok (.aload_n 0, 1) := by decide +kernel
theorem dX6_init_100 : decode cX6_init 100 = .ok (.new 32, 3) := by decide +kernel
theorem dX6_init_103 : decode cX6_init 103 = .ok (.dup, 1) := by decide +kernel
theorem dX6_init_104 : decode cX6_init 104 = .ok (.invokespecial 34, 3) := by decide +kernel
theorem dX6_init_107 : decode cX6_init 107 = .ok (.putfield 39, 3) := by decide +kernel
theorem dX6_init_110 : decode cX6_init 110 = .ok (.aload_n 0, 1) := by decide +kernel
theorem dX6_init_111 : decode cX6_init 111 = .ok (.new 42, 3) := by decide +kernel
theorem dX6_init_114 : decode cX6_init 114 = .ok (.dup, 1) := by decide +kernel
theorem dX6_init_115 : decode cX6_init 115 = .ok (.iconst 2, 1) := by decide +kernel
theorem dX6_init_116 : decode cX6_init 116 = .ok (.iload_n 1, 1) := by decide +kernel
theorem dX6_init_117 : decode cX6_init 117 = .ok (.iload 5, 2) := by decide +kernel
theorem dX6_init_119 : decode cX6_init 119 = .ok (.iconst 0, 1) := by decide +kernel
theorem dX6_init_120 : decode cX6_init 120 = .ok (.iconst 1, 1) := by decide +kernel
theorem dX6_init_121 : decode cX6_init 121 = .ok (.iconst 2, 1) := by decide +kernel
theorem dX6_init_122 : decode cX6_init 122 = .ok (.invokespecial 44, 3) := by decide +kernel
theorem dX6_init_125 : decode cX6_init 125 = .ok (.putfield 47, 3) := by decide +kernel
theorem dX6_init_128 : decode cX6_init 128 = .ok (.return_, 1) := by decide +kernel
set_option maxRecDepth 20000 in
theorem ggX7_init_Jx4a65c_init_da8c8 : GoodIn wsX7_init wsJx4a65c_init_da8c8 := goodIn_r _ [12, 13, 14, 15, 16, 17, 18, 19, 20, 21, 22, 23, 24, 2, 3, 25, 26, 27] (by decide +kernel) (by decide +kernel)
set_option maxRecDepth 20000 in
theorem gX7_init_Jx4a65c_init_da8c8 : GoodIn wsX7_init (wsJx4a65c_init_da8c8) := ggX7_init_Jx4a65c_init_da8c8
theorem dX7_init_0 : decode cX7_init 0 = .ok (.aload_n 0, 1) := by decide +kernel
theorem dX7_init_1 : decode cX7_init 1 = .ok (.invokespecial 3, 3) := by decide +kernel
theorem dX7_init_4 : decode cX7_init 4 = .ok (.aload_n 0, 1) := by decide +kernel
theorem dX7_init_5 : decode cX7_init 5 = .ok (.new 9, 3) := by decide +kernel
theorem dX7_init_8 : decode cX7_init 8 = .ok (.dup, 1) := by decide +kernel
theorem dX7_init_9 : decode cX7_init 9 = .ok (.invokespecial 11, 3) := by decide +kernel
theorem dX7_init_12 : decode cX7_init 12 = .ok (.putfield 12, 3) := by decide +kernel
theorem dX7_init_15 : decode cX7_init 15 = .ok (.aload_n 0, 1) := by decide +kernel
theorem dX7_init_16 : decode cX7_init 16 = .ok (.new 9, 3) := by decide +kernel
theorem dX7_init_19 : decode cX7_init 19 = .ok (.dup, 1) := by decide +kernel
theorem dX7_init_20 : decode cX7_init 20 = .ok (.invokespecial 11, 3) := by decide +kernel
theorem dX7_init_23 : decode cX7_init 23 = .ok (.putfield 18, 3) := by decide +kernel
theorem dX7_init_26 : decode cX7_init 26 = .ok (.aload_n 0, 1) := by decide +kernel
theorem dX7_init_27 : decode cX7_init 27 = .ok (.new 9, 3) := by decide +kernel
theorem dX7_init_30 : decode cX7_init 30 = .ok (.dup, 1) := by decide +kernel
theorem dX7_init_31 : decode cX7_init 31 = .ok (.invokespecial 11, 3) := by decide +kernel
theorem dX7_init_34 : decode cX7_init 34 = .ok (.putfield 21, 3) := by decide +kernel
theorem dX7_init_37 : decode cX7_init 37 = .ok (.return_, 1) := by decide +kernel
set_option maxRecDepth 20000 in
theorem ggX7_predicateCount_Jx4a65c_size_8abf5 : GoodIn wsX7_predicateCount wsJx4a65c_size_8abf5 := goodIn_r _ [6, 7, 11, 12, 13] (by decide +kernel) (by decide +kernel)
set_option maxRecDepth 20000 in
theorem gX7_predicateCount_Jx4a65c_size_8abf5 : GoodIn wsX7_predicateCount (wsV RX7 24 RJx4a65c yJx4a65c_size_8abf5 wsJx4a65c_size_8abf5) := goodIn_app (goodIn_of _ (by decide +kernel)) ggX7_predicateCount_Jx4a65c_size_8abf5
theorem dX7_predicateCount_0 : decode cX7_predicateCount 0 = .ok (.aload_n 0, 1) := by decide +kernel
theorem dX7_predicateCount_1 : decode cX7_predicateCount 1 = .ok (.getfield 12, 3) := by decide +kernel
theorem dX7_predicateCount_4 : decode cX7_predicateCount 4 = .ok (.invokevirtual 24, 3) := by decide +kernel
theorem dX7_predicateCount_7 : decode cX7_predicateCount 7 = .ok (.ireturn, 1) := by decide +kernel
set_option maxRecDepth 20000 in
theorem ggX7_predicateAt_Jx4a65c_size_8abf5 : GoodIn wsX7_predicateAt wsJx4a65c_size_8abf5 := goodIn_r _ [7, 8, 29, 30, 31] (by decide +kernel) (by decide +kernel)
set_option maxRecDepth 20000 in
theorem gX7_predicateAt_Jx4a65c_size_8abf5 : GoodIn wsX7_predicateAt (wsV RX7 24 RJx4a65c yJx4a65c_size_8abf5 wsJx4a65c_size_8abf5) := goodIn_app (goodIn_of _ (by decide +kernel)) ggX7_predicateAt_Jx4a65c_size_8abf5
theorem dX7_predicateAt_0 : decode cX7_predicateAt 0 = .ok (.iload_n 1, 1) := by decide +kernel
theorem dX7_predicateAt_1 : decode cX7_predicateAt 1 = .ok (.ifCond .lt 28, 3) := by decide +kernel
theorem dX7_predicateAt_4 : decode cX7_predicateAt 4 = .ok (.iload_n 1, 1) := by decide +kernel
theorem dX7_predicateAt_5 : decode cX7_predicateAt 5 = .ok (.aload_n 0, 1) := by decide +kernel
theorem dX7_predicateAt_6 : decode cX7_predicateAt 6 = .ok (.getfield 12, 3) := by decide +kernel
theorem dX7_predicateAt_9 : decode cX7_predicateAt 9 = .ok (.invokevirtual 24, 3) := by decide +kernel
theorem dX7_predicateAt_12 : decode cX7_predicateAt 12 = .ok (.if_icmp .ge 17, 3) := by decide +kernel
theorem dX7_predicateAt_29 : decode cX7_predicateAt 29 = .ok (.aconst_null, 1) := by decide +kernel
theorem dX7_predicateAt_30 : decode cX7_predicateAt 30 = .ok (.areturn, 1) := by decide +kernel
set_option maxRecDepth 20000 in
theorem ggX7_clauseAt_Jx4a65c_size_8abf5 : GoodIn wsX7_clauseAt wsJx4a65c_size_8abf5 := goodIn_r _ [7, 8, 29, 30, 31] (by decide +kernel) (by decide +kernel)
set_option maxRecDepth 20000 in
theorem gX7_clauseAt_Jx4a65c_size_8abf5 : GoodIn wsX7_clauseAt (wsV RX7 24 RJx4a65c yJx4a65c_size_8abf5 wsJx4a65c_size_8abf5) := goodIn_app (goodIn_of _ (by decide +kernel)) ggX7_clauseAt_Jx4a65c_size_8abf5
theorem dX7_clauseAt_0 : decode cX7_clauseAt 0 = .ok (.iload_n 1, 1) := by decide +kernel
theorem dX7_clauseAt_1 : decode cX7_clauseAt 1 = .ok (.ifCond .lt 28, 3) := by decide +kernel
theorem dX7_clauseAt_4 : decode cX7_clauseAt 4 = .ok (.iload_n 1, 1) := by decide +kernel
theorem dX7_clauseAt_5 : decode cX7_clauseAt 5 = .ok (.aload_n 0, 1) := by decide +kernel
theorem dX7_clauseAt_6 : decode cX7_clauseAt 6 = .ok (.getfield 21, 3) := by decide +kernel
theorem dX7_clauseAt_9 : decode cX7_clauseAt 9 = .ok (.invokevirtual 24, 3) := by decide +kernel
theorem dX7_clauseAt_12 : decode cX7_clauseAt 12 = .ok (.if_icmp .ge 17, 3) := by decide +kernel
theorem dX7_clauseAt_29 : decode cX7_clauseAt 29 = .ok (.aconst_null, 1) := by decide +kernel
theorem dX7_clauseAt_30 : decode cX7_clauseAt 30 = .ok (.areturn, 1) := by decide +kernel
set_option maxRecDepth 20000 in
theorem ggX7_modeAt_X7_predicateAt : GoodIn wsX7_modeAt wsX7_predicateAt := goodIn_r _ [5, 6, 7, 8, 9, 10, 11, 12, 13, 14, 15, 16, 17, 18, 19, 20, 21, 22, 23, 24, 25, 26, 27, 28, 29, 30, 40, 41, 42, 43, 44, 45] (by decide +kernel) (by decide +kernel)
set_option maxRecDepth 20000 in
theorem gX7_modeAt_X7_predicateAt : GoodIn wsX7_modeAt (wsV RX7 36 RX7 yX7_predicateAt wsX7_predicateAt) := goodIn_app (goodIn_of _ (by decide +kernel)) ggX7_modeAt_X7_predicateAt
theorem dX7_modeAt_0 : decode cX7_modeAt 0 = .ok (.aload_n 0, 1) := by decide +kernel
theorem dX7_modeAt_1 : decode cX7_modeAt 1 = .ok (.iload_n 1, 1) := by decide +kernel
theorem dX7_modeAt_2 : decode cX7_modeAt 2 = .ok (.invokevirtual 36, 3) := by decide +kernel
theorem dX7_modeAt_5 : decode cX7_modeAt 5 = .ok (.astore_n 3, 1) := by decide +kernel
theorem dX7_modeAt_6 : decode cX7_modeAt 6 = .ok (.aload_n 3, 1) := by decide +kernel
theorem dX7_modeAt_7 : decode cX7_modeAt 7 = .ok (.ifnonnull 7, 3) := by decide +kernel
theorem dX7_modeAt_10 : decode cX7_modeAt 10 = .ok (.aconst_null, 1) := by decide +kernel
theorem dX7_modeAt_11 : decode cX7_modeAt 11 = .ok (.goto 8, 3) := by decide +kernel
theorem dX7_modeAt_19 : decode cX7_modeAt 19 = .ok (.areturn, 1) := by decide +kernel
set_option maxRecDepth 20000 in
theorem ggX7_newPredicate_Jx4a65c_size_8abf5 : GoodIn wsX7_newPredicate wsJx4a65c_size_8abf5 := goodIn_r _ [9, 10, 154, 155, 156] (by decide +kernel) (by decide +kernel)
set_option maxRecDepth 20000 in
theorem gX7_newPredicate_Jx4a65c_size_8abf5 : GoodIn wsX7_newPredicate (wsV RX7 24 RJx4a65c yJx4a65c_size_8abf5 wsJx4a65c_size_8abf5) := goodIn_app (goodIn_of _ (by decide +kernel)) ggX7_newPredicate_Jx4a65c_size_8abf5
set_option maxRecDepth 20000 in
theorem ggX7_newPredicate_X6_init : GoodIn wsX7_newPredicate wsX6_init := goodIn_ca (goodIn_r _ [13, 14, 15, 16, 17, 18, 19, 20, 21, 22, 23, 8, 24, 25, 26, 27, 28, 29, 30, 31, 32, 33, 34, 35, 36, 37, 38, 39, 40, 41, 42, 43, 44, 45, 46, 47, 48, 49, 50, 51, 52, 53, 54, 55, 56, 57, 58, 59, 60, 61, 62, 63, 64, 65, 66, 67, 68, 69, 70, 71, 72, 73, 74, 75, 76, 77, 78, 79, 80, 81, 82, 83, 84, 85, 86, 87, 88, 89, 90, 91, 92, 93, 94, 95, 96, 97, 98, 99, 100, 101, 102, 149, 150, 151, 152, 153, 157, 158, 159, 154, 155, 156, 160, 161, 162, 163, 164, 165, 166, 167, 168, 169, 170, 171, 172, 173] (by decide +kernel) (by decide +kernel)) (goodIn_sub (fun _ h => List.mem_cons_of_mem _ (List.mem_append_right _ h)) (by decide +kernel))
set_option maxRecDepth 20000 in
theorem gX7_newPredicate_X6_init : GoodIn wsX7_newPredicate (wsX6_init) := ggX7_newPredicate_X6_init
set_option maxRecDepth 20000 in
theorem ggX7_newPredicate_Jx4a65c_add_9ea2d : GoodIn wsX7_newPredicate wsJx4a65c_add_9ea2d := goodIn_r _ [106, 107, 108, 84, 10, 109, 110, 111, 8, 112, 113, 114, 115, 116, 117, 118, 119, 120, 83, 121, 122, 58, 123, 124, 125, 126, 127, 128, 129, 130, 131, 132, 133, 134, 135, 48, 136, 137, 138, 139, 140, 141, 142, 143, 144, 145, 56, 57, 59, 60, 61, 62, 63, 154, 155, 156] (by decide +kernel) (by decide +kernel)
set_option maxRecDepth 20000 in
theorem gX7_newPredicate_Jx4a65c_add_9ea2d : GoodIn wsX7_newPredicate (wsV RX7 47 RJx4a65c yJx4a65c_add_9ea2d wsJx4a65c_add_9ea2d) := goodIn_app (goodIn_of _ (by decide +kernel)) ggX7_newPredicate_Jx4a65c_add_9ea2d
theorem dX7_newPredicate_0 : decode cX7_newPredicate 0 = .ok (.aload_n 0, 1) := by decide +kernel
theorem dX7_newPredicate_1 : decode cX7_newPredicate 1 = .ok (.getfield 12, 3) := by decide +kernel
theorem dX7_newPredicate_4 : decode cX7_newPredicate 4 = .ok (.new 32, 3) := by decide +kernel
theorem dX7_newPredicate_7 : decode cX7_newPredicate 7 = .ok (.dup, 1) := by decide +kernel
theorem dX7_newPredicate_8 : decode cX7_newPredicate 8 = .ok (.aload_n 0, 1) := by decide +kernel
theorem dX7_newPredicate_9 : decode cX7_newPredicate 9 = .ok (.getfield 12, 3) := by decide +kernel
theorem dX7_newPredicate_12 : decode cX7_newPredicate 12 = .ok (.invokevirtual 24, 3) := by decide +kernel
theorem dX7_newPredicate_15 : decode cX7_newPredicate 15 = .ok (.iload_n 1, 1) := by decide +kernel
theorem dX7_newPredicate_16 : decode cX7_newPredicate 16 = .ok (.iload_n 2, 1) := by decide +kernel
theorem dX7_newPredicate_17 : decode cX7_newPredicate 17 = .ok (.iload_n 3, 1) := by decide +kernel
theorem dX7_newPredicate_18 : decode cX7_newPredicate 18 = .ok (.invokespecial 44, 3) := by decide +kernel
theorem dX7_newPredicate_21 : decode cX7_newPredicate 21 = .ok (.invokevirtual 47, 3) := by decide +kernel
theorem dX7_newPredicate_24 : decode cX7_newPredicate 24 = .ok (.pop, 1) := by decide +kernel
theorem dX7_newPredicate_25 : decode cX7_newPredicate 25 = .ok (.aload_n 0, 1) := by decide +kernel
theorem dX7_newPredicate_26 : decode cX7_newPredicate 26 = .ok (.getfield 12, 3) := by decide +kernel
theorem dX7_newPredicate_29 : decode cX7_newPredicate 29 = .ok (.invokevirtual 24, 3) := by decide +kernel
theorem dX7_newPredicate_32 : decode cX7_newPredicate 32 = .ok (.iconst 1, 1) := by decide +kernel
theorem dX7_newPredicate_33 : decode cX7_newPredicate 33 = .ok (.isub, 1) := by decide +kernel
theorem dX7_newPredicate_34 : decode cX7_newPredicate 34 = .ok (.ireturn, 1) := by decide +kernel
set_option maxRecDepth 20000 in
theorem ggX7_faultCount_Jx4a65c_size_8abf5 : GoodIn wsX7_faultCount wsJx4a65c_size_8abf5 := goodIn_r _ [7, 8, 43, 44, 45] (by decide +kernel) (by decide +kernel)
set_option maxRecDepth 20000 in
theorem gX7_faultCount_Jx4a65c_size_8abf5 : GoodIn wsX7_faultCount (wsV RX7 24 RJx4a65c yJx4a65c_size_8abf5 wsJx4a65c_size_8abf5) := goodIn_app (goodIn_of _ (by decide +kernel)) ggX7_faultCount_Jx4a65c_size_8abf5
theorem dX7_faultCount_0 : decode cX7_faultCount 0 = .ok (.iconst 0, 1) := by decide +kernel
theorem dX7_faultCount_1 : decode cX7_faultCount 1 = .ok (.istore_n 1, 1) := by decide +kernel
theorem dX7_faultCount_2 : decode cX7_faultCount 2 = .ok (.iconst 0, 1) := by decide +kernel
theorem dX7_faultCount_3 : decode cX7_faultCount 3 = .ok (.istore_n 2, 1) := by decide +kernel
theorem dX7_faultCount_4 : decode cX7_faultCount 4 = .ok (.iload_n 2, 1) := by decide +kernel
theorem dX7_faultCount_5 : decode cX7_faultCount 5 = .ok (.aload_n 0, 1) := by decide +kernel
theorem dX7_faultCount_6 : decode cX7_faultCount 6 = .ok (.getfield 18, 3) := by decide +kernel
theorem dX7_faultCount_9 : decode cX7_faultCount 9 = .ok (.invokevirtual 24, 3) := by decide +kernel
theorem dX7_faultCount_12 : decode cX7_faultCount 12 = .ok (.if_icmp .ge 36, 3) := by decide +kernel
theorem dX7_faultCount_48 : decode cX7_faultCount 48 = .ok (.iload_n 1, 1) := by decide +kernel
theorem dX7_faultCount_49 : decode cX7_faultCount 49 = .ok (.ireturn, 1) := by decide +kernel
set_option maxRecDepth 20000 in
theorem ggX7_analyse_Jx4a65c_size_8abf5 : GoodIn wsX7_analyse wsJx4a65c_size_8abf5 := goodIn_r _ [7, 8, 229, 230, 231] (by decide +kernel) (by decide +kernel)
set_option maxRecDepth 20000 in
theorem gX7_analyse_Jx4a65c_size_8abf5 : GoodIn wsX7_analyse (wsV RX7 24 RJx4a65c yJx4a65c_size_8abf5 wsJx4a65c_size_8abf5) := goodIn_app (goodIn_of _ (by decide +kernel)) ggX7_analyse_Jx4a65c_size_8abf5
set_option maxRecDepth 20000 in
theorem ggX7_analyse_X7_spreadFaults : GoodIn wsX7_analyse wsX7_spreadFaults := goodIn_ca (goodIn_r _ [157, 1, 2, 3, 4, 5, 6, 7, 8, 9, 10, 11, 12, 13, 14, 15, 16, 17, 18, 19, 20, 21, 22, 23, 24, 25, 158, 159, 29, 160, 31, 32, 33, 34, 35, 36, 37, 38, 39, 40, 41, 42, 43, 161, 128, 129, 51, 130, 53, 162, 163, 164, 165, 125, 131, 132, 133, 134, 217, 218, 219, 220, 221, 222, 223, 224, 225, 226, 227, 228, 229, 230, 231, 232, 233, 234, 235, 236, 237, 238, 239, 240, 241, 242, 243, 244, 245] (by decide +kernel) (by decide +kernel)) (goodIn_sub (fun _ h => List.mem_cons_of_mem _ (List.mem_append_right _ h)) (by decide +kernel))
set_option maxRecDepth 20000 in
theorem gX7_analyse_X7_spreadFaults : GoodIn wsX7_analyse (wsV RX7 94 RX7 yX7_spreadFaults wsX7_spreadFaults) := goodIn_app (goodIn_of _ (by decide +kernel)) ggX7_analyse_X7_spreadFaults
set_option maxRecDepth 20000 in
theorem ggX7_analyse_X7_spreadFound : GoodIn wsX7_analyse wsX7_spreadFound := goodIn_ca (goodIn_r _ [169, 1, 2, 3, 4, 5, 6, 7, 8, 9, 10, 11, 12, 13, 14, 15, 16, 17, 18, 19, 20, 21, 22, 23, 24, 25, 170, 171, 29, 172, 31, 32, 33, 34, 35, 36, 37, 38, 39, 40, 41, 42, 43, 173, 174, 175, 161, 128, 129, 51, 130, 53, 150, 151, 152, 153, 124, 131, 132, 133, 134, 176, 177, 178, 179, 126, 162, 163, 164, 165, 125, 180, 181, 182, 99, 100, 101, 102, 103, 104, 105, 106, 107, 77, 108, 109, 183, 184, 185, 186, 187, 188, 189, 190, 191, 192, 140, 193, 194, 195, 144, 196, 197, 146, 198, 199, 200, 201, 202, 203, 204, 205, 142, 143, 145, 206, 207, 208, 209, 210, 211, 212, 213, 214, 215, 216, 217, 218, 219, 220, 221, 222, 223, 224, 225, 226, 227, 228, 229, 230, 231, 232, 233, 234, 235, 236, 237, 238, 239, 240, 241, 242, 243, 244, 245, 246, 247, 248, 249, 250, 251, 252, 253, 254, 255, 256, 257] (by decide +kernel) (by decide +kernel)) (goodIn_sub (fun _ h => List.mem_cons_of_mem _ (List.mem_append_right _ h)) (by decide +kernel))
set_option maxRecDepth 20000 in
theorem gX7_analyse_X7_spreadFound : GoodIn wsX7_analyse (wsV RX7 98 RX7 yX7_spreadFound wsX7_spreadFound) := goodIn_app (goodIn_of _ (by decide +kernel)) ggX7_analyse_X7_spreadFound
theorem dX7_analyse_0 : decode cX7_analyse 0 = .ok (.iconst 0, 1) := by decide +kernel
theorem dX7_analyse_1 : decode cX7_analyse 1 = .ok (.istore_n 2, 1) := by decide +kernel
theorem dX7_analyse_2 : decode cX7_analyse 2 = .ok (.iload_n 2, 1) := by decide +kernel
theorem dX7_analyse_3 : decode cX7_analyse 3 = .ok (.aload_n 0, 1) := by decide +kernel
theorem dX7_analyse_4 : decode cX7_analyse 4 = .ok (.getfield 18, 3) := by decide +kernel
theorem dX7_analyse_7 : decode cX7_analyse 7 = .ok (.invokevirtual 24, 3) := by decide +kernel
theorem dX7_analyse_10 : decode cX7_analyse 10 = .ok (.if_icmp .ge 72, 3) := by decide +kernel
theorem dX7_analyse_82 : decode cX7_analyse 82 = .ok (.iconst 1, 1) := by decide +kernel
theorem dX7_analyse_83 : decode cX7_analyse 83 = .ok (.istore_n 2, 1) := by decide +kernel
theorem dX7_analyse_84 : decode cX7_analyse 84 = .ok (.iconst 0, 1) := by decide +kernel
theorem dX7_analyse_85 : decode cX7_analyse 85 = .ok (.istore_n 3, 1) := by decide +kernel
theorem dX7_analyse_86 : decode cX7_analyse 86 = .ok (.iload_n 3, 1) := by decide +kernel
theorem dX7_analyse_87 : decode cX7_analyse 87 = .ok (.aload_n 0, 1) := by decide +kernel
theorem dX7_analyse_88 : decode cX7_analyse 88 = .ok (.getfield 18, 3) := by decide +kernel
theorem dX7_analyse_91 : decode cX7_analyse 91 = .ok (.invokevirtual 24, 3) := by decide +kernel
theorem dX7_analyse_94 : decode cX7_analyse 94 = .ok (.if_icmp .gt 18, 3) := by decide +kernel
