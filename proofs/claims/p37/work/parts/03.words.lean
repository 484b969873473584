/-! the tables' words, by places: what calls, fields and makings need of them -/
def lw_ch : Nat → List Cond
  | 0 => k2_sels lw_privs
  | 1 => tables_1_1
  | 2 => tables_1_2
  | 3 => tables_1_3
  | 4 => tables_1_4
  | 5 => tables_1_5
  | 6 => tables_1_6
  | 7 => tables_1_7
  | 8 => tables_1_8
  | _ => []
theorem lw_ch_in : ∀ (c : Nat), ∀ w ∈ lw_ch c, w ∈ lw_tbl
  | 0 => fun w h => List.mem_append_left _ h
  | 1 => fun w h => List.mem_append_right _ (List.mem_append_left _ h)
  | 2 => fun w h => List.mem_append_right _ (List.mem_append_right _ (List.mem_append_left _ h))
  | 3 => fun w h => List.mem_append_right _ (List.mem_append_right _ (List.mem_append_right _ (List.mem_append_left _ h)))
  | 4 => fun w h => List.mem_append_right _ (List.mem_append_right _ (List.mem_append_right _ (List.mem_append_right _ (List.mem_append_left _ h))))
  | 5 => fun w h => List.mem_append_right _ (List.mem_append_right _ (List.mem_append_right _ (List.mem_append_right _ (List.mem_append_right _ (List.mem_append_left _ h)))))
  | 6 => fun w h => List.mem_append_right _ (List.mem_append_right _ (List.mem_append_right _ (List.mem_append_right _ (List.mem_append_right _ (List.mem_append_right _ (List.mem_append_left _ h))))))
  | 7 => fun w h => List.mem_append_right _ (List.mem_append_right _ (List.mem_append_right _ (List.mem_append_right _ (List.mem_append_right _ (List.mem_append_right _ (List.mem_append_right _ (List.mem_append_left _ h)))))))
  | 8 => fun w h => List.mem_append_right _ (List.mem_append_right _ (List.mem_append_right _ (List.mem_append_right _ (List.mem_append_right _ (List.mem_append_right _ (List.mem_append_right _ (List.mem_append_right _ (h))))))))
  | _ + 9 => fun w h => by simp [lw_ch] at h
def zWS : List Cond := lw_tbl.filter goodWord
theorem zin {w : Cond} (c i : Nat) (h : (lw_ch c)[i]? = some w) (g : goodWord w = true) : w ∈ zWS := List.mem_filter.mpr ⟨lw_ch_in c w (List.mem_of_getElem? h), g⟩
theorem zin_l {ws : List Cond} (ps : List (Nat × Nat)) (hp : ws = ps.filterMap (fun i => (lw_ch i.1)[i.2]?)) (g : ws.all goodWord = true) : ∀ w ∈ ws, w ∈ zWS := fun w hw => by
  have g := List.all_eq_true.mp g w hw
  rw [hp] at hw
  obtain ⟨i, -, hi⟩ := List.mem_filterMap.mp hw
  exact zin i.1 i.2 hi g
theorem zu_X0 : ∀ w ∈ wsX00, w ∈ zWS := zin_l [(3, 129), (3, 131), (3, 133), (3, 135), (3, 137), (3, 139), (3, 141), (3, 143), (3, 145), (3, 147), (3, 149), (3, 151), (3, 153), (3, 155), (3, 157)] rfl rfl
theorem zu_X1 : ∀ w ∈ wsX10, w ∈ zWS := zin_l [(5, 193), (5, 195), (5, 197), (5, 199), (5, 201), (5, 203), (5, 205), (5, 207), (5, 209)] rfl rfl
theorem zu_X2 : ∀ w ∈ wsX20, w ∈ zWS := zin_l [(7, 62), (7, 64), (7, 66), (7, 68), (7, 70), (7, 72), (7, 74), (7, 76), (7, 78), (7, 80)] rfl rfl
theorem zu_X3 : ∀ w ∈ wsX30, w ∈ zWS := zin_l [(4, 214), (4, 216), (4, 218), (4, 220)] rfl rfl
theorem zu_X4 : ∀ w ∈ wsX40, w ∈ zWS := zin_l [(3, 81), (3, 83), (3, 85), (3, 87), (3, 89), (3, 91), (3, 93), (3, 95), (3, 97), (3, 99), (3, 101), (3, 103)] rfl rfl
theorem zu_X5 : ∀ w ∈ wsX50, w ∈ zWS := zin_l [(5, 130), (5, 132), (5, 134), (5, 136), (5, 138), (5, 140), (5, 142), (5, 144), (5, 146)] rfl rfl
theorem zu_X6 : ∀ w ∈ wsX60, w ∈ zWS := zin_l [(4, 233), (4, 235), (4, 237), (4, 239), (5, 1)] rfl rfl
theorem zu_X7 : ∀ w ∈ wsX70, w ∈ zWS := zin_l [(3, 2), (3, 4), (3, 6)] rfl rfl
theorem zu_X8 : ∀ w ∈ wsX80, w ∈ zWS := zin_l [(3, 38), (3, 40), (3, 42), (3, 44), (3, 46), (3, 48), (3, 50), (3, 52), (3, 54), (3, 56)] rfl rfl
theorem zu_X9 : ∀ w ∈ wsX90, w ∈ zWS := zin_l [(1, 63), (1, 65), (1, 67)] rfl rfl
theorem zu_X10 : ∀ w ∈ wsX100, w ∈ zWS := zin_l [(2, 195), (2, 197), (2, 199), (2, 201), (2, 203)] rfl rfl
theorem zu_X11 : ∀ w ∈ wsX110, w ∈ zWS := zin_l [(3, 169), (3, 171), (3, 173), (3, 175), (3, 177), (3, 179), (3, 181), (3, 183), (3, 185)] rfl rfl
theorem zu_Jx4a65c : ∀ w ∈ wsJx4a65c0, w ∈ zWS := zin_l [(2, 236), (2, 232), (2, 234)] rfl rfl
