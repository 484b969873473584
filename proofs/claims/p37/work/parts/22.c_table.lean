/-! Own rows: TABLES: rows of numbers. Walked by program (wip/p37/m_table.py). -/
def tOk (c : Nat) (rows : List (List Int)) : Prop := 0 < c ∧ ∀ r ∈ rows, r.length = c
def tg (rows : List (List Int)) (i j : Int) : Int := if 0 ≤ i ∧ 0 ≤ j then (((rows[i.toNat]?).bind (fun r => r[j.toNat]?)).getD (-1)) else -1
def ts (rows : List (List Int)) (i j v : Int) : List (List Int) := if 0 ≤ i ∧ 0 ≤ j then rows.set i.toNat ((rows.getD i.toNat []).set j.toNat v) else rows
def trow (c : Nat) (f s t : Int) : List Int := (f :: s :: t :: List.replicate c (-1)).take c
def tcut (rows : List (List Int)) (n : Int) : List (List Int) := if 0 ≤ n then rows.take n.toNat else rows
theorem fl_len {c : Nat} : ∀ {rows : List (List Int)}, (∀ r ∈ rows, r.length = c) → rows.flatten.length = rows.length * c
  | [], _ => by simp
  | r :: rows, h => by
    rw [List.flatten_cons, List.length_append, h r List.mem_cons_self, fl_len (fun x hx => h x (List.mem_cons_of_mem _ hx)), List.length_cons, Nat.succ_mul]
    omega
theorem fl_at {c : Nat} : ∀ {rows : List (List Int)} {i j : Nat}, (∀ r ∈ rows, r.length = c) → j < c → rows.flatten[i * c + j]? = (rows[i]?).bind (fun r => r[j]?)
  | [], i, j, _, _ => by simp
  | r :: rows, 0, j, h, hj => by
    rw [List.flatten_cons, Nat.zero_mul, Nat.zero_add, List.getElem?_append_left (by rw [h r List.mem_cons_self]; exact hj)]
    rfl
  | r :: rows, i + 1, j, h, hj => by
    have hr := h r List.mem_cons_self
    rw [List.flatten_cons, List.getElem?_append_right (by rw [hr, Nat.succ_mul]; omega), hr, show (i + 1) * c + j - c = i * c + j by rw [Nat.succ_mul]; omega, fl_at (fun x hx => h x (List.mem_cons_of_mem _ hx)) hj]
    simp
theorem fl_set {c : Nat} : ∀ {rows : List (List Int)} {i j : Nat} {v : Int}, (∀ r ∈ rows, r.length = c) → j < c → rows.flatten.set (i * c + j) v = (rows.set i ((rows.getD i []).set j v)).flatten
  | [], i, j, v, _, _ => by simp
  | r :: rows, 0, j, v, h, hj => by
    rw [List.flatten_cons, Nat.zero_mul, Nat.zero_add, List.set_append_left _ _ (by rw [h r List.mem_cons_self]; exact hj)]
    simp
  | r :: rows, i + 1, j, v, h, hj => by
    have hr := h r List.mem_cons_self
    rw [List.flatten_cons, List.set_append_right _ _ (by rw [hr, Nat.succ_mul]; omega), hr, show (i + 1) * c + j - c = i * c + j by rw [Nat.succ_mul]; omega, fl_set (fun x hx => h x (List.mem_cons_of_mem _ hx)) hj]
    simp
theorem fl_take {c : Nat} : ∀ {rows : List (List Int)} {n : Nat}, (∀ r ∈ rows, r.length = c) → rows.flatten.take (n * c) = (rows.take n).flatten
  | [], n, _ => by simp
  | r :: rows, 0, h => by simp
  | r :: rows, n + 1, h => by
    have hr := h r List.mem_cons_self
    rw [List.flatten_cons, List.take_succ_cons, List.flatten_cons, List.take_append, hr, show (n + 1) * c - c = n * c by rw [Nat.succ_mul]; omega, fl_take (fun x hx => h x (List.mem_cons_of_mem _ hx)), List.take_of_length_le (by rw [hr, Nat.succ_mul]; omega)]
theorem t_mul {c lines L K : Nat} (hL : L < lines) (hK : K < c) : L * c + K < lines * c := by
  have : (L + 1) * c ≤ lines * c := Nat.mul_le_mul_right c hL
  rw [Nat.succ_mul] at this
  omega
theorem t_place {c lines L K : Nat} (hL : L < lines) (hK : K < c) (hb : lines * c < 2000000000) : zw (zw ((L : Int) * (c : Int)) + (K : Int)) = ((L * c + K : Nat) : Int) := by
  have h := t_mul hL hK
  have h1 : (L : Int) * (c : Int) = ((L * c : Nat) : Int) := by simp
  rw [h1, show zw ((L * c : Nat) : Int) = ((L * c : Nat) : Int) from zw_id ⟨by omega, by omega⟩, show zw (((L * c : Nat) : Int) + (K : Int)) = ((L * c : Nat) : Int) + (K : Int) from zw_id ⟨by omega, by omega⟩]
  simp
theorem z_close4 {w : zW} {a h : Nat} {x y p oh : zO} (hne : a ≠ h) (hh : w.1 h = some oh) : zput (zput (zput (zput w a x) h y) a p) h oh = zput w a p := by
  unfold zput zup
  congr 1
  funext b
  by_cases c1 : b = h
  · subst c1; simp [Ne.symm hne, hh]
  · by_cases c2 : b = a
    · subst c2; simp [hne]
    · simp [c1, c2]
theorem z_close5 {w : zW} {a h : Nat} {x y y2 p oh : zO} (hne : a ≠ h) (hh : w.1 h = some oh) : zput (zput (zput (zput (zput w a x) h y) h y2) a p) h oh = zput w a p := by
  rw [zput_put]; exact z_close4 hne hh
theorem z_cls9 {t ow : Nat} {fs : List zV} (h : 130 ≤ t ∧ t < 160) : vwCl[zcls ((t, ow, fs) : zO).1]? = some (RX9, TX9, 3) := by
  unfold zcls
  rw [if_neg (by omega), if_pos h]
  rfl
abbrev tTb (c cap : Nat) (rows : List (List Int)) : List zV := zTb c cap rows.flatten
section TROWS
variable {G : zG} {M : zMd} {d : Nat} {av : List zV} {w0 : zW} {Q : zQ} {pc : Nat} {L : List (Option zV)} {st : List zV} {w : zW}
/-- the number of lines, read in a closed table -/
theorem zx_tlines {a t ow c cap idx : Nat} {rows : List (List Int)} {fin : Bool} {fty : FieldType} (hd : decode M.2.1 pc = .ok (.getfield idx, 3)) (hf : zFI M.1.cls idx 9 2 fin fty) (ha : w.1 a = some (t, ow, tTb c cap rows)) (ht : 130 ≤ t ∧ t < 160) (hr : tOk c rows) (k : zX G M d av w0 Q (pc + 3) L (zI (rows.length : Int) :: st) w) : zX G M d av w0 Q pc L (zR a :: st) w := by
  refine zx_open ha ht (fun h lines gs g1 g2 g3 g4 g5 g6 g7 g8 g9 => ?_)
  have e : lines = rows.length := by
    rw [fl_len hr.2] at g2
    exact (Nat.eq_of_mul_eq_mul_right hr.1 g2).symm
  subst e
  refine zx_getfield hd hf (zput_to g7 zput_at) rfl ?_
  refine zx_close (t := t) (ow' := ow) (zput_to g7 zput_at) zput_at g1 g4 g5 g6 ht ?_
  refine zx_w (w1 := w) ?_ k
  rw [g3, z_close4 g7 g8, zput_id ha]
end TROWS
section CTAB
variable {G : zG} {d : Nat} {w : zW}
theorem c_X9_count {a t ow c cap : Nat} {rows : List (List Int)} (ha : w.1 a = some (t, ow, tTb c cap rows)) (ht : 130 ≤ t ∧ t < 160) (hr : tOk c rows) : zM G zm_X9_count d [zR a] w (zRet (some (zI (rows.length : Int))) w) := by
  refine zx_ent (by decide +kernel) rfl (Nat.le_of_ble_eq_true rfl) ?_
  refine zx_L (L1 := [some (zR a)]) rfl ?_
  refine zx_aload_n (i := 0) dX9_count_0 rfl rfl ?_
  refine zx_tlines dX9_count_1 zf_X9_20 ha ht hr ?_
  refine zx_iret dX9_count_4 rfl ?_
  exact zr_v rfl rfl
theorem c_X9_get {a t ow c cap : Nat} {rows : List (List Int)} (ha : w.1 a = some (t, ow, tTb c cap rows)) (ht : 130 ≤ t ∧ t < 160) (hr : tOk c rows) (i j : Int) : zM G zm_X9_get d [zR a, zI i, zI j] w (zRet (some (zI (tg rows i j))) w) := by
  refine zx_ent (by decide +kernel) rfl (Nat.le_of_ble_eq_true rfl) ?_
  refine zx_L (L1 := [some (zR a), some (zI i), some (zI j), none, none]) rfl ?_
  refine zx_open ha ht (fun h lines gs g1 g2 g3 g4 g5 g6 g7 g8 g9 => ?_)
  have e0 : lines = rows.length := by
    rw [fl_len hr.2] at g2
    exact (Nat.eq_of_mul_eq_mul_right hr.1 g2).symm
  subst e0
  obtain ⟨w1, hw1⟩ : ∃ x, x = zput (zput w a (9, ow, [zI (c : Int), zR h, zI (rows.length : Int)])) h (100, a, gs.map Sum.inl) := ⟨_, rfl⟩
  rw [← hw1]
  have h1a : w1.1 a = some (9, ow, [zI (c : Int), zR h, zI (rows.length : Int)]) := by rw [hw1]; exact zput_to g7 zput_at
  have h1h : w1.1 h = some (100, a, gs.map Sum.inl) := by rw [hw1]; exact zput_at
  have hc0 : 0 < c := hr.1
  refine zx_iload_n (i := 1) dX9_get_0 rfl rfl ?_
  refine zx_aload_n (i := 0) dX9_get_1 rfl rfl ?_
  refine zx_getfield dX9_get_2 zf_X9_9 h1a rfl ?_
  refine zx_imul (v := zw (i * (c : Int))) dX9_get_5 rfl ?_
  refine zx_iload_n (i := 2) dX9_get_6 rfl rfl ?_
  refine zx_iadd (v := zw ((zw (i * (c : Int))) + j)) dX9_get_7 rfl ?_
  refine zx_istore_n (i := 3) dX9_get_8 rfl (by decide) rfl ?_
  refine zx_L (L1 := [some (zR a), some (zI i), some (zI j), some (zI (zw ((zw (i * (c : Int))) + j))), none]) rfl ?_
  refine zx_iload_n (i := 1) dX9_get_9 rfl rfl ?_
  refine zx_if_lt (tgt := 37) dX9_get_10 (by decide) (fun h10 => ?_) (fun h10 => ?_)
  · refine zx_iconst (v := 0) dX9_get_37 rfl (z32_lit (by decide) (by decide)) ?_
    refine zx_istore (i := 4) dX9_get_38 (by decide) rfl ?_
    refine zx_L (L1 := [some (zR a), some (zI i), some (zI j), some (zI (zw ((zw (i * (c : Int))) + j))), some (zI 0)]) rfl ?_
    refine zx_pc (pc1 := 40) rfl ?_
    refine zx_iload (i := 4) dX9_get_40 rfl ?_
    refine zx_if_eq (tgt := 67) dX9_get_42 (by decide) (fun h42 => ?_) (fun h42 => absurd (by decide) h42)
    refine zx_iconst (v := -1) dX9_get_67 rfl (z32_lit (by decide) (by decide)) ?_
    refine zx_close (t := t) (ow' := ow) h1a h1h g1 g4 g5 g6 ht ?_
    refine zx_w (w1 := w) (by rw [hw1, g3, z_close4 g7 g8, zput_id ha]) ?_
    refine zx_iret dX9_get_68 rfl ?_
    refine zr_i ?_
    unfold tg
    by_cases q : 0 ≤ i ∧ 0 ≤ j
    · rw [if_pos q]
      by_cases q1 : i.toNat < rows.length
      · have q2 := hr.2 _ (List.getElem_mem q1)
        have q3 : (rows[i.toNat])[j.toNat]? = none := List.getElem?_eq_none (by omega)
        rw [List.getElem?_eq_getElem q1, Option.bind_some, q3, Option.getD_none]
      · rw [List.getElem?_eq_none (by omega)]
        rfl
    · rw [if_neg q]
  · refine zx_iload_n (i := 1) dX9_get_13 rfl rfl ?_
    refine zx_aload_n (i := 0) dX9_get_14 rfl rfl ?_
    refine zx_pc (pc1 := 15) rfl ?_
    refine zx_getfield dX9_get_15 zf_X9_20 h1a rfl ?_
    refine zx_icmp_ge (tgt := 37) dX9_get_18 (by decide) (fun h18 => ?_) (fun h18 => ?_)
    · refine zx_iconst (v := 0) dX9_get_37 rfl (z32_lit (by decide) (by decide)) ?_
      refine zx_istore (i := 4) dX9_get_38 (by decide) rfl ?_
      refine zx_L (L1 := [some (zR a), some (zI i), some (zI j), some (zI (zw ((zw (i * (c : Int))) + j))), some (zI 0)]) rfl ?_
      refine zx_iload (i := 4) dX9_get_40 rfl ?_
      refine zx_if_eq (tgt := 67) dX9_get_42 (by decide) (fun h42 => ?_) (fun h42 => absurd (by decide) h42)
      refine zx_iconst (v := -1) dX9_get_67 rfl (z32_lit (by decide) (by decide)) ?_
      refine zx_close (t := t) (ow' := ow) h1a h1h g1 g4 g5 g6 ht ?_
      refine zx_w (w1 := w) (by rw [hw1, g3, z_close4 g7 g8, zput_id ha]) ?_
      refine zx_iret dX9_get_68 rfl ?_
      refine zr_i ?_
      unfold tg
      by_cases q : 0 ≤ i ∧ 0 ≤ j
      · rw [if_pos q]
        by_cases q1 : i.toNat < rows.length
        · have q2 := hr.2 _ (List.getElem_mem q1)
          have q3 : (rows[i.toNat])[j.toNat]? = none := List.getElem?_eq_none (by omega)
          rw [List.getElem?_eq_getElem q1, Option.bind_some, q3, Option.getD_none]
        · rw [List.getElem?_eq_none (by omega)]
          rfl
      · rw [if_neg q]
    · refine zx_iload_n (i := 2) dX9_get_21 rfl rfl ?_
      refine zx_if_lt (tgt := 37) dX9_get_22 (by decide) (fun h22 => ?_) (fun h22 => ?_)
      · refine zx_iconst (v := 0) dX9_get_37 rfl (z32_lit (by decide) (by decide)) ?_
        refine zx_istore (i := 4) dX9_get_38 (by decide) rfl ?_
        refine zx_L (L1 := [some (zR a), some (zI i), some (zI j), some (zI (zw ((zw (i * (c : Int))) + j))), some (zI 0)]) rfl ?_
        refine zx_iload (i := 4) dX9_get_40 rfl ?_
        refine zx_if_eq (tgt := 67) dX9_get_42 (by decide) (fun h42 => ?_) (fun h42 => absurd (by decide) h42)
        refine zx_iconst (v := -1) dX9_get_67 rfl (z32_lit (by decide) (by decide)) ?_
        refine zx_close (t := t) (ow' := ow) h1a h1h g1 g4 g5 g6 ht ?_
        refine zx_w (w1 := w) (by rw [hw1, g3, z_close4 g7 g8, zput_id ha]) ?_
        refine zx_iret dX9_get_68 rfl ?_
        refine zr_i ?_
        unfold tg
        by_cases q : 0 ≤ i ∧ 0 ≤ j
        · rw [if_pos q]
          by_cases q1 : i.toNat < rows.length
          · have q2 := hr.2 _ (List.getElem_mem q1)
            have q3 : (rows[i.toNat])[j.toNat]? = none := List.getElem?_eq_none (by omega)
            rw [List.getElem?_eq_getElem q1, Option.bind_some, q3, Option.getD_none]
          · rw [List.getElem?_eq_none (by omega)]
            rfl
        · rw [if_neg q]
      · refine zx_iload_n (i := 2) dX9_get_25 rfl rfl ?_
        refine zx_aload_n (i := 0) dX9_get_26 rfl rfl ?_
        refine zx_getfield dX9_get_27 zf_X9_9 h1a rfl ?_
        refine zx_icmp_ge (tgt := 37) dX9_get_30 (by decide) (fun h30 => ?_) (fun h30 => ?_)
        · refine zx_iconst (v := 0) dX9_get_37 rfl (z32_lit (by decide) (by decide)) ?_
          refine zx_istore (i := 4) dX9_get_38 (by decide) rfl ?_
          refine zx_L (L1 := [some (zR a), some (zI i), some (zI j), some (zI (zw ((zw (i * (c : Int))) + j))), some (zI 0)]) rfl ?_
          refine zx_iload (i := 4) dX9_get_40 rfl ?_
          refine zx_if_eq (tgt := 67) dX9_get_42 (by decide) (fun h42 => ?_) (fun h42 => absurd (by decide) h42)
          refine zx_pc (pc1 := 67) rfl ?_
          refine zx_iconst (v := -1) dX9_get_67 rfl (z32_lit (by decide) (by decide)) ?_
          refine zx_close (t := t) (ow' := ow) h1a h1h g1 g4 g5 g6 ht ?_
          refine zx_w (w1 := w) (by rw [hw1, g3, z_close4 g7 g8, zput_id ha]) ?_
          refine zx_iret dX9_get_68 rfl ?_
          refine zr_i ?_
          unfold tg
          by_cases q : 0 ≤ i ∧ 0 ≤ j
          · rw [if_pos q]
            by_cases q1 : i.toNat < rows.length
            · have q2 := hr.2 _ (List.getElem_mem q1)
              have q3 : (rows[i.toNat])[j.toNat]? = none := List.getElem?_eq_none (by omega)
              rw [List.getElem?_eq_getElem q1, Option.bind_some, q3, Option.getD_none]
            · rw [List.getElem?_eq_none (by omega)]
              rfl
          · rw [if_neg q]
        · refine zx_iconst (v := 1) dX9_get_33 rfl (z32_lit (by decide) (by decide)) ?_
          refine zx_goto (tgt := 38) dX9_get_34 (by decide) ?_
          refine zx_istore (i := 4) dX9_get_38 (by decide) rfl ?_
          refine zx_L (L1 := [some (zR a), some (zI i), some (zI j), some (zI (zw ((zw (i * (c : Int))) + j))), some (zI 1)]) rfl ?_
          refine zx_iload (i := 4) dX9_get_40 rfl ?_
          refine zx_pc (pc1 := 42) rfl ?_
          refine zx_if_eq (tgt := 67) dX9_get_42 (by decide) (fun h42 => absurd h42 (by decide)) (fun h42 => ?_)
          obtain ⟨LN, rfl⟩ : ∃ n : Nat, i = n := ⟨i.toNat, by omega⟩
          obtain ⟨KN, rfl⟩ : ∃ n : Nat, j = n := ⟨j.toNat, by omega⟩
          have hm := t_mul (c := c) (lines := rows.length) (L := LN) (K := KN) (by omega) (by omega)
          have hp := t_place (c := c) (lines := rows.length) (L := LN) (K := KN) (by omega) (by omega) (by omega)
          have hp2 : zw (zw ((LN : Int) * (c : Int)) + (KN : Int)) = ((LN * c + KN : Nat) : Int) := hp
          rw [hp2]
          refine zx_iload_n (i := 3) dX9_get_45 rfl rfl ?_
          refine zx_if_lt (tgt := 67) dX9_get_46 (by decide) (fun h46 => absurd h46 (by omega)) (fun h46 => ?_)
          refine zx_iload_n (i := 3) dX9_get_49 rfl rfl ?_
          refine zx_aload_n (i := 0) dX9_get_50 rfl rfl ?_
          refine zx_getfield dX9_get_51 zf_X9_16 h1a rfl ?_
          refine zx_alen (n := cap) dX9_get_54 h1h (by first | decide | omega) (by rw [zin_len]; exact g1) g6 ?_
          refine zx_icmp_ge (tgt := 67) dX9_get_55 (by decide) (fun h55 => absurd h55 (by omega)) (fun h55 => ?_)
          refine zx_aload_n (i := 0) dX9_get_58 rfl rfl ?_
          refine zx_getfield dX9_get_59 zf_X9_16 h1a rfl ?_
          refine zx_iload_n (i := 3) dX9_get_62 rfl rfl ?_
          refine zx_iaload (v := zI (gs.getD (LN * c + KN) 0)) dX9_get_63 h1h (by first | decide | omega) (by omega) (by rw [List.getElem?_map, Int.toNat_natCast, List.getElem?_eq_getElem (by omega)]; simp [List.getD_eq_getElem?_getD, List.getElem?_eq_getElem (show LN * c + KN < gs.length by omega)]) ?_
          refine zx_pc (pc1 := 64) rfl ?_
          refine zx_goto (tgt := 68) dX9_get_64 (by decide) ?_
          refine zx_close (t := t) (ow' := ow) h1a h1h g1 g4 g5 g6 ht ?_
          refine zx_w (w1 := w) (by rw [hw1, g3, z_close4 g7 g8, zput_id ha]) ?_
          refine zx_iret dX9_get_68 rfl ?_
          refine zr_i ?_
          unfold tg
          rw [if_pos ⟨by omega, by omega⟩, Int.toNat_natCast, Int.toNat_natCast, ← fl_at hr.2 (show KN < c by omega), ← g3, List.getElem?_take_of_lt hm, List.getElem?_eq_getElem (by omega), Option.getD_some, List.getD_eq_getElem?_getD, List.getElem?_eq_getElem (by omega), Option.getD_some]
theorem c_X9_set {a t ow c cap : Nat} {rows : List (List Int)} (ha : w.1 a = some (t, ow, tTb c cap rows)) (ht : 130 ≤ t ∧ t < 160) (hr : tOk c rows) (i j v : Int) : zM G zm_X9_set d [zR a, zI i, zI j, zI v] w (zRet none (zput w a (t, ow, tTb c cap (ts rows i j v)))) := by
  refine zx_ent (by decide +kernel) rfl (Nat.le_of_ble_eq_true rfl) ?_
  refine zx_L (L1 := [some (zR a), some (zI i), some (zI j), some (zI v), none, none]) rfl ?_
  refine zx_open ha ht (fun h lines gs g1 g2 g3 g4 g5 g6 g7 g8 g9 => ?_)
  have e0 : lines = rows.length := by
    rw [fl_len hr.2] at g2
    exact (Nat.eq_of_mul_eq_mul_right hr.1 g2).symm
  subst e0
  obtain ⟨w1, hw1⟩ : ∃ x, x = zput (zput w a (9, ow, [zI (c : Int), zR h, zI (rows.length : Int)])) h (100, a, gs.map Sum.inl) := ⟨_, rfl⟩
  rw [← hw1]
  have h1a : w1.1 a = some (9, ow, [zI (c : Int), zR h, zI (rows.length : Int)]) := by rw [hw1]; exact zput_to g7 zput_at
  have h1h : w1.1 h = some (100, a, gs.map Sum.inl) := by rw [hw1]; exact zput_at
  have hc0 : 0 < c := hr.1
  refine zx_iload_n (i := 1) dX9_set_0 rfl rfl ?_
  refine zx_aload_n (i := 0) dX9_set_1 rfl rfl ?_
  refine zx_getfield dX9_set_2 zf_X9_9 h1a rfl ?_
  refine zx_imul (v := zw (i * (c : Int))) dX9_set_5 rfl ?_
  refine zx_iload_n (i := 2) dX9_set_6 rfl rfl ?_
  refine zx_iadd (v := zw ((zw (i * (c : Int))) + j)) dX9_set_7 rfl ?_
  refine zx_istore (i := 4) dX9_set_8 (by decide) rfl ?_
  refine zx_L (L1 := [some (zR a), some (zI i), some (zI j), some (zI v), some (zI (zw ((zw (i * (c : Int))) + j))), none]) rfl ?_
  refine zx_iload_n (i := 1) dX9_set_10 rfl rfl ?_
  refine zx_if_lt (tgt := 38) dX9_set_11 (by decide) (fun h11 => ?_) (fun h11 => ?_)
  · refine zx_iconst (v := 0) dX9_set_38 rfl (z32_lit (by decide) (by decide)) ?_
    refine zx_istore (i := 5) dX9_set_39 (by decide) rfl ?_
    refine zx_L (L1 := [some (zR a), some (zI i), some (zI j), some (zI v), some (zI (zw ((zw (i * (c : Int))) + j))), some (zI 0)]) rfl ?_
    refine zx_pc (pc1 := 41) rfl ?_
    refine zx_iload (i := 5) dX9_set_41 rfl ?_
    refine zx_if_eq (tgt := 69) dX9_set_43 (by decide) (fun h43 => ?_) (fun h43 => absurd (by decide) h43)
    refine zx_close (t := t) (ow' := ow) h1a h1h g1 g4 g5 g6 ht ?_
    refine zx_w (w1 := w) (by rw [hw1, g3, z_close4 g7 g8, zput_id ha]) ?_
    refine zx_return dX9_set_69 rfl ?_
    refine zr_n ?_
    have e1 : ts rows i j v = rows := by
      unfold ts
      by_cases q : 0 ≤ i ∧ 0 ≤ j
      · rw [if_pos q]
        by_cases q1 : i.toNat < rows.length
        · have q2 := hr.2 _ (List.getElem_mem q1)
          rw [List.getD_eq_getElem?_getD, List.getElem?_eq_getElem q1, Option.getD_some, show (rows[i.toNat]).set j.toNat v = rows[i.toNat] from List.set_eq_of_length_le (by omega)]
          exact List.set_getElem_self _
        · rw [List.set_eq_of_length_le (by omega)]
      · rw [if_neg q]
    rw [e1, zput_id ha]
  · refine zx_iload_n (i := 1) dX9_set_14 rfl rfl ?_
    refine zx_aload_n (i := 0) dX9_set_15 rfl rfl ?_
    refine zx_pc (pc1 := 16) rfl ?_
    refine zx_getfield dX9_set_16 zf_X9_20 h1a rfl ?_
    refine zx_icmp_ge (tgt := 38) dX9_set_19 (by decide) (fun h19 => ?_) (fun h19 => ?_)
    · refine zx_iconst (v := 0) dX9_set_38 rfl (z32_lit (by decide) (by decide)) ?_
      refine zx_istore (i := 5) dX9_set_39 (by decide) rfl ?_
      refine zx_L (L1 := [some (zR a), some (zI i), some (zI j), some (zI v), some (zI (zw ((zw (i * (c : Int))) + j))), some (zI 0)]) rfl ?_
      refine zx_iload (i := 5) dX9_set_41 rfl ?_
      refine zx_if_eq (tgt := 69) dX9_set_43 (by decide) (fun h43 => ?_) (fun h43 => absurd (by decide) h43)
      refine zx_close (t := t) (ow' := ow) h1a h1h g1 g4 g5 g6 ht ?_
      refine zx_w (w1 := w) (by rw [hw1, g3, z_close4 g7 g8, zput_id ha]) ?_
      refine zx_return dX9_set_69 rfl ?_
      refine zr_n ?_
      have e1 : ts rows i j v = rows := by
        unfold ts
        by_cases q : 0 ≤ i ∧ 0 ≤ j
        · rw [if_pos q]
          by_cases q1 : i.toNat < rows.length
          · have q2 := hr.2 _ (List.getElem_mem q1)
            rw [List.getD_eq_getElem?_getD, List.getElem?_eq_getElem q1, Option.getD_some, show (rows[i.toNat]).set j.toNat v = rows[i.toNat] from List.set_eq_of_length_le (by omega)]
            exact List.set_getElem_self _
          · rw [List.set_eq_of_length_le (by omega)]
        · rw [if_neg q]
      rw [e1, zput_id ha]
    · refine zx_iload_n (i := 2) dX9_set_22 rfl rfl ?_
      refine zx_if_lt (tgt := 38) dX9_set_23 (by decide) (fun h23 => ?_) (fun h23 => ?_)
      · refine zx_iconst (v := 0) dX9_set_38 rfl (z32_lit (by decide) (by decide)) ?_
        refine zx_istore (i := 5) dX9_set_39 (by decide) rfl ?_
        refine zx_L (L1 := [some (zR a), some (zI i), some (zI j), some (zI v), some (zI (zw ((zw (i * (c : Int))) + j))), some (zI 0)]) rfl ?_
        refine zx_iload (i := 5) dX9_set_41 rfl ?_
        refine zx_if_eq (tgt := 69) dX9_set_43 (by decide) (fun h43 => ?_) (fun h43 => absurd (by decide) h43)
        refine zx_close (t := t) (ow' := ow) h1a h1h g1 g4 g5 g6 ht ?_
        refine zx_w (w1 := w) (by rw [hw1, g3, z_close4 g7 g8, zput_id ha]) ?_
        refine zx_return dX9_set_69 rfl ?_
        refine zr_n ?_
        have e1 : ts rows i j v = rows := by
          unfold ts
          by_cases q : 0 ≤ i ∧ 0 ≤ j
          · rw [if_pos q]
            by_cases q1 : i.toNat < rows.length
            · have q2 := hr.2 _ (List.getElem_mem q1)
              rw [List.getD_eq_getElem?_getD, List.getElem?_eq_getElem q1, Option.getD_some, show (rows[i.toNat]).set j.toNat v = rows[i.toNat] from List.set_eq_of_length_le (by omega)]
              exact List.set_getElem_self _
            · rw [List.set_eq_of_length_le (by omega)]
          · rw [if_neg q]
        rw [e1, zput_id ha]
      · refine zx_iload_n (i := 2) dX9_set_26 rfl rfl ?_
        refine zx_aload_n (i := 0) dX9_set_27 rfl rfl ?_
        refine zx_getfield dX9_set_28 zf_X9_9 h1a rfl ?_
        refine zx_icmp_ge (tgt := 38) dX9_set_31 (by decide) (fun h31 => ?_) (fun h31 => ?_)
        · refine zx_iconst (v := 0) dX9_set_38 rfl (z32_lit (by decide) (by decide)) ?_
          refine zx_istore (i := 5) dX9_set_39 (by decide) rfl ?_
          refine zx_L (L1 := [some (zR a), some (zI i), some (zI j), some (zI v), some (zI (zw ((zw (i * (c : Int))) + j))), some (zI 0)]) rfl ?_
          refine zx_iload (i := 5) dX9_set_41 rfl ?_
          refine zx_if_eq (tgt := 69) dX9_set_43 (by decide) (fun h43 => ?_) (fun h43 => absurd (by decide) h43)
          refine zx_pc (pc1 := 69) rfl ?_
          refine zx_close (t := t) (ow' := ow) h1a h1h g1 g4 g5 g6 ht ?_
          refine zx_w (w1 := w) (by rw [hw1, g3, z_close4 g7 g8, zput_id ha]) ?_
          refine zx_return dX9_set_69 rfl ?_
          refine zr_n ?_
          have e1 : ts rows i j v = rows := by
            unfold ts
            by_cases q : 0 ≤ i ∧ 0 ≤ j
            · rw [if_pos q]
              by_cases q1 : i.toNat < rows.length
              · have q2 := hr.2 _ (List.getElem_mem q1)
                rw [List.getD_eq_getElem?_getD, List.getElem?_eq_getElem q1, Option.getD_some, show (rows[i.toNat]).set j.toNat v = rows[i.toNat] from List.set_eq_of_length_le (by omega)]
                exact List.set_getElem_self _
              · rw [List.set_eq_of_length_le (by omega)]
            · rw [if_neg q]
          rw [e1, zput_id ha]
        · refine zx_iconst (v := 1) dX9_set_34 rfl (z32_lit (by decide) (by decide)) ?_
          refine zx_goto (tgt := 39) dX9_set_35 (by decide) ?_
          refine zx_istore (i := 5) dX9_set_39 (by decide) rfl ?_
          refine zx_L (L1 := [some (zR a), some (zI i), some (zI j), some (zI v), some (zI (zw ((zw (i * (c : Int))) + j))), some (zI 1)]) rfl ?_
          refine zx_iload (i := 5) dX9_set_41 rfl ?_
          refine zx_pc (pc1 := 43) rfl ?_
          refine zx_if_eq (tgt := 69) dX9_set_43 (by decide) (fun h43 => absurd h43 (by decide)) (fun h43 => ?_)
          obtain ⟨LN, rfl⟩ : ∃ n : Nat, i = n := ⟨i.toNat, by omega⟩
          obtain ⟨KN, rfl⟩ : ∃ n : Nat, j = n := ⟨j.toNat, by omega⟩
          have hm := t_mul (c := c) (lines := rows.length) (L := LN) (K := KN) (by omega) (by omega)
          have hp := t_place (c := c) (lines := rows.length) (L := LN) (K := KN) (by omega) (by omega) (by omega)
          have hp2 : zw (zw ((LN : Int) * (c : Int)) + (KN : Int)) = ((LN * c + KN : Nat) : Int) := hp
          rw [hp2]
          refine zx_iload (i := 4) dX9_set_46 rfl ?_
          refine zx_if_lt (tgt := 69) dX9_set_48 (by decide) (fun h48 => absurd h48 (by omega)) (fun h48 => ?_)
          refine zx_iload (i := 4) dX9_set_51 rfl ?_
          refine zx_aload_n (i := 0) dX9_set_53 rfl rfl ?_
          refine zx_getfield dX9_set_54 zf_X9_16 h1a rfl ?_
          refine zx_alen (n := cap) dX9_set_57 h1h (by first | decide | omega) (by rw [zin_len]; exact g1) g6 ?_
          refine zx_icmp_ge (tgt := 69) dX9_set_58 (by decide) (fun h58 => absurd h58 (by omega)) (fun h58 => ?_)
          refine zx_aload_n (i := 0) dX9_set_61 rfl rfl ?_
          refine zx_getfield dX9_set_62 zf_X9_16 h1a rfl ?_
          refine zx_iload (i := 4) dX9_set_65 rfl ?_
          refine zx_iload_n (i := 3) dX9_set_67 rfl rfl ?_
          refine zx_pc (pc1 := 68) rfl ?_
          obtain ⟨w_1, hw_2⟩ : ∃ x, x = zput w1 h (100, a, (gs.set (LN * c + KN) v).map Sum.inl) := ⟨_, rfl⟩
          refine zx_ias (w1 := w_1) dX9_set_68 h1h (by first | decide | omega) (by omega) (by rw [zin_len]; omega) (by rw [hw_2, Int.toNat_natCast, zin_set]) ?_
          have h_3 : w_1.1 h = some (100, a, (gs.set (LN * c + KN) v).map Sum.inl) := by rw [hw_2]; exact zput_at
          have h_4 : w_1.1 a = some (9, ow, [zI (c : Int), zR h, zI (rows.length : Int)]) := by
            rw [hw_2]; exact zput_tg h1h h1a (by simp)
          refine zx_close (t := t) (ow' := ow) h_4 h_3 (by rw [List.length_set]; exact g1) g4 g5 g6 ht ?_
          refine zx_w (w1 := zput w a (t, ow, tTb c cap (ts rows (LN : Int) (KN : Int) v))) ?_ ?_
          · rw [hw_2, hw1, z_close5 g7 g8, List.take_set, g3, fl_set hr.2 (show KN < c by omega)]
            have e2 : ts rows (LN : Int) (KN : Int) v = rows.set LN ((rows.getD LN []).set KN v) := by
              unfold ts
              rw [if_pos ⟨by omega, by omega⟩, Int.toNat_natCast, Int.toNat_natCast]
            rw [e2]
          refine zx_return dX9_set_69 rfl ?_
          exact zr_n rfl
theorem z_cut {w : zW} {a h : Nat} {x x2 y p oh : zO} (hne : a ≠ h) (hh : w.1 h = some oh) : zput (zput (zput (zput (zput w a x) h y) a x2) a p) h oh = zput w a p := by
  rw [zput_put]; exact z_close4 hne hh
theorem c_X9_cut {a t ow c cap : Nat} {rows : List (List Int)} (ha : w.1 a = some (t, ow, tTb c cap rows)) (ht : 130 ≤ t ∧ t < 160) (hr : tOk c rows) (n : Int) : zM G zm_X9_cut d [zR a, zI n] w (zRet none (zput w a (t, ow, tTb c cap (tcut rows n)))) := by
  refine zx_ent (by decide +kernel) rfl (Nat.le_of_ble_eq_true rfl) ?_
  refine zx_L (L1 := [some (zR a), some (zI n)]) rfl ?_
  refine zx_open ha ht (fun h lines gs g1 g2 g3 g4 g5 g6 g7 g8 g9 => ?_)
  have e0 : lines = rows.length := by
    rw [fl_len hr.2] at g2
    exact (Nat.eq_of_mul_eq_mul_right hr.1 g2).symm
  subst e0
  obtain ⟨w1, hw1⟩ : ∃ x, x = zput (zput w a (9, ow, [zI (c : Int), zR h, zI (rows.length : Int)])) h (100, a, gs.map Sum.inl) := ⟨_, rfl⟩
  rw [← hw1]
  have h1a : w1.1 a = some (9, ow, [zI (c : Int), zR h, zI (rows.length : Int)]) := by rw [hw1]; exact zput_to g7 zput_at
  have h1h : w1.1 h = some (100, a, gs.map Sum.inl) := by rw [hw1]; exact zput_at
  have hc0 : 0 < c := hr.1
  refine zx_iload_n (i := 1) dX9_cut_0 rfl rfl ?_
  refine zx_if_lt (tgt := 17) dX9_cut_1 (by decide) (fun h1 => ?_) (fun h1 => ?_)
  · refine zx_close (t := t) (ow' := ow) h1a h1h g1 g4 g5 g6 ht ?_
    refine zx_w (w1 := w) (by rw [hw1, g3, z_close4 g7 g8, zput_id ha]) ?_
    refine zx_return dX9_cut_17 rfl ?_
    refine zr_n ?_
    have e1 : tcut rows n = rows := by
      unfold tcut
      by_cases q : 0 ≤ n
      · rw [if_pos q, List.take_of_length_le (by omega)]
      · rw [if_neg q]
    rw [e1, zput_id ha]
  · refine zx_iload_n (i := 1) dX9_cut_4 rfl rfl ?_
    refine zx_aload_n (i := 0) dX9_cut_5 rfl rfl ?_
    refine zx_getfield dX9_cut_6 zf_X9_20 h1a rfl ?_
    refine zx_icmp_ge (tgt := 17) dX9_cut_9 (by decide) (fun h9 => ?_) (fun h9 => ?_)
    · refine zx_close (t := t) (ow' := ow) h1a h1h g1 g4 g5 g6 ht ?_
      refine zx_w (w1 := w) (by rw [hw1, g3, z_close4 g7 g8, zput_id ha]) ?_
      refine zx_return dX9_cut_17 rfl ?_
      refine zr_n ?_
      have e1 : tcut rows n = rows := by
        unfold tcut
        by_cases q : 0 ≤ n
        · rw [if_pos q, List.take_of_length_le (by omega)]
        · rw [if_neg q]
      rw [e1, zput_id ha]
    · refine zx_aload_n (i := 0) dX9_cut_12 rfl rfl ?_
      refine zx_iload_n (i := 1) dX9_cut_13 rfl rfl ?_
      obtain ⟨w_1, hw_2⟩ : ∃ x, x = zput w1 a (9, ow, [zI (c : Int), zR h, zI n]) := ⟨_, rfl⟩
      refine zx_put (w1 := w_1) dX9_cut_14 zf_X9_20 h1a (Nat.le_of_ble_eq_true rfl) (zFt_int _) (fun h => by cases h) hw_2.symm ?_
      have h_3 : w_1.1 a = some (9, ow, [zI (c : Int), zR h, zI n]) := by rw [hw_2]; exact zput_at
      obtain ⟨LN, rfl⟩ : ∃ m : Nat, n = m := ⟨n.toNat, by omega⟩
      have hm : LN * c ≤ rows.length * c := Nat.mul_le_mul_right c (by omega)
      have h_4 : w_1.1 h = some (100, a, gs.map Sum.inl) := by
        rw [hw_2]; exact zput_tg h1a h1h (by simp)
      refine zx_close (t := t) (ow' := ow) (lines := LN) h_3 h_4 g1 (Nat.le_trans hm g4) g5 g6 ht ?_
      refine zx_w (w1 := zput w a (t, ow, tTb c cap (tcut rows (LN : Int)))) ?_ ?_
      · have e2 : gs.take (LN * c) = (rows.take LN).flatten := by
          rw [← fl_take hr.2, ← g3, List.take_take, Nat.min_eq_left hm]
        rw [hw_2, hw1, e2, z_cut g7 g8]
        unfold tcut
        rw [if_pos (by omega), Int.toNat_natCast]
      refine zx_return dX9_cut_17 rfl ?_
      exact zr_n rfl
theorem ts_len {rows : List (List Int)} {i j v : Int} : (ts rows i j v).length = rows.length := by unfold ts; split <;> simp
theorem tOk_ts {c : Nat} {rows : List (List Int)} {i j v : Int} (h : tOk c rows) : tOk c (ts rows i j v) := by
  refine ⟨h.1, fun r hr => ?_⟩
  unfold ts at hr
  split at hr
  · by_cases q : i.toNat < rows.length
    · rcases List.mem_or_eq_of_mem_set hr with e | e
      · exact h.2 r e
      · rw [e, List.length_set, List.getD_eq_getElem?_getD, List.getElem?_eq_getElem q, Option.getD_some]
        exact h.2 _ (List.getElem_mem q)
    · rw [List.set_eq_of_length_le (by omega)] at hr
      exact h.2 r hr
  · exact h.2 r hr
theorem tOk_app {c : Nat} {rows : List (List Int)} {r : List Int} (h : tOk c rows) (hr : r.length = c) : tOk c (rows ++ [r]) := ⟨h.1, fun x hx => by
  rcases List.mem_append.mp hx with q | q
  · exact h.2 x q
  · rw [List.mem_singleton.mp q]; exact hr⟩
theorem tOk_cut {c : Nat} {rows : List (List Int)} {n : Int} (h : tOk c rows) : tOk c (tcut rows n) := ⟨h.1, fun x hx => by
  unfold tcut at hx
  split at hx
  · exact h.2 x (List.mem_of_mem_take hx)
  · exact h.2 x hx⟩
theorem trow_len {c : Nat} {f s u : Int} : (trow c f s u).length = c := by
  unfold trow
  rw [List.length_take]
  simp
  omega
theorem ts_last {rows : List (List Int)} {r : List Int} {j : Nat} {v : Int} : ts (rows ++ [r]) (rows.length : Int) (j : Int) v = rows ++ [r.set j v] := by
  unfold ts
  rw [if_pos ⟨by omega, by omega⟩, Int.toNat_natCast, Int.toNat_natCast, List.set_append_right _ _ (by omega)]
  simp [List.getD_eq_getElem?_getD]
theorem ts_row3 {rows : List (List Int)} {r : List Int} {f s u : Int} : ts (ts (ts (rows ++ [r]) (rows.length : Int) 0 f) (rows.length : Int) 1 s) (rows.length : Int) 2 u = rows ++ [((r.set 0 f).set 1 s).set 2 u] := by
  have a0 : ts (rows ++ [r]) (rows.length : Int) 0 f = rows ++ [r.set 0 f] := ts_last (j := 0)
  have a1 : ts (rows ++ [r.set 0 f]) (rows.length : Int) 1 s = rows ++ [(r.set 0 f).set 1 s] := ts_last (j := 1)
  have a2 : ts (rows ++ [(r.set 0 f).set 1 s]) (rows.length : Int) 2 u = rows ++ [((r.set 0 f).set 1 s).set 2 u] := ts_last (j := 2)
  rw [a0, a1, a2]
theorem trow_set {c : Nat} {f s u : Int} (h : 0 < c) : ((((List.replicate c (-1)).set 0 f).set 1 s).set 2 u) = trow c f s u := by
  unfold trow
  match c, h with
  | 1, _ => rfl
  | 2, _ => rfl
  | c + 3, _ =>
    show f :: s :: u :: List.replicate c (-1) = f :: s :: u :: (List.replicate (c + 3) (-1)).take c
    rw [List.take_replicate, Nat.min_eq_left (by omega)]
theorem zfil_app {rows : List (List Int)} {gs : List Int} {c : Nat} (hl : rows.length * c + c ≤ gs.length) (h : gs.take (rows.length * c) = rows.flatten) : (zfil gs (rows.length * c) (rows.length * c + c) (-1)).take ((rows.length + 1) * c) = (rows ++ [List.replicate c (-1)]).flatten := by
  unfold zfil
  rw [h, Nat.add_sub_cancel_left, Nat.succ_mul, List.flatten_append, List.flatten_singleton, ← List.append_assoc]
  have e : rows.flatten.length = rows.length * c := by rw [← h, List.length_take]; omega
  rw [List.take_left' (by rw [List.length_append, List.length_replicate, e])]
theorem z_close6 {w : zW} {a h : Nat} {x y y2 x2 p oh : zO} (hne : a ≠ h) (hh : w.1 h = some oh) : zput (zput (zput (zput (zput (zput w a x) h y) h y2) a x2) a p) h oh = zput w a p := by
  rw [zput_put, zput_put]; exact z_close4 hne hh
/-- a table's cells are copied into a new array -/
theorem z_grow {w : zW} {a h h2 : Nat} {x x2 x3 p oh y z z2 : zO} {n : Nat} (hne : a ≠ h) (hh : w.1 h = some oh) (h2e : h2 = w.2.1) (hn1 : h2 ≠ a) (hn2 : h2 ≠ h) (z3 : zO) : zput (zput (zput (zput (zput (zput (znew (zput (zput w a x) h y) z n) a x2) h oh) h2 z2) a x3) a p) h2 z3 = zput (znew w z3 n) a p := by
  unfold zput znew zup
  refine Prod.ext ?_ rfl
  subst h2e
  funext b
  by_cases c1 : b = w.2.1
  · subst c1; simp [hn1]
  · by_cases c2 : b = a
    · subst c2; simp [c1]
    · by_cases c3 : b = h
      · subst c3; simp [c1, c2, hh]
      · simp [c1, c2, c3]
def tAw (w : zW) (a t ow c cap : Nat) (rows : List (List Int)) (r : List Int) : zW :=
  if rows.length * c + c ≤ cap then zput w a (t, ow, tTb c cap (rows ++ [r])) else zput (znew w (199, a, []) (2 * (rows.length * c + c))) a (t, ow, tTb c (2 * (rows.length * c + c)) (rows ++ [r]))
theorem c_X9_add {a t ow c cap : Nat} {rows : List (List Int)} (ha : w.1 a = some (t, ow, tTb c cap rows)) (ht : 130 ≤ t ∧ t < 160) (hr : tOk c rows) (hto : rows.length * c + c < 1000000) (hrm : rows.length * c + c ≤ cap ∨ (w.2.1 + 1 ≤ G.2.2.2.2.1 ∧ w.2.2 + 2 * (rows.length * c + c) ≤ G.2.2.2.2.2)) (f s u : Int) : zM G zm_X9_add (d + 2) [zR a, zI f, zI s, zI u] w (zRet (some (zI (rows.length : Int))) (tAw w a t ow c cap rows (trow c f s u))) := by
  refine zx_ent (by decide +kernel) rfl (Nat.le_of_ble_eq_true rfl) ?_
  refine zx_ok (fun ok0 => ?_)
  refine zx_L (L1 := [some (zR a), some (zI f), some (zI s), some (zI u), none, none]) rfl ?_
  refine zx_open ha ht (fun h lines gs g1 g2 g3 g4 g5 g6 g7 g8 g9 => ?_)
  have e0 : lines = rows.length := by
    rw [fl_len hr.2] at g2
    exact (Nat.eq_of_mul_eq_mul_right hr.1 g2).symm
  subst e0
  obtain ⟨w1, hw1⟩ : ∃ x, x = zput (zput w a (9, ow, [zI (c : Int), zR h, zI (rows.length : Int)])) h (100, a, gs.map Sum.inl) := ⟨_, rfl⟩
  rw [← hw1]
  have h1a : w1.1 a = some (9, ow, [zI (c : Int), zR h, zI (rows.length : Int)]) := by rw [hw1]; exact zput_to g7 zput_at
  have h1h : w1.1 h = some (100, a, gs.map Sum.inl) := by rw [hw1]; exact zput_at
  have hc0 : 0 < c := hr.1
  have hw21 : w1.2.1 = w.2.1 := by rw [hw1]; rfl
  have hw22 : w1.2.2 = w.2.2 := by rw [hw1]; rfl
  have hlc : rows.length ≤ rows.length * c := Nat.le_mul_of_pos_right _ hr.1
  refine zx_aload_n (i := 0) dX9_add_0 rfl rfl ?_
  refine zx_getfield dX9_add_1 zf_X9_20 h1a rfl ?_
  refine zx_aload_n (i := 0) dX9_add_4 rfl rfl ?_
  refine zx_getfield dX9_add_5 zf_X9_9 h1a rfl ?_
  refine zx_imul (v := ((rows.length * c : Nat) : Int)) dX9_add_8 (zw_eq (by simp) (by omega) (by omega)) ?_
  refine zx_istore (i := 4) dX9_add_9 (by decide) rfl ?_
  refine zx_L (L1 := [some (zR a), some (zI f), some (zI s), some (zI u), some (zI ((rows.length * c : Nat) : Int)), none]) rfl ?_
  refine zx_iload (i := 4) dX9_add_11 rfl ?_
  refine zx_aload_n (i := 0) dX9_add_13 rfl rfl ?_
  refine zx_getfield dX9_add_14 zf_X9_9 h1a rfl ?_
  refine zx_iadd (v := ((rows.length * c + c : Nat) : Int)) dX9_add_17 (zw_eq (by simp) (by omega) (by omega)) ?_
  refine zx_istore (i := 5) dX9_add_18 (by decide) rfl ?_
  refine zx_L (L1 := [some (zR a), some (zI f), some (zI s), some (zI u), some (zI ((rows.length * c : Nat) : Int)), some (zI ((rows.length * c + c : Nat) : Int))]) rfl ?_
  refine zx_pc (pc1 := 20) rfl ?_
  refine zx_iload (i := 5) dX9_add_20 rfl ?_
  refine zx_aload_n (i := 0) dX9_add_22 rfl rfl ?_
  refine zx_getfield dX9_add_23 zf_X9_16 h1a rfl ?_
  refine zx_alen (n := cap) dX9_add_26 h1h (by first | decide | omega) (by rw [zin_len]; exact g1) g6 ?_
  refine zx_icmp_le (tgt := 52) dX9_add_27 (by decide) (fun h27 => ?_) (fun h27 => ?_)
  · refine zx_iload (i := 4) dX9_add_52 rfl ?_
    refine zx_if_lt (tgt := 67) dX9_add_54 (by decide) (fun h54 => absurd h54 (by omega)) (fun h54 => ?_)
    refine zx_iload (i := 5) dX9_add_57 rfl ?_
    refine zx_aload_n (i := 0) dX9_add_59 rfl rfl ?_
    refine zx_getfield dX9_add_60 zf_X9_16 h1a rfl ?_
    refine zx_alen (n := cap) dX9_add_63 h1h (by first | decide | omega) (by rw [zin_len]; exact g1) g6 ?_
    refine zx_icmp_le (tgt := 69) dX9_add_64 (by decide) (fun h64 => ?_) (fun h64 => absurd (by simp; omega) h64)
    refine zx_pc (pc1 := 69) rfl ?_
    refine zx_aload_n (i := 0) dX9_add_69 rfl rfl ?_
    refine zx_getfield dX9_add_70 zf_X9_16 h1a rfl ?_
    refine zx_iload (i := 4) dX9_add_73 rfl ?_
    refine zx_iload (i := 5) dX9_add_75 rfl ?_
    refine zx_iconst (v := -1) dX9_add_77 rfl (z32_lit (by decide) (by decide)) ?_
    obtain ⟨w_1, hw_2⟩ : ∃ x, x = zput w1 h (100, a, (zfil gs (rows.length * c) (rows.length * c + c) (-1)).map Sum.inl) := ⟨_, rfl⟩
    refine zx_is (As := [zR h, zI ((rows.length * c : Nat) : Int), zI ((rows.length * c + c : Nat) : Int), zI (-1)]) (st := []) (v := none) (w1 := w_1) dX9_add_78 zc_X9_29 rfl (Nat.le_of_ble_eq_true rfl) rfl (by rw [hw_2]; exact (c_fill5 h1h (by decide) (by first | omega | (simp; omega)) (rows.length * c) (rows.length * c + c) (by omega) (by first | omega | (simp; omega)) (-1))) ?_
    have h_3 : w_1.1 h = some (100, a, (zfil gs (rows.length * c) (rows.length * c + c) (-1)).map Sum.inl) := by rw [hw_2]; exact zput_at
    refine zx_st (st1 := []) rfl ?_
    refine zx_aload_n (i := 0) dX9_add_81 rfl rfl ?_
    refine zx_dup dX9_add_82 (fun a h => by cases h) ?_
    have h_4 : w_1.1 a = some (9, ow, [zI (c : Int), zR h, zI (rows.length : Int)]) := by
      rw [hw_2]; exact zput_tg h1h h1a (by simp)
    refine zx_getfield dX9_add_83 zf_X9_20 h_4 rfl ?_
    refine zx_iconst (v := 1) dX9_add_86 rfl (z32_lit (by decide) (by decide)) ?_
    refine zx_iadd (v := ((rows.length + 1 : Nat) : Int)) dX9_add_87 (zw_eq (by simp) (by omega) (by omega)) ?_
    obtain ⟨w_5, hw_6⟩ : ∃ x, x = zput w_1 a (9, ow, [zI (c : Int), zR h, zI ((rows.length + 1 : Nat) : Int)]) := ⟨_, rfl⟩
    refine zx_put (w1 := w_5) dX9_add_88 zf_X9_20 h_4 (Nat.le_of_ble_eq_true rfl) (zFt_int _) (fun h => by cases h) hw_6.symm ?_
    have h_7 : w_5.1 a = some (9, ow, [zI (c : Int), zR h, zI ((rows.length + 1 : Nat) : Int)]) := by rw [hw_6]; exact zput_at
    refine zx_pc (pc1 := 91) rfl ?_
    have h_8 : w_5.1 h = some (100, a, (zfil gs (rows.length * c) (rows.length * c + c) (-1)).map Sum.inl) := by
      rw [hw_6]; exact zput_tg h_4 h_3 (by simp)
    refine zx_close (t := t) (ow' := ow) (cap := cap) (lines := rows.length + 1) h_7 h_8 (by rw [zfil_len (by omega) (by omega)]; exact g1) (by rw [Nat.succ_mul]; omega) g5 g6 ht ?_
    obtain ⟨wC, hwC⟩ : ∃ x, x = zput w a (t, ow, tTb c cap (rows ++ [List.replicate c (-1)])) := ⟨_, rfl⟩
    refine zx_w (w1 := wC) (by rw [hwC, hw_6, hw_2, hw1, zfil_app (by omega) g3, z_close6 g7 g8]) ?_
    have hC : wC.1 a = some (t, ow, tTb c cap (rows ++ [List.replicate c (-1)])) := by rw [hwC]; exact zput_at
    refine zx_aload_n (i := 0) dX9_add_91 rfl rfl ?_
    refine zx_aload_n (i := 0) dX9_add_92 rfl rfl ?_
    refine zx_tlines dX9_add_93 zf_X9_20 hC ht (by first | exact tOk_ts (tOk_ts (tOk_ts (tOk_app hr (by simp)))) | exact tOk_ts (tOk_ts (tOk_app hr (by simp))) | exact tOk_ts (tOk_app hr (by simp)) | exact tOk_app hr (by simp)) ?_
    refine zx_st (st1 := [zI ((rows.length : Int) + 1), zR a]) (by congr 2; simp [ts_len]) ?_
    refine zx_iconst (v := 1) dX9_add_96 rfl (z32_lit (by decide) (by decide)) ?_
    refine zx_isub (v := (rows.length : Int)) dX9_add_97 (zw_eq (by omega) (by omega) (by omega)) ?_
    refine zx_iconst (v := 0) dX9_add_98 rfl (z32_lit (by decide) (by decide)) ?_
    refine zx_iload_n (i := 1) dX9_add_99 rfl rfl ?_
    obtain ⟨w_9, hw_10⟩ : ∃ x, x = zput wC a (t, ow, tTb c cap (ts (rows ++ [List.replicate c (-1)]) (rows.length : Int) 0 f)) := ⟨_, rfl⟩
    refine zx_iv (b := a) (As := [zI (rows.length : Int), zI 0, zI f]) (st := []) (v := none) (w1 := w_9) dX9_add_100 zc_X9_33 hC (z_cls9 ht) rfl rfl (Nat.le_of_ble_eq_true rfl) rfl (by rw [hw_10]; exact (c_X9_set hC ht (by first | exact tOk_ts (tOk_ts (tOk_app hr (by simp))) | exact tOk_ts (tOk_app hr (by simp)) | exact tOk_app hr (by simp)) (rows.length : Int) 0 f)) ?_
    have h_11 : w_9.1 a = some (t, ow, tTb c cap (ts (rows ++ [List.replicate c (-1)]) (rows.length : Int) 0 f)) := by rw [hw_10]; exact zput_at
    refine zx_st (st1 := []) rfl ?_
    refine zx_aload_n (i := 0) dX9_add_103 rfl rfl ?_
    refine zx_aload_n (i := 0) dX9_add_104 rfl rfl ?_
    refine zx_tlines dX9_add_105 zf_X9_20 h_11 ht (by first | exact tOk_ts (tOk_ts (tOk_ts (tOk_app hr (by simp)))) | exact tOk_ts (tOk_ts (tOk_app hr (by simp))) | exact tOk_ts (tOk_app hr (by simp)) | exact tOk_app hr (by simp)) ?_
    refine zx_st (st1 := [zI ((rows.length : Int) + 1), zR a]) (by congr 2; simp [ts_len]) ?_
    refine zx_iconst (v := 1) dX9_add_108 rfl (z32_lit (by decide) (by decide)) ?_
    refine zx_pc (pc1 := 109) rfl ?_
    refine zx_isub (v := (rows.length : Int)) dX9_add_109 (zw_eq (by omega) (by omega) (by omega)) ?_
    refine zx_iconst (v := 1) dX9_add_110 rfl (z32_lit (by decide) (by decide)) ?_
    refine zx_iload_n (i := 2) dX9_add_111 rfl rfl ?_
    obtain ⟨w_12, hw_13⟩ : ∃ x, x = zput w_9 a (t, ow, tTb c cap (ts (ts (rows ++ [List.replicate c (-1)]) (rows.length : Int) 0 f) (rows.length : Int) 1 s)) := ⟨_, rfl⟩
    refine zx_iv (b := a) (As := [zI (rows.length : Int), zI 1, zI s]) (st := []) (v := none) (w1 := w_12) dX9_add_112 zc_X9_33 h_11 (z_cls9 ht) rfl rfl (Nat.le_of_ble_eq_true rfl) rfl (by rw [hw_13]; exact (c_X9_set h_11 ht (by first | exact tOk_ts (tOk_ts (tOk_app hr (by simp))) | exact tOk_ts (tOk_app hr (by simp)) | exact tOk_app hr (by simp)) (rows.length : Int) 1 s)) ?_
    have h_14 : w_12.1 a = some (t, ow, tTb c cap (ts (ts (rows ++ [List.replicate c (-1)]) (rows.length : Int) 0 f) (rows.length : Int) 1 s)) := by rw [hw_13]; exact zput_at
    refine zx_st (st1 := []) rfl ?_
    refine zx_aload_n (i := 0) dX9_add_115 rfl rfl ?_
    refine zx_aload_n (i := 0) dX9_add_116 rfl rfl ?_
    refine zx_tlines dX9_add_117 zf_X9_20 h_14 ht (by first | exact tOk_ts (tOk_ts (tOk_ts (tOk_app hr (by simp)))) | exact tOk_ts (tOk_ts (tOk_app hr (by simp))) | exact tOk_ts (tOk_app hr (by simp)) | exact tOk_app hr (by simp)) ?_
    refine zx_st (st1 := [zI ((rows.length : Int) + 1), zR a]) (by congr 2; simp [ts_len]) ?_
    refine zx_iconst (v := 1) dX9_add_120 rfl (z32_lit (by decide) (by decide)) ?_
    refine zx_isub (v := (rows.length : Int)) dX9_add_121 (zw_eq (by omega) (by omega) (by omega)) ?_
    refine zx_iconst (v := 2) dX9_add_122 rfl (z32_lit (by decide) (by decide)) ?_
    refine zx_iload_n (i := 3) dX9_add_123 rfl rfl ?_
    obtain ⟨w_15, hw_16⟩ : ∃ x, x = zput w_12 a (t, ow, tTb c cap (ts (ts (ts (rows ++ [List.replicate c (-1)]) (rows.length : Int) 0 f) (rows.length : Int) 1 s) (rows.length : Int) 2 u)) := ⟨_, rfl⟩
    refine zx_iv (b := a) (As := [zI (rows.length : Int), zI 2, zI u]) (st := []) (v := none) (w1 := w_15) dX9_add_124 zc_X9_33 h_14 (z_cls9 ht) rfl rfl (Nat.le_of_ble_eq_true rfl) rfl (by rw [hw_16]; exact (c_X9_set h_14 ht (by first | exact tOk_ts (tOk_ts (tOk_app hr (by simp))) | exact tOk_ts (tOk_app hr (by simp)) | exact tOk_app hr (by simp)) (rows.length : Int) 2 u)) ?_
    have h_17 : w_15.1 a = some (t, ow, tTb c cap (ts (ts (ts (rows ++ [List.replicate c (-1)]) (rows.length : Int) 0 f) (rows.length : Int) 1 s) (rows.length : Int) 2 u)) := by rw [hw_16]; exact zput_at
    refine zx_st (st1 := []) rfl ?_
    refine zx_pc (pc1 := 127) rfl ?_
    refine zx_aload_n (i := 0) dX9_add_127 rfl rfl ?_
    refine zx_tlines dX9_add_128 zf_X9_20 h_17 ht (by first | exact tOk_ts (tOk_ts (tOk_ts (tOk_app hr (by simp)))) | exact tOk_ts (tOk_ts (tOk_app hr (by simp))) | exact tOk_ts (tOk_app hr (by simp)) | exact tOk_app hr (by simp)) ?_
    refine zx_st (st1 := [zI ((rows.length : Int) + 1)]) (by congr 2; simp [ts_len]) ?_
    refine zx_iconst (v := 1) dX9_add_131 rfl (z32_lit (by decide) (by decide)) ?_
    refine zx_isub (v := (rows.length : Int)) dX9_add_132 (zw_eq (by omega) (by omega) (by omega)) ?_
    refine zx_iret dX9_add_133 rfl ?_
    refine zr_v rfl ?_
    unfold tAw
    rw [hw_16, hw_13, hw_10, hwC, zput_put, zput_put, zput_put, if_pos (by omega)]
    rw [ts_row3, trow_set hr.1]
  · refine zx_iload (i := 5) dX9_add_30 rfl ?_
    refine zx_ldc (v := 1000000) dX9_add_32 zk_X9_15 (by decide +kernel) (z32_lit (by decide) (by decide)) ?_
    refine zx_icmp_ge (tgt := 52) dX9_add_34 (by decide) (fun h34 => absurd h34 (by omega)) (fun h34 => ?_)
    refine zx_aload_n (i := 0) dX9_add_37 rfl rfl ?_
    refine zx_aload_n (i := 0) dX9_add_38 rfl rfl ?_
    refine zx_getfield dX9_add_39 zf_X9_16 h1a rfl ?_
    refine zx_iconst (v := 2) dX9_add_42 rfl (z32_lit (by decide) (by decide)) ?_
    refine zx_pc (pc1 := 43) rfl ?_
    refine zx_iload (i := 5) dX9_add_43 rfl ?_
    refine zx_imul (v := ((2 * (rows.length * c + c) : Nat) : Int)) dX9_add_45 (zw_eq (by simp) (by omega) (by omega)) ?_
    refine zx_ok (fun ok_18 => ?_)
    obtain ⟨w_19, hw_20⟩ : ∃ x, x = znew w1 (100, 0, (gs ++ List.replicate (2 * (rows.length * c + c) - gs.length) 0).map Sum.inl) (2 * (rows.length * c + c)) := ⟨_, rfl⟩
    obtain ⟨a_21, ha_22⟩ : ∃ x, x = w1.2.1 := ⟨_, rfl⟩
    refine zx_is (As := [zR h, zI ((2 * (rows.length * c + c) : Nat) : Int)]) (st := [zR a]) (v := (some (zR a_21))) (w1 := w_19) dX9_add_46 zc_X9_23 rfl (Nat.le_of_ble_eq_true rfl) rfl (by rw [hw_20, ha_22]; exact (c_copyOf h1h (by decide) (2 * (rows.length * c + c)) (by omega) (by omega) (by omega) (by omega))) ?_
    have h_23 : w_19.1 a_21 = some (100, 0, (gs ++ List.replicate (2 * (rows.length * c + c) - gs.length) 0).map Sum.inl) := by rw [hw_20, ha_22]; exact znew_at
    refine zx_st (st1 := [zR a_21, zR a]) rfl ?_
    have h_24 : w_19.1 a = some (9, ow, [zI (c : Int), zR h, zI (rows.length : Int)]) := by
      rw [hw_20]; exact znew_to (ok_18 _ _ h1a) h1a
    obtain ⟨w_25, hw_26⟩ : ∃ x, x = zput w_19 a (9, ow, [zI (c : Int), zR a_21, zI (rows.length : Int)]) := ⟨_, rfl⟩
    refine zx_put (w1 := w_25) dX9_add_49 zf_X9_16 h_24 (Nat.le_of_ble_eq_true rfl) (zFt_arr _ _) (fun h => by cases h) hw_26.symm ?_
    have h_27 : w_25.1 a = some (9, ow, [zI (c : Int), zR a_21, zI (rows.length : Int)]) := by rw [hw_26]; exact zput_at
    have h_28 : w_19.1 h = some (100, a, gs.map Sum.inl) := by
      rw [hw_20]; exact znew_to (ok_18 _ _ h1h) h1h
    have h_29 : w_25.1 h = some (100, a, gs.map Sum.inl) := by
      rw [hw_26]; exact zput_tg h_24 h_28 (by simp)
    have hn_30 : a_21 ≠ h := by rw [ha_22, hw21]; exact Nat.ne_of_gt (ok0 _ _ g8)
    refine zx_hide a h_29 (by simp) ?_
    obtain ⟨w_31, hw_32⟩ : ∃ x, x = zput w_25 h (199, a, []) := ⟨_, rfl⟩
    rw [← hw_32]
    refine zx_iload (i := 4) dX9_add_52 rfl ?_
    refine zx_if_lt (tgt := 67) dX9_add_54 (by decide) (fun h54 => absurd h54 (by omega)) (fun h54 => ?_)
    refine zx_iload (i := 5) dX9_add_57 rfl ?_
    refine zx_aload_n (i := 0) dX9_add_59 rfl rfl ?_
    have h_33 : w_31.1 a = some (9, ow, [zI (c : Int), zR a_21, zI (rows.length : Int)]) := by
      rw [hw_32]; exact zput_tg h_29 h_27 (by simp)
    refine zx_getfield dX9_add_60 zf_X9_16 h_33 rfl ?_
    have h_34 : w_25.1 a_21 = some (100, 0, (gs ++ List.replicate (2 * (rows.length * c + c) - gs.length) 0).map Sum.inl) := by
      rw [hw_26]; exact zput_tg h_24 h_23 (by simp)
    have h_35 : w_31.1 a_21 = some (100, 0, (gs ++ List.replicate (2 * (rows.length * c + c) - gs.length) 0).map Sum.inl) := by
      rw [hw_32]; exact zput_to (by first | assumption | exact Ne.symm (by assumption)) h_34
    refine zx_alen (n := 2 * (rows.length * c + c)) dX9_add_63 h_35 (by first | decide | omega) (by simp; omega) (by omega) ?_
    refine zx_icmp_le (tgt := 69) dX9_add_64 (by decide) (fun h64 => ?_) (fun h64 => absurd (by simp; omega) h64)
    refine zx_aload_n (i := 0) dX9_add_69 rfl rfl ?_
    refine zx_pc (pc1 := 70) rfl ?_
    refine zx_getfield dX9_add_70 zf_X9_16 h_33 rfl ?_
    refine zx_iload (i := 4) dX9_add_73 rfl ?_
    refine zx_iload (i := 5) dX9_add_75 rfl ?_
    refine zx_iconst (v := -1) dX9_add_77 rfl (z32_lit (by decide) (by decide)) ?_
    obtain ⟨w_36, hw_37⟩ : ∃ x, x = zput w_31 a_21 (100, 0, (zfil (gs ++ List.replicate (2 * (rows.length * c + c) - gs.length) 0) (rows.length * c) (rows.length * c + c) (-1)).map Sum.inl) := ⟨_, rfl⟩
    refine zx_is (As := [zR a_21, zI ((rows.length * c : Nat) : Int), zI ((rows.length * c + c : Nat) : Int), zI (-1)]) (st := []) (v := none) (w1 := w_36) dX9_add_78 zc_X9_29 rfl (Nat.le_of_ble_eq_true rfl) rfl (by rw [hw_37]; exact (c_fill5 h_35 (by decide) (by first | omega | (simp; omega)) (rows.length * c) (rows.length * c + c) (by omega) (by first | omega | (simp; omega)) (-1))) ?_
    have h_38 : w_36.1 a_21 = some (100, 0, (zfil (gs ++ List.replicate (2 * (rows.length * c + c) - gs.length) 0) (rows.length * c) (rows.length * c + c) (-1)).map Sum.inl) := by rw [hw_37]; exact zput_at
    refine zx_st (st1 := []) rfl ?_
    refine zx_aload_n (i := 0) dX9_add_81 rfl rfl ?_
    refine zx_dup dX9_add_82 (fun a h => by cases h) ?_
    have h_39 : w_36.1 a = some (9, ow, [zI (c : Int), zR a_21, zI (rows.length : Int)]) := by
      rw [hw_37]; exact zput_tg h_35 h_33 (by simp)
    refine zx_getfield dX9_add_83 zf_X9_20 h_39 rfl ?_
    refine zx_iconst (v := 1) dX9_add_86 rfl (z32_lit (by decide) (by decide)) ?_
    refine zx_iadd (v := ((rows.length + 1 : Nat) : Int)) dX9_add_87 (zw_eq (by simp) (by omega) (by omega)) ?_
    obtain ⟨w_40, hw_41⟩ : ∃ x, x = zput w_36 a (9, ow, [zI (c : Int), zR a_21, zI ((rows.length + 1 : Nat) : Int)]) := ⟨_, rfl⟩
    refine zx_put (w1 := w_40) dX9_add_88 zf_X9_20 h_39 (Nat.le_of_ble_eq_true rfl) (zFt_int _) (fun h => by cases h) hw_41.symm ?_
    have h_42 : w_40.1 a = some (9, ow, [zI (c : Int), zR a_21, zI ((rows.length + 1 : Nat) : Int)]) := by rw [hw_41]; exact zput_at
    have hq1 := ok0 _ _ ha
    have hq2 := ok0 _ _ g8
    have h_43 : w_40.1 a_21 = some (100, 0, (zfil (gs ++ List.replicate (2 * (rows.length * c + c) - gs.length) 0) (rows.length * c) (rows.length * c + c) (-1)).map Sum.inl) := by
      rw [hw_41]; exact zput_tg h_39 h_38 (by simp)
    refine zx_close (t := t) (ow' := ow) (cap := 2 * (rows.length * c + c)) (lines := rows.length + 1) h_42 h_43 (by rw [zfil_len (by omega) (by simp; omega)]; simp; omega) (by rw [Nat.succ_mul]; omega) g5 (by omega) ht ?_
    obtain ⟨wC, hwC⟩ : ∃ x, x = zput (znew w (199, a, []) (2 * (rows.length * c + c))) a (t, ow, tTb c (2 * (rows.length * c + c)) (rows ++ [List.replicate c (-1)])) := ⟨_, rfl⟩
    have e6 : (gs ++ List.replicate (2 * (rows.length * c + c) - gs.length) 0).take (rows.length * c) = rows.flatten := by rw [List.take_append_of_le_length (by omega), g3]
    refine zx_w (w1 := wC) (by rw [hwC, hw_41, hw_37, hw_32, hw_26, hw_20, hw1, zfil_app (by simp; omega) e6]; exact z_grow g7 g8 (by rw [ha_22, show w1.2.1 = w1.2.1 from rfl, hw1]; rfl) (by rw [ha_22, show w1.2.1 = w1.2.1 from rfl, hw1]; exact Nat.ne_of_gt hq1) (by rw [ha_22, show w1.2.1 = w1.2.1 from rfl, hw1]; exact Nat.ne_of_gt hq2) _) ?_
    have hC : wC.1 a = some (t, ow, tTb c (2 * (rows.length * c + c)) (rows ++ [List.replicate c (-1)])) := by rw [hwC]; exact zput_at
    refine zx_aload_n (i := 0) dX9_add_91 rfl rfl ?_
    refine zx_pc (pc1 := 92) rfl ?_
    refine zx_aload_n (i := 0) dX9_add_92 rfl rfl ?_
    refine zx_tlines dX9_add_93 zf_X9_20 hC ht (by first | exact tOk_ts (tOk_ts (tOk_ts (tOk_app hr (by simp)))) | exact tOk_ts (tOk_ts (tOk_app hr (by simp))) | exact tOk_ts (tOk_app hr (by simp)) | exact tOk_app hr (by simp)) ?_
    refine zx_st (st1 := [zI ((rows.length : Int) + 1), zR a]) (by congr 2; simp [ts_len]) ?_
    refine zx_iconst (v := 1) dX9_add_96 rfl (z32_lit (by decide) (by decide)) ?_
    refine zx_isub (v := (rows.length : Int)) dX9_add_97 (zw_eq (by omega) (by omega) (by omega)) ?_
    refine zx_iconst (v := 0) dX9_add_98 rfl (z32_lit (by decide) (by decide)) ?_
    refine zx_iload_n (i := 1) dX9_add_99 rfl rfl ?_
    obtain ⟨w_44, hw_45⟩ : ∃ x, x = zput wC a (t, ow, tTb c (2 * (rows.length * c + c)) (ts (rows ++ [List.replicate c (-1)]) (rows.length : Int) 0 f)) := ⟨_, rfl⟩
    refine zx_iv (b := a) (As := [zI (rows.length : Int), zI 0, zI f]) (st := []) (v := none) (w1 := w_44) dX9_add_100 zc_X9_33 hC (z_cls9 ht) rfl rfl (Nat.le_of_ble_eq_true rfl) rfl (by rw [hw_45]; exact (c_X9_set hC ht (by first | exact tOk_ts (tOk_ts (tOk_app hr (by simp))) | exact tOk_ts (tOk_app hr (by simp)) | exact tOk_app hr (by simp)) (rows.length : Int) 0 f)) ?_
    have h_46 : w_44.1 a = some (t, ow, tTb c (2 * (rows.length * c + c)) (ts (rows ++ [List.replicate c (-1)]) (rows.length : Int) 0 f)) := by rw [hw_45]; exact zput_at
    refine zx_st (st1 := []) rfl ?_
    refine zx_aload_n (i := 0) dX9_add_103 rfl rfl ?_
    refine zx_aload_n (i := 0) dX9_add_104 rfl rfl ?_
    refine zx_tlines dX9_add_105 zf_X9_20 h_46 ht (by first | exact tOk_ts (tOk_ts (tOk_ts (tOk_app hr (by simp)))) | exact tOk_ts (tOk_ts (tOk_app hr (by simp))) | exact tOk_ts (tOk_app hr (by simp)) | exact tOk_app hr (by simp)) ?_
    refine zx_st (st1 := [zI ((rows.length : Int) + 1), zR a]) (by congr 2; simp [ts_len]) ?_
    refine zx_iconst (v := 1) dX9_add_108 rfl (z32_lit (by decide) (by decide)) ?_
    refine zx_isub (v := (rows.length : Int)) dX9_add_109 (zw_eq (by omega) (by omega) (by omega)) ?_
    refine zx_pc (pc1 := 110) rfl ?_
    refine zx_iconst (v := 1) dX9_add_110 rfl (z32_lit (by decide) (by decide)) ?_
    refine zx_iload_n (i := 2) dX9_add_111 rfl rfl ?_
    obtain ⟨w_47, hw_48⟩ : ∃ x, x = zput w_44 a (t, ow, tTb c (2 * (rows.length * c + c)) (ts (ts (rows ++ [List.replicate c (-1)]) (rows.length : Int) 0 f) (rows.length : Int) 1 s)) := ⟨_, rfl⟩
    refine zx_iv (b := a) (As := [zI (rows.length : Int), zI 1, zI s]) (st := []) (v := none) (w1 := w_47) dX9_add_112 zc_X9_33 h_46 (z_cls9 ht) rfl rfl (Nat.le_of_ble_eq_true rfl) rfl (by rw [hw_48]; exact (c_X9_set h_46 ht (by first | exact tOk_ts (tOk_ts (tOk_app hr (by simp))) | exact tOk_ts (tOk_app hr (by simp)) | exact tOk_app hr (by simp)) (rows.length : Int) 1 s)) ?_
    have h_49 : w_47.1 a = some (t, ow, tTb c (2 * (rows.length * c + c)) (ts (ts (rows ++ [List.replicate c (-1)]) (rows.length : Int) 0 f) (rows.length : Int) 1 s)) := by rw [hw_48]; exact zput_at
    refine zx_st (st1 := []) rfl ?_
    refine zx_aload_n (i := 0) dX9_add_115 rfl rfl ?_
    refine zx_aload_n (i := 0) dX9_add_116 rfl rfl ?_
    refine zx_tlines dX9_add_117 zf_X9_20 h_49 ht (by first | exact tOk_ts (tOk_ts (tOk_ts (tOk_app hr (by simp)))) | exact tOk_ts (tOk_ts (tOk_app hr (by simp))) | exact tOk_ts (tOk_app hr (by simp)) | exact tOk_app hr (by simp)) ?_
    refine zx_st (st1 := [zI ((rows.length : Int) + 1), zR a]) (by congr 2; simp [ts_len]) ?_
    refine zx_iconst (v := 1) dX9_add_120 rfl (z32_lit (by decide) (by decide)) ?_
    refine zx_isub (v := (rows.length : Int)) dX9_add_121 (zw_eq (by omega) (by omega) (by omega)) ?_
    refine zx_iconst (v := 2) dX9_add_122 rfl (z32_lit (by decide) (by decide)) ?_
    refine zx_iload_n (i := 3) dX9_add_123 rfl rfl ?_
    obtain ⟨w_50, hw_51⟩ : ∃ x, x = zput w_47 a (t, ow, tTb c (2 * (rows.length * c + c)) (ts (ts (ts (rows ++ [List.replicate c (-1)]) (rows.length : Int) 0 f) (rows.length : Int) 1 s) (rows.length : Int) 2 u)) := ⟨_, rfl⟩
    refine zx_iv (b := a) (As := [zI (rows.length : Int), zI 2, zI u]) (st := []) (v := none) (w1 := w_50) dX9_add_124 zc_X9_33 h_49 (z_cls9 ht) rfl rfl (Nat.le_of_ble_eq_true rfl) rfl (by rw [hw_51]; exact (c_X9_set h_49 ht (by first | exact tOk_ts (tOk_ts (tOk_app hr (by simp))) | exact tOk_ts (tOk_app hr (by simp)) | exact tOk_app hr (by simp)) (rows.length : Int) 2 u)) ?_
    have h_52 : w_50.1 a = some (t, ow, tTb c (2 * (rows.length * c + c)) (ts (ts (ts (rows ++ [List.replicate c (-1)]) (rows.length : Int) 0 f) (rows.length : Int) 1 s) (rows.length : Int) 2 u)) := by rw [hw_51]; exact zput_at
    refine zx_st (st1 := []) rfl ?_
    refine zx_aload_n (i := 0) dX9_add_127 rfl rfl ?_
    refine zx_pc (pc1 := 128) rfl ?_
    refine zx_tlines dX9_add_128 zf_X9_20 h_52 ht (by first | exact tOk_ts (tOk_ts (tOk_ts (tOk_app hr (by simp)))) | exact tOk_ts (tOk_ts (tOk_app hr (by simp))) | exact tOk_ts (tOk_app hr (by simp)) | exact tOk_app hr (by simp)) ?_
    refine zx_st (st1 := [zI ((rows.length : Int) + 1)]) (by congr 2; simp [ts_len]) ?_
    refine zx_iconst (v := 1) dX9_add_131 rfl (z32_lit (by decide) (by decide)) ?_
    refine zx_isub (v := (rows.length : Int)) dX9_add_132 (zw_eq (by omega) (by omega) (by omega)) ?_
    refine zx_iret dX9_add_133 rfl ?_
    refine zr_v rfl ?_
    unfold tAw
    rw [hw_51, hw_48, hw_45, hwC, zput_put, zput_put, zput_put, if_neg (by omega)]
    rw [ts_row3, trow_set hr.1]
theorem z_tinit {w : zW} {b : Nat} {x x2 x3 y p q : zO} {n : Nat} (hb : b ≠ w.2.1) : zput (zput (zput (zput (znew (zput w b x) y n) b x2) b x3) b p) w.2.1 q = zput (znew w q n) b p := by
  rw [zput_put, zput_put]
  unfold zput znew zup
  refine Prod.ext ?_ rfl
  funext a
  by_cases c1 : a = w.2.1
  · subst c1; simp [Ne.symm hb]
  · by_cases c2 : a = b
    · subst c2; simp [c1]
    · simp [c1, c2]
theorem c_X9_init {b ob c rm : Nat} (t ow : Nat) (hb : w.1 b = some (9, ob, [zI 0, zN, zI 0])) (ht : 130 ≤ t ∧ t < 160) (hc : 0 < c) (hm : 0 < rm) (hm2 : rm < 1000000) (hcr : c * rm < 100000000) (r1 : w.2.1 + 1 ≤ G.2.2.2.2.1) (r2 : w.2.2 + c * rm ≤ G.2.2.2.2.2) : zM G zm_X9_init d [zR b, zI (c : Int), zI (rm : Int)] w (zRet none (zput (znew w (199, b, []) (c * rm)) b (t, ow, tTb c (c * rm) []))) := by
  refine zx_ent (by decide +kernel) rfl (Nat.le_of_ble_eq_true rfl) ?_
  refine zx_ok (fun ok0 => ?_)
  refine zx_L (L1 := [some (zR b), some (zI (c : Int)), some (zI (rm : Int))]) rfl ?_
  refine zx_aload_n (i := 0) dX9_init_0 rfl rfl ?_
  refine zx_objInit dX9_init_1 zo_X9_3 zk_oi1 zk_oi2 (Nat.le_of_ble_eq_true rfl) ?_
  refine zx_aload_n (i := 0) dX9_init_4 rfl rfl ?_
  refine zx_iload_n (i := 1) dX9_init_5 rfl rfl ?_
  refine zx_if_le (tgt := 13) dX9_init_6 (by decide) (fun h6 => absurd h6 (by omega)) (fun h6 => ?_)
  refine zx_iload_n (i := 1) dX9_init_9 rfl rfl ?_
  refine zx_goto (tgt := 14) dX9_init_10 (by decide) ?_
  obtain ⟨w_1, hw_2⟩ : ∃ x, x = zput w b (9, ob, [zI (c : Int), zN, zI 0]) := ⟨_, rfl⟩
  refine zx_put (w1 := w_1) dX9_init_14 zf_X9_9 hb (Nat.le_of_ble_eq_true rfl) (zFt_int _) (fun _ => ⟨rfl, fun q h => by cases h; rfl⟩) hw_2.symm ?_
  have h_3 : w_1.1 b = some (9, ob, [zI (c : Int), zN, zI 0]) := by rw [hw_2]; exact zput_at
  refine zx_aload_n (i := 0) dX9_init_17 rfl rfl ?_
  refine zx_iload_n (i := 2) dX9_init_18 rfl rfl ?_
  refine zx_if_le (tgt := 37) dX9_init_19 (by decide) (fun h19 => absurd h19 (by omega)) (fun h19 => ?_)
  refine zx_pc (pc1 := 22) rfl ?_
  refine zx_iload_n (i := 2) dX9_init_22 rfl rfl ?_
  refine zx_ldc (v := 1000000) dX9_init_23 zk_X9_15 (by decide +kernel) (z32_lit (by decide) (by decide)) ?_
  refine zx_icmp_ge (tgt := 37) dX9_init_25 (by decide) (fun h25 => absurd h25 (by omega)) (fun h25 => ?_)
  refine zx_aload_n (i := 0) dX9_init_28 rfl rfl ?_
  refine zx_getfield dX9_init_29 zf_X9_9 h_3 rfl ?_
  refine zx_iload_n (i := 2) dX9_init_32 rfl rfl ?_
  refine zx_imul (v := ((c * rm : Nat) : Int)) dX9_init_33 (zw_eq (by simp) (by omega) (by omega)) ?_
  refine zx_goto (tgt := 41) dX9_init_34 (by decide) ?_
  refine zx_ok (fun ok_4 => ?_)
  refine zx_newarray (n := (c * rm)) 100 dX9_init_41 zk_ints (by decide) rfl (by first | decide | omega) (by first | exact r1 | exact r2 | (rw [hw_2]; first | exact r1 | exact r2)) (by first | exact r1 | exact r2 | (rw [hw_2]; first | exact r1 | exact r2)) ?_
  obtain ⟨w_5, hw_6⟩ : ∃ x, x = znew w_1 (100, 0, List.replicate (c * rm) (zI 0)) (c * rm) := ⟨_, rfl⟩
  obtain ⟨a_7, ha_8⟩ : ∃ x, x = w_1.2.1 := ⟨_, rfl⟩
  rw [← hw_6, ← ha_8]
  have h_9 : w_5.1 a_7 = some (100, 0, List.replicate (c * rm) (zI 0)) := by rw [hw_6, ha_8]; exact znew_at
  have h_10 : w_5.1 b = some (9, ob, [zI (c : Int), zN, zI 0]) := by
    rw [hw_6]; exact znew_to (ok_4 _ _ h_3) h_3
  obtain ⟨w_11, hw_12⟩ : ∃ x, x = zput w_5 b (9, ob, [zI (c : Int), zR a_7, zI 0]) := ⟨_, rfl⟩
  refine zx_put (w1 := w_11) dX9_init_43 zf_X9_16 h_10 (Nat.le_of_ble_eq_true rfl) (zFt_arr _ _) (fun h => by cases h) hw_12.symm ?_
  have h_13 : w_11.1 b = some (9, ob, [zI (c : Int), zR a_7, zI 0]) := by rw [hw_12]; exact zput_at
  refine zx_aload_n (i := 0) dX9_init_46 rfl rfl ?_
  refine zx_iconst (v := 0) dX9_init_47 rfl (z32_lit (by decide) (by decide)) ?_
  refine zx_pc (pc1 := 48) rfl ?_
  obtain ⟨w_14, hw_15⟩ : ∃ x, x = zput w_11 b (9, ob, [zI (c : Int), zR a_7, zI 0]) := ⟨_, rfl⟩
  refine zx_put (w1 := w_14) dX9_init_48 zf_X9_20 h_13 (Nat.le_of_ble_eq_true rfl) (zFt_int _) (fun h => by cases h) hw_15.symm ?_
  have h_16 : w_14.1 b = some (9, ob, [zI (c : Int), zR a_7, zI 0]) := by rw [hw_15]; exact zput_at
  have h_17 : w_11.1 a_7 = some (100, 0, List.replicate (c * rm) (zI 0)) := by
    rw [hw_12]; exact zput_tg h_10 h_9 (by simp)
  have h_18 : w_14.1 a_7 = some (100, 0, List.replicate (c * rm) (zI 0)) := by
    rw [hw_15]; exact zput_tg h_13 h_17 (by simp)
  have hh9 : w_14.1 a_7 = some (100, 0, (List.replicate (c * rm) (0 : Int)).map Sum.inl) := by rw [List.map_replicate]; exact h_18
  refine zx_close (t := t) (ow' := ow) (cap := c * rm) (lines := 0) h_16 hh9 (by simp) (by omega) hc (by omega) ht ?_
  refine zx_w (w1 := zput (znew w (199, b, []) (c * rm)) b (t, ow, tTb c (c * rm) [])) ?_ ?_
  · rw [ha_8, hw_15, hw_12, hw_6, hw_2, Nat.zero_mul, List.take_zero]; exact z_tinit (Nat.ne_of_lt (ok0 _ _ hb))
  refine zx_return dX9_init_51 rfl ?_
  exact zr_n rfl
end CTAB
