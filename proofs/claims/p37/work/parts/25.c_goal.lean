/-! Own rows: GOALS, MODES, what PREDICATES and CLAUSES tell. Walked by program (wip/p37/m_goal.py). -/
abbrev zP (o : Option Nat) : zV := Sum.inr (Sum.inl o)
def lAt (ys : List Nat) (i : Int) : Option Nat := if 0 ≤ i then ys[i.toNat]? else none
theorem lAt_in {ys : List Nat} {i : Int} {y : Nat} (h : 0 ≤ i) (hy : ys[i.toNat]? = some y) : lAt ys i = some y := by unfold lAt; rw [if_pos h, hy]
theorem lAt_out {ys : List Nat} {i : Int} (h : i < 0 ∨ (ys.length : Int) ≤ i) : lAt ys i = none := by
  unfold lAt
  by_cases c : 0 ≤ i
  · rw [if_pos c, List.getElem?_eq_none (by omega)]
  · rw [if_neg c]
theorem lAt_mem {ys : List Nat} {i : Int} {y : Nat} (h : lAt ys i = some y) : y ∈ ys := by
  unfold lAt at h
  split at h
  · exact List.mem_of_getElem? h
  · cases h
def pk (i a b c : Int) : Int := if i = 0 then a else if i = 1 then b else c
def vSt (xs : List Int) : Nat → Int → Int → Int
  | 0, a, _ => a
  | k + 1, a, q => vSt xs k (zor a (zshl 1 (zVa xs q))) (q + 1)
abbrev gBare (xs : List Int) (n : Int) : Prop := (n ≤ 0 → zVa xs 0 = 0) ∧ (n ≤ 1 → zVa xs 1 = 0) ∧ (n ≤ 2 → zVa xs 2 = 0)

theorem zl_J7_317 : Cond.classLink "java/util/Arrays" 317 "[I" ∈ zWS := zin 1 84 rfl rfl
theorem zl_J7_110 : Cond.classLink "java/util/Arrays" 110 "[Ljava/lang/Object;" ∈ zWS := zin 5 53 rfl rfl
theorem zl_J7_311 : Cond.classLink "java/util/Arrays" 311 "[B" ∈ zWS := zin 1 212 rfl rfl
theorem zl_X7_32 : Cond.classLink "ModedMill$Program" 32 "ModedMill$Predicate" ∈ zWS := zin 4 180 rfl rfl
section CGOAL
variable {G : zG} {d : Nat} {w : zW}
theorem c_X11_pick (i a b c : Int) : zM G zm_X11_pick d [zI i, zI a, zI b, zI c] w (zRet (some (zI (pk i a b c))) w) := by
  refine zx_ent (by decide +kernel) rfl (Nat.le_of_ble_eq_true rfl) ?_
  refine zx_L (L1 := [some (zI i), some (zI a), some (zI b), some (zI c)]) rfl ?_
  refine zx_iload_n (i := 0) dX11_pick_0 rfl rfl ?_
  refine zx_if_ne (tgt := 8) dX11_pick_1 (by decide) (fun h1 => ?_) (fun h1 => ?_)
  · refine zx_iload_n (i := 0) dX11_pick_8 rfl rfl ?_
    refine zx_iconst (v := 1) dX11_pick_9 rfl (z32_lit (by decide) (by decide)) ?_
    refine zx_icmp_ne (tgt := 17) dX11_pick_10 (by decide) (fun h10 => ?_) (fun h10 => ?_)
    · refine zx_iload_n (i := 3) dX11_pick_17 rfl rfl ?_
      refine zx_iret dX11_pick_18 rfl ?_
      exact zr_i (by unfold pk; first | rw [if_pos (by omega)] | rw [if_neg (by omega), if_pos (by omega)] | rw [if_neg (by omega), if_neg (by omega)])
    · refine zx_iload_n (i := 2) dX11_pick_13 rfl rfl ?_
      refine zx_goto (tgt := 18) dX11_pick_14 (by decide) ?_
      refine zx_iret dX11_pick_18 rfl ?_
      exact zr_i (by unfold pk; first | rw [if_pos (by omega)] | rw [if_neg (by omega), if_pos (by omega)] | rw [if_neg (by omega), if_neg (by omega)])
  · refine zx_iload_n (i := 1) dX11_pick_4 rfl rfl ?_
    refine zx_goto (tgt := 18) dX11_pick_5 (by decide) ?_
    refine zx_iret dX11_pick_18 rfl ?_
    exact zr_i (by unfold pk; first | rw [if_pos (by omega)] | rw [if_neg (by omega), if_pos (by omega)] | rw [if_neg (by omega), if_neg (by omega)])
theorem z_gi {w : zW} {g n : Nat} {x y p q : zO} (h : g ≠ w.2.1) : zput (zput (znew (zput w g x) y n) w.2.1 q) g p = zput (znew w q n) g p := by
  unfold zput znew zup
  refine Prod.ext ?_ rfl
  funext b
  by_cases c1 : b = g
  · simp [c1]
  · by_cases c2 : b = w.2.1
    · simp [c2, Ne.symm h]
    · simp [c1, c2]
theorem c_X3_init {g : Nat} (hg : w.1 g = some (3, 0, [zI 0, zI 0, zI 0, zN])) (r1 : w.2.1 + 1 ≤ G.2.2.2.2.1) (r2 : w.2.2 + 3 ≤ G.2.2.2.2.2) (k su n u0 u1 u2 : Int) : zM G zm_X3_init (d + 1) [zR g, zI k, zI su, zI n, zI u0, zI u1, zI u2] w (zRet none (zput (znew w (100, g, [zI u0, zI u1, zI u2]) 3) g (3, 0, [zI k, zI su, zI n, zR w.2.1]))) := by
  refine zx_ent (by decide +kernel) rfl (Nat.le_of_ble_eq_true rfl) ?_
  refine zx_L (L1 := [some (zR g), some (zI k), some (zI su), some (zI n), some (zI u0), some (zI u1), some (zI u2)]) rfl ?_
  refine zx_ok (fun ok0 => ?_)
  refine zx_aload_n (i := 0) dX3_init_0 rfl rfl ?_
  refine zx_objInit dX3_init_1 zo_X3_3 zk_oi1 zk_oi2 (Nat.le_of_ble_eq_true rfl) ?_
  refine zx_aload_n (i := 0) dX3_init_4 rfl rfl ?_
  refine zx_iload_n (i := 1) dX3_init_5 rfl rfl ?_
  obtain ⟨w_1, hw_2⟩ : ∃ ww, ww = zput w g (3, 0, [zI k, zI 0, zI 0, zN]) := ⟨_, rfl⟩
  refine zx_put (w1 := w_1) dX3_init_6 zf_X3_9 hg (Nat.le_of_ble_eq_true rfl) (zFt_int _) (fun _ => ⟨rfl, fun q h => by cases h; rfl⟩) hw_2.symm ?_
  have h_3 : w_1.1 g = some (3, 0, [zI k, zI 0, zI 0, zN]) := by rw [hw_2]; exact zput_at
  refine zx_aload_n (i := 0) dX3_init_9 rfl rfl ?_
  refine zx_iload_n (i := 2) dX3_init_10 rfl rfl ?_
  obtain ⟨w_4, hw_5⟩ : ∃ ww, ww = zput w_1 g (3, 0, [zI k, zI su, zI 0, zN]) := ⟨_, rfl⟩
  refine zx_put (w1 := w_4) dX3_init_11 zf_X3_15 h_3 (Nat.le_of_ble_eq_true rfl) (zFt_int _) (fun _ => ⟨rfl, fun q h => by cases h; rfl⟩) hw_5.symm ?_
  have h_6 : w_4.1 g = some (3, 0, [zI k, zI su, zI 0, zN]) := by rw [hw_5]; exact zput_at
  refine zx_aload_n (i := 0) dX3_init_14 rfl rfl ?_
  refine zx_iload_n (i := 3) dX3_init_15 rfl rfl ?_
  obtain ⟨w_7, hw_8⟩ : ∃ ww, ww = zput w_4 g (3, 0, [zI k, zI su, zI n, zN]) := ⟨_, rfl⟩
  refine zx_put (w1 := w_7) dX3_init_16 zf_X3_18 h_6 (Nat.le_of_ble_eq_true rfl) (zFt_int _) (fun _ => ⟨rfl, fun q h => by cases h; rfl⟩) hw_8.symm ?_
  have h_9 : w_7.1 g = some (3, 0, [zI k, zI su, zI n, zN]) := by rw [hw_8]; exact zput_at
  refine zx_pc (pc1 := 19) rfl ?_
  refine zx_aload_n (i := 0) dX3_init_19 rfl rfl ?_
  refine zx_iconst (v := 3) dX3_init_20 rfl (z32_lit (by decide) (by decide)) ?_
  refine zx_ok (fun ok_10 => ?_)
  refine zx_newarray (n := 3) 100 dX3_init_21 zk_ints (by decide) rfl (by first | decide | omega) (by simp only [hw_8, hw_5, hw_2]; exact r1) (by simp only [hw_8, hw_5, hw_2]; exact r2) ?_
  obtain ⟨w_11, hw_12⟩ : ∃ ww, ww = znew w_7 (100, 0, List.replicate 3 (zI 0)) 3 := ⟨_, rfl⟩
  obtain ⟨a_13, ha_14⟩ : ∃ ww, ww = w_7.2.1 := ⟨_, rfl⟩
  rw [← hw_12, ← ha_14]
  have h_15 : w_11.1 a_13 = some (100, 0, List.replicate 3 (zI 0)) := by rw [hw_12, ha_14]; exact znew_at
  refine zx_dup dX3_init_23 (fun a h => by cases h) ?_
  refine zx_iconst (v := 0) dX3_init_24 rfl (z32_lit (by decide) (by decide)) ?_
  refine zx_iload (i := 4) dX3_init_25 rfl ?_
  obtain ⟨w_16, hw_17⟩ : ∃ ww, ww = zput w_11 a_13 (100, 0, [zI u0, zI 0, zI 0]) := ⟨_, rfl⟩
  refine zx_ias (w1 := w_16) dX3_init_27 h_15 (by first | decide | omega) (by decide) (Nat.le_of_ble_eq_true rfl) hw_17.symm ?_
  have h_18 : w_16.1 a_13 = some (100, 0, [zI u0, zI 0, zI 0]) := by rw [hw_17]; exact zput_at
  refine zx_dup dX3_init_28 (fun a h => by cases h) ?_
  refine zx_iconst (v := 1) dX3_init_29 rfl (z32_lit (by decide) (by decide)) ?_
  refine zx_iload (i := 5) dX3_init_30 rfl ?_
  obtain ⟨w_19, hw_20⟩ : ∃ ww, ww = zput w_16 a_13 (100, 0, [zI u0, zI u1, zI 0]) := ⟨_, rfl⟩
  refine zx_ias (w1 := w_19) dX3_init_32 h_18 (by first | decide | omega) (by decide) (Nat.le_of_ble_eq_true rfl) hw_20.symm ?_
  have h_21 : w_19.1 a_13 = some (100, 0, [zI u0, zI u1, zI 0]) := by rw [hw_20]; exact zput_at
  refine zx_dup dX3_init_33 (fun a h => by cases h) ?_
  refine zx_pc (pc1 := 34) rfl ?_
  refine zx_iconst (v := 2) dX3_init_34 rfl (z32_lit (by decide) (by decide)) ?_
  refine zx_iload (i := 6) dX3_init_35 rfl ?_
  obtain ⟨w_22, hw_23⟩ : ∃ ww, ww = zput w_19 a_13 (100, 0, [zI u0, zI u1, zI u2]) := ⟨_, rfl⟩
  refine zx_ias (w1 := w_22) dX3_init_37 h_21 (by first | decide | omega) (by decide) (Nat.le_of_ble_eq_true rfl) hw_23.symm ?_
  have h_24 : w_22.1 a_13 = some (100, 0, [zI u0, zI u1, zI u2]) := by rw [hw_23]; exact zput_at
  refine zx_own (t' := 100) (ow' := g) h_24 (by first | exact Or.inl rfl | decide | omega) (by decide) ?_
  obtain ⟨w_25, hw_26⟩ : ∃ ww, ww = zput w_22 a_13 (100, g, [zI u0, zI u1, zI u2]) := ⟨_, rfl⟩
  rw [← hw_26]
  have h_27 : w_25.1 a_13 = some (100, g, [zI u0, zI u1, zI u2]) := by rw [hw_26]; exact zput_at
  have h_28 : w_11.1 g = some (3, 0, [zI k, zI su, zI n, zN]) := by
    rw [hw_12]; exact znew_to (ok_10 _ _ h_9) h_9
  have h_29 : w_16.1 g = some (3, 0, [zI k, zI su, zI n, zN]) := by
    rw [hw_17]; exact zput_tg h_15 h_28 (by simp)
  have h_30 : w_19.1 g = some (3, 0, [zI k, zI su, zI n, zN]) := by
    rw [hw_20]; exact zput_tg h_18 h_29 (by simp)
  have h_31 : w_22.1 g = some (3, 0, [zI k, zI su, zI n, zN]) := by
    rw [hw_23]; exact zput_tg h_21 h_30 (by simp)
  have h_32 : w_25.1 g = some (3, 0, [zI k, zI su, zI n, zN]) := by
    rw [hw_26]; exact zput_tg h_24 h_31 (by simp)
  obtain ⟨w_33, hw_34⟩ : ∃ ww, ww = zput w_25 g (3, 0, [zI k, zI su, zI n, zR a_13]) := ⟨_, rfl⟩
  refine zx_put (w1 := w_33) dX3_init_38 zf_X3_21 h_32 (Nat.le_of_ble_eq_true rfl) (zFt_arr _ _) (fun _ => ⟨rfl, fun q h => by cases h; rfl⟩) hw_34.symm ?_
  have h_35 : w_33.1 g = some (3, 0, [zI k, zI su, zI n, zR a_13]) := by rw [hw_34]; exact zput_at
  refine zx_return dX3_init_41 rfl ?_
  have hk : a_13 = w.2.1 := by simp only [ha_14, hw_12, hw_8, hw_5, hw_2]; rfl
  exact zr_n (by rw [hw_34, hw_26, hw_23, hw_20, hw_17, hw_12, hw_8, hw_5, hw_2, hk]; simp only [zput_put]; exact z_gi (Nat.ne_of_lt (ok0 _ _ hg)))
theorem c_X3_isBare {g og va ov : Nat} {k su n : Int} {xs : List Int} (hg : w.1 g = some (3, og, [zI k, zI su, zI n, zR va])) (hv : w.1 va = some (100, ov, xs.map Sum.inl)) (hx : xs.length < 100) (h0 : 0 ≤ n ∧ n ≤ 3) : zM G zm_X3_isBareBehindEnd (d + 1) [zR g] w (zRet (some (zI (zB (gBare xs n)))) w) := by
  refine zx_ent (by decide +kernel) rfl (Nat.le_of_ble_eq_true rfl) ?_
  refine zx_L (L1 := [some (zR g), none]) rfl ?_
  obtain rfl | rfl | rfl | rfl : n = 0 ∨ n = 1 ∨ n = 2 ∨ n = 3 := by omega
  · refine zx_aload_n (i := 0) dX3_isBareBehindEnd_0 rfl rfl ?_
    refine zx_getfield dX3_isBareBehindEnd_1 zf_X3_18 hg rfl ?_
    refine zx_istore_n (i := 1) dX3_isBareBehindEnd_4 rfl (by decide) rfl ?_
    refine zx_L (L1 := [some (zR g), some (zI 0)]) rfl ?_
    refine zx_iload_n (i := 1) dX3_isBareBehindEnd_5 rfl rfl ?_
    refine zx_iconst (v := 3) dX3_isBareBehindEnd_6 rfl (z32_lit (by decide) (by decide)) ?_
    refine zx_icmp_ge (tgt := 26) dX3_isBareBehindEnd_7 (by decide) (fun h7 => absurd h7 (by decide)) (fun h7 => ?_)
    refine zx_aload_n (i := 0) dX3_isBareBehindEnd_10 rfl rfl ?_
    refine zx_iload_n (i := 1) dX3_isBareBehindEnd_11 rfl rfl ?_
    refine zx_iv (b := g) (As := [zI 0]) (st := []) (v := (some (zI (zVa xs 0)))) (w1 := w) dX3_isBareBehindEnd_12 zc_X3_25 hg rfl rfl rfl (Nat.le_of_ble_eq_true rfl) rfl (c_X3_variableAt hg hv hx 0) ?_
    refine zx_st (st1 := [zI (zVa xs 0)]) rfl ?_
    refine zx_if_eq (tgt := 20) dX3_isBareBehindEnd_15 (by decide) (fun h15 => ?_) (fun h15 => ?_)
    · refine zx_iinc (i := 1) (v := 1) dX3_isBareBehindEnd_20 rfl (by decide +kernel) (by decide) rfl ?_
      refine zx_L (L1 := [some (zR g), some (zI 1)]) rfl ?_
      refine zx_pc (pc1 := 23) rfl ?_
      refine zx_goto (tgt := 5) dX3_isBareBehindEnd_23 (by decide) ?_
      refine zx_iload_n (i := 1) dX3_isBareBehindEnd_5 rfl rfl ?_
      refine zx_iconst (v := 3) dX3_isBareBehindEnd_6 rfl (z32_lit (by decide) (by decide)) ?_
      refine zx_icmp_ge (tgt := 26) dX3_isBareBehindEnd_7 (by decide) (fun h7 => absurd h7 (by decide)) (fun h7 => ?_)
      refine zx_aload_n (i := 0) dX3_isBareBehindEnd_10 rfl rfl ?_
      refine zx_iload_n (i := 1) dX3_isBareBehindEnd_11 rfl rfl ?_
      refine zx_iv (b := g) (As := [zI 1]) (st := []) (v := (some (zI (zVa xs 1)))) (w1 := w) dX3_isBareBehindEnd_12 zc_X3_25 hg rfl rfl rfl (Nat.le_of_ble_eq_true rfl) rfl (c_X3_variableAt hg hv hx 1) ?_
      refine zx_st (st1 := [zI (zVa xs 1)]) rfl ?_
      refine zx_if_eq (tgt := 20) dX3_isBareBehindEnd_15 (by decide) (fun h15_1 => ?_) (fun h15_1 => ?_)
      · refine zx_iinc (i := 1) (v := 2) dX3_isBareBehindEnd_20 rfl (by decide +kernel) (by decide) rfl ?_
        refine zx_L (L1 := [some (zR g), some (zI 2)]) rfl ?_
        refine zx_goto (tgt := 5) dX3_isBareBehindEnd_23 (by decide) ?_
        refine zx_iload_n (i := 1) dX3_isBareBehindEnd_5 rfl rfl ?_
        refine zx_iconst (v := 3) dX3_isBareBehindEnd_6 rfl (z32_lit (by decide) (by decide)) ?_
        refine zx_pc (pc1 := 7) rfl ?_
        refine zx_icmp_ge (tgt := 26) dX3_isBareBehindEnd_7 (by decide) (fun h7 => absurd h7 (by decide)) (fun h7 => ?_)
        refine zx_aload_n (i := 0) dX3_isBareBehindEnd_10 rfl rfl ?_
        refine zx_iload_n (i := 1) dX3_isBareBehindEnd_11 rfl rfl ?_
        refine zx_iv (b := g) (As := [zI 2]) (st := []) (v := (some (zI (zVa xs 2)))) (w1 := w) dX3_isBareBehindEnd_12 zc_X3_25 hg rfl rfl rfl (Nat.le_of_ble_eq_true rfl) rfl (c_X3_variableAt hg hv hx 2) ?_
        refine zx_st (st1 := [zI (zVa xs 2)]) rfl ?_
        refine zx_if_eq (tgt := 20) dX3_isBareBehindEnd_15 (by decide) (fun h15_2 => ?_) (fun h15_2 => ?_)
        · refine zx_iinc (i := 1) (v := 3) dX3_isBareBehindEnd_20 rfl (by decide +kernel) (by decide) rfl ?_
          refine zx_L (L1 := [some (zR g), some (zI 3)]) rfl ?_
          refine zx_goto (tgt := 5) dX3_isBareBehindEnd_23 (by decide) ?_
          refine zx_iload_n (i := 1) dX3_isBareBehindEnd_5 rfl rfl ?_
          refine zx_iconst (v := 3) dX3_isBareBehindEnd_6 rfl (z32_lit (by decide) (by decide)) ?_
          refine zx_icmp_ge (tgt := 26) dX3_isBareBehindEnd_7 (by decide) (fun h7 => ?_) (fun h7 => absurd (by decide) h7)
          refine zx_iconst (v := 1) dX3_isBareBehindEnd_26 rfl (z32_lit (by decide) (by decide)) ?_
          refine zx_zret dX3_isBareBehindEnd_27 rfl (by first | exact Or.inl rfl | exact Or.inr rfl | exact zB_or | assumption) ?_
          exact zr_t (by unfold gBare; omega)
        · refine zx_iconst (v := 0) dX3_isBareBehindEnd_18 rfl (z32_lit (by decide) (by decide)) ?_
          refine zx_zret dX3_isBareBehindEnd_19 rfl (by first | exact Or.inl rfl | exact Or.inr rfl | exact zB_or | assumption) ?_
          exact zr_f (by unfold gBare; omega)
      · refine zx_iconst (v := 0) dX3_isBareBehindEnd_18 rfl (z32_lit (by decide) (by decide)) ?_
        refine zx_zret dX3_isBareBehindEnd_19 rfl (by first | exact Or.inl rfl | exact Or.inr rfl | exact zB_or | assumption) ?_
        exact zr_f (by unfold gBare; omega)
    · refine zx_iconst (v := 0) dX3_isBareBehindEnd_18 rfl (z32_lit (by decide) (by decide)) ?_
      refine zx_pc (pc1 := 19) rfl ?_
      refine zx_zret dX3_isBareBehindEnd_19 rfl (by first | exact Or.inl rfl | exact Or.inr rfl | exact zB_or | assumption) ?_
      exact zr_f (by unfold gBare; omega)
  · refine zx_aload_n (i := 0) dX3_isBareBehindEnd_0 rfl rfl ?_
    refine zx_getfield dX3_isBareBehindEnd_1 zf_X3_18 hg rfl ?_
    refine zx_istore_n (i := 1) dX3_isBareBehindEnd_4 rfl (by decide) rfl ?_
    refine zx_L (L1 := [some (zR g), some (zI 1)]) rfl ?_
    refine zx_iload_n (i := 1) dX3_isBareBehindEnd_5 rfl rfl ?_
    refine zx_iconst (v := 3) dX3_isBareBehindEnd_6 rfl (z32_lit (by decide) (by decide)) ?_
    refine zx_icmp_ge (tgt := 26) dX3_isBareBehindEnd_7 (by decide) (fun h7 => absurd h7 (by decide)) (fun h7 => ?_)
    refine zx_aload_n (i := 0) dX3_isBareBehindEnd_10 rfl rfl ?_
    refine zx_iload_n (i := 1) dX3_isBareBehindEnd_11 rfl rfl ?_
    refine zx_iv (b := g) (As := [zI 1]) (st := []) (v := (some (zI (zVa xs 1)))) (w1 := w) dX3_isBareBehindEnd_12 zc_X3_25 hg rfl rfl rfl (Nat.le_of_ble_eq_true rfl) rfl (c_X3_variableAt hg hv hx 1) ?_
    refine zx_st (st1 := [zI (zVa xs 1)]) rfl ?_
    refine zx_if_eq (tgt := 20) dX3_isBareBehindEnd_15 (by decide) (fun h15 => ?_) (fun h15 => ?_)
    · refine zx_iinc (i := 1) (v := 2) dX3_isBareBehindEnd_20 rfl (by decide +kernel) (by decide) rfl ?_
      refine zx_L (L1 := [some (zR g), some (zI 2)]) rfl ?_
      refine zx_pc (pc1 := 23) rfl ?_
      refine zx_goto (tgt := 5) dX3_isBareBehindEnd_23 (by decide) ?_
      refine zx_iload_n (i := 1) dX3_isBareBehindEnd_5 rfl rfl ?_
      refine zx_iconst (v := 3) dX3_isBareBehindEnd_6 rfl (z32_lit (by decide) (by decide)) ?_
      refine zx_icmp_ge (tgt := 26) dX3_isBareBehindEnd_7 (by decide) (fun h7 => absurd h7 (by decide)) (fun h7 => ?_)
      refine zx_aload_n (i := 0) dX3_isBareBehindEnd_10 rfl rfl ?_
      refine zx_iload_n (i := 1) dX3_isBareBehindEnd_11 rfl rfl ?_
      refine zx_iv (b := g) (As := [zI 2]) (st := []) (v := (some (zI (zVa xs 2)))) (w1 := w) dX3_isBareBehindEnd_12 zc_X3_25 hg rfl rfl rfl (Nat.le_of_ble_eq_true rfl) rfl (c_X3_variableAt hg hv hx 2) ?_
      refine zx_st (st1 := [zI (zVa xs 2)]) rfl ?_
      refine zx_if_eq (tgt := 20) dX3_isBareBehindEnd_15 (by decide) (fun h15_1 => ?_) (fun h15_1 => ?_)
      · refine zx_iinc (i := 1) (v := 3) dX3_isBareBehindEnd_20 rfl (by decide +kernel) (by decide) rfl ?_
        refine zx_L (L1 := [some (zR g), some (zI 3)]) rfl ?_
        refine zx_goto (tgt := 5) dX3_isBareBehindEnd_23 (by decide) ?_
        refine zx_iload_n (i := 1) dX3_isBareBehindEnd_5 rfl rfl ?_
        refine zx_iconst (v := 3) dX3_isBareBehindEnd_6 rfl (z32_lit (by decide) (by decide)) ?_
        refine zx_pc (pc1 := 7) rfl ?_
        refine zx_icmp_ge (tgt := 26) dX3_isBareBehindEnd_7 (by decide) (fun h7 => ?_) (fun h7 => absurd (by decide) h7)
        refine zx_iconst (v := 1) dX3_isBareBehindEnd_26 rfl (z32_lit (by decide) (by decide)) ?_
        refine zx_zret dX3_isBareBehindEnd_27 rfl (by first | exact Or.inl rfl | exact Or.inr rfl | exact zB_or | assumption) ?_
        exact zr_t (by unfold gBare; omega)
      · refine zx_iconst (v := 0) dX3_isBareBehindEnd_18 rfl (z32_lit (by decide) (by decide)) ?_
        refine zx_zret dX3_isBareBehindEnd_19 rfl (by first | exact Or.inl rfl | exact Or.inr rfl | exact zB_or | assumption) ?_
        exact zr_f (by unfold gBare; omega)
    · refine zx_iconst (v := 0) dX3_isBareBehindEnd_18 rfl (z32_lit (by decide) (by decide)) ?_
      refine zx_pc (pc1 := 19) rfl ?_
      refine zx_zret dX3_isBareBehindEnd_19 rfl (by first | exact Or.inl rfl | exact Or.inr rfl | exact zB_or | assumption) ?_
      exact zr_f (by unfold gBare; omega)
  · refine zx_aload_n (i := 0) dX3_isBareBehindEnd_0 rfl rfl ?_
    refine zx_getfield dX3_isBareBehindEnd_1 zf_X3_18 hg rfl ?_
    refine zx_istore_n (i := 1) dX3_isBareBehindEnd_4 rfl (by decide) rfl ?_
    refine zx_L (L1 := [some (zR g), some (zI 2)]) rfl ?_
    refine zx_iload_n (i := 1) dX3_isBareBehindEnd_5 rfl rfl ?_
    refine zx_iconst (v := 3) dX3_isBareBehindEnd_6 rfl (z32_lit (by decide) (by decide)) ?_
    refine zx_icmp_ge (tgt := 26) dX3_isBareBehindEnd_7 (by decide) (fun h7 => absurd h7 (by decide)) (fun h7 => ?_)
    refine zx_aload_n (i := 0) dX3_isBareBehindEnd_10 rfl rfl ?_
    refine zx_iload_n (i := 1) dX3_isBareBehindEnd_11 rfl rfl ?_
    refine zx_iv (b := g) (As := [zI 2]) (st := []) (v := (some (zI (zVa xs 2)))) (w1 := w) dX3_isBareBehindEnd_12 zc_X3_25 hg rfl rfl rfl (Nat.le_of_ble_eq_true rfl) rfl (c_X3_variableAt hg hv hx 2) ?_
    refine zx_st (st1 := [zI (zVa xs 2)]) rfl ?_
    refine zx_if_eq (tgt := 20) dX3_isBareBehindEnd_15 (by decide) (fun h15 => ?_) (fun h15 => ?_)
    · refine zx_iinc (i := 1) (v := 3) dX3_isBareBehindEnd_20 rfl (by decide +kernel) (by decide) rfl ?_
      refine zx_L (L1 := [some (zR g), some (zI 3)]) rfl ?_
      refine zx_pc (pc1 := 23) rfl ?_
      refine zx_goto (tgt := 5) dX3_isBareBehindEnd_23 (by decide) ?_
      refine zx_iload_n (i := 1) dX3_isBareBehindEnd_5 rfl rfl ?_
      refine zx_iconst (v := 3) dX3_isBareBehindEnd_6 rfl (z32_lit (by decide) (by decide)) ?_
      refine zx_icmp_ge (tgt := 26) dX3_isBareBehindEnd_7 (by decide) (fun h7 => ?_) (fun h7 => absurd (by decide) h7)
      refine zx_iconst (v := 1) dX3_isBareBehindEnd_26 rfl (z32_lit (by decide) (by decide)) ?_
      refine zx_zret dX3_isBareBehindEnd_27 rfl (by first | exact Or.inl rfl | exact Or.inr rfl | exact zB_or | assumption) ?_
      exact zr_t (by unfold gBare; omega)
    · refine zx_iconst (v := 0) dX3_isBareBehindEnd_18 rfl (z32_lit (by decide) (by decide)) ?_
      refine zx_pc (pc1 := 19) rfl ?_
      refine zx_zret dX3_isBareBehindEnd_19 rfl (by first | exact Or.inl rfl | exact Or.inr rfl | exact zB_or | assumption) ?_
      exact zr_f (by unfold gBare; omega)
  · refine zx_aload_n (i := 0) dX3_isBareBehindEnd_0 rfl rfl ?_
    refine zx_getfield dX3_isBareBehindEnd_1 zf_X3_18 hg rfl ?_
    refine zx_istore_n (i := 1) dX3_isBareBehindEnd_4 rfl (by decide) rfl ?_
    refine zx_L (L1 := [some (zR g), some (zI 3)]) rfl ?_
    refine zx_iload_n (i := 1) dX3_isBareBehindEnd_5 rfl rfl ?_
    refine zx_iconst (v := 3) dX3_isBareBehindEnd_6 rfl (z32_lit (by decide) (by decide)) ?_
    refine zx_icmp_ge (tgt := 26) dX3_isBareBehindEnd_7 (by decide) (fun h7 => ?_) (fun h7 => absurd (by decide) h7)
    refine zx_iconst (v := 1) dX3_isBareBehindEnd_26 rfl (z32_lit (by decide) (by decide)) ?_
    refine zx_zret dX3_isBareBehindEnd_27 rfl (by first | exact Or.inl rfl | exact Or.inr rfl | exact zB_or | assumption) ?_
    exact zr_t (by unfold gBare; omega)
theorem c_X3_variableSet {g og va ov : Nat} {k su n : Int} {xs : List Int} (hg : w.1 g = some (3, og, [zI k, zI su, zI n, zR va])) (hv : w.1 va = some (100, ov, xs.map Sum.inl)) (hx : xs.length < 100) (f : Nat) (hf : f < 1000) (hn : 0 ≤ n ∧ n ≤ 100) : zM G zm_X3_variableSet (d + 1) [zR g, zI (f : Int)] w (zRet (some (zI (vSt xs (n - f).toNat 0 f))) w) := by
  refine zx_ent (by decide +kernel) rfl (Nat.le_of_ble_eq_true rfl) ?_
  have loop : ∀ (m : Nat) (a : Int) (q : Nat), (n - q).toNat = m → q < 1000 → zX G zm_X3_variableSet (d + 1) [zR g, zI (f : Int)] w (zRet (some (zI (vSt xs m a q))) w) 4 [some (zR g), some (zI (f : Int)), some (zI a), some (zI (q : Int))] [] w := by
    intro m
    induction m with
    | zero =>
      intro a q hm hq
      refine zx_iload_n (i := 3) dX3_variableSet_4 rfl rfl ?_
      refine zx_aload_n (i := 0) dX3_variableSet_5 rfl rfl ?_
      refine zx_getfield dX3_variableSet_6 zf_X3_18 hg rfl ?_
      refine zx_icmp_ge (tgt := 28) dX3_variableSet_9 (by decide) (fun h9 => ?_) (fun h9 => absurd (by omega) h9)
      refine zx_iload_n (i := 2) dX3_variableSet_28 rfl rfl ?_
      refine zx_iret dX3_variableSet_29 rfl ?_
      exact zr_i rfl
    | succ m ih =>
      intro a q hm hq
      refine zx_iload_n (i := 3) dX3_variableSet_4 rfl rfl ?_
      refine zx_aload_n (i := 0) dX3_variableSet_5 rfl rfl ?_
      refine zx_getfield dX3_variableSet_6 zf_X3_18 hg rfl ?_
      refine zx_icmp_ge (tgt := 28) dX3_variableSet_9 (by decide) (fun h9 => absurd h9 (by omega)) (fun h9 => ?_)
      refine zx_iload_n (i := 2) dX3_variableSet_12 rfl rfl ?_
      refine zx_iconst (v := 1) dX3_variableSet_13 rfl (z32_lit (by decide) (by decide)) ?_
      refine zx_aload_n (i := 0) dX3_variableSet_14 rfl rfl ?_
      refine zx_iload_n (i := 3) dX3_variableSet_15 rfl rfl ?_
      refine zx_iv (b := g) (As := [zI (q : Int)]) (st := [zI 1, zI a]) (v := (some (zI (zVa xs (q : Int))))) (w1 := w) dX3_variableSet_16 zc_X3_25 hg rfl rfl rfl (Nat.le_of_ble_eq_true rfl) rfl (c_X3_variableAt hg hv hx (q : Int)) ?_
      refine zx_st (st1 := [zI (zVa xs (q : Int)), zI 1, zI a]) rfl ?_
      refine zx_ishl (v := zshl 1 (zVa xs (q : Int))) dX3_variableSet_19 rfl ?_
      refine zx_ior (v := zor a (zshl 1 (zVa xs (q : Int)))) dX3_variableSet_20 rfl ?_
      refine zx_pc (pc1 := 21) rfl ?_
      refine zx_istore_n (i := 2) dX3_variableSet_21 rfl (by decide) rfl ?_
      refine zx_L (L1 := [some (zR g), some (zI (f : Int)), some (zI (zor a (zshl 1 (zVa xs (q : Int))))), some (zI (q : Int))]) rfl ?_
      refine zx_iinc (i := 3) (v := ((q + 1 : Nat) : Int)) dX3_variableSet_22 rfl (zw_eq (by omega) (by omega) (by omega)) (by decide) rfl ?_
      refine zx_L (L1 := [some (zR g), some (zI (f : Int)), some (zI (zor a (zshl 1 (zVa xs (q : Int))))), some (zI ((q + 1 : Nat) : Int))]) rfl ?_
      refine zx_goto (tgt := 4) dX3_variableSet_25 (by decide) ?_
      have e : vSt xs (m + 1) a q = vSt xs m (zor a (zshl 1 (zVa xs (q : Int)))) ((q + 1 : Nat) : Int) := rfl
      rw [e]
      exact ih _ (q + 1) (by omega) (by omega)
  refine zx_L (L1 := [some (zR g), some (zI (f : Int)), none, none]) rfl ?_
  refine zx_iconst (v := 0) dX3_variableSet_0 rfl (z32_lit (by decide) (by decide)) ?_
  refine zx_istore_n (i := 2) dX3_variableSet_1 rfl (by decide) rfl ?_
  refine zx_L (L1 := [some (zR g), some (zI (f : Int)), some (zI 0), none]) rfl ?_
  refine zx_iload_n (i := 1) dX3_variableSet_2 rfl rfl ?_
  refine zx_istore_n (i := 3) dX3_variableSet_3 rfl (by decide) rfl ?_
  refine zx_L (L1 := [some (zR g), some (zI (f : Int)), some (zI 0), some (zI (f : Int))]) rfl ?_
  exact loop _ 0 f rfl hf
theorem c_X5_init {m pr : Nat} (hm : w.1 m = some (5, 0, [zN, zI 0, zI 0, zI 0, zI 0, zI 0, zI 0, zI 0, zI 0])) (nu ins : Int) (pm : Nat) (hpm : pm < 65536) : zM G zm_X5_init (d + 1) [zR m, zR pr, zI nu, zI ins, zI (pm : Int)] w (zRet none (zput w m (5, 0, [zR pr, zI nu, zI ins, zI (pm : Int), zI 0, zI 0, zI 0, zI 0, zI (-1)]))) := by
  refine zx_ent (by decide +kernel) rfl (Nat.le_of_ble_eq_true rfl) ?_
  refine zx_L (L1 := [some (zR m), some (zR pr), some (zI nu), some (zI ins), some (zI (pm : Int))]) rfl ?_
  refine zx_aload_n (i := 0) dX5_init_0 rfl rfl ?_
  refine zx_objInit dX5_init_1 zo_X5_3 zk_oi1 zk_oi2 (Nat.le_of_ble_eq_true rfl) ?_
  refine zx_aload_n (i := 0) dX5_init_4 rfl rfl ?_
  refine zx_aload_n (i := 1) dX5_init_5 rfl rfl ?_
  obtain ⟨w_1, hw_2⟩ : ∃ ww, ww = zput w m (5, 0, [zR pr, zI 0, zI 0, zI 0, zI 0, zI 0, zI 0, zI 0, zI 0]) := ⟨_, rfl⟩
  refine zx_put (w1 := w_1) dX5_init_6 zf_X5_9 hm (Nat.le_of_ble_eq_true rfl) (zFt_obj _ _) (fun _ => ⟨rfl, fun q h => by cases h; rfl⟩) hw_2.symm ?_
  have h_3 : w_1.1 m = some (5, 0, [zR pr, zI 0, zI 0, zI 0, zI 0, zI 0, zI 0, zI 0, zI 0]) := by rw [hw_2]; exact zput_at
  refine zx_aload_n (i := 0) dX5_init_9 rfl rfl ?_
  refine zx_iload_n (i := 2) dX5_init_10 rfl rfl ?_
  obtain ⟨w_4, hw_5⟩ : ∃ ww, ww = zput w_1 m (5, 0, [zR pr, zI nu, zI 0, zI 0, zI 0, zI 0, zI 0, zI 0, zI 0]) := ⟨_, rfl⟩
  refine zx_put (w1 := w_4) dX5_init_11 zf_X5_15 h_3 (Nat.le_of_ble_eq_true rfl) (zFt_int _) (fun _ => ⟨rfl, fun q h => by cases h; rfl⟩) hw_5.symm ?_
  have h_6 : w_4.1 m = some (5, 0, [zR pr, zI nu, zI 0, zI 0, zI 0, zI 0, zI 0, zI 0, zI 0]) := by rw [hw_5]; exact zput_at
  refine zx_aload_n (i := 0) dX5_init_14 rfl rfl ?_
  refine zx_iload_n (i := 3) dX5_init_15 rfl rfl ?_
  obtain ⟨w_7, hw_8⟩ : ∃ ww, ww = zput w_4 m (5, 0, [zR pr, zI nu, zI ins, zI 0, zI 0, zI 0, zI 0, zI 0, zI 0]) := ⟨_, rfl⟩
  refine zx_put (w1 := w_7) dX5_init_16 zf_X5_19 h_6 (Nat.le_of_ble_eq_true rfl) (zFt_int _) (fun _ => ⟨rfl, fun q h => by cases h; rfl⟩) hw_8.symm ?_
  have h_9 : w_7.1 m = some (5, 0, [zR pr, zI nu, zI ins, zI 0, zI 0, zI 0, zI 0, zI 0, zI 0]) := by rw [hw_8]; exact zput_at
  refine zx_pc (pc1 := 19) rfl ?_
  refine zx_aload_n (i := 0) dX5_init_19 rfl rfl ?_
  refine zx_iload (i := 4) dX5_init_20 rfl ?_
  obtain ⟨w_10, hw_11⟩ : ∃ ww, ww = zput w_7 m (5, 0, [zR pr, zI nu, zI ins, zI (pm : Int), zI 0, zI 0, zI 0, zI 0, zI 0]) := ⟨_, rfl⟩
  refine zx_put (w1 := w_10) dX5_init_22 zf_X5_22 h_9 (Nat.le_of_ble_eq_true rfl) (zFt_char pm hpm) (fun _ => ⟨rfl, fun q h => by cases h; rfl⟩) hw_11.symm ?_
  have h_12 : w_10.1 m = some (5, 0, [zR pr, zI nu, zI ins, zI (pm : Int), zI 0, zI 0, zI 0, zI 0, zI 0]) := by rw [hw_11]; exact zput_at
  refine zx_aload_n (i := 0) dX5_init_25 rfl rfl ?_
  refine zx_iconst (v := -1) dX5_init_26 rfl (z32_lit (by decide) (by decide)) ?_
  obtain ⟨w_13, hw_14⟩ : ∃ ww, ww = zput w_10 m (5, 0, [zR pr, zI nu, zI ins, zI (pm : Int), zI 0, zI 0, zI 0, zI 0, zI (-1)]) := ⟨_, rfl⟩
  refine zx_put (w1 := w_13) dX5_init_27 zf_X5_26 h_12 (Nat.le_of_ble_eq_true rfl) (zFt_int _) (fun h => by cases h) hw_14.symm ?_
  have h_15 : w_13.1 m = some (5, 0, [zR pr, zI nu, zI ins, zI (pm : Int), zI 0, zI 0, zI 0, zI 0, zI (-1)]) := by rw [hw_14]; exact zput_at
  refine zx_return dX5_init_30 rfl ?_
  exact zr_n (by rw [hw_14, hw_11, hw_8, hw_5, hw_2]; simp only [zput_put])
theorem c_X6_modeAt {o oo l cap : Nat} {ys : List Nat} {nu : Int} {tt cs q ol : Nat} (ho : w.1 o = some (6, oo, [zI nu, zR tt, zR l, zR cs, zR q])) (hl : w.1 l = some (163, ol, zLs cap ys)) (hel : ∀ y ∈ ys, ∃ a b, w.1 y = some ((5, a, b) : zO)) (i : Int) : zM G zm_X6_modeAt (d + 3) [zR o, zI i] w (zRet (some (zP (lAt ys i))) w) := by
  refine zx_ent (by decide +kernel) rfl (Nat.le_of_ble_eq_true rfl) ?_
  refine zx_L (L1 := [some (zR o), some (zI i)]) rfl ?_
  refine zx_iload_n (i := 1) dX6_modeAt_0 rfl rfl ?_
  refine zx_if_lt (tgt := 29) dX6_modeAt_1 (by decide) (fun h1 => ?_) (fun h1 => ?_)
  · refine zx_null dX6_modeAt_29 ?_
    refine zx_areturn dX6_modeAt_30 rfl (Or.inl ⟨_, rfl⟩) ?_
    exact zr_v (by rw [lAt_out (by omega)]) rfl
  · refine zx_iload_n (i := 1) dX6_modeAt_4 rfl rfl ?_
    refine zx_aload_n (i := 0) dX6_modeAt_5 rfl rfl ?_
    refine zx_getfield dX6_modeAt_6 zf_X6_35 ho rfl ?_
    refine zx_iv (b := l) (As := []) (st := [zI i]) (v := (some (zI (ys.length : Int)))) (w1 := w) dX6_modeAt_9 zc_X6_59 hl (z_cls12 (by decide)) rfl rfl (Nat.le_of_ble_eq_true rfl) rfl (c_list_size hl (by decide)) ?_
    refine zx_st (st1 := [zI (ys.length : Int), zI i]) rfl ?_
    refine zx_icmp_ge (tgt := 29) dX6_modeAt_12 (by decide) (fun h12 => ?_) (fun h12 => ?_)
    · refine zx_null dX6_modeAt_29 ?_
      refine zx_areturn dX6_modeAt_30 rfl (Or.inl ⟨_, rfl⟩) ?_
      exact zr_v (by rw [lAt_out (by omega)]) rfl
    · refine zx_aload_n (i := 0) dX6_modeAt_15 rfl rfl ?_
      refine zx_getfield dX6_modeAt_16 zf_X6_35 ho rfl ?_
      refine zx_iload_n (i := 1) dX6_modeAt_19 rfl rfl ?_
      obtain ⟨y_1, hy_2⟩ : ∃ y, ys[(i).toNat]? = some y := ⟨_, List.getElem?_eq_getElem (by omega)⟩
      obtain ⟨oy_y_1, fy_y_1, hyy_y_1⟩ := hel y_1 (List.mem_of_getElem? hy_2)
      refine zx_iv (b := l) (As := [zI i]) (st := []) (v := (some (zR y_1))) (w1 := w) dX6_modeAt_20 zc_X6_62 hl (z_cls12 (by decide)) rfl rfl (Nat.le_of_ble_eq_true rfl) rfl (c_list_get hl (by decide) (by omega) hy_2) ?_
      refine zx_st (st1 := [zR y_1]) rfl ?_
      refine zx_pc (pc1 := 23) rfl ?_
      refine zx_castR dX6_modeAt_23 hyy_y_1 rfl zl_X6_65 ?_
      refine zx_goto (tgt := 30) dX6_modeAt_26 (by decide) ?_
      refine zx_areturn dX6_modeAt_30 rfl (Or.inl ⟨_, rfl⟩) ?_
      exact zr_v (by rw [lAt_in (by omega) hy_2]) rfl
theorem c_X6_clauseAt {o oo l cap : Nat} {ys : List Nat} {nu : Int} {tt ms q ol : Nat} (ho : w.1 o = some (6, oo, [zI nu, zR tt, zR ms, zR l, zR q])) (hl : w.1 l = some (164, ol, zLs cap ys)) (hel : ∀ y ∈ ys, ∃ a b, w.1 y = some ((1, a, b) : zO)) (i : Int) : zM G zm_X6_clauseAt (d + 3) [zR o, zI i] w (zRet (some (zP (lAt ys i))) w) := by
  refine zx_ent (by decide +kernel) rfl (Nat.le_of_ble_eq_true rfl) ?_
  refine zx_L (L1 := [some (zR o), some (zI i)]) rfl ?_
  refine zx_iload_n (i := 1) dX6_clauseAt_0 rfl rfl ?_
  refine zx_if_lt (tgt := 29) dX6_clauseAt_1 (by decide) (fun h1 => ?_) (fun h1 => ?_)
  · refine zx_null dX6_clauseAt_29 ?_
    refine zx_areturn dX6_clauseAt_30 rfl (Or.inl ⟨_, rfl⟩) ?_
    exact zr_v (by rw [lAt_out (by omega)]) rfl
  · refine zx_iload_n (i := 1) dX6_clauseAt_4 rfl rfl ?_
    refine zx_aload_n (i := 0) dX6_clauseAt_5 rfl rfl ?_
    refine zx_getfield dX6_clauseAt_6 zf_X6_39 ho rfl ?_
    refine zx_iv (b := l) (As := []) (st := [zI i]) (v := (some (zI (ys.length : Int)))) (w1 := w) dX6_clauseAt_9 zc_X6_59 hl (z_cls12 (by decide)) rfl rfl (Nat.le_of_ble_eq_true rfl) rfl (c_list_size hl (by decide)) ?_
    refine zx_st (st1 := [zI (ys.length : Int), zI i]) rfl ?_
    refine zx_icmp_ge (tgt := 29) dX6_clauseAt_12 (by decide) (fun h12 => ?_) (fun h12 => ?_)
    · refine zx_null dX6_clauseAt_29 ?_
      refine zx_areturn dX6_clauseAt_30 rfl (Or.inl ⟨_, rfl⟩) ?_
      exact zr_v (by rw [lAt_out (by omega)]) rfl
    · refine zx_aload_n (i := 0) dX6_clauseAt_15 rfl rfl ?_
      refine zx_getfield dX6_clauseAt_16 zf_X6_39 ho rfl ?_
      refine zx_iload_n (i := 1) dX6_clauseAt_19 rfl rfl ?_
      obtain ⟨y_1, hy_2⟩ : ∃ y, ys[(i).toNat]? = some y := ⟨_, List.getElem?_eq_getElem (by omega)⟩
      obtain ⟨oy_y_1, fy_y_1, hyy_y_1⟩ := hel y_1 (List.mem_of_getElem? hy_2)
      refine zx_iv (b := l) (As := [zI i]) (st := []) (v := (some (zR y_1))) (w1 := w) dX6_clauseAt_20 zc_X6_62 hl (z_cls12 (by decide)) rfl rfl (Nat.le_of_ble_eq_true rfl) rfl (c_list_get hl (by decide) (by omega) hy_2) ?_
      refine zx_st (st1 := [zR y_1]) rfl ?_
      refine zx_pc (pc1 := 23) rfl ?_
      refine zx_castR dX6_clauseAt_23 hyy_y_1 rfl zl_X6_67 ?_
      refine zx_goto (tgt := 30) dX6_clauseAt_26 (by decide) ?_
      refine zx_areturn dX6_clauseAt_30 rfl (Or.inl ⟨_, rfl⟩) ?_
      exact zr_v (by rw [lAt_in (by omega) hy_2]) rfl
theorem c_X7_clauseAt {o oo l cap : Nat} {ys : List Nat} {ps ms ol : Nat} (ho : w.1 o = some (7, oo, [zR ps, zR ms, zR l])) (hl : w.1 l = some (162, ol, zLs cap ys)) (hel : ∀ y ∈ ys, ∃ a b, w.1 y = some ((1, a, b) : zO)) (i : Int) : zM G zm_X7_clauseAt (d + 3) [zR o, zI i] w (zRet (some (zP (lAt ys i))) w) := by
  refine zx_ent (by decide +kernel) rfl (Nat.le_of_ble_eq_true rfl) ?_
  refine zx_L (L1 := [some (zR o), some (zI i)]) rfl ?_
  refine zx_iload_n (i := 1) dX7_clauseAt_0 rfl rfl ?_
  refine zx_if_lt (tgt := 29) dX7_clauseAt_1 (by decide) (fun h1 => ?_) (fun h1 => ?_)
  · refine zx_null dX7_clauseAt_29 ?_
    refine zx_areturn dX7_clauseAt_30 rfl (Or.inl ⟨_, rfl⟩) ?_
    exact zr_v (by rw [lAt_out (by omega)]) rfl
  · refine zx_iload_n (i := 1) dX7_clauseAt_4 rfl rfl ?_
    refine zx_aload_n (i := 0) dX7_clauseAt_5 rfl rfl ?_
    refine zx_getfield dX7_clauseAt_6 zf_X7_21 ho rfl ?_
    refine zx_iv (b := l) (As := []) (st := [zI i]) (v := (some (zI (ys.length : Int)))) (w1 := w) dX7_clauseAt_9 zc_X7_24 hl (z_cls12 (by decide)) rfl rfl (Nat.le_of_ble_eq_true rfl) rfl (c_list_size hl (by decide)) ?_
    refine zx_st (st1 := [zI (ys.length : Int), zI i]) rfl ?_
    refine zx_icmp_ge (tgt := 29) dX7_clauseAt_12 (by decide) (fun h12 => ?_) (fun h12 => ?_)
    · refine zx_null dX7_clauseAt_29 ?_
      refine zx_areturn dX7_clauseAt_30 rfl (Or.inl ⟨_, rfl⟩) ?_
      exact zr_v (by rw [lAt_out (by omega)]) rfl
    · refine zx_aload_n (i := 0) dX7_clauseAt_15 rfl rfl ?_
      refine zx_getfield dX7_clauseAt_16 zf_X7_21 ho rfl ?_
      refine zx_iload_n (i := 1) dX7_clauseAt_19 rfl rfl ?_
      obtain ⟨y_1, hy_2⟩ : ∃ y, ys[(i).toNat]? = some y := ⟨_, List.getElem?_eq_getElem (by omega)⟩
      obtain ⟨oy_y_1, fy_y_1, hyy_y_1⟩ := hel y_1 (List.mem_of_getElem? hy_2)
      refine zx_iv (b := l) (As := [zI i]) (st := []) (v := (some (zR y_1))) (w1 := w) dX7_clauseAt_20 zc_X7_28 hl (z_cls12 (by decide)) rfl rfl (Nat.le_of_ble_eq_true rfl) rfl (c_list_get hl (by decide) (by omega) hy_2) ?_
      refine zx_st (st1 := [zR y_1]) rfl ?_
      refine zx_pc (pc1 := 23) rfl ?_
      refine zx_castR dX7_clauseAt_23 hyy_y_1 rfl zl_X7_34 ?_
      refine zx_goto (tgt := 30) dX7_clauseAt_26 (by decide) ?_
      refine zx_areturn dX7_clauseAt_30 rfl (Or.inl ⟨_, rfl⟩) ?_
      exact zr_v (by rw [lAt_in (by omega) hy_2]) rfl
theorem c_X7_predicateAt {o oo l cap : Nat} {ys : List Nat} {ms cs ol : Nat} (ho : w.1 o = some (7, oo, [zR l, zR ms, zR cs])) (hl : w.1 l = some (160, ol, zLs cap ys)) (hel : ∀ y ∈ ys, ∃ a b, w.1 y = some ((6, a, b) : zO)) (i : Int) : zM G zm_X7_predicateAt (d + 3) [zR o, zI i] w (zRet (some (zP (lAt ys i))) w) := by
  refine zx_ent (by decide +kernel) rfl (Nat.le_of_ble_eq_true rfl) ?_
  refine zx_L (L1 := [some (zR o), some (zI i)]) rfl ?_
  refine zx_iload_n (i := 1) dX7_predicateAt_0 rfl rfl ?_
  refine zx_if_lt (tgt := 29) dX7_predicateAt_1 (by decide) (fun h1 => ?_) (fun h1 => ?_)
  · refine zx_null dX7_predicateAt_29 ?_
    refine zx_areturn dX7_predicateAt_30 rfl (Or.inl ⟨_, rfl⟩) ?_
    exact zr_v (by rw [lAt_out (by omega)]) rfl
  · refine zx_iload_n (i := 1) dX7_predicateAt_4 rfl rfl ?_
    refine zx_aload_n (i := 0) dX7_predicateAt_5 rfl rfl ?_
    refine zx_getfield dX7_predicateAt_6 zf_X7_12 ho rfl ?_
    refine zx_iv (b := l) (As := []) (st := [zI i]) (v := (some (zI (ys.length : Int)))) (w1 := w) dX7_predicateAt_9 zc_X7_24 hl (z_cls12 (by decide)) rfl rfl (Nat.le_of_ble_eq_true rfl) rfl (c_list_size hl (by decide)) ?_
    refine zx_st (st1 := [zI (ys.length : Int), zI i]) rfl ?_
    refine zx_icmp_ge (tgt := 29) dX7_predicateAt_12 (by decide) (fun h12 => ?_) (fun h12 => ?_)
    · refine zx_null dX7_predicateAt_29 ?_
      refine zx_areturn dX7_predicateAt_30 rfl (Or.inl ⟨_, rfl⟩) ?_
      exact zr_v (by rw [lAt_out (by omega)]) rfl
    · refine zx_aload_n (i := 0) dX7_predicateAt_15 rfl rfl ?_
      refine zx_getfield dX7_predicateAt_16 zf_X7_12 ho rfl ?_
      refine zx_iload_n (i := 1) dX7_predicateAt_19 rfl rfl ?_
      obtain ⟨y_1, hy_2⟩ : ∃ y, ys[(i).toNat]? = some y := ⟨_, List.getElem?_eq_getElem (by omega)⟩
      obtain ⟨oy_y_1, fy_y_1, hyy_y_1⟩ := hel y_1 (List.mem_of_getElem? hy_2)
      refine zx_iv (b := l) (As := [zI i]) (st := []) (v := (some (zR y_1))) (w1 := w) dX7_predicateAt_20 zc_X7_28 hl (z_cls12 (by decide)) rfl rfl (Nat.le_of_ble_eq_true rfl) rfl (c_list_get hl (by decide) (by omega) hy_2) ?_
      refine zx_st (st1 := [zR y_1]) rfl ?_
      refine zx_pc (pc1 := 23) rfl ?_
      refine zx_castR dX7_predicateAt_23 hyy_y_1 rfl zl_X7_32 ?_
      refine zx_goto (tgt := 30) dX7_predicateAt_26 (by decide) ?_
      refine zx_areturn dX7_predicateAt_30 rfl (Or.inl ⟨_, rfl⟩) ?_
      exact zr_v (by rw [lAt_in (by omega) hy_2]) rfl
theorem c_X1_goalNumbered {o oo l cap : Nat} {ys : List Nat} {nu : Int} {pr ty le ns od ch kn ol : Nat} (ho : w.1 o = some (1, oo, [zI nu, zR pr, zR ty, zR l, zR le, zR ns, zR od, zR ch, zR kn])) (hl : w.1 l = some (165, ol, zLs cap ys)) (hel : ∀ y ∈ ys, ∃ a b, w.1 y = some ((3, a, b) : zO)) (i : Int) : zM G zm_X1_goalNumbered (d + 3) [zR o, zI i] w (zRet (some (zP (lAt ys i))) w) := by
  refine zx_ent (by decide +kernel) rfl (Nat.le_of_ble_eq_true rfl) ?_
  refine zx_L (L1 := [some (zR o), some (zI i)]) rfl ?_
  refine zx_iload_n (i := 1) dX1_goalNumbered_0 rfl rfl ?_
  refine zx_if_lt (tgt := 29) dX1_goalNumbered_1 (by decide) (fun h1 => ?_) (fun h1 => ?_)
  · refine zx_null dX1_goalNumbered_29 ?_
    refine zx_areturn dX1_goalNumbered_30 rfl (Or.inl ⟨_, rfl⟩) ?_
    exact zr_v (by rw [lAt_out (by omega)]) rfl
  · refine zx_iload_n (i := 1) dX1_goalNumbered_4 rfl rfl ?_
    refine zx_aload_n (i := 0) dX1_goalNumbered_5 rfl rfl ?_
    refine zx_getfield dX1_goalNumbered_6 zf_X1_41 ho rfl ?_
    refine zx_iv (b := l) (As := []) (st := [zI i]) (v := (some (zI (ys.length : Int)))) (w1 := w) dX1_goalNumbered_9 zc_X1_71 hl (z_cls12 (by decide)) rfl rfl (Nat.le_of_ble_eq_true rfl) rfl (c_list_size hl (by decide)) ?_
    refine zx_st (st1 := [zI (ys.length : Int), zI i]) rfl ?_
    refine zx_icmp_ge (tgt := 29) dX1_goalNumbered_12 (by decide) (fun h12 => ?_) (fun h12 => ?_)
    · refine zx_null dX1_goalNumbered_29 ?_
      refine zx_areturn dX1_goalNumbered_30 rfl (Or.inl ⟨_, rfl⟩) ?_
      exact zr_v (by rw [lAt_out (by omega)]) rfl
    · refine zx_aload_n (i := 0) dX1_goalNumbered_15 rfl rfl ?_
      refine zx_getfield dX1_goalNumbered_16 zf_X1_41 ho rfl ?_
      refine zx_iload_n (i := 1) dX1_goalNumbered_19 rfl rfl ?_
      obtain ⟨y_1, hy_2⟩ : ∃ y, ys[(i).toNat]? = some y := ⟨_, List.getElem?_eq_getElem (by omega)⟩
      obtain ⟨oy_y_1, fy_y_1, hyy_y_1⟩ := hel y_1 (List.mem_of_getElem? hy_2)
      refine zx_iv (b := l) (As := [zI i]) (st := []) (v := (some (zR y_1))) (w1 := w) dX1_goalNumbered_20 zc_X1_75 hl (z_cls12 (by decide)) rfl rfl (Nat.le_of_ble_eq_true rfl) rfl (c_list_get hl (by decide) (by omega) hy_2) ?_
      refine zx_st (st1 := [zR y_1]) rfl ?_
      refine zx_pc (pc1 := 23) rfl ?_
      refine zx_castR dX1_goalNumbered_23 hyy_y_1 rfl zl_X1_52 ?_
      refine zx_goto (tgt := 30) dX1_goalNumbered_26 (by decide) ?_
      refine zx_areturn dX1_goalNumbered_30 rfl (Or.inl ⟨_, rfl⟩) ?_
      exact zr_v (by rw [lAt_in (by omega) hy_2]) rfl
theorem c_X6_modeCount {o oo l cap ol : Nat} {ys : List Nat} {nu : Int} {tt cs q : Nat} (ho : w.1 o = some (6, oo, [zI nu, zR tt, zR l, zR cs, zR q])) (hl : w.1 l = some (163, ol, zLs cap ys)) : zM G zm_X6_modeCount (d + 1) [zR o] w (zRet (some (zI (ys.length : Int))) w) := by
  refine zx_ent (by decide +kernel) rfl (Nat.le_of_ble_eq_true rfl) ?_
  refine zx_L (L1 := [some (zR o)]) rfl ?_
  refine zx_aload_n (i := 0) dX6_modeCount_0 rfl rfl ?_
  refine zx_getfield dX6_modeCount_1 zf_X6_35 ho rfl ?_
  refine zx_iv (b := l) (As := []) (st := []) (v := (some (zI (ys.length : Int)))) (w1 := w) dX6_modeCount_4 zc_X6_59 hl (z_cls12 (by decide)) rfl rfl (Nat.le_of_ble_eq_true rfl) rfl (c_list_size hl (by decide)) ?_
  refine zx_st (st1 := [zI (ys.length : Int)]) rfl ?_
  refine zx_iret dX6_modeCount_7 rfl ?_
  exact zr_v rfl rfl
theorem c_X6_clauseCount {o oo l cap ol : Nat} {ys : List Nat} {nu : Int} {tt ms q : Nat} (ho : w.1 o = some (6, oo, [zI nu, zR tt, zR ms, zR l, zR q])) (hl : w.1 l = some (164, ol, zLs cap ys)) : zM G zm_X6_clauseCount (d + 1) [zR o] w (zRet (some (zI (ys.length : Int))) w) := by
  refine zx_ent (by decide +kernel) rfl (Nat.le_of_ble_eq_true rfl) ?_
  refine zx_L (L1 := [some (zR o)]) rfl ?_
  refine zx_aload_n (i := 0) dX6_clauseCount_0 rfl rfl ?_
  refine zx_getfield dX6_clauseCount_1 zf_X6_39 ho rfl ?_
  refine zx_iv (b := l) (As := []) (st := []) (v := (some (zI (ys.length : Int)))) (w1 := w) dX6_clauseCount_4 zc_X6_59 hl (z_cls12 (by decide)) rfl rfl (Nat.le_of_ble_eq_true rfl) rfl (c_list_size hl (by decide)) ?_
  refine zx_st (st1 := [zI (ys.length : Int)]) rfl ?_
  refine zx_iret dX6_clauseCount_7 rfl ?_
  exact zr_v rfl rfl
theorem c_X7_predicateCount {o oo l cap ol : Nat} {ys : List Nat} {ms cs : Nat} (ho : w.1 o = some (7, oo, [zR l, zR ms, zR cs])) (hl : w.1 l = some (160, ol, zLs cap ys)) : zM G zm_X7_predicateCount (d + 1) [zR o] w (zRet (some (zI (ys.length : Int))) w) := by
  refine zx_ent (by decide +kernel) rfl (Nat.le_of_ble_eq_true rfl) ?_
  refine zx_L (L1 := [some (zR o)]) rfl ?_
  refine zx_aload_n (i := 0) dX7_predicateCount_0 rfl rfl ?_
  refine zx_getfield dX7_predicateCount_1 zf_X7_12 ho rfl ?_
  refine zx_iv (b := l) (As := []) (st := []) (v := (some (zI (ys.length : Int)))) (w1 := w) dX7_predicateCount_4 zc_X7_24 hl (z_cls12 (by decide)) rfl rfl (Nat.le_of_ble_eq_true rfl) rfl (c_list_size hl (by decide)) ?_
  refine zx_st (st1 := [zI (ys.length : Int)]) rfl ?_
  refine zx_iret dX7_predicateCount_7 rfl ?_
  exact zr_v rfl rfl
theorem c_X7_clauseCount {o oo l cap ol : Nat} {ys : List Nat} {ps ms : Nat} (ho : w.1 o = some (7, oo, [zR ps, zR ms, zR l])) (hl : w.1 l = some (162, ol, zLs cap ys)) : zM G zm_X7_clauseCount (d + 1) [zR o] w (zRet (some (zI (ys.length : Int))) w) := by
  refine zx_ent (by decide +kernel) rfl (Nat.le_of_ble_eq_true rfl) ?_
  refine zx_L (L1 := [some (zR o)]) rfl ?_
  refine zx_aload_n (i := 0) dX7_clauseCount_0 rfl rfl ?_
  refine zx_getfield dX7_clauseCount_1 zf_X7_21 ho rfl ?_
  refine zx_iv (b := l) (As := []) (st := []) (v := (some (zI (ys.length : Int)))) (w1 := w) dX7_clauseCount_4 zc_X7_24 hl (z_cls12 (by decide)) rfl rfl (Nat.le_of_ble_eq_true rfl) rfl (c_list_size hl (by decide)) ?_
  refine zx_st (st1 := [zI (ys.length : Int)]) rfl ?_
  refine zx_iret dX7_clauseCount_7 rfl ?_
  exact zr_v rfl rfl
theorem c_X1_goalCount {o oo l cap ol : Nat} {ys : List Nat} {nu : Int} {pr ty le ns od ch kn : Nat} (ho : w.1 o = some (1, oo, [zI nu, zR pr, zR ty, zR l, zR le, zR ns, zR od, zR ch, zR kn])) (hl : w.1 l = some (165, ol, zLs cap ys)) : zM G zm_X1_goalCount (d + 1) [zR o] w (zRet (some (zI (ys.length : Int))) w) := by
  refine zx_ent (by decide +kernel) rfl (Nat.le_of_ble_eq_true rfl) ?_
  refine zx_L (L1 := [some (zR o)]) rfl ?_
  refine zx_aload_n (i := 0) dX1_goalCount_0 rfl rfl ?_
  refine zx_getfield dX1_goalCount_1 zf_X1_41 ho rfl ?_
  refine zx_iv (b := l) (As := []) (st := []) (v := (some (zI (ys.length : Int)))) (w1 := w) dX1_goalCount_4 zc_X1_71 hl (z_cls12 (by decide)) rfl rfl (Nat.le_of_ble_eq_true rfl) rfl (c_list_size hl (by decide)) ?_
  refine zx_st (st1 := [zI (ys.length : Int)]) rfl ?_
  refine zx_iret dX1_goalCount_7 rfl ?_
  exact zr_v rfl rfl
theorem c_X6_arity {o oo tt ms cs q : Nat} {nu : Int} {T : List (List Int)} (ho : w.1 o = some (6, oo, [zI nu, zR tt, zR ms, zR cs, zR q])) (ht : w.1 tt = some (134, o, tTb 1 3 T)) (okT : tOk 1 T) : zM G zm_X6_arity (d + 1) [zR o] w (zRet (some (zI (T.length : Int))) w) := by
  refine zx_ent (by decide +kernel) rfl (Nat.le_of_ble_eq_true rfl) ?_
  refine zx_L (L1 := [some (zR o)]) rfl ?_
  refine zx_aload_n (i := 0) dX6_arity_0 rfl rfl ?_
  refine zx_getfield dX6_arity_1 zf_X6_20 ho rfl ?_
  refine zx_iv (b := tt) (As := []) (st := []) (v := (some (zI (T.length : Int)))) (w1 := w) dX6_arity_4 zc_X6_51 ht (z_cls9 (by decide)) rfl rfl (Nat.le_of_ble_eq_true rfl) rfl (c_X9_count ht (by decide) okT) ?_
  refine zx_st (st1 := [zI (T.length : Int)]) rfl ?_
  refine zx_iret dX6_arity_7 rfl ?_
  exact zr_v rfl rfl
theorem c_X6_typeAt {o oo tt ms cs q : Nat} {nu : Int} {T : List (List Int)} (ho : w.1 o = some (6, oo, [zI nu, zR tt, zR ms, zR cs, zR q])) (ht : w.1 tt = some (134, o, tTb 1 3 T)) (okT : tOk 1 T) (i : Int) : zM G zm_X6_typeAt (d + 1) [zR o, zI i] w (zRet (some (zI (tg T i 0))) w) := by
  refine zx_ent (by decide +kernel) rfl (Nat.le_of_ble_eq_true rfl) ?_
  refine zx_L (L1 := [some (zR o), some (zI i)]) rfl ?_
  refine zx_aload_n (i := 0) dX6_typeAt_0 rfl rfl ?_
  refine zx_getfield dX6_typeAt_1 zf_X6_20 ho rfl ?_
  refine zx_iload_n (i := 1) dX6_typeAt_4 rfl rfl ?_
  refine zx_iconst (v := 0) dX6_typeAt_5 rfl (z32_lit (by decide) (by decide)) ?_
  refine zx_iv (b := tt) (As := [zI i, zI 0]) (st := []) (v := (some (zI (tg T i 0)))) (w1 := w) dX6_typeAt_6 zc_X6_55 ht (z_cls9 (by decide)) rfl rfl (Nat.le_of_ble_eq_true rfl) rfl (c_X9_get ht (by decide) okT i 0) ?_
  refine zx_st (st1 := [zI (tg T i 0)]) rfl ?_
  refine zx_iret dX6_typeAt_9 rfl ?_
  exact zr_v rfl rfl
theorem c_X6_argumentSet {o oo tt ms cs q : Nat} {nu : Int} {T : List (List Int)} (ho : w.1 o = some (6, oo, [zI nu, zR tt, zR ms, zR cs, zR q])) (ht : w.1 tt = some (134, o, tTb 1 3 T)) (okT : tOk 1 T) : zM G zm_X6_argumentSet (d + 1) [zR o] w (zRet (some (zI (zw (zshl 1 (T.length : Int) - 1)))) w) := by
  refine zx_ent (by decide +kernel) rfl (Nat.le_of_ble_eq_true rfl) ?_
  refine zx_L (L1 := [some (zR o)]) rfl ?_
  refine zx_iconst (v := 1) dX6_argumentSet_0 rfl (z32_lit (by decide) (by decide)) ?_
  refine zx_aload_n (i := 0) dX6_argumentSet_1 rfl rfl ?_
  refine zx_getfield dX6_argumentSet_2 zf_X6_20 ho rfl ?_
  refine zx_iv (b := tt) (As := []) (st := [zI 1]) (v := (some (zI (T.length : Int)))) (w1 := w) dX6_argumentSet_5 zc_X6_51 ht (z_cls9 (by decide)) rfl rfl (Nat.le_of_ble_eq_true rfl) rfl (c_X9_count ht (by decide) okT) ?_
  refine zx_st (st1 := [zI (T.length : Int), zI 1]) rfl ?_
  refine zx_ishl (v := zshl 1 (T.length : Int)) dX6_argumentSet_8 rfl ?_
  refine zx_iconst (v := 1) dX6_argumentSet_9 rfl (z32_lit (by decide) (by decide)) ?_
  refine zx_isub (v := zw ((zshl 1 (T.length : Int)) - 1)) dX6_argumentSet_10 rfl ?_
  refine zx_iret dX6_argumentSet_11 rfl ?_
  exact zr_v rfl rfl
def csl (LE : List Int) (m q : Int) : Int := if 0 ≤ m ∧ m < 2 ∧ 0 ≤ q ∧ q < 5 ∧ q < LE.getD m.toNat 0 then m * 5 + q else -1
theorem csl_r {LE : List Int} {m q : Int} : csl LE m q < 10 ∧ -1 ≤ csl LE m q := by unfold csl; split <;> omega
def cln (LE : List Int) (m : Int) : Int := if 0 ≤ m ∧ m < 2 then LE.getD m.toNat 0 else 0
/-- a clause: number, predicate, types, goals, and for its modes the lengths, numbers, goals, modes, what is known -/
def clW (w : zW) (c : Nat) (nu : Int) (pr ty gs le ns od ch kn : Nat) (T : List (List Int)) (cap : Nat) (Gs : List Nat) (LE NS KN : List Int) (OD CH : List (Option Nat)) : Prop :=
  w.1 c = some (1, 0, [zI nu, zR pr, zR ty, zR gs, zR le, zR ns, zR od, zR ch, zR kn]) ∧ (w.1 ty = some (133, c, tTb 1 8 T) ∧ tOk 1 T) ∧ w.1 gs = some (165, c, zLs cap Gs) ∧ (w.1 le = some (101, c, LE.map Sum.inl) ∧ LE.length = 2) ∧ (w.1 ns = some (102, c, NS.map Sum.inl) ∧ NS.length = 10) ∧ (w.1 od = some (125, c, lob OD) ∧ OD.length = 10) ∧ (w.1 ch = some (126, c, lob CH) ∧ CH.length = 10) ∧ (w.1 kn = some (103, c, KN.map Sum.inl) ∧ KN.length = 10)
theorem c_X1_typeAt {c : Nat} {nu : Int} {pr ty gs le ns od ch kn cap : Nat} {T : List (List Int)} {Gs : List Nat} {LE NS KN : List Int} {OD CH : List (Option Nat)} (hC : clW w c nu pr ty gs le ns od ch kn T cap Gs LE NS KN OD CH) (v : Int) : zM G zm_X1_typeAt (d + 1) [zR c, zI v] w (zRet (some (zI (tg T v 0))) w) := by
  refine zx_ent (by decide +kernel) rfl (Nat.le_of_ble_eq_true rfl) ?_
  refine zx_L (L1 := [some (zR c), some (zI v)]) rfl ?_
  obtain ⟨h0, ⟨hty, okT⟩, hgs, ⟨hle, nle⟩, ⟨hns, nns⟩, ⟨hod, nod⟩, ⟨hch, nch⟩, ⟨hkn, nkn⟩⟩ := hC
  refine zx_aload_n (i := 0) dX1_typeAt_0 rfl rfl ?_
  refine zx_getfield dX1_typeAt_1 zf_X1_24 h0 rfl ?_
  refine zx_iload_n (i := 1) dX1_typeAt_4 rfl rfl ?_
  refine zx_iconst (v := 0) dX1_typeAt_5 rfl (z32_lit (by decide) (by decide)) ?_
  refine zx_iv (b := ty) (As := [zI v, zI 0]) (st := []) (v := (some (zI (tg T v 0)))) (w1 := w) dX1_typeAt_6 zc_X1_67 hty (z_cls9 (by decide)) rfl rfl (Nat.le_of_ble_eq_true rfl) rfl (c_X9_get hty (by decide) okT v 0) ?_
  refine zx_st (st1 := [zI (tg T v 0)]) rfl ?_
  refine zx_iret dX1_typeAt_9 rfl ?_
  exact zr_v rfl rfl
theorem c_X1_placeCount {c : Nat} {nu : Int} {pr ty gs le ns od ch kn cap : Nat} {T : List (List Int)} {Gs : List Nat} {LE NS KN : List Int} {OD CH : List (Option Nat)} (hC : clW w c nu pr ty gs le ns od ch kn T cap Gs LE NS KN OD CH) (m : Int) : zM G zm_X1_placeCount d [zR c, zI m] w (zRet (some (zI (cln LE m))) w) := by
  refine zx_ent (by decide +kernel) rfl (Nat.le_of_ble_eq_true rfl) ?_
  refine zx_L (L1 := [some (zR c), some (zI m)]) rfl ?_
  obtain ⟨h0, ⟨hty, okT⟩, hgs, ⟨hle, nle⟩, ⟨hns, nns⟩, ⟨hod, nod⟩, ⟨hch, nch⟩, ⟨hkn, nkn⟩⟩ := hC
  refine zx_iload_n (i := 1) dX1_placeCount_0 rfl rfl ?_
  refine zx_if_lt (tgt := 22) dX1_placeCount_1 (by decide) (fun h1 => ?_) (fun h1 => ?_)
  · refine zx_iconst (v := 0) dX1_placeCount_22 rfl (z32_lit (by decide) (by decide)) ?_
    refine zx_iret dX1_placeCount_23 rfl ?_
    exact zr_i (by unfold cln; first | rw [if_pos (by omega)] | rw [if_neg (by omega)])
  · refine zx_iload_n (i := 1) dX1_placeCount_4 rfl rfl ?_
    refine zx_aload_n (i := 0) dX1_placeCount_5 rfl rfl ?_
    refine zx_getfield dX1_placeCount_6 zf_X1_45 h0 rfl ?_
    refine zx_alen (n := 2) dX1_placeCount_9 hle (by first | decide | omega) (by rw [List.length_map]; exact nle) (by decide) ?_
    refine zx_icmp_ge (tgt := 22) dX1_placeCount_10 (by decide) (fun h10 => ?_) (fun h10 => ?_)
    · refine zx_iconst (v := 0) dX1_placeCount_22 rfl (z32_lit (by decide) (by decide)) ?_
      refine zx_iret dX1_placeCount_23 rfl ?_
      exact zr_i (by unfold cln; first | rw [if_pos (by omega)] | rw [if_neg (by omega)])
    · refine zx_aload_n (i := 0) dX1_placeCount_13 rfl rfl ?_
      refine zx_getfield dX1_placeCount_14 zf_X1_45 h0 rfl ?_
      refine zx_iload_n (i := 1) dX1_placeCount_17 rfl rfl ?_
      refine zx_iaload (v := zI (LE.getD (m).toNat 0)) dX1_placeCount_18 hle (by first | decide | omega) (by omega) (by rw [List.getElem?_map, List.getElem?_eq_getElem (by omega), List.getD_eq_getElem?_getD, List.getElem?_eq_getElem (by omega)]; rfl) ?_
      refine zx_pc (pc1 := 19) rfl ?_
      refine zx_goto (tgt := 23) dX1_placeCount_19 (by decide) ?_
      refine zx_iret dX1_placeCount_23 rfl ?_
      exact zr_i (by unfold cln; first | rw [if_pos (by omega)] | rw [if_neg (by omega)])
theorem c_X1_slot {c : Nat} {nu : Int} {pr ty gs le ns od ch kn cap : Nat} {T : List (List Int)} {Gs : List Nat} {LE NS KN : List Int} {OD CH : List (Option Nat)} (hC : clW w c nu pr ty gs le ns od ch kn T cap Gs LE NS KN OD CH) (m q : Int) : zM G zm_X1_slot d [zR c, zI m, zI q] w (zRet (some (zI (csl LE m q))) w) := by
  refine zx_ent (by decide +kernel) rfl (Nat.le_of_ble_eq_true rfl) ?_
  refine zx_L (L1 := [some (zR c), some (zI m), some (zI q), none]) rfl ?_
  obtain ⟨h0, ⟨hty, okT⟩, hgs, ⟨hle, nle⟩, ⟨hns, nns⟩, ⟨hod, nod⟩, ⟨hch, nch⟩, ⟨hkn, nkn⟩⟩ := hC
  refine zx_iload_n (i := 1) dX1_slot_0 rfl rfl ?_
  refine zx_if_lt (tgt := 17) dX1_slot_1 (by decide) (fun h1 => ?_) (fun h1 => ?_)
  · refine zx_iconst (v := 0) dX1_slot_17 rfl (z32_lit (by decide) (by decide)) ?_
    refine zx_istore_n (i := 3) dX1_slot_18 rfl (by decide) rfl ?_
    refine zx_L (L1 := [some (zR c), some (zI m), some (zI q), some (zI 0)]) rfl ?_
    refine zx_iload_n (i := 3) dX1_slot_19 rfl rfl ?_
    refine zx_if_eq (tgt := 50) dX1_slot_20 (by decide) (fun h20 => ?_) (fun h20 => absurd (by decide) h20)
    refine zx_iconst (v := -1) dX1_slot_50 rfl (z32_lit (by decide) (by decide)) ?_
    refine zx_iret dX1_slot_51 rfl ?_
    exact zr_i (by unfold csl; first | (exfalso; omega) | rw [if_pos (by omega)] | rw [if_neg (by omega)])
  · refine zx_iload_n (i := 1) dX1_slot_4 rfl rfl ?_
    refine zx_aload_n (i := 0) dX1_slot_5 rfl rfl ?_
    refine zx_getfield dX1_slot_6 zf_X1_45 h0 rfl ?_
    refine zx_alen (n := 2) dX1_slot_9 hle (by first | decide | omega) (by rw [List.length_map]; exact nle) (by decide) ?_
    refine zx_icmp_ge (tgt := 17) dX1_slot_10 (by decide) (fun h10 => ?_) (fun h10 => ?_)
    · refine zx_iconst (v := 0) dX1_slot_17 rfl (z32_lit (by decide) (by decide)) ?_
      refine zx_istore_n (i := 3) dX1_slot_18 rfl (by decide) rfl ?_
      refine zx_L (L1 := [some (zR c), some (zI m), some (zI q), some (zI 0)]) rfl ?_
      refine zx_iload_n (i := 3) dX1_slot_19 rfl rfl ?_
      refine zx_if_eq (tgt := 50) dX1_slot_20 (by decide) (fun h20 => ?_) (fun h20 => absurd (by decide) h20)
      refine zx_pc (pc1 := 50) rfl ?_
      refine zx_iconst (v := -1) dX1_slot_50 rfl (z32_lit (by decide) (by decide)) ?_
      refine zx_iret dX1_slot_51 rfl ?_
      exact zr_i (by unfold csl; first | (exfalso; omega) | rw [if_pos (by omega)] | rw [if_neg (by omega)])
    · refine zx_iconst (v := 1) dX1_slot_13 rfl (z32_lit (by decide) (by decide)) ?_
      refine zx_goto (tgt := 18) dX1_slot_14 (by decide) ?_
      refine zx_istore_n (i := 3) dX1_slot_18 rfl (by decide) rfl ?_
      refine zx_L (L1 := [some (zR c), some (zI m), some (zI q), some (zI 1)]) rfl ?_
      refine zx_iload_n (i := 3) dX1_slot_19 rfl rfl ?_
      refine zx_pc (pc1 := 20) rfl ?_
      refine zx_if_eq (tgt := 50) dX1_slot_20 (by decide) (fun h20 => absurd h20 (by decide)) (fun h20 => ?_)
      refine zx_iload_n (i := 2) dX1_slot_23 rfl rfl ?_
      refine zx_if_lt (tgt := 50) dX1_slot_24 (by decide) (fun h24 => ?_) (fun h24 => ?_)
      · refine zx_iconst (v := -1) dX1_slot_50 rfl (z32_lit (by decide) (by decide)) ?_
        refine zx_iret dX1_slot_51 rfl ?_
        exact zr_i (by unfold csl; first | (exfalso; omega) | rw [if_pos (by omega)] | rw [if_neg (by omega)])
      · refine zx_iload_n (i := 2) dX1_slot_27 rfl rfl ?_
        refine zx_iconst (v := 5) dX1_slot_28 rfl (z32_lit (by decide) (by decide)) ?_
        refine zx_icmp_ge (tgt := 50) dX1_slot_29 (by decide) (fun h29 => ?_) (fun h29 => ?_)
        · refine zx_iconst (v := -1) dX1_slot_50 rfl (z32_lit (by decide) (by decide)) ?_
          refine zx_iret dX1_slot_51 rfl ?_
          exact zr_i (by unfold csl; first | (exfalso; omega) | rw [if_pos (by omega)] | rw [if_neg (by omega)])
        · refine zx_iload_n (i := 2) dX1_slot_32 rfl rfl ?_
          refine zx_aload_n (i := 0) dX1_slot_33 rfl rfl ?_
          refine zx_getfield dX1_slot_34 zf_X1_45 h0 rfl ?_
          refine zx_iload_n (i := 1) dX1_slot_37 rfl rfl ?_
          refine zx_iaload (v := zI (LE.getD (m).toNat 0)) dX1_slot_38 hle (by first | decide | omega) (by omega) (by rw [List.getElem?_map, List.getElem?_eq_getElem (by omega), List.getD_eq_getElem?_getD, List.getElem?_eq_getElem (by omega)]; rfl) ?_
          refine zx_icmp_ge (tgt := 50) dX1_slot_39 (by decide) (fun h39 => ?_) (fun h39 => ?_)
          · refine zx_pc (pc1 := 50) rfl ?_
            refine zx_iconst (v := -1) dX1_slot_50 rfl (z32_lit (by decide) (by decide)) ?_
            refine zx_iret dX1_slot_51 rfl ?_
            exact zr_i (by unfold csl; first | (exfalso; omega) | rw [if_pos (by omega)] | rw [if_neg (by omega)])
          · refine zx_pc (pc1 := 42) rfl ?_
            refine zx_iload_n (i := 1) dX1_slot_42 rfl rfl ?_
            refine zx_iconst (v := 5) dX1_slot_43 rfl (z32_lit (by decide) (by decide)) ?_
            refine zx_imul (v := m * 5) dX1_slot_44 (zw_id ⟨by omega, by omega⟩) ?_
            refine zx_iload_n (i := 2) dX1_slot_45 rfl rfl ?_
            refine zx_iadd (v := (m * 5) + q) dX1_slot_46 (zw_id ⟨by omega, by omega⟩) ?_
            refine zx_goto (tgt := 51) dX1_slot_47 (by decide) ?_
            refine zx_iret dX1_slot_51 rfl ?_
            exact zr_i (by unfold csl; first | (exfalso; omega) | rw [if_pos (by omega)] | rw [if_neg (by omega)])
theorem c_X1_goalNumberIn {c : Nat} {nu : Int} {pr ty gs le ns od ch kn cap : Nat} {T : List (List Int)} {Gs : List Nat} {LE NS KN : List Int} {OD CH : List (Option Nat)} (hC : clW w c nu pr ty gs le ns od ch kn T cap Gs LE NS KN OD CH) (m q : Int) : zM G zm_X1_goalNumberIn (d + 1) [zR c, zI m, zI q] w (zRet (some (zI (if 0 ≤ csl LE m q then NS.getD (csl LE m q).toNat 0 else -1))) w) := by
  refine zx_ent (by decide +kernel) rfl (Nat.le_of_ble_eq_true rfl) ?_
  refine zx_L (L1 := [some (zR c), some (zI m), some (zI q), none]) rfl ?_
  obtain ⟨h0, ⟨hty, okT⟩, hgs, ⟨hle, nle⟩, ⟨hns, nns⟩, ⟨hod, nod⟩, ⟨hch, nch⟩, ⟨hkn, nkn⟩⟩ := hC
  refine zx_aload_n (i := 0) dX1_goalNumberIn_0 rfl rfl ?_
  refine zx_iload_n (i := 1) dX1_goalNumberIn_1 rfl rfl ?_
  refine zx_iload_n (i := 2) dX1_goalNumberIn_2 rfl rfl ?_
  have hsl := csl_r (LE := LE) (m := m) (q := q)
  refine zx_iv (b := c) (As := [zI m, zI q]) (st := []) (v := (some (zI (csl LE m q)))) (w1 := w) dX1_goalNumberIn_3 zc_X1_99 h0 rfl rfl rfl (Nat.le_of_ble_eq_true rfl) rfl (c_X1_slot ⟨h0, ⟨hty, okT⟩, hgs, ⟨hle, nle⟩, ⟨hns, nns⟩, ⟨hod, nod⟩, ⟨hch, nch⟩, ⟨hkn, nkn⟩⟩ m q) ?_
  refine zx_st (st1 := [zI (csl LE m q)]) rfl ?_
  refine zx_istore_n (i := 3) dX1_goalNumberIn_6 rfl (by decide) rfl ?_
  refine zx_L (L1 := [some (zR c), some (zI m), some (zI q), some (zI (csl LE m q))]) rfl ?_
  refine zx_iload_n (i := 3) dX1_goalNumberIn_7 rfl rfl ?_
  refine zx_if_lt (tgt := 29) dX1_goalNumberIn_8 (by decide) (fun h8 => ?_) (fun h8 => ?_)
  · refine zx_iconst (v := -1) dX1_goalNumberIn_29 rfl (z32_lit (by decide) (by decide)) ?_
    refine zx_iret dX1_goalNumberIn_30 rfl ?_
    exact zr_v (by first | (exfalso; omega) | rw [if_pos (by omega)] | rw [if_neg (by omega)]) rfl
  · refine zx_iload_n (i := 3) dX1_goalNumberIn_11 rfl rfl ?_
    refine zx_aload_n (i := 0) dX1_goalNumberIn_12 rfl rfl ?_
    refine zx_getfield dX1_goalNumberIn_13 zf_X1_49 h0 rfl ?_
    refine zx_alen (n := 10) dX1_goalNumberIn_16 hns (by first | decide | omega) (by rw [List.length_map]; exact nns) (by decide) ?_
    refine zx_pc (pc1 := 17) rfl ?_
    refine zx_icmp_ge (tgt := 29) dX1_goalNumberIn_17 (by decide) (fun h17 => ?_) (fun h17 => ?_)
    · refine zx_iconst (v := -1) dX1_goalNumberIn_29 rfl (z32_lit (by decide) (by decide)) ?_
      refine zx_iret dX1_goalNumberIn_30 rfl ?_
      exact zr_v (by first | (exfalso; omega) | rw [if_pos (by omega)] | rw [if_neg (by omega)]) rfl
    · refine zx_aload_n (i := 0) dX1_goalNumberIn_20 rfl rfl ?_
      refine zx_getfield dX1_goalNumberIn_21 zf_X1_49 h0 rfl ?_
      refine zx_iload_n (i := 3) dX1_goalNumberIn_24 rfl rfl ?_
      refine zx_iaload (v := zI (NS.getD ((csl LE m q)).toNat 0)) dX1_goalNumberIn_25 hns (by first | decide | omega) (by omega) (by rw [List.getElem?_map, List.getElem?_eq_getElem (by omega), List.getD_eq_getElem?_getD, List.getElem?_eq_getElem (by omega)]; rfl) ?_
      refine zx_goto (tgt := 30) dX1_goalNumberIn_26 (by decide) ?_
      refine zx_iret dX1_goalNumberIn_30 rfl ?_
      exact zr_v (by first | (exfalso; omega) | rw [if_pos (by omega)] | rw [if_neg (by omega)]) rfl
theorem c_X1_goalIn {c : Nat} {nu : Int} {pr ty gs le ns od ch kn cap : Nat} {T : List (List Int)} {Gs : List Nat} {LE NS KN : List Int} {OD CH : List (Option Nat)} (hC : clW w c nu pr ty gs le ns od ch kn T cap Gs LE NS KN OD CH) (m q : Int) : zM G zm_X1_goalIn (d + 1) [zR c, zI m, zI q] w (zRet (some (zP (if 0 ≤ csl LE m q then OD.getD (csl LE m q).toNat none else none))) w) := by
  refine zx_ent (by decide +kernel) rfl (Nat.le_of_ble_eq_true rfl) ?_
  refine zx_L (L1 := [some (zR c), some (zI m), some (zI q), none]) rfl ?_
  obtain ⟨h0, ⟨hty, okT⟩, hgs, ⟨hle, nle⟩, ⟨hns, nns⟩, ⟨hod, nod⟩, ⟨hch, nch⟩, ⟨hkn, nkn⟩⟩ := hC
  refine zx_aload_n (i := 0) dX1_goalIn_0 rfl rfl ?_
  refine zx_iload_n (i := 1) dX1_goalIn_1 rfl rfl ?_
  refine zx_iload_n (i := 2) dX1_goalIn_2 rfl rfl ?_
  have hsl := csl_r (LE := LE) (m := m) (q := q)
  refine zx_iv (b := c) (As := [zI m, zI q]) (st := []) (v := (some (zI (csl LE m q)))) (w1 := w) dX1_goalIn_3 zc_X1_99 h0 rfl rfl rfl (Nat.le_of_ble_eq_true rfl) rfl (c_X1_slot ⟨h0, ⟨hty, okT⟩, hgs, ⟨hle, nle⟩, ⟨hns, nns⟩, ⟨hod, nod⟩, ⟨hch, nch⟩, ⟨hkn, nkn⟩⟩ m q) ?_
  refine zx_st (st1 := [zI (csl LE m q)]) rfl ?_
  refine zx_istore_n (i := 3) dX1_goalIn_6 rfl (by decide) rfl ?_
  refine zx_L (L1 := [some (zR c), some (zI m), some (zI q), some (zI (csl LE m q))]) rfl ?_
  refine zx_iload_n (i := 3) dX1_goalIn_7 rfl rfl ?_
  refine zx_if_lt (tgt := 29) dX1_goalIn_8 (by decide) (fun h8 => ?_) (fun h8 => ?_)
  · refine zx_null dX1_goalIn_29 ?_
    refine zx_areturn dX1_goalIn_30 rfl (Or.inl ⟨_, rfl⟩) ?_
    exact zr_v (by first | (exfalso; omega) | rw [if_pos (by omega)] | rw [if_neg (by omega)]) rfl
  · refine zx_iload_n (i := 3) dX1_goalIn_11 rfl rfl ?_
    refine zx_aload_n (i := 0) dX1_goalIn_12 rfl rfl ?_
    refine zx_getfield dX1_goalIn_13 zf_X1_54 h0 rfl ?_
    refine zx_alen (n := 10) dX1_goalIn_16 hod (by first | decide | omega) (by rw [lob_len]; exact nod) (by decide) ?_
    refine zx_pc (pc1 := 17) rfl ?_
    refine zx_icmp_ge (tgt := 29) dX1_goalIn_17 (by decide) (fun h17 => ?_) (fun h17 => ?_)
    · refine zx_null dX1_goalIn_29 ?_
      refine zx_areturn dX1_goalIn_30 rfl (Or.inl ⟨_, rfl⟩) ?_
      exact zr_v (by first | (exfalso; omega) | rw [if_pos (by omega)] | rw [if_neg (by omega)]) rfl
    · refine zx_aload_n (i := 0) dX1_goalIn_20 rfl rfl ?_
      refine zx_getfield dX1_goalIn_21 zf_X1_54 h0 rfl ?_
      refine zx_iload_n (i := 3) dX1_goalIn_24 rfl rfl ?_
      refine zx_aaload (v := zP (OD.getD ((csl LE m q)).toNat none)) dX1_goalIn_25 hod (by decide) (by omega) (by unfold lob; rw [List.getElem?_map, List.getElem?_eq_getElem (by omega), List.getD_eq_getElem?_getD, List.getElem?_eq_getElem (by omega)]; rfl) ?_
      refine zx_goto (tgt := 30) dX1_goalIn_26 (by decide) ?_
      refine zx_areturn dX1_goalIn_30 rfl (Or.inl ⟨_, rfl⟩) ?_
      exact zr_v (by first | (exfalso; omega) | rw [if_pos (by omega)] | rw [if_neg (by omega)]) rfl
theorem c_X1_chosenIn {c : Nat} {nu : Int} {pr ty gs le ns od ch kn cap : Nat} {T : List (List Int)} {Gs : List Nat} {LE NS KN : List Int} {OD CH : List (Option Nat)} (hC : clW w c nu pr ty gs le ns od ch kn T cap Gs LE NS KN OD CH) (m q : Int) : zM G zm_X1_chosenIn (d + 1) [zR c, zI m, zI q] w (zRet (some (zP (if 0 ≤ csl LE m q then CH.getD (csl LE m q).toNat none else none))) w) := by
  refine zx_ent (by decide +kernel) rfl (Nat.le_of_ble_eq_true rfl) ?_
  refine zx_L (L1 := [some (zR c), some (zI m), some (zI q), none]) rfl ?_
  obtain ⟨h0, ⟨hty, okT⟩, hgs, ⟨hle, nle⟩, ⟨hns, nns⟩, ⟨hod, nod⟩, ⟨hch, nch⟩, ⟨hkn, nkn⟩⟩ := hC
  refine zx_aload_n (i := 0) dX1_chosenIn_0 rfl rfl ?_
  refine zx_iload_n (i := 1) dX1_chosenIn_1 rfl rfl ?_
  refine zx_iload_n (i := 2) dX1_chosenIn_2 rfl rfl ?_
  have hsl := csl_r (LE := LE) (m := m) (q := q)
  refine zx_iv (b := c) (As := [zI m, zI q]) (st := []) (v := (some (zI (csl LE m q)))) (w1 := w) dX1_chosenIn_3 zc_X1_99 h0 rfl rfl rfl (Nat.le_of_ble_eq_true rfl) rfl (c_X1_slot ⟨h0, ⟨hty, okT⟩, hgs, ⟨hle, nle⟩, ⟨hns, nns⟩, ⟨hod, nod⟩, ⟨hch, nch⟩, ⟨hkn, nkn⟩⟩ m q) ?_
  refine zx_st (st1 := [zI (csl LE m q)]) rfl ?_
  refine zx_istore_n (i := 3) dX1_chosenIn_6 rfl (by decide) rfl ?_
  refine zx_L (L1 := [some (zR c), some (zI m), some (zI q), some (zI (csl LE m q))]) rfl ?_
  refine zx_iload_n (i := 3) dX1_chosenIn_7 rfl rfl ?_
  refine zx_if_lt (tgt := 29) dX1_chosenIn_8 (by decide) (fun h8 => ?_) (fun h8 => ?_)
  · refine zx_null dX1_chosenIn_29 ?_
    refine zx_areturn dX1_chosenIn_30 rfl (Or.inl ⟨_, rfl⟩) ?_
    exact zr_v (by first | (exfalso; omega) | rw [if_pos (by omega)] | rw [if_neg (by omega)]) rfl
  · refine zx_iload_n (i := 3) dX1_chosenIn_11 rfl rfl ?_
    refine zx_aload_n (i := 0) dX1_chosenIn_12 rfl rfl ?_
    refine zx_getfield dX1_chosenIn_13 zf_X1_60 h0 rfl ?_
    refine zx_alen (n := 10) dX1_chosenIn_16 hch (by first | decide | omega) (by rw [lob_len]; exact nch) (by decide) ?_
    refine zx_pc (pc1 := 17) rfl ?_
    refine zx_icmp_ge (tgt := 29) dX1_chosenIn_17 (by decide) (fun h17 => ?_) (fun h17 => ?_)
    · refine zx_null dX1_chosenIn_29 ?_
      refine zx_areturn dX1_chosenIn_30 rfl (Or.inl ⟨_, rfl⟩) ?_
      exact zr_v (by first | (exfalso; omega) | rw [if_pos (by omega)] | rw [if_neg (by omega)]) rfl
    · refine zx_aload_n (i := 0) dX1_chosenIn_20 rfl rfl ?_
      refine zx_getfield dX1_chosenIn_21 zf_X1_60 h0 rfl ?_
      refine zx_iload_n (i := 3) dX1_chosenIn_24 rfl rfl ?_
      refine zx_aaload (v := zP (CH.getD ((csl LE m q)).toNat none)) dX1_chosenIn_25 hch (by decide) (by omega) (by unfold lob; rw [List.getElem?_map, List.getElem?_eq_getElem (by omega), List.getD_eq_getElem?_getD, List.getElem?_eq_getElem (by omega)]; rfl) ?_
      refine zx_goto (tgt := 30) dX1_chosenIn_26 (by decide) ?_
      refine zx_areturn dX1_chosenIn_30 rfl (Or.inl ⟨_, rfl⟩) ?_
      exact zr_v (by first | (exfalso; omega) | rw [if_pos (by omega)] | rw [if_neg (by omega)]) rfl
theorem c_X1_knownIn {c : Nat} {nu : Int} {pr ty gs le ns od ch kn cap : Nat} {T : List (List Int)} {Gs : List Nat} {LE NS KN : List Int} {OD CH : List (Option Nat)} (hC : clW w c nu pr ty gs le ns od ch kn T cap Gs LE NS KN OD CH) (m q : Int) : zM G zm_X1_knownIn (d + 1) [zR c, zI m, zI q] w (zRet (some (zI (if 0 ≤ csl LE m q then KN.getD (csl LE m q).toNat 0 else 0))) w) := by
  refine zx_ent (by decide +kernel) rfl (Nat.le_of_ble_eq_true rfl) ?_
  refine zx_L (L1 := [some (zR c), some (zI m), some (zI q), none]) rfl ?_
  obtain ⟨h0, ⟨hty, okT⟩, hgs, ⟨hle, nle⟩, ⟨hns, nns⟩, ⟨hod, nod⟩, ⟨hch, nch⟩, ⟨hkn, nkn⟩⟩ := hC
  refine zx_aload_n (i := 0) dX1_knownIn_0 rfl rfl ?_
  refine zx_iload_n (i := 1) dX1_knownIn_1 rfl rfl ?_
  refine zx_iload_n (i := 2) dX1_knownIn_2 rfl rfl ?_
  have hsl := csl_r (LE := LE) (m := m) (q := q)
  refine zx_iv (b := c) (As := [zI m, zI q]) (st := []) (v := (some (zI (csl LE m q)))) (w1 := w) dX1_knownIn_3 zc_X1_99 h0 rfl rfl rfl (Nat.le_of_ble_eq_true rfl) rfl (c_X1_slot ⟨h0, ⟨hty, okT⟩, hgs, ⟨hle, nle⟩, ⟨hns, nns⟩, ⟨hod, nod⟩, ⟨hch, nch⟩, ⟨hkn, nkn⟩⟩ m q) ?_
  refine zx_st (st1 := [zI (csl LE m q)]) rfl ?_
  refine zx_istore_n (i := 3) dX1_knownIn_6 rfl (by decide) rfl ?_
  refine zx_L (L1 := [some (zR c), some (zI m), some (zI q), some (zI (csl LE m q))]) rfl ?_
  refine zx_iload_n (i := 3) dX1_knownIn_7 rfl rfl ?_
  refine zx_if_lt (tgt := 29) dX1_knownIn_8 (by decide) (fun h8 => ?_) (fun h8 => ?_)
  · refine zx_iconst (v := 0) dX1_knownIn_29 rfl (z32_lit (by decide) (by decide)) ?_
    refine zx_iret dX1_knownIn_30 rfl ?_
    exact zr_v (by first | (exfalso; omega) | rw [if_pos (by omega)] | rw [if_neg (by omega)]) rfl
  · refine zx_iload_n (i := 3) dX1_knownIn_11 rfl rfl ?_
    refine zx_aload_n (i := 0) dX1_knownIn_12 rfl rfl ?_
    refine zx_getfield dX1_knownIn_13 zf_X1_64 h0 rfl ?_
    refine zx_alen (n := 10) dX1_knownIn_16 hkn (by first | decide | omega) (by rw [List.length_map]; exact nkn) (by decide) ?_
    refine zx_pc (pc1 := 17) rfl ?_
    refine zx_icmp_ge (tgt := 29) dX1_knownIn_17 (by decide) (fun h17 => ?_) (fun h17 => ?_)
    · refine zx_iconst (v := 0) dX1_knownIn_29 rfl (z32_lit (by decide) (by decide)) ?_
      refine zx_iret dX1_knownIn_30 rfl ?_
      exact zr_v (by first | (exfalso; omega) | rw [if_pos (by omega)] | rw [if_neg (by omega)]) rfl
    · refine zx_aload_n (i := 0) dX1_knownIn_20 rfl rfl ?_
      refine zx_getfield dX1_knownIn_21 zf_X1_64 h0 rfl ?_
      refine zx_iload_n (i := 3) dX1_knownIn_24 rfl rfl ?_
      refine zx_iaload (v := zI (KN.getD ((csl LE m q)).toNat 0)) dX1_knownIn_25 hkn (by first | decide | omega) (by omega) (by rw [List.getElem?_map, List.getElem?_eq_getElem (by omega), List.getD_eq_getElem?_getD, List.getElem?_eq_getElem (by omega)]; rfl) ?_
      refine zx_goto (tgt := 30) dX1_knownIn_26 (by decide) ?_
      refine zx_iret dX1_knownIn_30 rfl ?_
      exact zr_v (by first | (exfalso; omega) | rw [if_pos (by omega)] | rw [if_neg (by omega)]) rfl
end CGOAL
