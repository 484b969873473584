/-! Own rows: the face: addSame, addBuild, addCall. Walked by program (wip/p37/m_face6.py). -/
section CFACE6
variable {G : zG} {d : Nat} {w : zW} {o t pg mc br la sp : Nat} {comp asked sum : Int} {R : pgR} {c y : Nat} {Q2 : zQ}
/-- a goal was made: what stands in the world behind it -/
def gMk (w : zW) (k su n u0 u1 u2 : Int) (w2 : zW) (g va : Nat) : Prop := w2.1 g = some (3, 0, [zI k, zI su, zI n, zR va]) ∧ w2.1 va = some (100, g, [zI u0, zI u1, zI u2]) ∧ (∀ b ob, w.1 b = some ob → w2.1 b = some ob) ∧ w2.2.1 = w.2.1 + 2 ∧ w2.2.2 = w.2.2 + 7 ∧ w.2.1 ≤ g
theorem f_as_a (ho : w.1 o = some (11, 0, [zR t, zR pg, zR mc, zR br, zR la, zR sp, zI comp, zI asked, zJ sum])) (hP : pgW w pg R) (i : Int) (hcc : lAt R.2.2.1.2.2 i = some c) (x z : Int) (hx : 0 ≤ x ∧ x < 8) (hz : 0 ≤ z ∧ z < 8) (ht : tg (R.2.2.2.2.2.1 c).2.2.1 x 0 ≠ -1) (hAG : ∀ w2 g va, gMk w 1 (-1) 2 x z 0 w2 g va → zM G zm_X11_addGoal (d + 7) [zR o, zR c, zR g, zI (tg (R.2.2.2.2.2.1 c).2.2.1 x 0), zI (tg (R.2.2.2.2.2.1 c).2.2.1 x 0), zI (-1)] w2 Q2) (hQ2 : ∀ v w3, Q2 (.inl v) w3 → ∃ n : Int, v = some (zI n)) (hst0 : G.1.stackTraces = false) (r1 : w.2.1 + 2 ≤ G.2.2.2.2.1) (r2 : w.2.2 + 7 ≤ G.2.2.2.2.2) : zM G zm_X11_addSame (d + 8) [zR o, zI i, zI x, zI z] w (Q2) := by
  refine zx_ent (by decide +kernel) rfl (Nat.le_of_ble_eq_true rfl) ?_
  refine zx_L (L1 := [some (zR o), some (zI i), some (zI x), some (zI z), none, none]) rfl ?_
  refine zx_ok (fun ok0 => ?_)
  have helP : ∀ y ∈ R.2.2.1.1, ∃ a b, w.1 y = some ((6, a, b) : zO) := fun y hy => ⟨_, _, (hP.2.2.2.2.1 y hy).1.1⟩
  have helC : ∀ y ∈ R.2.2.1.2.2, ∃ a b, w.1 y = some ((1, a, b) : zO) := fun y hy => ⟨_, _, (hP.2.2.2.2.2.2 y hy).1.1⟩
  have hCl := (hP.2.2.2.2.2.2 c (lAt_mem hcc)).1
  refine zx_aload_n (i := 0) dX11_addSame_0 rfl rfl ?_
  refine zx_getfield dX11_addSame_1 zf_X11_19 ho rfl ?_
  refine zx_iload_n (i := 1) dX11_addSame_4 rfl rfl ?_
  refine zx_iv (b := pg) (As := [zI i]) (st := []) (v := (some (zR c))) (w1 := w) dX11_addSame_5 zc_X11_161 hP.1 rfl rfl rfl (Nat.le_of_ble_eq_true rfl) rfl (by have q := c_X7_clauseAt (G := G) (d := d + 4) hP.1 hP.2.2.2.1 helC i; rw [hcc] at q; exact q) ?_
  refine zx_st (st1 := [zR c]) rfl ?_
  refine zx_astore (i := 4) dX11_addSame_8 (by decide) rfl ?_
  refine zx_L (L1 := [some (zR o), some (zI i), some (zI x), some (zI z), some (zR c), none]) rfl ?_
  refine zx_aload (i := 4) dX11_addSame_10 rfl ?_
  refine zx_ifnull (tgt := 24) dX11_addSame_12 (by decide) (fun h => by cases h) (fun _ => ?_)
  refine zx_iload_n (i := 2) dX11_addSame_15 rfl rfl ?_
  refine zx_iload_n (i := 3) dX11_addSame_16 rfl rfl ?_
  refine zx_iconst (v := 0) dX11_addSame_17 rfl (z32_lit (by decide) (by decide)) ?_
  refine zx_is (As := [zI x, zI z, zI 0]) (st := []) (v := (some (zI 1))) (w1 := w) dX11_addSame_18 zc_X11_165 rfl (Nat.le_of_ble_eq_true rfl) rfl (f_av _ _ _ hx hz (by decide)) ?_
  refine zx_st (st1 := [zI 1]) rfl ?_
  refine zx_pc (pc1 := 21) rfl ?_
  refine zx_if_ne (tgt := 32) dX11_addSame_21 (by decide) (fun h21 => ?_) (fun h21 => absurd (by decide) h21)
  refine zx_aload (i := 4) dX11_addSame_32 rfl ?_
  refine zx_iload_n (i := 2) dX11_addSame_34 rfl rfl ?_
  refine zx_iv (b := c) (As := [zI x]) (st := []) (v := (some (zI (tg (R.2.2.2.2.2.1 c).2.2.1 x 0)))) (w1 := w) dX11_addSame_35 zc_X11_183 hCl.1 rfl rfl rfl (Nat.le_of_ble_eq_true rfl) rfl (c_X1_typeAt hCl x) ?_
  refine zx_st (st1 := [zI (tg (R.2.2.2.2.2.1 c).2.2.1 x 0)]) rfl ?_
  refine zx_iconst (v := -1) dX11_addSame_38 rfl (z32_lit (by decide) (by decide)) ?_
  refine zx_icmp_eq (tgt := 51) dX11_addSame_39 (by decide) (fun h39 => absurd h39 (ht)) (fun h39 => ?_)
  refine zx_aload (i := 4) dX11_addSame_42 rfl ?_
  refine zx_iload_n (i := 2) dX11_addSame_44 rfl rfl ?_
  refine zx_iv (b := c) (As := [zI x]) (st := []) (v := (some (zI (tg (R.2.2.2.2.2.1 c).2.2.1 x 0)))) (w1 := w) dX11_addSame_45 zc_X11_183 hCl.1 rfl rfl rfl (Nat.le_of_ble_eq_true rfl) rfl (c_X1_typeAt hCl x) ?_
  refine zx_st (st1 := [zI (tg (R.2.2.2.2.2.1 c).2.2.1 x 0)]) rfl ?_
  refine zx_goto (tgt := 57) dX11_addSame_48 (by decide) ?_
  refine zx_istore (i := 5) dX11_addSame_57 (by decide) rfl ?_
  refine zx_L (L1 := [some (zR o), some (zI i), some (zI x), some (zI z), some (zR c), some (zI (tg (R.2.2.2.2.2.1 c).2.2.1 x 0))]) rfl ?_
  refine zx_iload (i := 5) dX11_addSame_59 rfl ?_
  refine zx_pc (pc1 := 61) rfl ?_
  refine zx_iconst (v := -1) dX11_addSame_61 rfl (z32_lit (by decide) (by decide)) ?_
  refine zx_icmp_ne (tgt := 73) dX11_addSame_62 (by decide) (fun h62 => ?_) (fun h62 => ?_)
  · refine zx_aload_n (i := 0) dX11_addSame_73 rfl rfl ?_
    refine zx_aload (i := 4) dX11_addSame_74 rfl ?_
    refine zx_ok (fun ok_1 => ?_)
    refine zx_new dX11_addSame_76 zn_X11_168 (by omega) (by omega) ?_
    obtain ⟨w_2, hw_3⟩ : ∃ ww, ww = znew w (3, 0, [zI 0, zI 0, zI 0, zN]) 4 := ⟨_, rfl⟩
    obtain ⟨a_4, ha_5⟩ : ∃ ww, ww = w.2.1 := ⟨_, rfl⟩
    rw [← hw_3, ← ha_5]
    have q_6 : w_2.2.1 = w.2.1 + 1 ∧ w_2.2.2 = w.2.2 + 4 := by rw [hw_3]; exact ⟨rfl, rfl⟩
    have h_7 : w_2.1 a_4 = some (3, 0, [zI 0, zI 0, zI 0, zN]) := by rw [hw_3, ha_5]; exact znew_at
    refine zx_dup dX11_addSame_79 (fun a h => by cases h) ?_
    refine zx_iconst (v := 1) dX11_addSame_80 rfl (z32_lit (by decide) (by decide)) ?_
    refine zx_iconst (v := -1) dX11_addSame_81 rfl (z32_lit (by decide) (by decide)) ?_
    refine zx_iconst (v := 2) dX11_addSame_82 rfl (z32_lit (by decide) (by decide)) ?_
    refine zx_iload_n (i := 2) dX11_addSame_83 rfl rfl ?_
    refine zx_iload_n (i := 3) dX11_addSame_84 rfl rfl ?_
    refine zx_iconst (v := 0) dX11_addSame_85 rfl (z32_lit (by decide) (by decide)) ?_
    refine zx_pc (pc1 := 86) rfl ?_
    refine zx_ok (fun ok_8 => ?_)
    obtain ⟨w_9, hw_10⟩ : ∃ ww, ww = znew w_2 (100, a_4, [zI x, zI z, zI 0]) 3 := ⟨_, rfl⟩
    obtain ⟨a_11, ha_12⟩ : ∃ ww, ww = w_2.2.1 := ⟨_, rfl⟩
    have q_13 : w_9.2.1 = w_2.2.1 + 1 ∧ w_9.2.2 = w_2.2.2 + 3 := by rw [hw_10]; exact ⟨rfl, rfl⟩
    have h_14 : w_9.1 a_11 = some (100, a_4, [zI x, zI z, zI 0]) := by rw [hw_10, ha_12]; exact znew_at
    have h_15 : w_9.1 a_4 = some (3, 0, [zI 0, zI 0, zI 0, zN]) := by
      rw [hw_10]; exact znew_to (ok_8 _ _ h_7) h_7
    obtain ⟨w_16, hw_17⟩ : ∃ ww, ww = zput w_9 a_4 (3, 0, [zI 1, zI (-1), zI 2, zR a_11]) := ⟨_, rfl⟩
    have q_18 : w_16.2.1 = w_9.2.1 ∧ w_16.2.2 = w_9.2.2 := by rw [hw_17]; exact ⟨rfl, rfl⟩
    have h_19 : w_16.1 a_4 = some (3, 0, [zI 1, zI (-1), zI 2, zR a_11]) := by rw [hw_17]; exact zput_at
    refine zx_ic (b := a_4) (As := [zI 1, zI (-1), zI 2, zI x, zI z, zI 0]) (st := [zR a_4, zR c, zR o]) (w1 := w_16) dX11_addSame_86 zc_X11_170 rfl (Nat.le_of_ble_eq_true rfl) rfl (by rw [hw_17]; (try rw [ha_12]); rw [hw_10]; exact (c_X3_init h_7 (by omega) (by omega) 1 (-1) 2 x z 0)) ?_
    refine zx_iload (i := 5) dX11_addSame_89 rfl ?_
    refine zx_iload (i := 5) dX11_addSame_91 rfl ?_
    refine zx_iconst (v := -1) dX11_addSame_93 rfl (z32_lit (by decide) (by decide)) ?_
    have h_20 : w_16.1 a_11 = some (100, a_4, [zI x, zI z, zI 0]) := by
      rw [hw_17]; exact zput_tg h_15 h_14 (by simp)
    have h_21 : w_2.1 o = some (11, 0, [zR t, zR pg, zR mc, zR br, zR la, zR sp, zI comp, zI asked, zJ sum]) := by
      rw [hw_3]; exact znew_to (ok_1 _ _ ho) ho
    have h_22 : w_9.1 o = some (11, 0, [zR t, zR pg, zR mc, zR br, zR la, zR sp, zI comp, zI asked, zJ sum]) := by
      rw [hw_10]; exact znew_to (ok_8 _ _ h_21) h_21
    have h_23 : w_16.1 o = some (11, 0, [zR t, zR pg, zR mc, zR br, zR la, zR sp, zI comp, zI asked, zJ sum]) := by
      rw [hw_17]; exact zput_tg h_15 h_22 (by simp)
    have hfr : ∀ b ob, w.1 b = some ob → w_16.1 b = some ob := by
      intro b ob  hb
      have hlt := ok0 b ob hb
      have f_24 : w_2.1 b = some ob := by rw [hw_3, znew_ne (by omega)]; exact hb
      have f_25 : w_9.1 b = some ob := by rw [hw_10, znew_ne (by omega)]; exact f_24
      have f_26 : w_16.1 b = some ob := by rw [hw_17]; exact zput_to (by omega) f_25
      exact f_26
    have hAG2 := hAG w_16 a_4 a_11 ⟨h_19, h_20, hfr, by omega, by omega, by omega⟩
    refine zx_invokevirtual (b := o) (As := [zR c, zR a_4, zI (tg (R.2.2.2.2.2.1 c).2.2.1 x 0), zI (tg (R.2.2.2.2.2.1 c).2.2.1 x 0), zI (-1)]) (st := []) dX11_addSame_94 zc_X11_179 h_23 rfl rfl rfl (Nat.le_of_ble_eq_true rfl) rfl hAG2 (fun v3 w3 q3 => ?_) (fun _ _ q => q)
    obtain ⟨n3, rfl⟩ := hQ2 v3 w3 q3
    refine zx_st (st1 := [zI n3]) rfl ?_
    refine zx_iret dX11_addSame_97 rfl ?_
    exact q3
  · refine zx_thrown zt_X11_83_85 dX11_addSame_65 dX11_addSame_68 dX11_addSame_69 dX11_addSame_72 rfl hst0 (Nat.le_of_ble_eq_true rfl) (by omega) (by omega) (fun z t z1 z2 z3 z4 => ?_)
    exfalso
    omega
theorem f_as_b (ho : w.1 o = some (11, 0, [zR t, zR pg, zR mc, zR br, zR la, zR sp, zI comp, zI asked, zJ sum])) (hP : pgW w pg R) (i : Int) (hcc : lAt R.2.2.1.2.2 i = some c) (x z : Int) (hx : 0 ≤ x ∧ x < 8) (hz : 0 ≤ z ∧ z < 8) (ht : tg (R.2.2.2.2.2.1 c).2.2.1 x 0 = -1) (ht2 : tg (R.2.2.2.2.2.1 c).2.2.1 z 0 ≠ -1) (hAG : ∀ w2 g va, gMk w 1 (-1) 2 x z 0 w2 g va → zM G zm_X11_addGoal (d + 7) [zR o, zR c, zR g, zI (tg (R.2.2.2.2.2.1 c).2.2.1 z 0), zI (tg (R.2.2.2.2.2.1 c).2.2.1 z 0), zI (-1)] w2 Q2) (hQ2 : ∀ v w3, Q2 (.inl v) w3 → ∃ n : Int, v = some (zI n)) (hst0 : G.1.stackTraces = false) (r1 : w.2.1 + 2 ≤ G.2.2.2.2.1) (r2 : w.2.2 + 7 ≤ G.2.2.2.2.2) : zM G zm_X11_addSame (d + 8) [zR o, zI i, zI x, zI z] w (Q2) := by
  refine zx_ent (by decide +kernel) rfl (Nat.le_of_ble_eq_true rfl) ?_
  refine zx_L (L1 := [some (zR o), some (zI i), some (zI x), some (zI z), none, none]) rfl ?_
  refine zx_ok (fun ok0 => ?_)
  have helP : ∀ y ∈ R.2.2.1.1, ∃ a b, w.1 y = some ((6, a, b) : zO) := fun y hy => ⟨_, _, (hP.2.2.2.2.1 y hy).1.1⟩
  have helC : ∀ y ∈ R.2.2.1.2.2, ∃ a b, w.1 y = some ((1, a, b) : zO) := fun y hy => ⟨_, _, (hP.2.2.2.2.2.2 y hy).1.1⟩
  have hCl := (hP.2.2.2.2.2.2 c (lAt_mem hcc)).1
  refine zx_aload_n (i := 0) dX11_addSame_0 rfl rfl ?_
  refine zx_getfield dX11_addSame_1 zf_X11_19 ho rfl ?_
  refine zx_iload_n (i := 1) dX11_addSame_4 rfl rfl ?_
  refine zx_iv (b := pg) (As := [zI i]) (st := []) (v := (some (zR c))) (w1 := w) dX11_addSame_5 zc_X11_161 hP.1 rfl rfl rfl (Nat.le_of_ble_eq_true rfl) rfl (by have q := c_X7_clauseAt (G := G) (d := d + 4) hP.1 hP.2.2.2.1 helC i; rw [hcc] at q; exact q) ?_
  refine zx_st (st1 := [zR c]) rfl ?_
  refine zx_astore (i := 4) dX11_addSame_8 (by decide) rfl ?_
  refine zx_L (L1 := [some (zR o), some (zI i), some (zI x), some (zI z), some (zR c), none]) rfl ?_
  refine zx_aload (i := 4) dX11_addSame_10 rfl ?_
  refine zx_ifnull (tgt := 24) dX11_addSame_12 (by decide) (fun h => by cases h) (fun _ => ?_)
  refine zx_iload_n (i := 2) dX11_addSame_15 rfl rfl ?_
  refine zx_iload_n (i := 3) dX11_addSame_16 rfl rfl ?_
  refine zx_iconst (v := 0) dX11_addSame_17 rfl (z32_lit (by decide) (by decide)) ?_
  refine zx_is (As := [zI x, zI z, zI 0]) (st := []) (v := (some (zI 1))) (w1 := w) dX11_addSame_18 zc_X11_165 rfl (Nat.le_of_ble_eq_true rfl) rfl (f_av _ _ _ hx hz (by decide)) ?_
  refine zx_st (st1 := [zI 1]) rfl ?_
  refine zx_pc (pc1 := 21) rfl ?_
  refine zx_if_ne (tgt := 32) dX11_addSame_21 (by decide) (fun h21 => ?_) (fun h21 => absurd (by decide) h21)
  refine zx_aload (i := 4) dX11_addSame_32 rfl ?_
  refine zx_iload_n (i := 2) dX11_addSame_34 rfl rfl ?_
  refine zx_iv (b := c) (As := [zI x]) (st := []) (v := (some (zI (tg (R.2.2.2.2.2.1 c).2.2.1 x 0)))) (w1 := w) dX11_addSame_35 zc_X11_183 hCl.1 rfl rfl rfl (Nat.le_of_ble_eq_true rfl) rfl (c_X1_typeAt hCl x) ?_
  refine zx_st (st1 := [zI (tg (R.2.2.2.2.2.1 c).2.2.1 x 0)]) rfl ?_
  refine zx_iconst (v := -1) dX11_addSame_38 rfl (z32_lit (by decide) (by decide)) ?_
  refine zx_icmp_eq (tgt := 51) dX11_addSame_39 (by decide) (fun h39 => ?_) (fun h39 => absurd (ht) h39)
  refine zx_aload (i := 4) dX11_addSame_51 rfl ?_
  refine zx_iload_n (i := 3) dX11_addSame_53 rfl rfl ?_
  refine zx_iv (b := c) (As := [zI z]) (st := []) (v := (some (zI (tg (R.2.2.2.2.2.1 c).2.2.1 z 0)))) (w1 := w) dX11_addSame_54 zc_X11_183 hCl.1 rfl rfl rfl (Nat.le_of_ble_eq_true rfl) rfl (c_X1_typeAt hCl z) ?_
  refine zx_st (st1 := [zI (tg (R.2.2.2.2.2.1 c).2.2.1 z 0)]) rfl ?_
  refine zx_istore (i := 5) dX11_addSame_57 (by decide) rfl ?_
  refine zx_L (L1 := [some (zR o), some (zI i), some (zI x), some (zI z), some (zR c), some (zI (tg (R.2.2.2.2.2.1 c).2.2.1 z 0))]) rfl ?_
  refine zx_iload (i := 5) dX11_addSame_59 rfl ?_
  refine zx_iconst (v := -1) dX11_addSame_61 rfl (z32_lit (by decide) (by decide)) ?_
  refine zx_pc (pc1 := 62) rfl ?_
  refine zx_icmp_ne (tgt := 73) dX11_addSame_62 (by decide) (fun h62 => ?_) (fun h62 => absurd (ht2) h62)
  refine zx_aload_n (i := 0) dX11_addSame_73 rfl rfl ?_
  refine zx_aload (i := 4) dX11_addSame_74 rfl ?_
  refine zx_ok (fun ok_1 => ?_)
  refine zx_new dX11_addSame_76 zn_X11_168 (by omega) (by omega) ?_
  obtain ⟨w_2, hw_3⟩ : ∃ ww, ww = znew w (3, 0, [zI 0, zI 0, zI 0, zN]) 4 := ⟨_, rfl⟩
  obtain ⟨a_4, ha_5⟩ : ∃ ww, ww = w.2.1 := ⟨_, rfl⟩
  rw [← hw_3, ← ha_5]
  have q_6 : w_2.2.1 = w.2.1 + 1 ∧ w_2.2.2 = w.2.2 + 4 := by rw [hw_3]; exact ⟨rfl, rfl⟩
  have h_7 : w_2.1 a_4 = some (3, 0, [zI 0, zI 0, zI 0, zN]) := by rw [hw_3, ha_5]; exact znew_at
  refine zx_dup dX11_addSame_79 (fun a h => by cases h) ?_
  refine zx_iconst (v := 1) dX11_addSame_80 rfl (z32_lit (by decide) (by decide)) ?_
  refine zx_iconst (v := -1) dX11_addSame_81 rfl (z32_lit (by decide) (by decide)) ?_
  refine zx_iconst (v := 2) dX11_addSame_82 rfl (z32_lit (by decide) (by decide)) ?_
  refine zx_iload_n (i := 2) dX11_addSame_83 rfl rfl ?_
  refine zx_iload_n (i := 3) dX11_addSame_84 rfl rfl ?_
  refine zx_iconst (v := 0) dX11_addSame_85 rfl (z32_lit (by decide) (by decide)) ?_
  refine zx_ok (fun ok_8 => ?_)
  obtain ⟨w_9, hw_10⟩ : ∃ ww, ww = znew w_2 (100, a_4, [zI x, zI z, zI 0]) 3 := ⟨_, rfl⟩
  obtain ⟨a_11, ha_12⟩ : ∃ ww, ww = w_2.2.1 := ⟨_, rfl⟩
  have q_13 : w_9.2.1 = w_2.2.1 + 1 ∧ w_9.2.2 = w_2.2.2 + 3 := by rw [hw_10]; exact ⟨rfl, rfl⟩
  have h_14 : w_9.1 a_11 = some (100, a_4, [zI x, zI z, zI 0]) := by rw [hw_10, ha_12]; exact znew_at
  have h_15 : w_9.1 a_4 = some (3, 0, [zI 0, zI 0, zI 0, zN]) := by
    rw [hw_10]; exact znew_to (ok_8 _ _ h_7) h_7
  obtain ⟨w_16, hw_17⟩ : ∃ ww, ww = zput w_9 a_4 (3, 0, [zI 1, zI (-1), zI 2, zR a_11]) := ⟨_, rfl⟩
  have q_18 : w_16.2.1 = w_9.2.1 ∧ w_16.2.2 = w_9.2.2 := by rw [hw_17]; exact ⟨rfl, rfl⟩
  have h_19 : w_16.1 a_4 = some (3, 0, [zI 1, zI (-1), zI 2, zR a_11]) := by rw [hw_17]; exact zput_at
  refine zx_ic (b := a_4) (As := [zI 1, zI (-1), zI 2, zI x, zI z, zI 0]) (st := [zR a_4, zR c, zR o]) (w1 := w_16) dX11_addSame_86 zc_X11_170 rfl (Nat.le_of_ble_eq_true rfl) rfl (by rw [hw_17]; (try rw [ha_12]); rw [hw_10]; exact (c_X3_init h_7 (by omega) (by omega) 1 (-1) 2 x z 0)) ?_
  refine zx_pc (pc1 := 89) rfl ?_
  refine zx_iload (i := 5) dX11_addSame_89 rfl ?_
  refine zx_iload (i := 5) dX11_addSame_91 rfl ?_
  refine zx_iconst (v := -1) dX11_addSame_93 rfl (z32_lit (by decide) (by decide)) ?_
  have h_20 : w_16.1 a_11 = some (100, a_4, [zI x, zI z, zI 0]) := by
    rw [hw_17]; exact zput_tg h_15 h_14 (by simp)
  have h_21 : w_2.1 o = some (11, 0, [zR t, zR pg, zR mc, zR br, zR la, zR sp, zI comp, zI asked, zJ sum]) := by
    rw [hw_3]; exact znew_to (ok_1 _ _ ho) ho
  have h_22 : w_9.1 o = some (11, 0, [zR t, zR pg, zR mc, zR br, zR la, zR sp, zI comp, zI asked, zJ sum]) := by
    rw [hw_10]; exact znew_to (ok_8 _ _ h_21) h_21
  have h_23 : w_16.1 o = some (11, 0, [zR t, zR pg, zR mc, zR br, zR la, zR sp, zI comp, zI asked, zJ sum]) := by
    rw [hw_17]; exact zput_tg h_15 h_22 (by simp)
  have hfr : ∀ b ob, w.1 b = some ob → w_16.1 b = some ob := by
    intro b ob  hb
    have hlt := ok0 b ob hb
    have f_24 : w_2.1 b = some ob := by rw [hw_3, znew_ne (by omega)]; exact hb
    have f_25 : w_9.1 b = some ob := by rw [hw_10, znew_ne (by omega)]; exact f_24
    have f_26 : w_16.1 b = some ob := by rw [hw_17]; exact zput_to (by omega) f_25
    exact f_26
  have hAG2 := hAG w_16 a_4 a_11 ⟨h_19, h_20, hfr, by omega, by omega, by omega⟩
  refine zx_invokevirtual (b := o) (As := [zR c, zR a_4, zI (tg (R.2.2.2.2.2.1 c).2.2.1 z 0), zI (tg (R.2.2.2.2.2.1 c).2.2.1 z 0), zI (-1)]) (st := []) dX11_addSame_94 zc_X11_179 h_23 rfl rfl rfl (Nat.le_of_ble_eq_true rfl) rfl hAG2 (fun v3 w3 q3 => ?_) (fun _ _ q => q)
  obtain ⟨n3, rfl⟩ := hQ2 v3 w3 q3
  refine zx_st (st1 := [zI n3]) rfl ?_
  refine zx_iret dX11_addSame_97 rfl ?_
  exact q3
theorem f_as_x1 (ho : w.1 o = some (11, 0, [zR t, zR pg, zR mc, zR br, zR la, zR sp, zI comp, zI asked, zJ sum])) (hP : pgW w pg R) (i : Int) (hcc : lAt R.2.2.1.2.2 i = some c) (x z : Int) (hx : 0 ≤ x ∧ x < 8) (hz : 0 ≤ z ∧ z < 8) (ht : tg (R.2.2.2.2.2.1 c).2.2.1 x 0 = -1) (ht2 : tg (R.2.2.2.2.2.1 c).2.2.1 z 0 = -1) (hst0 : G.1.stackTraces = false) (r1 : w.2.1 + 2 ≤ G.2.2.2.2.1) (r2 : w.2.2 + 7 ≤ G.2.2.2.2.2) : zM G zm_X11_addSame (d + 8) [zR o, zI i, zI x, zI z] w (zXw 1 w) := by
  refine zx_ent (by decide +kernel) rfl (Nat.le_of_ble_eq_true rfl) ?_
  refine zx_L (L1 := [some (zR o), some (zI i), some (zI x), some (zI z), none, none]) rfl ?_
  refine zx_ok (fun ok0 => ?_)
  have helP : ∀ y ∈ R.2.2.1.1, ∃ a b, w.1 y = some ((6, a, b) : zO) := fun y hy => ⟨_, _, (hP.2.2.2.2.1 y hy).1.1⟩
  have helC : ∀ y ∈ R.2.2.1.2.2, ∃ a b, w.1 y = some ((1, a, b) : zO) := fun y hy => ⟨_, _, (hP.2.2.2.2.2.2 y hy).1.1⟩
  have hCl := (hP.2.2.2.2.2.2 c (lAt_mem hcc)).1
  refine zx_aload_n (i := 0) dX11_addSame_0 rfl rfl ?_
  refine zx_getfield dX11_addSame_1 zf_X11_19 ho rfl ?_
  refine zx_iload_n (i := 1) dX11_addSame_4 rfl rfl ?_
  refine zx_iv (b := pg) (As := [zI i]) (st := []) (v := (some (zR c))) (w1 := w) dX11_addSame_5 zc_X11_161 hP.1 rfl rfl rfl (Nat.le_of_ble_eq_true rfl) rfl (by have q := c_X7_clauseAt (G := G) (d := d + 4) hP.1 hP.2.2.2.1 helC i; rw [hcc] at q; exact q) ?_
  refine zx_st (st1 := [zR c]) rfl ?_
  refine zx_astore (i := 4) dX11_addSame_8 (by decide) rfl ?_
  refine zx_L (L1 := [some (zR o), some (zI i), some (zI x), some (zI z), some (zR c), none]) rfl ?_
  refine zx_aload (i := 4) dX11_addSame_10 rfl ?_
  refine zx_ifnull (tgt := 24) dX11_addSame_12 (by decide) (fun h => by cases h) (fun _ => ?_)
  refine zx_iload_n (i := 2) dX11_addSame_15 rfl rfl ?_
  refine zx_iload_n (i := 3) dX11_addSame_16 rfl rfl ?_
  refine zx_iconst (v := 0) dX11_addSame_17 rfl (z32_lit (by decide) (by decide)) ?_
  refine zx_is (As := [zI x, zI z, zI 0]) (st := []) (v := (some (zI 1))) (w1 := w) dX11_addSame_18 zc_X11_165 rfl (Nat.le_of_ble_eq_true rfl) rfl (f_av _ _ _ hx hz (by decide)) ?_
  refine zx_st (st1 := [zI 1]) rfl ?_
  refine zx_pc (pc1 := 21) rfl ?_
  refine zx_if_ne (tgt := 32) dX11_addSame_21 (by decide) (fun h21 => ?_) (fun h21 => absurd (by decide) h21)
  refine zx_aload (i := 4) dX11_addSame_32 rfl ?_
  refine zx_iload_n (i := 2) dX11_addSame_34 rfl rfl ?_
  refine zx_iv (b := c) (As := [zI x]) (st := []) (v := (some (zI (tg (R.2.2.2.2.2.1 c).2.2.1 x 0)))) (w1 := w) dX11_addSame_35 zc_X11_183 hCl.1 rfl rfl rfl (Nat.le_of_ble_eq_true rfl) rfl (c_X1_typeAt hCl x) ?_
  refine zx_st (st1 := [zI (tg (R.2.2.2.2.2.1 c).2.2.1 x 0)]) rfl ?_
  refine zx_iconst (v := -1) dX11_addSame_38 rfl (z32_lit (by decide) (by decide)) ?_
  refine zx_icmp_eq (tgt := 51) dX11_addSame_39 (by decide) (fun h39 => ?_) (fun h39 => absurd (ht) h39)
  refine zx_aload (i := 4) dX11_addSame_51 rfl ?_
  refine zx_iload_n (i := 3) dX11_addSame_53 rfl rfl ?_
  refine zx_iv (b := c) (As := [zI z]) (st := []) (v := (some (zI (tg (R.2.2.2.2.2.1 c).2.2.1 z 0)))) (w1 := w) dX11_addSame_54 zc_X11_183 hCl.1 rfl rfl rfl (Nat.le_of_ble_eq_true rfl) rfl (c_X1_typeAt hCl z) ?_
  refine zx_st (st1 := [zI (tg (R.2.2.2.2.2.1 c).2.2.1 z 0)]) rfl ?_
  refine zx_istore (i := 5) dX11_addSame_57 (by decide) rfl ?_
  refine zx_L (L1 := [some (zR o), some (zI i), some (zI x), some (zI z), some (zR c), some (zI (tg (R.2.2.2.2.2.1 c).2.2.1 z 0))]) rfl ?_
  refine zx_iload (i := 5) dX11_addSame_59 rfl ?_
  refine zx_iconst (v := -1) dX11_addSame_61 rfl (z32_lit (by decide) (by decide)) ?_
  refine zx_pc (pc1 := 62) rfl ?_
  refine zx_icmp_ne (tgt := 73) dX11_addSame_62 (by decide) (fun h62 => absurd h62 ((not_not_intro ht2))) (fun h62 => ?_)
  refine zx_thrown zt_X11_83_85 dX11_addSame_65 dX11_addSame_68 dX11_addSame_69 dX11_addSame_72 rfl hst0 (Nat.le_of_ble_eq_true rfl) (by omega) (by omega) (fun z t z1 z2 z3 z4 => ?_)
  exact ⟨rfl, rfl, z1, z2, z3, z4⟩
theorem f_as_x0 (ho : w.1 o = some (11, 0, [zR t, zR pg, zR mc, zR br, zR la, zR sp, zI comp, zI asked, zJ sum])) (hP : pgW w pg R) (i : Int) (hcc : lAt R.2.2.1.2.2 i = none) (x z : Int) (hst0 : G.1.stackTraces = false) (r1 : w.2.1 + 2 ≤ G.2.2.2.2.1) (r2 : w.2.2 + 7 ≤ G.2.2.2.2.2) : zM G zm_X11_addSame (d + 8) [zR o, zI i, zI x, zI z] w (zXw 0 w) := by
  refine zx_ent (by decide +kernel) rfl (Nat.le_of_ble_eq_true rfl) ?_
  refine zx_L (L1 := [some (zR o), some (zI i), some (zI x), some (zI z), none, none]) rfl ?_
  refine zx_ok (fun ok0 => ?_)
  have helP : ∀ y ∈ R.2.2.1.1, ∃ a b, w.1 y = some ((6, a, b) : zO) := fun y hy => ⟨_, _, (hP.2.2.2.2.1 y hy).1.1⟩
  have helC : ∀ y ∈ R.2.2.1.2.2, ∃ a b, w.1 y = some ((1, a, b) : zO) := fun y hy => ⟨_, _, (hP.2.2.2.2.2.2 y hy).1.1⟩
  refine zx_aload_n (i := 0) dX11_addSame_0 rfl rfl ?_
  refine zx_getfield dX11_addSame_1 zf_X11_19 ho rfl ?_
  refine zx_iload_n (i := 1) dX11_addSame_4 rfl rfl ?_
  refine zx_iv (b := pg) (As := [zI i]) (st := []) (v := (some (zN))) (w1 := w) dX11_addSame_5 zc_X11_161 hP.1 rfl rfl rfl (Nat.le_of_ble_eq_true rfl) rfl (by have q := c_X7_clauseAt (G := G) (d := d + 4) hP.1 hP.2.2.2.1 helC i; rw [hcc] at q; exact q) ?_
  refine zx_st (st1 := [zN]) rfl ?_
  refine zx_astore (i := 4) dX11_addSame_8 (by decide) rfl ?_
  refine zx_L (L1 := [some (zR o), some (zI i), some (zI x), some (zI z), some (zN), none]) rfl ?_
  refine zx_aload (i := 4) dX11_addSame_10 rfl ?_
  refine zx_ifnull (tgt := 24) dX11_addSame_12 (by decide) (fun _ => ?_) (fun h => absurd rfl h)
  refine zx_thrown zt_X11_80_82 dX11_addSame_24 dX11_addSame_27 dX11_addSame_28 dX11_addSame_31 rfl hst0 (Nat.le_of_ble_eq_true rfl) (by omega) (by omega) (fun z t z1 z2 z3 z4 => ?_)
  exact ⟨rfl, rfl, z1, z2, z3, z4⟩
theorem f_ab {tc tn th tz : Nat} {ty : Int} {C N H : List (List Int)} {S : List Int} (ho : w.1 o = some (11, 0, [zR t, zR pg, zR mc, zR br, zR la, zR sp, zI comp, zI asked, zJ sum])) (hT : tmW w t tc tn th tz ty C N H S) (hP : pgW w pg R) (i : Int) (hcc : lAt R.2.2.1.2.2 i = some c) (x kc yv z : Int) (hx : 0 ≤ x ∧ x < 8) (hyv : 0 ≤ yv ∧ yv < 8) (hz : 0 ≤ z ∧ z < 8) (hk : 0 ≤ kc ∧ kc < (C.length : Int)) (hpc : 0 ≤ tmPc C kc ∧ tmPc C kc ≤ 2) (hAG : ∀ w2 g va, gMk w 0 kc (1 + tmPc C kc) x yv z w2 g va → zM G zm_X11_addGoal (d + 7) [zR o, zR c, zR g, zI (tg C kc 0), zI (tmTy C kc 0), zI (tmTy C kc 1)] w2 Q2) (hQ2 : ∀ v w3, Q2 (.inl v) w3 → ∃ n : Int, v = some (zI n)) (hst0 : G.1.stackTraces = false) (r1 : w.2.1 + 2 ≤ G.2.2.2.2.1) (r2 : w.2.2 + 7 ≤ G.2.2.2.2.2) : zM G zm_X11_addBuild (d + 8) [zR o, zI i, zI x, zI kc, zI yv, zI z] w (Q2) := by
  refine zx_ent (by decide +kernel) rfl (Nat.le_of_ble_eq_true rfl) ?_
  refine zx_L (L1 := [some (zR o), some (zI i), some (zI x), some (zI kc), some (zI yv), some (zI z), none, none, none, none, none]) rfl ?_
  refine zx_ok (fun ok0 => ?_)
  have helP : ∀ y ∈ R.2.2.1.1, ∃ a b, w.1 y = some ((6, a, b) : zO) := fun y hy => ⟨_, _, (hP.2.2.2.2.1 y hy).1.1⟩
  have helC : ∀ y ∈ R.2.2.1.2.2, ∃ a b, w.1 y = some ((1, a, b) : zO) := fun y hy => ⟨_, _, (hP.2.2.2.2.2.2 y hy).1.1⟩
  have hCl := (hP.2.2.2.2.2.2 c (lAt_mem hcc)).1
  refine zx_aload_n (i := 0) dX11_addBuild_0 rfl rfl ?_
  refine zx_getfield dX11_addBuild_1 zf_X11_19 ho rfl ?_
  refine zx_iload_n (i := 1) dX11_addBuild_4 rfl rfl ?_
  refine zx_iv (b := pg) (As := [zI i]) (st := []) (v := (some (zR c))) (w1 := w) dX11_addBuild_5 zc_X11_161 hP.1 rfl rfl rfl (Nat.le_of_ble_eq_true rfl) rfl (by have q := c_X7_clauseAt (G := G) (d := d + 4) hP.1 hP.2.2.2.1 helC i; rw [hcc] at q; exact q) ?_
  refine zx_st (st1 := [zR c]) rfl ?_
  refine zx_astore (i := 6) dX11_addBuild_8 (by decide) rfl ?_
  refine zx_L (L1 := [some (zR o), some (zI i), some (zI x), some (zI kc), some (zI yv), some (zI z), some (zR c), none, none, none, none]) rfl ?_
  refine zx_aload (i := 6) dX11_addBuild_10 rfl ?_
  refine zx_ifnull (tgt := 37) dX11_addBuild_12 (by decide) (fun h => by cases h) (fun _ => ?_)
  refine zx_aload_n (i := 0) dX11_addBuild_15 rfl rfl ?_
  refine zx_getfield dX11_addBuild_16 zf_X11_10 ho rfl ?_
  refine zx_iload_n (i := 3) dX11_addBuild_19 rfl rfl ?_
  refine zx_iv (b := t) (As := [zI kc]) (st := []) (v := (some (zI (zB (0 ≤ kc ∧ kc < (C.length : Int)))))) (w1 := w) dX11_addBuild_20 zc_X11_93 hT.1 rfl rfl rfl (Nat.le_of_ble_eq_true rfl) rfl (c_X10_hasConstructor hT kc) ?_
  refine zx_st (st1 := [zI (zB (0 ≤ kc ∧ kc < (C.length : Int)))]) rfl ?_
  refine zx_pc (pc1 := 23) rfl ?_
  refine zx_if_eq (tgt := 37) dX11_addBuild_23 (by decide) (fun h23 => absurd h23 ((zB_nz.mpr hk))) (fun h23 => ?_)
  refine zx_iload_n (i := 2) dX11_addBuild_26 rfl rfl ?_
  refine zx_iload (i := 4) dX11_addBuild_27 rfl ?_
  refine zx_iload (i := 5) dX11_addBuild_29 rfl ?_
  refine zx_is (As := [zI x, zI yv, zI z]) (st := []) (v := (some (zI 1))) (w1 := w) dX11_addBuild_31 zc_X11_165 rfl (Nat.le_of_ble_eq_true rfl) rfl (f_av _ _ _ hx hyv hz) ?_
  refine zx_st (st1 := [zI 1]) rfl ?_
  refine zx_if_ne (tgt := 45) dX11_addBuild_34 (by decide) (fun h34 => ?_) (fun h34 => absurd (by decide) h34)
  refine zx_ok (fun ok_1 => ?_)
  refine zx_new dX11_addBuild_45 zn_X11_168 (by omega) (by omega) ?_
  obtain ⟨w_2, hw_3⟩ : ∃ ww, ww = znew w (3, 0, [zI 0, zI 0, zI 0, zN]) 4 := ⟨_, rfl⟩
  obtain ⟨a_4, ha_5⟩ : ∃ ww, ww = w.2.1 := ⟨_, rfl⟩
  rw [← hw_3, ← ha_5]
  have q_6 : w_2.2.1 = w.2.1 + 1 ∧ w_2.2.2 = w.2.2 + 4 := by rw [hw_3]; exact ⟨rfl, rfl⟩
  have h_7 : w_2.1 a_4 = some (3, 0, [zI 0, zI 0, zI 0, zN]) := by rw [hw_3, ha_5]; exact znew_at
  refine zx_dup dX11_addBuild_48 (fun a h => by cases h) ?_
  refine zx_iconst (v := 0) dX11_addBuild_49 rfl (z32_lit (by decide) (by decide)) ?_
  refine zx_iload_n (i := 3) dX11_addBuild_50 rfl rfl ?_
  refine zx_iconst (v := 1) dX11_addBuild_51 rfl (z32_lit (by decide) (by decide)) ?_
  refine zx_aload_n (i := 0) dX11_addBuild_52 rfl rfl ?_
  refine zx_pc (pc1 := 53) rfl ?_
  have h_8 : w_2.1 o = some (11, 0, [zR t, zR pg, zR mc, zR br, zR la, zR sp, zI comp, zI asked, zJ sum]) := by
    rw [hw_3]; exact znew_to (ok_1 _ _ ho) ho
  refine zx_getfield dX11_addBuild_53 zf_X11_10 h_8 rfl ?_
  refine zx_iload_n (i := 3) dX11_addBuild_56 rfl rfl ?_
  have h_9 : w_2.1 t = some (10, 0, [zI ty, zR tc, zR tn, zR th, zR tz]) := by
    rw [hw_3]; exact znew_to (ok_1 _ _ hT.1) hT.1
  have h_10 : w_2.1 tc = some (130, t, tTb 3 30 C) := by
    rw [hw_3]; exact znew_to (ok_1 _ _ hT.2.1.1) hT.2.1.1
  have h_11 : w_2.1 tn = some (131, t, tTb 4 800 N) := by
    rw [hw_3]; exact znew_to (ok_1 _ _ hT.2.2.1.1) hT.2.2.1.1
  have h_12 : w_2.1 th = some (132, t, tTb 1 64 H) := by
    rw [hw_3]; exact znew_to (ok_1 _ _ hT.2.2.2.1.1) hT.2.2.2.1.1
  have h_13 : w_2.1 tz = some (120, t, S.map zJ) := by
    rw [hw_3]; exact znew_to (ok_1 _ _ hT.2.2.2.2.1) hT.2.2.2.2.1
  refine zx_iv6 (b := t) (As := [zI kc]) (st := [zI 1, zI kc, zI 0, zR a_4, zR a_4]) (v := (some (zI (tmPc C kc)))) (w1 := w_2) dX11_addBuild_57 zc_X11_114 h_9 rfl rfl rfl (Nat.le_of_ble_eq_true rfl) rfl (c_X10_partCount ⟨h_9, ⟨h_10, hT.2.1.2⟩, ⟨h_11, hT.2.2.1.2⟩, ⟨h_12, hT.2.2.2.1.2⟩, h_13, hT.2.2.2.2.2⟩ kc) ?_
  refine zx_st (st1 := [zI (tmPc C kc), zI 1, zI kc, zI 0, zR a_4, zR a_4]) rfl ?_
  refine zx_iadd (v := (1 + tmPc C kc)) dX11_addBuild_60 (zw_eq rfl (by omega) (by omega)) ?_
  refine zx_iload_n (i := 2) dX11_addBuild_61 rfl rfl ?_
  refine zx_iload (i := 4) dX11_addBuild_62 rfl ?_
  refine zx_iload (i := 5) dX11_addBuild_64 rfl ?_
  refine zx_ok (fun ok_14 => ?_)
  obtain ⟨w_15, hw_16⟩ : ∃ ww, ww = znew w_2 (100, a_4, [zI x, zI yv, zI z]) 3 := ⟨_, rfl⟩
  obtain ⟨a_17, ha_18⟩ : ∃ ww, ww = w_2.2.1 := ⟨_, rfl⟩
  have q_19 : w_15.2.1 = w_2.2.1 + 1 ∧ w_15.2.2 = w_2.2.2 + 3 := by rw [hw_16]; exact ⟨rfl, rfl⟩
  have h_20 : w_15.1 a_17 = some (100, a_4, [zI x, zI yv, zI z]) := by rw [hw_16, ha_18]; exact znew_at
  have h_21 : w_15.1 a_4 = some (3, 0, [zI 0, zI 0, zI 0, zN]) := by
    rw [hw_16]; exact znew_to (ok_14 _ _ h_7) h_7
  obtain ⟨w_22, hw_23⟩ : ∃ ww, ww = zput w_15 a_4 (3, 0, [zI 0, zI kc, zI (1 + tmPc C kc), zR a_17]) := ⟨_, rfl⟩
  have q_24 : w_22.2.1 = w_15.2.1 ∧ w_22.2.2 = w_15.2.2 := by rw [hw_23]; exact ⟨rfl, rfl⟩
  have h_25 : w_22.1 a_4 = some (3, 0, [zI 0, zI kc, zI (1 + tmPc C kc), zR a_17]) := by rw [hw_23]; exact zput_at
  refine zx_ic (b := a_4) (As := [zI 0, zI kc, zI (1 + tmPc C kc), zI x, zI yv, zI z]) (st := [zR a_4]) (w1 := w_22) dX11_addBuild_66 zc_X11_170 rfl (Nat.le_of_ble_eq_true rfl) rfl (by rw [hw_23]; (try rw [ha_18]); rw [hw_16]; exact (c_X3_init h_7 (by omega) (by omega) 0 kc (1 + tmPc C kc) x yv z)) ?_
  refine zx_astore (i := 7) dX11_addBuild_69 (by decide) rfl ?_
  refine zx_L (L1 := [some (zR o), some (zI i), some (zI x), some (zI kc), some (zI yv), some (zI z), some (zR c), some (zR a_4), none, none, none]) rfl ?_
  refine zx_aload_n (i := 0) dX11_addBuild_71 rfl rfl ?_
  have h_26 : w_15.1 o = some (11, 0, [zR t, zR pg, zR mc, zR br, zR la, zR sp, zI comp, zI asked, zJ sum]) := by
    rw [hw_16]; exact znew_to (ok_14 _ _ h_8) h_8
  have h_27 : w_22.1 o = some (11, 0, [zR t, zR pg, zR mc, zR br, zR la, zR sp, zI comp, zI asked, zJ sum]) := by
    rw [hw_23]; exact zput_tg h_21 h_26 (by simp)
  refine zx_getfield dX11_addBuild_72 zf_X11_10 h_27 rfl ?_
  refine zx_iload_n (i := 3) dX11_addBuild_75 rfl rfl ?_
  refine zx_pc (pc1 := 76) rfl ?_
  have h_28 : w_15.1 t = some (10, 0, [zI ty, zR tc, zR tn, zR th, zR tz]) := by
    rw [hw_16]; exact znew_to (ok_14 _ _ h_9) h_9
  have h_29 : w_22.1 t = some (10, 0, [zI ty, zR tc, zR tn, zR th, zR tz]) := by
    rw [hw_23]; exact zput_tg h_21 h_28 (by simp)
  have h_30 : w_15.1 tc = some (130, t, tTb 3 30 C) := by
    rw [hw_16]; exact znew_to (ok_14 _ _ h_10) h_10
  have h_31 : w_22.1 tc = some (130, t, tTb 3 30 C) := by
    rw [hw_23]; exact zput_tg h_21 h_30 (by simp)
  have h_32 : w_15.1 tn = some (131, t, tTb 4 800 N) := by
    rw [hw_16]; exact znew_to (ok_14 _ _ h_11) h_11
  have h_33 : w_22.1 tn = some (131, t, tTb 4 800 N) := by
    rw [hw_23]; exact zput_tg h_21 h_32 (by simp)
  have h_34 : w_15.1 th = some (132, t, tTb 1 64 H) := by
    rw [hw_16]; exact znew_to (ok_14 _ _ h_12) h_12
  have h_35 : w_22.1 th = some (132, t, tTb 1 64 H) := by
    rw [hw_23]; exact zput_tg h_21 h_34 (by simp)
  have h_36 : w_15.1 tz = some (120, t, S.map zJ) := by
    rw [hw_16]; exact znew_to (ok_14 _ _ h_13) h_13
  have h_37 : w_22.1 tz = some (120, t, S.map zJ) := by
    rw [hw_23]; exact zput_tg h_21 h_36 (by simp)
  refine zx_iv (b := t) (As := [zI kc]) (st := []) (v := (some (zI (tg C kc 0)))) (w1 := w_22) dX11_addBuild_76 zc_X11_173 h_29 rfl rfl rfl (Nat.le_of_ble_eq_true rfl) rfl (c_X10_typeOfHead ⟨h_29, ⟨h_31, hT.2.1.2⟩, ⟨h_33, hT.2.2.1.2⟩, ⟨h_35, hT.2.2.2.1.2⟩, h_37, hT.2.2.2.2.2⟩ kc) ?_
  refine zx_st (st1 := [zI (tg C kc 0)]) rfl ?_
  refine zx_istore (i := 8) dX11_addBuild_79 (by decide) rfl ?_
  refine zx_L (L1 := [some (zR o), some (zI i), some (zI x), some (zI kc), some (zI yv), some (zI z), some (zR c), some (zR a_4), some (zI (tg C kc 0)), none, none]) rfl ?_
  refine zx_aload_n (i := 0) dX11_addBuild_81 rfl rfl ?_
  refine zx_getfield dX11_addBuild_82 zf_X11_10 h_27 rfl ?_
  refine zx_iload_n (i := 3) dX11_addBuild_85 rfl rfl ?_
  refine zx_iconst (v := 0) dX11_addBuild_86 rfl (z32_lit (by decide) (by decide)) ?_
  refine zx_iv (b := t) (As := [zI kc, zI 0]) (st := []) (v := (some (zI (tmTy C kc 0)))) (w1 := w_22) dX11_addBuild_87 zc_X11_176 h_29 rfl rfl rfl (Nat.le_of_ble_eq_true rfl) rfl (c_X10_partType ⟨h_29, ⟨h_31, hT.2.1.2⟩, ⟨h_33, hT.2.2.1.2⟩, ⟨h_35, hT.2.2.2.1.2⟩, h_37, hT.2.2.2.2.2⟩ kc 0) ?_
  refine zx_st (st1 := [zI (tmTy C kc 0)]) rfl ?_
  refine zx_istore (i := 9) dX11_addBuild_90 (by decide) rfl ?_
  refine zx_L (L1 := [some (zR o), some (zI i), some (zI x), some (zI kc), some (zI yv), some (zI z), some (zR c), some (zR a_4), some (zI (tg C kc 0)), some (zI (tmTy C kc 0)), none]) rfl ?_
  refine zx_aload_n (i := 0) dX11_addBuild_92 rfl rfl ?_
  refine zx_getfield dX11_addBuild_93 zf_X11_10 h_27 rfl ?_
  refine zx_iload_n (i := 3) dX11_addBuild_96 rfl rfl ?_
  refine zx_iconst (v := 1) dX11_addBuild_97 rfl (z32_lit (by decide) (by decide)) ?_
  refine zx_pc (pc1 := 98) rfl ?_
  refine zx_iv (b := t) (As := [zI kc, zI 1]) (st := []) (v := (some (zI (tmTy C kc 1)))) (w1 := w_22) dX11_addBuild_98 zc_X11_176 h_29 rfl rfl rfl (Nat.le_of_ble_eq_true rfl) rfl (c_X10_partType ⟨h_29, ⟨h_31, hT.2.1.2⟩, ⟨h_33, hT.2.2.1.2⟩, ⟨h_35, hT.2.2.2.1.2⟩, h_37, hT.2.2.2.2.2⟩ kc 1) ?_
  refine zx_st (st1 := [zI (tmTy C kc 1)]) rfl ?_
  refine zx_istore (i := 10) dX11_addBuild_101 (by decide) rfl ?_
  refine zx_L (L1 := [some (zR o), some (zI i), some (zI x), some (zI kc), some (zI yv), some (zI z), some (zR c), some (zR a_4), some (zI (tg C kc 0)), some (zI (tmTy C kc 0)), some (zI (tmTy C kc 1))]) rfl ?_
  refine zx_aload_n (i := 0) dX11_addBuild_103 rfl rfl ?_
  refine zx_aload (i := 6) dX11_addBuild_104 rfl ?_
  refine zx_aload (i := 7) dX11_addBuild_106 rfl ?_
  refine zx_iload (i := 8) dX11_addBuild_108 rfl ?_
  refine zx_iload (i := 9) dX11_addBuild_110 rfl ?_
  refine zx_iload (i := 10) dX11_addBuild_112 rfl ?_
  have h_38 : w_22.1 a_17 = some (100, a_4, [zI x, zI yv, zI z]) := by
    rw [hw_23]; exact zput_tg h_21 h_20 (by simp)
  have hfr : ∀ b ob, w.1 b = some ob → w_22.1 b = some ob := by
    intro b ob  hb
    have hlt := ok0 b ob hb
    have f_39 : w_2.1 b = some ob := by rw [hw_3, znew_ne (by omega)]; exact hb
    have f_40 : w_15.1 b = some ob := by rw [hw_16, znew_ne (by omega)]; exact f_39
    have f_41 : w_22.1 b = some ob := by rw [hw_23]; exact zput_to (by omega) f_40
    exact f_41
  have hAG2 := hAG w_22 a_4 a_17 ⟨h_25, h_38, hfr, by omega, by omega, by omega⟩
  refine zx_invokevirtual (b := o) (As := [zR c, zR a_4, zI (tg C kc 0), zI (tmTy C kc 0), zI (tmTy C kc 1)]) (st := []) dX11_addBuild_114 zc_X11_179 h_27 rfl rfl rfl (Nat.le_of_ble_eq_true rfl) rfl hAG2 (fun v3 w3 q3 => ?_) (fun _ _ q => q)
  obtain ⟨n3, rfl⟩ := hQ2 v3 w3 q3
  refine zx_st (st1 := [zI n3]) rfl ?_
  refine zx_iret dX11_addBuild_117 rfl ?_
  exact q3
theorem f_ab_x0 {tc tn th tz : Nat} {ty : Int} {C N H : List (List Int)} {S : List Int} (ho : w.1 o = some (11, 0, [zR t, zR pg, zR mc, zR br, zR la, zR sp, zI comp, zI asked, zJ sum])) (hT : tmW w t tc tn th tz ty C N H S) (hP : pgW w pg R) (i : Int) (hcc : lAt R.2.2.1.2.2 i = none) (x kc yv z : Int) (hst0 : G.1.stackTraces = false) (r1 : w.2.1 + 2 ≤ G.2.2.2.2.1) (r2 : w.2.2 + 7 ≤ G.2.2.2.2.2) : zM G zm_X11_addBuild (d + 8) [zR o, zI i, zI x, zI kc, zI yv, zI z] w (zXw 0 w) := by
  refine zx_ent (by decide +kernel) rfl (Nat.le_of_ble_eq_true rfl) ?_
  refine zx_L (L1 := [some (zR o), some (zI i), some (zI x), some (zI kc), some (zI yv), some (zI z), none, none, none, none, none]) rfl ?_
  refine zx_ok (fun ok0 => ?_)
  have helP : ∀ y ∈ R.2.2.1.1, ∃ a b, w.1 y = some ((6, a, b) : zO) := fun y hy => ⟨_, _, (hP.2.2.2.2.1 y hy).1.1⟩
  have helC : ∀ y ∈ R.2.2.1.2.2, ∃ a b, w.1 y = some ((1, a, b) : zO) := fun y hy => ⟨_, _, (hP.2.2.2.2.2.2 y hy).1.1⟩
  refine zx_aload_n (i := 0) dX11_addBuild_0 rfl rfl ?_
  refine zx_getfield dX11_addBuild_1 zf_X11_19 ho rfl ?_
  refine zx_iload_n (i := 1) dX11_addBuild_4 rfl rfl ?_
  refine zx_iv (b := pg) (As := [zI i]) (st := []) (v := (some (zN))) (w1 := w) dX11_addBuild_5 zc_X11_161 hP.1 rfl rfl rfl (Nat.le_of_ble_eq_true rfl) rfl (by have q := c_X7_clauseAt (G := G) (d := d + 4) hP.1 hP.2.2.2.1 helC i; rw [hcc] at q; exact q) ?_
  refine zx_st (st1 := [zN]) rfl ?_
  refine zx_astore (i := 6) dX11_addBuild_8 (by decide) rfl ?_
  refine zx_L (L1 := [some (zR o), some (zI i), some (zI x), some (zI kc), some (zI yv), some (zI z), some (zN), none, none, none, none]) rfl ?_
  refine zx_aload (i := 6) dX11_addBuild_10 rfl ?_
  refine zx_ifnull (tgt := 37) dX11_addBuild_12 (by decide) (fun _ => ?_) (fun h => absurd rfl h)
  refine zx_thrown zt_X11_80_82 dX11_addBuild_37 dX11_addBuild_40 dX11_addBuild_41 dX11_addBuild_44 rfl hst0 (Nat.le_of_ble_eq_true rfl) (by omega) (by omega) (fun z t z1 z2 z3 z4 => ?_)
  exact ⟨rfl, rfl, z1, z2, z3, z4⟩
theorem f_cl2 (ho : w.1 o = some (11, 0, [zR t, zR pg, zR mc, zR br, zR la, zR sp, zI comp, zI asked, zJ sum])) (hP : pgW w pg R) (i : Int) (hcc : lAt R.2.2.1.2.2 i = some c) (j x yv z dn : Int) (hx : 0 ≤ x ∧ x < 8) (hyv : 0 ≤ yv ∧ yv < 8) (hz : 0 ≤ z ∧ z < 8) (hy : lAt R.2.2.1.1 j = some y) (hdn : dn = 0) (hAG : ∀ w2 g va, gMk w 2 j ((R.2.2.2.1 y).2.1.length : Int) x yv z w2 g va → zM G zm_X11_addGoal (d + 7) [zR o, zR c, zR g, zI (tg (R.2.2.2.1 y).2.1 0 0), zI (tg (R.2.2.2.1 y).2.1 1 0), zI (tg (R.2.2.2.1 y).2.1 2 0)] w2 Q2) (hQ2 : ∀ v w3, Q2 (.inl v) w3 → ∃ n : Int, v = some (zI n)) (hst0 : G.1.stackTraces = false) (r1 : w.2.1 + 2 ≤ G.2.2.2.2.1) (r2 : w.2.2 + 7 ≤ G.2.2.2.2.2) : zM G zm_X11_addCall (d + 8) [zR o, zI i, zI j, zI x, zI yv, zI z, zI dn] w (Q2) := by
  refine zx_ent (by decide +kernel) rfl (Nat.le_of_ble_eq_true rfl) ?_
  refine zx_L (L1 := [some (zR o), some (zI i), some (zI j), some (zI x), some (zI yv), some (zI z), some (zI dn), none, none, none, none]) rfl ?_
  refine zx_ok (fun ok0 => ?_)
  have helP : ∀ y ∈ R.2.2.1.1, ∃ a b, w.1 y = some ((6, a, b) : zO) := fun y hy => ⟨_, _, (hP.2.2.2.2.1 y hy).1.1⟩
  have helC : ∀ y ∈ R.2.2.1.2.2, ∃ a b, w.1 y = some ((1, a, b) : zO) := fun y hy => ⟨_, _, (hP.2.2.2.2.2.2 y hy).1.1⟩
  have hCl := (hP.2.2.2.2.2.2 c (lAt_mem hcc)).1
  have hpy := (hP.2.2.2.2.1 y (lAt_mem hy)).1
  refine zx_aload_n (i := 0) dX11_addCall_0 rfl rfl ?_
  refine zx_getfield dX11_addCall_1 zf_X11_19 ho rfl ?_
  refine zx_iload_n (i := 1) dX11_addCall_4 rfl rfl ?_
  refine zx_iv (b := pg) (As := [zI i]) (st := []) (v := (some (zR c))) (w1 := w) dX11_addCall_5 zc_X11_161 hP.1 rfl rfl rfl (Nat.le_of_ble_eq_true rfl) rfl (by have q := c_X7_clauseAt (G := G) (d := d + 4) hP.1 hP.2.2.2.1 helC i; rw [hcc] at q; exact q) ?_
  refine zx_st (st1 := [zR c]) rfl ?_
  refine zx_astore (i := 7) dX11_addCall_8 (by decide) rfl ?_
  refine zx_L (L1 := [some (zR o), some (zI i), some (zI j), some (zI x), some (zI yv), some (zI z), some (zI dn), some (zR c), none, none, none]) rfl ?_
  refine zx_aload_n (i := 0) dX11_addCall_10 rfl rfl ?_
  refine zx_getfield dX11_addCall_11 zf_X11_19 ho rfl ?_
  refine zx_iload_n (i := 2) dX11_addCall_14 rfl rfl ?_
  refine zx_iv (b := pg) (As := [zI j]) (st := []) (v := (some (zR y))) (w1 := w) dX11_addCall_15 zc_X11_134 hP.1 rfl rfl rfl (Nat.le_of_ble_eq_true rfl) rfl (by have q := c_X7_predicateAt (G := G) (d := d + 4) hP.1 hP.2.1 helP j; rw [hy] at q; exact q) ?_
  refine zx_st (st1 := [zR y]) rfl ?_
  refine zx_astore (i := 8) dX11_addCall_18 (by decide) rfl ?_
  refine zx_L (L1 := [some (zR o), some (zI i), some (zI j), some (zI x), some (zI yv), some (zI z), some (zI dn), some (zR c), some (zR y), none, none]) rfl ?_
  refine zx_aload (i := 7) dX11_addCall_20 rfl ?_
  refine zx_pc (pc1 := 22) rfl ?_
  refine zx_ifnull (tgt := 41) dX11_addCall_22 (by decide) (fun h => by cases h) (fun _ => ?_)
  refine zx_aload (i := 8) dX11_addCall_25 rfl ?_
  refine zx_ifnull (tgt := 41) dX11_addCall_27 (by decide) (fun h => by cases h) (fun _ => ?_)
  refine zx_iload_n (i := 3) dX11_addCall_30 rfl rfl ?_
  refine zx_iload (i := 4) dX11_addCall_31 rfl ?_
  refine zx_iload (i := 5) dX11_addCall_33 rfl ?_
  refine zx_is (As := [zI x, zI yv, zI z]) (st := []) (v := (some (zI 1))) (w1 := w) dX11_addCall_35 zc_X11_165 rfl (Nat.le_of_ble_eq_true rfl) rfl (f_av _ _ _ hx hyv hz) ?_
  refine zx_st (st1 := [zI 1]) rfl ?_
  refine zx_if_ne (tgt := 49) dX11_addCall_38 (by decide) (fun h38 => ?_) (fun h38 => absurd (by decide) h38)
  refine zx_iload (i := 6) dX11_addCall_49 rfl ?_
  refine zx_if_eq (tgt := 58) dX11_addCall_51 (by decide) (fun h51 => ?_) (fun h51 => absurd (hdn) h51)
  refine zx_iconst (v := 2) dX11_addCall_58 rfl (z32_lit (by decide) (by decide)) ?_
  refine zx_istore (i := 9) dX11_addCall_59 (by decide) rfl ?_
  refine zx_L (L1 := [some (zR o), some (zI i), some (zI j), some (zI x), some (zI yv), some (zI z), some (zI dn), some (zR c), some (zR y), some (zI 2), none]) rfl ?_
  refine zx_pc (pc1 := 61) rfl ?_
  refine zx_ok (fun ok_1 => ?_)
  refine zx_new dX11_addCall_61 zn_X11_168 (by omega) (by omega) ?_
  obtain ⟨w_2, hw_3⟩ : ∃ ww, ww = znew w (3, 0, [zI 0, zI 0, zI 0, zN]) 4 := ⟨_, rfl⟩
  obtain ⟨a_4, ha_5⟩ : ∃ ww, ww = w.2.1 := ⟨_, rfl⟩
  rw [← hw_3, ← ha_5]
  have q_6 : w_2.2.1 = w.2.1 + 1 ∧ w_2.2.2 = w.2.2 + 4 := by rw [hw_3]; exact ⟨rfl, rfl⟩
  have h_7 : w_2.1 a_4 = some (3, 0, [zI 0, zI 0, zI 0, zN]) := by rw [hw_3, ha_5]; exact znew_at
  refine zx_dup dX11_addCall_64 (fun a h => by cases h) ?_
  refine zx_iload (i := 9) dX11_addCall_65 rfl ?_
  refine zx_iload_n (i := 2) dX11_addCall_67 rfl rfl ?_
  refine zx_aload (i := 8) dX11_addCall_68 rfl ?_
  have h_8 : w_2.1 y = some (6, 0, [zI (R.2.2.2.1 y).1.1, zR (R.2.2.2.1 y).1.2.1, zR (R.2.2.2.1 y).1.2.2.1, zR (R.2.2.2.1 y).1.2.2.2.1, zR (R.2.2.2.1 y).1.2.2.2.2]) := by
    rw [hw_3]; exact znew_to (ok_1 _ _ hpy.1) hpy.1
  have h_9 : w_2.1 ((R.2.2.2.1 y).1.2.1) = some (134, y, tTb 1 3 ((R.2.2.2.1 y).2.1)) := by
    rw [hw_3]; exact znew_to (ok_1 _ _ hpy.2.1.1) hpy.2.1.1
  refine zx_iv (b := y) (As := []) (st := [zI j, zI 2, zR a_4, zR a_4]) (v := (some (zI ((R.2.2.2.1 y).2.1.length : Int)))) (w1 := w_2) dX11_addCall_70 zc_X11_188 h_8 rfl rfl rfl (Nat.le_of_ble_eq_true rfl) rfl (c_X6_arity h_8 h_9 hpy.2.1.2) ?_
  refine zx_st (st1 := [zI ((R.2.2.2.1 y).2.1.length : Int), zI j, zI 2, zR a_4, zR a_4]) rfl ?_
  refine zx_iload_n (i := 3) dX11_addCall_73 rfl rfl ?_
  refine zx_iload (i := 4) dX11_addCall_74 rfl ?_
  refine zx_iload (i := 5) dX11_addCall_76 rfl ?_
  refine zx_ok (fun ok_10 => ?_)
  obtain ⟨w_11, hw_12⟩ : ∃ ww, ww = znew w_2 (100, a_4, [zI x, zI yv, zI z]) 3 := ⟨_, rfl⟩
  obtain ⟨a_13, ha_14⟩ : ∃ ww, ww = w_2.2.1 := ⟨_, rfl⟩
  have q_15 : w_11.2.1 = w_2.2.1 + 1 ∧ w_11.2.2 = w_2.2.2 + 3 := by rw [hw_12]; exact ⟨rfl, rfl⟩
  have h_16 : w_11.1 a_13 = some (100, a_4, [zI x, zI yv, zI z]) := by rw [hw_12, ha_14]; exact znew_at
  have h_17 : w_11.1 a_4 = some (3, 0, [zI 0, zI 0, zI 0, zN]) := by
    rw [hw_12]; exact znew_to (ok_10 _ _ h_7) h_7
  obtain ⟨w_18, hw_19⟩ : ∃ ww, ww = zput w_11 a_4 (3, 0, [zI 2, zI j, zI ((R.2.2.2.1 y).2.1.length : Int), zR a_13]) := ⟨_, rfl⟩
  have q_20 : w_18.2.1 = w_11.2.1 ∧ w_18.2.2 = w_11.2.2 := by rw [hw_19]; exact ⟨rfl, rfl⟩
  have h_21 : w_18.1 a_4 = some (3, 0, [zI 2, zI j, zI ((R.2.2.2.1 y).2.1.length : Int), zR a_13]) := by rw [hw_19]; exact zput_at
  refine zx_ic (b := a_4) (As := [zI 2, zI j, zI ((R.2.2.2.1 y).2.1.length : Int), zI x, zI yv, zI z]) (st := [zR a_4]) (w1 := w_18) dX11_addCall_78 zc_X11_170 rfl (Nat.le_of_ble_eq_true rfl) rfl (by rw [hw_19]; (try rw [ha_14]); rw [hw_12]; exact (c_X3_init h_7 (by omega) (by omega) 2 j ((R.2.2.2.1 y).2.1.length : Int) x yv z)) ?_
  refine zx_astore (i := 10) dX11_addCall_81 (by decide) rfl ?_
  refine zx_L (L1 := [some (zR o), some (zI i), some (zI j), some (zI x), some (zI yv), some (zI z), some (zI dn), some (zR c), some (zR y), some (zI 2), some (zR a_4)]) rfl ?_
  refine zx_aload_n (i := 0) dX11_addCall_83 rfl rfl ?_
  refine zx_pc (pc1 := 84) rfl ?_
  refine zx_aload (i := 7) dX11_addCall_84 rfl ?_
  refine zx_aload (i := 10) dX11_addCall_86 rfl ?_
  refine zx_aload (i := 8) dX11_addCall_88 rfl ?_
  refine zx_iconst (v := 0) dX11_addCall_90 rfl (z32_lit (by decide) (by decide)) ?_
  have h_22 : w_11.1 y = some (6, 0, [zI (R.2.2.2.1 y).1.1, zR (R.2.2.2.1 y).1.2.1, zR (R.2.2.2.1 y).1.2.2.1, zR (R.2.2.2.1 y).1.2.2.2.1, zR (R.2.2.2.1 y).1.2.2.2.2]) := by
    rw [hw_12]; exact znew_to (ok_10 _ _ h_8) h_8
  have h_23 : w_18.1 y = some (6, 0, [zI (R.2.2.2.1 y).1.1, zR (R.2.2.2.1 y).1.2.1, zR (R.2.2.2.1 y).1.2.2.1, zR (R.2.2.2.1 y).1.2.2.2.1, zR (R.2.2.2.1 y).1.2.2.2.2]) := by
    rw [hw_19]; exact zput_tg h_17 h_22 (by simp)
  have h_24 : w_11.1 ((R.2.2.2.1 y).1.2.1) = some (134, y, tTb 1 3 ((R.2.2.2.1 y).2.1)) := by
    rw [hw_12]; exact znew_to (ok_10 _ _ h_9) h_9
  have h_25 : w_18.1 ((R.2.2.2.1 y).1.2.1) = some (134, y, tTb 1 3 ((R.2.2.2.1 y).2.1)) := by
    rw [hw_19]; exact zput_tg h_17 h_24 (by simp)
  refine zx_iv (b := y) (As := [zI 0]) (st := [zR a_4, zR c, zR o]) (v := (some (zI (tg (R.2.2.2.1 y).2.1 0 0)))) (w1 := w_18) dX11_addCall_91 zc_X11_191 h_23 rfl rfl rfl (Nat.le_of_ble_eq_true rfl) rfl (c_X6_typeAt h_23 h_25 hpy.2.1.2 0) ?_
  refine zx_st (st1 := [zI (tg (R.2.2.2.1 y).2.1 0 0), zR a_4, zR c, zR o]) rfl ?_
  refine zx_aload (i := 8) dX11_addCall_94 rfl ?_
  refine zx_iconst (v := 1) dX11_addCall_96 rfl (z32_lit (by decide) (by decide)) ?_
  refine zx_iv (b := y) (As := [zI 1]) (st := [zI (tg (R.2.2.2.1 y).2.1 0 0), zR a_4, zR c, zR o]) (v := (some (zI (tg (R.2.2.2.1 y).2.1 1 0)))) (w1 := w_18) dX11_addCall_97 zc_X11_191 h_23 rfl rfl rfl (Nat.le_of_ble_eq_true rfl) rfl (c_X6_typeAt h_23 h_25 hpy.2.1.2 1) ?_
  refine zx_st (st1 := [zI (tg (R.2.2.2.1 y).2.1 1 0), zI (tg (R.2.2.2.1 y).2.1 0 0), zR a_4, zR c, zR o]) rfl ?_
  refine zx_aload (i := 8) dX11_addCall_100 rfl ?_
  refine zx_iconst (v := 2) dX11_addCall_102 rfl (z32_lit (by decide) (by decide)) ?_
  refine zx_iv6 (b := y) (As := [zI 2]) (st := [zI (tg (R.2.2.2.1 y).2.1 1 0), zI (tg (R.2.2.2.1 y).2.1 0 0), zR a_4, zR c, zR o]) (v := (some (zI (tg (R.2.2.2.1 y).2.1 2 0)))) (w1 := w_18) dX11_addCall_103 zc_X11_191 h_23 rfl rfl rfl (Nat.le_of_ble_eq_true rfl) rfl (c_X6_typeAt h_23 h_25 hpy.2.1.2 2) ?_
  refine zx_st (st1 := [zI (tg (R.2.2.2.1 y).2.1 2 0), zI (tg (R.2.2.2.1 y).2.1 1 0), zI (tg (R.2.2.2.1 y).2.1 0 0), zR a_4, zR c, zR o]) rfl ?_
  have h_26 : w_18.1 a_13 = some (100, a_4, [zI x, zI yv, zI z]) := by
    rw [hw_19]; exact zput_tg h_17 h_16 (by simp)
  have h_27 : w_2.1 o = some (11, 0, [zR t, zR pg, zR mc, zR br, zR la, zR sp, zI comp, zI asked, zJ sum]) := by
    rw [hw_3]; exact znew_to (ok_1 _ _ ho) ho
  have h_28 : w_11.1 o = some (11, 0, [zR t, zR pg, zR mc, zR br, zR la, zR sp, zI comp, zI asked, zJ sum]) := by
    rw [hw_12]; exact znew_to (ok_10 _ _ h_27) h_27
  have h_29 : w_18.1 o = some (11, 0, [zR t, zR pg, zR mc, zR br, zR la, zR sp, zI comp, zI asked, zJ sum]) := by
    rw [hw_19]; exact zput_tg h_17 h_28 (by simp)
  have hfr : ∀ b ob, w.1 b = some ob → w_18.1 b = some ob := by
    intro b ob  hb
    have hlt := ok0 b ob hb
    have f_30 : w_2.1 b = some ob := by rw [hw_3, znew_ne (by omega)]; exact hb
    have f_31 : w_11.1 b = some ob := by rw [hw_12, znew_ne (by omega)]; exact f_30
    have f_32 : w_18.1 b = some ob := by rw [hw_19]; exact zput_to (by omega) f_31
    exact f_32
  have hAG2 := hAG w_18 a_4 a_13 ⟨h_21, h_26, hfr, by omega, by omega, by omega⟩
  refine zx_invokevirtual (b := o) (As := [zR c, zR a_4, zI (tg (R.2.2.2.1 y).2.1 0 0), zI (tg (R.2.2.2.1 y).2.1 1 0), zI (tg (R.2.2.2.1 y).2.1 2 0)]) (st := []) dX11_addCall_106 zc_X11_179 h_29 rfl rfl rfl (Nat.le_of_ble_eq_true rfl) rfl hAG2 (fun v3 w3 q3 => ?_) (fun _ _ q => q)
  obtain ⟨n3, rfl⟩ := hQ2 v3 w3 q3
  refine zx_st (st1 := [zI n3]) rfl ?_
  refine zx_pc (pc1 := 109) rfl ?_
  refine zx_iret dX11_addCall_109 rfl ?_
  exact q3
theorem f_cl3 (ho : w.1 o = some (11, 0, [zR t, zR pg, zR mc, zR br, zR la, zR sp, zI comp, zI asked, zJ sum])) (hP : pgW w pg R) (i : Int) (hcc : lAt R.2.2.1.2.2 i = some c) (j x yv z dn : Int) (hx : 0 ≤ x ∧ x < 8) (hyv : 0 ≤ yv ∧ yv < 8) (hz : 0 ≤ z ∧ z < 8) (hy : lAt R.2.2.1.1 j = some y) (hdn : dn ≠ 0) (hAG : ∀ w2 g va, gMk w 3 j ((R.2.2.2.1 y).2.1.length : Int) x yv z w2 g va → zM G zm_X11_addGoal (d + 7) [zR o, zR c, zR g, zI (tg (R.2.2.2.1 y).2.1 0 0), zI (tg (R.2.2.2.1 y).2.1 1 0), zI (tg (R.2.2.2.1 y).2.1 2 0)] w2 Q2) (hQ2 : ∀ v w3, Q2 (.inl v) w3 → ∃ n : Int, v = some (zI n)) (hst0 : G.1.stackTraces = false) (r1 : w.2.1 + 2 ≤ G.2.2.2.2.1) (r2 : w.2.2 + 7 ≤ G.2.2.2.2.2) : zM G zm_X11_addCall (d + 8) [zR o, zI i, zI j, zI x, zI yv, zI z, zI dn] w (Q2) := by
  refine zx_ent (by decide +kernel) rfl (Nat.le_of_ble_eq_true rfl) ?_
  refine zx_L (L1 := [some (zR o), some (zI i), some (zI j), some (zI x), some (zI yv), some (zI z), some (zI dn), none, none, none, none]) rfl ?_
  refine zx_ok (fun ok0 => ?_)
  have helP : ∀ y ∈ R.2.2.1.1, ∃ a b, w.1 y = some ((6, a, b) : zO) := fun y hy => ⟨_, _, (hP.2.2.2.2.1 y hy).1.1⟩
  have helC : ∀ y ∈ R.2.2.1.2.2, ∃ a b, w.1 y = some ((1, a, b) : zO) := fun y hy => ⟨_, _, (hP.2.2.2.2.2.2 y hy).1.1⟩
  have hCl := (hP.2.2.2.2.2.2 c (lAt_mem hcc)).1
  have hpy := (hP.2.2.2.2.1 y (lAt_mem hy)).1
  refine zx_aload_n (i := 0) dX11_addCall_0 rfl rfl ?_
  refine zx_getfield dX11_addCall_1 zf_X11_19 ho rfl ?_
  refine zx_iload_n (i := 1) dX11_addCall_4 rfl rfl ?_
  refine zx_iv (b := pg) (As := [zI i]) (st := []) (v := (some (zR c))) (w1 := w) dX11_addCall_5 zc_X11_161 hP.1 rfl rfl rfl (Nat.le_of_ble_eq_true rfl) rfl (by have q := c_X7_clauseAt (G := G) (d := d + 4) hP.1 hP.2.2.2.1 helC i; rw [hcc] at q; exact q) ?_
  refine zx_st (st1 := [zR c]) rfl ?_
  refine zx_astore (i := 7) dX11_addCall_8 (by decide) rfl ?_
  refine zx_L (L1 := [some (zR o), some (zI i), some (zI j), some (zI x), some (zI yv), some (zI z), some (zI dn), some (zR c), none, none, none]) rfl ?_
  refine zx_aload_n (i := 0) dX11_addCall_10 rfl rfl ?_
  refine zx_getfield dX11_addCall_11 zf_X11_19 ho rfl ?_
  refine zx_iload_n (i := 2) dX11_addCall_14 rfl rfl ?_
  refine zx_iv (b := pg) (As := [zI j]) (st := []) (v := (some (zR y))) (w1 := w) dX11_addCall_15 zc_X11_134 hP.1 rfl rfl rfl (Nat.le_of_ble_eq_true rfl) rfl (by have q := c_X7_predicateAt (G := G) (d := d + 4) hP.1 hP.2.1 helP j; rw [hy] at q; exact q) ?_
  refine zx_st (st1 := [zR y]) rfl ?_
  refine zx_astore (i := 8) dX11_addCall_18 (by decide) rfl ?_
  refine zx_L (L1 := [some (zR o), some (zI i), some (zI j), some (zI x), some (zI yv), some (zI z), some (zI dn), some (zR c), some (zR y), none, none]) rfl ?_
  refine zx_aload (i := 7) dX11_addCall_20 rfl ?_
  refine zx_pc (pc1 := 22) rfl ?_
  refine zx_ifnull (tgt := 41) dX11_addCall_22 (by decide) (fun h => by cases h) (fun _ => ?_)
  refine zx_aload (i := 8) dX11_addCall_25 rfl ?_
  refine zx_ifnull (tgt := 41) dX11_addCall_27 (by decide) (fun h => by cases h) (fun _ => ?_)
  refine zx_iload_n (i := 3) dX11_addCall_30 rfl rfl ?_
  refine zx_iload (i := 4) dX11_addCall_31 rfl ?_
  refine zx_iload (i := 5) dX11_addCall_33 rfl ?_
  refine zx_is (As := [zI x, zI yv, zI z]) (st := []) (v := (some (zI 1))) (w1 := w) dX11_addCall_35 zc_X11_165 rfl (Nat.le_of_ble_eq_true rfl) rfl (f_av _ _ _ hx hyv hz) ?_
  refine zx_st (st1 := [zI 1]) rfl ?_
  refine zx_if_ne (tgt := 49) dX11_addCall_38 (by decide) (fun h38 => ?_) (fun h38 => absurd (by decide) h38)
  refine zx_iload (i := 6) dX11_addCall_49 rfl ?_
  refine zx_if_eq (tgt := 58) dX11_addCall_51 (by decide) (fun h51 => absurd h51 (hdn)) (fun h51 => ?_)
  refine zx_iconst (v := 3) dX11_addCall_54 rfl (z32_lit (by decide) (by decide)) ?_
  refine zx_goto (tgt := 59) dX11_addCall_55 (by decide) ?_
  refine zx_pc (pc1 := 59) rfl ?_
  refine zx_istore (i := 9) dX11_addCall_59 (by decide) rfl ?_
  refine zx_L (L1 := [some (zR o), some (zI i), some (zI j), some (zI x), some (zI yv), some (zI z), some (zI dn), some (zR c), some (zR y), some (zI 3), none]) rfl ?_
  refine zx_ok (fun ok_1 => ?_)
  refine zx_new dX11_addCall_61 zn_X11_168 (by omega) (by omega) ?_
  obtain ⟨w_2, hw_3⟩ : ∃ ww, ww = znew w (3, 0, [zI 0, zI 0, zI 0, zN]) 4 := ⟨_, rfl⟩
  obtain ⟨a_4, ha_5⟩ : ∃ ww, ww = w.2.1 := ⟨_, rfl⟩
  rw [← hw_3, ← ha_5]
  have q_6 : w_2.2.1 = w.2.1 + 1 ∧ w_2.2.2 = w.2.2 + 4 := by rw [hw_3]; exact ⟨rfl, rfl⟩
  have h_7 : w_2.1 a_4 = some (3, 0, [zI 0, zI 0, zI 0, zN]) := by rw [hw_3, ha_5]; exact znew_at
  refine zx_dup dX11_addCall_64 (fun a h => by cases h) ?_
  refine zx_iload (i := 9) dX11_addCall_65 rfl ?_
  refine zx_iload_n (i := 2) dX11_addCall_67 rfl rfl ?_
  refine zx_aload (i := 8) dX11_addCall_68 rfl ?_
  have h_8 : w_2.1 y = some (6, 0, [zI (R.2.2.2.1 y).1.1, zR (R.2.2.2.1 y).1.2.1, zR (R.2.2.2.1 y).1.2.2.1, zR (R.2.2.2.1 y).1.2.2.2.1, zR (R.2.2.2.1 y).1.2.2.2.2]) := by
    rw [hw_3]; exact znew_to (ok_1 _ _ hpy.1) hpy.1
  have h_9 : w_2.1 ((R.2.2.2.1 y).1.2.1) = some (134, y, tTb 1 3 ((R.2.2.2.1 y).2.1)) := by
    rw [hw_3]; exact znew_to (ok_1 _ _ hpy.2.1.1) hpy.2.1.1
  refine zx_iv (b := y) (As := []) (st := [zI j, zI 3, zR a_4, zR a_4]) (v := (some (zI ((R.2.2.2.1 y).2.1.length : Int)))) (w1 := w_2) dX11_addCall_70 zc_X11_188 h_8 rfl rfl rfl (Nat.le_of_ble_eq_true rfl) rfl (c_X6_arity h_8 h_9 hpy.2.1.2) ?_
  refine zx_st (st1 := [zI ((R.2.2.2.1 y).2.1.length : Int), zI j, zI 3, zR a_4, zR a_4]) rfl ?_
  refine zx_iload_n (i := 3) dX11_addCall_73 rfl rfl ?_
  refine zx_iload (i := 4) dX11_addCall_74 rfl ?_
  refine zx_iload (i := 5) dX11_addCall_76 rfl ?_
  refine zx_ok (fun ok_10 => ?_)
  obtain ⟨w_11, hw_12⟩ : ∃ ww, ww = znew w_2 (100, a_4, [zI x, zI yv, zI z]) 3 := ⟨_, rfl⟩
  obtain ⟨a_13, ha_14⟩ : ∃ ww, ww = w_2.2.1 := ⟨_, rfl⟩
  have q_15 : w_11.2.1 = w_2.2.1 + 1 ∧ w_11.2.2 = w_2.2.2 + 3 := by rw [hw_12]; exact ⟨rfl, rfl⟩
  have h_16 : w_11.1 a_13 = some (100, a_4, [zI x, zI yv, zI z]) := by rw [hw_12, ha_14]; exact znew_at
  have h_17 : w_11.1 a_4 = some (3, 0, [zI 0, zI 0, zI 0, zN]) := by
    rw [hw_12]; exact znew_to (ok_10 _ _ h_7) h_7
  obtain ⟨w_18, hw_19⟩ : ∃ ww, ww = zput w_11 a_4 (3, 0, [zI 3, zI j, zI ((R.2.2.2.1 y).2.1.length : Int), zR a_13]) := ⟨_, rfl⟩
  have q_20 : w_18.2.1 = w_11.2.1 ∧ w_18.2.2 = w_11.2.2 := by rw [hw_19]; exact ⟨rfl, rfl⟩
  have h_21 : w_18.1 a_4 = some (3, 0, [zI 3, zI j, zI ((R.2.2.2.1 y).2.1.length : Int), zR a_13]) := by rw [hw_19]; exact zput_at
  refine zx_ic (b := a_4) (As := [zI 3, zI j, zI ((R.2.2.2.1 y).2.1.length : Int), zI x, zI yv, zI z]) (st := [zR a_4]) (w1 := w_18) dX11_addCall_78 zc_X11_170 rfl (Nat.le_of_ble_eq_true rfl) rfl (by rw [hw_19]; (try rw [ha_14]); rw [hw_12]; exact (c_X3_init h_7 (by omega) (by omega) 3 j ((R.2.2.2.1 y).2.1.length : Int) x yv z)) ?_
  refine zx_astore (i := 10) dX11_addCall_81 (by decide) rfl ?_
  refine zx_L (L1 := [some (zR o), some (zI i), some (zI j), some (zI x), some (zI yv), some (zI z), some (zI dn), some (zR c), some (zR y), some (zI 3), some (zR a_4)]) rfl ?_
  refine zx_pc (pc1 := 83) rfl ?_
  refine zx_aload_n (i := 0) dX11_addCall_83 rfl rfl ?_
  refine zx_aload (i := 7) dX11_addCall_84 rfl ?_
  refine zx_aload (i := 10) dX11_addCall_86 rfl ?_
  refine zx_aload (i := 8) dX11_addCall_88 rfl ?_
  refine zx_iconst (v := 0) dX11_addCall_90 rfl (z32_lit (by decide) (by decide)) ?_
  have h_22 : w_11.1 y = some (6, 0, [zI (R.2.2.2.1 y).1.1, zR (R.2.2.2.1 y).1.2.1, zR (R.2.2.2.1 y).1.2.2.1, zR (R.2.2.2.1 y).1.2.2.2.1, zR (R.2.2.2.1 y).1.2.2.2.2]) := by
    rw [hw_12]; exact znew_to (ok_10 _ _ h_8) h_8
  have h_23 : w_18.1 y = some (6, 0, [zI (R.2.2.2.1 y).1.1, zR (R.2.2.2.1 y).1.2.1, zR (R.2.2.2.1 y).1.2.2.1, zR (R.2.2.2.1 y).1.2.2.2.1, zR (R.2.2.2.1 y).1.2.2.2.2]) := by
    rw [hw_19]; exact zput_tg h_17 h_22 (by simp)
  have h_24 : w_11.1 ((R.2.2.2.1 y).1.2.1) = some (134, y, tTb 1 3 ((R.2.2.2.1 y).2.1)) := by
    rw [hw_12]; exact znew_to (ok_10 _ _ h_9) h_9
  have h_25 : w_18.1 ((R.2.2.2.1 y).1.2.1) = some (134, y, tTb 1 3 ((R.2.2.2.1 y).2.1)) := by
    rw [hw_19]; exact zput_tg h_17 h_24 (by simp)
  refine zx_iv (b := y) (As := [zI 0]) (st := [zR a_4, zR c, zR o]) (v := (some (zI (tg (R.2.2.2.1 y).2.1 0 0)))) (w1 := w_18) dX11_addCall_91 zc_X11_191 h_23 rfl rfl rfl (Nat.le_of_ble_eq_true rfl) rfl (c_X6_typeAt h_23 h_25 hpy.2.1.2 0) ?_
  refine zx_st (st1 := [zI (tg (R.2.2.2.1 y).2.1 0 0), zR a_4, zR c, zR o]) rfl ?_
  refine zx_aload (i := 8) dX11_addCall_94 rfl ?_
  refine zx_iconst (v := 1) dX11_addCall_96 rfl (z32_lit (by decide) (by decide)) ?_
  refine zx_iv (b := y) (As := [zI 1]) (st := [zI (tg (R.2.2.2.1 y).2.1 0 0), zR a_4, zR c, zR o]) (v := (some (zI (tg (R.2.2.2.1 y).2.1 1 0)))) (w1 := w_18) dX11_addCall_97 zc_X11_191 h_23 rfl rfl rfl (Nat.le_of_ble_eq_true rfl) rfl (c_X6_typeAt h_23 h_25 hpy.2.1.2 1) ?_
  refine zx_st (st1 := [zI (tg (R.2.2.2.1 y).2.1 1 0), zI (tg (R.2.2.2.1 y).2.1 0 0), zR a_4, zR c, zR o]) rfl ?_
  refine zx_aload (i := 8) dX11_addCall_100 rfl ?_
  refine zx_iconst (v := 2) dX11_addCall_102 rfl (z32_lit (by decide) (by decide)) ?_
  refine zx_iv6 (b := y) (As := [zI 2]) (st := [zI (tg (R.2.2.2.1 y).2.1 1 0), zI (tg (R.2.2.2.1 y).2.1 0 0), zR a_4, zR c, zR o]) (v := (some (zI (tg (R.2.2.2.1 y).2.1 2 0)))) (w1 := w_18) dX11_addCall_103 zc_X11_191 h_23 rfl rfl rfl (Nat.le_of_ble_eq_true rfl) rfl (c_X6_typeAt h_23 h_25 hpy.2.1.2 2) ?_
  refine zx_st (st1 := [zI (tg (R.2.2.2.1 y).2.1 2 0), zI (tg (R.2.2.2.1 y).2.1 1 0), zI (tg (R.2.2.2.1 y).2.1 0 0), zR a_4, zR c, zR o]) rfl ?_
  refine zx_pc (pc1 := 106) rfl ?_
  have h_26 : w_18.1 a_13 = some (100, a_4, [zI x, zI yv, zI z]) := by
    rw [hw_19]; exact zput_tg h_17 h_16 (by simp)
  have h_27 : w_2.1 o = some (11, 0, [zR t, zR pg, zR mc, zR br, zR la, zR sp, zI comp, zI asked, zJ sum]) := by
    rw [hw_3]; exact znew_to (ok_1 _ _ ho) ho
  have h_28 : w_11.1 o = some (11, 0, [zR t, zR pg, zR mc, zR br, zR la, zR sp, zI comp, zI asked, zJ sum]) := by
    rw [hw_12]; exact znew_to (ok_10 _ _ h_27) h_27
  have h_29 : w_18.1 o = some (11, 0, [zR t, zR pg, zR mc, zR br, zR la, zR sp, zI comp, zI asked, zJ sum]) := by
    rw [hw_19]; exact zput_tg h_17 h_28 (by simp)
  have hfr : ∀ b ob, w.1 b = some ob → w_18.1 b = some ob := by
    intro b ob  hb
    have hlt := ok0 b ob hb
    have f_30 : w_2.1 b = some ob := by rw [hw_3, znew_ne (by omega)]; exact hb
    have f_31 : w_11.1 b = some ob := by rw [hw_12, znew_ne (by omega)]; exact f_30
    have f_32 : w_18.1 b = some ob := by rw [hw_19]; exact zput_to (by omega) f_31
    exact f_32
  have hAG2 := hAG w_18 a_4 a_13 ⟨h_21, h_26, hfr, by omega, by omega, by omega⟩
  refine zx_invokevirtual (b := o) (As := [zR c, zR a_4, zI (tg (R.2.2.2.1 y).2.1 0 0), zI (tg (R.2.2.2.1 y).2.1 1 0), zI (tg (R.2.2.2.1 y).2.1 2 0)]) (st := []) dX11_addCall_106 zc_X11_179 h_29 rfl rfl rfl (Nat.le_of_ble_eq_true rfl) rfl hAG2 (fun v3 w3 q3 => ?_) (fun _ _ q => q)
  obtain ⟨n3, rfl⟩ := hQ2 v3 w3 q3
  refine zx_st (st1 := [zI n3]) rfl ?_
  refine zx_iret dX11_addCall_109 rfl ?_
  exact q3
theorem f_cl_x0p (ho : w.1 o = some (11, 0, [zR t, zR pg, zR mc, zR br, zR la, zR sp, zI comp, zI asked, zJ sum])) (hP : pgW w pg R) (i : Int) (hcc : lAt R.2.2.1.2.2 i = some c) (j x yv z dn : Int) (hy : lAt R.2.2.1.1 j = none) (hst0 : G.1.stackTraces = false) (r1 : w.2.1 + 2 ≤ G.2.2.2.2.1) (r2 : w.2.2 + 7 ≤ G.2.2.2.2.2) : zM G zm_X11_addCall (d + 8) [zR o, zI i, zI j, zI x, zI yv, zI z, zI dn] w (zXw 0 w) := by
  refine zx_ent (by decide +kernel) rfl (Nat.le_of_ble_eq_true rfl) ?_
  refine zx_L (L1 := [some (zR o), some (zI i), some (zI j), some (zI x), some (zI yv), some (zI z), some (zI dn), none, none, none, none]) rfl ?_
  refine zx_ok (fun ok0 => ?_)
  have helP : ∀ y ∈ R.2.2.1.1, ∃ a b, w.1 y = some ((6, a, b) : zO) := fun y hy => ⟨_, _, (hP.2.2.2.2.1 y hy).1.1⟩
  have helC : ∀ y ∈ R.2.2.1.2.2, ∃ a b, w.1 y = some ((1, a, b) : zO) := fun y hy => ⟨_, _, (hP.2.2.2.2.2.2 y hy).1.1⟩
  have hCl := (hP.2.2.2.2.2.2 c (lAt_mem hcc)).1
  refine zx_aload_n (i := 0) dX11_addCall_0 rfl rfl ?_
  refine zx_getfield dX11_addCall_1 zf_X11_19 ho rfl ?_
  refine zx_iload_n (i := 1) dX11_addCall_4 rfl rfl ?_
  refine zx_iv (b := pg) (As := [zI i]) (st := []) (v := (some (zR c))) (w1 := w) dX11_addCall_5 zc_X11_161 hP.1 rfl rfl rfl (Nat.le_of_ble_eq_true rfl) rfl (by have q := c_X7_clauseAt (G := G) (d := d + 4) hP.1 hP.2.2.2.1 helC i; rw [hcc] at q; exact q) ?_
  refine zx_st (st1 := [zR c]) rfl ?_
  refine zx_astore (i := 7) dX11_addCall_8 (by decide) rfl ?_
  refine zx_L (L1 := [some (zR o), some (zI i), some (zI j), some (zI x), some (zI yv), some (zI z), some (zI dn), some (zR c), none, none, none]) rfl ?_
  refine zx_aload_n (i := 0) dX11_addCall_10 rfl rfl ?_
  refine zx_getfield dX11_addCall_11 zf_X11_19 ho rfl ?_
  refine zx_iload_n (i := 2) dX11_addCall_14 rfl rfl ?_
  refine zx_iv (b := pg) (As := [zI j]) (st := []) (v := (some (zN))) (w1 := w) dX11_addCall_15 zc_X11_134 hP.1 rfl rfl rfl (Nat.le_of_ble_eq_true rfl) rfl (by have q := c_X7_predicateAt (G := G) (d := d + 4) hP.1 hP.2.1 helP j; rw [hy] at q; exact q) ?_
  refine zx_st (st1 := [zN]) rfl ?_
  refine zx_astore (i := 8) dX11_addCall_18 (by decide) rfl ?_
  refine zx_L (L1 := [some (zR o), some (zI i), some (zI j), some (zI x), some (zI yv), some (zI z), some (zI dn), some (zR c), some (zN), none, none]) rfl ?_
  refine zx_aload (i := 7) dX11_addCall_20 rfl ?_
  refine zx_pc (pc1 := 22) rfl ?_
  refine zx_ifnull (tgt := 41) dX11_addCall_22 (by decide) (fun h => by cases h) (fun _ => ?_)
  refine zx_aload (i := 8) dX11_addCall_25 rfl ?_
  refine zx_ifnull (tgt := 41) dX11_addCall_27 (by decide) (fun _ => ?_) (fun h => absurd rfl h)
  refine zx_thrown zt_X11_80_82 dX11_addCall_41 dX11_addCall_44 dX11_addCall_45 dX11_addCall_48 rfl hst0 (Nat.le_of_ble_eq_true rfl) (by omega) (by omega) (fun z t z1 z2 z3 z4 => ?_)
  exact ⟨rfl, rfl, z1, z2, z3, z4⟩
theorem f_cl_x0c (ho : w.1 o = some (11, 0, [zR t, zR pg, zR mc, zR br, zR la, zR sp, zI comp, zI asked, zJ sum])) (hP : pgW w pg R) (i : Int) (hcc : lAt R.2.2.1.2.2 i = none) (j x yv z dn : Int) (hy : lAt R.2.2.1.1 j = none) (hst0 : G.1.stackTraces = false) (r1 : w.2.1 + 2 ≤ G.2.2.2.2.1) (r2 : w.2.2 + 7 ≤ G.2.2.2.2.2) : zM G zm_X11_addCall (d + 8) [zR o, zI i, zI j, zI x, zI yv, zI z, zI dn] w (zXw 0 w) := by
  refine zx_ent (by decide +kernel) rfl (Nat.le_of_ble_eq_true rfl) ?_
  refine zx_L (L1 := [some (zR o), some (zI i), some (zI j), some (zI x), some (zI yv), some (zI z), some (zI dn), none, none, none, none]) rfl ?_
  refine zx_ok (fun ok0 => ?_)
  have helP : ∀ y ∈ R.2.2.1.1, ∃ a b, w.1 y = some ((6, a, b) : zO) := fun y hy => ⟨_, _, (hP.2.2.2.2.1 y hy).1.1⟩
  have helC : ∀ y ∈ R.2.2.1.2.2, ∃ a b, w.1 y = some ((1, a, b) : zO) := fun y hy => ⟨_, _, (hP.2.2.2.2.2.2 y hy).1.1⟩
  refine zx_aload_n (i := 0) dX11_addCall_0 rfl rfl ?_
  refine zx_getfield dX11_addCall_1 zf_X11_19 ho rfl ?_
  refine zx_iload_n (i := 1) dX11_addCall_4 rfl rfl ?_
  refine zx_iv (b := pg) (As := [zI i]) (st := []) (v := (some (zN))) (w1 := w) dX11_addCall_5 zc_X11_161 hP.1 rfl rfl rfl (Nat.le_of_ble_eq_true rfl) rfl (by have q := c_X7_clauseAt (G := G) (d := d + 4) hP.1 hP.2.2.2.1 helC i; rw [hcc] at q; exact q) ?_
  refine zx_st (st1 := [zN]) rfl ?_
  refine zx_astore (i := 7) dX11_addCall_8 (by decide) rfl ?_
  refine zx_L (L1 := [some (zR o), some (zI i), some (zI j), some (zI x), some (zI yv), some (zI z), some (zI dn), some (zN), none, none, none]) rfl ?_
  refine zx_aload_n (i := 0) dX11_addCall_10 rfl rfl ?_
  refine zx_getfield dX11_addCall_11 zf_X11_19 ho rfl ?_
  refine zx_iload_n (i := 2) dX11_addCall_14 rfl rfl ?_
  refine zx_iv (b := pg) (As := [zI j]) (st := []) (v := (some (zN))) (w1 := w) dX11_addCall_15 zc_X11_134 hP.1 rfl rfl rfl (Nat.le_of_ble_eq_true rfl) rfl (by have q := c_X7_predicateAt (G := G) (d := d + 4) hP.1 hP.2.1 helP j; rw [hy] at q; exact q) ?_
  refine zx_st (st1 := [zN]) rfl ?_
  refine zx_astore (i := 8) dX11_addCall_18 (by decide) rfl ?_
  refine zx_L (L1 := [some (zR o), some (zI i), some (zI j), some (zI x), some (zI yv), some (zI z), some (zI dn), some (zN), some (zN), none, none]) rfl ?_
  refine zx_aload (i := 7) dX11_addCall_20 rfl ?_
  refine zx_pc (pc1 := 22) rfl ?_
  refine zx_ifnull (tgt := 41) dX11_addCall_22 (by decide) (fun _ => ?_) (fun h => absurd rfl h)
  refine zx_thrown zt_X11_80_82 dX11_addCall_41 dX11_addCall_44 dX11_addCall_45 dX11_addCall_48 rfl hst0 (Nat.le_of_ble_eq_true rfl) (by omega) (by omega) (fun z t z1 z2 z3 z4 => ?_)
  exact ⟨rfl, rfl, z1, z2, z3, z4⟩
theorem f_cl_x0d (ho : w.1 o = some (11, 0, [zR t, zR pg, zR mc, zR br, zR la, zR sp, zI comp, zI asked, zJ sum])) (hP : pgW w pg R) (i : Int) (hcc : lAt R.2.2.1.2.2 i = none) (j x yv z dn : Int) (hy : lAt R.2.2.1.1 j = some y) (hst0 : G.1.stackTraces = false) (r1 : w.2.1 + 2 ≤ G.2.2.2.2.1) (r2 : w.2.2 + 7 ≤ G.2.2.2.2.2) : zM G zm_X11_addCall (d + 8) [zR o, zI i, zI j, zI x, zI yv, zI z, zI dn] w (zXw 0 w) := by
  refine zx_ent (by decide +kernel) rfl (Nat.le_of_ble_eq_true rfl) ?_
  refine zx_L (L1 := [some (zR o), some (zI i), some (zI j), some (zI x), some (zI yv), some (zI z), some (zI dn), none, none, none, none]) rfl ?_
  refine zx_ok (fun ok0 => ?_)
  have helP : ∀ y ∈ R.2.2.1.1, ∃ a b, w.1 y = some ((6, a, b) : zO) := fun y hy => ⟨_, _, (hP.2.2.2.2.1 y hy).1.1⟩
  have helC : ∀ y ∈ R.2.2.1.2.2, ∃ a b, w.1 y = some ((1, a, b) : zO) := fun y hy => ⟨_, _, (hP.2.2.2.2.2.2 y hy).1.1⟩
  have hpy := (hP.2.2.2.2.1 y (lAt_mem hy)).1
  refine zx_aload_n (i := 0) dX11_addCall_0 rfl rfl ?_
  refine zx_getfield dX11_addCall_1 zf_X11_19 ho rfl ?_
  refine zx_iload_n (i := 1) dX11_addCall_4 rfl rfl ?_
  refine zx_iv (b := pg) (As := [zI i]) (st := []) (v := (some (zN))) (w1 := w) dX11_addCall_5 zc_X11_161 hP.1 rfl rfl rfl (Nat.le_of_ble_eq_true rfl) rfl (by have q := c_X7_clauseAt (G := G) (d := d + 4) hP.1 hP.2.2.2.1 helC i; rw [hcc] at q; exact q) ?_
  refine zx_st (st1 := [zN]) rfl ?_
  refine zx_astore (i := 7) dX11_addCall_8 (by decide) rfl ?_
  refine zx_L (L1 := [some (zR o), some (zI i), some (zI j), some (zI x), some (zI yv), some (zI z), some (zI dn), some (zN), none, none, none]) rfl ?_
  refine zx_aload_n (i := 0) dX11_addCall_10 rfl rfl ?_
  refine zx_getfield dX11_addCall_11 zf_X11_19 ho rfl ?_
  refine zx_iload_n (i := 2) dX11_addCall_14 rfl rfl ?_
  refine zx_iv (b := pg) (As := [zI j]) (st := []) (v := (some (zR y))) (w1 := w) dX11_addCall_15 zc_X11_134 hP.1 rfl rfl rfl (Nat.le_of_ble_eq_true rfl) rfl (by have q := c_X7_predicateAt (G := G) (d := d + 4) hP.1 hP.2.1 helP j; rw [hy] at q; exact q) ?_
  refine zx_st (st1 := [zR y]) rfl ?_
  refine zx_astore (i := 8) dX11_addCall_18 (by decide) rfl ?_
  refine zx_L (L1 := [some (zR o), some (zI i), some (zI j), some (zI x), some (zI yv), some (zI z), some (zI dn), some (zN), some (zR y), none, none]) rfl ?_
  refine zx_aload (i := 7) dX11_addCall_20 rfl ?_
  refine zx_pc (pc1 := 22) rfl ?_
  refine zx_ifnull (tgt := 41) dX11_addCall_22 (by decide) (fun _ => ?_) (fun h => absurd rfl h)
  refine zx_thrown zt_X11_80_82 dX11_addCall_41 dX11_addCall_44 dX11_addCall_45 dX11_addCall_48 rfl hst0 (Nat.le_of_ble_eq_true rfl) (by omega) (by omega) (fun z t z1 z2 z3 z4 => ?_)
  exact ⟨rfl, rfl, z1, z2, z3, z4⟩
end CFACE6
