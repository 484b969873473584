/-! Own rows: the face: addSame, addBuild, addCall. Walked by program (wip/p37/m_face6.py). -/
section CFACE6
variable {G : zG} {d : Nat} {w : zW} {o t pg mc br la sp : Nat} {comp asked sum : Int} {R : pgR} {c y : Nat} {Q2 : zQ}
/-- a goal was made: what stands in the world behind it -/
def gMk (w : zW) (k su n u0 u1 u2 : Int) (w2 : zW) (g va : Nat) : Prop := w2.1 g = some (3, 0, [zI k, zI su, zI n, zR va]) ∧ w2.1 va = some (100, g, [zI u0, zI u1, zI u2]) ∧ (∀ b ob, w.1 b = some ob → w2.1 b = some ob) ∧ w2.2.1 = w.2.1 + 2 ∧ w2.2.2 = w.2.2 + 7 ∧ w.2.1 ≤ g
theorem f_as_a (ho : w.1 o = some (11, 0, [zR t, zR pg, zR mc, zR br, zR la, zR sp, zI comp, zI asked, zJ sum])) (hP : pgW w pg R) (i : Int) (hcc : lAt R.2.2.1.2.2 i = some c) (x z : Int) (hx : 0 ≤ x ∧ x < 8) (hz : 0 ≤ z ∧ z < 8) (ht : tg (R.2.2.2.2.2.1 c).2.2.1 x 0 ≠ -1) (hAG : ∀ w2 g va, gMk w 1 (-1) 2 x z 0 w2 g va → zM G zm_X11_addGoal (d + 7) [zR o, zR c, zR g, zI (tg (R.2.2.2.2.2.1 c).2.2.1 x 0), zI (tg (R.2.2.2.2.2.1 c).2.2.1 x 0), zI (-1)] w2 Q2) (hQ2 : ∀ v w3, Q2 (.inl v) w3 → ∃ n : Int, v = some (zI n)) (hst0 : G.1.stackTraces = false) (r1 : w.2.1 + 2 ≤ G.2.2.2.2.1) (r2 : w.2.2 + 7 ≤ G.2.2.2.2.2) : zM G zm_X11_addSame (d + 8) [zR o, zI i, zI x, zI z] w (Q2) := by
  refine zx_ent (by decide +kernel) rfl (Nat.le_of_ble_eq_true rfl) ?_
  refine zx_L (L1 := [some (zR o), some (zI i), some (zI x), some (zI z), none, none]) rfl ?_
  refine zx_ok (fun ok0 => ?_)
  have helP : ∀ y ∈ R.2.2.1.1, ∃ a b, w.1 y = some ((6, a, b) : zO) := fun y hy => ⟨_, _, (hP.2.2.2.2.1 y hy).1.1⟩
  have helC : ∀ y ∈ R.2.2.1.2.2, ∃ a b, w.1 y = some ((1, a, b) : zO) := fun y hy => ⟨_, _, (hP.2.2.2.2.2.2 y hy).1.1⟩
  have hCl := (hP.2.2.2.2.2.2 c (lAt_mem hcc)).1
  refine zx_aload_n (i := 0) dX11_addSame_0 rfl rfl ?_
  refine zx_getfield dX11_addSame_1 zf_X11_19 ho rfl ?_
  refine zx_iload_n (i := 1) dX11_addSame_4 rfl rfl ?_
  refine zx_iv (b := pg) (As := [zI i]) (st := []) (v := (some (zR c))) (w1 := w) dX11_addSame_5 zc_X11_161 hP.1 rfl rfl rfl (Nat.le_of_ble_eq_true rfl) rfl (by have q := c_X7_clauseAt (G := G) (d := d + 4) hP.1 hP.2.2.2.1 helC i; rw [hcc] at q; exact q) ?_
  refine zx_st (st1 := [zR c]) rfl ?_
  refine zx_astore (i := 4) dX11_addSame_8 (by decide) rfl ?_
  refine zx_L (L1 := [some (zR o), some (zI i), some (zI x), some (zI z), some (zR c), none]) rfl ?_
  refine zx_aload (i := 4) dX11_addSame_10 rfl ?_
  refine zx_ifnull (tgt := 24) dX11_addSame_12 (by decide) (fun h => by cases h) (fun _ => ?_)
  refine zx_iload_n (i := 2) dX11_addSame_15 rfl rfl ?_
  refine zx_iload_n (i := 3) dX11_addSame_16 rfl rfl ?_
  refine zx_iconst (v := 0) dX11_addSame_17 rfl (z32_lit (by decide) (by decide)) ?_
  refine zx_is (As := [zI x, zI z, zI 0]) (st := []) (v := (some (zI 1))) (w1 := w) dX11_addSame_18 zc_X11_165 rfl (Nat.le_of_ble_eq_true rfl) rfl (f_av _ _ _ hx hz (by decide)) ?_
  refine zx_st (st1 := [zI 1]) rfl ?_
  refine zx_pc (pc1 := 21) rfl ?_
  refine zx_if_ne (tgt := 32) dX11_addSame_21 (by decide) (fun h21 => ?_) (fun h21 => absurd (by decide) h21)
  refine zx_aload (i := 4) dX11_addSame_32 rfl ?_
  refine zx_iload_n (i := 2) dX11_addSame_34 rfl rfl ?_
  refine zx_iv (b := c) (As := [zI x]) (st := []) (v := (some (zI (tg (R.2.2.2.2.2.1 c).2.2.1 x 0)))) (w1 := w) dX11_addSame_35 zc_X11_183 hCl.1 rfl rfl rfl (Nat.le_of_ble_eq_true rfl) rfl (c_X1_typeAt hCl x) ?_
  refine zx_st (st1 := [zI (tg (R.2.2.2.2.2.1 c).2.2.1 x 0)]) rfl ?_
  refine zx_iconst (v := -1) dX11_addSame_38 rfl (z32_lit (by decide) (by decide)) ?_
  refine zx_icmp_eq (tgt := 51) dX11_addSame_39 (by decide) (fun h39 => absurd h39 (ht)) (fun h39 => ?_)
  refine zx_aload (i := 4) dX11_addSame_42 rfl ?_
  refine zx_iload_n (i := 2) dX11_addSame_44 rfl rfl ?_
  refine zx_iv (b := c) (As := [zI x]) (st := []) (v := (some (zI (tg (R.2.2.2.2.2.1 c).2.2.1 x 0)))) (w1 := w) dX11_addSame_45 zc_X11_183 hCl.1 rfl rfl rfl (Nat.le_of_ble_eq_true rfl) rfl (c_X1_typeAt hCl x) ?_
  refine zx_st (st1 := [zI (tg (R.2.2.2.2.2.1 c).2.2.1 x 0)]) rfl ?_
  refine zx_goto (tgt := 57) dX11_addSame_48 (by decide) ?_
  refine zx_istore (i := 5) dX11_addSame_57 (by decide) rfl ?_
  refine zx_L (L1 := [some (zR o), some (zI i), some (zI x), some (zI z), some (zR c), some (zI (tg (R.2.2.2.2.2.1 c).2.2.1 x 0))]) rfl ?_
  refine zx_iload (i := 5) dX11_addSame_59 rfl ?_
  refine zx_pc (pc1 := 61) rfl ?_
  refine zx_iconst (v := -1) dX11_addSame_61 rfl (z32_lit (by decide) (by decide)) ?_
  refine zx_icmp_ne (tgt := 73) dX11_addSame_62 (by decide) (fun h62 => ?_) (fun h62 => ?_)
  · refine zx_aload_n (i := 0) dX11_addSame_73 rfl rfl ?_
    refine zx_aload (i := 4) dX11_addSame_74 rfl ?_
    refine zx_ok (fun ok_1 => ?_)
    refine zx_new dX11_addSame_76 zn_X11_168 (by omega) (by omega) ?_
    obtain ⟨w_2, hw_3⟩ : ∃ ww, ww = znew w (3, 0, [zI 0, zI 0, zI 0, zN]) 4 := ⟨_, rfl⟩
    obtain ⟨a_4, ha_5⟩ : ∃ ww, ww = w.2.1 := ⟨_, rfl⟩
    rw [← hw_3, ← ha_5]
    have q_6 : w_2.2.1 = w.2.1 + 1 ∧ w_2.2.2 = w.2.2 + 4 := by rw [hw_3]; exact ⟨rfl, rfl⟩
    have h_7 : w_2.1 a_4 = some (3, 0, [zI 0, zI 0, zI 0, zN]) := by rw [hw_3, ha_5]; exact znew_at
    refine zx_dup dX11_addSame_79 (fun a h => by cases h) ?_
    refine zx_iconst (v := 1) dX11_addSame_80 rfl (z32_lit (by decide) (by decide)) ?_
    refine zx_iconst (v := -1) dX11_addSame_81 rfl (z32_lit (by decide) (by decide)) ?_
    refine zx_iconst (v := 2) dX11_addSame_82 rfl (z32_lit (by decide) (by decide)) ?_
    refine zx_iload_n (i := 2) dX11_addSame_83 rfl rfl ?_
    refine zx_iload_n (i := 3) dX11_addSame_84 rfl rfl ?_
    refine zx_iconst (v := 0) dX11_addSame_85 rfl (z32_lit (by decide) (by decide)) ?_
    refine zx_pc (pc1 := 86) rfl ?_
    refine zx_ok (fun ok_8 => ?_)
    obtain ⟨w_9, hw_10⟩ : ∃ ww, ww = znew w_2 (100, a_4, [zI x, zI z, zI 0]) 3 := ⟨_, rfl⟩
    obtain ⟨a_11, ha_12⟩ : ∃ ww, ww = w_2.2.1 := ⟨_, rfl⟩
    have q_13 : w_9.2.1 = w_2.2.1 + 1 ∧ w_9.2.2 = w_2.2.2 + 3 := by rw [hw_10]; exact ⟨rfl, rfl⟩
    have h_14 : w_9.1 a_11 = some (100, a_4, [zI x, zI z, zI 0]) := by rw [hw_10, ha_12]; exact znew_at
    have h_15 : w_9.1 a_4 = some (3, 0, [zI 0, zI 0, zI 0, zN]) := by
      rw [hw_10]; exact znew_to (ok_8 _ _ h_7) h_7
    obtain ⟨w_16, hw_17⟩ : ∃ ww, ww = zput w_9 a_4 (3, 0, [zI 1, zI (-1), zI 2, zR a_11]) := ⟨_, rfl⟩
    have q_18 : w_16.2.1 = w_9.2.1 ∧ w_16.2.2 = w_9.2.2 := by rw [hw_17]; exact ⟨rfl, rfl⟩
    have h_19 : w_16.1 a_4 = some (3, 0, [zI 1, zI (-1), zI 2, zR a_11]) := by rw [hw_17]; exact zput_at
    refine zx_ic (b := a_4) (As := [zI 1, zI (-1), zI 2, zI x, zI z, zI 0]) (st := [zR a_4, zR c, zR o]) (w1 := w_16) dX11_addSame_86 zc_X11_170 rfl (Nat.le_of_ble_eq_true rfl) rfl (by rw [hw_17]; (try rw [ha_12]); rw [hw_10]; exact (c_X3_init h_7 (by omega) (by omega) 1 (-1) 2 x z 0)) ?_
    refine zx_iload (i := 5) dX11_addSame_89 rfl ?_
    refine zx_iload (i := 5) dX11_addSame_91 rfl ?_
    refine zx_iconst (v := -1) dX11_addSame_93 rfl (z32_lit (by decide) (by decide)) ?_
    have h_20 : w_16.1 a_11 = some (100, a_4, [zI x, zI z, zI 0]) := by
      rw [hw_17]; exact zput_tg h_15 h_14 (by simp)
    have h_21 : w_2.1 o = some (11, 0, [zR t, zR pg, zR mc, zR br, zR la, zR sp, zI comp, zI asked, zJ sum]) := by
      rw [hw_3]; exact znew_to (ok_1 _ _ ho) ho
    have h_22 : w_9.1 o = some (11, 0, [zR t, zR pg, zR mc, zR br, zR la, zR sp, zI comp, zI asked, zJ sum]) := by
      rw [hw_10]; exact znew_to (ok_8 _ _ h_21) h_21
    have h_23 : w_16.1 o = some (11, 0, [zR t, zR pg, zR mc, zR br, zR la, zR sp, zI comp, zI asked, zJ sum]) := by
      rw [hw_17]; exact zput_tg h_15 h_22 (by simp)
    have hfr : ∀ b ob, w.1 b = some ob → w_16.1 b = some ob := by
      intro b ob  hb
      have hlt := ok0 b ob hb
      have f_24 : w_2.1 b = some ob := by rw [hw_3, znew_ne (by omega)]; exact hb
      have f_25 : w_9.1 b = some ob := by rw [hw_10, znew_ne (by omega)]; exact f_24
      have f_26 : w_16.1 b = some ob := by rw [hw_17]; exact zput_to (by omega) f_25
      exact f_26
    have hAG2 := hAG w_16 a_4 a_11 ⟨h_19, h_20, hfr, by omega, by omega, by omega⟩
    refine zx_invokevirtual (b := o) (As := [zR c, zR a_4, zI (tg (R.2.2.2.2.2.1 c).2.2.1 x 0), zI (tg (R.2.2.2.2.2.1 c).2.2.1 x 0), zI (-1)]) (st := []) dX11_addSame_94 zc_X11_179 h_23 rfl rfl rfl (Nat.le_of_ble_eq_true rfl) rfl hAG2 (fun v3 w3 q3 => ?_) (fun _ _ q => q)
    obtain ⟨n3, rfl⟩ := hQ2 v3 w3 q3
    refine zx_st (st1 := [zI n3]) rfl ?_
    refine zx_iret dX11_addSame_97 rfl ?_
    exact q3
  · refine zx_thrown zt_X11_83_85 dX11_addSame_65 dX11_addSame_68 dX11_addSame_69 dX11_addSame_72 rfl hst0 (Nat.le_of_ble_eq_true rfl) (by omega) (by omega) (fun z t z1 z2 z3 z4 => ?_)
    exfalso
    omega
theorem f_as_b (ho : w.1 o = some (11, 0, [zR t, zR pg, zR mc, zR br, zR la, zR sp, zI comp, zI asked, zJ sum])) (hP : pgW w pg R) (i : Int) (hcc : lAt R.2.2.1.2.2 i = some c) (x z : Int) (hx : 0 ≤ x ∧ x < 8) (hz : 0 ≤ z ∧ z < 8) (ht : tg (R.2.2.2.2.2.1 c).2.2.1 x 0 = -1) (ht2 : tg (R.2.2.2.2.2.1 c).2.2.1 z 0 ≠ -1) (hAG : ∀ w2 g va, gMk w 1 (-1) 2 x z 0 w2 g va → zM G zm_X11_addGoal (d + 7) [zR o, zR c, zR g, zI (tg (R.2.2.2.2.2.1 c).2.2.1 z 0), zI (tg (R.2.2.2.2.2.1 c).2.2.1 z 0), zI (-1)] w2 Q2) (hQ2 : ∀ v w3, Q2 (.inl v) w3 → ∃ n : Int, v = some (zI n)) (hst0 : G.1.stackTraces = false) (r1 : w.2.1 + 2 ≤ G.2.2.2.2.1) (r2 : w.2.2 + 7 ≤ G.2.2.2.2.2) : zM G zm_X11_addSame (d + 8) [zR o, zI i, zI x, zI z] w (Q2) := by
  refine zx_ent (by decide +kernel) rfl (Nat.le_of_ble_eq_true rfl) ?_
  refine zx_L (L1 := [some (zR o), some (zI i), some (zI x), some (zI z), none, none]) rfl ?_
  refine zx_ok (fun ok0 => ?_)
  have helP : ∀ y ∈ R.2.2.1.1, ∃ a b, w.1 y = some ((6, a, b) : zO) := fun y hy => ⟨_, _, (hP.2.2.2.2.1 y hy).1.1⟩
  have helC : ∀ y ∈ R.2.2.1.2.2, ∃ a b, w.1 y = some ((1, a, b) : zO) := fun y hy => ⟨_, _, (hP.2.2.2.2.2.2 y hy).1.1⟩
  have hCl := (hP.2.2.2.2.2.2 c (lAt_mem hcc)).1
  refine zx_aload_n (i := 0) dX11_addSame_0 rfl rfl ?_
  refine zx_getfield dX11_addSame_1 zf_X11_19 ho rfl ?_
  refine zx_iload_n (i := 1) dX11_addSame_4 rfl rfl ?_
  refine zx_iv (b := pg) (As := [zI i]) (st := []) (v := (some (zR c))) (w1 := w) dX11_addSame_5 zc_X11_161 hP.1 rfl rfl rfl (Nat.le_of_ble_eq_true rfl) rfl (by have q := c_X7_clauseAt (G := G) (d := d + 4) hP.1 hP.2.2.2.1 helC i; rw [hcc] at q; exact q) ?_
  refine zx_st (st1 := [zR c]) rfl ?_
  refine zx_astore (i := 4) dX11_addSame_8 (by decide) rfl ?_
  refine zx_L (L1 := [some (zR o), some (zI i), some (zI x), some (zI z), some (zR c), none]) rfl ?_
  refine zx_aload (i := 4) dX11_addSame_10 rfl ?_
  refine zx_ifnull (tgt := 24) dX11_addSame_12 (by decide) (fun h => by cases h) (fun _ => ?_)
  refine zx_iload_n (i := 2) dX11_addSame_15 rfl rfl ?_
  refine zx_iload_n (i := 3) dX11_addSame_16 rfl rfl ?_
  refine zx_iconst (v := 0) dX11_addSame_17 rfl (z32_lit (by decide) (by decide)) ?_
  refine zx_is (As := [zI x, zI z, zI 0]) (st := []) (v := (some (zI 1))) (w1 := w) dX11_addSame_18 zc_X11_165 rfl (Nat.le_of_ble_eq_true rfl) rfl (f_av _ _ _ hx hz (by decide)) ?_
  refine zx_st (st1 := [zI 1]) rfl ?_
  refine zx_pc (pc1 := 21) rfl ?_
  refine zx_if_ne (tgt := 32) dX11_addSame_21 (by decide) (fun h21 => ?_) (fun h21 => absurd (by decide) h21)
  refine zx_aload (i := 4) dX11_addSame_32 rfl ?_
  refine zx_iload_n (i := 2) dX11_addSame_34 rfl rfl ?_
  refine zx_iv (b := c) (As := [zI x]) (st := []) (v := (some (zI (tg (R.2.2.2.2.2.1 c).2.2.1 x 0)))) (w1 := w) dX11_addSame_35 zc_X11_183 hCl.1 rfl rfl rfl (Nat.le_of_ble_eq_true rfl) rfl (c_X1_typeAt hCl x) ?_
  refine zx_st (st1 := [zI (tg (R.2.2.2.2.2.1 c).2.2.1 x 0)]) rfl ?_
  refine zx_iconst (v := -1) dX11_addSame_38 rfl (z32_lit (by decide) (by decide)) ?_
  refine zx_icmp_eq (tgt := 51) dX11_addSame_39 (by decide) (fun h39 => ?_) (fun h39 => absurd (ht) h39)
  refine zx_aload (i := 4) dX11_addSame_51 rfl ?_
  refine zx_iload_n (i := 3) dX11_addSame_53 rfl rfl ?_
  refine zx_iv (b := c) (As := [zI z]) (st := []) (v := (some (zI (tg (R.2.2.2.2.2.1 c).2.2.1 z 0)))) (w1 := w) dX11_addSame_54 zc_X11_183 hCl.1 rfl rfl rfl (Nat.le_of_ble_eq_true rfl) rfl (c_X1_typeAt hCl z) ?_
  refine zx_st (st1 := [zI (tg (R.2.2.2.2.2.1 c).2.2.1 z 0)]) rfl ?_
  refine zx_istore (i := 5) dX11_addSame_57 (by decide) rfl ?_
  refine zx_L (L1 := [some (zR o), some (zI i), some (zI x), some (zI z), some (zR c), some (zI (tg (R.2.2.2.2.2.1 c).2.2.1 z 0))]) rfl ?_
  refine zx_iload (i := 5) dX11_addSame_59 rfl ?_
  refine zx_iconst (v := -1) dX11_addSame_61 rfl (z32_lit (by decide) (by decide)) ?_
  refine zx_pc (pc1 := 62) rfl ?_
  refine zx_icmp_ne (tgt := 73) dX11_addSame_62 (by decide) (fun h62 => ?_) (fun h62 => absurd (ht2) h62)
  refine zx_aload_n (i := 0) dX11_addSame_73 rfl rfl ?_
  refine zx_aload (i := 4) dX11_addSame_74 rfl ?_
  refine zx_ok (fun ok_1 => ?_)
  refine zx_new dX11_addSame_76 zn_X11_168 (by omega) (by omega) ?_
  obtain ⟨w_2, hw_3⟩ : ∃ ww, ww = znew w (3, 0, [zI 0, zI 0, zI 0, zN]) 4 := ⟨_, rfl⟩
  obtain ⟨a_4, ha_5⟩ : ∃ ww, ww = w.2.1 := ⟨_, rfl⟩
  rw [← hw_3, ← ha_5]
  have q_6 : w_2.2.1 = w.2.1 + 1 ∧ w_2.2.2 = w.2.2 + 4 := by rw [hw_3]; exact ⟨rfl, rfl⟩
  have h_7 : w_2.1 a_4 = some (3, 0, [zI 0, zI 0, zI 0, zN]) := by rw [hw_3, ha_5]; exact znew_at
  refine zx_dup dX11_addSame_79 (fun a h => by cases h) ?_
  refine zx_iconst (v := 1) dX11_addSame_80 rfl (z32_lit (by decide) (by decide)) ?_
  refine zx_iconst (v := -1) dX11_addSame_81 rfl (z32_lit (by decide) (by decide)) ?_
  refine zx_iconst (v := 2) dX11_addSame_82 rfl (z32_lit (by decide) (by decide)) ?_
  refine zx_iload_n (i := 2) dX11_addSame_83 rfl rfl ?_
  refine zx_iload_n (i := 3) dX11_addSame_84 rfl rfl ?_
  refine zx_iconst (v := 0) dX11_addSame_85 rfl (z32_lit (by decide) (by decide)) ?_
  refine zx_ok (fun ok_8 => ?_)
  obtain ⟨w_9, hw_10⟩ : ∃ ww, ww = znew w_2 (100, a_4, [zI x, zI z, zI 0]) 3 := ⟨_, rfl⟩
  obtain ⟨a_11, ha_12⟩ : ∃ ww, ww = w_2.2.1 := ⟨_, rfl⟩
  have q_13 : w_9.2.1 = w_2.2.1 + 1 ∧ w_9.2.2 = w_2.2.2 + 3 := by rw [hw_10]; exact ⟨rfl, rfl⟩
  have h_14 : w_9.1 a_11 = some (100, a_4, [zI x, zI z, zI 0]) := by rw [hw_10, ha_12]; exact znew_at
  have h_15 : w_9.1 a_4 = some (3, 0, [zI 0, zI 0, zI 0, zN]) := by
    rw [hw_10]; exact znew_to (ok_8 _ _ h_7) h_7
  obtain ⟨w_16, hw_17⟩ : ∃ ww, ww = zput w_9 a_4 (3, 0, [zI 1, zI (-1), zI 2, zR a_11]) := ⟨_, rfl⟩
  have q_18 : w_16.2.1 = w_9.2.1 ∧ w_16.2.2 = w_9.2.2 := by rw [hw_17]; exact ⟨rfl, rfl⟩
  have h_19 : w_16.1 a_4 = some (3, 0, [zI 1, zI (-1), zI 2, zR a_11]) := by rw [hw_17]; exact zput_at
  refine zx_ic (b := a_4) (As := [zI 1, zI (-1), zI 2, zI x, zI z, zI 0]) (st := [zR a_4, zR c, zR o]) (w1 := w_16) dX11_addSame_86 zc_X11_170 rfl (Nat.le_of_ble_eq_true rfl) rfl (by rw [hw_17]; (try rw [ha_12]); rw [hw_10]; exact (c_X3_init h_7 (by omega) (by omega) 1 (-1) 2 x z 0)) ?_
  refine zx_pc (pc1 := 89) rfl ?_
  refine zx_iload (i := 5) dX11_addSame_89 rfl ?_
  refine zx_iload (i := 5) dX11_addSame_91 rfl ?_
  refine zx_iconst (v := -1) dX11_addSame_93 rfl (z32_lit (by decide) (by decide)) ?_
  have h_20 : w_16.1 a_11 = some (100, a_4, [zI x, zI z, zI 0]) := by
    rw [hw_17]; exact zput_tg h_15 h_14 (by simp)
  have h_21 : w_2.1 o = some (11, 0, [zR t, zR pg, zR mc, zR br, zR la, zR sp, zI comp, zI asked, zJ sum]) := by
    rw [hw_3]; exact znew_to (ok_1 _ _ ho) ho
  have h_22 : w_9.1 o = some (11, 0, [zR t, zR pg, zR mc, zR br, zR la, zR sp, zI comp, zI asked, zJ sum]) := by
    rw [hw_10]; exact znew_to (ok_8 _ _ h_21) h_21
  have h_23 : w_16.1 o = some (11, 0, [zR t, zR pg, zR mc, zR br, zR la, zR sp, zI comp, zI asked, zJ sum]) := by
    rw [hw_17]; exact zput_tg h_15 h_22 (by simp)
  have hfr : ∀ b ob, w.1 b = some ob → w_16.1 b = some ob := by
    intro b ob  hb
    have hlt := ok0 b ob hb
    have f_24 : w_2.1 b = some ob := by rw [hw_3, znew_ne (by omega)]; exact hb
    have f_25 : w_9.1 b = some ob := by rw [hw_10, znew_ne (by omega)]; exact f_24
    have f_26 : w_16.1 b = some ob := by rw [hw_17]; exact zput_to (by omega) f_25
    exact f_26
  have hAG2 := hAG w_16 a_4 a_11 ⟨h_19, h_20, hfr, by omega, by omega, by omega⟩
  refine zx_invokevirtual (b := o) (As := [zR c, zR a_4, zI (tg (R.2.2.2.2.2.1 c).2.2.1 z 0), zI (tg (R.2.2.2.2.2.1 c).2.2.1 z 0), zI (-1)]) (st := []) dX11_addSame_94 zc_X11_179 h_23 rfl rfl rfl (Nat.le_of_ble_eq_true rfl) rfl hAG2 (fun v3 w3 q3 => ?_) (fun _ _ q => q)
  obtain ⟨n3, rfl⟩ := hQ2 v3 w3 q3
  refine zx_st (st1 := [zI n3]) rfl ?_
  refine zx_iret dX11_addSame_97 rfl ?_
  exact q3
theorem f_as_x1 (ho : w.1 o = some (11, 0, [zR t, zR pg, zR mc, zR br, zR la, zR sp, zI comp, zI asked, zJ sum])) (hP : pgW w pg R) (i : Int) (hcc : lAt R.2.2.1.2.2 i = some c) (x z : Int) (hx : 0 ≤ x ∧ x < 8) (hz : 0 ≤ z ∧ z < 8) (ht : tg (R.2.2.2.2.2.1 c).2.2.1 x 0 = -1) (ht2 : tg (R.2.2.2.2.2.1 c).2.2.1 z 0 = -1) (hst0 : G.1.stackTraces = false) (r1 : w.2.1 + 2 ≤ G.2.2.2.2.1) (r2 : w.2.2 + 7 ≤ G.2.2.2.2.2) : zM G zm_X11_addSame (d + 8) [zR o, zI i, zI x, zI z] w (zXw 1 w) := by
  refine zx_ent (by decide +kernel) rfl (Nat.le_of_ble_eq_true rfl) ?_
  refine zx_L (L1 := [some (zR o), some (zI i), some (zI x), some (zI z), none, none]) rfl ?_
  refine zx_ok (fun ok0 => ?_)
  have helP : ∀ y ∈ R.2.2.1.1, ∃ a b, w.1 y = some ((6, a, b) : zO) := fun y hy => ⟨_, _, (hP.2.2.2.2.1 y hy).1.1⟩
  have helC : ∀ y ∈ R.2.2.1.2.2, ∃ a b, w.1 y = some ((1, a, b) : zO) := fun y hy => ⟨_, _, (hP.2.2.2.2.2.2 y hy).1.1⟩
  have hCl := (hP.2.2.2.2.2.2 c (lAt_mem hcc)).1
  refine zx_aload_n (i := 0) dX11_addSame_0 rfl rfl ?_
  refine zx_getfield dX11_addSame_1 zf_X11_19 ho rfl ?_
  refine zx_iload_n (i := 1) dX11_addSame_4 rfl rfl ?_
  refine zx_iv (b := pg) (As := [zI i]) (st := []) (v := (some (zR c))) (w1 := w) dX11_addSame_5 zc_X11_161 hP.1 rfl rfl rfl (Nat.le_of_ble_eq_true rfl) rfl (by have q := c_X7_clauseAt (G := G) (d := d + 4) hP.1 hP.2.2.2.1 helC i; rw [hcc] at q; exact q) ?_
  refine zx_st (st1 := [zR c]) rfl ?_
  refine zx_astore (i := 4) dX11_addSame_8 (by decide) rfl ?_
  refine zx_L (L1 := [some (zR o), some (zI i), some (zI x), some (zI z), some (zR c), none]) rfl ?_
  refine zx_aload (i := 4) dX11_addSame_10 rfl ?_
  refine zx_ifnull (tgt := 24) dX11_addSame_12 (by decide) (fun h => by cases h) (fun _ => ?_)
  refine zx_iload_n (i := 2) dX11_addSame_15 rfl rfl ?_
  refine zx_iload_n (i := 3) dX11_addSame_16 rfl rfl ?_
  refine zx_iconst (v := 0) dX11_addSame_17 rfl (z32_lit (by decide) (by decide)) ?_
  refine zx_is (As := [zI x, zI z, zI 0]) (st := []) (v := (some (zI 1))) (w1 := w) dX11_addSame_18 zc_X11_165 rfl (Nat.le_of_ble_eq_true rfl) rfl (f_av _ _ _ hx hz (by decide)) ?_
  refine zx_st (st1 := [zI 1]) rfl ?_
  refine zx_pc (pc1 := 21) rfl ?_
  refine zx_if_ne (tgt := 32) dX11_addSame_21 (by decide) (fun h21 => ?_) (fun h21 => absurd (by decide) h21)
  refine zx_aload (i := 4) dX11_addSame_32 rfl ?_
  refine zx_iload_n (i := 2) dX11_addSame_34 rfl rfl ?_
  refine zx_iv (b := c) (As := [zI x]) (st := []) (v := (some (zI (tg (R.2.2.2.2.2.1 c).2.2.1 x 0)))) (w1 := w) dX11_addSame_35 zc_X11_183 hCl.1 rfl rfl rfl (Nat.le_of_ble_eq_true rfl) rfl (c_X1_typeAt hCl x) ?_
  refine zx_st (st1 := [zI (tg (R.2.2.2.2.2.1 c).2.2.1 x 0)]) rfl ?_
  refine zx_iconst (v := -1) dX11_addSame_38 rfl (z32_lit (by decide) (by decide)) ?_
  refine zx_icmp_eq (tgt := 51) dX11_addSame_39 (by decide) (fun h39 => ?_) (fun h39 => absurd (ht) h39)
  refine zx_aload (i := 4) dX11_addSame_51 rfl ?_
  refine zx_iload_n (i := 3) dX11_addSame_53 rfl rfl ?_
  refine zx_iv (b := c) (As := [zI z]) (st := []) (v := (some (zI (tg (R.2.2.2.2.2.1 c).2.2.1 z 0)))) (w1 := w) dX11_addSame_54 zc_X11_183 hCl.1 rfl rfl rfl (Nat.le_of_ble_eq_true rfl) rfl (c_X1_typeAt hCl z) ?_
  refine zx_st (st1 := [zI (tg (R.2.2.2.2.2.1 c).2.2.1 z 0)]) rfl ?_
  refine zx_istore (i := 5) dX11_addSame_57 (by decide) rfl ?_
  refine zx_L (L1 := [some (zR o), some (zI i), some (zI x), some (zI z), some (zR c), some (zI (tg (R.2.2.2.2.2.1 c).2.2.1 z 0))]) rfl ?_
  refine zx_iload (i := 5) dX11_addSame_59 rfl ?_
  refine zx_iconst (v := -1) dX11_addSame_61 rfl (z32_lit (by decide) (by decide)) ?_
  refine zx_pc (pc1 := 62) rfl ?_
  refine zx_icmp_ne (tgt := 73) dX11_addSame_62 (by decide) (fun h62 => absurd h62 ((not_not_intro ht2))) (fun h62 => ?_)
  refine zx_thrown zt_X11_83_85 dX11_addSame_65 dX11_addSame_68 dX11_addSame_69 dX11_addSame_72 rfl hst0 (Nat.le_of_ble_eq_true rfl) (by omega) (by omega) (fun z t z1 z2 z3 z4 => ?_)
  exact ⟨rfl, rfl, z1, z2, z3, z4⟩
theorem f_as_x0 (ho : w.1 o = some (11, 0, [zR t, zR pg, zR mc, zR br, zR la, zR sp, zI comp, zI asked, zJ sum])) (hP : pgW w pg R) (i : Int) (hcc : lAt R.2.2.1.2.2 i = none) (x z : Int) (hst0 : G.1.stackTraces = false) (r1 : w.2.1 + 2 ≤ G.2.2.2.2.1) (r2 : w.2.2 + 7 ≤ G.2.2.2.2.2) : zM G zm_X11_addSame (d + 8) [zR o, zI i, zI x, zI z] w (zXw 0 w) := by
  refine zx_ent (by decide +kernel) rfl (Nat.le_of_ble_eq_true rfl) ?_
  refine zx_L (L1 := [some (zR o), some (zI i), some (zI x), some (zI z), none, none]) rfl ?_
  refine zx_ok (fun ok0 => ?_)
  have helP : ∀ y ∈ R.2.2.1.1, ∃ a b, w.1 y = some ((6, a, b) : zO) := fun y hy => ⟨_, _, (hP.2.2.2.2.1 y hy).1.1⟩
  have helC : ∀ y ∈ R.2.2.1.2.2, ∃ a b, w.1 y = some ((1, a, b) : zO) := fun y hy => ⟨_, _, (hP.2.2.2.2.2.2 y hy).1.1⟩
  refine zx_aload_n (i := 0) dX11_addSame_0 rfl rfl ?_
  refine zx_getfield dX11_addSame_1 zf_X11_19 ho rfl ?_
  refine zx_iload_n (i := 1) dX11_addSame_4 rfl rfl ?_
  refine zx_iv (b := pg) (As := [zI i]) (st := []) (v := (some (zN))) (w1 := w) dX11_addSame_5 zc_X11_161 hP.1 rfl rfl rfl (Nat.le_of_ble_eq_true rfl) rfl (by have q := c_X7_clauseAt (G := G) (d := d + 4) hP.1 hP.2.2.2.1 helC i; rw [hcc] at q; exact q) ?_
  refine zx_st (st1 := [zN]) rfl ?_
  refine zx_astore (i := 4) dX11_addSame_8 (by decide) rfl ?_
  refine zx_L (L1 := [some (zR o), some (zI i), some (zI x), some (zI z), some (zN), none]) rfl ?_
  refine zx_aload (i := 4) dX11_addSame_10 rfl ?_
  refine zx_ifnull (tgt := 24) dX11_addSame_12 (by decide) (fun _ => ?_) (fun h => absurd rfl h)
  refine zx_thrown zt_X11_80_82 dX11_addSame_24 dX11_addSame_27 dX11_addSame_28 dX11_addSame_31 rfl hst0 (Nat.le_of_ble_eq_true rfl) (by omega) (by omega) (fun z t z1 z2 z3 z4 => ?_)
  exact ⟨rfl, rfl, z1, z2, z3, z4⟩
end CFACE6
