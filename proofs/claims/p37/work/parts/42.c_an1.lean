/-! Own rows: analyse, its first loop. Walked by program (wip/p37/m_an1.py). -/
def anM (r : moR) (lost : Int) : moR := (r.1, r.2.1, r.2.2.1, r.2.2.2.1, lost, (if lost = 0 then 1 else 0), 0, 0, r.2.2.2.2.2.2.2.2)
def setSw (r : moR) (v : Int) : moR := (r.1, r.2.1, r.2.2.1, r.2.2.2.1, r.2.2.2.2.1, r.2.2.2.2.2.1, r.2.2.2.2.2.2.1, r.2.2.2.2.2.2.2.1, v)
def anS (w : zW) (R : pgR) (r : moR) (y : Nat) (P : Bool × zW × pgR) : zW × pgR :=
  (zput P.2.1 y (5, 0, moF (setSw (anM r (if P.1 = true then 0 else 1)) (fsS (pgSetM P.2.2 y (anM r (if P.1 = true then 0 else 1))) r.2.2.1 r.2.1 (R.2.2.2.1 r.1).2.2.2.2 (-1) 0))),
   pgSetM P.2.2 y (setSw (anM r (if P.1 = true then 0 else 1)) (fsS (pgSetM P.2.2 y (anM r (if P.1 = true then 0 else 1))) r.2.2.1 r.2.1 (R.2.2.2.1 r.1).2.2.2.2 (-1) 0)))
def anP (w : zW) (R : pgR) (r : moR) : Bool × zW × pgR := pioS r.2.1.toNat r.2.2.1 r.1 (R.2.2.2.1 r.1).2.2.2.2 true w R
def an1 : List Nat → zW → pgR → zW × pgR
  | [], w, R => (w, R)
  | y :: l, w, R => an1 l (anS w R (R.2.2.2.2.1 y) y (anP w R (R.2.2.2.2.1 y))).1 (anS w R (R.2.2.2.2.1 y) y (anP w R (R.2.2.2.2.1 y))).2
theorem an1_c {y : Nat} {l : List Nat} {w : zW} {R : pgR} : an1 (y :: l) w R = an1 l (anS w R (R.2.2.2.2.1 y) y (anP w R (R.2.2.2.2.1 y))).1 (anS w R (R.2.2.2.2.1 y) y (anP w R (R.2.2.2.2.1 y))).2 := rfl
theorem pgL_setM {R : pgR} {y : Nat} {r : moR} (h : pgL R) : pgL (pgSetM R y r) := h
theorem pgO_setM {R : pgR} {y : Nat} {r : moR} (h : pgO R) : pgO (pgSetM R y r) := h
section CAN1
variable {G : zG} {d : Nat} {w : zW} {pg : Nat} {R : pgR} {Q : zQ}
theorem c_an1 {Ms : List Nat} {av : List zV} {t : Nat} {w0 : zW} (hlen : Ms.length < 1000) : ∀ (n q : Nat) (o3 : Option zV) (w1 : zW) (R1 : pgR), q + n = Ms.length → pgW w1 pg R1 → pgO R1 → pgN R1 → pgL R1 → R1.2.2.1.2.1 = Ms → (∀ (x : Int) (o3 : Option zV), zX G zm_X7_analyse (d + 10) av w0 Q 82 [some (zR pg), some (zR t), some (zI x), o3] [] (an1 (Ms.drop q) w1 R1).1) → zX G zm_X7_analyse (d + 10) av w0 Q 2 [some (zR pg), some (zR t), some (zI (q : Int)), o3] [] w1 := by
  intro n
  induction n with
  | zero =>
    intro q o3 w1 R1 hq hP1 hO1 hN1 hL1 hMs kk
    obtain ⟨hpg1, -, hms1, -⟩ := id hP1
    rw [hMs] at hms1
    rw [List.drop_eq_nil_of_le (by omega)] at kk
    refine zx_iload_n (i := 2) dX7_analyse_2 rfl rfl ?_
    refine zx_aload_n (i := 0) dX7_analyse_3 rfl rfl ?_
    refine zx_getfield dX7_analyse_4 zf_X7_18 hpg1 rfl ?_
    refine zx_iv (b := R1.1.2.1) (As := []) (st := [zI (q : Int)]) (v := (some (zI (Ms.length : Int)))) (w1 := w1) dX7_analyse_7 zc_X7_24 hms1 (z_cls12 (by decide)) rfl rfl (Nat.le_of_ble_eq_true rfl) rfl (c_list_size hms1 (by decide)) ?_
    refine zx_st (st1 := [zI (Ms.length : Int), zI (q : Int)]) rfl ?_
    refine zx_icmp_ge (tgt := 82) dX7_analyse_10 (by decide) (fun h10 => ?_) (fun h10 => absurd (by omega) h10)
    exact kk _ _
  | succ n ih =>
    intro q o3 w1 R1 hq hP1 hO1 hN1 hL1 hMs kk
    obtain ⟨hpg1, -, hms1, -, hPr1, hMo1, -⟩ := id hP1
    rw [hMs] at hms1
    obtain ⟨y, hyq⟩ : ∃ y, Ms[q]? = some y := ⟨_, List.getElem?_eq_getElem (by omega)⟩
    have hym : y ∈ R1.2.2.1.2.1 := by rw [hMs]; exact List.mem_of_getElem? hyq
    have hy1 := hMo1 y hym
    unfold moW at hy1
    obtain ⟨hpr1, hnu, hlen1⟩ := hN1 y hym
    rw [drop_cons hyq] at kk
    rcases hmr : R1.2.2.2.2.1 y with ⟨pr, nu, ins, pm, lo, gd, cf, cr, sw⟩
    rw [hmr] at hy1 hpr1 hnu hlen1
    simp only at hpr1 hnu hlen1
    obtain ⟨m, rfl⟩ : ∃ m : Nat, nu = m := ⟨nu.toNat, by omega⟩
    replace hy1 : w1.1 y = some (5, 0, [zR pr, zI (m : Int), zI ins, zI pm, zI lo, zI gd, zI cf, zI cr, zI sw]) := hy1
    have hm2 : m < 2 := by omega
    have hsub := (hPr1 pr hpr1).2.2.1
    have hgl1 : ∀ c ∈ (R1.2.2.2.1 pr).2.2.2.2, (R1.2.2.2.2.2.1 c).2.2.2.1.2.length ≤ 5 := fun c hc => hL1 c (hsub c hc)
    obtain ⟨hP2, hO2, b1, b2, b3, b4, b5, b6, b7⟩ := pioS_keep (m := m) (ins := ins) (pr := pr) (b := true) hP1 hO1 hsub hgl1
    have hsm2 : pgSm R1 (pioS m ins pr (R1.2.2.2.1 pr).2.2.2.2 true w1 R1).2.2 := ⟨b1, b2, b3, b4, b5, b6, b7⟩
    have hN2 := pgN_sm hN1 hsm2
    have hL2 := pgL_sm hL1 hsm2
    obtain ⟨P, hPd⟩ : ∃ P, P = pioS m ins pr (R1.2.2.2.1 pr).2.2.2.2 true w1 R1 := ⟨_, rfl⟩
    rw [← hPd] at hP2 hO2 b1 b2 b3 b4 b5 b6 b7 hN2 hL2
    have hym2 : y ∈ P.2.2.2.2.1.2.1 := by rw [b3]; exact hym
    have hy2 : P.2.1.1 y = some (5, 0, [zR pr, zI (m : Int), zI ins, zI pm, zI lo, zI gd, zI cf, zI cr, zI sw]) := by
      have h := hP2.2.2.2.2.2.1 y hym2
      unfold moW at h
      rw [b5, hmr] at h
      exact h
    by_cases hp : P.1 = true
    · refine zx_iload_n (i := 2) dX7_analyse_2 rfl rfl ?_
      refine zx_aload_n (i := 0) dX7_analyse_3 rfl rfl ?_
      refine zx_getfield dX7_analyse_4 zf_X7_18 hpg1 rfl ?_
      refine zx_iv (b := R1.1.2.1) (As := []) (st := [zI (q : Int)]) (v := (some (zI (Ms.length : Int)))) (w1 := w1) dX7_analyse_7 zc_X7_24 hms1 (z_cls12 (by decide)) rfl rfl (Nat.le_of_ble_eq_true rfl) rfl (c_list_size hms1 (by decide)) ?_
      refine zx_st (st1 := [zI (Ms.length : Int), zI (q : Int)]) rfl ?_
      refine zx_icmp_ge (tgt := 82) dX7_analyse_10 (by decide) (fun h10 => absurd h10 (by omega)) (fun h10 => ?_)
      refine zx_aload_n (i := 0) dX7_analyse_13 rfl rfl ?_
      refine zx_getfield dX7_analyse_14 zf_X7_18 hpg1 rfl ?_
      refine zx_iload_n (i := 2) dX7_analyse_17 rfl rfl ?_
      refine zx_iv (b := R1.1.2.1) (As := [zI (q : Int)]) (st := []) (v := (some (zR y))) (w1 := w1) dX7_analyse_18 zc_X7_28 hms1 (z_cls12 (by decide)) rfl rfl (Nat.le_of_ble_eq_true rfl) rfl (c_list_get hms1 (by decide) (by omega) (by rw [Int.toNat_natCast]; exact hyq)) ?_
      refine zx_st (st1 := [zR y]) rfl ?_
      refine zx_castR dX7_analyse_21 hy1 rfl zl_X7_51 ?_
      refine zx_astore_n (i := 3) dX7_analyse_24 rfl (by decide) rfl ?_
      refine zx_L (L1 := [some (zR pg), some (zR t), some (zI (q : Int)), some (zR y)]) rfl ?_
      refine zx_pc (pc1 := 25) rfl ?_
      refine zx_aload_n (i := 3) dX7_analyse_25 rfl rfl ?_
      refine zx_aload_n (i := 0) dX7_analyse_26 rfl rfl ?_
      refine zx_aload_n (i := 3) dX7_analyse_27 rfl rfl ?_
      refine zx_iv (b := pg) (As := [zR y]) (st := [zR y]) (v := (some (zI (zB (P.1 = true))))) (w1 := P.2.1) dX7_analyse_28 zc_X7_77 hpg1 rfl rfl rfl (Nat.le_of_ble_eq_true rfl) rfl (by rw [hPd]; exact c_X7_putInOrder (d := d) hP1 hym hmr hpr1 hm2 rfl hgl1 hlen1) ?_
      refine zx_st (st1 := [zI (zB (P.1 = true)), zR y]) rfl ?_
      refine zx_if_ne (tgt := 38) dX7_analyse_31 (by decide) (fun h31 => ?_) (fun h31 => absurd (by rw [zB_t hp]; decide) h31)
      refine zx_iconst (v := 0) dX7_analyse_38 rfl (z32_lit (by decide) (by decide)) ?_
      obtain ⟨w_1, hw_2⟩ : ∃ ww, ww = zput P.2.1 y (5, 0, [zR pr, zI (m : Int), zI ins, zI pm, zI 0, zI gd, zI cf, zI cr, zI sw]) := ⟨_, rfl⟩
      refine zx_put (w1 := w_1) dX7_analyse_39 zf_X7_81 hy2 (Nat.le_of_ble_eq_true rfl) (zFt_bool (by first | exact Or.inl rfl | exact Or.inr rfl | exact zB_or | assumption)) (fun h => by cases h) hw_2.symm ?_
      have h_3 : w_1.1 y = some (5, 0, [zR pr, zI (m : Int), zI ins, zI pm, zI 0, zI gd, zI cf, zI cr, zI sw]) := by rw [hw_2]; exact zput_at
      refine zx_aload_n (i := 3) dX7_analyse_42 rfl rfl ?_
      refine zx_aload_n (i := 3) dX7_analyse_43 rfl rfl ?_
      refine zx_getfield dX7_analyse_44 zf_X7_81 h_3 rfl ?_
      refine zx_if_ne (tgt := 54) dX7_analyse_47 (by decide) (fun h47 => absurd h47 (by decide)) (fun h47 => ?_)
      refine zx_iconst (v := 1) dX7_analyse_50 rfl (z32_lit (by decide) (by decide)) ?_
      refine zx_pc (pc1 := 51) rfl ?_
      refine zx_goto (tgt := 55) dX7_analyse_51 (by decide) ?_
      obtain ⟨w_4, hw_5⟩ : ∃ ww, ww = zput w_1 y (5, 0, [zR pr, zI (m : Int), zI ins, zI pm, zI 0, zI 1, zI cf, zI cr, zI sw]) := ⟨_, rfl⟩
      refine zx_put (w1 := w_4) dX7_analyse_55 zf_X7_70 h_3 (Nat.le_of_ble_eq_true rfl) (zFt_bool (by first | exact Or.inl rfl | exact Or.inr rfl | exact zB_or | assumption)) (fun h => by cases h) hw_5.symm ?_
      have h_6 : w_4.1 y = some (5, 0, [zR pr, zI (m : Int), zI ins, zI pm, zI 0, zI 1, zI cf, zI cr, zI sw]) := by rw [hw_5]; exact zput_at
      refine zx_aload_n (i := 3) dX7_analyse_58 rfl rfl ?_
      refine zx_iconst (v := 0) dX7_analyse_59 rfl (z32_lit (by decide) (by decide)) ?_
      obtain ⟨w_7, hw_8⟩ : ∃ ww, ww = zput w_4 y (5, 0, [zR pr, zI (m : Int), zI ins, zI pm, zI 0, zI 1, zI 0, zI cr, zI sw]) := ⟨_, rfl⟩
      refine zx_put (w1 := w_7) dX7_analyse_60 zf_X7_84 h_6 (Nat.le_of_ble_eq_true rfl) (zFt_bool (by first | exact Or.inl rfl | exact Or.inr rfl | exact zB_or | assumption)) (fun h => by cases h) hw_8.symm ?_
      have h_9 : w_7.1 y = some (5, 0, [zR pr, zI (m : Int), zI ins, zI pm, zI 0, zI 1, zI 0, zI cr, zI sw]) := by rw [hw_8]; exact zput_at
      refine zx_aload_n (i := 3) dX7_analyse_63 rfl rfl ?_
      refine zx_iconst (v := 0) dX7_analyse_64 rfl (z32_lit (by decide) (by decide)) ?_
      obtain ⟨w_10, hw_11⟩ : ∃ ww, ww = zput w_7 y (5, 0, [zR pr, zI (m : Int), zI ins, zI pm, zI 0, zI 1, zI 0, zI 0, zI sw]) := ⟨_, rfl⟩
      refine zx_put (w1 := w_10) dX7_analyse_65 zf_X7_74 h_9 (Nat.le_of_ble_eq_true rfl) (zFt_bool (by first | exact Or.inl rfl | exact Or.inr rfl | exact zB_or | assumption)) (fun h => by cases h) hw_11.symm ?_
      have h_12 : w_10.1 y = some (5, 0, [zR pr, zI (m : Int), zI ins, zI pm, zI 0, zI 1, zI 0, zI 0, zI sw]) := by rw [hw_11]; exact zput_at
      refine zx_aload_n (i := 3) dX7_analyse_68 rfl rfl ?_
      refine zx_aload_n (i := 3) dX7_analyse_69 rfl rfl ?_
      have e4 : w_10 = zput P.2.1 y (5, 0, moF (pr, (m : Int), ins, pm, 0, 1, 0, 0, sw)) := by rw [hw_11, hw_8, hw_5, hw_2]; simp only [zput_put]
      have hP4 := pgW_moPut (r := (pr, (m : Int), ins, pm, 0, 1, 0, 0, sw)) hP2 hym2
      rw [← e4] at hP4
      have hmr4 : (pgSetM P.2.2 y (pr, (m : Int), ins, pm, 0, 1, 0, 0, sw)).2.2.2.2.1 y = (pr, (m : Int), ins, pm, 0, 1, 0, 0, sw) := if_pos rfl
      have hfs := c_X7_findSwitch (G := G) (d := d + 4) hP4 (pgO_setM hO2) hym2 hmr4 (show pr ∈ P.2.2.2.2.1.1 by rw [b3]; exact hpr1) (CL := (R1.2.2.2.1 pr).2.2.2.2) (show (P.2.2.2.2.2.1 pr).2.2.2.2 = _ by rw [b4]) hlen1
      refine zx_is (As := [zR y]) (st := [zR y]) (v := (some (zI (fsS (pgSetM P.2.2 y (pr, (m : Int), ins, pm, 0, 1, 0, 0, sw)) ins (m : Int) (R1.2.2.2.1 pr).2.2.2.2 (-1) 0)))) (w1 := w_10) dX7_analyse_70 zc_X7_87 rfl (Nat.le_of_ble_eq_true rfl) rfl hfs ?_
      refine zx_st (st1 := [zI (fsS (pgSetM P.2.2 y (pr, (m : Int), ins, pm, 0, 1, 0, 0, sw)) ins (m : Int) (R1.2.2.2.1 pr).2.2.2.2 (-1) 0), zR y]) rfl ?_
      obtain ⟨w_13, hw_14⟩ : ∃ ww, ww = zput w_10 y (5, 0, [zR pr, zI (m : Int), zI ins, zI pm, zI 0, zI 1, zI 0, zI 0, zI (fsS (pgSetM P.2.2 y (pr, (m : Int), ins, pm, 0, 1, 0, 0, sw)) ins (m : Int) (R1.2.2.2.1 pr).2.2.2.2 (-1) 0)]) := ⟨_, rfl⟩
      refine zx_put (w1 := w_13) dX7_analyse_73 zf_X7_91 h_12 (Nat.le_of_ble_eq_true rfl) (zFt_int _) (fun h => by cases h) hw_14.symm ?_
      have h_15 : w_13.1 y = some (5, 0, [zR pr, zI (m : Int), zI ins, zI pm, zI 0, zI 1, zI 0, zI 0, zI (fsS (pgSetM P.2.2 y (pr, (m : Int), ins, pm, 0, 1, 0, 0, sw)) ins (m : Int) (R1.2.2.2.1 pr).2.2.2.2 (-1) 0)]) := by rw [hw_14]; exact zput_at
      refine zx_pc (pc1 := 76) rfl ?_
      refine zx_iinc (i := 2) (v := ((q + 1 : Nat) : Int)) dX7_analyse_76 rfl (zw_eq (by omega) (by omega) (by omega)) (by decide) rfl ?_
      refine zx_L (L1 := [some (zR pg), some (zR t), some (zI ((q + 1 : Nat) : Int)), some (zR y)]) rfl ?_
      refine zx_goto (tgt := 2) dX7_analyse_79 (by decide) ?_
      have hst : an1 (y :: Ms.drop (q + 1)) w1 R1 = an1 (Ms.drop (q + 1)) (zput P.2.1 y (5, 0, moF (pr, (m : Int), ins, pm, 0, 1, 0, 0, (fsS (pgSetM P.2.2 y (pr, (m : Int), ins, pm, 0, 1, 0, 0, sw)) ins (m : Int) (R1.2.2.2.1 pr).2.2.2.2 (-1) 0)))) (pgSetM P.2.2 y (pr, (m : Int), ins, pm, 0, 1, 0, 0, (fsS (pgSetM P.2.2 y (pr, (m : Int), ins, pm, 0, 1, 0, 0, sw)) ins (m : Int) (R1.2.2.2.1 pr).2.2.2.2 (-1) 0))) := by
        rw [an1_c, hmr, show anP w1 R1 (pr, (m : Int), ins, pm, lo, gd, cf, cr, sw) = P from hPd.symm]
        unfold anS anM
        rw [if_pos hp]
        rfl
      rw [hst] at kk
      rw [hw_14, hw_11, hw_8, hw_5, hw_2]
      simp only [zput_put]
      exact ih (q + 1) _ (zput P.2.1 y (5, 0, moF (pr, (m : Int), ins, pm, 0, 1, 0, 0, (fsS (pgSetM P.2.2 y (pr, (m : Int), ins, pm, 0, 1, 0, 0, sw)) ins (m : Int) (R1.2.2.2.1 pr).2.2.2.2 (-1) 0)))) (pgSetM P.2.2 y (pr, (m : Int), ins, pm, 0, 1, 0, 0, (fsS (pgSetM P.2.2 y (pr, (m : Int), ins, pm, 0, 1, 0, 0, sw)) ins (m : Int) (R1.2.2.2.1 pr).2.2.2.2 (-1) 0))) (by omega) (pgW_moPut hP2 hym2) (pgO_setM hO2) (pgN_set hN2 (by rw [b5, hmr]) (by rw [b5, hmr])) (pgL_setM hL2) (by show P.2.2.2.2.1.2.1 = Ms; rw [b3]; exact hMs) kk
    · refine zx_iload_n (i := 2) dX7_analyse_2 rfl rfl ?_
      refine zx_aload_n (i := 0) dX7_analyse_3 rfl rfl ?_
      refine zx_getfield dX7_analyse_4 zf_X7_18 hpg1 rfl ?_
      refine zx_iv (b := R1.1.2.1) (As := []) (st := [zI (q : Int)]) (v := (some (zI (Ms.length : Int)))) (w1 := w1) dX7_analyse_7 zc_X7_24 hms1 (z_cls12 (by decide)) rfl rfl (Nat.le_of_ble_eq_true rfl) rfl (c_list_size hms1 (by decide)) ?_
      refine zx_st (st1 := [zI (Ms.length : Int), zI (q : Int)]) rfl ?_
      refine zx_icmp_ge (tgt := 82) dX7_analyse_10 (by decide) (fun h10 => absurd h10 (by omega)) (fun h10 => ?_)
      refine zx_aload_n (i := 0) dX7_analyse_13 rfl rfl ?_
      refine zx_getfield dX7_analyse_14 zf_X7_18 hpg1 rfl ?_
      refine zx_iload_n (i := 2) dX7_analyse_17 rfl rfl ?_
      refine zx_iv (b := R1.1.2.1) (As := [zI (q : Int)]) (st := []) (v := (some (zR y))) (w1 := w1) dX7_analyse_18 zc_X7_28 hms1 (z_cls12 (by decide)) rfl rfl (Nat.le_of_ble_eq_true rfl) rfl (c_list_get hms1 (by decide) (by omega) (by rw [Int.toNat_natCast]; exact hyq)) ?_
      refine zx_st (st1 := [zR y]) rfl ?_
      refine zx_castR dX7_analyse_21 hy1 rfl zl_X7_51 ?_
      refine zx_astore_n (i := 3) dX7_analyse_24 rfl (by decide) rfl ?_
      refine zx_L (L1 := [some (zR pg), some (zR t), some (zI (q : Int)), some (zR y)]) rfl ?_
      refine zx_pc (pc1 := 25) rfl ?_
      refine zx_aload_n (i := 3) dX7_analyse_25 rfl rfl ?_
      refine zx_aload_n (i := 0) dX7_analyse_26 rfl rfl ?_
      refine zx_aload_n (i := 3) dX7_analyse_27 rfl rfl ?_
      refine zx_iv (b := pg) (As := [zR y]) (st := [zR y]) (v := (some (zI (zB (P.1 = true))))) (w1 := P.2.1) dX7_analyse_28 zc_X7_77 hpg1 rfl rfl rfl (Nat.le_of_ble_eq_true rfl) rfl (by rw [hPd]; exact c_X7_putInOrder (d := d) hP1 hym hmr hpr1 hm2 rfl hgl1 hlen1) ?_
      refine zx_st (st1 := [zI (zB (P.1 = true)), zR y]) rfl ?_
      refine zx_if_ne (tgt := 38) dX7_analyse_31 (by decide) (fun h31 => absurd h31 (not_not_intro (zB_f hp))) (fun h31 => ?_)
      refine zx_iconst (v := 1) dX7_analyse_34 rfl (z32_lit (by decide) (by decide)) ?_
      refine zx_goto (tgt := 39) dX7_analyse_35 (by decide) ?_
      obtain ⟨w_1, hw_2⟩ : ∃ ww, ww = zput P.2.1 y (5, 0, [zR pr, zI (m : Int), zI ins, zI pm, zI 1, zI gd, zI cf, zI cr, zI sw]) := ⟨_, rfl⟩
      refine zx_put (w1 := w_1) dX7_analyse_39 zf_X7_81 hy2 (Nat.le_of_ble_eq_true rfl) (zFt_bool (by first | exact Or.inl rfl | exact Or.inr rfl | exact zB_or | assumption)) (fun h => by cases h) hw_2.symm ?_
      have h_3 : w_1.1 y = some (5, 0, [zR pr, zI (m : Int), zI ins, zI pm, zI 1, zI gd, zI cf, zI cr, zI sw]) := by rw [hw_2]; exact zput_at
      refine zx_aload_n (i := 3) dX7_analyse_42 rfl rfl ?_
      refine zx_aload_n (i := 3) dX7_analyse_43 rfl rfl ?_
      refine zx_getfield dX7_analyse_44 zf_X7_81 h_3 rfl ?_
      refine zx_if_ne (tgt := 54) dX7_analyse_47 (by decide) (fun h47 => ?_) (fun h47 => absurd (by decide) h47)
      refine zx_pc (pc1 := 54) rfl ?_
      refine zx_iconst (v := 0) dX7_analyse_54 rfl (z32_lit (by decide) (by decide)) ?_
      obtain ⟨w_4, hw_5⟩ : ∃ ww, ww = zput w_1 y (5, 0, [zR pr, zI (m : Int), zI ins, zI pm, zI 1, zI 0, zI cf, zI cr, zI sw]) := ⟨_, rfl⟩
      refine zx_put (w1 := w_4) dX7_analyse_55 zf_X7_70 h_3 (Nat.le_of_ble_eq_true rfl) (zFt_bool (by first | exact Or.inl rfl | exact Or.inr rfl | exact zB_or | assumption)) (fun h => by cases h) hw_5.symm ?_
      have h_6 : w_4.1 y = some (5, 0, [zR pr, zI (m : Int), zI ins, zI pm, zI 1, zI 0, zI cf, zI cr, zI sw]) := by rw [hw_5]; exact zput_at
      refine zx_aload_n (i := 3) dX7_analyse_58 rfl rfl ?_
      refine zx_iconst (v := 0) dX7_analyse_59 rfl (z32_lit (by decide) (by decide)) ?_
      obtain ⟨w_7, hw_8⟩ : ∃ ww, ww = zput w_4 y (5, 0, [zR pr, zI (m : Int), zI ins, zI pm, zI 1, zI 0, zI 0, zI cr, zI sw]) := ⟨_, rfl⟩
      refine zx_put (w1 := w_7) dX7_analyse_60 zf_X7_84 h_6 (Nat.le_of_ble_eq_true rfl) (zFt_bool (by first | exact Or.inl rfl | exact Or.inr rfl | exact zB_or | assumption)) (fun h => by cases h) hw_8.symm ?_
      have h_9 : w_7.1 y = some (5, 0, [zR pr, zI (m : Int), zI ins, zI pm, zI 1, zI 0, zI 0, zI cr, zI sw]) := by rw [hw_8]; exact zput_at
      refine zx_aload_n (i := 3) dX7_analyse_63 rfl rfl ?_
      refine zx_iconst (v := 0) dX7_analyse_64 rfl (z32_lit (by decide) (by decide)) ?_
      obtain ⟨w_10, hw_11⟩ : ∃ ww, ww = zput w_7 y (5, 0, [zR pr, zI (m : Int), zI ins, zI pm, zI 1, zI 0, zI 0, zI 0, zI sw]) := ⟨_, rfl⟩
      refine zx_put (w1 := w_10) dX7_analyse_65 zf_X7_74 h_9 (Nat.le_of_ble_eq_true rfl) (zFt_bool (by first | exact Or.inl rfl | exact Or.inr rfl | exact zB_or | assumption)) (fun h => by cases h) hw_11.symm ?_
      have h_12 : w_10.1 y = some (5, 0, [zR pr, zI (m : Int), zI ins, zI pm, zI 1, zI 0, zI 0, zI 0, zI sw]) := by rw [hw_11]; exact zput_at
      refine zx_aload_n (i := 3) dX7_analyse_68 rfl rfl ?_
      refine zx_aload_n (i := 3) dX7_analyse_69 rfl rfl ?_
      have e4 : w_10 = zput P.2.1 y (5, 0, moF (pr, (m : Int), ins, pm, 1, 0, 0, 0, sw)) := by rw [hw_11, hw_8, hw_5, hw_2]; simp only [zput_put]
      have hP4 := pgW_moPut (r := (pr, (m : Int), ins, pm, 1, 0, 0, 0, sw)) hP2 hym2
      rw [← e4] at hP4
      have hmr4 : (pgSetM P.2.2 y (pr, (m : Int), ins, pm, 1, 0, 0, 0, sw)).2.2.2.2.1 y = (pr, (m : Int), ins, pm, 1, 0, 0, 0, sw) := if_pos rfl
      have hfs := c_X7_findSwitch (G := G) (d := d + 4) hP4 (pgO_setM hO2) hym2 hmr4 (show pr ∈ P.2.2.2.2.1.1 by rw [b3]; exact hpr1) (CL := (R1.2.2.2.1 pr).2.2.2.2) (show (P.2.2.2.2.2.1 pr).2.2.2.2 = _ by rw [b4]) hlen1
      refine zx_is (As := [zR y]) (st := [zR y]) (v := (some (zI (fsS (pgSetM P.2.2 y (pr, (m : Int), ins, pm, 1, 0, 0, 0, sw)) ins (m : Int) (R1.2.2.2.1 pr).2.2.2.2 (-1) 0)))) (w1 := w_10) dX7_analyse_70 zc_X7_87 rfl (Nat.le_of_ble_eq_true rfl) rfl hfs ?_
      refine zx_st (st1 := [zI (fsS (pgSetM P.2.2 y (pr, (m : Int), ins, pm, 1, 0, 0, 0, sw)) ins (m : Int) (R1.2.2.2.1 pr).2.2.2.2 (-1) 0), zR y]) rfl ?_
      obtain ⟨w_13, hw_14⟩ : ∃ ww, ww = zput w_10 y (5, 0, [zR pr, zI (m : Int), zI ins, zI pm, zI 1, zI 0, zI 0, zI 0, zI (fsS (pgSetM P.2.2 y (pr, (m : Int), ins, pm, 1, 0, 0, 0, sw)) ins (m : Int) (R1.2.2.2.1 pr).2.2.2.2 (-1) 0)]) := ⟨_, rfl⟩
      refine zx_put (w1 := w_13) dX7_analyse_73 zf_X7_91 h_12 (Nat.le_of_ble_eq_true rfl) (zFt_int _) (fun h => by cases h) hw_14.symm ?_
      have h_15 : w_13.1 y = some (5, 0, [zR pr, zI (m : Int), zI ins, zI pm, zI 1, zI 0, zI 0, zI 0, zI (fsS (pgSetM P.2.2 y (pr, (m : Int), ins, pm, 1, 0, 0, 0, sw)) ins (m : Int) (R1.2.2.2.1 pr).2.2.2.2 (-1) 0)]) := by rw [hw_14]; exact zput_at
      refine zx_pc (pc1 := 76) rfl ?_
      refine zx_iinc (i := 2) (v := ((q + 1 : Nat) : Int)) dX7_analyse_76 rfl (zw_eq (by omega) (by omega) (by omega)) (by decide) rfl ?_
      refine zx_L (L1 := [some (zR pg), some (zR t), some (zI ((q + 1 : Nat) : Int)), some (zR y)]) rfl ?_
      refine zx_goto (tgt := 2) dX7_analyse_79 (by decide) ?_
      have hst : an1 (y :: Ms.drop (q + 1)) w1 R1 = an1 (Ms.drop (q + 1)) (zput P.2.1 y (5, 0, moF (pr, (m : Int), ins, pm, 1, 0, 0, 0, (fsS (pgSetM P.2.2 y (pr, (m : Int), ins, pm, 1, 0, 0, 0, sw)) ins (m : Int) (R1.2.2.2.1 pr).2.2.2.2 (-1) 0)))) (pgSetM P.2.2 y (pr, (m : Int), ins, pm, 1, 0, 0, 0, (fsS (pgSetM P.2.2 y (pr, (m : Int), ins, pm, 1, 0, 0, 0, sw)) ins (m : Int) (R1.2.2.2.1 pr).2.2.2.2 (-1) 0))) := by
        rw [an1_c, hmr, show anP w1 R1 (pr, (m : Int), ins, pm, lo, gd, cf, cr, sw) = P from hPd.symm]
        unfold anS anM
        rw [if_neg hp]
        rfl
      rw [hst] at kk
      rw [hw_14, hw_11, hw_8, hw_5, hw_2]
      simp only [zput_put]
      exact ih (q + 1) _ (zput P.2.1 y (5, 0, moF (pr, (m : Int), ins, pm, 1, 0, 0, 0, (fsS (pgSetM P.2.2 y (pr, (m : Int), ins, pm, 1, 0, 0, 0, sw)) ins (m : Int) (R1.2.2.2.1 pr).2.2.2.2 (-1) 0)))) (pgSetM P.2.2 y (pr, (m : Int), ins, pm, 1, 0, 0, 0, (fsS (pgSetM P.2.2 y (pr, (m : Int), ins, pm, 1, 0, 0, 0, sw)) ins (m : Int) (R1.2.2.2.1 pr).2.2.2.2 (-1) 0))) (by omega) (pgW_moPut hP2 hym2) (pgO_setM hO2) (pgN_set hN2 (by rw [b5, hmr]) (by rw [b5, hmr])) (pgL_setM hL2) (by show P.2.2.2.2.1.2.1 = Ms; rw [b3]; exact hMs) kk
end CAN1
