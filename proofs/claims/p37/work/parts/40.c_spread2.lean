/-! Own rows: spreadFound. Walked by program (wip/p37/m_spread2.py). -/
theorem tmW_fr {w : zW} {y t tc tn th tz : Nat} {x : zO} {fs : List zV} {ty : Int} {C N H : List (List Int)} {S : List Int} (h : tmW w t tc tn th tz ty C N H S) (hy : w.1 y = some (5, 0, fs)) : tmW (zput w y x) t tc tn th tz ty C N H S := by
  obtain ⟨h0, ⟨hc, okC⟩, ⟨hn, okN⟩, ⟨hh, okH⟩, hz, hS⟩ := h
  exact ⟨zput_tg hy h0 (by simp), ⟨zput_tg hy hc (by simp), okC⟩, ⟨zput_tg hy hn (by simp), okN⟩, ⟨zput_tg hy hh (by simp), okH⟩, zput_tg hy hz (by simp), hS⟩
def cmfI (R : pgR) (C : List (List Int)) (pr : Nat) (sw m : Int) : Int := if sw ≠ -1 then zB (0 < ((R.2.2.2.1 pr).2.2.2.2.filter (cfC R sw m)).length ∨ ¬ tcN C (tg (R.2.2.2.1 pr).2.1 sw 0) C.length = ((R.2.2.2.1 pr).2.2.2.2.length : Int)) else zB (((R.2.2.2.1 pr).2.2.2.2.filter (cfC R sw m)).length = (R.2.2.2.1 pr).2.2.2.2.length)
def cmrI (R : pgR) (pr : Nat) (sw m : Int) : Int := zB ((sw = -1 ∧ 1 < (R.2.2.2.1 pr).2.2.2.2.length) ∨ (R.2.2.2.1 pr).2.2.2.2.any (crC R m) = true)
def ffV (gd c v : Int) : Int := if ¬ gd = 0 ∧ (¬ c = 0 ∨ ¬ v = 0) then 1 else 0
def setFr (r : moR) (f v : Int) : moR := (r.1, r.2.1, r.2.2.1, r.2.2.2.1, r.2.2.2.2.1, r.2.2.2.2.2.1, f, v, r.2.2.2.2.2.2.2.2)
def frR (R : pgR) (C : List (List Int)) (r : moR) : moR := setFr r (ffV r.2.2.2.2.2.1 r.2.2.2.2.2.2.1 (cmfI R C r.1 r.2.2.2.2.2.2.2.2 r.2.1)) (ffV r.2.2.2.2.2.1 r.2.2.2.2.2.2.2.1 (cmrI R r.1 r.2.2.2.2.2.2.2.2 r.2.1))
def spG (C : List (List Int)) : List Nat → Bool → zW → pgR → Bool × zW × pgR
  | [], b, w, R => (b, w, R)
  | y :: l, b, w, R => spG C l (b || decide ((frR R C (R.2.2.2.2.1 y)).2.2.2.2.2.2.1 ≠ (R.2.2.2.2.1 y).2.2.2.2.2.2.1 ∨ (frR R C (R.2.2.2.2.1 y)).2.2.2.2.2.2.2.1 ≠ (R.2.2.2.2.1 y).2.2.2.2.2.2.2.1)) (zput w y (5, 0, moF (frR R C (R.2.2.2.2.1 y)))) (pgSetM R y (frR R C (R.2.2.2.2.1 y)))
theorem spG_c {C : List (List Int)} {y : Nat} {l : List Nat} {b : Bool} {w : zW} {R : pgR} : spG C (y :: l) b w R = spG C l (b || decide ((frR R C (R.2.2.2.2.1 y)).2.2.2.2.2.2.1 ≠ (R.2.2.2.2.1 y).2.2.2.2.2.2.1 ∨ (frR R C (R.2.2.2.2.1 y)).2.2.2.2.2.2.2.1 ≠ (R.2.2.2.2.1 y).2.2.2.2.2.2.2.1)) (zput w y (5, 0, moF (frR R C (R.2.2.2.2.1 y)))) (pgSetM R y (frR R C (R.2.2.2.2.1 y))) := rfl
section CSPREAD2
variable {G : zG} {d : Nat} {w : zW} {pg : Nat} {R : pgR}
theorem c_X7_spreadFound {Ms : List Nat} (hP : pgW w pg R) (hO : pgO R) (hN : pgN R) (hMs0 : R.2.2.1.2.1 = Ms) (hlen : Ms.length < 1000) {t tc tn th tz : Nat} {ty : Int} {C N H : List (List Int)} {S : List Int} (hT : tmW w t tc tn th tz ty C N H S) (hC10 : C.length < 1000) : zM G zm_X7_spreadFound (d + 7) [zR pg, zR t] w (zRet (some (zI (zB ((spG C Ms false w R).1 = true)))) (spG C Ms false w R).2.1) := by
  refine zx_ent (by decide +kernel) rfl (Nat.le_of_ble_eq_true rfl) ?_
  have loop : ∀ (n q : Nat) (b : Bool) (o4 o5 o6 : Option zV) (w1 : zW) (R1 : pgR), q + n = Ms.length → pgW w1 pg R1 → pgO R1 → pgN R1 → R1.2.2.1.2.1 = Ms → tmW w1 t tc tn th tz ty C N H S → zX G zm_X7_spreadFound (d + 7) [zR pg, zR t] w (zRet (some (zI (zB ((spG C (Ms.drop q) b w1 R1).1 = true)))) (spG C (Ms.drop q) b w1 R1).2.1) 4 [some (zR pg), some (zR t), some (zI (zB (b = true))), some (zI (q : Int)), o4, o5, o6] [] w1 := by
    intro n
    induction n with
    | zero =>
      intro q b o4 o5 o6 w1 R1 hq hP1 hO1 hN1 hMs hT1
      obtain ⟨hpg1, -, hms1, -⟩ := id hP1
      rw [hMs] at hms1
      rw [List.drop_eq_nil_of_le (by omega)]
      refine zx_iload_n (i := 3) dX7_spreadFound_4 rfl rfl ?_
      refine zx_aload_n (i := 0) dX7_spreadFound_5 rfl rfl ?_
      refine zx_getfield dX7_spreadFound_6 zf_X7_18 hpg1 rfl ?_
      refine zx_iv (b := R1.1.2.1) (As := []) (st := [zI (q : Int)]) (v := (some (zI (Ms.length : Int)))) (w1 := w1) dX7_spreadFound_9 zc_X7_24 hms1 (z_cls12 (by decide)) rfl rfl (Nat.le_of_ble_eq_true rfl) rfl (c_list_size hms1 (by decide)) ?_
      refine zx_st (st1 := [zI (Ms.length : Int), zI (q : Int)]) rfl ?_
      refine zx_icmp_ge (tgt := 133) dX7_spreadFound_12 (by decide) (fun h12 => ?_) (fun h12 => absurd (by omega) h12)
      refine zx_iload_n (i := 2) dX7_spreadFound_133 rfl rfl ?_
      refine zx_zret dX7_spreadFound_134 rfl (by first | exact Or.inl rfl | exact Or.inr rfl | exact zB_or | assumption) ?_
      exact zr_v rfl rfl
    | succ n ih =>
      intro q b o4 o5 o6 w1 R1 hq hP1 hO1 hN1 hMs hT1
      obtain ⟨hpg1, -, hms1, -, hPr1, hMo1, -⟩ := id hP1
      rw [hMs] at hms1
      obtain ⟨y, hyq⟩ : ∃ y, Ms[q]? = some y := ⟨_, List.getElem?_eq_getElem (by omega)⟩
      have hym : y ∈ R1.2.2.1.2.1 := by rw [hMs]; exact List.mem_of_getElem? hyq
      have hy1 := hMo1 y hym
      unfold moW at hy1
      obtain ⟨hpr1, hnu, hlen1⟩ := hN1 y hym
      rw [drop_cons hyq]
      rcases hmr : R1.2.2.2.2.1 y with ⟨pr, nu, ins, pm, lo, gd, cf, cr, sw⟩
      rw [hmr] at hy1 hpr1 hnu hlen1
      simp only at hpr1 hnu hlen1
      obtain ⟨m, rfl⟩ : ∃ m : Nat, nu = m := ⟨nu.toNat, by omega⟩
      replace hy1 : w1.1 y = some (5, 0, [zR pr, zI (m : Int), zI ins, zI pm, zI lo, zI gd, zI cf, zI cr, zI sw]) := hy1
      obtain ⟨v1, hv1⟩ : ∃ v, v = cmfI R1 C pr sw (m : Int) := ⟨_, rfl⟩
      obtain ⟨v2, hv2⟩ : ∃ v, v = cmrI R1 pr sw (m : Int) := ⟨_, rfl⟩
      obtain ⟨ff, hff⟩ : ∃ v, v = ffV gd cf v1 := ⟨_, rfl⟩
      obtain ⟨rr, hrr⟩ : ∃ v, v = ffV gd cr v2 := ⟨_, rfl⟩
      have hf01 : ff = 0 ∨ ff = 1 := by rw [hff]; unfold ffV; split <;> simp
      have hr01 : rr = 0 ∨ rr = 1 := by rw [hrr]; unfold ffV; split <;> simp
      have hst : spG C (y :: Ms.drop (q + 1)) b w1 R1 = spG C (Ms.drop (q + 1)) (b || decide (ff ≠ cf ∨ rr ≠ cr)) (zput w1 y (5, 0, moF (pr, (m : Int), ins, pm, lo, gd, ff, rr, sw))) (pgSetM R1 y (pr, (m : Int), ins, pm, lo, gd, ff, rr, sw)) := by
        rw [spG_c, hmr, hff, hrr, hv1, hv2]
        rfl
      refine zx_iload_n (i := 3) dX7_spreadFound_4 rfl rfl ?_
      refine zx_aload_n (i := 0) dX7_spreadFound_5 rfl rfl ?_
      refine zx_getfield dX7_spreadFound_6 zf_X7_18 hpg1 rfl ?_
      refine zx_iv (b := R1.1.2.1) (As := []) (st := [zI (q : Int)]) (v := (some (zI (Ms.length : Int)))) (w1 := w1) dX7_spreadFound_9 zc_X7_24 hms1 (z_cls12 (by decide)) rfl rfl (Nat.le_of_ble_eq_true rfl) rfl (c_list_size hms1 (by decide)) ?_
      refine zx_st (st1 := [zI (Ms.length : Int), zI (q : Int)]) rfl ?_
      refine zx_icmp_ge (tgt := 133) dX7_spreadFound_12 (by decide) (fun h12 => absurd h12 (by omega)) (fun h12 => ?_)
      refine zx_aload_n (i := 0) dX7_spreadFound_15 rfl rfl ?_
      refine zx_getfield dX7_spreadFound_16 zf_X7_18 hpg1 rfl ?_
      refine zx_iload_n (i := 3) dX7_spreadFound_19 rfl rfl ?_
      refine zx_iv (b := R1.1.2.1) (As := [zI (q : Int)]) (st := []) (v := (some (zR y))) (w1 := w1) dX7_spreadFound_20 zc_X7_28 hms1 (z_cls12 (by decide)) rfl rfl (Nat.le_of_ble_eq_true rfl) rfl (c_list_get hms1 (by decide) (by omega) (by rw [Int.toNat_natCast]; exact hyq)) ?_
      refine zx_st (st1 := [zR y]) rfl ?_
      refine zx_castR dX7_spreadFound_23 hy1 rfl zl_X7_51 ?_
      refine zx_astore (i := 4) dX7_spreadFound_26 (by decide) rfl ?_
      refine zx_L (L1 := [some (zR pg), some (zR t), some (zI (zB (b = true))), some (zI (q : Int)), some (zR y), o5, o6]) rfl ?_
      refine zx_pc (pc1 := 28) rfl ?_
      refine zx_aload (i := 4) dX7_spreadFound_28 rfl ?_
      refine zx_getfield dX7_spreadFound_30 zf_X7_70 hy1 rfl ?_
      refine zx_joinI (pcj := 58) (c := ¬ gd = 0 ∧ (¬ cf = 0 ∨ ¬ v1 = 0)) (x := 1) (y := 0) (stj := []) ?_ (fun J1 J2 => ?_)
      · rw [show (if ¬ gd = 0 ∧ (¬ cf = 0 ∨ ¬ v1 = 0) then (1 : Int) else 0) = ff from hff.symm]
        refine zx_istore (i := 5) dX7_spreadFound_58 (by decide) rfl ?_
        refine zx_L (L1 := [some (zR pg), some (zR t), some (zI (zB (b = true))), some (zI (q : Int)), some (zR y), some (zI ff), o6]) rfl ?_
        refine zx_aload (i := 4) dX7_spreadFound_60 rfl ?_
        refine zx_getfield dX7_spreadFound_62 zf_X7_70 hy1 rfl ?_
        refine zx_joinI (pcj := 89) (c := ¬ gd = 0 ∧ (¬ cr = 0 ∨ ¬ v2 = 0)) (x := 1) (y := 0) (stj := []) ?_ (fun J1 J2 => ?_)
        · rw [show (if ¬ gd = 0 ∧ (¬ cr = 0 ∨ ¬ v2 = 0) then (1 : Int) else 0) = rr from hrr.symm]
          refine zx_istore (i := 6) dX7_spreadFound_89 (by decide) rfl ?_
          refine zx_L (L1 := [some (zR pg), some (zR t), some (zI (zB (b = true))), some (zI (q : Int)), some (zR y), some (zI ff), some (zI rr)]) rfl ?_
          refine zx_iload (i := 5) dX7_spreadFound_91 rfl ?_
          refine zx_aload (i := 4) dX7_spreadFound_93 rfl ?_
          refine zx_getfield dX7_spreadFound_95 zf_X7_84 hy1 rfl ?_
          refine zx_icmp_ne (tgt := 111) dX7_spreadFound_98 (by decide) (fun h98 => ?_) (fun h98 => ?_)
          · refine zx_pc (pc1 := 111) rfl ?_
            refine zx_iconst (v := 1) dX7_spreadFound_111 rfl (z32_lit (by decide) (by decide)) ?_
            refine zx_istore_n (i := 2) dX7_spreadFound_112 rfl (by decide) rfl ?_
            refine zx_L (L1 := [some (zR pg), some (zR t), some (zI 1), some (zI (q : Int)), some (zR y), some (zI ff), some (zI rr)]) rfl ?_
            refine zx_aload (i := 4) dX7_spreadFound_113 rfl ?_
            refine zx_iload (i := 5) dX7_spreadFound_115 rfl ?_
            obtain ⟨w_1, hw_2⟩ : ∃ ww, ww = zput w1 y (5, 0, [zR pr, zI (m : Int), zI ins, zI pm, zI lo, zI gd, zI ff, zI cr, zI sw]) := ⟨_, rfl⟩
            refine zx_put (w1 := w_1) dX7_spreadFound_117 zf_X7_84 hy1 (Nat.le_of_ble_eq_true rfl) (zFt_bool (by first | exact Or.inl rfl | exact Or.inr rfl | exact zB_or | assumption)) (fun h => by cases h) hw_2.symm ?_
            have h_3 : w_1.1 y = some (5, 0, [zR pr, zI (m : Int), zI ins, zI pm, zI lo, zI gd, zI ff, zI cr, zI sw]) := by rw [hw_2]; exact zput_at
            refine zx_aload (i := 4) dX7_spreadFound_120 rfl ?_
            refine zx_iload (i := 6) dX7_spreadFound_122 rfl ?_
            obtain ⟨w_4, hw_5⟩ : ∃ ww, ww = zput w_1 y (5, 0, [zR pr, zI (m : Int), zI ins, zI pm, zI lo, zI gd, zI ff, zI rr, zI sw]) := ⟨_, rfl⟩
            refine zx_put (w1 := w_4) dX7_spreadFound_124 zf_X7_74 h_3 (Nat.le_of_ble_eq_true rfl) (zFt_bool (by first | exact Or.inl rfl | exact Or.inr rfl | exact zB_or | assumption)) (fun h => by cases h) hw_5.symm ?_
            have h_6 : w_4.1 y = some (5, 0, [zR pr, zI (m : Int), zI ins, zI pm, zI lo, zI gd, zI ff, zI rr, zI sw]) := by rw [hw_5]; exact zput_at
            refine zx_iinc (i := 3) (v := ((q + 1 : Nat) : Int)) dX7_spreadFound_127 rfl (zw_eq (by omega) (by omega) (by omega)) (by decide) rfl ?_
            refine zx_L (L1 := [some (zR pg), some (zR t), some (zI 1), some (zI ((q + 1 : Nat) : Int)), some (zR y), some (zI ff), some (zI rr)]) rfl ?_
            refine zx_goto (tgt := 4) dX7_spreadFound_130 (by decide) ?_
            have eb : (b || decide (ff ≠ cf ∨ rr ≠ cr)) = true := by simp; omega
            rw [hst, eb, show zI 1 = zI (zB (true = true)) from rfl, hw_5, hw_2]
            rw [zput_put]
            exact ih (q + 1) _ _ _ _ (zput w1 y (5, 0, moF (pr, (m : Int), ins, pm, lo, gd, ff, rr, sw))) (pgSetM R1 y (pr, (m : Int), ins, pm, lo, gd, ff, rr, sw)) (by omega) (pgW_moPut hP1 hym) hO1 (pgN_set hN1 (by rw [hmr]) (by rw [hmr])) hMs (tmW_fr hT1 hy1)
          · refine zx_pc (pc1 := 101) rfl ?_
            refine zx_iload (i := 6) dX7_spreadFound_101 rfl ?_
            refine zx_aload (i := 4) dX7_spreadFound_103 rfl ?_
            refine zx_getfield dX7_spreadFound_105 zf_X7_74 hy1 rfl ?_
            refine zx_icmp_eq (tgt := 113) dX7_spreadFound_108 (by decide) (fun h108 => ?_) (fun h108 => ?_)
            · refine zx_aload (i := 4) dX7_spreadFound_113 rfl ?_
              refine zx_iload (i := 5) dX7_spreadFound_115 rfl ?_
              obtain ⟨w_7, hw_8⟩ : ∃ ww, ww = zput w1 y (5, 0, [zR pr, zI (m : Int), zI ins, zI pm, zI lo, zI gd, zI ff, zI cr, zI sw]) := ⟨_, rfl⟩
              refine zx_put (w1 := w_7) dX7_spreadFound_117 zf_X7_84 hy1 (Nat.le_of_ble_eq_true rfl) (zFt_bool (by first | exact Or.inl rfl | exact Or.inr rfl | exact zB_or | assumption)) (fun h => by cases h) hw_8.symm ?_
              have h_9 : w_7.1 y = some (5, 0, [zR pr, zI (m : Int), zI ins, zI pm, zI lo, zI gd, zI ff, zI cr, zI sw]) := by rw [hw_8]; exact zput_at
              refine zx_aload (i := 4) dX7_spreadFound_120 rfl ?_
              refine zx_iload (i := 6) dX7_spreadFound_122 rfl ?_
              obtain ⟨w_10, hw_11⟩ : ∃ ww, ww = zput w_7 y (5, 0, [zR pr, zI (m : Int), zI ins, zI pm, zI lo, zI gd, zI ff, zI rr, zI sw]) := ⟨_, rfl⟩
              refine zx_put (w1 := w_10) dX7_spreadFound_124 zf_X7_74 h_9 (Nat.le_of_ble_eq_true rfl) (zFt_bool (by first | exact Or.inl rfl | exact Or.inr rfl | exact zB_or | assumption)) (fun h => by cases h) hw_11.symm ?_
              have h_12 : w_10.1 y = some (5, 0, [zR pr, zI (m : Int), zI ins, zI pm, zI lo, zI gd, zI ff, zI rr, zI sw]) := by rw [hw_11]; exact zput_at
              refine zx_iinc (i := 3) (v := ((q + 1 : Nat) : Int)) dX7_spreadFound_127 rfl (zw_eq (by omega) (by omega) (by omega)) (by decide) rfl ?_
              refine zx_L (L1 := [some (zR pg), some (zR t), some (zI (zB (b = true))), some (zI ((q + 1 : Nat) : Int)), some (zR y), some (zI ff), some (zI rr)]) rfl ?_
              refine zx_goto (tgt := 4) dX7_spreadFound_130 (by decide) ?_
              have eb : (b || decide (ff ≠ cf ∨ rr ≠ cr)) = b := by
                rw [decide_eq_false (by omega), Bool.or_false]
              rw [hst, eb, hw_11, hw_8]
              rw [zput_put]
              exact ih (q + 1) _ _ _ _ (zput w1 y (5, 0, moF (pr, (m : Int), ins, pm, lo, gd, ff, rr, sw))) (pgSetM R1 y (pr, (m : Int), ins, pm, lo, gd, ff, rr, sw)) (by omega) (pgW_moPut hP1 hym) hO1 (pgN_set hN1 (by rw [hmr]) (by rw [hmr])) hMs (tmW_fr hT1 hy1)
            · refine zx_iconst (v := 1) dX7_spreadFound_111 rfl (z32_lit (by decide) (by decide)) ?_
              refine zx_istore_n (i := 2) dX7_spreadFound_112 rfl (by decide) rfl ?_
              refine zx_L (L1 := [some (zR pg), some (zR t), some (zI 1), some (zI (q : Int)), some (zR y), some (zI ff), some (zI rr)]) rfl ?_
              refine zx_aload (i := 4) dX7_spreadFound_113 rfl ?_
              refine zx_iload (i := 5) dX7_spreadFound_115 rfl ?_
              obtain ⟨w_13, hw_14⟩ : ∃ ww, ww = zput w1 y (5, 0, [zR pr, zI (m : Int), zI ins, zI pm, zI lo, zI gd, zI ff, zI cr, zI sw]) := ⟨_, rfl⟩
              refine zx_put (w1 := w_13) dX7_spreadFound_117 zf_X7_84 hy1 (Nat.le_of_ble_eq_true rfl) (zFt_bool (by first | exact Or.inl rfl | exact Or.inr rfl | exact zB_or | assumption)) (fun h => by cases h) hw_14.symm ?_
              have h_15 : w_13.1 y = some (5, 0, [zR pr, zI (m : Int), zI ins, zI pm, zI lo, zI gd, zI ff, zI cr, zI sw]) := by rw [hw_14]; exact zput_at
              refine zx_aload (i := 4) dX7_spreadFound_120 rfl ?_
              refine zx_iload (i := 6) dX7_spreadFound_122 rfl ?_
              obtain ⟨w_16, hw_17⟩ : ∃ ww, ww = zput w_13 y (5, 0, [zR pr, zI (m : Int), zI ins, zI pm, zI lo, zI gd, zI ff, zI rr, zI sw]) := ⟨_, rfl⟩
              refine zx_put (w1 := w_16) dX7_spreadFound_124 zf_X7_74 h_15 (Nat.le_of_ble_eq_true rfl) (zFt_bool (by first | exact Or.inl rfl | exact Or.inr rfl | exact zB_or | assumption)) (fun h => by cases h) hw_17.symm ?_
              have h_18 : w_16.1 y = some (5, 0, [zR pr, zI (m : Int), zI ins, zI pm, zI lo, zI gd, zI ff, zI rr, zI sw]) := by rw [hw_17]; exact zput_at
              refine zx_pc (pc1 := 127) rfl ?_
              refine zx_iinc (i := 3) (v := ((q + 1 : Nat) : Int)) dX7_spreadFound_127 rfl (zw_eq (by omega) (by omega) (by omega)) (by decide) rfl ?_
              refine zx_L (L1 := [some (zR pg), some (zR t), some (zI 1), some (zI ((q + 1 : Nat) : Int)), some (zR y), some (zI ff), some (zI rr)]) rfl ?_
              refine zx_goto (tgt := 4) dX7_spreadFound_130 (by decide) ?_
              have eb : (b || decide (ff ≠ cf ∨ rr ≠ cr)) = true := by simp; omega
              rw [hst, eb, show zI 1 = zI (zB (true = true)) from rfl, hw_17, hw_14]
              rw [zput_put]
              exact ih (q + 1) _ _ _ _ (zput w1 y (5, 0, moF (pr, (m : Int), ins, pm, lo, gd, ff, rr, sw))) (pgSetM R1 y (pr, (m : Int), ins, pm, lo, gd, ff, rr, sw)) (by omega) (pgW_moPut hP1 hym) hO1 (pgN_set hN1 (by rw [hmr]) (by rw [hmr])) hMs (tmW_fr hT1 hy1)
        · refine zx_if_eq (tgt := 88) dX7_spreadFound_65 (by decide) (fun h65 => ?_) (fun h65 => ?_)
          · refine zx_iconst (v := 0) dX7_spreadFound_88 rfl (z32_lit (by decide) (by decide)) ?_
            exact J2 (by omega)
          · refine zx_aload (i := 4) dX7_spreadFound_68 rfl ?_
            refine zx_getfield dX7_spreadFound_70 zf_X7_74 hy1 rfl ?_
            refine zx_if_ne (tgt := 84) dX7_spreadFound_73 (by decide) (fun h73 => ?_) (fun h73 => ?_)
            · refine zx_iconst (v := 1) dX7_spreadFound_84 rfl (z32_lit (by decide) (by decide)) ?_
              refine zx_goto (tgt := 89) dX7_spreadFound_85 (by decide) ?_
              exact J1 (by omega)
            · refine zx_aload (i := 4) dX7_spreadFound_76 rfl ?_
              refine zx_is (As := [zR y]) (st := []) (v := (some (zI v2))) (w1 := w1) dX7_spreadFound_78 zc_X7_199 rfl (Nat.le_of_ble_eq_true rfl) rfl (by rw [hv2]; exact c_X7_canModeRepeat (G := G) (d := d) hP1 hO1 hym hmr hpr1 rfl hlen1) ?_
              refine zx_st (st1 := [zI v2]) rfl ?_
              refine zx_if_eq (tgt := 88) dX7_spreadFound_81 (by decide) (fun h81 => ?_) (fun h81 => ?_)
              · refine zx_iconst (v := 0) dX7_spreadFound_88 rfl (z32_lit (by decide) (by decide)) ?_
                exact J2 (by omega)
              · refine zx_iconst (v := 1) dX7_spreadFound_84 rfl (z32_lit (by decide) (by decide)) ?_
                refine zx_goto (tgt := 89) dX7_spreadFound_85 (by decide) ?_
                exact J1 (by omega)
      · refine zx_if_eq (tgt := 57) dX7_spreadFound_33 (by decide) (fun h33 => ?_) (fun h33 => ?_)
        · refine zx_iconst (v := 0) dX7_spreadFound_57 rfl (z32_lit (by decide) (by decide)) ?_
          exact J2 (by omega)
        · refine zx_aload (i := 4) dX7_spreadFound_36 rfl ?_
          refine zx_getfield dX7_spreadFound_38 zf_X7_84 hy1 rfl ?_
          refine zx_if_ne (tgt := 53) dX7_spreadFound_41 (by decide) (fun h41 => ?_) (fun h41 => ?_)
          · refine zx_iconst (v := 1) dX7_spreadFound_53 rfl (z32_lit (by decide) (by decide)) ?_
            refine zx_goto (tgt := 58) dX7_spreadFound_54 (by decide) ?_
            exact J1 (by omega)
          · refine zx_aload (i := 4) dX7_spreadFound_44 rfl ?_
            refine zx_aload_n (i := 1) dX7_spreadFound_46 rfl rfl ?_
            refine zx_is (As := [zR y, zR t]) (st := []) (v := (some (zI v1))) (w1 := w1) dX7_spreadFound_47 zc_X7_195 rfl (Nat.le_of_ble_eq_true rfl) rfl (by rw [hv1]; exact c_X7_canModeFail (G := G) (d := d) hP1 hO1 hym hmr hpr1 rfl hlen1 hT1 hC10) ?_
            refine zx_st (st1 := [zI v1]) rfl ?_
            refine zx_if_eq (tgt := 57) dX7_spreadFound_50 (by decide) (fun h50 => ?_) (fun h50 => ?_)
            · refine zx_iconst (v := 0) dX7_spreadFound_57 rfl (z32_lit (by decide) (by decide)) ?_
              exact J2 (by omega)
            · refine zx_iconst (v := 1) dX7_spreadFound_53 rfl (z32_lit (by decide) (by decide)) ?_
              refine zx_goto (tgt := 58) dX7_spreadFound_54 (by decide) ?_
              exact J1 (by omega)
  have h0 := loop Ms.length 0 false none none none w R (by omega) hP hO hN hMs0 hT
  rw [List.drop_zero] at h0
  refine zx_L (L1 := [some (zR pg), some (zR t), none, none, none, none, none]) rfl ?_
  refine zx_iconst (v := 0) dX7_spreadFound_0 rfl (z32_lit (by decide) (by decide)) ?_
  refine zx_istore_n (i := 2) dX7_spreadFound_1 rfl (by decide) rfl ?_
  refine zx_L (L1 := [some (zR pg), some (zR t), some (zI 0), none, none, none, none]) rfl ?_
  refine zx_iconst (v := 0) dX7_spreadFound_2 rfl (z32_lit (by decide) (by decide)) ?_
  refine zx_istore_n (i := 3) dX7_spreadFound_3 rfl (by decide) rfl ?_
  refine zx_L (L1 := [some (zR pg), some (zR t), some (zI 0), some (zI 0), none, none, none]) rfl ?_
  exact h0
end CSPREAD2
