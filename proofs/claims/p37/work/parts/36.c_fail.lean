/-! Own rows: canGoalFail, canClauseFail. Walked by program (wip/p37/m_fail.py). -/
def cgF (R : pgR) (gr : goR) (ch : Option Nat) (kn : Int) : Bool :=
  if gr.1 = 0 then decide (bt1 kn (zVa gr.2.2.2.2 0))
  else if gr.1 = 1 then decide (bt1 kn (zVa gr.2.2.2.2 0) ∧ bt1 kn (zVa gr.2.2.2.2 1))
  else if gr.1 = 2 then (match ch with | none => false | some x => decide ((R.2.2.2.2.1 x).2.2.2.2.2.2.1 ≠ 0 ∨ clG gr.2.2.2.2 (fun q => decide (isIn (R.2.2.2.2.1 x).2.2.1 (q : Int))) (gr.2.2.1 - 0).toNat 0 kn = true))
  else true
/-- what can fail at a place of an order -/
def cfE (R : pgR) (r : clR) (sw m : Int) (q : Nat) : Bool := match odA r m (q : Int) with
  | none => false
  | some g => if q = 0 ∧ sw ≠ -1 then clG (R.2.2.2.2.2.2 g).2.2.2.2 (fun _ => false) ((R.2.2.2.2.2.2 g).2.2.1 - 1).toNat 1 (knA r m (q : Int)) else cgF R (R.2.2.2.2.2.2 g) (chA r m (q : Int)) (knA r m (q : Int))
def cfP (R : pgR) (r : clR) (sw m : Int) : Nat → Nat → Bool
  | 0, _ => false
  | n + 1, q => cfE R r sw m q || cfP R r sw m n (q + 1)
theorem cfP_s {R : pgR} {r : clR} {sw m : Int} {n q : Nat} : cfP R r sw m (n + 1) q = (cfE R r sw m q || cfP R r sw m n (q + 1)) := rfl
def cfC (R : pgR) (sw m : Int) (c : Nat) : Bool := cfP R (R.2.2.2.2.2.1 c) sw m (cln (R.2.2.2.2.2.1 c).2.2.2.2.1.1 m).toNat 0
theorem cfE_n {R : pgR} {r : clR} {sw m : Int} {q : Nat} (h : odA r m (q : Int) = none) : cfE R r sw m q = false := by unfold cfE; rw [h]
theorem cfE_w {R : pgR} {r : clR} {sw m : Int} {q g : Nat} (h : odA r m (q : Int) = some g) (h1 : q = 0 ∧ sw ≠ -1) : cfE R r sw m q = clG (R.2.2.2.2.2.2 g).2.2.2.2 (fun _ => false) ((R.2.2.2.2.2.2 g).2.2.1 - 1).toNat 1 (knA r m (q : Int)) := by unfold cfE; rw [h]; exact if_pos h1
theorem cfE_g {R : pgR} {r : clR} {sw m : Int} {q g : Nat} (h : odA r m (q : Int) = some g) (h1 : ¬ (q = 0 ∧ sw ≠ -1)) : cfE R r sw m q = cgF R (R.2.2.2.2.2.2 g) (chA r m (q : Int)) (knA r m (q : Int)) := by unfold cfE; rw [h]; exact if_neg h1
section CFAIL
variable {G : zG} {d : Nat} {w : zW} {pg : Nat} {R : pgR}
theorem c_X7_canGoalFail2n {g va og ov : Nat} {su gn : Int} {xs : List Int} (hg : w.1 g = some (3, og, [zI 2, zI su, zI gn, zR va])) (hv : w.1 va = some (100, ov, xs.map Sum.inl)) (hx : xs.length < 100) (hgn : 0 ≤ gn ∧ gn ≤ 3) (kn : Int) : zM G zm_X7_canGoalFail (d + 2) [zR g, zN, zI kn] w (zRet (some (zI 0)) w) := by
  refine zx_ent (by decide +kernel) rfl (Nat.le_of_ble_eq_true rfl) ?_
  refine zx_L (L1 := [some (zR g), some zN, some (zI kn), none]) rfl ?_
  refine zx_iload_n (i := 2) dX7_canGoalFail_0 rfl rfl ?_
  refine zx_aload_n (i := 0) dX7_canGoalFail_1 rfl rfl ?_
  refine zx_iconst (v := 0) dX7_canGoalFail_2 rfl (z32_lit (by decide) (by decide)) ?_
  refine zx_iv (b := g) (As := [zI 0]) (st := [zI kn]) (v := (some (zI (zVa xs 0)))) (w1 := w) dX7_canGoalFail_3 zc_X7_156 hg rfl rfl rfl (Nat.le_of_ble_eq_true rfl) rfl (c_X3_variableAt hg hv hx 0) ?_
  refine zx_st (st1 := [zI (zVa xs 0), zI kn]) rfl ?_
  refine zx_ishr (v := zshr kn (zVa xs 0)) dX7_canGoalFail_6 rfl ?_
  refine zx_iconst (v := 1) dX7_canGoalFail_7 rfl (z32_lit (by decide) (by decide)) ?_
  refine zx_iand (v := zand (zshr kn (zVa xs 0)) 1) dX7_canGoalFail_8 rfl ?_
  refine zx_iconst (v := 1) dX7_canGoalFail_9 rfl (z32_lit (by decide) (by decide)) ?_
  refine zx_icmp_ne (tgt := 17) dX7_canGoalFail_10 (by decide) (fun h10 => ?_) (fun h10 => ?_)
  · refine zx_iconst (v := 0) dX7_canGoalFail_17 rfl (z32_lit (by decide) (by decide)) ?_
    refine zx_istore_n (i := 3) dX7_canGoalFail_18 rfl (by decide) rfl ?_
    refine zx_L (L1 := [some (zR g), some (zN), some (zI kn), some (zI 0)]) rfl ?_
    refine zx_pc (pc1 := 19) rfl ?_
    refine zx_aload_n (i := 0) dX7_canGoalFail_19 rfl rfl ?_
    refine zx_getfield dX7_canGoalFail_20 zf_X7_159 hg rfl ?_
    refine zx_tableIn (off := 50) (tgt := 73) dX7_canGoalFail_23 (by decide) (by decide) rfl (by decide) ?_
    refine zx_aload_n (i := 1) dX7_canGoalFail_73 rfl rfl ?_
    refine zx_ifnull (tgt := 97) dX7_canGoalFail_74 (by decide) (fun _ => ?_) (fun h => absurd rfl h)
    refine zx_iconst (v := 0) dX7_canGoalFail_97 rfl (z32_lit (by decide) (by decide)) ?_
    refine zx_zret dX7_canGoalFail_98 rfl (by first | exact Or.inl rfl | exact Or.inr rfl | exact zB_or | assumption) ?_
    exact zr_i rfl
  · refine zx_iconst (v := 1) dX7_canGoalFail_13 rfl (z32_lit (by decide) (by decide)) ?_
    refine zx_goto (tgt := 18) dX7_canGoalFail_14 (by decide) ?_
    refine zx_pc (pc1 := 18) rfl ?_
    refine zx_istore_n (i := 3) dX7_canGoalFail_18 rfl (by decide) rfl ?_
    refine zx_L (L1 := [some (zR g), some (zN), some (zI kn), some (zI 1)]) rfl ?_
    refine zx_aload_n (i := 0) dX7_canGoalFail_19 rfl rfl ?_
    refine zx_getfield dX7_canGoalFail_20 zf_X7_159 hg rfl ?_
    refine zx_tableIn (off := 50) (tgt := 73) dX7_canGoalFail_23 (by decide) (by decide) rfl (by decide) ?_
    refine zx_aload_n (i := 1) dX7_canGoalFail_73 rfl rfl ?_
    refine zx_ifnull (tgt := 97) dX7_canGoalFail_74 (by decide) (fun _ => ?_) (fun h => absurd rfl h)
    refine zx_iconst (v := 0) dX7_canGoalFail_97 rfl (z32_lit (by decide) (by decide)) ?_
    refine zx_zret dX7_canGoalFail_98 rfl (by first | exact Or.inl rfl | exact Or.inr rfl | exact zB_or | assumption) ?_
    exact zr_i rfl
theorem c_X7_canGoalFail {g : Nat} {gr : goR} (hG : goW w g gr) {ch : Option Nat} (hch : ∀ x, ch = some x → moW w x (R.2.2.2.2.1 x)) (kn : Int) : zM G zm_X7_canGoalFail (d + 3) [zR g, zP ch, zI kn] w (zRet (some (zI (zB (cgF R gr ch kn = true)))) w) := by
  obtain ⟨k, su, n, va, xs⟩ := gr
  obtain ⟨hg, hv, hx, hgn, hgk⟩ := hG
  simp only at hg hv hx hgn hgk
  obtain rfl | rfl | rfl | rfl : k = 0 ∨ k = 1 ∨ k = 2 ∨ k = 3 := by omega
  · refine zRet_eq (c_X7_canGoalFail0 (d := d + 1) hg hv hx hgn ch kn) ?_
    rw [show cgF R (0, su, n, va, xs) ch kn = decide (bt1 kn (zVa xs 0)) from rfl]
    simp only [decide_eq_true_eq]
  · refine zRet_eq (c_X7_canGoalFail1 (d := d + 1) hg hv hx hgn ch kn) ?_
    rw [show cgF R (1, su, n, va, xs) ch kn = decide (bt1 kn (zVa xs 0) ∧ bt1 kn (zVa xs 1)) from rfl]
    simp only [decide_eq_true_eq]
  · cases ch with
    | none =>
      refine zRet_eq (c_X7_canGoalFail2n (d := d + 1) hg hv hx hgn kn) ?_
      rw [show cgF R (2, su, n, va, xs) none kn = false from rfl, zB_f (by simp)]
    | some x =>
      have hm := hch x rfl
      refine zRet_eq (c_X7_canGoalFail2 (d := d) hg hv hx hgn hm kn) ?_
      rw [show cgF R (2, su, n, va, xs) (some x) kn = decide ((R.2.2.2.2.1 x).2.2.2.2.2.2.1 ≠ 0 ∨ clG xs (fun q => decide (isIn (R.2.2.2.2.1 x).2.2.1 (q : Int))) (n - 0).toNat 0 kn = true) from rfl]
      simp only [decide_eq_true_eq]
  · refine zRet_eq (c_X7_canGoalFail3 (d := d + 1) hg hv hx hgn ch kn) ?_
    rw [show cgF R (3, su, n, va, xs) ch kn = true from rfl, zB_t rfl]
theorem c_X7_canClauseFail (hP : pgW w pg R) (hO : pgO R) {md pr m c : Nat} {ins pm lo gd cf cr sw : Int} (hm : md ∈ R.2.2.1.2.1) (hmr : R.2.2.2.2.1 md = (pr, (m : Int), ins, pm, lo, gd, cf, cr, sw)) (hcs : c ∈ R.2.2.1.2.2) : zM G zm_X7_canClauseFail (d + 5) [zR c, zR md] w (zRet (some (zI (zB (cfC R sw (m : Int) c = true)))) w) := by
  refine zx_ent (by decide +kernel) rfl (Nat.le_of_ble_eq_true rfl) ?_
  obtain ⟨-, -, -, -, hPr, hMo, hCl⟩ := id hP
  have hmd := hMo md hm
  unfold moW at hmd
  rw [hmr] at hmd
  obtain ⟨hC, hgo⟩ := hCl c hcs
  obtain ⟨hO1, hO2, hO3⟩ := hO c hcs
  have hpl := cln_le (m := (m : Int)) hO3
  have loop : ∀ (n q : Nat) (o4 o5 o6 o7 : Option zV), ((cln (R.2.2.2.2.2.1 c).2.2.2.2.1.1 (m : Int)) - (q : Int)).toNat = n → zX G zm_X7_canClauseFail (d + 5) [zR c, zR md] w (zRet (some (zI (zB (cfP R (R.2.2.2.2.2.1 c) sw (m : Int) n q = true)))) w) 19 [some (zR c), some (zR md), some (zI (cln (R.2.2.2.2.2.1 c).2.2.2.2.1.1 (m : Int))), some (zI (q : Int)), o4, o5, o6, o7] [] w := by
    intro n
    induction n with
    | zero =>
      intro q o4 o5 o6 o7 hq
      refine zx_iload_n (i := 3) dX7_canClauseFail_19 rfl rfl ?_
      refine zx_iload_n (i := 2) dX7_canClauseFail_20 rfl rfl ?_
      refine zx_icmp_ge (tgt := 120) dX7_canClauseFail_21 (by decide) (fun h21 => ?_) (fun h21 => absurd (by omega) h21)
      refine zx_iconst (v := 0) dX7_canClauseFail_120 rfl (z32_lit (by decide) (by decide)) ?_
      refine zx_zret dX7_canClauseFail_121 rfl (by first | exact Or.inl rfl | exact Or.inr rfl | exact zB_or | assumption) ?_
      exact zr_f (by simp [cfP])
    | succ n ih =>
      intro q o4 o5 o6 o7 hq
      rw [cfP_s]
      have hch2 : ∀ x, chA (R.2.2.2.2.2.1 c) (m : Int) (q : Int) = some x → moW w x (R.2.2.2.2.1 x) := fun x hx => hMo x (hO2 x (chA_mem hx))
      cases hod : odA (R.2.2.2.2.2.1 c) (m : Int) (q : Int) with
      | none =>
        rw [cfE_n hod, Bool.false_or]
        by_cases hq0 : q = 0
        · by_cases hsw : sw = -1
          · refine zx_iload_n (i := 3) dX7_canClauseFail_19 rfl rfl ?_
            refine zx_iload_n (i := 2) dX7_canClauseFail_20 rfl rfl ?_
            refine zx_icmp_ge (tgt := 120) dX7_canClauseFail_21 (by decide) (fun h21 => absurd h21 (by omega)) (fun h21 => ?_)
            refine zx_aload_n (i := 0) dX7_canClauseFail_24 rfl rfl ?_
            refine zx_aload_n (i := 1) dX7_canClauseFail_25 rfl rfl ?_
            refine zx_getfield dX7_canClauseFail_26 zf_X7_57 hmd rfl ?_
            refine zx_iload_n (i := 3) dX7_canClauseFail_29 rfl rfl ?_
            refine zx_iv (b := c) (As := [zI (m : Int), zI (q : Int)]) (st := []) (v := (some (zN))) (w1 := w) dX7_canClauseFail_30 zc_X7_181 hC.1 rfl rfl rfl (Nat.le_of_ble_eq_true rfl) rfl (by have h := c_X1_goalIn (G := G) (d := d + 3) hC (m : Int) (q : Int); rw [show (if 0 ≤ csl (R.2.2.2.2.2.1 c).2.2.2.2.1.1 (m : Int) (q : Int) then (R.2.2.2.2.2.1 c).2.2.2.2.2.1.getD (csl (R.2.2.2.2.2.1 c).2.2.2.2.1.1 (m : Int) (q : Int)).toNat none else none) = _ from hod] at h; exact h) ?_
            refine zx_st (st1 := [zN]) rfl ?_
            refine zx_astore (i := 4) dX7_canClauseFail_33 (by decide) rfl ?_
            refine zx_L (L1 := [some (zR c), some (zR md), some (zI (cln (R.2.2.2.2.2.1 c).2.2.2.2.1.1 (m : Int))), some (zI (q : Int)), some (zN), o5, o6, o7]) rfl ?_
            refine zx_aload_n (i := 0) dX7_canClauseFail_35 rfl rfl ?_
            refine zx_aload_n (i := 1) dX7_canClauseFail_36 rfl rfl ?_
            refine zx_pc (pc1 := 37) rfl ?_
            refine zx_getfield dX7_canClauseFail_37 zf_X7_57 hmd rfl ?_
            refine zx_iload_n (i := 3) dX7_canClauseFail_40 rfl rfl ?_
            refine zx_iv (b := c) (As := [zI (m : Int), zI (q : Int)]) (st := []) (v := (some (zI (knA (R.2.2.2.2.2.1 c) (m : Int) (q : Int))))) (w1 := w) dX7_canClauseFail_41 zc_X7_222 hC.1 rfl rfl rfl (Nat.le_of_ble_eq_true rfl) rfl (c_X1_knownIn (G := G) (d := d + 3) hC (m : Int) (q : Int)) ?_
            refine zx_st (st1 := [zI (knA (R.2.2.2.2.2.1 c) (m : Int) (q : Int))]) rfl ?_
            refine zx_istore (i := 5) dX7_canClauseFail_44 (by decide) rfl ?_
            refine zx_L (L1 := [some (zR c), some (zR md), some (zI (cln (R.2.2.2.2.2.1 c).2.2.2.2.1.1 (m : Int))), some (zI (q : Int)), some (zN), some (zI (knA (R.2.2.2.2.2.1 c) (m : Int) (q : Int))), o6, o7]) rfl ?_
            refine zx_aload_n (i := 0) dX7_canClauseFail_46 rfl rfl ?_
            refine zx_aload_n (i := 1) dX7_canClauseFail_47 rfl rfl ?_
            refine zx_getfield dX7_canClauseFail_48 zf_X7_57 hmd rfl ?_
            refine zx_iload_n (i := 3) dX7_canClauseFail_51 rfl rfl ?_
            refine zx_iv (b := c) (As := [zI (m : Int), zI (q : Int)]) (st := []) (v := (some (zP (chA (R.2.2.2.2.2.1 c) (m : Int) (q : Int))))) (w1 := w) dX7_canClauseFail_52 zc_X7_191 hC.1 rfl rfl rfl (Nat.le_of_ble_eq_true rfl) rfl (c_X1_chosenIn (G := G) (d := d + 3) hC (m : Int) (q : Int)) ?_
            refine zx_st (st1 := [zP (chA (R.2.2.2.2.2.1 c) (m : Int) (q : Int))]) rfl ?_
            refine zx_astore (i := 6) dX7_canClauseFail_55 (by decide) rfl ?_
            refine zx_L (L1 := [some (zR c), some (zR md), some (zI (cln (R.2.2.2.2.2.1 c).2.2.2.2.1.1 (m : Int))), some (zI (q : Int)), some (zN), some (zI (knA (R.2.2.2.2.2.1 c) (m : Int) (q : Int))), some (zP (chA (R.2.2.2.2.2.1 c) (m : Int) (q : Int))), o7]) rfl ?_
            refine zx_iload_n (i := 3) dX7_canClauseFail_57 rfl rfl ?_
            refine zx_if_ne (tgt := 73) dX7_canClauseFail_58 (by decide) (fun h58 => absurd h58 (by omega)) (fun h58 => ?_)
            refine zx_pc (pc1 := 61) rfl ?_
            refine zx_aload_n (i := 1) dX7_canClauseFail_61 rfl rfl ?_
            refine zx_getfield dX7_canClauseFail_62 zf_X7_91 hmd rfl ?_
            refine zx_iconst (v := -1) dX7_canClauseFail_65 rfl (z32_lit (by decide) (by decide)) ?_
            refine zx_icmp_eq (tgt := 73) dX7_canClauseFail_66 (by decide) (fun h66 => ?_) (fun h66 => absurd (hsw) h66)
            refine zx_iconst (v := 0) dX7_canClauseFail_73 rfl (z32_lit (by decide) (by decide)) ?_
            refine zx_istore (i := 7) dX7_canClauseFail_74 (by decide) rfl ?_
            refine zx_L (L1 := [some (zR c), some (zR md), some (zI (cln (R.2.2.2.2.2.1 c).2.2.2.2.1.1 (m : Int))), some (zI (q : Int)), some (zN), some (zI (knA (R.2.2.2.2.2.1 c) (m : Int) (q : Int))), some (zP (chA (R.2.2.2.2.2.1 c) (m : Int) (q : Int))), some (zI 0)]) rfl ?_
            refine zx_aload (i := 4) dX7_canClauseFail_76 rfl ?_
            refine zx_ifnull (tgt := 114) dX7_canClauseFail_78 (by decide) (fun _ => ?_) (fun h => absurd rfl h)
            refine zx_iinc (i := 3) (v := ((q + 1 : Nat) : Int)) dX7_canClauseFail_114 rfl (zw_eq (by omega) (by omega) (by omega)) (by decide) rfl ?_
            refine zx_L (L1 := [some (zR c), some (zR md), some (zI (cln (R.2.2.2.2.2.1 c).2.2.2.2.1.1 (m : Int))), some (zI ((q + 1 : Nat) : Int)), some (zN), some (zI (knA (R.2.2.2.2.2.1 c) (m : Int) (q : Int))), some (zP (chA (R.2.2.2.2.2.1 c) (m : Int) (q : Int))), some (zI 0)]) rfl ?_
            refine zx_goto (tgt := 19) dX7_canClauseFail_117 (by decide) ?_
            exact ih (q + 1) _ _ _ _ (by omega)
          · refine zx_iload_n (i := 3) dX7_canClauseFail_19 rfl rfl ?_
            refine zx_iload_n (i := 2) dX7_canClauseFail_20 rfl rfl ?_
            refine zx_icmp_ge (tgt := 120) dX7_canClauseFail_21 (by decide) (fun h21 => absurd h21 (by omega)) (fun h21 => ?_)
            refine zx_aload_n (i := 0) dX7_canClauseFail_24 rfl rfl ?_
            refine zx_aload_n (i := 1) dX7_canClauseFail_25 rfl rfl ?_
            refine zx_getfield dX7_canClauseFail_26 zf_X7_57 hmd rfl ?_
            refine zx_iload_n (i := 3) dX7_canClauseFail_29 rfl rfl ?_
            refine zx_iv (b := c) (As := [zI (m : Int), zI (q : Int)]) (st := []) (v := (some (zN))) (w1 := w) dX7_canClauseFail_30 zc_X7_181 hC.1 rfl rfl rfl (Nat.le_of_ble_eq_true rfl) rfl (by have h := c_X1_goalIn (G := G) (d := d + 3) hC (m : Int) (q : Int); rw [show (if 0 ≤ csl (R.2.2.2.2.2.1 c).2.2.2.2.1.1 (m : Int) (q : Int) then (R.2.2.2.2.2.1 c).2.2.2.2.2.1.getD (csl (R.2.2.2.2.2.1 c).2.2.2.2.1.1 (m : Int) (q : Int)).toNat none else none) = _ from hod] at h; exact h) ?_
            refine zx_st (st1 := [zN]) rfl ?_
            refine zx_astore (i := 4) dX7_canClauseFail_33 (by decide) rfl ?_
            refine zx_L (L1 := [some (zR c), some (zR md), some (zI (cln (R.2.2.2.2.2.1 c).2.2.2.2.1.1 (m : Int))), some (zI (q : Int)), some (zN), o5, o6, o7]) rfl ?_
            refine zx_aload_n (i := 0) dX7_canClauseFail_35 rfl rfl ?_
            refine zx_aload_n (i := 1) dX7_canClauseFail_36 rfl rfl ?_
            refine zx_pc (pc1 := 37) rfl ?_
            refine zx_getfield dX7_canClauseFail_37 zf_X7_57 hmd rfl ?_
            refine zx_iload_n (i := 3) dX7_canClauseFail_40 rfl rfl ?_
            refine zx_iv (b := c) (As := [zI (m : Int), zI (q : Int)]) (st := []) (v := (some (zI (knA (R.2.2.2.2.2.1 c) (m : Int) (q : Int))))) (w1 := w) dX7_canClauseFail_41 zc_X7_222 hC.1 rfl rfl rfl (Nat.le_of_ble_eq_true rfl) rfl (c_X1_knownIn (G := G) (d := d + 3) hC (m : Int) (q : Int)) ?_
            refine zx_st (st1 := [zI (knA (R.2.2.2.2.2.1 c) (m : Int) (q : Int))]) rfl ?_
            refine zx_istore (i := 5) dX7_canClauseFail_44 (by decide) rfl ?_
            refine zx_L (L1 := [some (zR c), some (zR md), some (zI (cln (R.2.2.2.2.2.1 c).2.2.2.2.1.1 (m : Int))), some (zI (q : Int)), some (zN), some (zI (knA (R.2.2.2.2.2.1 c) (m : Int) (q : Int))), o6, o7]) rfl ?_
            refine zx_aload_n (i := 0) dX7_canClauseFail_46 rfl rfl ?_
            refine zx_aload_n (i := 1) dX7_canClauseFail_47 rfl rfl ?_
            refine zx_getfield dX7_canClauseFail_48 zf_X7_57 hmd rfl ?_
            refine zx_iload_n (i := 3) dX7_canClauseFail_51 rfl rfl ?_
            refine zx_iv (b := c) (As := [zI (m : Int), zI (q : Int)]) (st := []) (v := (some (zP (chA (R.2.2.2.2.2.1 c) (m : Int) (q : Int))))) (w1 := w) dX7_canClauseFail_52 zc_X7_191 hC.1 rfl rfl rfl (Nat.le_of_ble_eq_true rfl) rfl (c_X1_chosenIn (G := G) (d := d + 3) hC (m : Int) (q : Int)) ?_
            refine zx_st (st1 := [zP (chA (R.2.2.2.2.2.1 c) (m : Int) (q : Int))]) rfl ?_
            refine zx_astore (i := 6) dX7_canClauseFail_55 (by decide) rfl ?_
            refine zx_L (L1 := [some (zR c), some (zR md), some (zI (cln (R.2.2.2.2.2.1 c).2.2.2.2.1.1 (m : Int))), some (zI (q : Int)), some (zN), some (zI (knA (R.2.2.2.2.2.1 c) (m : Int) (q : Int))), some (zP (chA (R.2.2.2.2.2.1 c) (m : Int) (q : Int))), o7]) rfl ?_
            refine zx_iload_n (i := 3) dX7_canClauseFail_57 rfl rfl ?_
            refine zx_if_ne (tgt := 73) dX7_canClauseFail_58 (by decide) (fun h58 => absurd h58 (by omega)) (fun h58 => ?_)
            refine zx_pc (pc1 := 61) rfl ?_
            refine zx_aload_n (i := 1) dX7_canClauseFail_61 rfl rfl ?_
            refine zx_getfield dX7_canClauseFail_62 zf_X7_91 hmd rfl ?_
            refine zx_iconst (v := -1) dX7_canClauseFail_65 rfl (z32_lit (by decide) (by decide)) ?_
            refine zx_icmp_eq (tgt := 73) dX7_canClauseFail_66 (by decide) (fun h66 => absurd h66 (hsw)) (fun h66 => ?_)
            refine zx_iconst (v := 1) dX7_canClauseFail_69 rfl (z32_lit (by decide) (by decide)) ?_
            refine zx_goto (tgt := 74) dX7_canClauseFail_70 (by decide) ?_
            refine zx_istore (i := 7) dX7_canClauseFail_74 (by decide) rfl ?_
            refine zx_L (L1 := [some (zR c), some (zR md), some (zI (cln (R.2.2.2.2.2.1 c).2.2.2.2.1.1 (m : Int))), some (zI (q : Int)), some (zN), some (zI (knA (R.2.2.2.2.2.1 c) (m : Int) (q : Int))), some (zP (chA (R.2.2.2.2.2.1 c) (m : Int) (q : Int))), some (zI 1)]) rfl ?_
            refine zx_aload (i := 4) dX7_canClauseFail_76 rfl ?_
            refine zx_ifnull (tgt := 114) dX7_canClauseFail_78 (by decide) (fun _ => ?_) (fun h => absurd rfl h)
            refine zx_iinc (i := 3) (v := ((q + 1 : Nat) : Int)) dX7_canClauseFail_114 rfl (zw_eq (by omega) (by omega) (by omega)) (by decide) rfl ?_
            refine zx_L (L1 := [some (zR c), some (zR md), some (zI (cln (R.2.2.2.2.2.1 c).2.2.2.2.1.1 (m : Int))), some (zI ((q + 1 : Nat) : Int)), some (zN), some (zI (knA (R.2.2.2.2.2.1 c) (m : Int) (q : Int))), some (zP (chA (R.2.2.2.2.2.1 c) (m : Int) (q : Int))), some (zI 1)]) rfl ?_
            refine zx_goto (tgt := 19) dX7_canClauseFail_117 (by decide) ?_
            exact ih (q + 1) _ _ _ _ (by omega)
        · refine zx_iload_n (i := 3) dX7_canClauseFail_19 rfl rfl ?_
          refine zx_iload_n (i := 2) dX7_canClauseFail_20 rfl rfl ?_
          refine zx_icmp_ge (tgt := 120) dX7_canClauseFail_21 (by decide) (fun h21 => absurd h21 (by omega)) (fun h21 => ?_)
          refine zx_aload_n (i := 0) dX7_canClauseFail_24 rfl rfl ?_
          refine zx_aload_n (i := 1) dX7_canClauseFail_25 rfl rfl ?_
          refine zx_getfield dX7_canClauseFail_26 zf_X7_57 hmd rfl ?_
          refine zx_iload_n (i := 3) dX7_canClauseFail_29 rfl rfl ?_
          refine zx_iv (b := c) (As := [zI (m : Int), zI (q : Int)]) (st := []) (v := (some (zN))) (w1 := w) dX7_canClauseFail_30 zc_X7_181 hC.1 rfl rfl rfl (Nat.le_of_ble_eq_true rfl) rfl (by have h := c_X1_goalIn (G := G) (d := d + 3) hC (m : Int) (q : Int); rw [show (if 0 ≤ csl (R.2.2.2.2.2.1 c).2.2.2.2.1.1 (m : Int) (q : Int) then (R.2.2.2.2.2.1 c).2.2.2.2.2.1.getD (csl (R.2.2.2.2.2.1 c).2.2.2.2.1.1 (m : Int) (q : Int)).toNat none else none) = _ from hod] at h; exact h) ?_
          refine zx_st (st1 := [zN]) rfl ?_
          refine zx_astore (i := 4) dX7_canClauseFail_33 (by decide) rfl ?_
          refine zx_L (L1 := [some (zR c), some (zR md), some (zI (cln (R.2.2.2.2.2.1 c).2.2.2.2.1.1 (m : Int))), some (zI (q : Int)), some (zN), o5, o6, o7]) rfl ?_
          refine zx_aload_n (i := 0) dX7_canClauseFail_35 rfl rfl ?_
          refine zx_aload_n (i := 1) dX7_canClauseFail_36 rfl rfl ?_
          refine zx_pc (pc1 := 37) rfl ?_
          refine zx_getfield dX7_canClauseFail_37 zf_X7_57 hmd rfl ?_
          refine zx_iload_n (i := 3) dX7_canClauseFail_40 rfl rfl ?_
          refine zx_iv (b := c) (As := [zI (m : Int), zI (q : Int)]) (st := []) (v := (some (zI (knA (R.2.2.2.2.2.1 c) (m : Int) (q : Int))))) (w1 := w) dX7_canClauseFail_41 zc_X7_222 hC.1 rfl rfl rfl (Nat.le_of_ble_eq_true rfl) rfl (c_X1_knownIn (G := G) (d := d + 3) hC (m : Int) (q : Int)) ?_
          refine zx_st (st1 := [zI (knA (R.2.2.2.2.2.1 c) (m : Int) (q : Int))]) rfl ?_
          refine zx_istore (i := 5) dX7_canClauseFail_44 (by decide) rfl ?_
          refine zx_L (L1 := [some (zR c), some (zR md), some (zI (cln (R.2.2.2.2.2.1 c).2.2.2.2.1.1 (m : Int))), some (zI (q : Int)), some (zN), some (zI (knA (R.2.2.2.2.2.1 c) (m : Int) (q : Int))), o6, o7]) rfl ?_
          refine zx_aload_n (i := 0) dX7_canClauseFail_46 rfl rfl ?_
          refine zx_aload_n (i := 1) dX7_canClauseFail_47 rfl rfl ?_
          refine zx_getfield dX7_canClauseFail_48 zf_X7_57 hmd rfl ?_
          refine zx_iload_n (i := 3) dX7_canClauseFail_51 rfl rfl ?_
          refine zx_iv (b := c) (As := [zI (m : Int), zI (q : Int)]) (st := []) (v := (some (zP (chA (R.2.2.2.2.2.1 c) (m : Int) (q : Int))))) (w1 := w) dX7_canClauseFail_52 zc_X7_191 hC.1 rfl rfl rfl (Nat.le_of_ble_eq_true rfl) rfl (c_X1_chosenIn (G := G) (d := d + 3) hC (m : Int) (q : Int)) ?_
          refine zx_st (st1 := [zP (chA (R.2.2.2.2.2.1 c) (m : Int) (q : Int))]) rfl ?_
          refine zx_astore (i := 6) dX7_canClauseFail_55 (by decide) rfl ?_
          refine zx_L (L1 := [some (zR c), some (zR md), some (zI (cln (R.2.2.2.2.2.1 c).2.2.2.2.1.1 (m : Int))), some (zI (q : Int)), some (zN), some (zI (knA (R.2.2.2.2.2.1 c) (m : Int) (q : Int))), some (zP (chA (R.2.2.2.2.2.1 c) (m : Int) (q : Int))), o7]) rfl ?_
          refine zx_iload_n (i := 3) dX7_canClauseFail_57 rfl rfl ?_
          refine zx_if_ne (tgt := 73) dX7_canClauseFail_58 (by decide) (fun h58 => ?_) (fun h58 => absurd (by omega) h58)
          refine zx_pc (pc1 := 73) rfl ?_
          refine zx_iconst (v := 0) dX7_canClauseFail_73 rfl (z32_lit (by decide) (by decide)) ?_
          refine zx_istore (i := 7) dX7_canClauseFail_74 (by decide) rfl ?_
          refine zx_L (L1 := [some (zR c), some (zR md), some (zI (cln (R.2.2.2.2.2.1 c).2.2.2.2.1.1 (m : Int))), some (zI (q : Int)), some (zN), some (zI (knA (R.2.2.2.2.2.1 c) (m : Int) (q : Int))), some (zP (chA (R.2.2.2.2.2.1 c) (m : Int) (q : Int))), some (zI 0)]) rfl ?_
          refine zx_aload (i := 4) dX7_canClauseFail_76 rfl ?_
          refine zx_ifnull (tgt := 114) dX7_canClauseFail_78 (by decide) (fun _ => ?_) (fun h => absurd rfl h)
          refine zx_iinc (i := 3) (v := ((q + 1 : Nat) : Int)) dX7_canClauseFail_114 rfl (zw_eq (by omega) (by omega) (by omega)) (by decide) rfl ?_
          refine zx_L (L1 := [some (zR c), some (zR md), some (zI (cln (R.2.2.2.2.2.1 c).2.2.2.2.1.1 (m : Int))), some (zI ((q + 1 : Nat) : Int)), some (zN), some (zI (knA (R.2.2.2.2.2.1 c) (m : Int) (q : Int))), some (zP (chA (R.2.2.2.2.2.1 c) (m : Int) (q : Int))), some (zI 0)]) rfl ?_
          refine zx_goto (tgt := 19) dX7_canClauseFail_117 (by decide) ?_
          exact ih (q + 1) _ _ _ _ (by omega)
      | some g =>
        have hg := hgo g (hO1 g (odA_mem hod))
        by_cases hq0 : q = 0
        · by_cases hsw : sw = -1
          · rw [cfE_g hod (fun h => h.2 hsw)]
            by_cases hv : cgF R (R.2.2.2.2.2.2 g) (chA (R.2.2.2.2.2.1 c) (m : Int) (q : Int)) (knA (R.2.2.2.2.2.1 c) (m : Int) (q : Int)) = true
            · rw [hv]
              refine zx_iload_n (i := 3) dX7_canClauseFail_19 rfl rfl ?_
              refine zx_iload_n (i := 2) dX7_canClauseFail_20 rfl rfl ?_
              refine zx_icmp_ge (tgt := 120) dX7_canClauseFail_21 (by decide) (fun h21 => absurd h21 (by omega)) (fun h21 => ?_)
              refine zx_aload_n (i := 0) dX7_canClauseFail_24 rfl rfl ?_
              refine zx_aload_n (i := 1) dX7_canClauseFail_25 rfl rfl ?_
              refine zx_getfield dX7_canClauseFail_26 zf_X7_57 hmd rfl ?_
              refine zx_iload_n (i := 3) dX7_canClauseFail_29 rfl rfl ?_
              refine zx_iv (b := c) (As := [zI (m : Int), zI (q : Int)]) (st := []) (v := (some (zR g))) (w1 := w) dX7_canClauseFail_30 zc_X7_181 hC.1 rfl rfl rfl (Nat.le_of_ble_eq_true rfl) rfl (by have h := c_X1_goalIn (G := G) (d := d + 3) hC (m : Int) (q : Int); rw [show (if 0 ≤ csl (R.2.2.2.2.2.1 c).2.2.2.2.1.1 (m : Int) (q : Int) then (R.2.2.2.2.2.1 c).2.2.2.2.2.1.getD (csl (R.2.2.2.2.2.1 c).2.2.2.2.1.1 (m : Int) (q : Int)).toNat none else none) = _ from hod] at h; exact h) ?_
              refine zx_st (st1 := [zR g]) rfl ?_
              refine zx_astore (i := 4) dX7_canClauseFail_33 (by decide) rfl ?_
              refine zx_L (L1 := [some (zR c), some (zR md), some (zI (cln (R.2.2.2.2.2.1 c).2.2.2.2.1.1 (m : Int))), some (zI (q : Int)), some (zR g), o5, o6, o7]) rfl ?_
              refine zx_aload_n (i := 0) dX7_canClauseFail_35 rfl rfl ?_
              refine zx_aload_n (i := 1) dX7_canClauseFail_36 rfl rfl ?_
              refine zx_pc (pc1 := 37) rfl ?_
              refine zx_getfield dX7_canClauseFail_37 zf_X7_57 hmd rfl ?_
              refine zx_iload_n (i := 3) dX7_canClauseFail_40 rfl rfl ?_
              refine zx_iv (b := c) (As := [zI (m : Int), zI (q : Int)]) (st := []) (v := (some (zI (knA (R.2.2.2.2.2.1 c) (m : Int) (q : Int))))) (w1 := w) dX7_canClauseFail_41 zc_X7_222 hC.1 rfl rfl rfl (Nat.le_of_ble_eq_true rfl) rfl (c_X1_knownIn (G := G) (d := d + 3) hC (m : Int) (q : Int)) ?_
              refine zx_st (st1 := [zI (knA (R.2.2.2.2.2.1 c) (m : Int) (q : Int))]) rfl ?_
              refine zx_istore (i := 5) dX7_canClauseFail_44 (by decide) rfl ?_
              refine zx_L (L1 := [some (zR c), some (zR md), some (zI (cln (R.2.2.2.2.2.1 c).2.2.2.2.1.1 (m : Int))), some (zI (q : Int)), some (zR g), some (zI (knA (R.2.2.2.2.2.1 c) (m : Int) (q : Int))), o6, o7]) rfl ?_
              refine zx_aload_n (i := 0) dX7_canClauseFail_46 rfl rfl ?_
              refine zx_aload_n (i := 1) dX7_canClauseFail_47 rfl rfl ?_
              refine zx_getfield dX7_canClauseFail_48 zf_X7_57 hmd rfl ?_
              refine zx_iload_n (i := 3) dX7_canClauseFail_51 rfl rfl ?_
              refine zx_iv (b := c) (As := [zI (m : Int), zI (q : Int)]) (st := []) (v := (some (zP (chA (R.2.2.2.2.2.1 c) (m : Int) (q : Int))))) (w1 := w) dX7_canClauseFail_52 zc_X7_191 hC.1 rfl rfl rfl (Nat.le_of_ble_eq_true rfl) rfl (c_X1_chosenIn (G := G) (d := d + 3) hC (m : Int) (q : Int)) ?_
              refine zx_st (st1 := [zP (chA (R.2.2.2.2.2.1 c) (m : Int) (q : Int))]) rfl ?_
              refine zx_astore (i := 6) dX7_canClauseFail_55 (by decide) rfl ?_
              refine zx_L (L1 := [some (zR c), some (zR md), some (zI (cln (R.2.2.2.2.2.1 c).2.2.2.2.1.1 (m : Int))), some (zI (q : Int)), some (zR g), some (zI (knA (R.2.2.2.2.2.1 c) (m : Int) (q : Int))), some (zP (chA (R.2.2.2.2.2.1 c) (m : Int) (q : Int))), o7]) rfl ?_
              refine zx_iload_n (i := 3) dX7_canClauseFail_57 rfl rfl ?_
              refine zx_if_ne (tgt := 73) dX7_canClauseFail_58 (by decide) (fun h58 => absurd h58 (by omega)) (fun h58 => ?_)
              refine zx_pc (pc1 := 61) rfl ?_
              refine zx_aload_n (i := 1) dX7_canClauseFail_61 rfl rfl ?_
              refine zx_getfield dX7_canClauseFail_62 zf_X7_91 hmd rfl ?_
              refine zx_iconst (v := -1) dX7_canClauseFail_65 rfl (z32_lit (by decide) (by decide)) ?_
              refine zx_icmp_eq (tgt := 73) dX7_canClauseFail_66 (by decide) (fun h66 => ?_) (fun h66 => absurd (hsw) h66)
              refine zx_iconst (v := 0) dX7_canClauseFail_73 rfl (z32_lit (by decide) (by decide)) ?_
              refine zx_istore (i := 7) dX7_canClauseFail_74 (by decide) rfl ?_
              refine zx_L (L1 := [some (zR c), some (zR md), some (zI (cln (R.2.2.2.2.2.1 c).2.2.2.2.1.1 (m : Int))), some (zI (q : Int)), some (zR g), some (zI (knA (R.2.2.2.2.2.1 c) (m : Int) (q : Int))), some (zP (chA (R.2.2.2.2.2.1 c) (m : Int) (q : Int))), some (zI 0)]) rfl ?_
              refine zx_aload (i := 4) dX7_canClauseFail_76 rfl ?_
              refine zx_ifnull (tgt := 114) dX7_canClauseFail_78 (by decide) (fun h => by cases h) (fun _ => ?_)
              refine zx_iload (i := 7) dX7_canClauseFail_81 rfl ?_
              refine zx_if_eq (tgt := 100) dX7_canClauseFail_83 (by decide) (fun h83 => ?_) (fun h83 => absurd (by decide) h83)
              refine zx_aload (i := 4) dX7_canClauseFail_100 rfl ?_
              refine zx_aload (i := 6) dX7_canClauseFail_102 rfl ?_
              refine zx_pc (pc1 := 104) rfl ?_
              refine zx_iload (i := 5) dX7_canClauseFail_104 rfl ?_
              refine zx_is (As := [zR g, zP (chA (R.2.2.2.2.2.1 c) (m : Int) (q : Int)), zI (knA (R.2.2.2.2.2.1 c) (m : Int) (q : Int))]) (st := []) (v := (some (zI (zB (cgF R (R.2.2.2.2.2.2 g) (chA (R.2.2.2.2.2.1 c) (m : Int) (q : Int)) (knA (R.2.2.2.2.2.1 c) (m : Int) (q : Int)) = true))))) (w1 := w) dX7_canClauseFail_106 zc_X7_229 rfl (Nat.le_of_ble_eq_true rfl) rfl (c_X7_canGoalFail (d := d + 1) hg hch2 (knA (R.2.2.2.2.2.1 c) (m : Int) (q : Int))) ?_
              refine zx_st (st1 := [zI (zB (cgF R (R.2.2.2.2.2.2 g) (chA (R.2.2.2.2.2.1 c) (m : Int) (q : Int)) (knA (R.2.2.2.2.2.1 c) (m : Int) (q : Int)) = true))]) rfl ?_
              refine zx_if_eq (tgt := 114) dX7_canClauseFail_109 (by decide) (fun h109 => absurd h109 (by rw [zB_t hv]; decide)) (fun h109 => ?_)
              refine zx_iconst (v := 1) dX7_canClauseFail_112 rfl (z32_lit (by decide) (by decide)) ?_
              refine zx_zret dX7_canClauseFail_113 rfl (by first | exact Or.inl rfl | exact Or.inr rfl | exact zB_or | assumption) ?_
              exact zr_t rfl
            · rw [Bool.eq_false_iff.mpr hv, Bool.false_or]
              refine zx_iload_n (i := 3) dX7_canClauseFail_19 rfl rfl ?_
              refine zx_iload_n (i := 2) dX7_canClauseFail_20 rfl rfl ?_
              refine zx_icmp_ge (tgt := 120) dX7_canClauseFail_21 (by decide) (fun h21 => absurd h21 (by omega)) (fun h21 => ?_)
              refine zx_aload_n (i := 0) dX7_canClauseFail_24 rfl rfl ?_
              refine zx_aload_n (i := 1) dX7_canClauseFail_25 rfl rfl ?_
              refine zx_getfield dX7_canClauseFail_26 zf_X7_57 hmd rfl ?_
              refine zx_iload_n (i := 3) dX7_canClauseFail_29 rfl rfl ?_
              refine zx_iv (b := c) (As := [zI (m : Int), zI (q : Int)]) (st := []) (v := (some (zR g))) (w1 := w) dX7_canClauseFail_30 zc_X7_181 hC.1 rfl rfl rfl (Nat.le_of_ble_eq_true rfl) rfl (by have h := c_X1_goalIn (G := G) (d := d + 3) hC (m : Int) (q : Int); rw [show (if 0 ≤ csl (R.2.2.2.2.2.1 c).2.2.2.2.1.1 (m : Int) (q : Int) then (R.2.2.2.2.2.1 c).2.2.2.2.2.1.getD (csl (R.2.2.2.2.2.1 c).2.2.2.2.1.1 (m : Int) (q : Int)).toNat none else none) = _ from hod] at h; exact h) ?_
              refine zx_st (st1 := [zR g]) rfl ?_
              refine zx_astore (i := 4) dX7_canClauseFail_33 (by decide) rfl ?_
              refine zx_L (L1 := [some (zR c), some (zR md), some (zI (cln (R.2.2.2.2.2.1 c).2.2.2.2.1.1 (m : Int))), some (zI (q : Int)), some (zR g), o5, o6, o7]) rfl ?_
              refine zx_aload_n (i := 0) dX7_canClauseFail_35 rfl rfl ?_
              refine zx_aload_n (i := 1) dX7_canClauseFail_36 rfl rfl ?_
              refine zx_pc (pc1 := 37) rfl ?_
              refine zx_getfield dX7_canClauseFail_37 zf_X7_57 hmd rfl ?_
              refine zx_iload_n (i := 3) dX7_canClauseFail_40 rfl rfl ?_
              refine zx_iv (b := c) (As := [zI (m : Int), zI (q : Int)]) (st := []) (v := (some (zI (knA (R.2.2.2.2.2.1 c) (m : Int) (q : Int))))) (w1 := w) dX7_canClauseFail_41 zc_X7_222 hC.1 rfl rfl rfl (Nat.le_of_ble_eq_true rfl) rfl (c_X1_knownIn (G := G) (d := d + 3) hC (m : Int) (q : Int)) ?_
              refine zx_st (st1 := [zI (knA (R.2.2.2.2.2.1 c) (m : Int) (q : Int))]) rfl ?_
              refine zx_istore (i := 5) dX7_canClauseFail_44 (by decide) rfl ?_
              refine zx_L (L1 := [some (zR c), some (zR md), some (zI (cln (R.2.2.2.2.2.1 c).2.2.2.2.1.1 (m : Int))), some (zI (q : Int)), some (zR g), some (zI (knA (R.2.2.2.2.2.1 c) (m : Int) (q : Int))), o6, o7]) rfl ?_
              refine zx_aload_n (i := 0) dX7_canClauseFail_46 rfl rfl ?_
              refine zx_aload_n (i := 1) dX7_canClauseFail_47 rfl rfl ?_
              refine zx_getfield dX7_canClauseFail_48 zf_X7_57 hmd rfl ?_
              refine zx_iload_n (i := 3) dX7_canClauseFail_51 rfl rfl ?_
              refine zx_iv (b := c) (As := [zI (m : Int), zI (q : Int)]) (st := []) (v := (some (zP (chA (R.2.2.2.2.2.1 c) (m : Int) (q : Int))))) (w1 := w) dX7_canClauseFail_52 zc_X7_191 hC.1 rfl rfl rfl (Nat.le_of_ble_eq_true rfl) rfl (c_X1_chosenIn (G := G) (d := d + 3) hC (m : Int) (q : Int)) ?_
              refine zx_st (st1 := [zP (chA (R.2.2.2.2.2.1 c) (m : Int) (q : Int))]) rfl ?_
              refine zx_astore (i := 6) dX7_canClauseFail_55 (by decide) rfl ?_
              refine zx_L (L1 := [some (zR c), some (zR md), some (zI (cln (R.2.2.2.2.2.1 c).2.2.2.2.1.1 (m : Int))), some (zI (q : Int)), some (zR g), some (zI (knA (R.2.2.2.2.2.1 c) (m : Int) (q : Int))), some (zP (chA (R.2.2.2.2.2.1 c) (m : Int) (q : Int))), o7]) rfl ?_
              refine zx_iload_n (i := 3) dX7_canClauseFail_57 rfl rfl ?_
              refine zx_if_ne (tgt := 73) dX7_canClauseFail_58 (by decide) (fun h58 => absurd h58 (by omega)) (fun h58 => ?_)
              refine zx_pc (pc1 := 61) rfl ?_
              refine zx_aload_n (i := 1) dX7_canClauseFail_61 rfl rfl ?_
              refine zx_getfield dX7_canClauseFail_62 zf_X7_91 hmd rfl ?_
              refine zx_iconst (v := -1) dX7_canClauseFail_65 rfl (z32_lit (by decide) (by decide)) ?_
              refine zx_icmp_eq (tgt := 73) dX7_canClauseFail_66 (by decide) (fun h66 => ?_) (fun h66 => absurd (hsw) h66)
              refine zx_iconst (v := 0) dX7_canClauseFail_73 rfl (z32_lit (by decide) (by decide)) ?_
              refine zx_istore (i := 7) dX7_canClauseFail_74 (by decide) rfl ?_
              refine zx_L (L1 := [some (zR c), some (zR md), some (zI (cln (R.2.2.2.2.2.1 c).2.2.2.2.1.1 (m : Int))), some (zI (q : Int)), some (zR g), some (zI (knA (R.2.2.2.2.2.1 c) (m : Int) (q : Int))), some (zP (chA (R.2.2.2.2.2.1 c) (m : Int) (q : Int))), some (zI 0)]) rfl ?_
              refine zx_aload (i := 4) dX7_canClauseFail_76 rfl ?_
              refine zx_ifnull (tgt := 114) dX7_canClauseFail_78 (by decide) (fun h => by cases h) (fun _ => ?_)
              refine zx_iload (i := 7) dX7_canClauseFail_81 rfl ?_
              refine zx_if_eq (tgt := 100) dX7_canClauseFail_83 (by decide) (fun h83 => ?_) (fun h83 => absurd (by decide) h83)
              refine zx_aload (i := 4) dX7_canClauseFail_100 rfl ?_
              refine zx_aload (i := 6) dX7_canClauseFail_102 rfl ?_
              refine zx_pc (pc1 := 104) rfl ?_
              refine zx_iload (i := 5) dX7_canClauseFail_104 rfl ?_
              refine zx_is (As := [zR g, zP (chA (R.2.2.2.2.2.1 c) (m : Int) (q : Int)), zI (knA (R.2.2.2.2.2.1 c) (m : Int) (q : Int))]) (st := []) (v := (some (zI (zB (cgF R (R.2.2.2.2.2.2 g) (chA (R.2.2.2.2.2.1 c) (m : Int) (q : Int)) (knA (R.2.2.2.2.2.1 c) (m : Int) (q : Int)) = true))))) (w1 := w) dX7_canClauseFail_106 zc_X7_229 rfl (Nat.le_of_ble_eq_true rfl) rfl (c_X7_canGoalFail (d := d + 1) hg hch2 (knA (R.2.2.2.2.2.1 c) (m : Int) (q : Int))) ?_
              refine zx_st (st1 := [zI (zB (cgF R (R.2.2.2.2.2.2 g) (chA (R.2.2.2.2.2.1 c) (m : Int) (q : Int)) (knA (R.2.2.2.2.2.1 c) (m : Int) (q : Int)) = true))]) rfl ?_
              refine zx_if_eq (tgt := 114) dX7_canClauseFail_109 (by decide) (fun h109 => ?_) (fun h109 => absurd (zB_f hv) h109)
              refine zx_iinc (i := 3) (v := ((q + 1 : Nat) : Int)) dX7_canClauseFail_114 rfl (zw_eq (by omega) (by omega) (by omega)) (by decide) rfl ?_
              refine zx_L (L1 := [some (zR c), some (zR md), some (zI (cln (R.2.2.2.2.2.1 c).2.2.2.2.1.1 (m : Int))), some (zI ((q + 1 : Nat) : Int)), some (zR g), some (zI (knA (R.2.2.2.2.2.1 c) (m : Int) (q : Int))), some (zP (chA (R.2.2.2.2.2.1 c) (m : Int) (q : Int))), some (zI 0)]) rfl ?_
              refine zx_goto (tgt := 19) dX7_canClauseFail_117 (by decide) ?_
              exact ih (q + 1) _ _ _ _ (by omega)
          · rw [cfE_w hod ⟨hq0, hsw⟩]
            by_cases hv : clG (R.2.2.2.2.2.2 g).2.2.2.2 (fun _ => false) ((R.2.2.2.2.2.2 g).2.2.1 - 1).toNat 1 (knA (R.2.2.2.2.2.1 c) (m : Int) (q : Int)) = true
            · rw [hv]
              refine zx_iload_n (i := 3) dX7_canClauseFail_19 rfl rfl ?_
              refine zx_iload_n (i := 2) dX7_canClauseFail_20 rfl rfl ?_
              refine zx_icmp_ge (tgt := 120) dX7_canClauseFail_21 (by decide) (fun h21 => absurd h21 (by omega)) (fun h21 => ?_)
              refine zx_aload_n (i := 0) dX7_canClauseFail_24 rfl rfl ?_
              refine zx_aload_n (i := 1) dX7_canClauseFail_25 rfl rfl ?_
              refine zx_getfield dX7_canClauseFail_26 zf_X7_57 hmd rfl ?_
              refine zx_iload_n (i := 3) dX7_canClauseFail_29 rfl rfl ?_
              refine zx_iv (b := c) (As := [zI (m : Int), zI (q : Int)]) (st := []) (v := (some (zR g))) (w1 := w) dX7_canClauseFail_30 zc_X7_181 hC.1 rfl rfl rfl (Nat.le_of_ble_eq_true rfl) rfl (by have h := c_X1_goalIn (G := G) (d := d + 3) hC (m : Int) (q : Int); rw [show (if 0 ≤ csl (R.2.2.2.2.2.1 c).2.2.2.2.1.1 (m : Int) (q : Int) then (R.2.2.2.2.2.1 c).2.2.2.2.2.1.getD (csl (R.2.2.2.2.2.1 c).2.2.2.2.1.1 (m : Int) (q : Int)).toNat none else none) = _ from hod] at h; exact h) ?_
              refine zx_st (st1 := [zR g]) rfl ?_
              refine zx_astore (i := 4) dX7_canClauseFail_33 (by decide) rfl ?_
              refine zx_L (L1 := [some (zR c), some (zR md), some (zI (cln (R.2.2.2.2.2.1 c).2.2.2.2.1.1 (m : Int))), some (zI (q : Int)), some (zR g), o5, o6, o7]) rfl ?_
              refine zx_aload_n (i := 0) dX7_canClauseFail_35 rfl rfl ?_
              refine zx_aload_n (i := 1) dX7_canClauseFail_36 rfl rfl ?_
              refine zx_pc (pc1 := 37) rfl ?_
              refine zx_getfield dX7_canClauseFail_37 zf_X7_57 hmd rfl ?_
              refine zx_iload_n (i := 3) dX7_canClauseFail_40 rfl rfl ?_
              refine zx_iv (b := c) (As := [zI (m : Int), zI (q : Int)]) (st := []) (v := (some (zI (knA (R.2.2.2.2.2.1 c) (m : Int) (q : Int))))) (w1 := w) dX7_canClauseFail_41 zc_X7_222 hC.1 rfl rfl rfl (Nat.le_of_ble_eq_true rfl) rfl (c_X1_knownIn (G := G) (d := d + 3) hC (m : Int) (q : Int)) ?_
              refine zx_st (st1 := [zI (knA (R.2.2.2.2.2.1 c) (m : Int) (q : Int))]) rfl ?_
              refine zx_istore (i := 5) dX7_canClauseFail_44 (by decide) rfl ?_
              refine zx_L (L1 := [some (zR c), some (zR md), some (zI (cln (R.2.2.2.2.2.1 c).2.2.2.2.1.1 (m : Int))), some (zI (q : Int)), some (zR g), some (zI (knA (R.2.2.2.2.2.1 c) (m : Int) (q : Int))), o6, o7]) rfl ?_
              refine zx_aload_n (i := 0) dX7_canClauseFail_46 rfl rfl ?_
              refine zx_aload_n (i := 1) dX7_canClauseFail_47 rfl rfl ?_
              refine zx_getfield dX7_canClauseFail_48 zf_X7_57 hmd rfl ?_
              refine zx_iload_n (i := 3) dX7_canClauseFail_51 rfl rfl ?_
              refine zx_iv (b := c) (As := [zI (m : Int), zI (q : Int)]) (st := []) (v := (some (zP (chA (R.2.2.2.2.2.1 c) (m : Int) (q : Int))))) (w1 := w) dX7_canClauseFail_52 zc_X7_191 hC.1 rfl rfl rfl (Nat.le_of_ble_eq_true rfl) rfl (c_X1_chosenIn (G := G) (d := d + 3) hC (m : Int) (q : Int)) ?_
              refine zx_st (st1 := [zP (chA (R.2.2.2.2.2.1 c) (m : Int) (q : Int))]) rfl ?_
              refine zx_astore (i := 6) dX7_canClauseFail_55 (by decide) rfl ?_
              refine zx_L (L1 := [some (zR c), some (zR md), some (zI (cln (R.2.2.2.2.2.1 c).2.2.2.2.1.1 (m : Int))), some (zI (q : Int)), some (zR g), some (zI (knA (R.2.2.2.2.2.1 c) (m : Int) (q : Int))), some (zP (chA (R.2.2.2.2.2.1 c) (m : Int) (q : Int))), o7]) rfl ?_
              refine zx_iload_n (i := 3) dX7_canClauseFail_57 rfl rfl ?_
              refine zx_if_ne (tgt := 73) dX7_canClauseFail_58 (by decide) (fun h58 => absurd h58 (by omega)) (fun h58 => ?_)
              refine zx_pc (pc1 := 61) rfl ?_
              refine zx_aload_n (i := 1) dX7_canClauseFail_61 rfl rfl ?_
              refine zx_getfield dX7_canClauseFail_62 zf_X7_91 hmd rfl ?_
              refine zx_iconst (v := -1) dX7_canClauseFail_65 rfl (z32_lit (by decide) (by decide)) ?_
              refine zx_icmp_eq (tgt := 73) dX7_canClauseFail_66 (by decide) (fun h66 => absurd h66 (hsw)) (fun h66 => ?_)
              refine zx_iconst (v := 1) dX7_canClauseFail_69 rfl (z32_lit (by decide) (by decide)) ?_
              refine zx_goto (tgt := 74) dX7_canClauseFail_70 (by decide) ?_
              refine zx_istore (i := 7) dX7_canClauseFail_74 (by decide) rfl ?_
              refine zx_L (L1 := [some (zR c), some (zR md), some (zI (cln (R.2.2.2.2.2.1 c).2.2.2.2.1.1 (m : Int))), some (zI (q : Int)), some (zR g), some (zI (knA (R.2.2.2.2.2.1 c) (m : Int) (q : Int))), some (zP (chA (R.2.2.2.2.2.1 c) (m : Int) (q : Int))), some (zI 1)]) rfl ?_
              refine zx_aload (i := 4) dX7_canClauseFail_76 rfl ?_
              refine zx_ifnull (tgt := 114) dX7_canClauseFail_78 (by decide) (fun h => by cases h) (fun _ => ?_)
              refine zx_iload (i := 7) dX7_canClauseFail_81 rfl ?_
              refine zx_if_eq (tgt := 100) dX7_canClauseFail_83 (by decide) (fun h83 => absurd h83 (by decide)) (fun h83 => ?_)
              refine zx_aload (i := 4) dX7_canClauseFail_86 rfl ?_
              refine zx_pc (pc1 := 88) rfl ?_
              refine zx_null dX7_canClauseFail_88 ?_
              refine zx_iload (i := 5) dX7_canClauseFail_89 rfl ?_
              refine zx_is (As := [zR g, zN, zI (knA (R.2.2.2.2.2.1 c) (m : Int) (q : Int))]) (st := []) (v := (some (zI (zB (clG (R.2.2.2.2.2.2 g).2.2.2.2 (fun _ => false) ((R.2.2.2.2.2.2 g).2.2.1 - 1).toNat 1 (knA (R.2.2.2.2.2.1 c) (m : Int) (q : Int)) = true))))) (w1 := w) dX7_canClauseFail_91 zc_X7_226 rfl (Nat.le_of_ble_eq_true rfl) rfl (c_X7_clashes0 hg.1 hg.2.1 hg.2.2.1 hg.2.2.2.1 (knA (R.2.2.2.2.2.1 c) (m : Int) (q : Int))) ?_
              refine zx_st (st1 := [zI (zB (clG (R.2.2.2.2.2.2 g).2.2.2.2 (fun _ => false) ((R.2.2.2.2.2.2 g).2.2.1 - 1).toNat 1 (knA (R.2.2.2.2.2.1 c) (m : Int) (q : Int)) = true))]) rfl ?_
              refine zx_if_eq (tgt := 114) dX7_canClauseFail_94 (by decide) (fun h94 => absurd h94 (by rw [zB_t hv]; decide)) (fun h94 => ?_)
              refine zx_goto (tgt := 112) dX7_canClauseFail_97 (by decide) ?_
              refine zx_iconst (v := 1) dX7_canClauseFail_112 rfl (z32_lit (by decide) (by decide)) ?_
              refine zx_zret dX7_canClauseFail_113 rfl (by first | exact Or.inl rfl | exact Or.inr rfl | exact zB_or | assumption) ?_
              exact zr_t rfl
            · rw [Bool.eq_false_iff.mpr hv, Bool.false_or]
              refine zx_iload_n (i := 3) dX7_canClauseFail_19 rfl rfl ?_
              refine zx_iload_n (i := 2) dX7_canClauseFail_20 rfl rfl ?_
              refine zx_icmp_ge (tgt := 120) dX7_canClauseFail_21 (by decide) (fun h21 => absurd h21 (by omega)) (fun h21 => ?_)
              refine zx_aload_n (i := 0) dX7_canClauseFail_24 rfl rfl ?_
              refine zx_aload_n (i := 1) dX7_canClauseFail_25 rfl rfl ?_
              refine zx_getfield dX7_canClauseFail_26 zf_X7_57 hmd rfl ?_
              refine zx_iload_n (i := 3) dX7_canClauseFail_29 rfl rfl ?_
              refine zx_iv (b := c) (As := [zI (m : Int), zI (q : Int)]) (st := []) (v := (some (zR g))) (w1 := w) dX7_canClauseFail_30 zc_X7_181 hC.1 rfl rfl rfl (Nat.le_of_ble_eq_true rfl) rfl (by have h := c_X1_goalIn (G := G) (d := d + 3) hC (m : Int) (q : Int); rw [show (if 0 ≤ csl (R.2.2.2.2.2.1 c).2.2.2.2.1.1 (m : Int) (q : Int) then (R.2.2.2.2.2.1 c).2.2.2.2.2.1.getD (csl (R.2.2.2.2.2.1 c).2.2.2.2.1.1 (m : Int) (q : Int)).toNat none else none) = _ from hod] at h; exact h) ?_
              refine zx_st (st1 := [zR g]) rfl ?_
              refine zx_astore (i := 4) dX7_canClauseFail_33 (by decide) rfl ?_
              refine zx_L (L1 := [some (zR c), some (zR md), some (zI (cln (R.2.2.2.2.2.1 c).2.2.2.2.1.1 (m : Int))), some (zI (q : Int)), some (zR g), o5, o6, o7]) rfl ?_
              refine zx_aload_n (i := 0) dX7_canClauseFail_35 rfl rfl ?_
              refine zx_aload_n (i := 1) dX7_canClauseFail_36 rfl rfl ?_
              refine zx_pc (pc1 := 37) rfl ?_
              refine zx_getfield dX7_canClauseFail_37 zf_X7_57 hmd rfl ?_
              refine zx_iload_n (i := 3) dX7_canClauseFail_40 rfl rfl ?_
              refine zx_iv (b := c) (As := [zI (m : Int), zI (q : Int)]) (st := []) (v := (some (zI (knA (R.2.2.2.2.2.1 c) (m : Int) (q : Int))))) (w1 := w) dX7_canClauseFail_41 zc_X7_222 hC.1 rfl rfl rfl (Nat.le_of_ble_eq_true rfl) rfl (c_X1_knownIn (G := G) (d := d + 3) hC (m : Int) (q : Int)) ?_
              refine zx_st (st1 := [zI (knA (R.2.2.2.2.2.1 c) (m : Int) (q : Int))]) rfl ?_
              refine zx_istore (i := 5) dX7_canClauseFail_44 (by decide) rfl ?_
              refine zx_L (L1 := [some (zR c), some (zR md), some (zI (cln (R.2.2.2.2.2.1 c).2.2.2.2.1.1 (m : Int))), some (zI (q : Int)), some (zR g), some (zI (knA (R.2.2.2.2.2.1 c) (m : Int) (q : Int))), o6, o7]) rfl ?_
              refine zx_aload_n (i := 0) dX7_canClauseFail_46 rfl rfl ?_
              refine zx_aload_n (i := 1) dX7_canClauseFail_47 rfl rfl ?_
              refine zx_getfield dX7_canClauseFail_48 zf_X7_57 hmd rfl ?_
              refine zx_iload_n (i := 3) dX7_canClauseFail_51 rfl rfl ?_
              refine zx_iv (b := c) (As := [zI (m : Int), zI (q : Int)]) (st := []) (v := (some (zP (chA (R.2.2.2.2.2.1 c) (m : Int) (q : Int))))) (w1 := w) dX7_canClauseFail_52 zc_X7_191 hC.1 rfl rfl rfl (Nat.le_of_ble_eq_true rfl) rfl (c_X1_chosenIn (G := G) (d := d + 3) hC (m : Int) (q : Int)) ?_
              refine zx_st (st1 := [zP (chA (R.2.2.2.2.2.1 c) (m : Int) (q : Int))]) rfl ?_
              refine zx_astore (i := 6) dX7_canClauseFail_55 (by decide) rfl ?_
              refine zx_L (L1 := [some (zR c), some (zR md), some (zI (cln (R.2.2.2.2.2.1 c).2.2.2.2.1.1 (m : Int))), some (zI (q : Int)), some (zR g), some (zI (knA (R.2.2.2.2.2.1 c) (m : Int) (q : Int))), some (zP (chA (R.2.2.2.2.2.1 c) (m : Int) (q : Int))), o7]) rfl ?_
              refine zx_iload_n (i := 3) dX7_canClauseFail_57 rfl rfl ?_
              refine zx_if_ne (tgt := 73) dX7_canClauseFail_58 (by decide) (fun h58 => absurd h58 (by omega)) (fun h58 => ?_)
              refine zx_pc (pc1 := 61) rfl ?_
              refine zx_aload_n (i := 1) dX7_canClauseFail_61 rfl rfl ?_
              refine zx_getfield dX7_canClauseFail_62 zf_X7_91 hmd rfl ?_
              refine zx_iconst (v := -1) dX7_canClauseFail_65 rfl (z32_lit (by decide) (by decide)) ?_
              refine zx_icmp_eq (tgt := 73) dX7_canClauseFail_66 (by decide) (fun h66 => absurd h66 (hsw)) (fun h66 => ?_)
              refine zx_iconst (v := 1) dX7_canClauseFail_69 rfl (z32_lit (by decide) (by decide)) ?_
              refine zx_goto (tgt := 74) dX7_canClauseFail_70 (by decide) ?_
              refine zx_istore (i := 7) dX7_canClauseFail_74 (by decide) rfl ?_
              refine zx_L (L1 := [some (zR c), some (zR md), some (zI (cln (R.2.2.2.2.2.1 c).2.2.2.2.1.1 (m : Int))), some (zI (q : Int)), some (zR g), some (zI (knA (R.2.2.2.2.2.1 c) (m : Int) (q : Int))), some (zP (chA (R.2.2.2.2.2.1 c) (m : Int) (q : Int))), some (zI 1)]) rfl ?_
              refine zx_aload (i := 4) dX7_canClauseFail_76 rfl ?_
              refine zx_ifnull (tgt := 114) dX7_canClauseFail_78 (by decide) (fun h => by cases h) (fun _ => ?_)
              refine zx_iload (i := 7) dX7_canClauseFail_81 rfl ?_
              refine zx_if_eq (tgt := 100) dX7_canClauseFail_83 (by decide) (fun h83 => absurd h83 (by decide)) (fun h83 => ?_)
              refine zx_aload (i := 4) dX7_canClauseFail_86 rfl ?_
              refine zx_pc (pc1 := 88) rfl ?_
              refine zx_null dX7_canClauseFail_88 ?_
              refine zx_iload (i := 5) dX7_canClauseFail_89 rfl ?_
              refine zx_is (As := [zR g, zN, zI (knA (R.2.2.2.2.2.1 c) (m : Int) (q : Int))]) (st := []) (v := (some (zI (zB (clG (R.2.2.2.2.2.2 g).2.2.2.2 (fun _ => false) ((R.2.2.2.2.2.2 g).2.2.1 - 1).toNat 1 (knA (R.2.2.2.2.2.1 c) (m : Int) (q : Int)) = true))))) (w1 := w) dX7_canClauseFail_91 zc_X7_226 rfl (Nat.le_of_ble_eq_true rfl) rfl (c_X7_clashes0 hg.1 hg.2.1 hg.2.2.1 hg.2.2.2.1 (knA (R.2.2.2.2.2.1 c) (m : Int) (q : Int))) ?_
              refine zx_st (st1 := [zI (zB (clG (R.2.2.2.2.2.2 g).2.2.2.2 (fun _ => false) ((R.2.2.2.2.2.2 g).2.2.1 - 1).toNat 1 (knA (R.2.2.2.2.2.1 c) (m : Int) (q : Int)) = true))]) rfl ?_
              refine zx_if_eq (tgt := 114) dX7_canClauseFail_94 (by decide) (fun h94 => ?_) (fun h94 => absurd (zB_f hv) h94)
              refine zx_iinc (i := 3) (v := ((q + 1 : Nat) : Int)) dX7_canClauseFail_114 rfl (zw_eq (by omega) (by omega) (by omega)) (by decide) rfl ?_
              refine zx_L (L1 := [some (zR c), some (zR md), some (zI (cln (R.2.2.2.2.2.1 c).2.2.2.2.1.1 (m : Int))), some (zI ((q + 1 : Nat) : Int)), some (zR g), some (zI (knA (R.2.2.2.2.2.1 c) (m : Int) (q : Int))), some (zP (chA (R.2.2.2.2.2.1 c) (m : Int) (q : Int))), some (zI 1)]) rfl ?_
              refine zx_goto (tgt := 19) dX7_canClauseFail_117 (by decide) ?_
              exact ih (q + 1) _ _ _ _ (by omega)
        · rw [cfE_g hod (fun h => hq0 h.1)]
          by_cases hv : cgF R (R.2.2.2.2.2.2 g) (chA (R.2.2.2.2.2.1 c) (m : Int) (q : Int)) (knA (R.2.2.2.2.2.1 c) (m : Int) (q : Int)) = true
          · rw [hv]
            refine zx_iload_n (i := 3) dX7_canClauseFail_19 rfl rfl ?_
            refine zx_iload_n (i := 2) dX7_canClauseFail_20 rfl rfl ?_
            refine zx_icmp_ge (tgt := 120) dX7_canClauseFail_21 (by decide) (fun h21 => absurd h21 (by omega)) (fun h21 => ?_)
            refine zx_aload_n (i := 0) dX7_canClauseFail_24 rfl rfl ?_
            refine zx_aload_n (i := 1) dX7_canClauseFail_25 rfl rfl ?_
            refine zx_getfield dX7_canClauseFail_26 zf_X7_57 hmd rfl ?_
            refine zx_iload_n (i := 3) dX7_canClauseFail_29 rfl rfl ?_
            refine zx_iv (b := c) (As := [zI (m : Int), zI (q : Int)]) (st := []) (v := (some (zR g))) (w1 := w) dX7_canClauseFail_30 zc_X7_181 hC.1 rfl rfl rfl (Nat.le_of_ble_eq_true rfl) rfl (by have h := c_X1_goalIn (G := G) (d := d + 3) hC (m : Int) (q : Int); rw [show (if 0 ≤ csl (R.2.2.2.2.2.1 c).2.2.2.2.1.1 (m : Int) (q : Int) then (R.2.2.2.2.2.1 c).2.2.2.2.2.1.getD (csl (R.2.2.2.2.2.1 c).2.2.2.2.1.1 (m : Int) (q : Int)).toNat none else none) = _ from hod] at h; exact h) ?_
            refine zx_st (st1 := [zR g]) rfl ?_
            refine zx_astore (i := 4) dX7_canClauseFail_33 (by decide) rfl ?_
            refine zx_L (L1 := [some (zR c), some (zR md), some (zI (cln (R.2.2.2.2.2.1 c).2.2.2.2.1.1 (m : Int))), some (zI (q : Int)), some (zR g), o5, o6, o7]) rfl ?_
            refine zx_aload_n (i := 0) dX7_canClauseFail_35 rfl rfl ?_
            refine zx_aload_n (i := 1) dX7_canClauseFail_36 rfl rfl ?_
            refine zx_pc (pc1 := 37) rfl ?_
            refine zx_getfield dX7_canClauseFail_37 zf_X7_57 hmd rfl ?_
            refine zx_iload_n (i := 3) dX7_canClauseFail_40 rfl rfl ?_
            refine zx_iv (b := c) (As := [zI (m : Int), zI (q : Int)]) (st := []) (v := (some (zI (knA (R.2.2.2.2.2.1 c) (m : Int) (q : Int))))) (w1 := w) dX7_canClauseFail_41 zc_X7_222 hC.1 rfl rfl rfl (Nat.le_of_ble_eq_true rfl) rfl (c_X1_knownIn (G := G) (d := d + 3) hC (m : Int) (q : Int)) ?_
            refine zx_st (st1 := [zI (knA (R.2.2.2.2.2.1 c) (m : Int) (q : Int))]) rfl ?_
            refine zx_istore (i := 5) dX7_canClauseFail_44 (by decide) rfl ?_
            refine zx_L (L1 := [some (zR c), some (zR md), some (zI (cln (R.2.2.2.2.2.1 c).2.2.2.2.1.1 (m : Int))), some (zI (q : Int)), some (zR g), some (zI (knA (R.2.2.2.2.2.1 c) (m : Int) (q : Int))), o6, o7]) rfl ?_
            refine zx_aload_n (i := 0) dX7_canClauseFail_46 rfl rfl ?_
            refine zx_aload_n (i := 1) dX7_canClauseFail_47 rfl rfl ?_
            refine zx_getfield dX7_canClauseFail_48 zf_X7_57 hmd rfl ?_
            refine zx_iload_n (i := 3) dX7_canClauseFail_51 rfl rfl ?_
            refine zx_iv (b := c) (As := [zI (m : Int), zI (q : Int)]) (st := []) (v := (some (zP (chA (R.2.2.2.2.2.1 c) (m : Int) (q : Int))))) (w1 := w) dX7_canClauseFail_52 zc_X7_191 hC.1 rfl rfl rfl (Nat.le_of_ble_eq_true rfl) rfl (c_X1_chosenIn (G := G) (d := d + 3) hC (m : Int) (q : Int)) ?_
            refine zx_st (st1 := [zP (chA (R.2.2.2.2.2.1 c) (m : Int) (q : Int))]) rfl ?_
            refine zx_astore (i := 6) dX7_canClauseFail_55 (by decide) rfl ?_
            refine zx_L (L1 := [some (zR c), some (zR md), some (zI (cln (R.2.2.2.2.2.1 c).2.2.2.2.1.1 (m : Int))), some (zI (q : Int)), some (zR g), some (zI (knA (R.2.2.2.2.2.1 c) (m : Int) (q : Int))), some (zP (chA (R.2.2.2.2.2.1 c) (m : Int) (q : Int))), o7]) rfl ?_
            refine zx_iload_n (i := 3) dX7_canClauseFail_57 rfl rfl ?_
            refine zx_if_ne (tgt := 73) dX7_canClauseFail_58 (by decide) (fun h58 => ?_) (fun h58 => absurd (by omega) h58)
            refine zx_pc (pc1 := 73) rfl ?_
            refine zx_iconst (v := 0) dX7_canClauseFail_73 rfl (z32_lit (by decide) (by decide)) ?_
            refine zx_istore (i := 7) dX7_canClauseFail_74 (by decide) rfl ?_
            refine zx_L (L1 := [some (zR c), some (zR md), some (zI (cln (R.2.2.2.2.2.1 c).2.2.2.2.1.1 (m : Int))), some (zI (q : Int)), some (zR g), some (zI (knA (R.2.2.2.2.2.1 c) (m : Int) (q : Int))), some (zP (chA (R.2.2.2.2.2.1 c) (m : Int) (q : Int))), some (zI 0)]) rfl ?_
            refine zx_aload (i := 4) dX7_canClauseFail_76 rfl ?_
            refine zx_ifnull (tgt := 114) dX7_canClauseFail_78 (by decide) (fun h => by cases h) (fun _ => ?_)
            refine zx_iload (i := 7) dX7_canClauseFail_81 rfl ?_
            refine zx_if_eq (tgt := 100) dX7_canClauseFail_83 (by decide) (fun h83 => ?_) (fun h83 => absurd (by decide) h83)
            refine zx_aload (i := 4) dX7_canClauseFail_100 rfl ?_
            refine zx_aload (i := 6) dX7_canClauseFail_102 rfl ?_
            refine zx_iload (i := 5) dX7_canClauseFail_104 rfl ?_
            refine zx_is (As := [zR g, zP (chA (R.2.2.2.2.2.1 c) (m : Int) (q : Int)), zI (knA (R.2.2.2.2.2.1 c) (m : Int) (q : Int))]) (st := []) (v := (some (zI (zB (cgF R (R.2.2.2.2.2.2 g) (chA (R.2.2.2.2.2.1 c) (m : Int) (q : Int)) (knA (R.2.2.2.2.2.1 c) (m : Int) (q : Int)) = true))))) (w1 := w) dX7_canClauseFail_106 zc_X7_229 rfl (Nat.le_of_ble_eq_true rfl) rfl (c_X7_canGoalFail (d := d + 1) hg hch2 (knA (R.2.2.2.2.2.1 c) (m : Int) (q : Int))) ?_
            refine zx_st (st1 := [zI (zB (cgF R (R.2.2.2.2.2.2 g) (chA (R.2.2.2.2.2.1 c) (m : Int) (q : Int)) (knA (R.2.2.2.2.2.1 c) (m : Int) (q : Int)) = true))]) rfl ?_
            refine zx_if_eq (tgt := 114) dX7_canClauseFail_109 (by decide) (fun h109 => absurd h109 (by rw [zB_t hv]; decide)) (fun h109 => ?_)
            refine zx_iconst (v := 1) dX7_canClauseFail_112 rfl (z32_lit (by decide) (by decide)) ?_
            refine zx_pc (pc1 := 113) rfl ?_
            refine zx_zret dX7_canClauseFail_113 rfl (by first | exact Or.inl rfl | exact Or.inr rfl | exact zB_or | assumption) ?_
            exact zr_t rfl
          · rw [Bool.eq_false_iff.mpr hv, Bool.false_or]
            refine zx_iload_n (i := 3) dX7_canClauseFail_19 rfl rfl ?_
            refine zx_iload_n (i := 2) dX7_canClauseFail_20 rfl rfl ?_
            refine zx_icmp_ge (tgt := 120) dX7_canClauseFail_21 (by decide) (fun h21 => absurd h21 (by omega)) (fun h21 => ?_)
            refine zx_aload_n (i := 0) dX7_canClauseFail_24 rfl rfl ?_
            refine zx_aload_n (i := 1) dX7_canClauseFail_25 rfl rfl ?_
            refine zx_getfield dX7_canClauseFail_26 zf_X7_57 hmd rfl ?_
            refine zx_iload_n (i := 3) dX7_canClauseFail_29 rfl rfl ?_
            refine zx_iv (b := c) (As := [zI (m : Int), zI (q : Int)]) (st := []) (v := (some (zR g))) (w1 := w) dX7_canClauseFail_30 zc_X7_181 hC.1 rfl rfl rfl (Nat.le_of_ble_eq_true rfl) rfl (by have h := c_X1_goalIn (G := G) (d := d + 3) hC (m : Int) (q : Int); rw [show (if 0 ≤ csl (R.2.2.2.2.2.1 c).2.2.2.2.1.1 (m : Int) (q : Int) then (R.2.2.2.2.2.1 c).2.2.2.2.2.1.getD (csl (R.2.2.2.2.2.1 c).2.2.2.2.1.1 (m : Int) (q : Int)).toNat none else none) = _ from hod] at h; exact h) ?_
            refine zx_st (st1 := [zR g]) rfl ?_
            refine zx_astore (i := 4) dX7_canClauseFail_33 (by decide) rfl ?_
            refine zx_L (L1 := [some (zR c), some (zR md), some (zI (cln (R.2.2.2.2.2.1 c).2.2.2.2.1.1 (m : Int))), some (zI (q : Int)), some (zR g), o5, o6, o7]) rfl ?_
            refine zx_aload_n (i := 0) dX7_canClauseFail_35 rfl rfl ?_
            refine zx_aload_n (i := 1) dX7_canClauseFail_36 rfl rfl ?_
            refine zx_pc (pc1 := 37) rfl ?_
            refine zx_getfield dX7_canClauseFail_37 zf_X7_57 hmd rfl ?_
            refine zx_iload_n (i := 3) dX7_canClauseFail_40 rfl rfl ?_
            refine zx_iv (b := c) (As := [zI (m : Int), zI (q : Int)]) (st := []) (v := (some (zI (knA (R.2.2.2.2.2.1 c) (m : Int) (q : Int))))) (w1 := w) dX7_canClauseFail_41 zc_X7_222 hC.1 rfl rfl rfl (Nat.le_of_ble_eq_true rfl) rfl (c_X1_knownIn (G := G) (d := d + 3) hC (m : Int) (q : Int)) ?_
            refine zx_st (st1 := [zI (knA (R.2.2.2.2.2.1 c) (m : Int) (q : Int))]) rfl ?_
            refine zx_istore (i := 5) dX7_canClauseFail_44 (by decide) rfl ?_
            refine zx_L (L1 := [some (zR c), some (zR md), some (zI (cln (R.2.2.2.2.2.1 c).2.2.2.2.1.1 (m : Int))), some (zI (q : Int)), some (zR g), some (zI (knA (R.2.2.2.2.2.1 c) (m : Int) (q : Int))), o6, o7]) rfl ?_
            refine zx_aload_n (i := 0) dX7_canClauseFail_46 rfl rfl ?_
            refine zx_aload_n (i := 1) dX7_canClauseFail_47 rfl rfl ?_
            refine zx_getfield dX7_canClauseFail_48 zf_X7_57 hmd rfl ?_
            refine zx_iload_n (i := 3) dX7_canClauseFail_51 rfl rfl ?_
            refine zx_iv (b := c) (As := [zI (m : Int), zI (q : Int)]) (st := []) (v := (some (zP (chA (R.2.2.2.2.2.1 c) (m : Int) (q : Int))))) (w1 := w) dX7_canClauseFail_52 zc_X7_191 hC.1 rfl rfl rfl (Nat.le_of_ble_eq_true rfl) rfl (c_X1_chosenIn (G := G) (d := d + 3) hC (m : Int) (q : Int)) ?_
            refine zx_st (st1 := [zP (chA (R.2.2.2.2.2.1 c) (m : Int) (q : Int))]) rfl ?_
            refine zx_astore (i := 6) dX7_canClauseFail_55 (by decide) rfl ?_
            refine zx_L (L1 := [some (zR c), some (zR md), some (zI (cln (R.2.2.2.2.2.1 c).2.2.2.2.1.1 (m : Int))), some (zI (q : Int)), some (zR g), some (zI (knA (R.2.2.2.2.2.1 c) (m : Int) (q : Int))), some (zP (chA (R.2.2.2.2.2.1 c) (m : Int) (q : Int))), o7]) rfl ?_
            refine zx_iload_n (i := 3) dX7_canClauseFail_57 rfl rfl ?_
            refine zx_if_ne (tgt := 73) dX7_canClauseFail_58 (by decide) (fun h58 => ?_) (fun h58 => absurd (by omega) h58)
            refine zx_pc (pc1 := 73) rfl ?_
            refine zx_iconst (v := 0) dX7_canClauseFail_73 rfl (z32_lit (by decide) (by decide)) ?_
            refine zx_istore (i := 7) dX7_canClauseFail_74 (by decide) rfl ?_
            refine zx_L (L1 := [some (zR c), some (zR md), some (zI (cln (R.2.2.2.2.2.1 c).2.2.2.2.1.1 (m : Int))), some (zI (q : Int)), some (zR g), some (zI (knA (R.2.2.2.2.2.1 c) (m : Int) (q : Int))), some (zP (chA (R.2.2.2.2.2.1 c) (m : Int) (q : Int))), some (zI 0)]) rfl ?_
            refine zx_aload (i := 4) dX7_canClauseFail_76 rfl ?_
            refine zx_ifnull (tgt := 114) dX7_canClauseFail_78 (by decide) (fun h => by cases h) (fun _ => ?_)
            refine zx_iload (i := 7) dX7_canClauseFail_81 rfl ?_
            refine zx_if_eq (tgt := 100) dX7_canClauseFail_83 (by decide) (fun h83 => ?_) (fun h83 => absurd (by decide) h83)
            refine zx_aload (i := 4) dX7_canClauseFail_100 rfl ?_
            refine zx_aload (i := 6) dX7_canClauseFail_102 rfl ?_
            refine zx_iload (i := 5) dX7_canClauseFail_104 rfl ?_
            refine zx_is (As := [zR g, zP (chA (R.2.2.2.2.2.1 c) (m : Int) (q : Int)), zI (knA (R.2.2.2.2.2.1 c) (m : Int) (q : Int))]) (st := []) (v := (some (zI (zB (cgF R (R.2.2.2.2.2.2 g) (chA (R.2.2.2.2.2.1 c) (m : Int) (q : Int)) (knA (R.2.2.2.2.2.1 c) (m : Int) (q : Int)) = true))))) (w1 := w) dX7_canClauseFail_106 zc_X7_229 rfl (Nat.le_of_ble_eq_true rfl) rfl (c_X7_canGoalFail (d := d + 1) hg hch2 (knA (R.2.2.2.2.2.1 c) (m : Int) (q : Int))) ?_
            refine zx_st (st1 := [zI (zB (cgF R (R.2.2.2.2.2.2 g) (chA (R.2.2.2.2.2.1 c) (m : Int) (q : Int)) (knA (R.2.2.2.2.2.1 c) (m : Int) (q : Int)) = true))]) rfl ?_
            refine zx_if_eq (tgt := 114) dX7_canClauseFail_109 (by decide) (fun h109 => ?_) (fun h109 => absurd (zB_f hv) h109)
            refine zx_iinc (i := 3) (v := ((q + 1 : Nat) : Int)) dX7_canClauseFail_114 rfl (zw_eq (by omega) (by omega) (by omega)) (by decide) rfl ?_
            refine zx_L (L1 := [some (zR c), some (zR md), some (zI (cln (R.2.2.2.2.2.1 c).2.2.2.2.1.1 (m : Int))), some (zI ((q + 1 : Nat) : Int)), some (zR g), some (zI (knA (R.2.2.2.2.2.1 c) (m : Int) (q : Int))), some (zP (chA (R.2.2.2.2.2.1 c) (m : Int) (q : Int))), some (zI 0)]) rfl ?_
            refine zx_pc (pc1 := 117) rfl ?_
            refine zx_goto (tgt := 19) dX7_canClauseFail_117 (by decide) ?_
            exact ih (q + 1) _ _ _ _ (by omega)
  refine zx_L (L1 := [some (zR c), some (zR md), none, none, none, none, none, none]) rfl ?_
  refine zx_aload_n (i := 0) dX7_canClauseFail_0 rfl rfl ?_
  refine zx_ifnonnull (tgt := 8) dX7_canClauseFail_1 (by decide) (fun _ => ?_) (fun h => by cases h)
  refine zx_aload_n (i := 0) dX7_canClauseFail_8 rfl rfl ?_
  refine zx_aload_n (i := 1) dX7_canClauseFail_9 rfl rfl ?_
  refine zx_getfield dX7_canClauseFail_10 zf_X7_57 hmd rfl ?_
  refine zx_iv (b := c) (As := [zI (m : Int)]) (st := []) (v := (some (zI (cln (R.2.2.2.2.2.1 c).2.2.2.2.1.1 (m : Int))))) (w1 := w) dX7_canClauseFail_13 zc_X7_188 hC.1 rfl rfl rfl (Nat.le_of_ble_eq_true rfl) rfl (c_X1_placeCount hC (m : Int)) ?_
  refine zx_st (st1 := [zI (cln (R.2.2.2.2.2.1 c).2.2.2.2.1.1 (m : Int))]) rfl ?_
  refine zx_istore_n (i := 2) dX7_canClauseFail_16 rfl (by decide) rfl ?_
  refine zx_L (L1 := [some (zR c), some (zR md), some (zI (cln (R.2.2.2.2.2.1 c).2.2.2.2.1.1 (m : Int))), none, none, none, none, none]) rfl ?_
  refine zx_iconst (v := 0) dX7_canClauseFail_17 rfl (z32_lit (by decide) (by decide)) ?_
  refine zx_istore_n (i := 3) dX7_canClauseFail_18 rfl (by decide) rfl ?_
  refine zx_L (L1 := [some (zR c), some (zR md), some (zI (cln (R.2.2.2.2.2.1 c).2.2.2.2.1.1 (m : Int))), some (zI 0), none, none, none, none]) rfl ?_
  exact loop _ 0 none none none none (by omega)
end CFAIL
