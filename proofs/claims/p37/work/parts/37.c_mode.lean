/-! Own rows: canModeRepeat, isTypeCovered, canModeFail, findSwitch. Walked by program (wip/p37/m_mode.py). -/
def tcN (C : List (List Int)) (ty : Int) : Nat → Int
  | 0 => 0
  | k + 1 => tcN C ty k + (if tg C (k : Int) 0 = ty then 1 else 0)
theorem tcN_s {C : List (List Int)} {ty : Int} {k : Nat} : tcN C ty (k + 1) = tcN C ty k + (if tg C (k : Int) 0 = ty then 1 else 0) := rfl
theorem tcN_le {C : List (List Int)} {ty : Int} : ∀ {k : Nat}, 0 ≤ tcN C ty k ∧ tcN C ty k ≤ k
  | 0 => by simp [tcN]
  | k + 1 => by
    have h := tcN_le (C := C) (ty := ty) (k := k)
    rw [tcN_s]
    split <;> omega
def fsS (R : pgR) (ins m : Int) : List Nat → Int → Int → Int
  | [], f, _ => f
  | c :: cs, f, k => match odA (R.2.2.2.2.2.1 c) m 0 with
    | none => -1
    | some g => if (R.2.2.2.2.2.2 g).1 = 0 ∧ isIn ins (zVa (R.2.2.2.2.2.2 g).2.2.2.2 0) then (if (f ≠ -1 ∧ f ≠ zVa (R.2.2.2.2.2.2 g).2.2.2.2 0) ∨ bt1 k (R.2.2.2.2.2.2 g).2.1 then -1 else fsS R ins m cs (zVa (R.2.2.2.2.2.2 g).2.2.2.2 0) (zor k (zshl 1 (R.2.2.2.2.2.2 g).2.1))) else -1
theorem fsS_n {R : pgR} {ins m f k : Int} {c : Nat} {cs : List Nat} (h : odA (R.2.2.2.2.2.1 c) m 0 = none) : fsS R ins m (c :: cs) f k = -1 := by
  show (match odA (R.2.2.2.2.2.1 c) m 0 with | none => _ | some g => _) = _
  rw [h]
theorem fsS_s {R : pgR} {ins m f k : Int} {c g : Nat} {cs : List Nat} (h : odA (R.2.2.2.2.2.1 c) m 0 = some g) : fsS R ins m (c :: cs) f k = if (R.2.2.2.2.2.2 g).1 = 0 ∧ isIn ins (zVa (R.2.2.2.2.2.2 g).2.2.2.2 0) then (if (f ≠ -1 ∧ f ≠ zVa (R.2.2.2.2.2.2 g).2.2.2.2 0) ∨ bt1 k (R.2.2.2.2.2.2 g).2.1 then -1 else fsS R ins m cs (zVa (R.2.2.2.2.2.2 g).2.2.2.2 0) (zor k (zshl 1 (R.2.2.2.2.2.2 g).2.1))) else -1 := by
  show (match odA (R.2.2.2.2.2.1 c) m 0 with | none => _ | some g => _) = _
  rw [h]
section CMODE
variable {G : zG} {d : Nat} {w : zW} {pg : Nat} {R : pgR}
theorem c_X7_canModeRepeat (hP : pgW w pg R) (hO : pgO R) {md pr m : Nat} {CL : List Nat} {ins pm lo gd cf cr sw : Int} (hm : md ∈ R.2.2.1.2.1) (hmr : R.2.2.2.2.1 md = (pr, (m : Int), ins, pm, lo, gd, cf, cr, sw)) (hpr : pr ∈ R.2.2.1.1) (hCL : (R.2.2.2.1 pr).2.2.2.2 = CL) (hlen : CL.length < 1000) : zM G zm_X7_canModeRepeat (d + 6) [zR md] w (zRet (some (zI (zB ((sw = -1 ∧ 1 < CL.length) ∨ CL.any (crC R (m : Int)) = true)))) w) := by
  refine zx_ent (by decide +kernel) rfl (Nat.le_of_ble_eq_true rfl) ?_
  obtain ⟨-, -, -, -, hPr, hMo, hCl⟩ := id hP
  have hmd := hMo md hm
  unfold moW at hmd
  rw [hmr] at hmd
  obtain ⟨⟨hpy, htt, hml, hcl⟩, -, hsub, -⟩ := hPr pr hpr
  rw [hCL] at hsub
  have helC : ∀ y ∈ (R.2.2.2.1 pr).2.2.2.2, ∃ a b, w.1 y = some ((1, a, b) : zO) := by
    rw [hCL]
    exact fun y hy => ⟨_, _, (hCl y (hsub y hy)).1.1⟩
  by_cases h0 : sw = -1 ∧ 1 < CL.length
  · rw [zB_t (Or.inl h0)]
    obtain ⟨h01, h02⟩ := h0
    refine zx_L (L1 := [some (zR md), none, none]) rfl ?_
    refine zx_aload_n (i := 0) dX7_canModeRepeat_0 rfl rfl ?_
    refine zx_getfield dX7_canModeRepeat_1 zf_X7_102 hmd rfl ?_
    refine zx_iv (b := pr) (As := []) (st := []) (v := (some (zI (CL.length : Int)))) (w1 := w) dX7_canModeRepeat_4 zc_X7_106 hpy rfl rfl rfl (Nat.le_of_ble_eq_true rfl) rfl (by have h := c_X6_clauseCount (G := G) (d := d + 4) hpy hcl; rw [hCL] at h; exact h) ?_
    refine zx_st (st1 := [zI (CL.length : Int)]) rfl ?_
    refine zx_istore_n (i := 1) dX7_canModeRepeat_7 rfl (by decide) rfl ?_
    refine zx_L (L1 := [some (zR md), some (zI (CL.length : Int)), none]) rfl ?_
    refine zx_aload_n (i := 0) dX7_canModeRepeat_8 rfl rfl ?_
    refine zx_getfield dX7_canModeRepeat_9 zf_X7_91 hmd rfl ?_
    refine zx_iconst (v := -1) dX7_canModeRepeat_12 rfl (z32_lit (by decide) (by decide)) ?_
    refine zx_icmp_ne (tgt := 23) dX7_canModeRepeat_13 (by decide) (fun h13 => absurd h13 (not_not_intro h01)) (fun h13 => ?_)
    refine zx_iload_n (i := 1) dX7_canModeRepeat_16 rfl rfl ?_
    refine zx_iconst (v := 1) dX7_canModeRepeat_17 rfl (z32_lit (by decide) (by decide)) ?_
    refine zx_icmp_le (tgt := 23) dX7_canModeRepeat_18 (by decide) (fun h18 => absurd h18 (by omega)) (fun h18 => ?_)
    refine zx_pc (pc1 := 21) rfl ?_
    refine zx_iconst (v := 1) dX7_canModeRepeat_21 rfl (z32_lit (by decide) (by decide)) ?_
    refine zx_zret dX7_canModeRepeat_22 rfl (by first | exact Or.inl rfl | exact Or.inr rfl | exact zB_or | assumption) ?_
    exact zr_i rfl
  · have eq : ((sw = -1 ∧ 1 < CL.length) ∨ CL.any (crC R (m : Int)) = true) ↔ CL.any (crC R (m : Int)) = true := ⟨fun h => h.elim (fun x => absurd x h0) id, Or.inr⟩
    have loop : ∀ n q : Nat, q + n = CL.length → zX G zm_X7_canModeRepeat (d + 6) [zR md] w (zRet (some (zI (zB ((CL.drop q).any (crC R (m : Int)) = true)))) w) 25 [some (zR md), some (zI (CL.length : Int)), some (zI (q : Int))] [] w := by
      intro n
      induction n with
      | zero =>
        intro q hq
        rw [List.drop_eq_nil_of_le (by omega)]
        refine zx_iload_n (i := 2) dX7_canModeRepeat_25 rfl rfl ?_
        refine zx_iload_n (i := 1) dX7_canModeRepeat_26 rfl rfl ?_
        refine zx_icmp_ge (tgt := 53) dX7_canModeRepeat_27 (by decide) (fun h27 => ?_) (fun h27 => absurd (by omega) h27)
        refine zx_iconst (v := 0) dX7_canModeRepeat_53 rfl (z32_lit (by decide) (by decide)) ?_
        refine zx_zret dX7_canModeRepeat_54 rfl (by first | exact Or.inl rfl | exact Or.inr rfl | exact zB_or | assumption) ?_
        exact zr_f (by simp)
      | succ n ih =>
        intro q hq
        obtain ⟨c, hcq⟩ : ∃ c, CL[q]? = some c := ⟨_, List.getElem?_eq_getElem (by omega)⟩
        rw [drop_cons hcq, List.any_cons]
        by_cases hr : crC R (m : Int) c = true
        · rw [hr]
          refine zx_iload_n (i := 2) dX7_canModeRepeat_25 rfl rfl ?_
          refine zx_iload_n (i := 1) dX7_canModeRepeat_26 rfl rfl ?_
          refine zx_icmp_ge (tgt := 53) dX7_canModeRepeat_27 (by decide) (fun h27 => absurd h27 (by omega)) (fun h27 => ?_)
          refine zx_aload_n (i := 0) dX7_canModeRepeat_30 rfl rfl ?_
          refine zx_getfield dX7_canModeRepeat_31 zf_X7_102 hmd rfl ?_
          refine zx_iload_n (i := 2) dX7_canModeRepeat_34 rfl rfl ?_
          refine zx_iv (b := pr) (As := [zI (q : Int)]) (st := []) (v := (some (zR c))) (w1 := w) dX7_canModeRepeat_35 zc_X7_109 hpy rfl rfl rfl (Nat.le_of_ble_eq_true rfl) rfl (by have h := c_X6_clauseAt (G := G) (d := d + 2) hpy hcl helC (q : Int); rw [hCL, lAt_in (by omega) (by rw [Int.toNat_natCast]; exact hcq)] at h; exact h) ?_
          refine zx_st (st1 := [zR c]) rfl ?_
          refine zx_aload_n (i := 0) dX7_canModeRepeat_38 rfl rfl ?_
          refine zx_is (As := [zR c, zR md]) (st := []) (v := (some (zI (zB (crC R (m : Int) c = true))))) (w1 := w) dX7_canModeRepeat_39 zc_X7_219 rfl (Nat.le_of_ble_eq_true rfl) rfl (c_X7_canClauseRepeat (d := d) hP hO hm hmr (hsub c (List.mem_of_getElem? hcq))) ?_
          refine zx_st (st1 := [zI (zB (crC R (m : Int) c = true))]) rfl ?_
          refine zx_if_eq (tgt := 47) dX7_canModeRepeat_42 (by decide) (fun h42 => absurd h42 (by rw [zB_t hr]; decide)) (fun h42 => ?_)
          refine zx_iconst (v := 1) dX7_canModeRepeat_45 rfl (z32_lit (by decide) (by decide)) ?_
          refine zx_pc (pc1 := 46) rfl ?_
          refine zx_zret dX7_canModeRepeat_46 rfl (by first | exact Or.inl rfl | exact Or.inr rfl | exact zB_or | assumption) ?_
          exact zr_t rfl
        · rw [Bool.eq_false_iff.mpr hr, Bool.false_or]
          refine zx_iload_n (i := 2) dX7_canModeRepeat_25 rfl rfl ?_
          refine zx_iload_n (i := 1) dX7_canModeRepeat_26 rfl rfl ?_
          refine zx_icmp_ge (tgt := 53) dX7_canModeRepeat_27 (by decide) (fun h27 => absurd h27 (by omega)) (fun h27 => ?_)
          refine zx_aload_n (i := 0) dX7_canModeRepeat_30 rfl rfl ?_
          refine zx_getfield dX7_canModeRepeat_31 zf_X7_102 hmd rfl ?_
          refine zx_iload_n (i := 2) dX7_canModeRepeat_34 rfl rfl ?_
          refine zx_iv (b := pr) (As := [zI (q : Int)]) (st := []) (v := (some (zR c))) (w1 := w) dX7_canModeRepeat_35 zc_X7_109 hpy rfl rfl rfl (Nat.le_of_ble_eq_true rfl) rfl (by have h := c_X6_clauseAt (G := G) (d := d + 2) hpy hcl helC (q : Int); rw [hCL, lAt_in (by omega) (by rw [Int.toNat_natCast]; exact hcq)] at h; exact h) ?_
          refine zx_st (st1 := [zR c]) rfl ?_
          refine zx_aload_n (i := 0) dX7_canModeRepeat_38 rfl rfl ?_
          refine zx_is (As := [zR c, zR md]) (st := []) (v := (some (zI (zB (crC R (m : Int) c = true))))) (w1 := w) dX7_canModeRepeat_39 zc_X7_219 rfl (Nat.le_of_ble_eq_true rfl) rfl (c_X7_canClauseRepeat (d := d) hP hO hm hmr (hsub c (List.mem_of_getElem? hcq))) ?_
          refine zx_st (st1 := [zI (zB (crC R (m : Int) c = true))]) rfl ?_
          refine zx_if_eq (tgt := 47) dX7_canModeRepeat_42 (by decide) (fun h42 => ?_) (fun h42 => absurd (zB_f hr) h42)
          refine zx_iinc (i := 2) (v := ((q + 1 : Nat) : Int)) dX7_canModeRepeat_47 rfl (zw_eq (by omega) (by omega) (by omega)) (by decide) rfl ?_
          refine zx_L (L1 := [some (zR md), some (zI (CL.length : Int)), some (zI ((q + 1 : Nat) : Int))]) rfl ?_
          refine zx_pc (pc1 := 50) rfl ?_
          refine zx_goto (tgt := 25) dX7_canModeRepeat_50 (by decide) ?_
          exact ih (q + 1) (by omega)
    have h1 := loop CL.length 0 (by omega)
    rw [List.drop_zero] at h1
    have h2 : zB ((sw = -1 ∧ 1 < CL.length) ∨ CL.any (crC R (m : Int)) = true) = zB (CL.any (crC R (m : Int)) = true) := by simp only [eq]
    rw [h2]
    refine zx_L (L1 := [some (zR md), none, none]) rfl ?_
    by_cases h3 : sw = -1
    · refine zx_aload_n (i := 0) dX7_canModeRepeat_0 rfl rfl ?_
      refine zx_getfield dX7_canModeRepeat_1 zf_X7_102 hmd rfl ?_
      refine zx_iv (b := pr) (As := []) (st := []) (v := (some (zI (CL.length : Int)))) (w1 := w) dX7_canModeRepeat_4 zc_X7_106 hpy rfl rfl rfl (Nat.le_of_ble_eq_true rfl) rfl (by have h := c_X6_clauseCount (G := G) (d := d + 4) hpy hcl; rw [hCL] at h; exact h) ?_
      refine zx_st (st1 := [zI (CL.length : Int)]) rfl ?_
      refine zx_istore_n (i := 1) dX7_canModeRepeat_7 rfl (by decide) rfl ?_
      refine zx_L (L1 := [some (zR md), some (zI (CL.length : Int)), none]) rfl ?_
      refine zx_aload_n (i := 0) dX7_canModeRepeat_8 rfl rfl ?_
      refine zx_getfield dX7_canModeRepeat_9 zf_X7_91 hmd rfl ?_
      refine zx_iconst (v := -1) dX7_canModeRepeat_12 rfl (z32_lit (by decide) (by decide)) ?_
      refine zx_icmp_ne (tgt := 23) dX7_canModeRepeat_13 (by decide) (fun h13 => absurd h13 (not_not_intro h3)) (fun h13 => ?_)
      refine zx_iload_n (i := 1) dX7_canModeRepeat_16 rfl rfl ?_
      refine zx_iconst (v := 1) dX7_canModeRepeat_17 rfl (z32_lit (by decide) (by decide)) ?_
      refine zx_icmp_le (tgt := 23) dX7_canModeRepeat_18 (by decide) (fun h18 => ?_) (fun h18 => absurd (by omega) h18)
      refine zx_pc (pc1 := 23) rfl ?_
      refine zx_iconst (v := 0) dX7_canModeRepeat_23 rfl (z32_lit (by decide) (by decide)) ?_
      refine zx_istore_n (i := 2) dX7_canModeRepeat_24 rfl (by decide) rfl ?_
      refine zx_L (L1 := [some (zR md), some (zI (CL.length : Int)), some (zI 0)]) rfl ?_
      exact h1
    · refine zx_aload_n (i := 0) dX7_canModeRepeat_0 rfl rfl ?_
      refine zx_getfield dX7_canModeRepeat_1 zf_X7_102 hmd rfl ?_
      refine zx_iv (b := pr) (As := []) (st := []) (v := (some (zI (CL.length : Int)))) (w1 := w) dX7_canModeRepeat_4 zc_X7_106 hpy rfl rfl rfl (Nat.le_of_ble_eq_true rfl) rfl (by have h := c_X6_clauseCount (G := G) (d := d + 4) hpy hcl; rw [hCL] at h; exact h) ?_
      refine zx_st (st1 := [zI (CL.length : Int)]) rfl ?_
      refine zx_istore_n (i := 1) dX7_canModeRepeat_7 rfl (by decide) rfl ?_
      refine zx_L (L1 := [some (zR md), some (zI (CL.length : Int)), none]) rfl ?_
      refine zx_aload_n (i := 0) dX7_canModeRepeat_8 rfl rfl ?_
      refine zx_getfield dX7_canModeRepeat_9 zf_X7_91 hmd rfl ?_
      refine zx_iconst (v := -1) dX7_canModeRepeat_12 rfl (z32_lit (by decide) (by decide)) ?_
      refine zx_icmp_ne (tgt := 23) dX7_canModeRepeat_13 (by decide) (fun h13 => ?_) (fun h13 => absurd (h3) h13)
      refine zx_iconst (v := 0) dX7_canModeRepeat_23 rfl (z32_lit (by decide) (by decide)) ?_
      refine zx_istore_n (i := 2) dX7_canModeRepeat_24 rfl (by decide) rfl ?_
      refine zx_L (L1 := [some (zR md), some (zI (CL.length : Int)), some (zI 0)]) rfl ?_
      exact h1
theorem c_X7_isTypeCovered (hP : pgW w pg R) (hO : pgO R) {md pr m : Nat} {CL : List Nat} {ins pm lo gd cf cr sw : Int} (hm : md ∈ R.2.2.1.2.1) (hmr : R.2.2.2.2.1 md = (pr, (m : Int), ins, pm, lo, gd, cf, cr, sw)) (hpr : pr ∈ R.2.2.1.1) (hCL : (R.2.2.2.1 pr).2.2.2.2 = CL) (hlen : CL.length < 1000) {t tc tn th tz : Nat} {ty : Int} {C N H : List (List Int)} {S : List Int} (hT : tmW w t tc tn th tz ty C N H S) (hC10 : C.length < 1000) : zM G zm_X7_isTypeCovered (d + 2) [zR md, zR t] w (zRet (some (zI (zB (tcN C (tg (R.2.2.2.1 pr).2.1 sw 0) C.length = (CL.length : Int))))) w) := by
  refine zx_ent (by decide +kernel) rfl (Nat.le_of_ble_eq_true rfl) ?_
  obtain ⟨-, -, -, -, hPr, hMo, hCl⟩ := id hP
  have hmd := hMo md hm
  unfold moW at hmd
  rw [hmr] at hmd
  obtain ⟨⟨hpy, htt, hml, hcl⟩, -, hsub, -⟩ := hPr pr hpr
  rw [hCL] at hsub
  have helC : ∀ y ∈ (R.2.2.2.1 pr).2.2.2.2, ∃ a b, w.1 y = some ((1, a, b) : zO) := by
    rw [hCL]
    exact fun y hy => ⟨_, _, (hCl y (hsub y hy)).1.1⟩
  have loop : ∀ (n q : Nat) (x : Int), q + n = C.length → tcN C (tg (R.2.2.2.1 pr).2.1 sw 0) q = x → zX G zm_X7_isTypeCovered (d + 2) [zR md, zR t] w (zRet (some (zI (zB (tcN C (tg (R.2.2.2.1 pr).2.1 sw 0) C.length = (CL.length : Int))))) w) 17 [some (zR md), some (zR t), some (zI (tg (R.2.2.2.1 pr).2.1 sw 0)), some (zI x), some (zI (q : Int))] [] w := by
    intro n
    induction n with
    | zero =>
      intro q x hq hx
      subst hx
      have ek : q = C.length := by omega
      subst ek
      refine zx_iload (i := 4) dX7_isTypeCovered_17 rfl ?_
      refine zx_aload_n (i := 1) dX7_isTypeCovered_19 rfl rfl ?_
      refine zx_iv (b := t) (As := []) (st := [zI (C.length : Int)]) (v := (some (zI (C.length : Int)))) (w1 := w) dX7_isTypeCovered_20 zc_X7_211 hT.1 rfl rfl rfl (Nat.le_of_ble_eq_true rfl) rfl (c_X10_constructorCount hT) ?_
      refine zx_st (st1 := [zI (C.length : Int), zI (C.length : Int)]) rfl ?_
      refine zx_icmp_ge (tgt := 50) dX7_isTypeCovered_23 (by decide) (fun h23 => ?_) (fun h23 => absurd (by omega) h23)
      refine zx_iload_n (i := 3) dX7_isTypeCovered_50 rfl rfl ?_
      refine zx_aload_n (i := 0) dX7_isTypeCovered_51 rfl rfl ?_
      refine zx_getfield dX7_isTypeCovered_52 zf_X7_102 hmd rfl ?_
      refine zx_iv (b := pr) (As := []) (st := [zI (tcN C (tg (R.2.2.2.1 pr).2.1 sw 0) C.length)]) (v := (some (zI (CL.length : Int)))) (w1 := w) dX7_isTypeCovered_55 zc_X7_106 hpy rfl rfl rfl (Nat.le_of_ble_eq_true rfl) rfl (by have h := c_X6_clauseCount (G := G) (d := d) hpy hcl; rw [hCL] at h; exact h) ?_
      refine zx_st (st1 := [zI (CL.length : Int), zI (tcN C (tg (R.2.2.2.1 pr).2.1 sw 0) C.length)]) rfl ?_
      refine zx_icmp_ne (tgt := 65) dX7_isTypeCovered_58 (by decide) (fun h58 => ?_) (fun h58 => ?_)
      · refine zx_iconst (v := 0) dX7_isTypeCovered_65 rfl (z32_lit (by decide) (by decide)) ?_
        refine zx_zret dX7_isTypeCovered_66 rfl (by first | exact Or.inl rfl | exact Or.inr rfl | exact zB_or | assumption) ?_
        exact zr_f (by omega)
      · refine zx_iconst (v := 1) dX7_isTypeCovered_61 rfl (z32_lit (by decide) (by decide)) ?_
        refine zx_goto (tgt := 66) dX7_isTypeCovered_62 (by decide) ?_
        refine zx_pc (pc1 := 66) rfl ?_
        refine zx_zret dX7_isTypeCovered_66 rfl (by first | exact Or.inl rfl | exact Or.inr rfl | exact zB_or | assumption) ?_
        exact zr_t (by omega)
    | succ n ih =>
      intro q x hq hx
      subst hx
      have hb := tcN_le (C := C) (ty := (tg (R.2.2.2.1 pr).2.1 sw 0)) (k := q)
      by_cases he : tg C (q : Int) 0 = (tg (R.2.2.2.1 pr).2.1 sw 0)
      · refine zx_iload (i := 4) dX7_isTypeCovered_17 rfl ?_
        refine zx_aload_n (i := 1) dX7_isTypeCovered_19 rfl rfl ?_
        refine zx_iv (b := t) (As := []) (st := [zI (q : Int)]) (v := (some (zI (C.length : Int)))) (w1 := w) dX7_isTypeCovered_20 zc_X7_211 hT.1 rfl rfl rfl (Nat.le_of_ble_eq_true rfl) rfl (c_X10_constructorCount hT) ?_
        refine zx_st (st1 := [zI (C.length : Int), zI (q : Int)]) rfl ?_
        refine zx_icmp_ge (tgt := 50) dX7_isTypeCovered_23 (by decide) (fun h23 => absurd h23 (by omega)) (fun h23 => ?_)
        refine zx_iload_n (i := 3) dX7_isTypeCovered_26 rfl rfl ?_
        refine zx_aload_n (i := 1) dX7_isTypeCovered_27 rfl rfl ?_
        refine zx_iload (i := 4) dX7_isTypeCovered_28 rfl ?_
        refine zx_iv (b := t) (As := [zI (q : Int)]) (st := [zI (tcN C (tg (R.2.2.2.1 pr).2.1 sw 0) q)]) (v := (some (zI (tg C (q : Int) 0)))) (w1 := w) dX7_isTypeCovered_30 zc_X7_216 hT.1 rfl rfl rfl (Nat.le_of_ble_eq_true rfl) rfl (c_X10_typeOfHead hT (q : Int)) ?_
        refine zx_st (st1 := [zI (tg C (q : Int) 0), zI (tcN C (tg (R.2.2.2.1 pr).2.1 sw 0) q)]) rfl ?_
        refine zx_iload_n (i := 2) dX7_isTypeCovered_33 rfl rfl ?_
        refine zx_icmp_ne (tgt := 41) dX7_isTypeCovered_34 (by decide) (fun h34 => absurd h34 (not_not_intro he)) (fun h34 => ?_)
        refine zx_iconst (v := 1) dX7_isTypeCovered_37 rfl (z32_lit (by decide) (by decide)) ?_
        refine zx_pc (pc1 := 38) rfl ?_
        refine zx_goto (tgt := 42) dX7_isTypeCovered_38 (by decide) ?_
        refine zx_iadd (v := (tcN C (tg (R.2.2.2.1 pr).2.1 sw 0) q) + 1) dX7_isTypeCovered_42 (zw_id ⟨by omega, by omega⟩) ?_
        refine zx_istore_n (i := 3) dX7_isTypeCovered_43 rfl (by decide) rfl ?_
        refine zx_L (L1 := [some (zR md), some (zR t), some (zI (tg (R.2.2.2.1 pr).2.1 sw 0)), some (zI ((tcN C (tg (R.2.2.2.1 pr).2.1 sw 0) q) + 1)), some (zI (q : Int))]) rfl ?_
        refine zx_iinc (i := 4) (v := ((q + 1 : Nat) : Int)) dX7_isTypeCovered_44 rfl (zw_eq (by omega) (by omega) (by omega)) (by decide) rfl ?_
        refine zx_L (L1 := [some (zR md), some (zR t), some (zI (tg (R.2.2.2.1 pr).2.1 sw 0)), some (zI ((tcN C (tg (R.2.2.2.1 pr).2.1 sw 0) q) + 1)), some (zI ((q + 1 : Nat) : Int))]) rfl ?_
        refine zx_goto (tgt := 17) dX7_isTypeCovered_47 (by decide) ?_
        exact ih (q + 1) _ (by omega) (by rw [tcN_s, if_pos he])
      · refine zx_iload (i := 4) dX7_isTypeCovered_17 rfl ?_
        refine zx_aload_n (i := 1) dX7_isTypeCovered_19 rfl rfl ?_
        refine zx_iv (b := t) (As := []) (st := [zI (q : Int)]) (v := (some (zI (C.length : Int)))) (w1 := w) dX7_isTypeCovered_20 zc_X7_211 hT.1 rfl rfl rfl (Nat.le_of_ble_eq_true rfl) rfl (c_X10_constructorCount hT) ?_
        refine zx_st (st1 := [zI (C.length : Int), zI (q : Int)]) rfl ?_
        refine zx_icmp_ge (tgt := 50) dX7_isTypeCovered_23 (by decide) (fun h23 => absurd h23 (by omega)) (fun h23 => ?_)
        refine zx_iload_n (i := 3) dX7_isTypeCovered_26 rfl rfl ?_
        refine zx_aload_n (i := 1) dX7_isTypeCovered_27 rfl rfl ?_
        refine zx_iload (i := 4) dX7_isTypeCovered_28 rfl ?_
        refine zx_iv (b := t) (As := [zI (q : Int)]) (st := [zI (tcN C (tg (R.2.2.2.1 pr).2.1 sw 0) q)]) (v := (some (zI (tg C (q : Int) 0)))) (w1 := w) dX7_isTypeCovered_30 zc_X7_216 hT.1 rfl rfl rfl (Nat.le_of_ble_eq_true rfl) rfl (c_X10_typeOfHead hT (q : Int)) ?_
        refine zx_st (st1 := [zI (tg C (q : Int) 0), zI (tcN C (tg (R.2.2.2.1 pr).2.1 sw 0) q)]) rfl ?_
        refine zx_iload_n (i := 2) dX7_isTypeCovered_33 rfl rfl ?_
        refine zx_icmp_ne (tgt := 41) dX7_isTypeCovered_34 (by decide) (fun h34 => ?_) (fun h34 => absurd (he) h34)
        refine zx_iconst (v := 0) dX7_isTypeCovered_41 rfl (z32_lit (by decide) (by decide)) ?_
        refine zx_pc (pc1 := 42) rfl ?_
        refine zx_iadd (v := (tcN C (tg (R.2.2.2.1 pr).2.1 sw 0) q) + 0) dX7_isTypeCovered_42 (zw_id ⟨by omega, by omega⟩) ?_
        refine zx_istore_n (i := 3) dX7_isTypeCovered_43 rfl (by decide) rfl ?_
        refine zx_L (L1 := [some (zR md), some (zR t), some (zI (tg (R.2.2.2.1 pr).2.1 sw 0)), some (zI ((tcN C (tg (R.2.2.2.1 pr).2.1 sw 0) q) + 0)), some (zI (q : Int))]) rfl ?_
        refine zx_iinc (i := 4) (v := ((q + 1 : Nat) : Int)) dX7_isTypeCovered_44 rfl (zw_eq (by omega) (by omega) (by omega)) (by decide) rfl ?_
        refine zx_L (L1 := [some (zR md), some (zR t), some (zI (tg (R.2.2.2.1 pr).2.1 sw 0)), some (zI ((tcN C (tg (R.2.2.2.1 pr).2.1 sw 0) q) + 0)), some (zI ((q + 1 : Nat) : Int))]) rfl ?_
        refine zx_goto (tgt := 17) dX7_isTypeCovered_47 (by decide) ?_
        exact ih (q + 1) _ (by omega) (by rw [tcN_s, if_neg he])
  refine zx_L (L1 := [some (zR md), some (zR t), none, none, none]) rfl ?_
  refine zx_aload_n (i := 0) dX7_isTypeCovered_0 rfl rfl ?_
  refine zx_getfield dX7_isTypeCovered_1 zf_X7_102 hmd rfl ?_
  refine zx_aload_n (i := 0) dX7_isTypeCovered_4 rfl rfl ?_
  refine zx_getfield dX7_isTypeCovered_5 zf_X7_91 hmd rfl ?_
  refine zx_iv (b := pr) (As := [zI sw]) (st := []) (v := (some (zI (tg (R.2.2.2.1 pr).2.1 sw 0)))) (w1 := w) dX7_isTypeCovered_8 zc_X7_208 hpy rfl rfl rfl (Nat.le_of_ble_eq_true rfl) rfl (c_X6_typeAt hpy htt.1 htt.2 sw) ?_
  refine zx_st (st1 := [zI (tg (R.2.2.2.1 pr).2.1 sw 0)]) rfl ?_
  refine zx_istore_n (i := 2) dX7_isTypeCovered_11 rfl (by decide) rfl ?_
  refine zx_L (L1 := [some (zR md), some (zR t), some (zI (tg (R.2.2.2.1 pr).2.1 sw 0)), none, none]) rfl ?_
  refine zx_iconst (v := 0) dX7_isTypeCovered_12 rfl (z32_lit (by decide) (by decide)) ?_
  refine zx_istore_n (i := 3) dX7_isTypeCovered_13 rfl (by decide) rfl ?_
  refine zx_L (L1 := [some (zR md), some (zR t), some (zI (tg (R.2.2.2.1 pr).2.1 sw 0)), some (zI 0), none]) rfl ?_
  refine zx_iconst (v := 0) dX7_isTypeCovered_14 rfl (z32_lit (by decide) (by decide)) ?_
  refine zx_istore (i := 4) dX7_isTypeCovered_15 (by decide) rfl ?_
  refine zx_L (L1 := [some (zR md), some (zR t), some (zI (tg (R.2.2.2.1 pr).2.1 sw 0)), some (zI 0), some (zI 0)]) rfl ?_
  exact loop C.length 0 _ (by omega) rfl
end CMODE
