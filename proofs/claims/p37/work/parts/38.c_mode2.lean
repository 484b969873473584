/-! Own rows: canModeFail, findSwitch. Walked by program (wip/p37/m_mode2.py). -/
def cmfV (R : pgR) (C : List (List Int)) (pr : Nat) (CL : List Nat) (sw m : Int) : Prop :=
  if sw ≠ -1 then 0 < (CL.filter (cfC R sw m)).length ∨ ¬ tcN C (tg (R.2.2.2.1 pr).2.1 sw 0) C.length = (CL.length : Int) else (CL.filter (cfC R sw m)).length = CL.length
theorem cmfV_dec (R : pgR) (C : List (List Int)) (pr : Nat) (CL : List Nat) (sw m : Int) : cmfV R C pr CL sw m ∨ ¬ cmfV R C pr CL sw m := Classical.em _
section CMODE2
variable {G : zG} {d : Nat} {w : zW} {pg : Nat} {R : pgR}
theorem c_X7_canModeFail (hP : pgW w pg R) (hO : pgO R) {md pr m : Nat} {CL : List Nat} {ins pm lo gd cf cr sw : Int} (hm : md ∈ R.2.2.1.2.1) (hmr : R.2.2.2.2.1 md = (pr, (m : Int), ins, pm, lo, gd, cf, cr, sw)) (hpr : pr ∈ R.2.2.1.1) (hCL : (R.2.2.2.1 pr).2.2.2.2 = CL) (hlen : CL.length < 1000) {t tc tn th tz : Nat} {ty : Int} {C N H : List (List Int)} {S : List Int} (hT : tmW w t tc tn th tz ty C N H S) (hC10 : C.length < 1000) : zM G zm_X7_canModeFail (d + 6) [zR md, zR t] w (zRet (some (zI (if sw ≠ -1 then zB (0 < (CL.filter (cfC R sw (m : Int))).length ∨ ¬ tcN C (tg (R.2.2.2.1 pr).2.1 sw 0) C.length = (CL.length : Int)) else zB ((CL.filter (cfC R sw (m : Int))).length = CL.length)))) w) := by
  refine zx_ent (by decide +kernel) rfl (Nat.le_of_ble_eq_true rfl) ?_
  obtain ⟨-, -, -, -, hPr, hMo, hCl⟩ := id hP
  have hmd := hMo md hm
  unfold moW at hmd
  rw [hmr] at hmd
  obtain ⟨⟨hpy, htt, hml, hcl⟩, -, hsub, -⟩ := hPr pr hpr
  rw [hCL] at hsub
  have helC : ∀ y ∈ (R.2.2.2.1 pr).2.2.2.2, ∃ a b, w.1 y = some ((1, a, b) : zO) := by
    rw [hCL]
    exact fun y hy => ⟨_, _, (hCl y (hsub y hy)).1.1⟩
  have loop : ∀ n q x : Nat, q + n = CL.length → x ≤ q → x + ((CL.drop q).filter (cfC R sw (m : Int))).length = (CL.filter (cfC R sw (m : Int))).length → zX G zm_X7_canModeFail (d + 6) [zR md, zR t] w (zRet (some (zI (if sw ≠ -1 then zB (0 < (CL.filter (cfC R sw (m : Int))).length ∨ ¬ tcN C (tg (R.2.2.2.1 pr).2.1 sw 0) C.length = (CL.length : Int)) else zB ((CL.filter (cfC R sw (m : Int))).length = CL.length)))) w) 4 [some (zR md), some (zR t), some (zI (x : Int)), some (zI (q : Int))] [] w := by
    intro n
    induction n with
    | zero =>
      intro q x hq hxq hx
      rw [List.drop_eq_nil_of_le (by omega)] at hx
      have ex : x = (CL.filter (cfC R sw (m : Int))).length := hx
      subst ex
      by_cases hsw : sw ≠ -1
      · refine zx_iload_n (i := 3) dX7_canModeFail_4 rfl rfl ?_
        refine zx_aload_n (i := 0) dX7_canModeFail_5 rfl rfl ?_
        refine zx_getfield dX7_canModeFail_6 zf_X7_102 hmd rfl ?_
        refine zx_iv (b := pr) (As := []) (st := [zI (q : Int)]) (v := (some (zI (CL.length : Int)))) (w1 := w) dX7_canModeFail_9 zc_X7_106 hpy rfl rfl rfl (Nat.le_of_ble_eq_true rfl) rfl (by have h := c_X6_clauseCount (G := G) (d := d + 4) hpy hcl; rw [hCL] at h; exact h) ?_
        refine zx_st (st1 := [zI (CL.length : Int), zI (q : Int)]) rfl ?_
        refine zx_icmp_ge (tgt := 44) dX7_canModeFail_12 (by decide) (fun h12 => ?_) (fun h12 => absurd (by omega) h12)
        refine zx_aload_n (i := 0) dX7_canModeFail_44 rfl rfl ?_
        refine zx_getfield dX7_canModeFail_45 zf_X7_91 hmd rfl ?_
        refine zx_iconst (v := -1) dX7_canModeFail_48 rfl (z32_lit (by decide) (by decide)) ?_
        refine zx_icmp_eq (tgt := 70) dX7_canModeFail_49 (by decide) (fun h49 => absurd h49 (hsw)) (fun h49 => ?_)
        refine zx_iload_n (i := 2) dX7_canModeFail_52 rfl rfl ?_
        refine zx_if_gt (tgt := 64) dX7_canModeFail_53 (by decide) (fun h53 => ?_) (fun h53 => ?_)
        · refine zx_pc (pc1 := 64) rfl ?_
          refine zx_iconst (v := 1) dX7_canModeFail_64 rfl (z32_lit (by decide) (by decide)) ?_
          refine zx_goto (tgt := 69) dX7_canModeFail_65 (by decide) ?_
          refine zx_zret dX7_canModeFail_69 rfl (by first | exact Or.inl rfl | exact Or.inr rfl | exact zB_or | assumption) ?_
          exact zr_i (by rw [if_pos hsw, zB_t (by first | exact Or.inl (by omega) | exact Or.inr (zB_zero.mp (by omega)))])
        · refine zx_pc (pc1 := 56) rfl ?_
          refine zx_aload_n (i := 0) dX7_canModeFail_56 rfl rfl ?_
          refine zx_aload_n (i := 1) dX7_canModeFail_57 rfl rfl ?_
          refine zx_is (As := [zR md, zR t]) (st := []) (v := (some (zI (zB (tcN C (tg (R.2.2.2.1 pr).2.1 sw 0) C.length = (CL.length : Int)))))) (w1 := w) dX7_canModeFail_58 zc_X7_205 rfl (Nat.le_of_ble_eq_true rfl) rfl (c_X7_isTypeCovered (d := d + 3) hP hO hm hmr hpr hCL hlen hT hC10) ?_
          refine zx_st (st1 := [zI (zB (tcN C (tg (R.2.2.2.1 pr).2.1 sw 0) C.length = (CL.length : Int)))]) rfl ?_
          refine zx_if_ne (tgt := 68) dX7_canModeFail_61 (by decide) (fun h61 => ?_) (fun h61 => ?_)
          · refine zx_iconst (v := 0) dX7_canModeFail_68 rfl (z32_lit (by decide) (by decide)) ?_
            refine zx_zret dX7_canModeFail_69 rfl (by first | exact Or.inl rfl | exact Or.inr rfl | exact zB_or | assumption) ?_
            exact zr_i (by rw [if_pos hsw, zB_f (fun h => h.elim (fun a => by omega) (fun b => b (zB_nz.mp (by omega))))])
          · refine zx_iconst (v := 1) dX7_canModeFail_64 rfl (z32_lit (by decide) (by decide)) ?_
            refine zx_goto (tgt := 69) dX7_canModeFail_65 (by decide) ?_
            refine zx_zret dX7_canModeFail_69 rfl (by first | exact Or.inl rfl | exact Or.inr rfl | exact zB_or | assumption) ?_
            exact zr_i (by rw [if_pos hsw, zB_t (by first | exact Or.inl (by omega) | exact Or.inr (zB_zero.mp (by omega)))])
      · have hsw : sw = -1 := Decidable.not_not.mp hsw
        refine zx_iload_n (i := 3) dX7_canModeFail_4 rfl rfl ?_
        refine zx_aload_n (i := 0) dX7_canModeFail_5 rfl rfl ?_
        refine zx_getfield dX7_canModeFail_6 zf_X7_102 hmd rfl ?_
        refine zx_iv (b := pr) (As := []) (st := [zI (q : Int)]) (v := (some (zI (CL.length : Int)))) (w1 := w) dX7_canModeFail_9 zc_X7_106 hpy rfl rfl rfl (Nat.le_of_ble_eq_true rfl) rfl (by have h := c_X6_clauseCount (G := G) (d := d + 4) hpy hcl; rw [hCL] at h; exact h) ?_
        refine zx_st (st1 := [zI (CL.length : Int), zI (q : Int)]) rfl ?_
        refine zx_icmp_ge (tgt := 44) dX7_canModeFail_12 (by decide) (fun h12 => ?_) (fun h12 => absurd (by omega) h12)
        refine zx_aload_n (i := 0) dX7_canModeFail_44 rfl rfl ?_
        refine zx_getfield dX7_canModeFail_45 zf_X7_91 hmd rfl ?_
        refine zx_iconst (v := -1) dX7_canModeFail_48 rfl (z32_lit (by decide) (by decide)) ?_
        refine zx_icmp_eq (tgt := 70) dX7_canModeFail_49 (by decide) (fun h49 => ?_) (fun h49 => absurd (hsw) h49)
        refine zx_iload_n (i := 2) dX7_canModeFail_70 rfl rfl ?_
        refine zx_aload_n (i := 0) dX7_canModeFail_71 rfl rfl ?_
        refine zx_pc (pc1 := 72) rfl ?_
        refine zx_getfield dX7_canModeFail_72 zf_X7_102 hmd rfl ?_
        refine zx_iv (b := pr) (As := []) (st := [zI ((CL.filter (cfC R sw (m : Int))).length : Int)]) (v := (some (zI (CL.length : Int)))) (w1 := w) dX7_canModeFail_75 zc_X7_106 hpy rfl rfl rfl (Nat.le_of_ble_eq_true rfl) rfl (by have h := c_X6_clauseCount (G := G) (d := d + 4) hpy hcl; rw [hCL] at h; exact h) ?_
        refine zx_st (st1 := [zI (CL.length : Int), zI ((CL.filter (cfC R sw (m : Int))).length : Int)]) rfl ?_
        refine zx_icmp_ne (tgt := 85) dX7_canModeFail_78 (by decide) (fun h78 => ?_) (fun h78 => ?_)
        · refine zx_iconst (v := 0) dX7_canModeFail_85 rfl (z32_lit (by decide) (by decide)) ?_
          refine zx_zret dX7_canModeFail_86 rfl (by first | exact Or.inl rfl | exact Or.inr rfl | exact zB_or | assumption) ?_
          exact zr_i (by rw [if_neg (not_not_intro hsw), zB_f (by omega)])
        · refine zx_iconst (v := 1) dX7_canModeFail_81 rfl (z32_lit (by decide) (by decide)) ?_
          refine zx_goto (tgt := 86) dX7_canModeFail_82 (by decide) ?_
          refine zx_zret dX7_canModeFail_86 rfl (by first | exact Or.inl rfl | exact Or.inr rfl | exact zB_or | assumption) ?_
          exact zr_i (by rw [if_neg (not_not_intro hsw), zB_t (by omega)])
    | succ n ih =>
      intro q x hq hxq hx
      obtain ⟨c, hcq⟩ : ∃ c, CL[q]? = some c := ⟨_, List.getElem?_eq_getElem (by omega)⟩
      rw [drop_cons hcq, List.filter_cons] at hx
      by_cases hr : cfC R sw (m : Int) c = true
      · rw [if_pos hr, List.length_cons] at hx
        refine zx_iload_n (i := 3) dX7_canModeFail_4 rfl rfl ?_
        refine zx_aload_n (i := 0) dX7_canModeFail_5 rfl rfl ?_
        refine zx_getfield dX7_canModeFail_6 zf_X7_102 hmd rfl ?_
        refine zx_iv (b := pr) (As := []) (st := [zI (q : Int)]) (v := (some (zI (CL.length : Int)))) (w1 := w) dX7_canModeFail_9 zc_X7_106 hpy rfl rfl rfl (Nat.le_of_ble_eq_true rfl) rfl (by have h := c_X6_clauseCount (G := G) (d := d + 4) hpy hcl; rw [hCL] at h; exact h) ?_
        refine zx_st (st1 := [zI (CL.length : Int), zI (q : Int)]) rfl ?_
        refine zx_icmp_ge (tgt := 44) dX7_canModeFail_12 (by decide) (fun h12 => absurd h12 (by omega)) (fun h12 => ?_)
        refine zx_iload_n (i := 2) dX7_canModeFail_15 rfl rfl ?_
        refine zx_aload_n (i := 0) dX7_canModeFail_16 rfl rfl ?_
        refine zx_getfield dX7_canModeFail_17 zf_X7_102 hmd rfl ?_
        refine zx_iload_n (i := 3) dX7_canModeFail_20 rfl rfl ?_
        refine zx_iv (b := pr) (As := [zI (q : Int)]) (st := [zI (x : Int)]) (v := (some (zR c))) (w1 := w) dX7_canModeFail_21 zc_X7_109 hpy rfl rfl rfl (Nat.le_of_ble_eq_true rfl) rfl (by have h := c_X6_clauseAt (G := G) (d := d + 2) hpy hcl helC (q : Int); rw [hCL, lAt_in (by omega) (by rw [Int.toNat_natCast]; exact hcq)] at h; exact h) ?_
        refine zx_st (st1 := [zR c, zI (x : Int)]) rfl ?_
        refine zx_aload_n (i := 0) dX7_canModeFail_24 rfl rfl ?_
        refine zx_pc (pc1 := 25) rfl ?_
        refine zx_is (As := [zR c, zR md]) (st := [zI (x : Int)]) (v := (some (zI (zB (cfC R sw (m : Int) c = true))))) (w1 := w) dX7_canModeFail_25 zc_X7_202 rfl (Nat.le_of_ble_eq_true rfl) rfl (c_X7_canClauseFail (d := d) hP hO hm hmr (hsub c (List.mem_of_getElem? hcq))) ?_
        refine zx_st (st1 := [zI (zB (cfC R sw (m : Int) c = true)), zI (x : Int)]) rfl ?_
        refine zx_if_eq (tgt := 35) dX7_canModeFail_28 (by decide) (fun h28 => absurd h28 (by rw [zB_t hr]; decide)) (fun h28 => ?_)
        refine zx_iconst (v := 1) dX7_canModeFail_31 rfl (z32_lit (by decide) (by decide)) ?_
        refine zx_goto (tgt := 36) dX7_canModeFail_32 (by decide) ?_
        refine zx_iadd (v := ((x + 1 : Nat) : Int)) dX7_canModeFail_36 (zw_eq (by omega) (by omega) (by omega)) ?_
        refine zx_istore_n (i := 2) dX7_canModeFail_37 rfl (by decide) rfl ?_
        refine zx_L (L1 := [some (zR md), some (zR t), some (zI ((x + 1 : Nat) : Int)), some (zI (q : Int))]) rfl ?_
        refine zx_iinc (i := 3) (v := ((q + 1 : Nat) : Int)) dX7_canModeFail_38 rfl (zw_eq (by omega) (by omega) (by omega)) (by decide) rfl ?_
        refine zx_L (L1 := [some (zR md), some (zR t), some (zI ((x + 1 : Nat) : Int)), some (zI ((q + 1 : Nat) : Int))]) rfl ?_
        refine zx_goto (tgt := 4) dX7_canModeFail_41 (by decide) ?_
        exact ih (q + 1) (x + 1) (by omega) (by omega) (by omega)
      · rw [if_neg hr] at hx
        refine zx_iload_n (i := 3) dX7_canModeFail_4 rfl rfl ?_
        refine zx_aload_n (i := 0) dX7_canModeFail_5 rfl rfl ?_
        refine zx_getfield dX7_canModeFail_6 zf_X7_102 hmd rfl ?_
        refine zx_iv (b := pr) (As := []) (st := [zI (q : Int)]) (v := (some (zI (CL.length : Int)))) (w1 := w) dX7_canModeFail_9 zc_X7_106 hpy rfl rfl rfl (Nat.le_of_ble_eq_true rfl) rfl (by have h := c_X6_clauseCount (G := G) (d := d + 4) hpy hcl; rw [hCL] at h; exact h) ?_
        refine zx_st (st1 := [zI (CL.length : Int), zI (q : Int)]) rfl ?_
        refine zx_icmp_ge (tgt := 44) dX7_canModeFail_12 (by decide) (fun h12 => absurd h12 (by omega)) (fun h12 => ?_)
        refine zx_iload_n (i := 2) dX7_canModeFail_15 rfl rfl ?_
        refine zx_aload_n (i := 0) dX7_canModeFail_16 rfl rfl ?_
        refine zx_getfield dX7_canModeFail_17 zf_X7_102 hmd rfl ?_
        refine zx_iload_n (i := 3) dX7_canModeFail_20 rfl rfl ?_
        refine zx_iv (b := pr) (As := [zI (q : Int)]) (st := [zI (x : Int)]) (v := (some (zR c))) (w1 := w) dX7_canModeFail_21 zc_X7_109 hpy rfl rfl rfl (Nat.le_of_ble_eq_true rfl) rfl (by have h := c_X6_clauseAt (G := G) (d := d + 2) hpy hcl helC (q : Int); rw [hCL, lAt_in (by omega) (by rw [Int.toNat_natCast]; exact hcq)] at h; exact h) ?_
        refine zx_st (st1 := [zR c, zI (x : Int)]) rfl ?_
        refine zx_aload_n (i := 0) dX7_canModeFail_24 rfl rfl ?_
        refine zx_pc (pc1 := 25) rfl ?_
        refine zx_is (As := [zR c, zR md]) (st := [zI (x : Int)]) (v := (some (zI (zB (cfC R sw (m : Int) c = true))))) (w1 := w) dX7_canModeFail_25 zc_X7_202 rfl (Nat.le_of_ble_eq_true rfl) rfl (c_X7_canClauseFail (d := d) hP hO hm hmr (hsub c (List.mem_of_getElem? hcq))) ?_
        refine zx_st (st1 := [zI (zB (cfC R sw (m : Int) c = true)), zI (x : Int)]) rfl ?_
        refine zx_if_eq (tgt := 35) dX7_canModeFail_28 (by decide) (fun h28 => ?_) (fun h28 => absurd (zB_f hr) h28)
        refine zx_iconst (v := 0) dX7_canModeFail_35 rfl (z32_lit (by decide) (by decide)) ?_
        refine zx_iadd (v := (x : Int)) dX7_canModeFail_36 (zw_eq (by omega) (by omega) (by omega)) ?_
        refine zx_istore_n (i := 2) dX7_canModeFail_37 rfl (by decide) rfl ?_
        refine zx_L (L1 := [some (zR md), some (zR t), some (zI (x : Int)), some (zI (q : Int))]) rfl ?_
        refine zx_iinc (i := 3) (v := ((q + 1 : Nat) : Int)) dX7_canModeFail_38 rfl (zw_eq (by omega) (by omega) (by omega)) (by decide) rfl ?_
        refine zx_L (L1 := [some (zR md), some (zR t), some (zI (x : Int)), some (zI ((q + 1 : Nat) : Int))]) rfl ?_
        refine zx_goto (tgt := 4) dX7_canModeFail_41 (by decide) ?_
        exact ih (q + 1) x (by omega) (by omega) (by omega)
  refine zx_L (L1 := [some (zR md), some (zR t), none, none]) rfl ?_
  refine zx_iconst (v := 0) dX7_canModeFail_0 rfl (z32_lit (by decide) (by decide)) ?_
  refine zx_istore_n (i := 2) dX7_canModeFail_1 rfl (by decide) rfl ?_
  refine zx_L (L1 := [some (zR md), some (zR t), some (zI 0), none]) rfl ?_
  refine zx_iconst (v := 0) dX7_canModeFail_2 rfl (z32_lit (by decide) (by decide)) ?_
  refine zx_istore_n (i := 3) dX7_canModeFail_3 rfl (by decide) rfl ?_
  refine zx_L (L1 := [some (zR md), some (zR t), some (zI 0), some (zI 0)]) rfl ?_
  exact loop CL.length 0 0 (by omega) (by omega) (by rw [List.drop_zero, Nat.zero_add])
theorem c_X7_findSwitch (hP : pgW w pg R) (hO : pgO R) {md pr m : Nat} {CL : List Nat} {ins pm lo gd cf cr sw : Int} (hm : md ∈ R.2.2.1.2.1) (hmr : R.2.2.2.2.1 md = (pr, (m : Int), ins, pm, lo, gd, cf, cr, sw)) (hpr : pr ∈ R.2.2.1.1) (hCL : (R.2.2.2.1 pr).2.2.2.2 = CL) (hlen : CL.length < 1000) : zM G zm_X7_findSwitch (d + 5) [zR md] w (zRet (some (zI (fsS R ins (m : Int) CL (-1) 0))) w) := by
  refine zx_ent (by decide +kernel) rfl (Nat.le_of_ble_eq_true rfl) ?_
  obtain ⟨-, -, -, -, hPr, hMo, hCl⟩ := id hP
  have hmd := hMo md hm
  unfold moW at hmd
  rw [hmr] at hmd
  obtain ⟨⟨hpy, htt, hml, hcl⟩, -, hsub, -⟩ := hPr pr hpr
  rw [hCL] at hsub
  have helC : ∀ y ∈ (R.2.2.2.1 pr).2.2.2.2, ∃ a b, w.1 y = some ((1, a, b) : zO) := by
    rw [hCL]
    exact fun y hy => ⟨_, _, (hCl y (hsub y hy)).1.1⟩
  have loop : ∀ (n q : Nat) (f k : Int) (o4 o5 o6 : Option zV), q + n = CL.length → zX G zm_X7_findSwitch (d + 5) [zR md] w (zRet (some (zI (fsS R ins (m : Int) (CL.drop q) f k))) w) 6 [some (zR md), some (zI f), some (zI k), some (zI (q : Int)), o4, o5, o6] [] w := by
    intro n
    induction n with
    | zero =>
      intro q f k o4 o5 o6 hq
      rw [List.drop_eq_nil_of_le (by omega)]
      refine zx_iload_n (i := 3) dX7_findSwitch_6 rfl rfl ?_
      refine zx_aload_n (i := 0) dX7_findSwitch_7 rfl rfl ?_
      refine zx_getfield dX7_findSwitch_8 zf_X7_102 hmd rfl ?_
      refine zx_iv (b := pr) (As := []) (st := [zI (q : Int)]) (v := (some (zI (CL.length : Int)))) (w1 := w) dX7_findSwitch_11 zc_X7_106 hpy rfl rfl rfl (Nat.le_of_ble_eq_true rfl) rfl (by have h := c_X6_clauseCount (G := G) (d := d + 3) hpy hcl; rw [hCL] at h; exact h) ?_
      refine zx_st (st1 := [zI (CL.length : Int), zI (q : Int)]) rfl ?_
      refine zx_icmp_ge (tgt := 141) dX7_findSwitch_14 (by decide) (fun h14 => ?_) (fun h14 => absurd (by omega) h14)
      refine zx_iload_n (i := 1) dX7_findSwitch_141 rfl rfl ?_
      refine zx_iret dX7_findSwitch_142 rfl ?_
      exact zr_i rfl
    | succ n ih =>
      intro q f k o4 o5 o6 hq
      obtain ⟨c, hcq⟩ : ∃ c, CL[q]? = some c := ⟨_, List.getElem?_eq_getElem (by omega)⟩
      have hcs : c ∈ R.2.2.1.2.2 := hsub c (List.mem_of_getElem? hcq)
      obtain ⟨hC, hgo⟩ := hCl c hcs
      obtain ⟨hO1, -, -⟩ := hO c hcs
      rw [drop_cons hcq]
      cases hod : odA (R.2.2.2.2.2.1 c) (m : Int) 0 with
      | none =>
        rw [fsS_n hod]
        refine zx_iload_n (i := 3) dX7_findSwitch_6 rfl rfl ?_
        refine zx_aload_n (i := 0) dX7_findSwitch_7 rfl rfl ?_
        refine zx_getfield dX7_findSwitch_8 zf_X7_102 hmd rfl ?_
        refine zx_iv (b := pr) (As := []) (st := [zI (q : Int)]) (v := (some (zI (CL.length : Int)))) (w1 := w) dX7_findSwitch_11 zc_X7_106 hpy rfl rfl rfl (Nat.le_of_ble_eq_true rfl) rfl (by have h := c_X6_clauseCount (G := G) (d := d + 3) hpy hcl; rw [hCL] at h; exact h) ?_
        refine zx_st (st1 := [zI (CL.length : Int), zI (q : Int)]) rfl ?_
        refine zx_icmp_ge (tgt := 141) dX7_findSwitch_14 (by decide) (fun h14 => absurd h14 (by omega)) (fun h14 => ?_)
        refine zx_aload_n (i := 0) dX7_findSwitch_17 rfl rfl ?_
        refine zx_getfield dX7_findSwitch_18 zf_X7_102 hmd rfl ?_
        refine zx_iload_n (i := 3) dX7_findSwitch_21 rfl rfl ?_
        refine zx_iv (b := pr) (As := [zI (q : Int)]) (st := []) (v := (some (zR c))) (w1 := w) dX7_findSwitch_22 zc_X7_109 hpy rfl rfl rfl (Nat.le_of_ble_eq_true rfl) rfl (by have h := c_X6_clauseAt (G := G) (d := d + 1) hpy hcl helC (q : Int); rw [hCL, lAt_in (by omega) (by rw [Int.toNat_natCast]; exact hcq)] at h; exact h) ?_
        refine zx_st (st1 := [zR c]) rfl ?_
        refine zx_astore (i := 4) dX7_findSwitch_25 (by decide) rfl ?_
        refine zx_L (L1 := [some (zR md), some (zI f), some (zI k), some (zI (q : Int)), some (zR c), o5, o6]) rfl ?_
        refine zx_aload (i := 4) dX7_findSwitch_27 rfl ?_
        refine zx_pc (pc1 := 29) rfl ?_
        refine zx_ifnonnull (tgt := 36) dX7_findSwitch_29 (by decide) (fun _ => ?_) (fun h => by cases h)
        refine zx_aload (i := 4) dX7_findSwitch_36 rfl ?_
        refine zx_aload_n (i := 0) dX7_findSwitch_38 rfl rfl ?_
        refine zx_getfield dX7_findSwitch_39 zf_X7_57 hmd rfl ?_
        refine zx_iconst (v := 0) dX7_findSwitch_42 rfl (z32_lit (by decide) (by decide)) ?_
        refine zx_iv (b := c) (As := [zI (m : Int), zI 0]) (st := []) (v := (some (zN))) (w1 := w) dX7_findSwitch_43 zc_X7_181 hC.1 rfl rfl rfl (Nat.le_of_ble_eq_true rfl) rfl (by have h := c_X1_goalIn (G := G) (d := d + 3) hC (m : Int) 0; rw [show (if 0 ≤ csl (R.2.2.2.2.2.1 c).2.2.2.2.1.1 (m : Int) 0 then (R.2.2.2.2.2.1 c).2.2.2.2.2.1.getD (csl (R.2.2.2.2.2.1 c).2.2.2.2.1.1 (m : Int) 0).toNat none else none) = _ from hod] at h; exact h) ?_
        refine zx_st (st1 := [zN]) rfl ?_
        refine zx_astore (i := 5) dX7_findSwitch_46 (by decide) rfl ?_
        refine zx_L (L1 := [some (zR md), some (zI f), some (zI k), some (zI (q : Int)), some (zR c), some (zN), o6]) rfl ?_
        refine zx_aload (i := 5) dX7_findSwitch_48 rfl ?_
        refine zx_ifnull (tgt := 74) dX7_findSwitch_50 (by decide) (fun _ => ?_) (fun h => absurd rfl h)
        refine zx_iconst (v := -1) dX7_findSwitch_74 rfl (z32_lit (by decide) (by decide)) ?_
        refine zx_iret dX7_findSwitch_75 rfl ?_
        exact zr_i rfl
      | some g =>
        have hg := hgo g (hO1 g (odA_mem hod))
        rw [fsS_s hod]
        by_cases hk : (R.2.2.2.2.2.2 g).1 = 0
        · by_cases hi : isIn ins (zVa (R.2.2.2.2.2.2 g).2.2.2.2 0)
          · rw [if_pos ⟨hk, hi⟩]
            by_cases hf1 : f = -1
            · by_cases hb : bt1 k (R.2.2.2.2.2.2 g).2.1
              · rw [if_pos (Or.inr hb)]
                refine zx_iload_n (i := 3) dX7_findSwitch_6 rfl rfl ?_
                refine zx_aload_n (i := 0) dX7_findSwitch_7 rfl rfl ?_
                refine zx_getfield dX7_findSwitch_8 zf_X7_102 hmd rfl ?_
                refine zx_iv (b := pr) (As := []) (st := [zI (q : Int)]) (v := (some (zI (CL.length : Int)))) (w1 := w) dX7_findSwitch_11 zc_X7_106 hpy rfl rfl rfl (Nat.le_of_ble_eq_true rfl) rfl (by have h := c_X6_clauseCount (G := G) (d := d + 3) hpy hcl; rw [hCL] at h; exact h) ?_
                refine zx_st (st1 := [zI (CL.length : Int), zI (q : Int)]) rfl ?_
                refine zx_icmp_ge (tgt := 141) dX7_findSwitch_14 (by decide) (fun h14 => absurd h14 (by omega)) (fun h14 => ?_)
                refine zx_aload_n (i := 0) dX7_findSwitch_17 rfl rfl ?_
                refine zx_getfield dX7_findSwitch_18 zf_X7_102 hmd rfl ?_
                refine zx_iload_n (i := 3) dX7_findSwitch_21 rfl rfl ?_
                refine zx_iv (b := pr) (As := [zI (q : Int)]) (st := []) (v := (some (zR c))) (w1 := w) dX7_findSwitch_22 zc_X7_109 hpy rfl rfl rfl (Nat.le_of_ble_eq_true rfl) rfl (by have h := c_X6_clauseAt (G := G) (d := d + 1) hpy hcl helC (q : Int); rw [hCL, lAt_in (by omega) (by rw [Int.toNat_natCast]; exact hcq)] at h; exact h) ?_
                refine zx_st (st1 := [zR c]) rfl ?_
                refine zx_astore (i := 4) dX7_findSwitch_25 (by decide) rfl ?_
                refine zx_L (L1 := [some (zR md), some (zI f), some (zI k), some (zI (q : Int)), some (zR c), o5, o6]) rfl ?_
                refine zx_aload (i := 4) dX7_findSwitch_27 rfl ?_
                refine zx_pc (pc1 := 29) rfl ?_
                refine zx_ifnonnull (tgt := 36) dX7_findSwitch_29 (by decide) (fun _ => ?_) (fun h => by cases h)
                refine zx_aload (i := 4) dX7_findSwitch_36 rfl ?_
                refine zx_aload_n (i := 0) dX7_findSwitch_38 rfl rfl ?_
                refine zx_getfield dX7_findSwitch_39 zf_X7_57 hmd rfl ?_
                refine zx_iconst (v := 0) dX7_findSwitch_42 rfl (z32_lit (by decide) (by decide)) ?_
                refine zx_iv (b := c) (As := [zI (m : Int), zI 0]) (st := []) (v := (some (zR g))) (w1 := w) dX7_findSwitch_43 zc_X7_181 hC.1 rfl rfl rfl (Nat.le_of_ble_eq_true rfl) rfl (by have h := c_X1_goalIn (G := G) (d := d + 3) hC (m : Int) 0; rw [show (if 0 ≤ csl (R.2.2.2.2.2.1 c).2.2.2.2.1.1 (m : Int) 0 then (R.2.2.2.2.2.1 c).2.2.2.2.2.1.getD (csl (R.2.2.2.2.2.1 c).2.2.2.2.1.1 (m : Int) 0).toNat none else none) = _ from hod] at h; exact h) ?_
                refine zx_st (st1 := [zR g]) rfl ?_
                refine zx_astore (i := 5) dX7_findSwitch_46 (by decide) rfl ?_
                refine zx_L (L1 := [some (zR md), some (zI f), some (zI k), some (zI (q : Int)), some (zR c), some (zR g), o6]) rfl ?_
                refine zx_aload (i := 5) dX7_findSwitch_48 rfl ?_
                refine zx_ifnull (tgt := 74) dX7_findSwitch_50 (by decide) (fun h => by cases h) (fun _ => ?_)
                refine zx_aload (i := 5) dX7_findSwitch_53 rfl ?_
                refine zx_getfield dX7_findSwitch_55 zf_X7_159 hg.1 rfl ?_
                refine zx_if_ne (tgt := 74) dX7_findSwitch_58 (by decide) (fun h58 => absurd h58 (not_not_intro hk)) (fun h58 => ?_)
                refine zx_pc (pc1 := 61) rfl ?_
                refine zx_aload_n (i := 0) dX7_findSwitch_61 rfl rfl ?_
                refine zx_aload (i := 5) dX7_findSwitch_62 rfl ?_
                refine zx_iconst (v := 0) dX7_findSwitch_64 rfl (z32_lit (by decide) (by decide)) ?_
                refine zx_iv (b := g) (As := [zI 0]) (st := [zR md]) (v := (some (zI (zVa (R.2.2.2.2.2.2 g).2.2.2.2 0)))) (w1 := w) dX7_findSwitch_65 zc_X7_156 hg.1 rfl rfl rfl (Nat.le_of_ble_eq_true rfl) rfl (c_X3_variableAt hg.1 hg.2.1 hg.2.2.1 0) ?_
                refine zx_st (st1 := [zI (zVa (R.2.2.2.2.2.2 g).2.2.2.2 0), zR md]) rfl ?_
                refine zx_iv (b := md) (As := [zI (zVa (R.2.2.2.2.2.2 g).2.2.2.2 0)]) (st := []) (v := (some (zI (zB (isIn ins (zVa (R.2.2.2.2.2.2 g).2.2.2.2 0)))))) (w1 := w) dX7_findSwitch_68 zc_X7_177 hmd rfl rfl rfl (Nat.le_of_ble_eq_true rfl) rfl (c_X5_isInput hmd (zVa (R.2.2.2.2.2.2 g).2.2.2.2 0)) ?_
                refine zx_st (st1 := [zI (zB (isIn ins (zVa (R.2.2.2.2.2.2 g).2.2.2.2 0)))]) rfl ?_
                refine zx_if_ne (tgt := 76) dX7_findSwitch_71 (by decide) (fun h71 => ?_) (fun h71 => absurd (by rw [zB_t hi]; decide) h71)
                refine zx_iload_n (i := 1) dX7_findSwitch_76 rfl rfl ?_
                refine zx_iconst (v := -1) dX7_findSwitch_77 rfl (z32_lit (by decide) (by decide)) ?_
                refine zx_icmp_eq (tgt := 95) dX7_findSwitch_78 (by decide) (fun h78 => ?_) (fun h78 => absurd (hf1) h78)
                refine zx_iconst (v := 0) dX7_findSwitch_95 rfl (z32_lit (by decide) (by decide)) ?_
                refine zx_istore (i := 6) dX7_findSwitch_96 (by decide) rfl ?_
                refine zx_L (L1 := [some (zR md), some (zI f), some (zI k), some (zI (q : Int)), some (zR c), some (zR g), some (zI 0)]) rfl ?_
                refine zx_iload (i := 6) dX7_findSwitch_98 rfl ?_
                refine zx_pc (pc1 := 100) rfl ?_
                refine zx_if_ne (tgt := 116) dX7_findSwitch_100 (by decide) (fun h100 => absurd h100 (by decide)) (fun h100 => ?_)
                refine zx_iload_n (i := 2) dX7_findSwitch_103 rfl rfl ?_
                refine zx_aload (i := 5) dX7_findSwitch_104 rfl ?_
                refine zx_getfield dX7_findSwitch_106 zf_X7_165 hg.1 rfl ?_
                refine zx_ishr (v := zshr k ((R.2.2.2.2.2.2 g).2.1)) dX7_findSwitch_109 rfl ?_
                refine zx_iconst (v := 1) dX7_findSwitch_110 rfl (z32_lit (by decide) (by decide)) ?_
                refine zx_iand (v := zand (zshr k ((R.2.2.2.2.2.2 g).2.1)) 1) dX7_findSwitch_111 rfl ?_
                refine zx_iconst (v := 1) dX7_findSwitch_112 rfl (z32_lit (by decide) (by decide)) ?_
                refine zx_icmp_ne (tgt := 118) dX7_findSwitch_113 (by decide) (fun h113 => absurd h113 (not_not_intro hb)) (fun h113 => ?_)
                refine zx_iconst (v := -1) dX7_findSwitch_116 rfl (z32_lit (by decide) (by decide)) ?_
                refine zx_iret dX7_findSwitch_117 rfl ?_
                exact zr_i rfl
              · rw [if_neg (fun h => h.elim (fun a => a.1 hf1) hb)]
                refine zx_iload_n (i := 3) dX7_findSwitch_6 rfl rfl ?_
                refine zx_aload_n (i := 0) dX7_findSwitch_7 rfl rfl ?_
                refine zx_getfield dX7_findSwitch_8 zf_X7_102 hmd rfl ?_
                refine zx_iv (b := pr) (As := []) (st := [zI (q : Int)]) (v := (some (zI (CL.length : Int)))) (w1 := w) dX7_findSwitch_11 zc_X7_106 hpy rfl rfl rfl (Nat.le_of_ble_eq_true rfl) rfl (by have h := c_X6_clauseCount (G := G) (d := d + 3) hpy hcl; rw [hCL] at h; exact h) ?_
                refine zx_st (st1 := [zI (CL.length : Int), zI (q : Int)]) rfl ?_
                refine zx_icmp_ge (tgt := 141) dX7_findSwitch_14 (by decide) (fun h14 => absurd h14 (by omega)) (fun h14 => ?_)
                refine zx_aload_n (i := 0) dX7_findSwitch_17 rfl rfl ?_
                refine zx_getfield dX7_findSwitch_18 zf_X7_102 hmd rfl ?_
                refine zx_iload_n (i := 3) dX7_findSwitch_21 rfl rfl ?_
                refine zx_iv (b := pr) (As := [zI (q : Int)]) (st := []) (v := (some (zR c))) (w1 := w) dX7_findSwitch_22 zc_X7_109 hpy rfl rfl rfl (Nat.le_of_ble_eq_true rfl) rfl (by have h := c_X6_clauseAt (G := G) (d := d + 1) hpy hcl helC (q : Int); rw [hCL, lAt_in (by omega) (by rw [Int.toNat_natCast]; exact hcq)] at h; exact h) ?_
                refine zx_st (st1 := [zR c]) rfl ?_
                refine zx_astore (i := 4) dX7_findSwitch_25 (by decide) rfl ?_
                refine zx_L (L1 := [some (zR md), some (zI f), some (zI k), some (zI (q : Int)), some (zR c), o5, o6]) rfl ?_
                refine zx_aload (i := 4) dX7_findSwitch_27 rfl ?_
                refine zx_pc (pc1 := 29) rfl ?_
                refine zx_ifnonnull (tgt := 36) dX7_findSwitch_29 (by decide) (fun _ => ?_) (fun h => by cases h)
                refine zx_aload (i := 4) dX7_findSwitch_36 rfl ?_
                refine zx_aload_n (i := 0) dX7_findSwitch_38 rfl rfl ?_
                refine zx_getfield dX7_findSwitch_39 zf_X7_57 hmd rfl ?_
                refine zx_iconst (v := 0) dX7_findSwitch_42 rfl (z32_lit (by decide) (by decide)) ?_
                refine zx_iv (b := c) (As := [zI (m : Int), zI 0]) (st := []) (v := (some (zR g))) (w1 := w) dX7_findSwitch_43 zc_X7_181 hC.1 rfl rfl rfl (Nat.le_of_ble_eq_true rfl) rfl (by have h := c_X1_goalIn (G := G) (d := d + 3) hC (m : Int) 0; rw [show (if 0 ≤ csl (R.2.2.2.2.2.1 c).2.2.2.2.1.1 (m : Int) 0 then (R.2.2.2.2.2.1 c).2.2.2.2.2.1.getD (csl (R.2.2.2.2.2.1 c).2.2.2.2.1.1 (m : Int) 0).toNat none else none) = _ from hod] at h; exact h) ?_
                refine zx_st (st1 := [zR g]) rfl ?_
                refine zx_astore (i := 5) dX7_findSwitch_46 (by decide) rfl ?_
                refine zx_L (L1 := [some (zR md), some (zI f), some (zI k), some (zI (q : Int)), some (zR c), some (zR g), o6]) rfl ?_
                refine zx_aload (i := 5) dX7_findSwitch_48 rfl ?_
                refine zx_ifnull (tgt := 74) dX7_findSwitch_50 (by decide) (fun h => by cases h) (fun _ => ?_)
                refine zx_aload (i := 5) dX7_findSwitch_53 rfl ?_
                refine zx_getfield dX7_findSwitch_55 zf_X7_159 hg.1 rfl ?_
                refine zx_if_ne (tgt := 74) dX7_findSwitch_58 (by decide) (fun h58 => absurd h58 (not_not_intro hk)) (fun h58 => ?_)
                refine zx_pc (pc1 := 61) rfl ?_
                refine zx_aload_n (i := 0) dX7_findSwitch_61 rfl rfl ?_
                refine zx_aload (i := 5) dX7_findSwitch_62 rfl ?_
                refine zx_iconst (v := 0) dX7_findSwitch_64 rfl (z32_lit (by decide) (by decide)) ?_
                refine zx_iv (b := g) (As := [zI 0]) (st := [zR md]) (v := (some (zI (zVa (R.2.2.2.2.2.2 g).2.2.2.2 0)))) (w1 := w) dX7_findSwitch_65 zc_X7_156 hg.1 rfl rfl rfl (Nat.le_of_ble_eq_true rfl) rfl (c_X3_variableAt hg.1 hg.2.1 hg.2.2.1 0) ?_
                refine zx_st (st1 := [zI (zVa (R.2.2.2.2.2.2 g).2.2.2.2 0), zR md]) rfl ?_
                refine zx_iv (b := md) (As := [zI (zVa (R.2.2.2.2.2.2 g).2.2.2.2 0)]) (st := []) (v := (some (zI (zB (isIn ins (zVa (R.2.2.2.2.2.2 g).2.2.2.2 0)))))) (w1 := w) dX7_findSwitch_68 zc_X7_177 hmd rfl rfl rfl (Nat.le_of_ble_eq_true rfl) rfl (c_X5_isInput hmd (zVa (R.2.2.2.2.2.2 g).2.2.2.2 0)) ?_
                refine zx_st (st1 := [zI (zB (isIn ins (zVa (R.2.2.2.2.2.2 g).2.2.2.2 0)))]) rfl ?_
                refine zx_if_ne (tgt := 76) dX7_findSwitch_71 (by decide) (fun h71 => ?_) (fun h71 => absurd (by rw [zB_t hi]; decide) h71)
                refine zx_iload_n (i := 1) dX7_findSwitch_76 rfl rfl ?_
                refine zx_iconst (v := -1) dX7_findSwitch_77 rfl (z32_lit (by decide) (by decide)) ?_
                refine zx_icmp_eq (tgt := 95) dX7_findSwitch_78 (by decide) (fun h78 => ?_) (fun h78 => absurd (hf1) h78)
                refine zx_iconst (v := 0) dX7_findSwitch_95 rfl (z32_lit (by decide) (by decide)) ?_
                refine zx_istore (i := 6) dX7_findSwitch_96 (by decide) rfl ?_
                refine zx_L (L1 := [some (zR md), some (zI f), some (zI k), some (zI (q : Int)), some (zR c), some (zR g), some (zI 0)]) rfl ?_
                refine zx_iload (i := 6) dX7_findSwitch_98 rfl ?_
                refine zx_pc (pc1 := 100) rfl ?_
                refine zx_if_ne (tgt := 116) dX7_findSwitch_100 (by decide) (fun h100 => absurd h100 (by decide)) (fun h100 => ?_)
                refine zx_iload_n (i := 2) dX7_findSwitch_103 rfl rfl ?_
                refine zx_aload (i := 5) dX7_findSwitch_104 rfl ?_
                refine zx_getfield dX7_findSwitch_106 zf_X7_165 hg.1 rfl ?_
                refine zx_ishr (v := zshr k ((R.2.2.2.2.2.2 g).2.1)) dX7_findSwitch_109 rfl ?_
                refine zx_iconst (v := 1) dX7_findSwitch_110 rfl (z32_lit (by decide) (by decide)) ?_
                refine zx_iand (v := zand (zshr k ((R.2.2.2.2.2.2 g).2.1)) 1) dX7_findSwitch_111 rfl ?_
                refine zx_iconst (v := 1) dX7_findSwitch_112 rfl (z32_lit (by decide) (by decide)) ?_
                refine zx_icmp_ne (tgt := 118) dX7_findSwitch_113 (by decide) (fun h113 => ?_) (fun h113 => absurd (hb) h113)
                refine zx_aload (i := 5) dX7_findSwitch_118 rfl ?_
                refine zx_iconst (v := 0) dX7_findSwitch_120 rfl (z32_lit (by decide) (by decide)) ?_
                refine zx_iv (b := g) (As := [zI 0]) (st := []) (v := (some (zI (zVa (R.2.2.2.2.2.2 g).2.2.2.2 0)))) (w1 := w) dX7_findSwitch_121 zc_X7_156 hg.1 rfl rfl rfl (Nat.le_of_ble_eq_true rfl) rfl (c_X3_variableAt hg.1 hg.2.1 hg.2.2.1 0) ?_
                refine zx_st (st1 := [zI (zVa (R.2.2.2.2.2.2 g).2.2.2.2 0)]) rfl ?_
                refine zx_pc (pc1 := 124) rfl ?_
                refine zx_istore_n (i := 1) dX7_findSwitch_124 rfl (by decide) rfl ?_
                refine zx_L (L1 := [some (zR md), some (zI (zVa (R.2.2.2.2.2.2 g).2.2.2.2 0)), some (zI k), some (zI (q : Int)), some (zR c), some (zR g), some (zI 0)]) rfl ?_
                refine zx_iload_n (i := 2) dX7_findSwitch_125 rfl rfl ?_
                refine zx_iconst (v := 1) dX7_findSwitch_126 rfl (z32_lit (by decide) (by decide)) ?_
                refine zx_aload (i := 5) dX7_findSwitch_127 rfl ?_
                refine zx_getfield dX7_findSwitch_129 zf_X7_165 hg.1 rfl ?_
                refine zx_ishl (v := zshl 1 ((R.2.2.2.2.2.2 g).2.1)) dX7_findSwitch_132 rfl ?_
                refine zx_ior (v := zor k (zshl 1 ((R.2.2.2.2.2.2 g).2.1))) dX7_findSwitch_133 rfl ?_
                refine zx_istore_n (i := 2) dX7_findSwitch_134 rfl (by decide) rfl ?_
                refine zx_L (L1 := [some (zR md), some (zI (zVa (R.2.2.2.2.2.2 g).2.2.2.2 0)), some (zI (zor k (zshl 1 ((R.2.2.2.2.2.2 g).2.1)))), some (zI (q : Int)), some (zR c), some (zR g), some (zI 0)]) rfl ?_
                refine zx_iinc (i := 3) (v := ((q + 1 : Nat) : Int)) dX7_findSwitch_135 rfl (zw_eq (by omega) (by omega) (by omega)) (by decide) rfl ?_
                refine zx_L (L1 := [some (zR md), some (zI (zVa (R.2.2.2.2.2.2 g).2.2.2.2 0)), some (zI (zor k (zshl 1 ((R.2.2.2.2.2.2 g).2.1)))), some (zI ((q + 1 : Nat) : Int)), some (zR c), some (zR g), some (zI 0)]) rfl ?_
                refine zx_goto (tgt := 6) dX7_findSwitch_138 (by decide) ?_
                exact ih (q + 1) _ _ _ _ _ (by omega)
            · by_cases hf2 : f = (zVa (R.2.2.2.2.2.2 g).2.2.2.2 0)
              · by_cases hb : bt1 k (R.2.2.2.2.2.2 g).2.1
                · rw [if_pos (Or.inr hb)]
                  refine zx_iload_n (i := 3) dX7_findSwitch_6 rfl rfl ?_
                  refine zx_aload_n (i := 0) dX7_findSwitch_7 rfl rfl ?_
                  refine zx_getfield dX7_findSwitch_8 zf_X7_102 hmd rfl ?_
                  refine zx_iv (b := pr) (As := []) (st := [zI (q : Int)]) (v := (some (zI (CL.length : Int)))) (w1 := w) dX7_findSwitch_11 zc_X7_106 hpy rfl rfl rfl (Nat.le_of_ble_eq_true rfl) rfl (by have h := c_X6_clauseCount (G := G) (d := d + 3) hpy hcl; rw [hCL] at h; exact h) ?_
                  refine zx_st (st1 := [zI (CL.length : Int), zI (q : Int)]) rfl ?_
                  refine zx_icmp_ge (tgt := 141) dX7_findSwitch_14 (by decide) (fun h14 => absurd h14 (by omega)) (fun h14 => ?_)
                  refine zx_aload_n (i := 0) dX7_findSwitch_17 rfl rfl ?_
                  refine zx_getfield dX7_findSwitch_18 zf_X7_102 hmd rfl ?_
                  refine zx_iload_n (i := 3) dX7_findSwitch_21 rfl rfl ?_
                  refine zx_iv (b := pr) (As := [zI (q : Int)]) (st := []) (v := (some (zR c))) (w1 := w) dX7_findSwitch_22 zc_X7_109 hpy rfl rfl rfl (Nat.le_of_ble_eq_true rfl) rfl (by have h := c_X6_clauseAt (G := G) (d := d + 1) hpy hcl helC (q : Int); rw [hCL, lAt_in (by omega) (by rw [Int.toNat_natCast]; exact hcq)] at h; exact h) ?_
                  refine zx_st (st1 := [zR c]) rfl ?_
                  refine zx_astore (i := 4) dX7_findSwitch_25 (by decide) rfl ?_
                  refine zx_L (L1 := [some (zR md), some (zI f), some (zI k), some (zI (q : Int)), some (zR c), o5, o6]) rfl ?_
                  refine zx_aload (i := 4) dX7_findSwitch_27 rfl ?_
                  refine zx_pc (pc1 := 29) rfl ?_
                  refine zx_ifnonnull (tgt := 36) dX7_findSwitch_29 (by decide) (fun _ => ?_) (fun h => by cases h)
                  refine zx_aload (i := 4) dX7_findSwitch_36 rfl ?_
                  refine zx_aload_n (i := 0) dX7_findSwitch_38 rfl rfl ?_
                  refine zx_getfield dX7_findSwitch_39 zf_X7_57 hmd rfl ?_
                  refine zx_iconst (v := 0) dX7_findSwitch_42 rfl (z32_lit (by decide) (by decide)) ?_
                  refine zx_iv (b := c) (As := [zI (m : Int), zI 0]) (st := []) (v := (some (zR g))) (w1 := w) dX7_findSwitch_43 zc_X7_181 hC.1 rfl rfl rfl (Nat.le_of_ble_eq_true rfl) rfl (by have h := c_X1_goalIn (G := G) (d := d + 3) hC (m : Int) 0; rw [show (if 0 ≤ csl (R.2.2.2.2.2.1 c).2.2.2.2.1.1 (m : Int) 0 then (R.2.2.2.2.2.1 c).2.2.2.2.2.1.getD (csl (R.2.2.2.2.2.1 c).2.2.2.2.1.1 (m : Int) 0).toNat none else none) = _ from hod] at h; exact h) ?_
                  refine zx_st (st1 := [zR g]) rfl ?_
                  refine zx_astore (i := 5) dX7_findSwitch_46 (by decide) rfl ?_
                  refine zx_L (L1 := [some (zR md), some (zI f), some (zI k), some (zI (q : Int)), some (zR c), some (zR g), o6]) rfl ?_
                  refine zx_aload (i := 5) dX7_findSwitch_48 rfl ?_
                  refine zx_ifnull (tgt := 74) dX7_findSwitch_50 (by decide) (fun h => by cases h) (fun _ => ?_)
                  refine zx_aload (i := 5) dX7_findSwitch_53 rfl ?_
                  refine zx_getfield dX7_findSwitch_55 zf_X7_159 hg.1 rfl ?_
                  refine zx_if_ne (tgt := 74) dX7_findSwitch_58 (by decide) (fun h58 => absurd h58 (not_not_intro hk)) (fun h58 => ?_)
                  refine zx_pc (pc1 := 61) rfl ?_
                  refine zx_aload_n (i := 0) dX7_findSwitch_61 rfl rfl ?_
                  refine zx_aload (i := 5) dX7_findSwitch_62 rfl ?_
                  refine zx_iconst (v := 0) dX7_findSwitch_64 rfl (z32_lit (by decide) (by decide)) ?_
                  refine zx_iv (b := g) (As := [zI 0]) (st := [zR md]) (v := (some (zI (zVa (R.2.2.2.2.2.2 g).2.2.2.2 0)))) (w1 := w) dX7_findSwitch_65 zc_X7_156 hg.1 rfl rfl rfl (Nat.le_of_ble_eq_true rfl) rfl (c_X3_variableAt hg.1 hg.2.1 hg.2.2.1 0) ?_
                  refine zx_st (st1 := [zI (zVa (R.2.2.2.2.2.2 g).2.2.2.2 0), zR md]) rfl ?_
                  refine zx_iv (b := md) (As := [zI (zVa (R.2.2.2.2.2.2 g).2.2.2.2 0)]) (st := []) (v := (some (zI (zB (isIn ins (zVa (R.2.2.2.2.2.2 g).2.2.2.2 0)))))) (w1 := w) dX7_findSwitch_68 zc_X7_177 hmd rfl rfl rfl (Nat.le_of_ble_eq_true rfl) rfl (c_X5_isInput hmd (zVa (R.2.2.2.2.2.2 g).2.2.2.2 0)) ?_
                  refine zx_st (st1 := [zI (zB (isIn ins (zVa (R.2.2.2.2.2.2 g).2.2.2.2 0)))]) rfl ?_
                  refine zx_if_ne (tgt := 76) dX7_findSwitch_71 (by decide) (fun h71 => ?_) (fun h71 => absurd (by rw [zB_t hi]; decide) h71)
                  refine zx_iload_n (i := 1) dX7_findSwitch_76 rfl rfl ?_
                  refine zx_iconst (v := -1) dX7_findSwitch_77 rfl (z32_lit (by decide) (by decide)) ?_
                  refine zx_icmp_eq (tgt := 95) dX7_findSwitch_78 (by decide) (fun h78 => absurd h78 (hf1)) (fun h78 => ?_)
                  refine zx_iload_n (i := 1) dX7_findSwitch_81 rfl rfl ?_
                  refine zx_aload (i := 5) dX7_findSwitch_82 rfl ?_
                  refine zx_iconst (v := 0) dX7_findSwitch_84 rfl (z32_lit (by decide) (by decide)) ?_
                  refine zx_pc (pc1 := 85) rfl ?_
                  refine zx_iv (b := g) (As := [zI 0]) (st := [zI f]) (v := (some (zI (zVa (R.2.2.2.2.2.2 g).2.2.2.2 0)))) (w1 := w) dX7_findSwitch_85 zc_X7_156 hg.1 rfl rfl rfl (Nat.le_of_ble_eq_true rfl) rfl (c_X3_variableAt hg.1 hg.2.1 hg.2.2.1 0) ?_
                  refine zx_st (st1 := [zI (zVa (R.2.2.2.2.2.2 g).2.2.2.2 0), zI f]) rfl ?_
                  refine zx_icmp_eq (tgt := 95) dX7_findSwitch_88 (by decide) (fun h88 => ?_) (fun h88 => absurd (hf2) h88)
                  refine zx_iconst (v := 0) dX7_findSwitch_95 rfl (z32_lit (by decide) (by decide)) ?_
                  refine zx_istore (i := 6) dX7_findSwitch_96 (by decide) rfl ?_
                  refine zx_L (L1 := [some (zR md), some (zI f), some (zI k), some (zI (q : Int)), some (zR c), some (zR g), some (zI 0)]) rfl ?_
                  refine zx_iload (i := 6) dX7_findSwitch_98 rfl ?_
                  refine zx_if_ne (tgt := 116) dX7_findSwitch_100 (by decide) (fun h100 => absurd h100 (by decide)) (fun h100 => ?_)
                  refine zx_iload_n (i := 2) dX7_findSwitch_103 rfl rfl ?_
                  refine zx_aload (i := 5) dX7_findSwitch_104 rfl ?_
                  refine zx_getfield dX7_findSwitch_106 zf_X7_165 hg.1 rfl ?_
                  refine zx_ishr (v := zshr k ((R.2.2.2.2.2.2 g).2.1)) dX7_findSwitch_109 rfl ?_
                  refine zx_iconst (v := 1) dX7_findSwitch_110 rfl (z32_lit (by decide) (by decide)) ?_
                  refine zx_iand (v := zand (zshr k ((R.2.2.2.2.2.2 g).2.1)) 1) dX7_findSwitch_111 rfl ?_
                  refine zx_pc (pc1 := 112) rfl ?_
                  refine zx_iconst (v := 1) dX7_findSwitch_112 rfl (z32_lit (by decide) (by decide)) ?_
                  refine zx_icmp_ne (tgt := 118) dX7_findSwitch_113 (by decide) (fun h113 => absurd h113 (not_not_intro hb)) (fun h113 => ?_)
                  refine zx_iconst (v := -1) dX7_findSwitch_116 rfl (z32_lit (by decide) (by decide)) ?_
                  refine zx_iret dX7_findSwitch_117 rfl ?_
                  exact zr_i rfl
                · rw [if_neg (fun h => h.elim (fun a => a.2 hf2) hb)]
                  refine zx_iload_n (i := 3) dX7_findSwitch_6 rfl rfl ?_
                  refine zx_aload_n (i := 0) dX7_findSwitch_7 rfl rfl ?_
                  refine zx_getfield dX7_findSwitch_8 zf_X7_102 hmd rfl ?_
                  refine zx_iv (b := pr) (As := []) (st := [zI (q : Int)]) (v := (some (zI (CL.length : Int)))) (w1 := w) dX7_findSwitch_11 zc_X7_106 hpy rfl rfl rfl (Nat.le_of_ble_eq_true rfl) rfl (by have h := c_X6_clauseCount (G := G) (d := d + 3) hpy hcl; rw [hCL] at h; exact h) ?_
                  refine zx_st (st1 := [zI (CL.length : Int), zI (q : Int)]) rfl ?_
                  refine zx_icmp_ge (tgt := 141) dX7_findSwitch_14 (by decide) (fun h14 => absurd h14 (by omega)) (fun h14 => ?_)
                  refine zx_aload_n (i := 0) dX7_findSwitch_17 rfl rfl ?_
                  refine zx_getfield dX7_findSwitch_18 zf_X7_102 hmd rfl ?_
                  refine zx_iload_n (i := 3) dX7_findSwitch_21 rfl rfl ?_
                  refine zx_iv (b := pr) (As := [zI (q : Int)]) (st := []) (v := (some (zR c))) (w1 := w) dX7_findSwitch_22 zc_X7_109 hpy rfl rfl rfl (Nat.le_of_ble_eq_true rfl) rfl (by have h := c_X6_clauseAt (G := G) (d := d + 1) hpy hcl helC (q : Int); rw [hCL, lAt_in (by omega) (by rw [Int.toNat_natCast]; exact hcq)] at h; exact h) ?_
                  refine zx_st (st1 := [zR c]) rfl ?_
                  refine zx_astore (i := 4) dX7_findSwitch_25 (by decide) rfl ?_
                  refine zx_L (L1 := [some (zR md), some (zI f), some (zI k), some (zI (q : Int)), some (zR c), o5, o6]) rfl ?_
                  refine zx_aload (i := 4) dX7_findSwitch_27 rfl ?_
                  refine zx_pc (pc1 := 29) rfl ?_
                  refine zx_ifnonnull (tgt := 36) dX7_findSwitch_29 (by decide) (fun _ => ?_) (fun h => by cases h)
                  refine zx_aload (i := 4) dX7_findSwitch_36 rfl ?_
                  refine zx_aload_n (i := 0) dX7_findSwitch_38 rfl rfl ?_
                  refine zx_getfield dX7_findSwitch_39 zf_X7_57 hmd rfl ?_
                  refine zx_iconst (v := 0) dX7_findSwitch_42 rfl (z32_lit (by decide) (by decide)) ?_
                  refine zx_iv (b := c) (As := [zI (m : Int), zI 0]) (st := []) (v := (some (zR g))) (w1 := w) dX7_findSwitch_43 zc_X7_181 hC.1 rfl rfl rfl (Nat.le_of_ble_eq_true rfl) rfl (by have h := c_X1_goalIn (G := G) (d := d + 3) hC (m : Int) 0; rw [show (if 0 ≤ csl (R.2.2.2.2.2.1 c).2.2.2.2.1.1 (m : Int) 0 then (R.2.2.2.2.2.1 c).2.2.2.2.2.1.getD (csl (R.2.2.2.2.2.1 c).2.2.2.2.1.1 (m : Int) 0).toNat none else none) = _ from hod] at h; exact h) ?_
                  refine zx_st (st1 := [zR g]) rfl ?_
                  refine zx_astore (i := 5) dX7_findSwitch_46 (by decide) rfl ?_
                  refine zx_L (L1 := [some (zR md), some (zI f), some (zI k), some (zI (q : Int)), some (zR c), some (zR g), o6]) rfl ?_
                  refine zx_aload (i := 5) dX7_findSwitch_48 rfl ?_
                  refine zx_ifnull (tgt := 74) dX7_findSwitch_50 (by decide) (fun h => by cases h) (fun _ => ?_)
                  refine zx_aload (i := 5) dX7_findSwitch_53 rfl ?_
                  refine zx_getfield dX7_findSwitch_55 zf_X7_159 hg.1 rfl ?_
                  refine zx_if_ne (tgt := 74) dX7_findSwitch_58 (by decide) (fun h58 => absurd h58 (not_not_intro hk)) (fun h58 => ?_)
                  refine zx_pc (pc1 := 61) rfl ?_
                  refine zx_aload_n (i := 0) dX7_findSwitch_61 rfl rfl ?_
                  refine zx_aload (i := 5) dX7_findSwitch_62 rfl ?_
                  refine zx_iconst (v := 0) dX7_findSwitch_64 rfl (z32_lit (by decide) (by decide)) ?_
                  refine zx_iv (b := g) (As := [zI 0]) (st := [zR md]) (v := (some (zI (zVa (R.2.2.2.2.2.2 g).2.2.2.2 0)))) (w1 := w) dX7_findSwitch_65 zc_X7_156 hg.1 rfl rfl rfl (Nat.le_of_ble_eq_true rfl) rfl (c_X3_variableAt hg.1 hg.2.1 hg.2.2.1 0) ?_
                  refine zx_st (st1 := [zI (zVa (R.2.2.2.2.2.2 g).2.2.2.2 0), zR md]) rfl ?_
                  refine zx_iv (b := md) (As := [zI (zVa (R.2.2.2.2.2.2 g).2.2.2.2 0)]) (st := []) (v := (some (zI (zB (isIn ins (zVa (R.2.2.2.2.2.2 g).2.2.2.2 0)))))) (w1 := w) dX7_findSwitch_68 zc_X7_177 hmd rfl rfl rfl (Nat.le_of_ble_eq_true rfl) rfl (c_X5_isInput hmd (zVa (R.2.2.2.2.2.2 g).2.2.2.2 0)) ?_
                  refine zx_st (st1 := [zI (zB (isIn ins (zVa (R.2.2.2.2.2.2 g).2.2.2.2 0)))]) rfl ?_
                  refine zx_if_ne (tgt := 76) dX7_findSwitch_71 (by decide) (fun h71 => ?_) (fun h71 => absurd (by rw [zB_t hi]; decide) h71)
                  refine zx_iload_n (i := 1) dX7_findSwitch_76 rfl rfl ?_
                  refine zx_iconst (v := -1) dX7_findSwitch_77 rfl (z32_lit (by decide) (by decide)) ?_
                  refine zx_icmp_eq (tgt := 95) dX7_findSwitch_78 (by decide) (fun h78 => absurd h78 (hf1)) (fun h78 => ?_)
                  refine zx_iload_n (i := 1) dX7_findSwitch_81 rfl rfl ?_
                  refine zx_aload (i := 5) dX7_findSwitch_82 rfl ?_
                  refine zx_iconst (v := 0) dX7_findSwitch_84 rfl (z32_lit (by decide) (by decide)) ?_
                  refine zx_pc (pc1 := 85) rfl ?_
                  refine zx_iv (b := g) (As := [zI 0]) (st := [zI f]) (v := (some (zI (zVa (R.2.2.2.2.2.2 g).2.2.2.2 0)))) (w1 := w) dX7_findSwitch_85 zc_X7_156 hg.1 rfl rfl rfl (Nat.le_of_ble_eq_true rfl) rfl (c_X3_variableAt hg.1 hg.2.1 hg.2.2.1 0) ?_
                  refine zx_st (st1 := [zI (zVa (R.2.2.2.2.2.2 g).2.2.2.2 0), zI f]) rfl ?_
                  refine zx_icmp_eq (tgt := 95) dX7_findSwitch_88 (by decide) (fun h88 => ?_) (fun h88 => absurd (hf2) h88)
                  refine zx_iconst (v := 0) dX7_findSwitch_95 rfl (z32_lit (by decide) (by decide)) ?_
                  refine zx_istore (i := 6) dX7_findSwitch_96 (by decide) rfl ?_
                  refine zx_L (L1 := [some (zR md), some (zI f), some (zI k), some (zI (q : Int)), some (zR c), some (zR g), some (zI 0)]) rfl ?_
                  refine zx_iload (i := 6) dX7_findSwitch_98 rfl ?_
                  refine zx_if_ne (tgt := 116) dX7_findSwitch_100 (by decide) (fun h100 => absurd h100 (by decide)) (fun h100 => ?_)
                  refine zx_iload_n (i := 2) dX7_findSwitch_103 rfl rfl ?_
                  refine zx_aload (i := 5) dX7_findSwitch_104 rfl ?_
                  refine zx_getfield dX7_findSwitch_106 zf_X7_165 hg.1 rfl ?_
                  refine zx_ishr (v := zshr k ((R.2.2.2.2.2.2 g).2.1)) dX7_findSwitch_109 rfl ?_
                  refine zx_iconst (v := 1) dX7_findSwitch_110 rfl (z32_lit (by decide) (by decide)) ?_
                  refine zx_iand (v := zand (zshr k ((R.2.2.2.2.2.2 g).2.1)) 1) dX7_findSwitch_111 rfl ?_
                  refine zx_pc (pc1 := 112) rfl ?_
                  refine zx_iconst (v := 1) dX7_findSwitch_112 rfl (z32_lit (by decide) (by decide)) ?_
                  refine zx_icmp_ne (tgt := 118) dX7_findSwitch_113 (by decide) (fun h113 => ?_) (fun h113 => absurd (hb) h113)
                  refine zx_aload (i := 5) dX7_findSwitch_118 rfl ?_
                  refine zx_iconst (v := 0) dX7_findSwitch_120 rfl (z32_lit (by decide) (by decide)) ?_
                  refine zx_iv (b := g) (As := [zI 0]) (st := []) (v := (some (zI (zVa (R.2.2.2.2.2.2 g).2.2.2.2 0)))) (w1 := w) dX7_findSwitch_121 zc_X7_156 hg.1 rfl rfl rfl (Nat.le_of_ble_eq_true rfl) rfl (c_X3_variableAt hg.1 hg.2.1 hg.2.2.1 0) ?_
                  refine zx_st (st1 := [zI (zVa (R.2.2.2.2.2.2 g).2.2.2.2 0)]) rfl ?_
                  refine zx_istore_n (i := 1) dX7_findSwitch_124 rfl (by decide) rfl ?_
                  refine zx_L (L1 := [some (zR md), some (zI (zVa (R.2.2.2.2.2.2 g).2.2.2.2 0)), some (zI k), some (zI (q : Int)), some (zR c), some (zR g), some (zI 0)]) rfl ?_
                  refine zx_iload_n (i := 2) dX7_findSwitch_125 rfl rfl ?_
                  refine zx_iconst (v := 1) dX7_findSwitch_126 rfl (z32_lit (by decide) (by decide)) ?_
                  refine zx_aload (i := 5) dX7_findSwitch_127 rfl ?_
                  refine zx_getfield dX7_findSwitch_129 zf_X7_165 hg.1 rfl ?_
                  refine zx_ishl (v := zshl 1 ((R.2.2.2.2.2.2 g).2.1)) dX7_findSwitch_132 rfl ?_
                  refine zx_ior (v := zor k (zshl 1 ((R.2.2.2.2.2.2 g).2.1))) dX7_findSwitch_133 rfl ?_
                  refine zx_pc (pc1 := 134) rfl ?_
                  refine zx_istore_n (i := 2) dX7_findSwitch_134 rfl (by decide) rfl ?_
                  refine zx_L (L1 := [some (zR md), some (zI (zVa (R.2.2.2.2.2.2 g).2.2.2.2 0)), some (zI (zor k (zshl 1 ((R.2.2.2.2.2.2 g).2.1)))), some (zI (q : Int)), some (zR c), some (zR g), some (zI 0)]) rfl ?_
                  refine zx_iinc (i := 3) (v := ((q + 1 : Nat) : Int)) dX7_findSwitch_135 rfl (zw_eq (by omega) (by omega) (by omega)) (by decide) rfl ?_
                  refine zx_L (L1 := [some (zR md), some (zI (zVa (R.2.2.2.2.2.2 g).2.2.2.2 0)), some (zI (zor k (zshl 1 ((R.2.2.2.2.2.2 g).2.1)))), some (zI ((q + 1 : Nat) : Int)), some (zR c), some (zR g), some (zI 0)]) rfl ?_
                  refine zx_goto (tgt := 6) dX7_findSwitch_138 (by decide) ?_
                  exact ih (q + 1) _ _ _ _ _ (by omega)
              · rw [if_pos (Or.inl ⟨hf1, hf2⟩)]
                refine zx_iload_n (i := 3) dX7_findSwitch_6 rfl rfl ?_
                refine zx_aload_n (i := 0) dX7_findSwitch_7 rfl rfl ?_
                refine zx_getfield dX7_findSwitch_8 zf_X7_102 hmd rfl ?_
                refine zx_iv (b := pr) (As := []) (st := [zI (q : Int)]) (v := (some (zI (CL.length : Int)))) (w1 := w) dX7_findSwitch_11 zc_X7_106 hpy rfl rfl rfl (Nat.le_of_ble_eq_true rfl) rfl (by have h := c_X6_clauseCount (G := G) (d := d + 3) hpy hcl; rw [hCL] at h; exact h) ?_
                refine zx_st (st1 := [zI (CL.length : Int), zI (q : Int)]) rfl ?_
                refine zx_icmp_ge (tgt := 141) dX7_findSwitch_14 (by decide) (fun h14 => absurd h14 (by omega)) (fun h14 => ?_)
                refine zx_aload_n (i := 0) dX7_findSwitch_17 rfl rfl ?_
                refine zx_getfield dX7_findSwitch_18 zf_X7_102 hmd rfl ?_
                refine zx_iload_n (i := 3) dX7_findSwitch_21 rfl rfl ?_
                refine zx_iv (b := pr) (As := [zI (q : Int)]) (st := []) (v := (some (zR c))) (w1 := w) dX7_findSwitch_22 zc_X7_109 hpy rfl rfl rfl (Nat.le_of_ble_eq_true rfl) rfl (by have h := c_X6_clauseAt (G := G) (d := d + 1) hpy hcl helC (q : Int); rw [hCL, lAt_in (by omega) (by rw [Int.toNat_natCast]; exact hcq)] at h; exact h) ?_
                refine zx_st (st1 := [zR c]) rfl ?_
                refine zx_astore (i := 4) dX7_findSwitch_25 (by decide) rfl ?_
                refine zx_L (L1 := [some (zR md), some (zI f), some (zI k), some (zI (q : Int)), some (zR c), o5, o6]) rfl ?_
                refine zx_aload (i := 4) dX7_findSwitch_27 rfl ?_
                refine zx_pc (pc1 := 29) rfl ?_
                refine zx_ifnonnull (tgt := 36) dX7_findSwitch_29 (by decide) (fun _ => ?_) (fun h => by cases h)
                refine zx_aload (i := 4) dX7_findSwitch_36 rfl ?_
                refine zx_aload_n (i := 0) dX7_findSwitch_38 rfl rfl ?_
                refine zx_getfield dX7_findSwitch_39 zf_X7_57 hmd rfl ?_
                refine zx_iconst (v := 0) dX7_findSwitch_42 rfl (z32_lit (by decide) (by decide)) ?_
                refine zx_iv (b := c) (As := [zI (m : Int), zI 0]) (st := []) (v := (some (zR g))) (w1 := w) dX7_findSwitch_43 zc_X7_181 hC.1 rfl rfl rfl (Nat.le_of_ble_eq_true rfl) rfl (by have h := c_X1_goalIn (G := G) (d := d + 3) hC (m : Int) 0; rw [show (if 0 ≤ csl (R.2.2.2.2.2.1 c).2.2.2.2.1.1 (m : Int) 0 then (R.2.2.2.2.2.1 c).2.2.2.2.2.1.getD (csl (R.2.2.2.2.2.1 c).2.2.2.2.1.1 (m : Int) 0).toNat none else none) = _ from hod] at h; exact h) ?_
                refine zx_st (st1 := [zR g]) rfl ?_
                refine zx_astore (i := 5) dX7_findSwitch_46 (by decide) rfl ?_
                refine zx_L (L1 := [some (zR md), some (zI f), some (zI k), some (zI (q : Int)), some (zR c), some (zR g), o6]) rfl ?_
                refine zx_aload (i := 5) dX7_findSwitch_48 rfl ?_
                refine zx_ifnull (tgt := 74) dX7_findSwitch_50 (by decide) (fun h => by cases h) (fun _ => ?_)
                refine zx_aload (i := 5) dX7_findSwitch_53 rfl ?_
                refine zx_getfield dX7_findSwitch_55 zf_X7_159 hg.1 rfl ?_
                refine zx_if_ne (tgt := 74) dX7_findSwitch_58 (by decide) (fun h58 => absurd h58 (not_not_intro hk)) (fun h58 => ?_)
                refine zx_pc (pc1 := 61) rfl ?_
                refine zx_aload_n (i := 0) dX7_findSwitch_61 rfl rfl ?_
                refine zx_aload (i := 5) dX7_findSwitch_62 rfl ?_
                refine zx_iconst (v := 0) dX7_findSwitch_64 rfl (z32_lit (by decide) (by decide)) ?_
                refine zx_iv (b := g) (As := [zI 0]) (st := [zR md]) (v := (some (zI (zVa (R.2.2.2.2.2.2 g).2.2.2.2 0)))) (w1 := w) dX7_findSwitch_65 zc_X7_156 hg.1 rfl rfl rfl (Nat.le_of_ble_eq_true rfl) rfl (c_X3_variableAt hg.1 hg.2.1 hg.2.2.1 0) ?_
                refine zx_st (st1 := [zI (zVa (R.2.2.2.2.2.2 g).2.2.2.2 0), zR md]) rfl ?_
                refine zx_iv (b := md) (As := [zI (zVa (R.2.2.2.2.2.2 g).2.2.2.2 0)]) (st := []) (v := (some (zI (zB (isIn ins (zVa (R.2.2.2.2.2.2 g).2.2.2.2 0)))))) (w1 := w) dX7_findSwitch_68 zc_X7_177 hmd rfl rfl rfl (Nat.le_of_ble_eq_true rfl) rfl (c_X5_isInput hmd (zVa (R.2.2.2.2.2.2 g).2.2.2.2 0)) ?_
                refine zx_st (st1 := [zI (zB (isIn ins (zVa (R.2.2.2.2.2.2 g).2.2.2.2 0)))]) rfl ?_
                refine zx_if_ne (tgt := 76) dX7_findSwitch_71 (by decide) (fun h71 => ?_) (fun h71 => absurd (by rw [zB_t hi]; decide) h71)
                refine zx_iload_n (i := 1) dX7_findSwitch_76 rfl rfl ?_
                refine zx_iconst (v := -1) dX7_findSwitch_77 rfl (z32_lit (by decide) (by decide)) ?_
                refine zx_icmp_eq (tgt := 95) dX7_findSwitch_78 (by decide) (fun h78 => absurd h78 (hf1)) (fun h78 => ?_)
                refine zx_iload_n (i := 1) dX7_findSwitch_81 rfl rfl ?_
                refine zx_aload (i := 5) dX7_findSwitch_82 rfl ?_
                refine zx_iconst (v := 0) dX7_findSwitch_84 rfl (z32_lit (by decide) (by decide)) ?_
                refine zx_pc (pc1 := 85) rfl ?_
                refine zx_iv (b := g) (As := [zI 0]) (st := [zI f]) (v := (some (zI (zVa (R.2.2.2.2.2.2 g).2.2.2.2 0)))) (w1 := w) dX7_findSwitch_85 zc_X7_156 hg.1 rfl rfl rfl (Nat.le_of_ble_eq_true rfl) rfl (c_X3_variableAt hg.1 hg.2.1 hg.2.2.1 0) ?_
                refine zx_st (st1 := [zI (zVa (R.2.2.2.2.2.2 g).2.2.2.2 0), zI f]) rfl ?_
                refine zx_icmp_eq (tgt := 95) dX7_findSwitch_88 (by decide) (fun h88 => absurd h88 (hf2)) (fun h88 => ?_)
                refine zx_iconst (v := 1) dX7_findSwitch_91 rfl (z32_lit (by decide) (by decide)) ?_
                refine zx_goto (tgt := 96) dX7_findSwitch_92 (by decide) ?_
                refine zx_istore (i := 6) dX7_findSwitch_96 (by decide) rfl ?_
                refine zx_L (L1 := [some (zR md), some (zI f), some (zI k), some (zI (q : Int)), some (zR c), some (zR g), some (zI 1)]) rfl ?_
                refine zx_iload (i := 6) dX7_findSwitch_98 rfl ?_
                refine zx_if_ne (tgt := 116) dX7_findSwitch_100 (by decide) (fun h100 => ?_) (fun h100 => absurd (by decide) h100)
                refine zx_iconst (v := -1) dX7_findSwitch_116 rfl (z32_lit (by decide) (by decide)) ?_
                refine zx_iret dX7_findSwitch_117 rfl ?_
                exact zr_i rfl
          · rw [if_neg (fun h => hi h.2)]
            refine zx_iload_n (i := 3) dX7_findSwitch_6 rfl rfl ?_
            refine zx_aload_n (i := 0) dX7_findSwitch_7 rfl rfl ?_
            refine zx_getfield dX7_findSwitch_8 zf_X7_102 hmd rfl ?_
            refine zx_iv (b := pr) (As := []) (st := [zI (q : Int)]) (v := (some (zI (CL.length : Int)))) (w1 := w) dX7_findSwitch_11 zc_X7_106 hpy rfl rfl rfl (Nat.le_of_ble_eq_true rfl) rfl (by have h := c_X6_clauseCount (G := G) (d := d + 3) hpy hcl; rw [hCL] at h; exact h) ?_
            refine zx_st (st1 := [zI (CL.length : Int), zI (q : Int)]) rfl ?_
            refine zx_icmp_ge (tgt := 141) dX7_findSwitch_14 (by decide) (fun h14 => absurd h14 (by omega)) (fun h14 => ?_)
            refine zx_aload_n (i := 0) dX7_findSwitch_17 rfl rfl ?_
            refine zx_getfield dX7_findSwitch_18 zf_X7_102 hmd rfl ?_
            refine zx_iload_n (i := 3) dX7_findSwitch_21 rfl rfl ?_
            refine zx_iv (b := pr) (As := [zI (q : Int)]) (st := []) (v := (some (zR c))) (w1 := w) dX7_findSwitch_22 zc_X7_109 hpy rfl rfl rfl (Nat.le_of_ble_eq_true rfl) rfl (by have h := c_X6_clauseAt (G := G) (d := d + 1) hpy hcl helC (q : Int); rw [hCL, lAt_in (by omega) (by rw [Int.toNat_natCast]; exact hcq)] at h; exact h) ?_
            refine zx_st (st1 := [zR c]) rfl ?_
            refine zx_astore (i := 4) dX7_findSwitch_25 (by decide) rfl ?_
            refine zx_L (L1 := [some (zR md), some (zI f), some (zI k), some (zI (q : Int)), some (zR c), o5, o6]) rfl ?_
            refine zx_aload (i := 4) dX7_findSwitch_27 rfl ?_
            refine zx_pc (pc1 := 29) rfl ?_
            refine zx_ifnonnull (tgt := 36) dX7_findSwitch_29 (by decide) (fun _ => ?_) (fun h => by cases h)
            refine zx_aload (i := 4) dX7_findSwitch_36 rfl ?_
            refine zx_aload_n (i := 0) dX7_findSwitch_38 rfl rfl ?_
            refine zx_getfield dX7_findSwitch_39 zf_X7_57 hmd rfl ?_
            refine zx_iconst (v := 0) dX7_findSwitch_42 rfl (z32_lit (by decide) (by decide)) ?_
            refine zx_iv (b := c) (As := [zI (m : Int), zI 0]) (st := []) (v := (some (zR g))) (w1 := w) dX7_findSwitch_43 zc_X7_181 hC.1 rfl rfl rfl (Nat.le_of_ble_eq_true rfl) rfl (by have h := c_X1_goalIn (G := G) (d := d + 3) hC (m : Int) 0; rw [show (if 0 ≤ csl (R.2.2.2.2.2.1 c).2.2.2.2.1.1 (m : Int) 0 then (R.2.2.2.2.2.1 c).2.2.2.2.2.1.getD (csl (R.2.2.2.2.2.1 c).2.2.2.2.1.1 (m : Int) 0).toNat none else none) = _ from hod] at h; exact h) ?_
            refine zx_st (st1 := [zR g]) rfl ?_
            refine zx_astore (i := 5) dX7_findSwitch_46 (by decide) rfl ?_
            refine zx_L (L1 := [some (zR md), some (zI f), some (zI k), some (zI (q : Int)), some (zR c), some (zR g), o6]) rfl ?_
            refine zx_aload (i := 5) dX7_findSwitch_48 rfl ?_
            refine zx_ifnull (tgt := 74) dX7_findSwitch_50 (by decide) (fun h => by cases h) (fun _ => ?_)
            refine zx_aload (i := 5) dX7_findSwitch_53 rfl ?_
            refine zx_getfield dX7_findSwitch_55 zf_X7_159 hg.1 rfl ?_
            refine zx_if_ne (tgt := 74) dX7_findSwitch_58 (by decide) (fun h58 => absurd h58 (not_not_intro hk)) (fun h58 => ?_)
            refine zx_pc (pc1 := 61) rfl ?_
            refine zx_aload_n (i := 0) dX7_findSwitch_61 rfl rfl ?_
            refine zx_aload (i := 5) dX7_findSwitch_62 rfl ?_
            refine zx_iconst (v := 0) dX7_findSwitch_64 rfl (z32_lit (by decide) (by decide)) ?_
            refine zx_iv (b := g) (As := [zI 0]) (st := [zR md]) (v := (some (zI (zVa (R.2.2.2.2.2.2 g).2.2.2.2 0)))) (w1 := w) dX7_findSwitch_65 zc_X7_156 hg.1 rfl rfl rfl (Nat.le_of_ble_eq_true rfl) rfl (c_X3_variableAt hg.1 hg.2.1 hg.2.2.1 0) ?_
            refine zx_st (st1 := [zI (zVa (R.2.2.2.2.2.2 g).2.2.2.2 0), zR md]) rfl ?_
            refine zx_iv (b := md) (As := [zI (zVa (R.2.2.2.2.2.2 g).2.2.2.2 0)]) (st := []) (v := (some (zI (zB (isIn ins (zVa (R.2.2.2.2.2.2 g).2.2.2.2 0)))))) (w1 := w) dX7_findSwitch_68 zc_X7_177 hmd rfl rfl rfl (Nat.le_of_ble_eq_true rfl) rfl (c_X5_isInput hmd (zVa (R.2.2.2.2.2.2 g).2.2.2.2 0)) ?_
            refine zx_st (st1 := [zI (zB (isIn ins (zVa (R.2.2.2.2.2.2 g).2.2.2.2 0)))]) rfl ?_
            refine zx_if_ne (tgt := 76) dX7_findSwitch_71 (by decide) (fun h71 => absurd h71 (not_not_intro (zB_f hi))) (fun h71 => ?_)
            refine zx_iconst (v := -1) dX7_findSwitch_74 rfl (z32_lit (by decide) (by decide)) ?_
            refine zx_iret dX7_findSwitch_75 rfl ?_
            exact zr_i rfl
        · rw [if_neg (fun h => hk h.1)]
          refine zx_iload_n (i := 3) dX7_findSwitch_6 rfl rfl ?_
          refine zx_aload_n (i := 0) dX7_findSwitch_7 rfl rfl ?_
          refine zx_getfield dX7_findSwitch_8 zf_X7_102 hmd rfl ?_
          refine zx_iv (b := pr) (As := []) (st := [zI (q : Int)]) (v := (some (zI (CL.length : Int)))) (w1 := w) dX7_findSwitch_11 zc_X7_106 hpy rfl rfl rfl (Nat.le_of_ble_eq_true rfl) rfl (by have h := c_X6_clauseCount (G := G) (d := d + 3) hpy hcl; rw [hCL] at h; exact h) ?_
          refine zx_st (st1 := [zI (CL.length : Int), zI (q : Int)]) rfl ?_
          refine zx_icmp_ge (tgt := 141) dX7_findSwitch_14 (by decide) (fun h14 => absurd h14 (by omega)) (fun h14 => ?_)
          refine zx_aload_n (i := 0) dX7_findSwitch_17 rfl rfl ?_
          refine zx_getfield dX7_findSwitch_18 zf_X7_102 hmd rfl ?_
          refine zx_iload_n (i := 3) dX7_findSwitch_21 rfl rfl ?_
          refine zx_iv (b := pr) (As := [zI (q : Int)]) (st := []) (v := (some (zR c))) (w1 := w) dX7_findSwitch_22 zc_X7_109 hpy rfl rfl rfl (Nat.le_of_ble_eq_true rfl) rfl (by have h := c_X6_clauseAt (G := G) (d := d + 1) hpy hcl helC (q : Int); rw [hCL, lAt_in (by omega) (by rw [Int.toNat_natCast]; exact hcq)] at h; exact h) ?_
          refine zx_st (st1 := [zR c]) rfl ?_
          refine zx_astore (i := 4) dX7_findSwitch_25 (by decide) rfl ?_
          refine zx_L (L1 := [some (zR md), some (zI f), some (zI k), some (zI (q : Int)), some (zR c), o5, o6]) rfl ?_
          refine zx_aload (i := 4) dX7_findSwitch_27 rfl ?_
          refine zx_pc (pc1 := 29) rfl ?_
          refine zx_ifnonnull (tgt := 36) dX7_findSwitch_29 (by decide) (fun _ => ?_) (fun h => by cases h)
          refine zx_aload (i := 4) dX7_findSwitch_36 rfl ?_
          refine zx_aload_n (i := 0) dX7_findSwitch_38 rfl rfl ?_
          refine zx_getfield dX7_findSwitch_39 zf_X7_57 hmd rfl ?_
          refine zx_iconst (v := 0) dX7_findSwitch_42 rfl (z32_lit (by decide) (by decide)) ?_
          refine zx_iv (b := c) (As := [zI (m : Int), zI 0]) (st := []) (v := (some (zR g))) (w1 := w) dX7_findSwitch_43 zc_X7_181 hC.1 rfl rfl rfl (Nat.le_of_ble_eq_true rfl) rfl (by have h := c_X1_goalIn (G := G) (d := d + 3) hC (m : Int) 0; rw [show (if 0 ≤ csl (R.2.2.2.2.2.1 c).2.2.2.2.1.1 (m : Int) 0 then (R.2.2.2.2.2.1 c).2.2.2.2.2.1.getD (csl (R.2.2.2.2.2.1 c).2.2.2.2.1.1 (m : Int) 0).toNat none else none) = _ from hod] at h; exact h) ?_
          refine zx_st (st1 := [zR g]) rfl ?_
          refine zx_astore (i := 5) dX7_findSwitch_46 (by decide) rfl ?_
          refine zx_L (L1 := [some (zR md), some (zI f), some (zI k), some (zI (q : Int)), some (zR c), some (zR g), o6]) rfl ?_
          refine zx_aload (i := 5) dX7_findSwitch_48 rfl ?_
          refine zx_ifnull (tgt := 74) dX7_findSwitch_50 (by decide) (fun h => by cases h) (fun _ => ?_)
          refine zx_aload (i := 5) dX7_findSwitch_53 rfl ?_
          refine zx_getfield dX7_findSwitch_55 zf_X7_159 hg.1 rfl ?_
          refine zx_if_ne (tgt := 74) dX7_findSwitch_58 (by decide) (fun h58 => ?_) (fun h58 => absurd (hk) h58)
          refine zx_pc (pc1 := 74) rfl ?_
          refine zx_iconst (v := -1) dX7_findSwitch_74 rfl (z32_lit (by decide) (by decide)) ?_
          refine zx_iret dX7_findSwitch_75 rfl ?_
          exact zr_i rfl
  have h0 := loop CL.length 0 (-1) 0 none none none (by omega)
  rw [List.drop_zero] at h0
  refine zx_L (L1 := [some (zR md), none, none, none, none, none, none]) rfl ?_
  refine zx_iconst (v := -1) dX7_findSwitch_0 rfl (z32_lit (by decide) (by decide)) ?_
  refine zx_istore_n (i := 1) dX7_findSwitch_1 rfl (by decide) rfl ?_
  refine zx_L (L1 := [some (zR md), some (zI (-1)), none, none, none, none, none]) rfl ?_
  refine zx_iconst (v := 0) dX7_findSwitch_2 rfl (z32_lit (by decide) (by decide)) ?_
  refine zx_istore_n (i := 2) dX7_findSwitch_3 rfl (by decide) rfl ?_
  refine zx_L (L1 := [some (zR md), some (zI (-1)), some (zI 0), none, none, none, none]) rfl ?_
  refine zx_iconst (v := 0) dX7_findSwitch_4 rfl (z32_lit (by decide) (by decide)) ?_
  refine zx_istore_n (i := 3) dX7_findSwitch_5 rfl (by decide) rfl ?_
  refine zx_L (L1 := [some (zR md), some (zI (-1)), some (zI 0), some (zI 0), none, none, none]) rfl ?_
  exact h0
end CMODE2
