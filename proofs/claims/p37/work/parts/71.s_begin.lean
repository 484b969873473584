/-! Own rows: the machine's begin. Walked by program (wip/p37/m_rn.py). -/
/-- a machine before a question: its report is r0 still -/
def mcB (w : zW) (b1 b2 r0 : Nat) : mcK → mcR → Prop
  | ((mc, fa, ca, ta), (t, tc, tn, th, tz), (rp, ri, ra, rn), (ty, C), (mo, I, bk, bc)), (((cap, Fs), fm), (cc, CH), (ct, TR), (us, cu, pl, de), (fl, ov, fu), (N, H, Sz), (A, Nt, sc, nc, dp, en)) =>
    w.1 mc = some (4, 0, [zR t, zR fa, zR ca, zR ta, zR r0, zI us, zP cu, zI pl, zP de, zI fl, zI ov, zI fu]) ∧ w.1 fa = some (166, mc, zLs cap Fs) ∧ (w.1 ca = some (138, mc, tTb 3 cc CH) ∧ tOk 3 CH) ∧ (w.1 ta = some (139, mc, tTb 2 ct TR) ∧ tOk 2 TR) ∧
    (∀ (i y : Nat), Fs[i]? = some y → fmW w y (i : Int) (fm y)) ∧ tmW w t tc tn th tz ty C N H Sz ∧ rpW w rp ri ra rn mo I A Nt sc nc dp en bk bc ∧
    ((Fs = [] → cap = 0) ∧ Fs.length ≤ cap ∧ cap ≤ 10 + 2 * Fs.length ∧ (Fs ≠ [] → 10 ≤ cap)) ∧ (90 ≤ cc ∧ 60 ≤ ct ∧ cc ≤ 4000 ∧ ct ≤ 1400100) ∧
    60 * w.2.1 ≤ b1 + 180 * Fs.length + cc + ct ∧ w.2.2 ≤ b2 + 1000 * Fs.length + 2 * cc + 2 * ct
theorem mcW_B {w : zW} {b1 b2 : Nat} {mc fa ca ta t tc tn th tz rp ri ra rn : Nat} {ty bk bc : Int} {C I : List (List Int)} {mo : Option Nat} {cap cc ct : Nat} {Fs : List Nat} {fm : Nat → fmR} {CH TR N H A Nt : List (List Int)} {Sz : List Int} {us pl fl ov fu sc nc dp en : Int} {cu de : Option Nat} (h : mcW w b1 b2 ((mc, fa, ca, ta), (t, tc, tn, th, tz), (rp, ri, ra, rn), (ty, C), (mo, I, bk, bc)) (((cap, Fs), fm), (cc, CH), (ct, TR), (us, cu, pl, de), (fl, ov, fu), (N, H, Sz), (A, Nt, sc, nc, dp, en))) : mcB w b1 b2 rp ((mc, fa, ca, ta), (t, tc, tn, th, tz), (rp, ri, ra, rn), (ty, C), (mo, I, bk, bc)) (((cap, Fs), fm), (cc, CH), (ct, TR), (us, cu, pl, de), (fl, ov, fu), (N, H, Sz), (A, Nt, sc, nc, dp, en)) := h
section SBE
variable {pg : Nat} {G : zG} {d : Nat} {w : zW} {b1 b2 r0 : Nat} {R : pgR} {mc fa ca ta t tc tn th tz rp ri ra rn : Nat} {ty bk bc : Int} {C I : List (List Int)} {mo : Option Nat} {cap cc ct : Nat} {Fs : List Nat} {fm : Nat → fmR} {CH TR N H A Nt : List (List Int)} {Sz : List Int} {us pl fl ov fu sc nc dp en : Int} {cu de : Option Nat} {tm : List smG}

theorem s_begin (hP : pgW w pg R) (hK : mkF R) (hB : mcB w b1 b2 r0 ((mc, fa, ca, ta), (t, tc, tn, th, tz), (rp, ri, ra, rn), (ty, C), (mo, I, bk, bc)) (((cap, Fs), fm), (cc, CH), (ct, TR), (us, cu, pl, de), (fl, ov, fu), (N, H, Sz), ([], [], 0, 0, 0, 101))) (htm : tmR N H Sz tm) (hG1 : b1 + 1500000 ≤ 60 * G.2.2.2.2.1) (hG2 : b2 + 3150000 ≤ G.2.2.2.2.2) (hF3 : Fs.length ≤ 320) {p m md0 : Nat} (hmd0 : pgMo R p m = some md0) {o : Nat → Option smG} (hin : ∀ k : Nat, k < 3 → tvE tm (tg I (k : Int) 0) (o k)) (ho3 : ∀ k, 3 ≤ k → o k = none) (hsF : ∀ s, (pgC R).2.2.1 p m = some s → o s ≠ none ∧ ∀ c, c ∈ (pgC R).1.1.1 p → ∃ e os, (pgC R).2.1.2 m c = e :: os ∧ e.1.1 = 0) : zM G zm_X4_begin (d + 7) [zR mc, zR md0, zR rp] w (zVoid fun w' => (∃ Fs2 : List Nat, Fs2.length ≤ 320 ∧ msW w' b1 b2 ((mc, fa, ca, ta), (t, tc, tn, th, tz), (rp, ri, ra, rn), (ty, C), (mo, I, bk, bc)) R Fs2 (0, 0, 101) (mmStart (pgC R) tm (p, m) o)) ∧ mcF rp w w') := by
  refine zx_ent (by decide +kernel) rfl (Nat.le_of_ble_eq_true rfl) ?_
  refine zx_L (L1 := [some (zR mc), some (zR md0), some (zR rp), none, none]) rfl ?_
  obtain ⟨hmc, hfa, ⟨hca, okC⟩, ⟨hta, okT⟩, hFr, ⟨ht0, ⟨htc, okTC⟩, ⟨htn, okN⟩, ⟨hth, okH⟩, htz, hSz⟩, ⟨hrp, ⟨hri, okI⟩, ⟨hra, okA⟩, ⟨hrn, okNt⟩⟩, hcap, hcct, hrm1, hrm2⟩ := id hB
  refine zx_aload_n (i := 0) dX4_begin_0 rfl rfl ?_
  refine zx_aload_n (i := 2) dX4_begin_1 rfl rfl ?_
  obtain ⟨w_1, hw_2⟩ : ∃ ww, ww = zput w mc (4, 0, [zR t, zR fa, zR ca, zR ta, zR rp, zI us, zP cu, zI pl, zP de, zI fl, zI ov, zI fu]) := ⟨_, rfl⟩
  refine zx_put (w1 := w_1) dX4_begin_2 zf_X4_15 hmc (Nat.le_of_ble_eq_true rfl) (zFt_obj _ _) (fun h => by cases h) hw_2.symm ?_
  have q_3 : w_1.2.1 = w.2.1 ∧ w_1.2.2 = w.2.2 := by rw [hw_2]; exact ⟨rfl, rfl⟩
  have h_4 : w_1.1 mc = some (4, 0, [zR t, zR fa, zR ca, zR ta, zR rp, zI us, zP cu, zI pl, zP de, zI fl, zI ov, zI fu]) := by rw [hw_2]; exact zput_at
  refine zx_aload_n (i := 0) dX4_begin_5 rfl rfl ?_
  refine zx_getfield dX4_begin_6 zf_X4_31 h_4 rfl ?_
  refine zx_iconst (v := 0) dX4_begin_9 rfl (z32_lit (by decide) (by decide)) ?_
  have h_5 : w_1.1 ca = some (138, mc, tTb 3 cc CH) := by
    rw [hw_2]; exact zput_tg hmc hca (by simp)
  obtain ⟨w_6, hw_7⟩ : ∃ ww, ww = zput w_1 ca (138, mc, tTb 3 cc ([] : List (List Int))) := ⟨_, rfl⟩
  have q_8 : w_6.2.1 = w_1.2.1 ∧ w_6.2.2 = w_1.2.2 := by rw [hw_7]; exact ⟨rfl, rfl⟩
  have h_9 : w_6.1 ca = some (138, mc, tTb 3 cc ([] : List (List Int))) := by rw [hw_7]; exact zput_at
  refine zx_iv (b := ca) (As := [zI 0]) (st := []) (v := none) (w1 := w_6) dX4_begin_10 zc_X4_107 h_5 (z_cls9 (by decide)) rfl rfl (Nat.le_of_ble_eq_true rfl) rfl (by rw [hw_7]; exact (by have q := c_X9_cut (G := G) (d := d + 6) h_5 (by decide) okC 0; rw [tcut_0] at q; exact q)) ?_
  refine zx_st (st1 := []) rfl ?_
  refine zx_aload_n (i := 0) dX4_begin_13 rfl rfl ?_
  have h_10 : w_6.1 mc = some (4, 0, [zR t, zR fa, zR ca, zR ta, zR rp, zI us, zP cu, zI pl, zP de, zI fl, zI ov, zI fu]) := by
    rw [hw_7]; exact zput_tg h_5 h_4 (by simp)
  refine zx_getfield dX4_begin_14 zf_X4_35 h_10 rfl ?_
  refine zx_iconst (v := 0) dX4_begin_17 rfl (z32_lit (by decide) (by decide)) ?_
  have h_11 : w_1.1 ta = some (139, mc, tTb 2 ct TR) := by
    rw [hw_2]; exact zput_tg hmc hta (by simp)
  have h_12 : w_6.1 ta = some (139, mc, tTb 2 ct TR) := by
    rw [hw_7]; exact zput_tg h_5 h_11 (by simp)
  obtain ⟨w_13, hw_14⟩ : ∃ ww, ww = zput w_6 ta (139, mc, tTb 2 ct ([] : List (List Int))) := ⟨_, rfl⟩
  have q_15 : w_13.2.1 = w_6.2.1 ∧ w_13.2.2 = w_6.2.2 := by rw [hw_14]; exact ⟨rfl, rfl⟩
  have h_16 : w_13.1 ta = some (139, mc, tTb 2 ct ([] : List (List Int))) := by rw [hw_14]; exact zput_at
  refine zx_iv (b := ta) (As := [zI 0]) (st := []) (v := none) (w1 := w_13) dX4_begin_18 zc_X4_107 h_12 (z_cls9 (by decide)) rfl rfl (Nat.le_of_ble_eq_true rfl) rfl (by rw [hw_14]; exact (by have q := c_X9_cut (G := G) (d := d + 6) h_12 (by decide) okT 0; rw [tcut_0] at q; exact q)) ?_
  refine zx_st (st1 := []) rfl ?_
  refine zx_pc (pc1 := 21) rfl ?_
  refine zx_aload_n (i := 0) dX4_begin_21 rfl rfl ?_
  refine zx_iconst (v := 0) dX4_begin_22 rfl (z32_lit (by decide) (by decide)) ?_
  have h_17 : w_13.1 mc = some (4, 0, [zR t, zR fa, zR ca, zR ta, zR rp, zI us, zP cu, zI pl, zP de, zI fl, zI ov, zI fu]) := by
    rw [hw_14]; exact zput_tg h_12 h_10 (by simp)
  obtain ⟨w_18, hw_19⟩ : ∃ ww, ww = zput w_13 mc (4, 0, [zR t, zR fa, zR ca, zR ta, zR rp, zI 0, zP cu, zI pl, zP de, zI fl, zI ov, zI fu]) := ⟨_, rfl⟩
  refine zx_put (w1 := w_18) dX4_begin_23 zf_X4_110 h_17 (Nat.le_of_ble_eq_true rfl) (zFt_int _) (fun h => by cases h) hw_19.symm ?_
  have q_20 : w_18.2.1 = w_13.2.1 ∧ w_18.2.2 = w_13.2.2 := by rw [hw_19]; exact ⟨rfl, rfl⟩
  have h_21 : w_18.1 mc = some (4, 0, [zR t, zR fa, zR ca, zR ta, zR rp, zI 0, zP cu, zI pl, zP de, zI fl, zI ov, zI fu]) := by rw [hw_19]; exact zput_at
  refine zx_aload_n (i := 0) dX4_begin_26 rfl rfl ?_
  refine zx_null dX4_begin_27 ?_
  obtain ⟨w_22, hw_23⟩ : ∃ ww, ww = zput w_18 mc (4, 0, [zR t, zR fa, zR ca, zR ta, zR rp, zI 0, zN, zI pl, zP de, zI fl, zI ov, zI fu]) := ⟨_, rfl⟩
  refine zx_put (w1 := w_22) dX4_begin_28 zf_X4_53 h_21 (Nat.le_of_ble_eq_true rfl) (zFt_obj _ _) (fun h => by cases h) hw_23.symm ?_
  have q_24 : w_22.2.1 = w_18.2.1 ∧ w_22.2.2 = w_18.2.2 := by rw [hw_23]; exact ⟨rfl, rfl⟩
  have h_25 : w_22.1 mc = some (4, 0, [zR t, zR fa, zR ca, zR ta, zR rp, zI 0, zN, zI pl, zP de, zI fl, zI ov, zI fu]) := by rw [hw_23]; exact zput_at
  refine zx_aload_n (i := 0) dX4_begin_31 rfl rfl ?_
  refine zx_iconst (v := 0) dX4_begin_32 rfl (z32_lit (by decide) (by decide)) ?_
  obtain ⟨w_26, hw_27⟩ : ∃ ww, ww = zput w_22 mc (4, 0, [zR t, zR fa, zR ca, zR ta, zR rp, zI 0, zN, zI 0, zP de, zI fl, zI ov, zI fu]) := ⟨_, rfl⟩
  refine zx_put (w1 := w_26) dX4_begin_33 zf_X4_69 h_25 (Nat.le_of_ble_eq_true rfl) (zFt_int _) (fun h => by cases h) hw_27.symm ?_
  have q_28 : w_26.2.1 = w_22.2.1 ∧ w_26.2.2 = w_22.2.2 := by rw [hw_27]; exact ⟨rfl, rfl⟩
  have h_29 : w_26.1 mc = some (4, 0, [zR t, zR fa, zR ca, zR ta, zR rp, zI 0, zN, zI 0, zP de, zI fl, zI ov, zI fu]) := by rw [hw_27]; exact zput_at
  refine zx_aload_n (i := 0) dX4_begin_36 rfl rfl ?_
  refine zx_null dX4_begin_37 ?_
  obtain ⟨w_30, hw_31⟩ : ∃ ww, ww = zput w_26 mc (4, 0, [zR t, zR fa, zR ca, zR ta, zR rp, zI 0, zN, zI 0, zN, zI fl, zI ov, zI fu]) := ⟨_, rfl⟩
  refine zx_put (w1 := w_30) dX4_begin_38 zf_X4_113 h_29 (Nat.le_of_ble_eq_true rfl) (zFt_obj _ _) (fun h => by cases h) hw_31.symm ?_
  have q_32 : w_30.2.1 = w_26.2.1 ∧ w_30.2.2 = w_26.2.2 := by rw [hw_31]; exact ⟨rfl, rfl⟩
  have h_33 : w_30.1 mc = some (4, 0, [zR t, zR fa, zR ca, zR ta, zR rp, zI 0, zN, zI 0, zN, zI fl, zI ov, zI fu]) := by rw [hw_31]; exact zput_at
  refine zx_pc (pc1 := 41) rfl ?_
  refine zx_aload_n (i := 0) dX4_begin_41 rfl rfl ?_
  refine zx_iconst (v := 0) dX4_begin_42 rfl (z32_lit (by decide) (by decide)) ?_
  obtain ⟨w_34, hw_35⟩ : ∃ ww, ww = zput w_30 mc (4, 0, [zR t, zR fa, zR ca, zR ta, zR rp, zI 0, zN, zI 0, zN, zI 0, zI ov, zI fu]) := ⟨_, rfl⟩
  refine zx_put (w1 := w_34) dX4_begin_43 zf_X4_57 h_33 (Nat.le_of_ble_eq_true rfl) (zFt_bool (by first | exact Or.inl rfl | exact Or.inr rfl | exact zB_or | assumption)) (fun h => by cases h) hw_35.symm ?_
  have q_36 : w_34.2.1 = w_30.2.1 ∧ w_34.2.2 = w_30.2.2 := by rw [hw_35]; exact ⟨rfl, rfl⟩
  have h_37 : w_34.1 mc = some (4, 0, [zR t, zR fa, zR ca, zR ta, zR rp, zI 0, zN, zI 0, zN, zI 0, zI ov, zI fu]) := by rw [hw_35]; exact zput_at
  refine zx_aload_n (i := 0) dX4_begin_46 rfl rfl ?_
  refine zx_iconst (v := 0) dX4_begin_47 rfl (z32_lit (by decide) (by decide)) ?_
  obtain ⟨w_38, hw_39⟩ : ∃ ww, ww = zput w_34 mc (4, 0, [zR t, zR fa, zR ca, zR ta, zR rp, zI 0, zN, zI 0, zN, zI 0, zI 0, zI fu]) := ⟨_, rfl⟩
  refine zx_put (w1 := w_38) dX4_begin_48 zf_X4_49 h_37 (Nat.le_of_ble_eq_true rfl) (zFt_bool (by first | exact Or.inl rfl | exact Or.inr rfl | exact zB_or | assumption)) (fun h => by cases h) hw_39.symm ?_
  have q_40 : w_38.2.1 = w_34.2.1 ∧ w_38.2.2 = w_34.2.2 := by rw [hw_39]; exact ⟨rfl, rfl⟩
  have h_41 : w_38.1 mc = some (4, 0, [zR t, zR fa, zR ca, zR ta, zR rp, zI 0, zN, zI 0, zN, zI 0, zI 0, zI fu]) := by rw [hw_39]; exact zput_at
  refine zx_aload_n (i := 0) dX4_begin_51 rfl rfl ?_
  refine zx_iconst (v := 0) dX4_begin_52 rfl (z32_lit (by decide) (by decide)) ?_
  obtain ⟨w_42, hw_43⟩ : ∃ ww, ww = zput w_38 mc (4, 0, [zR t, zR fa, zR ca, zR ta, zR rp, zI 0, zN, zI 0, zN, zI 0, zI 0, zI 0]) := ⟨_, rfl⟩
  refine zx_put (w1 := w_42) dX4_begin_53 zf_X4_100 h_41 (Nat.le_of_ble_eq_true rfl) (zFt_bool (by first | exact Or.inl rfl | exact Or.inr rfl | exact zB_or | assumption)) (fun h => by cases h) hw_43.symm ?_
  have q_44 : w_42.2.1 = w_38.2.1 ∧ w_42.2.2 = w_38.2.2 := by rw [hw_43]; exact ⟨rfl, rfl⟩
  have h_45 : w_42.1 mc = some (4, 0, [zR t, zR fa, zR ca, zR ta, zR rp, zI 0, zN, zI 0, zN, zI 0, zI 0, zI 0]) := by rw [hw_43]; exact zput_at
  refine zx_aload_n (i := 0) dX4_begin_56 rfl rfl ?_
  refine zx_aload_n (i := 1) dX4_begin_57 rfl rfl ?_
  refine zx_null dX4_begin_58 ?_
  refine zx_pc (pc1 := 59) rfl ?_
  have hfaL2 : zFa [mc, ca, ta] w w_42 := (zFa_put (zFa_put (zFa_put (zFa_put (zFa_put (zFa_put (zFa_put (zFa_put (zFa_put (zFa_put zFa_re (by simp) hw_2) (by simp) hw_7) (by simp) hw_14) (by simp) hw_19) (by simp) hw_23) (by simp) hw_27) (by simp) hw_31) (by simp) hw_35) (by simp) hw_39) (by simp) hw_43)
  have hFrr2 := fm_keep hFr hfaL2 (zLc hmc (by simp) (zLc hca (by simp) (zLc hta (by simp) zLn)))
  have hmcF2 : mcF rp w w_42 := mcF_fa hfaL2 (zLc hmc (by simp [mcP]) (zLc hca (by simp [mcP]) (zLc hta (by simp [mcP]) zLn)))
  have h_46 : w_1.1 fa = some (166, mc, zLs cap Fs) := by
    rw [hw_2]; exact zput_tg hmc hfa (by simp)
  have h_47 : w_6.1 fa = some (166, mc, zLs cap Fs) := by
    rw [hw_7]; exact zput_tg h_5 h_46 (by simp)
  have h_48 : w_13.1 fa = some (166, mc, zLs cap Fs) := by
    rw [hw_14]; exact zput_tg h_12 h_47 (by simp)
  have h_49 : w_18.1 fa = some (166, mc, zLs cap Fs) := by
    rw [hw_19]; exact zput_tg h_17 h_48 (by simp)
  have h_50 : w_22.1 fa = some (166, mc, zLs cap Fs) := by
    rw [hw_23]; exact zput_tg h_21 h_49 (by simp)
  have h_51 : w_26.1 fa = some (166, mc, zLs cap Fs) := by
    rw [hw_27]; exact zput_tg h_25 h_50 (by simp)
  have h_52 : w_30.1 fa = some (166, mc, zLs cap Fs) := by
    rw [hw_31]; exact zput_tg h_29 h_51 (by simp)
  have h_53 : w_34.1 fa = some (166, mc, zLs cap Fs) := by
    rw [hw_35]; exact zput_tg h_33 h_52 (by simp)
  have h_54 : w_38.1 fa = some (166, mc, zLs cap Fs) := by
    rw [hw_39]; exact zput_tg h_37 h_53 (by simp)
  have h_55 : w_42.1 fa = some (166, mc, zLs cap Fs) := by
    rw [hw_43]; exact zput_tg h_41 h_54 (by simp)
  have h_56 : w_13.1 ca = some (138, mc, tTb 3 cc ([] : List (List Int))) := by
    rw [hw_14]; exact zput_tg h_12 h_9 (by simp)
  have h_57 : w_18.1 ca = some (138, mc, tTb 3 cc ([] : List (List Int))) := by
    rw [hw_19]; exact zput_tg h_17 h_56 (by simp)
  have h_58 : w_22.1 ca = some (138, mc, tTb 3 cc ([] : List (List Int))) := by
    rw [hw_23]; exact zput_tg h_21 h_57 (by simp)
  have h_59 : w_26.1 ca = some (138, mc, tTb 3 cc ([] : List (List Int))) := by
    rw [hw_27]; exact zput_tg h_25 h_58 (by simp)
  have h_60 : w_30.1 ca = some (138, mc, tTb 3 cc ([] : List (List Int))) := by
    rw [hw_31]; exact zput_tg h_29 h_59 (by simp)
  have h_61 : w_34.1 ca = some (138, mc, tTb 3 cc ([] : List (List Int))) := by
    rw [hw_35]; exact zput_tg h_33 h_60 (by simp)
  have h_62 : w_38.1 ca = some (138, mc, tTb 3 cc ([] : List (List Int))) := by
    rw [hw_39]; exact zput_tg h_37 h_61 (by simp)
  have h_63 : w_42.1 ca = some (138, mc, tTb 3 cc ([] : List (List Int))) := by
    rw [hw_43]; exact zput_tg h_41 h_62 (by simp)
  have h_64 : w_18.1 ta = some (139, mc, tTb 2 ct ([] : List (List Int))) := by
    rw [hw_19]; exact zput_tg h_17 h_16 (by simp)
  have h_65 : w_22.1 ta = some (139, mc, tTb 2 ct ([] : List (List Int))) := by
    rw [hw_23]; exact zput_tg h_21 h_64 (by simp)
  have h_66 : w_26.1 ta = some (139, mc, tTb 2 ct ([] : List (List Int))) := by
    rw [hw_27]; exact zput_tg h_25 h_65 (by simp)
  have h_67 : w_30.1 ta = some (139, mc, tTb 2 ct ([] : List (List Int))) := by
    rw [hw_31]; exact zput_tg h_29 h_66 (by simp)
  have h_68 : w_34.1 ta = some (139, mc, tTb 2 ct ([] : List (List Int))) := by
    rw [hw_35]; exact zput_tg h_33 h_67 (by simp)
  have h_69 : w_38.1 ta = some (139, mc, tTb 2 ct ([] : List (List Int))) := by
    rw [hw_39]; exact zput_tg h_37 h_68 (by simp)
  have h_70 : w_42.1 ta = some (139, mc, tTb 2 ct ([] : List (List Int))) := by
    rw [hw_43]; exact zput_tg h_41 h_69 (by simp)
  have h_71 : w_1.1 t = some (10, 0, [zI ty, zR tc, zR tn, zR th, zR tz]) := by
    rw [hw_2]; exact zput_tg hmc ht0 (by simp)
  have h_72 : w_6.1 t = some (10, 0, [zI ty, zR tc, zR tn, zR th, zR tz]) := by
    rw [hw_7]; exact zput_tg h_5 h_71 (by simp)
  have h_73 : w_13.1 t = some (10, 0, [zI ty, zR tc, zR tn, zR th, zR tz]) := by
    rw [hw_14]; exact zput_tg h_12 h_72 (by simp)
  have h_74 : w_18.1 t = some (10, 0, [zI ty, zR tc, zR tn, zR th, zR tz]) := by
    rw [hw_19]; exact zput_tg h_17 h_73 (by simp)
  have h_75 : w_22.1 t = some (10, 0, [zI ty, zR tc, zR tn, zR th, zR tz]) := by
    rw [hw_23]; exact zput_tg h_21 h_74 (by simp)
  have h_76 : w_26.1 t = some (10, 0, [zI ty, zR tc, zR tn, zR th, zR tz]) := by
    rw [hw_27]; exact zput_tg h_25 h_75 (by simp)
  have h_77 : w_30.1 t = some (10, 0, [zI ty, zR tc, zR tn, zR th, zR tz]) := by
    rw [hw_31]; exact zput_tg h_29 h_76 (by simp)
  have h_78 : w_34.1 t = some (10, 0, [zI ty, zR tc, zR tn, zR th, zR tz]) := by
    rw [hw_35]; exact zput_tg h_33 h_77 (by simp)
  have h_79 : w_38.1 t = some (10, 0, [zI ty, zR tc, zR tn, zR th, zR tz]) := by
    rw [hw_39]; exact zput_tg h_37 h_78 (by simp)
  have h_80 : w_42.1 t = some (10, 0, [zI ty, zR tc, zR tn, zR th, zR tz]) := by
    rw [hw_43]; exact zput_tg h_41 h_79 (by simp)
  have h_81 : w_1.1 tc = some (130, t, tTb 3 30 C) := by
    rw [hw_2]; exact zput_tg hmc htc (by simp)
  have h_82 : w_6.1 tc = some (130, t, tTb 3 30 C) := by
    rw [hw_7]; exact zput_tg h_5 h_81 (by simp)
  have h_83 : w_13.1 tc = some (130, t, tTb 3 30 C) := by
    rw [hw_14]; exact zput_tg h_12 h_82 (by simp)
  have h_84 : w_18.1 tc = some (130, t, tTb 3 30 C) := by
    rw [hw_19]; exact zput_tg h_17 h_83 (by simp)
  have h_85 : w_22.1 tc = some (130, t, tTb 3 30 C) := by
    rw [hw_23]; exact zput_tg h_21 h_84 (by simp)
  have h_86 : w_26.1 tc = some (130, t, tTb 3 30 C) := by
    rw [hw_27]; exact zput_tg h_25 h_85 (by simp)
  have h_87 : w_30.1 tc = some (130, t, tTb 3 30 C) := by
    rw [hw_31]; exact zput_tg h_29 h_86 (by simp)
  have h_88 : w_34.1 tc = some (130, t, tTb 3 30 C) := by
    rw [hw_35]; exact zput_tg h_33 h_87 (by simp)
  have h_89 : w_38.1 tc = some (130, t, tTb 3 30 C) := by
    rw [hw_39]; exact zput_tg h_37 h_88 (by simp)
  have h_90 : w_42.1 tc = some (130, t, tTb 3 30 C) := by
    rw [hw_43]; exact zput_tg h_41 h_89 (by simp)
  have h_91 : w_1.1 tn = some (131, t, tTb 4 800 N) := by
    rw [hw_2]; exact zput_tg hmc htn (by simp)
  have h_92 : w_6.1 tn = some (131, t, tTb 4 800 N) := by
    rw [hw_7]; exact zput_tg h_5 h_91 (by simp)
  have h_93 : w_13.1 tn = some (131, t, tTb 4 800 N) := by
    rw [hw_14]; exact zput_tg h_12 h_92 (by simp)
  have h_94 : w_18.1 tn = some (131, t, tTb 4 800 N) := by
    rw [hw_19]; exact zput_tg h_17 h_93 (by simp)
  have h_95 : w_22.1 tn = some (131, t, tTb 4 800 N) := by
    rw [hw_23]; exact zput_tg h_21 h_94 (by simp)
  have h_96 : w_26.1 tn = some (131, t, tTb 4 800 N) := by
    rw [hw_27]; exact zput_tg h_25 h_95 (by simp)
  have h_97 : w_30.1 tn = some (131, t, tTb 4 800 N) := by
    rw [hw_31]; exact zput_tg h_29 h_96 (by simp)
  have h_98 : w_34.1 tn = some (131, t, tTb 4 800 N) := by
    rw [hw_35]; exact zput_tg h_33 h_97 (by simp)
  have h_99 : w_38.1 tn = some (131, t, tTb 4 800 N) := by
    rw [hw_39]; exact zput_tg h_37 h_98 (by simp)
  have h_100 : w_42.1 tn = some (131, t, tTb 4 800 N) := by
    rw [hw_43]; exact zput_tg h_41 h_99 (by simp)
  have h_101 : w_1.1 th = some (132, t, tTb 1 64 H) := by
    rw [hw_2]; exact zput_tg hmc hth (by simp)
  have h_102 : w_6.1 th = some (132, t, tTb 1 64 H) := by
    rw [hw_7]; exact zput_tg h_5 h_101 (by simp)
  have h_103 : w_13.1 th = some (132, t, tTb 1 64 H) := by
    rw [hw_14]; exact zput_tg h_12 h_102 (by simp)
  have h_104 : w_18.1 th = some (132, t, tTb 1 64 H) := by
    rw [hw_19]; exact zput_tg h_17 h_103 (by simp)
  have h_105 : w_22.1 th = some (132, t, tTb 1 64 H) := by
    rw [hw_23]; exact zput_tg h_21 h_104 (by simp)
  have h_106 : w_26.1 th = some (132, t, tTb 1 64 H) := by
    rw [hw_27]; exact zput_tg h_25 h_105 (by simp)
  have h_107 : w_30.1 th = some (132, t, tTb 1 64 H) := by
    rw [hw_31]; exact zput_tg h_29 h_106 (by simp)
  have h_108 : w_34.1 th = some (132, t, tTb 1 64 H) := by
    rw [hw_35]; exact zput_tg h_33 h_107 (by simp)
  have h_109 : w_38.1 th = some (132, t, tTb 1 64 H) := by
    rw [hw_39]; exact zput_tg h_37 h_108 (by simp)
  have h_110 : w_42.1 th = some (132, t, tTb 1 64 H) := by
    rw [hw_43]; exact zput_tg h_41 h_109 (by simp)
  have h_111 : w_1.1 tz = some (120, t, Sz.map zJ) := by
    rw [hw_2]; exact zput_tg hmc htz (by simp)
  have h_112 : w_6.1 tz = some (120, t, Sz.map zJ) := by
    rw [hw_7]; exact zput_tg h_5 h_111 (by simp)
  have h_113 : w_13.1 tz = some (120, t, Sz.map zJ) := by
    rw [hw_14]; exact zput_tg h_12 h_112 (by simp)
  have h_114 : w_18.1 tz = some (120, t, Sz.map zJ) := by
    rw [hw_19]; exact zput_tg h_17 h_113 (by simp)
  have h_115 : w_22.1 tz = some (120, t, Sz.map zJ) := by
    rw [hw_23]; exact zput_tg h_21 h_114 (by simp)
  have h_116 : w_26.1 tz = some (120, t, Sz.map zJ) := by
    rw [hw_27]; exact zput_tg h_25 h_115 (by simp)
  have h_117 : w_30.1 tz = some (120, t, Sz.map zJ) := by
    rw [hw_31]; exact zput_tg h_29 h_116 (by simp)
  have h_118 : w_34.1 tz = some (120, t, Sz.map zJ) := by
    rw [hw_35]; exact zput_tg h_33 h_117 (by simp)
  have h_119 : w_38.1 tz = some (120, t, Sz.map zJ) := by
    rw [hw_39]; exact zput_tg h_37 h_118 (by simp)
  have h_120 : w_42.1 tz = some (120, t, Sz.map zJ) := by
    rw [hw_43]; exact zput_tg h_41 h_119 (by simp)
  have h_121 : w_1.1 rp = some (8, 0, [zP mo, zR ri, zR ra, zR rn, zI 0, zI 0, zI 0, zI 101, zI bk, zI bc]) := by
    rw [hw_2]; exact zput_tg hmc hrp (by simp)
  have h_122 : w_6.1 rp = some (8, 0, [zP mo, zR ri, zR ra, zR rn, zI 0, zI 0, zI 0, zI 101, zI bk, zI bc]) := by
    rw [hw_7]; exact zput_tg h_5 h_121 (by simp)
  have h_123 : w_13.1 rp = some (8, 0, [zP mo, zR ri, zR ra, zR rn, zI 0, zI 0, zI 0, zI 101, zI bk, zI bc]) := by
    rw [hw_14]; exact zput_tg h_12 h_122 (by simp)
  have h_124 : w_18.1 rp = some (8, 0, [zP mo, zR ri, zR ra, zR rn, zI 0, zI 0, zI 0, zI 101, zI bk, zI bc]) := by
    rw [hw_19]; exact zput_tg h_17 h_123 (by simp)
  have h_125 : w_22.1 rp = some (8, 0, [zP mo, zR ri, zR ra, zR rn, zI 0, zI 0, zI 0, zI 101, zI bk, zI bc]) := by
    rw [hw_23]; exact zput_tg h_21 h_124 (by simp)
  have h_126 : w_26.1 rp = some (8, 0, [zP mo, zR ri, zR ra, zR rn, zI 0, zI 0, zI 0, zI 101, zI bk, zI bc]) := by
    rw [hw_27]; exact zput_tg h_25 h_125 (by simp)
  have h_127 : w_30.1 rp = some (8, 0, [zP mo, zR ri, zR ra, zR rn, zI 0, zI 0, zI 0, zI 101, zI bk, zI bc]) := by
    rw [hw_31]; exact zput_tg h_29 h_126 (by simp)
  have h_128 : w_34.1 rp = some (8, 0, [zP mo, zR ri, zR ra, zR rn, zI 0, zI 0, zI 0, zI 101, zI bk, zI bc]) := by
    rw [hw_35]; exact zput_tg h_33 h_127 (by simp)
  have h_129 : w_38.1 rp = some (8, 0, [zP mo, zR ri, zR ra, zR rn, zI 0, zI 0, zI 0, zI 101, zI bk, zI bc]) := by
    rw [hw_39]; exact zput_tg h_37 h_128 (by simp)
  have h_130 : w_42.1 rp = some (8, 0, [zP mo, zR ri, zR ra, zR rn, zI 0, zI 0, zI 0, zI 101, zI bk, zI bc]) := by
    rw [hw_43]; exact zput_tg h_41 h_129 (by simp)
  have h_131 : w_1.1 ri = some (135, rp, tTb 1 3 I) := by
    rw [hw_2]; exact zput_tg hmc hri (by simp)
  have h_132 : w_6.1 ri = some (135, rp, tTb 1 3 I) := by
    rw [hw_7]; exact zput_tg h_5 h_131 (by simp)
  have h_133 : w_13.1 ri = some (135, rp, tTb 1 3 I) := by
    rw [hw_14]; exact zput_tg h_12 h_132 (by simp)
  have h_134 : w_18.1 ri = some (135, rp, tTb 1 3 I) := by
    rw [hw_19]; exact zput_tg h_17 h_133 (by simp)
  have h_135 : w_22.1 ri = some (135, rp, tTb 1 3 I) := by
    rw [hw_23]; exact zput_tg h_21 h_134 (by simp)
  have h_136 : w_26.1 ri = some (135, rp, tTb 1 3 I) := by
    rw [hw_27]; exact zput_tg h_25 h_135 (by simp)
  have h_137 : w_30.1 ri = some (135, rp, tTb 1 3 I) := by
    rw [hw_31]; exact zput_tg h_29 h_136 (by simp)
  have h_138 : w_34.1 ri = some (135, rp, tTb 1 3 I) := by
    rw [hw_35]; exact zput_tg h_33 h_137 (by simp)
  have h_139 : w_38.1 ri = some (135, rp, tTb 1 3 I) := by
    rw [hw_39]; exact zput_tg h_37 h_138 (by simp)
  have h_140 : w_42.1 ri = some (135, rp, tTb 1 3 I) := by
    rw [hw_43]; exact zput_tg h_41 h_139 (by simp)
  have h_141 : w_1.1 ra = some (136, rp, tTb 3 150 ([] : List (List Int))) := by
    rw [hw_2]; exact zput_tg hmc hra (by simp)
  have h_142 : w_6.1 ra = some (136, rp, tTb 3 150 ([] : List (List Int))) := by
    rw [hw_7]; exact zput_tg h_5 h_141 (by simp)
  have h_143 : w_13.1 ra = some (136, rp, tTb 3 150 ([] : List (List Int))) := by
    rw [hw_14]; exact zput_tg h_12 h_142 (by simp)
  have h_144 : w_18.1 ra = some (136, rp, tTb 3 150 ([] : List (List Int))) := by
    rw [hw_19]; exact zput_tg h_17 h_143 (by simp)
  have h_145 : w_22.1 ra = some (136, rp, tTb 3 150 ([] : List (List Int))) := by
    rw [hw_23]; exact zput_tg h_21 h_144 (by simp)
  have h_146 : w_26.1 ra = some (136, rp, tTb 3 150 ([] : List (List Int))) := by
    rw [hw_27]; exact zput_tg h_25 h_145 (by simp)
  have h_147 : w_30.1 ra = some (136, rp, tTb 3 150 ([] : List (List Int))) := by
    rw [hw_31]; exact zput_tg h_29 h_146 (by simp)
  have h_148 : w_34.1 ra = some (136, rp, tTb 3 150 ([] : List (List Int))) := by
    rw [hw_35]; exact zput_tg h_33 h_147 (by simp)
  have h_149 : w_38.1 ra = some (136, rp, tTb 3 150 ([] : List (List Int))) := by
    rw [hw_39]; exact zput_tg h_37 h_148 (by simp)
  have h_150 : w_42.1 ra = some (136, rp, tTb 3 150 ([] : List (List Int))) := by
    rw [hw_43]; exact zput_tg h_41 h_149 (by simp)
  have h_151 : w_1.1 rn = some (137, rp, tTb 2 160 ([] : List (List Int))) := by
    rw [hw_2]; exact zput_tg hmc hrn (by simp)
  have h_152 : w_6.1 rn = some (137, rp, tTb 2 160 ([] : List (List Int))) := by
    rw [hw_7]; exact zput_tg h_5 h_151 (by simp)
  have h_153 : w_13.1 rn = some (137, rp, tTb 2 160 ([] : List (List Int))) := by
    rw [hw_14]; exact zput_tg h_12 h_152 (by simp)
  have h_154 : w_18.1 rn = some (137, rp, tTb 2 160 ([] : List (List Int))) := by
    rw [hw_19]; exact zput_tg h_17 h_153 (by simp)
  have h_155 : w_22.1 rn = some (137, rp, tTb 2 160 ([] : List (List Int))) := by
    rw [hw_23]; exact zput_tg h_21 h_154 (by simp)
  have h_156 : w_26.1 rn = some (137, rp, tTb 2 160 ([] : List (List Int))) := by
    rw [hw_27]; exact zput_tg h_25 h_155 (by simp)
  have h_157 : w_30.1 rn = some (137, rp, tTb 2 160 ([] : List (List Int))) := by
    rw [hw_31]; exact zput_tg h_29 h_156 (by simp)
  have h_158 : w_34.1 rn = some (137, rp, tTb 2 160 ([] : List (List Int))) := by
    rw [hw_35]; exact zput_tg h_33 h_157 (by simp)
  have h_159 : w_38.1 rn = some (137, rp, tTb 2 160 ([] : List (List Int))) := by
    rw [hw_39]; exact zput_tg h_37 h_158 (by simp)
  have h_160 : w_42.1 rn = some (137, rp, tTb 2 160 ([] : List (List Int))) := by
    rw [hw_43]; exact zput_tg h_41 h_159 (by simp)
  have hM2 : mcW w_42 b1 b2 ((mc, fa, ca, ta), (t, tc, tn, th, tz), (rp, ri, ra, rn), (ty, C), (mo, I, bk, bc)) (((cap, Fs), fm), (cc, []), (ct, []), (0, none, 0, none), (0, 0, 0), (N, H, Sz), ([], [], 0, 0, 0, 101)) := ⟨h_45, h_55, ⟨h_63, (tOk_nil (by decide))⟩, ⟨h_70, (tOk_nil (by decide))⟩, hFrr2, ⟨h_80, ⟨h_90, okTC⟩, ⟨h_100, okN⟩, ⟨h_110, okH⟩, h_120, hSz⟩, ⟨h_130, ⟨h_140, okI⟩, ⟨h_150, okA⟩, ⟨h_160, okNt⟩⟩, hcap, ⟨by omega, by omega, by omega, by omega⟩, by omega, by omega⟩
  have hW2 : msW w_42 b1 b2 ((mc, fa, ca, ta), (t, tc, tn, th, tz), (rp, ri, ra, rn), (ty, C), (mo, I, bk, bc)) R Fs (0, 0, 101) ((([] : List mmF), (fun _ => none), (fun _ _ => none), ([] : mmH), ([] : mmT)), (none, 0, none, false), tm, (0, 0, 0, 0), ([] : List (Nat × Nat))) := ⟨cap, fm, cc, [], ct, [], 0, none, 0, none, 0, N, H, Sz, [], [], 0, 0, 0, hM2, ⟨⟨rfl, Nat.zero_le _, (fun a b z h1 h2 => fm_inj hFr h1 h2), (fun _ _ => rfl), fun i y hi => absurd hi (Nat.not_lt_zero _)⟩, ⟨rfl, (fun i h => by cases h), rfl, rfl, (fun i h => by cases h), rfl⟩, ⟨rfl, fun e he => absurd he List.not_mem_nil⟩, ⟨rfl, fun e he => absurd he List.not_mem_nil⟩, htm, ⟨rfl, rfl, rfl, rfl, rfl⟩⟩⟩
  refine zx_ivV (b := mc) (As := [zR md0, zN]) (st := []) dX4_begin_59 zc_X4_116 h_45 rfl rfl rfl (Nat.le_of_ble_eq_true rfl) rfl (s_newFrame0 hW2 hG1 hG2 hF3 (by decide) hmd0) (fun v1 w1 hq => ?_)
  obtain ⟨yn, Fs2, ev1, hyn, -, hF32, hW1', hF1⟩ := hq
  subst ev1
  have hW1 : msW w1 b1 b2 ((mc, fa, ca, ta), (t, tc, tn, th, tz), (rp, ri, ra, rn), (ty, C), (mo, I, bk, bc)) R Fs2 (0, 0, 101) ((([((p, m), (none, 0, 1), false, none, 0)] : List mmF), (fun _ => none), (mmNew (fun _ _ => none) 0 (fun _ => none)), ([] : mmH), ([] : mmT)), (none, 0, none, false), tm, (0, 0, 0, 0), ([] : List (Nat × Nat))) := hW1'
  have hyn : Fs2[0]? = some yn := hyn
  obtain ⟨cap1, fm1, cc1, CH1, ct1, TR1, us1, cu1, pl1, de1, fl1, N1, H1, Sz1, A1, Nt1, sc1, nc1, dp1, hM1, hS1⟩ := id hW1
  obtain ⟨⟨hus1, hfl1, hJ1, hcn1, hFS1⟩, ⟨hcu1, hcuL1, hpl1, hde1, hdeL1, hfb1⟩, ⟨hCH1, hchL1⟩, ⟨hTR1, hTL1⟩, htm1, ⟨hA1, hsc1, hnc1, hdp1, hNt1⟩⟩ := id hS1
  subst hus1 hcu1 hpl1 hde1 hfb1 hCH1 hTR1 hsc1 hnc1 hdp1 hNt1
  obtain ⟨hmc1, hfa1, ⟨hca1, okC1⟩, ⟨hta1, okT1⟩, hFr1, ⟨ht01, ⟨htc1, okTC1⟩, ⟨htn1, okN1⟩, ⟨hth1, okH1⟩, htz1, hSz1⟩, ⟨hrp1, ⟨hri1, okI1⟩, ⟨hra1, okA1⟩, ⟨hrn1, okNt1⟩⟩, hcap1, hcct1, hrm11, hrm21⟩ := id hM1
  have hnl : 0 < ([((p, m), (none, 0, 1), false, none, 0)] : List mmF).length := Nat.succ_pos _
  obtain ⟨⟨⟨va_n, md_n⟩, ⟨fca_n, fbt_n, fdp_n⟩, ⟨fcl_n, fdn_n, fod_n, fcb_n⟩, xs_n⟩, efm_n⟩ : ∃ r, fm1 yn = r := ⟨_, rfl⟩
  obtain ⟨hfy_n, hva_n, hx_n⟩ := hFr1 0 yn hyn
  rw [efm_n] at hfy_n hva_n hx_n
  have hx_n : xs_n.length = 8 := hx_n
  obtain ⟨hmd_n, ⟨hcb1_n, hcb2_n⟩, ⟨hcb3_n, hcb4_n, hcb5_n⟩, ⟨-, hxv_n⟩, hdq_n⟩ := hFS1 0 yn hnl hyn
  rw [efm_n] at hmd_n hcb1_n hcb3_n hxv_n
  simp only [Prod.mk.injEq] at hcb1_n hcb3_n
  obtain ⟨ea1_n, ea2_n, ea3_n⟩ := hcb1_n
  obtain ⟨eb1_n, eb2_n, eb3_n, eb4_n⟩ := hcb3_n
  subst ea1_n ea2_n ea3_n eb1_n eb2_n eb3_n eb4_n
  have hfy_n : w1.1 yn = some (2, 0, [zI (0 : Int), zR va_n, zR md_n, zP (oA Fs2 (mmf ([((p, m), (none, 0, 1), false, none, 0)] : List mmF) 0).2.1.1), zI ((mmf ([((p, m), (none, 0, 1), false, none, 0)] : List mmF) 0).2.1.2.1 : Int), zI ((mmf ([((p, m), (none, 0, 1), false, none, 0)] : List mmF) 0).2.1.2.2 : Int), zP (((fun _ => none) 0).bind (pgCl R)), zI (if (mmf ([((p, m), (none, 0, 1), false, none, 0)] : List mmF) 0).2.2.1 = true then 1 else 0), zP (oA Fs2 (mmf ([((p, m), (none, 0, 1), false, none, 0)] : List mmF) 0).2.2.2.1), zI ((mmf ([((p, m), (none, 0, 1), false, none, 0)] : List mmF) 0).2.2.2.2 : Int)]) := hfy_n
  refine zx_astore_n (i := 3) dX4_begin_62 rfl (by decide) rfl ?_
  refine zx_L (L1 := [some (zR mc), some (zR md0), some (zR rp), some (zR yn), none]) rfl ?_
  refine zx_iconst (v := 0) dX4_begin_63 rfl (z32_lit (by decide) (by decide)) ?_
  refine zx_istore (i := 4) dX4_begin_64 (by decide) rfl ?_
  refine zx_L (L1 := [some (zR mc), some (zR md0), some (zR rp), some (zR yn), some (zI 0)]) rfl ?_
  refine zx_iload (i := 4) dX4_begin_66 rfl ?_
  refine zx_iconst (v := 3) dX4_begin_68 rfl (z32_lit (by decide) (by decide)) ?_
  refine zx_icmp_ge (tgt := 90) dX4_begin_69 (by decide) (fun h69 => absurd h69 (by decide)) (fun h69 => ?_)
  refine zx_aload_n (i := 3) dX4_begin_72 rfl rfl ?_
  refine zx_iload (i := 4) dX4_begin_73 rfl ?_
  refine zx_aload_n (i := 2) dX4_begin_75 rfl rfl ?_
  refine zx_iload (i := 4) dX4_begin_76 rfl ?_
  refine zx_iv (b := rp) (As := [zI 0]) (st := [zI 0, zR yn]) (v := (some (zI (tg I 0 0)))) (w1 := w1) dX4_begin_78 zc_X4_120 hrp1 rfl rfl rfl (Nat.le_of_ble_eq_true rfl) rfl (c_X8_inputAt ⟨hrp1, ⟨hri1, okI1⟩, ⟨hra1, okA1⟩, ⟨hrn1, okNt1⟩⟩ 0) ?_
  refine zx_st (st1 := [zI (tg I 0 0), zI 0, zR yn]) rfl ?_
  refine zx_pc (pc1 := 81) rfl ?_
  obtain ⟨w_161, hw_162⟩ : ∃ ww, ww = zput w1 va_n (104, yn, (zVs xs_n 0 (tg I 0 0)).map Sum.inl) := ⟨_, rfl⟩
  have q_163 : w_161.2.1 = w1.2.1 ∧ w_161.2.2 = w1.2.2 := by rw [hw_162]; exact ⟨rfl, rfl⟩
  have h_164 : w_161.1 va_n = some (104, yn, (zVs xs_n 0 (tg I 0 0)).map Sum.inl) := by rw [hw_162]; exact zput_at
  refine zx_iv (b := yn) (As := [zI 0, zI (tg I 0 0)]) (st := []) (v := none) (w1 := w_161) dX4_begin_81 zc_X4_125 hfy_n rfl rfl rfl (Nat.le_of_ble_eq_true rfl) rfl (by rw [hw_162]; exact (c_X2_setValue hfy_n hva_n (by first | omega | (simp only [zVs_len]; omega)) 0 (tg I 0 0))) ?_
  refine zx_st (st1 := []) rfl ?_
  refine zx_iinc (i := 4) (v := 1) dX4_begin_84 rfl (by decide +kernel) (by decide) rfl ?_
  refine zx_L (L1 := [some (zR mc), some (zR md0), some (zR rp), some (zR yn), some (zI 1)]) rfl ?_
  refine zx_goto (tgt := 66) dX4_begin_87 (by decide) ?_
  refine zx_iload (i := 4) dX4_begin_66 rfl ?_
  refine zx_iconst (v := 3) dX4_begin_68 rfl (z32_lit (by decide) (by decide)) ?_
  refine zx_icmp_ge (tgt := 90) dX4_begin_69 (by decide) (fun h69 => absurd h69 (by decide)) (fun h69 => ?_)
  refine zx_aload_n (i := 3) dX4_begin_72 rfl rfl ?_
  refine zx_iload (i := 4) dX4_begin_73 rfl ?_
  refine zx_aload_n (i := 2) dX4_begin_75 rfl rfl ?_
  refine zx_iload (i := 4) dX4_begin_76 rfl ?_
  have h_165 : w_161.1 rp = some (8, 0, [zP mo, zR ri, zR ra, zR rn, zI ((0 : Nat) : Int), zI ((0 : Nat) : Int), zI ((0 : Nat) : Int), zI 101, zI bk, zI bc]) := by
    rw [hw_162]; exact zput_tg hva_n hrp1 (by simp)
  have h_166 : w_161.1 ri = some (135, rp, tTb 1 3 I) := by
    rw [hw_162]; exact zput_tg hva_n hri1 (by simp)
  have h_167 : w_161.1 ra = some (136, rp, tTb 3 150 A1) := by
    rw [hw_162]; exact zput_tg hva_n hra1 (by simp)
  have h_168 : w_161.1 rn = some (137, rp, tTb 2 160 (([] : List (Nat × Nat)).map (fun e => [(e.1 : Int), (e.2 : Int)]))) := by
    rw [hw_162]; exact zput_tg hva_n hrn1 (by simp)
  refine zx_iv (b := rp) (As := [zI 1]) (st := [zI 1, zR yn]) (v := (some (zI (tg I 1 0)))) (w1 := w_161) dX4_begin_78 zc_X4_120 h_165 rfl rfl rfl (Nat.le_of_ble_eq_true rfl) rfl (c_X8_inputAt ⟨h_165, ⟨h_166, okI1⟩, ⟨h_167, okA1⟩, ⟨h_168, okNt1⟩⟩ 1) ?_
  refine zx_st (st1 := [zI (tg I 1 0), zI 1, zR yn]) rfl ?_
  have h_169 : w_161.1 yn = some (2, 0, [zI (0 : Int), zR va_n, zR md_n, zP (oA Fs2 (mmf ([((p, m), (none, 0, 1), false, none, 0)] : List mmF) 0).2.1.1), zI ((mmf ([((p, m), (none, 0, 1), false, none, 0)] : List mmF) 0).2.1.2.1 : Int), zI ((mmf ([((p, m), (none, 0, 1), false, none, 0)] : List mmF) 0).2.1.2.2 : Int), zP (((fun _ => none) 0).bind (pgCl R)), zI (if (mmf ([((p, m), (none, 0, 1), false, none, 0)] : List mmF) 0).2.2.1 = true then 1 else 0), zP (oA Fs2 (mmf ([((p, m), (none, 0, 1), false, none, 0)] : List mmF) 0).2.2.2.1), zI ((mmf ([((p, m), (none, 0, 1), false, none, 0)] : List mmF) 0).2.2.2.2 : Int)]) := by
    rw [hw_162]; exact zput_tg hva_n hfy_n (by simp)
  obtain ⟨w_170, hw_171⟩ : ∃ ww, ww = zput w_161 va_n (104, yn, (zVs (zVs xs_n 0 (tg I 0 0)) 1 (tg I 1 0)).map Sum.inl) := ⟨_, rfl⟩
  have q_172 : w_170.2.1 = w_161.2.1 ∧ w_170.2.2 = w_161.2.2 := by rw [hw_171]; exact ⟨rfl, rfl⟩
  have h_173 : w_170.1 va_n = some (104, yn, (zVs (zVs xs_n 0 (tg I 0 0)) 1 (tg I 1 0)).map Sum.inl) := by rw [hw_171]; exact zput_at
  refine zx_iv (b := yn) (As := [zI 1, zI (tg I 1 0)]) (st := []) (v := none) (w1 := w_170) dX4_begin_81 zc_X4_125 h_169 rfl rfl rfl (Nat.le_of_ble_eq_true rfl) rfl (by rw [hw_171]; exact (c_X2_setValue h_169 h_164 (by first | omega | (simp only [zVs_len]; omega)) 1 (tg I 1 0))) ?_
  refine zx_st (st1 := []) rfl ?_
  refine zx_pc (pc1 := 84) rfl ?_
  refine zx_iinc (i := 4) (v := 2) dX4_begin_84 rfl (by decide +kernel) (by decide) rfl ?_
  refine zx_L (L1 := [some (zR mc), some (zR md0), some (zR rp), some (zR yn), some (zI 2)]) rfl ?_
  refine zx_goto (tgt := 66) dX4_begin_87 (by decide) ?_
  refine zx_iload (i := 4) dX4_begin_66 rfl ?_
  refine zx_iconst (v := 3) dX4_begin_68 rfl (z32_lit (by decide) (by decide)) ?_
  refine zx_icmp_ge (tgt := 90) dX4_begin_69 (by decide) (fun h69 => absurd h69 (by decide)) (fun h69 => ?_)
  refine zx_aload_n (i := 3) dX4_begin_72 rfl rfl ?_
  refine zx_iload (i := 4) dX4_begin_73 rfl ?_
  refine zx_aload_n (i := 2) dX4_begin_75 rfl rfl ?_
  refine zx_iload (i := 4) dX4_begin_76 rfl ?_
  have h_174 : w_170.1 rp = some (8, 0, [zP mo, zR ri, zR ra, zR rn, zI ((0 : Nat) : Int), zI ((0 : Nat) : Int), zI ((0 : Nat) : Int), zI 101, zI bk, zI bc]) := by
    rw [hw_171]; exact zput_tg h_164 h_165 (by simp)
  have h_175 : w_170.1 ri = some (135, rp, tTb 1 3 I) := by
    rw [hw_171]; exact zput_tg h_164 h_166 (by simp)
  have h_176 : w_170.1 ra = some (136, rp, tTb 3 150 A1) := by
    rw [hw_171]; exact zput_tg h_164 h_167 (by simp)
  have h_177 : w_170.1 rn = some (137, rp, tTb 2 160 (([] : List (Nat × Nat)).map (fun e => [(e.1 : Int), (e.2 : Int)]))) := by
    rw [hw_171]; exact zput_tg h_164 h_168 (by simp)
  refine zx_iv (b := rp) (As := [zI 2]) (st := [zI 2, zR yn]) (v := (some (zI (tg I 2 0)))) (w1 := w_170) dX4_begin_78 zc_X4_120 h_174 rfl rfl rfl (Nat.le_of_ble_eq_true rfl) rfl (c_X8_inputAt ⟨h_174, ⟨h_175, okI1⟩, ⟨h_176, okA1⟩, ⟨h_177, okNt1⟩⟩ 2) ?_
  refine zx_st (st1 := [zI (tg I 2 0), zI 2, zR yn]) rfl ?_
  have h_178 : w_170.1 yn = some (2, 0, [zI (0 : Int), zR va_n, zR md_n, zP (oA Fs2 (mmf ([((p, m), (none, 0, 1), false, none, 0)] : List mmF) 0).2.1.1), zI ((mmf ([((p, m), (none, 0, 1), false, none, 0)] : List mmF) 0).2.1.2.1 : Int), zI ((mmf ([((p, m), (none, 0, 1), false, none, 0)] : List mmF) 0).2.1.2.2 : Int), zP (((fun _ => none) 0).bind (pgCl R)), zI (if (mmf ([((p, m), (none, 0, 1), false, none, 0)] : List mmF) 0).2.2.1 = true then 1 else 0), zP (oA Fs2 (mmf ([((p, m), (none, 0, 1), false, none, 0)] : List mmF) 0).2.2.2.1), zI ((mmf ([((p, m), (none, 0, 1), false, none, 0)] : List mmF) 0).2.2.2.2 : Int)]) := by
    rw [hw_171]; exact zput_tg h_164 h_169 (by simp)
  obtain ⟨w_179, hw_180⟩ : ∃ ww, ww = zput w_170 va_n (104, yn, (zVs (zVs (zVs xs_n 0 (tg I 0 0)) 1 (tg I 1 0)) 2 (tg I 2 0)).map Sum.inl) := ⟨_, rfl⟩
  have q_181 : w_179.2.1 = w_170.2.1 ∧ w_179.2.2 = w_170.2.2 := by rw [hw_180]; exact ⟨rfl, rfl⟩
  have h_182 : w_179.1 va_n = some (104, yn, (zVs (zVs (zVs xs_n 0 (tg I 0 0)) 1 (tg I 1 0)) 2 (tg I 2 0)).map Sum.inl) := by rw [hw_180]; exact zput_at
  refine zx_iv (b := yn) (As := [zI 2, zI (tg I 2 0)]) (st := []) (v := none) (w1 := w_179) dX4_begin_81 zc_X4_125 h_178 rfl rfl rfl (Nat.le_of_ble_eq_true rfl) rfl (by rw [hw_180]; exact (c_X2_setValue h_178 h_173 (by first | omega | (simp only [zVs_len]; omega)) 2 (tg I 2 0))) ?_
  refine zx_st (st1 := []) rfl ?_
  refine zx_iinc (i := 4) (v := 3) dX4_begin_84 rfl (by decide +kernel) (by decide) rfl ?_
  refine zx_L (L1 := [some (zR mc), some (zR md0), some (zR rp), some (zR yn), some (zI 3)]) rfl ?_
  refine zx_pc (pc1 := 87) rfl ?_
  refine zx_goto (tgt := 66) dX4_begin_87 (by decide) ?_
  refine zx_iload (i := 4) dX4_begin_66 rfl ?_
  refine zx_iconst (v := 3) dX4_begin_68 rfl (z32_lit (by decide) (by decide)) ?_
  refine zx_icmp_ge (tgt := 90) dX4_begin_69 (by decide) (fun h69 => ?_) (fun h69 => absurd (by decide) h69)
  refine zx_aload_n (i := 0) dX4_begin_90 rfl rfl ?_
  refine zx_aload_n (i := 3) dX4_begin_91 rfl rfl ?_
  have hxq : (zVs (zVs (zVs xs_n 0 (tg I 0 0)) 1 (tg I 1 0)) 2 (tg I 2 0)).length = 8 := by rw [zVs_len, zVs_len, zVs_len]; exact hx_n
  have hfaL9 : zFa [va_n] w1 w_179 := (zFa_put (zFa_put (zFa_put zFa_re (by simp) hw_162) (by simp) hw_171) (by simp) hw_180)
  have h_183 : w_179.1 yn = some (2, 0, [zI (0 : Int), zR va_n, zR md_n, zP (oA Fs2 (mmf ([((p, m), (none, 0, 1), false, none, 0)] : List mmF) 0).2.1.1), zI ((mmf ([((p, m), (none, 0, 1), false, none, 0)] : List mmF) 0).2.1.2.1 : Int), zI ((mmf ([((p, m), (none, 0, 1), false, none, 0)] : List mmF) 0).2.1.2.2 : Int), zP (((fun _ => none) 0).bind (pgCl R)), zI (if (mmf ([((p, m), (none, 0, 1), false, none, 0)] : List mmF) 0).2.2.1 = true then 1 else 0), zP (oA Fs2 (mmf ([((p, m), (none, 0, 1), false, none, 0)] : List mmF) 0).2.2.2.1), zI ((mmf ([((p, m), (none, 0, 1), false, none, 0)] : List mmF) 0).2.2.2.2 : Int)]) := by
    rw [hw_180]; exact zput_tg h_173 h_178 (by simp)
  have hfry9 : fmW w_179 yn (0 : Int) ((va_n, md_n), ((oA Fs2 (mmf ([((p, m), (none, 0, 1), false, none, 0)] : List mmF) 0).2.1.1), ((mmf ([((p, m), (none, 0, 1), false, none, 0)] : List mmF) 0).2.1.2.1 : Int), ((mmf ([((p, m), (none, 0, 1), false, none, 0)] : List mmF) 0).2.1.2.2 : Int)), ((((fun _ => none) 0).bind (pgCl R)), (if (mmf ([((p, m), (none, 0, 1), false, none, 0)] : List mmF) 0).2.2.1 = true then 1 else 0), (oA Fs2 (mmf ([((p, m), (none, 0, 1), false, none, 0)] : List mmF) 0).2.2.2.1), ((mmf ([((p, m), (none, 0, 1), false, none, 0)] : List mmF) 0).2.2.2.2 : Int)), (zVs (zVs (zVs xs_n 0 (tg I 0 0)) 1 (tg I 1 0)) 2 (tg I 2 0))) := ⟨h_183, h_182, by first | exact List.length_replicate | assumption | (unfold zVs; split <;> simp [hx]) | simp [hx]⟩
  have hFrr9 := fm_keep1 hFr1 hyn hfaL9 (zLc hva_n (by simp) zLn) hfry9
  have hmcF9 : mcF rp w1 w_179 := mcF_fa hfaL9 (zLc hva_n (by simp [mcP]) zLn)
  have h_184 : w_161.1 mc = some (4, 0, [zR t, zR fa, zR ca, zR ta, zR rp, zI (([((p, m), (none, 0, 1), false, none, 0)] : List mmF).length : Int), zP (oA Fs2 none), zI ((0 : Nat) : Int), zP (oA Fs2 none), zI (if false = true then 1 else 0), zI 0, zI 0]) := by
    rw [hw_162]; exact zput_tg hva_n hmc1 (by simp)
  have h_185 : w_170.1 mc = some (4, 0, [zR t, zR fa, zR ca, zR ta, zR rp, zI (([((p, m), (none, 0, 1), false, none, 0)] : List mmF).length : Int), zP (oA Fs2 none), zI ((0 : Nat) : Int), zP (oA Fs2 none), zI (if false = true then 1 else 0), zI 0, zI 0]) := by
    rw [hw_171]; exact zput_tg h_164 h_184 (by simp)
  have h_186 : w_179.1 mc = some (4, 0, [zR t, zR fa, zR ca, zR ta, zR rp, zI (([((p, m), (none, 0, 1), false, none, 0)] : List mmF).length : Int), zP (oA Fs2 none), zI ((0 : Nat) : Int), zP (oA Fs2 none), zI (if false = true then 1 else 0), zI 0, zI 0]) := by
    rw [hw_180]; exact zput_tg h_173 h_185 (by simp)
  have h_187 : w_161.1 fa = some (166, mc, zLs cap1 Fs2) := by
    rw [hw_162]; exact zput_tg hva_n hfa1 (by simp)
  have h_188 : w_170.1 fa = some (166, mc, zLs cap1 Fs2) := by
    rw [hw_171]; exact zput_tg h_164 h_187 (by simp)
  have h_189 : w_179.1 fa = some (166, mc, zLs cap1 Fs2) := by
    rw [hw_180]; exact zput_tg h_173 h_188 (by simp)
  have h_190 : w_161.1 ca = some (138, mc, tTb 3 cc1 (([] : mmH).reverse.map (fun e => [(e.1 : Int), (e.2.1 : Int), (e.2.2 : Int)]))) := by
    rw [hw_162]; exact zput_tg hva_n hca1 (by simp)
  have h_191 : w_170.1 ca = some (138, mc, tTb 3 cc1 (([] : mmH).reverse.map (fun e => [(e.1 : Int), (e.2.1 : Int), (e.2.2 : Int)]))) := by
    rw [hw_171]; exact zput_tg h_164 h_190 (by simp)
  have h_192 : w_179.1 ca = some (138, mc, tTb 3 cc1 (([] : mmH).reverse.map (fun e => [(e.1 : Int), (e.2.1 : Int), (e.2.2 : Int)]))) := by
    rw [hw_180]; exact zput_tg h_173 h_191 (by simp)
  have h_193 : w_161.1 ta = some (139, mc, tTb 2 ct1 (([] : mmT).reverse.map (fun e => [(e.1 : Int), (e.2 : Int)]))) := by
    rw [hw_162]; exact zput_tg hva_n hta1 (by simp)
  have h_194 : w_170.1 ta = some (139, mc, tTb 2 ct1 (([] : mmT).reverse.map (fun e => [(e.1 : Int), (e.2 : Int)]))) := by
    rw [hw_171]; exact zput_tg h_164 h_193 (by simp)
  have h_195 : w_179.1 ta = some (139, mc, tTb 2 ct1 (([] : mmT).reverse.map (fun e => [(e.1 : Int), (e.2 : Int)]))) := by
    rw [hw_180]; exact zput_tg h_173 h_194 (by simp)
  have h_196 : w_161.1 t = some (10, 0, [zI ty, zR tc, zR tn, zR th, zR tz]) := by
    rw [hw_162]; exact zput_tg hva_n ht01 (by simp)
  have h_197 : w_170.1 t = some (10, 0, [zI ty, zR tc, zR tn, zR th, zR tz]) := by
    rw [hw_171]; exact zput_tg h_164 h_196 (by simp)
  have h_198 : w_179.1 t = some (10, 0, [zI ty, zR tc, zR tn, zR th, zR tz]) := by
    rw [hw_180]; exact zput_tg h_173 h_197 (by simp)
  have h_199 : w_161.1 tc = some (130, t, tTb 3 30 C) := by
    rw [hw_162]; exact zput_tg hva_n htc1 (by simp)
  have h_200 : w_170.1 tc = some (130, t, tTb 3 30 C) := by
    rw [hw_171]; exact zput_tg h_164 h_199 (by simp)
  have h_201 : w_179.1 tc = some (130, t, tTb 3 30 C) := by
    rw [hw_180]; exact zput_tg h_173 h_200 (by simp)
  have h_202 : w_161.1 tn = some (131, t, tTb 4 800 N1) := by
    rw [hw_162]; exact zput_tg hva_n htn1 (by simp)
  have h_203 : w_170.1 tn = some (131, t, tTb 4 800 N1) := by
    rw [hw_171]; exact zput_tg h_164 h_202 (by simp)
  have h_204 : w_179.1 tn = some (131, t, tTb 4 800 N1) := by
    rw [hw_180]; exact zput_tg h_173 h_203 (by simp)
  have h_205 : w_161.1 th = some (132, t, tTb 1 64 H1) := by
    rw [hw_162]; exact zput_tg hva_n hth1 (by simp)
  have h_206 : w_170.1 th = some (132, t, tTb 1 64 H1) := by
    rw [hw_171]; exact zput_tg h_164 h_205 (by simp)
  have h_207 : w_179.1 th = some (132, t, tTb 1 64 H1) := by
    rw [hw_180]; exact zput_tg h_173 h_206 (by simp)
  have h_208 : w_161.1 tz = some (120, t, Sz1.map zJ) := by
    rw [hw_162]; exact zput_tg hva_n htz1 (by simp)
  have h_209 : w_170.1 tz = some (120, t, Sz1.map zJ) := by
    rw [hw_171]; exact zput_tg h_164 h_208 (by simp)
  have h_210 : w_179.1 tz = some (120, t, Sz1.map zJ) := by
    rw [hw_180]; exact zput_tg h_173 h_209 (by simp)
  have h_211 : w_179.1 rp = some (8, 0, [zP mo, zR ri, zR ra, zR rn, zI ((0 : Nat) : Int), zI ((0 : Nat) : Int), zI ((0 : Nat) : Int), zI 101, zI bk, zI bc]) := by
    rw [hw_180]; exact zput_tg h_173 h_174 (by simp)
  have h_212 : w_179.1 ri = some (135, rp, tTb 1 3 I) := by
    rw [hw_180]; exact zput_tg h_173 h_175 (by simp)
  have h_213 : w_179.1 ra = some (136, rp, tTb 3 150 A1) := by
    rw [hw_180]; exact zput_tg h_173 h_176 (by simp)
  have h_214 : w_179.1 rn = some (137, rp, tTb 2 160 (([] : List (Nat × Nat)).map (fun e => [(e.1 : Int), (e.2 : Int)]))) := by
    rw [hw_180]; exact zput_tg h_173 h_177 (by simp)
  have hM9 : mcW w_179 b1 b2 ((mc, fa, ca, ta), (t, tc, tn, th, tz), (rp, ri, ra, rn), (ty, C), (mo, I, bk, bc)) (((cap1, Fs2), (fmUp fm1 yn ((va_n, md_n), ((oA Fs2 (mmf ([((p, m), (none, 0, 1), false, none, 0)] : List mmF) 0).2.1.1), ((mmf ([((p, m), (none, 0, 1), false, none, 0)] : List mmF) 0).2.1.2.1 : Int), ((mmf ([((p, m), (none, 0, 1), false, none, 0)] : List mmF) 0).2.1.2.2 : Int)), ((((fun _ => none) 0).bind (pgCl R)), (if (mmf ([((p, m), (none, 0, 1), false, none, 0)] : List mmF) 0).2.2.1 = true then 1 else 0), (oA Fs2 (mmf ([((p, m), (none, 0, 1), false, none, 0)] : List mmF) 0).2.2.2.1), ((mmf ([((p, m), (none, 0, 1), false, none, 0)] : List mmF) 0).2.2.2.2 : Int)), (zVs (zVs (zVs xs_n 0 (tg I 0 0)) 1 (tg I 1 0)) 2 (tg I 2 0))))), (cc1, (([] : mmH).reverse.map (fun e => [(e.1 : Int), (e.2.1 : Int), (e.2.2 : Int)]))), (ct1, (([] : mmT).reverse.map (fun e => [(e.1 : Int), (e.2 : Int)]))), ((([((p, m), (none, 0, 1), false, none, 0)] : List mmF).length : Int), (oA Fs2 none), ((0 : Nat) : Int), (oA Fs2 none)), ((if false = true then 1 else 0), 0, 0), (N1, H1, Sz1), (A1, (([] : List (Nat × Nat)).map (fun e => [(e.1 : Int), (e.2 : Int)])), ((0 : Nat) : Int), ((0 : Nat) : Int), ((0 : Nat) : Int), 101)) := ⟨h_186, h_189, ⟨h_192, okC1⟩, ⟨h_195, okT1⟩, hFrr9, ⟨h_198, ⟨h_201, okTC1⟩, ⟨h_204, okN1⟩, ⟨h_207, okH1⟩, h_210, hSz1⟩, ⟨h_211, ⟨h_212, okI1⟩, ⟨h_213, okA1⟩, ⟨h_214, okNt1⟩⟩, hcap1, ⟨by omega, by omega, by omega, by omega⟩, by omega, by omega⟩
  have h0 := fsR_val (x := 0) hFS1 hJ1 hyn efm_n (by decide) (hin 0 (by decide))
  have h1 := fsR_val (x := 1) h0 hJ1 hyn fmUp_at (by decide) (hin 1 (by decide))
  have h2 := fsR_val (x := 2) h1 hJ1 hyn fmUp_at (by decide) (hin 2 (by decide))
  rw [fmUp_up, fmUp_up, st_vals ho3] at h2
  have hW9 : msW w_179 b1 b2 ((mc, fa, ca, ta), (t, tc, tn, th, tz), (rp, ri, ra, rn), (ty, C), (mo, I, bk, bc)) R Fs2 (0, 0, 101) ((([((p, m), (none, 0, 1), false, none, 0)] : List mmF), (fun _ => none), (mmNew (fun _ _ => none) 0 o), ([] : mmH), ([] : mmT)), (none, 0, none, false), tm, (0, 0, 0, 0), ([] : List (Nat × Nat))) := ⟨cap1, (fmUp fm1 yn ((va_n, md_n), ((oA Fs2 (mmf ([((p, m), (none, 0, 1), false, none, 0)] : List mmF) 0).2.1.1), ((mmf ([((p, m), (none, 0, 1), false, none, 0)] : List mmF) 0).2.1.2.1 : Int), ((mmf ([((p, m), (none, 0, 1), false, none, 0)] : List mmF) 0).2.1.2.2 : Int)), ((((fun _ => none) 0).bind (pgCl R)), (if (mmf ([((p, m), (none, 0, 1), false, none, 0)] : List mmF) 0).2.2.1 = true then 1 else 0), (oA Fs2 (mmf ([((p, m), (none, 0, 1), false, none, 0)] : List mmF) 0).2.2.2.1), ((mmf ([((p, m), (none, 0, 1), false, none, 0)] : List mmF) 0).2.2.2.2 : Int)), (zVs (zVs (zVs xs_n 0 (tg I 0 0)) 1 (tg I 1 0)) 2 (tg I 2 0)))), cc1, (([] : mmH).reverse.map (fun e => [(e.1 : Int), (e.2.1 : Int), (e.2.2 : Int)])), ct1, (([] : mmT).reverse.map (fun e => [(e.1 : Int), (e.2 : Int)])), (([((p, m), (none, 0, 1), false, none, 0)] : List mmF).length : Int), (oA Fs2 none), ((0 : Nat) : Int), (oA Fs2 none), (if false = true then 1 else 0), N1, H1, Sz1, A1, (([] : List (Nat × Nat)).map (fun e => [(e.1 : Int), (e.2 : Int)])), ((0 : Nat) : Int), ((0 : Nat) : Int), ((0 : Nat) : Int), hM9, ⟨⟨(by first | rfl | omega | simp), hfl1, hJ1, hcn1, h2⟩, ⟨rfl, hcuL1, (by first | rfl | omega), rfl, hdeL1, rfl⟩, ⟨rfl, hchL1⟩, ⟨rfl, hTL1⟩, htm1, ⟨hA1, (by first | rfl | omega), (by first | rfl | omega), (by first | rfl | omega), rfl⟩⟩⟩
  have hP9 : pgW w_179 pg R := pgW_TM hP (mcF_fr (mcF_tr hmcF2 (mcF_tr hF1 hmcF9)))
  refine zx_ivN (b := mc) (As := [zR yn]) (st := []) dX4_begin_92 zc_X4_128 h_186 rfl rfl rfl (Nat.le_of_ble_eq_true rfl) rfl (s_enter hP9 hK hW9 hG1 hG2 hF32 (j := 0) (Nat.succ_pos _) hyn (fun s hs => hsF s hs) (by decide) (by decide)) (fun w5 hq => ?_)
  obtain ⟨hW5, hF5⟩ := hq
  refine zx_return dX4_begin_95 rfl ?_
  exact ⟨rfl, ⟨Fs2, hF32, hW5⟩, mcF_tr hmcF2 (mcF_tr hF1 (mcF_tr hmcF9 hF5))⟩
end SBE
