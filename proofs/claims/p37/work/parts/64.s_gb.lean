/-! Own rows: goBack against mmBack. Walked by program (wip/p37/m_gb.py). -/
section SGB
variable {pg : Nat}
variable {G : zG} {d : Nat} {w : zW} {b1 b2 : Nat} {R : pgR} {Fs : List Nat}  {mc fa ca ta t tc tn th tz rp ri ra rn : Nat} {ty bk bc : Int} {C I : List (List Int)} {mo : Option Nat} {fr : List mmF} {cls : Nat → Option Nat} {V : mmV} {ch : mmH} {T : mmT} {cur den : Option Nat} {pl0 na ns nc0 dp0 : Nat} {flb : Bool} {tm : List smG} {nt : List (Nat × Nat)}
theorem s_goBack (hP : pgW w pg R) (hK : mkF R) (hW : msW w b1 b2 ((mc, fa, ca, ta), (t, tc, tn, th, tz), (rp, ri, ra, rn), (ty, C), (mo, I, bk, bc)) R Fs (0, 0, 101) ((fr, cls, V, ch, T), (cur, pl0, den, flb), tm, (na, ns, nc0, dp0), nt)) (hF3 : Fs.length ≤ 320) (hTl : T.length < 350000) (hch : ch.length < 320) (hpl0 : ∀ i, i < fr.length → (mmf fr i).2.1.2.1 < 1000) (hpop : ∀ f k t0 ch1, ch = (f, k, t0) :: ch1 → t0 ≤ T.length ∧ k < ((pgC R).1.1.1 (mmf fr f).1.1).length) : zM G zm_X4_goBack (d + 5) [zR mc] w (zVoid fun w' => (match mmBack (pgC R) ((fr, cls, V, ch, T), (cur, pl0, den, flb), tm, (na, ns, nc0, dp0), nt) with
    | .inl S' => msW w' b1 b2 ((mc, fa, ca, ta), (t, tc, tn, th, tz), (rp, ri, ra, rn), (ty, C), (mo, I, bk, bc)) R Fs (0, 0, 101) S'
    | .inr r => msW w' b1 b2 ((mc, fa, ca, ta), (t, tc, tn, th, tz), (rp, ri, ra, rn), (ty, C), (mo, I, bk, bc)) R Fs (1, 0, 101) r.2 ∧ r.1 = 0) ∧ mcF rp w w') := by
  refine zx_ent (by decide +kernel) rfl (Nat.le_of_ble_eq_true rfl) ?_
  refine zx_L (L1 := [some (zR mc), none, none, none, none, none]) rfl ?_
  cases den with
  | some dd =>
    have hdd : dd < fr.length := by
      obtain ⟨_, _, _, _, _, _, _, _, _, _, _, _, _, _, _, _, _, _, _, -, hS⟩ := id hW
      exact hS.2.1.2.2.2.2.1 dd rfl
    obtain ⟨yd, hyd⟩ : ∃ y, Fs[dd]? = some y := ⟨_, List.getElem?_eq_getElem (by
      obtain ⟨_, _, _, _, _, _, _, _, _, _, _, _, _, _, _, _, _, _, _, -, hS⟩ := id hW
      have := hS.1.2.1
      omega)⟩
    by_cases hdq0 : ch.length ≤ (mmf fr dd).2.2.2.2
    · rw [show mmBack (pgC R) ((fr, cls, V, ch, T), (cur, pl0, (some dd), flb), tm, (na, ns, nc0, dp0), nt) = .inl ((fr, cls, V, ch, T), ((mmf fr dd).2.1.1, ((mmf fr dd).2.1.2.1 + 1), (mmf fr dd).2.2.2.1, false), tm, (na, ns, nc0, dp0), nt) from if_pos hdq0]
      obtain ⟨cap, fm, cc, CH, ct, TR, us, cu, pl, de, fl, N, H, Sz, A, Nt, sc, nc, dp, hM, hS⟩ := id hW
      obtain ⟨⟨hus, hfl, hJ, hcn, hFS⟩, ⟨hcu, hcuL, hpl, hde, hdeL, hfb⟩, ⟨hCH, hchL⟩, ⟨hTR, hTL⟩, htm, ⟨hA, hsc, hnc, hdp, hNt⟩⟩ := id hS
      subst hus hcu hpl hde hfb hCH hTR hsc hnc hdp hNt
      rw [oA_some hyd] at hM
      obtain ⟨hmc, hfa, ⟨hca, okC⟩, ⟨hta, okT⟩, hFr, ⟨ht0, ⟨htc, okTC⟩, ⟨htn, okN⟩, ⟨hth, okH⟩, htz, hSz⟩, ⟨hrp, ⟨hri, okI⟩, ⟨hra, okA⟩, ⟨hrn, okNt⟩⟩, hcap, hcct, hrm1, hrm2⟩ := id hM
      obtain ⟨⟨⟨va_d, md_d⟩, ⟨fca_d, fbt_d, fdp_d⟩, ⟨fcl_d, fdn_d, fod_d, fcb_d⟩, xs_d⟩, efm_d⟩ : ∃ r, fm yd = r := ⟨_, rfl⟩
      obtain ⟨hfy_d, hva_d, hx_d⟩ := hFr dd yd hyd
      rw [efm_d] at hfy_d hva_d hx_d
      have hx_d : xs_d.length = 8 := hx_d
      obtain ⟨hmd_d, ⟨hcb1_d, hcb2_d⟩, ⟨hcb3_d, hcb4_d, hcb5_d⟩, ⟨-, hxv_d⟩, hdq_d⟩ := hFS dd yd hdd hyd
      rw [efm_d] at hmd_d hcb1_d hcb3_d hxv_d
      simp only [Prod.mk.injEq] at hcb1_d hcb3_d
      obtain ⟨ea1_d, ea2_d, ea3_d⟩ := hcb1_d
      obtain ⟨eb1_d, eb2_d, eb3_d, eb4_d⟩ := hcb3_d
      subst ea1_d ea2_d ea3_d eb1_d eb2_d eb3_d eb4_d
      have hCl : (ch.reverse.map (fun e => [(e.1 : Int), (e.2.1 : Int), (e.2.2 : Int)])).length = ch.length := by simp
      have hpld := hpl0 dd hdd
      refine zx_aload_n (i := 0) dX4_goBack_0 rfl rfl ?_
      refine zx_iconst (v := 0) dX4_goBack_1 rfl (z32_lit (by decide) (by decide)) ?_
      obtain ⟨w_1, hw_2⟩ : ∃ ww, ww = zput w mc (4, 0, [zR t, zR fa, zR ca, zR ta, zR rp, zI (fr.length : Int), zP (oA Fs cur), zI (pl0 : Int), zR yd, zI 0, zI 0, zI 0]) := ⟨_, rfl⟩
      refine zx_put (w1 := w_1) dX4_goBack_2 zf_X4_57 hmc (Nat.le_of_ble_eq_true rfl) (zFt_bool (by first | exact Or.inl rfl | exact Or.inr rfl | exact zB_or | assumption)) (fun h => by cases h) hw_2.symm ?_
      have q_3 : w_1.2.1 = w.2.1 ∧ w_1.2.2 = w.2.2 := by rw [hw_2]; exact ⟨rfl, rfl⟩
      have h_4 : w_1.1 mc = some (4, 0, [zR t, zR fa, zR ca, zR ta, zR rp, zI (fr.length : Int), zP (oA Fs cur), zI (pl0 : Int), zR yd, zI 0, zI 0, zI 0]) := by rw [hw_2]; exact zput_at
      refine zx_aload_n (i := 0) dX4_goBack_5 rfl rfl ?_
      refine zx_getfield dX4_goBack_6 zf_X4_113 h_4 rfl ?_
      refine zx_astore_n (i := 1) dX4_goBack_9 rfl (by decide) rfl ?_
      refine zx_L (L1 := [some (zR mc), some (zR yd), none, none, none, none]) rfl ?_
      refine zx_aload_n (i := 1) dX4_goBack_10 rfl rfl ?_
      refine zx_ifnull (tgt := 55) dX4_goBack_11 (by decide) (fun h => by cases h) (fun _ => ?_)
      refine zx_aload_n (i := 0) dX4_goBack_14 rfl rfl ?_
      refine zx_getfield dX4_goBack_15 zf_X4_31 h_4 rfl ?_
      have h_5 : w_1.1 ca = some (138, mc, tTb 3 cc (ch.reverse.map (fun e => [(e.1 : Int), (e.2.1 : Int), (e.2.2 : Int)]))) := by
        rw [hw_2]; exact zput_tg hmc hca (by simp)
      refine zx_iv (b := ca) (As := []) (st := []) (v := (some (zI (ch.length : Int)))) (w1 := w_1) dX4_goBack_18 zc_X4_186 h_5 (z_cls9 (by decide)) rfl rfl (Nat.le_of_ble_eq_true rfl) rfl (by have q := c_X9_count (G := G) (d := d + 4) h_5 (by decide) okC; rw [hCl] at q; exact q) ?_
      refine zx_st (st1 := [zI (ch.length : Int)]) rfl ?_
      refine zx_pc (pc1 := 21) rfl ?_
      refine zx_aload_n (i := 1) dX4_goBack_21 rfl rfl ?_
      have h_6 : w_1.1 yd = some (2, 0, [zI (dd : Int), zR va_d, zR md_d, zP (oA Fs (mmf fr dd).2.1.1), zI ((mmf fr dd).2.1.2.1 : Int), zI ((mmf fr dd).2.1.2.2 : Int), zP ((cls dd).bind (pgCl R)), zI (if (mmf fr dd).2.2.1 = true then 1 else 0), zP (oA Fs (mmf fr dd).2.2.2.1), zI ((mmf fr dd).2.2.2.2 : Int)]) := by
        rw [hw_2]; exact zput_tg hmc hfy_d (by simp)
      refine zx_getfield dX4_goBack_22 zf_X4_214 h_6 rfl ?_
      refine zx_icmp_gt (tgt := 55) dX4_goBack_25 (by decide) (fun h25 => absurd h25 (by omega)) (fun h25 => ?_)
      refine zx_aload_n (i := 0) dX4_goBack_28 rfl rfl ?_
      refine zx_aload_n (i := 1) dX4_goBack_29 rfl rfl ?_
      refine zx_getfield dX4_goBack_30 zf_X4_217 h_6 rfl ?_
      obtain ⟨w_7, hw_8⟩ : ∃ ww, ww = zput w_1 mc (4, 0, [zR t, zR fa, zR ca, zR ta, zR rp, zI (fr.length : Int), zP (oA Fs cur), zI (pl0 : Int), zP (oA Fs (mmf fr dd).2.2.2.1), zI 0, zI 0, zI 0]) := ⟨_, rfl⟩
      refine zx_put (w1 := w_7) dX4_goBack_33 zf_X4_113 h_4 (Nat.le_of_ble_eq_true rfl) (zFt_obj _ _) (fun h => by cases h) hw_8.symm ?_
      have q_9 : w_7.2.1 = w_1.2.1 ∧ w_7.2.2 = w_1.2.2 := by rw [hw_8]; exact ⟨rfl, rfl⟩
      have h_10 : w_7.1 mc = some (4, 0, [zR t, zR fa, zR ca, zR ta, zR rp, zI (fr.length : Int), zP (oA Fs cur), zI (pl0 : Int), zP (oA Fs (mmf fr dd).2.2.2.1), zI 0, zI 0, zI 0]) := by rw [hw_8]; exact zput_at
      refine zx_aload_n (i := 0) dX4_goBack_36 rfl rfl ?_
      refine zx_aload_n (i := 1) dX4_goBack_37 rfl rfl ?_
      have h_11 : w_7.1 yd = some (2, 0, [zI (dd : Int), zR va_d, zR md_d, zP (oA Fs (mmf fr dd).2.1.1), zI ((mmf fr dd).2.1.2.1 : Int), zI ((mmf fr dd).2.1.2.2 : Int), zP ((cls dd).bind (pgCl R)), zI (if (mmf fr dd).2.2.1 = true then 1 else 0), zP (oA Fs (mmf fr dd).2.2.2.1), zI ((mmf fr dd).2.2.2.2 : Int)]) := by
        rw [hw_8]; exact zput_tg h_4 h_6 (by simp)
      refine zx_getfield dX4_goBack_38 zf_X4_220 h_11 rfl ?_
      obtain ⟨w_12, hw_13⟩ : ∃ ww, ww = zput w_7 mc (4, 0, [zR t, zR fa, zR ca, zR ta, zR rp, zI (fr.length : Int), zP (oA Fs (mmf fr dd).2.1.1), zI (pl0 : Int), zP (oA Fs (mmf fr dd).2.2.2.1), zI 0, zI 0, zI 0]) := ⟨_, rfl⟩
      refine zx_put (w1 := w_12) dX4_goBack_41 zf_X4_53 h_10 (Nat.le_of_ble_eq_true rfl) (zFt_obj _ _) (fun h => by cases h) hw_13.symm ?_
      have q_14 : w_12.2.1 = w_7.2.1 ∧ w_12.2.2 = w_7.2.2 := by rw [hw_13]; exact ⟨rfl, rfl⟩
      have h_15 : w_12.1 mc = some (4, 0, [zR t, zR fa, zR ca, zR ta, zR rp, zI (fr.length : Int), zP (oA Fs (mmf fr dd).2.1.1), zI (pl0 : Int), zP (oA Fs (mmf fr dd).2.2.2.1), zI 0, zI 0, zI 0]) := by rw [hw_13]; exact zput_at
      refine zx_aload_n (i := 0) dX4_goBack_44 rfl rfl ?_
      refine zx_pc (pc1 := 45) rfl ?_
      refine zx_aload_n (i := 1) dX4_goBack_45 rfl rfl ?_
      have h_16 : w_12.1 yd = some (2, 0, [zI (dd : Int), zR va_d, zR md_d, zP (oA Fs (mmf fr dd).2.1.1), zI ((mmf fr dd).2.1.2.1 : Int), zI ((mmf fr dd).2.1.2.2 : Int), zP ((cls dd).bind (pgCl R)), zI (if (mmf fr dd).2.2.1 = true then 1 else 0), zP (oA Fs (mmf fr dd).2.2.2.1), zI ((mmf fr dd).2.2.2.2 : Int)]) := by
        rw [hw_13]; exact zput_tg h_10 h_11 (by simp)
      refine zx_getfield dX4_goBack_46 zf_X4_223 h_16 rfl ?_
      refine zx_iconst (v := 1) dX4_goBack_49 rfl (z32_lit (by decide) (by decide)) ?_
      refine zx_iadd (v := ((mmf fr dd).2.1.2.1 : Int) + 1) dX4_goBack_50 (zw_id ⟨by omega, by omega⟩) ?_
      obtain ⟨w_17, hw_18⟩ : ∃ ww, ww = zput w_12 mc (4, 0, [zR t, zR fa, zR ca, zR ta, zR rp, zI (fr.length : Int), zP (oA Fs (mmf fr dd).2.1.1), zI (((mmf fr dd).2.1.2.1 : Int) + 1), zP (oA Fs (mmf fr dd).2.2.2.1), zI 0, zI 0, zI 0]) := ⟨_, rfl⟩
      refine zx_put (w1 := w_17) dX4_goBack_51 zf_X4_69 h_15 (Nat.le_of_ble_eq_true rfl) (zFt_int _) (fun h => by cases h) hw_18.symm ?_
      have q_19 : w_17.2.1 = w_12.2.1 ∧ w_17.2.2 = w_12.2.2 := by rw [hw_18]; exact ⟨rfl, rfl⟩
      have h_20 : w_17.1 mc = some (4, 0, [zR t, zR fa, zR ca, zR ta, zR rp, zI (fr.length : Int), zP (oA Fs (mmf fr dd).2.1.1), zI (((mmf fr dd).2.1.2.1 : Int) + 1), zP (oA Fs (mmf fr dd).2.2.2.1), zI 0, zI 0, zI 0]) := by rw [hw_18]; exact zput_at
      refine zx_return dX4_goBack_54 rfl ?_
      have hfaL2 : zFa [mc] w w_17 := (zFa_put (zFa_put (zFa_put (zFa_put zFa_re (by simp) hw_2) (by simp) hw_8) (by simp) hw_13) (by simp) hw_18)
      have hFrr2 := fm_keep hFr hfaL2 (zLc hmc (by simp) zLn)
      have hmcF2 : mcF rp w w_17 := mcF_fa hfaL2 (zLc hmc (by simp [mcP]) zLn)
      have h_21 : w_1.1 fa = some (166, mc, zLs cap Fs) := by
        rw [hw_2]; exact zput_tg hmc hfa (by simp)
      have h_22 : w_7.1 fa = some (166, mc, zLs cap Fs) := by
        rw [hw_8]; exact zput_tg h_4 h_21 (by simp)
      have h_23 : w_12.1 fa = some (166, mc, zLs cap Fs) := by
        rw [hw_13]; exact zput_tg h_10 h_22 (by simp)
      have h_24 : w_17.1 fa = some (166, mc, zLs cap Fs) := by
        rw [hw_18]; exact zput_tg h_15 h_23 (by simp)
      have h_25 : w_7.1 ca = some (138, mc, tTb 3 cc (ch.reverse.map (fun e => [(e.1 : Int), (e.2.1 : Int), (e.2.2 : Int)]))) := by
        rw [hw_8]; exact zput_tg h_4 h_5 (by simp)
      have h_26 : w_12.1 ca = some (138, mc, tTb 3 cc (ch.reverse.map (fun e => [(e.1 : Int), (e.2.1 : Int), (e.2.2 : Int)]))) := by
        rw [hw_13]; exact zput_tg h_10 h_25 (by simp)
      have h_27 : w_17.1 ca = some (138, mc, tTb 3 cc (ch.reverse.map (fun e => [(e.1 : Int), (e.2.1 : Int), (e.2.2 : Int)]))) := by
        rw [hw_18]; exact zput_tg h_15 h_26 (by simp)
      have h_28 : w_1.1 ta = some (139, mc, tTb 2 ct (T.reverse.map (fun e => [(e.1 : Int), (e.2 : Int)]))) := by
        rw [hw_2]; exact zput_tg hmc hta (by simp)
      have h_29 : w_7.1 ta = some (139, mc, tTb 2 ct (T.reverse.map (fun e => [(e.1 : Int), (e.2 : Int)]))) := by
        rw [hw_8]; exact zput_tg h_4 h_28 (by simp)
      have h_30 : w_12.1 ta = some (139, mc, tTb 2 ct (T.reverse.map (fun e => [(e.1 : Int), (e.2 : Int)]))) := by
        rw [hw_13]; exact zput_tg h_10 h_29 (by simp)
      have h_31 : w_17.1 ta = some (139, mc, tTb 2 ct (T.reverse.map (fun e => [(e.1 : Int), (e.2 : Int)]))) := by
        rw [hw_18]; exact zput_tg h_15 h_30 (by simp)
      have h_32 : w_1.1 t = some (10, 0, [zI ty, zR tc, zR tn, zR th, zR tz]) := by
        rw [hw_2]; exact zput_tg hmc ht0 (by simp)
      have h_33 : w_7.1 t = some (10, 0, [zI ty, zR tc, zR tn, zR th, zR tz]) := by
        rw [hw_8]; exact zput_tg h_4 h_32 (by simp)
      have h_34 : w_12.1 t = some (10, 0, [zI ty, zR tc, zR tn, zR th, zR tz]) := by
        rw [hw_13]; exact zput_tg h_10 h_33 (by simp)
      have h_35 : w_17.1 t = some (10, 0, [zI ty, zR tc, zR tn, zR th, zR tz]) := by
        rw [hw_18]; exact zput_tg h_15 h_34 (by simp)
      have h_36 : w_1.1 tc = some (130, t, tTb 3 30 C) := by
        rw [hw_2]; exact zput_tg hmc htc (by simp)
      have h_37 : w_7.1 tc = some (130, t, tTb 3 30 C) := by
        rw [hw_8]; exact zput_tg h_4 h_36 (by simp)
      have h_38 : w_12.1 tc = some (130, t, tTb 3 30 C) := by
        rw [hw_13]; exact zput_tg h_10 h_37 (by simp)
      have h_39 : w_17.1 tc = some (130, t, tTb 3 30 C) := by
        rw [hw_18]; exact zput_tg h_15 h_38 (by simp)
      have h_40 : w_1.1 tn = some (131, t, tTb 4 800 N) := by
        rw [hw_2]; exact zput_tg hmc htn (by simp)
      have h_41 : w_7.1 tn = some (131, t, tTb 4 800 N) := by
        rw [hw_8]; exact zput_tg h_4 h_40 (by simp)
      have h_42 : w_12.1 tn = some (131, t, tTb 4 800 N) := by
        rw [hw_13]; exact zput_tg h_10 h_41 (by simp)
      have h_43 : w_17.1 tn = some (131, t, tTb 4 800 N) := by
        rw [hw_18]; exact zput_tg h_15 h_42 (by simp)
      have h_44 : w_1.1 th = some (132, t, tTb 1 64 H) := by
        rw [hw_2]; exact zput_tg hmc hth (by simp)
      have h_45 : w_7.1 th = some (132, t, tTb 1 64 H) := by
        rw [hw_8]; exact zput_tg h_4 h_44 (by simp)
      have h_46 : w_12.1 th = some (132, t, tTb 1 64 H) := by
        rw [hw_13]; exact zput_tg h_10 h_45 (by simp)
      have h_47 : w_17.1 th = some (132, t, tTb 1 64 H) := by
        rw [hw_18]; exact zput_tg h_15 h_46 (by simp)
      have h_48 : w_1.1 tz = some (120, t, Sz.map zJ) := by
        rw [hw_2]; exact zput_tg hmc htz (by simp)
      have h_49 : w_7.1 tz = some (120, t, Sz.map zJ) := by
        rw [hw_8]; exact zput_tg h_4 h_48 (by simp)
      have h_50 : w_12.1 tz = some (120, t, Sz.map zJ) := by
        rw [hw_13]; exact zput_tg h_10 h_49 (by simp)
      have h_51 : w_17.1 tz = some (120, t, Sz.map zJ) := by
        rw [hw_18]; exact zput_tg h_15 h_50 (by simp)
      have h_52 : w_1.1 rp = some (8, 0, [zP mo, zR ri, zR ra, zR rn, zI (ns : Int), zI (nc0 : Int), zI (dp0 : Int), zI 101, zI bk, zI bc]) := by
        rw [hw_2]; exact zput_tg hmc hrp (by simp)
      have h_53 : w_7.1 rp = some (8, 0, [zP mo, zR ri, zR ra, zR rn, zI (ns : Int), zI (nc0 : Int), zI (dp0 : Int), zI 101, zI bk, zI bc]) := by
        rw [hw_8]; exact zput_tg h_4 h_52 (by simp)
      have h_54 : w_12.1 rp = some (8, 0, [zP mo, zR ri, zR ra, zR rn, zI (ns : Int), zI (nc0 : Int), zI (dp0 : Int), zI 101, zI bk, zI bc]) := by
        rw [hw_13]; exact zput_tg h_10 h_53 (by simp)
      have h_55 : w_17.1 rp = some (8, 0, [zP mo, zR ri, zR ra, zR rn, zI (ns : Int), zI (nc0 : Int), zI (dp0 : Int), zI 101, zI bk, zI bc]) := by
        rw [hw_18]; exact zput_tg h_15 h_54 (by simp)
      have h_56 : w_1.1 ri = some (135, rp, tTb 1 3 I) := by
        rw [hw_2]; exact zput_tg hmc hri (by simp)
      have h_57 : w_7.1 ri = some (135, rp, tTb 1 3 I) := by
        rw [hw_8]; exact zput_tg h_4 h_56 (by simp)
      have h_58 : w_12.1 ri = some (135, rp, tTb 1 3 I) := by
        rw [hw_13]; exact zput_tg h_10 h_57 (by simp)
      have h_59 : w_17.1 ri = some (135, rp, tTb 1 3 I) := by
        rw [hw_18]; exact zput_tg h_15 h_58 (by simp)
      have h_60 : w_1.1 ra = some (136, rp, tTb 3 150 A) := by
        rw [hw_2]; exact zput_tg hmc hra (by simp)
      have h_61 : w_7.1 ra = some (136, rp, tTb 3 150 A) := by
        rw [hw_8]; exact zput_tg h_4 h_60 (by simp)
      have h_62 : w_12.1 ra = some (136, rp, tTb 3 150 A) := by
        rw [hw_13]; exact zput_tg h_10 h_61 (by simp)
      have h_63 : w_17.1 ra = some (136, rp, tTb 3 150 A) := by
        rw [hw_18]; exact zput_tg h_15 h_62 (by simp)
      have h_64 : w_1.1 rn = some (137, rp, tTb 2 160 (nt.map (fun e => [(e.1 : Int), (e.2 : Int)]))) := by
        rw [hw_2]; exact zput_tg hmc hrn (by simp)
      have h_65 : w_7.1 rn = some (137, rp, tTb 2 160 (nt.map (fun e => [(e.1 : Int), (e.2 : Int)]))) := by
        rw [hw_8]; exact zput_tg h_4 h_64 (by simp)
      have h_66 : w_12.1 rn = some (137, rp, tTb 2 160 (nt.map (fun e => [(e.1 : Int), (e.2 : Int)]))) := by
        rw [hw_13]; exact zput_tg h_10 h_65 (by simp)
      have h_67 : w_17.1 rn = some (137, rp, tTb 2 160 (nt.map (fun e => [(e.1 : Int), (e.2 : Int)]))) := by
        rw [hw_18]; exact zput_tg h_15 h_66 (by simp)
      have hM2 : mcW w_17 b1 b2 ((mc, fa, ca, ta), (t, tc, tn, th, tz), (rp, ri, ra, rn), (ty, C), (mo, I, bk, bc)) (((cap, Fs), fm), (cc, (ch.reverse.map (fun e => [(e.1 : Int), (e.2.1 : Int), (e.2.2 : Int)]))), (ct, (T.reverse.map (fun e => [(e.1 : Int), (e.2 : Int)]))), ((fr.length : Int), (oA Fs (mmf fr dd).2.1.1), (((mmf fr dd).2.1.2.1 : Int) + 1), (oA Fs (mmf fr dd).2.2.2.1)), (0, 0, 0), (N, H, Sz), (A, (nt.map (fun e => [(e.1 : Int), (e.2 : Int)])), (ns : Int), (nc0 : Int), (dp0 : Int), 101)) := ⟨h_20, h_24, ⟨h_27, okC⟩, ⟨h_31, okT⟩, hFrr2, ⟨h_35, ⟨h_39, okTC⟩, ⟨h_43, okN⟩, ⟨h_47, okH⟩, h_51, hSz⟩, ⟨h_55, ⟨h_59, okI⟩, ⟨h_63, okA⟩, ⟨h_67, okNt⟩⟩, hcap, ⟨by omega, by omega, by omega, by omega⟩, by omega, by omega⟩
      have hW2 : msW w_17 b1 b2 ((mc, fa, ca, ta), (t, tc, tn, th, tz), (rp, ri, ra, rn), (ty, C), (mo, I, bk, bc)) R Fs (0, 0, 101) ((fr, cls, V, ch, T), ((mmf fr dd).2.1.1, ((mmf fr dd).2.1.2.1 + 1), (mmf fr dd).2.2.2.1, false), tm, (na, ns, nc0, dp0), nt) := ⟨cap, fm, cc, (ch.reverse.map (fun e => [(e.1 : Int), (e.2.1 : Int), (e.2.2 : Int)])), ct, (T.reverse.map (fun e => [(e.1 : Int), (e.2 : Int)])), (fr.length : Int), (oA Fs (mmf fr dd).2.1.1), (((mmf fr dd).2.1.2.1 : Int) + 1), (oA Fs (mmf fr dd).2.2.2.1), 0, N, H, Sz, A, (nt.map (fun e => [(e.1 : Int), (e.2 : Int)])), (ns : Int), (nc0 : Int), (dp0 : Int), hM2, ⟨⟨(by first | rfl | omega | simp), hfl, hJ, hcn, hFS⟩, ⟨rfl, (fun i h => by have := hcb2_d i h; omega), (by first | rfl | omega), rfl, (fun i h => by have := hcb4_d i h; omega), rfl⟩, ⟨rfl, hchL⟩, ⟨rfl, hTL⟩, htm, ⟨hA, (by first | rfl | omega), (by first | rfl | omega), (by first | rfl | omega), rfl⟩⟩⟩
      exact ⟨rfl, hW2, hmcF2⟩
    · cases ch with
      | nil => exact absurd (Nat.zero_le _) hdq0
      | cons e ch1 =>
        obtain ⟨f, k, t0⟩ := e
        have hdq2 : ¬ ch1.length + 1 ≤ (mmf fr dd).2.2.2.2 := hdq0
        obtain ⟨ht0l, hkl⟩ := hpop f k t0 ch1 rfl
        have hch2 : ch1.length < 319 := by
          have q : ch1.length + 1 < 320 := hch
          omega
        have eCH : (((f, k, t0) :: ch1).reverse.map (fun e => [(e.1 : Int), (e.2.1 : Int), (e.2.2 : Int)])) = (ch1.reverse.map (fun e => [(e.1 : Int), (e.2.1 : Int), (e.2.2 : Int)])) ++ [[(f : Int), (k : Int), (t0 : Int)]] := by simp
        obtain ⟨cap, fm, cc, CH, ct, TR, us, cu, pl, de, fl, N, H, Sz, A, Nt, sc, nc, dp, hM, hS⟩ := id hW
        obtain ⟨⟨hus, hfl, hJ, hcn, hFS⟩, ⟨hcu, hcuL, hpl, hde, hdeL, hfb⟩, ⟨hCH, hchL⟩, ⟨hTR, hTL⟩, htm, ⟨hA, hsc, hnc, hdp, hNt⟩⟩ := id hS
        subst hus hcu hpl hde hfb hCH hTR hsc hnc hdp hNt
        rw [eCH] at hM
        rw [oA_some hyd] at hM
        obtain ⟨hmc, hfa, ⟨hca, okC⟩, ⟨hta, okT⟩, hFr, ⟨ht0, ⟨htc, okTC⟩, ⟨htn, okN⟩, ⟨hth, okH⟩, htz, hSz⟩, ⟨hrp, ⟨hri, okI⟩, ⟨hra, okA⟩, ⟨hrn, okNt⟩⟩, hcap, hcct, hrm1, hrm2⟩ := id hM
        obtain ⟨⟨⟨va_d, md_d⟩, ⟨fca_d, fbt_d, fdp_d⟩, ⟨fcl_d, fdn_d, fod_d, fcb_d⟩, xs_d⟩, efm_d⟩ : ∃ r, fm yd = r := ⟨_, rfl⟩
        obtain ⟨hfy_d, hva_d, hx_d⟩ := hFr dd yd hyd
        rw [efm_d] at hfy_d hva_d hx_d
        have hx_d : xs_d.length = 8 := hx_d
        obtain ⟨hmd_d, ⟨hcb1_d, hcb2_d⟩, ⟨hcb3_d, hcb4_d, hcb5_d⟩, ⟨-, hxv_d⟩, hdq_d⟩ := hFS dd yd hdd hyd
        rw [efm_d] at hmd_d hcb1_d hcb3_d hxv_d
        simp only [Prod.mk.injEq] at hcb1_d hcb3_d
        obtain ⟨ea1_d, ea2_d, ea3_d⟩ := hcb1_d
        obtain ⟨eb1_d, eb2_d, eb3_d, eb4_d⟩ := hcb3_d
        subst ea1_d ea2_d ea3_d eb1_d eb2_d eb3_d eb4_d
        have hff : f < fr.length := hchL (f, k, t0) List.mem_cons_self
        obtain ⟨yf, hyf⟩ : ∃ y, Fs[f]? = some y := ⟨_, List.getElem?_eq_getElem (by omega)⟩
        have hlaf : lAt Fs (f : Int) = some yf := lAt_in (by omega) (by rw [Int.toNat_natCast]; exact hyf)
        have hRl : (ch1.reverse.map (fun e => [(e.1 : Int), (e.2.1 : Int), (e.2.2 : Int)])).length = ch1.length := by simp
        have hCl : ((ch1.reverse.map (fun e => [(e.1 : Int), (e.2.1 : Int), (e.2.2 : Int)])) ++ [[(f : Int), (k : Int), (t0 : Int)]]).length = ch1.length + 1 := by simp
        have hgf : tg ((ch1.reverse.map (fun e => [(e.1 : Int), (e.2.1 : Int), (e.2.2 : Int)])) ++ [[(f : Int), (k : Int), (t0 : Int)]]) (ch1.length : Int) 0 = (f : Int) := tg_last (j := 0) hRl
        have hgk : tg ((ch1.reverse.map (fun e => [(e.1 : Int), (e.2.1 : Int), (e.2.2 : Int)])) ++ [[(f : Int), (k : Int), (t0 : Int)]]) (ch1.length : Int) 1 = (k : Int) := tg_last (j := 1) hRl
        have hgt : tg ((ch1.reverse.map (fun e => [(e.1 : Int), (e.2.1 : Int), (e.2.2 : Int)])) ++ [[(f : Int), (k : Int), (t0 : Int)]]) (ch1.length : Int) 2 = (t0 : Int) := tg_last (j := 2) hRl
        have hts : ts ((ch1.reverse.map (fun e => [(e.1 : Int), (e.2.1 : Int), (e.2.2 : Int)])) ++ [[(f : Int), (k : Int), (t0 : Int)]]) (ch1.length : Int) 1 ((k + 1 : Nat) : Int) = (ch1.reverse.map (fun e => [(e.1 : Int), (e.2.1 : Int), (e.2.2 : Int)])) ++ [[(f : Int), ((k + 1 : Nat) : Int), (t0 : Int)]] := by rw [← hRl]; exact ts_last (j := 1)
        have hTRl : (T.reverse.map (fun e => [(e.1 : Int), (e.2 : Int)])).length = T.length := by simp
        by_cases hk1 : k + 1 < ((pgC R).1.1.1 (mmf fr f).1.1).length
        · skip
          refine zx_aload_n (i := 0) dX4_goBack_0 rfl rfl ?_
          refine zx_iconst (v := 0) dX4_goBack_1 rfl (z32_lit (by decide) (by decide)) ?_
          obtain ⟨w_1, hw_2⟩ : ∃ ww, ww = zput w mc (4, 0, [zR t, zR fa, zR ca, zR ta, zR rp, zI (fr.length : Int), zP (oA Fs cur), zI (pl0 : Int), zR yd, zI 0, zI 0, zI 0]) := ⟨_, rfl⟩
          refine zx_put (w1 := w_1) dX4_goBack_2 zf_X4_57 hmc (Nat.le_of_ble_eq_true rfl) (zFt_bool (by first | exact Or.inl rfl | exact Or.inr rfl | exact zB_or | assumption)) (fun h => by cases h) hw_2.symm ?_
          have q_3 : w_1.2.1 = w.2.1 ∧ w_1.2.2 = w.2.2 := by rw [hw_2]; exact ⟨rfl, rfl⟩
          have h_4 : w_1.1 mc = some (4, 0, [zR t, zR fa, zR ca, zR ta, zR rp, zI (fr.length : Int), zP (oA Fs cur), zI (pl0 : Int), zR yd, zI 0, zI 0, zI 0]) := by rw [hw_2]; exact zput_at
          refine zx_aload_n (i := 0) dX4_goBack_5 rfl rfl ?_
          refine zx_getfield dX4_goBack_6 zf_X4_113 h_4 rfl ?_
          refine zx_astore_n (i := 1) dX4_goBack_9 rfl (by decide) rfl ?_
          refine zx_L (L1 := [some (zR mc), some (zR yd), none, none, none, none]) rfl ?_
          refine zx_aload_n (i := 1) dX4_goBack_10 rfl rfl ?_
          refine zx_ifnull (tgt := 55) dX4_goBack_11 (by decide) (fun h => by cases h) (fun _ => ?_)
          refine zx_aload_n (i := 0) dX4_goBack_14 rfl rfl ?_
          refine zx_getfield dX4_goBack_15 zf_X4_31 h_4 rfl ?_
          have h_5 : w_1.1 ca = some (138, mc, tTb 3 cc ((ch1.reverse.map (fun e => [(e.1 : Int), (e.2.1 : Int), (e.2.2 : Int)])) ++ [[(f : Int), (k : Int), (t0 : Int)]])) := by
            rw [hw_2]; exact zput_tg hmc hca (by simp)
          refine zx_iv (b := ca) (As := []) (st := []) (v := (some (zI ((ch1.length + 1 : Nat) : Int)))) (w1 := w_1) dX4_goBack_18 zc_X4_186 h_5 (z_cls9 (by decide)) rfl rfl (Nat.le_of_ble_eq_true rfl) rfl (by have q := c_X9_count (G := G) (d := d + 4) h_5 (by decide) okC; rw [hCl] at q; exact q) ?_
          refine zx_st (st1 := [zI ((ch1.length + 1 : Nat) : Int)]) rfl ?_
          refine zx_pc (pc1 := 21) rfl ?_
          refine zx_aload_n (i := 1) dX4_goBack_21 rfl rfl ?_
          have h_6 : w_1.1 yd = some (2, 0, [zI (dd : Int), zR va_d, zR md_d, zP (oA Fs (mmf fr dd).2.1.1), zI ((mmf fr dd).2.1.2.1 : Int), zI ((mmf fr dd).2.1.2.2 : Int), zP ((cls dd).bind (pgCl R)), zI (if (mmf fr dd).2.2.1 = true then 1 else 0), zP (oA Fs (mmf fr dd).2.2.2.1), zI ((mmf fr dd).2.2.2.2 : Int)]) := by
            rw [hw_2]; exact zput_tg hmc hfy_d (by simp)
          refine zx_getfield dX4_goBack_22 zf_X4_214 h_6 rfl ?_
          refine zx_icmp_gt (tgt := 55) dX4_goBack_25 (by decide) (fun h25 => ?_) (fun h25 => absurd (by omega) h25)
          refine zx_aload_n (i := 0) dX4_goBack_55 rfl rfl ?_
          refine zx_getfield dX4_goBack_56 zf_X4_31 h_4 rfl ?_
          refine zx_iv (b := ca) (As := []) (st := []) (v := (some (zI ((ch1.length + 1 : Nat) : Int)))) (w1 := w_1) dX4_goBack_59 zc_X4_186 h_5 (z_cls9 (by decide)) rfl rfl (Nat.le_of_ble_eq_true rfl) rfl (by have q := c_X9_count (G := G) (d := d + 4) h_5 (by decide) okC; rw [hCl] at q; exact q) ?_
          refine zx_st (st1 := [zI ((ch1.length + 1 : Nat) : Int)]) rfl ?_
          refine zx_iconst (v := 1) dX4_goBack_62 rfl (z32_lit (by decide) (by decide)) ?_
          refine zx_isub (v := (ch1.length : Int)) dX4_goBack_63 (zw_eq (by omega) (by omega) (by omega)) ?_
          refine zx_istore_n (i := 2) dX4_goBack_64 rfl (by decide) rfl ?_
          refine zx_L (L1 := [some (zR mc), some (zR yd), some (zI (ch1.length : Int)), none, none, none]) rfl ?_
          refine zx_aload_n (i := 0) dX4_goBack_65 rfl rfl ?_
          refine zx_aload_n (i := 0) dX4_goBack_66 rfl rfl ?_
          refine zx_getfield dX4_goBack_67 zf_X4_31 h_4 rfl ?_
          refine zx_pc (pc1 := 70) rfl ?_
          refine zx_iload_n (i := 2) dX4_goBack_70 rfl rfl ?_
          refine zx_iconst (v := 0) dX4_goBack_71 rfl (z32_lit (by decide) (by decide)) ?_
          refine zx_iv (b := ca) (As := [zI (ch1.length : Int), zI 0]) (st := [zR mc]) (v := (some (zI (f : Int)))) (w1 := w_1) dX4_goBack_72 zc_X4_226 h_5 (z_cls9 (by decide)) rfl rfl (Nat.le_of_ble_eq_true rfl) rfl (by have q := c_X9_get (G := G) (d := d + 4) h_5 (by decide) okC (ch1.length : Int) 0; rw [hgf] at q; exact q) ?_
          refine zx_st (st1 := [zI (f : Int), zR mc]) rfl ?_
          have hfaL3 : zFa [mc] w w_1 := (zFa_put zFa_re (by simp) hw_2)
          have hFrr3 := fm_keep hFr hfaL3 (zLc hmc (by simp) zLn)
          have hmcF3 : mcF rp w w_1 := mcF_fa hfaL3 (zLc hmc (by simp [mcP]) zLn)
          have h_7 : w_1.1 fa = some (166, mc, zLs cap Fs) := by
            rw [hw_2]; exact zput_tg hmc hfa (by simp)
          have h_8 : w_1.1 ta = some (139, mc, tTb 2 ct (T.reverse.map (fun e => [(e.1 : Int), (e.2 : Int)]))) := by
            rw [hw_2]; exact zput_tg hmc hta (by simp)
          have h_9 : w_1.1 t = some (10, 0, [zI ty, zR tc, zR tn, zR th, zR tz]) := by
            rw [hw_2]; exact zput_tg hmc ht0 (by simp)
          have h_10 : w_1.1 tc = some (130, t, tTb 3 30 C) := by
            rw [hw_2]; exact zput_tg hmc htc (by simp)
          have h_11 : w_1.1 tn = some (131, t, tTb 4 800 N) := by
            rw [hw_2]; exact zput_tg hmc htn (by simp)
          have h_12 : w_1.1 th = some (132, t, tTb 1 64 H) := by
            rw [hw_2]; exact zput_tg hmc hth (by simp)
          have h_13 : w_1.1 tz = some (120, t, Sz.map zJ) := by
            rw [hw_2]; exact zput_tg hmc htz (by simp)
          have h_14 : w_1.1 rp = some (8, 0, [zP mo, zR ri, zR ra, zR rn, zI (ns : Int), zI (nc0 : Int), zI (dp0 : Int), zI 101, zI bk, zI bc]) := by
            rw [hw_2]; exact zput_tg hmc hrp (by simp)
          have h_15 : w_1.1 ri = some (135, rp, tTb 1 3 I) := by
            rw [hw_2]; exact zput_tg hmc hri (by simp)
          have h_16 : w_1.1 ra = some (136, rp, tTb 3 150 A) := by
            rw [hw_2]; exact zput_tg hmc hra (by simp)
          have h_17 : w_1.1 rn = some (137, rp, tTb 2 160 (nt.map (fun e => [(e.1 : Int), (e.2 : Int)]))) := by
            rw [hw_2]; exact zput_tg hmc hrn (by simp)
          have hM3 : mcW w_1 b1 b2 ((mc, fa, ca, ta), (t, tc, tn, th, tz), (rp, ri, ra, rn), (ty, C), (mo, I, bk, bc)) (((cap, Fs), fm), (cc, ((ch1.reverse.map (fun e => [(e.1 : Int), (e.2.1 : Int), (e.2.2 : Int)])) ++ [[(f : Int), (k : Int), (t0 : Int)]])), (ct, (T.reverse.map (fun e => [(e.1 : Int), (e.2 : Int)]))), ((fr.length : Int), (oA Fs cur), (pl0 : Int), (some yd)), (0, 0, 0), (N, H, Sz), (A, (nt.map (fun e => [(e.1 : Int), (e.2 : Int)])), (ns : Int), (nc0 : Int), (dp0 : Int), 101)) := ⟨h_4, h_7, ⟨h_5, okC⟩, ⟨h_8, okT⟩, hFrr3, ⟨h_9, ⟨h_10, okTC⟩, ⟨h_11, okN⟩, ⟨h_12, okH⟩, h_13, hSz⟩, ⟨h_14, ⟨h_15, okI⟩, ⟨h_16, okA⟩, ⟨h_17, okNt⟩⟩, hcap, ⟨by omega, by omega, by omega, by omega⟩, by omega, by omega⟩
          refine zx_iv (b := mc) (As := [zI (f : Int)]) (st := []) (v := (some (zR yf))) (w1 := w_1) dX4_goBack_75 zc_X4_228 h_4 rfl rfl rfl (Nat.le_of_ble_eq_true rfl) rfl (by have q := c_X4_frameAt (G := G) (d := d + 1) hM3 (f : Int); rw [hlaf] at q; exact q) ?_
          refine zx_st (st1 := [zR yf]) rfl ?_
          refine zx_astore_n (i := 3) dX4_goBack_78 rfl (by decide) rfl ?_
          refine zx_L (L1 := [some (zR mc), some (zR yd), some (zI (ch1.length : Int)), some (zR yf), none, none]) rfl ?_
          refine zx_aload_n (i := 3) dX4_goBack_79 rfl rfl ?_
          refine zx_ifnonnull (tgt := 90) dX4_goBack_80 (by decide) (fun _ => ?_) (fun h => by cases h)
          refine zx_aload_n (i := 0) dX4_goBack_90 rfl rfl ?_
          refine zx_aload_n (i := 0) dX4_goBack_91 rfl rfl ?_
          refine zx_getfield dX4_goBack_92 zf_X4_31 h_4 rfl ?_
          refine zx_iload_n (i := 2) dX4_goBack_95 rfl rfl ?_
          refine zx_iconst (v := 2) dX4_goBack_96 rfl (z32_lit (by decide) (by decide)) ?_
          refine zx_pc (pc1 := 97) rfl ?_
          refine zx_iv (b := ca) (As := [zI (ch1.length : Int), zI 2]) (st := [zR mc]) (v := (some (zI (t0 : Int)))) (w1 := w_1) dX4_goBack_97 zc_X4_226 h_5 (z_cls9 (by decide)) rfl rfl (Nat.le_of_ble_eq_true rfl) rfl (by have q := c_X9_get (G := G) (d := d + 4) h_5 (by decide) okC (ch1.length : Int) 2; rw [hgt] at q; exact q) ?_
          refine zx_st (st1 := [zI (t0 : Int), zR mc]) rfl ?_
          refine zx_ivN (b := mc) (As := [zI (t0 : Int)]) (st := []) dX4_goBack_100 zc_X4_236 h_4 rfl rfl rfl (Nat.le_of_ble_eq_true rfl) rfl (c_X4_undo hM3 t0 (by omega) (by omega) (un_row hfl hTL)) (fun w5 hq => ?_)
          obtain ⟨hM5r, hF5⟩ := hq
          rw [tr_cut (by omega), ← eCH, ← oA_some hyd] at hM5r
          have hW5 : msW w5 b1 b2 ((mc, fa, ca, ta), (t, tc, tn, th, tz), (rp, ri, ra, rn), (ty, C), (mo, I, bk, bc)) R Fs (0, 0, 101) ((fr, cls, (mmUn V T t0), ((f, k, t0) :: ch1), (T.drop (T.length - t0))), (cur, pl0, (some dd), false), tm, (na, ns, nc0, dp0), nt) := ⟨cap, (unN Fs (T.reverse.map (fun e => [(e.1 : Int), (e.2 : Int)])) t0 ((T.reverse.map (fun e => [(e.1 : Int), (e.2 : Int)])).length - t0) fm), cc, _, ct, _, (fr.length : Int), (oA Fs cur), (pl0 : Int), _, 0, N, H, Sz, A, (nt.map (fun e => [(e.1 : Int), (e.2 : Int)])), (ns : Int), (nc0 : Int), (dp0 : Int), hM5r, ⟨⟨(by first | rfl | omega | simp), hfl, hJ, hcn, (un_all hJ hfl hTL (by omega) hFS)⟩, ⟨rfl, hcuL, (by first | rfl | omega), rfl, hdeL, rfl⟩, ⟨rfl, hchL⟩, ⟨rfl, (fun e he => hTL e (List.mem_of_mem_drop he))⟩, htm, ⟨hA, (by first | rfl | omega), (by first | rfl | omega), (by first | rfl | omega), rfl⟩⟩⟩
          obtain ⟨cap5, fm5, cc5, CH5, ct5, TR5, us5, cu5, pl5, de5, fl5, N5, H5, Sz5, A5, Nt5, sc5, nc5, dp5, hM5, hS5⟩ := id hW5
          obtain ⟨⟨hus5, hfl5, hJ5, hcn5, hFS5⟩, ⟨hcu5, hcuL5, hpl5, hde5, hdeL5, hfb5⟩, ⟨hCH5, hchL5⟩, ⟨hTR5, hTL5⟩, htm5, ⟨hA5, hsc5, hnc5, hdp5, hNt5⟩⟩ := id hS5
          subst hus5 hcu5 hpl5 hde5 hfb5 hCH5 hTR5 hsc5 hnc5 hdp5 hNt5
          obtain ⟨hmc5, hfa5, ⟨hca5, okC5⟩, ⟨hta5, okT5⟩, hFr5, ⟨ht05, ⟨htc5, okTC5⟩, ⟨htn5, okN5⟩, ⟨hth5, okH5⟩, htz5, hSz5⟩, ⟨hrp5, ⟨hri5, okI5⟩, ⟨hra5, okA5⟩, ⟨hrn5, okNt5⟩⟩, hcap5, hcct5, hrm15, hrm25⟩ := id hM5
          obtain ⟨⟨⟨va_j, md_j⟩, ⟨fca_j, fbt_j, fdp_j⟩, ⟨fcl_j, fdn_j, fod_j, fcb_j⟩, xs_j⟩, efm_j⟩ : ∃ r, fm5 yf = r := ⟨_, rfl⟩
          obtain ⟨hfy_j, hva_j, hx_j⟩ := hFr5 f yf hyf
          rw [efm_j] at hfy_j hva_j hx_j
          have hx_j : xs_j.length = 8 := hx_j
          obtain ⟨hmd_j, ⟨hcb1_j, hcb2_j⟩, ⟨hcb3_j, hcb4_j, hcb5_j⟩, ⟨-, hxv_j⟩, hdq_j⟩ := hFS5 f yf hff hyf
          rw [efm_j] at hmd_j hcb1_j hcb3_j hxv_j
          simp only [Prod.mk.injEq] at hcb1_j hcb3_j
          obtain ⟨ea1_j, ea2_j, ea3_j⟩ := hcb1_j
          obtain ⟨eb1_j, eb2_j, eb3_j, eb4_j⟩ := hcb3_j
          subst ea1_j ea2_j ea3_j eb1_j eb2_j eb3_j eb4_j
          have hP5 : pgW w5 pg R := pgW_TM hP (mcF_fr (mcF_tr hmcF3 hF5))
          have hEC5 := eCH
          rw [eCH] at hM5 hca5 okC5
          obtain ⟨pr_j, ins_j, pm_j, lo_j, gd_j, cf_j, cr_j, sw_j, emr_j, hmo_j, hpp_j, hpn_j, hpm_j, hm2_j, hin_j, hsw_j, hsr_j, hmm_j⟩ := md_get hK hP5 hmd_j
          obtain ⟨⟨hpy, ⟨htt, okTT⟩, hml, hcl0⟩, hsm, hsc2, -⟩ := hP5.2.2.2.2.1 pr_j hpm_j
          rw [hpn_j] at hpy
          have hp5 : (mmf fr f).1.1 < 5 := (hK.1 _ _ _ hmd_j).2.2.2.2
          have hclc : (pgC R).1.1.1 (mmf fr f).1.1 = (R.2.2.2.1 pr_j).2.2.2.2.map (fun a => (R.2.2.2.2.2.1 a).1.1.toNat) := rd_cs hpp_j
          have hcll : ((pgC R).1.1.1 (mmf fr f).1.1).length = (R.2.2.2.1 pr_j).2.2.2.2.length := by rw [hclc, List.length_map]
          obtain ⟨a, hka⟩ : ∃ a, (R.2.2.2.1 pr_j).2.2.2.2[k]? = some a := ⟨_, List.getElem?_eq_getElem (by omega)⟩
          have hla : lAt (R.2.2.2.1 pr_j).2.2.2.2 (k : Int) = some a := lAt_in (by omega) (by rw [Int.toNat_natCast]; exact hka)
          have hpa := rd_cl hK (hsc2 a (List.mem_of_getElem? hka))
          have hgd : ((pgC R).1.1.1 (mmf fr f).1.1).getD k 0 = (R.2.2.2.2.2.1 a).1.1.toNat := by rw [hclc, List.getD_eq_getElem?_getD, List.getElem?_map, hka]; rfl
          have hk12 := (hK.2.2.1 pr_j hpm_j).1
          have helC : ∀ a ∈ (R.2.2.2.1 pr_j).2.2.2.2, ∃ x y, w5.1 a = some ((1, x, y) : zO) := fun a ha => ⟨_, _, (hP5.2.2.2.2.2.2 a (hsc2 a ha)).1.1⟩
          refine zx_aload_n (i := 3) dX4_goBack_103 rfl rfl ?_
          refine zx_getfield dX4_goBack_104 zf_X4_73 hfy_j rfl ?_
          refine zx_getfield dX4_goBack_107 zf_X4_152 hmo_j rfl ?_
          refine zx_astore (i := 4) dX4_goBack_110 (by decide) rfl ?_
          refine zx_L (L1 := [some (zR mc), some (zR yd), some (zI (ch1.length : Int)), some (zR yf), some (zR pr_j), none]) rfl ?_
          refine zx_aload_n (i := 0) dX4_goBack_112 rfl rfl ?_
          refine zx_getfield dX4_goBack_113 zf_X4_31 hmc5 rfl ?_
          refine zx_iload_n (i := 2) dX4_goBack_116 rfl rfl ?_
          refine zx_iconst (v := 1) dX4_goBack_117 rfl (z32_lit (by decide) (by decide)) ?_
          refine zx_iv (b := ca) (As := [zI (ch1.length : Int), zI 1]) (st := []) (v := (some (zI (k : Int)))) (w1 := w5) dX4_goBack_118 zc_X4_226 hca5 (z_cls9 (by decide)) rfl rfl (Nat.le_of_ble_eq_true rfl) rfl (by have q := c_X9_get (G := G) (d := d + 4) hca5 (by decide) okC5 (ch1.length : Int) 1; rw [hgk] at q; exact q) ?_
          refine zx_st (st1 := [zI (k : Int)]) rfl ?_
          refine zx_istore (i := 5) dX4_goBack_121 (by decide) rfl ?_
          refine zx_L (L1 := [some (zR mc), some (zR yd), some (zI (ch1.length : Int)), some (zR yf), some (zR pr_j), some (zI (k : Int))]) rfl ?_
          refine zx_pc (pc1 := 123) rfl ?_
          refine zx_aload_n (i := 0) dX4_goBack_123 rfl rfl ?_
          refine zx_getfield dX4_goBack_124 zf_X4_31 hmc5 rfl ?_
          refine zx_iload_n (i := 2) dX4_goBack_127 rfl rfl ?_
          refine zx_iconst (v := 1) dX4_goBack_128 rfl (z32_lit (by decide) (by decide)) ?_
          refine zx_iload (i := 5) dX4_goBack_129 rfl ?_
          refine zx_iconst (v := 1) dX4_goBack_131 rfl (z32_lit (by decide) (by decide)) ?_
          refine zx_iadd (v := ((k + 1 : Nat) : Int)) dX4_goBack_132 (zw_eq (by omega) (by omega) (by omega)) ?_
          obtain ⟨w_18, hw_19⟩ : ∃ ww, ww = zput w5 ca (138, mc, tTb 3 cc5 ((ch1.reverse.map (fun e => [(e.1 : Int), (e.2.1 : Int), (e.2.2 : Int)])) ++ [[(f : Int), ((k + 1 : Nat) : Int), (t0 : Int)]])) := ⟨_, rfl⟩
          have q_20 : w_18.2.1 = w5.2.1 ∧ w_18.2.2 = w5.2.2 := by rw [hw_19]; exact ⟨rfl, rfl⟩
          have h_21 : w_18.1 ca = some (138, mc, tTb 3 cc5 ((ch1.reverse.map (fun e => [(e.1 : Int), (e.2.1 : Int), (e.2.2 : Int)])) ++ [[(f : Int), ((k + 1 : Nat) : Int), (t0 : Int)]])) := by rw [hw_19]; exact zput_at
          refine zx_iv (b := ca) (As := [zI (ch1.length : Int), zI 1, zI ((k + 1 : Nat) : Int)]) (st := []) (v := none) (w1 := w_18) dX4_goBack_133 zc_X4_239 hca5 (z_cls9 (by decide)) rfl rfl (Nat.le_of_ble_eq_true rfl) rfl (by rw [hw_19]; exact (by have q := c_X9_set (G := G) (d := d + 4) hca5 (by decide) okC5 (ch1.length : Int) 1 ((k + 1 : Nat) : Int); rw [hts] at q; exact q)) ?_
          have okC6 : tOk 3 ((ch1.reverse.map (fun e => [(e.1 : Int), (e.2.1 : Int), (e.2.2 : Int)])) ++ [[(f : Int), ((k + 1 : Nat) : Int), (t0 : Int)]]) := by have q := tOk_ts (i := (ch1.length : Int)) (j := 1) (v := ((k + 1 : Nat) : Int)) okC5; rw [hts] at q; exact q
          refine zx_st (st1 := []) rfl ?_
          refine zx_iload (i := 5) dX4_goBack_136 rfl ?_
          refine zx_iconst (v := 1) dX4_goBack_138 rfl (z32_lit (by decide) (by decide)) ?_
          refine zx_iadd (v := ((k + 1 : Nat) : Int)) dX4_goBack_139 (zw_eq (by omega) (by omega) (by omega)) ?_
          refine zx_aload (i := 4) dX4_goBack_140 rfl ?_
          refine zx_pc (pc1 := 142) rfl ?_
          have h_22 : w_18.1 pr_j = some (6, 0, [zI ((mmf fr f).1.1 : Int), zR (R.2.2.2.1 pr_j).1.2.1, zR (R.2.2.2.1 pr_j).1.2.2.1, zR (R.2.2.2.1 pr_j).1.2.2.2.1, zR (R.2.2.2.1 pr_j).1.2.2.2.2]) := by
            rw [hw_19]; exact zput_tg hca5 hpy (by simp)
          have h_23 : w_18.1 ((R.2.2.2.1 pr_j).1.2.2.2.1) = some (164, pr_j, zLs (R.2.2.2.1 pr_j).2.2.2.1 ((R.2.2.2.1 pr_j).2.2.2.2)) := by
            rw [hw_19]; exact zput_tg hca5 hcl0 (by simp)
          refine zx_iv (b := pr_j) (As := []) (st := [zI ((k + 1 : Nat) : Int)]) (v := (some (zI ((R.2.2.2.1 pr_j).2.2.2.2.length : Int)))) (w1 := w_18) dX4_goBack_142 zc_X4_182 h_22 rfl rfl rfl (Nat.le_of_ble_eq_true rfl) rfl (c_X6_clauseCount h_22 h_23) ?_
          refine zx_st (st1 := [zI ((R.2.2.2.1 pr_j).2.2.2.2.length : Int), zI ((k + 1 : Nat) : Int)]) rfl ?_
          refine zx_icmp_lt (tgt := 156) dX4_goBack_145 (by decide) (fun h145 => ?_) (fun h145 => absurd (by omega) h145)
          refine zx_aload_n (i := 0) dX4_goBack_156 rfl rfl ?_
          have h_24 : w_18.1 mc = some (4, 0, [zR t, zR fa, zR ca, zR ta, zR rp, zI (fr.length : Int), zP (oA Fs cur), zI (pl0 : Int), zP (oA Fs (some dd)), zI (if false = true then 1 else 0), zI 0, zI 0]) := by
            rw [hw_19]; exact zput_tg hca5 hmc5 (by simp)
          refine zx_getfield dX4_goBack_157 zf_X4_15 h_24 rfl ?_
          refine zx_bipush (v := 114) dX4_goBack_160 (by decide +kernel) (z32_lit (by decide) (by decide)) ?_
          refine zx_aload (i := 4) dX4_goBack_162 rfl ?_
          refine zx_getfield dX4_goBack_164 zf_X4_156 h_22 rfl ?_
          refine zx_aload_n (i := 3) dX4_goBack_167 rfl rfl ?_
          have h_25 : w_18.1 yf = some (2, 0, [zI (f : Int), zR va_j, zR md_j, zP (oA Fs (mmf fr f).2.1.1), zI ((mmf fr f).2.1.2.1 : Int), zI ((mmf fr f).2.1.2.2 : Int), zP ((cls f).bind (pgCl R)), zI (if (mmf fr f).2.2.1 = true then 1 else 0), zP (oA Fs (mmf fr f).2.2.2.1), zI ((mmf fr f).2.2.2.2 : Int)]) := by
            rw [hw_19]; exact zput_tg hca5 hfy_j (by simp)
          refine zx_getfield dX4_goBack_168 zf_X4_159 h_25 rfl ?_
          have hfaL6 : zFa [ca] w5 w_18 := (zFa_put zFa_re (by simp) hw_19)
          have hFrr6 := fm_keep hFr5 hfaL6 (zLc hca5 (by simp) zLn)
          have hmcF6 : mcF rp w5 w_18 := mcF_fa hfaL6 (zLc hca5 (by simp [mcP]) zLn)
          have h_26 : w_18.1 fa = some (166, mc, zLs cap5 Fs) := by
            rw [hw_19]; exact zput_tg hca5 hfa5 (by simp)
          have h_27 : w_18.1 ta = some (139, mc, tTb 2 ct5 ((T.drop (T.length - t0)).reverse.map (fun e => [(e.1 : Int), (e.2 : Int)]))) := by
            rw [hw_19]; exact zput_tg hca5 hta5 (by simp)
          have h_28 : w_18.1 t = some (10, 0, [zI ty, zR tc, zR tn, zR th, zR tz]) := by
            rw [hw_19]; exact zput_tg hca5 ht05 (by simp)
          have h_29 : w_18.1 tc = some (130, t, tTb 3 30 C) := by
            rw [hw_19]; exact zput_tg hca5 htc5 (by simp)
          have h_30 : w_18.1 tn = some (131, t, tTb 4 800 N5) := by
            rw [hw_19]; exact zput_tg hca5 htn5 (by simp)
          have h_31 : w_18.1 th = some (132, t, tTb 1 64 H5) := by
            rw [hw_19]; exact zput_tg hca5 hth5 (by simp)
          have h_32 : w_18.1 tz = some (120, t, Sz5.map zJ) := by
            rw [hw_19]; exact zput_tg hca5 htz5 (by simp)
          have h_33 : w_18.1 rp = some (8, 0, [zP mo, zR ri, zR ra, zR rn, zI (ns : Int), zI (nc0 : Int), zI (dp0 : Int), zI 101, zI bk, zI bc]) := by
            rw [hw_19]; exact zput_tg hca5 hrp5 (by simp)
          have h_34 : w_18.1 ri = some (135, rp, tTb 1 3 I) := by
            rw [hw_19]; exact zput_tg hca5 hri5 (by simp)
          have h_35 : w_18.1 ra = some (136, rp, tTb 3 150 A5) := by
            rw [hw_19]; exact zput_tg hca5 hra5 (by simp)
          have h_36 : w_18.1 rn = some (137, rp, tTb 2 160 (nt.map (fun e => [(e.1 : Int), (e.2 : Int)]))) := by
            rw [hw_19]; exact zput_tg hca5 hrn5 (by simp)
          have hM6 : mcW w_18 b1 b2 ((mc, fa, ca, ta), (t, tc, tn, th, tz), (rp, ri, ra, rn), (ty, C), (mo, I, bk, bc)) (((cap5, Fs), fm5), (cc5, ((ch1.reverse.map (fun e => [(e.1 : Int), (e.2.1 : Int), (e.2.2 : Int)])) ++ [[(f : Int), ((k + 1 : Nat) : Int), (t0 : Int)]])), (ct5, ((T.drop (T.length - t0)).reverse.map (fun e => [(e.1 : Int), (e.2 : Int)]))), ((fr.length : Int), (oA Fs cur), (pl0 : Int), (oA Fs (some dd))), ((if false = true then 1 else 0), 0, 0), (N5, H5, Sz5), (A5, (nt.map (fun e => [(e.1 : Int), (e.2 : Int)])), (ns : Int), (nc0 : Int), (dp0 : Int), 101)) := ⟨h_24, h_26, ⟨h_21, okC6⟩, ⟨h_27, okT5⟩, hFrr6, ⟨h_28, ⟨h_29, okTC5⟩, ⟨h_30, okN5⟩, ⟨h_31, okH5⟩, h_32, hSz5⟩, ⟨h_33, ⟨h_34, okI5⟩, ⟨h_35, okA5⟩, ⟨h_36, okNt5⟩⟩, hcap5, ⟨by omega, by omega, by omega, by omega⟩, by omega, by omega⟩
          have eC6 : ((ch1.reverse.map (fun e => [(e.1 : Int), (e.2.1 : Int), (e.2.2 : Int)])) ++ [[(f : Int), ((k + 1 : Nat) : Int), (t0 : Int)]]) = (((f, k + 1, t0) :: ch1).reverse.map (fun e => [(e.1 : Int), (e.2.1 : Int), (e.2.2 : Int)])) := by simp
          rw [eC6] at hM6
          have hW6 : msW w_18 b1 b2 ((mc, fa, ca, ta), (t, tc, tn, th, tz), (rp, ri, ra, rn), (ty, C), (mo, I, bk, bc)) R Fs (0, 0, 101) ((fr, cls, (mmUn V T t0), ((f, k + 1, t0) :: ch1), (T.drop (T.length - t0))), (cur, pl0, (some dd), false), tm, (na, ns, nc0, dp0), nt) := ⟨cap5, fm5, cc5, _, ct5, ((T.drop (T.length - t0)).reverse.map (fun e => [(e.1 : Int), (e.2 : Int)])), (fr.length : Int), (oA Fs cur), (pl0 : Int), (oA Fs (some dd)), (if false = true then 1 else 0), N5, H5, Sz5, A5, (nt.map (fun e => [(e.1 : Int), (e.2 : Int)])), (ns : Int), (nc0 : Int), (dp0 : Int), hM6, ⟨⟨(by first | rfl | omega | simp), hfl5, hJ5, hcn5, hFS5⟩, ⟨rfl, hcuL5, (by first | rfl | omega), rfl, hdeL5, rfl⟩, ⟨rfl, (fun e he => by
            rcases List.mem_cons.mp he with q | q
            · rw [q]; exact hff
            · exact hchL5 e (List.mem_cons_of_mem _ q))⟩, ⟨rfl, hTL5⟩, htm5, ⟨hA5, (by first | rfl | omega), (by first | rfl | omega), (by first | rfl | omega), rfl⟩⟩⟩
          refine zx_ivN (b := rp) (As := [zI 114, zI ((mmf fr f).1.1 : Int), zI ((mmf fr f).2.1.2.2 : Int)]) (st := []) dX4_goBack_171 zc_X4_162 h_33 rfl rfl rfl (Nat.le_of_ble_eq_true rfl) rfl (s_note hW6 (sg := 114) (p := (mmf fr f).1.1) (dd := (mmf fr f).2.1.2.2) (by decide) (by omega) (by omega)) (fun w7 hq => ?_)
          obtain ⟨hW7, hF7⟩ := hq
          obtain ⟨cap7, fm7, cc7, CH7, ct7, TR7, us7, cu7, pl7, de7, fl7, N7, H7, Sz7, A7, Nt7, sc7, nc7, dp7, hM7, hS7⟩ := id hW7
          obtain ⟨⟨hus7, hfl7, hJ7, hcn7, hFS7⟩, ⟨hcu7, hcuL7, hpl7, hde7, hdeL7, hfb7⟩, ⟨hCH7, hchL7⟩, ⟨hTR7, hTL7⟩, htm7, ⟨hA7, hsc7, hnc7, hdp7, hNt7⟩⟩ := id hS7
          subst hus7 hcu7 hpl7 hde7 hfb7 hCH7 hTR7 hsc7 hnc7 hdp7 hNt7
          obtain ⟨hmc7, hfa7, ⟨hca7, okC7⟩, ⟨hta7, okT7⟩, hFr7, ⟨ht07, ⟨htc7, okTC7⟩, ⟨htn7, okN7⟩, ⟨hth7, okH7⟩, htz7, hSz7⟩, ⟨hrp7, ⟨hri7, okI7⟩, ⟨hra7, okA7⟩, ⟨hrn7, okNt7⟩⟩, hcap7, hcct7, hrm17, hrm27⟩ := id hM7
          refine zx_aload_n (i := 0) dX4_goBack_174 rfl rfl ?_
          refine zx_aload_n (i := 3) dX4_goBack_175 rfl rfl ?_
          refine zx_pc (pc1 := 176) rfl ?_
          refine zx_aload (i := 4) dX4_goBack_176 rfl ?_
          refine zx_iload (i := 5) dX4_goBack_178 rfl ?_
          have h_37 : w7.1 pr_j = some (6, 0, [zI ((mmf fr f).1.1 : Int), zR (R.2.2.2.1 pr_j).1.2.1, zR (R.2.2.2.1 pr_j).1.2.2.1, zR (R.2.2.2.1 pr_j).1.2.2.2.1, zR (R.2.2.2.1 pr_j).1.2.2.2.2]) := hF7 _ _ h_22 (Or.inl (by simp))
          have h_38 : w7.1 ((R.2.2.2.1 pr_j).1.2.2.2.1) = some (164, pr_j, zLs (R.2.2.2.1 pr_j).2.2.2.1 ((R.2.2.2.1 pr_j).2.2.2.2)) := hF7 _ _ h_23 (Or.inl (by simp))
          refine zx_iv (b := pr_j) (As := [zI (k : Int)]) (st := [zR yf, zR mc]) (v := (some (zR a))) (w1 := w7) dX4_goBack_180 zc_X4_199 h_37 rfl rfl rfl (Nat.le_of_ble_eq_true rfl) rfl (by have q := c_X6_clauseAt (G := G) (d := d + 1) h_37 h_38 (fun y hy => ⟨_, _, hF7 _ _ (hmcF6 _ _ ((hP5.2.2.2.2.2.2 y (hsc2 y hy)).1.1) (Or.inl (by simp))) (Or.inl (by simp))⟩) (k : Int); rw [hla] at q; exact q) ?_
          refine zx_st (st1 := [zR a, zR yf, zR mc]) rfl ?_
          refine zx_ivN (b := mc) (As := [zR yf, zR a]) (st := []) dX4_goBack_183 zc_X4_195 hmc7 rfl rfl rfl (Nat.le_of_ble_eq_true rfl) rfl (c_X4_tryClause hM7 hyf rfl) (fun w8 hq => ?_)
          obtain ⟨hM8, hF8⟩ := hq
          refine zx_return dX4_goBack_186 rfl ?_
          have efin : mmBack (pgC R) ((fr, cls, V, ((f, k, t0) :: ch1), T), (cur, pl0, (some dd), flb), tm, (na, ns, nc0, dp0), nt) = .inl ((fr, (mmUp cls f (R.2.2.2.2.2.1 a).1.1.toNat), (mmUn V T t0), ((f, k + 1, t0) :: ch1), (T.drop (T.length - t0))), ((some f), 0, (some dd), false), tm, (na, ns, nc0, dp0), (mmNote nt 114 (mmf fr f).1.1 (mmf fr f).2.1.2.2)) := by
            show (if _ then _ else _) = _
            rw [if_neg hdq0]
            show Sum.inl _ = Sum.inl _
            rw [if_pos hk1]
            rw [hgd]
          rw [efin]
          exact ⟨rfl, ⟨_, _, _, _, _, _, _, _, _, _, _, _, _, _, _, _, _, _, _, hM8, ⟨⟨(by first | rfl | omega | simp), hfl7, hJ7, (fun q hq => by unfold mmUp; rw [if_neg (by omega)]; exact hcn7 q hq), (fsR_cls hFS7 hJ7 hyf rfl hpa)⟩, ⟨(oA_some hyf).symm, (fun i h => by cases h; exact hff), (by first | rfl | omega), rfl, hdeL7, rfl⟩, ⟨rfl, hchL7⟩, ⟨rfl, hTL7⟩, htm7, ⟨hA7, (by first | rfl | omega), (by first | rfl | omega), (by first | rfl | omega), rfl⟩⟩⟩, (mcF_tr hmcF3 (mcF_tr hF5 (mcF_tr hmcF6 (mcF_tr hF7 hF8))))⟩
        · skip
          refine zx_aload_n (i := 0) dX4_goBack_0 rfl rfl ?_
          refine zx_iconst (v := 0) dX4_goBack_1 rfl (z32_lit (by decide) (by decide)) ?_
          obtain ⟨w_1, hw_2⟩ : ∃ ww, ww = zput w mc (4, 0, [zR t, zR fa, zR ca, zR ta, zR rp, zI (fr.length : Int), zP (oA Fs cur), zI (pl0 : Int), zR yd, zI 0, zI 0, zI 0]) := ⟨_, rfl⟩
          refine zx_put (w1 := w_1) dX4_goBack_2 zf_X4_57 hmc (Nat.le_of_ble_eq_true rfl) (zFt_bool (by first | exact Or.inl rfl | exact Or.inr rfl | exact zB_or | assumption)) (fun h => by cases h) hw_2.symm ?_
          have q_3 : w_1.2.1 = w.2.1 ∧ w_1.2.2 = w.2.2 := by rw [hw_2]; exact ⟨rfl, rfl⟩
          have h_4 : w_1.1 mc = some (4, 0, [zR t, zR fa, zR ca, zR ta, zR rp, zI (fr.length : Int), zP (oA Fs cur), zI (pl0 : Int), zR yd, zI 0, zI 0, zI 0]) := by rw [hw_2]; exact zput_at
          refine zx_aload_n (i := 0) dX4_goBack_5 rfl rfl ?_
          refine zx_getfield dX4_goBack_6 zf_X4_113 h_4 rfl ?_
          refine zx_astore_n (i := 1) dX4_goBack_9 rfl (by decide) rfl ?_
          refine zx_L (L1 := [some (zR mc), some (zR yd), none, none, none, none]) rfl ?_
          refine zx_aload_n (i := 1) dX4_goBack_10 rfl rfl ?_
          refine zx_ifnull (tgt := 55) dX4_goBack_11 (by decide) (fun h => by cases h) (fun _ => ?_)
          refine zx_aload_n (i := 0) dX4_goBack_14 rfl rfl ?_
          refine zx_getfield dX4_goBack_15 zf_X4_31 h_4 rfl ?_
          have h_5 : w_1.1 ca = some (138, mc, tTb 3 cc ((ch1.reverse.map (fun e => [(e.1 : Int), (e.2.1 : Int), (e.2.2 : Int)])) ++ [[(f : Int), (k : Int), (t0 : Int)]])) := by
            rw [hw_2]; exact zput_tg hmc hca (by simp)
          refine zx_iv (b := ca) (As := []) (st := []) (v := (some (zI ((ch1.length + 1 : Nat) : Int)))) (w1 := w_1) dX4_goBack_18 zc_X4_186 h_5 (z_cls9 (by decide)) rfl rfl (Nat.le_of_ble_eq_true rfl) rfl (by have q := c_X9_count (G := G) (d := d + 4) h_5 (by decide) okC; rw [hCl] at q; exact q) ?_
          refine zx_st (st1 := [zI ((ch1.length + 1 : Nat) : Int)]) rfl ?_
          refine zx_pc (pc1 := 21) rfl ?_
          refine zx_aload_n (i := 1) dX4_goBack_21 rfl rfl ?_
          have h_6 : w_1.1 yd = some (2, 0, [zI (dd : Int), zR va_d, zR md_d, zP (oA Fs (mmf fr dd).2.1.1), zI ((mmf fr dd).2.1.2.1 : Int), zI ((mmf fr dd).2.1.2.2 : Int), zP ((cls dd).bind (pgCl R)), zI (if (mmf fr dd).2.2.1 = true then 1 else 0), zP (oA Fs (mmf fr dd).2.2.2.1), zI ((mmf fr dd).2.2.2.2 : Int)]) := by
            rw [hw_2]; exact zput_tg hmc hfy_d (by simp)
          refine zx_getfield dX4_goBack_22 zf_X4_214 h_6 rfl ?_
          refine zx_icmp_gt (tgt := 55) dX4_goBack_25 (by decide) (fun h25 => ?_) (fun h25 => absurd (by omega) h25)
          refine zx_aload_n (i := 0) dX4_goBack_55 rfl rfl ?_
          refine zx_getfield dX4_goBack_56 zf_X4_31 h_4 rfl ?_
          refine zx_iv (b := ca) (As := []) (st := []) (v := (some (zI ((ch1.length + 1 : Nat) : Int)))) (w1 := w_1) dX4_goBack_59 zc_X4_186 h_5 (z_cls9 (by decide)) rfl rfl (Nat.le_of_ble_eq_true rfl) rfl (by have q := c_X9_count (G := G) (d := d + 4) h_5 (by decide) okC; rw [hCl] at q; exact q) ?_
          refine zx_st (st1 := [zI ((ch1.length + 1 : Nat) : Int)]) rfl ?_
          refine zx_iconst (v := 1) dX4_goBack_62 rfl (z32_lit (by decide) (by decide)) ?_
          refine zx_isub (v := (ch1.length : Int)) dX4_goBack_63 (zw_eq (by omega) (by omega) (by omega)) ?_
          refine zx_istore_n (i := 2) dX4_goBack_64 rfl (by decide) rfl ?_
          refine zx_L (L1 := [some (zR mc), some (zR yd), some (zI (ch1.length : Int)), none, none, none]) rfl ?_
          refine zx_aload_n (i := 0) dX4_goBack_65 rfl rfl ?_
          refine zx_aload_n (i := 0) dX4_goBack_66 rfl rfl ?_
          refine zx_getfield dX4_goBack_67 zf_X4_31 h_4 rfl ?_
          refine zx_pc (pc1 := 70) rfl ?_
          refine zx_iload_n (i := 2) dX4_goBack_70 rfl rfl ?_
          refine zx_iconst (v := 0) dX4_goBack_71 rfl (z32_lit (by decide) (by decide)) ?_
          refine zx_iv (b := ca) (As := [zI (ch1.length : Int), zI 0]) (st := [zR mc]) (v := (some (zI (f : Int)))) (w1 := w_1) dX4_goBack_72 zc_X4_226 h_5 (z_cls9 (by decide)) rfl rfl (Nat.le_of_ble_eq_true rfl) rfl (by have q := c_X9_get (G := G) (d := d + 4) h_5 (by decide) okC (ch1.length : Int) 0; rw [hgf] at q; exact q) ?_
          refine zx_st (st1 := [zI (f : Int), zR mc]) rfl ?_
          have hfaL3 : zFa [mc] w w_1 := (zFa_put zFa_re (by simp) hw_2)
          have hFrr3 := fm_keep hFr hfaL3 (zLc hmc (by simp) zLn)
          have hmcF3 : mcF rp w w_1 := mcF_fa hfaL3 (zLc hmc (by simp [mcP]) zLn)
          have h_7 : w_1.1 fa = some (166, mc, zLs cap Fs) := by
            rw [hw_2]; exact zput_tg hmc hfa (by simp)
          have h_8 : w_1.1 ta = some (139, mc, tTb 2 ct (T.reverse.map (fun e => [(e.1 : Int), (e.2 : Int)]))) := by
            rw [hw_2]; exact zput_tg hmc hta (by simp)
          have h_9 : w_1.1 t = some (10, 0, [zI ty, zR tc, zR tn, zR th, zR tz]) := by
            rw [hw_2]; exact zput_tg hmc ht0 (by simp)
          have h_10 : w_1.1 tc = some (130, t, tTb 3 30 C) := by
            rw [hw_2]; exact zput_tg hmc htc (by simp)
          have h_11 : w_1.1 tn = some (131, t, tTb 4 800 N) := by
            rw [hw_2]; exact zput_tg hmc htn (by simp)
          have h_12 : w_1.1 th = some (132, t, tTb 1 64 H) := by
            rw [hw_2]; exact zput_tg hmc hth (by simp)
          have h_13 : w_1.1 tz = some (120, t, Sz.map zJ) := by
            rw [hw_2]; exact zput_tg hmc htz (by simp)
          have h_14 : w_1.1 rp = some (8, 0, [zP mo, zR ri, zR ra, zR rn, zI (ns : Int), zI (nc0 : Int), zI (dp0 : Int), zI 101, zI bk, zI bc]) := by
            rw [hw_2]; exact zput_tg hmc hrp (by simp)
          have h_15 : w_1.1 ri = some (135, rp, tTb 1 3 I) := by
            rw [hw_2]; exact zput_tg hmc hri (by simp)
          have h_16 : w_1.1 ra = some (136, rp, tTb 3 150 A) := by
            rw [hw_2]; exact zput_tg hmc hra (by simp)
          have h_17 : w_1.1 rn = some (137, rp, tTb 2 160 (nt.map (fun e => [(e.1 : Int), (e.2 : Int)]))) := by
            rw [hw_2]; exact zput_tg hmc hrn (by simp)
          have hM3 : mcW w_1 b1 b2 ((mc, fa, ca, ta), (t, tc, tn, th, tz), (rp, ri, ra, rn), (ty, C), (mo, I, bk, bc)) (((cap, Fs), fm), (cc, ((ch1.reverse.map (fun e => [(e.1 : Int), (e.2.1 : Int), (e.2.2 : Int)])) ++ [[(f : Int), (k : Int), (t0 : Int)]])), (ct, (T.reverse.map (fun e => [(e.1 : Int), (e.2 : Int)]))), ((fr.length : Int), (oA Fs cur), (pl0 : Int), (some yd)), (0, 0, 0), (N, H, Sz), (A, (nt.map (fun e => [(e.1 : Int), (e.2 : Int)])), (ns : Int), (nc0 : Int), (dp0 : Int), 101)) := ⟨h_4, h_7, ⟨h_5, okC⟩, ⟨h_8, okT⟩, hFrr3, ⟨h_9, ⟨h_10, okTC⟩, ⟨h_11, okN⟩, ⟨h_12, okH⟩, h_13, hSz⟩, ⟨h_14, ⟨h_15, okI⟩, ⟨h_16, okA⟩, ⟨h_17, okNt⟩⟩, hcap, ⟨by omega, by omega, by omega, by omega⟩, by omega, by omega⟩
          refine zx_iv (b := mc) (As := [zI (f : Int)]) (st := []) (v := (some (zR yf))) (w1 := w_1) dX4_goBack_75 zc_X4_228 h_4 rfl rfl rfl (Nat.le_of_ble_eq_true rfl) rfl (by have q := c_X4_frameAt (G := G) (d := d + 1) hM3 (f : Int); rw [hlaf] at q; exact q) ?_
          refine zx_st (st1 := [zR yf]) rfl ?_
          refine zx_astore_n (i := 3) dX4_goBack_78 rfl (by decide) rfl ?_
          refine zx_L (L1 := [some (zR mc), some (zR yd), some (zI (ch1.length : Int)), some (zR yf), none, none]) rfl ?_
          refine zx_aload_n (i := 3) dX4_goBack_79 rfl rfl ?_
          refine zx_ifnonnull (tgt := 90) dX4_goBack_80 (by decide) (fun _ => ?_) (fun h => by cases h)
          refine zx_aload_n (i := 0) dX4_goBack_90 rfl rfl ?_
          refine zx_aload_n (i := 0) dX4_goBack_91 rfl rfl ?_
          refine zx_getfield dX4_goBack_92 zf_X4_31 h_4 rfl ?_
          refine zx_iload_n (i := 2) dX4_goBack_95 rfl rfl ?_
          refine zx_iconst (v := 2) dX4_goBack_96 rfl (z32_lit (by decide) (by decide)) ?_
          refine zx_pc (pc1 := 97) rfl ?_
          refine zx_iv (b := ca) (As := [zI (ch1.length : Int), zI 2]) (st := [zR mc]) (v := (some (zI (t0 : Int)))) (w1 := w_1) dX4_goBack_97 zc_X4_226 h_5 (z_cls9 (by decide)) rfl rfl (Nat.le_of_ble_eq_true rfl) rfl (by have q := c_X9_get (G := G) (d := d + 4) h_5 (by decide) okC (ch1.length : Int) 2; rw [hgt] at q; exact q) ?_
          refine zx_st (st1 := [zI (t0 : Int), zR mc]) rfl ?_
          refine zx_ivN (b := mc) (As := [zI (t0 : Int)]) (st := []) dX4_goBack_100 zc_X4_236 h_4 rfl rfl rfl (Nat.le_of_ble_eq_true rfl) rfl (c_X4_undo hM3 t0 (by omega) (by omega) (un_row hfl hTL)) (fun w5 hq => ?_)
          obtain ⟨hM5r, hF5⟩ := hq
          rw [tr_cut (by omega), ← eCH, ← oA_some hyd] at hM5r
          have hW5 : msW w5 b1 b2 ((mc, fa, ca, ta), (t, tc, tn, th, tz), (rp, ri, ra, rn), (ty, C), (mo, I, bk, bc)) R Fs (0, 0, 101) ((fr, cls, (mmUn V T t0), ((f, k, t0) :: ch1), (T.drop (T.length - t0))), (cur, pl0, (some dd), false), tm, (na, ns, nc0, dp0), nt) := ⟨cap, (unN Fs (T.reverse.map (fun e => [(e.1 : Int), (e.2 : Int)])) t0 ((T.reverse.map (fun e => [(e.1 : Int), (e.2 : Int)])).length - t0) fm), cc, _, ct, _, (fr.length : Int), (oA Fs cur), (pl0 : Int), _, 0, N, H, Sz, A, (nt.map (fun e => [(e.1 : Int), (e.2 : Int)])), (ns : Int), (nc0 : Int), (dp0 : Int), hM5r, ⟨⟨(by first | rfl | omega | simp), hfl, hJ, hcn, (un_all hJ hfl hTL (by omega) hFS)⟩, ⟨rfl, hcuL, (by first | rfl | omega), rfl, hdeL, rfl⟩, ⟨rfl, hchL⟩, ⟨rfl, (fun e he => hTL e (List.mem_of_mem_drop he))⟩, htm, ⟨hA, (by first | rfl | omega), (by first | rfl | omega), (by first | rfl | omega), rfl⟩⟩⟩
          obtain ⟨cap5, fm5, cc5, CH5, ct5, TR5, us5, cu5, pl5, de5, fl5, N5, H5, Sz5, A5, Nt5, sc5, nc5, dp5, hM5, hS5⟩ := id hW5
          obtain ⟨⟨hus5, hfl5, hJ5, hcn5, hFS5⟩, ⟨hcu5, hcuL5, hpl5, hde5, hdeL5, hfb5⟩, ⟨hCH5, hchL5⟩, ⟨hTR5, hTL5⟩, htm5, ⟨hA5, hsc5, hnc5, hdp5, hNt5⟩⟩ := id hS5
          subst hus5 hcu5 hpl5 hde5 hfb5 hCH5 hTR5 hsc5 hnc5 hdp5 hNt5
          obtain ⟨hmc5, hfa5, ⟨hca5, okC5⟩, ⟨hta5, okT5⟩, hFr5, ⟨ht05, ⟨htc5, okTC5⟩, ⟨htn5, okN5⟩, ⟨hth5, okH5⟩, htz5, hSz5⟩, ⟨hrp5, ⟨hri5, okI5⟩, ⟨hra5, okA5⟩, ⟨hrn5, okNt5⟩⟩, hcap5, hcct5, hrm15, hrm25⟩ := id hM5
          obtain ⟨⟨⟨va_j, md_j⟩, ⟨fca_j, fbt_j, fdp_j⟩, ⟨fcl_j, fdn_j, fod_j, fcb_j⟩, xs_j⟩, efm_j⟩ : ∃ r, fm5 yf = r := ⟨_, rfl⟩
          obtain ⟨hfy_j, hva_j, hx_j⟩ := hFr5 f yf hyf
          rw [efm_j] at hfy_j hva_j hx_j
          have hx_j : xs_j.length = 8 := hx_j
          obtain ⟨hmd_j, ⟨hcb1_j, hcb2_j⟩, ⟨hcb3_j, hcb4_j, hcb5_j⟩, ⟨-, hxv_j⟩, hdq_j⟩ := hFS5 f yf hff hyf
          rw [efm_j] at hmd_j hcb1_j hcb3_j hxv_j
          simp only [Prod.mk.injEq] at hcb1_j hcb3_j
          obtain ⟨ea1_j, ea2_j, ea3_j⟩ := hcb1_j
          obtain ⟨eb1_j, eb2_j, eb3_j, eb4_j⟩ := hcb3_j
          subst ea1_j ea2_j ea3_j eb1_j eb2_j eb3_j eb4_j
          have hP5 : pgW w5 pg R := pgW_TM hP (mcF_fr (mcF_tr hmcF3 hF5))
          have hEC5 := eCH
          rw [eCH] at hM5 hca5 okC5
          obtain ⟨pr_j, ins_j, pm_j, lo_j, gd_j, cf_j, cr_j, sw_j, emr_j, hmo_j, hpp_j, hpn_j, hpm_j, hm2_j, hin_j, hsw_j, hsr_j, hmm_j⟩ := md_get hK hP5 hmd_j
          obtain ⟨⟨hpy, ⟨htt, okTT⟩, hml, hcl0⟩, hsm, hsc2, -⟩ := hP5.2.2.2.2.1 pr_j hpm_j
          rw [hpn_j] at hpy
          have hp5 : (mmf fr f).1.1 < 5 := (hK.1 _ _ _ hmd_j).2.2.2.2
          have hclc : (pgC R).1.1.1 (mmf fr f).1.1 = (R.2.2.2.1 pr_j).2.2.2.2.map (fun a => (R.2.2.2.2.2.1 a).1.1.toNat) := rd_cs hpp_j
          have hcll : ((pgC R).1.1.1 (mmf fr f).1.1).length = (R.2.2.2.1 pr_j).2.2.2.2.length := by rw [hclc, List.length_map]
          obtain ⟨a, hka⟩ : ∃ a, (R.2.2.2.1 pr_j).2.2.2.2[k]? = some a := ⟨_, List.getElem?_eq_getElem (by omega)⟩
          have hla : lAt (R.2.2.2.1 pr_j).2.2.2.2 (k : Int) = some a := lAt_in (by omega) (by rw [Int.toNat_natCast]; exact hka)
          have hpa := rd_cl hK (hsc2 a (List.mem_of_getElem? hka))
          have hgd : ((pgC R).1.1.1 (mmf fr f).1.1).getD k 0 = (R.2.2.2.2.2.1 a).1.1.toNat := by rw [hclc, List.getD_eq_getElem?_getD, List.getElem?_map, hka]; rfl
          have hk12 := (hK.2.2.1 pr_j hpm_j).1
          have helC : ∀ a ∈ (R.2.2.2.1 pr_j).2.2.2.2, ∃ x y, w5.1 a = some ((1, x, y) : zO) := fun a ha => ⟨_, _, (hP5.2.2.2.2.2.2 a (hsc2 a ha)).1.1⟩
          refine zx_aload_n (i := 3) dX4_goBack_103 rfl rfl ?_
          refine zx_getfield dX4_goBack_104 zf_X4_73 hfy_j rfl ?_
          refine zx_getfield dX4_goBack_107 zf_X4_152 hmo_j rfl ?_
          refine zx_astore (i := 4) dX4_goBack_110 (by decide) rfl ?_
          refine zx_L (L1 := [some (zR mc), some (zR yd), some (zI (ch1.length : Int)), some (zR yf), some (zR pr_j), none]) rfl ?_
          refine zx_aload_n (i := 0) dX4_goBack_112 rfl rfl ?_
          refine zx_getfield dX4_goBack_113 zf_X4_31 hmc5 rfl ?_
          refine zx_iload_n (i := 2) dX4_goBack_116 rfl rfl ?_
          refine zx_iconst (v := 1) dX4_goBack_117 rfl (z32_lit (by decide) (by decide)) ?_
          refine zx_iv (b := ca) (As := [zI (ch1.length : Int), zI 1]) (st := []) (v := (some (zI (k : Int)))) (w1 := w5) dX4_goBack_118 zc_X4_226 hca5 (z_cls9 (by decide)) rfl rfl (Nat.le_of_ble_eq_true rfl) rfl (by have q := c_X9_get (G := G) (d := d + 4) hca5 (by decide) okC5 (ch1.length : Int) 1; rw [hgk] at q; exact q) ?_
          refine zx_st (st1 := [zI (k : Int)]) rfl ?_
          refine zx_istore (i := 5) dX4_goBack_121 (by decide) rfl ?_
          refine zx_L (L1 := [some (zR mc), some (zR yd), some (zI (ch1.length : Int)), some (zR yf), some (zR pr_j), some (zI (k : Int))]) rfl ?_
          refine zx_pc (pc1 := 123) rfl ?_
          refine zx_aload_n (i := 0) dX4_goBack_123 rfl rfl ?_
          refine zx_getfield dX4_goBack_124 zf_X4_31 hmc5 rfl ?_
          refine zx_iload_n (i := 2) dX4_goBack_127 rfl rfl ?_
          refine zx_iconst (v := 1) dX4_goBack_128 rfl (z32_lit (by decide) (by decide)) ?_
          refine zx_iload (i := 5) dX4_goBack_129 rfl ?_
          refine zx_iconst (v := 1) dX4_goBack_131 rfl (z32_lit (by decide) (by decide)) ?_
          refine zx_iadd (v := ((k + 1 : Nat) : Int)) dX4_goBack_132 (zw_eq (by omega) (by omega) (by omega)) ?_
          obtain ⟨w_18, hw_19⟩ : ∃ ww, ww = zput w5 ca (138, mc, tTb 3 cc5 ((ch1.reverse.map (fun e => [(e.1 : Int), (e.2.1 : Int), (e.2.2 : Int)])) ++ [[(f : Int), ((k + 1 : Nat) : Int), (t0 : Int)]])) := ⟨_, rfl⟩
          have q_20 : w_18.2.1 = w5.2.1 ∧ w_18.2.2 = w5.2.2 := by rw [hw_19]; exact ⟨rfl, rfl⟩
          have h_21 : w_18.1 ca = some (138, mc, tTb 3 cc5 ((ch1.reverse.map (fun e => [(e.1 : Int), (e.2.1 : Int), (e.2.2 : Int)])) ++ [[(f : Int), ((k + 1 : Nat) : Int), (t0 : Int)]])) := by rw [hw_19]; exact zput_at
          refine zx_iv (b := ca) (As := [zI (ch1.length : Int), zI 1, zI ((k + 1 : Nat) : Int)]) (st := []) (v := none) (w1 := w_18) dX4_goBack_133 zc_X4_239 hca5 (z_cls9 (by decide)) rfl rfl (Nat.le_of_ble_eq_true rfl) rfl (by rw [hw_19]; exact (by have q := c_X9_set (G := G) (d := d + 4) hca5 (by decide) okC5 (ch1.length : Int) 1 ((k + 1 : Nat) : Int); rw [hts] at q; exact q)) ?_
          have okC6 : tOk 3 ((ch1.reverse.map (fun e => [(e.1 : Int), (e.2.1 : Int), (e.2.2 : Int)])) ++ [[(f : Int), ((k + 1 : Nat) : Int), (t0 : Int)]]) := by have q := tOk_ts (i := (ch1.length : Int)) (j := 1) (v := ((k + 1 : Nat) : Int)) okC5; rw [hts] at q; exact q
          refine zx_st (st1 := []) rfl ?_
          refine zx_iload (i := 5) dX4_goBack_136 rfl ?_
          refine zx_iconst (v := 1) dX4_goBack_138 rfl (z32_lit (by decide) (by decide)) ?_
          refine zx_iadd (v := ((k + 1 : Nat) : Int)) dX4_goBack_139 (zw_eq (by omega) (by omega) (by omega)) ?_
          refine zx_aload (i := 4) dX4_goBack_140 rfl ?_
          refine zx_pc (pc1 := 142) rfl ?_
          have h_22 : w_18.1 pr_j = some (6, 0, [zI ((mmf fr f).1.1 : Int), zR (R.2.2.2.1 pr_j).1.2.1, zR (R.2.2.2.1 pr_j).1.2.2.1, zR (R.2.2.2.1 pr_j).1.2.2.2.1, zR (R.2.2.2.1 pr_j).1.2.2.2.2]) := by
            rw [hw_19]; exact zput_tg hca5 hpy (by simp)
          have h_23 : w_18.1 ((R.2.2.2.1 pr_j).1.2.2.2.1) = some (164, pr_j, zLs (R.2.2.2.1 pr_j).2.2.2.1 ((R.2.2.2.1 pr_j).2.2.2.2)) := by
            rw [hw_19]; exact zput_tg hca5 hcl0 (by simp)
          refine zx_iv (b := pr_j) (As := []) (st := [zI ((k + 1 : Nat) : Int)]) (v := (some (zI ((R.2.2.2.1 pr_j).2.2.2.2.length : Int)))) (w1 := w_18) dX4_goBack_142 zc_X4_182 h_22 rfl rfl rfl (Nat.le_of_ble_eq_true rfl) rfl (c_X6_clauseCount h_22 h_23) ?_
          refine zx_st (st1 := [zI ((R.2.2.2.1 pr_j).2.2.2.2.length : Int), zI ((k + 1 : Nat) : Int)]) rfl ?_
          refine zx_icmp_lt (tgt := 156) dX4_goBack_145 (by decide) (fun h145 => absurd h145 (by omega)) (fun h145 => ?_)
          refine zx_aload_n (i := 0) dX4_goBack_148 rfl rfl ?_
          have h_24 : w_18.1 mc = some (4, 0, [zR t, zR fa, zR ca, zR ta, zR rp, zI (fr.length : Int), zP (oA Fs cur), zI (pl0 : Int), zP (oA Fs (some dd)), zI (if false = true then 1 else 0), zI 0, zI 0]) := by
            rw [hw_19]; exact zput_tg hca5 hmc5 (by simp)
          refine zx_getfield dX4_goBack_149 zf_X4_31 h_24 rfl ?_
          refine zx_iload_n (i := 2) dX4_goBack_152 rfl rfl ?_
          obtain ⟨w_25, hw_26⟩ : ∃ ww, ww = zput w_18 ca (138, mc, tTb 3 cc5 (ch1.reverse.map (fun e => [(e.1 : Int), (e.2.1 : Int), (e.2.2 : Int)]))) := ⟨_, rfl⟩
          have q_27 : w_25.2.1 = w_18.2.1 ∧ w_25.2.2 = w_18.2.2 := by rw [hw_26]; exact ⟨rfl, rfl⟩
          have h_28 : w_25.1 ca = some (138, mc, tTb 3 cc5 (ch1.reverse.map (fun e => [(e.1 : Int), (e.2.1 : Int), (e.2.2 : Int)]))) := by rw [hw_26]; exact zput_at
          refine zx_iv (b := ca) (As := [zI (ch1.length : Int)]) (st := []) (v := none) (w1 := w_25) dX4_goBack_153 zc_X4_107 h_21 (z_cls9 (by decide)) rfl rfl (Nat.le_of_ble_eq_true rfl) rfl (by rw [hw_26]; exact (by have q := c_X9_cut (G := G) (d := d + 4) h_21 (by decide) okC6 (ch1.length : Int); rw [tcut_last hRl] at q; exact q)) ?_
          have okC7 : tOk 3 (ch1.reverse.map (fun e => [(e.1 : Int), (e.2.1 : Int), (e.2.2 : Int)])) := by have q := tOk_cut (n := (ch1.length : Int)) okC6; rw [tcut_last hRl] at q; exact q
          refine zx_st (st1 := []) rfl ?_
          refine zx_aload_n (i := 0) dX4_goBack_156 rfl rfl ?_
          have h_29 : w_25.1 mc = some (4, 0, [zR t, zR fa, zR ca, zR ta, zR rp, zI (fr.length : Int), zP (oA Fs cur), zI (pl0 : Int), zP (oA Fs (some dd)), zI (if false = true then 1 else 0), zI 0, zI 0]) := by
            rw [hw_26]; exact zput_tg h_21 h_24 (by simp)
          refine zx_getfield dX4_goBack_157 zf_X4_15 h_29 rfl ?_
          refine zx_bipush (v := 114) dX4_goBack_160 (by decide +kernel) (z32_lit (by decide) (by decide)) ?_
          refine zx_aload (i := 4) dX4_goBack_162 rfl ?_
          have h_30 : w_25.1 pr_j = some (6, 0, [zI ((mmf fr f).1.1 : Int), zR (R.2.2.2.1 pr_j).1.2.1, zR (R.2.2.2.1 pr_j).1.2.2.1, zR (R.2.2.2.1 pr_j).1.2.2.2.1, zR (R.2.2.2.1 pr_j).1.2.2.2.2]) := by
            rw [hw_26]; exact zput_tg h_21 h_22 (by simp)
          refine zx_getfield dX4_goBack_164 zf_X4_156 h_30 rfl ?_
          refine zx_aload_n (i := 3) dX4_goBack_167 rfl rfl ?_
          refine zx_pc (pc1 := 168) rfl ?_
          have h_31 : w_18.1 yf = some (2, 0, [zI (f : Int), zR va_j, zR md_j, zP (oA Fs (mmf fr f).2.1.1), zI ((mmf fr f).2.1.2.1 : Int), zI ((mmf fr f).2.1.2.2 : Int), zP ((cls f).bind (pgCl R)), zI (if (mmf fr f).2.2.1 = true then 1 else 0), zP (oA Fs (mmf fr f).2.2.2.1), zI ((mmf fr f).2.2.2.2 : Int)]) := by
            rw [hw_19]; exact zput_tg hca5 hfy_j (by simp)
          have h_32 : w_25.1 yf = some (2, 0, [zI (f : Int), zR va_j, zR md_j, zP (oA Fs (mmf fr f).2.1.1), zI ((mmf fr f).2.1.2.1 : Int), zI ((mmf fr f).2.1.2.2 : Int), zP ((cls f).bind (pgCl R)), zI (if (mmf fr f).2.2.1 = true then 1 else 0), zP (oA Fs (mmf fr f).2.2.2.1), zI ((mmf fr f).2.2.2.2 : Int)]) := by
            rw [hw_26]; exact zput_tg h_21 h_31 (by simp)
          refine zx_getfield dX4_goBack_168 zf_X4_159 h_32 rfl ?_
          have hfaL6 : zFa [ca] w5 w_25 := (zFa_put (zFa_put zFa_re (by simp) hw_19) (by simp) hw_26)
          have hFrr6 := fm_keep hFr5 hfaL6 (zLc hca5 (by simp) zLn)
          have hmcF6 : mcF rp w5 w_25 := mcF_fa hfaL6 (zLc hca5 (by simp [mcP]) zLn)
          have h_33 : w_18.1 fa = some (166, mc, zLs cap5 Fs) := by
            rw [hw_19]; exact zput_tg hca5 hfa5 (by simp)
          have h_34 : w_25.1 fa = some (166, mc, zLs cap5 Fs) := by
            rw [hw_26]; exact zput_tg h_21 h_33 (by simp)
          have h_35 : w_18.1 ta = some (139, mc, tTb 2 ct5 ((T.drop (T.length - t0)).reverse.map (fun e => [(e.1 : Int), (e.2 : Int)]))) := by
            rw [hw_19]; exact zput_tg hca5 hta5 (by simp)
          have h_36 : w_25.1 ta = some (139, mc, tTb 2 ct5 ((T.drop (T.length - t0)).reverse.map (fun e => [(e.1 : Int), (e.2 : Int)]))) := by
            rw [hw_26]; exact zput_tg h_21 h_35 (by simp)
          have h_37 : w_18.1 t = some (10, 0, [zI ty, zR tc, zR tn, zR th, zR tz]) := by
            rw [hw_19]; exact zput_tg hca5 ht05 (by simp)
          have h_38 : w_25.1 t = some (10, 0, [zI ty, zR tc, zR tn, zR th, zR tz]) := by
            rw [hw_26]; exact zput_tg h_21 h_37 (by simp)
          have h_39 : w_18.1 tc = some (130, t, tTb 3 30 C) := by
            rw [hw_19]; exact zput_tg hca5 htc5 (by simp)
          have h_40 : w_25.1 tc = some (130, t, tTb 3 30 C) := by
            rw [hw_26]; exact zput_tg h_21 h_39 (by simp)
          have h_41 : w_18.1 tn = some (131, t, tTb 4 800 N5) := by
            rw [hw_19]; exact zput_tg hca5 htn5 (by simp)
          have h_42 : w_25.1 tn = some (131, t, tTb 4 800 N5) := by
            rw [hw_26]; exact zput_tg h_21 h_41 (by simp)
          have h_43 : w_18.1 th = some (132, t, tTb 1 64 H5) := by
            rw [hw_19]; exact zput_tg hca5 hth5 (by simp)
          have h_44 : w_25.1 th = some (132, t, tTb 1 64 H5) := by
            rw [hw_26]; exact zput_tg h_21 h_43 (by simp)
          have h_45 : w_18.1 tz = some (120, t, Sz5.map zJ) := by
            rw [hw_19]; exact zput_tg hca5 htz5 (by simp)
          have h_46 : w_25.1 tz = some (120, t, Sz5.map zJ) := by
            rw [hw_26]; exact zput_tg h_21 h_45 (by simp)
          have h_47 : w_18.1 rp = some (8, 0, [zP mo, zR ri, zR ra, zR rn, zI (ns : Int), zI (nc0 : Int), zI (dp0 : Int), zI 101, zI bk, zI bc]) := by
            rw [hw_19]; exact zput_tg hca5 hrp5 (by simp)
          have h_48 : w_25.1 rp = some (8, 0, [zP mo, zR ri, zR ra, zR rn, zI (ns : Int), zI (nc0 : Int), zI (dp0 : Int), zI 101, zI bk, zI bc]) := by
            rw [hw_26]; exact zput_tg h_21 h_47 (by simp)
          have h_49 : w_18.1 ri = some (135, rp, tTb 1 3 I) := by
            rw [hw_19]; exact zput_tg hca5 hri5 (by simp)
          have h_50 : w_25.1 ri = some (135, rp, tTb 1 3 I) := by
            rw [hw_26]; exact zput_tg h_21 h_49 (by simp)
          have h_51 : w_18.1 ra = some (136, rp, tTb 3 150 A5) := by
            rw [hw_19]; exact zput_tg hca5 hra5 (by simp)
          have h_52 : w_25.1 ra = some (136, rp, tTb 3 150 A5) := by
            rw [hw_26]; exact zput_tg h_21 h_51 (by simp)
          have h_53 : w_18.1 rn = some (137, rp, tTb 2 160 (nt.map (fun e => [(e.1 : Int), (e.2 : Int)]))) := by
            rw [hw_19]; exact zput_tg hca5 hrn5 (by simp)
          have h_54 : w_25.1 rn = some (137, rp, tTb 2 160 (nt.map (fun e => [(e.1 : Int), (e.2 : Int)]))) := by
            rw [hw_26]; exact zput_tg h_21 h_53 (by simp)
          have hM6 : mcW w_25 b1 b2 ((mc, fa, ca, ta), (t, tc, tn, th, tz), (rp, ri, ra, rn), (ty, C), (mo, I, bk, bc)) (((cap5, Fs), fm5), (cc5, (ch1.reverse.map (fun e => [(e.1 : Int), (e.2.1 : Int), (e.2.2 : Int)]))), (ct5, ((T.drop (T.length - t0)).reverse.map (fun e => [(e.1 : Int), (e.2 : Int)]))), ((fr.length : Int), (oA Fs cur), (pl0 : Int), (oA Fs (some dd))), ((if false = true then 1 else 0), 0, 0), (N5, H5, Sz5), (A5, (nt.map (fun e => [(e.1 : Int), (e.2 : Int)])), (ns : Int), (nc0 : Int), (dp0 : Int), 101)) := ⟨h_29, h_34, ⟨h_28, okC7⟩, ⟨h_36, okT5⟩, hFrr6, ⟨h_38, ⟨h_40, okTC5⟩, ⟨h_42, okN5⟩, ⟨h_44, okH5⟩, h_46, hSz5⟩, ⟨h_48, ⟨h_50, okI5⟩, ⟨h_52, okA5⟩, ⟨h_54, okNt5⟩⟩, hcap5, ⟨by omega, by omega, by omega, by omega⟩, by omega, by omega⟩
          have hW6 : msW w_25 b1 b2 ((mc, fa, ca, ta), (t, tc, tn, th, tz), (rp, ri, ra, rn), (ty, C), (mo, I, bk, bc)) R Fs (0, 0, 101) ((fr, cls, (mmUn V T t0), ch1, (T.drop (T.length - t0))), (cur, pl0, (some dd), false), tm, (na, ns, nc0, dp0), nt) := ⟨cap5, fm5, cc5, _, ct5, ((T.drop (T.length - t0)).reverse.map (fun e => [(e.1 : Int), (e.2 : Int)])), (fr.length : Int), (oA Fs cur), (pl0 : Int), (oA Fs (some dd)), (if false = true then 1 else 0), N5, H5, Sz5, A5, (nt.map (fun e => [(e.1 : Int), (e.2 : Int)])), (ns : Int), (nc0 : Int), (dp0 : Int), hM6, ⟨⟨(by first | rfl | omega | simp), hfl5, hJ5, hcn5, hFS5⟩, ⟨rfl, hcuL5, (by first | rfl | omega), rfl, hdeL5, rfl⟩, ⟨rfl, (fun e he => hchL5 e (List.mem_cons_of_mem _ he))⟩, ⟨rfl, hTL5⟩, htm5, ⟨hA5, (by first | rfl | omega), (by first | rfl | omega), (by first | rfl | omega), rfl⟩⟩⟩
          refine zx_ivN (b := rp) (As := [zI 114, zI ((mmf fr f).1.1 : Int), zI ((mmf fr f).2.1.2.2 : Int)]) (st := []) dX4_goBack_171 zc_X4_162 h_48 rfl rfl rfl (Nat.le_of_ble_eq_true rfl) rfl (s_note hW6 (sg := 114) (p := (mmf fr f).1.1) (dd := (mmf fr f).2.1.2.2) (by decide) (by omega) (by omega)) (fun w7 hq => ?_)
          obtain ⟨hW7, hF7⟩ := hq
          obtain ⟨cap7, fm7, cc7, CH7, ct7, TR7, us7, cu7, pl7, de7, fl7, N7, H7, Sz7, A7, Nt7, sc7, nc7, dp7, hM7, hS7⟩ := id hW7
          obtain ⟨⟨hus7, hfl7, hJ7, hcn7, hFS7⟩, ⟨hcu7, hcuL7, hpl7, hde7, hdeL7, hfb7⟩, ⟨hCH7, hchL7⟩, ⟨hTR7, hTL7⟩, htm7, ⟨hA7, hsc7, hnc7, hdp7, hNt7⟩⟩ := id hS7
          subst hus7 hcu7 hpl7 hde7 hfb7 hCH7 hTR7 hsc7 hnc7 hdp7 hNt7
          obtain ⟨hmc7, hfa7, ⟨hca7, okC7⟩, ⟨hta7, okT7⟩, hFr7, ⟨ht07, ⟨htc7, okTC7⟩, ⟨htn7, okN7⟩, ⟨hth7, okH7⟩, htz7, hSz7⟩, ⟨hrp7, ⟨hri7, okI7⟩, ⟨hra7, okA7⟩, ⟨hrn7, okNt7⟩⟩, hcap7, hcct7, hrm17, hrm27⟩ := id hM7
          refine zx_aload_n (i := 0) dX4_goBack_174 rfl rfl ?_
          refine zx_aload_n (i := 3) dX4_goBack_175 rfl rfl ?_
          refine zx_aload (i := 4) dX4_goBack_176 rfl ?_
          refine zx_iload (i := 5) dX4_goBack_178 rfl ?_
          have h_55 : w7.1 pr_j = some (6, 0, [zI ((mmf fr f).1.1 : Int), zR (R.2.2.2.1 pr_j).1.2.1, zR (R.2.2.2.1 pr_j).1.2.2.1, zR (R.2.2.2.1 pr_j).1.2.2.2.1, zR (R.2.2.2.1 pr_j).1.2.2.2.2]) := hF7 _ _ h_30 (Or.inl (by simp))
          have h_56 : w_25.1 ((R.2.2.2.1 pr_j).1.2.2.2.1) = some (164, pr_j, zLs (R.2.2.2.1 pr_j).2.2.2.1 ((R.2.2.2.1 pr_j).2.2.2.2)) := by
            rw [hw_26]; exact zput_tg h_21 h_23 (by simp)
          have h_57 : w7.1 ((R.2.2.2.1 pr_j).1.2.2.2.1) = some (164, pr_j, zLs (R.2.2.2.1 pr_j).2.2.2.1 ((R.2.2.2.1 pr_j).2.2.2.2)) := hF7 _ _ h_56 (Or.inl (by simp))
          refine zx_iv (b := pr_j) (As := [zI (k : Int)]) (st := [zR yf, zR mc]) (v := (some (zR a))) (w1 := w7) dX4_goBack_180 zc_X4_199 h_55 rfl rfl rfl (Nat.le_of_ble_eq_true rfl) rfl (by have q := c_X6_clauseAt (G := G) (d := d + 1) h_55 h_57 (fun y hy => ⟨_, _, hF7 _ _ (hmcF6 _ _ ((hP5.2.2.2.2.2.2 y (hsc2 y hy)).1.1) (Or.inl (by simp))) (Or.inl (by simp))⟩) (k : Int); rw [hla] at q; exact q) ?_
          refine zx_st (st1 := [zR a, zR yf, zR mc]) rfl ?_
          refine zx_ivN (b := mc) (As := [zR yf, zR a]) (st := []) dX4_goBack_183 zc_X4_195 hmc7 rfl rfl rfl (Nat.le_of_ble_eq_true rfl) rfl (c_X4_tryClause hM7 hyf rfl) (fun w8 hq => ?_)
          obtain ⟨hM8, hF8⟩ := hq
          refine zx_return dX4_goBack_186 rfl ?_
          have efin : mmBack (pgC R) ((fr, cls, V, ((f, k, t0) :: ch1), T), (cur, pl0, (some dd), flb), tm, (na, ns, nc0, dp0), nt) = .inl ((fr, (mmUp cls f (R.2.2.2.2.2.1 a).1.1.toNat), (mmUn V T t0), ch1, (T.drop (T.length - t0))), ((some f), 0, (some dd), false), tm, (na, ns, nc0, dp0), (mmNote nt 114 (mmf fr f).1.1 (mmf fr f).2.1.2.2)) := by
            show (if _ then _ else _) = _
            rw [if_neg hdq0]
            show Sum.inl _ = Sum.inl _
            rw [if_neg hk1]
            rw [hgd]
          rw [efin]
          exact ⟨rfl, ⟨_, _, _, _, _, _, _, _, _, _, _, _, _, _, _, _, _, _, _, hM8, ⟨⟨(by first | rfl | omega | simp), hfl7, hJ7, (fun q hq => by unfold mmUp; rw [if_neg (by omega)]; exact hcn7 q hq), (fsR_cls hFS7 hJ7 hyf rfl hpa)⟩, ⟨(oA_some hyf).symm, (fun i h => by cases h; exact hff), (by first | rfl | omega), rfl, hdeL7, rfl⟩, ⟨rfl, hchL7⟩, ⟨rfl, hTL7⟩, htm7, ⟨hA7, (by first | rfl | omega), (by first | rfl | omega), (by first | rfl | omega), rfl⟩⟩⟩, (mcF_tr hmcF3 (mcF_tr hF5 (mcF_tr hmcF6 (mcF_tr hF7 hF8))))⟩
  | none =>
    cases ch with
    | nil =>
      rw [show mmBack (pgC R) ((fr, cls, V, ([] : mmH), T), (cur, pl0, none, flb), tm, (na, ns, nc0, dp0), nt) = .inr (0, ((fr, cls, V, ([] : mmH), T), (cur, pl0, none, false), tm, (na, ns, nc0, dp0), nt)) from rfl]
      obtain ⟨cap, fm, cc, CH, ct, TR, us, cu, pl, de, fl, N, H, Sz, A, Nt, sc, nc, dp, hM, hS⟩ := id hW
      obtain ⟨⟨hus, hfl, hJ, hcn, hFS⟩, ⟨hcu, hcuL, hpl, hde, hdeL, hfb⟩, ⟨hCH, hchL⟩, ⟨hTR, hTL⟩, htm, ⟨hA, hsc, hnc, hdp, hNt⟩⟩ := id hS
      subst hus hcu hpl hde hfb hCH hTR hsc hnc hdp hNt
      obtain ⟨hmc, hfa, ⟨hca, okC⟩, ⟨hta, okT⟩, hFr, ⟨ht0, ⟨htc, okTC⟩, ⟨htn, okN⟩, ⟨hth, okH⟩, htz, hSz⟩, ⟨hrp, ⟨hri, okI⟩, ⟨hra, okA⟩, ⟨hrn, okNt⟩⟩, hcap, hcct, hrm1, hrm2⟩ := id hM
      have hCl : (([] : mmH).reverse.map (fun e => [(e.1 : Int), (e.2.1 : Int), (e.2.2 : Int)])).length = 0 := by simp
      refine zx_aload_n (i := 0) dX4_goBack_0 rfl rfl ?_
      refine zx_iconst (v := 0) dX4_goBack_1 rfl (z32_lit (by decide) (by decide)) ?_
      obtain ⟨w_1, hw_2⟩ : ∃ ww, ww = zput w mc (4, 0, [zR t, zR fa, zR ca, zR ta, zR rp, zI (fr.length : Int), zP (oA Fs cur), zI (pl0 : Int), zN, zI 0, zI 0, zI 0]) := ⟨_, rfl⟩
      refine zx_put (w1 := w_1) dX4_goBack_2 zf_X4_57 hmc (Nat.le_of_ble_eq_true rfl) (zFt_bool (by first | exact Or.inl rfl | exact Or.inr rfl | exact zB_or | assumption)) (fun h => by cases h) hw_2.symm ?_
      have q_3 : w_1.2.1 = w.2.1 ∧ w_1.2.2 = w.2.2 := by rw [hw_2]; exact ⟨rfl, rfl⟩
      have h_4 : w_1.1 mc = some (4, 0, [zR t, zR fa, zR ca, zR ta, zR rp, zI (fr.length : Int), zP (oA Fs cur), zI (pl0 : Int), zN, zI 0, zI 0, zI 0]) := by rw [hw_2]; exact zput_at
      refine zx_aload_n (i := 0) dX4_goBack_5 rfl rfl ?_
      refine zx_getfield dX4_goBack_6 zf_X4_113 h_4 rfl ?_
      refine zx_astore_n (i := 1) dX4_goBack_9 rfl (by decide) rfl ?_
      refine zx_L (L1 := [some (zR mc), some (zN), none, none, none, none]) rfl ?_
      refine zx_aload_n (i := 1) dX4_goBack_10 rfl rfl ?_
      refine zx_ifnull (tgt := 55) dX4_goBack_11 (by decide) (fun _ => ?_) (fun h => absurd rfl h)
      refine zx_aload_n (i := 0) dX4_goBack_55 rfl rfl ?_
      refine zx_getfield dX4_goBack_56 zf_X4_31 h_4 rfl ?_
      have h_5 : w_1.1 ca = some (138, mc, tTb 3 cc (([] : mmH).reverse.map (fun e => [(e.1 : Int), (e.2.1 : Int), (e.2.2 : Int)]))) := by
        rw [hw_2]; exact zput_tg hmc hca (by simp)
      refine zx_iv (b := ca) (As := []) (st := []) (v := (some (zI (0 : Int)))) (w1 := w_1) dX4_goBack_59 zc_X4_186 h_5 (z_cls9 (by decide)) rfl rfl (Nat.le_of_ble_eq_true rfl) rfl (by have q := c_X9_count (G := G) (d := d + 4) h_5 (by decide) okC; rw [hCl] at q; exact q) ?_
      refine zx_st (st1 := [zI (0 : Int)]) rfl ?_
      refine zx_pc (pc1 := 62) rfl ?_
      refine zx_iconst (v := 1) dX4_goBack_62 rfl (z32_lit (by decide) (by decide)) ?_
      refine zx_isub (v := -1) dX4_goBack_63 (by decide +kernel) ?_
      refine zx_istore_n (i := 2) dX4_goBack_64 rfl (by decide) rfl ?_
      refine zx_L (L1 := [some (zR mc), some (zN), some (zI (-1)), none, none, none]) rfl ?_
      refine zx_aload_n (i := 0) dX4_goBack_65 rfl rfl ?_
      refine zx_aload_n (i := 0) dX4_goBack_66 rfl rfl ?_
      refine zx_getfield dX4_goBack_67 zf_X4_31 h_4 rfl ?_
      refine zx_iload_n (i := 2) dX4_goBack_70 rfl rfl ?_
      refine zx_iconst (v := 0) dX4_goBack_71 rfl (z32_lit (by decide) (by decide)) ?_
      refine zx_iv (b := ca) (As := [zI (-1), zI 0]) (st := [zR mc]) (v := (some (zI (-1)))) (w1 := w_1) dX4_goBack_72 zc_X4_226 h_5 (z_cls9 (by decide)) rfl rfl (Nat.le_of_ble_eq_true rfl) rfl (by have q := c_X9_get (G := G) (d := d + 4) h_5 (by decide) okC (-1) 0; rw [tg_neg (by decide)] at q; exact q) ?_
      refine zx_st (st1 := [zI (-1), zR mc]) rfl ?_
      have hfaL3 : zFa [mc] w w_1 := (zFa_put zFa_re (by simp) hw_2)
      have hFrr3 := fm_keep hFr hfaL3 (zLc hmc (by simp) zLn)
      have hmcF3 : mcF rp w w_1 := mcF_fa hfaL3 (zLc hmc (by simp [mcP]) zLn)
      have h_6 : w_1.1 fa = some (166, mc, zLs cap Fs) := by
        rw [hw_2]; exact zput_tg hmc hfa (by simp)
      have h_7 : w_1.1 ta = some (139, mc, tTb 2 ct (T.reverse.map (fun e => [(e.1 : Int), (e.2 : Int)]))) := by
        rw [hw_2]; exact zput_tg hmc hta (by simp)
      have h_8 : w_1.1 t = some (10, 0, [zI ty, zR tc, zR tn, zR th, zR tz]) := by
        rw [hw_2]; exact zput_tg hmc ht0 (by simp)
      have h_9 : w_1.1 tc = some (130, t, tTb 3 30 C) := by
        rw [hw_2]; exact zput_tg hmc htc (by simp)
      have h_10 : w_1.1 tn = some (131, t, tTb 4 800 N) := by
        rw [hw_2]; exact zput_tg hmc htn (by simp)
      have h_11 : w_1.1 th = some (132, t, tTb 1 64 H) := by
        rw [hw_2]; exact zput_tg hmc hth (by simp)
      have h_12 : w_1.1 tz = some (120, t, Sz.map zJ) := by
        rw [hw_2]; exact zput_tg hmc htz (by simp)
      have h_13 : w_1.1 rp = some (8, 0, [zP mo, zR ri, zR ra, zR rn, zI (ns : Int), zI (nc0 : Int), zI (dp0 : Int), zI 101, zI bk, zI bc]) := by
        rw [hw_2]; exact zput_tg hmc hrp (by simp)
      have h_14 : w_1.1 ri = some (135, rp, tTb 1 3 I) := by
        rw [hw_2]; exact zput_tg hmc hri (by simp)
      have h_15 : w_1.1 ra = some (136, rp, tTb 3 150 A) := by
        rw [hw_2]; exact zput_tg hmc hra (by simp)
      have h_16 : w_1.1 rn = some (137, rp, tTb 2 160 (nt.map (fun e => [(e.1 : Int), (e.2 : Int)]))) := by
        rw [hw_2]; exact zput_tg hmc hrn (by simp)
      have hM3 : mcW w_1 b1 b2 ((mc, fa, ca, ta), (t, tc, tn, th, tz), (rp, ri, ra, rn), (ty, C), (mo, I, bk, bc)) (((cap, Fs), fm), (cc, (([] : mmH).reverse.map (fun e => [(e.1 : Int), (e.2.1 : Int), (e.2.2 : Int)]))), (ct, (T.reverse.map (fun e => [(e.1 : Int), (e.2 : Int)]))), ((fr.length : Int), (oA Fs cur), (pl0 : Int), (oA Fs none)), (0, 0, 0), (N, H, Sz), (A, (nt.map (fun e => [(e.1 : Int), (e.2 : Int)])), (ns : Int), (nc0 : Int), (dp0 : Int), 101)) := ⟨h_4, h_6, ⟨h_5, okC⟩, ⟨h_7, okT⟩, hFrr3, ⟨h_8, ⟨h_9, okTC⟩, ⟨h_10, okN⟩, ⟨h_11, okH⟩, h_12, hSz⟩, ⟨h_13, ⟨h_14, okI⟩, ⟨h_15, okA⟩, ⟨h_16, okNt⟩⟩, hcap, ⟨by omega, by omega, by omega, by omega⟩, by omega, by omega⟩
      refine zx_iv (b := mc) (As := [zI (-1)]) (st := []) (v := (some (zN))) (w1 := w_1) dX4_goBack_75 zc_X4_228 h_4 rfl rfl rfl (Nat.le_of_ble_eq_true rfl) rfl (by have q := c_X4_frameAt (G := G) (d := d + 1) hM3 (-1); rw [lAt_out (Or.inl (by decide))] at q; exact q) ?_
      refine zx_st (st1 := [zN]) rfl ?_
      refine zx_astore_n (i := 3) dX4_goBack_78 rfl (by decide) rfl ?_
      refine zx_L (L1 := [some (zR mc), some (zN), some (zI (-1)), some (zN), none, none]) rfl ?_
      refine zx_aload_n (i := 3) dX4_goBack_79 rfl rfl ?_
      refine zx_pc (pc1 := 80) rfl ?_
      refine zx_ifnonnull (tgt := 90) dX4_goBack_80 (by decide) (fun h => absurd rfl h) (fun _ => ?_)
      refine zx_aload_n (i := 0) dX4_goBack_83 rfl rfl ?_
      refine zx_bipush (v := 101) dX4_goBack_84 (by decide +kernel) (z32_lit (by decide) (by decide)) ?_
      refine zx_ivN (b := mc) (As := [zI 101]) (st := []) dX4_goBack_86 zc_X4_232 h_4 rfl rfl rfl (Nat.le_of_ble_eq_true rfl) rfl (c_X4_finish hM3 101 (by decide)) (fun w5 hq => ?_)
      obtain ⟨hM5, hF5⟩ := hq
      refine zx_return dX4_goBack_89 rfl ?_
      exact ⟨rfl, ⟨⟨_, _, _, _, _, _, _, _, _, _, _, _, _, _, _, _, _, _, _, hM5, ⟨⟨(by first | rfl | omega | simp), hfl, hJ, hcn, hFS⟩, ⟨rfl, hcuL, (by first | rfl | omega), rfl, hdeL, rfl⟩, ⟨rfl, hchL⟩, ⟨rfl, hTL⟩, htm, ⟨hA, (by first | rfl | omega), (by first | rfl | omega), (by first | rfl | omega), rfl⟩⟩⟩, rfl⟩, (mcF_tr hmcF3 hF5)⟩
    | cons e ch1 =>
      obtain ⟨f, k, t0⟩ := e
      obtain ⟨ht0l, hkl⟩ := hpop f k t0 ch1 rfl
      have hch2 : ch1.length < 319 := by
        have q : ch1.length + 1 < 320 := hch
        omega
      have eCH : (((f, k, t0) :: ch1).reverse.map (fun e => [(e.1 : Int), (e.2.1 : Int), (e.2.2 : Int)])) = (ch1.reverse.map (fun e => [(e.1 : Int), (e.2.1 : Int), (e.2.2 : Int)])) ++ [[(f : Int), (k : Int), (t0 : Int)]] := by simp
      obtain ⟨cap, fm, cc, CH, ct, TR, us, cu, pl, de, fl, N, H, Sz, A, Nt, sc, nc, dp, hM, hS⟩ := id hW
      obtain ⟨⟨hus, hfl, hJ, hcn, hFS⟩, ⟨hcu, hcuL, hpl, hde, hdeL, hfb⟩, ⟨hCH, hchL⟩, ⟨hTR, hTL⟩, htm, ⟨hA, hsc, hnc, hdp, hNt⟩⟩ := id hS
      subst hus hcu hpl hde hfb hCH hTR hsc hnc hdp hNt
      rw [eCH] at hM
      obtain ⟨hmc, hfa, ⟨hca, okC⟩, ⟨hta, okT⟩, hFr, ⟨ht0, ⟨htc, okTC⟩, ⟨htn, okN⟩, ⟨hth, okH⟩, htz, hSz⟩, ⟨hrp, ⟨hri, okI⟩, ⟨hra, okA⟩, ⟨hrn, okNt⟩⟩, hcap, hcct, hrm1, hrm2⟩ := id hM
      have hff : f < fr.length := hchL (f, k, t0) List.mem_cons_self
      obtain ⟨yf, hyf⟩ : ∃ y, Fs[f]? = some y := ⟨_, List.getElem?_eq_getElem (by omega)⟩
      have hlaf : lAt Fs (f : Int) = some yf := lAt_in (by omega) (by rw [Int.toNat_natCast]; exact hyf)
      have hRl : (ch1.reverse.map (fun e => [(e.1 : Int), (e.2.1 : Int), (e.2.2 : Int)])).length = ch1.length := by simp
      have hCl : ((ch1.reverse.map (fun e => [(e.1 : Int), (e.2.1 : Int), (e.2.2 : Int)])) ++ [[(f : Int), (k : Int), (t0 : Int)]]).length = ch1.length + 1 := by simp
      have hgf : tg ((ch1.reverse.map (fun e => [(e.1 : Int), (e.2.1 : Int), (e.2.2 : Int)])) ++ [[(f : Int), (k : Int), (t0 : Int)]]) (ch1.length : Int) 0 = (f : Int) := tg_last (j := 0) hRl
      have hgk : tg ((ch1.reverse.map (fun e => [(e.1 : Int), (e.2.1 : Int), (e.2.2 : Int)])) ++ [[(f : Int), (k : Int), (t0 : Int)]]) (ch1.length : Int) 1 = (k : Int) := tg_last (j := 1) hRl
      have hgt : tg ((ch1.reverse.map (fun e => [(e.1 : Int), (e.2.1 : Int), (e.2.2 : Int)])) ++ [[(f : Int), (k : Int), (t0 : Int)]]) (ch1.length : Int) 2 = (t0 : Int) := tg_last (j := 2) hRl
      have hts : ts ((ch1.reverse.map (fun e => [(e.1 : Int), (e.2.1 : Int), (e.2.2 : Int)])) ++ [[(f : Int), (k : Int), (t0 : Int)]]) (ch1.length : Int) 1 ((k + 1 : Nat) : Int) = (ch1.reverse.map (fun e => [(e.1 : Int), (e.2.1 : Int), (e.2.2 : Int)])) ++ [[(f : Int), ((k + 1 : Nat) : Int), (t0 : Int)]] := by rw [← hRl]; exact ts_last (j := 1)
      have hTRl : (T.reverse.map (fun e => [(e.1 : Int), (e.2 : Int)])).length = T.length := by simp
      by_cases hk1 : k + 1 < ((pgC R).1.1.1 (mmf fr f).1.1).length
      · skip
        refine zx_aload_n (i := 0) dX4_goBack_0 rfl rfl ?_
        refine zx_iconst (v := 0) dX4_goBack_1 rfl (z32_lit (by decide) (by decide)) ?_
        obtain ⟨w_1, hw_2⟩ : ∃ ww, ww = zput w mc (4, 0, [zR t, zR fa, zR ca, zR ta, zR rp, zI (fr.length : Int), zP (oA Fs cur), zI (pl0 : Int), zN, zI 0, zI 0, zI 0]) := ⟨_, rfl⟩
        refine zx_put (w1 := w_1) dX4_goBack_2 zf_X4_57 hmc (Nat.le_of_ble_eq_true rfl) (zFt_bool (by first | exact Or.inl rfl | exact Or.inr rfl | exact zB_or | assumption)) (fun h => by cases h) hw_2.symm ?_
        have q_3 : w_1.2.1 = w.2.1 ∧ w_1.2.2 = w.2.2 := by rw [hw_2]; exact ⟨rfl, rfl⟩
        have h_4 : w_1.1 mc = some (4, 0, [zR t, zR fa, zR ca, zR ta, zR rp, zI (fr.length : Int), zP (oA Fs cur), zI (pl0 : Int), zN, zI 0, zI 0, zI 0]) := by rw [hw_2]; exact zput_at
        refine zx_aload_n (i := 0) dX4_goBack_5 rfl rfl ?_
        refine zx_getfield dX4_goBack_6 zf_X4_113 h_4 rfl ?_
        refine zx_astore_n (i := 1) dX4_goBack_9 rfl (by decide) rfl ?_
        refine zx_L (L1 := [some (zR mc), some (zN), none, none, none, none]) rfl ?_
        refine zx_aload_n (i := 1) dX4_goBack_10 rfl rfl ?_
        refine zx_ifnull (tgt := 55) dX4_goBack_11 (by decide) (fun _ => ?_) (fun h => absurd rfl h)
        refine zx_aload_n (i := 0) dX4_goBack_55 rfl rfl ?_
        refine zx_getfield dX4_goBack_56 zf_X4_31 h_4 rfl ?_
        have h_5 : w_1.1 ca = some (138, mc, tTb 3 cc ((ch1.reverse.map (fun e => [(e.1 : Int), (e.2.1 : Int), (e.2.2 : Int)])) ++ [[(f : Int), (k : Int), (t0 : Int)]])) := by
          rw [hw_2]; exact zput_tg hmc hca (by simp)
        refine zx_iv (b := ca) (As := []) (st := []) (v := (some (zI ((ch1.length + 1 : Nat) : Int)))) (w1 := w_1) dX4_goBack_59 zc_X4_186 h_5 (z_cls9 (by decide)) rfl rfl (Nat.le_of_ble_eq_true rfl) rfl (by have q := c_X9_count (G := G) (d := d + 4) h_5 (by decide) okC; rw [hCl] at q; exact q) ?_
        refine zx_st (st1 := [zI ((ch1.length + 1 : Nat) : Int)]) rfl ?_
        refine zx_pc (pc1 := 62) rfl ?_
        refine zx_iconst (v := 1) dX4_goBack_62 rfl (z32_lit (by decide) (by decide)) ?_
        refine zx_isub (v := (ch1.length : Int)) dX4_goBack_63 (zw_eq (by omega) (by omega) (by omega)) ?_
        refine zx_istore_n (i := 2) dX4_goBack_64 rfl (by decide) rfl ?_
        refine zx_L (L1 := [some (zR mc), some (zN), some (zI (ch1.length : Int)), none, none, none]) rfl ?_
        refine zx_aload_n (i := 0) dX4_goBack_65 rfl rfl ?_
        refine zx_aload_n (i := 0) dX4_goBack_66 rfl rfl ?_
        refine zx_getfield dX4_goBack_67 zf_X4_31 h_4 rfl ?_
        refine zx_iload_n (i := 2) dX4_goBack_70 rfl rfl ?_
        refine zx_iconst (v := 0) dX4_goBack_71 rfl (z32_lit (by decide) (by decide)) ?_
        refine zx_iv (b := ca) (As := [zI (ch1.length : Int), zI 0]) (st := [zR mc]) (v := (some (zI (f : Int)))) (w1 := w_1) dX4_goBack_72 zc_X4_226 h_5 (z_cls9 (by decide)) rfl rfl (Nat.le_of_ble_eq_true rfl) rfl (by have q := c_X9_get (G := G) (d := d + 4) h_5 (by decide) okC (ch1.length : Int) 0; rw [hgf] at q; exact q) ?_
        refine zx_st (st1 := [zI (f : Int), zR mc]) rfl ?_
        have hfaL3 : zFa [mc] w w_1 := (zFa_put zFa_re (by simp) hw_2)
        have hFrr3 := fm_keep hFr hfaL3 (zLc hmc (by simp) zLn)
        have hmcF3 : mcF rp w w_1 := mcF_fa hfaL3 (zLc hmc (by simp [mcP]) zLn)
        have h_6 : w_1.1 fa = some (166, mc, zLs cap Fs) := by
          rw [hw_2]; exact zput_tg hmc hfa (by simp)
        have h_7 : w_1.1 ta = some (139, mc, tTb 2 ct (T.reverse.map (fun e => [(e.1 : Int), (e.2 : Int)]))) := by
          rw [hw_2]; exact zput_tg hmc hta (by simp)
        have h_8 : w_1.1 t = some (10, 0, [zI ty, zR tc, zR tn, zR th, zR tz]) := by
          rw [hw_2]; exact zput_tg hmc ht0 (by simp)
        have h_9 : w_1.1 tc = some (130, t, tTb 3 30 C) := by
          rw [hw_2]; exact zput_tg hmc htc (by simp)
        have h_10 : w_1.1 tn = some (131, t, tTb 4 800 N) := by
          rw [hw_2]; exact zput_tg hmc htn (by simp)
        have h_11 : w_1.1 th = some (132, t, tTb 1 64 H) := by
          rw [hw_2]; exact zput_tg hmc hth (by simp)
        have h_12 : w_1.1 tz = some (120, t, Sz.map zJ) := by
          rw [hw_2]; exact zput_tg hmc htz (by simp)
        have h_13 : w_1.1 rp = some (8, 0, [zP mo, zR ri, zR ra, zR rn, zI (ns : Int), zI (nc0 : Int), zI (dp0 : Int), zI 101, zI bk, zI bc]) := by
          rw [hw_2]; exact zput_tg hmc hrp (by simp)
        have h_14 : w_1.1 ri = some (135, rp, tTb 1 3 I) := by
          rw [hw_2]; exact zput_tg hmc hri (by simp)
        have h_15 : w_1.1 ra = some (136, rp, tTb 3 150 A) := by
          rw [hw_2]; exact zput_tg hmc hra (by simp)
        have h_16 : w_1.1 rn = some (137, rp, tTb 2 160 (nt.map (fun e => [(e.1 : Int), (e.2 : Int)]))) := by
          rw [hw_2]; exact zput_tg hmc hrn (by simp)
        have hM3 : mcW w_1 b1 b2 ((mc, fa, ca, ta), (t, tc, tn, th, tz), (rp, ri, ra, rn), (ty, C), (mo, I, bk, bc)) (((cap, Fs), fm), (cc, ((ch1.reverse.map (fun e => [(e.1 : Int), (e.2.1 : Int), (e.2.2 : Int)])) ++ [[(f : Int), (k : Int), (t0 : Int)]])), (ct, (T.reverse.map (fun e => [(e.1 : Int), (e.2 : Int)]))), ((fr.length : Int), (oA Fs cur), (pl0 : Int), none), (0, 0, 0), (N, H, Sz), (A, (nt.map (fun e => [(e.1 : Int), (e.2 : Int)])), (ns : Int), (nc0 : Int), (dp0 : Int), 101)) := ⟨h_4, h_6, ⟨h_5, okC⟩, ⟨h_7, okT⟩, hFrr3, ⟨h_8, ⟨h_9, okTC⟩, ⟨h_10, okN⟩, ⟨h_11, okH⟩, h_12, hSz⟩, ⟨h_13, ⟨h_14, okI⟩, ⟨h_15, okA⟩, ⟨h_16, okNt⟩⟩, hcap, ⟨by omega, by omega, by omega, by omega⟩, by omega, by omega⟩
        refine zx_iv (b := mc) (As := [zI (f : Int)]) (st := []) (v := (some (zR yf))) (w1 := w_1) dX4_goBack_75 zc_X4_228 h_4 rfl rfl rfl (Nat.le_of_ble_eq_true rfl) rfl (by have q := c_X4_frameAt (G := G) (d := d + 1) hM3 (f : Int); rw [hlaf] at q; exact q) ?_
        refine zx_st (st1 := [zR yf]) rfl ?_
        refine zx_astore_n (i := 3) dX4_goBack_78 rfl (by decide) rfl ?_
        refine zx_L (L1 := [some (zR mc), some (zN), some (zI (ch1.length : Int)), some (zR yf), none, none]) rfl ?_
        refine zx_aload_n (i := 3) dX4_goBack_79 rfl rfl ?_
        refine zx_pc (pc1 := 80) rfl ?_
        refine zx_ifnonnull (tgt := 90) dX4_goBack_80 (by decide) (fun _ => ?_) (fun h => by cases h)
        refine zx_aload_n (i := 0) dX4_goBack_90 rfl rfl ?_
        refine zx_aload_n (i := 0) dX4_goBack_91 rfl rfl ?_
        refine zx_getfield dX4_goBack_92 zf_X4_31 h_4 rfl ?_
        refine zx_iload_n (i := 2) dX4_goBack_95 rfl rfl ?_
        refine zx_iconst (v := 2) dX4_goBack_96 rfl (z32_lit (by decide) (by decide)) ?_
        refine zx_iv (b := ca) (As := [zI (ch1.length : Int), zI 2]) (st := [zR mc]) (v := (some (zI (t0 : Int)))) (w1 := w_1) dX4_goBack_97 zc_X4_226 h_5 (z_cls9 (by decide)) rfl rfl (Nat.le_of_ble_eq_true rfl) rfl (by have q := c_X9_get (G := G) (d := d + 4) h_5 (by decide) okC (ch1.length : Int) 2; rw [hgt] at q; exact q) ?_
        refine zx_st (st1 := [zI (t0 : Int), zR mc]) rfl ?_
        refine zx_ivN (b := mc) (As := [zI (t0 : Int)]) (st := []) dX4_goBack_100 zc_X4_236 h_4 rfl rfl rfl (Nat.le_of_ble_eq_true rfl) rfl (c_X4_undo hM3 t0 (by omega) (by omega) (un_row hfl hTL)) (fun w5 hq => ?_)
        obtain ⟨hM5r, hF5⟩ := hq
        rw [tr_cut (by omega), ← eCH] at hM5r
        have hW5 : msW w5 b1 b2 ((mc, fa, ca, ta), (t, tc, tn, th, tz), (rp, ri, ra, rn), (ty, C), (mo, I, bk, bc)) R Fs (0, 0, 101) ((fr, cls, (mmUn V T t0), ((f, k, t0) :: ch1), (T.drop (T.length - t0))), (cur, pl0, none, false), tm, (na, ns, nc0, dp0), nt) := ⟨cap, (unN Fs (T.reverse.map (fun e => [(e.1 : Int), (e.2 : Int)])) t0 ((T.reverse.map (fun e => [(e.1 : Int), (e.2 : Int)])).length - t0) fm), cc, _, ct, _, (fr.length : Int), (oA Fs cur), (pl0 : Int), _, 0, N, H, Sz, A, (nt.map (fun e => [(e.1 : Int), (e.2 : Int)])), (ns : Int), (nc0 : Int), (dp0 : Int), hM5r, ⟨⟨(by first | rfl | omega | simp), hfl, hJ, hcn, (un_all hJ hfl hTL (by omega) hFS)⟩, ⟨rfl, hcuL, (by first | rfl | omega), rfl, hdeL, rfl⟩, ⟨rfl, hchL⟩, ⟨rfl, (fun e he => hTL e (List.mem_of_mem_drop he))⟩, htm, ⟨hA, (by first | rfl | omega), (by first | rfl | omega), (by first | rfl | omega), rfl⟩⟩⟩
        obtain ⟨cap5, fm5, cc5, CH5, ct5, TR5, us5, cu5, pl5, de5, fl5, N5, H5, Sz5, A5, Nt5, sc5, nc5, dp5, hM5, hS5⟩ := id hW5
        obtain ⟨⟨hus5, hfl5, hJ5, hcn5, hFS5⟩, ⟨hcu5, hcuL5, hpl5, hde5, hdeL5, hfb5⟩, ⟨hCH5, hchL5⟩, ⟨hTR5, hTL5⟩, htm5, ⟨hA5, hsc5, hnc5, hdp5, hNt5⟩⟩ := id hS5
        subst hus5 hcu5 hpl5 hde5 hfb5 hCH5 hTR5 hsc5 hnc5 hdp5 hNt5
        obtain ⟨hmc5, hfa5, ⟨hca5, okC5⟩, ⟨hta5, okT5⟩, hFr5, ⟨ht05, ⟨htc5, okTC5⟩, ⟨htn5, okN5⟩, ⟨hth5, okH5⟩, htz5, hSz5⟩, ⟨hrp5, ⟨hri5, okI5⟩, ⟨hra5, okA5⟩, ⟨hrn5, okNt5⟩⟩, hcap5, hcct5, hrm15, hrm25⟩ := id hM5
        obtain ⟨⟨⟨va_j, md_j⟩, ⟨fca_j, fbt_j, fdp_j⟩, ⟨fcl_j, fdn_j, fod_j, fcb_j⟩, xs_j⟩, efm_j⟩ : ∃ r, fm5 yf = r := ⟨_, rfl⟩
        obtain ⟨hfy_j, hva_j, hx_j⟩ := hFr5 f yf hyf
        rw [efm_j] at hfy_j hva_j hx_j
        have hx_j : xs_j.length = 8 := hx_j
        obtain ⟨hmd_j, ⟨hcb1_j, hcb2_j⟩, ⟨hcb3_j, hcb4_j, hcb5_j⟩, ⟨-, hxv_j⟩, hdq_j⟩ := hFS5 f yf hff hyf
        rw [efm_j] at hmd_j hcb1_j hcb3_j hxv_j
        simp only [Prod.mk.injEq] at hcb1_j hcb3_j
        obtain ⟨ea1_j, ea2_j, ea3_j⟩ := hcb1_j
        obtain ⟨eb1_j, eb2_j, eb3_j, eb4_j⟩ := hcb3_j
        subst ea1_j ea2_j ea3_j eb1_j eb2_j eb3_j eb4_j
        have hP5 : pgW w5 pg R := pgW_TM hP (mcF_fr (mcF_tr hmcF3 hF5))
        have hEC5 := eCH
        rw [eCH] at hM5 hca5 okC5
        obtain ⟨pr_j, ins_j, pm_j, lo_j, gd_j, cf_j, cr_j, sw_j, emr_j, hmo_j, hpp_j, hpn_j, hpm_j, hm2_j, hin_j, hsw_j, hsr_j, hmm_j⟩ := md_get hK hP5 hmd_j
        obtain ⟨⟨hpy, ⟨htt, okTT⟩, hml, hcl0⟩, hsm, hsc2, -⟩ := hP5.2.2.2.2.1 pr_j hpm_j
        rw [hpn_j] at hpy
        have hp5 : (mmf fr f).1.1 < 5 := (hK.1 _ _ _ hmd_j).2.2.2.2
        have hclc : (pgC R).1.1.1 (mmf fr f).1.1 = (R.2.2.2.1 pr_j).2.2.2.2.map (fun a => (R.2.2.2.2.2.1 a).1.1.toNat) := rd_cs hpp_j
        have hcll : ((pgC R).1.1.1 (mmf fr f).1.1).length = (R.2.2.2.1 pr_j).2.2.2.2.length := by rw [hclc, List.length_map]
        obtain ⟨a, hka⟩ : ∃ a, (R.2.2.2.1 pr_j).2.2.2.2[k]? = some a := ⟨_, List.getElem?_eq_getElem (by omega)⟩
        have hla : lAt (R.2.2.2.1 pr_j).2.2.2.2 (k : Int) = some a := lAt_in (by omega) (by rw [Int.toNat_natCast]; exact hka)
        have hpa := rd_cl hK (hsc2 a (List.mem_of_getElem? hka))
        have hgd : ((pgC R).1.1.1 (mmf fr f).1.1).getD k 0 = (R.2.2.2.2.2.1 a).1.1.toNat := by rw [hclc, List.getD_eq_getElem?_getD, List.getElem?_map, hka]; rfl
        have hk12 := (hK.2.2.1 pr_j hpm_j).1
        have helC : ∀ a ∈ (R.2.2.2.1 pr_j).2.2.2.2, ∃ x y, w5.1 a = some ((1, x, y) : zO) := fun a ha => ⟨_, _, (hP5.2.2.2.2.2.2 a (hsc2 a ha)).1.1⟩
        refine zx_aload_n (i := 3) dX4_goBack_103 rfl rfl ?_
        refine zx_getfield dX4_goBack_104 zf_X4_73 hfy_j rfl ?_
        refine zx_getfield dX4_goBack_107 zf_X4_152 hmo_j rfl ?_
        refine zx_astore (i := 4) dX4_goBack_110 (by decide) rfl ?_
        refine zx_L (L1 := [some (zR mc), some (zN), some (zI (ch1.length : Int)), some (zR yf), some (zR pr_j), none]) rfl ?_
        refine zx_pc (pc1 := 112) rfl ?_
        refine zx_aload_n (i := 0) dX4_goBack_112 rfl rfl ?_
        refine zx_getfield dX4_goBack_113 zf_X4_31 hmc5 rfl ?_
        refine zx_iload_n (i := 2) dX4_goBack_116 rfl rfl ?_
        refine zx_iconst (v := 1) dX4_goBack_117 rfl (z32_lit (by decide) (by decide)) ?_
        refine zx_iv (b := ca) (As := [zI (ch1.length : Int), zI 1]) (st := []) (v := (some (zI (k : Int)))) (w1 := w5) dX4_goBack_118 zc_X4_226 hca5 (z_cls9 (by decide)) rfl rfl (Nat.le_of_ble_eq_true rfl) rfl (by have q := c_X9_get (G := G) (d := d + 4) hca5 (by decide) okC5 (ch1.length : Int) 1; rw [hgk] at q; exact q) ?_
        refine zx_st (st1 := [zI (k : Int)]) rfl ?_
        refine zx_istore (i := 5) dX4_goBack_121 (by decide) rfl ?_
        refine zx_L (L1 := [some (zR mc), some (zN), some (zI (ch1.length : Int)), some (zR yf), some (zR pr_j), some (zI (k : Int))]) rfl ?_
        refine zx_aload_n (i := 0) dX4_goBack_123 rfl rfl ?_
        refine zx_getfield dX4_goBack_124 zf_X4_31 hmc5 rfl ?_
        refine zx_iload_n (i := 2) dX4_goBack_127 rfl rfl ?_
        refine zx_iconst (v := 1) dX4_goBack_128 rfl (z32_lit (by decide) (by decide)) ?_
        refine zx_iload (i := 5) dX4_goBack_129 rfl ?_
        refine zx_iconst (v := 1) dX4_goBack_131 rfl (z32_lit (by decide) (by decide)) ?_
        refine zx_pc (pc1 := 132) rfl ?_
        refine zx_iadd (v := ((k + 1 : Nat) : Int)) dX4_goBack_132 (zw_eq (by omega) (by omega) (by omega)) ?_
        obtain ⟨w_17, hw_18⟩ : ∃ ww, ww = zput w5 ca (138, mc, tTb 3 cc5 ((ch1.reverse.map (fun e => [(e.1 : Int), (e.2.1 : Int), (e.2.2 : Int)])) ++ [[(f : Int), ((k + 1 : Nat) : Int), (t0 : Int)]])) := ⟨_, rfl⟩
        have q_19 : w_17.2.1 = w5.2.1 ∧ w_17.2.2 = w5.2.2 := by rw [hw_18]; exact ⟨rfl, rfl⟩
        have h_20 : w_17.1 ca = some (138, mc, tTb 3 cc5 ((ch1.reverse.map (fun e => [(e.1 : Int), (e.2.1 : Int), (e.2.2 : Int)])) ++ [[(f : Int), ((k + 1 : Nat) : Int), (t0 : Int)]])) := by rw [hw_18]; exact zput_at
        refine zx_iv (b := ca) (As := [zI (ch1.length : Int), zI 1, zI ((k + 1 : Nat) : Int)]) (st := []) (v := none) (w1 := w_17) dX4_goBack_133 zc_X4_239 hca5 (z_cls9 (by decide)) rfl rfl (Nat.le_of_ble_eq_true rfl) rfl (by rw [hw_18]; exact (by have q := c_X9_set (G := G) (d := d + 4) hca5 (by decide) okC5 (ch1.length : Int) 1 ((k + 1 : Nat) : Int); rw [hts] at q; exact q)) ?_
        have okC6 : tOk 3 ((ch1.reverse.map (fun e => [(e.1 : Int), (e.2.1 : Int), (e.2.2 : Int)])) ++ [[(f : Int), ((k + 1 : Nat) : Int), (t0 : Int)]]) := by have q := tOk_ts (i := (ch1.length : Int)) (j := 1) (v := ((k + 1 : Nat) : Int)) okC5; rw [hts] at q; exact q
        refine zx_st (st1 := []) rfl ?_
        refine zx_iload (i := 5) dX4_goBack_136 rfl ?_
        refine zx_iconst (v := 1) dX4_goBack_138 rfl (z32_lit (by decide) (by decide)) ?_
        refine zx_iadd (v := ((k + 1 : Nat) : Int)) dX4_goBack_139 (zw_eq (by omega) (by omega) (by omega)) ?_
        refine zx_aload (i := 4) dX4_goBack_140 rfl ?_
        have h_21 : w_17.1 pr_j = some (6, 0, [zI ((mmf fr f).1.1 : Int), zR (R.2.2.2.1 pr_j).1.2.1, zR (R.2.2.2.1 pr_j).1.2.2.1, zR (R.2.2.2.1 pr_j).1.2.2.2.1, zR (R.2.2.2.1 pr_j).1.2.2.2.2]) := by
          rw [hw_18]; exact zput_tg hca5 hpy (by simp)
        have h_22 : w_17.1 ((R.2.2.2.1 pr_j).1.2.2.2.1) = some (164, pr_j, zLs (R.2.2.2.1 pr_j).2.2.2.1 ((R.2.2.2.1 pr_j).2.2.2.2)) := by
          rw [hw_18]; exact zput_tg hca5 hcl0 (by simp)
        refine zx_iv (b := pr_j) (As := []) (st := [zI ((k + 1 : Nat) : Int)]) (v := (some (zI ((R.2.2.2.1 pr_j).2.2.2.2.length : Int)))) (w1 := w_17) dX4_goBack_142 zc_X4_182 h_21 rfl rfl rfl (Nat.le_of_ble_eq_true rfl) rfl (c_X6_clauseCount h_21 h_22) ?_
        refine zx_st (st1 := [zI ((R.2.2.2.1 pr_j).2.2.2.2.length : Int), zI ((k + 1 : Nat) : Int)]) rfl ?_
        refine zx_icmp_lt (tgt := 156) dX4_goBack_145 (by decide) (fun h145 => ?_) (fun h145 => absurd (by omega) h145)
        refine zx_aload_n (i := 0) dX4_goBack_156 rfl rfl ?_
        have h_23 : w_17.1 mc = some (4, 0, [zR t, zR fa, zR ca, zR ta, zR rp, zI (fr.length : Int), zP (oA Fs cur), zI (pl0 : Int), zP (oA Fs none), zI (if false = true then 1 else 0), zI 0, zI 0]) := by
          rw [hw_18]; exact zput_tg hca5 hmc5 (by simp)
        refine zx_getfield dX4_goBack_157 zf_X4_15 h_23 rfl ?_
        refine zx_bipush (v := 114) dX4_goBack_160 (by decide +kernel) (z32_lit (by decide) (by decide)) ?_
        refine zx_aload (i := 4) dX4_goBack_162 rfl ?_
        refine zx_pc (pc1 := 164) rfl ?_
        refine zx_getfield dX4_goBack_164 zf_X4_156 h_21 rfl ?_
        refine zx_aload_n (i := 3) dX4_goBack_167 rfl rfl ?_
        have h_24 : w_17.1 yf = some (2, 0, [zI (f : Int), zR va_j, zR md_j, zP (oA Fs (mmf fr f).2.1.1), zI ((mmf fr f).2.1.2.1 : Int), zI ((mmf fr f).2.1.2.2 : Int), zP ((cls f).bind (pgCl R)), zI (if (mmf fr f).2.2.1 = true then 1 else 0), zP (oA Fs (mmf fr f).2.2.2.1), zI ((mmf fr f).2.2.2.2 : Int)]) := by
          rw [hw_18]; exact zput_tg hca5 hfy_j (by simp)
        refine zx_getfield dX4_goBack_168 zf_X4_159 h_24 rfl ?_
        have hfaL6 : zFa [ca] w5 w_17 := (zFa_put zFa_re (by simp) hw_18)
        have hFrr6 := fm_keep hFr5 hfaL6 (zLc hca5 (by simp) zLn)
        have hmcF6 : mcF rp w5 w_17 := mcF_fa hfaL6 (zLc hca5 (by simp [mcP]) zLn)
        have h_25 : w_17.1 fa = some (166, mc, zLs cap5 Fs) := by
          rw [hw_18]; exact zput_tg hca5 hfa5 (by simp)
        have h_26 : w_17.1 ta = some (139, mc, tTb 2 ct5 ((T.drop (T.length - t0)).reverse.map (fun e => [(e.1 : Int), (e.2 : Int)]))) := by
          rw [hw_18]; exact zput_tg hca5 hta5 (by simp)
        have h_27 : w_17.1 t = some (10, 0, [zI ty, zR tc, zR tn, zR th, zR tz]) := by
          rw [hw_18]; exact zput_tg hca5 ht05 (by simp)
        have h_28 : w_17.1 tc = some (130, t, tTb 3 30 C) := by
          rw [hw_18]; exact zput_tg hca5 htc5 (by simp)
        have h_29 : w_17.1 tn = some (131, t, tTb 4 800 N5) := by
          rw [hw_18]; exact zput_tg hca5 htn5 (by simp)
        have h_30 : w_17.1 th = some (132, t, tTb 1 64 H5) := by
          rw [hw_18]; exact zput_tg hca5 hth5 (by simp)
        have h_31 : w_17.1 tz = some (120, t, Sz5.map zJ) := by
          rw [hw_18]; exact zput_tg hca5 htz5 (by simp)
        have h_32 : w_17.1 rp = some (8, 0, [zP mo, zR ri, zR ra, zR rn, zI (ns : Int), zI (nc0 : Int), zI (dp0 : Int), zI 101, zI bk, zI bc]) := by
          rw [hw_18]; exact zput_tg hca5 hrp5 (by simp)
        have h_33 : w_17.1 ri = some (135, rp, tTb 1 3 I) := by
          rw [hw_18]; exact zput_tg hca5 hri5 (by simp)
        have h_34 : w_17.1 ra = some (136, rp, tTb 3 150 A5) := by
          rw [hw_18]; exact zput_tg hca5 hra5 (by simp)
        have h_35 : w_17.1 rn = some (137, rp, tTb 2 160 (nt.map (fun e => [(e.1 : Int), (e.2 : Int)]))) := by
          rw [hw_18]; exact zput_tg hca5 hrn5 (by simp)
        have hM6 : mcW w_17 b1 b2 ((mc, fa, ca, ta), (t, tc, tn, th, tz), (rp, ri, ra, rn), (ty, C), (mo, I, bk, bc)) (((cap5, Fs), fm5), (cc5, ((ch1.reverse.map (fun e => [(e.1 : Int), (e.2.1 : Int), (e.2.2 : Int)])) ++ [[(f : Int), ((k + 1 : Nat) : Int), (t0 : Int)]])), (ct5, ((T.drop (T.length - t0)).reverse.map (fun e => [(e.1 : Int), (e.2 : Int)]))), ((fr.length : Int), (oA Fs cur), (pl0 : Int), (oA Fs none)), ((if false = true then 1 else 0), 0, 0), (N5, H5, Sz5), (A5, (nt.map (fun e => [(e.1 : Int), (e.2 : Int)])), (ns : Int), (nc0 : Int), (dp0 : Int), 101)) := ⟨h_23, h_25, ⟨h_20, okC6⟩, ⟨h_26, okT5⟩, hFrr6, ⟨h_27, ⟨h_28, okTC5⟩, ⟨h_29, okN5⟩, ⟨h_30, okH5⟩, h_31, hSz5⟩, ⟨h_32, ⟨h_33, okI5⟩, ⟨h_34, okA5⟩, ⟨h_35, okNt5⟩⟩, hcap5, ⟨by omega, by omega, by omega, by omega⟩, by omega, by omega⟩
        have eC6 : ((ch1.reverse.map (fun e => [(e.1 : Int), (e.2.1 : Int), (e.2.2 : Int)])) ++ [[(f : Int), ((k + 1 : Nat) : Int), (t0 : Int)]]) = (((f, k + 1, t0) :: ch1).reverse.map (fun e => [(e.1 : Int), (e.2.1 : Int), (e.2.2 : Int)])) := by simp
        rw [eC6] at hM6
        have hW6 : msW w_17 b1 b2 ((mc, fa, ca, ta), (t, tc, tn, th, tz), (rp, ri, ra, rn), (ty, C), (mo, I, bk, bc)) R Fs (0, 0, 101) ((fr, cls, (mmUn V T t0), ((f, k + 1, t0) :: ch1), (T.drop (T.length - t0))), (cur, pl0, none, false), tm, (na, ns, nc0, dp0), nt) := ⟨cap5, fm5, cc5, _, ct5, ((T.drop (T.length - t0)).reverse.map (fun e => [(e.1 : Int), (e.2 : Int)])), (fr.length : Int), (oA Fs cur), (pl0 : Int), (oA Fs none), (if false = true then 1 else 0), N5, H5, Sz5, A5, (nt.map (fun e => [(e.1 : Int), (e.2 : Int)])), (ns : Int), (nc0 : Int), (dp0 : Int), hM6, ⟨⟨(by first | rfl | omega | simp), hfl5, hJ5, hcn5, hFS5⟩, ⟨rfl, hcuL5, (by first | rfl | omega), rfl, hdeL5, rfl⟩, ⟨rfl, (fun e he => by
          rcases List.mem_cons.mp he with q | q
          · rw [q]; exact hff
          · exact hchL5 e (List.mem_cons_of_mem _ q))⟩, ⟨rfl, hTL5⟩, htm5, ⟨hA5, (by first | rfl | omega), (by first | rfl | omega), (by first | rfl | omega), rfl⟩⟩⟩
        refine zx_ivN (b := rp) (As := [zI 114, zI ((mmf fr f).1.1 : Int), zI ((mmf fr f).2.1.2.2 : Int)]) (st := []) dX4_goBack_171 zc_X4_162 h_32 rfl rfl rfl (Nat.le_of_ble_eq_true rfl) rfl (s_note hW6 (sg := 114) (p := (mmf fr f).1.1) (dd := (mmf fr f).2.1.2.2) (by decide) (by omega) (by omega)) (fun w7 hq => ?_)
        obtain ⟨hW7, hF7⟩ := hq
        obtain ⟨cap7, fm7, cc7, CH7, ct7, TR7, us7, cu7, pl7, de7, fl7, N7, H7, Sz7, A7, Nt7, sc7, nc7, dp7, hM7, hS7⟩ := id hW7
        obtain ⟨⟨hus7, hfl7, hJ7, hcn7, hFS7⟩, ⟨hcu7, hcuL7, hpl7, hde7, hdeL7, hfb7⟩, ⟨hCH7, hchL7⟩, ⟨hTR7, hTL7⟩, htm7, ⟨hA7, hsc7, hnc7, hdp7, hNt7⟩⟩ := id hS7
        subst hus7 hcu7 hpl7 hde7 hfb7 hCH7 hTR7 hsc7 hnc7 hdp7 hNt7
        obtain ⟨hmc7, hfa7, ⟨hca7, okC7⟩, ⟨hta7, okT7⟩, hFr7, ⟨ht07, ⟨htc7, okTC7⟩, ⟨htn7, okN7⟩, ⟨hth7, okH7⟩, htz7, hSz7⟩, ⟨hrp7, ⟨hri7, okI7⟩, ⟨hra7, okA7⟩, ⟨hrn7, okNt7⟩⟩, hcap7, hcct7, hrm17, hrm27⟩ := id hM7
        refine zx_aload_n (i := 0) dX4_goBack_174 rfl rfl ?_
        refine zx_aload_n (i := 3) dX4_goBack_175 rfl rfl ?_
        refine zx_aload (i := 4) dX4_goBack_176 rfl ?_
        refine zx_iload (i := 5) dX4_goBack_178 rfl ?_
        have h_36 : w7.1 pr_j = some (6, 0, [zI ((mmf fr f).1.1 : Int), zR (R.2.2.2.1 pr_j).1.2.1, zR (R.2.2.2.1 pr_j).1.2.2.1, zR (R.2.2.2.1 pr_j).1.2.2.2.1, zR (R.2.2.2.1 pr_j).1.2.2.2.2]) := hF7 _ _ h_21 (Or.inl (by simp))
        have h_37 : w7.1 ((R.2.2.2.1 pr_j).1.2.2.2.1) = some (164, pr_j, zLs (R.2.2.2.1 pr_j).2.2.2.1 ((R.2.2.2.1 pr_j).2.2.2.2)) := hF7 _ _ h_22 (Or.inl (by simp))
        refine zx_iv (b := pr_j) (As := [zI (k : Int)]) (st := [zR yf, zR mc]) (v := (some (zR a))) (w1 := w7) dX4_goBack_180 zc_X4_199 h_36 rfl rfl rfl (Nat.le_of_ble_eq_true rfl) rfl (by have q := c_X6_clauseAt (G := G) (d := d + 1) h_36 h_37 (fun y hy => ⟨_, _, hF7 _ _ (hmcF6 _ _ ((hP5.2.2.2.2.2.2 y (hsc2 y hy)).1.1) (Or.inl (by simp))) (Or.inl (by simp))⟩) (k : Int); rw [hla] at q; exact q) ?_
        refine zx_st (st1 := [zR a, zR yf, zR mc]) rfl ?_
        refine zx_ivN (b := mc) (As := [zR yf, zR a]) (st := []) dX4_goBack_183 zc_X4_195 hmc7 rfl rfl rfl (Nat.le_of_ble_eq_true rfl) rfl (c_X4_tryClause hM7 hyf rfl) (fun w8 hq => ?_)
        obtain ⟨hM8, hF8⟩ := hq
        refine zx_return dX4_goBack_186 rfl ?_
        have efin : mmBack (pgC R) ((fr, cls, V, ((f, k, t0) :: ch1), T), (cur, pl0, none, flb), tm, (na, ns, nc0, dp0), nt) = .inl ((fr, (mmUp cls f (R.2.2.2.2.2.1 a).1.1.toNat), (mmUn V T t0), ((f, k + 1, t0) :: ch1), (T.drop (T.length - t0))), ((some f), 0, none, false), tm, (na, ns, nc0, dp0), (mmNote nt 114 (mmf fr f).1.1 (mmf fr f).2.1.2.2)) := by
          show Sum.inl _ = Sum.inl _
          rw [if_pos hk1]
          rw [hgd]
        rw [efin]
        exact ⟨rfl, ⟨_, _, _, _, _, _, _, _, _, _, _, _, _, _, _, _, _, _, _, hM8, ⟨⟨(by first | rfl | omega | simp), hfl7, hJ7, (fun q hq => by unfold mmUp; rw [if_neg (by omega)]; exact hcn7 q hq), (fsR_cls hFS7 hJ7 hyf rfl hpa)⟩, ⟨(oA_some hyf).symm, (fun i h => by cases h; exact hff), (by first | rfl | omega), rfl, hdeL7, rfl⟩, ⟨rfl, hchL7⟩, ⟨rfl, hTL7⟩, htm7, ⟨hA7, (by first | rfl | omega), (by first | rfl | omega), (by first | rfl | omega), rfl⟩⟩⟩, (mcF_tr hmcF3 (mcF_tr hF5 (mcF_tr hmcF6 (mcF_tr hF7 hF8))))⟩
      · skip
        refine zx_aload_n (i := 0) dX4_goBack_0 rfl rfl ?_
        refine zx_iconst (v := 0) dX4_goBack_1 rfl (z32_lit (by decide) (by decide)) ?_
        obtain ⟨w_1, hw_2⟩ : ∃ ww, ww = zput w mc (4, 0, [zR t, zR fa, zR ca, zR ta, zR rp, zI (fr.length : Int), zP (oA Fs cur), zI (pl0 : Int), zN, zI 0, zI 0, zI 0]) := ⟨_, rfl⟩
        refine zx_put (w1 := w_1) dX4_goBack_2 zf_X4_57 hmc (Nat.le_of_ble_eq_true rfl) (zFt_bool (by first | exact Or.inl rfl | exact Or.inr rfl | exact zB_or | assumption)) (fun h => by cases h) hw_2.symm ?_
        have q_3 : w_1.2.1 = w.2.1 ∧ w_1.2.2 = w.2.2 := by rw [hw_2]; exact ⟨rfl, rfl⟩
        have h_4 : w_1.1 mc = some (4, 0, [zR t, zR fa, zR ca, zR ta, zR rp, zI (fr.length : Int), zP (oA Fs cur), zI (pl0 : Int), zN, zI 0, zI 0, zI 0]) := by rw [hw_2]; exact zput_at
        refine zx_aload_n (i := 0) dX4_goBack_5 rfl rfl ?_
        refine zx_getfield dX4_goBack_6 zf_X4_113 h_4 rfl ?_
        refine zx_astore_n (i := 1) dX4_goBack_9 rfl (by decide) rfl ?_
        refine zx_L (L1 := [some (zR mc), some (zN), none, none, none, none]) rfl ?_
        refine zx_aload_n (i := 1) dX4_goBack_10 rfl rfl ?_
        refine zx_ifnull (tgt := 55) dX4_goBack_11 (by decide) (fun _ => ?_) (fun h => absurd rfl h)
        refine zx_aload_n (i := 0) dX4_goBack_55 rfl rfl ?_
        refine zx_getfield dX4_goBack_56 zf_X4_31 h_4 rfl ?_
        have h_5 : w_1.1 ca = some (138, mc, tTb 3 cc ((ch1.reverse.map (fun e => [(e.1 : Int), (e.2.1 : Int), (e.2.2 : Int)])) ++ [[(f : Int), (k : Int), (t0 : Int)]])) := by
          rw [hw_2]; exact zput_tg hmc hca (by simp)
        refine zx_iv (b := ca) (As := []) (st := []) (v := (some (zI ((ch1.length + 1 : Nat) : Int)))) (w1 := w_1) dX4_goBack_59 zc_X4_186 h_5 (z_cls9 (by decide)) rfl rfl (Nat.le_of_ble_eq_true rfl) rfl (by have q := c_X9_count (G := G) (d := d + 4) h_5 (by decide) okC; rw [hCl] at q; exact q) ?_
        refine zx_st (st1 := [zI ((ch1.length + 1 : Nat) : Int)]) rfl ?_
        refine zx_pc (pc1 := 62) rfl ?_
        refine zx_iconst (v := 1) dX4_goBack_62 rfl (z32_lit (by decide) (by decide)) ?_
        refine zx_isub (v := (ch1.length : Int)) dX4_goBack_63 (zw_eq (by omega) (by omega) (by omega)) ?_
        refine zx_istore_n (i := 2) dX4_goBack_64 rfl (by decide) rfl ?_
        refine zx_L (L1 := [some (zR mc), some (zN), some (zI (ch1.length : Int)), none, none, none]) rfl ?_
        refine zx_aload_n (i := 0) dX4_goBack_65 rfl rfl ?_
        refine zx_aload_n (i := 0) dX4_goBack_66 rfl rfl ?_
        refine zx_getfield dX4_goBack_67 zf_X4_31 h_4 rfl ?_
        refine zx_iload_n (i := 2) dX4_goBack_70 rfl rfl ?_
        refine zx_iconst (v := 0) dX4_goBack_71 rfl (z32_lit (by decide) (by decide)) ?_
        refine zx_iv (b := ca) (As := [zI (ch1.length : Int), zI 0]) (st := [zR mc]) (v := (some (zI (f : Int)))) (w1 := w_1) dX4_goBack_72 zc_X4_226 h_5 (z_cls9 (by decide)) rfl rfl (Nat.le_of_ble_eq_true rfl) rfl (by have q := c_X9_get (G := G) (d := d + 4) h_5 (by decide) okC (ch1.length : Int) 0; rw [hgf] at q; exact q) ?_
        refine zx_st (st1 := [zI (f : Int), zR mc]) rfl ?_
        have hfaL3 : zFa [mc] w w_1 := (zFa_put zFa_re (by simp) hw_2)
        have hFrr3 := fm_keep hFr hfaL3 (zLc hmc (by simp) zLn)
        have hmcF3 : mcF rp w w_1 := mcF_fa hfaL3 (zLc hmc (by simp [mcP]) zLn)
        have h_6 : w_1.1 fa = some (166, mc, zLs cap Fs) := by
          rw [hw_2]; exact zput_tg hmc hfa (by simp)
        have h_7 : w_1.1 ta = some (139, mc, tTb 2 ct (T.reverse.map (fun e => [(e.1 : Int), (e.2 : Int)]))) := by
          rw [hw_2]; exact zput_tg hmc hta (by simp)
        have h_8 : w_1.1 t = some (10, 0, [zI ty, zR tc, zR tn, zR th, zR tz]) := by
          rw [hw_2]; exact zput_tg hmc ht0 (by simp)
        have h_9 : w_1.1 tc = some (130, t, tTb 3 30 C) := by
          rw [hw_2]; exact zput_tg hmc htc (by simp)
        have h_10 : w_1.1 tn = some (131, t, tTb 4 800 N) := by
          rw [hw_2]; exact zput_tg hmc htn (by simp)
        have h_11 : w_1.1 th = some (132, t, tTb 1 64 H) := by
          rw [hw_2]; exact zput_tg hmc hth (by simp)
        have h_12 : w_1.1 tz = some (120, t, Sz.map zJ) := by
          rw [hw_2]; exact zput_tg hmc htz (by simp)
        have h_13 : w_1.1 rp = some (8, 0, [zP mo, zR ri, zR ra, zR rn, zI (ns : Int), zI (nc0 : Int), zI (dp0 : Int), zI 101, zI bk, zI bc]) := by
          rw [hw_2]; exact zput_tg hmc hrp (by simp)
        have h_14 : w_1.1 ri = some (135, rp, tTb 1 3 I) := by
          rw [hw_2]; exact zput_tg hmc hri (by simp)
        have h_15 : w_1.1 ra = some (136, rp, tTb 3 150 A) := by
          rw [hw_2]; exact zput_tg hmc hra (by simp)
        have h_16 : w_1.1 rn = some (137, rp, tTb 2 160 (nt.map (fun e => [(e.1 : Int), (e.2 : Int)]))) := by
          rw [hw_2]; exact zput_tg hmc hrn (by simp)
        have hM3 : mcW w_1 b1 b2 ((mc, fa, ca, ta), (t, tc, tn, th, tz), (rp, ri, ra, rn), (ty, C), (mo, I, bk, bc)) (((cap, Fs), fm), (cc, ((ch1.reverse.map (fun e => [(e.1 : Int), (e.2.1 : Int), (e.2.2 : Int)])) ++ [[(f : Int), (k : Int), (t0 : Int)]])), (ct, (T.reverse.map (fun e => [(e.1 : Int), (e.2 : Int)]))), ((fr.length : Int), (oA Fs cur), (pl0 : Int), none), (0, 0, 0), (N, H, Sz), (A, (nt.map (fun e => [(e.1 : Int), (e.2 : Int)])), (ns : Int), (nc0 : Int), (dp0 : Int), 101)) := ⟨h_4, h_6, ⟨h_5, okC⟩, ⟨h_7, okT⟩, hFrr3, ⟨h_8, ⟨h_9, okTC⟩, ⟨h_10, okN⟩, ⟨h_11, okH⟩, h_12, hSz⟩, ⟨h_13, ⟨h_14, okI⟩, ⟨h_15, okA⟩, ⟨h_16, okNt⟩⟩, hcap, ⟨by omega, by omega, by omega, by omega⟩, by omega, by omega⟩
        refine zx_iv (b := mc) (As := [zI (f : Int)]) (st := []) (v := (some (zR yf))) (w1 := w_1) dX4_goBack_75 zc_X4_228 h_4 rfl rfl rfl (Nat.le_of_ble_eq_true rfl) rfl (by have q := c_X4_frameAt (G := G) (d := d + 1) hM3 (f : Int); rw [hlaf] at q; exact q) ?_
        refine zx_st (st1 := [zR yf]) rfl ?_
        refine zx_astore_n (i := 3) dX4_goBack_78 rfl (by decide) rfl ?_
        refine zx_L (L1 := [some (zR mc), some (zN), some (zI (ch1.length : Int)), some (zR yf), none, none]) rfl ?_
        refine zx_aload_n (i := 3) dX4_goBack_79 rfl rfl ?_
        refine zx_pc (pc1 := 80) rfl ?_
        refine zx_ifnonnull (tgt := 90) dX4_goBack_80 (by decide) (fun _ => ?_) (fun h => by cases h)
        refine zx_aload_n (i := 0) dX4_goBack_90 rfl rfl ?_
        refine zx_aload_n (i := 0) dX4_goBack_91 rfl rfl ?_
        refine zx_getfield dX4_goBack_92 zf_X4_31 h_4 rfl ?_
        refine zx_iload_n (i := 2) dX4_goBack_95 rfl rfl ?_
        refine zx_iconst (v := 2) dX4_goBack_96 rfl (z32_lit (by decide) (by decide)) ?_
        refine zx_iv (b := ca) (As := [zI (ch1.length : Int), zI 2]) (st := [zR mc]) (v := (some (zI (t0 : Int)))) (w1 := w_1) dX4_goBack_97 zc_X4_226 h_5 (z_cls9 (by decide)) rfl rfl (Nat.le_of_ble_eq_true rfl) rfl (by have q := c_X9_get (G := G) (d := d + 4) h_5 (by decide) okC (ch1.length : Int) 2; rw [hgt] at q; exact q) ?_
        refine zx_st (st1 := [zI (t0 : Int), zR mc]) rfl ?_
        refine zx_ivN (b := mc) (As := [zI (t0 : Int)]) (st := []) dX4_goBack_100 zc_X4_236 h_4 rfl rfl rfl (Nat.le_of_ble_eq_true rfl) rfl (c_X4_undo hM3 t0 (by omega) (by omega) (un_row hfl hTL)) (fun w5 hq => ?_)
        obtain ⟨hM5r, hF5⟩ := hq
        rw [tr_cut (by omega), ← eCH] at hM5r
        have hW5 : msW w5 b1 b2 ((mc, fa, ca, ta), (t, tc, tn, th, tz), (rp, ri, ra, rn), (ty, C), (mo, I, bk, bc)) R Fs (0, 0, 101) ((fr, cls, (mmUn V T t0), ((f, k, t0) :: ch1), (T.drop (T.length - t0))), (cur, pl0, none, false), tm, (na, ns, nc0, dp0), nt) := ⟨cap, (unN Fs (T.reverse.map (fun e => [(e.1 : Int), (e.2 : Int)])) t0 ((T.reverse.map (fun e => [(e.1 : Int), (e.2 : Int)])).length - t0) fm), cc, _, ct, _, (fr.length : Int), (oA Fs cur), (pl0 : Int), _, 0, N, H, Sz, A, (nt.map (fun e => [(e.1 : Int), (e.2 : Int)])), (ns : Int), (nc0 : Int), (dp0 : Int), hM5r, ⟨⟨(by first | rfl | omega | simp), hfl, hJ, hcn, (un_all hJ hfl hTL (by omega) hFS)⟩, ⟨rfl, hcuL, (by first | rfl | omega), rfl, hdeL, rfl⟩, ⟨rfl, hchL⟩, ⟨rfl, (fun e he => hTL e (List.mem_of_mem_drop he))⟩, htm, ⟨hA, (by first | rfl | omega), (by first | rfl | omega), (by first | rfl | omega), rfl⟩⟩⟩
        obtain ⟨cap5, fm5, cc5, CH5, ct5, TR5, us5, cu5, pl5, de5, fl5, N5, H5, Sz5, A5, Nt5, sc5, nc5, dp5, hM5, hS5⟩ := id hW5
        obtain ⟨⟨hus5, hfl5, hJ5, hcn5, hFS5⟩, ⟨hcu5, hcuL5, hpl5, hde5, hdeL5, hfb5⟩, ⟨hCH5, hchL5⟩, ⟨hTR5, hTL5⟩, htm5, ⟨hA5, hsc5, hnc5, hdp5, hNt5⟩⟩ := id hS5
        subst hus5 hcu5 hpl5 hde5 hfb5 hCH5 hTR5 hsc5 hnc5 hdp5 hNt5
        obtain ⟨hmc5, hfa5, ⟨hca5, okC5⟩, ⟨hta5, okT5⟩, hFr5, ⟨ht05, ⟨htc5, okTC5⟩, ⟨htn5, okN5⟩, ⟨hth5, okH5⟩, htz5, hSz5⟩, ⟨hrp5, ⟨hri5, okI5⟩, ⟨hra5, okA5⟩, ⟨hrn5, okNt5⟩⟩, hcap5, hcct5, hrm15, hrm25⟩ := id hM5
        obtain ⟨⟨⟨va_j, md_j⟩, ⟨fca_j, fbt_j, fdp_j⟩, ⟨fcl_j, fdn_j, fod_j, fcb_j⟩, xs_j⟩, efm_j⟩ : ∃ r, fm5 yf = r := ⟨_, rfl⟩
        obtain ⟨hfy_j, hva_j, hx_j⟩ := hFr5 f yf hyf
        rw [efm_j] at hfy_j hva_j hx_j
        have hx_j : xs_j.length = 8 := hx_j
        obtain ⟨hmd_j, ⟨hcb1_j, hcb2_j⟩, ⟨hcb3_j, hcb4_j, hcb5_j⟩, ⟨-, hxv_j⟩, hdq_j⟩ := hFS5 f yf hff hyf
        rw [efm_j] at hmd_j hcb1_j hcb3_j hxv_j
        simp only [Prod.mk.injEq] at hcb1_j hcb3_j
        obtain ⟨ea1_j, ea2_j, ea3_j⟩ := hcb1_j
        obtain ⟨eb1_j, eb2_j, eb3_j, eb4_j⟩ := hcb3_j
        subst ea1_j ea2_j ea3_j eb1_j eb2_j eb3_j eb4_j
        have hP5 : pgW w5 pg R := pgW_TM hP (mcF_fr (mcF_tr hmcF3 hF5))
        have hEC5 := eCH
        rw [eCH] at hM5 hca5 okC5
        obtain ⟨pr_j, ins_j, pm_j, lo_j, gd_j, cf_j, cr_j, sw_j, emr_j, hmo_j, hpp_j, hpn_j, hpm_j, hm2_j, hin_j, hsw_j, hsr_j, hmm_j⟩ := md_get hK hP5 hmd_j
        obtain ⟨⟨hpy, ⟨htt, okTT⟩, hml, hcl0⟩, hsm, hsc2, -⟩ := hP5.2.2.2.2.1 pr_j hpm_j
        rw [hpn_j] at hpy
        have hp5 : (mmf fr f).1.1 < 5 := (hK.1 _ _ _ hmd_j).2.2.2.2
        have hclc : (pgC R).1.1.1 (mmf fr f).1.1 = (R.2.2.2.1 pr_j).2.2.2.2.map (fun a => (R.2.2.2.2.2.1 a).1.1.toNat) := rd_cs hpp_j
        have hcll : ((pgC R).1.1.1 (mmf fr f).1.1).length = (R.2.2.2.1 pr_j).2.2.2.2.length := by rw [hclc, List.length_map]
        obtain ⟨a, hka⟩ : ∃ a, (R.2.2.2.1 pr_j).2.2.2.2[k]? = some a := ⟨_, List.getElem?_eq_getElem (by omega)⟩
        have hla : lAt (R.2.2.2.1 pr_j).2.2.2.2 (k : Int) = some a := lAt_in (by omega) (by rw [Int.toNat_natCast]; exact hka)
        have hpa := rd_cl hK (hsc2 a (List.mem_of_getElem? hka))
        have hgd : ((pgC R).1.1.1 (mmf fr f).1.1).getD k 0 = (R.2.2.2.2.2.1 a).1.1.toNat := by rw [hclc, List.getD_eq_getElem?_getD, List.getElem?_map, hka]; rfl
        have hk12 := (hK.2.2.1 pr_j hpm_j).1
        have helC : ∀ a ∈ (R.2.2.2.1 pr_j).2.2.2.2, ∃ x y, w5.1 a = some ((1, x, y) : zO) := fun a ha => ⟨_, _, (hP5.2.2.2.2.2.2 a (hsc2 a ha)).1.1⟩
        refine zx_aload_n (i := 3) dX4_goBack_103 rfl rfl ?_
        refine zx_getfield dX4_goBack_104 zf_X4_73 hfy_j rfl ?_
        refine zx_getfield dX4_goBack_107 zf_X4_152 hmo_j rfl ?_
        refine zx_astore (i := 4) dX4_goBack_110 (by decide) rfl ?_
        refine zx_L (L1 := [some (zR mc), some (zN), some (zI (ch1.length : Int)), some (zR yf), some (zR pr_j), none]) rfl ?_
        refine zx_pc (pc1 := 112) rfl ?_
        refine zx_aload_n (i := 0) dX4_goBack_112 rfl rfl ?_
        refine zx_getfield dX4_goBack_113 zf_X4_31 hmc5 rfl ?_
        refine zx_iload_n (i := 2) dX4_goBack_116 rfl rfl ?_
        refine zx_iconst (v := 1) dX4_goBack_117 rfl (z32_lit (by decide) (by decide)) ?_
        refine zx_iv (b := ca) (As := [zI (ch1.length : Int), zI 1]) (st := []) (v := (some (zI (k : Int)))) (w1 := w5) dX4_goBack_118 zc_X4_226 hca5 (z_cls9 (by decide)) rfl rfl (Nat.le_of_ble_eq_true rfl) rfl (by have q := c_X9_get (G := G) (d := d + 4) hca5 (by decide) okC5 (ch1.length : Int) 1; rw [hgk] at q; exact q) ?_
        refine zx_st (st1 := [zI (k : Int)]) rfl ?_
        refine zx_istore (i := 5) dX4_goBack_121 (by decide) rfl ?_
        refine zx_L (L1 := [some (zR mc), some (zN), some (zI (ch1.length : Int)), some (zR yf), some (zR pr_j), some (zI (k : Int))]) rfl ?_
        refine zx_aload_n (i := 0) dX4_goBack_123 rfl rfl ?_
        refine zx_getfield dX4_goBack_124 zf_X4_31 hmc5 rfl ?_
        refine zx_iload_n (i := 2) dX4_goBack_127 rfl rfl ?_
        refine zx_iconst (v := 1) dX4_goBack_128 rfl (z32_lit (by decide) (by decide)) ?_
        refine zx_iload (i := 5) dX4_goBack_129 rfl ?_
        refine zx_iconst (v := 1) dX4_goBack_131 rfl (z32_lit (by decide) (by decide)) ?_
        refine zx_pc (pc1 := 132) rfl ?_
        refine zx_iadd (v := ((k + 1 : Nat) : Int)) dX4_goBack_132 (zw_eq (by omega) (by omega) (by omega)) ?_
        obtain ⟨w_17, hw_18⟩ : ∃ ww, ww = zput w5 ca (138, mc, tTb 3 cc5 ((ch1.reverse.map (fun e => [(e.1 : Int), (e.2.1 : Int), (e.2.2 : Int)])) ++ [[(f : Int), ((k + 1 : Nat) : Int), (t0 : Int)]])) := ⟨_, rfl⟩
        have q_19 : w_17.2.1 = w5.2.1 ∧ w_17.2.2 = w5.2.2 := by rw [hw_18]; exact ⟨rfl, rfl⟩
        have h_20 : w_17.1 ca = some (138, mc, tTb 3 cc5 ((ch1.reverse.map (fun e => [(e.1 : Int), (e.2.1 : Int), (e.2.2 : Int)])) ++ [[(f : Int), ((k + 1 : Nat) : Int), (t0 : Int)]])) := by rw [hw_18]; exact zput_at
        refine zx_iv (b := ca) (As := [zI (ch1.length : Int), zI 1, zI ((k + 1 : Nat) : Int)]) (st := []) (v := none) (w1 := w_17) dX4_goBack_133 zc_X4_239 hca5 (z_cls9 (by decide)) rfl rfl (Nat.le_of_ble_eq_true rfl) rfl (by rw [hw_18]; exact (by have q := c_X9_set (G := G) (d := d + 4) hca5 (by decide) okC5 (ch1.length : Int) 1 ((k + 1 : Nat) : Int); rw [hts] at q; exact q)) ?_
        have okC6 : tOk 3 ((ch1.reverse.map (fun e => [(e.1 : Int), (e.2.1 : Int), (e.2.2 : Int)])) ++ [[(f : Int), ((k + 1 : Nat) : Int), (t0 : Int)]]) := by have q := tOk_ts (i := (ch1.length : Int)) (j := 1) (v := ((k + 1 : Nat) : Int)) okC5; rw [hts] at q; exact q
        refine zx_st (st1 := []) rfl ?_
        refine zx_iload (i := 5) dX4_goBack_136 rfl ?_
        refine zx_iconst (v := 1) dX4_goBack_138 rfl (z32_lit (by decide) (by decide)) ?_
        refine zx_iadd (v := ((k + 1 : Nat) : Int)) dX4_goBack_139 (zw_eq (by omega) (by omega) (by omega)) ?_
        refine zx_aload (i := 4) dX4_goBack_140 rfl ?_
        have h_21 : w_17.1 pr_j = some (6, 0, [zI ((mmf fr f).1.1 : Int), zR (R.2.2.2.1 pr_j).1.2.1, zR (R.2.2.2.1 pr_j).1.2.2.1, zR (R.2.2.2.1 pr_j).1.2.2.2.1, zR (R.2.2.2.1 pr_j).1.2.2.2.2]) := by
          rw [hw_18]; exact zput_tg hca5 hpy (by simp)
        have h_22 : w_17.1 ((R.2.2.2.1 pr_j).1.2.2.2.1) = some (164, pr_j, zLs (R.2.2.2.1 pr_j).2.2.2.1 ((R.2.2.2.1 pr_j).2.2.2.2)) := by
          rw [hw_18]; exact zput_tg hca5 hcl0 (by simp)
        refine zx_iv (b := pr_j) (As := []) (st := [zI ((k + 1 : Nat) : Int)]) (v := (some (zI ((R.2.2.2.1 pr_j).2.2.2.2.length : Int)))) (w1 := w_17) dX4_goBack_142 zc_X4_182 h_21 rfl rfl rfl (Nat.le_of_ble_eq_true rfl) rfl (c_X6_clauseCount h_21 h_22) ?_
        refine zx_st (st1 := [zI ((R.2.2.2.1 pr_j).2.2.2.2.length : Int), zI ((k + 1 : Nat) : Int)]) rfl ?_
        refine zx_icmp_lt (tgt := 156) dX4_goBack_145 (by decide) (fun h145 => absurd h145 (by omega)) (fun h145 => ?_)
        refine zx_aload_n (i := 0) dX4_goBack_148 rfl rfl ?_
        have h_23 : w_17.1 mc = some (4, 0, [zR t, zR fa, zR ca, zR ta, zR rp, zI (fr.length : Int), zP (oA Fs cur), zI (pl0 : Int), zP (oA Fs none), zI (if false = true then 1 else 0), zI 0, zI 0]) := by
          rw [hw_18]; exact zput_tg hca5 hmc5 (by simp)
        refine zx_getfield dX4_goBack_149 zf_X4_31 h_23 rfl ?_
        refine zx_iload_n (i := 2) dX4_goBack_152 rfl rfl ?_
        obtain ⟨w_24, hw_25⟩ : ∃ ww, ww = zput w_17 ca (138, mc, tTb 3 cc5 (ch1.reverse.map (fun e => [(e.1 : Int), (e.2.1 : Int), (e.2.2 : Int)]))) := ⟨_, rfl⟩
        have q_26 : w_24.2.1 = w_17.2.1 ∧ w_24.2.2 = w_17.2.2 := by rw [hw_25]; exact ⟨rfl, rfl⟩
        have h_27 : w_24.1 ca = some (138, mc, tTb 3 cc5 (ch1.reverse.map (fun e => [(e.1 : Int), (e.2.1 : Int), (e.2.2 : Int)]))) := by rw [hw_25]; exact zput_at
        refine zx_iv (b := ca) (As := [zI (ch1.length : Int)]) (st := []) (v := none) (w1 := w_24) dX4_goBack_153 zc_X4_107 h_20 (z_cls9 (by decide)) rfl rfl (Nat.le_of_ble_eq_true rfl) rfl (by rw [hw_25]; exact (by have q := c_X9_cut (G := G) (d := d + 4) h_20 (by decide) okC6 (ch1.length : Int); rw [tcut_last hRl] at q; exact q)) ?_
        have okC7 : tOk 3 (ch1.reverse.map (fun e => [(e.1 : Int), (e.2.1 : Int), (e.2.2 : Int)])) := by have q := tOk_cut (n := (ch1.length : Int)) okC6; rw [tcut_last hRl] at q; exact q
        refine zx_st (st1 := []) rfl ?_
        refine zx_pc (pc1 := 156) rfl ?_
        refine zx_aload_n (i := 0) dX4_goBack_156 rfl rfl ?_
        have h_28 : w_24.1 mc = some (4, 0, [zR t, zR fa, zR ca, zR ta, zR rp, zI (fr.length : Int), zP (oA Fs cur), zI (pl0 : Int), zP (oA Fs none), zI (if false = true then 1 else 0), zI 0, zI 0]) := by
          rw [hw_25]; exact zput_tg h_20 h_23 (by simp)
        refine zx_getfield dX4_goBack_157 zf_X4_15 h_28 rfl ?_
        refine zx_bipush (v := 114) dX4_goBack_160 (by decide +kernel) (z32_lit (by decide) (by decide)) ?_
        refine zx_aload (i := 4) dX4_goBack_162 rfl ?_
        have h_29 : w_24.1 pr_j = some (6, 0, [zI ((mmf fr f).1.1 : Int), zR (R.2.2.2.1 pr_j).1.2.1, zR (R.2.2.2.1 pr_j).1.2.2.1, zR (R.2.2.2.1 pr_j).1.2.2.2.1, zR (R.2.2.2.1 pr_j).1.2.2.2.2]) := by
          rw [hw_25]; exact zput_tg h_20 h_21 (by simp)
        refine zx_getfield dX4_goBack_164 zf_X4_156 h_29 rfl ?_
        refine zx_aload_n (i := 3) dX4_goBack_167 rfl rfl ?_
        have h_30 : w_17.1 yf = some (2, 0, [zI (f : Int), zR va_j, zR md_j, zP (oA Fs (mmf fr f).2.1.1), zI ((mmf fr f).2.1.2.1 : Int), zI ((mmf fr f).2.1.2.2 : Int), zP ((cls f).bind (pgCl R)), zI (if (mmf fr f).2.2.1 = true then 1 else 0), zP (oA Fs (mmf fr f).2.2.2.1), zI ((mmf fr f).2.2.2.2 : Int)]) := by
          rw [hw_18]; exact zput_tg hca5 hfy_j (by simp)
        have h_31 : w_24.1 yf = some (2, 0, [zI (f : Int), zR va_j, zR md_j, zP (oA Fs (mmf fr f).2.1.1), zI ((mmf fr f).2.1.2.1 : Int), zI ((mmf fr f).2.1.2.2 : Int), zP ((cls f).bind (pgCl R)), zI (if (mmf fr f).2.2.1 = true then 1 else 0), zP (oA Fs (mmf fr f).2.2.2.1), zI ((mmf fr f).2.2.2.2 : Int)]) := by
          rw [hw_25]; exact zput_tg h_20 h_30 (by simp)
        refine zx_getfield dX4_goBack_168 zf_X4_159 h_31 rfl ?_
        have hfaL6 : zFa [ca] w5 w_24 := (zFa_put (zFa_put zFa_re (by simp) hw_18) (by simp) hw_25)
        have hFrr6 := fm_keep hFr5 hfaL6 (zLc hca5 (by simp) zLn)
        have hmcF6 : mcF rp w5 w_24 := mcF_fa hfaL6 (zLc hca5 (by simp [mcP]) zLn)
        have h_32 : w_17.1 fa = some (166, mc, zLs cap5 Fs) := by
          rw [hw_18]; exact zput_tg hca5 hfa5 (by simp)
        have h_33 : w_24.1 fa = some (166, mc, zLs cap5 Fs) := by
          rw [hw_25]; exact zput_tg h_20 h_32 (by simp)
        have h_34 : w_17.1 ta = some (139, mc, tTb 2 ct5 ((T.drop (T.length - t0)).reverse.map (fun e => [(e.1 : Int), (e.2 : Int)]))) := by
          rw [hw_18]; exact zput_tg hca5 hta5 (by simp)
        have h_35 : w_24.1 ta = some (139, mc, tTb 2 ct5 ((T.drop (T.length - t0)).reverse.map (fun e => [(e.1 : Int), (e.2 : Int)]))) := by
          rw [hw_25]; exact zput_tg h_20 h_34 (by simp)
        have h_36 : w_17.1 t = some (10, 0, [zI ty, zR tc, zR tn, zR th, zR tz]) := by
          rw [hw_18]; exact zput_tg hca5 ht05 (by simp)
        have h_37 : w_24.1 t = some (10, 0, [zI ty, zR tc, zR tn, zR th, zR tz]) := by
          rw [hw_25]; exact zput_tg h_20 h_36 (by simp)
        have h_38 : w_17.1 tc = some (130, t, tTb 3 30 C) := by
          rw [hw_18]; exact zput_tg hca5 htc5 (by simp)
        have h_39 : w_24.1 tc = some (130, t, tTb 3 30 C) := by
          rw [hw_25]; exact zput_tg h_20 h_38 (by simp)
        have h_40 : w_17.1 tn = some (131, t, tTb 4 800 N5) := by
          rw [hw_18]; exact zput_tg hca5 htn5 (by simp)
        have h_41 : w_24.1 tn = some (131, t, tTb 4 800 N5) := by
          rw [hw_25]; exact zput_tg h_20 h_40 (by simp)
        have h_42 : w_17.1 th = some (132, t, tTb 1 64 H5) := by
          rw [hw_18]; exact zput_tg hca5 hth5 (by simp)
        have h_43 : w_24.1 th = some (132, t, tTb 1 64 H5) := by
          rw [hw_25]; exact zput_tg h_20 h_42 (by simp)
        have h_44 : w_17.1 tz = some (120, t, Sz5.map zJ) := by
          rw [hw_18]; exact zput_tg hca5 htz5 (by simp)
        have h_45 : w_24.1 tz = some (120, t, Sz5.map zJ) := by
          rw [hw_25]; exact zput_tg h_20 h_44 (by simp)
        have h_46 : w_17.1 rp = some (8, 0, [zP mo, zR ri, zR ra, zR rn, zI (ns : Int), zI (nc0 : Int), zI (dp0 : Int), zI 101, zI bk, zI bc]) := by
          rw [hw_18]; exact zput_tg hca5 hrp5 (by simp)
        have h_47 : w_24.1 rp = some (8, 0, [zP mo, zR ri, zR ra, zR rn, zI (ns : Int), zI (nc0 : Int), zI (dp0 : Int), zI 101, zI bk, zI bc]) := by
          rw [hw_25]; exact zput_tg h_20 h_46 (by simp)
        have h_48 : w_17.1 ri = some (135, rp, tTb 1 3 I) := by
          rw [hw_18]; exact zput_tg hca5 hri5 (by simp)
        have h_49 : w_24.1 ri = some (135, rp, tTb 1 3 I) := by
          rw [hw_25]; exact zput_tg h_20 h_48 (by simp)
        have h_50 : w_17.1 ra = some (136, rp, tTb 3 150 A5) := by
          rw [hw_18]; exact zput_tg hca5 hra5 (by simp)
        have h_51 : w_24.1 ra = some (136, rp, tTb 3 150 A5) := by
          rw [hw_25]; exact zput_tg h_20 h_50 (by simp)
        have h_52 : w_17.1 rn = some (137, rp, tTb 2 160 (nt.map (fun e => [(e.1 : Int), (e.2 : Int)]))) := by
          rw [hw_18]; exact zput_tg hca5 hrn5 (by simp)
        have h_53 : w_24.1 rn = some (137, rp, tTb 2 160 (nt.map (fun e => [(e.1 : Int), (e.2 : Int)]))) := by
          rw [hw_25]; exact zput_tg h_20 h_52 (by simp)
        have hM6 : mcW w_24 b1 b2 ((mc, fa, ca, ta), (t, tc, tn, th, tz), (rp, ri, ra, rn), (ty, C), (mo, I, bk, bc)) (((cap5, Fs), fm5), (cc5, (ch1.reverse.map (fun e => [(e.1 : Int), (e.2.1 : Int), (e.2.2 : Int)]))), (ct5, ((T.drop (T.length - t0)).reverse.map (fun e => [(e.1 : Int), (e.2 : Int)]))), ((fr.length : Int), (oA Fs cur), (pl0 : Int), (oA Fs none)), ((if false = true then 1 else 0), 0, 0), (N5, H5, Sz5), (A5, (nt.map (fun e => [(e.1 : Int), (e.2 : Int)])), (ns : Int), (nc0 : Int), (dp0 : Int), 101)) := ⟨h_28, h_33, ⟨h_27, okC7⟩, ⟨h_35, okT5⟩, hFrr6, ⟨h_37, ⟨h_39, okTC5⟩, ⟨h_41, okN5⟩, ⟨h_43, okH5⟩, h_45, hSz5⟩, ⟨h_47, ⟨h_49, okI5⟩, ⟨h_51, okA5⟩, ⟨h_53, okNt5⟩⟩, hcap5, ⟨by omega, by omega, by omega, by omega⟩, by omega, by omega⟩
        have hW6 : msW w_24 b1 b2 ((mc, fa, ca, ta), (t, tc, tn, th, tz), (rp, ri, ra, rn), (ty, C), (mo, I, bk, bc)) R Fs (0, 0, 101) ((fr, cls, (mmUn V T t0), ch1, (T.drop (T.length - t0))), (cur, pl0, none, false), tm, (na, ns, nc0, dp0), nt) := ⟨cap5, fm5, cc5, _, ct5, ((T.drop (T.length - t0)).reverse.map (fun e => [(e.1 : Int), (e.2 : Int)])), (fr.length : Int), (oA Fs cur), (pl0 : Int), (oA Fs none), (if false = true then 1 else 0), N5, H5, Sz5, A5, (nt.map (fun e => [(e.1 : Int), (e.2 : Int)])), (ns : Int), (nc0 : Int), (dp0 : Int), hM6, ⟨⟨(by first | rfl | omega | simp), hfl5, hJ5, hcn5, hFS5⟩, ⟨rfl, hcuL5, (by first | rfl | omega), rfl, hdeL5, rfl⟩, ⟨rfl, (fun e he => hchL5 e (List.mem_cons_of_mem _ he))⟩, ⟨rfl, hTL5⟩, htm5, ⟨hA5, (by first | rfl | omega), (by first | rfl | omega), (by first | rfl | omega), rfl⟩⟩⟩
        refine zx_ivN (b := rp) (As := [zI 114, zI ((mmf fr f).1.1 : Int), zI ((mmf fr f).2.1.2.2 : Int)]) (st := []) dX4_goBack_171 zc_X4_162 h_47 rfl rfl rfl (Nat.le_of_ble_eq_true rfl) rfl (s_note hW6 (sg := 114) (p := (mmf fr f).1.1) (dd := (mmf fr f).2.1.2.2) (by decide) (by omega) (by omega)) (fun w7 hq => ?_)
        obtain ⟨hW7, hF7⟩ := hq
        obtain ⟨cap7, fm7, cc7, CH7, ct7, TR7, us7, cu7, pl7, de7, fl7, N7, H7, Sz7, A7, Nt7, sc7, nc7, dp7, hM7, hS7⟩ := id hW7
        obtain ⟨⟨hus7, hfl7, hJ7, hcn7, hFS7⟩, ⟨hcu7, hcuL7, hpl7, hde7, hdeL7, hfb7⟩, ⟨hCH7, hchL7⟩, ⟨hTR7, hTL7⟩, htm7, ⟨hA7, hsc7, hnc7, hdp7, hNt7⟩⟩ := id hS7
        subst hus7 hcu7 hpl7 hde7 hfb7 hCH7 hTR7 hsc7 hnc7 hdp7 hNt7
        obtain ⟨hmc7, hfa7, ⟨hca7, okC7⟩, ⟨hta7, okT7⟩, hFr7, ⟨ht07, ⟨htc7, okTC7⟩, ⟨htn7, okN7⟩, ⟨hth7, okH7⟩, htz7, hSz7⟩, ⟨hrp7, ⟨hri7, okI7⟩, ⟨hra7, okA7⟩, ⟨hrn7, okNt7⟩⟩, hcap7, hcct7, hrm17, hrm27⟩ := id hM7
        refine zx_aload_n (i := 0) dX4_goBack_174 rfl rfl ?_
        refine zx_aload_n (i := 3) dX4_goBack_175 rfl rfl ?_
        refine zx_aload (i := 4) dX4_goBack_176 rfl ?_
        refine zx_iload (i := 5) dX4_goBack_178 rfl ?_
        refine zx_pc (pc1 := 180) rfl ?_
        have h_54 : w7.1 pr_j = some (6, 0, [zI ((mmf fr f).1.1 : Int), zR (R.2.2.2.1 pr_j).1.2.1, zR (R.2.2.2.1 pr_j).1.2.2.1, zR (R.2.2.2.1 pr_j).1.2.2.2.1, zR (R.2.2.2.1 pr_j).1.2.2.2.2]) := hF7 _ _ h_29 (Or.inl (by simp))
        have h_55 : w_24.1 ((R.2.2.2.1 pr_j).1.2.2.2.1) = some (164, pr_j, zLs (R.2.2.2.1 pr_j).2.2.2.1 ((R.2.2.2.1 pr_j).2.2.2.2)) := by
          rw [hw_25]; exact zput_tg h_20 h_22 (by simp)
        have h_56 : w7.1 ((R.2.2.2.1 pr_j).1.2.2.2.1) = some (164, pr_j, zLs (R.2.2.2.1 pr_j).2.2.2.1 ((R.2.2.2.1 pr_j).2.2.2.2)) := hF7 _ _ h_55 (Or.inl (by simp))
        refine zx_iv (b := pr_j) (As := [zI (k : Int)]) (st := [zR yf, zR mc]) (v := (some (zR a))) (w1 := w7) dX4_goBack_180 zc_X4_199 h_54 rfl rfl rfl (Nat.le_of_ble_eq_true rfl) rfl (by have q := c_X6_clauseAt (G := G) (d := d + 1) h_54 h_56 (fun y hy => ⟨_, _, hF7 _ _ (hmcF6 _ _ ((hP5.2.2.2.2.2.2 y (hsc2 y hy)).1.1) (Or.inl (by simp))) (Or.inl (by simp))⟩) (k : Int); rw [hla] at q; exact q) ?_
        refine zx_st (st1 := [zR a, zR yf, zR mc]) rfl ?_
        refine zx_ivN (b := mc) (As := [zR yf, zR a]) (st := []) dX4_goBack_183 zc_X4_195 hmc7 rfl rfl rfl (Nat.le_of_ble_eq_true rfl) rfl (c_X4_tryClause hM7 hyf rfl) (fun w8 hq => ?_)
        obtain ⟨hM8, hF8⟩ := hq
        refine zx_return dX4_goBack_186 rfl ?_
        have efin : mmBack (pgC R) ((fr, cls, V, ((f, k, t0) :: ch1), T), (cur, pl0, none, flb), tm, (na, ns, nc0, dp0), nt) = .inl ((fr, (mmUp cls f (R.2.2.2.2.2.1 a).1.1.toNat), (mmUn V T t0), ch1, (T.drop (T.length - t0))), ((some f), 0, none, false), tm, (na, ns, nc0, dp0), (mmNote nt 114 (mmf fr f).1.1 (mmf fr f).2.1.2.2)) := by
          show Sum.inl _ = Sum.inl _
          rw [if_neg hk1]
          rw [hgd]
        rw [efin]
        exact ⟨rfl, ⟨_, _, _, _, _, _, _, _, _, _, _, _, _, _, _, _, _, _, _, hM8, ⟨⟨(by first | rfl | omega | simp), hfl7, hJ7, (fun q hq => by unfold mmUp; rw [if_neg (by omega)]; exact hcn7 q hq), (fsR_cls hFS7 hJ7 hyf rfl hpa)⟩, ⟨(oA_some hyf).symm, (fun i h => by cases h; exact hff), (by first | rfl | omega), rfl, hdeL7, rfl⟩, ⟨rfl, hchL7⟩, ⟨rfl, hTL7⟩, htm7, ⟨hA7, (by first | rfl | omega), (by first | rfl | omega), (by first | rfl | omega), rfl⟩⟩⟩, (mcF_tr hmcF3 (mcF_tr hF5 (mcF_tr hmcF6 (mcF_tr hF7 hF8))))⟩
end SGB
