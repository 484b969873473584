/-! Own rows: leave against mmLeave. Walked by program (wip/p37/m_lv.py). -/
theorem ch_cut {ch : mmH} {n : Nat} : tcut (ch.reverse.map (fun e => [(e.1 : Int), (e.2.1 : Int), (e.2.2 : Int)])) (n : Int) = ((ch.drop (ch.length - n)).reverse.map (fun e => [(e.1 : Int), (e.2.1 : Int), (e.2.2 : Int)])) := by
  unfold tcut
  rw [if_pos (by omega), Int.toNat_natCast, ← List.map_take]
  congr 1
  rw [List.reverse_drop]
  by_cases c : n ≤ ch.length
  · rw [show ch.length - (ch.length - n) = n by omega]
  · rw [show ch.length - (ch.length - n) = ch.length by omega, List.take_of_length_le (by rw [List.length_reverse]; omega), List.take_of_length_le (by rw [List.length_reverse]; omega)]
section SLV
variable {pg : Nat}
variable {G : zG} {d : Nat} {w : zW} {b1 b2 : Nat} {R : pgR} {Fs : List Nat}  {mc fa ca ta t tc tn th tz rp ri ra rn : Nat} {ty bk bc : Int} {C I : List (List Int)} {mo : Option Nat} {fr : List mmF} {cls : Nat → Option Nat} {V : mmV} {ch : mmH} {T : mmT} {cur den : Option Nat} {pl0 na ns nc0 dp0 : Nat} {flb : Bool} {tm : List smG} {nt : List (Nat × Nat)}
theorem s_addAnswer (hP : pgW w pg R) (hK : mkF R) (hW : msW w b1 b2 ((mc, fa, ca, ta), (t, tc, tn, th, tz), (rp, ri, ra, rn), (ty, C), (mo, I, bk, bc)) R Fs (0, 0, 101) ((fr, cls, V, ch, T), (cur, pl0, den, flb), tm, (na, ns, nc0, dp0), nt)) {j yj : Nat} (hjf : j < fr.length) (hj : Fs[j]? = some yj) : zM G zm_X4_addAnswer (d + 4) [zR mc, zR yj] w (zVoid fun w' => (if 50 ≤ na then msW w' b1 b2 ((mc, fa, ca, ta), (t, tc, tn, th, tz), (rp, ri, ra, rn), (ty, C), (mo, I, bk, bc)) R Fs (1, 0, 108) ((fr, cls, V, ch, T), (cur, pl0, den, flb), tm, (na, ns, nc0, dp0), nt) else msW w' b1 b2 ((mc, fa, ca, ta), (t, tc, tn, th, tz), (rp, ri, ra, rn), (ty, C), (mo, I, bk, bc)) R Fs (0, 0, 101) ((fr, cls, V, ch, T), (cur, pl0, den, true), tm, ((na + 1), ns, nc0, dp0), nt)) ∧ mcF rp w w') := by
  refine zx_ent (by decide +kernel) rfl (Nat.le_of_ble_eq_true rfl) ?_
  refine zx_L (L1 := [some (zR mc), some (zR yj), none, none, none, none]) rfl ?_
  obtain ⟨cap, fm, cc, CH, ct, TR, us, cu, pl, de, fl, N, H, Sz, A, Nt, sc, nc, dp, hM, hS⟩ := id hW
  obtain ⟨⟨hus, hfl, hJ, hcn, hFS⟩, ⟨hcu, hcuL, hpl, hde, hdeL, hfb⟩, ⟨hCH, hchL⟩, ⟨hTR, hTL⟩, htm, ⟨hA, hsc, hnc, hdp, hNt⟩⟩ := id hS
  subst hus hcu hpl hde hfb hCH hTR hsc hnc hdp hNt
  obtain ⟨hmc, hfa, ⟨hca, okC⟩, ⟨hta, okT⟩, hFr, ⟨ht0, ⟨htc, okTC⟩, ⟨htn, okN⟩, ⟨hth, okH⟩, htz, hSz⟩, ⟨hrp, ⟨hri, okI⟩, ⟨hra, okA⟩, ⟨hrn, okNt⟩⟩, hcap, hcct, hrm1, hrm2⟩ := id hM
  obtain ⟨⟨⟨va_j, md_j⟩, ⟨fca_j, fbt_j, fdp_j⟩, ⟨fcl_j, fdn_j, fod_j, fcb_j⟩, xs_j⟩, efm_j⟩ : ∃ r, fm yj = r := ⟨_, rfl⟩
  obtain ⟨hfy_j, hva_j, hx_j⟩ := hFr j yj hj
  rw [efm_j] at hfy_j hva_j hx_j
  have hx_j : xs_j.length = 8 := hx_j
  obtain ⟨hmd_j, ⟨hcb1_j, hcb2_j⟩, ⟨hcb3_j, hcb4_j, hcb5_j⟩, ⟨-, hxv_j⟩, hdq_j⟩ := hFS j yj hjf hj
  rw [efm_j] at hmd_j hcb1_j hcb3_j hxv_j
  simp only [Prod.mk.injEq] at hcb1_j hcb3_j
  obtain ⟨ea1_j, ea2_j, ea3_j⟩ := hcb1_j
  obtain ⟨eb1_j, eb2_j, eb3_j, eb4_j⟩ := hcb3_j
  subst ea1_j ea2_j ea3_j eb1_j eb2_j eb3_j eb4_j
  obtain ⟨pr_j, ins_j, pm_j, lo_j, gd_j, cf_j, cr_j, sw_j, emr_j, hmo_j, hpp_j, hpn_j, hpm_j, hm2_j, hin_j, hsw_j, hsr_j, hmm_j⟩ := md_get hK hP hmd_j
  obtain ⟨⟨hpy, ⟨htt, okTT⟩, hml, hcl0⟩, hsm, hsc2, -⟩ := hP.2.2.2.2.1 pr_j hpm_j
  rw [hpn_j] at hpy
  by_cases h50 : 50 ≤ na
  · skip
    refine zx_aload_n (i := 0) dX4_addAnswer_0 rfl rfl ?_
    refine zx_getfield dX4_addAnswer_1 zf_X4_15 hmc rfl ?_
    refine zx_iv (b := rp) (As := []) (st := []) (v := (some (zI (na : Int)))) (w1 := w) dX4_addAnswer_4 zc_X4_253 hrp rfl rfl rfl (Nat.le_of_ble_eq_true rfl) rfl (by have q := c_X8_answerCount (G := G) (d := d + 2) ⟨hrp, ⟨hri, okI⟩, ⟨hra, okA⟩, ⟨hrn, okNt⟩⟩; rw [hA] at q; exact q) ?_
    refine zx_st (st1 := [zI (na : Int)]) rfl ?_
    refine zx_bipush (v := 50) dX4_addAnswer_7 (by decide +kernel) (z32_lit (by decide) (by decide)) ?_
    refine zx_icmp_lt (tgt := 19) dX4_addAnswer_9 (by decide) (fun h9 => absurd h9 (by omega)) (fun h9 => ?_)
    refine zx_aload_n (i := 0) dX4_addAnswer_12 rfl rfl ?_
    refine zx_bipush (v := 108) dX4_addAnswer_13 (by decide +kernel) (z32_lit (by decide) (by decide)) ?_
    refine zx_ivN (b := mc) (As := [zI 108]) (st := []) dX4_addAnswer_15 zc_X4_232 hmc rfl rfl rfl (Nat.le_of_ble_eq_true rfl) rfl (c_X4_finish hM 108 (by decide)) (fun w5 hq => ?_)
    obtain ⟨hM5, hF5⟩ := hq
    refine zx_return dX4_addAnswer_18 rfl ?_
    refine ⟨rfl, ?_, hF5⟩
    rw [if_pos h50]
    exact ⟨_, _, _, _, _, _, _, _, _, _, _, _, _, _, _, _, _, _, _, hM5, ⟨⟨(by first | rfl | omega | simp), hfl, hJ, hcn, hFS⟩, ⟨rfl, hcuL, (by first | rfl | omega), rfl, hdeL, rfl⟩, ⟨rfl, hchL⟩, ⟨rfl, hTL⟩, htm, ⟨hA, (by first | rfl | omega), (by first | rfl | omega), (by first | rfl | omega), rfl⟩⟩⟩
  · skip
    refine zx_aload_n (i := 0) dX4_addAnswer_0 rfl rfl ?_
    refine zx_getfield dX4_addAnswer_1 zf_X4_15 hmc rfl ?_
    refine zx_iv (b := rp) (As := []) (st := []) (v := (some (zI (na : Int)))) (w1 := w) dX4_addAnswer_4 zc_X4_253 hrp rfl rfl rfl (Nat.le_of_ble_eq_true rfl) rfl (by have q := c_X8_answerCount (G := G) (d := d + 2) ⟨hrp, ⟨hri, okI⟩, ⟨hra, okA⟩, ⟨hrn, okNt⟩⟩; rw [hA] at q; exact q) ?_
    refine zx_st (st1 := [zI (na : Int)]) rfl ?_
    refine zx_bipush (v := 50) dX4_addAnswer_7 (by decide +kernel) (z32_lit (by decide) (by decide)) ?_
    refine zx_icmp_lt (tgt := 19) dX4_addAnswer_9 (by decide) (fun h9 => ?_) (fun h9 => absurd (by omega) h9)
    refine zx_aload_n (i := 1) dX4_addAnswer_19 rfl rfl ?_
    refine zx_getfield dX4_addAnswer_20 zf_X4_73 hfy_j rfl ?_
    refine zx_getfield dX4_addAnswer_23 zf_X4_152 hmo_j rfl ?_
    refine zx_iv (b := pr_j) (As := []) (st := []) (v := (some (zI ((R.2.2.2.1 pr_j).2.1.length : Int)))) (w1 := w) dX4_addAnswer_26 zc_X4_256 hpy rfl rfl rfl (Nat.le_of_ble_eq_true rfl) rfl (c_X6_arity hpy htt okTT) ?_
    refine zx_st (st1 := [zI ((R.2.2.2.1 pr_j).2.1.length : Int)]) rfl ?_
    refine zx_istore_n (i := 2) dX4_addAnswer_29 rfl (by decide) rfl ?_
    refine zx_L (L1 := [some (zR mc), some (zR yj), some (zI ((R.2.2.2.1 pr_j).2.1.length : Int)), none, none, none]) rfl ?_
    refine zx_iload_n (i := 2) dX4_addAnswer_30 rfl rfl ?_
    refine zx_pc (pc1 := 31) rfl ?_
    refine zx_if_le (tgt := 42) dX4_addAnswer_31 (by decide) (fun h31 => ?_) (fun h31 => ?_)
    · refine zx_iconst (v := -1) dX4_addAnswer_42 rfl (z32_lit (by decide) (by decide)) ?_
      refine zx_istore_n (i := 3) dX4_addAnswer_43 rfl (by decide) rfl ?_
      refine zx_L (L1 := [some (zR mc), some (zR yj), some (zI ((R.2.2.2.1 pr_j).2.1.length : Int)), some (zI (-1)), none, none]) rfl ?_
      refine zx_iload_n (i := 2) dX4_addAnswer_44 rfl rfl ?_
      refine zx_iconst (v := 1) dX4_addAnswer_45 rfl (z32_lit (by decide) (by decide)) ?_
      refine zx_icmp_le (tgt := 57) dX4_addAnswer_46 (by decide) (fun h46 => ?_) (fun h46 => ?_)
      · refine zx_iconst (v := -1) dX4_addAnswer_57 rfl (z32_lit (by decide) (by decide)) ?_
        refine zx_istore (i := 4) dX4_addAnswer_58 (by decide) rfl ?_
        refine zx_L (L1 := [some (zR mc), some (zR yj), some (zI ((R.2.2.2.1 pr_j).2.1.length : Int)), some (zI (-1)), some (zI (-1)), none]) rfl ?_
        refine zx_iload_n (i := 2) dX4_addAnswer_60 rfl rfl ?_
        refine zx_iconst (v := 2) dX4_addAnswer_61 rfl (z32_lit (by decide) (by decide)) ?_
        refine zx_icmp_le (tgt := 73) dX4_addAnswer_62 (by decide) (fun h62 => ?_) (fun h62 => ?_)
        · refine zx_iconst (v := -1) dX4_addAnswer_73 rfl (z32_lit (by decide) (by decide)) ?_
          refine zx_pc (pc1 := 74) rfl ?_
          refine zx_istore (i := 5) dX4_addAnswer_74 (by decide) rfl ?_
          refine zx_L (L1 := [some (zR mc), some (zR yj), some (zI ((R.2.2.2.1 pr_j).2.1.length : Int)), some (zI (-1)), some (zI (-1)), some (zI (-1))]) rfl ?_
          refine zx_aload_n (i := 0) dX4_addAnswer_76 rfl rfl ?_
          refine zx_getfield dX4_addAnswer_77 zf_X4_15 hmc rfl ?_
          refine zx_iload_n (i := 3) dX4_addAnswer_80 rfl rfl ?_
          refine zx_iload (i := 4) dX4_addAnswer_81 rfl ?_
          refine zx_iload (i := 5) dX4_addAnswer_83 rfl ?_
          obtain ⟨w_1, hw_2⟩ : ∃ ww, ww = zput w ra (136, rp, tTb 3 150 (A ++ [[(-1), (-1), (-1)]])) := ⟨_, rfl⟩
          have q_3 : w_1.2.1 = w.2.1 ∧ w_1.2.2 = w.2.2 := by rw [hw_2]; exact ⟨rfl, rfl⟩
          have h_4 : w_1.1 ra = some (136, rp, tTb 3 150 (A ++ [[(-1), (-1), (-1)]])) := by rw [hw_2]; exact zput_at
          refine zx_iv (b := rp) (As := [zI (-1), zI (-1), zI (-1)]) (st := []) (v := none) (w1 := w_1) dX4_addAnswer_85 zc_X4_259 hrp rfl rfl rfl (Nat.le_of_ble_eq_true rfl) rfl (by rw [hw_2]; exact (c_X8_addAnswer ⟨hrp, ⟨hri, okI⟩, ⟨hra, okA⟩, ⟨hrn, okNt⟩⟩ (by omega) (-1) (-1) (-1))) ?_
          refine zx_st (st1 := []) rfl ?_
          refine zx_aload_n (i := 0) dX4_addAnswer_88 rfl rfl ?_
          refine zx_iconst (v := 1) dX4_addAnswer_89 rfl (z32_lit (by decide) (by decide)) ?_
          have h_5 : w_1.1 mc = some (4, 0, [zR t, zR fa, zR ca, zR ta, zR rp, zI (fr.length : Int), zP (oA Fs cur), zI (pl0 : Int), zP (oA Fs den), zI (if flb = true then 1 else 0), zI 0, zI 0]) := by
            rw [hw_2]; exact zput_tg hra hmc (by simp)
          obtain ⟨w_6, hw_7⟩ : ∃ ww, ww = zput w_1 mc (4, 0, [zR t, zR fa, zR ca, zR ta, zR rp, zI (fr.length : Int), zP (oA Fs cur), zI (pl0 : Int), zP (oA Fs den), zI 1, zI 0, zI 0]) := ⟨_, rfl⟩
          refine zx_put (w1 := w_6) dX4_addAnswer_90 zf_X4_57 h_5 (Nat.le_of_ble_eq_true rfl) (zFt_bool (by first | exact Or.inl rfl | exact Or.inr rfl | exact zB_or | assumption)) (fun h => by cases h) hw_7.symm ?_
          have q_8 : w_6.2.1 = w_1.2.1 ∧ w_6.2.2 = w_1.2.2 := by rw [hw_7]; exact ⟨rfl, rfl⟩
          have h_9 : w_6.1 mc = some (4, 0, [zR t, zR fa, zR ca, zR ta, zR rp, zI (fr.length : Int), zP (oA Fs cur), zI (pl0 : Int), zP (oA Fs den), zI 1, zI 0, zI 0]) := by rw [hw_7]; exact zput_at
          refine zx_return dX4_addAnswer_93 rfl ?_
          have hfaL6 : zFa [ra, mc] w w_6 := (zFa_put (zFa_put zFa_re (by simp) hw_2) (by simp) hw_7)
          have hFrr6 := fm_keep hFr hfaL6 (zLc hra (by simp) (zLc hmc (by simp) zLn))
          have hmcF6 : mcF rp w w_6 := mcF_fa hfaL6 (zLc hra (by simp [mcP]) (zLc hmc (by simp [mcP]) zLn))
          have h_10 : w_1.1 fa = some (166, mc, zLs cap Fs) := by
            rw [hw_2]; exact zput_tg hra hfa (by simp)
          have h_11 : w_6.1 fa = some (166, mc, zLs cap Fs) := by
            rw [hw_7]; exact zput_tg h_5 h_10 (by simp)
          have h_12 : w_1.1 ca = some (138, mc, tTb 3 cc (ch.reverse.map (fun e => [(e.1 : Int), (e.2.1 : Int), (e.2.2 : Int)]))) := by
            rw [hw_2]; exact zput_tg hra hca (by simp)
          have h_13 : w_6.1 ca = some (138, mc, tTb 3 cc (ch.reverse.map (fun e => [(e.1 : Int), (e.2.1 : Int), (e.2.2 : Int)]))) := by
            rw [hw_7]; exact zput_tg h_5 h_12 (by simp)
          have h_14 : w_1.1 ta = some (139, mc, tTb 2 ct (T.reverse.map (fun e => [(e.1 : Int), (e.2 : Int)]))) := by
            rw [hw_2]; exact zput_tg hra hta (by simp)
          have h_15 : w_6.1 ta = some (139, mc, tTb 2 ct (T.reverse.map (fun e => [(e.1 : Int), (e.2 : Int)]))) := by
            rw [hw_7]; exact zput_tg h_5 h_14 (by simp)
          have h_16 : w_1.1 t = some (10, 0, [zI ty, zR tc, zR tn, zR th, zR tz]) := by
            rw [hw_2]; exact zput_tg hra ht0 (by simp)
          have h_17 : w_6.1 t = some (10, 0, [zI ty, zR tc, zR tn, zR th, zR tz]) := by
            rw [hw_7]; exact zput_tg h_5 h_16 (by simp)
          have h_18 : w_1.1 tc = some (130, t, tTb 3 30 C) := by
            rw [hw_2]; exact zput_tg hra htc (by simp)
          have h_19 : w_6.1 tc = some (130, t, tTb 3 30 C) := by
            rw [hw_7]; exact zput_tg h_5 h_18 (by simp)
          have h_20 : w_1.1 tn = some (131, t, tTb 4 800 N) := by
            rw [hw_2]; exact zput_tg hra htn (by simp)
          have h_21 : w_6.1 tn = some (131, t, tTb 4 800 N) := by
            rw [hw_7]; exact zput_tg h_5 h_20 (by simp)
          have h_22 : w_1.1 th = some (132, t, tTb 1 64 H) := by
            rw [hw_2]; exact zput_tg hra hth (by simp)
          have h_23 : w_6.1 th = some (132, t, tTb 1 64 H) := by
            rw [hw_7]; exact zput_tg h_5 h_22 (by simp)
          have h_24 : w_1.1 tz = some (120, t, Sz.map zJ) := by
            rw [hw_2]; exact zput_tg hra htz (by simp)
          have h_25 : w_6.1 tz = some (120, t, Sz.map zJ) := by
            rw [hw_7]; exact zput_tg h_5 h_24 (by simp)
          have h_26 : w_1.1 rp = some (8, 0, [zP mo, zR ri, zR ra, zR rn, zI (ns : Int), zI (nc0 : Int), zI (dp0 : Int), zI 101, zI bk, zI bc]) := by
            rw [hw_2]; exact zput_tg hra hrp (by simp)
          have h_27 : w_6.1 rp = some (8, 0, [zP mo, zR ri, zR ra, zR rn, zI (ns : Int), zI (nc0 : Int), zI (dp0 : Int), zI 101, zI bk, zI bc]) := by
            rw [hw_7]; exact zput_tg h_5 h_26 (by simp)
          have h_28 : w_1.1 ri = some (135, rp, tTb 1 3 I) := by
            rw [hw_2]; exact zput_tg hra hri (by simp)
          have h_29 : w_6.1 ri = some (135, rp, tTb 1 3 I) := by
            rw [hw_7]; exact zput_tg h_5 h_28 (by simp)
          have h_30 : w_6.1 ra = some (136, rp, tTb 3 150 (A ++ [[(-1), (-1), (-1)]])) := by
            rw [hw_7]; exact zput_tg h_5 h_4 (by simp)
          have h_31 : w_1.1 rn = some (137, rp, tTb 2 160 (nt.map (fun e => [(e.1 : Int), (e.2 : Int)]))) := by
            rw [hw_2]; exact zput_tg hra hrn (by simp)
          have h_32 : w_6.1 rn = some (137, rp, tTb 2 160 (nt.map (fun e => [(e.1 : Int), (e.2 : Int)]))) := by
            rw [hw_7]; exact zput_tg h_5 h_31 (by simp)
          have hM6 : mcW w_6 b1 b2 ((mc, fa, ca, ta), (t, tc, tn, th, tz), (rp, ri, ra, rn), (ty, C), (mo, I, bk, bc)) (((cap, Fs), fm), (cc, (ch.reverse.map (fun e => [(e.1 : Int), (e.2.1 : Int), (e.2.2 : Int)]))), (ct, (T.reverse.map (fun e => [(e.1 : Int), (e.2 : Int)]))), ((fr.length : Int), (oA Fs cur), (pl0 : Int), (oA Fs den)), (1, 0, 0), (N, H, Sz), ((A ++ [[(-1), (-1), (-1)]]), (nt.map (fun e => [(e.1 : Int), (e.2 : Int)])), (ns : Int), (nc0 : Int), (dp0 : Int), 101)) := ⟨h_9, h_11, ⟨h_13, okC⟩, ⟨h_15, okT⟩, hFrr6, ⟨h_17, ⟨h_19, okTC⟩, ⟨h_21, okN⟩, ⟨h_23, okH⟩, h_25, hSz⟩, ⟨h_27, ⟨h_29, okI⟩, ⟨h_30, (tOk_app okA rfl)⟩, ⟨h_32, okNt⟩⟩, hcap, ⟨by omega, by omega, by omega, by omega⟩, by omega, by omega⟩
          refine ⟨rfl, ?_, hmcF6⟩
          rw [if_neg h50]
          exact ⟨cap, fm, cc, (ch.reverse.map (fun e => [(e.1 : Int), (e.2.1 : Int), (e.2.2 : Int)])), ct, (T.reverse.map (fun e => [(e.1 : Int), (e.2 : Int)])), (fr.length : Int), (oA Fs cur), (pl0 : Int), (oA Fs den), 1, N, H, Sz, (A ++ [[(-1), (-1), (-1)]]), (nt.map (fun e => [(e.1 : Int), (e.2 : Int)])), (ns : Int), (nc0 : Int), (dp0 : Int), hM6, ⟨⟨(by first | rfl | omega | simp), hfl, hJ, hcn, hFS⟩, ⟨rfl, hcuL, (by first | rfl | omega), rfl, hdeL, rfl⟩, ⟨rfl, hchL⟩, ⟨rfl, hTL⟩, htm, ⟨(by rw [List.length_append, hA]; rfl), (by first | rfl | omega), (by first | rfl | omega), (by first | rfl | omega), rfl⟩⟩⟩
        · refine zx_aload_n (i := 1) dX4_addAnswer_65 rfl rfl ?_
          refine zx_pc (pc1 := 66) rfl ?_
          refine zx_iconst (v := 2) dX4_addAnswer_66 rfl (z32_lit (by decide) (by decide)) ?_
          refine zx_iv (b := yj) (As := [zI 2]) (st := []) (v := (some (zI (zVl xs_j 2)))) (w1 := w) dX4_addAnswer_67 zc_X4_203 hfy_j rfl rfl rfl (Nat.le_of_ble_eq_true rfl) rfl (c_X2_valueOf hfy_j hva_j (by omega) 2) ?_
          refine zx_st (st1 := [zI (zVl xs_j 2)]) rfl ?_
          refine zx_goto (tgt := 74) dX4_addAnswer_70 (by decide) ?_
          refine zx_istore (i := 5) dX4_addAnswer_74 (by decide) rfl ?_
          refine zx_L (L1 := [some (zR mc), some (zR yj), some (zI ((R.2.2.2.1 pr_j).2.1.length : Int)), some (zI (-1)), some (zI (-1)), some (zI (zVl xs_j 2))]) rfl ?_
          refine zx_aload_n (i := 0) dX4_addAnswer_76 rfl rfl ?_
          refine zx_getfield dX4_addAnswer_77 zf_X4_15 hmc rfl ?_
          refine zx_iload_n (i := 3) dX4_addAnswer_80 rfl rfl ?_
          refine zx_iload (i := 4) dX4_addAnswer_81 rfl ?_
          refine zx_iload (i := 5) dX4_addAnswer_83 rfl ?_
          obtain ⟨w_33, hw_34⟩ : ∃ ww, ww = zput w ra (136, rp, tTb 3 150 (A ++ [[(-1), (-1), (zVl xs_j 2)]])) := ⟨_, rfl⟩
          have q_35 : w_33.2.1 = w.2.1 ∧ w_33.2.2 = w.2.2 := by rw [hw_34]; exact ⟨rfl, rfl⟩
          have h_36 : w_33.1 ra = some (136, rp, tTb 3 150 (A ++ [[(-1), (-1), (zVl xs_j 2)]])) := by rw [hw_34]; exact zput_at
          refine zx_iv (b := rp) (As := [zI (-1), zI (-1), zI (zVl xs_j 2)]) (st := []) (v := none) (w1 := w_33) dX4_addAnswer_85 zc_X4_259 hrp rfl rfl rfl (Nat.le_of_ble_eq_true rfl) rfl (by rw [hw_34]; exact (c_X8_addAnswer ⟨hrp, ⟨hri, okI⟩, ⟨hra, okA⟩, ⟨hrn, okNt⟩⟩ (by omega) (-1) (-1) (zVl xs_j 2))) ?_
          refine zx_st (st1 := []) rfl ?_
          refine zx_aload_n (i := 0) dX4_addAnswer_88 rfl rfl ?_
          refine zx_iconst (v := 1) dX4_addAnswer_89 rfl (z32_lit (by decide) (by decide)) ?_
          refine zx_pc (pc1 := 90) rfl ?_
          have h_37 : w_33.1 mc = some (4, 0, [zR t, zR fa, zR ca, zR ta, zR rp, zI (fr.length : Int), zP (oA Fs cur), zI (pl0 : Int), zP (oA Fs den), zI (if flb = true then 1 else 0), zI 0, zI 0]) := by
            rw [hw_34]; exact zput_tg hra hmc (by simp)
          obtain ⟨w_38, hw_39⟩ : ∃ ww, ww = zput w_33 mc (4, 0, [zR t, zR fa, zR ca, zR ta, zR rp, zI (fr.length : Int), zP (oA Fs cur), zI (pl0 : Int), zP (oA Fs den), zI 1, zI 0, zI 0]) := ⟨_, rfl⟩
          refine zx_put (w1 := w_38) dX4_addAnswer_90 zf_X4_57 h_37 (Nat.le_of_ble_eq_true rfl) (zFt_bool (by first | exact Or.inl rfl | exact Or.inr rfl | exact zB_or | assumption)) (fun h => by cases h) hw_39.symm ?_
          have q_40 : w_38.2.1 = w_33.2.1 ∧ w_38.2.2 = w_33.2.2 := by rw [hw_39]; exact ⟨rfl, rfl⟩
          have h_41 : w_38.1 mc = some (4, 0, [zR t, zR fa, zR ca, zR ta, zR rp, zI (fr.length : Int), zP (oA Fs cur), zI (pl0 : Int), zP (oA Fs den), zI 1, zI 0, zI 0]) := by rw [hw_39]; exact zput_at
          refine zx_return dX4_addAnswer_93 rfl ?_
          have hfaL6 : zFa [ra, mc] w w_38 := (zFa_put (zFa_put zFa_re (by simp) hw_34) (by simp) hw_39)
          have hFrr6 := fm_keep hFr hfaL6 (zLc hra (by simp) (zLc hmc (by simp) zLn))
          have hmcF6 : mcF rp w w_38 := mcF_fa hfaL6 (zLc hra (by simp [mcP]) (zLc hmc (by simp [mcP]) zLn))
          have h_42 : w_33.1 fa = some (166, mc, zLs cap Fs) := by
            rw [hw_34]; exact zput_tg hra hfa (by simp)
          have h_43 : w_38.1 fa = some (166, mc, zLs cap Fs) := by
            rw [hw_39]; exact zput_tg h_37 h_42 (by simp)
          have h_44 : w_33.1 ca = some (138, mc, tTb 3 cc (ch.reverse.map (fun e => [(e.1 : Int), (e.2.1 : Int), (e.2.2 : Int)]))) := by
            rw [hw_34]; exact zput_tg hra hca (by simp)
          have h_45 : w_38.1 ca = some (138, mc, tTb 3 cc (ch.reverse.map (fun e => [(e.1 : Int), (e.2.1 : Int), (e.2.2 : Int)]))) := by
            rw [hw_39]; exact zput_tg h_37 h_44 (by simp)
          have h_46 : w_33.1 ta = some (139, mc, tTb 2 ct (T.reverse.map (fun e => [(e.1 : Int), (e.2 : Int)]))) := by
            rw [hw_34]; exact zput_tg hra hta (by simp)
          have h_47 : w_38.1 ta = some (139, mc, tTb 2 ct (T.reverse.map (fun e => [(e.1 : Int), (e.2 : Int)]))) := by
            rw [hw_39]; exact zput_tg h_37 h_46 (by simp)
          have h_48 : w_33.1 t = some (10, 0, [zI ty, zR tc, zR tn, zR th, zR tz]) := by
            rw [hw_34]; exact zput_tg hra ht0 (by simp)
          have h_49 : w_38.1 t = some (10, 0, [zI ty, zR tc, zR tn, zR th, zR tz]) := by
            rw [hw_39]; exact zput_tg h_37 h_48 (by simp)
          have h_50 : w_33.1 tc = some (130, t, tTb 3 30 C) := by
            rw [hw_34]; exact zput_tg hra htc (by simp)
          have h_51 : w_38.1 tc = some (130, t, tTb 3 30 C) := by
            rw [hw_39]; exact zput_tg h_37 h_50 (by simp)
          have h_52 : w_33.1 tn = some (131, t, tTb 4 800 N) := by
            rw [hw_34]; exact zput_tg hra htn (by simp)
          have h_53 : w_38.1 tn = some (131, t, tTb 4 800 N) := by
            rw [hw_39]; exact zput_tg h_37 h_52 (by simp)
          have h_54 : w_33.1 th = some (132, t, tTb 1 64 H) := by
            rw [hw_34]; exact zput_tg hra hth (by simp)
          have h_55 : w_38.1 th = some (132, t, tTb 1 64 H) := by
            rw [hw_39]; exact zput_tg h_37 h_54 (by simp)
          have h_56 : w_33.1 tz = some (120, t, Sz.map zJ) := by
            rw [hw_34]; exact zput_tg hra htz (by simp)
          have h_57 : w_38.1 tz = some (120, t, Sz.map zJ) := by
            rw [hw_39]; exact zput_tg h_37 h_56 (by simp)
          have h_58 : w_33.1 rp = some (8, 0, [zP mo, zR ri, zR ra, zR rn, zI (ns : Int), zI (nc0 : Int), zI (dp0 : Int), zI 101, zI bk, zI bc]) := by
            rw [hw_34]; exact zput_tg hra hrp (by simp)
          have h_59 : w_38.1 rp = some (8, 0, [zP mo, zR ri, zR ra, zR rn, zI (ns : Int), zI (nc0 : Int), zI (dp0 : Int), zI 101, zI bk, zI bc]) := by
            rw [hw_39]; exact zput_tg h_37 h_58 (by simp)
          have h_60 : w_33.1 ri = some (135, rp, tTb 1 3 I) := by
            rw [hw_34]; exact zput_tg hra hri (by simp)
          have h_61 : w_38.1 ri = some (135, rp, tTb 1 3 I) := by
            rw [hw_39]; exact zput_tg h_37 h_60 (by simp)
          have h_62 : w_38.1 ra = some (136, rp, tTb 3 150 (A ++ [[(-1), (-1), (zVl xs_j 2)]])) := by
            rw [hw_39]; exact zput_tg h_37 h_36 (by simp)
          have h_63 : w_33.1 rn = some (137, rp, tTb 2 160 (nt.map (fun e => [(e.1 : Int), (e.2 : Int)]))) := by
            rw [hw_34]; exact zput_tg hra hrn (by simp)
          have h_64 : w_38.1 rn = some (137, rp, tTb 2 160 (nt.map (fun e => [(e.1 : Int), (e.2 : Int)]))) := by
            rw [hw_39]; exact zput_tg h_37 h_63 (by simp)
          have hM6 : mcW w_38 b1 b2 ((mc, fa, ca, ta), (t, tc, tn, th, tz), (rp, ri, ra, rn), (ty, C), (mo, I, bk, bc)) (((cap, Fs), fm), (cc, (ch.reverse.map (fun e => [(e.1 : Int), (e.2.1 : Int), (e.2.2 : Int)]))), (ct, (T.reverse.map (fun e => [(e.1 : Int), (e.2 : Int)]))), ((fr.length : Int), (oA Fs cur), (pl0 : Int), (oA Fs den)), (1, 0, 0), (N, H, Sz), ((A ++ [[(-1), (-1), (zVl xs_j 2)]]), (nt.map (fun e => [(e.1 : Int), (e.2 : Int)])), (ns : Int), (nc0 : Int), (dp0 : Int), 101)) := ⟨h_41, h_43, ⟨h_45, okC⟩, ⟨h_47, okT⟩, hFrr6, ⟨h_49, ⟨h_51, okTC⟩, ⟨h_53, okN⟩, ⟨h_55, okH⟩, h_57, hSz⟩, ⟨h_59, ⟨h_61, okI⟩, ⟨h_62, (tOk_app okA rfl)⟩, ⟨h_64, okNt⟩⟩, hcap, ⟨by omega, by omega, by omega, by omega⟩, by omega, by omega⟩
          refine ⟨rfl, ?_, hmcF6⟩
          rw [if_neg h50]
          exact ⟨cap, fm, cc, (ch.reverse.map (fun e => [(e.1 : Int), (e.2.1 : Int), (e.2.2 : Int)])), ct, (T.reverse.map (fun e => [(e.1 : Int), (e.2 : Int)])), (fr.length : Int), (oA Fs cur), (pl0 : Int), (oA Fs den), 1, N, H, Sz, (A ++ [[(-1), (-1), (zVl xs_j 2)]]), (nt.map (fun e => [(e.1 : Int), (e.2 : Int)])), (ns : Int), (nc0 : Int), (dp0 : Int), hM6, ⟨⟨(by first | rfl | omega | simp), hfl, hJ, hcn, hFS⟩, ⟨rfl, hcuL, (by first | rfl | omega), rfl, hdeL, rfl⟩, ⟨rfl, hchL⟩, ⟨rfl, hTL⟩, htm, ⟨(by rw [List.length_append, hA]; rfl), (by first | rfl | omega), (by first | rfl | omega), (by first | rfl | omega), rfl⟩⟩⟩
      · refine zx_aload_n (i := 1) dX4_addAnswer_49 rfl rfl ?_
        refine zx_iconst (v := 1) dX4_addAnswer_50 rfl (z32_lit (by decide) (by decide)) ?_
        refine zx_iv (b := yj) (As := [zI 1]) (st := []) (v := (some (zI (zVl xs_j 1)))) (w1 := w) dX4_addAnswer_51 zc_X4_203 hfy_j rfl rfl rfl (Nat.le_of_ble_eq_true rfl) rfl (c_X2_valueOf hfy_j hva_j (by omega) 1) ?_
        refine zx_st (st1 := [zI (zVl xs_j 1)]) rfl ?_
        refine zx_goto (tgt := 58) dX4_addAnswer_54 (by decide) ?_
        refine zx_istore (i := 4) dX4_addAnswer_58 (by decide) rfl ?_
        refine zx_L (L1 := [some (zR mc), some (zR yj), some (zI ((R.2.2.2.1 pr_j).2.1.length : Int)), some (zI (-1)), some (zI (zVl xs_j 1)), none]) rfl ?_
        refine zx_iload_n (i := 2) dX4_addAnswer_60 rfl rfl ?_
        refine zx_pc (pc1 := 61) rfl ?_
        refine zx_iconst (v := 2) dX4_addAnswer_61 rfl (z32_lit (by decide) (by decide)) ?_
        refine zx_icmp_le (tgt := 73) dX4_addAnswer_62 (by decide) (fun h62 => ?_) (fun h62 => ?_)
        · refine zx_iconst (v := -1) dX4_addAnswer_73 rfl (z32_lit (by decide) (by decide)) ?_
          refine zx_istore (i := 5) dX4_addAnswer_74 (by decide) rfl ?_
          refine zx_L (L1 := [some (zR mc), some (zR yj), some (zI ((R.2.2.2.1 pr_j).2.1.length : Int)), some (zI (-1)), some (zI (zVl xs_j 1)), some (zI (-1))]) rfl ?_
          refine zx_aload_n (i := 0) dX4_addAnswer_76 rfl rfl ?_
          refine zx_getfield dX4_addAnswer_77 zf_X4_15 hmc rfl ?_
          refine zx_iload_n (i := 3) dX4_addAnswer_80 rfl rfl ?_
          refine zx_iload (i := 4) dX4_addAnswer_81 rfl ?_
          refine zx_iload (i := 5) dX4_addAnswer_83 rfl ?_
          obtain ⟨w_65, hw_66⟩ : ∃ ww, ww = zput w ra (136, rp, tTb 3 150 (A ++ [[(-1), (zVl xs_j 1), (-1)]])) := ⟨_, rfl⟩
          have q_67 : w_65.2.1 = w.2.1 ∧ w_65.2.2 = w.2.2 := by rw [hw_66]; exact ⟨rfl, rfl⟩
          have h_68 : w_65.1 ra = some (136, rp, tTb 3 150 (A ++ [[(-1), (zVl xs_j 1), (-1)]])) := by rw [hw_66]; exact zput_at
          refine zx_iv (b := rp) (As := [zI (-1), zI (zVl xs_j 1), zI (-1)]) (st := []) (v := none) (w1 := w_65) dX4_addAnswer_85 zc_X4_259 hrp rfl rfl rfl (Nat.le_of_ble_eq_true rfl) rfl (by rw [hw_66]; exact (c_X8_addAnswer ⟨hrp, ⟨hri, okI⟩, ⟨hra, okA⟩, ⟨hrn, okNt⟩⟩ (by omega) (-1) (zVl xs_j 1) (-1))) ?_
          refine zx_st (st1 := []) rfl ?_
          refine zx_aload_n (i := 0) dX4_addAnswer_88 rfl rfl ?_
          refine zx_iconst (v := 1) dX4_addAnswer_89 rfl (z32_lit (by decide) (by decide)) ?_
          refine zx_pc (pc1 := 90) rfl ?_
          have h_69 : w_65.1 mc = some (4, 0, [zR t, zR fa, zR ca, zR ta, zR rp, zI (fr.length : Int), zP (oA Fs cur), zI (pl0 : Int), zP (oA Fs den), zI (if flb = true then 1 else 0), zI 0, zI 0]) := by
            rw [hw_66]; exact zput_tg hra hmc (by simp)
          obtain ⟨w_70, hw_71⟩ : ∃ ww, ww = zput w_65 mc (4, 0, [zR t, zR fa, zR ca, zR ta, zR rp, zI (fr.length : Int), zP (oA Fs cur), zI (pl0 : Int), zP (oA Fs den), zI 1, zI 0, zI 0]) := ⟨_, rfl⟩
          refine zx_put (w1 := w_70) dX4_addAnswer_90 zf_X4_57 h_69 (Nat.le_of_ble_eq_true rfl) (zFt_bool (by first | exact Or.inl rfl | exact Or.inr rfl | exact zB_or | assumption)) (fun h => by cases h) hw_71.symm ?_
          have q_72 : w_70.2.1 = w_65.2.1 ∧ w_70.2.2 = w_65.2.2 := by rw [hw_71]; exact ⟨rfl, rfl⟩
          have h_73 : w_70.1 mc = some (4, 0, [zR t, zR fa, zR ca, zR ta, zR rp, zI (fr.length : Int), zP (oA Fs cur), zI (pl0 : Int), zP (oA Fs den), zI 1, zI 0, zI 0]) := by rw [hw_71]; exact zput_at
          refine zx_return dX4_addAnswer_93 rfl ?_
          have hfaL6 : zFa [ra, mc] w w_70 := (zFa_put (zFa_put zFa_re (by simp) hw_66) (by simp) hw_71)
          have hFrr6 := fm_keep hFr hfaL6 (zLc hra (by simp) (zLc hmc (by simp) zLn))
          have hmcF6 : mcF rp w w_70 := mcF_fa hfaL6 (zLc hra (by simp [mcP]) (zLc hmc (by simp [mcP]) zLn))
          have h_74 : w_65.1 fa = some (166, mc, zLs cap Fs) := by
            rw [hw_66]; exact zput_tg hra hfa (by simp)
          have h_75 : w_70.1 fa = some (166, mc, zLs cap Fs) := by
            rw [hw_71]; exact zput_tg h_69 h_74 (by simp)
          have h_76 : w_65.1 ca = some (138, mc, tTb 3 cc (ch.reverse.map (fun e => [(e.1 : Int), (e.2.1 : Int), (e.2.2 : Int)]))) := by
            rw [hw_66]; exact zput_tg hra hca (by simp)
          have h_77 : w_70.1 ca = some (138, mc, tTb 3 cc (ch.reverse.map (fun e => [(e.1 : Int), (e.2.1 : Int), (e.2.2 : Int)]))) := by
            rw [hw_71]; exact zput_tg h_69 h_76 (by simp)
          have h_78 : w_65.1 ta = some (139, mc, tTb 2 ct (T.reverse.map (fun e => [(e.1 : Int), (e.2 : Int)]))) := by
            rw [hw_66]; exact zput_tg hra hta (by simp)
          have h_79 : w_70.1 ta = some (139, mc, tTb 2 ct (T.reverse.map (fun e => [(e.1 : Int), (e.2 : Int)]))) := by
            rw [hw_71]; exact zput_tg h_69 h_78 (by simp)
          have h_80 : w_65.1 t = some (10, 0, [zI ty, zR tc, zR tn, zR th, zR tz]) := by
            rw [hw_66]; exact zput_tg hra ht0 (by simp)
          have h_81 : w_70.1 t = some (10, 0, [zI ty, zR tc, zR tn, zR th, zR tz]) := by
            rw [hw_71]; exact zput_tg h_69 h_80 (by simp)
          have h_82 : w_65.1 tc = some (130, t, tTb 3 30 C) := by
            rw [hw_66]; exact zput_tg hra htc (by simp)
          have h_83 : w_70.1 tc = some (130, t, tTb 3 30 C) := by
            rw [hw_71]; exact zput_tg h_69 h_82 (by simp)
          have h_84 : w_65.1 tn = some (131, t, tTb 4 800 N) := by
            rw [hw_66]; exact zput_tg hra htn (by simp)
          have h_85 : w_70.1 tn = some (131, t, tTb 4 800 N) := by
            rw [hw_71]; exact zput_tg h_69 h_84 (by simp)
          have h_86 : w_65.1 th = some (132, t, tTb 1 64 H) := by
            rw [hw_66]; exact zput_tg hra hth (by simp)
          have h_87 : w_70.1 th = some (132, t, tTb 1 64 H) := by
            rw [hw_71]; exact zput_tg h_69 h_86 (by simp)
          have h_88 : w_65.1 tz = some (120, t, Sz.map zJ) := by
            rw [hw_66]; exact zput_tg hra htz (by simp)
          have h_89 : w_70.1 tz = some (120, t, Sz.map zJ) := by
            rw [hw_71]; exact zput_tg h_69 h_88 (by simp)
          have h_90 : w_65.1 rp = some (8, 0, [zP mo, zR ri, zR ra, zR rn, zI (ns : Int), zI (nc0 : Int), zI (dp0 : Int), zI 101, zI bk, zI bc]) := by
            rw [hw_66]; exact zput_tg hra hrp (by simp)
          have h_91 : w_70.1 rp = some (8, 0, [zP mo, zR ri, zR ra, zR rn, zI (ns : Int), zI (nc0 : Int), zI (dp0 : Int), zI 101, zI bk, zI bc]) := by
            rw [hw_71]; exact zput_tg h_69 h_90 (by simp)
          have h_92 : w_65.1 ri = some (135, rp, tTb 1 3 I) := by
            rw [hw_66]; exact zput_tg hra hri (by simp)
          have h_93 : w_70.1 ri = some (135, rp, tTb 1 3 I) := by
            rw [hw_71]; exact zput_tg h_69 h_92 (by simp)
          have h_94 : w_70.1 ra = some (136, rp, tTb 3 150 (A ++ [[(-1), (zVl xs_j 1), (-1)]])) := by
            rw [hw_71]; exact zput_tg h_69 h_68 (by simp)
          have h_95 : w_65.1 rn = some (137, rp, tTb 2 160 (nt.map (fun e => [(e.1 : Int), (e.2 : Int)]))) := by
            rw [hw_66]; exact zput_tg hra hrn (by simp)
          have h_96 : w_70.1 rn = some (137, rp, tTb 2 160 (nt.map (fun e => [(e.1 : Int), (e.2 : Int)]))) := by
            rw [hw_71]; exact zput_tg h_69 h_95 (by simp)
          have hM6 : mcW w_70 b1 b2 ((mc, fa, ca, ta), (t, tc, tn, th, tz), (rp, ri, ra, rn), (ty, C), (mo, I, bk, bc)) (((cap, Fs), fm), (cc, (ch.reverse.map (fun e => [(e.1 : Int), (e.2.1 : Int), (e.2.2 : Int)]))), (ct, (T.reverse.map (fun e => [(e.1 : Int), (e.2 : Int)]))), ((fr.length : Int), (oA Fs cur), (pl0 : Int), (oA Fs den)), (1, 0, 0), (N, H, Sz), ((A ++ [[(-1), (zVl xs_j 1), (-1)]]), (nt.map (fun e => [(e.1 : Int), (e.2 : Int)])), (ns : Int), (nc0 : Int), (dp0 : Int), 101)) := ⟨h_73, h_75, ⟨h_77, okC⟩, ⟨h_79, okT⟩, hFrr6, ⟨h_81, ⟨h_83, okTC⟩, ⟨h_85, okN⟩, ⟨h_87, okH⟩, h_89, hSz⟩, ⟨h_91, ⟨h_93, okI⟩, ⟨h_94, (tOk_app okA rfl)⟩, ⟨h_96, okNt⟩⟩, hcap, ⟨by omega, by omega, by omega, by omega⟩, by omega, by omega⟩
          refine ⟨rfl, ?_, hmcF6⟩
          rw [if_neg h50]
          exact ⟨cap, fm, cc, (ch.reverse.map (fun e => [(e.1 : Int), (e.2.1 : Int), (e.2.2 : Int)])), ct, (T.reverse.map (fun e => [(e.1 : Int), (e.2 : Int)])), (fr.length : Int), (oA Fs cur), (pl0 : Int), (oA Fs den), 1, N, H, Sz, (A ++ [[(-1), (zVl xs_j 1), (-1)]]), (nt.map (fun e => [(e.1 : Int), (e.2 : Int)])), (ns : Int), (nc0 : Int), (dp0 : Int), hM6, ⟨⟨(by first | rfl | omega | simp), hfl, hJ, hcn, hFS⟩, ⟨rfl, hcuL, (by first | rfl | omega), rfl, hdeL, rfl⟩, ⟨rfl, hchL⟩, ⟨rfl, hTL⟩, htm, ⟨(by rw [List.length_append, hA]; rfl), (by first | rfl | omega), (by first | rfl | omega), (by first | rfl | omega), rfl⟩⟩⟩
        · refine zx_aload_n (i := 1) dX4_addAnswer_65 rfl rfl ?_
          refine zx_iconst (v := 2) dX4_addAnswer_66 rfl (z32_lit (by decide) (by decide)) ?_
          refine zx_iv (b := yj) (As := [zI 2]) (st := []) (v := (some (zI (zVl xs_j 2)))) (w1 := w) dX4_addAnswer_67 zc_X4_203 hfy_j rfl rfl rfl (Nat.le_of_ble_eq_true rfl) rfl (c_X2_valueOf hfy_j hva_j (by omega) 2) ?_
          refine zx_st (st1 := [zI (zVl xs_j 2)]) rfl ?_
          refine zx_goto (tgt := 74) dX4_addAnswer_70 (by decide) ?_
          refine zx_istore (i := 5) dX4_addAnswer_74 (by decide) rfl ?_
          refine zx_L (L1 := [some (zR mc), some (zR yj), some (zI ((R.2.2.2.1 pr_j).2.1.length : Int)), some (zI (-1)), some (zI (zVl xs_j 1)), some (zI (zVl xs_j 2))]) rfl ?_
          refine zx_aload_n (i := 0) dX4_addAnswer_76 rfl rfl ?_
          refine zx_getfield dX4_addAnswer_77 zf_X4_15 hmc rfl ?_
          refine zx_iload_n (i := 3) dX4_addAnswer_80 rfl rfl ?_
          refine zx_iload (i := 4) dX4_addAnswer_81 rfl ?_
          refine zx_iload (i := 5) dX4_addAnswer_83 rfl ?_
          refine zx_pc (pc1 := 85) rfl ?_
          obtain ⟨w_97, hw_98⟩ : ∃ ww, ww = zput w ra (136, rp, tTb 3 150 (A ++ [[(-1), (zVl xs_j 1), (zVl xs_j 2)]])) := ⟨_, rfl⟩
          have q_99 : w_97.2.1 = w.2.1 ∧ w_97.2.2 = w.2.2 := by rw [hw_98]; exact ⟨rfl, rfl⟩
          have h_100 : w_97.1 ra = some (136, rp, tTb 3 150 (A ++ [[(-1), (zVl xs_j 1), (zVl xs_j 2)]])) := by rw [hw_98]; exact zput_at
          refine zx_iv (b := rp) (As := [zI (-1), zI (zVl xs_j 1), zI (zVl xs_j 2)]) (st := []) (v := none) (w1 := w_97) dX4_addAnswer_85 zc_X4_259 hrp rfl rfl rfl (Nat.le_of_ble_eq_true rfl) rfl (by rw [hw_98]; exact (c_X8_addAnswer ⟨hrp, ⟨hri, okI⟩, ⟨hra, okA⟩, ⟨hrn, okNt⟩⟩ (by omega) (-1) (zVl xs_j 1) (zVl xs_j 2))) ?_
          refine zx_st (st1 := []) rfl ?_
          refine zx_aload_n (i := 0) dX4_addAnswer_88 rfl rfl ?_
          refine zx_iconst (v := 1) dX4_addAnswer_89 rfl (z32_lit (by decide) (by decide)) ?_
          have h_101 : w_97.1 mc = some (4, 0, [zR t, zR fa, zR ca, zR ta, zR rp, zI (fr.length : Int), zP (oA Fs cur), zI (pl0 : Int), zP (oA Fs den), zI (if flb = true then 1 else 0), zI 0, zI 0]) := by
            rw [hw_98]; exact zput_tg hra hmc (by simp)
          obtain ⟨w_102, hw_103⟩ : ∃ ww, ww = zput w_97 mc (4, 0, [zR t, zR fa, zR ca, zR ta, zR rp, zI (fr.length : Int), zP (oA Fs cur), zI (pl0 : Int), zP (oA Fs den), zI 1, zI 0, zI 0]) := ⟨_, rfl⟩
          refine zx_put (w1 := w_102) dX4_addAnswer_90 zf_X4_57 h_101 (Nat.le_of_ble_eq_true rfl) (zFt_bool (by first | exact Or.inl rfl | exact Or.inr rfl | exact zB_or | assumption)) (fun h => by cases h) hw_103.symm ?_
          have q_104 : w_102.2.1 = w_97.2.1 ∧ w_102.2.2 = w_97.2.2 := by rw [hw_103]; exact ⟨rfl, rfl⟩
          have h_105 : w_102.1 mc = some (4, 0, [zR t, zR fa, zR ca, zR ta, zR rp, zI (fr.length : Int), zP (oA Fs cur), zI (pl0 : Int), zP (oA Fs den), zI 1, zI 0, zI 0]) := by rw [hw_103]; exact zput_at
          refine zx_return dX4_addAnswer_93 rfl ?_
          have hfaL6 : zFa [ra, mc] w w_102 := (zFa_put (zFa_put zFa_re (by simp) hw_98) (by simp) hw_103)
          have hFrr6 := fm_keep hFr hfaL6 (zLc hra (by simp) (zLc hmc (by simp) zLn))
          have hmcF6 : mcF rp w w_102 := mcF_fa hfaL6 (zLc hra (by simp [mcP]) (zLc hmc (by simp [mcP]) zLn))
          have h_106 : w_97.1 fa = some (166, mc, zLs cap Fs) := by
            rw [hw_98]; exact zput_tg hra hfa (by simp)
          have h_107 : w_102.1 fa = some (166, mc, zLs cap Fs) := by
            rw [hw_103]; exact zput_tg h_101 h_106 (by simp)
          have h_108 : w_97.1 ca = some (138, mc, tTb 3 cc (ch.reverse.map (fun e => [(e.1 : Int), (e.2.1 : Int), (e.2.2 : Int)]))) := by
            rw [hw_98]; exact zput_tg hra hca (by simp)
          have h_109 : w_102.1 ca = some (138, mc, tTb 3 cc (ch.reverse.map (fun e => [(e.1 : Int), (e.2.1 : Int), (e.2.2 : Int)]))) := by
            rw [hw_103]; exact zput_tg h_101 h_108 (by simp)
          have h_110 : w_97.1 ta = some (139, mc, tTb 2 ct (T.reverse.map (fun e => [(e.1 : Int), (e.2 : Int)]))) := by
            rw [hw_98]; exact zput_tg hra hta (by simp)
          have h_111 : w_102.1 ta = some (139, mc, tTb 2 ct (T.reverse.map (fun e => [(e.1 : Int), (e.2 : Int)]))) := by
            rw [hw_103]; exact zput_tg h_101 h_110 (by simp)
          have h_112 : w_97.1 t = some (10, 0, [zI ty, zR tc, zR tn, zR th, zR tz]) := by
            rw [hw_98]; exact zput_tg hra ht0 (by simp)
          have h_113 : w_102.1 t = some (10, 0, [zI ty, zR tc, zR tn, zR th, zR tz]) := by
            rw [hw_103]; exact zput_tg h_101 h_112 (by simp)
          have h_114 : w_97.1 tc = some (130, t, tTb 3 30 C) := by
            rw [hw_98]; exact zput_tg hra htc (by simp)
          have h_115 : w_102.1 tc = some (130, t, tTb 3 30 C) := by
            rw [hw_103]; exact zput_tg h_101 h_114 (by simp)
          have h_116 : w_97.1 tn = some (131, t, tTb 4 800 N) := by
            rw [hw_98]; exact zput_tg hra htn (by simp)
          have h_117 : w_102.1 tn = some (131, t, tTb 4 800 N) := by
            rw [hw_103]; exact zput_tg h_101 h_116 (by simp)
          have h_118 : w_97.1 th = some (132, t, tTb 1 64 H) := by
            rw [hw_98]; exact zput_tg hra hth (by simp)
          have h_119 : w_102.1 th = some (132, t, tTb 1 64 H) := by
            rw [hw_103]; exact zput_tg h_101 h_118 (by simp)
          have h_120 : w_97.1 tz = some (120, t, Sz.map zJ) := by
            rw [hw_98]; exact zput_tg hra htz (by simp)
          have h_121 : w_102.1 tz = some (120, t, Sz.map zJ) := by
            rw [hw_103]; exact zput_tg h_101 h_120 (by simp)
          have h_122 : w_97.1 rp = some (8, 0, [zP mo, zR ri, zR ra, zR rn, zI (ns : Int), zI (nc0 : Int), zI (dp0 : Int), zI 101, zI bk, zI bc]) := by
            rw [hw_98]; exact zput_tg hra hrp (by simp)
          have h_123 : w_102.1 rp = some (8, 0, [zP mo, zR ri, zR ra, zR rn, zI (ns : Int), zI (nc0 : Int), zI (dp0 : Int), zI 101, zI bk, zI bc]) := by
            rw [hw_103]; exact zput_tg h_101 h_122 (by simp)
          have h_124 : w_97.1 ri = some (135, rp, tTb 1 3 I) := by
            rw [hw_98]; exact zput_tg hra hri (by simp)
          have h_125 : w_102.1 ri = some (135, rp, tTb 1 3 I) := by
            rw [hw_103]; exact zput_tg h_101 h_124 (by simp)
          have h_126 : w_102.1 ra = some (136, rp, tTb 3 150 (A ++ [[(-1), (zVl xs_j 1), (zVl xs_j 2)]])) := by
            rw [hw_103]; exact zput_tg h_101 h_100 (by simp)
          have h_127 : w_97.1 rn = some (137, rp, tTb 2 160 (nt.map (fun e => [(e.1 : Int), (e.2 : Int)]))) := by
            rw [hw_98]; exact zput_tg hra hrn (by simp)
          have h_128 : w_102.1 rn = some (137, rp, tTb 2 160 (nt.map (fun e => [(e.1 : Int), (e.2 : Int)]))) := by
            rw [hw_103]; exact zput_tg h_101 h_127 (by simp)
          have hM6 : mcW w_102 b1 b2 ((mc, fa, ca, ta), (t, tc, tn, th, tz), (rp, ri, ra, rn), (ty, C), (mo, I, bk, bc)) (((cap, Fs), fm), (cc, (ch.reverse.map (fun e => [(e.1 : Int), (e.2.1 : Int), (e.2.2 : Int)]))), (ct, (T.reverse.map (fun e => [(e.1 : Int), (e.2 : Int)]))), ((fr.length : Int), (oA Fs cur), (pl0 : Int), (oA Fs den)), (1, 0, 0), (N, H, Sz), ((A ++ [[(-1), (zVl xs_j 1), (zVl xs_j 2)]]), (nt.map (fun e => [(e.1 : Int), (e.2 : Int)])), (ns : Int), (nc0 : Int), (dp0 : Int), 101)) := ⟨h_105, h_107, ⟨h_109, okC⟩, ⟨h_111, okT⟩, hFrr6, ⟨h_113, ⟨h_115, okTC⟩, ⟨h_117, okN⟩, ⟨h_119, okH⟩, h_121, hSz⟩, ⟨h_123, ⟨h_125, okI⟩, ⟨h_126, (tOk_app okA rfl)⟩, ⟨h_128, okNt⟩⟩, hcap, ⟨by omega, by omega, by omega, by omega⟩, by omega, by omega⟩
          refine ⟨rfl, ?_, hmcF6⟩
          rw [if_neg h50]
          exact ⟨cap, fm, cc, (ch.reverse.map (fun e => [(e.1 : Int), (e.2.1 : Int), (e.2.2 : Int)])), ct, (T.reverse.map (fun e => [(e.1 : Int), (e.2 : Int)])), (fr.length : Int), (oA Fs cur), (pl0 : Int), (oA Fs den), 1, N, H, Sz, (A ++ [[(-1), (zVl xs_j 1), (zVl xs_j 2)]]), (nt.map (fun e => [(e.1 : Int), (e.2 : Int)])), (ns : Int), (nc0 : Int), (dp0 : Int), hM6, ⟨⟨(by first | rfl | omega | simp), hfl, hJ, hcn, hFS⟩, ⟨rfl, hcuL, (by first | rfl | omega), rfl, hdeL, rfl⟩, ⟨rfl, hchL⟩, ⟨rfl, hTL⟩, htm, ⟨(by rw [List.length_append, hA]; rfl), (by first | rfl | omega), (by first | rfl | omega), (by first | rfl | omega), rfl⟩⟩⟩
    · refine zx_aload_n (i := 1) dX4_addAnswer_34 rfl rfl ?_
      refine zx_iconst (v := 0) dX4_addAnswer_35 rfl (z32_lit (by decide) (by decide)) ?_
      refine zx_iv (b := yj) (As := [zI 0]) (st := []) (v := (some (zI (zVl xs_j 0)))) (w1 := w) dX4_addAnswer_36 zc_X4_203 hfy_j rfl rfl rfl (Nat.le_of_ble_eq_true rfl) rfl (c_X2_valueOf hfy_j hva_j (by omega) 0) ?_
      refine zx_st (st1 := [zI (zVl xs_j 0)]) rfl ?_
      refine zx_goto (tgt := 43) dX4_addAnswer_39 (by decide) ?_
      refine zx_istore_n (i := 3) dX4_addAnswer_43 rfl (by decide) rfl ?_
      refine zx_L (L1 := [some (zR mc), some (zR yj), some (zI ((R.2.2.2.1 pr_j).2.1.length : Int)), some (zI (zVl xs_j 0)), none, none]) rfl ?_
      refine zx_iload_n (i := 2) dX4_addAnswer_44 rfl rfl ?_
      refine zx_iconst (v := 1) dX4_addAnswer_45 rfl (z32_lit (by decide) (by decide)) ?_
      refine zx_icmp_le (tgt := 57) dX4_addAnswer_46 (by decide) (fun h46 => ?_) (fun h46 => ?_)
      · refine zx_iconst (v := -1) dX4_addAnswer_57 rfl (z32_lit (by decide) (by decide)) ?_
        refine zx_istore (i := 4) dX4_addAnswer_58 (by decide) rfl ?_
        refine zx_L (L1 := [some (zR mc), some (zR yj), some (zI ((R.2.2.2.1 pr_j).2.1.length : Int)), some (zI (zVl xs_j 0)), some (zI (-1)), none]) rfl ?_
        refine zx_iload_n (i := 2) dX4_addAnswer_60 rfl rfl ?_
        refine zx_pc (pc1 := 61) rfl ?_
        refine zx_iconst (v := 2) dX4_addAnswer_61 rfl (z32_lit (by decide) (by decide)) ?_
        refine zx_icmp_le (tgt := 73) dX4_addAnswer_62 (by decide) (fun h62 => ?_) (fun h62 => ?_)
        · refine zx_iconst (v := -1) dX4_addAnswer_73 rfl (z32_lit (by decide) (by decide)) ?_
          refine zx_istore (i := 5) dX4_addAnswer_74 (by decide) rfl ?_
          refine zx_L (L1 := [some (zR mc), some (zR yj), some (zI ((R.2.2.2.1 pr_j).2.1.length : Int)), some (zI (zVl xs_j 0)), some (zI (-1)), some (zI (-1))]) rfl ?_
          refine zx_aload_n (i := 0) dX4_addAnswer_76 rfl rfl ?_
          refine zx_getfield dX4_addAnswer_77 zf_X4_15 hmc rfl ?_
          refine zx_iload_n (i := 3) dX4_addAnswer_80 rfl rfl ?_
          refine zx_iload (i := 4) dX4_addAnswer_81 rfl ?_
          refine zx_iload (i := 5) dX4_addAnswer_83 rfl ?_
          obtain ⟨w_129, hw_130⟩ : ∃ ww, ww = zput w ra (136, rp, tTb 3 150 (A ++ [[(zVl xs_j 0), (-1), (-1)]])) := ⟨_, rfl⟩
          have q_131 : w_129.2.1 = w.2.1 ∧ w_129.2.2 = w.2.2 := by rw [hw_130]; exact ⟨rfl, rfl⟩
          have h_132 : w_129.1 ra = some (136, rp, tTb 3 150 (A ++ [[(zVl xs_j 0), (-1), (-1)]])) := by rw [hw_130]; exact zput_at
          refine zx_iv (b := rp) (As := [zI (zVl xs_j 0), zI (-1), zI (-1)]) (st := []) (v := none) (w1 := w_129) dX4_addAnswer_85 zc_X4_259 hrp rfl rfl rfl (Nat.le_of_ble_eq_true rfl) rfl (by rw [hw_130]; exact (c_X8_addAnswer ⟨hrp, ⟨hri, okI⟩, ⟨hra, okA⟩, ⟨hrn, okNt⟩⟩ (by omega) (zVl xs_j 0) (-1) (-1))) ?_
          refine zx_st (st1 := []) rfl ?_
          refine zx_aload_n (i := 0) dX4_addAnswer_88 rfl rfl ?_
          refine zx_iconst (v := 1) dX4_addAnswer_89 rfl (z32_lit (by decide) (by decide)) ?_
          refine zx_pc (pc1 := 90) rfl ?_
          have h_133 : w_129.1 mc = some (4, 0, [zR t, zR fa, zR ca, zR ta, zR rp, zI (fr.length : Int), zP (oA Fs cur), zI (pl0 : Int), zP (oA Fs den), zI (if flb = true then 1 else 0), zI 0, zI 0]) := by
            rw [hw_130]; exact zput_tg hra hmc (by simp)
          obtain ⟨w_134, hw_135⟩ : ∃ ww, ww = zput w_129 mc (4, 0, [zR t, zR fa, zR ca, zR ta, zR rp, zI (fr.length : Int), zP (oA Fs cur), zI (pl0 : Int), zP (oA Fs den), zI 1, zI 0, zI 0]) := ⟨_, rfl⟩
          refine zx_put (w1 := w_134) dX4_addAnswer_90 zf_X4_57 h_133 (Nat.le_of_ble_eq_true rfl) (zFt_bool (by first | exact Or.inl rfl | exact Or.inr rfl | exact zB_or | assumption)) (fun h => by cases h) hw_135.symm ?_
          have q_136 : w_134.2.1 = w_129.2.1 ∧ w_134.2.2 = w_129.2.2 := by rw [hw_135]; exact ⟨rfl, rfl⟩
          have h_137 : w_134.1 mc = some (4, 0, [zR t, zR fa, zR ca, zR ta, zR rp, zI (fr.length : Int), zP (oA Fs cur), zI (pl0 : Int), zP (oA Fs den), zI 1, zI 0, zI 0]) := by rw [hw_135]; exact zput_at
          refine zx_return dX4_addAnswer_93 rfl ?_
          have hfaL6 : zFa [ra, mc] w w_134 := (zFa_put (zFa_put zFa_re (by simp) hw_130) (by simp) hw_135)
          have hFrr6 := fm_keep hFr hfaL6 (zLc hra (by simp) (zLc hmc (by simp) zLn))
          have hmcF6 : mcF rp w w_134 := mcF_fa hfaL6 (zLc hra (by simp [mcP]) (zLc hmc (by simp [mcP]) zLn))
          have h_138 : w_129.1 fa = some (166, mc, zLs cap Fs) := by
            rw [hw_130]; exact zput_tg hra hfa (by simp)
          have h_139 : w_134.1 fa = some (166, mc, zLs cap Fs) := by
            rw [hw_135]; exact zput_tg h_133 h_138 (by simp)
          have h_140 : w_129.1 ca = some (138, mc, tTb 3 cc (ch.reverse.map (fun e => [(e.1 : Int), (e.2.1 : Int), (e.2.2 : Int)]))) := by
            rw [hw_130]; exact zput_tg hra hca (by simp)
          have h_141 : w_134.1 ca = some (138, mc, tTb 3 cc (ch.reverse.map (fun e => [(e.1 : Int), (e.2.1 : Int), (e.2.2 : Int)]))) := by
            rw [hw_135]; exact zput_tg h_133 h_140 (by simp)
          have h_142 : w_129.1 ta = some (139, mc, tTb 2 ct (T.reverse.map (fun e => [(e.1 : Int), (e.2 : Int)]))) := by
            rw [hw_130]; exact zput_tg hra hta (by simp)
          have h_143 : w_134.1 ta = some (139, mc, tTb 2 ct (T.reverse.map (fun e => [(e.1 : Int), (e.2 : Int)]))) := by
            rw [hw_135]; exact zput_tg h_133 h_142 (by simp)
          have h_144 : w_129.1 t = some (10, 0, [zI ty, zR tc, zR tn, zR th, zR tz]) := by
            rw [hw_130]; exact zput_tg hra ht0 (by simp)
          have h_145 : w_134.1 t = some (10, 0, [zI ty, zR tc, zR tn, zR th, zR tz]) := by
            rw [hw_135]; exact zput_tg h_133 h_144 (by simp)
          have h_146 : w_129.1 tc = some (130, t, tTb 3 30 C) := by
            rw [hw_130]; exact zput_tg hra htc (by simp)
          have h_147 : w_134.1 tc = some (130, t, tTb 3 30 C) := by
            rw [hw_135]; exact zput_tg h_133 h_146 (by simp)
          have h_148 : w_129.1 tn = some (131, t, tTb 4 800 N) := by
            rw [hw_130]; exact zput_tg hra htn (by simp)
          have h_149 : w_134.1 tn = some (131, t, tTb 4 800 N) := by
            rw [hw_135]; exact zput_tg h_133 h_148 (by simp)
          have h_150 : w_129.1 th = some (132, t, tTb 1 64 H) := by
            rw [hw_130]; exact zput_tg hra hth (by simp)
          have h_151 : w_134.1 th = some (132, t, tTb 1 64 H) := by
            rw [hw_135]; exact zput_tg h_133 h_150 (by simp)
          have h_152 : w_129.1 tz = some (120, t, Sz.map zJ) := by
            rw [hw_130]; exact zput_tg hra htz (by simp)
          have h_153 : w_134.1 tz = some (120, t, Sz.map zJ) := by
            rw [hw_135]; exact zput_tg h_133 h_152 (by simp)
          have h_154 : w_129.1 rp = some (8, 0, [zP mo, zR ri, zR ra, zR rn, zI (ns : Int), zI (nc0 : Int), zI (dp0 : Int), zI 101, zI bk, zI bc]) := by
            rw [hw_130]; exact zput_tg hra hrp (by simp)
          have h_155 : w_134.1 rp = some (8, 0, [zP mo, zR ri, zR ra, zR rn, zI (ns : Int), zI (nc0 : Int), zI (dp0 : Int), zI 101, zI bk, zI bc]) := by
            rw [hw_135]; exact zput_tg h_133 h_154 (by simp)
          have h_156 : w_129.1 ri = some (135, rp, tTb 1 3 I) := by
            rw [hw_130]; exact zput_tg hra hri (by simp)
          have h_157 : w_134.1 ri = some (135, rp, tTb 1 3 I) := by
            rw [hw_135]; exact zput_tg h_133 h_156 (by simp)
          have h_158 : w_134.1 ra = some (136, rp, tTb 3 150 (A ++ [[(zVl xs_j 0), (-1), (-1)]])) := by
            rw [hw_135]; exact zput_tg h_133 h_132 (by simp)
          have h_159 : w_129.1 rn = some (137, rp, tTb 2 160 (nt.map (fun e => [(e.1 : Int), (e.2 : Int)]))) := by
            rw [hw_130]; exact zput_tg hra hrn (by simp)
          have h_160 : w_134.1 rn = some (137, rp, tTb 2 160 (nt.map (fun e => [(e.1 : Int), (e.2 : Int)]))) := by
            rw [hw_135]; exact zput_tg h_133 h_159 (by simp)
          have hM6 : mcW w_134 b1 b2 ((mc, fa, ca, ta), (t, tc, tn, th, tz), (rp, ri, ra, rn), (ty, C), (mo, I, bk, bc)) (((cap, Fs), fm), (cc, (ch.reverse.map (fun e => [(e.1 : Int), (e.2.1 : Int), (e.2.2 : Int)]))), (ct, (T.reverse.map (fun e => [(e.1 : Int), (e.2 : Int)]))), ((fr.length : Int), (oA Fs cur), (pl0 : Int), (oA Fs den)), (1, 0, 0), (N, H, Sz), ((A ++ [[(zVl xs_j 0), (-1), (-1)]]), (nt.map (fun e => [(e.1 : Int), (e.2 : Int)])), (ns : Int), (nc0 : Int), (dp0 : Int), 101)) := ⟨h_137, h_139, ⟨h_141, okC⟩, ⟨h_143, okT⟩, hFrr6, ⟨h_145, ⟨h_147, okTC⟩, ⟨h_149, okN⟩, ⟨h_151, okH⟩, h_153, hSz⟩, ⟨h_155, ⟨h_157, okI⟩, ⟨h_158, (tOk_app okA rfl)⟩, ⟨h_160, okNt⟩⟩, hcap, ⟨by omega, by omega, by omega, by omega⟩, by omega, by omega⟩
          refine ⟨rfl, ?_, hmcF6⟩
          rw [if_neg h50]
          exact ⟨cap, fm, cc, (ch.reverse.map (fun e => [(e.1 : Int), (e.2.1 : Int), (e.2.2 : Int)])), ct, (T.reverse.map (fun e => [(e.1 : Int), (e.2 : Int)])), (fr.length : Int), (oA Fs cur), (pl0 : Int), (oA Fs den), 1, N, H, Sz, (A ++ [[(zVl xs_j 0), (-1), (-1)]]), (nt.map (fun e => [(e.1 : Int), (e.2 : Int)])), (ns : Int), (nc0 : Int), (dp0 : Int), hM6, ⟨⟨(by first | rfl | omega | simp), hfl, hJ, hcn, hFS⟩, ⟨rfl, hcuL, (by first | rfl | omega), rfl, hdeL, rfl⟩, ⟨rfl, hchL⟩, ⟨rfl, hTL⟩, htm, ⟨(by rw [List.length_append, hA]; rfl), (by first | rfl | omega), (by first | rfl | omega), (by first | rfl | omega), rfl⟩⟩⟩
        · refine zx_aload_n (i := 1) dX4_addAnswer_65 rfl rfl ?_
          refine zx_iconst (v := 2) dX4_addAnswer_66 rfl (z32_lit (by decide) (by decide)) ?_
          refine zx_iv (b := yj) (As := [zI 2]) (st := []) (v := (some (zI (zVl xs_j 2)))) (w1 := w) dX4_addAnswer_67 zc_X4_203 hfy_j rfl rfl rfl (Nat.le_of_ble_eq_true rfl) rfl (c_X2_valueOf hfy_j hva_j (by omega) 2) ?_
          refine zx_st (st1 := [zI (zVl xs_j 2)]) rfl ?_
          refine zx_goto (tgt := 74) dX4_addAnswer_70 (by decide) ?_
          refine zx_istore (i := 5) dX4_addAnswer_74 (by decide) rfl ?_
          refine zx_L (L1 := [some (zR mc), some (zR yj), some (zI ((R.2.2.2.1 pr_j).2.1.length : Int)), some (zI (zVl xs_j 0)), some (zI (-1)), some (zI (zVl xs_j 2))]) rfl ?_
          refine zx_aload_n (i := 0) dX4_addAnswer_76 rfl rfl ?_
          refine zx_getfield dX4_addAnswer_77 zf_X4_15 hmc rfl ?_
          refine zx_iload_n (i := 3) dX4_addAnswer_80 rfl rfl ?_
          refine zx_iload (i := 4) dX4_addAnswer_81 rfl ?_
          refine zx_iload (i := 5) dX4_addAnswer_83 rfl ?_
          refine zx_pc (pc1 := 85) rfl ?_
          obtain ⟨w_161, hw_162⟩ : ∃ ww, ww = zput w ra (136, rp, tTb 3 150 (A ++ [[(zVl xs_j 0), (-1), (zVl xs_j 2)]])) := ⟨_, rfl⟩
          have q_163 : w_161.2.1 = w.2.1 ∧ w_161.2.2 = w.2.2 := by rw [hw_162]; exact ⟨rfl, rfl⟩
          have h_164 : w_161.1 ra = some (136, rp, tTb 3 150 (A ++ [[(zVl xs_j 0), (-1), (zVl xs_j 2)]])) := by rw [hw_162]; exact zput_at
          refine zx_iv (b := rp) (As := [zI (zVl xs_j 0), zI (-1), zI (zVl xs_j 2)]) (st := []) (v := none) (w1 := w_161) dX4_addAnswer_85 zc_X4_259 hrp rfl rfl rfl (Nat.le_of_ble_eq_true rfl) rfl (by rw [hw_162]; exact (c_X8_addAnswer ⟨hrp, ⟨hri, okI⟩, ⟨hra, okA⟩, ⟨hrn, okNt⟩⟩ (by omega) (zVl xs_j 0) (-1) (zVl xs_j 2))) ?_
          refine zx_st (st1 := []) rfl ?_
          refine zx_aload_n (i := 0) dX4_addAnswer_88 rfl rfl ?_
          refine zx_iconst (v := 1) dX4_addAnswer_89 rfl (z32_lit (by decide) (by decide)) ?_
          have h_165 : w_161.1 mc = some (4, 0, [zR t, zR fa, zR ca, zR ta, zR rp, zI (fr.length : Int), zP (oA Fs cur), zI (pl0 : Int), zP (oA Fs den), zI (if flb = true then 1 else 0), zI 0, zI 0]) := by
            rw [hw_162]; exact zput_tg hra hmc (by simp)
          obtain ⟨w_166, hw_167⟩ : ∃ ww, ww = zput w_161 mc (4, 0, [zR t, zR fa, zR ca, zR ta, zR rp, zI (fr.length : Int), zP (oA Fs cur), zI (pl0 : Int), zP (oA Fs den), zI 1, zI 0, zI 0]) := ⟨_, rfl⟩
          refine zx_put (w1 := w_166) dX4_addAnswer_90 zf_X4_57 h_165 (Nat.le_of_ble_eq_true rfl) (zFt_bool (by first | exact Or.inl rfl | exact Or.inr rfl | exact zB_or | assumption)) (fun h => by cases h) hw_167.symm ?_
          have q_168 : w_166.2.1 = w_161.2.1 ∧ w_166.2.2 = w_161.2.2 := by rw [hw_167]; exact ⟨rfl, rfl⟩
          have h_169 : w_166.1 mc = some (4, 0, [zR t, zR fa, zR ca, zR ta, zR rp, zI (fr.length : Int), zP (oA Fs cur), zI (pl0 : Int), zP (oA Fs den), zI 1, zI 0, zI 0]) := by rw [hw_167]; exact zput_at
          refine zx_return dX4_addAnswer_93 rfl ?_
          have hfaL6 : zFa [ra, mc] w w_166 := (zFa_put (zFa_put zFa_re (by simp) hw_162) (by simp) hw_167)
          have hFrr6 := fm_keep hFr hfaL6 (zLc hra (by simp) (zLc hmc (by simp) zLn))
          have hmcF6 : mcF rp w w_166 := mcF_fa hfaL6 (zLc hra (by simp [mcP]) (zLc hmc (by simp [mcP]) zLn))
          have h_170 : w_161.1 fa = some (166, mc, zLs cap Fs) := by
            rw [hw_162]; exact zput_tg hra hfa (by simp)
          have h_171 : w_166.1 fa = some (166, mc, zLs cap Fs) := by
            rw [hw_167]; exact zput_tg h_165 h_170 (by simp)
          have h_172 : w_161.1 ca = some (138, mc, tTb 3 cc (ch.reverse.map (fun e => [(e.1 : Int), (e.2.1 : Int), (e.2.2 : Int)]))) := by
            rw [hw_162]; exact zput_tg hra hca (by simp)
          have h_173 : w_166.1 ca = some (138, mc, tTb 3 cc (ch.reverse.map (fun e => [(e.1 : Int), (e.2.1 : Int), (e.2.2 : Int)]))) := by
            rw [hw_167]; exact zput_tg h_165 h_172 (by simp)
          have h_174 : w_161.1 ta = some (139, mc, tTb 2 ct (T.reverse.map (fun e => [(e.1 : Int), (e.2 : Int)]))) := by
            rw [hw_162]; exact zput_tg hra hta (by simp)
          have h_175 : w_166.1 ta = some (139, mc, tTb 2 ct (T.reverse.map (fun e => [(e.1 : Int), (e.2 : Int)]))) := by
            rw [hw_167]; exact zput_tg h_165 h_174 (by simp)
          have h_176 : w_161.1 t = some (10, 0, [zI ty, zR tc, zR tn, zR th, zR tz]) := by
            rw [hw_162]; exact zput_tg hra ht0 (by simp)
          have h_177 : w_166.1 t = some (10, 0, [zI ty, zR tc, zR tn, zR th, zR tz]) := by
            rw [hw_167]; exact zput_tg h_165 h_176 (by simp)
          have h_178 : w_161.1 tc = some (130, t, tTb 3 30 C) := by
            rw [hw_162]; exact zput_tg hra htc (by simp)
          have h_179 : w_166.1 tc = some (130, t, tTb 3 30 C) := by
            rw [hw_167]; exact zput_tg h_165 h_178 (by simp)
          have h_180 : w_161.1 tn = some (131, t, tTb 4 800 N) := by
            rw [hw_162]; exact zput_tg hra htn (by simp)
          have h_181 : w_166.1 tn = some (131, t, tTb 4 800 N) := by
            rw [hw_167]; exact zput_tg h_165 h_180 (by simp)
          have h_182 : w_161.1 th = some (132, t, tTb 1 64 H) := by
            rw [hw_162]; exact zput_tg hra hth (by simp)
          have h_183 : w_166.1 th = some (132, t, tTb 1 64 H) := by
            rw [hw_167]; exact zput_tg h_165 h_182 (by simp)
          have h_184 : w_161.1 tz = some (120, t, Sz.map zJ) := by
            rw [hw_162]; exact zput_tg hra htz (by simp)
          have h_185 : w_166.1 tz = some (120, t, Sz.map zJ) := by
            rw [hw_167]; exact zput_tg h_165 h_184 (by simp)
          have h_186 : w_161.1 rp = some (8, 0, [zP mo, zR ri, zR ra, zR rn, zI (ns : Int), zI (nc0 : Int), zI (dp0 : Int), zI 101, zI bk, zI bc]) := by
            rw [hw_162]; exact zput_tg hra hrp (by simp)
          have h_187 : w_166.1 rp = some (8, 0, [zP mo, zR ri, zR ra, zR rn, zI (ns : Int), zI (nc0 : Int), zI (dp0 : Int), zI 101, zI bk, zI bc]) := by
            rw [hw_167]; exact zput_tg h_165 h_186 (by simp)
          have h_188 : w_161.1 ri = some (135, rp, tTb 1 3 I) := by
            rw [hw_162]; exact zput_tg hra hri (by simp)
          have h_189 : w_166.1 ri = some (135, rp, tTb 1 3 I) := by
            rw [hw_167]; exact zput_tg h_165 h_188 (by simp)
          have h_190 : w_166.1 ra = some (136, rp, tTb 3 150 (A ++ [[(zVl xs_j 0), (-1), (zVl xs_j 2)]])) := by
            rw [hw_167]; exact zput_tg h_165 h_164 (by simp)
          have h_191 : w_161.1 rn = some (137, rp, tTb 2 160 (nt.map (fun e => [(e.1 : Int), (e.2 : Int)]))) := by
            rw [hw_162]; exact zput_tg hra hrn (by simp)
          have h_192 : w_166.1 rn = some (137, rp, tTb 2 160 (nt.map (fun e => [(e.1 : Int), (e.2 : Int)]))) := by
            rw [hw_167]; exact zput_tg h_165 h_191 (by simp)
          have hM6 : mcW w_166 b1 b2 ((mc, fa, ca, ta), (t, tc, tn, th, tz), (rp, ri, ra, rn), (ty, C), (mo, I, bk, bc)) (((cap, Fs), fm), (cc, (ch.reverse.map (fun e => [(e.1 : Int), (e.2.1 : Int), (e.2.2 : Int)]))), (ct, (T.reverse.map (fun e => [(e.1 : Int), (e.2 : Int)]))), ((fr.length : Int), (oA Fs cur), (pl0 : Int), (oA Fs den)), (1, 0, 0), (N, H, Sz), ((A ++ [[(zVl xs_j 0), (-1), (zVl xs_j 2)]]), (nt.map (fun e => [(e.1 : Int), (e.2 : Int)])), (ns : Int), (nc0 : Int), (dp0 : Int), 101)) := ⟨h_169, h_171, ⟨h_173, okC⟩, ⟨h_175, okT⟩, hFrr6, ⟨h_177, ⟨h_179, okTC⟩, ⟨h_181, okN⟩, ⟨h_183, okH⟩, h_185, hSz⟩, ⟨h_187, ⟨h_189, okI⟩, ⟨h_190, (tOk_app okA rfl)⟩, ⟨h_192, okNt⟩⟩, hcap, ⟨by omega, by omega, by omega, by omega⟩, by omega, by omega⟩
          refine ⟨rfl, ?_, hmcF6⟩
          rw [if_neg h50]
          exact ⟨cap, fm, cc, (ch.reverse.map (fun e => [(e.1 : Int), (e.2.1 : Int), (e.2.2 : Int)])), ct, (T.reverse.map (fun e => [(e.1 : Int), (e.2 : Int)])), (fr.length : Int), (oA Fs cur), (pl0 : Int), (oA Fs den), 1, N, H, Sz, (A ++ [[(zVl xs_j 0), (-1), (zVl xs_j 2)]]), (nt.map (fun e => [(e.1 : Int), (e.2 : Int)])), (ns : Int), (nc0 : Int), (dp0 : Int), hM6, ⟨⟨(by first | rfl | omega | simp), hfl, hJ, hcn, hFS⟩, ⟨rfl, hcuL, (by first | rfl | omega), rfl, hdeL, rfl⟩, ⟨rfl, hchL⟩, ⟨rfl, hTL⟩, htm, ⟨(by rw [List.length_append, hA]; rfl), (by first | rfl | omega), (by first | rfl | omega), (by first | rfl | omega), rfl⟩⟩⟩
      · refine zx_aload_n (i := 1) dX4_addAnswer_49 rfl rfl ?_
        refine zx_iconst (v := 1) dX4_addAnswer_50 rfl (z32_lit (by decide) (by decide)) ?_
        refine zx_iv (b := yj) (As := [zI 1]) (st := []) (v := (some (zI (zVl xs_j 1)))) (w1 := w) dX4_addAnswer_51 zc_X4_203 hfy_j rfl rfl rfl (Nat.le_of_ble_eq_true rfl) rfl (c_X2_valueOf hfy_j hva_j (by omega) 1) ?_
        refine zx_st (st1 := [zI (zVl xs_j 1)]) rfl ?_
        refine zx_pc (pc1 := 54) rfl ?_
        refine zx_goto (tgt := 58) dX4_addAnswer_54 (by decide) ?_
        refine zx_istore (i := 4) dX4_addAnswer_58 (by decide) rfl ?_
        refine zx_L (L1 := [some (zR mc), some (zR yj), some (zI ((R.2.2.2.1 pr_j).2.1.length : Int)), some (zI (zVl xs_j 0)), some (zI (zVl xs_j 1)), none]) rfl ?_
        refine zx_iload_n (i := 2) dX4_addAnswer_60 rfl rfl ?_
        refine zx_iconst (v := 2) dX4_addAnswer_61 rfl (z32_lit (by decide) (by decide)) ?_
        refine zx_icmp_le (tgt := 73) dX4_addAnswer_62 (by decide) (fun h62 => ?_) (fun h62 => ?_)
        · refine zx_iconst (v := -1) dX4_addAnswer_73 rfl (z32_lit (by decide) (by decide)) ?_
          refine zx_istore (i := 5) dX4_addAnswer_74 (by decide) rfl ?_
          refine zx_L (L1 := [some (zR mc), some (zR yj), some (zI ((R.2.2.2.1 pr_j).2.1.length : Int)), some (zI (zVl xs_j 0)), some (zI (zVl xs_j 1)), some (zI (-1))]) rfl ?_
          refine zx_aload_n (i := 0) dX4_addAnswer_76 rfl rfl ?_
          refine zx_getfield dX4_addAnswer_77 zf_X4_15 hmc rfl ?_
          refine zx_iload_n (i := 3) dX4_addAnswer_80 rfl rfl ?_
          refine zx_iload (i := 4) dX4_addAnswer_81 rfl ?_
          refine zx_iload (i := 5) dX4_addAnswer_83 rfl ?_
          refine zx_pc (pc1 := 85) rfl ?_
          obtain ⟨w_193, hw_194⟩ : ∃ ww, ww = zput w ra (136, rp, tTb 3 150 (A ++ [[(zVl xs_j 0), (zVl xs_j 1), (-1)]])) := ⟨_, rfl⟩
          have q_195 : w_193.2.1 = w.2.1 ∧ w_193.2.2 = w.2.2 := by rw [hw_194]; exact ⟨rfl, rfl⟩
          have h_196 : w_193.1 ra = some (136, rp, tTb 3 150 (A ++ [[(zVl xs_j 0), (zVl xs_j 1), (-1)]])) := by rw [hw_194]; exact zput_at
          refine zx_iv (b := rp) (As := [zI (zVl xs_j 0), zI (zVl xs_j 1), zI (-1)]) (st := []) (v := none) (w1 := w_193) dX4_addAnswer_85 zc_X4_259 hrp rfl rfl rfl (Nat.le_of_ble_eq_true rfl) rfl (by rw [hw_194]; exact (c_X8_addAnswer ⟨hrp, ⟨hri, okI⟩, ⟨hra, okA⟩, ⟨hrn, okNt⟩⟩ (by omega) (zVl xs_j 0) (zVl xs_j 1) (-1))) ?_
          refine zx_st (st1 := []) rfl ?_
          refine zx_aload_n (i := 0) dX4_addAnswer_88 rfl rfl ?_
          refine zx_iconst (v := 1) dX4_addAnswer_89 rfl (z32_lit (by decide) (by decide)) ?_
          have h_197 : w_193.1 mc = some (4, 0, [zR t, zR fa, zR ca, zR ta, zR rp, zI (fr.length : Int), zP (oA Fs cur), zI (pl0 : Int), zP (oA Fs den), zI (if flb = true then 1 else 0), zI 0, zI 0]) := by
            rw [hw_194]; exact zput_tg hra hmc (by simp)
          obtain ⟨w_198, hw_199⟩ : ∃ ww, ww = zput w_193 mc (4, 0, [zR t, zR fa, zR ca, zR ta, zR rp, zI (fr.length : Int), zP (oA Fs cur), zI (pl0 : Int), zP (oA Fs den), zI 1, zI 0, zI 0]) := ⟨_, rfl⟩
          refine zx_put (w1 := w_198) dX4_addAnswer_90 zf_X4_57 h_197 (Nat.le_of_ble_eq_true rfl) (zFt_bool (by first | exact Or.inl rfl | exact Or.inr rfl | exact zB_or | assumption)) (fun h => by cases h) hw_199.symm ?_
          have q_200 : w_198.2.1 = w_193.2.1 ∧ w_198.2.2 = w_193.2.2 := by rw [hw_199]; exact ⟨rfl, rfl⟩
          have h_201 : w_198.1 mc = some (4, 0, [zR t, zR fa, zR ca, zR ta, zR rp, zI (fr.length : Int), zP (oA Fs cur), zI (pl0 : Int), zP (oA Fs den), zI 1, zI 0, zI 0]) := by rw [hw_199]; exact zput_at
          refine zx_return dX4_addAnswer_93 rfl ?_
          have hfaL6 : zFa [ra, mc] w w_198 := (zFa_put (zFa_put zFa_re (by simp) hw_194) (by simp) hw_199)
          have hFrr6 := fm_keep hFr hfaL6 (zLc hra (by simp) (zLc hmc (by simp) zLn))
          have hmcF6 : mcF rp w w_198 := mcF_fa hfaL6 (zLc hra (by simp [mcP]) (zLc hmc (by simp [mcP]) zLn))
          have h_202 : w_193.1 fa = some (166, mc, zLs cap Fs) := by
            rw [hw_194]; exact zput_tg hra hfa (by simp)
          have h_203 : w_198.1 fa = some (166, mc, zLs cap Fs) := by
            rw [hw_199]; exact zput_tg h_197 h_202 (by simp)
          have h_204 : w_193.1 ca = some (138, mc, tTb 3 cc (ch.reverse.map (fun e => [(e.1 : Int), (e.2.1 : Int), (e.2.2 : Int)]))) := by
            rw [hw_194]; exact zput_tg hra hca (by simp)
          have h_205 : w_198.1 ca = some (138, mc, tTb 3 cc (ch.reverse.map (fun e => [(e.1 : Int), (e.2.1 : Int), (e.2.2 : Int)]))) := by
            rw [hw_199]; exact zput_tg h_197 h_204 (by simp)
          have h_206 : w_193.1 ta = some (139, mc, tTb 2 ct (T.reverse.map (fun e => [(e.1 : Int), (e.2 : Int)]))) := by
            rw [hw_194]; exact zput_tg hra hta (by simp)
          have h_207 : w_198.1 ta = some (139, mc, tTb 2 ct (T.reverse.map (fun e => [(e.1 : Int), (e.2 : Int)]))) := by
            rw [hw_199]; exact zput_tg h_197 h_206 (by simp)
          have h_208 : w_193.1 t = some (10, 0, [zI ty, zR tc, zR tn, zR th, zR tz]) := by
            rw [hw_194]; exact zput_tg hra ht0 (by simp)
          have h_209 : w_198.1 t = some (10, 0, [zI ty, zR tc, zR tn, zR th, zR tz]) := by
            rw [hw_199]; exact zput_tg h_197 h_208 (by simp)
          have h_210 : w_193.1 tc = some (130, t, tTb 3 30 C) := by
            rw [hw_194]; exact zput_tg hra htc (by simp)
          have h_211 : w_198.1 tc = some (130, t, tTb 3 30 C) := by
            rw [hw_199]; exact zput_tg h_197 h_210 (by simp)
          have h_212 : w_193.1 tn = some (131, t, tTb 4 800 N) := by
            rw [hw_194]; exact zput_tg hra htn (by simp)
          have h_213 : w_198.1 tn = some (131, t, tTb 4 800 N) := by
            rw [hw_199]; exact zput_tg h_197 h_212 (by simp)
          have h_214 : w_193.1 th = some (132, t, tTb 1 64 H) := by
            rw [hw_194]; exact zput_tg hra hth (by simp)
          have h_215 : w_198.1 th = some (132, t, tTb 1 64 H) := by
            rw [hw_199]; exact zput_tg h_197 h_214 (by simp)
          have h_216 : w_193.1 tz = some (120, t, Sz.map zJ) := by
            rw [hw_194]; exact zput_tg hra htz (by simp)
          have h_217 : w_198.1 tz = some (120, t, Sz.map zJ) := by
            rw [hw_199]; exact zput_tg h_197 h_216 (by simp)
          have h_218 : w_193.1 rp = some (8, 0, [zP mo, zR ri, zR ra, zR rn, zI (ns : Int), zI (nc0 : Int), zI (dp0 : Int), zI 101, zI bk, zI bc]) := by
            rw [hw_194]; exact zput_tg hra hrp (by simp)
          have h_219 : w_198.1 rp = some (8, 0, [zP mo, zR ri, zR ra, zR rn, zI (ns : Int), zI (nc0 : Int), zI (dp0 : Int), zI 101, zI bk, zI bc]) := by
            rw [hw_199]; exact zput_tg h_197 h_218 (by simp)
          have h_220 : w_193.1 ri = some (135, rp, tTb 1 3 I) := by
            rw [hw_194]; exact zput_tg hra hri (by simp)
          have h_221 : w_198.1 ri = some (135, rp, tTb 1 3 I) := by
            rw [hw_199]; exact zput_tg h_197 h_220 (by simp)
          have h_222 : w_198.1 ra = some (136, rp, tTb 3 150 (A ++ [[(zVl xs_j 0), (zVl xs_j 1), (-1)]])) := by
            rw [hw_199]; exact zput_tg h_197 h_196 (by simp)
          have h_223 : w_193.1 rn = some (137, rp, tTb 2 160 (nt.map (fun e => [(e.1 : Int), (e.2 : Int)]))) := by
            rw [hw_194]; exact zput_tg hra hrn (by simp)
          have h_224 : w_198.1 rn = some (137, rp, tTb 2 160 (nt.map (fun e => [(e.1 : Int), (e.2 : Int)]))) := by
            rw [hw_199]; exact zput_tg h_197 h_223 (by simp)
          have hM6 : mcW w_198 b1 b2 ((mc, fa, ca, ta), (t, tc, tn, th, tz), (rp, ri, ra, rn), (ty, C), (mo, I, bk, bc)) (((cap, Fs), fm), (cc, (ch.reverse.map (fun e => [(e.1 : Int), (e.2.1 : Int), (e.2.2 : Int)]))), (ct, (T.reverse.map (fun e => [(e.1 : Int), (e.2 : Int)]))), ((fr.length : Int), (oA Fs cur), (pl0 : Int), (oA Fs den)), (1, 0, 0), (N, H, Sz), ((A ++ [[(zVl xs_j 0), (zVl xs_j 1), (-1)]]), (nt.map (fun e => [(e.1 : Int), (e.2 : Int)])), (ns : Int), (nc0 : Int), (dp0 : Int), 101)) := ⟨h_201, h_203, ⟨h_205, okC⟩, ⟨h_207, okT⟩, hFrr6, ⟨h_209, ⟨h_211, okTC⟩, ⟨h_213, okN⟩, ⟨h_215, okH⟩, h_217, hSz⟩, ⟨h_219, ⟨h_221, okI⟩, ⟨h_222, (tOk_app okA rfl)⟩, ⟨h_224, okNt⟩⟩, hcap, ⟨by omega, by omega, by omega, by omega⟩, by omega, by omega⟩
          refine ⟨rfl, ?_, hmcF6⟩
          rw [if_neg h50]
          exact ⟨cap, fm, cc, (ch.reverse.map (fun e => [(e.1 : Int), (e.2.1 : Int), (e.2.2 : Int)])), ct, (T.reverse.map (fun e => [(e.1 : Int), (e.2 : Int)])), (fr.length : Int), (oA Fs cur), (pl0 : Int), (oA Fs den), 1, N, H, Sz, (A ++ [[(zVl xs_j 0), (zVl xs_j 1), (-1)]]), (nt.map (fun e => [(e.1 : Int), (e.2 : Int)])), (ns : Int), (nc0 : Int), (dp0 : Int), hM6, ⟨⟨(by first | rfl | omega | simp), hfl, hJ, hcn, hFS⟩, ⟨rfl, hcuL, (by first | rfl | omega), rfl, hdeL, rfl⟩, ⟨rfl, hchL⟩, ⟨rfl, hTL⟩, htm, ⟨(by rw [List.length_append, hA]; rfl), (by first | rfl | omega), (by first | rfl | omega), (by first | rfl | omega), rfl⟩⟩⟩
        · refine zx_aload_n (i := 1) dX4_addAnswer_65 rfl rfl ?_
          refine zx_iconst (v := 2) dX4_addAnswer_66 rfl (z32_lit (by decide) (by decide)) ?_
          refine zx_iv (b := yj) (As := [zI 2]) (st := []) (v := (some (zI (zVl xs_j 2)))) (w1 := w) dX4_addAnswer_67 zc_X4_203 hfy_j rfl rfl rfl (Nat.le_of_ble_eq_true rfl) rfl (c_X2_valueOf hfy_j hva_j (by omega) 2) ?_
          refine zx_st (st1 := [zI (zVl xs_j 2)]) rfl ?_
          refine zx_goto (tgt := 74) dX4_addAnswer_70 (by decide) ?_
          refine zx_istore (i := 5) dX4_addAnswer_74 (by decide) rfl ?_
          refine zx_L (L1 := [some (zR mc), some (zR yj), some (zI ((R.2.2.2.1 pr_j).2.1.length : Int)), some (zI (zVl xs_j 0)), some (zI (zVl xs_j 1)), some (zI (zVl xs_j 2))]) rfl ?_
          refine zx_aload_n (i := 0) dX4_addAnswer_76 rfl rfl ?_
          refine zx_getfield dX4_addAnswer_77 zf_X4_15 hmc rfl ?_
          refine zx_pc (pc1 := 80) rfl ?_
          refine zx_iload_n (i := 3) dX4_addAnswer_80 rfl rfl ?_
          refine zx_iload (i := 4) dX4_addAnswer_81 rfl ?_
          refine zx_iload (i := 5) dX4_addAnswer_83 rfl ?_
          obtain ⟨w_225, hw_226⟩ : ∃ ww, ww = zput w ra (136, rp, tTb 3 150 (A ++ [[(zVl xs_j 0), (zVl xs_j 1), (zVl xs_j 2)]])) := ⟨_, rfl⟩
          have q_227 : w_225.2.1 = w.2.1 ∧ w_225.2.2 = w.2.2 := by rw [hw_226]; exact ⟨rfl, rfl⟩
          have h_228 : w_225.1 ra = some (136, rp, tTb 3 150 (A ++ [[(zVl xs_j 0), (zVl xs_j 1), (zVl xs_j 2)]])) := by rw [hw_226]; exact zput_at
          refine zx_iv (b := rp) (As := [zI (zVl xs_j 0), zI (zVl xs_j 1), zI (zVl xs_j 2)]) (st := []) (v := none) (w1 := w_225) dX4_addAnswer_85 zc_X4_259 hrp rfl rfl rfl (Nat.le_of_ble_eq_true rfl) rfl (by rw [hw_226]; exact (c_X8_addAnswer ⟨hrp, ⟨hri, okI⟩, ⟨hra, okA⟩, ⟨hrn, okNt⟩⟩ (by omega) (zVl xs_j 0) (zVl xs_j 1) (zVl xs_j 2))) ?_
          refine zx_st (st1 := []) rfl ?_
          refine zx_aload_n (i := 0) dX4_addAnswer_88 rfl rfl ?_
          refine zx_iconst (v := 1) dX4_addAnswer_89 rfl (z32_lit (by decide) (by decide)) ?_
          have h_229 : w_225.1 mc = some (4, 0, [zR t, zR fa, zR ca, zR ta, zR rp, zI (fr.length : Int), zP (oA Fs cur), zI (pl0 : Int), zP (oA Fs den), zI (if flb = true then 1 else 0), zI 0, zI 0]) := by
            rw [hw_226]; exact zput_tg hra hmc (by simp)
          obtain ⟨w_230, hw_231⟩ : ∃ ww, ww = zput w_225 mc (4, 0, [zR t, zR fa, zR ca, zR ta, zR rp, zI (fr.length : Int), zP (oA Fs cur), zI (pl0 : Int), zP (oA Fs den), zI 1, zI 0, zI 0]) := ⟨_, rfl⟩
          refine zx_put (w1 := w_230) dX4_addAnswer_90 zf_X4_57 h_229 (Nat.le_of_ble_eq_true rfl) (zFt_bool (by first | exact Or.inl rfl | exact Or.inr rfl | exact zB_or | assumption)) (fun h => by cases h) hw_231.symm ?_
          have q_232 : w_230.2.1 = w_225.2.1 ∧ w_230.2.2 = w_225.2.2 := by rw [hw_231]; exact ⟨rfl, rfl⟩
          have h_233 : w_230.1 mc = some (4, 0, [zR t, zR fa, zR ca, zR ta, zR rp, zI (fr.length : Int), zP (oA Fs cur), zI (pl0 : Int), zP (oA Fs den), zI 1, zI 0, zI 0]) := by rw [hw_231]; exact zput_at
          refine zx_return dX4_addAnswer_93 rfl ?_
          have hfaL6 : zFa [ra, mc] w w_230 := (zFa_put (zFa_put zFa_re (by simp) hw_226) (by simp) hw_231)
          have hFrr6 := fm_keep hFr hfaL6 (zLc hra (by simp) (zLc hmc (by simp) zLn))
          have hmcF6 : mcF rp w w_230 := mcF_fa hfaL6 (zLc hra (by simp [mcP]) (zLc hmc (by simp [mcP]) zLn))
          have h_234 : w_225.1 fa = some (166, mc, zLs cap Fs) := by
            rw [hw_226]; exact zput_tg hra hfa (by simp)
          have h_235 : w_230.1 fa = some (166, mc, zLs cap Fs) := by
            rw [hw_231]; exact zput_tg h_229 h_234 (by simp)
          have h_236 : w_225.1 ca = some (138, mc, tTb 3 cc (ch.reverse.map (fun e => [(e.1 : Int), (e.2.1 : Int), (e.2.2 : Int)]))) := by
            rw [hw_226]; exact zput_tg hra hca (by simp)
          have h_237 : w_230.1 ca = some (138, mc, tTb 3 cc (ch.reverse.map (fun e => [(e.1 : Int), (e.2.1 : Int), (e.2.2 : Int)]))) := by
            rw [hw_231]; exact zput_tg h_229 h_236 (by simp)
          have h_238 : w_225.1 ta = some (139, mc, tTb 2 ct (T.reverse.map (fun e => [(e.1 : Int), (e.2 : Int)]))) := by
            rw [hw_226]; exact zput_tg hra hta (by simp)
          have h_239 : w_230.1 ta = some (139, mc, tTb 2 ct (T.reverse.map (fun e => [(e.1 : Int), (e.2 : Int)]))) := by
            rw [hw_231]; exact zput_tg h_229 h_238 (by simp)
          have h_240 : w_225.1 t = some (10, 0, [zI ty, zR tc, zR tn, zR th, zR tz]) := by
            rw [hw_226]; exact zput_tg hra ht0 (by simp)
          have h_241 : w_230.1 t = some (10, 0, [zI ty, zR tc, zR tn, zR th, zR tz]) := by
            rw [hw_231]; exact zput_tg h_229 h_240 (by simp)
          have h_242 : w_225.1 tc = some (130, t, tTb 3 30 C) := by
            rw [hw_226]; exact zput_tg hra htc (by simp)
          have h_243 : w_230.1 tc = some (130, t, tTb 3 30 C) := by
            rw [hw_231]; exact zput_tg h_229 h_242 (by simp)
          have h_244 : w_225.1 tn = some (131, t, tTb 4 800 N) := by
            rw [hw_226]; exact zput_tg hra htn (by simp)
          have h_245 : w_230.1 tn = some (131, t, tTb 4 800 N) := by
            rw [hw_231]; exact zput_tg h_229 h_244 (by simp)
          have h_246 : w_225.1 th = some (132, t, tTb 1 64 H) := by
            rw [hw_226]; exact zput_tg hra hth (by simp)
          have h_247 : w_230.1 th = some (132, t, tTb 1 64 H) := by
            rw [hw_231]; exact zput_tg h_229 h_246 (by simp)
          have h_248 : w_225.1 tz = some (120, t, Sz.map zJ) := by
            rw [hw_226]; exact zput_tg hra htz (by simp)
          have h_249 : w_230.1 tz = some (120, t, Sz.map zJ) := by
            rw [hw_231]; exact zput_tg h_229 h_248 (by simp)
          have h_250 : w_225.1 rp = some (8, 0, [zP mo, zR ri, zR ra, zR rn, zI (ns : Int), zI (nc0 : Int), zI (dp0 : Int), zI 101, zI bk, zI bc]) := by
            rw [hw_226]; exact zput_tg hra hrp (by simp)
          have h_251 : w_230.1 rp = some (8, 0, [zP mo, zR ri, zR ra, zR rn, zI (ns : Int), zI (nc0 : Int), zI (dp0 : Int), zI 101, zI bk, zI bc]) := by
            rw [hw_231]; exact zput_tg h_229 h_250 (by simp)
          have h_252 : w_225.1 ri = some (135, rp, tTb 1 3 I) := by
            rw [hw_226]; exact zput_tg hra hri (by simp)
          have h_253 : w_230.1 ri = some (135, rp, tTb 1 3 I) := by
            rw [hw_231]; exact zput_tg h_229 h_252 (by simp)
          have h_254 : w_230.1 ra = some (136, rp, tTb 3 150 (A ++ [[(zVl xs_j 0), (zVl xs_j 1), (zVl xs_j 2)]])) := by
            rw [hw_231]; exact zput_tg h_229 h_228 (by simp)
          have h_255 : w_225.1 rn = some (137, rp, tTb 2 160 (nt.map (fun e => [(e.1 : Int), (e.2 : Int)]))) := by
            rw [hw_226]; exact zput_tg hra hrn (by simp)
          have h_256 : w_230.1 rn = some (137, rp, tTb 2 160 (nt.map (fun e => [(e.1 : Int), (e.2 : Int)]))) := by
            rw [hw_231]; exact zput_tg h_229 h_255 (by simp)
          have hM6 : mcW w_230 b1 b2 ((mc, fa, ca, ta), (t, tc, tn, th, tz), (rp, ri, ra, rn), (ty, C), (mo, I, bk, bc)) (((cap, Fs), fm), (cc, (ch.reverse.map (fun e => [(e.1 : Int), (e.2.1 : Int), (e.2.2 : Int)]))), (ct, (T.reverse.map (fun e => [(e.1 : Int), (e.2 : Int)]))), ((fr.length : Int), (oA Fs cur), (pl0 : Int), (oA Fs den)), (1, 0, 0), (N, H, Sz), ((A ++ [[(zVl xs_j 0), (zVl xs_j 1), (zVl xs_j 2)]]), (nt.map (fun e => [(e.1 : Int), (e.2 : Int)])), (ns : Int), (nc0 : Int), (dp0 : Int), 101)) := ⟨h_233, h_235, ⟨h_237, okC⟩, ⟨h_239, okT⟩, hFrr6, ⟨h_241, ⟨h_243, okTC⟩, ⟨h_245, okN⟩, ⟨h_247, okH⟩, h_249, hSz⟩, ⟨h_251, ⟨h_253, okI⟩, ⟨h_254, (tOk_app okA rfl)⟩, ⟨h_256, okNt⟩⟩, hcap, ⟨by omega, by omega, by omega, by omega⟩, by omega, by omega⟩
          refine ⟨rfl, ?_, hmcF6⟩
          rw [if_neg h50]
          exact ⟨cap, fm, cc, (ch.reverse.map (fun e => [(e.1 : Int), (e.2.1 : Int), (e.2.2 : Int)])), ct, (T.reverse.map (fun e => [(e.1 : Int), (e.2 : Int)])), (fr.length : Int), (oA Fs cur), (pl0 : Int), (oA Fs den), 1, N, H, Sz, (A ++ [[(zVl xs_j 0), (zVl xs_j 1), (zVl xs_j 2)]]), (nt.map (fun e => [(e.1 : Int), (e.2 : Int)])), (ns : Int), (nc0 : Int), (dp0 : Int), hM6, ⟨⟨(by first | rfl | omega | simp), hfl, hJ, hcn, hFS⟩, ⟨rfl, hcuL, (by first | rfl | omega), rfl, hdeL, rfl⟩, ⟨rfl, hchL⟩, ⟨rfl, hTL⟩, htm, ⟨(by rw [List.length_append, hA]; rfl), (by first | rfl | omega), (by first | rfl | omega), (by first | rfl | omega), rfl⟩⟩⟩
theorem s_leave (hP : pgW w pg R) (hK : mkF R) (hW : msW w b1 b2 ((mc, fa, ca, ta), (t, tc, tn, th, tz), (rp, ri, ra, rn), (ty, C), (mo, I, bk, bc)) R Fs (0, 0, 101) ((fr, cls, V, ch, T), (cur, pl0, den, flb), tm, (na, ns, nc0, dp0), nt)) (hG1 : b1 + 1500000 ≤ 60 * G.2.2.2.2.1) (hG2 : b2 + 3150000 ≤ G.2.2.2.2.2) (hF3 : Fs.length ≤ 320) (hTl : T.length + 3 < 350000) {j yj : Nat} (hjf : j < fr.length) (hj : Fs[j]? = some yj) (hpl0 : (mmf fr j).2.1.2.1 < 1000) (hlv : ∀ i, (mmf fr j).2.1.1 = some i → ∃ c e, cls i = some c ∧ ((pgC R).2.1.2 (mmf fr i).1.2 c)[(mmf fr j).2.1.2.1]? = some e) : zM G zm_X4_leave (d + 6) [zR mc, zR yj] w (zVoid fun w' => (match mmLeave (pgC R) j ((fr, cls, V, ch, T), (cur, pl0, den, flb), tm, (na, ns, nc0, dp0), nt) with
    | .inl S' => msW w' b1 b2 ((mc, fa, ca, ta), (t, tc, tn, th, tz), (rp, ri, ra, rn), (ty, C), (mo, I, bk, bc)) R Fs (0, 0, 101) S'
    | .inr r => msW w' b1 b2 ((mc, fa, ca, ta), (t, tc, tn, th, tz), (rp, ri, ra, rn), (ty, C), (mo, I, bk, bc)) R Fs (1, 0, 108) r.2 ∧ r.1 = 1) ∧ mcF rp w w') := by
  refine zx_ent (by decide +kernel) rfl (Nat.le_of_ble_eq_true rfl) ?_
  refine zx_L (L1 := [some (zR mc), some (zR yj)]) rfl ?_
  obtain ⟨cap, fm, cc, CH, ct, TR, us, cu, pl, de, fl, N, H, Sz, A, Nt, sc, nc, dp, hM, hS⟩ := id hW
  obtain ⟨⟨hus, hfl, hJ, hcn, hFS⟩, ⟨hcu, hcuL, hpl, hde, hdeL, hfb⟩, ⟨hCH, hchL⟩, ⟨hTR, hTL⟩, htm, ⟨hA, hsc, hnc, hdp, hNt⟩⟩ := id hS
  subst hus hcu hpl hde hfb hCH hTR hsc hnc hdp hNt
  obtain ⟨hmc, hfa, ⟨hca, okC⟩, ⟨hta, okT⟩, hFr, ⟨ht0, ⟨htc, okTC⟩, ⟨htn, okN⟩, ⟨hth, okH⟩, htz, hSz⟩, ⟨hrp, ⟨hri, okI⟩, ⟨hra, okA⟩, ⟨hrn, okNt⟩⟩, hcap, hcct, hrm1, hrm2⟩ := id hM
  obtain ⟨⟨⟨va_j, md_j⟩, ⟨fca_j, fbt_j, fdp_j⟩, ⟨fcl_j, fdn_j, fod_j, fcb_j⟩, xs_j⟩, efm_j⟩ : ∃ r, fm yj = r := ⟨_, rfl⟩
  obtain ⟨hfy_j, hva_j, hx_j⟩ := hFr j yj hj
  rw [efm_j] at hfy_j hva_j hx_j
  have hx_j : xs_j.length = 8 := hx_j
  obtain ⟨hmd_j, ⟨hcb1_j, hcb2_j⟩, ⟨hcb3_j, hcb4_j, hcb5_j⟩, ⟨-, hxv_j⟩, hdq_j⟩ := hFS j yj hjf hj
  rw [efm_j] at hmd_j hcb1_j hcb3_j hxv_j
  simp only [Prod.mk.injEq] at hcb1_j hcb3_j
  obtain ⟨ea1_j, ea2_j, ea3_j⟩ := hcb1_j
  obtain ⟨eb1_j, eb2_j, eb3_j, eb4_j⟩ := hcb3_j
  subst ea1_j ea2_j ea3_j eb1_j eb2_j eb3_j eb4_j
  obtain ⟨pr_j, ins_j, pm_j, lo_j, gd_j, cf_j, cr_j, sw_j, emr_j, hmo_j, hpp_j, hpn_j, hpm_j, hm2_j, hin_j, hsw_j, hsr_j, hmm_j⟩ := md_get hK hP hmd_j
  obtain ⟨⟨hpy, ⟨htt, okTT⟩, hml, hcl0⟩, hsm, hsc2, -⟩ := hP.2.2.2.2.1 pr_j hpm_j
  rw [hpn_j] at hpy
  have hp5 : (mmf fr j).1.1 < 5 := (hK.1 _ _ _ hmd_j).2.2.2.2
  cases hcal : (mmf fr j).2.1.1 with
  | none =>
    have efi : oA Fs (mmf fr j).2.1.1 = none := by rw [hcal]; rfl
    rw [efi] at hfy_j
    refine zx_aload_n (i := 0) dX4_leave_0 rfl rfl ?_
    refine zx_getfield dX4_leave_1 zf_X4_15 hmc rfl ?_
    refine zx_bipush (v := 120) dX4_leave_4 (by decide +kernel) (z32_lit (by decide) (by decide)) ?_
    refine zx_aload_n (i := 1) dX4_leave_6 rfl rfl ?_
    refine zx_getfield dX4_leave_7 zf_X4_73 hfy_j rfl ?_
    refine zx_getfield dX4_leave_10 zf_X4_152 hmo_j rfl ?_
    refine zx_getfield dX4_leave_13 zf_X4_156 hpy rfl ?_
    refine zx_aload_n (i := 1) dX4_leave_16 rfl rfl ?_
    refine zx_getfield dX4_leave_17 zf_X4_159 hfy_j rfl ?_
    refine zx_ivN (b := rp) (As := [zI 120, zI ((mmf fr j).1.1 : Int), zI ((mmf fr j).2.1.2.2 : Int)]) (st := []) dX4_leave_20 zc_X4_162 hrp rfl rfl rfl (Nat.le_of_ble_eq_true rfl) rfl (s_note hW (sg := 120) (p := (mmf fr j).1.1) (dd := (mmf fr j).2.1.2.2) (by decide) (by omega) (by omega)) (fun w1 hq => ?_)
    obtain ⟨hW1, hF1⟩ := hq
    obtain ⟨cap1, fm1, cc1, CH1, ct1, TR1, us1, cu1, pl1, de1, fl1, N1, H1, Sz1, A1, Nt1, sc1, nc1, dp1, hM1, hS1⟩ := id hW1
    obtain ⟨⟨hus1, hfl1, hJ1, hcn1, hFS1⟩, ⟨hcu1, hcuL1, hpl1, hde1, hdeL1, hfb1⟩, ⟨hCH1, hchL1⟩, ⟨hTR1, hTL1⟩, htm1, ⟨hA1, hsc1, hnc1, hdp1, hNt1⟩⟩ := id hS1
    subst hus1 hcu1 hpl1 hde1 hfb1 hCH1 hTR1 hsc1 hnc1 hdp1 hNt1
    obtain ⟨hmc1, hfa1, ⟨hca1, okC1⟩, ⟨hta1, okT1⟩, hFr1, ⟨ht01, ⟨htc1, okTC1⟩, ⟨htn1, okN1⟩, ⟨hth1, okH1⟩, htz1, hSz1⟩, ⟨hrp1, ⟨hri1, okI1⟩, ⟨hra1, okA1⟩, ⟨hrn1, okNt1⟩⟩, hcap1, hcct1, hrm11, hrm21⟩ := id hM1
    obtain ⟨⟨⟨va_j1, md_j1⟩, ⟨fca_j1, fbt_j1, fdp_j1⟩, ⟨fcl_j1, fdn_j1, fod_j1, fcb_j1⟩, xs_j1⟩, efm_j1⟩ : ∃ r, fm1 yj = r := ⟨_, rfl⟩
    obtain ⟨hfy_j1, hva_j1, hx_j1⟩ := hFr1 j yj hj
    rw [efm_j1] at hfy_j1 hva_j1 hx_j1
    have hx_j1 : xs_j1.length = 8 := hx_j1
    obtain ⟨hmd_j1, ⟨hcb1_j1, hcb2_j1⟩, ⟨hcb3_j1, hcb4_j1, hcb5_j1⟩, ⟨-, hxv_j1⟩, hdq_j1⟩ := hFS1 j yj hjf hj
    rw [efm_j1] at hmd_j1 hcb1_j1 hcb3_j1 hxv_j1
    simp only [Prod.mk.injEq] at hcb1_j1 hcb3_j1
    obtain ⟨ea1_j1, ea2_j1, ea3_j1⟩ := hcb1_j1
    obtain ⟨eb1_j1, eb2_j1, eb3_j1, eb4_j1⟩ := hcb3_j1
    subst ea1_j1 ea2_j1 ea3_j1 eb1_j1 eb2_j1 eb3_j1 eb4_j1
    have emd_j1 : md_j = md_j1 := by have q := hmd_j1; rw [hmd_j] at q; exact Option.some.inj q
    subst emd_j1
    rw [efi] at hfy_j1
    have hP1 : pgW w1 pg R := pgW_TM hP (mcF_fr hF1)
    refine zx_aload_n (i := 1) dX4_leave_23 rfl rfl ?_
    refine zx_pc (pc1 := 24) rfl ?_
    refine zx_getfield dX4_leave_24 zf_X4_220 hfy_j1 rfl ?_
    refine zx_ifnonnull (tgt := 38) dX4_leave_27 (by decide) (fun h => absurd rfl h) (fun _ => ?_)
    refine zx_aload_n (i := 0) dX4_leave_30 rfl rfl ?_
    refine zx_aload_n (i := 1) dX4_leave_31 rfl rfl ?_
    refine zx_ivN (b := mc) (As := [zR yj]) (st := []) dX4_leave_32 zc_X4_243 hmc1 rfl rfl rfl (Nat.le_of_ble_eq_true rfl) rfl (s_addAnswer hP1 hK hW1 hjf hj) (fun w5 hq => ?_)
    obtain ⟨hW5, hF5⟩ := hq
    refine zx_goto (tgt := 123) dX4_leave_35 (by decide) ?_
    refine zx_return dX4_leave_123 rfl ?_
    by_cases h50 : 50 ≤ na
    · rw [if_pos h50] at hW5
      rw [mmLeave_0 hcal h50]
      exact ⟨rfl, ⟨hW5, rfl⟩, (mcF_tr hF1 hF5)⟩
    · rw [if_neg h50] at hW5
      rw [mmLeave_1 hcal h50]
      exact ⟨rfl, hW5, (mcF_tr hF1 hF5)⟩
  | some i =>
    have hij := hcb2_j i hcal
    have hif : i < fr.length := by omega
    obtain ⟨yi, hyi⟩ : ∃ y, Fs[i]? = some y := ⟨_, List.getElem?_eq_getElem (by omega)⟩
    have efi : oA Fs (mmf fr j).2.1.1 = some yi := by rw [hcal]; exact hyi
    rw [efi] at hfy_j
    obtain ⟨c, e, hci, he⟩ := hlv i hcal
    have hpa0 : pgCl R c ≠ none := by
      obtain ⟨-, -, ⟨-, -, q⟩, -⟩ := hFS i yi hif hyi
      exact q c hci
    obtain ⟨a, hpa⟩ := Option.ne_none_iff_exists'.mp hpa0
    have hby : mmBy (pgC R) fr cls j i = e.1 := by
      unfold mmBy
      rw [hci, List.getD_eq_getElem?_getD]
      show (((((pgC R).2.1.2 (mmf fr i).1.2 c)[(mmf fr j).2.1.2.1]?)).getD _).1 = e.1
      rw [he]
      rfl
    have hrr : mmHb ((pgC R).2.1.1 (mmf fr j).1.1 (mmf fr j).1.2) j i (mmBy (pgC R) fr cls j i) (List.range (mmBy (pgC R) fr cls j i).2.2.1) V T = (mmHb ((pgC R).2.1.1 (mmf fr j).1.1 (mmf fr j).1.2) j i e.1 (List.range e.1.2.2.1) V T) := by rw [hby]
    by_cases hdn : (mmf fr j).2.2.1 = true
    · cases hy : (mmHb ((pgC R).2.1.1 (mmf fr j).1.1 (mmf fr j).1.2) j i e.1 (List.range e.1.2.2.1) V T).1 with
      | true =>
        refine zx_aload_n (i := 0) dX4_leave_0 rfl rfl ?_
        refine zx_getfield dX4_leave_1 zf_X4_15 hmc rfl ?_
        refine zx_bipush (v := 120) dX4_leave_4 (by decide +kernel) (z32_lit (by decide) (by decide)) ?_
        refine zx_aload_n (i := 1) dX4_leave_6 rfl rfl ?_
        refine zx_getfield dX4_leave_7 zf_X4_73 hfy_j rfl ?_
        refine zx_getfield dX4_leave_10 zf_X4_152 hmo_j rfl ?_
        refine zx_getfield dX4_leave_13 zf_X4_156 hpy rfl ?_
        refine zx_aload_n (i := 1) dX4_leave_16 rfl rfl ?_
        refine zx_getfield dX4_leave_17 zf_X4_159 hfy_j rfl ?_
        refine zx_ivN (b := rp) (As := [zI 120, zI ((mmf fr j).1.1 : Int), zI ((mmf fr j).2.1.2.2 : Int)]) (st := []) dX4_leave_20 zc_X4_162 hrp rfl rfl rfl (Nat.le_of_ble_eq_true rfl) rfl (s_note hW (sg := 120) (p := (mmf fr j).1.1) (dd := (mmf fr j).2.1.2.2) (by decide) (by omega) (by omega)) (fun w1 hq => ?_)
        obtain ⟨hW1, hF1⟩ := hq
        obtain ⟨cap1, fm1, cc1, CH1, ct1, TR1, us1, cu1, pl1, de1, fl1, N1, H1, Sz1, A1, Nt1, sc1, nc1, dp1, hM1, hS1⟩ := id hW1
        obtain ⟨⟨hus1, hfl1, hJ1, hcn1, hFS1⟩, ⟨hcu1, hcuL1, hpl1, hde1, hdeL1, hfb1⟩, ⟨hCH1, hchL1⟩, ⟨hTR1, hTL1⟩, htm1, ⟨hA1, hsc1, hnc1, hdp1, hNt1⟩⟩ := id hS1
        subst hus1 hcu1 hpl1 hde1 hfb1 hCH1 hTR1 hsc1 hnc1 hdp1 hNt1
        obtain ⟨hmc1, hfa1, ⟨hca1, okC1⟩, ⟨hta1, okT1⟩, hFr1, ⟨ht01, ⟨htc1, okTC1⟩, ⟨htn1, okN1⟩, ⟨hth1, okH1⟩, htz1, hSz1⟩, ⟨hrp1, ⟨hri1, okI1⟩, ⟨hra1, okA1⟩, ⟨hrn1, okNt1⟩⟩, hcap1, hcct1, hrm11, hrm21⟩ := id hM1
        obtain ⟨⟨⟨va_j1, md_j1⟩, ⟨fca_j1, fbt_j1, fdp_j1⟩, ⟨fcl_j1, fdn_j1, fod_j1, fcb_j1⟩, xs_j1⟩, efm_j1⟩ : ∃ r, fm1 yj = r := ⟨_, rfl⟩
        obtain ⟨hfy_j1, hva_j1, hx_j1⟩ := hFr1 j yj hj
        rw [efm_j1] at hfy_j1 hva_j1 hx_j1
        have hx_j1 : xs_j1.length = 8 := hx_j1
        obtain ⟨hmd_j1, ⟨hcb1_j1, hcb2_j1⟩, ⟨hcb3_j1, hcb4_j1, hcb5_j1⟩, ⟨-, hxv_j1⟩, hdq_j1⟩ := hFS1 j yj hjf hj
        rw [efm_j1] at hmd_j1 hcb1_j1 hcb3_j1 hxv_j1
        simp only [Prod.mk.injEq] at hcb1_j1 hcb3_j1
        obtain ⟨ea1_j1, ea2_j1, ea3_j1⟩ := hcb1_j1
        obtain ⟨eb1_j1, eb2_j1, eb3_j1, eb4_j1⟩ := hcb3_j1
        subst ea1_j1 ea2_j1 ea3_j1 eb1_j1 eb2_j1 eb3_j1 eb4_j1
        have emd_j1 : md_j = md_j1 := by have q := hmd_j1; rw [hmd_j] at q; exact Option.some.inj q
        subst emd_j1
        rw [efi] at hfy_j1
        have hP1 : pgW w1 pg R := pgW_TM hP (mcF_fr hF1)
        refine zx_aload_n (i := 1) dX4_leave_23 rfl rfl ?_
        refine zx_pc (pc1 := 24) rfl ?_
        refine zx_getfield dX4_leave_24 zf_X4_220 hfy_j1 rfl ?_
        refine zx_ifnonnull (tgt := 38) dX4_leave_27 (by decide) (fun _ => ?_) (fun h => by cases h)
        refine zx_aload_n (i := 1) dX4_leave_38 rfl rfl ?_
        refine zx_getfield dX4_leave_39 zf_X4_246 hfy_j1 rfl ?_
        refine zx_if_eq (tgt := 84) dX4_leave_42 (by decide) (fun h42 => absurd h42 (by rw [if_pos hdn]; exact (by decide : ¬ (1 : Int) = 0))) (fun h42 => ?_)
        refine zx_aload_n (i := 0) dX4_leave_45 rfl rfl ?_
        refine zx_aload_n (i := 1) dX4_leave_46 rfl rfl ?_
        refine zx_aload_n (i := 1) dX4_leave_47 rfl rfl ?_
        refine zx_getfield dX4_leave_48 zf_X4_220 hfy_j1 rfl ?_
        refine zx_ivV (b := mc) (As := [zR yj, zR yi]) (st := []) dX4_leave_51 zc_X4_249 hmc1 rfl rfl rfl (Nat.le_of_ble_eq_true rfl) rfl (s_handsBack hP1 hK hW1 hG1 hG2 hF3 (by omega) hif hyi hjf hj hci hpa he) (fun v3 w3 hq => ?_)
        obtain ⟨ev3, hW3, hF3⟩ := hq
        subst ev3
        obtain ⟨cap3, fm3, cc3, CH3, ct3, TR3, us3, cu3, pl3, de3, fl3, N3, H3, Sz3, A3, Nt3, sc3, nc3, dp3, hM3, hS3⟩ := id hW3
        obtain ⟨⟨hus3, hfl3, hJ3, hcn3, hFS3⟩, ⟨hcu3, hcuL3, hpl3, hde3, hdeL3, hfb3⟩, ⟨hCH3, hchL3⟩, ⟨hTR3, hTL3⟩, htm3, ⟨hA3, hsc3, hnc3, hdp3, hNt3⟩⟩ := id hS3
        subst hus3 hcu3 hpl3 hde3 hfb3 hCH3 hTR3 hsc3 hnc3 hdp3 hNt3
        obtain ⟨hmc3, hfa3, ⟨hca3, okC3⟩, ⟨hta3, okT3⟩, hFr3, ⟨ht03, ⟨htc3, okTC3⟩, ⟨htn3, okN3⟩, ⟨hth3, okH3⟩, htz3, hSz3⟩, ⟨hrp3, ⟨hri3, okI3⟩, ⟨hra3, okA3⟩, ⟨hrn3, okNt3⟩⟩, hcap3, hcct3, hrm13, hrm23⟩ := id hM3
        obtain ⟨⟨⟨va_j3, md_j3⟩, ⟨fca_j3, fbt_j3, fdp_j3⟩, ⟨fcl_j3, fdn_j3, fod_j3, fcb_j3⟩, xs_j3⟩, efm_j3⟩ : ∃ r, fm3 yj = r := ⟨_, rfl⟩
        obtain ⟨hfy_j3, hva_j3, hx_j3⟩ := hFr3 j yj hj
        rw [efm_j3] at hfy_j3 hva_j3 hx_j3
        have hx_j3 : xs_j3.length = 8 := hx_j3
        obtain ⟨hmd_j3, ⟨hcb1_j3, hcb2_j3⟩, ⟨hcb3_j3, hcb4_j3, hcb5_j3⟩, ⟨-, hxv_j3⟩, hdq_j3⟩ := hFS3 j yj hjf hj
        rw [efm_j3] at hmd_j3 hcb1_j3 hcb3_j3 hxv_j3
        simp only [Prod.mk.injEq] at hcb1_j3 hcb3_j3
        obtain ⟨ea1_j3, ea2_j3, ea3_j3⟩ := hcb1_j3
        obtain ⟨eb1_j3, eb2_j3, eb3_j3, eb4_j3⟩ := hcb3_j3
        subst ea1_j3 ea2_j3 ea3_j3 eb1_j3 eb2_j3 eb3_j3 eb4_j3
        have emd_j3 : md_j = md_j3 := by have q := hmd_j3; rw [hmd_j] at q; exact Option.some.inj q
        subst emd_j3
        refine zx_if_eq (tgt := 76) dX4_leave_54 (by decide) (fun h54 => absurd h54 (by rw [zB_t hy]; decide)) (fun h54 => ?_)
        refine zx_aload_n (i := 0) dX4_leave_57 rfl rfl ?_
        refine zx_pc (pc1 := 58) rfl ?_
        refine zx_getfield dX4_leave_58 zf_X4_31 hmc3 rfl ?_
        refine zx_aload_n (i := 1) dX4_leave_61 rfl rfl ?_
        refine zx_getfield dX4_leave_62 zf_X4_214 hfy_j3 rfl ?_
        obtain ⟨w_1, hw_2⟩ : ∃ ww, ww = zput w3 ca (138, mc, tTb 3 cc3 ((ch.drop (ch.length - (mmf fr j).2.2.2.2)).reverse.map (fun e => [(e.1 : Int), (e.2.1 : Int), (e.2.2 : Int)]))) := ⟨_, rfl⟩
        have q_3 : w_1.2.1 = w3.2.1 ∧ w_1.2.2 = w3.2.2 := by rw [hw_2]; exact ⟨rfl, rfl⟩
        have h_4 : w_1.1 ca = some (138, mc, tTb 3 cc3 ((ch.drop (ch.length - (mmf fr j).2.2.2.2)).reverse.map (fun e => [(e.1 : Int), (e.2.1 : Int), (e.2.2 : Int)]))) := by rw [hw_2]; exact zput_at
        refine zx_iv (b := ca) (As := [zI ((mmf fr j).2.2.2.2 : Int)]) (st := []) (v := none) (w1 := w_1) dX4_leave_65 zc_X4_107 hca3 (z_cls9 (by decide)) rfl rfl (Nat.le_of_ble_eq_true rfl) rfl (by rw [hw_2]; exact (by have q := c_X9_cut (G := G) (d := d + 5) hca3 (by decide) okC3 ((mmf fr j).2.2.2.2 : Int); rw [ch_cut] at q; exact q)) ?_
        have okC7 : tOk 3 ((ch.drop (ch.length - (mmf fr j).2.2.2.2)).reverse.map (fun e => [(e.1 : Int), (e.2.1 : Int), (e.2.2 : Int)])) := by have q := tOk_cut (n := ((mmf fr j).2.2.2.2 : Int)) okC3; rw [ch_cut] at q; exact q
        refine zx_st (st1 := []) rfl ?_
        refine zx_aload_n (i := 0) dX4_leave_68 rfl rfl ?_
        refine zx_aload_n (i := 1) dX4_leave_69 rfl rfl ?_
        have h_5 : w_1.1 yj = some (2, 0, [zI (j : Int), zR va_j3, zR md_j, zP (oA Fs (mmf fr j).2.1.1), zI ((mmf fr j).2.1.2.1 : Int), zI ((mmf fr j).2.1.2.2 : Int), zP ((cls j).bind (pgCl R)), zI (if (mmf fr j).2.2.1 = true then 1 else 0), zP (oA Fs (mmf fr j).2.2.2.1), zI ((mmf fr j).2.2.2.2 : Int)]) := by
          rw [hw_2]; exact zput_tg hca3 hfy_j3 (by simp)
        refine zx_getfield dX4_leave_70 zf_X4_217 h_5 rfl ?_
        have h_6 : w_1.1 mc = some (4, 0, [zR t, zR fa, zR ca, zR ta, zR rp, zI (fr.length : Int), zP (oA Fs cur), zI (pl0 : Int), zP (oA Fs den), zI (if flb = true then 1 else 0), zI 0, zI 0]) := by
          rw [hw_2]; exact zput_tg hca3 hmc3 (by simp)
        obtain ⟨w_7, hw_8⟩ : ∃ ww, ww = zput w_1 mc (4, 0, [zR t, zR fa, zR ca, zR ta, zR rp, zI (fr.length : Int), zP (oA Fs cur), zI (pl0 : Int), zP (oA Fs (mmf fr j).2.2.2.1), zI (if flb = true then 1 else 0), zI 0, zI 0]) := ⟨_, rfl⟩
        refine zx_put (w1 := w_7) dX4_leave_73 zf_X4_113 h_6 (Nat.le_of_ble_eq_true rfl) (zFt_obj _ _) (fun h => by cases h) hw_8.symm ?_
        have q_9 : w_7.2.1 = w_1.2.1 ∧ w_7.2.2 = w_1.2.2 := by rw [hw_8]; exact ⟨rfl, rfl⟩
        have h_10 : w_7.1 mc = some (4, 0, [zR t, zR fa, zR ca, zR ta, zR rp, zI (fr.length : Int), zP (oA Fs cur), zI (pl0 : Int), zP (oA Fs (mmf fr j).2.2.2.1), zI (if flb = true then 1 else 0), zI 0, zI 0]) := by rw [hw_8]; exact zput_at
        refine zx_aload_n (i := 0) dX4_leave_76 rfl rfl ?_
        refine zx_iconst (v := 1) dX4_leave_77 rfl (z32_lit (by decide) (by decide)) ?_
        obtain ⟨w_11, hw_12⟩ : ∃ ww, ww = zput w_7 mc (4, 0, [zR t, zR fa, zR ca, zR ta, zR rp, zI (fr.length : Int), zP (oA Fs cur), zI (pl0 : Int), zP (oA Fs (mmf fr j).2.2.2.1), zI 1, zI 0, zI 0]) := ⟨_, rfl⟩
        refine zx_put (w1 := w_11) dX4_leave_78 zf_X4_57 h_10 (Nat.le_of_ble_eq_true rfl) (zFt_bool (by first | exact Or.inl rfl | exact Or.inr rfl | exact zB_or | assumption)) (fun h => by cases h) hw_12.symm ?_
        have q_13 : w_11.2.1 = w_7.2.1 ∧ w_11.2.2 = w_7.2.2 := by rw [hw_12]; exact ⟨rfl, rfl⟩
        have h_14 : w_11.1 mc = some (4, 0, [zR t, zR fa, zR ca, zR ta, zR rp, zI (fr.length : Int), zP (oA Fs cur), zI (pl0 : Int), zP (oA Fs (mmf fr j).2.2.2.1), zI 1, zI 0, zI 0]) := by rw [hw_12]; exact zput_at
        refine zx_goto (tgt := 123) dX4_leave_81 (by decide) ?_
        refine zx_pc (pc1 := 123) rfl ?_
        refine zx_return dX4_leave_123 rfl ?_
        have hfaL6 : zFa [ca, mc] w3 w_11 := (zFa_put (zFa_put (zFa_put zFa_re (by simp) hw_2) (by simp) hw_8) (by simp) hw_12)
        have hFrr6 := fm_keep hFr3 hfaL6 (zLc hca3 (by simp) (zLc hmc3 (by simp) zLn))
        have hmcF6 : mcF rp w3 w_11 := mcF_fa hfaL6 (zLc hca3 (by simp [mcP]) (zLc hmc3 (by simp [mcP]) zLn))
        have h_15 : w_1.1 fa = some (166, mc, zLs cap3 Fs) := by
          rw [hw_2]; exact zput_tg hca3 hfa3 (by simp)
        have h_16 : w_7.1 fa = some (166, mc, zLs cap3 Fs) := by
          rw [hw_8]; exact zput_tg h_6 h_15 (by simp)
        have h_17 : w_11.1 fa = some (166, mc, zLs cap3 Fs) := by
          rw [hw_12]; exact zput_tg h_10 h_16 (by simp)
        have h_18 : w_7.1 ca = some (138, mc, tTb 3 cc3 ((ch.drop (ch.length - (mmf fr j).2.2.2.2)).reverse.map (fun e => [(e.1 : Int), (e.2.1 : Int), (e.2.2 : Int)]))) := by
          rw [hw_8]; exact zput_tg h_6 h_4 (by simp)
        have h_19 : w_11.1 ca = some (138, mc, tTb 3 cc3 ((ch.drop (ch.length - (mmf fr j).2.2.2.2)).reverse.map (fun e => [(e.1 : Int), (e.2.1 : Int), (e.2.2 : Int)]))) := by
          rw [hw_12]; exact zput_tg h_10 h_18 (by simp)
        have h_20 : w_1.1 ta = some (139, mc, tTb 2 ct3 (((mmHb ((pgC R).2.1.1 (mmf fr j).1.1 (mmf fr j).1.2) j i e.1 (List.range e.1.2.2.1) V T).2.2).reverse.map (fun e => [(e.1 : Int), (e.2 : Int)]))) := by
          rw [hw_2]; exact zput_tg hca3 hta3 (by simp)
        have h_21 : w_7.1 ta = some (139, mc, tTb 2 ct3 (((mmHb ((pgC R).2.1.1 (mmf fr j).1.1 (mmf fr j).1.2) j i e.1 (List.range e.1.2.2.1) V T).2.2).reverse.map (fun e => [(e.1 : Int), (e.2 : Int)]))) := by
          rw [hw_8]; exact zput_tg h_6 h_20 (by simp)
        have h_22 : w_11.1 ta = some (139, mc, tTb 2 ct3 (((mmHb ((pgC R).2.1.1 (mmf fr j).1.1 (mmf fr j).1.2) j i e.1 (List.range e.1.2.2.1) V T).2.2).reverse.map (fun e => [(e.1 : Int), (e.2 : Int)]))) := by
          rw [hw_12]; exact zput_tg h_10 h_21 (by simp)
        have h_23 : w_1.1 t = some (10, 0, [zI ty, zR tc, zR tn, zR th, zR tz]) := by
          rw [hw_2]; exact zput_tg hca3 ht03 (by simp)
        have h_24 : w_7.1 t = some (10, 0, [zI ty, zR tc, zR tn, zR th, zR tz]) := by
          rw [hw_8]; exact zput_tg h_6 h_23 (by simp)
        have h_25 : w_11.1 t = some (10, 0, [zI ty, zR tc, zR tn, zR th, zR tz]) := by
          rw [hw_12]; exact zput_tg h_10 h_24 (by simp)
        have h_26 : w_1.1 tc = some (130, t, tTb 3 30 C) := by
          rw [hw_2]; exact zput_tg hca3 htc3 (by simp)
        have h_27 : w_7.1 tc = some (130, t, tTb 3 30 C) := by
          rw [hw_8]; exact zput_tg h_6 h_26 (by simp)
        have h_28 : w_11.1 tc = some (130, t, tTb 3 30 C) := by
          rw [hw_12]; exact zput_tg h_10 h_27 (by simp)
        have h_29 : w_1.1 tn = some (131, t, tTb 4 800 N3) := by
          rw [hw_2]; exact zput_tg hca3 htn3 (by simp)
        have h_30 : w_7.1 tn = some (131, t, tTb 4 800 N3) := by
          rw [hw_8]; exact zput_tg h_6 h_29 (by simp)
        have h_31 : w_11.1 tn = some (131, t, tTb 4 800 N3) := by
          rw [hw_12]; exact zput_tg h_10 h_30 (by simp)
        have h_32 : w_1.1 th = some (132, t, tTb 1 64 H3) := by
          rw [hw_2]; exact zput_tg hca3 hth3 (by simp)
        have h_33 : w_7.1 th = some (132, t, tTb 1 64 H3) := by
          rw [hw_8]; exact zput_tg h_6 h_32 (by simp)
        have h_34 : w_11.1 th = some (132, t, tTb 1 64 H3) := by
          rw [hw_12]; exact zput_tg h_10 h_33 (by simp)
        have h_35 : w_1.1 tz = some (120, t, Sz3.map zJ) := by
          rw [hw_2]; exact zput_tg hca3 htz3 (by simp)
        have h_36 : w_7.1 tz = some (120, t, Sz3.map zJ) := by
          rw [hw_8]; exact zput_tg h_6 h_35 (by simp)
        have h_37 : w_11.1 tz = some (120, t, Sz3.map zJ) := by
          rw [hw_12]; exact zput_tg h_10 h_36 (by simp)
        have h_38 : w_1.1 rp = some (8, 0, [zP mo, zR ri, zR ra, zR rn, zI (ns : Int), zI (nc0 : Int), zI (dp0 : Int), zI 101, zI bk, zI bc]) := by
          rw [hw_2]; exact zput_tg hca3 hrp3 (by simp)
        have h_39 : w_7.1 rp = some (8, 0, [zP mo, zR ri, zR ra, zR rn, zI (ns : Int), zI (nc0 : Int), zI (dp0 : Int), zI 101, zI bk, zI bc]) := by
          rw [hw_8]; exact zput_tg h_6 h_38 (by simp)
        have h_40 : w_11.1 rp = some (8, 0, [zP mo, zR ri, zR ra, zR rn, zI (ns : Int), zI (nc0 : Int), zI (dp0 : Int), zI 101, zI bk, zI bc]) := by
          rw [hw_12]; exact zput_tg h_10 h_39 (by simp)
        have h_41 : w_1.1 ri = some (135, rp, tTb 1 3 I) := by
          rw [hw_2]; exact zput_tg hca3 hri3 (by simp)
        have h_42 : w_7.1 ri = some (135, rp, tTb 1 3 I) := by
          rw [hw_8]; exact zput_tg h_6 h_41 (by simp)
        have h_43 : w_11.1 ri = some (135, rp, tTb 1 3 I) := by
          rw [hw_12]; exact zput_tg h_10 h_42 (by simp)
        have h_44 : w_1.1 ra = some (136, rp, tTb 3 150 A3) := by
          rw [hw_2]; exact zput_tg hca3 hra3 (by simp)
        have h_45 : w_7.1 ra = some (136, rp, tTb 3 150 A3) := by
          rw [hw_8]; exact zput_tg h_6 h_44 (by simp)
        have h_46 : w_11.1 ra = some (136, rp, tTb 3 150 A3) := by
          rw [hw_12]; exact zput_tg h_10 h_45 (by simp)
        have h_47 : w_1.1 rn = some (137, rp, tTb 2 160 ((mmNote nt 120 (mmf fr j).1.1 (mmf fr j).2.1.2.2).map (fun e => [(e.1 : Int), (e.2 : Int)]))) := by
          rw [hw_2]; exact zput_tg hca3 hrn3 (by simp)
        have h_48 : w_7.1 rn = some (137, rp, tTb 2 160 ((mmNote nt 120 (mmf fr j).1.1 (mmf fr j).2.1.2.2).map (fun e => [(e.1 : Int), (e.2 : Int)]))) := by
          rw [hw_8]; exact zput_tg h_6 h_47 (by simp)
        have h_49 : w_11.1 rn = some (137, rp, tTb 2 160 ((mmNote nt 120 (mmf fr j).1.1 (mmf fr j).2.1.2.2).map (fun e => [(e.1 : Int), (e.2 : Int)]))) := by
          rw [hw_12]; exact zput_tg h_10 h_48 (by simp)
        have hM6 : mcW w_11 b1 b2 ((mc, fa, ca, ta), (t, tc, tn, th, tz), (rp, ri, ra, rn), (ty, C), (mo, I, bk, bc)) (((cap3, Fs), fm3), (cc3, ((ch.drop (ch.length - (mmf fr j).2.2.2.2)).reverse.map (fun e => [(e.1 : Int), (e.2.1 : Int), (e.2.2 : Int)]))), (ct3, (((mmHb ((pgC R).2.1.1 (mmf fr j).1.1 (mmf fr j).1.2) j i e.1 (List.range e.1.2.2.1) V T).2.2).reverse.map (fun e => [(e.1 : Int), (e.2 : Int)]))), ((fr.length : Int), (oA Fs cur), (pl0 : Int), (oA Fs (mmf fr j).2.2.2.1)), (1, 0, 0), (N3, H3, Sz3), (A3, ((mmNote nt 120 (mmf fr j).1.1 (mmf fr j).2.1.2.2).map (fun e => [(e.1 : Int), (e.2 : Int)])), (ns : Int), (nc0 : Int), (dp0 : Int), 101)) := ⟨h_14, h_17, ⟨h_19, okC7⟩, ⟨h_22, okT3⟩, hFrr6, ⟨h_25, ⟨h_28, okTC3⟩, ⟨h_31, okN3⟩, ⟨h_34, okH3⟩, h_37, hSz3⟩, ⟨h_40, ⟨h_43, okI3⟩, ⟨h_46, okA3⟩, ⟨h_49, okNt3⟩⟩, hcap3, ⟨by omega, by omega, by omega, by omega⟩, by omega, by omega⟩
        have hW6 : msW w_11 b1 b2 ((mc, fa, ca, ta), (t, tc, tn, th, tz), (rp, ri, ra, rn), (ty, C), (mo, I, bk, bc)) R Fs (0, 0, 101) ((fr, cls, (mmHb ((pgC R).2.1.1 (mmf fr j).1.1 (mmf fr j).1.2) j i e.1 (List.range e.1.2.2.1) V T).2.1, (ch.drop (ch.length - (mmf fr j).2.2.2.2)), (mmHb ((pgC R).2.1.1 (mmf fr j).1.1 (mmf fr j).1.2) j i e.1 (List.range e.1.2.2.1) V T).2.2), (cur, pl0, (mmf fr j).2.2.2.1, true), tm, (na, ns, nc0, dp0), (mmNote nt 120 (mmf fr j).1.1 (mmf fr j).2.1.2.2)) := ⟨cap3, fm3, cc3, ((ch.drop (ch.length - (mmf fr j).2.2.2.2)).reverse.map (fun e => [(e.1 : Int), (e.2.1 : Int), (e.2.2 : Int)])), ct3, (((mmHb ((pgC R).2.1.1 (mmf fr j).1.1 (mmf fr j).1.2) j i e.1 (List.range e.1.2.2.1) V T).2.2).reverse.map (fun e => [(e.1 : Int), (e.2 : Int)])), (fr.length : Int), (oA Fs cur), (pl0 : Int), (oA Fs (mmf fr j).2.2.2.1), 1, N3, H3, Sz3, A3, ((mmNote nt 120 (mmf fr j).1.1 (mmf fr j).2.1.2.2).map (fun e => [(e.1 : Int), (e.2 : Int)])), (ns : Int), (nc0 : Int), (dp0 : Int), hM6, ⟨⟨(by first | rfl | omega | simp), hfl3, hJ3, hcn3, hFS3⟩, ⟨rfl, hcuL3, (by first | rfl | omega), rfl, (fun q h => by have := hcb4_j q h; omega), rfl⟩, ⟨rfl, (fun e he => hchL3 e (List.mem_of_mem_drop he))⟩, ⟨rfl, hTL3⟩, htm3, ⟨hA3, (by first | rfl | omega), (by first | rfl | omega), (by first | rfl | omega), rfl⟩⟩⟩
        rw [mmLeave_2 hcal hrr hdn hy]
        exact ⟨rfl, hW6, (mcF_tr hF1 (mcF_tr hF3 hmcF6))⟩
      | false =>
        refine zx_aload_n (i := 0) dX4_leave_0 rfl rfl ?_
        refine zx_getfield dX4_leave_1 zf_X4_15 hmc rfl ?_
        refine zx_bipush (v := 120) dX4_leave_4 (by decide +kernel) (z32_lit (by decide) (by decide)) ?_
        refine zx_aload_n (i := 1) dX4_leave_6 rfl rfl ?_
        refine zx_getfield dX4_leave_7 zf_X4_73 hfy_j rfl ?_
        refine zx_getfield dX4_leave_10 zf_X4_152 hmo_j rfl ?_
        refine zx_getfield dX4_leave_13 zf_X4_156 hpy rfl ?_
        refine zx_aload_n (i := 1) dX4_leave_16 rfl rfl ?_
        refine zx_getfield dX4_leave_17 zf_X4_159 hfy_j rfl ?_
        refine zx_ivN (b := rp) (As := [zI 120, zI ((mmf fr j).1.1 : Int), zI ((mmf fr j).2.1.2.2 : Int)]) (st := []) dX4_leave_20 zc_X4_162 hrp rfl rfl rfl (Nat.le_of_ble_eq_true rfl) rfl (s_note hW (sg := 120) (p := (mmf fr j).1.1) (dd := (mmf fr j).2.1.2.2) (by decide) (by omega) (by omega)) (fun w1 hq => ?_)
        obtain ⟨hW1, hF1⟩ := hq
        obtain ⟨cap1, fm1, cc1, CH1, ct1, TR1, us1, cu1, pl1, de1, fl1, N1, H1, Sz1, A1, Nt1, sc1, nc1, dp1, hM1, hS1⟩ := id hW1
        obtain ⟨⟨hus1, hfl1, hJ1, hcn1, hFS1⟩, ⟨hcu1, hcuL1, hpl1, hde1, hdeL1, hfb1⟩, ⟨hCH1, hchL1⟩, ⟨hTR1, hTL1⟩, htm1, ⟨hA1, hsc1, hnc1, hdp1, hNt1⟩⟩ := id hS1
        subst hus1 hcu1 hpl1 hde1 hfb1 hCH1 hTR1 hsc1 hnc1 hdp1 hNt1
        obtain ⟨hmc1, hfa1, ⟨hca1, okC1⟩, ⟨hta1, okT1⟩, hFr1, ⟨ht01, ⟨htc1, okTC1⟩, ⟨htn1, okN1⟩, ⟨hth1, okH1⟩, htz1, hSz1⟩, ⟨hrp1, ⟨hri1, okI1⟩, ⟨hra1, okA1⟩, ⟨hrn1, okNt1⟩⟩, hcap1, hcct1, hrm11, hrm21⟩ := id hM1
        obtain ⟨⟨⟨va_j1, md_j1⟩, ⟨fca_j1, fbt_j1, fdp_j1⟩, ⟨fcl_j1, fdn_j1, fod_j1, fcb_j1⟩, xs_j1⟩, efm_j1⟩ : ∃ r, fm1 yj = r := ⟨_, rfl⟩
        obtain ⟨hfy_j1, hva_j1, hx_j1⟩ := hFr1 j yj hj
        rw [efm_j1] at hfy_j1 hva_j1 hx_j1
        have hx_j1 : xs_j1.length = 8 := hx_j1
        obtain ⟨hmd_j1, ⟨hcb1_j1, hcb2_j1⟩, ⟨hcb3_j1, hcb4_j1, hcb5_j1⟩, ⟨-, hxv_j1⟩, hdq_j1⟩ := hFS1 j yj hjf hj
        rw [efm_j1] at hmd_j1 hcb1_j1 hcb3_j1 hxv_j1
        simp only [Prod.mk.injEq] at hcb1_j1 hcb3_j1
        obtain ⟨ea1_j1, ea2_j1, ea3_j1⟩ := hcb1_j1
        obtain ⟨eb1_j1, eb2_j1, eb3_j1, eb4_j1⟩ := hcb3_j1
        subst ea1_j1 ea2_j1 ea3_j1 eb1_j1 eb2_j1 eb3_j1 eb4_j1
        have emd_j1 : md_j = md_j1 := by have q := hmd_j1; rw [hmd_j] at q; exact Option.some.inj q
        subst emd_j1
        rw [efi] at hfy_j1
        have hP1 : pgW w1 pg R := pgW_TM hP (mcF_fr hF1)
        refine zx_aload_n (i := 1) dX4_leave_23 rfl rfl ?_
        refine zx_pc (pc1 := 24) rfl ?_
        refine zx_getfield dX4_leave_24 zf_X4_220 hfy_j1 rfl ?_
        refine zx_ifnonnull (tgt := 38) dX4_leave_27 (by decide) (fun _ => ?_) (fun h => by cases h)
        refine zx_aload_n (i := 1) dX4_leave_38 rfl rfl ?_
        refine zx_getfield dX4_leave_39 zf_X4_246 hfy_j1 rfl ?_
        refine zx_if_eq (tgt := 84) dX4_leave_42 (by decide) (fun h42 => absurd h42 (by rw [if_pos hdn]; exact (by decide : ¬ (1 : Int) = 0))) (fun h42 => ?_)
        refine zx_aload_n (i := 0) dX4_leave_45 rfl rfl ?_
        refine zx_aload_n (i := 1) dX4_leave_46 rfl rfl ?_
        refine zx_aload_n (i := 1) dX4_leave_47 rfl rfl ?_
        refine zx_getfield dX4_leave_48 zf_X4_220 hfy_j1 rfl ?_
        refine zx_ivV (b := mc) (As := [zR yj, zR yi]) (st := []) dX4_leave_51 zc_X4_249 hmc1 rfl rfl rfl (Nat.le_of_ble_eq_true rfl) rfl (s_handsBack hP1 hK hW1 hG1 hG2 hF3 (by omega) hif hyi hjf hj hci hpa he) (fun v3 w3 hq => ?_)
        obtain ⟨ev3, hW3, hF3⟩ := hq
        subst ev3
        obtain ⟨cap3, fm3, cc3, CH3, ct3, TR3, us3, cu3, pl3, de3, fl3, N3, H3, Sz3, A3, Nt3, sc3, nc3, dp3, hM3, hS3⟩ := id hW3
        obtain ⟨⟨hus3, hfl3, hJ3, hcn3, hFS3⟩, ⟨hcu3, hcuL3, hpl3, hde3, hdeL3, hfb3⟩, ⟨hCH3, hchL3⟩, ⟨hTR3, hTL3⟩, htm3, ⟨hA3, hsc3, hnc3, hdp3, hNt3⟩⟩ := id hS3
        subst hus3 hcu3 hpl3 hde3 hfb3 hCH3 hTR3 hsc3 hnc3 hdp3 hNt3
        obtain ⟨hmc3, hfa3, ⟨hca3, okC3⟩, ⟨hta3, okT3⟩, hFr3, ⟨ht03, ⟨htc3, okTC3⟩, ⟨htn3, okN3⟩, ⟨hth3, okH3⟩, htz3, hSz3⟩, ⟨hrp3, ⟨hri3, okI3⟩, ⟨hra3, okA3⟩, ⟨hrn3, okNt3⟩⟩, hcap3, hcct3, hrm13, hrm23⟩ := id hM3
        obtain ⟨⟨⟨va_j3, md_j3⟩, ⟨fca_j3, fbt_j3, fdp_j3⟩, ⟨fcl_j3, fdn_j3, fod_j3, fcb_j3⟩, xs_j3⟩, efm_j3⟩ : ∃ r, fm3 yj = r := ⟨_, rfl⟩
        obtain ⟨hfy_j3, hva_j3, hx_j3⟩ := hFr3 j yj hj
        rw [efm_j3] at hfy_j3 hva_j3 hx_j3
        have hx_j3 : xs_j3.length = 8 := hx_j3
        obtain ⟨hmd_j3, ⟨hcb1_j3, hcb2_j3⟩, ⟨hcb3_j3, hcb4_j3, hcb5_j3⟩, ⟨-, hxv_j3⟩, hdq_j3⟩ := hFS3 j yj hjf hj
        rw [efm_j3] at hmd_j3 hcb1_j3 hcb3_j3 hxv_j3
        simp only [Prod.mk.injEq] at hcb1_j3 hcb3_j3
        obtain ⟨ea1_j3, ea2_j3, ea3_j3⟩ := hcb1_j3
        obtain ⟨eb1_j3, eb2_j3, eb3_j3, eb4_j3⟩ := hcb3_j3
        subst ea1_j3 ea2_j3 ea3_j3 eb1_j3 eb2_j3 eb3_j3 eb4_j3
        have emd_j3 : md_j = md_j3 := by have q := hmd_j3; rw [hmd_j] at q; exact Option.some.inj q
        subst emd_j3
        refine zx_if_eq (tgt := 76) dX4_leave_54 (by decide) (fun h54 => ?_) (fun h54 => absurd (by rw [hy]; exact zB_f (by decide)) h54)
        refine zx_aload_n (i := 0) dX4_leave_76 rfl rfl ?_
        refine zx_pc (pc1 := 77) rfl ?_
        refine zx_iconst (v := 1) dX4_leave_77 rfl (z32_lit (by decide) (by decide)) ?_
        obtain ⟨w_1, hw_2⟩ : ∃ ww, ww = zput w3 mc (4, 0, [zR t, zR fa, zR ca, zR ta, zR rp, zI (fr.length : Int), zP (oA Fs cur), zI (pl0 : Int), zP (oA Fs den), zI 1, zI 0, zI 0]) := ⟨_, rfl⟩
        refine zx_put (w1 := w_1) dX4_leave_78 zf_X4_57 hmc3 (Nat.le_of_ble_eq_true rfl) (zFt_bool (by first | exact Or.inl rfl | exact Or.inr rfl | exact zB_or | assumption)) (fun h => by cases h) hw_2.symm ?_
        have q_3 : w_1.2.1 = w3.2.1 ∧ w_1.2.2 = w3.2.2 := by rw [hw_2]; exact ⟨rfl, rfl⟩
        have h_4 : w_1.1 mc = some (4, 0, [zR t, zR fa, zR ca, zR ta, zR rp, zI (fr.length : Int), zP (oA Fs cur), zI (pl0 : Int), zP (oA Fs den), zI 1, zI 0, zI 0]) := by rw [hw_2]; exact zput_at
        refine zx_goto (tgt := 123) dX4_leave_81 (by decide) ?_
        refine zx_return dX4_leave_123 rfl ?_
        have hfaL6 : zFa [mc] w3 w_1 := (zFa_put zFa_re (by simp) hw_2)
        have hFrr6 := fm_keep hFr3 hfaL6 (zLc hmc3 (by simp) zLn)
        have hmcF6 : mcF rp w3 w_1 := mcF_fa hfaL6 (zLc hmc3 (by simp [mcP]) zLn)
        have h_5 : w_1.1 fa = some (166, mc, zLs cap3 Fs) := by
          rw [hw_2]; exact zput_tg hmc3 hfa3 (by simp)
        have h_6 : w_1.1 ca = some (138, mc, tTb 3 cc3 (ch.reverse.map (fun e => [(e.1 : Int), (e.2.1 : Int), (e.2.2 : Int)]))) := by
          rw [hw_2]; exact zput_tg hmc3 hca3 (by simp)
        have h_7 : w_1.1 ta = some (139, mc, tTb 2 ct3 (((mmHb ((pgC R).2.1.1 (mmf fr j).1.1 (mmf fr j).1.2) j i e.1 (List.range e.1.2.2.1) V T).2.2).reverse.map (fun e => [(e.1 : Int), (e.2 : Int)]))) := by
          rw [hw_2]; exact zput_tg hmc3 hta3 (by simp)
        have h_8 : w_1.1 t = some (10, 0, [zI ty, zR tc, zR tn, zR th, zR tz]) := by
          rw [hw_2]; exact zput_tg hmc3 ht03 (by simp)
        have h_9 : w_1.1 tc = some (130, t, tTb 3 30 C) := by
          rw [hw_2]; exact zput_tg hmc3 htc3 (by simp)
        have h_10 : w_1.1 tn = some (131, t, tTb 4 800 N3) := by
          rw [hw_2]; exact zput_tg hmc3 htn3 (by simp)
        have h_11 : w_1.1 th = some (132, t, tTb 1 64 H3) := by
          rw [hw_2]; exact zput_tg hmc3 hth3 (by simp)
        have h_12 : w_1.1 tz = some (120, t, Sz3.map zJ) := by
          rw [hw_2]; exact zput_tg hmc3 htz3 (by simp)
        have h_13 : w_1.1 rp = some (8, 0, [zP mo, zR ri, zR ra, zR rn, zI (ns : Int), zI (nc0 : Int), zI (dp0 : Int), zI 101, zI bk, zI bc]) := by
          rw [hw_2]; exact zput_tg hmc3 hrp3 (by simp)
        have h_14 : w_1.1 ri = some (135, rp, tTb 1 3 I) := by
          rw [hw_2]; exact zput_tg hmc3 hri3 (by simp)
        have h_15 : w_1.1 ra = some (136, rp, tTb 3 150 A3) := by
          rw [hw_2]; exact zput_tg hmc3 hra3 (by simp)
        have h_16 : w_1.1 rn = some (137, rp, tTb 2 160 ((mmNote nt 120 (mmf fr j).1.1 (mmf fr j).2.1.2.2).map (fun e => [(e.1 : Int), (e.2 : Int)]))) := by
          rw [hw_2]; exact zput_tg hmc3 hrn3 (by simp)
        have hM6 : mcW w_1 b1 b2 ((mc, fa, ca, ta), (t, tc, tn, th, tz), (rp, ri, ra, rn), (ty, C), (mo, I, bk, bc)) (((cap3, Fs), fm3), (cc3, (ch.reverse.map (fun e => [(e.1 : Int), (e.2.1 : Int), (e.2.2 : Int)]))), (ct3, (((mmHb ((pgC R).2.1.1 (mmf fr j).1.1 (mmf fr j).1.2) j i e.1 (List.range e.1.2.2.1) V T).2.2).reverse.map (fun e => [(e.1 : Int), (e.2 : Int)]))), ((fr.length : Int), (oA Fs cur), (pl0 : Int), (oA Fs den)), (1, 0, 0), (N3, H3, Sz3), (A3, ((mmNote nt 120 (mmf fr j).1.1 (mmf fr j).2.1.2.2).map (fun e => [(e.1 : Int), (e.2 : Int)])), (ns : Int), (nc0 : Int), (dp0 : Int), 101)) := ⟨h_4, h_5, ⟨h_6, okC3⟩, ⟨h_7, okT3⟩, hFrr6, ⟨h_8, ⟨h_9, okTC3⟩, ⟨h_10, okN3⟩, ⟨h_11, okH3⟩, h_12, hSz3⟩, ⟨h_13, ⟨h_14, okI3⟩, ⟨h_15, okA3⟩, ⟨h_16, okNt3⟩⟩, hcap3, ⟨by omega, by omega, by omega, by omega⟩, by omega, by omega⟩
        have hW6 : msW w_1 b1 b2 ((mc, fa, ca, ta), (t, tc, tn, th, tz), (rp, ri, ra, rn), (ty, C), (mo, I, bk, bc)) R Fs (0, 0, 101) ((fr, cls, (mmHb ((pgC R).2.1.1 (mmf fr j).1.1 (mmf fr j).1.2) j i e.1 (List.range e.1.2.2.1) V T).2.1, ch, (mmHb ((pgC R).2.1.1 (mmf fr j).1.1 (mmf fr j).1.2) j i e.1 (List.range e.1.2.2.1) V T).2.2), (cur, pl0, den, true), tm, (na, ns, nc0, dp0), (mmNote nt 120 (mmf fr j).1.1 (mmf fr j).2.1.2.2)) := ⟨cap3, fm3, cc3, (ch.reverse.map (fun e => [(e.1 : Int), (e.2.1 : Int), (e.2.2 : Int)])), ct3, (((mmHb ((pgC R).2.1.1 (mmf fr j).1.1 (mmf fr j).1.2) j i e.1 (List.range e.1.2.2.1) V T).2.2).reverse.map (fun e => [(e.1 : Int), (e.2 : Int)])), (fr.length : Int), (oA Fs cur), (pl0 : Int), (oA Fs den), 1, N3, H3, Sz3, A3, ((mmNote nt 120 (mmf fr j).1.1 (mmf fr j).2.1.2.2).map (fun e => [(e.1 : Int), (e.2 : Int)])), (ns : Int), (nc0 : Int), (dp0 : Int), hM6, ⟨⟨(by first | rfl | omega | simp), hfl3, hJ3, hcn3, hFS3⟩, ⟨rfl, hcuL3, (by first | rfl | omega), rfl, hdeL3, rfl⟩, ⟨rfl, hchL3⟩, ⟨rfl, hTL3⟩, htm3, ⟨hA3, (by first | rfl | omega), (by first | rfl | omega), (by first | rfl | omega), rfl⟩⟩⟩
        rw [mmLeave_3 hcal hrr hdn (by rw [hy]; decide)]
        exact ⟨rfl, hW6, (mcF_tr hF1 (mcF_tr hF3 hmcF6))⟩
    · cases hy : (mmHb ((pgC R).2.1.1 (mmf fr j).1.1 (mmf fr j).1.2) j i e.1 (List.range e.1.2.2.1) V T).1 with
      | true =>
        refine zx_aload_n (i := 0) dX4_leave_0 rfl rfl ?_
        refine zx_getfield dX4_leave_1 zf_X4_15 hmc rfl ?_
        refine zx_bipush (v := 120) dX4_leave_4 (by decide +kernel) (z32_lit (by decide) (by decide)) ?_
        refine zx_aload_n (i := 1) dX4_leave_6 rfl rfl ?_
        refine zx_getfield dX4_leave_7 zf_X4_73 hfy_j rfl ?_
        refine zx_getfield dX4_leave_10 zf_X4_152 hmo_j rfl ?_
        refine zx_getfield dX4_leave_13 zf_X4_156 hpy rfl ?_
        refine zx_aload_n (i := 1) dX4_leave_16 rfl rfl ?_
        refine zx_getfield dX4_leave_17 zf_X4_159 hfy_j rfl ?_
        refine zx_ivN (b := rp) (As := [zI 120, zI ((mmf fr j).1.1 : Int), zI ((mmf fr j).2.1.2.2 : Int)]) (st := []) dX4_leave_20 zc_X4_162 hrp rfl rfl rfl (Nat.le_of_ble_eq_true rfl) rfl (s_note hW (sg := 120) (p := (mmf fr j).1.1) (dd := (mmf fr j).2.1.2.2) (by decide) (by omega) (by omega)) (fun w1 hq => ?_)
        obtain ⟨hW1, hF1⟩ := hq
        obtain ⟨cap1, fm1, cc1, CH1, ct1, TR1, us1, cu1, pl1, de1, fl1, N1, H1, Sz1, A1, Nt1, sc1, nc1, dp1, hM1, hS1⟩ := id hW1
        obtain ⟨⟨hus1, hfl1, hJ1, hcn1, hFS1⟩, ⟨hcu1, hcuL1, hpl1, hde1, hdeL1, hfb1⟩, ⟨hCH1, hchL1⟩, ⟨hTR1, hTL1⟩, htm1, ⟨hA1, hsc1, hnc1, hdp1, hNt1⟩⟩ := id hS1
        subst hus1 hcu1 hpl1 hde1 hfb1 hCH1 hTR1 hsc1 hnc1 hdp1 hNt1
        obtain ⟨hmc1, hfa1, ⟨hca1, okC1⟩, ⟨hta1, okT1⟩, hFr1, ⟨ht01, ⟨htc1, okTC1⟩, ⟨htn1, okN1⟩, ⟨hth1, okH1⟩, htz1, hSz1⟩, ⟨hrp1, ⟨hri1, okI1⟩, ⟨hra1, okA1⟩, ⟨hrn1, okNt1⟩⟩, hcap1, hcct1, hrm11, hrm21⟩ := id hM1
        obtain ⟨⟨⟨va_j1, md_j1⟩, ⟨fca_j1, fbt_j1, fdp_j1⟩, ⟨fcl_j1, fdn_j1, fod_j1, fcb_j1⟩, xs_j1⟩, efm_j1⟩ : ∃ r, fm1 yj = r := ⟨_, rfl⟩
        obtain ⟨hfy_j1, hva_j1, hx_j1⟩ := hFr1 j yj hj
        rw [efm_j1] at hfy_j1 hva_j1 hx_j1
        have hx_j1 : xs_j1.length = 8 := hx_j1
        obtain ⟨hmd_j1, ⟨hcb1_j1, hcb2_j1⟩, ⟨hcb3_j1, hcb4_j1, hcb5_j1⟩, ⟨-, hxv_j1⟩, hdq_j1⟩ := hFS1 j yj hjf hj
        rw [efm_j1] at hmd_j1 hcb1_j1 hcb3_j1 hxv_j1
        simp only [Prod.mk.injEq] at hcb1_j1 hcb3_j1
        obtain ⟨ea1_j1, ea2_j1, ea3_j1⟩ := hcb1_j1
        obtain ⟨eb1_j1, eb2_j1, eb3_j1, eb4_j1⟩ := hcb3_j1
        subst ea1_j1 ea2_j1 ea3_j1 eb1_j1 eb2_j1 eb3_j1 eb4_j1
        have emd_j1 : md_j = md_j1 := by have q := hmd_j1; rw [hmd_j] at q; exact Option.some.inj q
        subst emd_j1
        rw [efi] at hfy_j1
        have hP1 : pgW w1 pg R := pgW_TM hP (mcF_fr hF1)
        refine zx_aload_n (i := 1) dX4_leave_23 rfl rfl ?_
        refine zx_pc (pc1 := 24) rfl ?_
        refine zx_getfield dX4_leave_24 zf_X4_220 hfy_j1 rfl ?_
        refine zx_ifnonnull (tgt := 38) dX4_leave_27 (by decide) (fun _ => ?_) (fun h => by cases h)
        refine zx_aload_n (i := 1) dX4_leave_38 rfl rfl ?_
        refine zx_getfield dX4_leave_39 zf_X4_246 hfy_j1 rfl ?_
        refine zx_if_eq (tgt := 84) dX4_leave_42 (by decide) (fun h42 => ?_) (fun h42 => absurd (by rw [if_neg hdn]) h42)
        refine zx_aload_n (i := 0) dX4_leave_84 rfl rfl ?_
        refine zx_aload_n (i := 1) dX4_leave_85 rfl rfl ?_
        refine zx_getfield dX4_leave_86 zf_X4_220 hfy_j1 rfl ?_
        obtain ⟨w_1, hw_2⟩ : ∃ ww, ww = zput w1 mc (4, 0, [zR t, zR fa, zR ca, zR ta, zR rp, zI (fr.length : Int), zR yi, zI (pl0 : Int), zP (oA Fs den), zI (if flb = true then 1 else 0), zI 0, zI 0]) := ⟨_, rfl⟩
        refine zx_put (w1 := w_1) dX4_leave_89 zf_X4_53 hmc1 (Nat.le_of_ble_eq_true rfl) (zFt_obj _ _) (fun h => by cases h) hw_2.symm ?_
        have q_3 : w_1.2.1 = w1.2.1 ∧ w_1.2.2 = w1.2.2 := by rw [hw_2]; exact ⟨rfl, rfl⟩
        have h_4 : w_1.1 mc = some (4, 0, [zR t, zR fa, zR ca, zR ta, zR rp, zI (fr.length : Int), zR yi, zI (pl0 : Int), zP (oA Fs den), zI (if flb = true then 1 else 0), zI 0, zI 0]) := by rw [hw_2]; exact zput_at
        refine zx_aload_n (i := 0) dX4_leave_92 rfl rfl ?_
        refine zx_aload_n (i := 1) dX4_leave_93 rfl rfl ?_
        have h_5 : w_1.1 yj = some (2, 0, [zI (j : Int), zR va_j1, zR md_j, zR yi, zI ((mmf fr j).2.1.2.1 : Int), zI ((mmf fr j).2.1.2.2 : Int), zP ((cls j).bind (pgCl R)), zI (if (mmf fr j).2.2.1 = true then 1 else 0), zP (oA Fs (mmf fr j).2.2.2.1), zI ((mmf fr j).2.2.2.2 : Int)]) := by
          rw [hw_2]; exact zput_tg hmc1 hfy_j1 (by simp)
        refine zx_getfield dX4_leave_94 zf_X4_223 h_5 rfl ?_
        refine zx_pc (pc1 := 97) rfl ?_
        refine zx_iconst (v := 1) dX4_leave_97 rfl (z32_lit (by decide) (by decide)) ?_
        refine zx_iadd (v := ((mmf fr j).2.1.2.1 : Int) + 1) dX4_leave_98 (zw_id ⟨by omega, by omega⟩) ?_
        obtain ⟨w_6, hw_7⟩ : ∃ ww, ww = zput w_1 mc (4, 0, [zR t, zR fa, zR ca, zR ta, zR rp, zI (fr.length : Int), zR yi, zI (((mmf fr j).2.1.2.1 : Int) + 1), zP (oA Fs den), zI (if flb = true then 1 else 0), zI 0, zI 0]) := ⟨_, rfl⟩
        refine zx_put (w1 := w_6) dX4_leave_99 zf_X4_69 h_4 (Nat.le_of_ble_eq_true rfl) (zFt_int _) (fun h => by cases h) hw_7.symm ?_
        have q_8 : w_6.2.1 = w_1.2.1 ∧ w_6.2.2 = w_1.2.2 := by rw [hw_7]; exact ⟨rfl, rfl⟩
        have h_9 : w_6.1 mc = some (4, 0, [zR t, zR fa, zR ca, zR ta, zR rp, zI (fr.length : Int), zR yi, zI (((mmf fr j).2.1.2.1 : Int) + 1), zP (oA Fs den), zI (if flb = true then 1 else 0), zI 0, zI 0]) := by rw [hw_7]; exact zput_at
        refine zx_aload_n (i := 0) dX4_leave_102 rfl rfl ?_
        refine zx_aload_n (i := 0) dX4_leave_103 rfl rfl ?_
        refine zx_aload_n (i := 1) dX4_leave_104 rfl rfl ?_
        refine zx_aload_n (i := 1) dX4_leave_105 rfl rfl ?_
        have h_10 : w_6.1 yj = some (2, 0, [zI (j : Int), zR va_j1, zR md_j, zR yi, zI ((mmf fr j).2.1.2.1 : Int), zI ((mmf fr j).2.1.2.2 : Int), zP ((cls j).bind (pgCl R)), zI (if (mmf fr j).2.2.1 = true then 1 else 0), zP (oA Fs (mmf fr j).2.2.2.1), zI ((mmf fr j).2.2.2.2 : Int)]) := by
          rw [hw_7]; exact zput_tg h_4 h_5 (by simp)
        refine zx_getfield dX4_leave_106 zf_X4_220 h_10 rfl ?_
        have hfaL2 : zFa [mc] w1 w_6 := (zFa_put (zFa_put zFa_re (by simp) hw_2) (by simp) hw_7)
        have hFrr2 := fm_keep hFr1 hfaL2 (zLc hmc1 (by simp) zLn)
        have hmcF2 : mcF rp w1 w_6 := mcF_fa hfaL2 (zLc hmc1 (by simp [mcP]) zLn)
        have h_11 : w_1.1 fa = some (166, mc, zLs cap1 Fs) := by
          rw [hw_2]; exact zput_tg hmc1 hfa1 (by simp)
        have h_12 : w_6.1 fa = some (166, mc, zLs cap1 Fs) := by
          rw [hw_7]; exact zput_tg h_4 h_11 (by simp)
        have h_13 : w_1.1 ca = some (138, mc, tTb 3 cc1 (ch.reverse.map (fun e => [(e.1 : Int), (e.2.1 : Int), (e.2.2 : Int)]))) := by
          rw [hw_2]; exact zput_tg hmc1 hca1 (by simp)
        have h_14 : w_6.1 ca = some (138, mc, tTb 3 cc1 (ch.reverse.map (fun e => [(e.1 : Int), (e.2.1 : Int), (e.2.2 : Int)]))) := by
          rw [hw_7]; exact zput_tg h_4 h_13 (by simp)
        have h_15 : w_1.1 ta = some (139, mc, tTb 2 ct1 (T.reverse.map (fun e => [(e.1 : Int), (e.2 : Int)]))) := by
          rw [hw_2]; exact zput_tg hmc1 hta1 (by simp)
        have h_16 : w_6.1 ta = some (139, mc, tTb 2 ct1 (T.reverse.map (fun e => [(e.1 : Int), (e.2 : Int)]))) := by
          rw [hw_7]; exact zput_tg h_4 h_15 (by simp)
        have h_17 : w_1.1 t = some (10, 0, [zI ty, zR tc, zR tn, zR th, zR tz]) := by
          rw [hw_2]; exact zput_tg hmc1 ht01 (by simp)
        have h_18 : w_6.1 t = some (10, 0, [zI ty, zR tc, zR tn, zR th, zR tz]) := by
          rw [hw_7]; exact zput_tg h_4 h_17 (by simp)
        have h_19 : w_1.1 tc = some (130, t, tTb 3 30 C) := by
          rw [hw_2]; exact zput_tg hmc1 htc1 (by simp)
        have h_20 : w_6.1 tc = some (130, t, tTb 3 30 C) := by
          rw [hw_7]; exact zput_tg h_4 h_19 (by simp)
        have h_21 : w_1.1 tn = some (131, t, tTb 4 800 N1) := by
          rw [hw_2]; exact zput_tg hmc1 htn1 (by simp)
        have h_22 : w_6.1 tn = some (131, t, tTb 4 800 N1) := by
          rw [hw_7]; exact zput_tg h_4 h_21 (by simp)
        have h_23 : w_1.1 th = some (132, t, tTb 1 64 H1) := by
          rw [hw_2]; exact zput_tg hmc1 hth1 (by simp)
        have h_24 : w_6.1 th = some (132, t, tTb 1 64 H1) := by
          rw [hw_7]; exact zput_tg h_4 h_23 (by simp)
        have h_25 : w_1.1 tz = some (120, t, Sz1.map zJ) := by
          rw [hw_2]; exact zput_tg hmc1 htz1 (by simp)
        have h_26 : w_6.1 tz = some (120, t, Sz1.map zJ) := by
          rw [hw_7]; exact zput_tg h_4 h_25 (by simp)
        have h_27 : w_1.1 rp = some (8, 0, [zP mo, zR ri, zR ra, zR rn, zI (ns : Int), zI (nc0 : Int), zI (dp0 : Int), zI 101, zI bk, zI bc]) := by
          rw [hw_2]; exact zput_tg hmc1 hrp1 (by simp)
        have h_28 : w_6.1 rp = some (8, 0, [zP mo, zR ri, zR ra, zR rn, zI (ns : Int), zI (nc0 : Int), zI (dp0 : Int), zI 101, zI bk, zI bc]) := by
          rw [hw_7]; exact zput_tg h_4 h_27 (by simp)
        have h_29 : w_1.1 ri = some (135, rp, tTb 1 3 I) := by
          rw [hw_2]; exact zput_tg hmc1 hri1 (by simp)
        have h_30 : w_6.1 ri = some (135, rp, tTb 1 3 I) := by
          rw [hw_7]; exact zput_tg h_4 h_29 (by simp)
        have h_31 : w_1.1 ra = some (136, rp, tTb 3 150 A1) := by
          rw [hw_2]; exact zput_tg hmc1 hra1 (by simp)
        have h_32 : w_6.1 ra = some (136, rp, tTb 3 150 A1) := by
          rw [hw_7]; exact zput_tg h_4 h_31 (by simp)
        have h_33 : w_1.1 rn = some (137, rp, tTb 2 160 ((mmNote nt 120 (mmf fr j).1.1 (mmf fr j).2.1.2.2).map (fun e => [(e.1 : Int), (e.2 : Int)]))) := by
          rw [hw_2]; exact zput_tg hmc1 hrn1 (by simp)
        have h_34 : w_6.1 rn = some (137, rp, tTb 2 160 ((mmNote nt 120 (mmf fr j).1.1 (mmf fr j).2.1.2.2).map (fun e => [(e.1 : Int), (e.2 : Int)]))) := by
          rw [hw_7]; exact zput_tg h_4 h_33 (by simp)
        have hM2 : mcW w_6 b1 b2 ((mc, fa, ca, ta), (t, tc, tn, th, tz), (rp, ri, ra, rn), (ty, C), (mo, I, bk, bc)) (((cap1, Fs), fm1), (cc1, (ch.reverse.map (fun e => [(e.1 : Int), (e.2.1 : Int), (e.2.2 : Int)]))), (ct1, (T.reverse.map (fun e => [(e.1 : Int), (e.2 : Int)]))), ((fr.length : Int), (some yi), (((mmf fr j).2.1.2.1 : Int) + 1), (oA Fs den)), ((if flb = true then 1 else 0), 0, 0), (N1, H1, Sz1), (A1, ((mmNote nt 120 (mmf fr j).1.1 (mmf fr j).2.1.2.2).map (fun e => [(e.1 : Int), (e.2 : Int)])), (ns : Int), (nc0 : Int), (dp0 : Int), 101)) := ⟨h_9, h_12, ⟨h_14, okC1⟩, ⟨h_16, okT1⟩, hFrr2, ⟨h_18, ⟨h_20, okTC1⟩, ⟨h_22, okN1⟩, ⟨h_24, okH1⟩, h_26, hSz1⟩, ⟨h_28, ⟨h_30, okI1⟩, ⟨h_32, okA1⟩, ⟨h_34, okNt1⟩⟩, hcap1, ⟨by omega, by omega, by omega, by omega⟩, by omega, by omega⟩
        rw [← efi] at hM2
        have hW2 : msW w_6 b1 b2 ((mc, fa, ca, ta), (t, tc, tn, th, tz), (rp, ri, ra, rn), (ty, C), (mo, I, bk, bc)) R Fs (0, 0, 101) ((fr, cls, V, ch, T), ((mmf fr j).2.1.1, ((mmf fr j).2.1.2.1 + 1), den, flb), tm, (na, ns, nc0, dp0), (mmNote nt 120 (mmf fr j).1.1 (mmf fr j).2.1.2.2)) := ⟨cap1, fm1, cc1, (ch.reverse.map (fun e => [(e.1 : Int), (e.2.1 : Int), (e.2.2 : Int)])), ct1, (T.reverse.map (fun e => [(e.1 : Int), (e.2 : Int)])), (fr.length : Int), (oA Fs (mmf fr j).2.1.1), (((mmf fr j).2.1.2.1 : Int) + 1), (oA Fs den), (if flb = true then 1 else 0), N1, H1, Sz1, A1, ((mmNote nt 120 (mmf fr j).1.1 (mmf fr j).2.1.2.2).map (fun e => [(e.1 : Int), (e.2 : Int)])), (ns : Int), (nc0 : Int), (dp0 : Int), hM2, ⟨⟨(by first | rfl | omega | simp), hfl1, hJ1, hcn1, hFS1⟩, ⟨rfl, (fun q h => by have := hcb2_j q h; omega), (by first | rfl | omega), rfl, hdeL1, rfl⟩, ⟨rfl, hchL1⟩, ⟨rfl, hTL1⟩, htm1, ⟨hA1, (by first | rfl | omega), (by first | rfl | omega), (by first | rfl | omega), rfl⟩⟩⟩
        have hP2 : pgW w_6 pg R := pgW_TM hP (mcF_fr (mcF_tr hF1 hmcF2))
        refine zx_ivV (b := mc) (As := [zR yj, zR yi]) (st := [zR mc]) dX4_leave_109 zc_X4_249 h_9 rfl rfl rfl (Nat.le_of_ble_eq_true rfl) rfl (s_handsBack hP2 hK hW2 hG1 hG2 hF3 (by omega) hif hyi hjf hj hci hpa he) (fun v3 w3 hq => ?_)
        obtain ⟨ev3, hW3, hF3⟩ := hq
        subst ev3
        obtain ⟨cap3, fm3, cc3, CH3, ct3, TR3, us3, cu3, pl3, de3, fl3, N3, H3, Sz3, A3, Nt3, sc3, nc3, dp3, hM3, hS3⟩ := id hW3
        obtain ⟨⟨hus3, hfl3, hJ3, hcn3, hFS3⟩, ⟨hcu3, hcuL3, hpl3, hde3, hdeL3, hfb3⟩, ⟨hCH3, hchL3⟩, ⟨hTR3, hTL3⟩, htm3, ⟨hA3, hsc3, hnc3, hdp3, hNt3⟩⟩ := id hS3
        subst hus3 hcu3 hpl3 hde3 hfb3 hCH3 hTR3 hsc3 hnc3 hdp3 hNt3
        obtain ⟨hmc3, hfa3, ⟨hca3, okC3⟩, ⟨hta3, okT3⟩, hFr3, ⟨ht03, ⟨htc3, okTC3⟩, ⟨htn3, okN3⟩, ⟨hth3, okH3⟩, htz3, hSz3⟩, ⟨hrp3, ⟨hri3, okI3⟩, ⟨hra3, okA3⟩, ⟨hrn3, okNt3⟩⟩, hcap3, hcct3, hrm13, hrm23⟩ := id hM3
        refine zx_if_ne (tgt := 119) dX4_leave_112 (by decide) (fun h112 => ?_) (fun h112 => absurd (by rw [zB_t hy]; decide) h112)
        refine zx_iconst (v := 0) dX4_leave_119 rfl (z32_lit (by decide) (by decide)) ?_
        obtain ⟨w_35, hw_36⟩ : ∃ ww, ww = zput w3 mc (4, 0, [zR t, zR fa, zR ca, zR ta, zR rp, zI (fr.length : Int), zP (oA Fs ((mmf fr j).2.1.1)), zI ((((mmf fr j).2.1.2.1 + 1) : Nat) : Int), zP (oA Fs den), zI 0, zI 0, zI 0]) := ⟨_, rfl⟩
        refine zx_put (w1 := w_35) dX4_leave_120 zf_X4_57 hmc3 (Nat.le_of_ble_eq_true rfl) (zFt_bool (by first | exact Or.inl rfl | exact Or.inr rfl | exact zB_or | assumption)) (fun h => by cases h) hw_36.symm ?_
        have q_37 : w_35.2.1 = w3.2.1 ∧ w_35.2.2 = w3.2.2 := by rw [hw_36]; exact ⟨rfl, rfl⟩
        have h_38 : w_35.1 mc = some (4, 0, [zR t, zR fa, zR ca, zR ta, zR rp, zI (fr.length : Int), zP (oA Fs ((mmf fr j).2.1.1)), zI ((((mmf fr j).2.1.2.1 + 1) : Nat) : Int), zP (oA Fs den), zI 0, zI 0, zI 0]) := by rw [hw_36]; exact zput_at
        refine zx_pc (pc1 := 123) rfl ?_
        refine zx_return dX4_leave_123 rfl ?_
        have hfaL6 : zFa [mc] w3 w_35 := (zFa_put zFa_re (by simp) hw_36)
        have hFrr6 := fm_keep hFr3 hfaL6 (zLc hmc3 (by simp) zLn)
        have hmcF6 : mcF rp w3 w_35 := mcF_fa hfaL6 (zLc hmc3 (by simp [mcP]) zLn)
        have h_39 : w_35.1 fa = some (166, mc, zLs cap3 Fs) := by
          rw [hw_36]; exact zput_tg hmc3 hfa3 (by simp)
        have h_40 : w_35.1 ca = some (138, mc, tTb 3 cc3 (ch.reverse.map (fun e => [(e.1 : Int), (e.2.1 : Int), (e.2.2 : Int)]))) := by
          rw [hw_36]; exact zput_tg hmc3 hca3 (by simp)
        have h_41 : w_35.1 ta = some (139, mc, tTb 2 ct3 (((mmHb ((pgC R).2.1.1 (mmf fr j).1.1 (mmf fr j).1.2) j i e.1 (List.range e.1.2.2.1) V T).2.2).reverse.map (fun e => [(e.1 : Int), (e.2 : Int)]))) := by
          rw [hw_36]; exact zput_tg hmc3 hta3 (by simp)
        have h_42 : w_35.1 t = some (10, 0, [zI ty, zR tc, zR tn, zR th, zR tz]) := by
          rw [hw_36]; exact zput_tg hmc3 ht03 (by simp)
        have h_43 : w_35.1 tc = some (130, t, tTb 3 30 C) := by
          rw [hw_36]; exact zput_tg hmc3 htc3 (by simp)
        have h_44 : w_35.1 tn = some (131, t, tTb 4 800 N3) := by
          rw [hw_36]; exact zput_tg hmc3 htn3 (by simp)
        have h_45 : w_35.1 th = some (132, t, tTb 1 64 H3) := by
          rw [hw_36]; exact zput_tg hmc3 hth3 (by simp)
        have h_46 : w_35.1 tz = some (120, t, Sz3.map zJ) := by
          rw [hw_36]; exact zput_tg hmc3 htz3 (by simp)
        have h_47 : w_35.1 rp = some (8, 0, [zP mo, zR ri, zR ra, zR rn, zI (ns : Int), zI (nc0 : Int), zI (dp0 : Int), zI 101, zI bk, zI bc]) := by
          rw [hw_36]; exact zput_tg hmc3 hrp3 (by simp)
        have h_48 : w_35.1 ri = some (135, rp, tTb 1 3 I) := by
          rw [hw_36]; exact zput_tg hmc3 hri3 (by simp)
        have h_49 : w_35.1 ra = some (136, rp, tTb 3 150 A3) := by
          rw [hw_36]; exact zput_tg hmc3 hra3 (by simp)
        have h_50 : w_35.1 rn = some (137, rp, tTb 2 160 ((mmNote nt 120 (mmf fr j).1.1 (mmf fr j).2.1.2.2).map (fun e => [(e.1 : Int), (e.2 : Int)]))) := by
          rw [hw_36]; exact zput_tg hmc3 hrn3 (by simp)
        have hM6 : mcW w_35 b1 b2 ((mc, fa, ca, ta), (t, tc, tn, th, tz), (rp, ri, ra, rn), (ty, C), (mo, I, bk, bc)) (((cap3, Fs), fm3), (cc3, (ch.reverse.map (fun e => [(e.1 : Int), (e.2.1 : Int), (e.2.2 : Int)]))), (ct3, (((mmHb ((pgC R).2.1.1 (mmf fr j).1.1 (mmf fr j).1.2) j i e.1 (List.range e.1.2.2.1) V T).2.2).reverse.map (fun e => [(e.1 : Int), (e.2 : Int)]))), ((fr.length : Int), (oA Fs ((mmf fr j).2.1.1)), ((((mmf fr j).2.1.2.1 + 1) : Nat) : Int), (oA Fs den)), (0, 0, 0), (N3, H3, Sz3), (A3, ((mmNote nt 120 (mmf fr j).1.1 (mmf fr j).2.1.2.2).map (fun e => [(e.1 : Int), (e.2 : Int)])), (ns : Int), (nc0 : Int), (dp0 : Int), 101)) := ⟨h_38, h_39, ⟨h_40, okC3⟩, ⟨h_41, okT3⟩, hFrr6, ⟨h_42, ⟨h_43, okTC3⟩, ⟨h_44, okN3⟩, ⟨h_45, okH3⟩, h_46, hSz3⟩, ⟨h_47, ⟨h_48, okI3⟩, ⟨h_49, okA3⟩, ⟨h_50, okNt3⟩⟩, hcap3, ⟨by omega, by omega, by omega, by omega⟩, by omega, by omega⟩
        have hW6 : msW w_35 b1 b2 ((mc, fa, ca, ta), (t, tc, tn, th, tz), (rp, ri, ra, rn), (ty, C), (mo, I, bk, bc)) R Fs (0, 0, 101) ((fr, cls, (mmHb ((pgC R).2.1.1 (mmf fr j).1.1 (mmf fr j).1.2) j i e.1 (List.range e.1.2.2.1) V T).2.1, ch, (mmHb ((pgC R).2.1.1 (mmf fr j).1.1 (mmf fr j).1.2) j i e.1 (List.range e.1.2.2.1) V T).2.2), ((mmf fr j).2.1.1, ((mmf fr j).2.1.2.1 + 1), den, (!(mmHb ((pgC R).2.1.1 (mmf fr j).1.1 (mmf fr j).1.2) j i e.1 (List.range e.1.2.2.1) V T).1)), tm, (na, ns, nc0, dp0), (mmNote nt 120 (mmf fr j).1.1 (mmf fr j).2.1.2.2)) := ⟨cap3, fm3, cc3, (ch.reverse.map (fun e => [(e.1 : Int), (e.2.1 : Int), (e.2.2 : Int)])), ct3, (((mmHb ((pgC R).2.1.1 (mmf fr j).1.1 (mmf fr j).1.2) j i e.1 (List.range e.1.2.2.1) V T).2.2).reverse.map (fun e => [(e.1 : Int), (e.2 : Int)])), (fr.length : Int), (oA Fs ((mmf fr j).2.1.1)), ((((mmf fr j).2.1.2.1 + 1) : Nat) : Int), (oA Fs den), 0, N3, H3, Sz3, A3, ((mmNote nt 120 (mmf fr j).1.1 (mmf fr j).2.1.2.2).map (fun e => [(e.1 : Int), (e.2 : Int)])), (ns : Int), (nc0 : Int), (dp0 : Int), hM6, ⟨⟨(by first | rfl | omega | simp), hfl3, hJ3, hcn3, hFS3⟩, ⟨rfl, hcuL3, (by first | rfl | omega), rfl, hdeL3, (by rw [hy]; rfl)⟩, ⟨rfl, hchL3⟩, ⟨rfl, hTL3⟩, htm3, ⟨hA3, (by first | rfl | omega), (by first | rfl | omega), (by first | rfl | omega), rfl⟩⟩⟩
        rw [mmLeave_4 hcal hrr hdn]
        rw [hcal] at hW6
        exact ⟨rfl, hW6, (mcF_tr hF1 (mcF_tr hmcF2 (mcF_tr hF3 hmcF6)))⟩
      | false =>
        refine zx_aload_n (i := 0) dX4_leave_0 rfl rfl ?_
        refine zx_getfield dX4_leave_1 zf_X4_15 hmc rfl ?_
        refine zx_bipush (v := 120) dX4_leave_4 (by decide +kernel) (z32_lit (by decide) (by decide)) ?_
        refine zx_aload_n (i := 1) dX4_leave_6 rfl rfl ?_
        refine zx_getfield dX4_leave_7 zf_X4_73 hfy_j rfl ?_
        refine zx_getfield dX4_leave_10 zf_X4_152 hmo_j rfl ?_
        refine zx_getfield dX4_leave_13 zf_X4_156 hpy rfl ?_
        refine zx_aload_n (i := 1) dX4_leave_16 rfl rfl ?_
        refine zx_getfield dX4_leave_17 zf_X4_159 hfy_j rfl ?_
        refine zx_ivN (b := rp) (As := [zI 120, zI ((mmf fr j).1.1 : Int), zI ((mmf fr j).2.1.2.2 : Int)]) (st := []) dX4_leave_20 zc_X4_162 hrp rfl rfl rfl (Nat.le_of_ble_eq_true rfl) rfl (s_note hW (sg := 120) (p := (mmf fr j).1.1) (dd := (mmf fr j).2.1.2.2) (by decide) (by omega) (by omega)) (fun w1 hq => ?_)
        obtain ⟨hW1, hF1⟩ := hq
        obtain ⟨cap1, fm1, cc1, CH1, ct1, TR1, us1, cu1, pl1, de1, fl1, N1, H1, Sz1, A1, Nt1, sc1, nc1, dp1, hM1, hS1⟩ := id hW1
        obtain ⟨⟨hus1, hfl1, hJ1, hcn1, hFS1⟩, ⟨hcu1, hcuL1, hpl1, hde1, hdeL1, hfb1⟩, ⟨hCH1, hchL1⟩, ⟨hTR1, hTL1⟩, htm1, ⟨hA1, hsc1, hnc1, hdp1, hNt1⟩⟩ := id hS1
        subst hus1 hcu1 hpl1 hde1 hfb1 hCH1 hTR1 hsc1 hnc1 hdp1 hNt1
        obtain ⟨hmc1, hfa1, ⟨hca1, okC1⟩, ⟨hta1, okT1⟩, hFr1, ⟨ht01, ⟨htc1, okTC1⟩, ⟨htn1, okN1⟩, ⟨hth1, okH1⟩, htz1, hSz1⟩, ⟨hrp1, ⟨hri1, okI1⟩, ⟨hra1, okA1⟩, ⟨hrn1, okNt1⟩⟩, hcap1, hcct1, hrm11, hrm21⟩ := id hM1
        obtain ⟨⟨⟨va_j1, md_j1⟩, ⟨fca_j1, fbt_j1, fdp_j1⟩, ⟨fcl_j1, fdn_j1, fod_j1, fcb_j1⟩, xs_j1⟩, efm_j1⟩ : ∃ r, fm1 yj = r := ⟨_, rfl⟩
        obtain ⟨hfy_j1, hva_j1, hx_j1⟩ := hFr1 j yj hj
        rw [efm_j1] at hfy_j1 hva_j1 hx_j1
        have hx_j1 : xs_j1.length = 8 := hx_j1
        obtain ⟨hmd_j1, ⟨hcb1_j1, hcb2_j1⟩, ⟨hcb3_j1, hcb4_j1, hcb5_j1⟩, ⟨-, hxv_j1⟩, hdq_j1⟩ := hFS1 j yj hjf hj
        rw [efm_j1] at hmd_j1 hcb1_j1 hcb3_j1 hxv_j1
        simp only [Prod.mk.injEq] at hcb1_j1 hcb3_j1
        obtain ⟨ea1_j1, ea2_j1, ea3_j1⟩ := hcb1_j1
        obtain ⟨eb1_j1, eb2_j1, eb3_j1, eb4_j1⟩ := hcb3_j1
        subst ea1_j1 ea2_j1 ea3_j1 eb1_j1 eb2_j1 eb3_j1 eb4_j1
        have emd_j1 : md_j = md_j1 := by have q := hmd_j1; rw [hmd_j] at q; exact Option.some.inj q
        subst emd_j1
        rw [efi] at hfy_j1
        have hP1 : pgW w1 pg R := pgW_TM hP (mcF_fr hF1)
        refine zx_aload_n (i := 1) dX4_leave_23 rfl rfl ?_
        refine zx_pc (pc1 := 24) rfl ?_
        refine zx_getfield dX4_leave_24 zf_X4_220 hfy_j1 rfl ?_
        refine zx_ifnonnull (tgt := 38) dX4_leave_27 (by decide) (fun _ => ?_) (fun h => by cases h)
        refine zx_aload_n (i := 1) dX4_leave_38 rfl rfl ?_
        refine zx_getfield dX4_leave_39 zf_X4_246 hfy_j1 rfl ?_
        refine zx_if_eq (tgt := 84) dX4_leave_42 (by decide) (fun h42 => ?_) (fun h42 => absurd (by rw [if_neg hdn]) h42)
        refine zx_aload_n (i := 0) dX4_leave_84 rfl rfl ?_
        refine zx_aload_n (i := 1) dX4_leave_85 rfl rfl ?_
        refine zx_getfield dX4_leave_86 zf_X4_220 hfy_j1 rfl ?_
        obtain ⟨w_1, hw_2⟩ : ∃ ww, ww = zput w1 mc (4, 0, [zR t, zR fa, zR ca, zR ta, zR rp, zI (fr.length : Int), zR yi, zI (pl0 : Int), zP (oA Fs den), zI (if flb = true then 1 else 0), zI 0, zI 0]) := ⟨_, rfl⟩
        refine zx_put (w1 := w_1) dX4_leave_89 zf_X4_53 hmc1 (Nat.le_of_ble_eq_true rfl) (zFt_obj _ _) (fun h => by cases h) hw_2.symm ?_
        have q_3 : w_1.2.1 = w1.2.1 ∧ w_1.2.2 = w1.2.2 := by rw [hw_2]; exact ⟨rfl, rfl⟩
        have h_4 : w_1.1 mc = some (4, 0, [zR t, zR fa, zR ca, zR ta, zR rp, zI (fr.length : Int), zR yi, zI (pl0 : Int), zP (oA Fs den), zI (if flb = true then 1 else 0), zI 0, zI 0]) := by rw [hw_2]; exact zput_at
        refine zx_aload_n (i := 0) dX4_leave_92 rfl rfl ?_
        refine zx_aload_n (i := 1) dX4_leave_93 rfl rfl ?_
        have h_5 : w_1.1 yj = some (2, 0, [zI (j : Int), zR va_j1, zR md_j, zR yi, zI ((mmf fr j).2.1.2.1 : Int), zI ((mmf fr j).2.1.2.2 : Int), zP ((cls j).bind (pgCl R)), zI (if (mmf fr j).2.2.1 = true then 1 else 0), zP (oA Fs (mmf fr j).2.2.2.1), zI ((mmf fr j).2.2.2.2 : Int)]) := by
          rw [hw_2]; exact zput_tg hmc1 hfy_j1 (by simp)
        refine zx_getfield dX4_leave_94 zf_X4_223 h_5 rfl ?_
        refine zx_pc (pc1 := 97) rfl ?_
        refine zx_iconst (v := 1) dX4_leave_97 rfl (z32_lit (by decide) (by decide)) ?_
        refine zx_iadd (v := ((mmf fr j).2.1.2.1 : Int) + 1) dX4_leave_98 (zw_id ⟨by omega, by omega⟩) ?_
        obtain ⟨w_6, hw_7⟩ : ∃ ww, ww = zput w_1 mc (4, 0, [zR t, zR fa, zR ca, zR ta, zR rp, zI (fr.length : Int), zR yi, zI (((mmf fr j).2.1.2.1 : Int) + 1), zP (oA Fs den), zI (if flb = true then 1 else 0), zI 0, zI 0]) := ⟨_, rfl⟩
        refine zx_put (w1 := w_6) dX4_leave_99 zf_X4_69 h_4 (Nat.le_of_ble_eq_true rfl) (zFt_int _) (fun h => by cases h) hw_7.symm ?_
        have q_8 : w_6.2.1 = w_1.2.1 ∧ w_6.2.2 = w_1.2.2 := by rw [hw_7]; exact ⟨rfl, rfl⟩
        have h_9 : w_6.1 mc = some (4, 0, [zR t, zR fa, zR ca, zR ta, zR rp, zI (fr.length : Int), zR yi, zI (((mmf fr j).2.1.2.1 : Int) + 1), zP (oA Fs den), zI (if flb = true then 1 else 0), zI 0, zI 0]) := by rw [hw_7]; exact zput_at
        refine zx_aload_n (i := 0) dX4_leave_102 rfl rfl ?_
        refine zx_aload_n (i := 0) dX4_leave_103 rfl rfl ?_
        refine zx_aload_n (i := 1) dX4_leave_104 rfl rfl ?_
        refine zx_aload_n (i := 1) dX4_leave_105 rfl rfl ?_
        have h_10 : w_6.1 yj = some (2, 0, [zI (j : Int), zR va_j1, zR md_j, zR yi, zI ((mmf fr j).2.1.2.1 : Int), zI ((mmf fr j).2.1.2.2 : Int), zP ((cls j).bind (pgCl R)), zI (if (mmf fr j).2.2.1 = true then 1 else 0), zP (oA Fs (mmf fr j).2.2.2.1), zI ((mmf fr j).2.2.2.2 : Int)]) := by
          rw [hw_7]; exact zput_tg h_4 h_5 (by simp)
        refine zx_getfield dX4_leave_106 zf_X4_220 h_10 rfl ?_
        have hfaL2 : zFa [mc] w1 w_6 := (zFa_put (zFa_put zFa_re (by simp) hw_2) (by simp) hw_7)
        have hFrr2 := fm_keep hFr1 hfaL2 (zLc hmc1 (by simp) zLn)
        have hmcF2 : mcF rp w1 w_6 := mcF_fa hfaL2 (zLc hmc1 (by simp [mcP]) zLn)
        have h_11 : w_1.1 fa = some (166, mc, zLs cap1 Fs) := by
          rw [hw_2]; exact zput_tg hmc1 hfa1 (by simp)
        have h_12 : w_6.1 fa = some (166, mc, zLs cap1 Fs) := by
          rw [hw_7]; exact zput_tg h_4 h_11 (by simp)
        have h_13 : w_1.1 ca = some (138, mc, tTb 3 cc1 (ch.reverse.map (fun e => [(e.1 : Int), (e.2.1 : Int), (e.2.2 : Int)]))) := by
          rw [hw_2]; exact zput_tg hmc1 hca1 (by simp)
        have h_14 : w_6.1 ca = some (138, mc, tTb 3 cc1 (ch.reverse.map (fun e => [(e.1 : Int), (e.2.1 : Int), (e.2.2 : Int)]))) := by
          rw [hw_7]; exact zput_tg h_4 h_13 (by simp)
        have h_15 : w_1.1 ta = some (139, mc, tTb 2 ct1 (T.reverse.map (fun e => [(e.1 : Int), (e.2 : Int)]))) := by
          rw [hw_2]; exact zput_tg hmc1 hta1 (by simp)
        have h_16 : w_6.1 ta = some (139, mc, tTb 2 ct1 (T.reverse.map (fun e => [(e.1 : Int), (e.2 : Int)]))) := by
          rw [hw_7]; exact zput_tg h_4 h_15 (by simp)
        have h_17 : w_1.1 t = some (10, 0, [zI ty, zR tc, zR tn, zR th, zR tz]) := by
          rw [hw_2]; exact zput_tg hmc1 ht01 (by simp)
        have h_18 : w_6.1 t = some (10, 0, [zI ty, zR tc, zR tn, zR th, zR tz]) := by
          rw [hw_7]; exact zput_tg h_4 h_17 (by simp)
        have h_19 : w_1.1 tc = some (130, t, tTb 3 30 C) := by
          rw [hw_2]; exact zput_tg hmc1 htc1 (by simp)
        have h_20 : w_6.1 tc = some (130, t, tTb 3 30 C) := by
          rw [hw_7]; exact zput_tg h_4 h_19 (by simp)
        have h_21 : w_1.1 tn = some (131, t, tTb 4 800 N1) := by
          rw [hw_2]; exact zput_tg hmc1 htn1 (by simp)
        have h_22 : w_6.1 tn = some (131, t, tTb 4 800 N1) := by
          rw [hw_7]; exact zput_tg h_4 h_21 (by simp)
        have h_23 : w_1.1 th = some (132, t, tTb 1 64 H1) := by
          rw [hw_2]; exact zput_tg hmc1 hth1 (by simp)
        have h_24 : w_6.1 th = some (132, t, tTb 1 64 H1) := by
          rw [hw_7]; exact zput_tg h_4 h_23 (by simp)
        have h_25 : w_1.1 tz = some (120, t, Sz1.map zJ) := by
          rw [hw_2]; exact zput_tg hmc1 htz1 (by simp)
        have h_26 : w_6.1 tz = some (120, t, Sz1.map zJ) := by
          rw [hw_7]; exact zput_tg h_4 h_25 (by simp)
        have h_27 : w_1.1 rp = some (8, 0, [zP mo, zR ri, zR ra, zR rn, zI (ns : Int), zI (nc0 : Int), zI (dp0 : Int), zI 101, zI bk, zI bc]) := by
          rw [hw_2]; exact zput_tg hmc1 hrp1 (by simp)
        have h_28 : w_6.1 rp = some (8, 0, [zP mo, zR ri, zR ra, zR rn, zI (ns : Int), zI (nc0 : Int), zI (dp0 : Int), zI 101, zI bk, zI bc]) := by
          rw [hw_7]; exact zput_tg h_4 h_27 (by simp)
        have h_29 : w_1.1 ri = some (135, rp, tTb 1 3 I) := by
          rw [hw_2]; exact zput_tg hmc1 hri1 (by simp)
        have h_30 : w_6.1 ri = some (135, rp, tTb 1 3 I) := by
          rw [hw_7]; exact zput_tg h_4 h_29 (by simp)
        have h_31 : w_1.1 ra = some (136, rp, tTb 3 150 A1) := by
          rw [hw_2]; exact zput_tg hmc1 hra1 (by simp)
        have h_32 : w_6.1 ra = some (136, rp, tTb 3 150 A1) := by
          rw [hw_7]; exact zput_tg h_4 h_31 (by simp)
        have h_33 : w_1.1 rn = some (137, rp, tTb 2 160 ((mmNote nt 120 (mmf fr j).1.1 (mmf fr j).2.1.2.2).map (fun e => [(e.1 : Int), (e.2 : Int)]))) := by
          rw [hw_2]; exact zput_tg hmc1 hrn1 (by simp)
        have h_34 : w_6.1 rn = some (137, rp, tTb 2 160 ((mmNote nt 120 (mmf fr j).1.1 (mmf fr j).2.1.2.2).map (fun e => [(e.1 : Int), (e.2 : Int)]))) := by
          rw [hw_7]; exact zput_tg h_4 h_33 (by simp)
        have hM2 : mcW w_6 b1 b2 ((mc, fa, ca, ta), (t, tc, tn, th, tz), (rp, ri, ra, rn), (ty, C), (mo, I, bk, bc)) (((cap1, Fs), fm1), (cc1, (ch.reverse.map (fun e => [(e.1 : Int), (e.2.1 : Int), (e.2.2 : Int)]))), (ct1, (T.reverse.map (fun e => [(e.1 : Int), (e.2 : Int)]))), ((fr.length : Int), (some yi), (((mmf fr j).2.1.2.1 : Int) + 1), (oA Fs den)), ((if flb = true then 1 else 0), 0, 0), (N1, H1, Sz1), (A1, ((mmNote nt 120 (mmf fr j).1.1 (mmf fr j).2.1.2.2).map (fun e => [(e.1 : Int), (e.2 : Int)])), (ns : Int), (nc0 : Int), (dp0 : Int), 101)) := ⟨h_9, h_12, ⟨h_14, okC1⟩, ⟨h_16, okT1⟩, hFrr2, ⟨h_18, ⟨h_20, okTC1⟩, ⟨h_22, okN1⟩, ⟨h_24, okH1⟩, h_26, hSz1⟩, ⟨h_28, ⟨h_30, okI1⟩, ⟨h_32, okA1⟩, ⟨h_34, okNt1⟩⟩, hcap1, ⟨by omega, by omega, by omega, by omega⟩, by omega, by omega⟩
        rw [← efi] at hM2
        have hW2 : msW w_6 b1 b2 ((mc, fa, ca, ta), (t, tc, tn, th, tz), (rp, ri, ra, rn), (ty, C), (mo, I, bk, bc)) R Fs (0, 0, 101) ((fr, cls, V, ch, T), ((mmf fr j).2.1.1, ((mmf fr j).2.1.2.1 + 1), den, flb), tm, (na, ns, nc0, dp0), (mmNote nt 120 (mmf fr j).1.1 (mmf fr j).2.1.2.2)) := ⟨cap1, fm1, cc1, (ch.reverse.map (fun e => [(e.1 : Int), (e.2.1 : Int), (e.2.2 : Int)])), ct1, (T.reverse.map (fun e => [(e.1 : Int), (e.2 : Int)])), (fr.length : Int), (oA Fs (mmf fr j).2.1.1), (((mmf fr j).2.1.2.1 : Int) + 1), (oA Fs den), (if flb = true then 1 else 0), N1, H1, Sz1, A1, ((mmNote nt 120 (mmf fr j).1.1 (mmf fr j).2.1.2.2).map (fun e => [(e.1 : Int), (e.2 : Int)])), (ns : Int), (nc0 : Int), (dp0 : Int), hM2, ⟨⟨(by first | rfl | omega | simp), hfl1, hJ1, hcn1, hFS1⟩, ⟨rfl, (fun q h => by have := hcb2_j q h; omega), (by first | rfl | omega), rfl, hdeL1, rfl⟩, ⟨rfl, hchL1⟩, ⟨rfl, hTL1⟩, htm1, ⟨hA1, (by first | rfl | omega), (by first | rfl | omega), (by first | rfl | omega), rfl⟩⟩⟩
        have hP2 : pgW w_6 pg R := pgW_TM hP (mcF_fr (mcF_tr hF1 hmcF2))
        refine zx_ivV (b := mc) (As := [zR yj, zR yi]) (st := [zR mc]) dX4_leave_109 zc_X4_249 h_9 rfl rfl rfl (Nat.le_of_ble_eq_true rfl) rfl (s_handsBack hP2 hK hW2 hG1 hG2 hF3 (by omega) hif hyi hjf hj hci hpa he) (fun v3 w3 hq => ?_)
        obtain ⟨ev3, hW3, hF3⟩ := hq
        subst ev3
        obtain ⟨cap3, fm3, cc3, CH3, ct3, TR3, us3, cu3, pl3, de3, fl3, N3, H3, Sz3, A3, Nt3, sc3, nc3, dp3, hM3, hS3⟩ := id hW3
        obtain ⟨⟨hus3, hfl3, hJ3, hcn3, hFS3⟩, ⟨hcu3, hcuL3, hpl3, hde3, hdeL3, hfb3⟩, ⟨hCH3, hchL3⟩, ⟨hTR3, hTL3⟩, htm3, ⟨hA3, hsc3, hnc3, hdp3, hNt3⟩⟩ := id hS3
        subst hus3 hcu3 hpl3 hde3 hfb3 hCH3 hTR3 hsc3 hnc3 hdp3 hNt3
        obtain ⟨hmc3, hfa3, ⟨hca3, okC3⟩, ⟨hta3, okT3⟩, hFr3, ⟨ht03, ⟨htc3, okTC3⟩, ⟨htn3, okN3⟩, ⟨hth3, okH3⟩, htz3, hSz3⟩, ⟨hrp3, ⟨hri3, okI3⟩, ⟨hra3, okA3⟩, ⟨hrn3, okNt3⟩⟩, hcap3, hcct3, hrm13, hrm23⟩ := id hM3
        refine zx_if_ne (tgt := 119) dX4_leave_112 (by decide) (fun h112 => absurd h112 (by rw [zB_f (by rw [hy]; decide)]; decide)) (fun h112 => ?_)
        refine zx_iconst (v := 1) dX4_leave_115 rfl (z32_lit (by decide) (by decide)) ?_
        refine zx_goto (tgt := 120) dX4_leave_116 (by decide) ?_
        refine zx_pc (pc1 := 120) rfl ?_
        obtain ⟨w_35, hw_36⟩ : ∃ ww, ww = zput w3 mc (4, 0, [zR t, zR fa, zR ca, zR ta, zR rp, zI (fr.length : Int), zP (oA Fs ((mmf fr j).2.1.1)), zI ((((mmf fr j).2.1.2.1 + 1) : Nat) : Int), zP (oA Fs den), zI 1, zI 0, zI 0]) := ⟨_, rfl⟩
        refine zx_put (w1 := w_35) dX4_leave_120 zf_X4_57 hmc3 (Nat.le_of_ble_eq_true rfl) (zFt_bool (by first | exact Or.inl rfl | exact Or.inr rfl | exact zB_or | assumption)) (fun h => by cases h) hw_36.symm ?_
        have q_37 : w_35.2.1 = w3.2.1 ∧ w_35.2.2 = w3.2.2 := by rw [hw_36]; exact ⟨rfl, rfl⟩
        have h_38 : w_35.1 mc = some (4, 0, [zR t, zR fa, zR ca, zR ta, zR rp, zI (fr.length : Int), zP (oA Fs ((mmf fr j).2.1.1)), zI ((((mmf fr j).2.1.2.1 + 1) : Nat) : Int), zP (oA Fs den), zI 1, zI 0, zI 0]) := by rw [hw_36]; exact zput_at
        refine zx_return dX4_leave_123 rfl ?_
        have hfaL6 : zFa [mc] w3 w_35 := (zFa_put zFa_re (by simp) hw_36)
        have hFrr6 := fm_keep hFr3 hfaL6 (zLc hmc3 (by simp) zLn)
        have hmcF6 : mcF rp w3 w_35 := mcF_fa hfaL6 (zLc hmc3 (by simp [mcP]) zLn)
        have h_39 : w_35.1 fa = some (166, mc, zLs cap3 Fs) := by
          rw [hw_36]; exact zput_tg hmc3 hfa3 (by simp)
        have h_40 : w_35.1 ca = some (138, mc, tTb 3 cc3 (ch.reverse.map (fun e => [(e.1 : Int), (e.2.1 : Int), (e.2.2 : Int)]))) := by
          rw [hw_36]; exact zput_tg hmc3 hca3 (by simp)
        have h_41 : w_35.1 ta = some (139, mc, tTb 2 ct3 (((mmHb ((pgC R).2.1.1 (mmf fr j).1.1 (mmf fr j).1.2) j i e.1 (List.range e.1.2.2.1) V T).2.2).reverse.map (fun e => [(e.1 : Int), (e.2 : Int)]))) := by
          rw [hw_36]; exact zput_tg hmc3 hta3 (by simp)
        have h_42 : w_35.1 t = some (10, 0, [zI ty, zR tc, zR tn, zR th, zR tz]) := by
          rw [hw_36]; exact zput_tg hmc3 ht03 (by simp)
        have h_43 : w_35.1 tc = some (130, t, tTb 3 30 C) := by
          rw [hw_36]; exact zput_tg hmc3 htc3 (by simp)
        have h_44 : w_35.1 tn = some (131, t, tTb 4 800 N3) := by
          rw [hw_36]; exact zput_tg hmc3 htn3 (by simp)
        have h_45 : w_35.1 th = some (132, t, tTb 1 64 H3) := by
          rw [hw_36]; exact zput_tg hmc3 hth3 (by simp)
        have h_46 : w_35.1 tz = some (120, t, Sz3.map zJ) := by
          rw [hw_36]; exact zput_tg hmc3 htz3 (by simp)
        have h_47 : w_35.1 rp = some (8, 0, [zP mo, zR ri, zR ra, zR rn, zI (ns : Int), zI (nc0 : Int), zI (dp0 : Int), zI 101, zI bk, zI bc]) := by
          rw [hw_36]; exact zput_tg hmc3 hrp3 (by simp)
        have h_48 : w_35.1 ri = some (135, rp, tTb 1 3 I) := by
          rw [hw_36]; exact zput_tg hmc3 hri3 (by simp)
        have h_49 : w_35.1 ra = some (136, rp, tTb 3 150 A3) := by
          rw [hw_36]; exact zput_tg hmc3 hra3 (by simp)
        have h_50 : w_35.1 rn = some (137, rp, tTb 2 160 ((mmNote nt 120 (mmf fr j).1.1 (mmf fr j).2.1.2.2).map (fun e => [(e.1 : Int), (e.2 : Int)]))) := by
          rw [hw_36]; exact zput_tg hmc3 hrn3 (by simp)
        have hM6 : mcW w_35 b1 b2 ((mc, fa, ca, ta), (t, tc, tn, th, tz), (rp, ri, ra, rn), (ty, C), (mo, I, bk, bc)) (((cap3, Fs), fm3), (cc3, (ch.reverse.map (fun e => [(e.1 : Int), (e.2.1 : Int), (e.2.2 : Int)]))), (ct3, (((mmHb ((pgC R).2.1.1 (mmf fr j).1.1 (mmf fr j).1.2) j i e.1 (List.range e.1.2.2.1) V T).2.2).reverse.map (fun e => [(e.1 : Int), (e.2 : Int)]))), ((fr.length : Int), (oA Fs ((mmf fr j).2.1.1)), ((((mmf fr j).2.1.2.1 + 1) : Nat) : Int), (oA Fs den)), (1, 0, 0), (N3, H3, Sz3), (A3, ((mmNote nt 120 (mmf fr j).1.1 (mmf fr j).2.1.2.2).map (fun e => [(e.1 : Int), (e.2 : Int)])), (ns : Int), (nc0 : Int), (dp0 : Int), 101)) := ⟨h_38, h_39, ⟨h_40, okC3⟩, ⟨h_41, okT3⟩, hFrr6, ⟨h_42, ⟨h_43, okTC3⟩, ⟨h_44, okN3⟩, ⟨h_45, okH3⟩, h_46, hSz3⟩, ⟨h_47, ⟨h_48, okI3⟩, ⟨h_49, okA3⟩, ⟨h_50, okNt3⟩⟩, hcap3, ⟨by omega, by omega, by omega, by omega⟩, by omega, by omega⟩
        have hW6 : msW w_35 b1 b2 ((mc, fa, ca, ta), (t, tc, tn, th, tz), (rp, ri, ra, rn), (ty, C), (mo, I, bk, bc)) R Fs (0, 0, 101) ((fr, cls, (mmHb ((pgC R).2.1.1 (mmf fr j).1.1 (mmf fr j).1.2) j i e.1 (List.range e.1.2.2.1) V T).2.1, ch, (mmHb ((pgC R).2.1.1 (mmf fr j).1.1 (mmf fr j).1.2) j i e.1 (List.range e.1.2.2.1) V T).2.2), ((mmf fr j).2.1.1, ((mmf fr j).2.1.2.1 + 1), den, (!(mmHb ((pgC R).2.1.1 (mmf fr j).1.1 (mmf fr j).1.2) j i e.1 (List.range e.1.2.2.1) V T).1)), tm, (na, ns, nc0, dp0), (mmNote nt 120 (mmf fr j).1.1 (mmf fr j).2.1.2.2)) := ⟨cap3, fm3, cc3, (ch.reverse.map (fun e => [(e.1 : Int), (e.2.1 : Int), (e.2.2 : Int)])), ct3, (((mmHb ((pgC R).2.1.1 (mmf fr j).1.1 (mmf fr j).1.2) j i e.1 (List.range e.1.2.2.1) V T).2.2).reverse.map (fun e => [(e.1 : Int), (e.2 : Int)])), (fr.length : Int), (oA Fs ((mmf fr j).2.1.1)), ((((mmf fr j).2.1.2.1 + 1) : Nat) : Int), (oA Fs den), 1, N3, H3, Sz3, A3, ((mmNote nt 120 (mmf fr j).1.1 (mmf fr j).2.1.2.2).map (fun e => [(e.1 : Int), (e.2 : Int)])), (ns : Int), (nc0 : Int), (dp0 : Int), hM6, ⟨⟨(by first | rfl | omega | simp), hfl3, hJ3, hcn3, hFS3⟩, ⟨rfl, hcuL3, (by first | rfl | omega), rfl, hdeL3, (by rw [hy]; rfl)⟩, ⟨rfl, hchL3⟩, ⟨rfl, hTL3⟩, htm3, ⟨hA3, (by first | rfl | omega), (by first | rfl | omega), (by first | rfl | omega), rfl⟩⟩⟩
        rw [mmLeave_4 hcal hrr hdn]
        rw [hcal] at hW6
        exact ⟨rfl, hW6, (mcF_tr hF1 (mcF_tr hmcF2 (mcF_tr hF3 hmcF6)))⟩
end SLV
