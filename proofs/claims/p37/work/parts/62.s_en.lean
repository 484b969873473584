/-! Own rows: enter, told by the pure state. Walked by program (wip/p37/m_en.py). -/
theorem mmFirst_in {C : mmC} {V : mmV} {pm : Nat × Nat} {i c : Nat} (h : mmFirst C V pm i = some c) : c ∈ C.1.1.1 pm.1 := by
  unfold mmFirst at h
  split at h
  · exact List.mem_of_head? h
  · exact List.mem_of_find?_eq_some h
theorem rd_mem {R : pgR} (hK : mkF R) {p y c : Nat} (hp : pgP R p = some y) (hsc : ∀ a ∈ (R.2.2.2.1 y).2.2.2.2, a ∈ R.2.2.1.2.2) (h : c ∈ (pgC R).1.1.1 p) : ∃ a, a ∈ (R.2.2.2.1 y).2.2.2.2 ∧ pgCl R c = some a := by
  rw [rd_cs hp] at h
  obtain ⟨a, ha, e⟩ := List.mem_map.mp h
  exact ⟨a, ha, by rw [← e]; exact rd_cl hK (hsc a ha)⟩
section SEN
variable {pg : Nat}
variable {G : zG} {d : Nat} {w : zW} {b1 b2 : Nat} {R : pgR} {Fs : List Nat} {ov fu en : Int} {mc fa ca ta t tc tn th tz rp ri ra rn : Nat} {ty bk bc : Int} {C I : List (List Int)} {mo : Option Nat} {fr : List mmF} {cls : Nat → Option Nat} {V : mmV} {ch : mmH} {T : mmT} {cur den : Option Nat} {pl0 na ns nc0 dp0 : Nat} {flb : Bool} {tm : List smG} {nt : List (Nat × Nat)}
theorem s_enter (hP : pgW w pg R) (hK : mkF R) (hW : msW w b1 b2 ((mc, fa, ca, ta), (t, tc, tn, th, tz), (rp, ri, ra, rn), (ty, C), (mo, I, bk, bc)) R Fs (ov, fu, en) ((fr, cls, V, ch, T), (cur, pl0, den, flb), tm, (na, ns, nc0, dp0), nt)) (hG1 : b1 + 1500000 ≤ 60 * G.2.2.2.2.1) (hG2 : b2 + 3150000 ≤ G.2.2.2.2.2) (hF3 : Fs.length ≤ 320) {j yj : Nat} (hjf : j < fr.length) (hj : Fs[j]? = some yj) (hsF : ∀ s, (pgC R).2.2.1 (mmf fr j).1.1 (mmf fr j).1.2 = some s → V j s ≠ none ∧ ∀ c, c ∈ (pgC R).1.1.1 (mmf fr j).1.1 → ∃ e os, (pgC R).2.1.2 (mmf fr j).1.2 c = e :: os ∧ e.1.1 = 0) (hch : ch.length < 320) (hnc : nc0 < 100000) : zM G zm_X4_enter (d + 5) [zR mc, zR yj] w (zVoid fun w' => msW w' b1 b2 ((mc, fa, ca, ta), (t, tc, tn, th, tz), (rp, ri, ra, rn), (ty, C), (mo, I, bk, bc)) R Fs (ov, fu, en) (mmEnter (pgC R) j ((fr, cls, V, ch, T), (cur, pl0, den, flb), tm, (na, ns, nc0, dp0), nt)) ∧ mcF rp w w') := by
  refine zx_ent (by decide +kernel) rfl (Nat.le_of_ble_eq_true rfl) ?_
  refine zx_L (L1 := [some (zR mc), some (zR yj), none, none]) rfl ?_
  obtain ⟨cap, fm, cc, CH, ct, TR, us, cu, pl, de, fl, N, H, Sz, A, Nt, sc, nc, dp, hM, hS⟩ := id hW
  obtain ⟨⟨hus, hfl, hJ, hcn, hFS⟩, ⟨hcu, hcuL, hpl, hde, hdeL, hfb⟩, ⟨hCH, hchL⟩, ⟨hTR, hTL⟩, htm, ⟨hA, hsc, hnc, hdp, hNt⟩⟩ := id hS
  subst hus hcu hpl hde hfb hCH hTR hsc hnc hdp hNt
  obtain ⟨hmc, hfa, ⟨hca, okC⟩, ⟨hta, okT⟩, hFr, ⟨ht0, ⟨htc, okTC⟩, ⟨htn, okN⟩, ⟨hth, okH⟩, htz, hSz⟩, ⟨hrp, ⟨hri, okI⟩, ⟨hra, okA⟩, ⟨hrn, okNt⟩⟩, hcap, hcct, hrm1, hrm2⟩ := id hM
  obtain ⟨⟨⟨va_j, md_j⟩, ⟨fca_j, fbt_j, fdp_j⟩, ⟨fcl_j, fdn_j, fod_j, fcb_j⟩, xs_j⟩, efm_j⟩ : ∃ r, fm yj = r := ⟨_, rfl⟩
  obtain ⟨hfy_j, hva_j, hx_j⟩ := hFr j yj hj
  rw [efm_j] at hfy_j hva_j hx_j
  have hx_j : xs_j.length = 8 := hx_j
  obtain ⟨hmd_j, ⟨hcb1_j, hcb2_j⟩, ⟨hcb3_j, hcb4_j, hcb5_j⟩, ⟨-, hxv_j⟩, hdq_j⟩ := hFS j yj hjf hj
  rw [efm_j] at hmd_j hcb1_j hcb3_j hxv_j
  simp only [Prod.mk.injEq] at hcb1_j hcb3_j
  obtain ⟨ea1_j, ea2_j, ea3_j⟩ := hcb1_j
  obtain ⟨eb1_j, eb2_j, eb3_j, eb4_j⟩ := hcb3_j
  subst ea1_j ea2_j ea3_j eb1_j eb2_j eb3_j eb4_j
  obtain ⟨pr_j, ins_j, pm_j, lo_j, gd_j, cf_j, cr_j, sw_j, emr_j, hmo_j, hpp_j, hpn_j, hpm_j, hm2_j, hin_j, hsw_j, hsr_j, hmm_j⟩ := md_get hK hP hmd_j
  obtain ⟨⟨hpy, ⟨htt, okTT⟩, hml, hcl0⟩, hsm, hsc2, -⟩ := hP.2.2.2.2.1 pr_j hpm_j
  rw [hpn_j] at hpy
  have hp5 : (mmf fr j).1.1 < 5 := (hK.1 _ _ _ hmd_j).2.2.2.2
  have hCHl : (ch.reverse.map (fun e => [(e.1 : Int), (e.2.1 : Int), (e.2.2 : Int)])).length = ch.length := by simp
  have hTRl : (T.reverse.map (fun e => [(e.1 : Int), (e.2 : Int)])).length = T.length := by simp
  have hclc : (pgC R).1.1.1 (mmf fr j).1.1 = (R.2.2.2.1 pr_j).2.2.2.2.map (fun a => (R.2.2.2.2.2.1 a).1.1.toNat) := rd_cs hpp_j
  have hcll : ((pgC R).1.1.1 (mmf fr j).1.1).length = (R.2.2.2.1 pr_j).2.2.2.2.length := by rw [hclc, List.length_map]
  cases hmf : mmFirst (pgC R) V (mmf fr j).1 j with
  | none =>
    refine zx_aload_n (i := 1) dX4_enter_0 rfl rfl ?_
    refine zx_getfield dX4_enter_1 zf_X4_73 hfy_j rfl ?_
    refine zx_getfield dX4_enter_4 zf_X4_152 hmo_j rfl ?_
    refine zx_astore_n (i := 2) dX4_enter_7 rfl (by decide) rfl ?_
    refine zx_L (L1 := [some (zR mc), some (zR yj), some (zR pr_j), none]) rfl ?_
    refine zx_aload_n (i := 0) dX4_enter_8 rfl rfl ?_
    refine zx_getfield dX4_enter_9 zf_X4_15 hmc rfl ?_
    refine zx_bipush (v := 99) dX4_enter_12 (by decide +kernel) (z32_lit (by decide) (by decide)) ?_
    refine zx_aload_n (i := 2) dX4_enter_14 rfl rfl ?_
    refine zx_getfield dX4_enter_15 zf_X4_156 hpy rfl ?_
    refine zx_aload_n (i := 1) dX4_enter_18 rfl rfl ?_
    refine zx_getfield dX4_enter_19 zf_X4_159 hfy_j rfl ?_
    refine zx_pc (pc1 := 22) rfl ?_
    refine zx_ivN (b := rp) (As := [zI 99, zI ((mmf fr j).1.1 : Int), zI ((mmf fr j).2.1.2.2 : Int)]) (st := []) dX4_enter_22 zc_X4_162 hrp rfl rfl rfl (Nat.le_of_ble_eq_true rfl) rfl (s_note hW (sg := 99) (p := (mmf fr j).1.1) (dd := (mmf fr j).2.1.2.2) (by decide) (by omega) (by omega)) (fun w1 hq => ?_)
    obtain ⟨hW1, hF1⟩ := hq
    obtain ⟨cap1, fm1, cc1, CH1, ct1, TR1, us1, cu1, pl1, de1, fl1, N1, H1, Sz1, A1, Nt1, sc1, nc1, dp1, hM1, hS1⟩ := id hW1
    obtain ⟨⟨hus1, hfl1, hJ1, hcn1, hFS1⟩, ⟨hcu1, hcuL1, hpl1, hde1, hdeL1, hfb1⟩, ⟨hCH1, hchL1⟩, ⟨hTR1, hTL1⟩, htm1, ⟨hA1, hsc1, hnc1, hdp1, hNt1⟩⟩ := id hS1
    subst hus1 hcu1 hpl1 hde1 hfb1 hCH1 hTR1 hsc1 hnc1 hdp1 hNt1
    obtain ⟨hmc1, hfa1, ⟨hca1, okC1⟩, ⟨hta1, okT1⟩, hFr1, ⟨ht01, ⟨htc1, okTC1⟩, ⟨htn1, okN1⟩, ⟨hth1, okH1⟩, htz1, hSz1⟩, ⟨hrp1, ⟨hri1, okI1⟩, ⟨hra1, okA1⟩, ⟨hrn1, okNt1⟩⟩, hcap1, hcct1, hrm11, hrm21⟩ := id hM1
    obtain ⟨⟨⟨va_j1, md_j1⟩, ⟨fca_j1, fbt_j1, fdp_j1⟩, ⟨fcl_j1, fdn_j1, fod_j1, fcb_j1⟩, xs_j1⟩, efm_j1⟩ : ∃ r, fm1 yj = r := ⟨_, rfl⟩
    obtain ⟨hfy_j1, hva_j1, hx_j1⟩ := hFr1 j yj hj
    rw [efm_j1] at hfy_j1 hva_j1 hx_j1
    have hx_j1 : xs_j1.length = 8 := hx_j1
    obtain ⟨hmd_j1, ⟨hcb1_j1, hcb2_j1⟩, ⟨hcb3_j1, hcb4_j1, hcb5_j1⟩, ⟨-, hxv_j1⟩, hdq_j1⟩ := hFS1 j yj hjf hj
    rw [efm_j1] at hmd_j1 hcb1_j1 hcb3_j1 hxv_j1
    simp only [Prod.mk.injEq] at hcb1_j1 hcb3_j1
    obtain ⟨ea1_j1, ea2_j1, ea3_j1⟩ := hcb1_j1
    obtain ⟨eb1_j1, eb2_j1, eb3_j1, eb4_j1⟩ := hcb3_j1
    subst ea1_j1 ea2_j1 ea3_j1 eb1_j1 eb2_j1 eb3_j1 eb4_j1
    have emd_j1 : md_j = md_j1 := by have q := hmd_j1; rw [hmd_j] at q; exact Option.some.inj q
    subst emd_j1
    refine zx_aload_n (i := 0) dX4_enter_25 rfl rfl ?_
    refine zx_getfield dX4_enter_26 zf_X4_15 hmc1 rfl ?_
    refine zx_aload_n (i := 0) dX4_enter_29 rfl rfl ?_
    refine zx_getfield dX4_enter_30 zf_X4_15 hmc1 rfl ?_
    refine zx_getfield dX4_enter_33 zf_X4_166 hrp1 rfl ?_
    refine zx_aload_n (i := 1) dX4_enter_36 rfl rfl ?_
    refine zx_getfield dX4_enter_37 zf_X4_159 hfy_j1 rfl ?_
    refine zx_max (v := max (dp0 : Int) ((mmf fr j).2.1.2.2 : Int)) dX4_enter_40 zo_X4_169 zk_max1 zk_math zk_max2 (Nat.le_of_ble_eq_true rfl) rfl ?_
    obtain ⟨w_1, hw_2⟩ : ∃ ww, ww = zput w1 rp (8, 0, [zP mo, zR ri, zR ra, zR rn, zI (ns : Int), zI (nc0 : Int), zI (max (dp0 : Int) ((mmf fr j).2.1.2.2 : Int)), zI en, zI bk, zI bc]) := ⟨_, rfl⟩
    refine zx_put (w1 := w_1) dX4_enter_43 zf_X4_166 hrp1 (Nat.le_of_ble_eq_true rfl) (zFt_int _) (fun h => by cases h) hw_2.symm ?_
    have q_3 : w_1.2.1 = w1.2.1 ∧ w_1.2.2 = w1.2.2 := by rw [hw_2]; exact ⟨rfl, rfl⟩
    have h_4 : w_1.1 rp = some (8, 0, [zP mo, zR ri, zR ra, zR rn, zI (ns : Int), zI (nc0 : Int), zI (max (dp0 : Int) ((mmf fr j).2.1.2.2 : Int)), zI en, zI bk, zI bc]) := by rw [hw_2]; exact zput_at
    have hfaL2 : zFa [rp] w1 w_1 := (zFa_put zFa_re (by simp) hw_2)
    have hFrr2 := fm_keep hFr1 hfaL2 (zLc hrp1 (by simp) zLn)
    have hmcF2 : mcF rp w1 w_1 := mcF_fa hfaL2 (zLc hrp1 (by simp [mcP]) zLn)
    have h_5 : w_1.1 mc = some (4, 0, [zR t, zR fa, zR ca, zR ta, zR rp, zI (fr.length : Int), zP (oA Fs cur), zI (pl0 : Int), zP (oA Fs den), zI (if flb = true then 1 else 0), zI ov, zI fu]) := by
      rw [hw_2]; exact zput_tg hrp1 hmc1 (by simp)
    have h_6 : w_1.1 fa = some (166, mc, zLs cap1 Fs) := by
      rw [hw_2]; exact zput_tg hrp1 hfa1 (by simp)
    have h_7 : w_1.1 ca = some (138, mc, tTb 3 cc1 (ch.reverse.map (fun e => [(e.1 : Int), (e.2.1 : Int), (e.2.2 : Int)]))) := by
      rw [hw_2]; exact zput_tg hrp1 hca1 (by simp)
    have h_8 : w_1.1 ta = some (139, mc, tTb 2 ct1 (T.reverse.map (fun e => [(e.1 : Int), (e.2 : Int)]))) := by
      rw [hw_2]; exact zput_tg hrp1 hta1 (by simp)
    have h_9 : w_1.1 t = some (10, 0, [zI ty, zR tc, zR tn, zR th, zR tz]) := by
      rw [hw_2]; exact zput_tg hrp1 ht01 (by simp)
    have h_10 : w_1.1 tc = some (130, t, tTb 3 30 C) := by
      rw [hw_2]; exact zput_tg hrp1 htc1 (by simp)
    have h_11 : w_1.1 tn = some (131, t, tTb 4 800 N1) := by
      rw [hw_2]; exact zput_tg hrp1 htn1 (by simp)
    have h_12 : w_1.1 th = some (132, t, tTb 1 64 H1) := by
      rw [hw_2]; exact zput_tg hrp1 hth1 (by simp)
    have h_13 : w_1.1 tz = some (120, t, Sz1.map zJ) := by
      rw [hw_2]; exact zput_tg hrp1 htz1 (by simp)
    have h_14 : w_1.1 ri = some (135, rp, tTb 1 3 I) := by
      rw [hw_2]; exact zput_tg hrp1 hri1 (by simp)
    have h_15 : w_1.1 ra = some (136, rp, tTb 3 150 A1) := by
      rw [hw_2]; exact zput_tg hrp1 hra1 (by simp)
    have h_16 : w_1.1 rn = some (137, rp, tTb 2 160 ((mmNote nt 99 (mmf fr j).1.1 (mmf fr j).2.1.2.2).map (fun e => [(e.1 : Int), (e.2 : Int)]))) := by
      rw [hw_2]; exact zput_tg hrp1 hrn1 (by simp)
    have hM2 : mcW w_1 b1 b2 ((mc, fa, ca, ta), (t, tc, tn, th, tz), (rp, ri, ra, rn), (ty, C), (mo, I, bk, bc)) (((cap1, Fs), fm1), (cc1, (ch.reverse.map (fun e => [(e.1 : Int), (e.2.1 : Int), (e.2.2 : Int)]))), (ct1, (T.reverse.map (fun e => [(e.1 : Int), (e.2 : Int)]))), ((fr.length : Int), (oA Fs cur), (pl0 : Int), (oA Fs den)), ((if flb = true then 1 else 0), ov, fu), (N1, H1, Sz1), (A1, ((mmNote nt 99 (mmf fr j).1.1 (mmf fr j).2.1.2.2).map (fun e => [(e.1 : Int), (e.2 : Int)])), (ns : Int), (nc0 : Int), (max (dp0 : Int) ((mmf fr j).2.1.2.2 : Int)), en)) := ⟨h_5, h_6, ⟨h_7, okC1⟩, ⟨h_8, okT1⟩, hFrr2, ⟨h_9, ⟨h_10, okTC1⟩, ⟨h_11, okN1⟩, ⟨h_12, okH1⟩, h_13, hSz1⟩, ⟨h_4, ⟨h_14, okI1⟩, ⟨h_15, okA1⟩, ⟨h_16, okNt1⟩⟩, hcap1, ⟨by omega, by omega, by omega, by omega⟩, by omega, by omega⟩
    have hW2 : msW w_1 b1 b2 ((mc, fa, ca, ta), (t, tc, tn, th, tz), (rp, ri, ra, rn), (ty, C), (mo, I, bk, bc)) R Fs (ov, fu, en) ((fr, cls, V, ch, T), (cur, pl0, den, flb), tm, (na, ns, nc0, (max dp0 (mmf fr j).2.1.2.2)), (mmNote nt 99 (mmf fr j).1.1 (mmf fr j).2.1.2.2)) := ⟨cap1, fm1, cc1, (ch.reverse.map (fun e => [(e.1 : Int), (e.2.1 : Int), (e.2.2 : Int)])), ct1, (T.reverse.map (fun e => [(e.1 : Int), (e.2 : Int)])), (fr.length : Int), (oA Fs cur), (pl0 : Int), (oA Fs den), (if flb = true then 1 else 0), N1, H1, Sz1, A1, ((mmNote nt 99 (mmf fr j).1.1 (mmf fr j).2.1.2.2).map (fun e => [(e.1 : Int), (e.2 : Int)])), (ns : Int), (nc0 : Int), (max (dp0 : Int) ((mmf fr j).2.1.2.2 : Int)), hM2, ⟨⟨(by first | rfl | omega | simp), hfl1, hJ1, hcn1, hFS1⟩, ⟨rfl, hcuL1, (by first | rfl | omega), rfl, hdeL1, rfl⟩, ⟨rfl, hchL1⟩, ⟨rfl, hTL1⟩, htm1, ⟨hA1, (by first | rfl | omega), (by first | rfl | omega), (by first | rfl | omega), rfl⟩⟩⟩
    have hP2 : pgW w_1 pg R := pgW_TM hP (mcF_fr (mcF_tr hF1 hmcF2))
    refine zx_aload_n (i := 0) dX4_enter_46 rfl rfl ?_
    refine zx_aload_n (i := 1) dX4_enter_47 rfl rfl ?_
    refine zx_pc (pc1 := 48) rfl ?_
    refine zx_iv (b := mc) (As := [zR yj]) (st := []) (v := (some (zN))) (w1 := w_1) dX4_enter_48 zc_X4_175 h_5 rfl rfl rfl (Nat.le_of_ble_eq_true rfl) rfl (by have q := s_firstClause (G := G) (d := d) hP2 hK hW2 hjf hj hsF; rw [hmf] at q; exact q) ?_
    refine zx_st (st1 := [zN]) rfl ?_
    refine zx_astore_n (i := 3) dX4_enter_51 rfl (by decide) rfl ?_
    refine zx_L (L1 := [some (zR mc), some (zR yj), some (zR pr_j), some (zN)]) rfl ?_
    refine zx_aload_n (i := 3) dX4_enter_52 rfl rfl ?_
    refine zx_ifnonnull (tgt := 79) dX4_enter_53 (by decide) (fun h => absurd rfl h) (fun _ => ?_)
    refine zx_aload_n (i := 0) dX4_enter_56 rfl rfl ?_
    refine zx_getfield dX4_enter_57 zf_X4_15 h_5 rfl ?_
    refine zx_bipush (v := 102) dX4_enter_60 (by decide +kernel) (z32_lit (by decide) (by decide)) ?_
    refine zx_aload_n (i := 2) dX4_enter_62 rfl rfl ?_
    have h_17 : w1.1 pr_j = some (6, 0, [zI ((mmf fr j).1.1 : Int), zR (R.2.2.2.1 pr_j).1.2.1, zR (R.2.2.2.1 pr_j).1.2.2.1, zR (R.2.2.2.1 pr_j).1.2.2.2.1, zR (R.2.2.2.1 pr_j).1.2.2.2.2]) := hF1 _ _ hpy (Or.inl (by simp))
    have h_18 : w_1.1 pr_j = some (6, 0, [zI ((mmf fr j).1.1 : Int), zR (R.2.2.2.1 pr_j).1.2.1, zR (R.2.2.2.1 pr_j).1.2.2.1, zR (R.2.2.2.1 pr_j).1.2.2.2.1, zR (R.2.2.2.1 pr_j).1.2.2.2.2]) := by
      rw [hw_2]; exact zput_tg hrp1 h_17 (by simp)
    refine zx_getfield dX4_enter_63 zf_X4_156 h_18 rfl ?_
    refine zx_aload_n (i := 1) dX4_enter_66 rfl rfl ?_
    have h_19 : w_1.1 yj = some (2, 0, [zI (j : Int), zR va_j1, zR md_j, zP (oA Fs (mmf fr j).2.1.1), zI ((mmf fr j).2.1.2.1 : Int), zI ((mmf fr j).2.1.2.2 : Int), zP ((cls j).bind (pgCl R)), zI (if (mmf fr j).2.2.1 = true then 1 else 0), zP (oA Fs (mmf fr j).2.2.2.1), zI ((mmf fr j).2.2.2.2 : Int)]) := by
      rw [hw_2]; exact zput_tg hrp1 hfy_j1 (by simp)
    refine zx_getfield dX4_enter_67 zf_X4_159 h_19 rfl ?_
    refine zx_ivN (b := rp) (As := [zI 102, zI ((mmf fr j).1.1 : Int), zI ((mmf fr j).2.1.2.2 : Int)]) (st := []) dX4_enter_70 zc_X4_162 h_4 rfl rfl rfl (Nat.le_of_ble_eq_true rfl) rfl (s_note hW2 (sg := 102) (p := (mmf fr j).1.1) (dd := (mmf fr j).2.1.2.2) (by decide) (by omega) (by omega)) (fun w3 hq => ?_)
    obtain ⟨hW3, hF3⟩ := hq
    obtain ⟨cap3, fm3, cc3, CH3, ct3, TR3, us3, cu3, pl3, de3, fl3, N3, H3, Sz3, A3, Nt3, sc3, nc3, dp3, hM3, hS3⟩ := id hW3
    obtain ⟨⟨hus3, hfl3, hJ3, hcn3, hFS3⟩, ⟨hcu3, hcuL3, hpl3, hde3, hdeL3, hfb3⟩, ⟨hCH3, hchL3⟩, ⟨hTR3, hTL3⟩, htm3, ⟨hA3, hsc3, hnc3, hdp3, hNt3⟩⟩ := id hS3
    subst hus3 hcu3 hpl3 hde3 hfb3 hCH3 hTR3 hsc3 hnc3 hdp3 hNt3
    obtain ⟨hmc3, hfa3, ⟨hca3, okC3⟩, ⟨hta3, okT3⟩, hFr3, ⟨ht03, ⟨htc3, okTC3⟩, ⟨htn3, okN3⟩, ⟨hth3, okH3⟩, htz3, hSz3⟩, ⟨hrp3, ⟨hri3, okI3⟩, ⟨hra3, okA3⟩, ⟨hrn3, okNt3⟩⟩, hcap3, hcct3, hrm13, hrm23⟩ := id hM3
    refine zx_pc (pc1 := 73) rfl ?_
    refine zx_aload_n (i := 0) dX4_enter_73 rfl rfl ?_
    refine zx_iconst (v := 1) dX4_enter_74 rfl (z32_lit (by decide) (by decide)) ?_
    obtain ⟨w_20, hw_21⟩ : ∃ ww, ww = zput w3 mc (4, 0, [zR t, zR fa, zR ca, zR ta, zR rp, zI (fr.length : Int), zP (oA Fs cur), zI (pl0 : Int), zP (oA Fs den), zI 1, zI ov, zI fu]) := ⟨_, rfl⟩
    refine zx_put (w1 := w_20) dX4_enter_75 zf_X4_57 hmc3 (Nat.le_of_ble_eq_true rfl) (zFt_bool (by first | exact Or.inl rfl | exact Or.inr rfl | exact zB_or | assumption)) (fun h => by cases h) hw_21.symm ?_
    have q_22 : w_20.2.1 = w3.2.1 ∧ w_20.2.2 = w3.2.2 := by rw [hw_21]; exact ⟨rfl, rfl⟩
    have h_23 : w_20.1 mc = some (4, 0, [zR t, zR fa, zR ca, zR ta, zR rp, zI (fr.length : Int), zP (oA Fs cur), zI (pl0 : Int), zP (oA Fs den), zI 1, zI ov, zI fu]) := by rw [hw_21]; exact zput_at
    refine zx_return dX4_enter_78 rfl ?_
    have hfaL6 : zFa [mc] w3 w_20 := (zFa_put zFa_re (by simp) hw_21)
    have hFrr6 := fm_keep hFr3 hfaL6 (zLc hmc3 (by simp) zLn)
    have hmcF6 : mcF rp w3 w_20 := mcF_fa hfaL6 (zLc hmc3 (by simp [mcP]) zLn)
    have h_24 : w_20.1 fa = some (166, mc, zLs cap3 Fs) := by
      rw [hw_21]; exact zput_tg hmc3 hfa3 (by simp)
    have h_25 : w_20.1 ca = some (138, mc, tTb 3 cc3 (ch.reverse.map (fun e => [(e.1 : Int), (e.2.1 : Int), (e.2.2 : Int)]))) := by
      rw [hw_21]; exact zput_tg hmc3 hca3 (by simp)
    have h_26 : w_20.1 ta = some (139, mc, tTb 2 ct3 (T.reverse.map (fun e => [(e.1 : Int), (e.2 : Int)]))) := by
      rw [hw_21]; exact zput_tg hmc3 hta3 (by simp)
    have h_27 : w_20.1 t = some (10, 0, [zI ty, zR tc, zR tn, zR th, zR tz]) := by
      rw [hw_21]; exact zput_tg hmc3 ht03 (by simp)
    have h_28 : w_20.1 tc = some (130, t, tTb 3 30 C) := by
      rw [hw_21]; exact zput_tg hmc3 htc3 (by simp)
    have h_29 : w_20.1 tn = some (131, t, tTb 4 800 N3) := by
      rw [hw_21]; exact zput_tg hmc3 htn3 (by simp)
    have h_30 : w_20.1 th = some (132, t, tTb 1 64 H3) := by
      rw [hw_21]; exact zput_tg hmc3 hth3 (by simp)
    have h_31 : w_20.1 tz = some (120, t, Sz3.map zJ) := by
      rw [hw_21]; exact zput_tg hmc3 htz3 (by simp)
    have h_32 : w_20.1 rp = some (8, 0, [zP mo, zR ri, zR ra, zR rn, zI (ns : Int), zI (nc0 : Int), zI (((max dp0 (mmf fr j).2.1.2.2) : Nat) : Int), zI en, zI bk, zI bc]) := by
      rw [hw_21]; exact zput_tg hmc3 hrp3 (by simp)
    have h_33 : w_20.1 ri = some (135, rp, tTb 1 3 I) := by
      rw [hw_21]; exact zput_tg hmc3 hri3 (by simp)
    have h_34 : w_20.1 ra = some (136, rp, tTb 3 150 A3) := by
      rw [hw_21]; exact zput_tg hmc3 hra3 (by simp)
    have h_35 : w_20.1 rn = some (137, rp, tTb 2 160 ((mmNote (mmNote nt 99 (mmf fr j).1.1 (mmf fr j).2.1.2.2) 102 (mmf fr j).1.1 (mmf fr j).2.1.2.2).map (fun e => [(e.1 : Int), (e.2 : Int)]))) := by
      rw [hw_21]; exact zput_tg hmc3 hrn3 (by simp)
    have hM6 : mcW w_20 b1 b2 ((mc, fa, ca, ta), (t, tc, tn, th, tz), (rp, ri, ra, rn), (ty, C), (mo, I, bk, bc)) (((cap3, Fs), fm3), (cc3, (ch.reverse.map (fun e => [(e.1 : Int), (e.2.1 : Int), (e.2.2 : Int)]))), (ct3, (T.reverse.map (fun e => [(e.1 : Int), (e.2 : Int)]))), ((fr.length : Int), (oA Fs cur), (pl0 : Int), (oA Fs den)), (1, ov, fu), (N3, H3, Sz3), (A3, ((mmNote (mmNote nt 99 (mmf fr j).1.1 (mmf fr j).2.1.2.2) 102 (mmf fr j).1.1 (mmf fr j).2.1.2.2).map (fun e => [(e.1 : Int), (e.2 : Int)])), (ns : Int), (nc0 : Int), (((max dp0 (mmf fr j).2.1.2.2) : Nat) : Int), en)) := ⟨h_23, h_24, ⟨h_25, okC3⟩, ⟨h_26, okT3⟩, hFrr6, ⟨h_27, ⟨h_28, okTC3⟩, ⟨h_29, okN3⟩, ⟨h_30, okH3⟩, h_31, hSz3⟩, ⟨h_32, ⟨h_33, okI3⟩, ⟨h_34, okA3⟩, ⟨h_35, okNt3⟩⟩, hcap3, ⟨by omega, by omega, by omega, by omega⟩, by omega, by omega⟩
    have hW6 : msW w_20 b1 b2 ((mc, fa, ca, ta), (t, tc, tn, th, tz), (rp, ri, ra, rn), (ty, C), (mo, I, bk, bc)) R Fs (ov, fu, en) ((fr, cls, V, ch, T), (cur, pl0, den, true), tm, (na, ns, nc0, (max dp0 (mmf fr j).2.1.2.2)), (mmNote (mmNote nt 99 (mmf fr j).1.1 (mmf fr j).2.1.2.2) 102 (mmf fr j).1.1 (mmf fr j).2.1.2.2)) := ⟨cap3, fm3, cc3, (ch.reverse.map (fun e => [(e.1 : Int), (e.2.1 : Int), (e.2.2 : Int)])), ct3, (T.reverse.map (fun e => [(e.1 : Int), (e.2 : Int)])), (fr.length : Int), (oA Fs cur), (pl0 : Int), (oA Fs den), 1, N3, H3, Sz3, A3, ((mmNote (mmNote nt 99 (mmf fr j).1.1 (mmf fr j).2.1.2.2) 102 (mmf fr j).1.1 (mmf fr j).2.1.2.2).map (fun e => [(e.1 : Int), (e.2 : Int)])), (ns : Int), (nc0 : Int), (((max dp0 (mmf fr j).2.1.2.2) : Nat) : Int), hM6, ⟨⟨(by first | rfl | omega | simp), hfl3, hJ3, hcn3, hFS3⟩, ⟨rfl, hcuL3, (by first | rfl | omega), rfl, hdeL3, rfl⟩, ⟨rfl, hchL3⟩, ⟨rfl, hTL3⟩, htm3, ⟨hA3, (by first | rfl | omega), (by first | rfl | omega), (by first | rfl | omega), rfl⟩⟩⟩
    rw [mmEnter_0 hmf]
    exact ⟨rfl, hW6, (mcF_tr hF1 (mcF_tr hmcF2 (mcF_tr hF3 hmcF6)))⟩
  | some c =>
    obtain ⟨a, ham, hpa⟩ := rd_mem hK hpp_j hsc2 (mmFirst_in hmf)
    by_cases hs0 : sw_j = -1
    · have e0 : (pgC R).2.2.1 (mmf fr j).1.1 (mmf fr j).1.2 = none := by rw [hsw_j, if_pos hs0]
      by_cases hc1 : 1 < (R.2.2.2.1 pr_j).2.2.2.2.length
      · have e1 : 1 < ((pgC R).1.1.1 (mmf fr j).1.1).length := by omega
        refine zx_aload_n (i := 1) dX4_enter_0 rfl rfl ?_
        refine zx_getfield dX4_enter_1 zf_X4_73 hfy_j rfl ?_
        refine zx_getfield dX4_enter_4 zf_X4_152 hmo_j rfl ?_
        refine zx_astore_n (i := 2) dX4_enter_7 rfl (by decide) rfl ?_
        refine zx_L (L1 := [some (zR mc), some (zR yj), some (zR pr_j), none]) rfl ?_
        refine zx_aload_n (i := 0) dX4_enter_8 rfl rfl ?_
        refine zx_getfield dX4_enter_9 zf_X4_15 hmc rfl ?_
        refine zx_bipush (v := 99) dX4_enter_12 (by decide +kernel) (z32_lit (by decide) (by decide)) ?_
        refine zx_aload_n (i := 2) dX4_enter_14 rfl rfl ?_
        refine zx_getfield dX4_enter_15 zf_X4_156 hpy rfl ?_
        refine zx_aload_n (i := 1) dX4_enter_18 rfl rfl ?_
        refine zx_getfield dX4_enter_19 zf_X4_159 hfy_j rfl ?_
        refine zx_pc (pc1 := 22) rfl ?_
        refine zx_ivN (b := rp) (As := [zI 99, zI ((mmf fr j).1.1 : Int), zI ((mmf fr j).2.1.2.2 : Int)]) (st := []) dX4_enter_22 zc_X4_162 hrp rfl rfl rfl (Nat.le_of_ble_eq_true rfl) rfl (s_note hW (sg := 99) (p := (mmf fr j).1.1) (dd := (mmf fr j).2.1.2.2) (by decide) (by omega) (by omega)) (fun w1 hq => ?_)
        obtain ⟨hW1, hF1⟩ := hq
        obtain ⟨cap1, fm1, cc1, CH1, ct1, TR1, us1, cu1, pl1, de1, fl1, N1, H1, Sz1, A1, Nt1, sc1, nc1, dp1, hM1, hS1⟩ := id hW1
        obtain ⟨⟨hus1, hfl1, hJ1, hcn1, hFS1⟩, ⟨hcu1, hcuL1, hpl1, hde1, hdeL1, hfb1⟩, ⟨hCH1, hchL1⟩, ⟨hTR1, hTL1⟩, htm1, ⟨hA1, hsc1, hnc1, hdp1, hNt1⟩⟩ := id hS1
        subst hus1 hcu1 hpl1 hde1 hfb1 hCH1 hTR1 hsc1 hnc1 hdp1 hNt1
        obtain ⟨hmc1, hfa1, ⟨hca1, okC1⟩, ⟨hta1, okT1⟩, hFr1, ⟨ht01, ⟨htc1, okTC1⟩, ⟨htn1, okN1⟩, ⟨hth1, okH1⟩, htz1, hSz1⟩, ⟨hrp1, ⟨hri1, okI1⟩, ⟨hra1, okA1⟩, ⟨hrn1, okNt1⟩⟩, hcap1, hcct1, hrm11, hrm21⟩ := id hM1
        obtain ⟨⟨⟨va_j1, md_j1⟩, ⟨fca_j1, fbt_j1, fdp_j1⟩, ⟨fcl_j1, fdn_j1, fod_j1, fcb_j1⟩, xs_j1⟩, efm_j1⟩ : ∃ r, fm1 yj = r := ⟨_, rfl⟩
        obtain ⟨hfy_j1, hva_j1, hx_j1⟩ := hFr1 j yj hj
        rw [efm_j1] at hfy_j1 hva_j1 hx_j1
        have hx_j1 : xs_j1.length = 8 := hx_j1
        obtain ⟨hmd_j1, ⟨hcb1_j1, hcb2_j1⟩, ⟨hcb3_j1, hcb4_j1, hcb5_j1⟩, ⟨-, hxv_j1⟩, hdq_j1⟩ := hFS1 j yj hjf hj
        rw [efm_j1] at hmd_j1 hcb1_j1 hcb3_j1 hxv_j1
        simp only [Prod.mk.injEq] at hcb1_j1 hcb3_j1
        obtain ⟨ea1_j1, ea2_j1, ea3_j1⟩ := hcb1_j1
        obtain ⟨eb1_j1, eb2_j1, eb3_j1, eb4_j1⟩ := hcb3_j1
        subst ea1_j1 ea2_j1 ea3_j1 eb1_j1 eb2_j1 eb3_j1 eb4_j1
        have emd_j1 : md_j = md_j1 := by have q := hmd_j1; rw [hmd_j] at q; exact Option.some.inj q
        subst emd_j1
        refine zx_aload_n (i := 0) dX4_enter_25 rfl rfl ?_
        refine zx_getfield dX4_enter_26 zf_X4_15 hmc1 rfl ?_
        refine zx_aload_n (i := 0) dX4_enter_29 rfl rfl ?_
        refine zx_getfield dX4_enter_30 zf_X4_15 hmc1 rfl ?_
        refine zx_getfield dX4_enter_33 zf_X4_166 hrp1 rfl ?_
        refine zx_aload_n (i := 1) dX4_enter_36 rfl rfl ?_
        refine zx_getfield dX4_enter_37 zf_X4_159 hfy_j1 rfl ?_
        refine zx_max (v := max (dp0 : Int) ((mmf fr j).2.1.2.2 : Int)) dX4_enter_40 zo_X4_169 zk_max1 zk_math zk_max2 (Nat.le_of_ble_eq_true rfl) rfl ?_
        obtain ⟨w_1, hw_2⟩ : ∃ ww, ww = zput w1 rp (8, 0, [zP mo, zR ri, zR ra, zR rn, zI (ns : Int), zI (nc0 : Int), zI (max (dp0 : Int) ((mmf fr j).2.1.2.2 : Int)), zI en, zI bk, zI bc]) := ⟨_, rfl⟩
        refine zx_put (w1 := w_1) dX4_enter_43 zf_X4_166 hrp1 (Nat.le_of_ble_eq_true rfl) (zFt_int _) (fun h => by cases h) hw_2.symm ?_
        have q_3 : w_1.2.1 = w1.2.1 ∧ w_1.2.2 = w1.2.2 := by rw [hw_2]; exact ⟨rfl, rfl⟩
        have h_4 : w_1.1 rp = some (8, 0, [zP mo, zR ri, zR ra, zR rn, zI (ns : Int), zI (nc0 : Int), zI (max (dp0 : Int) ((mmf fr j).2.1.2.2 : Int)), zI en, zI bk, zI bc]) := by rw [hw_2]; exact zput_at
        have hfaL2 : zFa [rp] w1 w_1 := (zFa_put zFa_re (by simp) hw_2)
        have hFrr2 := fm_keep hFr1 hfaL2 (zLc hrp1 (by simp) zLn)
        have hmcF2 : mcF rp w1 w_1 := mcF_fa hfaL2 (zLc hrp1 (by simp [mcP]) zLn)
        have h_5 : w_1.1 mc = some (4, 0, [zR t, zR fa, zR ca, zR ta, zR rp, zI (fr.length : Int), zP (oA Fs cur), zI (pl0 : Int), zP (oA Fs den), zI (if flb = true then 1 else 0), zI ov, zI fu]) := by
          rw [hw_2]; exact zput_tg hrp1 hmc1 (by simp)
        have h_6 : w_1.1 fa = some (166, mc, zLs cap1 Fs) := by
          rw [hw_2]; exact zput_tg hrp1 hfa1 (by simp)
        have h_7 : w_1.1 ca = some (138, mc, tTb 3 cc1 (ch.reverse.map (fun e => [(e.1 : Int), (e.2.1 : Int), (e.2.2 : Int)]))) := by
          rw [hw_2]; exact zput_tg hrp1 hca1 (by simp)
        have h_8 : w_1.1 ta = some (139, mc, tTb 2 ct1 (T.reverse.map (fun e => [(e.1 : Int), (e.2 : Int)]))) := by
          rw [hw_2]; exact zput_tg hrp1 hta1 (by simp)
        have h_9 : w_1.1 t = some (10, 0, [zI ty, zR tc, zR tn, zR th, zR tz]) := by
          rw [hw_2]; exact zput_tg hrp1 ht01 (by simp)
        have h_10 : w_1.1 tc = some (130, t, tTb 3 30 C) := by
          rw [hw_2]; exact zput_tg hrp1 htc1 (by simp)
        have h_11 : w_1.1 tn = some (131, t, tTb 4 800 N1) := by
          rw [hw_2]; exact zput_tg hrp1 htn1 (by simp)
        have h_12 : w_1.1 th = some (132, t, tTb 1 64 H1) := by
          rw [hw_2]; exact zput_tg hrp1 hth1 (by simp)
        have h_13 : w_1.1 tz = some (120, t, Sz1.map zJ) := by
          rw [hw_2]; exact zput_tg hrp1 htz1 (by simp)
        have h_14 : w_1.1 ri = some (135, rp, tTb 1 3 I) := by
          rw [hw_2]; exact zput_tg hrp1 hri1 (by simp)
        have h_15 : w_1.1 ra = some (136, rp, tTb 3 150 A1) := by
          rw [hw_2]; exact zput_tg hrp1 hra1 (by simp)
        have h_16 : w_1.1 rn = some (137, rp, tTb 2 160 ((mmNote nt 99 (mmf fr j).1.1 (mmf fr j).2.1.2.2).map (fun e => [(e.1 : Int), (e.2 : Int)]))) := by
          rw [hw_2]; exact zput_tg hrp1 hrn1 (by simp)
        have hM2 : mcW w_1 b1 b2 ((mc, fa, ca, ta), (t, tc, tn, th, tz), (rp, ri, ra, rn), (ty, C), (mo, I, bk, bc)) (((cap1, Fs), fm1), (cc1, (ch.reverse.map (fun e => [(e.1 : Int), (e.2.1 : Int), (e.2.2 : Int)]))), (ct1, (T.reverse.map (fun e => [(e.1 : Int), (e.2 : Int)]))), ((fr.length : Int), (oA Fs cur), (pl0 : Int), (oA Fs den)), ((if flb = true then 1 else 0), ov, fu), (N1, H1, Sz1), (A1, ((mmNote nt 99 (mmf fr j).1.1 (mmf fr j).2.1.2.2).map (fun e => [(e.1 : Int), (e.2 : Int)])), (ns : Int), (nc0 : Int), (max (dp0 : Int) ((mmf fr j).2.1.2.2 : Int)), en)) := ⟨h_5, h_6, ⟨h_7, okC1⟩, ⟨h_8, okT1⟩, hFrr2, ⟨h_9, ⟨h_10, okTC1⟩, ⟨h_11, okN1⟩, ⟨h_12, okH1⟩, h_13, hSz1⟩, ⟨h_4, ⟨h_14, okI1⟩, ⟨h_15, okA1⟩, ⟨h_16, okNt1⟩⟩, hcap1, ⟨by omega, by omega, by omega, by omega⟩, by omega, by omega⟩
        have hW2 : msW w_1 b1 b2 ((mc, fa, ca, ta), (t, tc, tn, th, tz), (rp, ri, ra, rn), (ty, C), (mo, I, bk, bc)) R Fs (ov, fu, en) ((fr, cls, V, ch, T), (cur, pl0, den, flb), tm, (na, ns, nc0, (max dp0 (mmf fr j).2.1.2.2)), (mmNote nt 99 (mmf fr j).1.1 (mmf fr j).2.1.2.2)) := ⟨cap1, fm1, cc1, (ch.reverse.map (fun e => [(e.1 : Int), (e.2.1 : Int), (e.2.2 : Int)])), ct1, (T.reverse.map (fun e => [(e.1 : Int), (e.2 : Int)])), (fr.length : Int), (oA Fs cur), (pl0 : Int), (oA Fs den), (if flb = true then 1 else 0), N1, H1, Sz1, A1, ((mmNote nt 99 (mmf fr j).1.1 (mmf fr j).2.1.2.2).map (fun e => [(e.1 : Int), (e.2 : Int)])), (ns : Int), (nc0 : Int), (max (dp0 : Int) ((mmf fr j).2.1.2.2 : Int)), hM2, ⟨⟨(by first | rfl | omega | simp), hfl1, hJ1, hcn1, hFS1⟩, ⟨rfl, hcuL1, (by first | rfl | omega), rfl, hdeL1, rfl⟩, ⟨rfl, hchL1⟩, ⟨rfl, hTL1⟩, htm1, ⟨hA1, (by first | rfl | omega), (by first | rfl | omega), (by first | rfl | omega), rfl⟩⟩⟩
        have hP2 : pgW w_1 pg R := pgW_TM hP (mcF_fr (mcF_tr hF1 hmcF2))
        refine zx_aload_n (i := 0) dX4_enter_46 rfl rfl ?_
        refine zx_aload_n (i := 1) dX4_enter_47 rfl rfl ?_
        refine zx_pc (pc1 := 48) rfl ?_
        refine zx_iv (b := mc) (As := [zR yj]) (st := []) (v := (some (zR a))) (w1 := w_1) dX4_enter_48 zc_X4_175 h_5 rfl rfl rfl (Nat.le_of_ble_eq_true rfl) rfl (by have q := s_firstClause (G := G) (d := d) hP2 hK hW2 hjf hj hsF; rw [hmf] at q; rw [show (some c).bind (pgCl R) = some a from hpa] at q; exact q) ?_
        refine zx_st (st1 := [zR a]) rfl ?_
        refine zx_astore_n (i := 3) dX4_enter_51 rfl (by decide) rfl ?_
        refine zx_L (L1 := [some (zR mc), some (zR yj), some (zR pr_j), some (zR a)]) rfl ?_
        refine zx_aload_n (i := 3) dX4_enter_52 rfl rfl ?_
        refine zx_ifnonnull (tgt := 79) dX4_enter_53 (by decide) (fun _ => ?_) (fun h => by cases h)
        refine zx_aload_n (i := 1) dX4_enter_79 rfl rfl ?_
        have h_17 : w_1.1 yj = some (2, 0, [zI (j : Int), zR va_j1, zR md_j, zP (oA Fs (mmf fr j).2.1.1), zI ((mmf fr j).2.1.2.1 : Int), zI ((mmf fr j).2.1.2.2 : Int), zP ((cls j).bind (pgCl R)), zI (if (mmf fr j).2.2.1 = true then 1 else 0), zP (oA Fs (mmf fr j).2.2.2.1), zI ((mmf fr j).2.2.2.2 : Int)]) := by
          rw [hw_2]; exact zput_tg hrp1 hfy_j1 (by simp)
        refine zx_getfield dX4_enter_80 zf_X4_73 h_17 rfl ?_
        have h_18 : w1.1 md_j = some (5, 0, [zR pr_j, zI ((mmf fr j).1.2 : Int), zI ins_j, zI pm_j, zI lo_j, zI gd_j, zI cf_j, zI cr_j, zI sw_j]) := hF1 _ _ hmo_j (Or.inl (by simp))
        have h_19 : w_1.1 md_j = some (5, 0, [zR pr_j, zI ((mmf fr j).1.2 : Int), zI ins_j, zI pm_j, zI lo_j, zI gd_j, zI cf_j, zI cr_j, zI sw_j]) := by
          rw [hw_2]; exact zput_tg hrp1 h_18 (by simp)
        refine zx_getfield dX4_enter_83 zf_X4_179 h_19 rfl ?_
        refine zx_iconst (v := -1) dX4_enter_86 rfl (z32_lit (by decide) (by decide)) ?_
        refine zx_icmp_ne (tgt := 131) dX4_enter_87 (by decide) (fun h87 => absurd h87 (by omega)) (fun h87 => ?_)
        refine zx_aload_n (i := 2) dX4_enter_90 rfl rfl ?_
        have h_20 : w1.1 pr_j = some (6, 0, [zI ((mmf fr j).1.1 : Int), zR (R.2.2.2.1 pr_j).1.2.1, zR (R.2.2.2.1 pr_j).1.2.2.1, zR (R.2.2.2.1 pr_j).1.2.2.2.1, zR (R.2.2.2.1 pr_j).1.2.2.2.2]) := hF1 _ _ hpy (Or.inl (by simp))
        have h_21 : w_1.1 pr_j = some (6, 0, [zI ((mmf fr j).1.1 : Int), zR (R.2.2.2.1 pr_j).1.2.1, zR (R.2.2.2.1 pr_j).1.2.2.1, zR (R.2.2.2.1 pr_j).1.2.2.2.1, zR (R.2.2.2.1 pr_j).1.2.2.2.2]) := by
          rw [hw_2]; exact zput_tg hrp1 h_20 (by simp)
        have h_22 : w1.1 ((R.2.2.2.1 pr_j).1.2.2.2.1) = some (164, pr_j, zLs (R.2.2.2.1 pr_j).2.2.2.1 ((R.2.2.2.1 pr_j).2.2.2.2)) := hF1 _ _ hcl0 (Or.inl (by simp))
        have h_23 : w_1.1 ((R.2.2.2.1 pr_j).1.2.2.2.1) = some (164, pr_j, zLs (R.2.2.2.1 pr_j).2.2.2.1 ((R.2.2.2.1 pr_j).2.2.2.2)) := by
          rw [hw_2]; exact zput_tg hrp1 h_22 (by simp)
        refine zx_iv (b := pr_j) (As := []) (st := []) (v := (some (zI ((R.2.2.2.1 pr_j).2.2.2.2.length : Int)))) (w1 := w_1) dX4_enter_91 zc_X4_182 h_21 rfl rfl rfl (Nat.le_of_ble_eq_true rfl) rfl (c_X6_clauseCount h_21 h_23) ?_
        refine zx_st (st1 := [zI ((R.2.2.2.1 pr_j).2.2.2.2.length : Int)]) rfl ?_
        refine zx_iconst (v := 1) dX4_enter_94 rfl (z32_lit (by decide) (by decide)) ?_
        refine zx_pc (pc1 := 95) rfl ?_
        refine zx_icmp_le (tgt := 131) dX4_enter_95 (by decide) (fun h95 => absurd h95 (by omega)) (fun h95 => ?_)
        refine zx_aload_n (i := 0) dX4_enter_98 rfl rfl ?_
        refine zx_getfield dX4_enter_99 zf_X4_31 h_5 rfl ?_
        refine zx_aload_n (i := 1) dX4_enter_102 rfl rfl ?_
        refine zx_getfield dX4_enter_103 zf_X4_185 h_17 rfl ?_
        refine zx_iconst (v := 1) dX4_enter_106 rfl (z32_lit (by decide) (by decide)) ?_
        refine zx_aload_n (i := 0) dX4_enter_107 rfl rfl ?_
        refine zx_getfield dX4_enter_108 zf_X4_35 h_5 rfl ?_
        refine zx_iv (b := ta) (As := []) (st := [zI 1, zI (j : Int), zR ca]) (v := (some (zI (T.length : Int)))) (w1 := w_1) dX4_enter_111 zc_X4_186 h_8 (z_cls9 (by decide)) rfl rfl (Nat.le_of_ble_eq_true rfl) rfl (by have q := c_X9_count (G := G) (d := d + 4) h_8 (by decide) okT1; rw [hTRl] at q; exact q) ?_
        refine zx_st (st1 := [zI (T.length : Int), zI 1, zI (j : Int), zR ca]) rfl ?_
        refine zx_ok (fun ok_24 => ?_)
        obtain ⟨w_25, hw_26⟩ : ∃ ww, ww = tAw w_1 ca 138 mc 3 cc1 (ch.reverse.map (fun e => [(e.1 : Int), (e.2.1 : Int), (e.2.2 : Int)])) (trow 3 (j : Int) 1 (T.length : Int)) := ⟨_, rfl⟩
        have h_27 : w_25.1 ca = some (138, mc, tTb 3 (tCap 3 cc1 (ch.reverse.map (fun e => [(e.1 : Int), (e.2.1 : Int), (e.2.2 : Int)]))) ((ch.reverse.map (fun e => [(e.1 : Int), (e.2.1 : Int), (e.2.2 : Int)])) ++ [(trow 3 (j : Int) 1 (T.length : Int))])) := by rw [hw_26]; exact tAw_at
        have qhw_26 := tAw_sz (w := w_1) (a := ca) (t := 138) (ow := mc) (c := 3) (cap := cc1) (rows := (ch.reverse.map (fun e => [(e.1 : Int), (e.2.1 : Int), (e.2.2 : Int)]))) (r := (trow 3 (j : Int) 1 (T.length : Int))) (by omega)
        rw [← hw_26] at qhw_26
        refine zx_iv (b := ca) (As := [zI (j : Int), zI 1, zI (T.length : Int)]) (st := []) (v := (some (zI ((ch.reverse.map (fun e => [(e.1 : Int), (e.2.1 : Int), (e.2.2 : Int)])).length : Int)))) (w1 := w_25) dX4_enter_114 zc_X4_189 h_7 (z_cls9 (by decide)) rfl rfl (Nat.le_of_ble_eq_true rfl) rfl (by rw [hw_26]; exact (c_X9_add h_7 (by decide) okC1 (by omega) (by by_cases cg : (ch.reverse.map (fun e => [(e.1 : Int), (e.2.1 : Int), (e.2.2 : Int)])).length * 3 + 3 ≤ cc1; exact Or.inl cg; exact Or.inr ⟨by omega, by omega⟩) (j : Int) 1 (T.length : Int))) ?_
        refine zx_st (st1 := [zI ((ch.reverse.map (fun e => [(e.1 : Int), (e.2.1 : Int), (e.2.2 : Int)])).length : Int)]) rfl ?_
        refine zx_pop dX4_enter_117 (fun a h => by cases h) ?_
        refine zx_aload_n (i := 0) dX4_enter_118 rfl rfl ?_
        refine zx_pc (pc1 := 119) rfl ?_
        have h_28 : w_25.1 mc = some (4, 0, [zR t, zR fa, zR ca, zR ta, zR rp, zI (fr.length : Int), zP (oA Fs cur), zI (pl0 : Int), zP (oA Fs den), zI (if flb = true then 1 else 0), zI ov, zI fu]) := by
          rw [hw_26]; exact (tAw_to ok_24 (zne_tg h_7 h_5 (by simp)) h_5)
        refine zx_getfield dX4_enter_119 zf_X4_15 h_28 rfl ?_
        refine zx_dup dX4_enter_122 (fun a h => by cases h) ?_
        have h_29 : w_25.1 rp = some (8, 0, [zP mo, zR ri, zR ra, zR rn, zI (ns : Int), zI (nc0 : Int), zI (max (dp0 : Int) ((mmf fr j).2.1.2.2 : Int)), zI en, zI bk, zI bc]) := by
          rw [hw_26]; exact (tAw_to ok_24 (zne_tg h_7 h_4 (by simp)) h_4)
        refine zx_getfield dX4_enter_123 zf_X4_192 h_29 rfl ?_
        refine zx_iconst (v := 1) dX4_enter_126 rfl (z32_lit (by decide) (by decide)) ?_
        refine zx_iadd (v := (nc0 : Int) + 1) dX4_enter_127 (zw_id ⟨by omega, by omega⟩) ?_
        obtain ⟨w_30, hw_31⟩ : ∃ ww, ww = zput w_25 rp (8, 0, [zP mo, zR ri, zR ra, zR rn, zI (ns : Int), zI ((nc0 : Int) + 1), zI (max (dp0 : Int) ((mmf fr j).2.1.2.2 : Int)), zI en, zI bk, zI bc]) := ⟨_, rfl⟩
        refine zx_put (w1 := w_30) dX4_enter_128 zf_X4_192 h_29 (Nat.le_of_ble_eq_true rfl) (zFt_int _) (fun h => by cases h) hw_31.symm ?_
        have q_32 : w_30.2.1 = w_25.2.1 ∧ w_30.2.2 = w_25.2.2 := by rw [hw_31]; exact ⟨rfl, rfl⟩
        have h_33 : w_30.1 rp = some (8, 0, [zP mo, zR ri, zR ra, zR rn, zI (ns : Int), zI ((nc0 : Int) + 1), zI (max (dp0 : Int) ((mmf fr j).2.1.2.2 : Int)), zI en, zI bk, zI bc]) := by rw [hw_31]; exact zput_at
        refine zx_aload_n (i := 0) dX4_enter_131 rfl rfl ?_
        refine zx_aload_n (i := 1) dX4_enter_132 rfl rfl ?_
        refine zx_aload_n (i := 3) dX4_enter_133 rfl rfl ?_
        have hfaL4 : zFa [rp, ca] w1 w_30 := (zFa_put (zFa_taw (zFa_put zFa_re (by simp) hw_2) (by simp) ok_24 hw_26) (by simp) hw_31)
        have hFrr4 := fm_keep hFr1 hfaL4 (zLc hrp1 (by simp) (zLc hca1 (by simp) zLn))
        have hmcF4 : mcF rp w1 w_30 := mcF_fa hfaL4 (zLc hrp1 (by simp [mcP]) (zLc hca1 (by simp [mcP]) zLn))
        have h_34 : w_30.1 mc = some (4, 0, [zR t, zR fa, zR ca, zR ta, zR rp, zI (fr.length : Int), zP (oA Fs cur), zI (pl0 : Int), zP (oA Fs den), zI (if flb = true then 1 else 0), zI ov, zI fu]) := by
          rw [hw_31]; exact zput_tg h_29 h_28 (by simp)
        have h_35 : w_25.1 fa = some (166, mc, zLs cap1 Fs) := by
          rw [hw_26]; exact (tAw_to ok_24 (zne_tg h_7 h_6 (by simp)) h_6)
        have h_36 : w_30.1 fa = some (166, mc, zLs cap1 Fs) := by
          rw [hw_31]; exact zput_tg h_29 h_35 (by simp)
        have h_37 : w_30.1 ca = some (138, mc, tTb 3 (tCap 3 cc1 (ch.reverse.map (fun e => [(e.1 : Int), (e.2.1 : Int), (e.2.2 : Int)]))) ((ch.reverse.map (fun e => [(e.1 : Int), (e.2.1 : Int), (e.2.2 : Int)])) ++ [(trow 3 (j : Int) 1 (T.length : Int))])) := by
          rw [hw_31]; exact zput_tg h_29 h_27 (by simp)
        have h_38 : w_25.1 ta = some (139, mc, tTb 2 ct1 (T.reverse.map (fun e => [(e.1 : Int), (e.2 : Int)]))) := by
          rw [hw_26]; exact (tAw_to ok_24 (zne_tg h_7 h_8 (by simp)) h_8)
        have h_39 : w_30.1 ta = some (139, mc, tTb 2 ct1 (T.reverse.map (fun e => [(e.1 : Int), (e.2 : Int)]))) := by
          rw [hw_31]; exact zput_tg h_29 h_38 (by simp)
        have h_40 : w_25.1 t = some (10, 0, [zI ty, zR tc, zR tn, zR th, zR tz]) := by
          rw [hw_26]; exact (tAw_to ok_24 (zne_tg h_7 h_9 (by simp)) h_9)
        have h_41 : w_30.1 t = some (10, 0, [zI ty, zR tc, zR tn, zR th, zR tz]) := by
          rw [hw_31]; exact zput_tg h_29 h_40 (by simp)
        have h_42 : w_25.1 tc = some (130, t, tTb 3 30 C) := by
          rw [hw_26]; exact (tAw_to ok_24 (zne_tg h_7 h_10 (by simp)) h_10)
        have h_43 : w_30.1 tc = some (130, t, tTb 3 30 C) := by
          rw [hw_31]; exact zput_tg h_29 h_42 (by simp)
        have h_44 : w_25.1 tn = some (131, t, tTb 4 800 N1) := by
          rw [hw_26]; exact (tAw_to ok_24 (zne_tg h_7 h_11 (by simp)) h_11)
        have h_45 : w_30.1 tn = some (131, t, tTb 4 800 N1) := by
          rw [hw_31]; exact zput_tg h_29 h_44 (by simp)
        have h_46 : w_25.1 th = some (132, t, tTb 1 64 H1) := by
          rw [hw_26]; exact (tAw_to ok_24 (zne_tg h_7 h_12 (by simp)) h_12)
        have h_47 : w_30.1 th = some (132, t, tTb 1 64 H1) := by
          rw [hw_31]; exact zput_tg h_29 h_46 (by simp)
        have h_48 : w_25.1 tz = some (120, t, Sz1.map zJ) := by
          rw [hw_26]; exact (tAw_to ok_24 (zne_tg h_7 h_13 (by simp)) h_13)
        have h_49 : w_30.1 tz = some (120, t, Sz1.map zJ) := by
          rw [hw_31]; exact zput_tg h_29 h_48 (by simp)
        have h_50 : w_25.1 ri = some (135, rp, tTb 1 3 I) := by
          rw [hw_26]; exact (tAw_to ok_24 (zne_tg h_7 h_14 (by simp)) h_14)
        have h_51 : w_30.1 ri = some (135, rp, tTb 1 3 I) := by
          rw [hw_31]; exact zput_tg h_29 h_50 (by simp)
        have h_52 : w_25.1 ra = some (136, rp, tTb 3 150 A1) := by
          rw [hw_26]; exact (tAw_to ok_24 (zne_tg h_7 h_15 (by simp)) h_15)
        have h_53 : w_30.1 ra = some (136, rp, tTb 3 150 A1) := by
          rw [hw_31]; exact zput_tg h_29 h_52 (by simp)
        have h_54 : w_25.1 rn = some (137, rp, tTb 2 160 ((mmNote nt 99 (mmf fr j).1.1 (mmf fr j).2.1.2.2).map (fun e => [(e.1 : Int), (e.2 : Int)]))) := by
          rw [hw_26]; exact (tAw_to ok_24 (zne_tg h_7 h_16 (by simp)) h_16)
        have h_55 : w_30.1 rn = some (137, rp, tTb 2 160 ((mmNote nt 99 (mmf fr j).1.1 (mmf fr j).2.1.2.2).map (fun e => [(e.1 : Int), (e.2 : Int)]))) := by
          rw [hw_31]; exact zput_tg h_29 h_54 (by simp)
        have hM4 : mcW w_30 b1 b2 ((mc, fa, ca, ta), (t, tc, tn, th, tz), (rp, ri, ra, rn), (ty, C), (mo, I, bk, bc)) (((cap1, Fs), fm1), ((tCap 3 cc1 (ch.reverse.map (fun e => [(e.1 : Int), (e.2.1 : Int), (e.2.2 : Int)]))), ((ch.reverse.map (fun e => [(e.1 : Int), (e.2.1 : Int), (e.2.2 : Int)])) ++ [[(j : Int), 1, (T.length : Int)]])), (ct1, (T.reverse.map (fun e => [(e.1 : Int), (e.2 : Int)]))), ((fr.length : Int), (oA Fs cur), (pl0 : Int), (oA Fs den)), ((if flb = true then 1 else 0), ov, fu), (N1, H1, Sz1), (A1, ((mmNote nt 99 (mmf fr j).1.1 (mmf fr j).2.1.2.2).map (fun e => [(e.1 : Int), (e.2 : Int)])), (ns : Int), ((nc0 : Int) + 1), (max (dp0 : Int) ((mmf fr j).2.1.2.2 : Int)), en)) := ⟨h_34, h_36, ⟨h_37, (tOk_app okC1 (by first | exact trow_len | rfl))⟩, ⟨h_39, okT1⟩, hFrr4, ⟨h_41, ⟨h_43, okTC1⟩, ⟨h_45, okN1⟩, ⟨h_47, okH1⟩, h_49, hSz1⟩, ⟨h_33, ⟨h_51, okI1⟩, ⟨h_53, okA1⟩, ⟨h_55, okNt1⟩⟩, hcap1, ⟨by omega, by omega, by omega, by omega⟩, by omega, by omega⟩
        refine zx_ivN (b := mc) (As := [zR yj, zR a]) (st := []) dX4_enter_134 zc_X4_195 h_34 rfl rfl rfl (Nat.le_of_ble_eq_true rfl) rfl (c_X4_tryClause hM4 hj rfl) (fun w5 hq => ?_)
        obtain ⟨hM5, hF5⟩ := hq
        refine zx_return dX4_enter_137 rfl ?_
        have eCH : (ch.reverse.map (fun e => [(e.1 : Int), (e.2.1 : Int), (e.2.2 : Int)])) ++ [[(j : Int), 1, (T.length : Int)]] = (((j, 1, T.length) :: ch).reverse.map (fun e => [(e.1 : Int), (e.2.1 : Int), (e.2.2 : Int)])) := by simp
        rw [eCH] at hM5
        rw [mmEnter_1 hmf ⟨e0, e1⟩]
        exact ⟨rfl, ⟨cap1, _, _, _, ct1, (T.reverse.map (fun e => [(e.1 : Int), (e.2 : Int)])), (fr.length : Int), _, _, (oA Fs den), (if flb = true then 1 else 0), N1, H1, Sz1, A1, ((mmNote nt 99 (mmf fr j).1.1 (mmf fr j).2.1.2.2).map (fun e => [(e.1 : Int), (e.2 : Int)])), (ns : Int), _, _, hM5, ⟨⟨(by first | rfl | omega | simp), hfl1, hJ1, (fun k hk => by unfold mmUp; rw [if_neg (by omega)]; exact hcn1 k hk), (fsR_cls hFS1 hJ1 hj rfl hpa)⟩, ⟨(oA_some hj).symm, (fun i h => by cases h; exact hjf), (by first | rfl | omega), rfl, hdeL1, rfl⟩, ⟨rfl, (fun e he => by
          rcases List.mem_cons.mp he with q | q
          · rw [q]; exact hjf
          · exact hchL1 e q)⟩, ⟨rfl, hTL1⟩, htm1, ⟨hA1, (by first | rfl | omega), (by first | rfl | omega), (by first | rfl | omega), rfl⟩⟩⟩, (mcF_tr hF1 (mcF_tr hmcF4 hF5))⟩
      · have e01 : ¬ ((pgC R).2.2.1 (mmf fr j).1.1 (mmf fr j).1.2 = none ∧ 1 < ((pgC R).1.1.1 (mmf fr j).1.1).length) := fun q => hc1 (by omega)
        refine zx_aload_n (i := 1) dX4_enter_0 rfl rfl ?_
        refine zx_getfield dX4_enter_1 zf_X4_73 hfy_j rfl ?_
        refine zx_getfield dX4_enter_4 zf_X4_152 hmo_j rfl ?_
        refine zx_astore_n (i := 2) dX4_enter_7 rfl (by decide) rfl ?_
        refine zx_L (L1 := [some (zR mc), some (zR yj), some (zR pr_j), none]) rfl ?_
        refine zx_aload_n (i := 0) dX4_enter_8 rfl rfl ?_
        refine zx_getfield dX4_enter_9 zf_X4_15 hmc rfl ?_
        refine zx_bipush (v := 99) dX4_enter_12 (by decide +kernel) (z32_lit (by decide) (by decide)) ?_
        refine zx_aload_n (i := 2) dX4_enter_14 rfl rfl ?_
        refine zx_getfield dX4_enter_15 zf_X4_156 hpy rfl ?_
        refine zx_aload_n (i := 1) dX4_enter_18 rfl rfl ?_
        refine zx_getfield dX4_enter_19 zf_X4_159 hfy_j rfl ?_
        refine zx_pc (pc1 := 22) rfl ?_
        refine zx_ivN (b := rp) (As := [zI 99, zI ((mmf fr j).1.1 : Int), zI ((mmf fr j).2.1.2.2 : Int)]) (st := []) dX4_enter_22 zc_X4_162 hrp rfl rfl rfl (Nat.le_of_ble_eq_true rfl) rfl (s_note hW (sg := 99) (p := (mmf fr j).1.1) (dd := (mmf fr j).2.1.2.2) (by decide) (by omega) (by omega)) (fun w1 hq => ?_)
        obtain ⟨hW1, hF1⟩ := hq
        obtain ⟨cap1, fm1, cc1, CH1, ct1, TR1, us1, cu1, pl1, de1, fl1, N1, H1, Sz1, A1, Nt1, sc1, nc1, dp1, hM1, hS1⟩ := id hW1
        obtain ⟨⟨hus1, hfl1, hJ1, hcn1, hFS1⟩, ⟨hcu1, hcuL1, hpl1, hde1, hdeL1, hfb1⟩, ⟨hCH1, hchL1⟩, ⟨hTR1, hTL1⟩, htm1, ⟨hA1, hsc1, hnc1, hdp1, hNt1⟩⟩ := id hS1
        subst hus1 hcu1 hpl1 hde1 hfb1 hCH1 hTR1 hsc1 hnc1 hdp1 hNt1
        obtain ⟨hmc1, hfa1, ⟨hca1, okC1⟩, ⟨hta1, okT1⟩, hFr1, ⟨ht01, ⟨htc1, okTC1⟩, ⟨htn1, okN1⟩, ⟨hth1, okH1⟩, htz1, hSz1⟩, ⟨hrp1, ⟨hri1, okI1⟩, ⟨hra1, okA1⟩, ⟨hrn1, okNt1⟩⟩, hcap1, hcct1, hrm11, hrm21⟩ := id hM1
        obtain ⟨⟨⟨va_j1, md_j1⟩, ⟨fca_j1, fbt_j1, fdp_j1⟩, ⟨fcl_j1, fdn_j1, fod_j1, fcb_j1⟩, xs_j1⟩, efm_j1⟩ : ∃ r, fm1 yj = r := ⟨_, rfl⟩
        obtain ⟨hfy_j1, hva_j1, hx_j1⟩ := hFr1 j yj hj
        rw [efm_j1] at hfy_j1 hva_j1 hx_j1
        have hx_j1 : xs_j1.length = 8 := hx_j1
        obtain ⟨hmd_j1, ⟨hcb1_j1, hcb2_j1⟩, ⟨hcb3_j1, hcb4_j1, hcb5_j1⟩, ⟨-, hxv_j1⟩, hdq_j1⟩ := hFS1 j yj hjf hj
        rw [efm_j1] at hmd_j1 hcb1_j1 hcb3_j1 hxv_j1
        simp only [Prod.mk.injEq] at hcb1_j1 hcb3_j1
        obtain ⟨ea1_j1, ea2_j1, ea3_j1⟩ := hcb1_j1
        obtain ⟨eb1_j1, eb2_j1, eb3_j1, eb4_j1⟩ := hcb3_j1
        subst ea1_j1 ea2_j1 ea3_j1 eb1_j1 eb2_j1 eb3_j1 eb4_j1
        have emd_j1 : md_j = md_j1 := by have q := hmd_j1; rw [hmd_j] at q; exact Option.some.inj q
        subst emd_j1
        refine zx_aload_n (i := 0) dX4_enter_25 rfl rfl ?_
        refine zx_getfield dX4_enter_26 zf_X4_15 hmc1 rfl ?_
        refine zx_aload_n (i := 0) dX4_enter_29 rfl rfl ?_
        refine zx_getfield dX4_enter_30 zf_X4_15 hmc1 rfl ?_
        refine zx_getfield dX4_enter_33 zf_X4_166 hrp1 rfl ?_
        refine zx_aload_n (i := 1) dX4_enter_36 rfl rfl ?_
        refine zx_getfield dX4_enter_37 zf_X4_159 hfy_j1 rfl ?_
        refine zx_max (v := max (dp0 : Int) ((mmf fr j).2.1.2.2 : Int)) dX4_enter_40 zo_X4_169 zk_max1 zk_math zk_max2 (Nat.le_of_ble_eq_true rfl) rfl ?_
        obtain ⟨w_1, hw_2⟩ : ∃ ww, ww = zput w1 rp (8, 0, [zP mo, zR ri, zR ra, zR rn, zI (ns : Int), zI (nc0 : Int), zI (max (dp0 : Int) ((mmf fr j).2.1.2.2 : Int)), zI en, zI bk, zI bc]) := ⟨_, rfl⟩
        refine zx_put (w1 := w_1) dX4_enter_43 zf_X4_166 hrp1 (Nat.le_of_ble_eq_true rfl) (zFt_int _) (fun h => by cases h) hw_2.symm ?_
        have q_3 : w_1.2.1 = w1.2.1 ∧ w_1.2.2 = w1.2.2 := by rw [hw_2]; exact ⟨rfl, rfl⟩
        have h_4 : w_1.1 rp = some (8, 0, [zP mo, zR ri, zR ra, zR rn, zI (ns : Int), zI (nc0 : Int), zI (max (dp0 : Int) ((mmf fr j).2.1.2.2 : Int)), zI en, zI bk, zI bc]) := by rw [hw_2]; exact zput_at
        have hfaL2 : zFa [rp] w1 w_1 := (zFa_put zFa_re (by simp) hw_2)
        have hFrr2 := fm_keep hFr1 hfaL2 (zLc hrp1 (by simp) zLn)
        have hmcF2 : mcF rp w1 w_1 := mcF_fa hfaL2 (zLc hrp1 (by simp [mcP]) zLn)
        have h_5 : w_1.1 mc = some (4, 0, [zR t, zR fa, zR ca, zR ta, zR rp, zI (fr.length : Int), zP (oA Fs cur), zI (pl0 : Int), zP (oA Fs den), zI (if flb = true then 1 else 0), zI ov, zI fu]) := by
          rw [hw_2]; exact zput_tg hrp1 hmc1 (by simp)
        have h_6 : w_1.1 fa = some (166, mc, zLs cap1 Fs) := by
          rw [hw_2]; exact zput_tg hrp1 hfa1 (by simp)
        have h_7 : w_1.1 ca = some (138, mc, tTb 3 cc1 (ch.reverse.map (fun e => [(e.1 : Int), (e.2.1 : Int), (e.2.2 : Int)]))) := by
          rw [hw_2]; exact zput_tg hrp1 hca1 (by simp)
        have h_8 : w_1.1 ta = some (139, mc, tTb 2 ct1 (T.reverse.map (fun e => [(e.1 : Int), (e.2 : Int)]))) := by
          rw [hw_2]; exact zput_tg hrp1 hta1 (by simp)
        have h_9 : w_1.1 t = some (10, 0, [zI ty, zR tc, zR tn, zR th, zR tz]) := by
          rw [hw_2]; exact zput_tg hrp1 ht01 (by simp)
        have h_10 : w_1.1 tc = some (130, t, tTb 3 30 C) := by
          rw [hw_2]; exact zput_tg hrp1 htc1 (by simp)
        have h_11 : w_1.1 tn = some (131, t, tTb 4 800 N1) := by
          rw [hw_2]; exact zput_tg hrp1 htn1 (by simp)
        have h_12 : w_1.1 th = some (132, t, tTb 1 64 H1) := by
          rw [hw_2]; exact zput_tg hrp1 hth1 (by simp)
        have h_13 : w_1.1 tz = some (120, t, Sz1.map zJ) := by
          rw [hw_2]; exact zput_tg hrp1 htz1 (by simp)
        have h_14 : w_1.1 ri = some (135, rp, tTb 1 3 I) := by
          rw [hw_2]; exact zput_tg hrp1 hri1 (by simp)
        have h_15 : w_1.1 ra = some (136, rp, tTb 3 150 A1) := by
          rw [hw_2]; exact zput_tg hrp1 hra1 (by simp)
        have h_16 : w_1.1 rn = some (137, rp, tTb 2 160 ((mmNote nt 99 (mmf fr j).1.1 (mmf fr j).2.1.2.2).map (fun e => [(e.1 : Int), (e.2 : Int)]))) := by
          rw [hw_2]; exact zput_tg hrp1 hrn1 (by simp)
        have hM2 : mcW w_1 b1 b2 ((mc, fa, ca, ta), (t, tc, tn, th, tz), (rp, ri, ra, rn), (ty, C), (mo, I, bk, bc)) (((cap1, Fs), fm1), (cc1, (ch.reverse.map (fun e => [(e.1 : Int), (e.2.1 : Int), (e.2.2 : Int)]))), (ct1, (T.reverse.map (fun e => [(e.1 : Int), (e.2 : Int)]))), ((fr.length : Int), (oA Fs cur), (pl0 : Int), (oA Fs den)), ((if flb = true then 1 else 0), ov, fu), (N1, H1, Sz1), (A1, ((mmNote nt 99 (mmf fr j).1.1 (mmf fr j).2.1.2.2).map (fun e => [(e.1 : Int), (e.2 : Int)])), (ns : Int), (nc0 : Int), (max (dp0 : Int) ((mmf fr j).2.1.2.2 : Int)), en)) := ⟨h_5, h_6, ⟨h_7, okC1⟩, ⟨h_8, okT1⟩, hFrr2, ⟨h_9, ⟨h_10, okTC1⟩, ⟨h_11, okN1⟩, ⟨h_12, okH1⟩, h_13, hSz1⟩, ⟨h_4, ⟨h_14, okI1⟩, ⟨h_15, okA1⟩, ⟨h_16, okNt1⟩⟩, hcap1, ⟨by omega, by omega, by omega, by omega⟩, by omega, by omega⟩
        have hW2 : msW w_1 b1 b2 ((mc, fa, ca, ta), (t, tc, tn, th, tz), (rp, ri, ra, rn), (ty, C), (mo, I, bk, bc)) R Fs (ov, fu, en) ((fr, cls, V, ch, T), (cur, pl0, den, flb), tm, (na, ns, nc0, (max dp0 (mmf fr j).2.1.2.2)), (mmNote nt 99 (mmf fr j).1.1 (mmf fr j).2.1.2.2)) := ⟨cap1, fm1, cc1, (ch.reverse.map (fun e => [(e.1 : Int), (e.2.1 : Int), (e.2.2 : Int)])), ct1, (T.reverse.map (fun e => [(e.1 : Int), (e.2 : Int)])), (fr.length : Int), (oA Fs cur), (pl0 : Int), (oA Fs den), (if flb = true then 1 else 0), N1, H1, Sz1, A1, ((mmNote nt 99 (mmf fr j).1.1 (mmf fr j).2.1.2.2).map (fun e => [(e.1 : Int), (e.2 : Int)])), (ns : Int), (nc0 : Int), (max (dp0 : Int) ((mmf fr j).2.1.2.2 : Int)), hM2, ⟨⟨(by first | rfl | omega | simp), hfl1, hJ1, hcn1, hFS1⟩, ⟨rfl, hcuL1, (by first | rfl | omega), rfl, hdeL1, rfl⟩, ⟨rfl, hchL1⟩, ⟨rfl, hTL1⟩, htm1, ⟨hA1, (by first | rfl | omega), (by first | rfl | omega), (by first | rfl | omega), rfl⟩⟩⟩
        have hP2 : pgW w_1 pg R := pgW_TM hP (mcF_fr (mcF_tr hF1 hmcF2))
        refine zx_aload_n (i := 0) dX4_enter_46 rfl rfl ?_
        refine zx_aload_n (i := 1) dX4_enter_47 rfl rfl ?_
        refine zx_pc (pc1 := 48) rfl ?_
        refine zx_iv (b := mc) (As := [zR yj]) (st := []) (v := (some (zR a))) (w1 := w_1) dX4_enter_48 zc_X4_175 h_5 rfl rfl rfl (Nat.le_of_ble_eq_true rfl) rfl (by have q := s_firstClause (G := G) (d := d) hP2 hK hW2 hjf hj hsF; rw [hmf] at q; rw [show (some c).bind (pgCl R) = some a from hpa] at q; exact q) ?_
        refine zx_st (st1 := [zR a]) rfl ?_
        refine zx_astore_n (i := 3) dX4_enter_51 rfl (by decide) rfl ?_
        refine zx_L (L1 := [some (zR mc), some (zR yj), some (zR pr_j), some (zR a)]) rfl ?_
        refine zx_aload_n (i := 3) dX4_enter_52 rfl rfl ?_
        refine zx_ifnonnull (tgt := 79) dX4_enter_53 (by decide) (fun _ => ?_) (fun h => by cases h)
        refine zx_aload_n (i := 1) dX4_enter_79 rfl rfl ?_
        have h_17 : w_1.1 yj = some (2, 0, [zI (j : Int), zR va_j1, zR md_j, zP (oA Fs (mmf fr j).2.1.1), zI ((mmf fr j).2.1.2.1 : Int), zI ((mmf fr j).2.1.2.2 : Int), zP ((cls j).bind (pgCl R)), zI (if (mmf fr j).2.2.1 = true then 1 else 0), zP (oA Fs (mmf fr j).2.2.2.1), zI ((mmf fr j).2.2.2.2 : Int)]) := by
          rw [hw_2]; exact zput_tg hrp1 hfy_j1 (by simp)
        refine zx_getfield dX4_enter_80 zf_X4_73 h_17 rfl ?_
        have h_18 : w1.1 md_j = some (5, 0, [zR pr_j, zI ((mmf fr j).1.2 : Int), zI ins_j, zI pm_j, zI lo_j, zI gd_j, zI cf_j, zI cr_j, zI sw_j]) := hF1 _ _ hmo_j (Or.inl (by simp))
        have h_19 : w_1.1 md_j = some (5, 0, [zR pr_j, zI ((mmf fr j).1.2 : Int), zI ins_j, zI pm_j, zI lo_j, zI gd_j, zI cf_j, zI cr_j, zI sw_j]) := by
          rw [hw_2]; exact zput_tg hrp1 h_18 (by simp)
        refine zx_getfield dX4_enter_83 zf_X4_179 h_19 rfl ?_
        refine zx_iconst (v := -1) dX4_enter_86 rfl (z32_lit (by decide) (by decide)) ?_
        refine zx_icmp_ne (tgt := 131) dX4_enter_87 (by decide) (fun h87 => absurd h87 (by omega)) (fun h87 => ?_)
        refine zx_aload_n (i := 2) dX4_enter_90 rfl rfl ?_
        have h_20 : w1.1 pr_j = some (6, 0, [zI ((mmf fr j).1.1 : Int), zR (R.2.2.2.1 pr_j).1.2.1, zR (R.2.2.2.1 pr_j).1.2.2.1, zR (R.2.2.2.1 pr_j).1.2.2.2.1, zR (R.2.2.2.1 pr_j).1.2.2.2.2]) := hF1 _ _ hpy (Or.inl (by simp))
        have h_21 : w_1.1 pr_j = some (6, 0, [zI ((mmf fr j).1.1 : Int), zR (R.2.2.2.1 pr_j).1.2.1, zR (R.2.2.2.1 pr_j).1.2.2.1, zR (R.2.2.2.1 pr_j).1.2.2.2.1, zR (R.2.2.2.1 pr_j).1.2.2.2.2]) := by
          rw [hw_2]; exact zput_tg hrp1 h_20 (by simp)
        have h_22 : w1.1 ((R.2.2.2.1 pr_j).1.2.2.2.1) = some (164, pr_j, zLs (R.2.2.2.1 pr_j).2.2.2.1 ((R.2.2.2.1 pr_j).2.2.2.2)) := hF1 _ _ hcl0 (Or.inl (by simp))
        have h_23 : w_1.1 ((R.2.2.2.1 pr_j).1.2.2.2.1) = some (164, pr_j, zLs (R.2.2.2.1 pr_j).2.2.2.1 ((R.2.2.2.1 pr_j).2.2.2.2)) := by
          rw [hw_2]; exact zput_tg hrp1 h_22 (by simp)
        refine zx_iv (b := pr_j) (As := []) (st := []) (v := (some (zI ((R.2.2.2.1 pr_j).2.2.2.2.length : Int)))) (w1 := w_1) dX4_enter_91 zc_X4_182 h_21 rfl rfl rfl (Nat.le_of_ble_eq_true rfl) rfl (c_X6_clauseCount h_21 h_23) ?_
        refine zx_st (st1 := [zI ((R.2.2.2.1 pr_j).2.2.2.2.length : Int)]) rfl ?_
        refine zx_iconst (v := 1) dX4_enter_94 rfl (z32_lit (by decide) (by decide)) ?_
        refine zx_pc (pc1 := 95) rfl ?_
        refine zx_icmp_le (tgt := 131) dX4_enter_95 (by decide) (fun h95 => ?_) (fun h95 => absurd (by omega) h95)
        refine zx_aload_n (i := 0) dX4_enter_131 rfl rfl ?_
        refine zx_aload_n (i := 1) dX4_enter_132 rfl rfl ?_
        refine zx_aload_n (i := 3) dX4_enter_133 rfl rfl ?_
        have hfaL4 : zFa [rp] w1 w_1 := (zFa_put zFa_re (by simp) hw_2)
        have hFrr4 := fm_keep hFr1 hfaL4 (zLc hrp1 (by simp) zLn)
        have hmcF4 : mcF rp w1 w_1 := mcF_fa hfaL4 (zLc hrp1 (by simp [mcP]) zLn)
        have hM4 : mcW w_1 b1 b2 ((mc, fa, ca, ta), (t, tc, tn, th, tz), (rp, ri, ra, rn), (ty, C), (mo, I, bk, bc)) (((cap1, Fs), fm1), (cc1, (ch.reverse.map (fun e => [(e.1 : Int), (e.2.1 : Int), (e.2.2 : Int)]))), (ct1, (T.reverse.map (fun e => [(e.1 : Int), (e.2 : Int)]))), ((fr.length : Int), (oA Fs cur), (pl0 : Int), (oA Fs den)), ((if flb = true then 1 else 0), ov, fu), (N1, H1, Sz1), (A1, ((mmNote nt 99 (mmf fr j).1.1 (mmf fr j).2.1.2.2).map (fun e => [(e.1 : Int), (e.2 : Int)])), (ns : Int), (nc0 : Int), (max (dp0 : Int) ((mmf fr j).2.1.2.2 : Int)), en)) := ⟨h_5, h_6, ⟨h_7, okC1⟩, ⟨h_8, okT1⟩, hFrr4, ⟨h_9, ⟨h_10, okTC1⟩, ⟨h_11, okN1⟩, ⟨h_12, okH1⟩, h_13, hSz1⟩, ⟨h_4, ⟨h_14, okI1⟩, ⟨h_15, okA1⟩, ⟨h_16, okNt1⟩⟩, hcap1, ⟨by omega, by omega, by omega, by omega⟩, by omega, by omega⟩
        refine zx_ivN (b := mc) (As := [zR yj, zR a]) (st := []) dX4_enter_134 zc_X4_195 h_5 rfl rfl rfl (Nat.le_of_ble_eq_true rfl) rfl (c_X4_tryClause hM4 hj rfl) (fun w5 hq => ?_)
        obtain ⟨hM5, hF5⟩ := hq
        refine zx_return dX4_enter_137 rfl ?_
        rw [mmEnter_2 hmf e01]
        exact ⟨rfl, ⟨cap1, _, _, _, ct1, (T.reverse.map (fun e => [(e.1 : Int), (e.2 : Int)])), (fr.length : Int), _, _, (oA Fs den), (if flb = true then 1 else 0), N1, H1, Sz1, A1, ((mmNote nt 99 (mmf fr j).1.1 (mmf fr j).2.1.2.2).map (fun e => [(e.1 : Int), (e.2 : Int)])), (ns : Int), _, _, hM5, ⟨⟨(by first | rfl | omega | simp), hfl1, hJ1, (fun k hk => by unfold mmUp; rw [if_neg (by omega)]; exact hcn1 k hk), (fsR_cls hFS1 hJ1 hj rfl hpa)⟩, ⟨(oA_some hj).symm, (fun i h => by cases h; exact hjf), (by first | rfl | omega), rfl, hdeL1, rfl⟩, ⟨rfl, hchL1⟩, ⟨rfl, hTL1⟩, htm1, ⟨hA1, (by first | rfl | omega), (by first | rfl | omega), (by first | rfl | omega), rfl⟩⟩⟩, (mcF_tr hF1 (mcF_tr hmcF4 hF5))⟩
    · have e01 : ¬ ((pgC R).2.2.1 (mmf fr j).1.1 (mmf fr j).1.2 = none ∧ 1 < ((pgC R).1.1.1 (mmf fr j).1.1).length) := fun q => by
        have := q.1
        rw [hsw_j, if_neg hs0] at this
        cases this
      refine zx_aload_n (i := 1) dX4_enter_0 rfl rfl ?_
      refine zx_getfield dX4_enter_1 zf_X4_73 hfy_j rfl ?_
      refine zx_getfield dX4_enter_4 zf_X4_152 hmo_j rfl ?_
      refine zx_astore_n (i := 2) dX4_enter_7 rfl (by decide) rfl ?_
      refine zx_L (L1 := [some (zR mc), some (zR yj), some (zR pr_j), none]) rfl ?_
      refine zx_aload_n (i := 0) dX4_enter_8 rfl rfl ?_
      refine zx_getfield dX4_enter_9 zf_X4_15 hmc rfl ?_
      refine zx_bipush (v := 99) dX4_enter_12 (by decide +kernel) (z32_lit (by decide) (by decide)) ?_
      refine zx_aload_n (i := 2) dX4_enter_14 rfl rfl ?_
      refine zx_getfield dX4_enter_15 zf_X4_156 hpy rfl ?_
      refine zx_aload_n (i := 1) dX4_enter_18 rfl rfl ?_
      refine zx_getfield dX4_enter_19 zf_X4_159 hfy_j rfl ?_
      refine zx_pc (pc1 := 22) rfl ?_
      refine zx_ivN (b := rp) (As := [zI 99, zI ((mmf fr j).1.1 : Int), zI ((mmf fr j).2.1.2.2 : Int)]) (st := []) dX4_enter_22 zc_X4_162 hrp rfl rfl rfl (Nat.le_of_ble_eq_true rfl) rfl (s_note hW (sg := 99) (p := (mmf fr j).1.1) (dd := (mmf fr j).2.1.2.2) (by decide) (by omega) (by omega)) (fun w1 hq => ?_)
      obtain ⟨hW1, hF1⟩ := hq
      obtain ⟨cap1, fm1, cc1, CH1, ct1, TR1, us1, cu1, pl1, de1, fl1, N1, H1, Sz1, A1, Nt1, sc1, nc1, dp1, hM1, hS1⟩ := id hW1
      obtain ⟨⟨hus1, hfl1, hJ1, hcn1, hFS1⟩, ⟨hcu1, hcuL1, hpl1, hde1, hdeL1, hfb1⟩, ⟨hCH1, hchL1⟩, ⟨hTR1, hTL1⟩, htm1, ⟨hA1, hsc1, hnc1, hdp1, hNt1⟩⟩ := id hS1
      subst hus1 hcu1 hpl1 hde1 hfb1 hCH1 hTR1 hsc1 hnc1 hdp1 hNt1
      obtain ⟨hmc1, hfa1, ⟨hca1, okC1⟩, ⟨hta1, okT1⟩, hFr1, ⟨ht01, ⟨htc1, okTC1⟩, ⟨htn1, okN1⟩, ⟨hth1, okH1⟩, htz1, hSz1⟩, ⟨hrp1, ⟨hri1, okI1⟩, ⟨hra1, okA1⟩, ⟨hrn1, okNt1⟩⟩, hcap1, hcct1, hrm11, hrm21⟩ := id hM1
      obtain ⟨⟨⟨va_j1, md_j1⟩, ⟨fca_j1, fbt_j1, fdp_j1⟩, ⟨fcl_j1, fdn_j1, fod_j1, fcb_j1⟩, xs_j1⟩, efm_j1⟩ : ∃ r, fm1 yj = r := ⟨_, rfl⟩
      obtain ⟨hfy_j1, hva_j1, hx_j1⟩ := hFr1 j yj hj
      rw [efm_j1] at hfy_j1 hva_j1 hx_j1
      have hx_j1 : xs_j1.length = 8 := hx_j1
      obtain ⟨hmd_j1, ⟨hcb1_j1, hcb2_j1⟩, ⟨hcb3_j1, hcb4_j1, hcb5_j1⟩, ⟨-, hxv_j1⟩, hdq_j1⟩ := hFS1 j yj hjf hj
      rw [efm_j1] at hmd_j1 hcb1_j1 hcb3_j1 hxv_j1
      simp only [Prod.mk.injEq] at hcb1_j1 hcb3_j1
      obtain ⟨ea1_j1, ea2_j1, ea3_j1⟩ := hcb1_j1
      obtain ⟨eb1_j1, eb2_j1, eb3_j1, eb4_j1⟩ := hcb3_j1
      subst ea1_j1 ea2_j1 ea3_j1 eb1_j1 eb2_j1 eb3_j1 eb4_j1
      have emd_j1 : md_j = md_j1 := by have q := hmd_j1; rw [hmd_j] at q; exact Option.some.inj q
      subst emd_j1
      refine zx_aload_n (i := 0) dX4_enter_25 rfl rfl ?_
      refine zx_getfield dX4_enter_26 zf_X4_15 hmc1 rfl ?_
      refine zx_aload_n (i := 0) dX4_enter_29 rfl rfl ?_
      refine zx_getfield dX4_enter_30 zf_X4_15 hmc1 rfl ?_
      refine zx_getfield dX4_enter_33 zf_X4_166 hrp1 rfl ?_
      refine zx_aload_n (i := 1) dX4_enter_36 rfl rfl ?_
      refine zx_getfield dX4_enter_37 zf_X4_159 hfy_j1 rfl ?_
      refine zx_max (v := max (dp0 : Int) ((mmf fr j).2.1.2.2 : Int)) dX4_enter_40 zo_X4_169 zk_max1 zk_math zk_max2 (Nat.le_of_ble_eq_true rfl) rfl ?_
      obtain ⟨w_1, hw_2⟩ : ∃ ww, ww = zput w1 rp (8, 0, [zP mo, zR ri, zR ra, zR rn, zI (ns : Int), zI (nc0 : Int), zI (max (dp0 : Int) ((mmf fr j).2.1.2.2 : Int)), zI en, zI bk, zI bc]) := ⟨_, rfl⟩
      refine zx_put (w1 := w_1) dX4_enter_43 zf_X4_166 hrp1 (Nat.le_of_ble_eq_true rfl) (zFt_int _) (fun h => by cases h) hw_2.symm ?_
      have q_3 : w_1.2.1 = w1.2.1 ∧ w_1.2.2 = w1.2.2 := by rw [hw_2]; exact ⟨rfl, rfl⟩
      have h_4 : w_1.1 rp = some (8, 0, [zP mo, zR ri, zR ra, zR rn, zI (ns : Int), zI (nc0 : Int), zI (max (dp0 : Int) ((mmf fr j).2.1.2.2 : Int)), zI en, zI bk, zI bc]) := by rw [hw_2]; exact zput_at
      have hfaL2 : zFa [rp] w1 w_1 := (zFa_put zFa_re (by simp) hw_2)
      have hFrr2 := fm_keep hFr1 hfaL2 (zLc hrp1 (by simp) zLn)
      have hmcF2 : mcF rp w1 w_1 := mcF_fa hfaL2 (zLc hrp1 (by simp [mcP]) zLn)
      have h_5 : w_1.1 mc = some (4, 0, [zR t, zR fa, zR ca, zR ta, zR rp, zI (fr.length : Int), zP (oA Fs cur), zI (pl0 : Int), zP (oA Fs den), zI (if flb = true then 1 else 0), zI ov, zI fu]) := by
        rw [hw_2]; exact zput_tg hrp1 hmc1 (by simp)
      have h_6 : w_1.1 fa = some (166, mc, zLs cap1 Fs) := by
        rw [hw_2]; exact zput_tg hrp1 hfa1 (by simp)
      have h_7 : w_1.1 ca = some (138, mc, tTb 3 cc1 (ch.reverse.map (fun e => [(e.1 : Int), (e.2.1 : Int), (e.2.2 : Int)]))) := by
        rw [hw_2]; exact zput_tg hrp1 hca1 (by simp)
      have h_8 : w_1.1 ta = some (139, mc, tTb 2 ct1 (T.reverse.map (fun e => [(e.1 : Int), (e.2 : Int)]))) := by
        rw [hw_2]; exact zput_tg hrp1 hta1 (by simp)
      have h_9 : w_1.1 t = some (10, 0, [zI ty, zR tc, zR tn, zR th, zR tz]) := by
        rw [hw_2]; exact zput_tg hrp1 ht01 (by simp)
      have h_10 : w_1.1 tc = some (130, t, tTb 3 30 C) := by
        rw [hw_2]; exact zput_tg hrp1 htc1 (by simp)
      have h_11 : w_1.1 tn = some (131, t, tTb 4 800 N1) := by
        rw [hw_2]; exact zput_tg hrp1 htn1 (by simp)
      have h_12 : w_1.1 th = some (132, t, tTb 1 64 H1) := by
        rw [hw_2]; exact zput_tg hrp1 hth1 (by simp)
      have h_13 : w_1.1 tz = some (120, t, Sz1.map zJ) := by
        rw [hw_2]; exact zput_tg hrp1 htz1 (by simp)
      have h_14 : w_1.1 ri = some (135, rp, tTb 1 3 I) := by
        rw [hw_2]; exact zput_tg hrp1 hri1 (by simp)
      have h_15 : w_1.1 ra = some (136, rp, tTb 3 150 A1) := by
        rw [hw_2]; exact zput_tg hrp1 hra1 (by simp)
      have h_16 : w_1.1 rn = some (137, rp, tTb 2 160 ((mmNote nt 99 (mmf fr j).1.1 (mmf fr j).2.1.2.2).map (fun e => [(e.1 : Int), (e.2 : Int)]))) := by
        rw [hw_2]; exact zput_tg hrp1 hrn1 (by simp)
      have hM2 : mcW w_1 b1 b2 ((mc, fa, ca, ta), (t, tc, tn, th, tz), (rp, ri, ra, rn), (ty, C), (mo, I, bk, bc)) (((cap1, Fs), fm1), (cc1, (ch.reverse.map (fun e => [(e.1 : Int), (e.2.1 : Int), (e.2.2 : Int)]))), (ct1, (T.reverse.map (fun e => [(e.1 : Int), (e.2 : Int)]))), ((fr.length : Int), (oA Fs cur), (pl0 : Int), (oA Fs den)), ((if flb = true then 1 else 0), ov, fu), (N1, H1, Sz1), (A1, ((mmNote nt 99 (mmf fr j).1.1 (mmf fr j).2.1.2.2).map (fun e => [(e.1 : Int), (e.2 : Int)])), (ns : Int), (nc0 : Int), (max (dp0 : Int) ((mmf fr j).2.1.2.2 : Int)), en)) := ⟨h_5, h_6, ⟨h_7, okC1⟩, ⟨h_8, okT1⟩, hFrr2, ⟨h_9, ⟨h_10, okTC1⟩, ⟨h_11, okN1⟩, ⟨h_12, okH1⟩, h_13, hSz1⟩, ⟨h_4, ⟨h_14, okI1⟩, ⟨h_15, okA1⟩, ⟨h_16, okNt1⟩⟩, hcap1, ⟨by omega, by omega, by omega, by omega⟩, by omega, by omega⟩
      have hW2 : msW w_1 b1 b2 ((mc, fa, ca, ta), (t, tc, tn, th, tz), (rp, ri, ra, rn), (ty, C), (mo, I, bk, bc)) R Fs (ov, fu, en) ((fr, cls, V, ch, T), (cur, pl0, den, flb), tm, (na, ns, nc0, (max dp0 (mmf fr j).2.1.2.2)), (mmNote nt 99 (mmf fr j).1.1 (mmf fr j).2.1.2.2)) := ⟨cap1, fm1, cc1, (ch.reverse.map (fun e => [(e.1 : Int), (e.2.1 : Int), (e.2.2 : Int)])), ct1, (T.reverse.map (fun e => [(e.1 : Int), (e.2 : Int)])), (fr.length : Int), (oA Fs cur), (pl0 : Int), (oA Fs den), (if flb = true then 1 else 0), N1, H1, Sz1, A1, ((mmNote nt 99 (mmf fr j).1.1 (mmf fr j).2.1.2.2).map (fun e => [(e.1 : Int), (e.2 : Int)])), (ns : Int), (nc0 : Int), (max (dp0 : Int) ((mmf fr j).2.1.2.2 : Int)), hM2, ⟨⟨(by first | rfl | omega | simp), hfl1, hJ1, hcn1, hFS1⟩, ⟨rfl, hcuL1, (by first | rfl | omega), rfl, hdeL1, rfl⟩, ⟨rfl, hchL1⟩, ⟨rfl, hTL1⟩, htm1, ⟨hA1, (by first | rfl | omega), (by first | rfl | omega), (by first | rfl | omega), rfl⟩⟩⟩
      have hP2 : pgW w_1 pg R := pgW_TM hP (mcF_fr (mcF_tr hF1 hmcF2))
      refine zx_aload_n (i := 0) dX4_enter_46 rfl rfl ?_
      refine zx_aload_n (i := 1) dX4_enter_47 rfl rfl ?_
      refine zx_pc (pc1 := 48) rfl ?_
      refine zx_iv (b := mc) (As := [zR yj]) (st := []) (v := (some (zR a))) (w1 := w_1) dX4_enter_48 zc_X4_175 h_5 rfl rfl rfl (Nat.le_of_ble_eq_true rfl) rfl (by have q := s_firstClause (G := G) (d := d) hP2 hK hW2 hjf hj hsF; rw [hmf] at q; rw [show (some c).bind (pgCl R) = some a from hpa] at q; exact q) ?_
      refine zx_st (st1 := [zR a]) rfl ?_
      refine zx_astore_n (i := 3) dX4_enter_51 rfl (by decide) rfl ?_
      refine zx_L (L1 := [some (zR mc), some (zR yj), some (zR pr_j), some (zR a)]) rfl ?_
      refine zx_aload_n (i := 3) dX4_enter_52 rfl rfl ?_
      refine zx_ifnonnull (tgt := 79) dX4_enter_53 (by decide) (fun _ => ?_) (fun h => by cases h)
      refine zx_aload_n (i := 1) dX4_enter_79 rfl rfl ?_
      have h_17 : w_1.1 yj = some (2, 0, [zI (j : Int), zR va_j1, zR md_j, zP (oA Fs (mmf fr j).2.1.1), zI ((mmf fr j).2.1.2.1 : Int), zI ((mmf fr j).2.1.2.2 : Int), zP ((cls j).bind (pgCl R)), zI (if (mmf fr j).2.2.1 = true then 1 else 0), zP (oA Fs (mmf fr j).2.2.2.1), zI ((mmf fr j).2.2.2.2 : Int)]) := by
        rw [hw_2]; exact zput_tg hrp1 hfy_j1 (by simp)
      refine zx_getfield dX4_enter_80 zf_X4_73 h_17 rfl ?_
      have h_18 : w1.1 md_j = some (5, 0, [zR pr_j, zI ((mmf fr j).1.2 : Int), zI ins_j, zI pm_j, zI lo_j, zI gd_j, zI cf_j, zI cr_j, zI sw_j]) := hF1 _ _ hmo_j (Or.inl (by simp))
      have h_19 : w_1.1 md_j = some (5, 0, [zR pr_j, zI ((mmf fr j).1.2 : Int), zI ins_j, zI pm_j, zI lo_j, zI gd_j, zI cf_j, zI cr_j, zI sw_j]) := by
        rw [hw_2]; exact zput_tg hrp1 h_18 (by simp)
      refine zx_getfield dX4_enter_83 zf_X4_179 h_19 rfl ?_
      refine zx_iconst (v := -1) dX4_enter_86 rfl (z32_lit (by decide) (by decide)) ?_
      refine zx_icmp_ne (tgt := 131) dX4_enter_87 (by decide) (fun h87 => ?_) (fun h87 => absurd (by omega) h87)
      refine zx_aload_n (i := 0) dX4_enter_131 rfl rfl ?_
      refine zx_aload_n (i := 1) dX4_enter_132 rfl rfl ?_
      refine zx_aload_n (i := 3) dX4_enter_133 rfl rfl ?_
      refine zx_pc (pc1 := 134) rfl ?_
      have hfaL4 : zFa [rp] w1 w_1 := (zFa_put zFa_re (by simp) hw_2)
      have hFrr4 := fm_keep hFr1 hfaL4 (zLc hrp1 (by simp) zLn)
      have hmcF4 : mcF rp w1 w_1 := mcF_fa hfaL4 (zLc hrp1 (by simp [mcP]) zLn)
      have hM4 : mcW w_1 b1 b2 ((mc, fa, ca, ta), (t, tc, tn, th, tz), (rp, ri, ra, rn), (ty, C), (mo, I, bk, bc)) (((cap1, Fs), fm1), (cc1, (ch.reverse.map (fun e => [(e.1 : Int), (e.2.1 : Int), (e.2.2 : Int)]))), (ct1, (T.reverse.map (fun e => [(e.1 : Int), (e.2 : Int)]))), ((fr.length : Int), (oA Fs cur), (pl0 : Int), (oA Fs den)), ((if flb = true then 1 else 0), ov, fu), (N1, H1, Sz1), (A1, ((mmNote nt 99 (mmf fr j).1.1 (mmf fr j).2.1.2.2).map (fun e => [(e.1 : Int), (e.2 : Int)])), (ns : Int), (nc0 : Int), (max (dp0 : Int) ((mmf fr j).2.1.2.2 : Int)), en)) := ⟨h_5, h_6, ⟨h_7, okC1⟩, ⟨h_8, okT1⟩, hFrr4, ⟨h_9, ⟨h_10, okTC1⟩, ⟨h_11, okN1⟩, ⟨h_12, okH1⟩, h_13, hSz1⟩, ⟨h_4, ⟨h_14, okI1⟩, ⟨h_15, okA1⟩, ⟨h_16, okNt1⟩⟩, hcap1, ⟨by omega, by omega, by omega, by omega⟩, by omega, by omega⟩
      refine zx_ivN (b := mc) (As := [zR yj, zR a]) (st := []) dX4_enter_134 zc_X4_195 h_5 rfl rfl rfl (Nat.le_of_ble_eq_true rfl) rfl (c_X4_tryClause hM4 hj rfl) (fun w5 hq => ?_)
      obtain ⟨hM5, hF5⟩ := hq
      refine zx_return dX4_enter_137 rfl ?_
      rw [mmEnter_2 hmf e01]
      exact ⟨rfl, ⟨cap1, _, _, _, ct1, (T.reverse.map (fun e => [(e.1 : Int), (e.2 : Int)])), (fr.length : Int), _, _, (oA Fs den), (if flb = true then 1 else 0), N1, H1, Sz1, A1, ((mmNote nt 99 (mmf fr j).1.1 (mmf fr j).2.1.2.2).map (fun e => [(e.1 : Int), (e.2 : Int)])), (ns : Int), _, _, hM5, ⟨⟨(by first | rfl | omega | simp), hfl1, hJ1, (fun k hk => by unfold mmUp; rw [if_neg (by omega)]; exact hcn1 k hk), (fsR_cls hFS1 hJ1 hj rfl hpa)⟩, ⟨(oA_some hj).symm, (fun i h => by cases h; exact hjf), (by first | rfl | omega), rfl, hdeL1, rfl⟩, ⟨rfl, hchL1⟩, ⟨rfl, hTL1⟩, htm1, ⟨hA1, (by first | rfl | omega), (by first | rfl | omega), (by first | rfl | omega), rfl⟩⟩⟩, (mcF_tr hF1 (mcF_tr hmcF4 hF5))⟩
end SEN
