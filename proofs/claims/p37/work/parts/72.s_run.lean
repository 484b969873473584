/-! Own rows: the machine's run against mmRun. Walked by program (wip/p37/m_run.py). -/
section SRU
variable {pg : Nat} {G : zG} {d : Nat} {w : zW} {b1 b2 r0 : Nat} {R : pgR} {mc fa ca ta t tc tn th tz rp ri ra rn : Nat} {ty bk bc : Int} {C I : List (List Int)} {mo : Option Nat} {cap cc ct : Nat} {Fs : List Nat} {fm : Nat → fmR} {CH TR N H A Nt : List (List Int)} {Sz : List Int} {us pl fl ov fu sc nc dp en : Int} {cu de : Option Nat} {tm : List smG} {Gd : Nat × Nat → Prop}
theorem tmFg_ok {cnt : Int} : ∀ (k : Nat) (N H : List (List Int)), tOk 4 N → tOk 1 H → tOk 4 (tmFg cnt k N H).1 ∧ tOk 1 (tmFg cnt k N H).2
  | 0, _, _, h1, h2 => ⟨h1, h2⟩
  | k + 1, N, H, h1, h2 => by
    by_cases c : cnt ≤ (N.length : Int) - 1 ∧ 0 ≤ (N.length : Int) - 1
    · rw [tmFg_s c]
      exact tmFg_ok k _ _ (tOk_cut h1) (tOk_ts h2)
    · rw [tmFg_z c]
      exact ⟨h1, h2⟩
theorem s_run (hP : pgW w pg R) (hK : mkF R) (hC : C = C3) (hF : mmFa (pgC R) Gd) (hO : ∀ m c, ((pgC R).2.1.2 m c).length ≤ 5) (h12 : ∀ p, ((pgC R).1.1.1 p).length ≤ 12) (hA3 : ∀ p, (pgC R).1.2 p ≤ 3) (hB : mcB w b1 b2 r0 ((mc, fa, ca, ta), (t, tc, tn, th, tz), (rp, ri, ra, rn), (ty, C), (mo, I, bk, bc)) (((cap, Fs), fm), (cc, CH), (ct, TR), (us, cu, pl, de), (fl, ov, fu), (N, H, Sz), ([], [], 0, 0, 0, 101))) (htm : tmR N H Sz tm) (hG1 : b1 + 1500000 ≤ 60 * G.2.2.2.2.1) (hG2 : b2 + 3150000 ≤ G.2.2.2.2.2) (hF3 : Fs.length ≤ 320) {p m md0 : Nat} (hg : Gd (p, m)) (hmd0 : pgMo R p m = some md0) {o : Nat → Option smG} (hin : ∀ k : Nat, k < 3 → tvE tm (tg I (k : Int) 0) (o k)) (ho3 : ∀ k, 3 ≤ k → o k = none) (ho : ∀ k, o k ≠ none ↔ (pgC R).2.1.1 p m k = true) : zM G zm_X4_run (d + 9) [zR mc, zR md0, zR rp] w (zVal fun v w' => (∃ (n : Nat) (r : Nat × mmS) (Fs2 : List Nat) (p' : Nat), mmRun (pgC R) n (mmStart (pgC R) tm (p, m) o) = some r ∧ Fs2.length ≤ 320 ∧ (((r.1 = 0 ∨ r.1 = 1) ∧ v = zI 1 ∧ msW w' b1 b2 ((mc, fa, ca, ta), (t, tc, tn, th, tz), (rp, ri, ra, rn), (ty, C), (mo, I, bk, bc)) R Fs2 (1, 0, if r.1 = 0 then 101 else 108) (msPl r.2 p')) ∨ ((r.1 ≠ 0 ∧ r.1 ≠ 1) ∧ v = zI 0 ∧ ∃ M' : mcR, mcW w' b1 b2 ((mc, fa, ca, ta), (t, tc, tn, th, tz), (rp, ri, ra, rn), (ty, C), (mo, I, bk, bc)) M' ∧ M'.1.1.2.length ≤ 320 ∧ tmR M'.2.2.2.2.2.1.1 M'.2.2.2.2.2.1.2.1 M'.2.2.2.2.2.1.2.2 tm))) ∧ mcF rp w w') := by
  refine zx_ent (by decide +kernel) rfl (Nat.le_of_ble_eq_true rfl) ?_
  refine zx_L (L1 := [some (zR mc), some (zR md0), some (zR rp), none, none, none]) rfl ?_
  obtain ⟨hmc, hfa, ⟨hca, okC⟩, ⟨hta, okT⟩, hFr, ⟨ht0, ⟨htc, okTC⟩, ⟨htn, okN⟩, ⟨hth, okH⟩, htz, hSz⟩, ⟨hrp, ⟨hri, okI⟩, ⟨hra, okA⟩, ⟨hrn, okNt⟩⟩, hcap, hcct, hrm1, hrm2⟩ := id hB
  have fin : ∀ (r : Nat × mmS) (Fs2 : List Nat) (w2 : zW) (p2 q : Nat) (o5 : Option zV) (n : Nat), Fs2.length ≤ 320 → q < 1000000 → mmRun (pgC R) n (mmStart (pgC R) tm (p, m) o) = some r → (∃ t, mmTm r.2 = tm ++ t) → msW w2 b1 b2 ((mc, fa, ca, ta), (t, tc, tn, th, tz), (rp, ri, ra, rn), (ty, C), (mo, I, bk, bc)) R Fs2 (if r.1 = 0 then (1, 0, 101) else if r.1 = 1 then (1, 0, 108) else (1, 1, 101)) (msPl r.2 p2) → mcF rp w w2 → zX G zm_X4_run (d + 9) [zR mc, zR md0, zR rp] w (zVal fun v w' => (∃ (n : Nat) (r : Nat × mmS) (Fs2 : List Nat) (p' : Nat), mmRun (pgC R) n (mmStart (pgC R) tm (p, m) o) = some r ∧ Fs2.length ≤ 320 ∧ (((r.1 = 0 ∨ r.1 = 1) ∧ v = zI 1 ∧ msW w' b1 b2 ((mc, fa, ca, ta), (t, tc, tn, th, tz), (rp, ri, ra, rn), (ty, C), (mo, I, bk, bc)) R Fs2 (1, 0, if r.1 = 0 then 101 else 108) (msPl r.2 p')) ∨ ((r.1 ≠ 0 ∧ r.1 ≠ 1) ∧ v = zI 0 ∧ ∃ M' : mcR, mcW w' b1 b2 ((mc, fa, ca, ta), (t, tc, tn, th, tz), (rp, ri, ra, rn), (ty, C), (mo, I, bk, bc)) M' ∧ M'.1.1.2.length ≤ 320 ∧ tmR M'.2.2.2.2.2.1.1 M'.2.2.2.2.2.1.2.1 M'.2.2.2.2.2.1.2.2 tm))) ∧ mcF rp w w') 17 [some (zR mc), some (zR md0), some (zR rp), some (zI (tm.length : Int)), some (zI (q : Int)), o5] [] w2 := by
    intro r Fs2 w2 p2 q o5 n hF32 hq hr ht2 hW2 hF2
    obtain ⟨k, ⟨⟨fr2, cls2, V2, ch2, T2⟩, ⟨cur2, pl2, den2, fl2⟩, tm2, ⟨na2, ns2, nc2, dp2⟩, nt2⟩⟩ := r
    obtain ⟨t2, ht2⟩ := ht2
    have ht2 : tm2 = tm ++ t2 := ht2
    match k, hW2, hr with
    | 0, hW2, hr =>
      have hW2 : msW w2 b1 b2 ((mc, fa, ca, ta), (t, tc, tn, th, tz), (rp, ri, ra, rn), (ty, C), (mo, I, bk, bc)) R Fs2 (1, 0, 101) ((fr2, cls2, V2, ch2, T2), (cur2, p2, den2, fl2), tm2, (na2, ns2, nc2, dp2), nt2) := hW2
      obtain ⟨cap2, fm2, cc2, CH2, ct2, TR2, us2, cu2, pl2, de2, fl2, N2, H2, Sz2, A2, Nt2, sc2, nc2, dp2, hM2, hS2⟩ := id hW2
      obtain ⟨⟨hus2, hfl2, hJ2, hcn2, hFS2⟩, ⟨hcu2, hcuL2, hpl2, hde2, hdeL2, hfb2⟩, ⟨hCH2, hchL2⟩, ⟨hTR2, hTL2⟩, htm2, ⟨hA2, hsc2, hnc2, hdp2, hNt2⟩⟩ := id hS2
      subst hus2 hcu2 hpl2 hde2 hfb2 hCH2 hTR2 hsc2 hnc2 hdp2 hNt2
      obtain ⟨hmc2, hfa2, ⟨hca2, okC2⟩, ⟨hta2, okT2⟩, hFr2, ⟨ht02, ⟨htc2, okTC2⟩, ⟨htn2, okN2⟩, ⟨hth2, okH2⟩, htz2, hSz2⟩, ⟨hrp2, ⟨hri2, okI2⟩, ⟨hra2, okA2⟩, ⟨hrn2, okNt2⟩⟩, hcap2, hcct2, hrm12, hrm22⟩ := id hM2
      refine zx_iload (i := 4) dX4_run_17 rfl ?_
      refine zx_ldc (v := 1000000) dX4_run_19 zk_X4_48 (by decide +kernel) (z32_lit (by decide) (by decide)) ?_
      refine zx_icmp_ge (tgt := 128) dX4_run_21 (by decide) (fun h21 => absurd h21 (by omega)) (fun h21 => ?_)
      refine zx_aload_n (i := 0) dX4_run_24 rfl rfl ?_
      refine zx_getfield dX4_run_25 zf_X4_49 hmc2 rfl ?_
      refine zx_if_ne (tgt := 128) dX4_run_28 (by decide) (fun h28 => ?_) (fun h28 => absurd (by decide) h28)
      refine zx_aload_n (i := 0) dX4_run_128 rfl rfl ?_
      refine zx_getfield dX4_run_129 zf_X4_100 hmc2 rfl ?_
      refine zx_if_eq (tgt := 143) dX4_run_132 (by decide) (fun h132 => ?_) (fun h132 => absurd (by decide) h132)
      refine zx_aload_n (i := 0) dX4_run_143 rfl rfl ?_
      refine zx_getfield dX4_run_144 zf_X4_100 hmc2 rfl ?_
      refine zx_pc (pc1 := 147) rfl ?_
      refine zx_if_ne (tgt := 154) dX4_run_147 (by decide) (fun h147 => absurd h147 (by decide)) (fun h147 => ?_)
      refine zx_iconst (v := 1) dX4_run_150 rfl (z32_lit (by decide) (by decide)) ?_
      refine zx_goto (tgt := 155) dX4_run_151 (by decide) ?_
      refine zx_zret dX4_run_155 rfl (by first | exact Or.inl rfl | exact Or.inr rfl | exact zB_or | assumption) ?_
      exact ⟨_, rfl, ⟨n, (0, ((fr2, cls2, V2, ch2, T2), (cur2, pl2, den2, fl2), tm2, (na2, ns2, nc2, dp2), nt2)), Fs2, p2, hr, hF32, Or.inl ⟨Or.inl rfl, rfl, hW2⟩⟩, hF2⟩
    | k + 1, hW2, hr =>
      match k, hW2, hr with
      | 0, hW2, hr =>
        have hW2 : msW w2 b1 b2 ((mc, fa, ca, ta), (t, tc, tn, th, tz), (rp, ri, ra, rn), (ty, C), (mo, I, bk, bc)) R Fs2 (1, 0, 108) ((fr2, cls2, V2, ch2, T2), (cur2, p2, den2, fl2), tm2, (na2, ns2, nc2, dp2), nt2) := hW2
        obtain ⟨cap2, fm2, cc2, CH2, ct2, TR2, us2, cu2, pl2, de2, fl2, N2, H2, Sz2, A2, Nt2, sc2, nc2, dp2, hM2, hS2⟩ := id hW2
        obtain ⟨⟨hus2, hfl2, hJ2, hcn2, hFS2⟩, ⟨hcu2, hcuL2, hpl2, hde2, hdeL2, hfb2⟩, ⟨hCH2, hchL2⟩, ⟨hTR2, hTL2⟩, htm2, ⟨hA2, hsc2, hnc2, hdp2, hNt2⟩⟩ := id hS2
        subst hus2 hcu2 hpl2 hde2 hfb2 hCH2 hTR2 hsc2 hnc2 hdp2 hNt2
        obtain ⟨hmc2, hfa2, ⟨hca2, okC2⟩, ⟨hta2, okT2⟩, hFr2, ⟨ht02, ⟨htc2, okTC2⟩, ⟨htn2, okN2⟩, ⟨hth2, okH2⟩, htz2, hSz2⟩, ⟨hrp2, ⟨hri2, okI2⟩, ⟨hra2, okA2⟩, ⟨hrn2, okNt2⟩⟩, hcap2, hcct2, hrm12, hrm22⟩ := id hM2
        refine zx_iload (i := 4) dX4_run_17 rfl ?_
        refine zx_ldc (v := 1000000) dX4_run_19 zk_X4_48 (by decide +kernel) (z32_lit (by decide) (by decide)) ?_
        refine zx_icmp_ge (tgt := 128) dX4_run_21 (by decide) (fun h21 => absurd h21 (by omega)) (fun h21 => ?_)
        refine zx_aload_n (i := 0) dX4_run_24 rfl rfl ?_
        refine zx_getfield dX4_run_25 zf_X4_49 hmc2 rfl ?_
        refine zx_if_ne (tgt := 128) dX4_run_28 (by decide) (fun h28 => ?_) (fun h28 => absurd (by decide) h28)
        refine zx_aload_n (i := 0) dX4_run_128 rfl rfl ?_
        refine zx_getfield dX4_run_129 zf_X4_100 hmc2 rfl ?_
        refine zx_if_eq (tgt := 143) dX4_run_132 (by decide) (fun h132 => ?_) (fun h132 => absurd (by decide) h132)
        refine zx_aload_n (i := 0) dX4_run_143 rfl rfl ?_
        refine zx_getfield dX4_run_144 zf_X4_100 hmc2 rfl ?_
        refine zx_pc (pc1 := 147) rfl ?_
        refine zx_if_ne (tgt := 154) dX4_run_147 (by decide) (fun h147 => absurd h147 (by decide)) (fun h147 => ?_)
        refine zx_iconst (v := 1) dX4_run_150 rfl (z32_lit (by decide) (by decide)) ?_
        refine zx_goto (tgt := 155) dX4_run_151 (by decide) ?_
        refine zx_zret dX4_run_155 rfl (by first | exact Or.inl rfl | exact Or.inr rfl | exact zB_or | assumption) ?_
        exact ⟨_, rfl, ⟨n, (1, ((fr2, cls2, V2, ch2, T2), (cur2, pl2, den2, fl2), tm2, (na2, ns2, nc2, dp2), nt2)), Fs2, p2, hr, hF32, Or.inl ⟨Or.inr rfl, rfl, hW2⟩⟩, hF2⟩
      | k + 1, hW2, hr =>
        have hW2 : msW w2 b1 b2 ((mc, fa, ca, ta), (t, tc, tn, th, tz), (rp, ri, ra, rn), (ty, C), (mo, I, bk, bc)) R Fs2 (1, 1, 101) ((fr2, cls2, V2, ch2, T2), (cur2, p2, den2, fl2), tm2, (na2, ns2, nc2, dp2), nt2) := hW2
        obtain ⟨cap2, fm2, cc2, CH2, ct2, TR2, us2, cu2, pl2, de2, fl2, N2, H2, Sz2, A2, Nt2, sc2, nc2, dp2, hM2, hS2⟩ := id hW2
        obtain ⟨⟨hus2, hfl2, hJ2, hcn2, hFS2⟩, ⟨hcu2, hcuL2, hpl2, hde2, hdeL2, hfb2⟩, ⟨hCH2, hchL2⟩, ⟨hTR2, hTL2⟩, htm2, ⟨hA2, hsc2, hnc2, hdp2, hNt2⟩⟩ := id hS2
        subst hus2 hcu2 hpl2 hde2 hfb2 hCH2 hTR2 hsc2 hnc2 hdp2 hNt2
        obtain ⟨hmc2, hfa2, ⟨hca2, okC2⟩, ⟨hta2, okT2⟩, hFr2, ⟨ht02, ⟨htc2, okTC2⟩, ⟨htn2, okN2⟩, ⟨hth2, okH2⟩, htz2, hSz2⟩, ⟨hrp2, ⟨hri2, okI2⟩, ⟨hra2, okA2⟩, ⟨hrn2, okNt2⟩⟩, hcap2, hcct2, hrm12, hrm22⟩ := id hM2
        have ht2 : tm2 = tm ++ t2 := ht2
        have hNl2 := htm2.2.1
        have htl2 := htm2.2.2.2.1
        have hcl : tm.length ≤ tm2.length := by rw [ht2, List.length_append]; omega
        have hfg := tm_forget (cnt := tm.length) N2.length N2 H2 tm2 htm2 rfl hcl
        have htk : tm2.take tm.length = tm := by rw [ht2, List.take_left]
        rw [htk] at hfg
        have okN9 : tOk 4 (tmFg (tm.length : Int) N2.length N2 H2).1 := (tmFg_ok N2.length N2 H2 okN2 okH2).1
        have okH9 : tOk 1 (tmFg (tm.length : Int) N2.length N2 H2).2 := (tmFg_ok N2.length N2 H2 okN2 okH2).2
        refine zx_iload (i := 4) dX4_run_17 rfl ?_
        refine zx_ldc (v := 1000000) dX4_run_19 zk_X4_48 (by decide +kernel) (z32_lit (by decide) (by decide)) ?_
        refine zx_icmp_ge (tgt := 128) dX4_run_21 (by decide) (fun h21 => absurd h21 (by omega)) (fun h21 => ?_)
        refine zx_aload_n (i := 0) dX4_run_24 rfl rfl ?_
        refine zx_getfield dX4_run_25 zf_X4_49 hmc2 rfl ?_
        refine zx_if_ne (tgt := 128) dX4_run_28 (by decide) (fun h28 => ?_) (fun h28 => absurd (by decide) h28)
        refine zx_aload_n (i := 0) dX4_run_128 rfl rfl ?_
        refine zx_getfield dX4_run_129 zf_X4_100 hmc2 rfl ?_
        refine zx_if_eq (tgt := 143) dX4_run_132 (by decide) (fun h132 => absurd h132 (by decide)) (fun h132 => ?_)
        refine zx_aload_n (i := 0) dX4_run_135 rfl rfl ?_
        refine zx_getfield dX4_run_136 zf_X4_9 hmc2 rfl ?_
        refine zx_pc (pc1 := 139) rfl ?_
        refine zx_iload_n (i := 3) dX4_run_139 rfl rfl ?_
        obtain ⟨w_1, hw_2⟩ : ∃ ww, ww = zput w2 tn (131, t, tTb 4 800 (tmFg (tm.length : Int) N2.length N2 H2).1) := ⟨_, rfl⟩
        have q_3 : w_1.2.1 = w2.2.1 ∧ w_1.2.2 = w2.2.2 := by rw [hw_2]; exact ⟨rfl, rfl⟩
        have h_4 : w_1.1 tn = some (131, t, tTb 4 800 (tmFg (tm.length : Int) N2.length N2 H2).1) := by rw [hw_2]; exact zput_at
        have h_5 : w_1.1 th = some (132, t, tTb 1 64 H2) := by
          rw [hw_2]; exact zput_tg htn2 hth2 (by simp)
        obtain ⟨w_6, hw_7⟩ : ∃ ww, ww = zput w_1 th (132, t, tTb 1 64 (tmFg (tm.length : Int) N2.length N2 H2).2) := ⟨_, rfl⟩
        have q_8 : w_6.2.1 = w_1.2.1 ∧ w_6.2.2 = w_1.2.2 := by rw [hw_7]; exact ⟨rfl, rfl⟩
        have h_9 : w_6.1 th = some (132, t, tTb 1 64 (tmFg (tm.length : Int) N2.length N2 H2).2) := by rw [hw_7]; exact zput_at
        refine zx_iv (b := t) (As := [zI (tm.length : Int)]) (st := []) (v := none) (w1 := w_6) dX4_run_140 zc_X4_103 ht02 rfl rfl rfl (Nat.le_of_ble_eq_true rfl) rfl (by rw [hw_7]; rw [hw_2]; exact (c_X10_forgetFrom ⟨ht02, ⟨htc2, okTC2⟩, ⟨htn2, okN2⟩, ⟨hth2, okH2⟩, htz2, hSz2⟩ (tm.length : Int) (by omega))) ?_
        refine zx_st (st1 := []) rfl ?_
        refine zx_aload_n (i := 0) dX4_run_143 rfl rfl ?_
        have h_10 : w_1.1 mc = some (4, 0, [zR t, zR fa, zR ca, zR ta, zR rp, zI (fr2.length : Int), zP (oA Fs2 cur2), zI (p2 : Int), zP (oA Fs2 den2), zI (if fl2 = true then 1 else 0), zI 1, zI 1]) := by
          rw [hw_2]; exact zput_tg htn2 hmc2 (by simp)
        have h_11 : w_6.1 mc = some (4, 0, [zR t, zR fa, zR ca, zR ta, zR rp, zI (fr2.length : Int), zP (oA Fs2 cur2), zI (p2 : Int), zP (oA Fs2 den2), zI (if fl2 = true then 1 else 0), zI 1, zI 1]) := by
          rw [hw_7]; exact zput_tg h_5 h_10 (by simp)
        refine zx_getfield dX4_run_144 zf_X4_100 h_11 rfl ?_
        refine zx_if_ne (tgt := 154) dX4_run_147 (by decide) (fun h147 => ?_) (fun h147 => absurd (by decide) h147)
        refine zx_iconst (v := 0) dX4_run_154 rfl (z32_lit (by decide) (by decide)) ?_
        refine zx_zret dX4_run_155 rfl (by first | exact Or.inl rfl | exact Or.inr rfl | exact zB_or | assumption) ?_
        have hfaL9 : zFa [tn, th] w2 w_6 := (zFa_put (zFa_put zFa_re (by simp) hw_2) (by simp) hw_7)
        have hFrr9 := fm_keep hFr2 hfaL9 (zLc htn2 (by simp) (zLc hth2 (by simp) zLn))
        have hmcF9 : mcF rp w2 w_6 := mcF_fa hfaL9 (zLc htn2 (by simp [mcP]) (zLc hth2 (by simp [mcP]) zLn))
        have h_12 : w_1.1 fa = some (166, mc, zLs cap2 Fs2) := by
          rw [hw_2]; exact zput_tg htn2 hfa2 (by simp)
        have h_13 : w_6.1 fa = some (166, mc, zLs cap2 Fs2) := by
          rw [hw_7]; exact zput_tg h_5 h_12 (by simp)
        have h_14 : w_1.1 ca = some (138, mc, tTb 3 cc2 (ch2.reverse.map (fun e => [(e.1 : Int), (e.2.1 : Int), (e.2.2 : Int)]))) := by
          rw [hw_2]; exact zput_tg htn2 hca2 (by simp)
        have h_15 : w_6.1 ca = some (138, mc, tTb 3 cc2 (ch2.reverse.map (fun e => [(e.1 : Int), (e.2.1 : Int), (e.2.2 : Int)]))) := by
          rw [hw_7]; exact zput_tg h_5 h_14 (by simp)
        have h_16 : w_1.1 ta = some (139, mc, tTb 2 ct2 (T2.reverse.map (fun e => [(e.1 : Int), (e.2 : Int)]))) := by
          rw [hw_2]; exact zput_tg htn2 hta2 (by simp)
        have h_17 : w_6.1 ta = some (139, mc, tTb 2 ct2 (T2.reverse.map (fun e => [(e.1 : Int), (e.2 : Int)]))) := by
          rw [hw_7]; exact zput_tg h_5 h_16 (by simp)
        have h_18 : w_1.1 t = some (10, 0, [zI ty, zR tc, zR tn, zR th, zR tz]) := by
          rw [hw_2]; exact zput_tg htn2 ht02 (by simp)
        have h_19 : w_6.1 t = some (10, 0, [zI ty, zR tc, zR tn, zR th, zR tz]) := by
          rw [hw_7]; exact zput_tg h_5 h_18 (by simp)
        have h_20 : w_1.1 tc = some (130, t, tTb 3 30 C) := by
          rw [hw_2]; exact zput_tg htn2 htc2 (by simp)
        have h_21 : w_6.1 tc = some (130, t, tTb 3 30 C) := by
          rw [hw_7]; exact zput_tg h_5 h_20 (by simp)
        have h_22 : w_6.1 tn = some (131, t, tTb 4 800 (tmFg (tm.length : Int) N2.length N2 H2).1) := by
          rw [hw_7]; exact zput_tg h_5 h_4 (by simp)
        have h_23 : w_1.1 tz = some (120, t, Sz2.map zJ) := by
          rw [hw_2]; exact zput_tg htn2 htz2 (by simp)
        have h_24 : w_6.1 tz = some (120, t, Sz2.map zJ) := by
          rw [hw_7]; exact zput_tg h_5 h_23 (by simp)
        have h_25 : w_1.1 rp = some (8, 0, [zP mo, zR ri, zR ra, zR rn, zI (ns2 : Int), zI (nc2 : Int), zI (dp2 : Int), zI 101, zI bk, zI bc]) := by
          rw [hw_2]; exact zput_tg htn2 hrp2 (by simp)
        have h_26 : w_6.1 rp = some (8, 0, [zP mo, zR ri, zR ra, zR rn, zI (ns2 : Int), zI (nc2 : Int), zI (dp2 : Int), zI 101, zI bk, zI bc]) := by
          rw [hw_7]; exact zput_tg h_5 h_25 (by simp)
        have h_27 : w_1.1 ri = some (135, rp, tTb 1 3 I) := by
          rw [hw_2]; exact zput_tg htn2 hri2 (by simp)
        have h_28 : w_6.1 ri = some (135, rp, tTb 1 3 I) := by
          rw [hw_7]; exact zput_tg h_5 h_27 (by simp)
        have h_29 : w_1.1 ra = some (136, rp, tTb 3 150 A2) := by
          rw [hw_2]; exact zput_tg htn2 hra2 (by simp)
        have h_30 : w_6.1 ra = some (136, rp, tTb 3 150 A2) := by
          rw [hw_7]; exact zput_tg h_5 h_29 (by simp)
        have h_31 : w_1.1 rn = some (137, rp, tTb 2 160 (nt2.map (fun e => [(e.1 : Int), (e.2 : Int)]))) := by
          rw [hw_2]; exact zput_tg htn2 hrn2 (by simp)
        have h_32 : w_6.1 rn = some (137, rp, tTb 2 160 (nt2.map (fun e => [(e.1 : Int), (e.2 : Int)]))) := by
          rw [hw_7]; exact zput_tg h_5 h_31 (by simp)
        have hM9 : mcW w_6 b1 b2 ((mc, fa, ca, ta), (t, tc, tn, th, tz), (rp, ri, ra, rn), (ty, C), (mo, I, bk, bc)) (((cap2, Fs2), fm2), (cc2, (ch2.reverse.map (fun e => [(e.1 : Int), (e.2.1 : Int), (e.2.2 : Int)]))), (ct2, (T2.reverse.map (fun e => [(e.1 : Int), (e.2 : Int)]))), ((fr2.length : Int), (oA Fs2 cur2), (p2 : Int), (oA Fs2 den2)), ((if fl2 = true then 1 else 0), 1, 1), ((tmFg (tm.length : Int) N2.length N2 H2).1, (tmFg (tm.length : Int) N2.length N2 H2).2, Sz2), (A2, (nt2.map (fun e => [(e.1 : Int), (e.2 : Int)])), (ns2 : Int), (nc2 : Int), (dp2 : Int), 101)) := ⟨h_11, h_13, ⟨h_15, okC2⟩, ⟨h_17, okT2⟩, hFrr9, ⟨h_19, ⟨h_21, okTC2⟩, ⟨h_22, okN9⟩, ⟨h_9, okH9⟩, h_24, hSz2⟩, ⟨h_26, ⟨h_28, okI2⟩, ⟨h_30, okA2⟩, ⟨h_32, okNt2⟩⟩, hcap2, ⟨by omega, by omega, by omega, by omega⟩, by omega, by omega⟩
        exact ⟨_, rfl, ⟨n, (k + 2, ((fr2, cls2, V2, ch2, T2), (cur2, pl2, den2, fl2), tm2, (na2, ns2, nc2, dp2), nt2)), Fs2, p2, hr, hF32, Or.inr ⟨⟨by simp, by simp⟩, rfl, _, hM9, hF32, hfg⟩⟩, mcF_tr hF2 hmcF9⟩
  have loop : ∀ (x : Nat) (S : mmS) (Fs1 : List Nat) (w1 : zW) (q : Nat) (o5 : Option zV), rN (pgC R) x S → (∃ Gh top lv an, mmIn (pgC R) Gd Gh top lv an S) → (∃ t, mmTm S = tm ++ t) → Fs1.length ≤ 320 → q + x + 1 < 1000000 → (∀ n r, mmRun (pgC R) n S = some r → ∃ n', mmRun (pgC R) n' (mmStart (pgC R) tm (p, m) o) = some r) → msW w1 b1 b2 ((mc, fa, ca, ta), (t, tc, tn, th, tz), (rp, ri, ra, rn), (ty, C), (mo, I, bk, bc)) R Fs1 (0, 0, 101) S → mcF rp w w1 → zX G zm_X4_run (d + 9) [zR mc, zR md0, zR rp] w (zVal fun v w' => (∃ (n : Nat) (r : Nat × mmS) (Fs2 : List Nat) (p' : Nat), mmRun (pgC R) n (mmStart (pgC R) tm (p, m) o) = some r ∧ Fs2.length ≤ 320 ∧ (((r.1 = 0 ∨ r.1 = 1) ∧ v = zI 1 ∧ msW w' b1 b2 ((mc, fa, ca, ta), (t, tc, tn, th, tz), (rp, ri, ra, rn), (ty, C), (mo, I, bk, bc)) R Fs2 (1, 0, if r.1 = 0 then 101 else 108) (msPl r.2 p')) ∨ ((r.1 ≠ 0 ∧ r.1 ≠ 1) ∧ v = zI 0 ∧ ∃ M' : mcR, mcW w' b1 b2 ((mc, fa, ca, ta), (t, tc, tn, th, tz), (rp, ri, ra, rn), (ty, C), (mo, I, bk, bc)) M' ∧ M'.1.1.2.length ≤ 320 ∧ tmR M'.2.2.2.2.2.1.1 M'.2.2.2.2.2.1.2.1 M'.2.2.2.2.2.1.2.2 tm))) ∧ mcF rp w w') 17 [some (zR mc), some (zR md0), some (zR rp), some (zI (tm.length : Int)), some (zI (q : Int)), o5] [] w1 := by
    intro x
    induction x using Nat.strongRecOn with
    | ind x ih =>
    intro S Fs1 w1 q o5 hR hIx htmS hF31 hqx hrun hW1 hF1
    obtain ⟨⟨fr, cls, V, ch, T⟩, ⟨cur, pl0, den, flb⟩, tm1, ⟨na, ns, nc0, dp0⟩, nt⟩ := S
    obtain ⟨Gh, top, lv, an, hI⟩ := hIx
    have hP1 : pgW w1 pg R := pgW_TM hP (mcF_fr hF1)
    obtain ⟨n0, hdl, hph, hT3, hfl4, hns5, hch6, hnc7, h8, hpl9, hch10, hcu11⟩ := id hR
    have hpop := in_pop hI
    cases flb with
    | true =>
      have hst : mmStep (pgC R) ((fr, cls, V, ch, T), (cur, pl0, den, true), tm1, (na, ns, nc0, dp0), nt) = mmBack (pgC R) ((fr, cls, V, ch, T), (cur, pl0, den, true), tm1, (na, ns, nc0, dp0), nt) := rfl
      have hpop := in_pop hI
      obtain ⟨cap1, fm1, cc1, CH1, ct1, TR1, us1, cu1, pl1, de1, fl1, N1, H1, Sz1, A1, Nt1, sc1, nc1, dp1, hM1, hS1⟩ := id hW1
      obtain ⟨⟨hus1, hfl1, hJ1, hcn1, hFS1⟩, ⟨hcu1, hcuL1, hpl1, hde1, hdeL1, hfb1⟩, ⟨hCH1, hchL1⟩, ⟨hTR1, hTL1⟩, htm1, ⟨hA1, hsc1, hnc1, hdp1, hNt1⟩⟩ := id hS1
      subst hus1 hcu1 hpl1 hde1 hfb1 hCH1 hTR1 hsc1 hnc1 hdp1 hNt1
      obtain ⟨hmc1, hfa1, ⟨hca1, okC1⟩, ⟨hta1, okT1⟩, hFr1, ⟨ht01, ⟨htc1, okTC1⟩, ⟨htn1, okN1⟩, ⟨hth1, okH1⟩, htz1, hSz1⟩, ⟨hrp1, ⟨hri1, okI1⟩, ⟨hra1, okA1⟩, ⟨hrn1, okNt1⟩⟩, hcap1, hcct1, hrm11, hrm21⟩ := id hM1
      cases hb : mmBack (pgC R) ((fr, cls, V, ch, T), (cur, pl0, den, true), tm1, (na, ns, nc0, dp0), nt) with
      | inl S' =>
          refine zx_iload (i := 4) dX4_run_17 rfl ?_
          refine zx_ldc (v := 1000000) dX4_run_19 zk_X4_48 (by decide +kernel) (z32_lit (by decide) (by decide)) ?_
          refine zx_icmp_ge (tgt := 128) dX4_run_21 (by decide) (fun h21 => absurd h21 (by omega)) (fun h21 => ?_)
          refine zx_aload_n (i := 0) dX4_run_24 rfl rfl ?_
          refine zx_getfield dX4_run_25 zf_X4_49 hmc1 rfl ?_
          refine zx_if_ne (tgt := 128) dX4_run_28 (by decide) (fun h28 => absurd h28 (by decide)) (fun h28 => ?_)
          refine zx_aload_n (i := 0) dX4_run_31 rfl rfl ?_
          refine zx_getfield dX4_run_32 zf_X4_53 hmc1 rfl ?_
          refine zx_astore (i := 5) dX4_run_35 (by decide) rfl ?_
          refine zx_L (L1 := [some (zR mc), some (zR md0), some (zR rp), some (zI (tm.length : Int)), some (zI (q : Int)), some (zP (oA Fs1 cur))]) rfl ?_
          refine zx_aload_n (i := 0) dX4_run_37 rfl rfl ?_
          refine zx_getfield dX4_run_38 zf_X4_57 hmc1 rfl ?_
          refine zx_pc (pc1 := 41) rfl ?_
          refine zx_if_ne (tgt := 57) dX4_run_41 (by decide) (fun h41 => ?_) (fun h41 => absurd (by decide) h41)
          refine zx_aload_n (i := 0) dX4_run_57 rfl rfl ?_
          refine zx_ivN (b := mc) (As := []) (st := []) dX4_run_58 zc_X4_66 hmc1 rfl rfl rfl (Nat.le_of_ble_eq_true rfl) rfl (s_goBack (G := G) (d := d + 3) hP1 hK hW1 hF31 (by omega) (by omega) (fun j hj => by have := (h8 j hj).2.2.1; omega) hpop) (fun w2 hq => ?_)
          obtain ⟨hW2, hF2⟩ := hq
          rw [hb] at hW2
          refine zx_goto (tgt := 122) dX4_run_61 (by decide) ?_
          refine zx_iinc (i := 4) (v := ((q + 1 : Nat) : Int)) dX4_run_122 rfl (zw_eq (by omega) (by omega) (by omega)) (by decide) rfl ?_
          refine zx_L (L1 := [some (zR mc), some (zR md0), some (zR rp), some (zI (tm.length : Int)), some (zI ((q + 1 : Nat) : Int)), some (zP (oA Fs1 cur))]) rfl ?_
          refine zx_goto (tgt := 17) dX4_run_125 (by decide) ?_
          have hx := rn_pos hR hpop hb
          exact ih (x - 1) (by omega) S' Fs1 w2 (q + 1) _ (rn_back hR hx hpop hb) (by have q2 := mm_step hF hI; rw [hst, hb] at q2; obtain ⟨G', top', lv', an', q3, -⟩ := q2; exact ⟨G', top', lv', an', q3⟩) (by obtain ⟨t, ht⟩ := htmS; exact ⟨t, by rw [← ht]; have := tm_back (C := pgC R) (S := ((fr, cls, V, ch, T), (cur, pl0, den, true), tm1, (na, ns, nc0, dp0), nt)); rw [hb] at this; exact this⟩) hF31 (by omega) (fun n r h => hrun (n + 1) r (mmRun_s (hst.trans hb) h)) hW2 (mcF_tr hF1 hF2)
      | inr r =>
          refine zx_iload (i := 4) dX4_run_17 rfl ?_
          refine zx_ldc (v := 1000000) dX4_run_19 zk_X4_48 (by decide +kernel) (z32_lit (by decide) (by decide)) ?_
          refine zx_icmp_ge (tgt := 128) dX4_run_21 (by decide) (fun h21 => absurd h21 (by omega)) (fun h21 => ?_)
          refine zx_aload_n (i := 0) dX4_run_24 rfl rfl ?_
          refine zx_getfield dX4_run_25 zf_X4_49 hmc1 rfl ?_
          refine zx_if_ne (tgt := 128) dX4_run_28 (by decide) (fun h28 => absurd h28 (by decide)) (fun h28 => ?_)
          refine zx_aload_n (i := 0) dX4_run_31 rfl rfl ?_
          refine zx_getfield dX4_run_32 zf_X4_53 hmc1 rfl ?_
          refine zx_astore (i := 5) dX4_run_35 (by decide) rfl ?_
          refine zx_L (L1 := [some (zR mc), some (zR md0), some (zR rp), some (zI (tm.length : Int)), some (zI (q : Int)), some (zP (oA Fs1 cur))]) rfl ?_
          refine zx_aload_n (i := 0) dX4_run_37 rfl rfl ?_
          refine zx_getfield dX4_run_38 zf_X4_57 hmc1 rfl ?_
          refine zx_pc (pc1 := 41) rfl ?_
          refine zx_if_ne (tgt := 57) dX4_run_41 (by decide) (fun h41 => ?_) (fun h41 => absurd (by decide) h41)
          refine zx_aload_n (i := 0) dX4_run_57 rfl rfl ?_
          refine zx_ivN (b := mc) (As := []) (st := []) dX4_run_58 zc_X4_66 hmc1 rfl rfl rfl (Nat.le_of_ble_eq_true rfl) rfl (s_goBack (G := G) (d := d + 3) hP1 hK hW1 hF31 (by omega) (by omega) (fun j hj => by have := (h8 j hj).2.2.1; omega) hpop) (fun w2 hq => ?_)
          obtain ⟨hW2, hF2⟩ := hq
          rw [hb] at hW2
          refine zx_goto (tgt := 122) dX4_run_61 (by decide) ?_
          refine zx_iinc (i := 4) (v := ((q + 1 : Nat) : Int)) dX4_run_122 rfl (zw_eq (by omega) (by omega) (by omega)) (by decide) rfl ?_
          refine zx_L (L1 := [some (zR mc), some (zR md0), some (zR rp), some (zI (tm.length : Int)), some (zI ((q + 1 : Nat) : Int)), some (zP (oA Fs1 cur))]) rfl ?_
          refine zx_goto (tgt := 17) dX4_run_125 (by decide) ?_
          obtain ⟨hW2, e0⟩ := hW2
          obtain ⟨n, hn⟩ := hrun 1 r (mmRun_e (hst.trans hb))
          exact fin r Fs1 w2 r.2.2.1.2.1 (q + 1) _ n hF31 (by omega) hn (by obtain ⟨t, ht⟩ := htmS; exact ⟨t, by rw [← ht]; have := tm_back (C := pgC R) (S := ((fr, cls, V, ch, T), (cur, pl0, den, true), tm1, (na, ns, nc0, dp0), nt)); rw [hb] at this; exact this⟩) (by rw [if_pos e0]; exact hW2) (mcF_tr hF1 hF2)
    | false =>
      obtain ⟨i, c, -, e2, hac, -⟩ := hI.2.2.2.2.2 rfl
      subst e2
      have hci : cls i = some c := hac.2.2.1
      have hif : i < fr.length := hcu11 i rfl
      have hle := in_leave hI
      obtain ⟨yi, hyi⟩ : ∃ y, Fs1[i]? = some y := ⟨_, List.getElem?_eq_getElem (by
        obtain ⟨_, _, _, _, _, _, _, _, _, _, _, _, _, _, _, _, _, _, _, -, hS⟩ := id hW1
        have := hS.1.2.1
        omega)⟩
      have hph2 : 386 * (300 - ns) + 32 * mCh (pgC R) fr ch + 32 * n0 + ((mmf fr i).2.1.2.2 + 1) ≤ x := hph
      obtain ⟨cap1, fm1, cc1, CH1, ct1, TR1, us1, cu1, pl1, de1, fl1, N1, H1, Sz1, A1, Nt1, sc1, nc1, dp1, hM1, hS1⟩ := id hW1
      obtain ⟨⟨hus1, hfl1, hJ1, hcn1, hFS1⟩, ⟨hcu1, hcuL1, hpl1, hde1, hdeL1, hfb1⟩, ⟨hCH1, hchL1⟩, ⟨hTR1, hTL1⟩, htm1, ⟨hA1, hsc1, hnc1, hdp1, hNt1⟩⟩ := id hS1
      subst hus1 hcu1 hpl1 hde1 hfb1 hCH1 hTR1 hsc1 hnc1 hdp1 hNt1
      obtain ⟨hmc1, hfa1, ⟨hca1, okC1⟩, ⟨hta1, okT1⟩, hFr1, ⟨ht01, ⟨htc1, okTC1⟩, ⟨htn1, okN1⟩, ⟨hth1, okH1⟩, htz1, hSz1⟩, ⟨hrp1, ⟨hri1, okI1⟩, ⟨hra1, okA1⟩, ⟨hrn1, okNt1⟩⟩, hcap1, hcct1, hrm11, hrm21⟩ := id hM1
      obtain ⟨⟨⟨va_i, md_i⟩, ⟨fca_i, fbt_i, fdp_i⟩, ⟨fcl_i, fdn_i, fod_i, fcb_i⟩, xs_i⟩, efm_i⟩ : ∃ r, fm1 yi = r := ⟨_, rfl⟩
      obtain ⟨hfy_i, hva_i, hx_i⟩ := hFr1 i yi hyi
      rw [efm_i] at hfy_i hva_i hx_i
      have hx_i : xs_i.length = 8 := hx_i
      obtain ⟨hmd_i, ⟨hcb1_i, hcb2_i⟩, ⟨hcb3_i, hcb4_i, hcb5_i⟩, ⟨-, hxv_i⟩, hdq_i⟩ := hFS1 i yi hif hyi
      rw [efm_i] at hmd_i hcb1_i hcb3_i hxv_i
      simp only [Prod.mk.injEq] at hcb1_i hcb3_i
      obtain ⟨ea1_i, ea2_i, ea3_i⟩ := hcb1_i
      obtain ⟨eb1_i, eb2_i, eb3_i, eb4_i⟩ := hcb3_i
      subst ea1_i ea2_i ea3_i eb1_i eb2_i eb3_i eb4_i
      have hfy_i : w1.1 yi = some (2, 0, [zI (i : Int), zR va_i, zR md_i, zP (oA Fs1 (mmf fr i).2.1.1), zI ((mmf fr i).2.1.2.1 : Int), zI ((mmf fr i).2.1.2.2 : Int), zP ((cls i).bind (pgCl R)), zI (if (mmf fr i).2.2.1 = true then 1 else 0), zP (oA Fs1 (mmf fr i).2.2.2.1), zI ((mmf fr i).2.2.2.2 : Int)]) := hfy_i
      have hpa0 : pgCl R c ≠ none := hcb5_i c hci
      obtain ⟨a, hpa⟩ := Option.ne_none_iff_exists'.mp hpa0
      have efc : ((cls i).bind (pgCl R)) = some a := by rw [hci]; exact hpa
      rw [efc] at hfy_i
      have emc : oA Fs1 (some i) = some yi := hyi
      rw [emc] at hmc1
      obtain ⟨pr_i, ins_i, pm_i, lo_i, gd_i, cf_i, cr_i, sw_i, emr_i, hmo_i, hpp_i, hpn_i, hpm_i, hm2_i, hin_i, hsw_i, hsr_i, hmm_i⟩ := md_get hK hP1 hmd_i
      have hC1 := (hP1.2.2.2.2.2.2 a (List.mem_of_getElem? hpa)).1
      have hst0 : mmStep (pgC R) ((fr, cls, V, ch, T), ((some i), pl0, den, false), tm1, (na, ns, nc0, dp0), nt) = match ((pgC R).2.1.2 (mmf fr i).1.2 c)[pl0]? with
        | none => mmLeave (pgC R) i ((fr, cls, V, ch, T), ((some i), pl0, den, false), tm1, (na, ns, nc0, dp0), nt)
        | some e => mmGoal (pgC R) i e ((fr, cls, V, ch, T), ((some i), pl0, den, false), tm1, (na, ns, nc0, dp0), nt) := by
        unfold mmStep
        simp only [Option.bind_some, hci]
        cases ((pgC R).2.1.2 (mmf fr i).1.2 c)[pl0]? <;> rfl
      cases he : ((pgC R).2.1.2 (mmf fr i).1.2 c)[pl0]? with
      | none =>
        have hst : mmStep (pgC R) ((fr, cls, V, ch, T), ((some i), pl0, den, false), tm1, (na, ns, nc0, dp0), nt) = mmLeave (pgC R) i ((fr, cls, V, ch, T), ((some i), pl0, den, false), tm1, (na, ns, nc0, dp0), nt) := by rw [hst0, he]
        have hpe := rd_end hK hpa hm2_i he
        have hcn3 : ∀ z, (mmf fr i).2.1.1 = some z → (mmBy (pgC R) fr cls i z).2.2.1 ≤ 3 := fun z hz => by
          obtain ⟨-, c1, e1, k1, k2, k3, k4, k5, k6⟩ := hle.1 z hz
          have hby : mmBy (pgC R) fr cls i z = e1.1 := by
            unfold mmBy
            rw [k1, List.getD_eq_getElem?_getD]
            show (((((pgC R).2.1.2 (mmf fr z).1.2 c1)[(mmf fr i).2.1.2.1]?)).getD _).1 = e1.1
            rw [k2]
            rfl
          rw [hby]
          have hgo := ((hF.2.2 _ k6).1 c1 k5).2.1 _ e1 k2
          rcases hgo with ⟨g1, -⟩ | ⟨g1, -⟩ | ⟨-, m', -, -, g3, -⟩
          · omega
          · omega
          · rw [g3]; exact hA3 _
        cases hb : mmLeave (pgC R) i ((fr, cls, V, ch, T), ((some i), pl0, den, false), tm1, (na, ns, nc0, dp0), nt) with
        | inl S' =>
              refine zx_iload (i := 4) dX4_run_17 rfl ?_
              refine zx_ldc (v := 1000000) dX4_run_19 zk_X4_48 (by decide +kernel) (z32_lit (by decide) (by decide)) ?_
              refine zx_icmp_ge (tgt := 128) dX4_run_21 (by decide) (fun h21 => absurd h21 (by omega)) (fun h21 => ?_)
              refine zx_aload_n (i := 0) dX4_run_24 rfl rfl ?_
              refine zx_getfield dX4_run_25 zf_X4_49 hmc1 rfl ?_
              refine zx_if_ne (tgt := 128) dX4_run_28 (by decide) (fun h28 => absurd h28 (by decide)) (fun h28 => ?_)
              refine zx_aload_n (i := 0) dX4_run_31 rfl rfl ?_
              refine zx_getfield dX4_run_32 zf_X4_53 hmc1 rfl ?_
              refine zx_astore (i := 5) dX4_run_35 (by decide) rfl ?_
              refine zx_L (L1 := [some (zR mc), some (zR md0), some (zR rp), some (zI (tm.length : Int)), some (zI (q : Int)), some (zR yi)]) rfl ?_
              refine zx_aload_n (i := 0) dX4_run_37 rfl rfl ?_
              refine zx_getfield dX4_run_38 zf_X4_57 hmc1 rfl ?_
              refine zx_pc (pc1 := 41) rfl ?_
              refine zx_if_ne (tgt := 57) dX4_run_41 (by decide) (fun h41 => absurd h41 (by decide)) (fun h41 => ?_)
              refine zx_aload (i := 5) dX4_run_44 rfl ?_
              refine zx_ifnull (tgt := 57) dX4_run_46 (by decide) (fun h => by cases h) (fun _ => ?_)
              refine zx_aload (i := 5) dX4_run_49 rfl ?_
              refine zx_getfield dX4_run_51 zf_X4_60 hfy_i rfl ?_
              refine zx_ifnonnull (tgt := 64) dX4_run_54 (by decide) (fun _ => ?_) (fun h => by cases h)
              refine zx_aload_n (i := 0) dX4_run_64 rfl rfl ?_
              refine zx_getfield dX4_run_65 zf_X4_69 hmc1 rfl ?_
              refine zx_aload (i := 5) dX4_run_68 rfl ?_
              refine zx_getfield dX4_run_70 zf_X4_60 hfy_i rfl ?_
              refine zx_aload (i := 5) dX4_run_73 rfl ?_
              refine zx_getfield dX4_run_75 zf_X4_73 hfy_i rfl ?_
              refine zx_pc (pc1 := 78) rfl ?_
              refine zx_getfield dX4_run_78 zf_X4_77 hmo_i rfl ?_
              refine zx_iv (b := a) (As := [zI ((mmf fr i).1.2 : Int)]) (st := [zI (pl0 : Int)]) (v := (some (zI (cln (R.2.2.2.2.2.1 a).2.2.2.2.1.1 ((mmf fr i).1.2 : Int))))) (w1 := w1) dX4_run_81 zc_X4_82 hC1.1 rfl rfl rfl (Nat.le_of_ble_eq_true rfl) rfl (c_X1_placeCount hC1 ((mmf fr i).1.2 : Int)) ?_
              refine zx_st (st1 := [zI (cln (R.2.2.2.2.2.1 a).2.2.2.2.1.1 ((mmf fr i).1.2 : Int)), zI (pl0 : Int)]) rfl ?_
              refine zx_icmp_lt (tgt := 96) dX4_run_84 (by decide) (fun h84 => absurd h84 (by omega)) (fun h84 => ?_)
              refine zx_aload_n (i := 0) dX4_run_87 rfl rfl ?_
              refine zx_aload (i := 5) dX4_run_88 rfl ?_
              refine zx_ivN (b := mc) (As := [zR yi]) (st := []) dX4_run_90 zc_X4_88 hmc1 rfl rfl rfl (Nat.le_of_ble_eq_true rfl) rfl (s_leave (G := G) (d := d + 2) hP1 hK hW1 hG1 hG2 hF31 (by omega) hif hyi (by have := (h8 i hif).2.2.1; omega) (fun z hz => by obtain ⟨-, c1, e1, k1, k2, -⟩ := hle.1 z hz; exact ⟨c1, e1, k1, k2⟩)) (fun w2 hq => ?_)
              obtain ⟨hW2, hF2⟩ := hq
              rw [hb] at hW2
              refine zx_goto (tgt := 122) dX4_run_93 (by decide) ?_
              refine zx_iinc (i := 4) (v := ((q + 1 : Nat) : Int)) dX4_run_122 rfl (zw_eq (by omega) (by omega) (by omega)) (by decide) rfl ?_
              refine zx_L (L1 := [some (zR mc), some (zR md0), some (zR rp), some (zI (tm.length : Int)), some (zI ((q + 1 : Nat) : Int)), some (zR yi)]) rfl ?_
              refine zx_goto (tgt := 17) dX4_run_125 (by decide) ?_
              exact ih (x - 1) (by omega) S' Fs1 w2 (q + 1) _ (rn_leave hR (by omega) (fun z1 z2 => hle.2 z1 z2) (fun z hz => (hle.1 z hz).1) hcn3 hb) (by have q2 := mm_step hF hI; rw [hst, hb] at q2; obtain ⟨G', top', lv', an', q3, -⟩ := q2; exact ⟨G', top', lv', an', q3⟩) (by obtain ⟨t, ht⟩ := htmS; exact ⟨t, by rw [← ht]; have := tm_leave (C := pgC R) (j := i) (S := ((fr, cls, V, ch, T), ((some i), pl0, den, false), tm1, (na, ns, nc0, dp0), nt)); rw [hb] at this; exact this⟩) hF31 (by omega) (fun n r h => hrun (n + 1) r (mmRun_s (hst.trans hb) h)) hW2 (mcF_tr hF1 hF2)
        | inr r =>
              refine zx_iload (i := 4) dX4_run_17 rfl ?_
              refine zx_ldc (v := 1000000) dX4_run_19 zk_X4_48 (by decide +kernel) (z32_lit (by decide) (by decide)) ?_
              refine zx_icmp_ge (tgt := 128) dX4_run_21 (by decide) (fun h21 => absurd h21 (by omega)) (fun h21 => ?_)
              refine zx_aload_n (i := 0) dX4_run_24 rfl rfl ?_
              refine zx_getfield dX4_run_25 zf_X4_49 hmc1 rfl ?_
              refine zx_if_ne (tgt := 128) dX4_run_28 (by decide) (fun h28 => absurd h28 (by decide)) (fun h28 => ?_)
              refine zx_aload_n (i := 0) dX4_run_31 rfl rfl ?_
              refine zx_getfield dX4_run_32 zf_X4_53 hmc1 rfl ?_
              refine zx_astore (i := 5) dX4_run_35 (by decide) rfl ?_
              refine zx_L (L1 := [some (zR mc), some (zR md0), some (zR rp), some (zI (tm.length : Int)), some (zI (q : Int)), some (zR yi)]) rfl ?_
              refine zx_aload_n (i := 0) dX4_run_37 rfl rfl ?_
              refine zx_getfield dX4_run_38 zf_X4_57 hmc1 rfl ?_
              refine zx_pc (pc1 := 41) rfl ?_
              refine zx_if_ne (tgt := 57) dX4_run_41 (by decide) (fun h41 => absurd h41 (by decide)) (fun h41 => ?_)
              refine zx_aload (i := 5) dX4_run_44 rfl ?_
              refine zx_ifnull (tgt := 57) dX4_run_46 (by decide) (fun h => by cases h) (fun _ => ?_)
              refine zx_aload (i := 5) dX4_run_49 rfl ?_
              refine zx_getfield dX4_run_51 zf_X4_60 hfy_i rfl ?_
              refine zx_ifnonnull (tgt := 64) dX4_run_54 (by decide) (fun _ => ?_) (fun h => by cases h)
              refine zx_aload_n (i := 0) dX4_run_64 rfl rfl ?_
              refine zx_getfield dX4_run_65 zf_X4_69 hmc1 rfl ?_
              refine zx_aload (i := 5) dX4_run_68 rfl ?_
              refine zx_getfield dX4_run_70 zf_X4_60 hfy_i rfl ?_
              refine zx_aload (i := 5) dX4_run_73 rfl ?_
              refine zx_getfield dX4_run_75 zf_X4_73 hfy_i rfl ?_
              refine zx_pc (pc1 := 78) rfl ?_
              refine zx_getfield dX4_run_78 zf_X4_77 hmo_i rfl ?_
              refine zx_iv (b := a) (As := [zI ((mmf fr i).1.2 : Int)]) (st := [zI (pl0 : Int)]) (v := (some (zI (cln (R.2.2.2.2.2.1 a).2.2.2.2.1.1 ((mmf fr i).1.2 : Int))))) (w1 := w1) dX4_run_81 zc_X4_82 hC1.1 rfl rfl rfl (Nat.le_of_ble_eq_true rfl) rfl (c_X1_placeCount hC1 ((mmf fr i).1.2 : Int)) ?_
              refine zx_st (st1 := [zI (cln (R.2.2.2.2.2.1 a).2.2.2.2.1.1 ((mmf fr i).1.2 : Int)), zI (pl0 : Int)]) rfl ?_
              refine zx_icmp_lt (tgt := 96) dX4_run_84 (by decide) (fun h84 => absurd h84 (by omega)) (fun h84 => ?_)
              refine zx_aload_n (i := 0) dX4_run_87 rfl rfl ?_
              refine zx_aload (i := 5) dX4_run_88 rfl ?_
              refine zx_ivN (b := mc) (As := [zR yi]) (st := []) dX4_run_90 zc_X4_88 hmc1 rfl rfl rfl (Nat.le_of_ble_eq_true rfl) rfl (s_leave (G := G) (d := d + 2) hP1 hK hW1 hG1 hG2 hF31 (by omega) hif hyi (by have := (h8 i hif).2.2.1; omega) (fun z hz => by obtain ⟨-, c1, e1, k1, k2, -⟩ := hle.1 z hz; exact ⟨c1, e1, k1, k2⟩)) (fun w2 hq => ?_)
              obtain ⟨hW2, hF2⟩ := hq
              rw [hb] at hW2
              refine zx_goto (tgt := 122) dX4_run_93 (by decide) ?_
              refine zx_iinc (i := 4) (v := ((q + 1 : Nat) : Int)) dX4_run_122 rfl (zw_eq (by omega) (by omega) (by omega)) (by decide) rfl ?_
              refine zx_L (L1 := [some (zR mc), some (zR md0), some (zR rp), some (zI (tm.length : Int)), some (zI ((q + 1 : Nat) : Int)), some (zR yi)]) rfl ?_
              refine zx_goto (tgt := 17) dX4_run_125 (by decide) ?_
              obtain ⟨hW2, e0⟩ := hW2
              obtain ⟨n, hn⟩ := hrun 1 r (mmRun_e (hst.trans hb))
              exact fin r Fs1 w2 r.2.2.1.2.1 (q + 1) _ n hF31 (by omega) hn (by obtain ⟨t, ht⟩ := htmS; exact ⟨t, by rw [← ht]; have := tm_leave (C := pgC R) (j := i) (S := ((fr, cls, V, ch, T), ((some i), pl0, den, false), tm1, (na, ns, nc0, dp0), nt)); rw [hb] at this; exact this⟩) (by rw [if_neg (by omega), if_pos e0]; exact hW2) (mcF_tr hF1 hF2)
      | some e =>
        have hst : mmStep (pgC R) ((fr, cls, V, ch, T), ((some i), pl0, den, false), tm1, (na, ns, nc0, dp0), nt) = mmGoal (pgC R) i e ((fr, cls, V, ch, T), ((some i), pl0, den, false), tm1, (na, ns, nc0, dp0), nt) := by rw [hst0, he]
        have hpl5 := hO (mmf fr i).1.2 c
        have hplt := (List.getElem?_eq_some_iff.mp he).1
        obtain ⟨g, hg0, hg1, hg2, hg3, hg4, hg5, -⟩ := rd_at hK hpa hm2_i he
        have hgW1 := (hP1.2.2.2.2.2.2 a (List.mem_of_getElem? hpa)).2 g hg2
        have hgo1 := in_goal hF hI hci he
        cases hb : mmGoal (pgC R) i e ((fr, cls, V, ch, T), ((some i), pl0, den, false), tm1, (na, ns, nc0, dp0), nt) with
        | inl S' =>
              refine zx_iload (i := 4) dX4_run_17 rfl ?_
              refine zx_ldc (v := 1000000) dX4_run_19 zk_X4_48 (by decide +kernel) (z32_lit (by decide) (by decide)) ?_
              refine zx_icmp_ge (tgt := 128) dX4_run_21 (by decide) (fun h21 => absurd h21 (by omega)) (fun h21 => ?_)
              refine zx_aload_n (i := 0) dX4_run_24 rfl rfl ?_
              refine zx_getfield dX4_run_25 zf_X4_49 hmc1 rfl ?_
              refine zx_if_ne (tgt := 128) dX4_run_28 (by decide) (fun h28 => absurd h28 (by decide)) (fun h28 => ?_)
              refine zx_aload_n (i := 0) dX4_run_31 rfl rfl ?_
              refine zx_getfield dX4_run_32 zf_X4_53 hmc1 rfl ?_
              refine zx_astore (i := 5) dX4_run_35 (by decide) rfl ?_
              refine zx_L (L1 := [some (zR mc), some (zR md0), some (zR rp), some (zI (tm.length : Int)), some (zI (q : Int)), some (zR yi)]) rfl ?_
              refine zx_aload_n (i := 0) dX4_run_37 rfl rfl ?_
              refine zx_getfield dX4_run_38 zf_X4_57 hmc1 rfl ?_
              refine zx_pc (pc1 := 41) rfl ?_
              refine zx_if_ne (tgt := 57) dX4_run_41 (by decide) (fun h41 => absurd h41 (by decide)) (fun h41 => ?_)
              refine zx_aload (i := 5) dX4_run_44 rfl ?_
              refine zx_ifnull (tgt := 57) dX4_run_46 (by decide) (fun h => by cases h) (fun _ => ?_)
              refine zx_aload (i := 5) dX4_run_49 rfl ?_
              refine zx_getfield dX4_run_51 zf_X4_60 hfy_i rfl ?_
              refine zx_ifnonnull (tgt := 64) dX4_run_54 (by decide) (fun _ => ?_) (fun h => by cases h)
              refine zx_aload_n (i := 0) dX4_run_64 rfl rfl ?_
              refine zx_getfield dX4_run_65 zf_X4_69 hmc1 rfl ?_
              refine zx_aload (i := 5) dX4_run_68 rfl ?_
              refine zx_getfield dX4_run_70 zf_X4_60 hfy_i rfl ?_
              refine zx_aload (i := 5) dX4_run_73 rfl ?_
              refine zx_getfield dX4_run_75 zf_X4_73 hfy_i rfl ?_
              refine zx_pc (pc1 := 78) rfl ?_
              refine zx_getfield dX4_run_78 zf_X4_77 hmo_i rfl ?_
              refine zx_iv (b := a) (As := [zI ((mmf fr i).1.2 : Int)]) (st := [zI (pl0 : Int)]) (v := (some (zI (cln (R.2.2.2.2.2.1 a).2.2.2.2.1.1 ((mmf fr i).1.2 : Int))))) (w1 := w1) dX4_run_81 zc_X4_82 hC1.1 rfl rfl rfl (Nat.le_of_ble_eq_true rfl) rfl (c_X1_placeCount hC1 ((mmf fr i).1.2 : Int)) ?_
              refine zx_st (st1 := [zI (cln (R.2.2.2.2.2.1 a).2.2.2.2.1.1 ((mmf fr i).1.2 : Int)), zI (pl0 : Int)]) rfl ?_
              refine zx_icmp_lt (tgt := 96) dX4_run_84 (by decide) (fun h84 => ?_) (fun h84 => absurd (by omega) h84)
              refine zx_aload_n (i := 0) dX4_run_96 rfl rfl ?_
              refine zx_aload (i := 5) dX4_run_97 rfl ?_
              refine zx_aload (i := 5) dX4_run_99 rfl ?_
              refine zx_getfield dX4_run_101 zf_X4_60 hfy_i rfl ?_
              refine zx_aload (i := 5) dX4_run_104 rfl ?_
              refine zx_getfield dX4_run_106 zf_X4_73 hfy_i rfl ?_
              refine zx_getfield dX4_run_109 zf_X4_77 hmo_i rfl ?_
              refine zx_aload_n (i := 0) dX4_run_112 rfl rfl ?_
              refine zx_getfield dX4_run_113 zf_X4_69 hmc1 rfl ?_
              refine zx_pc (pc1 := 116) rfl ?_
              refine zx_iv (b := a) (As := [zI ((mmf fr i).1.2 : Int), zI (pl0 : Int)]) (st := [zR yi, zR mc]) (v := (some (zR g))) (w1 := w1) dX4_run_116 zc_X4_92 hC1.1 rfl rfl rfl (Nat.le_of_ble_eq_true rfl) rfl (by have q := c_X1_goalIn (G := G) (d := d + 7) hC1 ((mmf fr i).1.2 : Int) (pl0 : Int); rw [if_pos hg0, hg1] at q; exact q) ?_
              refine zx_st (st1 := [zR g, zR yi, zR mc]) rfl ?_
              refine zx_ivN (b := mc) (As := [zR yi, zR g]) (st := []) dX4_run_119 zc_X4_96 hmc1 rfl rfl rfl (Nat.le_of_ble_eq_true rfl) rfl (s_beginGoal hP1 hK hC hW1 hG1 hG2 hF31 (by omega) (by omega) (by omega) (by omega) (by omega) hif hyi hci hpa he hgW1 hg3 hg4 (fun hk z hz s hs => hgo1.1 z hz hk s hs) hgo1.2) (fun w2 hq => ?_)
              obtain ⟨⟨Fs2, hF32, hW2⟩, hF2⟩ := hq
              rw [hb] at hW2
              refine zx_iinc (i := 4) (v := ((q + 1 : Nat) : Int)) dX4_run_122 rfl (zw_eq (by omega) (by omega) (by omega)) (by decide) rfl ?_
              refine zx_L (L1 := [some (zR mc), some (zR md0), some (zR rp), some (zI (tm.length : Int)), some (zI ((q + 1 : Nat) : Int)), some (zR yi)]) rfl ?_
              refine zx_goto (tgt := 17) dX4_run_125 (by decide) ?_
              exact ih (x - 1) (by omega) S' Fs2 w2 (q + 1) _ (rn_goal h12 hR (by omega) (by omega) hb) (by have q2 := mm_step hF hI; rw [hst, hb] at q2; obtain ⟨G', top', lv', an', q3, -⟩ := q2; exact ⟨G', top', lv', an', q3⟩) (by obtain ⟨t, ht⟩ := htmS; obtain ⟨t2, ht2⟩ := tm_goal (C := pgC R) (fr := fr) (cls := cls) (V := V) (ch := ch) (T := T) (cur := some i) (den := den) (pl := pl0) (na := na) (ns := ns) (nc := nc0) (dp := dp0) (i := i) (fl := false) (tm := tm1) (nt := nt) (e := e); rw [hb] at ht2; exact ⟨t ++ t2, by rw [← List.append_assoc, ← ht]; exact ht2⟩) hF32 (by omega) (fun n r h => hrun (n + 1) r (mmRun_s (hst.trans hb) h)) hW2 (mcF_tr hF1 hF2)
        | inr r =>
              refine zx_iload (i := 4) dX4_run_17 rfl ?_
              refine zx_ldc (v := 1000000) dX4_run_19 zk_X4_48 (by decide +kernel) (z32_lit (by decide) (by decide)) ?_
              refine zx_icmp_ge (tgt := 128) dX4_run_21 (by decide) (fun h21 => absurd h21 (by omega)) (fun h21 => ?_)
              refine zx_aload_n (i := 0) dX4_run_24 rfl rfl ?_
              refine zx_getfield dX4_run_25 zf_X4_49 hmc1 rfl ?_
              refine zx_if_ne (tgt := 128) dX4_run_28 (by decide) (fun h28 => absurd h28 (by decide)) (fun h28 => ?_)
              refine zx_aload_n (i := 0) dX4_run_31 rfl rfl ?_
              refine zx_getfield dX4_run_32 zf_X4_53 hmc1 rfl ?_
              refine zx_astore (i := 5) dX4_run_35 (by decide) rfl ?_
              refine zx_L (L1 := [some (zR mc), some (zR md0), some (zR rp), some (zI (tm.length : Int)), some (zI (q : Int)), some (zR yi)]) rfl ?_
              refine zx_aload_n (i := 0) dX4_run_37 rfl rfl ?_
              refine zx_getfield dX4_run_38 zf_X4_57 hmc1 rfl ?_
              refine zx_pc (pc1 := 41) rfl ?_
              refine zx_if_ne (tgt := 57) dX4_run_41 (by decide) (fun h41 => absurd h41 (by decide)) (fun h41 => ?_)
              refine zx_aload (i := 5) dX4_run_44 rfl ?_
              refine zx_ifnull (tgt := 57) dX4_run_46 (by decide) (fun h => by cases h) (fun _ => ?_)
              refine zx_aload (i := 5) dX4_run_49 rfl ?_
              refine zx_getfield dX4_run_51 zf_X4_60 hfy_i rfl ?_
              refine zx_ifnonnull (tgt := 64) dX4_run_54 (by decide) (fun _ => ?_) (fun h => by cases h)
              refine zx_aload_n (i := 0) dX4_run_64 rfl rfl ?_
              refine zx_getfield dX4_run_65 zf_X4_69 hmc1 rfl ?_
              refine zx_aload (i := 5) dX4_run_68 rfl ?_
              refine zx_getfield dX4_run_70 zf_X4_60 hfy_i rfl ?_
              refine zx_aload (i := 5) dX4_run_73 rfl ?_
              refine zx_getfield dX4_run_75 zf_X4_73 hfy_i rfl ?_
              refine zx_pc (pc1 := 78) rfl ?_
              refine zx_getfield dX4_run_78 zf_X4_77 hmo_i rfl ?_
              refine zx_iv (b := a) (As := [zI ((mmf fr i).1.2 : Int)]) (st := [zI (pl0 : Int)]) (v := (some (zI (cln (R.2.2.2.2.2.1 a).2.2.2.2.1.1 ((mmf fr i).1.2 : Int))))) (w1 := w1) dX4_run_81 zc_X4_82 hC1.1 rfl rfl rfl (Nat.le_of_ble_eq_true rfl) rfl (c_X1_placeCount hC1 ((mmf fr i).1.2 : Int)) ?_
              refine zx_st (st1 := [zI (cln (R.2.2.2.2.2.1 a).2.2.2.2.1.1 ((mmf fr i).1.2 : Int)), zI (pl0 : Int)]) rfl ?_
              refine zx_icmp_lt (tgt := 96) dX4_run_84 (by decide) (fun h84 => ?_) (fun h84 => absurd (by omega) h84)
              refine zx_aload_n (i := 0) dX4_run_96 rfl rfl ?_
              refine zx_aload (i := 5) dX4_run_97 rfl ?_
              refine zx_aload (i := 5) dX4_run_99 rfl ?_
              refine zx_getfield dX4_run_101 zf_X4_60 hfy_i rfl ?_
              refine zx_aload (i := 5) dX4_run_104 rfl ?_
              refine zx_getfield dX4_run_106 zf_X4_73 hfy_i rfl ?_
              refine zx_getfield dX4_run_109 zf_X4_77 hmo_i rfl ?_
              refine zx_aload_n (i := 0) dX4_run_112 rfl rfl ?_
              refine zx_getfield dX4_run_113 zf_X4_69 hmc1 rfl ?_
              refine zx_pc (pc1 := 116) rfl ?_
              refine zx_iv (b := a) (As := [zI ((mmf fr i).1.2 : Int), zI (pl0 : Int)]) (st := [zR yi, zR mc]) (v := (some (zR g))) (w1 := w1) dX4_run_116 zc_X4_92 hC1.1 rfl rfl rfl (Nat.le_of_ble_eq_true rfl) rfl (by have q := c_X1_goalIn (G := G) (d := d + 7) hC1 ((mmf fr i).1.2 : Int) (pl0 : Int); rw [if_pos hg0, hg1] at q; exact q) ?_
              refine zx_st (st1 := [zR g, zR yi, zR mc]) rfl ?_
              refine zx_ivN (b := mc) (As := [zR yi, zR g]) (st := []) dX4_run_119 zc_X4_96 hmc1 rfl rfl rfl (Nat.le_of_ble_eq_true rfl) rfl (s_beginGoal hP1 hK hC hW1 hG1 hG2 hF31 (by omega) (by omega) (by omega) (by omega) (by omega) hif hyi hci hpa he hgW1 hg3 hg4 (fun hk z hz s hs => hgo1.1 z hz hk s hs) hgo1.2) (fun w2 hq => ?_)
              obtain ⟨⟨Fs2, hF32, hW2⟩, hF2⟩ := hq
              rw [hb] at hW2
              refine zx_iinc (i := 4) (v := ((q + 1 : Nat) : Int)) dX4_run_122 rfl (zw_eq (by omega) (by omega) (by omega)) (by decide) rfl ?_
              refine zx_L (L1 := [some (zR mc), some (zR md0), some (zR rp), some (zI (tm.length : Int)), some (zI ((q + 1 : Nat) : Int)), some (zR yi)]) rfl ?_
              refine zx_goto (tgt := 17) dX4_run_125 (by decide) ?_
              obtain ⟨p2, hW2⟩ := hW2
              obtain ⟨n, hn⟩ := hrun 1 r (mmRun_e (hst.trans hb))
              exact fin r Fs2 w2 p2 (q + 1) _ n hF32 (by omega) hn (by obtain ⟨t, ht⟩ := htmS; obtain ⟨t2, ht2⟩ := tm_goal (C := pgC R) (fr := fr) (cls := cls) (V := V) (ch := ch) (T := T) (cur := some i) (den := den) (pl := pl0) (na := na) (ns := ns) (nc := nc0) (dp := dp0) (i := i) (fl := false) (tm := tm1) (nt := nt) (e := e); rw [hb] at ht2; exact ⟨t ++ t2, by rw [← List.append_assoc, ← ht]; exact ht2⟩) hW2 (mcF_tr hF1 hF2)
  refine zx_aload_n (i := 0) dX4_run_0 rfl rfl ?_
  refine zx_getfield dX4_run_1 zf_X4_9 hmc rfl ?_
  refine zx_iv (b := t) (As := []) (st := []) (v := (some (zI (tm.length : Int)))) (w1 := w) dX4_run_4 zc_X4_38 ht0 rfl rfl rfl (Nat.le_of_ble_eq_true rfl) rfl (by have q := c_X10_termCount (G := G) (d := d + 7) ⟨ht0, ⟨htc, okTC⟩, ⟨htn, okN⟩, ⟨hth, okH⟩, htz, hSz⟩; rw [htm.2.1] at q; exact q) ?_
  refine zx_st (st1 := [zI (tm.length : Int)]) rfl ?_
  refine zx_istore_n (i := 3) dX4_run_7 rfl (by decide) rfl ?_
  refine zx_L (L1 := [some (zR mc), some (zR md0), some (zR rp), some (zI (tm.length : Int)), none, none]) rfl ?_
  refine zx_aload_n (i := 0) dX4_run_8 rfl rfl ?_
  refine zx_aload_n (i := 1) dX4_run_9 rfl rfl ?_
  refine zx_aload_n (i := 2) dX4_run_10 rfl rfl ?_
  refine zx_ivN (b := mc) (As := [zR md0, zR rp]) (st := []) dX4_run_11 zc_X4_44 hmc rfl rfl rfl (Nat.le_of_ble_eq_true rfl) rfl (s_begin (G := G) (d := d + 1) hP hK hB htm hG1 hG2 hF3 hmd0 hin ho3 (fun s hs => ?_)) (fun w1 hq => ?_)
  · obtain ⟨-, g2, -⟩ := hF.2.2 _ hg
    obtain ⟨g3, g4, -⟩ := g2 s hs
    refine ⟨(ho s).mpr g3, fun c' hc' => ?_⟩
    obtain ⟨e', os, a1, a2, -⟩ := g4 c' hc'
    exact ⟨e', os, a1, a2⟩
  obtain ⟨⟨Fs1, hF31, hW1⟩, hF1⟩ := hq
  refine zx_iconst (v := 0) dX4_run_14 rfl (z32_lit (by decide) (by decide)) ?_
  refine zx_istore (i := 4) dX4_run_15 (by decide) rfl ?_
  refine zx_L (L1 := [some (zR mc), some (zR md0), some (zR rp), some (zI (tm.length : Int)), some (zI 0), none]) rfl ?_
  obtain ⟨Gh, top, an, hI, -⟩ := mm_root hF (tm := tm) (o := o) hg (hA3 p) ho
  refine loop 116161 (mmStart (pgC R) tm (p, m) o) Fs1 w1 0 _ ?_ ⟨Gh, top, [], an, hI⟩ ⟨[], by rw [List.append_nil]; exact tm_enter⟩ hF31 (by decide) (fun n r h => ⟨n, h⟩) hW1 hF1
  refine rn_enter (n := 0) rfl ?_ (by decide) (Nat.le_refl 1) (by decide) (by decide) (by decide) (fun j hj => ?_) (by decide) (fun e he => absurd he List.not_mem_nil) (fun i hi => by cases hi) (Nat.succ_pos _) (h12 _)
  · show 386 * (300 - 0) + 32 * (0 + 11) + 32 * 0 + (1 + 1) ≤ 116161
    decide
  · have hj : j < 1 := hj
    have hj : j = 0 := by omega
    subst hj
    exact ⟨(by decide : 1 ≤ 1), (by decide : 1 ≤ 30), (by decide : 0 ≤ 4), fun i hi => by cases hi⟩
end SRU
