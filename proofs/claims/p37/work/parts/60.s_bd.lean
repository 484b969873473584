/-! Own rows: build, told by the pure state. Walked by program (wip/p37/m_bd.py). -/
section SBD
variable {pg : Nat}
variable {G : zG} {d : Nat} {w : zW} {b1 b2 : Nat} {R : pgR} {Fs : List Nat} {ov fu en : Int} {mc fa ca ta t tc tn th tz rp ri ra rn : Nat} {ty bk bc : Int} {C I : List (List Int)} {mo : Option Nat} {fr : List mmF} {cls : Nat → Option Nat} {V : mmV} {ch : mmH} {T : mmT} {cur den : Option Nat} {pl0 na ns nc0 dp0 : Nat} {flb : Bool} {tm : List smG} {nt : List (Nat × Nat)}
theorem s_build (hP : pgW w pg R) (hC : C = C3) (hW : msW w b1 b2 ((mc, fa, ca, ta), (t, tc, tn, th, tz), (rp, ri, ra, rn), (ty, C), (mo, I, bk, bc)) R Fs (ov, fu, en) ((fr, cls, V, ch, T), (cur, pl0, den, flb), tm, (na, ns, nc0, dp0), nt)) (hG1 : b1 + 1500000 ≤ 60 * G.2.2.2.2.1) (hG2 : b2 + 3150000 ≤ G.2.2.2.2.2) (hF3 : Fs.length ≤ 320) (hTl : T.length + 3 < 350000) {i yi g : Nat} (hif : i < fr.length) (hi : Fs[i]? = some yi) (hgW : goW w g (R.2.2.2.2.2.2 g)) (hg3 : gOk (R.2.2.2.2.2.2 g)) (hk0 : (gL (R.2.2.2.2.2.2 g)).1 = 0) (hs3 : (gL (R.2.2.2.2.2.2 g)).2.1 < 3) (hc2 : (gL (R.2.2.2.2.2.2 g)).2.2.1 = (if (gL (R.2.2.2.2.2.2 g)).2.1 = 1 then 2 else 1)) (hn : V i (smv (gL (R.2.2.2.2.2.2 g)) 0) = none) (hy1 : (gL (R.2.2.2.2.2.2 g)).2.1 = 1 → V i (smv (gL (R.2.2.2.2.2.2 g)) 1) ≠ none) : zM G zm_X4_build (d + 4) [zR mc, zR yi, zR g] w (zVoid fun w' => (match mmEq V T tm i (gL (R.2.2.2.2.2.2 g)) with
    | none => msW w' b1 b2 ((mc, fa, ca, ta), (t, tc, tn, th, tz), (rp, ri, ra, rn), (ty, C), (mo, I, bk, bc)) R Fs (1, 1, en) ((fr, cls, V, ch, T), (cur, pl0, den, flb), tm, (na, ns, nc0, dp0), nt)
    | some r => msW w' b1 b2 ((mc, fa, ca, ta), (t, tc, tn, th, tz), (rp, ri, ra, rn), (ty, C), (mo, I, bk, bc)) R Fs (ov, fu, en) ((fr, cls, r.2.1, ch, r.2.2.1), (cur, pl0, den, flb), r.2.2.2, (na, ns, nc0, dp0), nt)) ∧ mcF rp w w') := by
  refine zx_ent (by decide +kernel) rfl (Nat.le_of_ble_eq_true rfl) ?_
  refine zx_L (L1 := [some (zR mc), some (zR yi), some (zR g), none, none, none]) rfl ?_
  obtain ⟨cap, fm, cc, CH, ct, TR, us, cu, pl, de, fl, N, H, Sz, A, Nt, sc, nc, dp, hM, hS⟩ := id hW
  obtain ⟨⟨hus, hfl, hJ, hcn, hFS⟩, ⟨hcu, hcuL, hpl, hde, hdeL, hfb⟩, ⟨hCH, hchL⟩, ⟨hTR, hTL⟩, htm, ⟨hA, hsc, hnc, hdp, hNt⟩⟩ := id hS
  subst hus hcu hpl hde hfb hCH hTR hsc hnc hdp hNt
  obtain ⟨hmc, hfa, ⟨hca, okC⟩, ⟨hta, okT⟩, hFr, ⟨ht0, ⟨htc, okTC⟩, ⟨htn, okN⟩, ⟨hth, okH⟩, htz, hSz⟩, ⟨hrp, ⟨hri, okI⟩, ⟨hra, okA⟩, ⟨hrn, okNt⟩⟩, hcap, hcct, hrm1, hrm2⟩ := id hM
  obtain ⟨⟨⟨va, md⟩, ⟨fca, fbt, fdp⟩, ⟨fcl, fdn, fod, fcb⟩, xs⟩, efm⟩ : ∃ r, fm yi = r := ⟨_, rfl⟩
  obtain ⟨hfy, hva, hx⟩ := hFr i yi hi
  rw [efm] at hfy hva hx
  have hx : xs.length = 8 := hx
  obtain ⟨hmd, ⟨hcb1, hcb2⟩, ⟨hcb3, hcb4, hcb5⟩, ⟨-, hxv⟩, hdq⟩ := hFS i yi hif hi
  rw [efm] at hmd hcb1 hcb3 hxv
  simp only [Prod.mk.injEq] at hcb1 hcb3
  obtain ⟨ea1, ea2, ea3⟩ := hcb1
  obtain ⟨eb1, eb2, eb3, eb4⟩ := hcb3
  subst ea1 ea2 ea3 eb1 eb2 eb3 eb4
  obtain ⟨hgo, hgv, hgx, -, -⟩ := hgW
  have hgc := (go_c hg3).1
  have hgs := go_s hg3 (by omega)
  rw [hgs] at hgo
  have hEq : mmEq V T tm i (gL (R.2.2.2.2.2.2 g)) = if (smB (gL (R.2.2.2.2.2.2 g)).2.1 ((V i (smv (gL (R.2.2.2.2.2.2 g)) 1)).getD (0, 0))) ∈ tm then some (true, (mmAg V T i (smv (gL (R.2.2.2.2.2.2 g)) 0) (some (smB (gL (R.2.2.2.2.2.2 g)).2.1 ((V i (smv (gL (R.2.2.2.2.2.2 g)) 1)).getD (0, 0))))).2.1, (mmAg V T i (smv (gL (R.2.2.2.2.2.2 g)) 0) (some (smB (gL (R.2.2.2.2.2.2 g)).2.1 ((V i (smv (gL (R.2.2.2.2.2.2 g)) 1)).getD (0, 0))))).2.2, tm) else if tm.length < 200 then some (true, (mmAg V T i (smv (gL (R.2.2.2.2.2.2 g)) 0) (some (smB (gL (R.2.2.2.2.2.2 g)).2.1 ((V i (smv (gL (R.2.2.2.2.2.2 g)) 1)).getD (0, 0))))).2.1, (mmAg V T i (smv (gL (R.2.2.2.2.2.2 g)) 0) (some (smB (gL (R.2.2.2.2.2.2 g)).2.1 ((V i (smv (gL (R.2.2.2.2.2.2 g)) 1)).getD (0, 0))))).2.2, tm ++ [(smB (gL (R.2.2.2.2.2.2 g)).2.1 ((V i (smv (gL (R.2.2.2.2.2.2 g)) 1)).getD (0, 0)))]) else none := by
    unfold mmEq
    rw [if_neg (by omega), hn]
  by_cases h1 : (gL (R.2.2.2.2.2.2 g)).2.1 = 1
  · rw [if_pos h1] at hc2
    obtain ⟨yv, hyv⟩ : ∃ yv, V i (smv (gL (R.2.2.2.2.2.2 g)) 1) = some yv := Option.ne_none_iff_exists'.mp (hy1 h1)
    have hvv : tvE tm (zVl xs ((smv (gL (R.2.2.2.2.2.2 g)) 1 : Nat) : Int)) (V i (smv (gL (R.2.2.2.2.2.2 g)) 1)) := by rw [zVl_get hx (go_v hg3 (k := 1) (by omega)).2]; exact hxv _ (go_v hg3 (k := 1) (by omega)).2
    rw [hyv] at hvv
    obtain ⟨f, ef⟩ : ∃ f : Nat, zVl xs ((smv (gL (R.2.2.2.2.2.2 g)) 1 : Nat) : Int) = (f : Int) := ⟨_, (Int.toNat_of_nonneg hvv.1).symm⟩
    have hft : tm[f]? = some ((V i (smv (gL (R.2.2.2.2.2.2 g)) 1)).getD (0, 0)) := by
      have q := hvv.2
      rw [ef, Int.toNat_natCast] at q
      rw [hyv]
      exact q
    rcases tm_find htm (c := (gL (R.2.2.2.2.2.2 g)).2.1) (f := f) (y := (V i (smv (gL (R.2.2.2.2.2.2 g)) 1)).getD (0, 0)) (fun _ => hft) (fun q => absurd h1 q) with ⟨hfd, hnm⟩ | ⟨n, hfd, hnn⟩
    · by_cases hl : tm.length < 200
      · rw [show mmEq V T tm i (gL (R.2.2.2.2.2.2 g)) = some (true, (mmAg V T i (smv (gL (R.2.2.2.2.2.2 g)) 0) (some (smB (gL (R.2.2.2.2.2.2 g)).2.1 ((V i (smv (gL (R.2.2.2.2.2.2 g)) 1)).getD (0, 0))))).2.1, (mmAg V T i (smv (gL (R.2.2.2.2.2.2 g)) 0) (some (smB (gL (R.2.2.2.2.2.2 g)).2.1 ((V i (smv (gL (R.2.2.2.2.2.2 g)) 1)).getD (0, 0))))).2.2, tm ++ [(smB (gL (R.2.2.2.2.2.2 g)).2.1 ((V i (smv (gL (R.2.2.2.2.2.2 g)) 1)).getD (0, 0)))]) by rw [hEq, if_neg hnm, if_pos hl]]
        have hnew := tm_new htm (c := (gL (R.2.2.2.2.2.2 g)).2.1) (f := f) (y := (V i (smv (gL (R.2.2.2.2.2.2 g)) 1)).getD (0, 0)) hs3 (fun _ => hft) (fun q => absurd h1 q) hnm hl
        have hNl := htm.2.1
        have hvn : tvE (tm ++ [(smB (gL (R.2.2.2.2.2.2 g)).2.1 ((V i (smv (gL (R.2.2.2.2.2.2 g)) 1)).getD (0, 0)))]) (N.length : Int) (some (smB (gL (R.2.2.2.2.2.2 g)).2.1 ((V i (smv (gL (R.2.2.2.2.2.2 g)) 1)).getD (0, 0)))) := ⟨by omega, by rw [Int.toNat_natCast, hNl]; simp⟩
        refine zx_aload_n (i := 2) dX4_build_0 rfl rfl ?_
        refine zx_getfield dX4_build_1 zf_X4_261 hgo rfl ?_
        refine zx_iconst (v := 1) dX4_build_4 rfl (z32_lit (by decide) (by decide)) ?_
        refine zx_icmp_le (tgt := 20) dX4_build_5 (by decide) (fun h5 => absurd h5 (by omega)) (fun h5 => ?_)
        refine zx_aload_n (i := 1) dX4_build_8 rfl rfl ?_
        refine zx_aload_n (i := 2) dX4_build_9 rfl rfl ?_
        refine zx_iconst (v := 1) dX4_build_10 rfl (z32_lit (by decide) (by decide)) ?_
        refine zx_iv (b := g) (As := [zI 1]) (st := [zR yi]) (v := (some (zI ((smv (gL (R.2.2.2.2.2.2 g)) 1 : Nat) : Int)))) (w1 := w) dX4_build_11 zc_X4_267 hgo rfl rfl rfl (Nat.le_of_ble_eq_true rfl) rfl (by have q := c_X3_variableAt (G := G) (d := d + 3) hgo hgv hgx (1 : Int); rw [show zVa (R.2.2.2.2.2.2 g).2.2.2.2 1 = _ from (go_v hg3 (k := 1) (by omega)).1] at q; exact q) ?_
        refine zx_st (st1 := [zI ((smv (gL (R.2.2.2.2.2.2 g)) 1 : Nat) : Int), zR yi]) rfl ?_
        refine zx_iv (b := yi) (As := [zI ((smv (gL (R.2.2.2.2.2.2 g)) 1 : Nat) : Int)]) (st := []) (v := (some (zI (f : Int)))) (w1 := w) dX4_build_14 zc_X4_203 hfy rfl rfl rfl (Nat.le_of_ble_eq_true rfl) rfl (by have q := c_X2_valueOf (G := G) (d := d + 3) hfy hva (by omega) ((smv (gL (R.2.2.2.2.2.2 g)) 1 : Nat) : Int); rw [ef] at q; exact q) ?_
        refine zx_st (st1 := [zI (f : Int)]) rfl ?_
        refine zx_goto (tgt := 21) dX4_build_17 (by decide) ?_
        refine zx_istore_n (i := 3) dX4_build_21 rfl (by decide) rfl ?_
        refine zx_L (L1 := [some (zR mc), some (zR yi), some (zR g), some (zI (f : Int)), none, none]) rfl ?_
        refine zx_pc (pc1 := 22) rfl ?_
        refine zx_aload_n (i := 2) dX4_build_22 rfl rfl ?_
        refine zx_getfield dX4_build_23 zf_X4_261 hgo rfl ?_
        refine zx_iconst (v := 2) dX4_build_26 rfl (z32_lit (by decide) (by decide)) ?_
        refine zx_icmp_le (tgt := 42) dX4_build_27 (by decide) (fun h27 => ?_) (fun h27 => absurd (by omega) h27)
        refine zx_iconst (v := 0) dX4_build_42 rfl (z32_lit (by decide) (by decide)) ?_
        refine zx_istore (i := 4) dX4_build_43 (by decide) rfl ?_
        refine zx_L (L1 := [some (zR mc), some (zR yi), some (zR g), some (zI (f : Int)), some (zI 0), none]) rfl ?_
        refine zx_aload_n (i := 0) dX4_build_45 rfl rfl ?_
        refine zx_getfield dX4_build_46 zf_X4_9 hmc rfl ?_
        refine zx_aload_n (i := 2) dX4_build_49 rfl rfl ?_
        refine zx_getfield dX4_build_50 zf_X4_209 hgo rfl ?_
        refine zx_iload_n (i := 3) dX4_build_53 rfl rfl ?_
        refine zx_iload (i := 4) dX4_build_54 rfl ?_
        refine zx_pc (pc1 := 56) rfl ?_
        obtain ⟨w_1, hw_2⟩ : ∃ ww, ww = zput w tn (131, t, tTb 4 800 (N ++ [[((gL (R.2.2.2.2.2.2 g)).2.1 : Int), (f : Int), 0, tg H (tmCh ((gL (R.2.2.2.2.2.2 g)).2.1 : Int) (f : Int) 0) 0]])) := ⟨_, rfl⟩
        have q_3 : w_1.2.1 = w.2.1 ∧ w_1.2.2 = w.2.2 := by rw [hw_2]; exact ⟨rfl, rfl⟩
        have h_4 : w_1.1 tn = some (131, t, tTb 4 800 (N ++ [[((gL (R.2.2.2.2.2.2 g)).2.1 : Int), (f : Int), 0, tg H (tmCh ((gL (R.2.2.2.2.2.2 g)).2.1 : Int) (f : Int) 0) 0]])) := by rw [hw_2]; exact zput_at
        have h_5 : w_1.1 th = some (132, t, tTb 1 64 H) := by
          rw [hw_2]; exact zput_tg htn hth (by simp)
        obtain ⟨w_6, hw_7⟩ : ∃ ww, ww = zput w_1 th (132, t, tTb 1 64 (ts H (tmCh ((gL (R.2.2.2.2.2.2 g)).2.1 : Int) (f : Int) 0) 0 (N.length : Int))) := ⟨_, rfl⟩
        have q_8 : w_6.2.1 = w_1.2.1 ∧ w_6.2.2 = w_1.2.2 := by rw [hw_7]; exact ⟨rfl, rfl⟩
        have h_9 : w_6.1 th = some (132, t, tTb 1 64 (ts H (tmCh ((gL (R.2.2.2.2.2.2 g)).2.1 : Int) (f : Int) 0) 0 (N.length : Int))) := by rw [hw_7]; exact zput_at
        have h_10 : w_1.1 tz = some (120, t, Sz.map zJ) := by
          rw [hw_2]; exact zput_tg htn htz (by simp)
        have h_11 : w_6.1 tz = some (120, t, Sz.map zJ) := by
          rw [hw_7]; exact zput_tg h_5 h_10 (by simp)
        obtain ⟨w_12, hw_13⟩ : ∃ ww, ww = zput w_6 tz (120, t, (Sz.set N.length (tmNs C Sz ((gL (R.2.2.2.2.2.2 g)).2.1 : Int) (f : Int) 0)).map zJ) := ⟨_, rfl⟩
        have q_14 : w_12.2.1 = w_6.2.1 ∧ w_12.2.2 = w_6.2.2 := by rw [hw_13]; exact ⟨rfl, rfl⟩
        have h_15 : w_12.1 tz = some (120, t, (Sz.set N.length (tmNs C Sz ((gL (R.2.2.2.2.2.2 g)).2.1 : Int) (f : Int) 0)).map zJ) := by rw [hw_13]; exact zput_at
        refine zx_iv (b := t) (As := [zI ((gL (R.2.2.2.2.2.2 g)).2.1 : Int), zI (f : Int), zI 0]) (st := []) (v := (some (zI (N.length : Int)))) (w1 := w_12) dX4_build_56 zc_X4_298 ht0 rfl rfl rfl (Nat.le_of_ble_eq_true rfl) rfl (by rw [hw_13]; rw [hw_7]; rw [hw_2]; exact (c_X10_makeNew ⟨ht0, ⟨htc, okTC⟩, ⟨htn, okN⟩, ⟨hth, okH⟩, htz, hSz⟩ ((gL (R.2.2.2.2.2.2 g)).2.1 : Int) (f : Int) 0 hfd (by omega))) ?_
        refine zx_st (st1 := [zI (N.length : Int)]) rfl ?_
        refine zx_istore (i := 5) dX4_build_59 (by decide) rfl ?_
        refine zx_L (L1 := [some (zR mc), some (zR yi), some (zR g), some (zI (f : Int)), some (zI 0), some (zI (N.length : Int))]) rfl ?_
        refine zx_iload (i := 5) dX4_build_61 rfl ?_
        refine zx_iconst (v := -1) dX4_build_63 rfl (z32_lit (by decide) (by decide)) ?_
        refine zx_icmp_ne (tgt := 78) dX4_build_64 (by decide) (fun h64 => ?_) (fun h64 => absurd (by omega) h64)
        refine zx_aload_n (i := 0) dX4_build_78 rfl rfl ?_
        refine zx_aload_n (i := 1) dX4_build_79 rfl rfl ?_
        refine zx_aload_n (i := 2) dX4_build_80 rfl rfl ?_
        refine zx_iconst (v := 0) dX4_build_81 rfl (z32_lit (by decide) (by decide)) ?_
        have h_16 : w_1.1 g = some (3, 0, [zI (R.2.2.2.2.2.2 g).1, zI ((gL (R.2.2.2.2.2.2 g)).2.1 : Int), zI (R.2.2.2.2.2.2 g).2.2.1, zR (R.2.2.2.2.2.2 g).2.2.2.1]) := by
          rw [hw_2]; exact zput_tg htn hgo (by simp)
        have h_17 : w_6.1 g = some (3, 0, [zI (R.2.2.2.2.2.2 g).1, zI ((gL (R.2.2.2.2.2.2 g)).2.1 : Int), zI (R.2.2.2.2.2.2 g).2.2.1, zR (R.2.2.2.2.2.2 g).2.2.2.1]) := by
          rw [hw_7]; exact zput_tg h_5 h_16 (by simp)
        have h_18 : w_12.1 g = some (3, 0, [zI (R.2.2.2.2.2.2 g).1, zI ((gL (R.2.2.2.2.2.2 g)).2.1 : Int), zI (R.2.2.2.2.2.2 g).2.2.1, zR (R.2.2.2.2.2.2 g).2.2.2.1]) := by
          rw [hw_13]; exact zput_tg h_11 h_17 (by simp)
        have h_19 : w_1.1 ((R.2.2.2.2.2.2 g).2.2.2.1) = some (100, g, (R.2.2.2.2.2.2 g).2.2.2.2.map Sum.inl) := by
          rw [hw_2]; exact zput_tg htn hgv (by simp)
        have h_20 : w_6.1 ((R.2.2.2.2.2.2 g).2.2.2.1) = some (100, g, (R.2.2.2.2.2.2 g).2.2.2.2.map Sum.inl) := by
          rw [hw_7]; exact zput_tg h_5 h_19 (by simp)
        have h_21 : w_12.1 ((R.2.2.2.2.2.2 g).2.2.2.1) = some (100, g, (R.2.2.2.2.2.2 g).2.2.2.2.map Sum.inl) := by
          rw [hw_13]; exact zput_tg h_11 h_20 (by simp)
        refine zx_iv (b := g) (As := [zI 0]) (st := [zR yi, zR mc]) (v := (some (zI ((smv (gL (R.2.2.2.2.2.2 g)) 0 : Nat) : Int)))) (w1 := w_12) dX4_build_82 zc_X4_267 h_18 rfl rfl rfl (Nat.le_of_ble_eq_true rfl) rfl (by have q := c_X3_variableAt (G := G) (d := d + 3) h_18 h_21 hgx (0 : Int); rw [show zVa (R.2.2.2.2.2.2 g).2.2.2.2 0 = _ from (go_v hg3 (k := 0) (by omega)).1] at q; exact q) ?_
        refine zx_st (st1 := [zI ((smv (gL (R.2.2.2.2.2.2 g)) 0 : Nat) : Int), zR yi, zR mc]) rfl ?_
        refine zx_iload (i := 5) dX4_build_85 rfl ?_
        have hfaL9 : zFa [tn, th, tz] w w_12 := (zFa_put (zFa_put (zFa_put zFa_re (by simp) hw_2) (by simp) hw_7) (by simp) hw_13)
        have hFrr9 := fm_keep hFr hfaL9 (zLc htn (by simp) (zLc hth (by simp) (zLc htz (by simp) zLn)))
        have hmcF9 : mcF rp w w_12 := mcF_fa hfaL9 (zLc htn (by simp [mcP]) (zLc hth (by simp [mcP]) (zLc htz (by simp [mcP]) zLn)))
        have h_22 : w_1.1 mc = some (4, 0, [zR t, zR fa, zR ca, zR ta, zR rp, zI (fr.length : Int), zP (oA Fs cur), zI (pl0 : Int), zP (oA Fs den), zI (if flb = true then 1 else 0), zI ov, zI fu]) := by
          rw [hw_2]; exact zput_tg htn hmc (by simp)
        have h_23 : w_6.1 mc = some (4, 0, [zR t, zR fa, zR ca, zR ta, zR rp, zI (fr.length : Int), zP (oA Fs cur), zI (pl0 : Int), zP (oA Fs den), zI (if flb = true then 1 else 0), zI ov, zI fu]) := by
          rw [hw_7]; exact zput_tg h_5 h_22 (by simp)
        have h_24 : w_12.1 mc = some (4, 0, [zR t, zR fa, zR ca, zR ta, zR rp, zI (fr.length : Int), zP (oA Fs cur), zI (pl0 : Int), zP (oA Fs den), zI (if flb = true then 1 else 0), zI ov, zI fu]) := by
          rw [hw_13]; exact zput_tg h_11 h_23 (by simp)
        have h_25 : w_1.1 fa = some (166, mc, zLs cap Fs) := by
          rw [hw_2]; exact zput_tg htn hfa (by simp)
        have h_26 : w_6.1 fa = some (166, mc, zLs cap Fs) := by
          rw [hw_7]; exact zput_tg h_5 h_25 (by simp)
        have h_27 : w_12.1 fa = some (166, mc, zLs cap Fs) := by
          rw [hw_13]; exact zput_tg h_11 h_26 (by simp)
        have h_28 : w_1.1 ca = some (138, mc, tTb 3 cc (ch.reverse.map (fun e => [(e.1 : Int), (e.2.1 : Int), (e.2.2 : Int)]))) := by
          rw [hw_2]; exact zput_tg htn hca (by simp)
        have h_29 : w_6.1 ca = some (138, mc, tTb 3 cc (ch.reverse.map (fun e => [(e.1 : Int), (e.2.1 : Int), (e.2.2 : Int)]))) := by
          rw [hw_7]; exact zput_tg h_5 h_28 (by simp)
        have h_30 : w_12.1 ca = some (138, mc, tTb 3 cc (ch.reverse.map (fun e => [(e.1 : Int), (e.2.1 : Int), (e.2.2 : Int)]))) := by
          rw [hw_13]; exact zput_tg h_11 h_29 (by simp)
        have h_31 : w_1.1 ta = some (139, mc, tTb 2 ct (T.reverse.map (fun e => [(e.1 : Int), (e.2 : Int)]))) := by
          rw [hw_2]; exact zput_tg htn hta (by simp)
        have h_32 : w_6.1 ta = some (139, mc, tTb 2 ct (T.reverse.map (fun e => [(e.1 : Int), (e.2 : Int)]))) := by
          rw [hw_7]; exact zput_tg h_5 h_31 (by simp)
        have h_33 : w_12.1 ta = some (139, mc, tTb 2 ct (T.reverse.map (fun e => [(e.1 : Int), (e.2 : Int)]))) := by
          rw [hw_13]; exact zput_tg h_11 h_32 (by simp)
        have h_34 : w_1.1 t = some (10, 0, [zI ty, zR tc, zR tn, zR th, zR tz]) := by
          rw [hw_2]; exact zput_tg htn ht0 (by simp)
        have h_35 : w_6.1 t = some (10, 0, [zI ty, zR tc, zR tn, zR th, zR tz]) := by
          rw [hw_7]; exact zput_tg h_5 h_34 (by simp)
        have h_36 : w_12.1 t = some (10, 0, [zI ty, zR tc, zR tn, zR th, zR tz]) := by
          rw [hw_13]; exact zput_tg h_11 h_35 (by simp)
        have h_37 : w_1.1 tc = some (130, t, tTb 3 30 C) := by
          rw [hw_2]; exact zput_tg htn htc (by simp)
        have h_38 : w_6.1 tc = some (130, t, tTb 3 30 C) := by
          rw [hw_7]; exact zput_tg h_5 h_37 (by simp)
        have h_39 : w_12.1 tc = some (130, t, tTb 3 30 C) := by
          rw [hw_13]; exact zput_tg h_11 h_38 (by simp)
        have h_40 : w_6.1 tn = some (131, t, tTb 4 800 (N ++ [[((gL (R.2.2.2.2.2.2 g)).2.1 : Int), (f : Int), 0, tg H (tmCh ((gL (R.2.2.2.2.2.2 g)).2.1 : Int) (f : Int) 0) 0]])) := by
          rw [hw_7]; exact zput_tg h_5 h_4 (by simp)
        have h_41 : w_12.1 tn = some (131, t, tTb 4 800 (N ++ [[((gL (R.2.2.2.2.2.2 g)).2.1 : Int), (f : Int), 0, tg H (tmCh ((gL (R.2.2.2.2.2.2 g)).2.1 : Int) (f : Int) 0) 0]])) := by
          rw [hw_13]; exact zput_tg h_11 h_40 (by simp)
        have h_42 : w_12.1 th = some (132, t, tTb 1 64 (ts H (tmCh ((gL (R.2.2.2.2.2.2 g)).2.1 : Int) (f : Int) 0) 0 (N.length : Int))) := by
          rw [hw_13]; exact zput_tg h_11 h_9 (by simp)
        have h_43 : w_1.1 rp = some (8, 0, [zP mo, zR ri, zR ra, zR rn, zI (ns : Int), zI (nc0 : Int), zI (dp0 : Int), zI en, zI bk, zI bc]) := by
          rw [hw_2]; exact zput_tg htn hrp (by simp)
        have h_44 : w_6.1 rp = some (8, 0, [zP mo, zR ri, zR ra, zR rn, zI (ns : Int), zI (nc0 : Int), zI (dp0 : Int), zI en, zI bk, zI bc]) := by
          rw [hw_7]; exact zput_tg h_5 h_43 (by simp)
        have h_45 : w_12.1 rp = some (8, 0, [zP mo, zR ri, zR ra, zR rn, zI (ns : Int), zI (nc0 : Int), zI (dp0 : Int), zI en, zI bk, zI bc]) := by
          rw [hw_13]; exact zput_tg h_11 h_44 (by simp)
        have h_46 : w_1.1 ri = some (135, rp, tTb 1 3 I) := by
          rw [hw_2]; exact zput_tg htn hri (by simp)
        have h_47 : w_6.1 ri = some (135, rp, tTb 1 3 I) := by
          rw [hw_7]; exact zput_tg h_5 h_46 (by simp)
        have h_48 : w_12.1 ri = some (135, rp, tTb 1 3 I) := by
          rw [hw_13]; exact zput_tg h_11 h_47 (by simp)
        have h_49 : w_1.1 ra = some (136, rp, tTb 3 150 A) := by
          rw [hw_2]; exact zput_tg htn hra (by simp)
        have h_50 : w_6.1 ra = some (136, rp, tTb 3 150 A) := by
          rw [hw_7]; exact zput_tg h_5 h_49 (by simp)
        have h_51 : w_12.1 ra = some (136, rp, tTb 3 150 A) := by
          rw [hw_13]; exact zput_tg h_11 h_50 (by simp)
        have h_52 : w_1.1 rn = some (137, rp, tTb 2 160 (nt.map (fun e => [(e.1 : Int), (e.2 : Int)]))) := by
          rw [hw_2]; exact zput_tg htn hrn (by simp)
        have h_53 : w_6.1 rn = some (137, rp, tTb 2 160 (nt.map (fun e => [(e.1 : Int), (e.2 : Int)]))) := by
          rw [hw_7]; exact zput_tg h_5 h_52 (by simp)
        have h_54 : w_12.1 rn = some (137, rp, tTb 2 160 (nt.map (fun e => [(e.1 : Int), (e.2 : Int)]))) := by
          rw [hw_13]; exact zput_tg h_11 h_53 (by simp)
        have hM9 : mcW w_12 b1 b2 ((mc, fa, ca, ta), (t, tc, tn, th, tz), (rp, ri, ra, rn), (ty, C), (mo, I, bk, bc)) (((cap, Fs), fm), (cc, (ch.reverse.map (fun e => [(e.1 : Int), (e.2.1 : Int), (e.2.2 : Int)]))), (ct, (T.reverse.map (fun e => [(e.1 : Int), (e.2 : Int)]))), ((fr.length : Int), (oA Fs cur), (pl0 : Int), (oA Fs den)), ((if flb = true then 1 else 0), ov, fu), ((N ++ [[((gL (R.2.2.2.2.2.2 g)).2.1 : Int), (f : Int), 0, tg H (tmCh ((gL (R.2.2.2.2.2.2 g)).2.1 : Int) (f : Int) 0) 0]]), (ts H (tmCh ((gL (R.2.2.2.2.2.2 g)).2.1 : Int) (f : Int) 0) 0 (N.length : Int)), (Sz.set N.length (tmNs C Sz ((gL (R.2.2.2.2.2.2 g)).2.1 : Int) (f : Int) 0))), (A, (nt.map (fun e => [(e.1 : Int), (e.2 : Int)])), (ns : Int), (nc0 : Int), (dp0 : Int), en)) := ⟨h_24, h_27, ⟨h_30, okC⟩, ⟨h_33, okT⟩, hFrr9, ⟨h_36, ⟨h_39, okTC⟩, ⟨h_41, (tOk_app okN (by rfl))⟩, ⟨h_42, (tOk_ts okH)⟩, h_15, (by rw [List.length_set]; exact hSz)⟩, ⟨h_45, ⟨h_48, okI⟩, ⟨h_51, okA⟩, ⟨h_54, okNt⟩⟩, hcap, ⟨by omega, by omega, by omega, by omega⟩, by omega, by omega⟩
        have hW9 : msW w_12 b1 b2 ((mc, fa, ca, ta), (t, tc, tn, th, tz), (rp, ri, ra, rn), (ty, C), (mo, I, bk, bc)) R Fs (ov, fu, en) ((fr, cls, V, ch, T), (cur, pl0, den, flb), (tm ++ [(smB (gL (R.2.2.2.2.2.2 g)).2.1 ((V i (smv (gL (R.2.2.2.2.2.2 g)) 1)).getD (0, 0)))]), (na, ns, nc0, dp0), nt) := ⟨cap, fm, cc, (ch.reverse.map (fun e => [(e.1 : Int), (e.2.1 : Int), (e.2.2 : Int)])), ct, (T.reverse.map (fun e => [(e.1 : Int), (e.2 : Int)])), (fr.length : Int), (oA Fs cur), (pl0 : Int), (oA Fs den), (if flb = true then 1 else 0), (N ++ [[((gL (R.2.2.2.2.2.2 g)).2.1 : Int), (f : Int), 0, tg H (tmCh ((gL (R.2.2.2.2.2.2 g)).2.1 : Int) (f : Int) 0) 0]]), (ts H (tmCh ((gL (R.2.2.2.2.2.2 g)).2.1 : Int) (f : Int) 0) 0 (N.length : Int)), (Sz.set N.length (tmNs C Sz ((gL (R.2.2.2.2.2.2 g)).2.1 : Int) (f : Int) 0)), A, (nt.map (fun e => [(e.1 : Int), (e.2 : Int)])), (ns : Int), (nc0 : Int), (dp0 : Int), hM9, ⟨⟨(by first | rfl | omega | simp), hfl, hJ, hcn, (fsR_tm hFS)⟩, ⟨rfl, hcuL, (by first | rfl | omega), rfl, hdeL, rfl⟩, ⟨rfl, hchL⟩, ⟨rfl, hTL⟩, (by rw [hC]; exact hnew), ⟨hA, (by first | rfl | omega), (by first | rfl | omega), (by first | rfl | omega), rfl⟩⟩⟩
        refine zx_ivV (b := mc) (As := [zR yi, zI ((smv (gL (R.2.2.2.2.2.2 g)) 0 : Nat) : Int), zI (N.length : Int)]) (st := []) dX4_build_87 zc_X4_270 h_24 rfl rfl rfl (Nat.le_of_ble_eq_true rfl) rfl (s_agrees hW9 hG1 hG2 hF3 (by omega) hif hi (go_v hg3 (k := 0) (by omega)).2 hvn) (fun v2 w2 hq => ?_)
        obtain ⟨ev2, hW2, hF2⟩ := hq
        subst ev2
        refine zx_pc (pc1 := 90) rfl ?_
        refine zx_pop dX4_build_90 (fun a h => by cases h) ?_
        refine zx_return dX4_build_91 rfl ?_
        exact ⟨rfl, hW2, mcF_tr hmcF9 hF2⟩
      · rw [show mmEq V T tm i (gL (R.2.2.2.2.2.2 g)) = none by rw [hEq, if_neg hnm, if_neg hl]]
        have hNl := htm.2.1
        refine zx_aload_n (i := 2) dX4_build_0 rfl rfl ?_
        refine zx_getfield dX4_build_1 zf_X4_261 hgo rfl ?_
        refine zx_iconst (v := 1) dX4_build_4 rfl (z32_lit (by decide) (by decide)) ?_
        refine zx_icmp_le (tgt := 20) dX4_build_5 (by decide) (fun h5 => absurd h5 (by omega)) (fun h5 => ?_)
        refine zx_aload_n (i := 1) dX4_build_8 rfl rfl ?_
        refine zx_aload_n (i := 2) dX4_build_9 rfl rfl ?_
        refine zx_iconst (v := 1) dX4_build_10 rfl (z32_lit (by decide) (by decide)) ?_
        refine zx_iv (b := g) (As := [zI 1]) (st := [zR yi]) (v := (some (zI ((smv (gL (R.2.2.2.2.2.2 g)) 1 : Nat) : Int)))) (w1 := w) dX4_build_11 zc_X4_267 hgo rfl rfl rfl (Nat.le_of_ble_eq_true rfl) rfl (by have q := c_X3_variableAt (G := G) (d := d + 3) hgo hgv hgx (1 : Int); rw [show zVa (R.2.2.2.2.2.2 g).2.2.2.2 1 = _ from (go_v hg3 (k := 1) (by omega)).1] at q; exact q) ?_
        refine zx_st (st1 := [zI ((smv (gL (R.2.2.2.2.2.2 g)) 1 : Nat) : Int), zR yi]) rfl ?_
        refine zx_iv (b := yi) (As := [zI ((smv (gL (R.2.2.2.2.2.2 g)) 1 : Nat) : Int)]) (st := []) (v := (some (zI (f : Int)))) (w1 := w) dX4_build_14 zc_X4_203 hfy rfl rfl rfl (Nat.le_of_ble_eq_true rfl) rfl (by have q := c_X2_valueOf (G := G) (d := d + 3) hfy hva (by omega) ((smv (gL (R.2.2.2.2.2.2 g)) 1 : Nat) : Int); rw [ef] at q; exact q) ?_
        refine zx_st (st1 := [zI (f : Int)]) rfl ?_
        refine zx_goto (tgt := 21) dX4_build_17 (by decide) ?_
        refine zx_istore_n (i := 3) dX4_build_21 rfl (by decide) rfl ?_
        refine zx_L (L1 := [some (zR mc), some (zR yi), some (zR g), some (zI (f : Int)), none, none]) rfl ?_
        refine zx_pc (pc1 := 22) rfl ?_
        refine zx_aload_n (i := 2) dX4_build_22 rfl rfl ?_
        refine zx_getfield dX4_build_23 zf_X4_261 hgo rfl ?_
        refine zx_iconst (v := 2) dX4_build_26 rfl (z32_lit (by decide) (by decide)) ?_
        refine zx_icmp_le (tgt := 42) dX4_build_27 (by decide) (fun h27 => ?_) (fun h27 => absurd (by omega) h27)
        refine zx_iconst (v := 0) dX4_build_42 rfl (z32_lit (by decide) (by decide)) ?_
        refine zx_istore (i := 4) dX4_build_43 (by decide) rfl ?_
        refine zx_L (L1 := [some (zR mc), some (zR yi), some (zR g), some (zI (f : Int)), some (zI 0), none]) rfl ?_
        refine zx_aload_n (i := 0) dX4_build_45 rfl rfl ?_
        refine zx_getfield dX4_build_46 zf_X4_9 hmc rfl ?_
        refine zx_aload_n (i := 2) dX4_build_49 rfl rfl ?_
        refine zx_getfield dX4_build_50 zf_X4_209 hgo rfl ?_
        refine zx_iload_n (i := 3) dX4_build_53 rfl rfl ?_
        refine zx_iload (i := 4) dX4_build_54 rfl ?_
        refine zx_pc (pc1 := 56) rfl ?_
        refine zx_iv (b := t) (As := [zI ((gL (R.2.2.2.2.2.2 g)).2.1 : Int), zI (f : Int), zI 0]) (st := []) (v := (some (zI (-1)))) (w1 := w) dX4_build_56 zc_X4_298 ht0 rfl rfl rfl (Nat.le_of_ble_eq_true rfl) rfl (by have q := c_X10_makeOld (G := G) (d := d) ⟨ht0, ⟨htc, okTC⟩, ⟨htn, okN⟩, ⟨hth, okH⟩, htz, hSz⟩ ((gL (R.2.2.2.2.2.2 g)).2.1 : Int) (f : Int) 0 (Or.inr (by omega)); rw [hfd] at q; exact q) ?_
        refine zx_st (st1 := [zI (-1)]) rfl ?_
        refine zx_istore (i := 5) dX4_build_59 (by decide) rfl ?_
        refine zx_L (L1 := [some (zR mc), some (zR yi), some (zR g), some (zI (f : Int)), some (zI 0), some (zI (-1))]) rfl ?_
        refine zx_iload (i := 5) dX4_build_61 rfl ?_
        refine zx_iconst (v := -1) dX4_build_63 rfl (z32_lit (by decide) (by decide)) ?_
        refine zx_icmp_ne (tgt := 78) dX4_build_64 (by decide) (fun h64 => absurd h64 (by decide)) (fun h64 => ?_)
        refine zx_aload_n (i := 0) dX4_build_67 rfl rfl ?_
        refine zx_iconst (v := 1) dX4_build_68 rfl (z32_lit (by decide) (by decide)) ?_
        obtain ⟨w_1, hw_2⟩ : ∃ ww, ww = zput w mc (4, 0, [zR t, zR fa, zR ca, zR ta, zR rp, zI (fr.length : Int), zP (oA Fs cur), zI (pl0 : Int), zP (oA Fs den), zI (if flb = true then 1 else 0), zI ov, zI 1]) := ⟨_, rfl⟩
        refine zx_put (w1 := w_1) dX4_build_69 zf_X4_100 hmc (Nat.le_of_ble_eq_true rfl) (zFt_bool (by first | exact Or.inl rfl | exact Or.inr rfl | exact zB_or | assumption)) (fun h => by cases h) hw_2.symm ?_
        have q_3 : w_1.2.1 = w.2.1 ∧ w_1.2.2 = w.2.2 := by rw [hw_2]; exact ⟨rfl, rfl⟩
        have h_4 : w_1.1 mc = some (4, 0, [zR t, zR fa, zR ca, zR ta, zR rp, zI (fr.length : Int), zP (oA Fs cur), zI (pl0 : Int), zP (oA Fs den), zI (if flb = true then 1 else 0), zI ov, zI 1]) := by rw [hw_2]; exact zput_at
        refine zx_aload_n (i := 0) dX4_build_72 rfl rfl ?_
        refine zx_iconst (v := 1) dX4_build_73 rfl (z32_lit (by decide) (by decide)) ?_
        obtain ⟨w_5, hw_6⟩ : ∃ ww, ww = zput w_1 mc (4, 0, [zR t, zR fa, zR ca, zR ta, zR rp, zI (fr.length : Int), zP (oA Fs cur), zI (pl0 : Int), zP (oA Fs den), zI (if flb = true then 1 else 0), zI 1, zI 1]) := ⟨_, rfl⟩
        refine zx_put (w1 := w_5) dX4_build_74 zf_X4_49 h_4 (Nat.le_of_ble_eq_true rfl) (zFt_bool (by first | exact Or.inl rfl | exact Or.inr rfl | exact zB_or | assumption)) (fun h => by cases h) hw_6.symm ?_
        have q_7 : w_5.2.1 = w_1.2.1 ∧ w_5.2.2 = w_1.2.2 := by rw [hw_6]; exact ⟨rfl, rfl⟩
        have h_8 : w_5.1 mc = some (4, 0, [zR t, zR fa, zR ca, zR ta, zR rp, zI (fr.length : Int), zP (oA Fs cur), zI (pl0 : Int), zP (oA Fs den), zI (if flb = true then 1 else 0), zI 1, zI 1]) := by rw [hw_6]; exact zput_at
        refine zx_return dX4_build_77 rfl ?_
        have hfaL9 : zFa [mc] w w_5 := (zFa_put (zFa_put zFa_re (by simp) hw_2) (by simp) hw_6)
        have hFrr9 := fm_keep hFr hfaL9 (zLc hmc (by simp) zLn)
        have hmcF9 : mcF rp w w_5 := mcF_fa hfaL9 (zLc hmc (by simp [mcP]) zLn)
        have h_9 : w_1.1 fa = some (166, mc, zLs cap Fs) := by
          rw [hw_2]; exact zput_tg hmc hfa (by simp)
        have h_10 : w_5.1 fa = some (166, mc, zLs cap Fs) := by
          rw [hw_6]; exact zput_tg h_4 h_9 (by simp)
        have h_11 : w_1.1 ca = some (138, mc, tTb 3 cc (ch.reverse.map (fun e => [(e.1 : Int), (e.2.1 : Int), (e.2.2 : Int)]))) := by
          rw [hw_2]; exact zput_tg hmc hca (by simp)
        have h_12 : w_5.1 ca = some (138, mc, tTb 3 cc (ch.reverse.map (fun e => [(e.1 : Int), (e.2.1 : Int), (e.2.2 : Int)]))) := by
          rw [hw_6]; exact zput_tg h_4 h_11 (by simp)
        have h_13 : w_1.1 ta = some (139, mc, tTb 2 ct (T.reverse.map (fun e => [(e.1 : Int), (e.2 : Int)]))) := by
          rw [hw_2]; exact zput_tg hmc hta (by simp)
        have h_14 : w_5.1 ta = some (139, mc, tTb 2 ct (T.reverse.map (fun e => [(e.1 : Int), (e.2 : Int)]))) := by
          rw [hw_6]; exact zput_tg h_4 h_13 (by simp)
        have h_15 : w_1.1 t = some (10, 0, [zI ty, zR tc, zR tn, zR th, zR tz]) := by
          rw [hw_2]; exact zput_tg hmc ht0 (by simp)
        have h_16 : w_5.1 t = some (10, 0, [zI ty, zR tc, zR tn, zR th, zR tz]) := by
          rw [hw_6]; exact zput_tg h_4 h_15 (by simp)
        have h_17 : w_1.1 tc = some (130, t, tTb 3 30 C) := by
          rw [hw_2]; exact zput_tg hmc htc (by simp)
        have h_18 : w_5.1 tc = some (130, t, tTb 3 30 C) := by
          rw [hw_6]; exact zput_tg h_4 h_17 (by simp)
        have h_19 : w_1.1 tn = some (131, t, tTb 4 800 N) := by
          rw [hw_2]; exact zput_tg hmc htn (by simp)
        have h_20 : w_5.1 tn = some (131, t, tTb 4 800 N) := by
          rw [hw_6]; exact zput_tg h_4 h_19 (by simp)
        have h_21 : w_1.1 th = some (132, t, tTb 1 64 H) := by
          rw [hw_2]; exact zput_tg hmc hth (by simp)
        have h_22 : w_5.1 th = some (132, t, tTb 1 64 H) := by
          rw [hw_6]; exact zput_tg h_4 h_21 (by simp)
        have h_23 : w_1.1 tz = some (120, t, Sz.map zJ) := by
          rw [hw_2]; exact zput_tg hmc htz (by simp)
        have h_24 : w_5.1 tz = some (120, t, Sz.map zJ) := by
          rw [hw_6]; exact zput_tg h_4 h_23 (by simp)
        have h_25 : w_1.1 rp = some (8, 0, [zP mo, zR ri, zR ra, zR rn, zI (ns : Int), zI (nc0 : Int), zI (dp0 : Int), zI en, zI bk, zI bc]) := by
          rw [hw_2]; exact zput_tg hmc hrp (by simp)
        have h_26 : w_5.1 rp = some (8, 0, [zP mo, zR ri, zR ra, zR rn, zI (ns : Int), zI (nc0 : Int), zI (dp0 : Int), zI en, zI bk, zI bc]) := by
          rw [hw_6]; exact zput_tg h_4 h_25 (by simp)
        have h_27 : w_1.1 ri = some (135, rp, tTb 1 3 I) := by
          rw [hw_2]; exact zput_tg hmc hri (by simp)
        have h_28 : w_5.1 ri = some (135, rp, tTb 1 3 I) := by
          rw [hw_6]; exact zput_tg h_4 h_27 (by simp)
        have h_29 : w_1.1 ra = some (136, rp, tTb 3 150 A) := by
          rw [hw_2]; exact zput_tg hmc hra (by simp)
        have h_30 : w_5.1 ra = some (136, rp, tTb 3 150 A) := by
          rw [hw_6]; exact zput_tg h_4 h_29 (by simp)
        have h_31 : w_1.1 rn = some (137, rp, tTb 2 160 (nt.map (fun e => [(e.1 : Int), (e.2 : Int)]))) := by
          rw [hw_2]; exact zput_tg hmc hrn (by simp)
        have h_32 : w_5.1 rn = some (137, rp, tTb 2 160 (nt.map (fun e => [(e.1 : Int), (e.2 : Int)]))) := by
          rw [hw_6]; exact zput_tg h_4 h_31 (by simp)
        have hM9 : mcW w_5 b1 b2 ((mc, fa, ca, ta), (t, tc, tn, th, tz), (rp, ri, ra, rn), (ty, C), (mo, I, bk, bc)) (((cap, Fs), fm), (cc, (ch.reverse.map (fun e => [(e.1 : Int), (e.2.1 : Int), (e.2.2 : Int)]))), (ct, (T.reverse.map (fun e => [(e.1 : Int), (e.2 : Int)]))), ((fr.length : Int), (oA Fs cur), (pl0 : Int), (oA Fs den)), ((if flb = true then 1 else 0), 1, 1), (N, H, Sz), (A, (nt.map (fun e => [(e.1 : Int), (e.2 : Int)])), (ns : Int), (nc0 : Int), (dp0 : Int), en)) := ⟨h_8, h_10, ⟨h_12, okC⟩, ⟨h_14, okT⟩, hFrr9, ⟨h_16, ⟨h_18, okTC⟩, ⟨h_20, okN⟩, ⟨h_22, okH⟩, h_24, hSz⟩, ⟨h_26, ⟨h_28, okI⟩, ⟨h_30, okA⟩, ⟨h_32, okNt⟩⟩, hcap, ⟨by omega, by omega, by omega, by omega⟩, by omega, by omega⟩
        exact ⟨rfl, ⟨cap, fm, cc, (ch.reverse.map (fun e => [(e.1 : Int), (e.2.1 : Int), (e.2.2 : Int)])), ct, (T.reverse.map (fun e => [(e.1 : Int), (e.2 : Int)])), (fr.length : Int), (oA Fs cur), (pl0 : Int), (oA Fs den), (if flb = true then 1 else 0), N, H, Sz, A, (nt.map (fun e => [(e.1 : Int), (e.2 : Int)])), (ns : Int), (nc0 : Int), (dp0 : Int), hM9, ⟨⟨(by first | rfl | omega | simp), hfl, hJ, hcn, hFS⟩, ⟨rfl, hcuL, (by first | rfl | omega), rfl, hdeL, rfl⟩, ⟨rfl, hchL⟩, ⟨rfl, hTL⟩, htm, ⟨hA, (by first | rfl | omega), (by first | rfl | omega), (by first | rfl | omega), rfl⟩⟩⟩, hmcF9⟩
    · rw [show mmEq V T tm i (gL (R.2.2.2.2.2.2 g)) = some (true, (mmAg V T i (smv (gL (R.2.2.2.2.2.2 g)) 0) (some (smB (gL (R.2.2.2.2.2.2 g)).2.1 ((V i (smv (gL (R.2.2.2.2.2.2 g)) 1)).getD (0, 0))))).2.1, (mmAg V T i (smv (gL (R.2.2.2.2.2.2 g)) 0) (some (smB (gL (R.2.2.2.2.2.2 g)).2.1 ((V i (smv (gL (R.2.2.2.2.2.2 g)) 1)).getD (0, 0))))).2.2, tm) by rw [hEq, if_pos (List.mem_of_getElem? hnn)]]
      have hvo : tvE tm (n : Int) (some (smB (gL (R.2.2.2.2.2.2 g)).2.1 ((V i (smv (gL (R.2.2.2.2.2.2 g)) 1)).getD (0, 0)))) := ⟨by omega, by rw [Int.toNat_natCast]; exact hnn⟩
      refine zx_aload_n (i := 2) dX4_build_0 rfl rfl ?_
      refine zx_getfield dX4_build_1 zf_X4_261 hgo rfl ?_
      refine zx_iconst (v := 1) dX4_build_4 rfl (z32_lit (by decide) (by decide)) ?_
      refine zx_icmp_le (tgt := 20) dX4_build_5 (by decide) (fun h5 => absurd h5 (by omega)) (fun h5 => ?_)
      refine zx_aload_n (i := 1) dX4_build_8 rfl rfl ?_
      refine zx_aload_n (i := 2) dX4_build_9 rfl rfl ?_
      refine zx_iconst (v := 1) dX4_build_10 rfl (z32_lit (by decide) (by decide)) ?_
      refine zx_iv (b := g) (As := [zI 1]) (st := [zR yi]) (v := (some (zI ((smv (gL (R.2.2.2.2.2.2 g)) 1 : Nat) : Int)))) (w1 := w) dX4_build_11 zc_X4_267 hgo rfl rfl rfl (Nat.le_of_ble_eq_true rfl) rfl (by have q := c_X3_variableAt (G := G) (d := d + 3) hgo hgv hgx (1 : Int); rw [show zVa (R.2.2.2.2.2.2 g).2.2.2.2 1 = _ from (go_v hg3 (k := 1) (by omega)).1] at q; exact q) ?_
      refine zx_st (st1 := [zI ((smv (gL (R.2.2.2.2.2.2 g)) 1 : Nat) : Int), zR yi]) rfl ?_
      refine zx_iv (b := yi) (As := [zI ((smv (gL (R.2.2.2.2.2.2 g)) 1 : Nat) : Int)]) (st := []) (v := (some (zI (f : Int)))) (w1 := w) dX4_build_14 zc_X4_203 hfy rfl rfl rfl (Nat.le_of_ble_eq_true rfl) rfl (by have q := c_X2_valueOf (G := G) (d := d + 3) hfy hva (by omega) ((smv (gL (R.2.2.2.2.2.2 g)) 1 : Nat) : Int); rw [ef] at q; exact q) ?_
      refine zx_st (st1 := [zI (f : Int)]) rfl ?_
      refine zx_goto (tgt := 21) dX4_build_17 (by decide) ?_
      refine zx_istore_n (i := 3) dX4_build_21 rfl (by decide) rfl ?_
      refine zx_L (L1 := [some (zR mc), some (zR yi), some (zR g), some (zI (f : Int)), none, none]) rfl ?_
      refine zx_pc (pc1 := 22) rfl ?_
      refine zx_aload_n (i := 2) dX4_build_22 rfl rfl ?_
      refine zx_getfield dX4_build_23 zf_X4_261 hgo rfl ?_
      refine zx_iconst (v := 2) dX4_build_26 rfl (z32_lit (by decide) (by decide)) ?_
      refine zx_icmp_le (tgt := 42) dX4_build_27 (by decide) (fun h27 => ?_) (fun h27 => absurd (by omega) h27)
      refine zx_iconst (v := 0) dX4_build_42 rfl (z32_lit (by decide) (by decide)) ?_
      refine zx_istore (i := 4) dX4_build_43 (by decide) rfl ?_
      refine zx_L (L1 := [some (zR mc), some (zR yi), some (zR g), some (zI (f : Int)), some (zI 0), none]) rfl ?_
      refine zx_aload_n (i := 0) dX4_build_45 rfl rfl ?_
      refine zx_getfield dX4_build_46 zf_X4_9 hmc rfl ?_
      refine zx_aload_n (i := 2) dX4_build_49 rfl rfl ?_
      refine zx_getfield dX4_build_50 zf_X4_209 hgo rfl ?_
      refine zx_iload_n (i := 3) dX4_build_53 rfl rfl ?_
      refine zx_iload (i := 4) dX4_build_54 rfl ?_
      refine zx_pc (pc1 := 56) rfl ?_
      refine zx_iv (b := t) (As := [zI ((gL (R.2.2.2.2.2.2 g)).2.1 : Int), zI (f : Int), zI 0]) (st := []) (v := (some (zI (n : Int)))) (w1 := w) dX4_build_56 zc_X4_298 ht0 rfl rfl rfl (Nat.le_of_ble_eq_true rfl) rfl (by have q := c_X10_makeOld (G := G) (d := d) ⟨ht0, ⟨htc, okTC⟩, ⟨htn, okN⟩, ⟨hth, okH⟩, htz, hSz⟩ ((gL (R.2.2.2.2.2.2 g)).2.1 : Int) (f : Int) 0 (Or.inl (by rw [hfd]; omega)); rw [hfd] at q; exact q) ?_
      refine zx_st (st1 := [zI (n : Int)]) rfl ?_
      refine zx_istore (i := 5) dX4_build_59 (by decide) rfl ?_
      refine zx_L (L1 := [some (zR mc), some (zR yi), some (zR g), some (zI (f : Int)), some (zI 0), some (zI (n : Int))]) rfl ?_
      refine zx_iload (i := 5) dX4_build_61 rfl ?_
      refine zx_iconst (v := -1) dX4_build_63 rfl (z32_lit (by decide) (by decide)) ?_
      refine zx_icmp_ne (tgt := 78) dX4_build_64 (by decide) (fun h64 => ?_) (fun h64 => absurd (by omega) h64)
      refine zx_aload_n (i := 0) dX4_build_78 rfl rfl ?_
      refine zx_aload_n (i := 1) dX4_build_79 rfl rfl ?_
      refine zx_aload_n (i := 2) dX4_build_80 rfl rfl ?_
      refine zx_iconst (v := 0) dX4_build_81 rfl (z32_lit (by decide) (by decide)) ?_
      refine zx_iv (b := g) (As := [zI 0]) (st := [zR yi, zR mc]) (v := (some (zI ((smv (gL (R.2.2.2.2.2.2 g)) 0 : Nat) : Int)))) (w1 := w) dX4_build_82 zc_X4_267 hgo rfl rfl rfl (Nat.le_of_ble_eq_true rfl) rfl (by have q := c_X3_variableAt (G := G) (d := d + 3) hgo hgv hgx (0 : Int); rw [show zVa (R.2.2.2.2.2.2 g).2.2.2.2 0 = _ from (go_v hg3 (k := 0) (by omega)).1] at q; exact q) ?_
      refine zx_st (st1 := [zI ((smv (gL (R.2.2.2.2.2.2 g)) 0 : Nat) : Int), zR yi, zR mc]) rfl ?_
      refine zx_iload (i := 5) dX4_build_85 rfl ?_
      refine zx_ivV (b := mc) (As := [zR yi, zI ((smv (gL (R.2.2.2.2.2.2 g)) 0 : Nat) : Int), zI (n : Int)]) (st := []) dX4_build_87 zc_X4_270 hmc rfl rfl rfl (Nat.le_of_ble_eq_true rfl) rfl (s_agrees hW hG1 hG2 hF3 (by omega) hif hi (go_v hg3 (k := 0) (by omega)).2 hvo) (fun v2 w2 hq => ?_)
      obtain ⟨ev2, hW2, hF2⟩ := hq
      subst ev2
      refine zx_pc (pc1 := 90) rfl ?_
      refine zx_pop dX4_build_90 (fun a h => by cases h) ?_
      refine zx_return dX4_build_91 rfl ?_
      exact ⟨rfl, hW2, hF2⟩
  · rw [if_neg h1] at hc2
    rcases tm_find htm (c := (gL (R.2.2.2.2.2.2 g)).2.1) (f := 0) (y := (V i (smv (gL (R.2.2.2.2.2.2 g)) 1)).getD (0, 0)) (fun q => absurd q h1) (fun _ => rfl) with ⟨hfd, hnm⟩ | ⟨n, hfd, hnn⟩
    · have hfd : tmFind N H ((gL (R.2.2.2.2.2.2 g)).2.1 : Int) 0 0 = -1 := hfd
      by_cases hl : tm.length < 200
      · rw [show mmEq V T tm i (gL (R.2.2.2.2.2.2 g)) = some (true, (mmAg V T i (smv (gL (R.2.2.2.2.2.2 g)) 0) (some (smB (gL (R.2.2.2.2.2.2 g)).2.1 ((V i (smv (gL (R.2.2.2.2.2.2 g)) 1)).getD (0, 0))))).2.1, (mmAg V T i (smv (gL (R.2.2.2.2.2.2 g)) 0) (some (smB (gL (R.2.2.2.2.2.2 g)).2.1 ((V i (smv (gL (R.2.2.2.2.2.2 g)) 1)).getD (0, 0))))).2.2, tm ++ [(smB (gL (R.2.2.2.2.2.2 g)).2.1 ((V i (smv (gL (R.2.2.2.2.2.2 g)) 1)).getD (0, 0)))]) by rw [hEq, if_neg hnm, if_pos hl]]
        have hnew := tm_new htm (c := (gL (R.2.2.2.2.2.2 g)).2.1) (f := 0) (y := (V i (smv (gL (R.2.2.2.2.2.2 g)) 1)).getD (0, 0)) hs3 (fun q => absurd q h1) (fun _ => rfl) hnm hl
        have hNl := htm.2.1
        have hvn : tvE (tm ++ [(smB (gL (R.2.2.2.2.2.2 g)).2.1 ((V i (smv (gL (R.2.2.2.2.2.2 g)) 1)).getD (0, 0)))]) (N.length : Int) (some (smB (gL (R.2.2.2.2.2.2 g)).2.1 ((V i (smv (gL (R.2.2.2.2.2.2 g)) 1)).getD (0, 0)))) := ⟨by omega, by rw [Int.toNat_natCast, hNl]; simp⟩
        refine zx_aload_n (i := 2) dX4_build_0 rfl rfl ?_
        refine zx_getfield dX4_build_1 zf_X4_261 hgo rfl ?_
        refine zx_iconst (v := 1) dX4_build_4 rfl (z32_lit (by decide) (by decide)) ?_
        refine zx_icmp_le (tgt := 20) dX4_build_5 (by decide) (fun h5 => ?_) (fun h5 => absurd (by omega) h5)
        refine zx_iconst (v := 0) dX4_build_20 rfl (z32_lit (by decide) (by decide)) ?_
        refine zx_istore_n (i := 3) dX4_build_21 rfl (by decide) rfl ?_
        refine zx_L (L1 := [some (zR mc), some (zR yi), some (zR g), some (zI 0), none, none]) rfl ?_
        refine zx_aload_n (i := 2) dX4_build_22 rfl rfl ?_
        refine zx_getfield dX4_build_23 zf_X4_261 hgo rfl ?_
        refine zx_iconst (v := 2) dX4_build_26 rfl (z32_lit (by decide) (by decide)) ?_
        refine zx_icmp_le (tgt := 42) dX4_build_27 (by decide) (fun h27 => ?_) (fun h27 => absurd (by omega) h27)
        refine zx_iconst (v := 0) dX4_build_42 rfl (z32_lit (by decide) (by decide)) ?_
        refine zx_pc (pc1 := 43) rfl ?_
        refine zx_istore (i := 4) dX4_build_43 (by decide) rfl ?_
        refine zx_L (L1 := [some (zR mc), some (zR yi), some (zR g), some (zI 0), some (zI 0), none]) rfl ?_
        refine zx_aload_n (i := 0) dX4_build_45 rfl rfl ?_
        refine zx_getfield dX4_build_46 zf_X4_9 hmc rfl ?_
        refine zx_aload_n (i := 2) dX4_build_49 rfl rfl ?_
        refine zx_getfield dX4_build_50 zf_X4_209 hgo rfl ?_
        refine zx_iload_n (i := 3) dX4_build_53 rfl rfl ?_
        refine zx_iload (i := 4) dX4_build_54 rfl ?_
        obtain ⟨w_1, hw_2⟩ : ∃ ww, ww = zput w tn (131, t, tTb 4 800 (N ++ [[((gL (R.2.2.2.2.2.2 g)).2.1 : Int), 0, 0, tg H (tmCh ((gL (R.2.2.2.2.2.2 g)).2.1 : Int) 0 0) 0]])) := ⟨_, rfl⟩
        have q_3 : w_1.2.1 = w.2.1 ∧ w_1.2.2 = w.2.2 := by rw [hw_2]; exact ⟨rfl, rfl⟩
        have h_4 : w_1.1 tn = some (131, t, tTb 4 800 (N ++ [[((gL (R.2.2.2.2.2.2 g)).2.1 : Int), 0, 0, tg H (tmCh ((gL (R.2.2.2.2.2.2 g)).2.1 : Int) 0 0) 0]])) := by rw [hw_2]; exact zput_at
        have h_5 : w_1.1 th = some (132, t, tTb 1 64 H) := by
          rw [hw_2]; exact zput_tg htn hth (by simp)
        obtain ⟨w_6, hw_7⟩ : ∃ ww, ww = zput w_1 th (132, t, tTb 1 64 (ts H (tmCh ((gL (R.2.2.2.2.2.2 g)).2.1 : Int) 0 0) 0 (N.length : Int))) := ⟨_, rfl⟩
        have q_8 : w_6.2.1 = w_1.2.1 ∧ w_6.2.2 = w_1.2.2 := by rw [hw_7]; exact ⟨rfl, rfl⟩
        have h_9 : w_6.1 th = some (132, t, tTb 1 64 (ts H (tmCh ((gL (R.2.2.2.2.2.2 g)).2.1 : Int) 0 0) 0 (N.length : Int))) := by rw [hw_7]; exact zput_at
        have h_10 : w_1.1 tz = some (120, t, Sz.map zJ) := by
          rw [hw_2]; exact zput_tg htn htz (by simp)
        have h_11 : w_6.1 tz = some (120, t, Sz.map zJ) := by
          rw [hw_7]; exact zput_tg h_5 h_10 (by simp)
        obtain ⟨w_12, hw_13⟩ : ∃ ww, ww = zput w_6 tz (120, t, (Sz.set N.length (tmNs C Sz ((gL (R.2.2.2.2.2.2 g)).2.1 : Int) 0 0)).map zJ) := ⟨_, rfl⟩
        have q_14 : w_12.2.1 = w_6.2.1 ∧ w_12.2.2 = w_6.2.2 := by rw [hw_13]; exact ⟨rfl, rfl⟩
        have h_15 : w_12.1 tz = some (120, t, (Sz.set N.length (tmNs C Sz ((gL (R.2.2.2.2.2.2 g)).2.1 : Int) 0 0)).map zJ) := by rw [hw_13]; exact zput_at
        refine zx_iv (b := t) (As := [zI ((gL (R.2.2.2.2.2.2 g)).2.1 : Int), zI 0, zI 0]) (st := []) (v := (some (zI (N.length : Int)))) (w1 := w_12) dX4_build_56 zc_X4_298 ht0 rfl rfl rfl (Nat.le_of_ble_eq_true rfl) rfl (by rw [hw_13]; rw [hw_7]; rw [hw_2]; exact (c_X10_makeNew ⟨ht0, ⟨htc, okTC⟩, ⟨htn, okN⟩, ⟨hth, okH⟩, htz, hSz⟩ ((gL (R.2.2.2.2.2.2 g)).2.1 : Int) 0 0 hfd (by omega))) ?_
        refine zx_st (st1 := [zI (N.length : Int)]) rfl ?_
        refine zx_istore (i := 5) dX4_build_59 (by decide) rfl ?_
        refine zx_L (L1 := [some (zR mc), some (zR yi), some (zR g), some (zI 0), some (zI 0), some (zI (N.length : Int))]) rfl ?_
        refine zx_iload (i := 5) dX4_build_61 rfl ?_
        refine zx_iconst (v := -1) dX4_build_63 rfl (z32_lit (by decide) (by decide)) ?_
        refine zx_icmp_ne (tgt := 78) dX4_build_64 (by decide) (fun h64 => ?_) (fun h64 => absurd (by omega) h64)
        refine zx_pc (pc1 := 78) rfl ?_
        refine zx_aload_n (i := 0) dX4_build_78 rfl rfl ?_
        refine zx_aload_n (i := 1) dX4_build_79 rfl rfl ?_
        refine zx_aload_n (i := 2) dX4_build_80 rfl rfl ?_
        refine zx_iconst (v := 0) dX4_build_81 rfl (z32_lit (by decide) (by decide)) ?_
        have h_16 : w_1.1 g = some (3, 0, [zI (R.2.2.2.2.2.2 g).1, zI ((gL (R.2.2.2.2.2.2 g)).2.1 : Int), zI (R.2.2.2.2.2.2 g).2.2.1, zR (R.2.2.2.2.2.2 g).2.2.2.1]) := by
          rw [hw_2]; exact zput_tg htn hgo (by simp)
        have h_17 : w_6.1 g = some (3, 0, [zI (R.2.2.2.2.2.2 g).1, zI ((gL (R.2.2.2.2.2.2 g)).2.1 : Int), zI (R.2.2.2.2.2.2 g).2.2.1, zR (R.2.2.2.2.2.2 g).2.2.2.1]) := by
          rw [hw_7]; exact zput_tg h_5 h_16 (by simp)
        have h_18 : w_12.1 g = some (3, 0, [zI (R.2.2.2.2.2.2 g).1, zI ((gL (R.2.2.2.2.2.2 g)).2.1 : Int), zI (R.2.2.2.2.2.2 g).2.2.1, zR (R.2.2.2.2.2.2 g).2.2.2.1]) := by
          rw [hw_13]; exact zput_tg h_11 h_17 (by simp)
        have h_19 : w_1.1 ((R.2.2.2.2.2.2 g).2.2.2.1) = some (100, g, (R.2.2.2.2.2.2 g).2.2.2.2.map Sum.inl) := by
          rw [hw_2]; exact zput_tg htn hgv (by simp)
        have h_20 : w_6.1 ((R.2.2.2.2.2.2 g).2.2.2.1) = some (100, g, (R.2.2.2.2.2.2 g).2.2.2.2.map Sum.inl) := by
          rw [hw_7]; exact zput_tg h_5 h_19 (by simp)
        have h_21 : w_12.1 ((R.2.2.2.2.2.2 g).2.2.2.1) = some (100, g, (R.2.2.2.2.2.2 g).2.2.2.2.map Sum.inl) := by
          rw [hw_13]; exact zput_tg h_11 h_20 (by simp)
        refine zx_iv (b := g) (As := [zI 0]) (st := [zR yi, zR mc]) (v := (some (zI ((smv (gL (R.2.2.2.2.2.2 g)) 0 : Nat) : Int)))) (w1 := w_12) dX4_build_82 zc_X4_267 h_18 rfl rfl rfl (Nat.le_of_ble_eq_true rfl) rfl (by have q := c_X3_variableAt (G := G) (d := d + 3) h_18 h_21 hgx (0 : Int); rw [show zVa (R.2.2.2.2.2.2 g).2.2.2.2 0 = _ from (go_v hg3 (k := 0) (by omega)).1] at q; exact q) ?_
        refine zx_st (st1 := [zI ((smv (gL (R.2.2.2.2.2.2 g)) 0 : Nat) : Int), zR yi, zR mc]) rfl ?_
        refine zx_iload (i := 5) dX4_build_85 rfl ?_
        have hfaL9 : zFa [tn, th, tz] w w_12 := (zFa_put (zFa_put (zFa_put zFa_re (by simp) hw_2) (by simp) hw_7) (by simp) hw_13)
        have hFrr9 := fm_keep hFr hfaL9 (zLc htn (by simp) (zLc hth (by simp) (zLc htz (by simp) zLn)))
        have hmcF9 : mcF rp w w_12 := mcF_fa hfaL9 (zLc htn (by simp [mcP]) (zLc hth (by simp [mcP]) (zLc htz (by simp [mcP]) zLn)))
        have h_22 : w_1.1 mc = some (4, 0, [zR t, zR fa, zR ca, zR ta, zR rp, zI (fr.length : Int), zP (oA Fs cur), zI (pl0 : Int), zP (oA Fs den), zI (if flb = true then 1 else 0), zI ov, zI fu]) := by
          rw [hw_2]; exact zput_tg htn hmc (by simp)
        have h_23 : w_6.1 mc = some (4, 0, [zR t, zR fa, zR ca, zR ta, zR rp, zI (fr.length : Int), zP (oA Fs cur), zI (pl0 : Int), zP (oA Fs den), zI (if flb = true then 1 else 0), zI ov, zI fu]) := by
          rw [hw_7]; exact zput_tg h_5 h_22 (by simp)
        have h_24 : w_12.1 mc = some (4, 0, [zR t, zR fa, zR ca, zR ta, zR rp, zI (fr.length : Int), zP (oA Fs cur), zI (pl0 : Int), zP (oA Fs den), zI (if flb = true then 1 else 0), zI ov, zI fu]) := by
          rw [hw_13]; exact zput_tg h_11 h_23 (by simp)
        have h_25 : w_1.1 fa = some (166, mc, zLs cap Fs) := by
          rw [hw_2]; exact zput_tg htn hfa (by simp)
        have h_26 : w_6.1 fa = some (166, mc, zLs cap Fs) := by
          rw [hw_7]; exact zput_tg h_5 h_25 (by simp)
        have h_27 : w_12.1 fa = some (166, mc, zLs cap Fs) := by
          rw [hw_13]; exact zput_tg h_11 h_26 (by simp)
        have h_28 : w_1.1 ca = some (138, mc, tTb 3 cc (ch.reverse.map (fun e => [(e.1 : Int), (e.2.1 : Int), (e.2.2 : Int)]))) := by
          rw [hw_2]; exact zput_tg htn hca (by simp)
        have h_29 : w_6.1 ca = some (138, mc, tTb 3 cc (ch.reverse.map (fun e => [(e.1 : Int), (e.2.1 : Int), (e.2.2 : Int)]))) := by
          rw [hw_7]; exact zput_tg h_5 h_28 (by simp)
        have h_30 : w_12.1 ca = some (138, mc, tTb 3 cc (ch.reverse.map (fun e => [(e.1 : Int), (e.2.1 : Int), (e.2.2 : Int)]))) := by
          rw [hw_13]; exact zput_tg h_11 h_29 (by simp)
        have h_31 : w_1.1 ta = some (139, mc, tTb 2 ct (T.reverse.map (fun e => [(e.1 : Int), (e.2 : Int)]))) := by
          rw [hw_2]; exact zput_tg htn hta (by simp)
        have h_32 : w_6.1 ta = some (139, mc, tTb 2 ct (T.reverse.map (fun e => [(e.1 : Int), (e.2 : Int)]))) := by
          rw [hw_7]; exact zput_tg h_5 h_31 (by simp)
        have h_33 : w_12.1 ta = some (139, mc, tTb 2 ct (T.reverse.map (fun e => [(e.1 : Int), (e.2 : Int)]))) := by
          rw [hw_13]; exact zput_tg h_11 h_32 (by simp)
        have h_34 : w_1.1 t = some (10, 0, [zI ty, zR tc, zR tn, zR th, zR tz]) := by
          rw [hw_2]; exact zput_tg htn ht0 (by simp)
        have h_35 : w_6.1 t = some (10, 0, [zI ty, zR tc, zR tn, zR th, zR tz]) := by
          rw [hw_7]; exact zput_tg h_5 h_34 (by simp)
        have h_36 : w_12.1 t = some (10, 0, [zI ty, zR tc, zR tn, zR th, zR tz]) := by
          rw [hw_13]; exact zput_tg h_11 h_35 (by simp)
        have h_37 : w_1.1 tc = some (130, t, tTb 3 30 C) := by
          rw [hw_2]; exact zput_tg htn htc (by simp)
        have h_38 : w_6.1 tc = some (130, t, tTb 3 30 C) := by
          rw [hw_7]; exact zput_tg h_5 h_37 (by simp)
        have h_39 : w_12.1 tc = some (130, t, tTb 3 30 C) := by
          rw [hw_13]; exact zput_tg h_11 h_38 (by simp)
        have h_40 : w_6.1 tn = some (131, t, tTb 4 800 (N ++ [[((gL (R.2.2.2.2.2.2 g)).2.1 : Int), 0, 0, tg H (tmCh ((gL (R.2.2.2.2.2.2 g)).2.1 : Int) 0 0) 0]])) := by
          rw [hw_7]; exact zput_tg h_5 h_4 (by simp)
        have h_41 : w_12.1 tn = some (131, t, tTb 4 800 (N ++ [[((gL (R.2.2.2.2.2.2 g)).2.1 : Int), 0, 0, tg H (tmCh ((gL (R.2.2.2.2.2.2 g)).2.1 : Int) 0 0) 0]])) := by
          rw [hw_13]; exact zput_tg h_11 h_40 (by simp)
        have h_42 : w_12.1 th = some (132, t, tTb 1 64 (ts H (tmCh ((gL (R.2.2.2.2.2.2 g)).2.1 : Int) 0 0) 0 (N.length : Int))) := by
          rw [hw_13]; exact zput_tg h_11 h_9 (by simp)
        have h_43 : w_1.1 rp = some (8, 0, [zP mo, zR ri, zR ra, zR rn, zI (ns : Int), zI (nc0 : Int), zI (dp0 : Int), zI en, zI bk, zI bc]) := by
          rw [hw_2]; exact zput_tg htn hrp (by simp)
        have h_44 : w_6.1 rp = some (8, 0, [zP mo, zR ri, zR ra, zR rn, zI (ns : Int), zI (nc0 : Int), zI (dp0 : Int), zI en, zI bk, zI bc]) := by
          rw [hw_7]; exact zput_tg h_5 h_43 (by simp)
        have h_45 : w_12.1 rp = some (8, 0, [zP mo, zR ri, zR ra, zR rn, zI (ns : Int), zI (nc0 : Int), zI (dp0 : Int), zI en, zI bk, zI bc]) := by
          rw [hw_13]; exact zput_tg h_11 h_44 (by simp)
        have h_46 : w_1.1 ri = some (135, rp, tTb 1 3 I) := by
          rw [hw_2]; exact zput_tg htn hri (by simp)
        have h_47 : w_6.1 ri = some (135, rp, tTb 1 3 I) := by
          rw [hw_7]; exact zput_tg h_5 h_46 (by simp)
        have h_48 : w_12.1 ri = some (135, rp, tTb 1 3 I) := by
          rw [hw_13]; exact zput_tg h_11 h_47 (by simp)
        have h_49 : w_1.1 ra = some (136, rp, tTb 3 150 A) := by
          rw [hw_2]; exact zput_tg htn hra (by simp)
        have h_50 : w_6.1 ra = some (136, rp, tTb 3 150 A) := by
          rw [hw_7]; exact zput_tg h_5 h_49 (by simp)
        have h_51 : w_12.1 ra = some (136, rp, tTb 3 150 A) := by
          rw [hw_13]; exact zput_tg h_11 h_50 (by simp)
        have h_52 : w_1.1 rn = some (137, rp, tTb 2 160 (nt.map (fun e => [(e.1 : Int), (e.2 : Int)]))) := by
          rw [hw_2]; exact zput_tg htn hrn (by simp)
        have h_53 : w_6.1 rn = some (137, rp, tTb 2 160 (nt.map (fun e => [(e.1 : Int), (e.2 : Int)]))) := by
          rw [hw_7]; exact zput_tg h_5 h_52 (by simp)
        have h_54 : w_12.1 rn = some (137, rp, tTb 2 160 (nt.map (fun e => [(e.1 : Int), (e.2 : Int)]))) := by
          rw [hw_13]; exact zput_tg h_11 h_53 (by simp)
        have hM9 : mcW w_12 b1 b2 ((mc, fa, ca, ta), (t, tc, tn, th, tz), (rp, ri, ra, rn), (ty, C), (mo, I, bk, bc)) (((cap, Fs), fm), (cc, (ch.reverse.map (fun e => [(e.1 : Int), (e.2.1 : Int), (e.2.2 : Int)]))), (ct, (T.reverse.map (fun e => [(e.1 : Int), (e.2 : Int)]))), ((fr.length : Int), (oA Fs cur), (pl0 : Int), (oA Fs den)), ((if flb = true then 1 else 0), ov, fu), ((N ++ [[((gL (R.2.2.2.2.2.2 g)).2.1 : Int), 0, 0, tg H (tmCh ((gL (R.2.2.2.2.2.2 g)).2.1 : Int) 0 0) 0]]), (ts H (tmCh ((gL (R.2.2.2.2.2.2 g)).2.1 : Int) 0 0) 0 (N.length : Int)), (Sz.set N.length (tmNs C Sz ((gL (R.2.2.2.2.2.2 g)).2.1 : Int) 0 0))), (A, (nt.map (fun e => [(e.1 : Int), (e.2 : Int)])), (ns : Int), (nc0 : Int), (dp0 : Int), en)) := ⟨h_24, h_27, ⟨h_30, okC⟩, ⟨h_33, okT⟩, hFrr9, ⟨h_36, ⟨h_39, okTC⟩, ⟨h_41, (tOk_app okN (by rfl))⟩, ⟨h_42, (tOk_ts okH)⟩, h_15, (by rw [List.length_set]; exact hSz)⟩, ⟨h_45, ⟨h_48, okI⟩, ⟨h_51, okA⟩, ⟨h_54, okNt⟩⟩, hcap, ⟨by omega, by omega, by omega, by omega⟩, by omega, by omega⟩
        have hW9 : msW w_12 b1 b2 ((mc, fa, ca, ta), (t, tc, tn, th, tz), (rp, ri, ra, rn), (ty, C), (mo, I, bk, bc)) R Fs (ov, fu, en) ((fr, cls, V, ch, T), (cur, pl0, den, flb), (tm ++ [(smB (gL (R.2.2.2.2.2.2 g)).2.1 ((V i (smv (gL (R.2.2.2.2.2.2 g)) 1)).getD (0, 0)))]), (na, ns, nc0, dp0), nt) := ⟨cap, fm, cc, (ch.reverse.map (fun e => [(e.1 : Int), (e.2.1 : Int), (e.2.2 : Int)])), ct, (T.reverse.map (fun e => [(e.1 : Int), (e.2 : Int)])), (fr.length : Int), (oA Fs cur), (pl0 : Int), (oA Fs den), (if flb = true then 1 else 0), (N ++ [[((gL (R.2.2.2.2.2.2 g)).2.1 : Int), 0, 0, tg H (tmCh ((gL (R.2.2.2.2.2.2 g)).2.1 : Int) 0 0) 0]]), (ts H (tmCh ((gL (R.2.2.2.2.2.2 g)).2.1 : Int) 0 0) 0 (N.length : Int)), (Sz.set N.length (tmNs C Sz ((gL (R.2.2.2.2.2.2 g)).2.1 : Int) 0 0)), A, (nt.map (fun e => [(e.1 : Int), (e.2 : Int)])), (ns : Int), (nc0 : Int), (dp0 : Int), hM9, ⟨⟨(by first | rfl | omega | simp), hfl, hJ, hcn, (fsR_tm hFS)⟩, ⟨rfl, hcuL, (by first | rfl | omega), rfl, hdeL, rfl⟩, ⟨rfl, hchL⟩, ⟨rfl, hTL⟩, (by rw [hC]; exact hnew), ⟨hA, (by first | rfl | omega), (by first | rfl | omega), (by first | rfl | omega), rfl⟩⟩⟩
        refine zx_ivV (b := mc) (As := [zR yi, zI ((smv (gL (R.2.2.2.2.2.2 g)) 0 : Nat) : Int), zI (N.length : Int)]) (st := []) dX4_build_87 zc_X4_270 h_24 rfl rfl rfl (Nat.le_of_ble_eq_true rfl) rfl (s_agrees hW9 hG1 hG2 hF3 (by omega) hif hi (go_v hg3 (k := 0) (by omega)).2 hvn) (fun v2 w2 hq => ?_)
        obtain ⟨ev2, hW2, hF2⟩ := hq
        subst ev2
        refine zx_pop dX4_build_90 (fun a h => by cases h) ?_
        refine zx_return dX4_build_91 rfl ?_
        exact ⟨rfl, hW2, mcF_tr hmcF9 hF2⟩
      · rw [show mmEq V T tm i (gL (R.2.2.2.2.2.2 g)) = none by rw [hEq, if_neg hnm, if_neg hl]]
        have hNl := htm.2.1
        refine zx_aload_n (i := 2) dX4_build_0 rfl rfl ?_
        refine zx_getfield dX4_build_1 zf_X4_261 hgo rfl ?_
        refine zx_iconst (v := 1) dX4_build_4 rfl (z32_lit (by decide) (by decide)) ?_
        refine zx_icmp_le (tgt := 20) dX4_build_5 (by decide) (fun h5 => ?_) (fun h5 => absurd (by omega) h5)
        refine zx_iconst (v := 0) dX4_build_20 rfl (z32_lit (by decide) (by decide)) ?_
        refine zx_istore_n (i := 3) dX4_build_21 rfl (by decide) rfl ?_
        refine zx_L (L1 := [some (zR mc), some (zR yi), some (zR g), some (zI 0), none, none]) rfl ?_
        refine zx_aload_n (i := 2) dX4_build_22 rfl rfl ?_
        refine zx_getfield dX4_build_23 zf_X4_261 hgo rfl ?_
        refine zx_iconst (v := 2) dX4_build_26 rfl (z32_lit (by decide) (by decide)) ?_
        refine zx_icmp_le (tgt := 42) dX4_build_27 (by decide) (fun h27 => ?_) (fun h27 => absurd (by omega) h27)
        refine zx_iconst (v := 0) dX4_build_42 rfl (z32_lit (by decide) (by decide)) ?_
        refine zx_pc (pc1 := 43) rfl ?_
        refine zx_istore (i := 4) dX4_build_43 (by decide) rfl ?_
        refine zx_L (L1 := [some (zR mc), some (zR yi), some (zR g), some (zI 0), some (zI 0), none]) rfl ?_
        refine zx_aload_n (i := 0) dX4_build_45 rfl rfl ?_
        refine zx_getfield dX4_build_46 zf_X4_9 hmc rfl ?_
        refine zx_aload_n (i := 2) dX4_build_49 rfl rfl ?_
        refine zx_getfield dX4_build_50 zf_X4_209 hgo rfl ?_
        refine zx_iload_n (i := 3) dX4_build_53 rfl rfl ?_
        refine zx_iload (i := 4) dX4_build_54 rfl ?_
        refine zx_iv (b := t) (As := [zI ((gL (R.2.2.2.2.2.2 g)).2.1 : Int), zI 0, zI 0]) (st := []) (v := (some (zI (-1)))) (w1 := w) dX4_build_56 zc_X4_298 ht0 rfl rfl rfl (Nat.le_of_ble_eq_true rfl) rfl (by have q := c_X10_makeOld (G := G) (d := d) ⟨ht0, ⟨htc, okTC⟩, ⟨htn, okN⟩, ⟨hth, okH⟩, htz, hSz⟩ ((gL (R.2.2.2.2.2.2 g)).2.1 : Int) 0 0 (Or.inr (by omega)); rw [hfd] at q; exact q) ?_
        refine zx_st (st1 := [zI (-1)]) rfl ?_
        refine zx_istore (i := 5) dX4_build_59 (by decide) rfl ?_
        refine zx_L (L1 := [some (zR mc), some (zR yi), some (zR g), some (zI 0), some (zI 0), some (zI (-1))]) rfl ?_
        refine zx_iload (i := 5) dX4_build_61 rfl ?_
        refine zx_iconst (v := -1) dX4_build_63 rfl (z32_lit (by decide) (by decide)) ?_
        refine zx_icmp_ne (tgt := 78) dX4_build_64 (by decide) (fun h64 => absurd h64 (by decide)) (fun h64 => ?_)
        refine zx_pc (pc1 := 67) rfl ?_
        refine zx_aload_n (i := 0) dX4_build_67 rfl rfl ?_
        refine zx_iconst (v := 1) dX4_build_68 rfl (z32_lit (by decide) (by decide)) ?_
        obtain ⟨w_1, hw_2⟩ : ∃ ww, ww = zput w mc (4, 0, [zR t, zR fa, zR ca, zR ta, zR rp, zI (fr.length : Int), zP (oA Fs cur), zI (pl0 : Int), zP (oA Fs den), zI (if flb = true then 1 else 0), zI ov, zI 1]) := ⟨_, rfl⟩
        refine zx_put (w1 := w_1) dX4_build_69 zf_X4_100 hmc (Nat.le_of_ble_eq_true rfl) (zFt_bool (by first | exact Or.inl rfl | exact Or.inr rfl | exact zB_or | assumption)) (fun h => by cases h) hw_2.symm ?_
        have q_3 : w_1.2.1 = w.2.1 ∧ w_1.2.2 = w.2.2 := by rw [hw_2]; exact ⟨rfl, rfl⟩
        have h_4 : w_1.1 mc = some (4, 0, [zR t, zR fa, zR ca, zR ta, zR rp, zI (fr.length : Int), zP (oA Fs cur), zI (pl0 : Int), zP (oA Fs den), zI (if flb = true then 1 else 0), zI ov, zI 1]) := by rw [hw_2]; exact zput_at
        refine zx_aload_n (i := 0) dX4_build_72 rfl rfl ?_
        refine zx_iconst (v := 1) dX4_build_73 rfl (z32_lit (by decide) (by decide)) ?_
        obtain ⟨w_5, hw_6⟩ : ∃ ww, ww = zput w_1 mc (4, 0, [zR t, zR fa, zR ca, zR ta, zR rp, zI (fr.length : Int), zP (oA Fs cur), zI (pl0 : Int), zP (oA Fs den), zI (if flb = true then 1 else 0), zI 1, zI 1]) := ⟨_, rfl⟩
        refine zx_put (w1 := w_5) dX4_build_74 zf_X4_49 h_4 (Nat.le_of_ble_eq_true rfl) (zFt_bool (by first | exact Or.inl rfl | exact Or.inr rfl | exact zB_or | assumption)) (fun h => by cases h) hw_6.symm ?_
        have q_7 : w_5.2.1 = w_1.2.1 ∧ w_5.2.2 = w_1.2.2 := by rw [hw_6]; exact ⟨rfl, rfl⟩
        have h_8 : w_5.1 mc = some (4, 0, [zR t, zR fa, zR ca, zR ta, zR rp, zI (fr.length : Int), zP (oA Fs cur), zI (pl0 : Int), zP (oA Fs den), zI (if flb = true then 1 else 0), zI 1, zI 1]) := by rw [hw_6]; exact zput_at
        refine zx_return dX4_build_77 rfl ?_
        have hfaL9 : zFa [mc] w w_5 := (zFa_put (zFa_put zFa_re (by simp) hw_2) (by simp) hw_6)
        have hFrr9 := fm_keep hFr hfaL9 (zLc hmc (by simp) zLn)
        have hmcF9 : mcF rp w w_5 := mcF_fa hfaL9 (zLc hmc (by simp [mcP]) zLn)
        have h_9 : w_1.1 fa = some (166, mc, zLs cap Fs) := by
          rw [hw_2]; exact zput_tg hmc hfa (by simp)
        have h_10 : w_5.1 fa = some (166, mc, zLs cap Fs) := by
          rw [hw_6]; exact zput_tg h_4 h_9 (by simp)
        have h_11 : w_1.1 ca = some (138, mc, tTb 3 cc (ch.reverse.map (fun e => [(e.1 : Int), (e.2.1 : Int), (e.2.2 : Int)]))) := by
          rw [hw_2]; exact zput_tg hmc hca (by simp)
        have h_12 : w_5.1 ca = some (138, mc, tTb 3 cc (ch.reverse.map (fun e => [(e.1 : Int), (e.2.1 : Int), (e.2.2 : Int)]))) := by
          rw [hw_6]; exact zput_tg h_4 h_11 (by simp)
        have h_13 : w_1.1 ta = some (139, mc, tTb 2 ct (T.reverse.map (fun e => [(e.1 : Int), (e.2 : Int)]))) := by
          rw [hw_2]; exact zput_tg hmc hta (by simp)
        have h_14 : w_5.1 ta = some (139, mc, tTb 2 ct (T.reverse.map (fun e => [(e.1 : Int), (e.2 : Int)]))) := by
          rw [hw_6]; exact zput_tg h_4 h_13 (by simp)
        have h_15 : w_1.1 t = some (10, 0, [zI ty, zR tc, zR tn, zR th, zR tz]) := by
          rw [hw_2]; exact zput_tg hmc ht0 (by simp)
        have h_16 : w_5.1 t = some (10, 0, [zI ty, zR tc, zR tn, zR th, zR tz]) := by
          rw [hw_6]; exact zput_tg h_4 h_15 (by simp)
        have h_17 : w_1.1 tc = some (130, t, tTb 3 30 C) := by
          rw [hw_2]; exact zput_tg hmc htc (by simp)
        have h_18 : w_5.1 tc = some (130, t, tTb 3 30 C) := by
          rw [hw_6]; exact zput_tg h_4 h_17 (by simp)
        have h_19 : w_1.1 tn = some (131, t, tTb 4 800 N) := by
          rw [hw_2]; exact zput_tg hmc htn (by simp)
        have h_20 : w_5.1 tn = some (131, t, tTb 4 800 N) := by
          rw [hw_6]; exact zput_tg h_4 h_19 (by simp)
        have h_21 : w_1.1 th = some (132, t, tTb 1 64 H) := by
          rw [hw_2]; exact zput_tg hmc hth (by simp)
        have h_22 : w_5.1 th = some (132, t, tTb 1 64 H) := by
          rw [hw_6]; exact zput_tg h_4 h_21 (by simp)
        have h_23 : w_1.1 tz = some (120, t, Sz.map zJ) := by
          rw [hw_2]; exact zput_tg hmc htz (by simp)
        have h_24 : w_5.1 tz = some (120, t, Sz.map zJ) := by
          rw [hw_6]; exact zput_tg h_4 h_23 (by simp)
        have h_25 : w_1.1 rp = some (8, 0, [zP mo, zR ri, zR ra, zR rn, zI (ns : Int), zI (nc0 : Int), zI (dp0 : Int), zI en, zI bk, zI bc]) := by
          rw [hw_2]; exact zput_tg hmc hrp (by simp)
        have h_26 : w_5.1 rp = some (8, 0, [zP mo, zR ri, zR ra, zR rn, zI (ns : Int), zI (nc0 : Int), zI (dp0 : Int), zI en, zI bk, zI bc]) := by
          rw [hw_6]; exact zput_tg h_4 h_25 (by simp)
        have h_27 : w_1.1 ri = some (135, rp, tTb 1 3 I) := by
          rw [hw_2]; exact zput_tg hmc hri (by simp)
        have h_28 : w_5.1 ri = some (135, rp, tTb 1 3 I) := by
          rw [hw_6]; exact zput_tg h_4 h_27 (by simp)
        have h_29 : w_1.1 ra = some (136, rp, tTb 3 150 A) := by
          rw [hw_2]; exact zput_tg hmc hra (by simp)
        have h_30 : w_5.1 ra = some (136, rp, tTb 3 150 A) := by
          rw [hw_6]; exact zput_tg h_4 h_29 (by simp)
        have h_31 : w_1.1 rn = some (137, rp, tTb 2 160 (nt.map (fun e => [(e.1 : Int), (e.2 : Int)]))) := by
          rw [hw_2]; exact zput_tg hmc hrn (by simp)
        have h_32 : w_5.1 rn = some (137, rp, tTb 2 160 (nt.map (fun e => [(e.1 : Int), (e.2 : Int)]))) := by
          rw [hw_6]; exact zput_tg h_4 h_31 (by simp)
        have hM9 : mcW w_5 b1 b2 ((mc, fa, ca, ta), (t, tc, tn, th, tz), (rp, ri, ra, rn), (ty, C), (mo, I, bk, bc)) (((cap, Fs), fm), (cc, (ch.reverse.map (fun e => [(e.1 : Int), (e.2.1 : Int), (e.2.2 : Int)]))), (ct, (T.reverse.map (fun e => [(e.1 : Int), (e.2 : Int)]))), ((fr.length : Int), (oA Fs cur), (pl0 : Int), (oA Fs den)), ((if flb = true then 1 else 0), 1, 1), (N, H, Sz), (A, (nt.map (fun e => [(e.1 : Int), (e.2 : Int)])), (ns : Int), (nc0 : Int), (dp0 : Int), en)) := ⟨h_8, h_10, ⟨h_12, okC⟩, ⟨h_14, okT⟩, hFrr9, ⟨h_16, ⟨h_18, okTC⟩, ⟨h_20, okN⟩, ⟨h_22, okH⟩, h_24, hSz⟩, ⟨h_26, ⟨h_28, okI⟩, ⟨h_30, okA⟩, ⟨h_32, okNt⟩⟩, hcap, ⟨by omega, by omega, by omega, by omega⟩, by omega, by omega⟩
        exact ⟨rfl, ⟨cap, fm, cc, (ch.reverse.map (fun e => [(e.1 : Int), (e.2.1 : Int), (e.2.2 : Int)])), ct, (T.reverse.map (fun e => [(e.1 : Int), (e.2 : Int)])), (fr.length : Int), (oA Fs cur), (pl0 : Int), (oA Fs den), (if flb = true then 1 else 0), N, H, Sz, A, (nt.map (fun e => [(e.1 : Int), (e.2 : Int)])), (ns : Int), (nc0 : Int), (dp0 : Int), hM9, ⟨⟨(by first | rfl | omega | simp), hfl, hJ, hcn, hFS⟩, ⟨rfl, hcuL, (by first | rfl | omega), rfl, hdeL, rfl⟩, ⟨rfl, hchL⟩, ⟨rfl, hTL⟩, htm, ⟨hA, (by first | rfl | omega), (by first | rfl | omega), (by first | rfl | omega), rfl⟩⟩⟩, hmcF9⟩
    · have hfd : tmFind N H ((gL (R.2.2.2.2.2.2 g)).2.1 : Int) 0 0 = (n : Int) := hfd
      rw [show mmEq V T tm i (gL (R.2.2.2.2.2.2 g)) = some (true, (mmAg V T i (smv (gL (R.2.2.2.2.2.2 g)) 0) (some (smB (gL (R.2.2.2.2.2.2 g)).2.1 ((V i (smv (gL (R.2.2.2.2.2.2 g)) 1)).getD (0, 0))))).2.1, (mmAg V T i (smv (gL (R.2.2.2.2.2.2 g)) 0) (some (smB (gL (R.2.2.2.2.2.2 g)).2.1 ((V i (smv (gL (R.2.2.2.2.2.2 g)) 1)).getD (0, 0))))).2.2, tm) by rw [hEq, if_pos (List.mem_of_getElem? hnn)]]
      have hvo : tvE tm (n : Int) (some (smB (gL (R.2.2.2.2.2.2 g)).2.1 ((V i (smv (gL (R.2.2.2.2.2.2 g)) 1)).getD (0, 0)))) := ⟨by omega, by rw [Int.toNat_natCast]; exact hnn⟩
      refine zx_aload_n (i := 2) dX4_build_0 rfl rfl ?_
      refine zx_getfield dX4_build_1 zf_X4_261 hgo rfl ?_
      refine zx_iconst (v := 1) dX4_build_4 rfl (z32_lit (by decide) (by decide)) ?_
      refine zx_icmp_le (tgt := 20) dX4_build_5 (by decide) (fun h5 => ?_) (fun h5 => absurd (by omega) h5)
      refine zx_iconst (v := 0) dX4_build_20 rfl (z32_lit (by decide) (by decide)) ?_
      refine zx_istore_n (i := 3) dX4_build_21 rfl (by decide) rfl ?_
      refine zx_L (L1 := [some (zR mc), some (zR yi), some (zR g), some (zI 0), none, none]) rfl ?_
      refine zx_aload_n (i := 2) dX4_build_22 rfl rfl ?_
      refine zx_getfield dX4_build_23 zf_X4_261 hgo rfl ?_
      refine zx_iconst (v := 2) dX4_build_26 rfl (z32_lit (by decide) (by decide)) ?_
      refine zx_icmp_le (tgt := 42) dX4_build_27 (by decide) (fun h27 => ?_) (fun h27 => absurd (by omega) h27)
      refine zx_iconst (v := 0) dX4_build_42 rfl (z32_lit (by decide) (by decide)) ?_
      refine zx_pc (pc1 := 43) rfl ?_
      refine zx_istore (i := 4) dX4_build_43 (by decide) rfl ?_
      refine zx_L (L1 := [some (zR mc), some (zR yi), some (zR g), some (zI 0), some (zI 0), none]) rfl ?_
      refine zx_aload_n (i := 0) dX4_build_45 rfl rfl ?_
      refine zx_getfield dX4_build_46 zf_X4_9 hmc rfl ?_
      refine zx_aload_n (i := 2) dX4_build_49 rfl rfl ?_
      refine zx_getfield dX4_build_50 zf_X4_209 hgo rfl ?_
      refine zx_iload_n (i := 3) dX4_build_53 rfl rfl ?_
      refine zx_iload (i := 4) dX4_build_54 rfl ?_
      refine zx_iv (b := t) (As := [zI ((gL (R.2.2.2.2.2.2 g)).2.1 : Int), zI 0, zI 0]) (st := []) (v := (some (zI (n : Int)))) (w1 := w) dX4_build_56 zc_X4_298 ht0 rfl rfl rfl (Nat.le_of_ble_eq_true rfl) rfl (by have q := c_X10_makeOld (G := G) (d := d) ⟨ht0, ⟨htc, okTC⟩, ⟨htn, okN⟩, ⟨hth, okH⟩, htz, hSz⟩ ((gL (R.2.2.2.2.2.2 g)).2.1 : Int) 0 0 (Or.inl (by rw [hfd]; omega)); rw [hfd] at q; exact q) ?_
      refine zx_st (st1 := [zI (n : Int)]) rfl ?_
      refine zx_istore (i := 5) dX4_build_59 (by decide) rfl ?_
      refine zx_L (L1 := [some (zR mc), some (zR yi), some (zR g), some (zI 0), some (zI 0), some (zI (n : Int))]) rfl ?_
      refine zx_iload (i := 5) dX4_build_61 rfl ?_
      refine zx_iconst (v := -1) dX4_build_63 rfl (z32_lit (by decide) (by decide)) ?_
      refine zx_icmp_ne (tgt := 78) dX4_build_64 (by decide) (fun h64 => ?_) (fun h64 => absurd (by omega) h64)
      refine zx_pc (pc1 := 78) rfl ?_
      refine zx_aload_n (i := 0) dX4_build_78 rfl rfl ?_
      refine zx_aload_n (i := 1) dX4_build_79 rfl rfl ?_
      refine zx_aload_n (i := 2) dX4_build_80 rfl rfl ?_
      refine zx_iconst (v := 0) dX4_build_81 rfl (z32_lit (by decide) (by decide)) ?_
      refine zx_iv (b := g) (As := [zI 0]) (st := [zR yi, zR mc]) (v := (some (zI ((smv (gL (R.2.2.2.2.2.2 g)) 0 : Nat) : Int)))) (w1 := w) dX4_build_82 zc_X4_267 hgo rfl rfl rfl (Nat.le_of_ble_eq_true rfl) rfl (by have q := c_X3_variableAt (G := G) (d := d + 3) hgo hgv hgx (0 : Int); rw [show zVa (R.2.2.2.2.2.2 g).2.2.2.2 0 = _ from (go_v hg3 (k := 0) (by omega)).1] at q; exact q) ?_
      refine zx_st (st1 := [zI ((smv (gL (R.2.2.2.2.2.2 g)) 0 : Nat) : Int), zR yi, zR mc]) rfl ?_
      refine zx_iload (i := 5) dX4_build_85 rfl ?_
      refine zx_ivV (b := mc) (As := [zR yi, zI ((smv (gL (R.2.2.2.2.2.2 g)) 0 : Nat) : Int), zI (n : Int)]) (st := []) dX4_build_87 zc_X4_270 hmc rfl rfl rfl (Nat.le_of_ble_eq_true rfl) rfl (s_agrees hW hG1 hG2 hF3 (by omega) hif hi (go_v hg3 (k := 0) (by omega)).2 hvo) (fun v2 w2 hq => ?_)
      obtain ⟨ev2, hW2, hF2⟩ := hq
      subst ev2
      refine zx_pop dX4_build_90 (fun a h => by cases h) ?_
      refine zx_return dX4_build_91 rfl ?_
      exact ⟨rfl, hW2, hF2⟩
end SBD
