/-! Own rows: comesApart, build and note, told by the pure state. Walked by program (wip/p37/m_ca.py). -/
theorem hd_iff {h : smG} {c : Nat} (hb : h.2 = 0 ∨ h.2 = 2) (hc : c < 3) : smHd h = c ↔ h = smB c (h.1 - 1, h.2) := by
  obtain ⟨a, b⟩ := h
  have hb : b = 0 ∨ b = 2 := hb
  show smHd (a, b) = c ↔ (a, b) = smB c (a - 1, b)
  unfold smHd smB
  by_cases z : a = 0
  · rw [if_pos z]
    show b = c ↔ _
    by_cases e : c = 1
    · rw [if_pos e]
      refine ⟨fun q => by omega, fun q => ?_⟩
      have := congrArg Prod.fst q
      simp only at this
      omega
    · rw [if_neg e, z]
      exact ⟨fun q => by rw [q], fun q => congrArg Prod.snd q⟩
  · rw [if_neg z]
    by_cases e : c = 1
    · rw [if_pos e]
      refine ⟨fun _ => ?_, fun _ => e.symm⟩
      show (a, b) = (a - 1 + 1, b)
      rw [show a - 1 + 1 = a by omega]
    · rw [if_neg e]
      exact ⟨fun q => absurd q.symm e, fun q => absurd (congrArg Prod.fst q) z⟩
/-- a build whose whole is there -/
def caS (V : mmV) (T : mmT) (i : Nat) (g : smL) (h : smG) : Bool × mmV × mmT := if h = smB g.2.1 (h.1 - 1, h.2) then (if g.2.1 = 1 then mmAg V T i (smv g 1) (some (h.1 - 1, h.2)) else (true, V, T)) else (false, V, T)
theorem go_s {g : goR} (h : gOk g) (hk : (gL g).1 ≠ 1) : g.2.1 = (((gL g).2.1 : Nat) : Int) := by
  have h0 := h.2.1
  have h1 := go_k h
  have e : (gL g).2.1 = g.2.1.toNat := rfl
  rw [e]
  have := h0 (by omega)
  omega
section SCA
variable {pg : Nat}
variable {G : zG} {d : Nat} {w : zW} {b1 b2 : Nat} {R : pgR} {Fs : List Nat} {ov fu en : Int} {mc fa ca ta t tc tn th tz rp ri ra rn : Nat} {ty bk bc : Int} {C I : List (List Int)} {mo : Option Nat} {fr : List mmF} {cls : Nat → Option Nat} {V : mmV} {ch : mmH} {T : mmT} {cur den : Option Nat} {pl0 na ns nc0 dp0 : Nat} {flb : Bool} {tm : List smG} {nt : List (Nat × Nat)}
theorem s_comesApart (hP : pgW w pg R) (hW : msW w b1 b2 ((mc, fa, ca, ta), (t, tc, tn, th, tz), (rp, ri, ra, rn), (ty, C), (mo, I, bk, bc)) R Fs (ov, fu, en) ((fr, cls, V, ch, T), (cur, pl0, den, flb), tm, (na, ns, nc0, dp0), nt)) (hG1 : b1 + 1500000 ≤ 60 * G.2.2.2.2.1) (hG2 : b2 + 3150000 ≤ G.2.2.2.2.2) (hF3 : Fs.length ≤ 320) (hTl : T.length + 3 < 350000) {i yi g : Nat} (hif : i < fr.length) (hi : Fs[i]? = some yi) (hgW : goW w g (R.2.2.2.2.2.2 g)) (hg3 : gOk (R.2.2.2.2.2.2 g)) (hk0 : (gL (R.2.2.2.2.2.2 g)).1 = 0) (hs3 : (gL (R.2.2.2.2.2.2 g)).2.1 < 3) (hc2 : (gL (R.2.2.2.2.2.2 g)).2.2.1 = (if (gL (R.2.2.2.2.2.2 g)).2.1 = 1 then 2 else 1)) {z : Int} {h : smG} (hz : tvE tm z (some h)) : zM G zm_X4_comesApart (d + 4) [zR mc, zR yi, zR g, zI z] w (zVal fun r w' => r = zI (zB ((caS V T i (gL (R.2.2.2.2.2.2 g)) h).1 = true)) ∧ msW w' b1 b2 ((mc, fa, ca, ta), (t, tc, tn, th, tz), (rp, ri, ra, rn), (ty, C), (mo, I, bk, bc)) R Fs (ov, fu, en) ((fr, cls, (caS V T i (gL (R.2.2.2.2.2.2 g)) h).2.1, ch, (caS V T i (gL (R.2.2.2.2.2.2 g)) h).2.2), (cur, pl0, den, flb), tm, (na, ns, nc0, dp0), nt) ∧ mcF rp w w') := by
  refine zx_ent (by decide +kernel) rfl (Nat.le_of_ble_eq_true rfl) ?_
  refine zx_L (L1 := [some (zR mc), some (zR yi), some (zR g), some (zI z), none]) rfl ?_
  obtain ⟨cap, fm, cc, CH, ct, TR, us, cu, pl, de, fl, N, H, Sz, A, Nt, sc, nc, dp, hM, hS⟩ := id hW
  obtain ⟨⟨hus, hfl, hJ, hcn, hFS⟩, ⟨hcu, hcuL, hpl, hde, hdeL, hfb⟩, ⟨hCH, hchL⟩, ⟨hTR, hTL⟩, htm, ⟨hA, hsc, hnc, hdp, hNt⟩⟩ := id hS
  subst hus hcu hpl hde hfb hCH hTR hsc hnc hdp hNt
  obtain ⟨hmc, hfa, ⟨hca, okC⟩, ⟨hta, okT⟩, hFr, ⟨ht0, ⟨htc, okTC⟩, ⟨htn, okN⟩, ⟨hth, okH⟩, htz, hSz⟩, ⟨hrp, ⟨hri, okI⟩, ⟨hra, okA⟩, ⟨hrn, okNt⟩⟩, hcap, hcct, hrm1, hrm2⟩ := id hM
  obtain ⟨hgo, hgv, hgx, -, -⟩ := hgW
  have hgc := (go_c hg3).1
  have hgs := go_s hg3 (by omega)
  obtain ⟨hrw1, hrw2⟩ := tm_row htm hz
  have hbase : h.2 = 0 ∨ h.2 = 2 := (htm.2.2.2.2.2 _ h hz.2).1
  have hiff := hd_iff hbase hs3
  by_cases hh : h = smB (gL (R.2.2.2.2.2.2 g)).2.1 (h.1 - 1, h.2)
  · have hhd := hiff.mpr hh
    by_cases h1 : (gL (R.2.2.2.2.2.2 g)).2.1 = 1
    · rw [if_pos h1] at hc2
      rw [show caS V T i (gL (R.2.2.2.2.2.2 g)) h = mmAg V T i (smv (gL (R.2.2.2.2.2.2 g)) 1) (some (h.1 - 1, h.2)) by unfold caS; rw [if_pos hh, if_pos h1]]
      have hpos : 0 < h.1 := by
        have := congrArg Prod.fst hh
        rw [h1] at this
        have this : h.1 = h.1 - 1 + 1 := this
        omega
      have hpt : tvE tm (tmPt N z (1 - 1)) (some (h.1 - 1, h.2)) := hrw2 hpos
      by_cases hy : (mmAg V T i (smv (gL (R.2.2.2.2.2.2 g)) 1) (some (h.1 - 1, h.2))).1 = true
      · skip
        refine zx_aload_n (i := 0) dX4_comesApart_0 rfl rfl ?_
        refine zx_getfield dX4_comesApart_1 zf_X4_9 hmc rfl ?_
        refine zx_iload_n (i := 3) dX4_comesApart_4 rfl rfl ?_
        refine zx_iv (b := t) (As := [zI z]) (st := []) (v := (some (zI (tg N z 0)))) (w1 := w) dX4_comesApart_5 zc_X4_206 ht0 rfl rfl rfl (Nat.le_of_ble_eq_true rfl) rfl (c_X10_headOf ⟨ht0, ⟨htc, okTC⟩, ⟨htn, okN⟩, ⟨hth, okH⟩, htz, hSz⟩ z) ?_
        refine zx_st (st1 := [zI (tg N z 0)]) rfl ?_
        refine zx_aload_n (i := 2) dX4_comesApart_8 rfl rfl ?_
        refine zx_getfield dX4_comesApart_9 zf_X4_209 hgo rfl ?_
        refine zx_icmp_eq (tgt := 17) dX4_comesApart_12 (by decide) (fun h12 => ?_) (fun h12 => absurd (by omega) h12)
        refine zx_iconst (v := 1) dX4_comesApart_17 rfl (z32_lit (by decide) (by decide)) ?_
        refine zx_istore (i := 4) dX4_comesApart_18 (by decide) rfl ?_
        refine zx_L (L1 := [some (zR mc), some (zR yi), some (zR g), some (zI z), some (zI 1)]) rfl ?_
        refine zx_iload (i := 4) dX4_comesApart_20 rfl ?_
        refine zx_aload_n (i := 2) dX4_comesApart_22 rfl rfl ?_
        refine zx_pc (pc1 := 23) rfl ?_
        refine zx_getfield dX4_comesApart_23 zf_X4_261 hgo rfl ?_
        refine zx_icmp_ge (tgt := 63) dX4_comesApart_26 (by decide) (fun h26 => absurd h26 (by omega)) (fun h26 => ?_)
        refine zx_aload_n (i := 0) dX4_comesApart_29 rfl rfl ?_
        refine zx_aload_n (i := 1) dX4_comesApart_30 rfl rfl ?_
        refine zx_aload_n (i := 2) dX4_comesApart_31 rfl rfl ?_
        refine zx_iload (i := 4) dX4_comesApart_32 rfl ?_
        refine zx_iv (b := g) (As := [zI 1]) (st := [zR yi, zR mc]) (v := (some (zI ((smv (gL (R.2.2.2.2.2.2 g)) 1 : Nat) : Int)))) (w1 := w) dX4_comesApart_34 zc_X4_267 hgo rfl rfl rfl (Nat.le_of_ble_eq_true rfl) rfl (by have q := c_X3_variableAt (G := G) (d := d + 3) hgo hgv hgx (1 : Int); rw [show zVa (R.2.2.2.2.2.2 g).2.2.2.2 1 = _ from (go_v hg3 (k := 1) (by omega)).1] at q; exact q) ?_
        refine zx_st (st1 := [zI ((smv (gL (R.2.2.2.2.2.2 g)) 1 : Nat) : Int), zR yi, zR mc]) rfl ?_
        refine zx_aload_n (i := 0) dX4_comesApart_37 rfl rfl ?_
        refine zx_getfield dX4_comesApart_38 zf_X4_9 hmc rfl ?_
        refine zx_iload_n (i := 3) dX4_comesApart_41 rfl rfl ?_
        refine zx_iload (i := 4) dX4_comesApart_42 rfl ?_
        refine zx_iconst (v := 1) dX4_comesApart_44 rfl (z32_lit (by decide) (by decide)) ?_
        refine zx_pc (pc1 := 45) rfl ?_
        refine zx_isub (v := 0) dX4_comesApart_45 (by decide +kernel) ?_
        refine zx_iv (b := t) (As := [zI z, zI 0]) (st := [zI ((smv (gL (R.2.2.2.2.2.2 g)) 1 : Nat) : Int), zR yi, zR mc]) (v := (some (zI (tmPt N z 0)))) (w1 := w) dX4_comesApart_46 zc_X4_301 ht0 rfl rfl rfl (Nat.le_of_ble_eq_true rfl) rfl (c_X10_part ⟨ht0, ⟨htc, okTC⟩, ⟨htn, okN⟩, ⟨hth, okH⟩, htz, hSz⟩ z 0) ?_
        refine zx_st (st1 := [zI (tmPt N z 0), zI ((smv (gL (R.2.2.2.2.2.2 g)) 1 : Nat) : Int), zR yi, zR mc]) rfl ?_
        refine zx_ivV (b := mc) (As := [zR yi, zI ((smv (gL (R.2.2.2.2.2.2 g)) 1 : Nat) : Int), zI (tmPt N z 0)]) (st := []) dX4_comesApart_49 zc_X4_270 hmc rfl rfl rfl (Nat.le_of_ble_eq_true rfl) rfl (s_agrees hW hG1 hG2 hF3 (by omega) hif hi (go_v hg3 (k := 1) (by omega)).2 hpt) (fun v2 w2 hq => ?_)
        obtain ⟨ev2, hW2, hF2⟩ := hq
        subst ev2
        refine zx_if_ne (tgt := 57) dX4_comesApart_52 (by decide) (fun h52 => ?_) (fun h52 => absurd (by rw [zB_t hy]; decide) h52)
        refine zx_iinc (i := 4) (v := 2) dX4_comesApart_57 rfl (by decide +kernel) (by decide) rfl ?_
        refine zx_L (L1 := [some (zR mc), some (zR yi), some (zR g), some (zI z), some (zI 2)]) rfl ?_
        refine zx_goto (tgt := 20) dX4_comesApart_60 (by decide) ?_
        refine zx_iload (i := 4) dX4_comesApart_20 rfl ?_
        refine zx_aload_n (i := 2) dX4_comesApart_22 rfl rfl ?_
        have h_1 : w2.1 g = some (3, 0, [zI (R.2.2.2.2.2.2 g).1, zI (R.2.2.2.2.2.2 g).2.1, zI (R.2.2.2.2.2.2 g).2.2.1, zR (R.2.2.2.2.2.2 g).2.2.2.1]) := hF2 _ _ hgo (Or.inl (by simp))
        refine zx_getfield dX4_comesApart_23 zf_X4_261 h_1 rfl ?_
        refine zx_icmp_ge (tgt := 63) dX4_comesApart_26 (by decide) (fun h26 => ?_) (fun h26 => absurd (by omega) h26)
        refine zx_iconst (v := 1) dX4_comesApart_63 rfl (z32_lit (by decide) (by decide)) ?_
        refine zx_zret dX4_comesApart_64 rfl (by first | exact Or.inl rfl | exact Or.inr rfl | exact zB_or | assumption) ?_
        exact ⟨_, rfl, by rw [zB_t hy], hW2, hF2⟩
      · skip
        refine zx_aload_n (i := 0) dX4_comesApart_0 rfl rfl ?_
        refine zx_getfield dX4_comesApart_1 zf_X4_9 hmc rfl ?_
        refine zx_iload_n (i := 3) dX4_comesApart_4 rfl rfl ?_
        refine zx_iv (b := t) (As := [zI z]) (st := []) (v := (some (zI (tg N z 0)))) (w1 := w) dX4_comesApart_5 zc_X4_206 ht0 rfl rfl rfl (Nat.le_of_ble_eq_true rfl) rfl (c_X10_headOf ⟨ht0, ⟨htc, okTC⟩, ⟨htn, okN⟩, ⟨hth, okH⟩, htz, hSz⟩ z) ?_
        refine zx_st (st1 := [zI (tg N z 0)]) rfl ?_
        refine zx_aload_n (i := 2) dX4_comesApart_8 rfl rfl ?_
        refine zx_getfield dX4_comesApart_9 zf_X4_209 hgo rfl ?_
        refine zx_icmp_eq (tgt := 17) dX4_comesApart_12 (by decide) (fun h12 => ?_) (fun h12 => absurd (by omega) h12)
        refine zx_iconst (v := 1) dX4_comesApart_17 rfl (z32_lit (by decide) (by decide)) ?_
        refine zx_istore (i := 4) dX4_comesApart_18 (by decide) rfl ?_
        refine zx_L (L1 := [some (zR mc), some (zR yi), some (zR g), some (zI z), some (zI 1)]) rfl ?_
        refine zx_iload (i := 4) dX4_comesApart_20 rfl ?_
        refine zx_aload_n (i := 2) dX4_comesApart_22 rfl rfl ?_
        refine zx_pc (pc1 := 23) rfl ?_
        refine zx_getfield dX4_comesApart_23 zf_X4_261 hgo rfl ?_
        refine zx_icmp_ge (tgt := 63) dX4_comesApart_26 (by decide) (fun h26 => absurd h26 (by omega)) (fun h26 => ?_)
        refine zx_aload_n (i := 0) dX4_comesApart_29 rfl rfl ?_
        refine zx_aload_n (i := 1) dX4_comesApart_30 rfl rfl ?_
        refine zx_aload_n (i := 2) dX4_comesApart_31 rfl rfl ?_
        refine zx_iload (i := 4) dX4_comesApart_32 rfl ?_
        refine zx_iv (b := g) (As := [zI 1]) (st := [zR yi, zR mc]) (v := (some (zI ((smv (gL (R.2.2.2.2.2.2 g)) 1 : Nat) : Int)))) (w1 := w) dX4_comesApart_34 zc_X4_267 hgo rfl rfl rfl (Nat.le_of_ble_eq_true rfl) rfl (by have q := c_X3_variableAt (G := G) (d := d + 3) hgo hgv hgx (1 : Int); rw [show zVa (R.2.2.2.2.2.2 g).2.2.2.2 1 = _ from (go_v hg3 (k := 1) (by omega)).1] at q; exact q) ?_
        refine zx_st (st1 := [zI ((smv (gL (R.2.2.2.2.2.2 g)) 1 : Nat) : Int), zR yi, zR mc]) rfl ?_
        refine zx_aload_n (i := 0) dX4_comesApart_37 rfl rfl ?_
        refine zx_getfield dX4_comesApart_38 zf_X4_9 hmc rfl ?_
        refine zx_iload_n (i := 3) dX4_comesApart_41 rfl rfl ?_
        refine zx_iload (i := 4) dX4_comesApart_42 rfl ?_
        refine zx_iconst (v := 1) dX4_comesApart_44 rfl (z32_lit (by decide) (by decide)) ?_
        refine zx_pc (pc1 := 45) rfl ?_
        refine zx_isub (v := 0) dX4_comesApart_45 (by decide +kernel) ?_
        refine zx_iv (b := t) (As := [zI z, zI 0]) (st := [zI ((smv (gL (R.2.2.2.2.2.2 g)) 1 : Nat) : Int), zR yi, zR mc]) (v := (some (zI (tmPt N z 0)))) (w1 := w) dX4_comesApart_46 zc_X4_301 ht0 rfl rfl rfl (Nat.le_of_ble_eq_true rfl) rfl (c_X10_part ⟨ht0, ⟨htc, okTC⟩, ⟨htn, okN⟩, ⟨hth, okH⟩, htz, hSz⟩ z 0) ?_
        refine zx_st (st1 := [zI (tmPt N z 0), zI ((smv (gL (R.2.2.2.2.2.2 g)) 1 : Nat) : Int), zR yi, zR mc]) rfl ?_
        refine zx_ivV (b := mc) (As := [zR yi, zI ((smv (gL (R.2.2.2.2.2.2 g)) 1 : Nat) : Int), zI (tmPt N z 0)]) (st := []) dX4_comesApart_49 zc_X4_270 hmc rfl rfl rfl (Nat.le_of_ble_eq_true rfl) rfl (s_agrees hW hG1 hG2 hF3 (by omega) hif hi (go_v hg3 (k := 1) (by omega)).2 hpt) (fun v2 w2 hq => ?_)
        obtain ⟨ev2, hW2, hF2⟩ := hq
        subst ev2
        refine zx_if_ne (tgt := 57) dX4_comesApart_52 (by decide) (fun h52 => absurd h52 (by rw [zB_f hy]; decide)) (fun h52 => ?_)
        refine zx_iconst (v := 0) dX4_comesApart_55 rfl (z32_lit (by decide) (by decide)) ?_
        refine zx_zret dX4_comesApart_56 rfl (by first | exact Or.inl rfl | exact Or.inr rfl | exact zB_or | assumption) ?_
        exact ⟨_, rfl, by rw [zB_f hy], hW2, hF2⟩
    · rw [if_neg h1] at hc2
      rw [show caS V T i (gL (R.2.2.2.2.2.2 g)) h = (true, V, T) by unfold caS; rw [if_pos hh, if_neg h1]]
      refine zx_aload_n (i := 0) dX4_comesApart_0 rfl rfl ?_
      refine zx_getfield dX4_comesApart_1 zf_X4_9 hmc rfl ?_
      refine zx_iload_n (i := 3) dX4_comesApart_4 rfl rfl ?_
      refine zx_iv (b := t) (As := [zI z]) (st := []) (v := (some (zI (tg N z 0)))) (w1 := w) dX4_comesApart_5 zc_X4_206 ht0 rfl rfl rfl (Nat.le_of_ble_eq_true rfl) rfl (c_X10_headOf ⟨ht0, ⟨htc, okTC⟩, ⟨htn, okN⟩, ⟨hth, okH⟩, htz, hSz⟩ z) ?_
      refine zx_st (st1 := [zI (tg N z 0)]) rfl ?_
      refine zx_aload_n (i := 2) dX4_comesApart_8 rfl rfl ?_
      refine zx_getfield dX4_comesApart_9 zf_X4_209 hgo rfl ?_
      refine zx_icmp_eq (tgt := 17) dX4_comesApart_12 (by decide) (fun h12 => ?_) (fun h12 => absurd (by omega) h12)
      refine zx_iconst (v := 1) dX4_comesApart_17 rfl (z32_lit (by decide) (by decide)) ?_
      refine zx_istore (i := 4) dX4_comesApart_18 (by decide) rfl ?_
      refine zx_L (L1 := [some (zR mc), some (zR yi), some (zR g), some (zI z), some (zI 1)]) rfl ?_
      refine zx_iload (i := 4) dX4_comesApart_20 rfl ?_
      refine zx_aload_n (i := 2) dX4_comesApart_22 rfl rfl ?_
      refine zx_pc (pc1 := 23) rfl ?_
      refine zx_getfield dX4_comesApart_23 zf_X4_261 hgo rfl ?_
      refine zx_icmp_ge (tgt := 63) dX4_comesApart_26 (by decide) (fun h26 => ?_) (fun h26 => absurd (by omega) h26)
      refine zx_iconst (v := 1) dX4_comesApart_63 rfl (z32_lit (by decide) (by decide)) ?_
      refine zx_zret dX4_comesApart_64 rfl (by first | exact Or.inl rfl | exact Or.inr rfl | exact zB_or | assumption) ?_
      exact ⟨_, rfl, by rw [zB_t rfl], hW, mcF_re⟩
  · have hhd : smHd h ≠ (gL (R.2.2.2.2.2.2 g)).2.1 := fun q => hh (hiff.mp q)
    rw [show caS V T i (gL (R.2.2.2.2.2.2 g)) h = (false, V, T) by unfold caS; rw [if_neg hh]]
    refine zx_aload_n (i := 0) dX4_comesApart_0 rfl rfl ?_
    refine zx_getfield dX4_comesApart_1 zf_X4_9 hmc rfl ?_
    refine zx_iload_n (i := 3) dX4_comesApart_4 rfl rfl ?_
    refine zx_iv (b := t) (As := [zI z]) (st := []) (v := (some (zI (tg N z 0)))) (w1 := w) dX4_comesApart_5 zc_X4_206 ht0 rfl rfl rfl (Nat.le_of_ble_eq_true rfl) rfl (c_X10_headOf ⟨ht0, ⟨htc, okTC⟩, ⟨htn, okN⟩, ⟨hth, okH⟩, htz, hSz⟩ z) ?_
    refine zx_st (st1 := [zI (tg N z 0)]) rfl ?_
    refine zx_aload_n (i := 2) dX4_comesApart_8 rfl rfl ?_
    refine zx_getfield dX4_comesApart_9 zf_X4_209 hgo rfl ?_
    refine zx_icmp_eq (tgt := 17) dX4_comesApart_12 (by decide) (fun h12 => absurd h12 (by omega)) (fun h12 => ?_)
    refine zx_iconst (v := 0) dX4_comesApart_15 rfl (z32_lit (by decide) (by decide)) ?_
    refine zx_zret dX4_comesApart_16 rfl (by first | exact Or.inl rfl | exact Or.inr rfl | exact zB_or | assumption) ?_
    exact ⟨_, rfl, by rw [zB_f (by simp)], hW, mcF_re⟩
theorem s_note (hW : msW w b1 b2 ((mc, fa, ca, ta), (t, tc, tn, th, tz), (rp, ri, ra, rn), (ty, C), (mo, I, bk, bc)) R Fs (ov, fu, en) ((fr, cls, V, ch, T), (cur, pl0, den, flb), tm, (na, ns, nc0, dp0), nt)) {sg p dd : Nat} (hsg : sg < 65536) (hp : p < 100) (hdd : dd < 100) : zM G zm_X8_note (d + 3) [zR rp, zI (sg : Int), zI (p : Int), zI (dd : Int)] w (zVoid fun w' => msW w' b1 b2 ((mc, fa, ca, ta), (t, tc, tn, th, tz), (rp, ri, ra, rn), (ty, C), (mo, I, bk, bc)) R Fs (ov, fu, en) ((fr, cls, V, ch, T), (cur, pl0, den, flb), tm, (na, ns, nc0, dp0), (mmNote nt sg p dd)) ∧ mcF rp w w') := by
  obtain ⟨cap, fm, cc, CH, ct, TR, us, cu, pl, de, fl, N, H, Sz, A, Nt, sc, nc, dp, hM, hS⟩ := id hW
  obtain ⟨⟨hus, hfl, hJ, hcn, hFS⟩, ⟨hcu, hcuL, hpl, hde, hdeL, hfb⟩, ⟨hCH, hchL⟩, ⟨hTR, hTL⟩, htm, ⟨hA, hsc, hnc, hdp, hNt⟩⟩ := id hS
  subst hus hcu hpl hde hfb hCH hTR hsc hnc hdp hNt
  obtain ⟨hmc, hfa, ⟨hca, okC⟩, ⟨hta, okT⟩, hFr, ⟨ht0, ⟨htc, okTC⟩, ⟨htn, okN⟩, ⟨hth, okH⟩, htz, hSz⟩, ⟨hrp, ⟨hri, okI⟩, ⟨hra, okA⟩, ⟨hrn, okNt⟩⟩, hcap, hcct, hrm1, hrm2⟩ := id hM
  have e : zw (zw (100 * (p : Int)) + (dd : Int)) = ((100 * p + dd : Nat) : Int) := by
    rw [zw_id (a := 100 * (p : Int)) ⟨by omega, by omega⟩, zw_id ⟨by omega, by omega⟩]
    omega
  have q := c_X8_note (G := G) (d := d) ⟨hrp, ⟨hri, okI⟩, ⟨hra, okA⟩, ⟨hrn, okNt⟩⟩ (sg : Int) (p : Int) (dd : Int)
  rw [e] at q
  refine zM_mono q (fun o w' h => ?_)
  obtain ⟨h1, h2⟩ := h
  refine ⟨h1, ?_⟩
  have hl : (nt.map (fun e => [(e.1 : Int), (e.2 : Int)])).length = nt.length := by simp
  by_cases c : nt.length < 80
  · rw [if_pos (by rw [hl]; exact c)] at h2
    subst h2
    have emn : mmNote nt sg p dd = nt ++ [(sg, 100 * p + dd)] := if_pos c
    rw [emn]
    obtain ⟨w1, hw1⟩ : ∃ ww, ww = zput w rn (137, rp, tTb 2 160 ((nt.map (fun e => [(e.1 : Int), (e.2 : Int)])) ++ [[(sg : Int), ((100 * p + dd : Nat) : Int)]])) := ⟨_, rfl⟩
    rw [← hw1]
    have q_1 : w1.2.1 = w.2.1 ∧ w1.2.2 = w.2.2 := by rw [hw1]; exact ⟨rfl, rfl⟩
    have hrn9 : w1.1 rn = some (137, rp, tTb 2 160 ((nt.map (fun e => [(e.1 : Int), (e.2 : Int)])) ++ [[(sg : Int), ((100 * p + dd : Nat) : Int)]])) := by rw [hw1]; exact zput_at
    have hfaL9 : zFa [rn] w w1 := (zFa_put zFa_re (by simp) hw1)
    have hFrr9 := fm_keep hFr hfaL9 (zLc hrn (by simp) zLn)
    have hmcF9 : mcF rp w w1 := mcF_fa hfaL9 (zLc hrn (by simp [mcP]) zLn)
    have h_2 : w1.1 mc = some (4, 0, [zR t, zR fa, zR ca, zR ta, zR rp, zI (fr.length : Int), zP (oA Fs cur), zI (pl0 : Int), zP (oA Fs den), zI (if flb = true then 1 else 0), zI ov, zI fu]) := by
      rw [hw1]; exact zput_tg hrn hmc (by simp)
    have h_3 : w1.1 fa = some (166, mc, zLs cap Fs) := by
      rw [hw1]; exact zput_tg hrn hfa (by simp)
    have h_4 : w1.1 ca = some (138, mc, tTb 3 cc (ch.reverse.map (fun e => [(e.1 : Int), (e.2.1 : Int), (e.2.2 : Int)]))) := by
      rw [hw1]; exact zput_tg hrn hca (by simp)
    have h_5 : w1.1 ta = some (139, mc, tTb 2 ct (T.reverse.map (fun e => [(e.1 : Int), (e.2 : Int)]))) := by
      rw [hw1]; exact zput_tg hrn hta (by simp)
    have h_6 : w1.1 t = some (10, 0, [zI ty, zR tc, zR tn, zR th, zR tz]) := by
      rw [hw1]; exact zput_tg hrn ht0 (by simp)
    have h_7 : w1.1 tc = some (130, t, tTb 3 30 C) := by
      rw [hw1]; exact zput_tg hrn htc (by simp)
    have h_8 : w1.1 tn = some (131, t, tTb 4 800 N) := by
      rw [hw1]; exact zput_tg hrn htn (by simp)
    have h_9 : w1.1 th = some (132, t, tTb 1 64 H) := by
      rw [hw1]; exact zput_tg hrn hth (by simp)
    have h_10 : w1.1 tz = some (120, t, Sz.map zJ) := by
      rw [hw1]; exact zput_tg hrn htz (by simp)
    have h_11 : w1.1 rp = some (8, 0, [zP mo, zR ri, zR ra, zR rn, zI (ns : Int), zI (nc0 : Int), zI (dp0 : Int), zI en, zI bk, zI bc]) := by
      rw [hw1]; exact zput_tg hrn hrp (by simp)
    have h_12 : w1.1 ri = some (135, rp, tTb 1 3 I) := by
      rw [hw1]; exact zput_tg hrn hri (by simp)
    have h_13 : w1.1 ra = some (136, rp, tTb 3 150 A) := by
      rw [hw1]; exact zput_tg hrn hra (by simp)
    have hM9 : mcW w1 b1 b2 ((mc, fa, ca, ta), (t, tc, tn, th, tz), (rp, ri, ra, rn), (ty, C), (mo, I, bk, bc)) (((cap, Fs), fm), (cc, (ch.reverse.map (fun e => [(e.1 : Int), (e.2.1 : Int), (e.2.2 : Int)]))), (ct, (T.reverse.map (fun e => [(e.1 : Int), (e.2 : Int)]))), ((fr.length : Int), (oA Fs cur), (pl0 : Int), (oA Fs den)), ((if flb = true then 1 else 0), ov, fu), (N, H, Sz), (A, ((nt.map (fun e => [(e.1 : Int), (e.2 : Int)])) ++ [[(sg : Int), ((100 * p + dd : Nat) : Int)]]), (ns : Int), (nc0 : Int), (dp0 : Int), en)) := ⟨h_2, h_3, ⟨h_4, okC⟩, ⟨h_5, okT⟩, hFrr9, ⟨h_6, ⟨h_7, okTC⟩, ⟨h_8, okN⟩, ⟨h_9, okH⟩, h_10, hSz⟩, ⟨h_11, ⟨h_12, okI⟩, ⟨h_13, okA⟩, ⟨hrn9, (tOk_app okNt rfl)⟩⟩, hcap, ⟨by omega, by omega, by omega, by omega⟩, by omega, by omega⟩
    have eN : ((nt.map (fun e => [(e.1 : Int), (e.2 : Int)])) ++ [[(sg : Int), ((100 * p + dd : Nat) : Int)]]) = ((nt ++ [(sg, 100 * p + dd)]).map (fun e => [(e.1 : Int), (e.2 : Int)])) := by simp
    rw [eN] at hM9
    exact ⟨⟨cap, fm, cc, (ch.reverse.map (fun e => [(e.1 : Int), (e.2.1 : Int), (e.2.2 : Int)])), ct, (T.reverse.map (fun e => [(e.1 : Int), (e.2 : Int)])), (fr.length : Int), (oA Fs cur), (pl0 : Int), (oA Fs den), (if flb = true then 1 else 0), N, H, Sz, A, _, (ns : Int), (nc0 : Int), (dp0 : Int), hM9, ⟨⟨(by first | rfl | omega | simp), hfl, hJ, hcn, hFS⟩, ⟨rfl, hcuL, (by first | rfl | omega), rfl, hdeL, rfl⟩, ⟨rfl, hchL⟩, ⟨rfl, hTL⟩, htm, ⟨hA, (by first | rfl | omega), (by first | rfl | omega), (by first | rfl | omega), rfl⟩⟩⟩, hmcF9⟩
  · rw [if_neg (by rw [hl]; exact c)] at h2
    subst h2
    have emn : mmNote nt sg p dd = nt := if_neg c
    rw [emn]
    exact ⟨hW, mcF_re⟩
end SCA
