/-! Own rows: the machine's undo. Walked by program (wip/p37/m_mundo.py). -/
/-- a value that the trail tells of is taken away -/
def unS (Fs : List Nat) (TR : List (List Int)) (e : Nat) (fm : Nat → fmR) : Nat → fmR := match lAt Fs (tg TR (e : Int) 0) with
  | none => fm
  | some y => fmUp fm y ((fm y).1, (fm y).2.1, (fm y).2.2.1, zVs (fm y).2.2.2 (tg TR (e : Int) 1) (-1))
def unN (Fs : List Nat) (TR : List (List Int)) (t : Nat) : Nat → (Nat → fmR) → (Nat → fmR)
  | 0, fm => fm
  | n + 1, fm => unN Fs TR t n (unS Fs TR (t + n) fm)
theorem unS_y {Fs : List Nat} {TR : List (List Int)} {e : Nat} {fm : Nat → fmR} {y : Nat} {r : fmR} (h : lAt Fs (tg TR (e : Int) 0) = some y) (er : fm y = r) : unS Fs TR e fm = fmUp fm y (r.1, r.2.1, r.2.2.1, zVs r.2.2.2 (tg TR (e : Int) 1) (-1)) := by
  unfold unS
  rw [h]
  show fmUp fm y ((fm y).1, (fm y).2.1, (fm y).2.2.1, zVs (fm y).2.2.2 (tg TR (e : Int) 1) (-1)) = _
  rw [er]
section MUNDO
variable {G : zG} {d : Nat} {w : zW} {b1 b2 : Nat} {mc fa ca ta t tc tn th tz rp ri ra rn : Nat} {ty bk bc : Int} {C I : List (List Int)} {mo : Option Nat} {cap cc ct : Nat} {Fs : List Nat} {fm : Nat → fmR} {CH TR N H A Nt : List (List Int)} {Sz : List Int} {us pl fl ov fu sc nc dp en : Int} {cu de : Option Nat}
theorem c_X4_undo (hM : mcW w b1 b2 ((mc, fa, ca, ta), (t, tc, tn, th, tz), (rp, ri, ra, rn), (ty, C), (mo, I, bk, bc)) (((cap, Fs), fm), (cc, CH), (ct, TR), (us, cu, pl, de), (fl, ov, fu), (N, H, Sz), (A, Nt, sc, nc, dp, en))) (t0 : Nat) (ht0' : t0 ≤ TR.length) (hT2 : TR.length < 500000) (hrow : ∀ e : Nat, e < TR.length → ∃ k y : Nat, tg TR (e : Int) 0 = (k : Int) ∧ Fs[k]? = some y) : zM G zm_X4_undo (d + 4) [zR mc, zI (t0 : Int)] w (zVoid fun w' => mcW w' b1 b2 ((mc, fa, ca, ta), (t, tc, tn, th, tz), (rp, ri, ra, rn), (ty, C), (mo, I, bk, bc)) (((cap, Fs), unN Fs TR t0 (TR.length - t0) fm), (cc, CH), (ct, (tcut TR (t0 : Int))), (us, cu, pl, de), (fl, ov, fu), (N, H, Sz), (A, Nt, sc, nc, dp, en)) ∧ mcF rp w w') := by
  refine zx_ent (by decide +kernel) rfl (Nat.le_of_ble_eq_true rfl) ?_
  refine zx_L (L1 := [some (zR mc), some (zI (t0 : Int)), none, none]) rfl ?_
  obtain ⟨hmc, hfa, ⟨hca, okC⟩, ⟨hta, okT⟩, hFr, ⟨ht0, ⟨htc, okTC⟩, ⟨htn, okN⟩, ⟨hth, okH⟩, htz, hSz⟩, ⟨hrp, ⟨hri, okI⟩, ⟨hra, okA⟩, ⟨hrn, okNt⟩⟩, hcap, hcct, hrm1, hrm2⟩ := id hM
  have loop : ∀ (n : Nat) (fm1 : Nat → fmR) (w1 : zW) (o3 : Option zV) (ee : Int), t0 + n ≤ TR.length → ee = (t0 : Int) + (n : Int) - 1 → mcW w1 b1 b2 ((mc, fa, ca, ta), (t, tc, tn, th, tz), (rp, ri, ra, rn), (ty, C), (mo, I, bk, bc)) (((cap, Fs), fm1), (cc, CH), (ct, TR), (us, cu, pl, de), (fl, ov, fu), (N, H, Sz), (A, Nt, sc, nc, dp, en)) → mcF rp w w1 → zX G zm_X4_undo (d + 4) [zR mc, zI (t0 : Int)] w (zVoid fun w' => mcW w' b1 b2 ((mc, fa, ca, ta), (t, tc, tn, th, tz), (rp, ri, ra, rn), (ty, C), (mo, I, bk, bc)) (((cap, Fs), unN Fs TR t0 n fm1), (cc, CH), (ct, (tcut TR (t0 : Int))), (us, cu, pl, de), (fl, ov, fu), (N, H, Sz), (A, Nt, sc, nc, dp, en)) ∧ mcF rp w w') 10 [some (zR mc), some (zI (t0 : Int)), some (zI ee), o3] [] w1 := by
    intro n
    induction n with
    | zero =>
      intro fm1 w1 o3 ee hn he hM1 hF1
      have he : ee = (t0 : Int) - 1 := by omega
      subst he
      obtain ⟨hmc1, hfa1, ⟨hca1, okC1⟩, ⟨hta1, okT1⟩, hFr1, ⟨ht01, ⟨htc1, okTC1⟩, ⟨htn1, okN1⟩, ⟨hth1, okH1⟩, htz1, hSz1⟩, ⟨hrp1, ⟨hri1, okI1⟩, ⟨hra1, okA1⟩, ⟨hrn1, okNt1⟩⟩, hcap1, hcct1, hrm11, hrm21⟩ := id hM1
      refine zx_iload_n (i := 2) dX4_undo_10 rfl rfl ?_
      refine zx_iload_n (i := 1) dX4_undo_11 rfl rfl ?_
      refine zx_icmp_lt (tgt := 57) dX4_undo_12 (by decide) (fun h12 => ?_) (fun h12 => absurd (by omega) h12)
      refine zx_aload_n (i := 0) dX4_undo_57 rfl rfl ?_
      refine zx_getfield dX4_undo_58 zf_X4_35 hmc1 rfl ?_
      refine zx_iload_n (i := 1) dX4_undo_61 rfl rfl ?_
      obtain ⟨w_1, hw_2⟩ : ∃ ww, ww = zput w1 ta (139, mc, tTb 2 ct (tcut TR (t0 : Int))) := ⟨_, rfl⟩
      have q_3 : w_1.2.1 = w1.2.1 ∧ w_1.2.2 = w1.2.2 := by rw [hw_2]; exact ⟨rfl, rfl⟩
      have h_4 : w_1.1 ta = some (139, mc, tTb 2 ct (tcut TR (t0 : Int))) := by rw [hw_2]; exact zput_at
      refine zx_iv (b := ta) (As := [zI (t0 : Int)]) (st := []) (v := none) (w1 := w_1) dX4_undo_62 zc_X4_107 hta1 (z_cls9 (by decide)) rfl rfl (Nat.le_of_ble_eq_true rfl) rfl (by rw [hw_2]; exact (c_X9_cut hta1 (by decide) okT1 (t0 : Int))) ?_
      refine zx_st (st1 := []) rfl ?_
      refine zx_return dX4_undo_65 rfl ?_
      have hfaL9 : zFa [ta] w1 w_1 := (zFa_put zFa_re (by simp) hw_2)
      have hFrr9 := fm_keep hFr1 hfaL9 (zLc hta1 (by simp) zLn)
      have hmcF9 : mcF rp w1 w_1 := mcF_fa hfaL9 (zLc hta1 (by simp [mcP]) zLn)
      have h_5 : w_1.1 mc = some (4, 0, [zR t, zR fa, zR ca, zR ta, zR rp, zI us, zP cu, zI pl, zP de, zI fl, zI ov, zI fu]) := by
        rw [hw_2]; exact zput_tg hta1 hmc1 (by simp)
      have h_6 : w_1.1 fa = some (166, mc, zLs cap Fs) := by
        rw [hw_2]; exact zput_tg hta1 hfa1 (by simp)
      have h_7 : w_1.1 ca = some (138, mc, tTb 3 cc CH) := by
        rw [hw_2]; exact zput_tg hta1 hca1 (by simp)
      have h_8 : w_1.1 t = some (10, 0, [zI ty, zR tc, zR tn, zR th, zR tz]) := by
        rw [hw_2]; exact zput_tg hta1 ht01 (by simp)
      have h_9 : w_1.1 tc = some (130, t, tTb 3 30 C) := by
        rw [hw_2]; exact zput_tg hta1 htc1 (by simp)
      have h_10 : w_1.1 tn = some (131, t, tTb 4 800 N) := by
        rw [hw_2]; exact zput_tg hta1 htn1 (by simp)
      have h_11 : w_1.1 th = some (132, t, tTb 1 64 H) := by
        rw [hw_2]; exact zput_tg hta1 hth1 (by simp)
      have h_12 : w_1.1 tz = some (120, t, Sz.map zJ) := by
        rw [hw_2]; exact zput_tg hta1 htz1 (by simp)
      have h_13 : w_1.1 rp = some (8, 0, [zP mo, zR ri, zR ra, zR rn, zI sc, zI nc, zI dp, zI en, zI bk, zI bc]) := by
        rw [hw_2]; exact zput_tg hta1 hrp1 (by simp)
      have h_14 : w_1.1 ri = some (135, rp, tTb 1 3 I) := by
        rw [hw_2]; exact zput_tg hta1 hri1 (by simp)
      have h_15 : w_1.1 ra = some (136, rp, tTb 3 150 A) := by
        rw [hw_2]; exact zput_tg hta1 hra1 (by simp)
      have h_16 : w_1.1 rn = some (137, rp, tTb 2 160 Nt) := by
        rw [hw_2]; exact zput_tg hta1 hrn1 (by simp)
      have hM9 : mcW w_1 b1 b2 ((mc, fa, ca, ta), (t, tc, tn, th, tz), (rp, ri, ra, rn), (ty, C), (mo, I, bk, bc)) (((cap, Fs), fm1), (cc, CH), (ct, (tcut TR (t0 : Int))), (us, cu, pl, de), (fl, ov, fu), (N, H, Sz), (A, Nt, sc, nc, dp, en)) := ⟨h_5, h_6, ⟨h_7, okC1⟩, ⟨h_4, (tOk_cut okT1)⟩, hFrr9, ⟨h_8, ⟨h_9, okTC1⟩, ⟨h_10, okN1⟩, ⟨h_11, okH1⟩, h_12, hSz1⟩, ⟨h_13, ⟨h_14, okI1⟩, ⟨h_15, okA1⟩, ⟨h_16, okNt1⟩⟩, hcap1, ⟨by omega, by omega, by omega, by omega⟩, by omega, by omega⟩
      exact ⟨rfl, hM9, mcF_tr hF1 hmcF9⟩
    | succ n ih =>
      intro fm1 w1 o3 ee hn he hM1 hF1
      have he : ee = ((t0 + n : Nat) : Int) := by omega
      subst he
      obtain ⟨hmc1, hfa1, ⟨hca1, okC1⟩, ⟨hta1, okT1⟩, hFr1, ⟨ht01, ⟨htc1, okTC1⟩, ⟨htn1, okN1⟩, ⟨hth1, okH1⟩, htz1, hSz1⟩, ⟨hrp1, ⟨hri1, okI1⟩, ⟨hra1, okA1⟩, ⟨hrn1, okNt1⟩⟩, hcap1, hcct1, hrm11, hrm21⟩ := id hM1
      obtain ⟨k, y, ek, hk⟩ := hrow (t0 + n) (by omega)
      have hla : lAt Fs (tg TR ((t0 + n : Nat) : Int) 0) = some y := by
        rw [ek]
        exact lAt_in (by omega) (by rw [Int.toNat_natCast]; exact hk)
      obtain ⟨⟨⟨va, md⟩, ⟨fca, fbt, fdp⟩, ⟨fcl, fdn, fod, fcb⟩, xs⟩, efm⟩ : ∃ r, fm1 y = r := ⟨_, rfl⟩
      obtain ⟨hfy, hva, hx⟩ := hFr1 k y hk
      rw [efm] at hfy hva hx
      have hx : xs.length = 8 := hx
      refine zx_iload_n (i := 2) dX4_undo_10 rfl rfl ?_
      refine zx_iload_n (i := 1) dX4_undo_11 rfl rfl ?_
      refine zx_icmp_lt (tgt := 57) dX4_undo_12 (by decide) (fun h12 => absurd h12 (by omega)) (fun h12 => ?_)
      refine zx_iload_n (i := 2) dX4_undo_15 rfl rfl ?_
      refine zx_if_lt (tgt := 57) dX4_undo_16 (by decide) (fun h16 => absurd h16 (by omega)) (fun h16 => ?_)
      refine zx_aload_n (i := 0) dX4_undo_19 rfl rfl ?_
      refine zx_aload_n (i := 0) dX4_undo_20 rfl rfl ?_
      refine zx_getfield dX4_undo_21 zf_X4_35 hmc1 rfl ?_
      refine zx_iload_n (i := 2) dX4_undo_24 rfl rfl ?_
      refine zx_iconst (v := 0) dX4_undo_25 rfl (z32_lit (by decide) (by decide)) ?_
      refine zx_iv (b := ta) (As := [zI ((t0 + n : Nat) : Int), zI 0]) (st := [zR mc]) (v := (some (zI (tg TR ((t0 + n : Nat) : Int) 0)))) (w1 := w1) dX4_undo_26 zc_X4_226 hta1 (z_cls9 (by decide)) rfl rfl (Nat.le_of_ble_eq_true rfl) rfl (c_X9_get hta1 (by decide) okT1 ((t0 + n : Nat) : Int) 0) ?_
      refine zx_st (st1 := [zI (tg TR ((t0 + n : Nat) : Int) 0), zR mc]) rfl ?_
      refine zx_pc (pc1 := 29) rfl ?_
      refine zx_iv (b := mc) (As := [zI (tg TR ((t0 + n : Nat) : Int) 0)]) (st := []) (v := (some (zR y))) (w1 := w1) dX4_undo_29 zc_X4_228 hmc1 rfl rfl rfl (Nat.le_of_ble_eq_true rfl) rfl (by have q := c_X4_frameAt (G := G) (d := d) hM1 (tg TR (((t0 + n : Nat) : Int)) 0); rw [hla] at q; exact q) ?_
      refine zx_st (st1 := [zR y]) rfl ?_
      refine zx_astore_n (i := 3) dX4_undo_32 rfl (by decide) rfl ?_
      refine zx_L (L1 := [some (zR mc), some (zI (t0 : Int)), some (zI ((t0 + n : Nat) : Int)), some (zR y)]) rfl ?_
      refine zx_aload_n (i := 3) dX4_undo_33 rfl rfl ?_
      refine zx_ifnull (tgt := 51) dX4_undo_34 (by decide) (fun h => by cases h) (fun _ => ?_)
      refine zx_aload_n (i := 3) dX4_undo_37 rfl rfl ?_
      refine zx_aload_n (i := 0) dX4_undo_38 rfl rfl ?_
      refine zx_getfield dX4_undo_39 zf_X4_35 hmc1 rfl ?_
      refine zx_iload_n (i := 2) dX4_undo_42 rfl rfl ?_
      refine zx_iconst (v := 1) dX4_undo_43 rfl (z32_lit (by decide) (by decide)) ?_
      refine zx_iv (b := ta) (As := [zI ((t0 + n : Nat) : Int), zI 1]) (st := [zR y]) (v := (some (zI (tg TR ((t0 + n : Nat) : Int) 1)))) (w1 := w1) dX4_undo_44 zc_X4_226 hta1 (z_cls9 (by decide)) rfl rfl (Nat.le_of_ble_eq_true rfl) rfl (c_X9_get hta1 (by decide) okT1 ((t0 + n : Nat) : Int) 1) ?_
      refine zx_st (st1 := [zI (tg TR ((t0 + n : Nat) : Int) 1), zR y]) rfl ?_
      refine zx_iconst (v := -1) dX4_undo_47 rfl (z32_lit (by decide) (by decide)) ?_
      obtain ⟨w_1, hw_2⟩ : ∃ ww, ww = zput w1 va (104, y, (zVs xs (tg TR ((t0 + n : Nat) : Int) 1) (-1)).map Sum.inl) := ⟨_, rfl⟩
      have q_3 : w_1.2.1 = w1.2.1 ∧ w_1.2.2 = w1.2.2 := by rw [hw_2]; exact ⟨rfl, rfl⟩
      have h_4 : w_1.1 va = some (104, y, (zVs xs (tg TR ((t0 + n : Nat) : Int) 1) (-1)).map Sum.inl) := by rw [hw_2]; exact zput_at
      refine zx_iv (b := y) (As := [zI (tg TR ((t0 + n : Nat) : Int) 1), zI (-1)]) (st := []) (v := none) (w1 := w_1) dX4_undo_48 zc_X4_125 hfy rfl rfl rfl (Nat.le_of_ble_eq_true rfl) rfl (by rw [hw_2]; exact (c_X2_setValue hfy hva (by omega) (tg TR ((t0 + n : Nat) : Int) 1) (-1))) ?_
      have hx2 : (zVs xs (tg TR ((t0 + n : Nat) : Int) 1) (-1)).length = 8 := by unfold zVs; split <;> simp [hx]
      refine zx_st (st1 := []) rfl ?_
      refine zx_pc (pc1 := 51) rfl ?_
      refine zx_iinc (i := 2) (v := ((t0 + n : Nat) : Int) - 1) dX4_undo_51 rfl (zw_eq (by omega) (by omega) (by omega)) (by decide) rfl ?_
      refine zx_L (L1 := [some (zR mc), some (zI (t0 : Int)), some (zI (((t0 + n : Nat) : Int) - 1)), some (zR y)]) rfl ?_
      refine zx_goto (tgt := 10) dX4_undo_54 (by decide) ?_
      have hfaL9 : zFa [va] w1 w_1 := (zFa_put zFa_re (by simp) hw_2)
      have h_5 : w_1.1 y = some (2, 0, [zI (k : Int), zR va, zR md, zP fca, zI fbt, zI fdp, zP fcl, zI fdn, zP fod, zI fcb]) := by
        rw [hw_2]; exact zput_tg hva hfy (by simp)
      have hfry9 : fmW w_1 y (k : Int) ((va, md), (fca, fbt, fdp), (fcl, fdn, fod, fcb), (zVs xs (tg TR ((t0 + n : Nat) : Int) 1) (-1))) := ⟨h_5, h_4, by first | exact List.length_replicate | assumption | (unfold zVs; split <;> simp [hx]) | simp [hx]⟩
      have hFrr9 := fm_keep1 hFr1 hk hfaL9 (zLc hva (by simp) zLn) hfry9
      have hmcF9 : mcF rp w1 w_1 := mcF_fa hfaL9 (zLc hva (by simp [mcP]) zLn)
      have h_6 : w_1.1 mc = some (4, 0, [zR t, zR fa, zR ca, zR ta, zR rp, zI us, zP cu, zI pl, zP de, zI fl, zI ov, zI fu]) := by
        rw [hw_2]; exact zput_tg hva hmc1 (by simp)
      have h_7 : w_1.1 fa = some (166, mc, zLs cap Fs) := by
        rw [hw_2]; exact zput_tg hva hfa1 (by simp)
      have h_8 : w_1.1 ca = some (138, mc, tTb 3 cc CH) := by
        rw [hw_2]; exact zput_tg hva hca1 (by simp)
      have h_9 : w_1.1 ta = some (139, mc, tTb 2 ct TR) := by
        rw [hw_2]; exact zput_tg hva hta1 (by simp)
      have h_10 : w_1.1 t = some (10, 0, [zI ty, zR tc, zR tn, zR th, zR tz]) := by
        rw [hw_2]; exact zput_tg hva ht01 (by simp)
      have h_11 : w_1.1 tc = some (130, t, tTb 3 30 C) := by
        rw [hw_2]; exact zput_tg hva htc1 (by simp)
      have h_12 : w_1.1 tn = some (131, t, tTb 4 800 N) := by
        rw [hw_2]; exact zput_tg hva htn1 (by simp)
      have h_13 : w_1.1 th = some (132, t, tTb 1 64 H) := by
        rw [hw_2]; exact zput_tg hva hth1 (by simp)
      have h_14 : w_1.1 tz = some (120, t, Sz.map zJ) := by
        rw [hw_2]; exact zput_tg hva htz1 (by simp)
      have h_15 : w_1.1 rp = some (8, 0, [zP mo, zR ri, zR ra, zR rn, zI sc, zI nc, zI dp, zI en, zI bk, zI bc]) := by
        rw [hw_2]; exact zput_tg hva hrp1 (by simp)
      have h_16 : w_1.1 ri = some (135, rp, tTb 1 3 I) := by
        rw [hw_2]; exact zput_tg hva hri1 (by simp)
      have h_17 : w_1.1 ra = some (136, rp, tTb 3 150 A) := by
        rw [hw_2]; exact zput_tg hva hra1 (by simp)
      have h_18 : w_1.1 rn = some (137, rp, tTb 2 160 Nt) := by
        rw [hw_2]; exact zput_tg hva hrn1 (by simp)
      have hM9 : mcW w_1 b1 b2 ((mc, fa, ca, ta), (t, tc, tn, th, tz), (rp, ri, ra, rn), (ty, C), (mo, I, bk, bc)) (((cap, Fs), fmUp fm1 y ((va, md), (fca, fbt, fdp), (fcl, fdn, fod, fcb), (zVs xs (tg TR ((t0 + n : Nat) : Int) 1) (-1)))), (cc, CH), (ct, TR), (us, cu, pl, de), (fl, ov, fu), (N, H, Sz), (A, Nt, sc, nc, dp, en)) := ⟨h_6, h_7, ⟨h_8, okC1⟩, ⟨h_9, okT1⟩, hFrr9, ⟨h_10, ⟨h_11, okTC1⟩, ⟨h_12, okN1⟩, ⟨h_13, okH1⟩, h_14, hSz1⟩, ⟨h_15, ⟨h_16, okI1⟩, ⟨h_17, okA1⟩, ⟨h_18, okNt1⟩⟩, hcap1, ⟨by omega, by omega, by omega, by omega⟩, by omega, by omega⟩
      have e3 := unS_y hla efm
      rw [show unN Fs TR t0 (n + 1) fm1 = unN Fs TR t0 n (unS Fs TR (t0 + n) fm1) from rfl, e3]
      exact ih _ _ _ _ (by omega) (by omega) hM9 (mcF_tr hF1 hmcF9)
  refine zx_aload_n (i := 0) dX4_undo_0 rfl rfl ?_
  refine zx_getfield dX4_undo_1 zf_X4_35 hmc rfl ?_
  refine zx_iv (b := ta) (As := []) (st := []) (v := (some (zI (TR.length : Int)))) (w1 := w) dX4_undo_4 zc_X4_186 hta (z_cls9 (by decide)) rfl rfl (Nat.le_of_ble_eq_true rfl) rfl (c_X9_count hta (by decide) okT) ?_
  refine zx_st (st1 := [zI (TR.length : Int)]) rfl ?_
  refine zx_iconst (v := 1) dX4_undo_7 rfl (z32_lit (by decide) (by decide)) ?_
  refine zx_isub (v := (TR.length : Int) - 1) dX4_undo_8 (zw_eq (by omega) (by omega) (by omega)) ?_
  refine zx_istore_n (i := 2) dX4_undo_9 rfl (by decide) rfl ?_
  refine zx_L (L1 := [some (zR mc), some (zI (t0 : Int)), some (zI ((TR.length : Int) - 1)), none]) rfl ?_
  exact loop (TR.length - t0) fm w none ((TR.length : Int) - 1) (by omega) (by omega) hM mcF_re
end MUNDO
