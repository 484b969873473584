/-! Own rows: the machine's small methods. Walked by program (wip/p37/m_mraw.py). -/
section MRAW
variable {G : zG} {d : Nat} {w : zW} {b1 b2 : Nat} {mc fa ca ta t tc tn th tz rp ri ra rn : Nat} {ty bk bc : Int} {C I : List (List Int)} {mo : Option Nat} {cap cc ct : Nat} {Fs : List Nat} {fm : Nat → fmR} {CH TR N H A Nt : List (List Int)} {Sz : List Int} {us pl fl ov fu sc nc dp en : Int} {cu de : Option Nat}
theorem c_X4_frameAt (hM : mcW w b1 b2 ((mc, fa, ca, ta), (t, tc, tn, th, tz), (rp, ri, ra, rn), (ty, C), (mo, I, bk, bc)) (((cap, Fs), fm), (cc, CH), (ct, TR), (us, cu, pl, de), (fl, ov, fu), (N, H, Sz), (A, Nt, sc, nc, dp, en))) (i : Int) : zM G zm_X4_frameAt (d + 3) [zR mc, zI i] w (zRet (some (zP (lAt Fs i))) w) := by
  refine zx_ent (by decide +kernel) rfl (Nat.le_of_ble_eq_true rfl) ?_
  refine zx_L (L1 := [some (zR mc), some (zI i)]) rfl ?_
  obtain ⟨hmc, hfa, ⟨hca, okC⟩, ⟨hta, okT⟩, hFr, ⟨ht0, ⟨htc, okTC⟩, ⟨htn, okN⟩, ⟨hth, okH⟩, htz, hSz⟩, ⟨hrp, ⟨hri, okI⟩, ⟨hra, okA⟩, ⟨hrn, okNt⟩⟩, hcap, hcct, hrm1, hrm2⟩ := id hM
  have hel : ∀ y ∈ Fs, ∃ a b, w.1 y = some ((2, a, b) : zO) := fun y hy => by
    obtain ⟨j, hj⟩ := List.mem_iff_getElem?.mp hy
    exact ⟨_, _, (hFr j y hj).1⟩
  refine zx_iload_n (i := 1) dX4_frameAt_0 rfl rfl ?_
  refine zx_if_lt (tgt := 29) dX4_frameAt_1 (by decide) (fun h1 => ?_) (fun h1 => ?_)
  · refine zx_null dX4_frameAt_29 ?_
    refine zx_areturn dX4_frameAt_30 rfl (Or.inl ⟨_, rfl⟩) ?_
    exact zr_v (by rw [lAt_out (by omega)]) rfl
  · refine zx_iload_n (i := 1) dX4_frameAt_4 rfl rfl ?_
    refine zx_aload_n (i := 0) dX4_frameAt_5 rfl rfl ?_
    refine zx_getfield dX4_frameAt_6 zf_X4_22 hmc rfl ?_
    refine zx_iv (b := fa) (As := []) (st := [zI i]) (v := (some (zI (Fs.length : Int)))) (w1 := w) dX4_frameAt_9 zc_X4_131 hfa (z_cls12 (by decide)) rfl rfl (Nat.le_of_ble_eq_true rfl) rfl (c_list_size hfa (by decide)) ?_
    refine zx_st (st1 := [zI (Fs.length : Int), zI i]) rfl ?_
    refine zx_icmp_ge (tgt := 29) dX4_frameAt_12 (by decide) (fun h12 => ?_) (fun h12 => ?_)
    · refine zx_null dX4_frameAt_29 ?_
      refine zx_areturn dX4_frameAt_30 rfl (Or.inl ⟨_, rfl⟩) ?_
      exact zr_v (by rw [lAt_out (by omega)]) rfl
    · refine zx_aload_n (i := 0) dX4_frameAt_15 rfl rfl ?_
      refine zx_getfield dX4_frameAt_16 zf_X4_22 hmc rfl ?_
      refine zx_iload_n (i := 1) dX4_frameAt_19 rfl rfl ?_
      obtain ⟨y_1, hy_2⟩ : ∃ y, Fs[(i).toNat]? = some y := ⟨_, List.getElem?_eq_getElem (by omega)⟩
      obtain ⟨oy_y_1, fy_y_1, hyy_y_1⟩ := hel y_1 (List.mem_of_getElem? hy_2)
      refine zx_iv (b := fa) (As := [zI i]) (st := []) (v := (some (zR y_1))) (w1 := w) dX4_frameAt_20 zc_X4_141 hfa (z_cls12 (by decide)) rfl rfl (Nat.le_of_ble_eq_true rfl) rfl (c_list_get hfa (by decide) (by omega) hy_2) ?_
      refine zx_st (st1 := [zR y_1]) rfl ?_
      refine zx_pc (pc1 := 23) rfl ?_
      refine zx_castR dX4_frameAt_23 hyy_y_1 rfl zl_X4_61 ?_
      refine zx_goto (tgt := 30) dX4_frameAt_26 (by decide) ?_
      refine zx_areturn dX4_frameAt_30 rfl (Or.inl ⟨_, rfl⟩) ?_
      exact zr_v (by rw [lAt_in (by omega) hy_2]) rfl
theorem c_X4_finish (hM : mcW w b1 b2 ((mc, fa, ca, ta), (t, tc, tn, th, tz), (rp, ri, ra, rn), (ty, C), (mo, I, bk, bc)) (((cap, Fs), fm), (cc, CH), (ct, TR), (us, cu, pl, de), (fl, ov, fu), (N, H, Sz), (A, Nt, sc, nc, dp, en))) (c : Nat) (hc : c < 65536) : zM G zm_X4_finish d [zR mc, zI (c : Int)] w (zVoid fun w' => mcW w' b1 b2 ((mc, fa, ca, ta), (t, tc, tn, th, tz), (rp, ri, ra, rn), (ty, C), (mo, I, bk, bc)) (((cap, Fs), fm), (cc, CH), (ct, TR), (us, cu, pl, de), (fl, 1, fu), (N, H, Sz), (A, Nt, sc, nc, dp, (c : Int))) ∧ mcF rp w w') := by
  refine zx_ent (by decide +kernel) rfl (Nat.le_of_ble_eq_true rfl) ?_
  refine zx_L (L1 := [some (zR mc), some (zI (c : Int))]) rfl ?_
  obtain ⟨hmc, hfa, ⟨hca, okC⟩, ⟨hta, okT⟩, hFr, ⟨ht0, ⟨htc, okTC⟩, ⟨htn, okN⟩, ⟨hth, okH⟩, htz, hSz⟩, ⟨hrp, ⟨hri, okI⟩, ⟨hra, okA⟩, ⟨hrn, okNt⟩⟩, hcap, hcct, hrm1, hrm2⟩ := id hM
  refine zx_aload_n (i := 0) dX4_finish_0 rfl rfl ?_
  refine zx_getfield dX4_finish_1 zf_X4_15 hmc rfl ?_
  refine zx_iload_n (i := 1) dX4_finish_4 rfl rfl ?_
  obtain ⟨w_1, hw_2⟩ : ∃ ww, ww = zput w rp (8, 0, [zP mo, zR ri, zR ra, zR rn, zI sc, zI nc, zI dp, zI (c : Int), zI bk, zI bc]) := ⟨_, rfl⟩
  refine zx_put (w1 := w_1) dX4_finish_5 zf_X4_148 hrp (Nat.le_of_ble_eq_true rfl) (zFt_char c hc) (fun h => by cases h) hw_2.symm ?_
  have q_3 : w_1.2.1 = w.2.1 ∧ w_1.2.2 = w.2.2 := by rw [hw_2]; exact ⟨rfl, rfl⟩
  have h_4 : w_1.1 rp = some (8, 0, [zP mo, zR ri, zR ra, zR rn, zI sc, zI nc, zI dp, zI (c : Int), zI bk, zI bc]) := by rw [hw_2]; exact zput_at
  refine zx_aload_n (i := 0) dX4_finish_8 rfl rfl ?_
  refine zx_iconst (v := 1) dX4_finish_9 rfl (z32_lit (by decide) (by decide)) ?_
  have h_5 : w_1.1 mc = some (4, 0, [zR t, zR fa, zR ca, zR ta, zR rp, zI us, zP cu, zI pl, zP de, zI fl, zI ov, zI fu]) := by
    rw [hw_2]; exact zput_tg hrp hmc (by simp)
  obtain ⟨w_6, hw_7⟩ : ∃ ww, ww = zput w_1 mc (4, 0, [zR t, zR fa, zR ca, zR ta, zR rp, zI us, zP cu, zI pl, zP de, zI fl, zI 1, zI fu]) := ⟨_, rfl⟩
  refine zx_put (w1 := w_6) dX4_finish_10 zf_X4_49 h_5 (Nat.le_of_ble_eq_true rfl) (zFt_bool (by first | exact Or.inl rfl | exact Or.inr rfl | exact zB_or | assumption)) (fun h => by cases h) hw_7.symm ?_
  have q_8 : w_6.2.1 = w_1.2.1 ∧ w_6.2.2 = w_1.2.2 := by rw [hw_7]; exact ⟨rfl, rfl⟩
  have h_9 : w_6.1 mc = some (4, 0, [zR t, zR fa, zR ca, zR ta, zR rp, zI us, zP cu, zI pl, zP de, zI fl, zI 1, zI fu]) := by rw [hw_7]; exact zput_at
  refine zx_return dX4_finish_13 rfl ?_
  have hfaL : zFa [rp, mc] w w_6 := (zFa_put (zFa_put zFa_re (by simp) hw_2) (by simp) hw_7)
  have hFr2 := fm_keep hFr hfaL (zLc hrp (by simp) (zLc hmc (by simp) zLn))
  have hmcF : mcF rp w w_6 := mcF_fa hfaL (zLc hrp (by simp [mcP]) (zLc hmc (by simp [mcP]) zLn))
  refine ⟨rfl, ?_, ?_⟩
  have h_10 : w_1.1 fa = some (166, mc, zLs cap Fs) := by
    rw [hw_2]; exact zput_tg hrp hfa (by simp)
  have h_11 : w_6.1 fa = some (166, mc, zLs cap Fs) := by
    rw [hw_7]; exact zput_tg h_5 h_10 (by simp)
  have h_12 : w_1.1 ca = some (138, mc, tTb 3 cc CH) := by
    rw [hw_2]; exact zput_tg hrp hca (by simp)
  have h_13 : w_6.1 ca = some (138, mc, tTb 3 cc CH) := by
    rw [hw_7]; exact zput_tg h_5 h_12 (by simp)
  have h_14 : w_1.1 ta = some (139, mc, tTb 2 ct TR) := by
    rw [hw_2]; exact zput_tg hrp hta (by simp)
  have h_15 : w_6.1 ta = some (139, mc, tTb 2 ct TR) := by
    rw [hw_7]; exact zput_tg h_5 h_14 (by simp)
  have h_16 : w_1.1 t = some (10, 0, [zI ty, zR tc, zR tn, zR th, zR tz]) := by
    rw [hw_2]; exact zput_tg hrp ht0 (by simp)
  have h_17 : w_6.1 t = some (10, 0, [zI ty, zR tc, zR tn, zR th, zR tz]) := by
    rw [hw_7]; exact zput_tg h_5 h_16 (by simp)
  have h_18 : w_1.1 tc = some (130, t, tTb 3 30 C) := by
    rw [hw_2]; exact zput_tg hrp htc (by simp)
  have h_19 : w_6.1 tc = some (130, t, tTb 3 30 C) := by
    rw [hw_7]; exact zput_tg h_5 h_18 (by simp)
  have h_20 : w_1.1 tn = some (131, t, tTb 4 800 N) := by
    rw [hw_2]; exact zput_tg hrp htn (by simp)
  have h_21 : w_6.1 tn = some (131, t, tTb 4 800 N) := by
    rw [hw_7]; exact zput_tg h_5 h_20 (by simp)
  have h_22 : w_1.1 th = some (132, t, tTb 1 64 H) := by
    rw [hw_2]; exact zput_tg hrp hth (by simp)
  have h_23 : w_6.1 th = some (132, t, tTb 1 64 H) := by
    rw [hw_7]; exact zput_tg h_5 h_22 (by simp)
  have h_24 : w_1.1 tz = some (120, t, Sz.map zJ) := by
    rw [hw_2]; exact zput_tg hrp htz (by simp)
  have h_25 : w_6.1 tz = some (120, t, Sz.map zJ) := by
    rw [hw_7]; exact zput_tg h_5 h_24 (by simp)
  have h_26 : w_6.1 rp = some (8, 0, [zP mo, zR ri, zR ra, zR rn, zI sc, zI nc, zI dp, zI (c : Int), zI bk, zI bc]) := by
    rw [hw_7]; exact zput_tg h_5 h_4 (by simp)
  have h_27 : w_1.1 ri = some (135, rp, tTb 1 3 I) := by
    rw [hw_2]; exact zput_tg hrp hri (by simp)
  have h_28 : w_6.1 ri = some (135, rp, tTb 1 3 I) := by
    rw [hw_7]; exact zput_tg h_5 h_27 (by simp)
  have h_29 : w_1.1 ra = some (136, rp, tTb 3 150 A) := by
    rw [hw_2]; exact zput_tg hrp hra (by simp)
  have h_30 : w_6.1 ra = some (136, rp, tTb 3 150 A) := by
    rw [hw_7]; exact zput_tg h_5 h_29 (by simp)
  have h_31 : w_1.1 rn = some (137, rp, tTb 2 160 Nt) := by
    rw [hw_2]; exact zput_tg hrp hrn (by simp)
  have h_32 : w_6.1 rn = some (137, rp, tTb 2 160 Nt) := by
    rw [hw_7]; exact zput_tg h_5 h_31 (by simp)
  · exact ⟨h_9, h_11, ⟨h_13, okC⟩, ⟨h_15, okT⟩, hFr2, ⟨h_17, ⟨h_19, okTC⟩, ⟨h_21, okN⟩, ⟨h_23, okH⟩, h_25, hSz⟩, ⟨h_26, ⟨h_28, okI⟩, ⟨h_30, okA⟩, ⟨h_32, okNt⟩⟩, hcap, ⟨by omega, by omega, by omega, by omega⟩, by omega, by omega⟩
  · exact hmcF
theorem c_X4_tryClause (hM : mcW w b1 b2 ((mc, fa, ca, ta), (t, tc, tn, th, tz), (rp, ri, ra, rn), (ty, C), (mo, I, bk, bc)) (((cap, Fs), fm), (cc, CH), (ct, TR), (us, cu, pl, de), (fl, ov, fu), (N, H, Sz), (A, Nt, sc, nc, dp, en))) {k y c : Nat} {r : fmR} (hk : Fs[k]? = some y) (er : fm y = r) : zM G zm_X4_tryClause d [zR mc, zR y, zR c] w (zVoid fun w' => mcW w' b1 b2 ((mc, fa, ca, ta), (t, tc, tn, th, tz), (rp, ri, ra, rn), (ty, C), (mo, I, bk, bc)) (((cap, Fs), fmUp fm y (r.1, r.2.1, (some c, r.2.2.1.2), r.2.2.2)), (cc, CH), (ct, TR), (us, some y, 0, de), (fl, ov, fu), (N, H, Sz), (A, Nt, sc, nc, dp, en)) ∧ mcF rp w w') := by
  refine zx_ent (by decide +kernel) rfl (Nat.le_of_ble_eq_true rfl) ?_
  refine zx_L (L1 := [some (zR mc), some (zR y), some (zR c)]) rfl ?_
  obtain ⟨hmc, hfa, ⟨hca, okC⟩, ⟨hta, okT⟩, hFr, ⟨ht0, ⟨htc, okTC⟩, ⟨htn, okN⟩, ⟨hth, okH⟩, htz, hSz⟩, ⟨hrp, ⟨hri, okI⟩, ⟨hra, okA⟩, ⟨hrn, okNt⟩⟩, hcap, hcct, hrm1, hrm2⟩ := id hM
  obtain ⟨⟨va, md⟩, ⟨fca, fbt, fdp⟩, ⟨fcl, fdn, fod, fcb⟩, xs⟩ := r
  obtain ⟨hfy, hva, hx⟩ := hFr k y hk
  rw [er] at hfy hva hx
  have hx : xs.length = 8 := hx
  refine zx_aload_n (i := 1) dX4_tryClause_0 rfl rfl ?_
  refine zx_aload_n (i := 2) dX4_tryClause_1 rfl rfl ?_
  obtain ⟨w_1, hw_2⟩ : ∃ ww, ww = zput w y (2, 0, [zI (k : Int), zR va, zR md, zP fca, zI fbt, zI fdp, zR c, zI fdn, zP fod, zI fcb]) := ⟨_, rfl⟩
  refine zx_put (w1 := w_1) dX4_tryClause_2 zf_X4_60 hfy (Nat.le_of_ble_eq_true rfl) (zFt_obj _ _) (fun h => by cases h) hw_2.symm ?_
  have q_3 : w_1.2.1 = w.2.1 ∧ w_1.2.2 = w.2.2 := by rw [hw_2]; exact ⟨rfl, rfl⟩
  have h_4 : w_1.1 y = some (2, 0, [zI (k : Int), zR va, zR md, zP fca, zI fbt, zI fdp, zR c, zI fdn, zP fod, zI fcb]) := by rw [hw_2]; exact zput_at
  refine zx_aload_n (i := 0) dX4_tryClause_5 rfl rfl ?_
  refine zx_aload_n (i := 1) dX4_tryClause_6 rfl rfl ?_
  have h_5 : w_1.1 mc = some (4, 0, [zR t, zR fa, zR ca, zR ta, zR rp, zI us, zP cu, zI pl, zP de, zI fl, zI ov, zI fu]) := by
    rw [hw_2]; exact zput_tg hfy hmc (by simp)
  obtain ⟨w_6, hw_7⟩ : ∃ ww, ww = zput w_1 mc (4, 0, [zR t, zR fa, zR ca, zR ta, zR rp, zI us, zR y, zI pl, zP de, zI fl, zI ov, zI fu]) := ⟨_, rfl⟩
  refine zx_put (w1 := w_6) dX4_tryClause_7 zf_X4_53 h_5 (Nat.le_of_ble_eq_true rfl) (zFt_obj _ _) (fun h => by cases h) hw_7.symm ?_
  have q_8 : w_6.2.1 = w_1.2.1 ∧ w_6.2.2 = w_1.2.2 := by rw [hw_7]; exact ⟨rfl, rfl⟩
  have h_9 : w_6.1 mc = some (4, 0, [zR t, zR fa, zR ca, zR ta, zR rp, zI us, zR y, zI pl, zP de, zI fl, zI ov, zI fu]) := by rw [hw_7]; exact zput_at
  refine zx_aload_n (i := 0) dX4_tryClause_10 rfl rfl ?_
  refine zx_iconst (v := 0) dX4_tryClause_11 rfl (z32_lit (by decide) (by decide)) ?_
  obtain ⟨w_10, hw_11⟩ : ∃ ww, ww = zput w_6 mc (4, 0, [zR t, zR fa, zR ca, zR ta, zR rp, zI us, zR y, zI 0, zP de, zI fl, zI ov, zI fu]) := ⟨_, rfl⟩
  refine zx_put (w1 := w_10) dX4_tryClause_12 zf_X4_69 h_9 (Nat.le_of_ble_eq_true rfl) (zFt_int _) (fun h => by cases h) hw_11.symm ?_
  have q_12 : w_10.2.1 = w_6.2.1 ∧ w_10.2.2 = w_6.2.2 := by rw [hw_11]; exact ⟨rfl, rfl⟩
  have h_13 : w_10.1 mc = some (4, 0, [zR t, zR fa, zR ca, zR ta, zR rp, zI us, zR y, zI 0, zP de, zI fl, zI ov, zI fu]) := by rw [hw_11]; exact zput_at
  refine zx_return dX4_tryClause_15 rfl ?_
  have hfaL : zFa [y, mc] w w_10 := (zFa_put (zFa_put (zFa_put zFa_re (by simp) hw_2) (by simp) hw_7) (by simp) hw_11)
  have h_14 : w_6.1 y = some (2, 0, [zI (k : Int), zR va, zR md, zP fca, zI fbt, zI fdp, zR c, zI fdn, zP fod, zI fcb]) := by
    rw [hw_7]; exact zput_tg h_5 h_4 (by simp)
  have h_15 : w_10.1 y = some (2, 0, [zI (k : Int), zR va, zR md, zP fca, zI fbt, zI fdp, zR c, zI fdn, zP fod, zI fcb]) := by
    rw [hw_11]; exact zput_tg h_9 h_14 (by simp)
  have h_16 : w_1.1 va = some (104, y, xs.map Sum.inl) := by
    rw [hw_2]; exact zput_tg hfy hva (by simp)
  have h_17 : w_6.1 va = some (104, y, xs.map Sum.inl) := by
    rw [hw_7]; exact zput_tg h_5 h_16 (by simp)
  have h_18 : w_10.1 va = some (104, y, xs.map Sum.inl) := by
    rw [hw_11]; exact zput_tg h_9 h_17 (by simp)
  have hfry : fmW w_10 y (k : Int) ((va, md), (fca, fbt, fdp), ((some c), fdn, fod, fcb), xs) := ⟨h_15, h_18, by first | exact List.length_replicate | assumption | (unfold zVs; split <;> simp [hx]) | simp [hx]⟩
  have hFr2 := fm_keep1 hFr hk hfaL (zLc hfy (by simp) (zLc hmc (by simp) zLn)) hfry
  have hmcF : mcF rp w w_10 := mcF_fa hfaL (zLc hfy (by simp [mcP]) (zLc hmc (by simp [mcP]) zLn))
  refine ⟨rfl, ?_, ?_⟩
  have h_19 : w_1.1 fa = some (166, mc, zLs cap Fs) := by
    rw [hw_2]; exact zput_tg hfy hfa (by simp)
  have h_20 : w_6.1 fa = some (166, mc, zLs cap Fs) := by
    rw [hw_7]; exact zput_tg h_5 h_19 (by simp)
  have h_21 : w_10.1 fa = some (166, mc, zLs cap Fs) := by
    rw [hw_11]; exact zput_tg h_9 h_20 (by simp)
  have h_22 : w_1.1 ca = some (138, mc, tTb 3 cc CH) := by
    rw [hw_2]; exact zput_tg hfy hca (by simp)
  have h_23 : w_6.1 ca = some (138, mc, tTb 3 cc CH) := by
    rw [hw_7]; exact zput_tg h_5 h_22 (by simp)
  have h_24 : w_10.1 ca = some (138, mc, tTb 3 cc CH) := by
    rw [hw_11]; exact zput_tg h_9 h_23 (by simp)
  have h_25 : w_1.1 ta = some (139, mc, tTb 2 ct TR) := by
    rw [hw_2]; exact zput_tg hfy hta (by simp)
  have h_26 : w_6.1 ta = some (139, mc, tTb 2 ct TR) := by
    rw [hw_7]; exact zput_tg h_5 h_25 (by simp)
  have h_27 : w_10.1 ta = some (139, mc, tTb 2 ct TR) := by
    rw [hw_11]; exact zput_tg h_9 h_26 (by simp)
  have h_28 : w_1.1 t = some (10, 0, [zI ty, zR tc, zR tn, zR th, zR tz]) := by
    rw [hw_2]; exact zput_tg hfy ht0 (by simp)
  have h_29 : w_6.1 t = some (10, 0, [zI ty, zR tc, zR tn, zR th, zR tz]) := by
    rw [hw_7]; exact zput_tg h_5 h_28 (by simp)
  have h_30 : w_10.1 t = some (10, 0, [zI ty, zR tc, zR tn, zR th, zR tz]) := by
    rw [hw_11]; exact zput_tg h_9 h_29 (by simp)
  have h_31 : w_1.1 tc = some (130, t, tTb 3 30 C) := by
    rw [hw_2]; exact zput_tg hfy htc (by simp)
  have h_32 : w_6.1 tc = some (130, t, tTb 3 30 C) := by
    rw [hw_7]; exact zput_tg h_5 h_31 (by simp)
  have h_33 : w_10.1 tc = some (130, t, tTb 3 30 C) := by
    rw [hw_11]; exact zput_tg h_9 h_32 (by simp)
  have h_34 : w_1.1 tn = some (131, t, tTb 4 800 N) := by
    rw [hw_2]; exact zput_tg hfy htn (by simp)
  have h_35 : w_6.1 tn = some (131, t, tTb 4 800 N) := by
    rw [hw_7]; exact zput_tg h_5 h_34 (by simp)
  have h_36 : w_10.1 tn = some (131, t, tTb 4 800 N) := by
    rw [hw_11]; exact zput_tg h_9 h_35 (by simp)
  have h_37 : w_1.1 th = some (132, t, tTb 1 64 H) := by
    rw [hw_2]; exact zput_tg hfy hth (by simp)
  have h_38 : w_6.1 th = some (132, t, tTb 1 64 H) := by
    rw [hw_7]; exact zput_tg h_5 h_37 (by simp)
  have h_39 : w_10.1 th = some (132, t, tTb 1 64 H) := by
    rw [hw_11]; exact zput_tg h_9 h_38 (by simp)
  have h_40 : w_1.1 tz = some (120, t, Sz.map zJ) := by
    rw [hw_2]; exact zput_tg hfy htz (by simp)
  have h_41 : w_6.1 tz = some (120, t, Sz.map zJ) := by
    rw [hw_7]; exact zput_tg h_5 h_40 (by simp)
  have h_42 : w_10.1 tz = some (120, t, Sz.map zJ) := by
    rw [hw_11]; exact zput_tg h_9 h_41 (by simp)
  have h_43 : w_1.1 rp = some (8, 0, [zP mo, zR ri, zR ra, zR rn, zI sc, zI nc, zI dp, zI en, zI bk, zI bc]) := by
    rw [hw_2]; exact zput_tg hfy hrp (by simp)
  have h_44 : w_6.1 rp = some (8, 0, [zP mo, zR ri, zR ra, zR rn, zI sc, zI nc, zI dp, zI en, zI bk, zI bc]) := by
    rw [hw_7]; exact zput_tg h_5 h_43 (by simp)
  have h_45 : w_10.1 rp = some (8, 0, [zP mo, zR ri, zR ra, zR rn, zI sc, zI nc, zI dp, zI en, zI bk, zI bc]) := by
    rw [hw_11]; exact zput_tg h_9 h_44 (by simp)
  have h_46 : w_1.1 ri = some (135, rp, tTb 1 3 I) := by
    rw [hw_2]; exact zput_tg hfy hri (by simp)
  have h_47 : w_6.1 ri = some (135, rp, tTb 1 3 I) := by
    rw [hw_7]; exact zput_tg h_5 h_46 (by simp)
  have h_48 : w_10.1 ri = some (135, rp, tTb 1 3 I) := by
    rw [hw_11]; exact zput_tg h_9 h_47 (by simp)
  have h_49 : w_1.1 ra = some (136, rp, tTb 3 150 A) := by
    rw [hw_2]; exact zput_tg hfy hra (by simp)
  have h_50 : w_6.1 ra = some (136, rp, tTb 3 150 A) := by
    rw [hw_7]; exact zput_tg h_5 h_49 (by simp)
  have h_51 : w_10.1 ra = some (136, rp, tTb 3 150 A) := by
    rw [hw_11]; exact zput_tg h_9 h_50 (by simp)
  have h_52 : w_1.1 rn = some (137, rp, tTb 2 160 Nt) := by
    rw [hw_2]; exact zput_tg hfy hrn (by simp)
  have h_53 : w_6.1 rn = some (137, rp, tTb 2 160 Nt) := by
    rw [hw_7]; exact zput_tg h_5 h_52 (by simp)
  have h_54 : w_10.1 rn = some (137, rp, tTb 2 160 Nt) := by
    rw [hw_11]; exact zput_tg h_9 h_53 (by simp)
  · exact ⟨h_13, h_21, ⟨h_24, okC⟩, ⟨h_27, okT⟩, hFr2, ⟨h_30, ⟨h_33, okTC⟩, ⟨h_36, okN⟩, ⟨h_39, okH⟩, h_42, hSz⟩, ⟨h_45, ⟨h_48, okI⟩, ⟨h_51, okA⟩, ⟨h_54, okNt⟩⟩, hcap, ⟨by omega, by omega, by omega, by omega⟩, by omega, by omega⟩
  · exact hmcF
theorem c_X4_agrees0 (hM : mcW w b1 b2 ((mc, fa, ca, ta), (t, tc, tn, th, tz), (rp, ri, ra, rn), (ty, C), (mo, I, bk, bc)) (((cap, Fs), fm), (cc, CH), (ct, TR), (us, cu, pl, de), (fl, ov, fu), (N, H, Sz), (A, Nt, sc, nc, dp, en))) (hG1 : b1 + 1500000 ≤ 60 * G.2.2.2.2.1) (hG2 : b2 + 3150000 ≤ G.2.2.2.2.2) (hF3 : Fs.length ≤ 320) (hTR : TR.length < 350000) {k y : Nat} {r : fmR} (hk : Fs[k]? = some y) (er : fm y = r) (x v : Int) (h0 : zVl r.2.2.2 x = -1) (hx0 : 0 ≤ x ∧ x < 8) : zM G zm_X4_agrees (d + 3) [zR mc, zR y, zI x, zI v] w (zVal fun o w' => o = zI 1 ∧ mcW w' b1 b2 ((mc, fa, ca, ta), (t, tc, tn, th, tz), (rp, ri, ra, rn), (ty, C), (mo, I, bk, bc)) (((cap, Fs), fmUp fm y (r.1, r.2.1, r.2.2.1, zVs r.2.2.2 x v)), (cc, CH), (tCap 2 ct TR, TR ++ [[(k : Int), x]]), (us, cu, pl, de), (fl, ov, fu), (N, H, Sz), (A, Nt, sc, nc, dp, en)) ∧ mcF rp w w') := by
  refine zx_ent (by decide +kernel) rfl (Nat.le_of_ble_eq_true rfl) ?_
  refine zx_L (L1 := [some (zR mc), some (zR y), some (zI x), some (zI v)]) rfl ?_
  obtain ⟨hmc, hfa, ⟨hca, okC⟩, ⟨hta, okT⟩, hFr, ⟨ht0, ⟨htc, okTC⟩, ⟨htn, okN⟩, ⟨hth, okH⟩, htz, hSz⟩, ⟨hrp, ⟨hri, okI⟩, ⟨hra, okA⟩, ⟨hrn, okNt⟩⟩, hcap, hcct, hrm1, hrm2⟩ := id hM
  obtain ⟨⟨va, md⟩, ⟨fca, fbt, fdp⟩, ⟨fcl, fdn, fod, fcb⟩, xs⟩ := r
  obtain ⟨hfy, hva, hx⟩ := hFr k y hk
  rw [er] at hfy hva hx
  have hx : xs.length = 8 := hx
  have h0 : zVl xs x = -1 := h0
  have hzv : zVl (zVs xs x v) x = v := by
    have hin : x.toNat < xs.length := by omega
    unfold zVs
    rw [if_pos ⟨hx0.1, hin⟩]
    unfold zVl
    rw [if_pos ⟨hx0.1, by rw [List.length_set]; exact hin⟩, List.getD_eq_getElem?_getD, List.getElem?_set_self hin]
    rfl
  refine zx_aload_n (i := 1) dX4_agrees_0 rfl rfl ?_
  refine zx_iload_n (i := 2) dX4_agrees_1 rfl rfl ?_
  refine zx_iv (b := y) (As := [zI x]) (st := []) (v := (some (zI (zVl xs x)))) (w1 := w) dX4_agrees_2 zc_X4_203 hfy rfl rfl rfl (Nat.le_of_ble_eq_true rfl) rfl (c_X2_valueOf hfy hva (by omega) x) ?_
  refine zx_st (st1 := [zI (zVl xs x)]) rfl ?_
  refine zx_iconst (v := -1) dX4_agrees_5 rfl (z32_lit (by decide) (by decide)) ?_
  refine zx_icmp_ne (tgt := 29) dX4_agrees_6 (by decide) (fun h6 => absurd h6 (by omega)) (fun h6 => ?_)
  refine zx_aload_n (i := 1) dX4_agrees_9 rfl rfl ?_
  refine zx_iload_n (i := 2) dX4_agrees_10 rfl rfl ?_
  refine zx_iload_n (i := 3) dX4_agrees_11 rfl rfl ?_
  obtain ⟨w_1, hw_2⟩ : ∃ ww, ww = zput w va (104, y, (zVs xs x v).map Sum.inl) := ⟨_, rfl⟩
  have q_3 : w_1.2.1 = w.2.1 ∧ w_1.2.2 = w.2.2 := by rw [hw_2]; exact ⟨rfl, rfl⟩
  have h_4 : w_1.1 va = some (104, y, (zVs xs x v).map Sum.inl) := by rw [hw_2]; exact zput_at
  refine zx_iv (b := y) (As := [zI x, zI v]) (st := []) (v := none) (w1 := w_1) dX4_agrees_12 zc_X4_125 hfy rfl rfl rfl (Nat.le_of_ble_eq_true rfl) rfl (by rw [hw_2]; exact (c_X2_setValue hfy hva (by omega) x v)) ?_
  have hx2 : (zVs xs x v).length = 8 := by unfold zVs; split <;> simp [hx]
  refine zx_st (st1 := []) rfl ?_
  refine zx_aload_n (i := 0) dX4_agrees_15 rfl rfl ?_
  have h_5 : w_1.1 mc = some (4, 0, [zR t, zR fa, zR ca, zR ta, zR rp, zI us, zP cu, zI pl, zP de, zI fl, zI ov, zI fu]) := by
    rw [hw_2]; exact zput_tg hva hmc (by simp)
  refine zx_getfield dX4_agrees_16 zf_X4_35 h_5 rfl ?_
  refine zx_pc (pc1 := 19) rfl ?_
  refine zx_aload_n (i := 1) dX4_agrees_19 rfl rfl ?_
  have h_6 : w_1.1 y = some (2, 0, [zI (k : Int), zR va, zR md, zP fca, zI fbt, zI fdp, zP fcl, zI fdn, zP fod, zI fcb]) := by
    rw [hw_2]; exact zput_tg hva hfy (by simp)
  refine zx_getfield dX4_agrees_20 zf_X4_185 h_6 rfl ?_
  refine zx_iload_n (i := 2) dX4_agrees_23 rfl rfl ?_
  refine zx_iconst (v := -1) dX4_agrees_24 rfl (z32_lit (by decide) (by decide)) ?_
  have h_7 : w_1.1 ta = some (139, mc, tTb 2 ct TR) := by
    rw [hw_2]; exact zput_tg hva hta (by simp)
  refine zx_ok (fun ok_8 => ?_)
  obtain ⟨w_9, hw_10⟩ : ∃ ww, ww = tAw w_1 ta 139 mc 2 ct TR (trow 2 (k : Int) x (-1)) := ⟨_, rfl⟩
  have h_11 : w_9.1 ta = some (139, mc, tTb 2 (tCap 2 ct TR) (TR ++ [(trow 2 (k : Int) x (-1))])) := by rw [hw_10]; exact tAw_at
  have qhw_10 := tAw_sz (w := w_1) (a := ta) (t := 139) (ow := mc) (c := 2) (cap := ct) (rows := TR) (r := (trow 2 (k : Int) x (-1))) (by omega)
  rw [← hw_10] at qhw_10
  refine zx_iv (b := ta) (As := [zI (k : Int), zI x, zI (-1)]) (st := []) (v := (some (zI (TR.length : Int)))) (w1 := w_9) dX4_agrees_25 zc_X4_189 h_7 (z_cls9 (by decide)) rfl rfl (Nat.le_of_ble_eq_true rfl) rfl (by rw [hw_10]; exact (c_X9_add h_7 (by decide) okT (by omega) (by by_cases cg : TR.length * 2 + 2 ≤ ct; exact Or.inl cg; exact Or.inr ⟨by omega, by omega⟩) (k : Int) x (-1))) ?_
  refine zx_st (st1 := [zI (TR.length : Int)]) rfl ?_
  refine zx_pop dX4_agrees_28 (fun a h => by cases h) ?_
  refine zx_aload_n (i := 1) dX4_agrees_29 rfl rfl ?_
  refine zx_iload_n (i := 2) dX4_agrees_30 rfl rfl ?_
  have h_12 : w_9.1 y = some (2, 0, [zI (k : Int), zR va, zR md, zP fca, zI fbt, zI fdp, zP fcl, zI fdn, zP fod, zI fcb]) := by
    rw [hw_10]; exact (tAw_to ok_8 (zne_tg h_7 h_6 (by simp)) h_6)
  have h_13 : w_9.1 va = some (104, y, (zVs xs x v).map Sum.inl) := by
    rw [hw_10]; exact (tAw_to ok_8 (zne_tg h_7 h_4 (by simp)) h_4)
  refine zx_iv (b := y) (As := [zI x]) (st := []) (v := (some (zI (zVl (zVs xs x v) x)))) (w1 := w_9) dX4_agrees_31 zc_X4_203 h_12 rfl rfl rfl (Nat.le_of_ble_eq_true rfl) rfl (c_X2_valueOf h_12 h_13 (by omega) x) ?_
  refine zx_st (st1 := [zI (zVl (zVs xs x v) x)]) rfl ?_
  refine zx_iload_n (i := 3) dX4_agrees_34 rfl rfl ?_
  refine zx_icmp_ne (tgt := 42) dX4_agrees_35 (by decide) (fun h35 => absurd h35 (by omega)) (fun h35 => ?_)
  refine zx_iconst (v := 1) dX4_agrees_38 rfl (z32_lit (by decide) (by decide)) ?_
  refine zx_pc (pc1 := 39) rfl ?_
  refine zx_goto (tgt := 43) dX4_agrees_39 (by decide) ?_
  refine zx_zret dX4_agrees_43 rfl (by first | exact Or.inl rfl | exact Or.inr rfl | exact zB_or | assumption) ?_
  have hfaL : zFa [va, ta] w w_9 := (zFa_taw (zFa_put zFa_re (by simp) hw_2) (by simp) ok_8 hw_10)
  have hfry : fmW w_9 y (k : Int) ((va, md), (fca, fbt, fdp), (fcl, fdn, fod, fcb), (zVs xs x v)) := ⟨h_12, h_13, by first | exact List.length_replicate | assumption | (unfold zVs; split <;> simp [hx]) | simp [hx]⟩
  have hFr2 := fm_keep1 hFr hk hfaL (zLc hva (by simp) (zLc hta (by simp) zLn)) hfry
  have hmcF : mcF rp w w_9 := mcF_fa hfaL (zLc hva (by simp [mcP]) (zLc hta (by simp [mcP]) zLn))
  refine ⟨_, rfl, rfl, ?_, ?_⟩
  have h_14 : w_9.1 mc = some (4, 0, [zR t, zR fa, zR ca, zR ta, zR rp, zI us, zP cu, zI pl, zP de, zI fl, zI ov, zI fu]) := by
    rw [hw_10]; exact (tAw_to ok_8 (zne_tg h_7 h_5 (by simp)) h_5)
  have h_15 : w_1.1 fa = some (166, mc, zLs cap Fs) := by
    rw [hw_2]; exact zput_tg hva hfa (by simp)
  have h_16 : w_9.1 fa = some (166, mc, zLs cap Fs) := by
    rw [hw_10]; exact (tAw_to ok_8 (zne_tg h_7 h_15 (by simp)) h_15)
  have h_17 : w_1.1 ca = some (138, mc, tTb 3 cc CH) := by
    rw [hw_2]; exact zput_tg hva hca (by simp)
  have h_18 : w_9.1 ca = some (138, mc, tTb 3 cc CH) := by
    rw [hw_10]; exact (tAw_to ok_8 (zne_tg h_7 h_17 (by simp)) h_17)
  have h_19 : w_1.1 t = some (10, 0, [zI ty, zR tc, zR tn, zR th, zR tz]) := by
    rw [hw_2]; exact zput_tg hva ht0 (by simp)
  have h_20 : w_9.1 t = some (10, 0, [zI ty, zR tc, zR tn, zR th, zR tz]) := by
    rw [hw_10]; exact (tAw_to ok_8 (zne_tg h_7 h_19 (by simp)) h_19)
  have h_21 : w_1.1 tc = some (130, t, tTb 3 30 C) := by
    rw [hw_2]; exact zput_tg hva htc (by simp)
  have h_22 : w_9.1 tc = some (130, t, tTb 3 30 C) := by
    rw [hw_10]; exact (tAw_to ok_8 (zne_tg h_7 h_21 (by simp)) h_21)
  have h_23 : w_1.1 tn = some (131, t, tTb 4 800 N) := by
    rw [hw_2]; exact zput_tg hva htn (by simp)
  have h_24 : w_9.1 tn = some (131, t, tTb 4 800 N) := by
    rw [hw_10]; exact (tAw_to ok_8 (zne_tg h_7 h_23 (by simp)) h_23)
  have h_25 : w_1.1 th = some (132, t, tTb 1 64 H) := by
    rw [hw_2]; exact zput_tg hva hth (by simp)
  have h_26 : w_9.1 th = some (132, t, tTb 1 64 H) := by
    rw [hw_10]; exact (tAw_to ok_8 (zne_tg h_7 h_25 (by simp)) h_25)
  have h_27 : w_1.1 tz = some (120, t, Sz.map zJ) := by
    rw [hw_2]; exact zput_tg hva htz (by simp)
  have h_28 : w_9.1 tz = some (120, t, Sz.map zJ) := by
    rw [hw_10]; exact (tAw_to ok_8 (zne_tg h_7 h_27 (by simp)) h_27)
  have h_29 : w_1.1 rp = some (8, 0, [zP mo, zR ri, zR ra, zR rn, zI sc, zI nc, zI dp, zI en, zI bk, zI bc]) := by
    rw [hw_2]; exact zput_tg hva hrp (by simp)
  have h_30 : w_9.1 rp = some (8, 0, [zP mo, zR ri, zR ra, zR rn, zI sc, zI nc, zI dp, zI en, zI bk, zI bc]) := by
    rw [hw_10]; exact (tAw_to ok_8 (zne_tg h_7 h_29 (by simp)) h_29)
  have h_31 : w_1.1 ri = some (135, rp, tTb 1 3 I) := by
    rw [hw_2]; exact zput_tg hva hri (by simp)
  have h_32 : w_9.1 ri = some (135, rp, tTb 1 3 I) := by
    rw [hw_10]; exact (tAw_to ok_8 (zne_tg h_7 h_31 (by simp)) h_31)
  have h_33 : w_1.1 ra = some (136, rp, tTb 3 150 A) := by
    rw [hw_2]; exact zput_tg hva hra (by simp)
  have h_34 : w_9.1 ra = some (136, rp, tTb 3 150 A) := by
    rw [hw_10]; exact (tAw_to ok_8 (zne_tg h_7 h_33 (by simp)) h_33)
  have h_35 : w_1.1 rn = some (137, rp, tTb 2 160 Nt) := by
    rw [hw_2]; exact zput_tg hva hrn (by simp)
  have h_36 : w_9.1 rn = some (137, rp, tTb 2 160 Nt) := by
    rw [hw_10]; exact (tAw_to ok_8 (zne_tg h_7 h_35 (by simp)) h_35)
  · exact ⟨h_14, h_16, ⟨h_18, okC⟩, ⟨h_11, (tOk_app okT (by first | exact trow_len | rfl))⟩, hFr2, ⟨h_20, ⟨h_22, okTC⟩, ⟨h_24, okN⟩, ⟨h_26, okH⟩, h_28, hSz⟩, ⟨h_30, ⟨h_32, okI⟩, ⟨h_34, okA⟩, ⟨h_36, okNt⟩⟩, hcap, ⟨by omega, by omega, by omega, by omega⟩, by omega, by omega⟩
  · exact hmcF
theorem c_X4_agrees1 (hM : mcW w b1 b2 ((mc, fa, ca, ta), (t, tc, tn, th, tz), (rp, ri, ra, rn), (ty, C), (mo, I, bk, bc)) (((cap, Fs), fm), (cc, CH), (ct, TR), (us, cu, pl, de), (fl, ov, fu), (N, H, Sz), (A, Nt, sc, nc, dp, en))) {k y : Nat} {r : fmR} (hk : Fs[k]? = some y) (er : fm y = r) (x v : Int) (h0 : zVl r.2.2.2 x ≠ -1) : zM G zm_X4_agrees (d + 3) [zR mc, zR y, zI x, zI v] w (zRet (some (zI (zB (zVl r.2.2.2 x = v)))) w) := by
  refine zx_ent (by decide +kernel) rfl (Nat.le_of_ble_eq_true rfl) ?_
  refine zx_L (L1 := [some (zR mc), some (zR y), some (zI x), some (zI v)]) rfl ?_
  obtain ⟨hmc, hfa, ⟨hca, okC⟩, ⟨hta, okT⟩, hFr, ⟨ht0, ⟨htc, okTC⟩, ⟨htn, okN⟩, ⟨hth, okH⟩, htz, hSz⟩, ⟨hrp, ⟨hri, okI⟩, ⟨hra, okA⟩, ⟨hrn, okNt⟩⟩, hcap, hcct, hrm1, hrm2⟩ := id hM
  obtain ⟨⟨va, md⟩, ⟨fca, fbt, fdp⟩, ⟨fcl, fdn, fod, fcb⟩, xs⟩ := r
  obtain ⟨hfy, hva, hx⟩ := hFr k y hk
  rw [er] at hfy hva hx
  have hx : xs.length = 8 := hx
  show zX G zm_X4_agrees (d + 3) _ w (zRet (some (zI (zB (zVl xs x = v)))) w) _ _ _ w
  have h0 : zVl xs x ≠ -1 := h0
  refine zx_aload_n (i := 1) dX4_agrees_0 rfl rfl ?_
  refine zx_iload_n (i := 2) dX4_agrees_1 rfl rfl ?_
  refine zx_iv (b := y) (As := [zI x]) (st := []) (v := (some (zI (zVl xs x)))) (w1 := w) dX4_agrees_2 zc_X4_203 hfy rfl rfl rfl (Nat.le_of_ble_eq_true rfl) rfl (c_X2_valueOf hfy hva (by omega) x) ?_
  refine zx_st (st1 := [zI (zVl xs x)]) rfl ?_
  refine zx_iconst (v := -1) dX4_agrees_5 rfl (z32_lit (by decide) (by decide)) ?_
  refine zx_icmp_ne (tgt := 29) dX4_agrees_6 (by decide) (fun h6 => ?_) (fun h6 => absurd (by omega) h6)
  refine zx_aload_n (i := 1) dX4_agrees_29 rfl rfl ?_
  refine zx_iload_n (i := 2) dX4_agrees_30 rfl rfl ?_
  refine zx_iv (b := y) (As := [zI x]) (st := []) (v := (some (zI (zVl xs x)))) (w1 := w) dX4_agrees_31 zc_X4_203 hfy rfl rfl rfl (Nat.le_of_ble_eq_true rfl) rfl (c_X2_valueOf hfy hva (by omega) x) ?_
  refine zx_st (st1 := [zI (zVl xs x)]) rfl ?_
  refine zx_iload_n (i := 3) dX4_agrees_34 rfl rfl ?_
  refine zx_icmp_ne (tgt := 42) dX4_agrees_35 (by decide) (fun h35 => ?_) (fun h35 => ?_)
  · refine zx_iconst (v := 0) dX4_agrees_42 rfl (z32_lit (by decide) (by decide)) ?_
    refine zx_pc (pc1 := 43) rfl ?_
    refine zx_zret dX4_agrees_43 rfl (by first | exact Or.inl rfl | exact Or.inr rfl | exact zB_or | assumption) ?_
    exact zr_f (by omega)
  · refine zx_iconst (v := 1) dX4_agrees_38 rfl (z32_lit (by decide) (by decide)) ?_
    refine zx_pc (pc1 := 39) rfl ?_
    refine zx_goto (tgt := 43) dX4_agrees_39 (by decide) ?_
    refine zx_zret dX4_agrees_43 rfl (by first | exact Or.inl rfl | exact Or.inr rfl | exact zB_or | assumption) ?_
    exact zr_t (by omega)
end MRAW
