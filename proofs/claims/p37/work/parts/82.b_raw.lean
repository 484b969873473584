/-! Own rows: breadth's small methods. Walked by program (wip/p37/m_braw.py). -/
section BRAW
variable {G : zG} {d : Nat} {w : zW} {b1 b2 : Nat} {br pg t nd va ce li ro bi le wk : Nat} {cN cV cC cL cR cB cE cW : Nat} {NN VV CC LL RR BB EE WW : List (List Int)} {gc fr tk rs rd : Int}
theorem c_X0_newUnknown (hB : bbW w b1 b2 ((br, pg, t), (nd, va, ce, li), (ro, bi, le, wk)) (((cN, NN), (cV, VV), (cC, CC), (cL, LL)), ((cR, RR), (cB, BB), (cE, EE), (cW, WW)), (gc, fr, tk, rs, rd))) (hG1 : b1 + 1800000 ≤ 30 * G.2.2.2.2.1) (hG2 : b2 + 3700000 ≤ G.2.2.2.2.2) (hl : NN.length < 3900) : zM G zm_X0_newUnknown (d + 3) [zR br] w (zVal fun o w' => o = zI (NN.length : Int) ∧ bbW w' b1 b2 ((br, pg, t), (nd, va, ce, li), (ro, bi, le, wk)) (((tCap 5 cN NN, NN ++ [trow 5 (-1) (-1) (-1)]), (cV, VV), (cC, CC), (cL, LL)), ((cR, RR), (cB, BB), (cE, EE), (cW, WW)), (gc, fr, tk, rs, rd)) ∧ zFr TB w w') := by
  refine zx_ent (by decide +kernel) rfl (Nat.le_of_ble_eq_true rfl) ?_
  refine zx_L (L1 := [some (zR br)]) rfl ?_
  obtain ⟨hbr, ⟨⟨hnd, okN⟩, ⟨hva, okV⟩, ⟨hce, okC⟩, ⟨hli, okL⟩⟩, ⟨⟨hro, okR⟩, ⟨hbi, okB⟩, ⟨hle, okE⟩, ⟨hwk, okW⟩⟩, ⟨⟨c1N, c1V, c1C, c1L⟩, ⟨c1R, c1B, c1E, c1W⟩⟩, ⟨⟨c2N, c2V, c2C, c2L⟩, ⟨c2R, c2B, c2E, c2W⟩⟩, hrm1, hrm2⟩ := id hB
  refine zx_aload_n (i := 0) dX0_newUnknown_0 rfl rfl ?_
  refine zx_getfield dX0_newUnknown_1 zf_X0_24 hbr rfl ?_
  refine zx_iconst (v := -1) dX0_newUnknown_4 rfl (z32_lit (by decide) (by decide)) ?_
  refine zx_iconst (v := -1) dX0_newUnknown_5 rfl (z32_lit (by decide) (by decide)) ?_
  refine zx_iconst (v := -1) dX0_newUnknown_6 rfl (z32_lit (by decide) (by decide)) ?_
  refine zx_ok (fun ok_1 => ?_)
  obtain ⟨w_2, hw_3⟩ : ∃ ww, ww = tAw w nd 140 br 5 cN NN (trow 5 (-1) (-1) (-1)) := ⟨_, rfl⟩
  have h_4 : w_2.1 nd = some (140, br, tTb 5 (tCap 5 cN NN) (NN ++ [(trow 5 (-1) (-1) (-1))])) := by rw [hw_3]; exact tAw_at
  have qhw_3 := tAw_sz3 (w := w) (a := nd) (t := 140) (ow := br) (c := 5) (cap := cN) (rows := NN) (r := (trow 5 (-1) (-1) (-1))) (by omega)
  rw [← hw_3] at qhw_3
  refine zx_iv (b := nd) (As := [zI (-1), zI (-1), zI (-1)]) (st := []) (v := (some (zI (NN.length : Int)))) (w1 := w_2) dX0_newUnknown_7 zc_X0_113 hnd (z_cls9 (by decide)) rfl rfl (Nat.le_of_ble_eq_true rfl) rfl (by rw [hw_3]; exact (c_X9_add hnd (by decide) okN (by omega) (by by_cases cg : NN.length * 5 + 5 ≤ cN; exact Or.inl cg; exact Or.inr ⟨by omega, by omega⟩) (-1) (-1) (-1))) ?_
  refine zx_st (st1 := [zI (NN.length : Int)]) rfl ?_
  refine zx_iret dX0_newUnknown_10 rfl ?_
  have hfaL2 : zFa [nd] w w_2 := (zFa_taw zFa_re (by simp) ok_1 hw_3)
  have hF2 : zFr TB w w_2 := zFr_fa hfaL2 (zLc hnd (by simp) zLn)
  have h_5 : w_2.1 va = some (141, br, tTb 1 cV VV) := by
    rw [hw_3]; exact (tAw_to ok_1 (zne_tg hnd hva (by simp)) hva)
  have h_6 : w_2.1 ce = some (142, br, tTb 3 cC CC) := by
    rw [hw_3]; exact (tAw_to ok_1 (zne_tg hnd hce (by simp)) hce)
  have h_7 : w_2.1 li = some (143, br, tTb 4 cL LL) := by
    rw [hw_3]; exact (tAw_to ok_1 (zne_tg hnd hli (by simp)) hli)
  have h_8 : w_2.1 ro = some (144, br, tTb 6 cR RR) := by
    rw [hw_3]; exact (tAw_to ok_1 (zne_tg hnd hro (by simp)) hro)
  have h_9 : w_2.1 bi = some (145, br, tTb 2 cB BB) := by
    rw [hw_3]; exact (tAw_to ok_1 (zne_tg hnd hbi (by simp)) hbi)
  have h_10 : w_2.1 le = some (146, br, tTb 4 cE EE) := by
    rw [hw_3]; exact (tAw_to ok_1 (zne_tg hnd hle (by simp)) hle)
  have h_11 : w_2.1 wk = some (147, br, tTb 3 cW WW) := by
    rw [hw_3]; exact (tAw_to ok_1 (zne_tg hnd hwk (by simp)) hwk)
  have h_12 : w_2.1 br = some (0, 0, [zR pg, zR t, zR nd, zI gc, zR va, zR ce, zR li, zR ro, zI fr, zR bi, zR le, zR wk, zI tk, zI rs, zI rd]) := by
    rw [hw_3]; exact (tAw_to ok_1 (zne_tg hnd hbr (by simp)) hbr)
  have hB2 : bbW w_2 b1 b2 ((br, pg, t), (nd, va, ce, li), (ro, bi, le, wk)) ((((tCap 5 cN NN), (NN ++ [(trow 5 (-1) (-1) (-1))])), (cV, VV), (cC, CC), (cL, LL)), ((cR, RR), (cB, BB), (cE, EE), (cW, WW)), (gc, fr, tk, rs, rd)) := ⟨h_12, ⟨⟨h_4, (tOk_app okN (by first | exact trow_len | rfl))⟩, ⟨h_5, okV⟩, ⟨h_6, okC⟩, ⟨h_7, okL⟩⟩, ⟨⟨h_8, okR⟩, ⟨h_9, okB⟩, ⟨h_10, okE⟩, ⟨h_11, okW⟩⟩, ⟨⟨by omega, by omega, by omega, by omega⟩, ⟨by omega, by omega, by omega, by omega⟩⟩, ⟨⟨by omega, by omega, by omega, by omega⟩, ⟨by omega, by omega, by omega, by omega⟩⟩, by omega, by omega⟩
  exact ⟨_, rfl, rfl, hB2, hF2⟩
theorem c_X0_addToRow (hB : bbW w b1 b2 ((br, pg, t), (nd, va, ce, li), (ro, bi, le, wk)) (((cN, NN), (cV, VV), (cC, CC), (cL, LL)), ((cR, RR), (cB, BB), (cE, EE), (cW, WW)), (gc, fr, tk, rs, rd))) (hG1 : b1 + 1800000 ≤ 30 * G.2.2.2.2.1) (hG2 : b2 + 3700000 ≤ G.2.2.2.2.2) (hl : RR.length < 3000) (p0 f0 t0 e0 k0 : Int) : zM G zm_X0_addToRow (d + 3) [zR br, zI p0, zI f0, zI t0, zI e0, zI k0] w (zVoid fun w' => bbW w' b1 b2 ((br, pg, t), (nd, va, ce, li), (ro, bi, le, wk)) (((cN, NN), (cV, VV), (cC, CC), (cL, LL)), ((tCap 6 cR RR, ts (ts (ts (RR ++ [trow 6 p0 f0 t0]) (RR.length : Int) 3 e0) (RR.length : Int) 4 k0) (RR.length : Int) 5 0), (cB, BB), (cE, EE), (cW, WW)), (gc, fr, tk, rs, rd)) ∧ zFr TB w w') := by
  refine zx_ent (by decide +kernel) rfl (Nat.le_of_ble_eq_true rfl) ?_
  refine zx_L (L1 := [some (zR br), some (zI p0), some (zI f0), some (zI t0), some (zI e0), some (zI k0), none]) rfl ?_
  obtain ⟨hbr, ⟨⟨hnd, okN⟩, ⟨hva, okV⟩, ⟨hce, okC⟩, ⟨hli, okL⟩⟩, ⟨⟨hro, okR⟩, ⟨hbi, okB⟩, ⟨hle, okE⟩, ⟨hwk, okW⟩⟩, ⟨⟨c1N, c1V, c1C, c1L⟩, ⟨c1R, c1B, c1E, c1W⟩⟩, ⟨⟨c2N, c2V, c2C, c2L⟩, ⟨c2R, c2B, c2E, c2W⟩⟩, hrm1, hrm2⟩ := id hB
  refine zx_aload_n (i := 0) dX0_addToRow_0 rfl rfl ?_
  refine zx_getfield dX0_addToRow_1 zf_X0_37 hbr rfl ?_
  refine zx_iload_n (i := 1) dX0_addToRow_4 rfl rfl ?_
  refine zx_iload_n (i := 2) dX0_addToRow_5 rfl rfl ?_
  refine zx_iload_n (i := 3) dX0_addToRow_6 rfl rfl ?_
  refine zx_ok (fun ok_1 => ?_)
  obtain ⟨w_2, hw_3⟩ : ∃ ww, ww = tAw w ro 144 br 6 cR RR (trow 6 p0 f0 t0) := ⟨_, rfl⟩
  have h_4 : w_2.1 ro = some (144, br, tTb 6 (tCap 6 cR RR) (RR ++ [(trow 6 p0 f0 t0)])) := by rw [hw_3]; exact tAw_at
  have qhw_3 := tAw_sz3 (w := w) (a := ro) (t := 144) (ow := br) (c := 6) (cap := cR) (rows := RR) (r := (trow 6 p0 f0 t0)) (by omega)
  rw [← hw_3] at qhw_3
  refine zx_iv (b := ro) (As := [zI p0, zI f0, zI t0]) (st := []) (v := (some (zI (RR.length : Int)))) (w1 := w_2) dX0_addToRow_7 zc_X0_113 hro (z_cls9 (by decide)) rfl rfl (Nat.le_of_ble_eq_true rfl) rfl (by rw [hw_3]; exact (c_X9_add hro (by decide) okR (by omega) (by by_cases cg : RR.length * 6 + 6 ≤ cR; exact Or.inl cg; exact Or.inr ⟨by omega, by omega⟩) p0 f0 t0)) ?_
  refine zx_st (st1 := [zI (RR.length : Int)]) rfl ?_
  refine zx_istore (i := 6) dX0_addToRow_10 (by decide) rfl ?_
  refine zx_L (L1 := [some (zR br), some (zI p0), some (zI f0), some (zI t0), some (zI e0), some (zI k0), some (zI (RR.length : Int))]) rfl ?_
  refine zx_aload_n (i := 0) dX0_addToRow_12 rfl rfl ?_
  have h_5 : w_2.1 br = some (0, 0, [zR pg, zR t, zR nd, zI gc, zR va, zR ce, zR li, zR ro, zI fr, zR bi, zR le, zR wk, zI tk, zI rs, zI rd]) := by
    rw [hw_3]; exact (tAw_to ok_1 (zne_tg hro hbr (by simp)) hbr)
  refine zx_getfield dX0_addToRow_13 zf_X0_37 h_5 rfl ?_
  refine zx_iload (i := 6) dX0_addToRow_16 rfl ?_
  refine zx_iconst (v := 3) dX0_addToRow_18 rfl (z32_lit (by decide) (by decide)) ?_
  refine zx_pc (pc1 := 19) rfl ?_
  refine zx_iload (i := 4) dX0_addToRow_19 rfl ?_
  obtain ⟨w_6, hw_7⟩ : ∃ ww, ww = zput w_2 ro (144, br, tTb 6 (tCap 6 cR RR) (ts (RR ++ [(trow 6 p0 f0 t0)]) (RR.length : Int) 3 e0)) := ⟨_, rfl⟩
  have q_8 : w_6.2.1 = w_2.2.1 ∧ w_6.2.2 = w_2.2.2 := by rw [hw_7]; exact ⟨rfl, rfl⟩
  have h_9 : w_6.1 ro = some (144, br, tTb 6 (tCap 6 cR RR) (ts (RR ++ [(trow 6 p0 f0 t0)]) (RR.length : Int) 3 e0)) := by rw [hw_7]; exact zput_at
  refine zx_iv (b := ro) (As := [zI (RR.length : Int), zI 3, zI e0]) (st := []) (v := none) (w1 := w_6) dX0_addToRow_21 zc_X0_142 h_4 (z_cls9 (by decide)) rfl rfl (Nat.le_of_ble_eq_true rfl) rfl (by rw [hw_7]; exact (c_X9_set h_4 (by decide) (tOk_app okR (by first | exact trow_len | rfl)) (RR.length : Int) 3 e0)) ?_
  refine zx_st (st1 := []) rfl ?_
  refine zx_aload_n (i := 0) dX0_addToRow_24 rfl rfl ?_
  have h_10 : w_6.1 br = some (0, 0, [zR pg, zR t, zR nd, zI gc, zR va, zR ce, zR li, zR ro, zI fr, zR bi, zR le, zR wk, zI tk, zI rs, zI rd]) := by
    rw [hw_7]; exact zput_tg h_4 h_5 (by simp)
  refine zx_getfield dX0_addToRow_25 zf_X0_37 h_10 rfl ?_
  refine zx_iload (i := 6) dX0_addToRow_28 rfl ?_
  refine zx_iconst (v := 4) dX0_addToRow_30 rfl (z32_lit (by decide) (by decide)) ?_
  refine zx_iload (i := 5) dX0_addToRow_31 rfl ?_
  obtain ⟨w_11, hw_12⟩ : ∃ ww, ww = zput w_6 ro (144, br, tTb 6 (tCap 6 cR RR) (ts (ts (RR ++ [(trow 6 p0 f0 t0)]) (RR.length : Int) 3 e0) (RR.length : Int) 4 k0)) := ⟨_, rfl⟩
  have q_13 : w_11.2.1 = w_6.2.1 ∧ w_11.2.2 = w_6.2.2 := by rw [hw_12]; exact ⟨rfl, rfl⟩
  have h_14 : w_11.1 ro = some (144, br, tTb 6 (tCap 6 cR RR) (ts (ts (RR ++ [(trow 6 p0 f0 t0)]) (RR.length : Int) 3 e0) (RR.length : Int) 4 k0)) := by rw [hw_12]; exact zput_at
  refine zx_iv (b := ro) (As := [zI (RR.length : Int), zI 4, zI k0]) (st := []) (v := none) (w1 := w_11) dX0_addToRow_33 zc_X0_142 h_9 (z_cls9 (by decide)) rfl rfl (Nat.le_of_ble_eq_true rfl) rfl (by rw [hw_12]; exact (c_X9_set h_9 (by decide) (tOk_ts (tOk_app okR (by first | exact trow_len | rfl))) (RR.length : Int) 4 k0)) ?_
  refine zx_st (st1 := []) rfl ?_
  refine zx_aload_n (i := 0) dX0_addToRow_36 rfl rfl ?_
  have h_15 : w_11.1 br = some (0, 0, [zR pg, zR t, zR nd, zI gc, zR va, zR ce, zR li, zR ro, zI fr, zR bi, zR le, zR wk, zI tk, zI rs, zI rd]) := by
    rw [hw_12]; exact zput_tg h_9 h_10 (by simp)
  refine zx_getfield dX0_addToRow_37 zf_X0_37 h_15 rfl ?_
  refine zx_iload (i := 6) dX0_addToRow_40 rfl ?_
  refine zx_iconst (v := 5) dX0_addToRow_42 rfl (z32_lit (by decide) (by decide)) ?_
  refine zx_pc (pc1 := 43) rfl ?_
  refine zx_iconst (v := 0) dX0_addToRow_43 rfl (z32_lit (by decide) (by decide)) ?_
  obtain ⟨w_16, hw_17⟩ : ∃ ww, ww = zput w_11 ro (144, br, tTb 6 (tCap 6 cR RR) (ts (ts (ts (RR ++ [(trow 6 p0 f0 t0)]) (RR.length : Int) 3 e0) (RR.length : Int) 4 k0) (RR.length : Int) 5 0)) := ⟨_, rfl⟩
  have q_18 : w_16.2.1 = w_11.2.1 ∧ w_16.2.2 = w_11.2.2 := by rw [hw_17]; exact ⟨rfl, rfl⟩
  have h_19 : w_16.1 ro = some (144, br, tTb 6 (tCap 6 cR RR) (ts (ts (ts (RR ++ [(trow 6 p0 f0 t0)]) (RR.length : Int) 3 e0) (RR.length : Int) 4 k0) (RR.length : Int) 5 0)) := by rw [hw_17]; exact zput_at
  refine zx_iv (b := ro) (As := [zI (RR.length : Int), zI 5, zI 0]) (st := []) (v := none) (w1 := w_16) dX0_addToRow_44 zc_X0_142 h_14 (z_cls9 (by decide)) rfl rfl (Nat.le_of_ble_eq_true rfl) rfl (by rw [hw_17]; exact (c_X9_set h_14 (by decide) (tOk_ts (tOk_ts (tOk_app okR (by first | exact trow_len | rfl)))) (RR.length : Int) 5 0)) ?_
  refine zx_st (st1 := []) rfl ?_
  refine zx_return dX0_addToRow_47 rfl ?_
  have hfaL2 : zFa [ro] w w_16 := (zFa_put (zFa_put (zFa_put (zFa_taw zFa_re (by simp) ok_1 hw_3) (by simp) hw_7) (by simp) hw_12) (by simp) hw_17)
  have hF2 : zFr TB w w_16 := zFr_fa hfaL2 (zLc hro (by simp) zLn)
  have h_20 : w_2.1 nd = some (140, br, tTb 5 cN NN) := by
    rw [hw_3]; exact (tAw_to ok_1 (zne_tg hro hnd (by simp)) hnd)
  have h_21 : w_6.1 nd = some (140, br, tTb 5 cN NN) := by
    rw [hw_7]; exact zput_tg h_4 h_20 (by simp)
  have h_22 : w_11.1 nd = some (140, br, tTb 5 cN NN) := by
    rw [hw_12]; exact zput_tg h_9 h_21 (by simp)
  have h_23 : w_16.1 nd = some (140, br, tTb 5 cN NN) := by
    rw [hw_17]; exact zput_tg h_14 h_22 (by simp)
  have h_24 : w_2.1 va = some (141, br, tTb 1 cV VV) := by
    rw [hw_3]; exact (tAw_to ok_1 (zne_tg hro hva (by simp)) hva)
  have h_25 : w_6.1 va = some (141, br, tTb 1 cV VV) := by
    rw [hw_7]; exact zput_tg h_4 h_24 (by simp)
  have h_26 : w_11.1 va = some (141, br, tTb 1 cV VV) := by
    rw [hw_12]; exact zput_tg h_9 h_25 (by simp)
  have h_27 : w_16.1 va = some (141, br, tTb 1 cV VV) := by
    rw [hw_17]; exact zput_tg h_14 h_26 (by simp)
  have h_28 : w_2.1 ce = some (142, br, tTb 3 cC CC) := by
    rw [hw_3]; exact (tAw_to ok_1 (zne_tg hro hce (by simp)) hce)
  have h_29 : w_6.1 ce = some (142, br, tTb 3 cC CC) := by
    rw [hw_7]; exact zput_tg h_4 h_28 (by simp)
  have h_30 : w_11.1 ce = some (142, br, tTb 3 cC CC) := by
    rw [hw_12]; exact zput_tg h_9 h_29 (by simp)
  have h_31 : w_16.1 ce = some (142, br, tTb 3 cC CC) := by
    rw [hw_17]; exact zput_tg h_14 h_30 (by simp)
  have h_32 : w_2.1 li = some (143, br, tTb 4 cL LL) := by
    rw [hw_3]; exact (tAw_to ok_1 (zne_tg hro hli (by simp)) hli)
  have h_33 : w_6.1 li = some (143, br, tTb 4 cL LL) := by
    rw [hw_7]; exact zput_tg h_4 h_32 (by simp)
  have h_34 : w_11.1 li = some (143, br, tTb 4 cL LL) := by
    rw [hw_12]; exact zput_tg h_9 h_33 (by simp)
  have h_35 : w_16.1 li = some (143, br, tTb 4 cL LL) := by
    rw [hw_17]; exact zput_tg h_14 h_34 (by simp)
  have h_36 : w_2.1 bi = some (145, br, tTb 2 cB BB) := by
    rw [hw_3]; exact (tAw_to ok_1 (zne_tg hro hbi (by simp)) hbi)
  have h_37 : w_6.1 bi = some (145, br, tTb 2 cB BB) := by
    rw [hw_7]; exact zput_tg h_4 h_36 (by simp)
  have h_38 : w_11.1 bi = some (145, br, tTb 2 cB BB) := by
    rw [hw_12]; exact zput_tg h_9 h_37 (by simp)
  have h_39 : w_16.1 bi = some (145, br, tTb 2 cB BB) := by
    rw [hw_17]; exact zput_tg h_14 h_38 (by simp)
  have h_40 : w_2.1 le = some (146, br, tTb 4 cE EE) := by
    rw [hw_3]; exact (tAw_to ok_1 (zne_tg hro hle (by simp)) hle)
  have h_41 : w_6.1 le = some (146, br, tTb 4 cE EE) := by
    rw [hw_7]; exact zput_tg h_4 h_40 (by simp)
  have h_42 : w_11.1 le = some (146, br, tTb 4 cE EE) := by
    rw [hw_12]; exact zput_tg h_9 h_41 (by simp)
  have h_43 : w_16.1 le = some (146, br, tTb 4 cE EE) := by
    rw [hw_17]; exact zput_tg h_14 h_42 (by simp)
  have h_44 : w_2.1 wk = some (147, br, tTb 3 cW WW) := by
    rw [hw_3]; exact (tAw_to ok_1 (zne_tg hro hwk (by simp)) hwk)
  have h_45 : w_6.1 wk = some (147, br, tTb 3 cW WW) := by
    rw [hw_7]; exact zput_tg h_4 h_44 (by simp)
  have h_46 : w_11.1 wk = some (147, br, tTb 3 cW WW) := by
    rw [hw_12]; exact zput_tg h_9 h_45 (by simp)
  have h_47 : w_16.1 wk = some (147, br, tTb 3 cW WW) := by
    rw [hw_17]; exact zput_tg h_14 h_46 (by simp)
  have h_48 : w_16.1 br = some (0, 0, [zR pg, zR t, zR nd, zI gc, zR va, zR ce, zR li, zR ro, zI fr, zR bi, zR le, zR wk, zI tk, zI rs, zI rd]) := by
    rw [hw_17]; exact zput_tg h_14 h_15 (by simp)
  have hB2 : bbW w_16 b1 b2 ((br, pg, t), (nd, va, ce, li), (ro, bi, le, wk)) (((cN, NN), (cV, VV), (cC, CC), (cL, LL)), (((tCap 6 cR RR), (ts (ts (ts (RR ++ [(trow 6 p0 f0 t0)]) (RR.length : Int) 3 e0) (RR.length : Int) 4 k0) (RR.length : Int) 5 0)), (cB, BB), (cE, EE), (cW, WW)), (gc, fr, tk, rs, rd)) := ⟨h_48, ⟨⟨h_23, okN⟩, ⟨h_27, okV⟩, ⟨h_31, okC⟩, ⟨h_35, okL⟩⟩, ⟨⟨h_19, (tOk_ts (tOk_ts (tOk_ts (tOk_app okR (by first | exact trow_len | rfl)))))⟩, ⟨h_39, okB⟩, ⟨h_43, okE⟩, ⟨h_47, okW⟩⟩, ⟨⟨by omega, by omega, by omega, by omega⟩, ⟨by omega, by omega, by omega, by omega⟩⟩, ⟨⟨by omega, by omega, by omega, by omega⟩, ⟨by omega, by omega, by omega, by omega⟩⟩, by omega, by omega⟩
  exact ⟨rfl, hB2, hF2⟩
theorem c_X0_putQuestion (hB : bbW w b1 b2 ((br, pg, t), (nd, va, ce, li), (ro, bi, le, wk)) (((cN, NN), (cV, VV), (cC, CC), (cL, LL)), ((cR, RR), (cB, BB), (cE, EE), (cW, WW)), (gc, fr, tk, rs, rd))) (hG1 : b1 + 1800000 ≤ 30 * G.2.2.2.2.1) (hG2 : b2 + 3700000 ≤ G.2.2.2.2.2) (hlR : RR.length < 3000) (hlC : CC.length < 114000) (p0 b0 q0 : Int) (hp0 : 0 ≤ p0 ∧ p0 < 1000) : zM G zm_X0_putQuestion (d + 4) [zR br, zI p0, zI b0, zI q0] w (zVoid fun w' => bbW w' b1 b2 ((br, pg, t), (nd, va, ce, li), (ro, bi, le, wk)) (((cN, NN), (cV, VV), (tCap 3 cC CC, CC ++ [trow 3 (60 + p0) b0 (-1)]), (cL, LL)), ((tCap 6 cR RR, ts (ts (ts (RR ++ [trow 6 q0 0 0]) (RR.length : Int) 3 (CC.length : Int)) (RR.length : Int) 4 (-1)) (RR.length : Int) 5 0), (cB, BB), (cE, EE), (cW, WW)), (gc, fr, tk, rs, rd)) ∧ zFr TB w w') := by
  refine zx_ent (by decide +kernel) rfl (Nat.le_of_ble_eq_true rfl) ?_
  refine zx_L (L1 := [some (zR br), some (zI p0), some (zI b0), some (zI q0)]) rfl ?_
  obtain ⟨hbr, ⟨⟨hnd, okN⟩, ⟨hva, okV⟩, ⟨hce, okC⟩, ⟨hli, okL⟩⟩, ⟨⟨hro, okR⟩, ⟨hbi, okB⟩, ⟨hle, okE⟩, ⟨hwk, okW⟩⟩, ⟨⟨c1N, c1V, c1C, c1L⟩, ⟨c1R, c1B, c1E, c1W⟩⟩, ⟨⟨c2N, c2V, c2C, c2L⟩, ⟨c2R, c2B, c2E, c2W⟩⟩, hrm1, hrm2⟩ := id hB
  refine zx_aload_n (i := 0) dX0_putQuestion_0 rfl rfl ?_
  refine zx_iload_n (i := 3) dX0_putQuestion_1 rfl rfl ?_
  refine zx_iconst (v := 0) dX0_putQuestion_2 rfl (z32_lit (by decide) (by decide)) ?_
  refine zx_iconst (v := 0) dX0_putQuestion_3 rfl (z32_lit (by decide) (by decide)) ?_
  refine zx_aload_n (i := 0) dX0_putQuestion_4 rfl rfl ?_
  refine zx_getfield dX0_putQuestion_5 zf_X0_31 hbr rfl ?_
  refine zx_bipush (v := 60) dX0_putQuestion_8 (by decide +kernel) (z32_lit (by decide) (by decide)) ?_
  refine zx_iload_n (i := 1) dX0_putQuestion_10 rfl rfl ?_
  refine zx_iadd (v := 60 + p0) dX0_putQuestion_11 (zw_id ⟨by omega, by omega⟩) ?_
  refine zx_iload_n (i := 2) dX0_putQuestion_12 rfl rfl ?_
  refine zx_iconst (v := -1) dX0_putQuestion_13 rfl (z32_lit (by decide) (by decide)) ?_
  refine zx_pc (pc1 := 14) rfl ?_
  refine zx_ok (fun ok_1 => ?_)
  obtain ⟨w_2, hw_3⟩ : ∃ ww, ww = tAw w ce 142 br 3 cC CC (trow 3 (60 + p0) b0 (-1)) := ⟨_, rfl⟩
  have h_4 : w_2.1 ce = some (142, br, tTb 3 (tCap 3 cC CC) (CC ++ [(trow 3 (60 + p0) b0 (-1))])) := by rw [hw_3]; exact tAw_at
  have qhw_3 := tAw_sz3 (w := w) (a := ce) (t := 142) (ow := br) (c := 3) (cap := cC) (rows := CC) (r := (trow 3 (60 + p0) b0 (-1))) (by omega)
  rw [← hw_3] at qhw_3
  refine zx_iv (b := ce) (As := [zI (60 + p0), zI b0, zI (-1)]) (st := [zI 0, zI 0, zI q0, zR br]) (v := (some (zI (CC.length : Int)))) (w1 := w_2) dX0_putQuestion_14 zc_X0_113 hce (z_cls9 (by decide)) rfl rfl (Nat.le_of_ble_eq_true rfl) rfl (by rw [hw_3]; exact (c_X9_add hce (by decide) okC (by omega) (by by_cases cg : CC.length * 3 + 3 ≤ cC; exact Or.inl cg; exact Or.inr ⟨by omega, by omega⟩) (60 + p0) b0 (-1))) ?_
  refine zx_st (st1 := [zI (CC.length : Int), zI 0, zI 0, zI q0, zR br]) rfl ?_
  refine zx_iconst (v := -1) dX0_putQuestion_17 rfl (z32_lit (by decide) (by decide)) ?_
  have hfaLp1 : zFa [ce] w w_2 := (zFa_taw zFa_re (by simp) ok_1 hw_3)
  have hFp1 : zFr TB w w_2 := zFr_fa hfaLp1 (zLc hce (by simp) zLn)
  have h_5 : w_2.1 nd = some (140, br, tTb 5 cN NN) := by
    rw [hw_3]; exact (tAw_to ok_1 (zne_tg hce hnd (by simp)) hnd)
  have h_6 : w_2.1 va = some (141, br, tTb 1 cV VV) := by
    rw [hw_3]; exact (tAw_to ok_1 (zne_tg hce hva (by simp)) hva)
  have h_7 : w_2.1 li = some (143, br, tTb 4 cL LL) := by
    rw [hw_3]; exact (tAw_to ok_1 (zne_tg hce hli (by simp)) hli)
  have h_8 : w_2.1 ro = some (144, br, tTb 6 cR RR) := by
    rw [hw_3]; exact (tAw_to ok_1 (zne_tg hce hro (by simp)) hro)
  have h_9 : w_2.1 bi = some (145, br, tTb 2 cB BB) := by
    rw [hw_3]; exact (tAw_to ok_1 (zne_tg hce hbi (by simp)) hbi)
  have h_10 : w_2.1 le = some (146, br, tTb 4 cE EE) := by
    rw [hw_3]; exact (tAw_to ok_1 (zne_tg hce hle (by simp)) hle)
  have h_11 : w_2.1 wk = some (147, br, tTb 3 cW WW) := by
    rw [hw_3]; exact (tAw_to ok_1 (zne_tg hce hwk (by simp)) hwk)
  have h_12 : w_2.1 br = some (0, 0, [zR pg, zR t, zR nd, zI gc, zR va, zR ce, zR li, zR ro, zI fr, zR bi, zR le, zR wk, zI tk, zI rs, zI rd]) := by
    rw [hw_3]; exact (tAw_to ok_1 (zne_tg hce hbr (by simp)) hbr)
  have hBp1 : bbW w_2 b1 b2 ((br, pg, t), (nd, va, ce, li), (ro, bi, le, wk)) (((cN, NN), (cV, VV), ((tCap 3 cC CC), (CC ++ [(trow 3 (60 + p0) b0 (-1))])), (cL, LL)), ((cR, RR), (cB, BB), (cE, EE), (cW, WW)), (gc, fr, tk, rs, rd)) := ⟨h_12, ⟨⟨h_5, okN⟩, ⟨h_6, okV⟩, ⟨h_4, (tOk_app okC (by first | exact trow_len | rfl))⟩, ⟨h_7, okL⟩⟩, ⟨⟨h_8, okR⟩, ⟨h_9, okB⟩, ⟨h_10, okE⟩, ⟨h_11, okW⟩⟩, ⟨⟨by omega, by omega, by omega, by omega⟩, ⟨by omega, by omega, by omega, by omega⟩⟩, ⟨⟨by omega, by omega, by omega, by omega⟩, ⟨by omega, by omega, by omega, by omega⟩⟩, by omega, by omega⟩
  refine zx_ivN (b := br) (As := [zI q0, zI 0, zI 0, zI (CC.length : Int), zI (-1)]) (st := []) dX0_putQuestion_18 zc_X0_138 h_12 rfl rfl rfl (Nat.le_of_ble_eq_true rfl) rfl (c_X0_addToRow hBp1 hG1 hG2 hlR q0 0 0 (CC.length : Int) (-1)) (fun w1 hq => ?_)
  obtain ⟨hB1, hF1⟩ := hq
  obtain ⟨hbr1, ⟨⟨hnd1, okN1⟩, ⟨hva1, okV1⟩, ⟨hce1, okC1⟩, ⟨hli1, okL1⟩⟩, ⟨⟨hro1, okR1⟩, ⟨hbi1, okB1⟩, ⟨hle1, okE1⟩, ⟨hwk1, okW1⟩⟩, ⟨⟨c1N1, c1V1, c1C1, c1L1⟩, ⟨c1R1, c1B1, c1E1, c1W1⟩⟩, ⟨⟨c2N1, c2V1, c2C1, c2L1⟩, ⟨c2R1, c2B1, c2E1, c2W1⟩⟩, hrm11, hrm21⟩ := id hB1
  refine zx_return dX0_putQuestion_21 rfl ?_
  have hF9 : zFr TB w1 w1 := zFr_re
  have hB9 : bbW w1 b1 b2 ((br, pg, t), (nd, va, ce, li), (ro, bi, le, wk)) (((cN, NN), (cV, VV), ((tCap 3 cC CC), (CC ++ [(trow 3 (60 + p0) b0 (-1))])), (cL, LL)), (((tCap 6 cR RR), (ts (ts (ts (RR ++ [trow 6 q0 0 0]) (RR.length : Int) 3 (CC.length : Int)) (RR.length : Int) 4 (-1)) (RR.length : Int) 5 0)), (cB, BB), (cE, EE), (cW, WW)), (gc, fr, tk, rs, rd)) := ⟨hbr1, ⟨⟨hnd1, okN1⟩, ⟨hva1, okV1⟩, ⟨hce1, okC1⟩, ⟨hli1, okL1⟩⟩, ⟨⟨hro1, okR1⟩, ⟨hbi1, okB1⟩, ⟨hle1, okE1⟩, ⟨hwk1, okW1⟩⟩, ⟨⟨by omega, by omega, by omega, by omega⟩, ⟨by omega, by omega, by omega, by omega⟩⟩, ⟨⟨by omega, by omega, by omega, by omega⟩, ⟨by omega, by omega, by omega, by omega⟩⟩, by omega, by omega⟩
  exact ⟨rfl, hB9, (zFr_tr hFp1 (zFr_tr hF1 hF9))⟩
theorem c_X0_nodeOf (hB : bbW w b1 b2 ((br, pg, t), (nd, va, ce, li), (ro, bi, le, wk)) (((cN, NN), (cV, VV), (cC, CC), (cL, LL)), ((cR, RR), (cB, BB), (cE, EE), (cW, WW)), (gc, fr, tk, rs, rd))) {g gv : Nat} {k0 su n0 : Int} {xs : List Int} (hg : w.1 g = some (3, 0, [zI k0, zI su, zI n0, zR gv])) (hv : w.1 gv = some (100, g, xs.map Sum.inl)) (hx : xs.length < 100) (b0 i0 : Int) (hb : 0 ≤ b0 ∧ b0 < 1000000) (hz : 0 ≤ zVa xs i0 ∧ zVa xs i0 < 8) : zM G zm_X0_nodeOf (d + 1) [zR br, zR g, zI b0, zI i0] w (zRet (some (zI (tg VV (b0 + zVa xs i0) 0))) w) := by
  refine zx_ent (by decide +kernel) rfl (Nat.le_of_ble_eq_true rfl) ?_
  refine zx_L (L1 := [some (zR br), some (zR g), some (zI b0), some (zI i0)]) rfl ?_
  obtain ⟨hbr, ⟨⟨hnd, okN⟩, ⟨hva, okV⟩, ⟨hce, okC⟩, ⟨hli, okL⟩⟩, ⟨⟨hro, okR⟩, ⟨hbi, okB⟩, ⟨hle, okE⟩, ⟨hwk, okW⟩⟩, ⟨⟨c1N, c1V, c1C, c1L⟩, ⟨c1R, c1B, c1E, c1W⟩⟩, ⟨⟨c2N, c2V, c2C, c2L⟩, ⟨c2R, c2B, c2E, c2W⟩⟩, hrm1, hrm2⟩ := id hB
  refine zx_aload_n (i := 0) dX0_nodeOf_0 rfl rfl ?_
  refine zx_getfield dX0_nodeOf_1 zf_X0_28 hbr rfl ?_
  refine zx_iload_n (i := 2) dX0_nodeOf_4 rfl rfl ?_
  refine zx_aload_n (i := 1) dX0_nodeOf_5 rfl rfl ?_
  refine zx_iload_n (i := 3) dX0_nodeOf_6 rfl rfl ?_
  refine zx_iv (b := g) (As := [zI i0]) (st := [zI b0, zR va]) (v := (some (zI (zVa xs i0)))) (w1 := w) dX0_nodeOf_7 zc_X0_165 hg rfl rfl rfl (Nat.le_of_ble_eq_true rfl) rfl (c_X3_variableAt hg hv hx i0) ?_
  refine zx_st (st1 := [zI (zVa xs i0), zI b0, zR va]) rfl ?_
  refine zx_iadd (v := b0 + (zVa xs i0)) dX0_nodeOf_10 (zw_id ⟨by omega, by omega⟩) ?_
  refine zx_iconst (v := 0) dX0_nodeOf_11 rfl (z32_lit (by decide) (by decide)) ?_
  refine zx_iv (b := va) (As := [zI (b0 + (zVa xs i0)), zI 0]) (st := []) (v := (some (zI (tg VV (b0 + (zVa xs i0)) 0)))) (w1 := w) dX0_nodeOf_12 zc_X0_84 hva (z_cls9 (by decide)) rfl rfl (Nat.le_of_ble_eq_true rfl) rfl (c_X9_get hva (by decide) okV (b0 + (zVa xs i0)) 0) ?_
  refine zx_st (st1 := [zI (tg VV (b0 + (zVa xs i0)) 0)]) rfl ?_
  refine zx_iret dX0_nodeOf_15 rfl ?_
  exact zr_i rfl
theorem c_X0_setMark (hB : bbW w b1 b2 ((br, pg, t), (nd, va, ce, li), (ro, bi, le, wk)) (((cN, NN), (cV, VV), (cC, CC), (cL, LL)), ((cR, RR), (cB, BB), (cE, EE), (cW, WW)), (gc, fr, tk, rs, rd))) (n0 m0 : Int) (hrd : 0 ≤ rd ∧ rd < 1000000) (hm0 : 0 ≤ m0 ∧ m0 ≤ 2) : zM G zm_X0_setMark (d + 1) [zR br, zI n0, zI m0] w (zVoid fun w' => bbW w' b1 b2 ((br, pg, t), (nd, va, ce, li), (ro, bi, le, wk)) (((cN, ts NN n0 4 (3 * rd + m0)), (cV, VV), (cC, CC), (cL, LL)), ((cR, RR), (cB, BB), (cE, EE), (cW, WW)), (gc, fr, tk, rs, rd)) ∧ zFr TB w w') := by
  refine zx_ent (by decide +kernel) rfl (Nat.le_of_ble_eq_true rfl) ?_
  refine zx_L (L1 := [some (zR br), some (zI n0), some (zI m0)]) rfl ?_
  obtain ⟨hbr, ⟨⟨hnd, okN⟩, ⟨hva, okV⟩, ⟨hce, okC⟩, ⟨hli, okL⟩⟩, ⟨⟨hro, okR⟩, ⟨hbi, okB⟩, ⟨hle, okE⟩, ⟨hwk, okW⟩⟩, ⟨⟨c1N, c1V, c1C, c1L⟩, ⟨c1R, c1B, c1E, c1W⟩⟩, ⟨⟨c2N, c2V, c2C, c2L⟩, ⟨c2R, c2B, c2E, c2W⟩⟩, hrm1, hrm2⟩ := id hB
  refine zx_aload_n (i := 0) dX0_setMark_0 rfl rfl ?_
  refine zx_getfield dX0_setMark_1 zf_X0_24 hbr rfl ?_
  refine zx_iload_n (i := 1) dX0_setMark_4 rfl rfl ?_
  refine zx_iconst (v := 4) dX0_setMark_5 rfl (z32_lit (by decide) (by decide)) ?_
  refine zx_iconst (v := 3) dX0_setMark_6 rfl (z32_lit (by decide) (by decide)) ?_
  refine zx_aload_n (i := 0) dX0_setMark_7 rfl rfl ?_
  refine zx_getfield dX0_setMark_8 zf_X0_98 hbr rfl ?_
  refine zx_imul (v := 3 * rd) dX0_setMark_11 (zw_id ⟨by omega, by omega⟩) ?_
  refine zx_iload_n (i := 2) dX0_setMark_12 rfl rfl ?_
  refine zx_iadd (v := (3 * rd) + m0) dX0_setMark_13 (zw_id ⟨by omega, by omega⟩) ?_
  obtain ⟨w_1, hw_2⟩ : ∃ ww, ww = zput w nd (140, br, tTb 5 cN (ts NN n0 4 ((3 * rd) + m0))) := ⟨_, rfl⟩
  have q_3 : w_1.2.1 = w.2.1 ∧ w_1.2.2 = w.2.2 := by rw [hw_2]; exact ⟨rfl, rfl⟩
  have h_4 : w_1.1 nd = some (140, br, tTb 5 cN (ts NN n0 4 ((3 * rd) + m0))) := by rw [hw_2]; exact zput_at
  refine zx_iv (b := nd) (As := [zI n0, zI 4, zI ((3 * rd) + m0)]) (st := []) (v := none) (w1 := w_1) dX0_setMark_14 zc_X0_142 hnd (z_cls9 (by decide)) rfl rfl (Nat.le_of_ble_eq_true rfl) rfl (by rw [hw_2]; exact (c_X9_set hnd (by decide) okN n0 4 ((3 * rd) + m0))) ?_
  refine zx_st (st1 := []) rfl ?_
  refine zx_pc (pc1 := 17) rfl ?_
  refine zx_return dX0_setMark_17 rfl ?_
  have hfaL2 : zFa [nd] w w_1 := (zFa_put zFa_re (by simp) hw_2)
  have hF2 : zFr TB w w_1 := zFr_fa hfaL2 (zLc hnd (by simp) zLn)
  have h_5 : w_1.1 va = some (141, br, tTb 1 cV VV) := by
    rw [hw_2]; exact zput_tg hnd hva (by simp)
  have h_6 : w_1.1 ce = some (142, br, tTb 3 cC CC) := by
    rw [hw_2]; exact zput_tg hnd hce (by simp)
  have h_7 : w_1.1 li = some (143, br, tTb 4 cL LL) := by
    rw [hw_2]; exact zput_tg hnd hli (by simp)
  have h_8 : w_1.1 ro = some (144, br, tTb 6 cR RR) := by
    rw [hw_2]; exact zput_tg hnd hro (by simp)
  have h_9 : w_1.1 bi = some (145, br, tTb 2 cB BB) := by
    rw [hw_2]; exact zput_tg hnd hbi (by simp)
  have h_10 : w_1.1 le = some (146, br, tTb 4 cE EE) := by
    rw [hw_2]; exact zput_tg hnd hle (by simp)
  have h_11 : w_1.1 wk = some (147, br, tTb 3 cW WW) := by
    rw [hw_2]; exact zput_tg hnd hwk (by simp)
  have h_12 : w_1.1 br = some (0, 0, [zR pg, zR t, zR nd, zI gc, zR va, zR ce, zR li, zR ro, zI fr, zR bi, zR le, zR wk, zI tk, zI rs, zI rd]) := by
    rw [hw_2]; exact zput_tg hnd hbr (by simp)
  have hB2 : bbW w_1 b1 b2 ((br, pg, t), (nd, va, ce, li), (ro, bi, le, wk)) (((cN, (ts NN n0 4 ((3 * rd) + m0))), (cV, VV), (cC, CC), (cL, LL)), ((cR, RR), (cB, BB), (cE, EE), (cW, WW)), (gc, fr, tk, rs, rd)) := ⟨h_12, ⟨⟨h_4, (tOk_ts okN)⟩, ⟨h_5, okV⟩, ⟨h_6, okC⟩, ⟨h_7, okL⟩⟩, ⟨⟨h_8, okR⟩, ⟨h_9, okB⟩, ⟨h_10, okE⟩, ⟨h_11, okW⟩⟩, ⟨⟨by omega, by omega, by omega, by omega⟩, ⟨by omega, by omega, by omega, by omega⟩⟩, ⟨⟨by omega, by omega, by omega, by omega⟩, ⟨by omega, by omega, by omega, by omega⟩⟩, by omega, by omega⟩
  exact ⟨rfl, hB2, hF2⟩
theorem c_X0_markOf (hB : bbW w b1 b2 ((br, pg, t), (nd, va, ce, li), (ro, bi, le, wk)) (((cN, NN), (cV, VV), (cC, CC), (cL, LL)), ((cR, RR), (cB, BB), (cE, EE), (cW, WW)), (gc, fr, tk, rs, rd))) (n0 : Int) (hrd : 0 ≤ rd ∧ rd < 1000000) (hm0 : -1000000000 ≤ tg NN n0 4 ∧ tg NN n0 4 ≤ 1000000000) : zM G zm_X0_markOf (d + 1) [zR br, zI n0] w (zRet (some (zI (if n0 < gc then 1 else max (tg NN n0 4 - 3 * rd) (-1)))) w) := by
  refine zx_ent (by decide +kernel) rfl (Nat.le_of_ble_eq_true rfl) ?_
  refine zx_L (L1 := [some (zR br), some (zI n0), none]) rfl ?_
  obtain ⟨hbr, ⟨⟨hnd, okN⟩, ⟨hva, okV⟩, ⟨hce, okC⟩, ⟨hli, okL⟩⟩, ⟨⟨hro, okR⟩, ⟨hbi, okB⟩, ⟨hle, okE⟩, ⟨hwk, okW⟩⟩, ⟨⟨c1N, c1V, c1C, c1L⟩, ⟨c1R, c1B, c1E, c1W⟩⟩, ⟨⟨c2N, c2V, c2C, c2L⟩, ⟨c2R, c2B, c2E, c2W⟩⟩, hrm1, hrm2⟩ := id hB
  refine zx_aload_n (i := 0) dX0_markOf_0 rfl rfl ?_
  refine zx_getfield dX0_markOf_1 zf_X0_24 hbr rfl ?_
  refine zx_iload_n (i := 1) dX0_markOf_4 rfl rfl ?_
  refine zx_iconst (v := 4) dX0_markOf_5 rfl (z32_lit (by decide) (by decide)) ?_
  refine zx_iv (b := nd) (As := [zI n0, zI 4]) (st := []) (v := (some (zI (tg NN n0 4)))) (w1 := w) dX0_markOf_6 zc_X0_84 hnd (z_cls9 (by decide)) rfl rfl (Nat.le_of_ble_eq_true rfl) rfl (c_X9_get hnd (by decide) okN n0 4) ?_
  refine zx_st (st1 := [zI (tg NN n0 4)]) rfl ?_
  refine zx_iconst (v := 3) dX0_markOf_9 rfl (z32_lit (by decide) (by decide)) ?_
  refine zx_aload_n (i := 0) dX0_markOf_10 rfl rfl ?_
  refine zx_getfield dX0_markOf_11 zf_X0_98 hbr rfl ?_
  refine zx_imul (v := 3 * rd) dX0_markOf_14 (zw_id ⟨by omega, by omega⟩) ?_
  refine zx_isub (v := (tg NN n0 4) - (3 * rd)) dX0_markOf_15 (zw_id ⟨by omega, by omega⟩) ?_
  refine zx_istore_n (i := 2) dX0_markOf_16 rfl (by decide) rfl ?_
  refine zx_L (L1 := [some (zR br), some (zI n0), some (zI ((tg NN n0 4) - (3 * rd)))]) rfl ?_
  refine zx_pc (pc1 := 17) rfl ?_
  refine zx_iload_n (i := 1) dX0_markOf_17 rfl rfl ?_
  refine zx_aload_n (i := 0) dX0_markOf_18 rfl rfl ?_
  refine zx_getfield dX0_markOf_19 zf_X0_117 hbr rfl ?_
  refine zx_icmp_ge (tgt := 29) dX0_markOf_22 (by decide) (fun h22 => ?_) (fun h22 => ?_)
  · refine zx_iload_n (i := 2) dX0_markOf_29 rfl rfl ?_
    refine zx_iconst (v := -1) dX0_markOf_30 rfl (z32_lit (by decide) (by decide)) ?_
    refine zx_max (v := max ((tg NN n0 4) - (3 * rd)) (-1)) dX0_markOf_31 zo_X0_245 zk_max1 zk_math zk_max2 (Nat.le_of_ble_eq_true rfl) rfl ?_
    refine zx_iret dX0_markOf_34 rfl ?_
    exact zr_i (if_neg (by omega)).symm
  · refine zx_iconst (v := 1) dX0_markOf_25 rfl (z32_lit (by decide) (by decide)) ?_
    refine zx_goto (tgt := 34) dX0_markOf_26 (by decide) ?_
    refine zx_iret dX0_markOf_34 rfl ?_
    exact zr_i (if_pos (by omega)).symm
/-- so many steps along what is bound, to the end -/
def fdT (NN : List (List Int)) : Nat → Int → Int → Prop
  | 0, a, z => a = z ∧ tg NN z 3 = -1
  | k + 1, a, z => tg NN a 3 ≠ -1 ∧ fdT NN k (tg NN a 3) z
theorem c_X0_find (hB : bbW w b1 b2 ((br, pg, t), (nd, va, ce, li), (ro, bi, le, wk)) (((cN, NN), (cV, VV), (cC, CC), (cL, LL)), ((cR, RR), (cB, BB), (cE, EE), (cW, WW)), (gc, fr, tk, rs, rd))) {k : Nat} {n0 z : Int} (hk : k ≤ 100000) (hf : fdT NN k n0 z) : zM G zm_X0_find (d + 1) [zR br, zI n0] w (zRet (some (zI z)) w) := by
  refine zx_ent (by decide +kernel) rfl (Nat.le_of_ble_eq_true rfl) ?_
  obtain ⟨hbr, ⟨⟨hnd, okN⟩, ⟨hva, okV⟩, ⟨hce, okC⟩, ⟨hli, okL⟩⟩, ⟨⟨hro, okR⟩, ⟨hbi, okB⟩, ⟨hle, okE⟩, ⟨hwk, okW⟩⟩, ⟨⟨c1N, c1V, c1C, c1L⟩, ⟨c1R, c1B, c1E, c1W⟩⟩, ⟨⟨c2N, c2V, c2C, c2L⟩, ⟨c2R, c2B, c2E, c2W⟩⟩, hrm1, hrm2⟩ := id hB
  have loop : ∀ (k q : Nat) (a : Int), q + k ≤ 100000 → fdT NN k a z → zX G zm_X0_find (d + 1) [zR br, zI n0] w (zRet (some (zI z)) w) 15 [some (zR br), some (zI n0), some (zI a), some (zI (tg NN a 3)), some (zI (q : Int))] [] w := by
    intro k
    induction k with
    | zero =>
      intro q a hq hf
      obtain ⟨rfl, h2⟩ := hf
      refine zx_iload (i := 4) dX0_find_15 rfl ?_
      refine zx_ldc (v := 1000000) dX0_find_17 zk_X0_65 (by decide +kernel) (z32_lit (by decide) (by decide)) ?_
      refine zx_icmp_ge (tgt := 45) dX0_find_19 (by decide) (fun h19 => absurd h19 (by omega)) (fun h19 => ?_)
      refine zx_iload_n (i := 3) dX0_find_22 rfl rfl ?_
      refine zx_iconst (v := -1) dX0_find_23 rfl (z32_lit (by decide) (by decide)) ?_
      refine zx_icmp_eq (tgt := 45) dX0_find_24 (by decide) (fun h24 => ?_) (fun h24 => absurd (h2) h24)
      refine zx_iload_n (i := 2) dX0_find_45 rfl rfl ?_
      refine zx_iret dX0_find_46 rfl ?_
      exact zr_i rfl
    | succ k ih =>
      intro q a hq hf
      obtain ⟨h1, h2⟩ := hf
      refine zx_iload (i := 4) dX0_find_15 rfl ?_
      refine zx_ldc (v := 1000000) dX0_find_17 zk_X0_65 (by decide +kernel) (z32_lit (by decide) (by decide)) ?_
      refine zx_icmp_ge (tgt := 45) dX0_find_19 (by decide) (fun h19 => absurd h19 (by omega)) (fun h19 => ?_)
      refine zx_iload_n (i := 3) dX0_find_22 rfl rfl ?_
      refine zx_iconst (v := -1) dX0_find_23 rfl (z32_lit (by decide) (by decide)) ?_
      refine zx_icmp_eq (tgt := 45) dX0_find_24 (by decide) (fun h24 => absurd h24 (h1)) (fun h24 => ?_)
      refine zx_iload_n (i := 3) dX0_find_27 rfl rfl ?_
      refine zx_istore_n (i := 2) dX0_find_28 rfl (by decide) rfl ?_
      refine zx_L (L1 := [some (zR br), some (zI n0), some (zI (tg NN a 3)), some (zI (tg NN a 3)), some (zI (q : Int))]) rfl ?_
      refine zx_aload_n (i := 0) dX0_find_29 rfl rfl ?_
      refine zx_getfield dX0_find_30 zf_X0_24 hbr rfl ?_
      refine zx_iload_n (i := 2) dX0_find_33 rfl rfl ?_
      refine zx_pc (pc1 := 34) rfl ?_
      refine zx_iconst (v := 3) dX0_find_34 rfl (z32_lit (by decide) (by decide)) ?_
      refine zx_iv (b := nd) (As := [zI (tg NN a 3), zI 3]) (st := []) (v := (some (zI (tg NN (tg NN a 3) 3)))) (w1 := w) dX0_find_35 zc_X0_84 hnd (z_cls9 (by decide)) rfl rfl (Nat.le_of_ble_eq_true rfl) rfl (c_X9_get hnd (by decide) okN (tg NN a 3) 3) ?_
      refine zx_st (st1 := [zI (tg NN (tg NN a 3) 3)]) rfl ?_
      refine zx_istore_n (i := 3) dX0_find_38 rfl (by decide) rfl ?_
      refine zx_L (L1 := [some (zR br), some (zI n0), some (zI (tg NN a 3)), some (zI (tg NN (tg NN a 3) 3)), some (zI (q : Int))]) rfl ?_
      refine zx_iinc (i := 4) (v := ((q + 1 : Nat) : Int)) dX0_find_39 rfl (zw_eq (by omega) (by omega) (by omega)) (by decide) rfl ?_
      refine zx_L (L1 := [some (zR br), some (zI n0), some (zI (tg NN a 3)), some (zI (tg NN (tg NN a 3) 3)), some (zI ((q + 1 : Nat) : Int))]) rfl ?_
      refine zx_goto (tgt := 15) dX0_find_42 (by decide) ?_
      exact ih (q + 1) _ (by omega) h2
  refine zx_L (L1 := [some (zR br), some (zI n0), none, none, none]) rfl ?_
  refine zx_iload_n (i := 1) dX0_find_0 rfl rfl ?_
  refine zx_istore_n (i := 2) dX0_find_1 rfl (by decide) rfl ?_
  refine zx_L (L1 := [some (zR br), some (zI n0), some (zI n0), none, none]) rfl ?_
  refine zx_aload_n (i := 0) dX0_find_2 rfl rfl ?_
  refine zx_getfield dX0_find_3 zf_X0_24 hbr rfl ?_
  refine zx_iload_n (i := 2) dX0_find_6 rfl rfl ?_
  refine zx_iconst (v := 3) dX0_find_7 rfl (z32_lit (by decide) (by decide)) ?_
  refine zx_iv (b := nd) (As := [zI n0, zI 3]) (st := []) (v := (some (zI (tg NN n0 3)))) (w1 := w) dX0_find_8 zc_X0_84 hnd (z_cls9 (by decide)) rfl rfl (Nat.le_of_ble_eq_true rfl) rfl (c_X9_get hnd (by decide) okN n0 3) ?_
  refine zx_st (st1 := [zI (tg NN n0 3)]) rfl ?_
  refine zx_istore_n (i := 3) dX0_find_11 rfl (by decide) rfl ?_
  refine zx_L (L1 := [some (zR br), some (zI n0), some (zI n0), some (zI (tg NN n0 3)), none]) rfl ?_
  refine zx_iconst (v := 0) dX0_find_12 rfl (z32_lit (by decide) (by decide)) ?_
  refine zx_istore (i := 4) dX0_find_13 (by decide) rfl ?_
  refine zx_L (L1 := [some (zR br), some (zI n0), some (zI n0), some (zI (tg NN n0 3)), some (zI 0)]) rfl ?_
  exact loop k 0 n0 (by omega) hf
end BRAW
