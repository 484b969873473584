/-! Own rows: breadth ends a denied question. Walked by program (wip/p37/m_bend.py). -/
section BEND
variable {G : zG} {d : Nat} {w : zW} {b1 b2 : Nat} {br pg t nd va ce li ro bi le wk : Nat} {cN cV cC cL cR cB cE cW : Nat} {NN VV CC LL RR BB EE WW : List (List Int)} {gc fr tk rs rd : Int} {E1 : List (List Int)} {f0 w0 r0 : Int} {e0 : Nat}
theorem c_X0_endDenied_1 (hB : bbW w b1 b2 ((br, pg, t), (nd, va, ce, li), (ro, bi, le, wk)) (((cN, NN), (cV, VV), (cC, CC), (cL, LL)), ((cR, RR), (cB, BB), (cE, (E1 ++ [[f0, (e0 : Int), w0, r0]])), (cW, WW)), (gc, fr, tk, rs, rd))) (hG1 : b1 + 1800000 ≤ 30 * G.2.2.2.2.1) (hG2 : b2 + 3700000 ≤ G.2.2.2.2.2) (hlE : E1.length < 900) (hle0 : e0 < 3000) : zM G zm_X0_endDenied (d + 4) [zR br, zI 1] w (zVoid fun w' => bbW w' b1 b2 ((br, pg, t), (nd, va, ce, li), (ro, bi, le, wk)) (((cN, NN), (cV, VV), (cC, CC), (cL, LL)), ((tCap 6 cR (tcut RR (e0 : Int)), ts (ts (ts (tcut RR (e0 : Int) ++ [trow 6 w0 0 0]) ((tcut RR (e0 : Int)).length : Int) 3 r0) ((tcut RR (e0 : Int)).length : Int) 4 (-1)) ((tcut RR (e0 : Int)).length : Int) 5 0), (cB, BB), (cE, tcut (E1 ++ [[f0, (e0 : Int), w0, r0]]) (E1.length : Int)), (cW, WW)), (gc, f0, tk, rs, rd)) ∧ zFr TB w w') := by
  refine zx_ent (by decide +kernel) rfl (Nat.le_of_ble_eq_true rfl) ?_
  refine zx_L (L1 := [some (zR br), some (zI 1), none]) rfl ?_
  obtain ⟨hbr, ⟨⟨hnd, okN⟩, ⟨hva, okV⟩, ⟨hce, okC⟩, ⟨hli, okL⟩⟩, ⟨⟨hro, okR⟩, ⟨hbi, okB⟩, ⟨hle, okE⟩, ⟨hwk, okW⟩⟩, ⟨⟨c1N, c1V, c1C, c1L⟩, ⟨c1R, c1B, c1E, c1W⟩⟩, ⟨⟨c2N, c2V, c2C, c2L⟩, ⟨c2R, c2B, c2E, c2W⟩⟩, hrm1, hrm2⟩ := id hB
  have hg0 : tg (E1 ++ [[f0, (e0 : Int), w0, r0]]) (E1.length : Int) 0 = f0 := tg_last (j := 0) rfl
  have hg1 : tg (E1 ++ [[f0, (e0 : Int), w0, r0]]) (E1.length : Int) 1 = (e0 : Int) := tg_last (j := 1) rfl
  have hg2 : tg (E1 ++ [[f0, (e0 : Int), w0, r0]]) (E1.length : Int) 2 = w0 := tg_last (j := 2) rfl
  have hg3 : tg (E1 ++ [[f0, (e0 : Int), w0, r0]]) (E1.length : Int) 3 = r0 := tg_last (j := 3) rfl
  have hlen1 : (E1 ++ [[f0, (e0 : Int), w0, r0]]).length = E1.length + 1 := by simp
  refine zx_aload_n (i := 0) dX0_endDenied_0 rfl rfl ?_
  refine zx_getfield dX0_endDenied_1 zf_X0_43 hbr rfl ?_
  refine zx_iv (b := le) (As := []) (st := []) (v := (some (zI ((E1 ++ [[f0, (e0 : Int), w0, r0]]).length : Int)))) (w1 := w) dX0_endDenied_4 zc_X0_70 hle (z_cls9 (by decide)) rfl rfl (Nat.le_of_ble_eq_true rfl) rfl (c_X9_count hle (by decide) okE) ?_
  refine zx_st (st1 := [zI ((E1 ++ [[f0, (e0 : Int), w0, r0]]).length : Int)]) rfl ?_
  refine zx_iconst (v := 1) dX0_endDenied_7 rfl (z32_lit (by decide) (by decide)) ?_
  refine zx_isub (v := (E1.length : Int)) dX0_endDenied_8 (zw_eq (by rw [hlen1]; omega) (by omega) (by omega)) ?_
  refine zx_istore_n (i := 2) dX0_endDenied_9 rfl (by decide) rfl ?_
  refine zx_L (L1 := [some (zR br), some (zI 1), some (zI (E1.length : Int))]) rfl ?_
  refine zx_aload_n (i := 0) dX0_endDenied_10 rfl rfl ?_
  refine zx_getfield dX0_endDenied_11 zf_X0_37 hbr rfl ?_
  refine zx_aload_n (i := 0) dX0_endDenied_14 rfl rfl ?_
  refine zx_getfield dX0_endDenied_15 zf_X0_43 hbr rfl ?_
  refine zx_iload_n (i := 2) dX0_endDenied_18 rfl rfl ?_
  refine zx_pc (pc1 := 19) rfl ?_
  refine zx_iconst (v := 1) dX0_endDenied_19 rfl (z32_lit (by decide) (by decide)) ?_
  refine zx_iv (b := le) (As := [zI (E1.length : Int), zI 1]) (st := [zR ro]) (v := (some (zI (e0 : Int)))) (w1 := w) dX0_endDenied_20 zc_X0_84 hle (z_cls9 (by decide)) rfl rfl (Nat.le_of_ble_eq_true rfl) rfl (by have q := (c_X9_get (G := G) (d := d + 3) hle (by decide) okE (E1.length : Int) 1); rw [hg1] at q; exact q) ?_
  refine zx_st (st1 := [zI (e0 : Int), zR ro]) rfl ?_
  obtain ⟨w_1, hw_2⟩ : ∃ ww, ww = zput w ro (144, br, tTb 6 cR (tcut RR (e0 : Int))) := ⟨_, rfl⟩
  have q_3 : w_1.2.1 = w.2.1 ∧ w_1.2.2 = w.2.2 := by rw [hw_2]; exact ⟨rfl, rfl⟩
  have h_4 : w_1.1 ro = some (144, br, tTb 6 cR (tcut RR (e0 : Int))) := by rw [hw_2]; exact zput_at
  refine zx_iv (b := ro) (As := [zI (e0 : Int)]) (st := []) (v := none) (w1 := w_1) dX0_endDenied_23 zc_X0_92 hro (z_cls9 (by decide)) rfl rfl (Nat.le_of_ble_eq_true rfl) rfl (by rw [hw_2]; exact (c_X9_cut hro (by decide) okR (e0 : Int))) ?_
  refine zx_st (st1 := []) rfl ?_
  refine zx_aload_n (i := 0) dX0_endDenied_26 rfl rfl ?_
  refine zx_aload_n (i := 0) dX0_endDenied_27 rfl rfl ?_
  have h_5 : w_1.1 br = some (0, 0, [zR pg, zR t, zR nd, zI gc, zR va, zR ce, zR li, zR ro, zI fr, zR bi, zR le, zR wk, zI tk, zI rs, zI rd]) := by
    rw [hw_2]; exact zput_tg hro hbr (by simp)
  refine zx_getfield dX0_endDenied_28 zf_X0_43 h_5 rfl ?_
  refine zx_iload_n (i := 2) dX0_endDenied_31 rfl rfl ?_
  refine zx_iconst (v := 0) dX0_endDenied_32 rfl (z32_lit (by decide) (by decide)) ?_
  have h_6 : w_1.1 le = some (146, br, tTb 4 cE (E1 ++ [[f0, (e0 : Int), w0, r0]])) := by
    rw [hw_2]; exact zput_tg hro hle (by simp)
  refine zx_iv (b := le) (As := [zI (E1.length : Int), zI 0]) (st := [zR br]) (v := (some (zI f0))) (w1 := w_1) dX0_endDenied_33 zc_X0_84 h_6 (z_cls9 (by decide)) rfl rfl (Nat.le_of_ble_eq_true rfl) rfl (by have q := (c_X9_get (G := G) (d := d + 3) h_6 (by decide) okE (E1.length : Int) 0); rw [hg0] at q; exact q) ?_
  refine zx_st (st1 := [zI f0, zR br]) rfl ?_
  obtain ⟨w_7, hw_8⟩ : ∃ ww, ww = zput w_1 br (0, 0, [zR pg, zR t, zR nd, zI gc, zR va, zR ce, zR li, zR ro, zI f0, zR bi, zR le, zR wk, zI tk, zI rs, zI rd]) := ⟨_, rfl⟩
  refine zx_put (w1 := w_7) dX0_endDenied_36 zf_X0_66 h_5 (Nat.le_of_ble_eq_true rfl) (zFt_int _) (fun h => by cases h) hw_8.symm ?_
  have q_9 : w_7.2.1 = w_1.2.1 ∧ w_7.2.2 = w_1.2.2 := by rw [hw_8]; exact ⟨rfl, rfl⟩
  have h_10 : w_7.1 br = some (0, 0, [zR pg, zR t, zR nd, zI gc, zR va, zR ce, zR li, zR ro, zI f0, zR bi, zR le, zR wk, zI tk, zI rs, zI rd]) := by rw [hw_8]; exact zput_at
  refine zx_iload_n (i := 1) dX0_endDenied_39 rfl rfl ?_
  refine zx_if_eq (tgt := 68) dX0_endDenied_40 (by decide) (fun h40 => absurd h40 (by decide)) (fun h40 => ?_)
  refine zx_pc (pc1 := 43) rfl ?_
  refine zx_aload_n (i := 0) dX0_endDenied_43 rfl rfl ?_
  refine zx_aload_n (i := 0) dX0_endDenied_44 rfl rfl ?_
  refine zx_getfield dX0_endDenied_45 zf_X0_43 h_10 rfl ?_
  refine zx_iload_n (i := 2) dX0_endDenied_48 rfl rfl ?_
  refine zx_iconst (v := 2) dX0_endDenied_49 rfl (z32_lit (by decide) (by decide)) ?_
  have h_11 : w_7.1 le = some (146, br, tTb 4 cE (E1 ++ [[f0, (e0 : Int), w0, r0]])) := by
    rw [hw_8]; exact zput_tg h_5 h_6 (by simp)
  refine zx_iv (b := le) (As := [zI (E1.length : Int), zI 2]) (st := [zR br]) (v := (some (zI w0))) (w1 := w_7) dX0_endDenied_50 zc_X0_84 h_11 (z_cls9 (by decide)) rfl rfl (Nat.le_of_ble_eq_true rfl) rfl (by have q := (c_X9_get (G := G) (d := d + 3) h_11 (by decide) okE (E1.length : Int) 2); rw [hg2] at q; exact q) ?_
  refine zx_st (st1 := [zI w0, zR br]) rfl ?_
  refine zx_iconst (v := 0) dX0_endDenied_53 rfl (z32_lit (by decide) (by decide)) ?_
  refine zx_iconst (v := 0) dX0_endDenied_54 rfl (z32_lit (by decide) (by decide)) ?_
  refine zx_aload_n (i := 0) dX0_endDenied_55 rfl rfl ?_
  refine zx_getfield dX0_endDenied_56 zf_X0_43 h_10 rfl ?_
  refine zx_iload_n (i := 2) dX0_endDenied_59 rfl rfl ?_
  refine zx_iconst (v := 3) dX0_endDenied_60 rfl (z32_lit (by decide) (by decide)) ?_
  refine zx_pc (pc1 := 61) rfl ?_
  refine zx_iv (b := le) (As := [zI (E1.length : Int), zI 3]) (st := [zI 0, zI 0, zI w0, zR br]) (v := (some (zI r0))) (w1 := w_7) dX0_endDenied_61 zc_X0_84 h_11 (z_cls9 (by decide)) rfl rfl (Nat.le_of_ble_eq_true rfl) rfl (by have q := (c_X9_get (G := G) (d := d + 3) h_11 (by decide) okE (E1.length : Int) 3); rw [hg3] at q; exact q) ?_
  refine zx_st (st1 := [zI r0, zI 0, zI 0, zI w0, zR br]) rfl ?_
  refine zx_iconst (v := -1) dX0_endDenied_64 rfl (z32_lit (by decide) (by decide)) ?_
  have hfaLp1 : zFa [ro, br] w w_7 := (zFa_put (zFa_put zFa_re (by simp) hw_2) (by simp) hw_8)
  have hFp1 : zFr TB w w_7 := zFr_fa hfaLp1 (zLc hro (by simp) (zLc hbr (by simp) zLn))
  have h_12 : w_1.1 nd = some (140, br, tTb 5 cN NN) := by
    rw [hw_2]; exact zput_tg hro hnd (by simp)
  have h_13 : w_7.1 nd = some (140, br, tTb 5 cN NN) := by
    rw [hw_8]; exact zput_tg h_5 h_12 (by simp)
  have h_14 : w_1.1 va = some (141, br, tTb 1 cV VV) := by
    rw [hw_2]; exact zput_tg hro hva (by simp)
  have h_15 : w_7.1 va = some (141, br, tTb 1 cV VV) := by
    rw [hw_8]; exact zput_tg h_5 h_14 (by simp)
  have h_16 : w_1.1 ce = some (142, br, tTb 3 cC CC) := by
    rw [hw_2]; exact zput_tg hro hce (by simp)
  have h_17 : w_7.1 ce = some (142, br, tTb 3 cC CC) := by
    rw [hw_8]; exact zput_tg h_5 h_16 (by simp)
  have h_18 : w_1.1 li = some (143, br, tTb 4 cL LL) := by
    rw [hw_2]; exact zput_tg hro hli (by simp)
  have h_19 : w_7.1 li = some (143, br, tTb 4 cL LL) := by
    rw [hw_8]; exact zput_tg h_5 h_18 (by simp)
  have h_20 : w_7.1 ro = some (144, br, tTb 6 cR (tcut RR (e0 : Int))) := by
    rw [hw_8]; exact zput_tg h_5 h_4 (by simp)
  have h_21 : w_1.1 bi = some (145, br, tTb 2 cB BB) := by
    rw [hw_2]; exact zput_tg hro hbi (by simp)
  have h_22 : w_7.1 bi = some (145, br, tTb 2 cB BB) := by
    rw [hw_8]; exact zput_tg h_5 h_21 (by simp)
  have h_23 : w_1.1 wk = some (147, br, tTb 3 cW WW) := by
    rw [hw_2]; exact zput_tg hro hwk (by simp)
  have h_24 : w_7.1 wk = some (147, br, tTb 3 cW WW) := by
    rw [hw_8]; exact zput_tg h_5 h_23 (by simp)
  have hBp1 : bbW w_7 b1 b2 ((br, pg, t), (nd, va, ce, li), (ro, bi, le, wk)) (((cN, NN), (cV, VV), (cC, CC), (cL, LL)), ((cR, (tcut RR (e0 : Int))), (cB, BB), (cE, (E1 ++ [[f0, (e0 : Int), w0, r0]])), (cW, WW)), (gc, f0, tk, rs, rd)) := ⟨h_10, ⟨⟨h_13, okN⟩, ⟨h_15, okV⟩, ⟨h_17, okC⟩, ⟨h_19, okL⟩⟩, ⟨⟨h_20, (tOk_cut okR)⟩, ⟨h_22, okB⟩, ⟨h_11, okE⟩, ⟨h_24, okW⟩⟩, ⟨⟨by omega, by omega, by omega, by omega⟩, ⟨by omega, by omega, by omega, by omega⟩⟩, ⟨⟨by omega, by omega, by omega, by omega⟩, ⟨by omega, by omega, by omega, by omega⟩⟩, by omega, by omega⟩
  refine zx_ivN (b := br) (As := [zI w0, zI 0, zI 0, zI r0, zI (-1)]) (st := []) dX0_endDenied_65 zc_X0_138 h_10 rfl rfl rfl (Nat.le_of_ble_eq_true rfl) rfl (c_X0_addToRow hBp1 hG1 hG2 (by unfold tcut; rw [if_pos (by omega), List.length_take]; omega) w0 0 0 r0 (-1)) (fun w1 hq => ?_)
  obtain ⟨hB1, hF1⟩ := hq
  obtain ⟨hbr1, ⟨⟨hnd1, okN1⟩, ⟨hva1, okV1⟩, ⟨hce1, okC1⟩, ⟨hli1, okL1⟩⟩, ⟨⟨hro1, okR1⟩, ⟨hbi1, okB1⟩, ⟨hle1, okE1⟩, ⟨hwk1, okW1⟩⟩, ⟨⟨c1N1, c1V1, c1C1, c1L1⟩, ⟨c1R1, c1B1, c1E1, c1W1⟩⟩, ⟨⟨c2N1, c2V1, c2C1, c2L1⟩, ⟨c2R1, c2B1, c2E1, c2W1⟩⟩, hrm11, hrm21⟩ := id hB1
  refine zx_aload_n (i := 0) dX0_endDenied_68 rfl rfl ?_
  refine zx_getfield dX0_endDenied_69 zf_X0_43 hbr1 rfl ?_
  refine zx_iload_n (i := 2) dX0_endDenied_72 rfl rfl ?_
  obtain ⟨w_25, hw_26⟩ : ∃ ww, ww = zput w1 le (146, br, tTb 4 cE (tcut (E1 ++ [[f0, (e0 : Int), w0, r0]]) (E1.length : Int))) := ⟨_, rfl⟩
  have q_27 : w_25.2.1 = w1.2.1 ∧ w_25.2.2 = w1.2.2 := by rw [hw_26]; exact ⟨rfl, rfl⟩
  have h_28 : w_25.1 le = some (146, br, tTb 4 cE (tcut (E1 ++ [[f0, (e0 : Int), w0, r0]]) (E1.length : Int))) := by rw [hw_26]; exact zput_at
  refine zx_iv (b := le) (As := [zI (E1.length : Int)]) (st := []) (v := none) (w1 := w_25) dX0_endDenied_73 zc_X0_92 hle1 (z_cls9 (by decide)) rfl rfl (Nat.le_of_ble_eq_true rfl) rfl (by rw [hw_26]; exact (c_X9_cut hle1 (by decide) okE1 (E1.length : Int))) ?_
  refine zx_st (st1 := []) rfl ?_
  refine zx_return dX0_endDenied_76 rfl ?_
  have hfaL9 : zFa [le] w1 w_25 := (zFa_put zFa_re (by simp) hw_26)
  have hF9 : zFr TB w1 w_25 := zFr_fa hfaL9 (zLc hle1 (by simp) zLn)
  have h_29 : w_25.1 nd = some (140, br, tTb 5 cN NN) := by
    rw [hw_26]; exact zput_tg hle1 hnd1 (by simp)
  have h_30 : w_25.1 va = some (141, br, tTb 1 cV VV) := by
    rw [hw_26]; exact zput_tg hle1 hva1 (by simp)
  have h_31 : w_25.1 ce = some (142, br, tTb 3 cC CC) := by
    rw [hw_26]; exact zput_tg hle1 hce1 (by simp)
  have h_32 : w_25.1 li = some (143, br, tTb 4 cL LL) := by
    rw [hw_26]; exact zput_tg hle1 hli1 (by simp)
  have h_33 : w_25.1 ro = some (144, br, tTb 6 (tCap 6 cR (tcut RR (e0 : Int))) (ts (ts (ts ((tcut RR (e0 : Int)) ++ [trow 6 w0 0 0]) ((tcut RR (e0 : Int)).length : Int) 3 r0) ((tcut RR (e0 : Int)).length : Int) 4 (-1)) ((tcut RR (e0 : Int)).length : Int) 5 0)) := by
    rw [hw_26]; exact zput_tg hle1 hro1 (by simp)
  have h_34 : w_25.1 bi = some (145, br, tTb 2 cB BB) := by
    rw [hw_26]; exact zput_tg hle1 hbi1 (by simp)
  have h_35 : w_25.1 wk = some (147, br, tTb 3 cW WW) := by
    rw [hw_26]; exact zput_tg hle1 hwk1 (by simp)
  have h_36 : w_25.1 br = some (0, 0, [zR pg, zR t, zR nd, zI gc, zR va, zR ce, zR li, zR ro, zI f0, zR bi, zR le, zR wk, zI tk, zI rs, zI rd]) := by
    rw [hw_26]; exact zput_tg hle1 hbr1 (by simp)
  have hB9 : bbW w_25 b1 b2 ((br, pg, t), (nd, va, ce, li), (ro, bi, le, wk)) (((cN, NN), (cV, VV), (cC, CC), (cL, LL)), (((tCap 6 cR (tcut RR (e0 : Int))), (ts (ts (ts ((tcut RR (e0 : Int)) ++ [trow 6 w0 0 0]) ((tcut RR (e0 : Int)).length : Int) 3 r0) ((tcut RR (e0 : Int)).length : Int) 4 (-1)) ((tcut RR (e0 : Int)).length : Int) 5 0)), (cB, BB), (cE, (tcut (E1 ++ [[f0, (e0 : Int), w0, r0]]) (E1.length : Int))), (cW, WW)), (gc, f0, tk, rs, rd)) := ⟨h_36, ⟨⟨h_29, okN1⟩, ⟨h_30, okV1⟩, ⟨h_31, okC1⟩, ⟨h_32, okL1⟩⟩, ⟨⟨h_33, okR1⟩, ⟨h_34, okB1⟩, ⟨h_28, (tOk_cut okE1)⟩, ⟨h_35, okW1⟩⟩, ⟨⟨by omega, by omega, by omega, by omega⟩, ⟨by omega, by omega, by omega, by omega⟩⟩, ⟨⟨by omega, by omega, by omega, by omega⟩, ⟨by omega, by omega, by omega, by omega⟩⟩, by omega, by omega⟩
  exact ⟨rfl, hB9, (zFr_tr hFp1 (zFr_tr hF1 hF9))⟩
theorem c_X0_endDenied_0 (hB : bbW w b1 b2 ((br, pg, t), (nd, va, ce, li), (ro, bi, le, wk)) (((cN, NN), (cV, VV), (cC, CC), (cL, LL)), ((cR, RR), (cB, BB), (cE, (E1 ++ [[f0, (e0 : Int), w0, r0]])), (cW, WW)), (gc, fr, tk, rs, rd))) (hG1 : b1 + 1800000 ≤ 30 * G.2.2.2.2.1) (hG2 : b2 + 3700000 ≤ G.2.2.2.2.2) (hlE : E1.length < 900) (hle0 : e0 < 3000) : zM G zm_X0_endDenied (d + 4) [zR br, zI 0] w (zVoid fun w' => bbW w' b1 b2 ((br, pg, t), (nd, va, ce, li), (ro, bi, le, wk)) (((cN, NN), (cV, VV), (cC, CC), (cL, LL)), ((cR, tcut RR (e0 : Int)), (cB, BB), (cE, tcut (E1 ++ [[f0, (e0 : Int), w0, r0]]) (E1.length : Int)), (cW, WW)), (gc, f0, tk, rs, rd)) ∧ zFr TB w w') := by
  refine zx_ent (by decide +kernel) rfl (Nat.le_of_ble_eq_true rfl) ?_
  refine zx_L (L1 := [some (zR br), some (zI 0), none]) rfl ?_
  obtain ⟨hbr, ⟨⟨hnd, okN⟩, ⟨hva, okV⟩, ⟨hce, okC⟩, ⟨hli, okL⟩⟩, ⟨⟨hro, okR⟩, ⟨hbi, okB⟩, ⟨hle, okE⟩, ⟨hwk, okW⟩⟩, ⟨⟨c1N, c1V, c1C, c1L⟩, ⟨c1R, c1B, c1E, c1W⟩⟩, ⟨⟨c2N, c2V, c2C, c2L⟩, ⟨c2R, c2B, c2E, c2W⟩⟩, hrm1, hrm2⟩ := id hB
  have hg0 : tg (E1 ++ [[f0, (e0 : Int), w0, r0]]) (E1.length : Int) 0 = f0 := tg_last (j := 0) rfl
  have hg1 : tg (E1 ++ [[f0, (e0 : Int), w0, r0]]) (E1.length : Int) 1 = (e0 : Int) := tg_last (j := 1) rfl
  have hg2 : tg (E1 ++ [[f0, (e0 : Int), w0, r0]]) (E1.length : Int) 2 = w0 := tg_last (j := 2) rfl
  have hg3 : tg (E1 ++ [[f0, (e0 : Int), w0, r0]]) (E1.length : Int) 3 = r0 := tg_last (j := 3) rfl
  have hlen1 : (E1 ++ [[f0, (e0 : Int), w0, r0]]).length = E1.length + 1 := by simp
  refine zx_aload_n (i := 0) dX0_endDenied_0 rfl rfl ?_
  refine zx_getfield dX0_endDenied_1 zf_X0_43 hbr rfl ?_
  refine zx_iv (b := le) (As := []) (st := []) (v := (some (zI ((E1 ++ [[f0, (e0 : Int), w0, r0]]).length : Int)))) (w1 := w) dX0_endDenied_4 zc_X0_70 hle (z_cls9 (by decide)) rfl rfl (Nat.le_of_ble_eq_true rfl) rfl (c_X9_count hle (by decide) okE) ?_
  refine zx_st (st1 := [zI ((E1 ++ [[f0, (e0 : Int), w0, r0]]).length : Int)]) rfl ?_
  refine zx_iconst (v := 1) dX0_endDenied_7 rfl (z32_lit (by decide) (by decide)) ?_
  refine zx_isub (v := (E1.length : Int)) dX0_endDenied_8 (zw_eq (by rw [hlen1]; omega) (by omega) (by omega)) ?_
  refine zx_istore_n (i := 2) dX0_endDenied_9 rfl (by decide) rfl ?_
  refine zx_L (L1 := [some (zR br), some (zI 0), some (zI (E1.length : Int))]) rfl ?_
  refine zx_aload_n (i := 0) dX0_endDenied_10 rfl rfl ?_
  refine zx_getfield dX0_endDenied_11 zf_X0_37 hbr rfl ?_
  refine zx_aload_n (i := 0) dX0_endDenied_14 rfl rfl ?_
  refine zx_getfield dX0_endDenied_15 zf_X0_43 hbr rfl ?_
  refine zx_iload_n (i := 2) dX0_endDenied_18 rfl rfl ?_
  refine zx_pc (pc1 := 19) rfl ?_
  refine zx_iconst (v := 1) dX0_endDenied_19 rfl (z32_lit (by decide) (by decide)) ?_
  refine zx_iv (b := le) (As := [zI (E1.length : Int), zI 1]) (st := [zR ro]) (v := (some (zI (e0 : Int)))) (w1 := w) dX0_endDenied_20 zc_X0_84 hle (z_cls9 (by decide)) rfl rfl (Nat.le_of_ble_eq_true rfl) rfl (by have q := (c_X9_get (G := G) (d := d + 3) hle (by decide) okE (E1.length : Int) 1); rw [hg1] at q; exact q) ?_
  refine zx_st (st1 := [zI (e0 : Int), zR ro]) rfl ?_
  obtain ⟨w_1, hw_2⟩ : ∃ ww, ww = zput w ro (144, br, tTb 6 cR (tcut RR (e0 : Int))) := ⟨_, rfl⟩
  have q_3 : w_1.2.1 = w.2.1 ∧ w_1.2.2 = w.2.2 := by rw [hw_2]; exact ⟨rfl, rfl⟩
  have h_4 : w_1.1 ro = some (144, br, tTb 6 cR (tcut RR (e0 : Int))) := by rw [hw_2]; exact zput_at
  refine zx_iv (b := ro) (As := [zI (e0 : Int)]) (st := []) (v := none) (w1 := w_1) dX0_endDenied_23 zc_X0_92 hro (z_cls9 (by decide)) rfl rfl (Nat.le_of_ble_eq_true rfl) rfl (by rw [hw_2]; exact (c_X9_cut hro (by decide) okR (e0 : Int))) ?_
  refine zx_st (st1 := []) rfl ?_
  refine zx_aload_n (i := 0) dX0_endDenied_26 rfl rfl ?_
  refine zx_aload_n (i := 0) dX0_endDenied_27 rfl rfl ?_
  have h_5 : w_1.1 br = some (0, 0, [zR pg, zR t, zR nd, zI gc, zR va, zR ce, zR li, zR ro, zI fr, zR bi, zR le, zR wk, zI tk, zI rs, zI rd]) := by
    rw [hw_2]; exact zput_tg hro hbr (by simp)
  refine zx_getfield dX0_endDenied_28 zf_X0_43 h_5 rfl ?_
  refine zx_iload_n (i := 2) dX0_endDenied_31 rfl rfl ?_
  refine zx_iconst (v := 0) dX0_endDenied_32 rfl (z32_lit (by decide) (by decide)) ?_
  have h_6 : w_1.1 le = some (146, br, tTb 4 cE (E1 ++ [[f0, (e0 : Int), w0, r0]])) := by
    rw [hw_2]; exact zput_tg hro hle (by simp)
  refine zx_iv (b := le) (As := [zI (E1.length : Int), zI 0]) (st := [zR br]) (v := (some (zI f0))) (w1 := w_1) dX0_endDenied_33 zc_X0_84 h_6 (z_cls9 (by decide)) rfl rfl (Nat.le_of_ble_eq_true rfl) rfl (by have q := (c_X9_get (G := G) (d := d + 3) h_6 (by decide) okE (E1.length : Int) 0); rw [hg0] at q; exact q) ?_
  refine zx_st (st1 := [zI f0, zR br]) rfl ?_
  obtain ⟨w_7, hw_8⟩ : ∃ ww, ww = zput w_1 br (0, 0, [zR pg, zR t, zR nd, zI gc, zR va, zR ce, zR li, zR ro, zI f0, zR bi, zR le, zR wk, zI tk, zI rs, zI rd]) := ⟨_, rfl⟩
  refine zx_put (w1 := w_7) dX0_endDenied_36 zf_X0_66 h_5 (Nat.le_of_ble_eq_true rfl) (zFt_int _) (fun h => by cases h) hw_8.symm ?_
  have q_9 : w_7.2.1 = w_1.2.1 ∧ w_7.2.2 = w_1.2.2 := by rw [hw_8]; exact ⟨rfl, rfl⟩
  have h_10 : w_7.1 br = some (0, 0, [zR pg, zR t, zR nd, zI gc, zR va, zR ce, zR li, zR ro, zI f0, zR bi, zR le, zR wk, zI tk, zI rs, zI rd]) := by rw [hw_8]; exact zput_at
  refine zx_iload_n (i := 1) dX0_endDenied_39 rfl rfl ?_
  refine zx_if_eq (tgt := 68) dX0_endDenied_40 (by decide) (fun h40 => ?_) (fun h40 => absurd (by decide) h40)
  refine zx_pc (pc1 := 68) rfl ?_
  refine zx_aload_n (i := 0) dX0_endDenied_68 rfl rfl ?_
  refine zx_getfield dX0_endDenied_69 zf_X0_43 h_10 rfl ?_
  refine zx_iload_n (i := 2) dX0_endDenied_72 rfl rfl ?_
  have h_11 : w_7.1 le = some (146, br, tTb 4 cE (E1 ++ [[f0, (e0 : Int), w0, r0]])) := by
    rw [hw_8]; exact zput_tg h_5 h_6 (by simp)
  obtain ⟨w_12, hw_13⟩ : ∃ ww, ww = zput w_7 le (146, br, tTb 4 cE (tcut (E1 ++ [[f0, (e0 : Int), w0, r0]]) (E1.length : Int))) := ⟨_, rfl⟩
  have q_14 : w_12.2.1 = w_7.2.1 ∧ w_12.2.2 = w_7.2.2 := by rw [hw_13]; exact ⟨rfl, rfl⟩
  have h_15 : w_12.1 le = some (146, br, tTb 4 cE (tcut (E1 ++ [[f0, (e0 : Int), w0, r0]]) (E1.length : Int))) := by rw [hw_13]; exact zput_at
  refine zx_iv (b := le) (As := [zI (E1.length : Int)]) (st := []) (v := none) (w1 := w_12) dX0_endDenied_73 zc_X0_92 h_11 (z_cls9 (by decide)) rfl rfl (Nat.le_of_ble_eq_true rfl) rfl (by rw [hw_13]; exact (c_X9_cut h_11 (by decide) okE (E1.length : Int))) ?_
  refine zx_st (st1 := []) rfl ?_
  refine zx_return dX0_endDenied_76 rfl ?_
  have hfaL9 : zFa [ro, br, le] w w_12 := (zFa_put (zFa_put (zFa_put zFa_re (by simp) hw_2) (by simp) hw_8) (by simp) hw_13)
  have hF9 : zFr TB w w_12 := zFr_fa hfaL9 (zLc hro (by simp) (zLc hbr (by simp) (zLc hle (by simp) zLn)))
  have h_16 : w_1.1 nd = some (140, br, tTb 5 cN NN) := by
    rw [hw_2]; exact zput_tg hro hnd (by simp)
  have h_17 : w_7.1 nd = some (140, br, tTb 5 cN NN) := by
    rw [hw_8]; exact zput_tg h_5 h_16 (by simp)
  have h_18 : w_12.1 nd = some (140, br, tTb 5 cN NN) := by
    rw [hw_13]; exact zput_tg h_11 h_17 (by simp)
  have h_19 : w_1.1 va = some (141, br, tTb 1 cV VV) := by
    rw [hw_2]; exact zput_tg hro hva (by simp)
  have h_20 : w_7.1 va = some (141, br, tTb 1 cV VV) := by
    rw [hw_8]; exact zput_tg h_5 h_19 (by simp)
  have h_21 : w_12.1 va = some (141, br, tTb 1 cV VV) := by
    rw [hw_13]; exact zput_tg h_11 h_20 (by simp)
  have h_22 : w_1.1 ce = some (142, br, tTb 3 cC CC) := by
    rw [hw_2]; exact zput_tg hro hce (by simp)
  have h_23 : w_7.1 ce = some (142, br, tTb 3 cC CC) := by
    rw [hw_8]; exact zput_tg h_5 h_22 (by simp)
  have h_24 : w_12.1 ce = some (142, br, tTb 3 cC CC) := by
    rw [hw_13]; exact zput_tg h_11 h_23 (by simp)
  have h_25 : w_1.1 li = some (143, br, tTb 4 cL LL) := by
    rw [hw_2]; exact zput_tg hro hli (by simp)
  have h_26 : w_7.1 li = some (143, br, tTb 4 cL LL) := by
    rw [hw_8]; exact zput_tg h_5 h_25 (by simp)
  have h_27 : w_12.1 li = some (143, br, tTb 4 cL LL) := by
    rw [hw_13]; exact zput_tg h_11 h_26 (by simp)
  have h_28 : w_7.1 ro = some (144, br, tTb 6 cR (tcut RR (e0 : Int))) := by
    rw [hw_8]; exact zput_tg h_5 h_4 (by simp)
  have h_29 : w_12.1 ro = some (144, br, tTb 6 cR (tcut RR (e0 : Int))) := by
    rw [hw_13]; exact zput_tg h_11 h_28 (by simp)
  have h_30 : w_1.1 bi = some (145, br, tTb 2 cB BB) := by
    rw [hw_2]; exact zput_tg hro hbi (by simp)
  have h_31 : w_7.1 bi = some (145, br, tTb 2 cB BB) := by
    rw [hw_8]; exact zput_tg h_5 h_30 (by simp)
  have h_32 : w_12.1 bi = some (145, br, tTb 2 cB BB) := by
    rw [hw_13]; exact zput_tg h_11 h_31 (by simp)
  have h_33 : w_1.1 wk = some (147, br, tTb 3 cW WW) := by
    rw [hw_2]; exact zput_tg hro hwk (by simp)
  have h_34 : w_7.1 wk = some (147, br, tTb 3 cW WW) := by
    rw [hw_8]; exact zput_tg h_5 h_33 (by simp)
  have h_35 : w_12.1 wk = some (147, br, tTb 3 cW WW) := by
    rw [hw_13]; exact zput_tg h_11 h_34 (by simp)
  have h_36 : w_12.1 br = some (0, 0, [zR pg, zR t, zR nd, zI gc, zR va, zR ce, zR li, zR ro, zI f0, zR bi, zR le, zR wk, zI tk, zI rs, zI rd]) := by
    rw [hw_13]; exact zput_tg h_11 h_10 (by simp)
  have hB9 : bbW w_12 b1 b2 ((br, pg, t), (nd, va, ce, li), (ro, bi, le, wk)) (((cN, NN), (cV, VV), (cC, CC), (cL, LL)), ((cR, (tcut RR (e0 : Int))), (cB, BB), (cE, (tcut (E1 ++ [[f0, (e0 : Int), w0, r0]]) (E1.length : Int))), (cW, WW)), (gc, f0, tk, rs, rd)) := ⟨h_36, ⟨⟨h_18, okN⟩, ⟨h_21, okV⟩, ⟨h_24, okC⟩, ⟨h_27, okL⟩⟩, ⟨⟨h_29, (tOk_cut okR)⟩, ⟨h_32, okB⟩, ⟨h_15, (tOk_cut okE)⟩, ⟨h_35, okW⟩⟩, ⟨⟨by omega, by omega, by omega, by omega⟩, ⟨by omega, by omega, by omega, by omega⟩⟩, ⟨⟨by omega, by omega, by omega, by omega⟩, ⟨by omega, by omega, by omega, by omega⟩⟩, by omega, by omega⟩
  exact ⟨rfl, hB9, hF9⟩
end BEND
