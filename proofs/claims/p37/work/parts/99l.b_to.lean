/-! Own rows: breadth takes a list off the row, in pieces. Walked by program (wip/p37/m_bto.py). -/
section BTO
variable {G : zG} {d : Nat} {w w0 : zW} {b1 b2 g rd x y a bs li0 : Nat} {br pg t nd va ce li ro bi le wk : Nat} {cN cV cC cL cR cB cE cW : Nat} {NN VV CC LL RR BB EE WW : List (List Int)} {fr tk rs : Int} {r : goR} {R : pgR} {P1 : zW → Prop} {PQ : zV → zW → Prop} {p0 f0 t0 e0 k0 pl v0 : Int}
theorem to_n (hB : bbW w b1 b2 ((br, pg, t), (nd, va, ce, li), (ro, bi, le, wk)) (((cN, NN), (cV, VV), (cC, CC), (cL, LL)), ((cR, RR), (cB, BB), (cE, EE), (cW, WW)), ((g : Int), fr, tk, rs, (rd : Int)))) (hG1 : b1 + 1800000 ≤ 30 * G.2.2.2.2.1) (hG2 : b2 + 3700000 ≤ G.2.2.2.2.2) (htk : 0 ≤ tk ∧ tk < 100000) (hfr : 0 ≤ fr ∧ fr < 100000) (hlL : LL.length < 400) (r4 : tg RR fr 4 = -1) (r0 : tg RR fr 0 = p0) (r1 : tg RR fr 1 = f0) (r2 : tg RR fr 2 = t0) (r3 : tg RR fr 3 = e0) (hgo : ∀ w1, bbW w1 b1 b2 ((br, pg, t), (nd, va, ce, li), (ro, bi, le, wk)) (((cN, NN), (cV, VV), (cC, CC), ((tCap 4 cL LL), (ts (LL ++ [trow 4 p0 f0 t0]) (LL.length : Int) 3 e0))), ((cR, RR), (cB, BB), (cE, EE), (cW, WW)), ((g : Int), fr, (tk + 1), rs, (rd : Int))) → zFr TB w w1 → zM G zm_X0_goalOf (d + 4) [zR br, zI (-1)] w1 (zRet (some zN) w1)) (k : ∀ w1, bbW w1 b1 b2 ((br, pg, t), (nd, va, ce, li), (ro, bi, le, wk)) (((cN, NN), (cV, VV), (cC, CC), ((tCap 4 cL LL), (ts (LL ++ [trow 4 p0 f0 t0]) (LL.length : Int) 3 e0))), ((cR, RR), (cB, BB), (cE, EE), (cW, WW)), ((g : Int), (fr + 1), (tk + 1), rs, (rd : Int))) → zFr TB w w1 → PQ (zI (LL.length : Int)) w1) : zM G zm_X0_takeOff (d + 5) [zR br] w (zVal PQ) := by
  refine zx_ent (by decide +kernel) rfl (Nat.le_of_ble_eq_true rfl) ?_
  refine zx_L (L1 := [some (zR br), none, none, none, none, none, none]) rfl ?_
  obtain ⟨hbr, ⟨⟨hnd, okN⟩, ⟨hva, okV⟩, ⟨hce, okC⟩, ⟨hli, okL⟩⟩, ⟨⟨hro, okR⟩, ⟨hbi, okB⟩, ⟨hle, okE⟩, ⟨hwk, okW⟩⟩, ⟨⟨c1N, c1V, c1C, c1L⟩, ⟨c1R, c1B, c1E, c1W⟩⟩, ⟨⟨c2N, c2V, c2C, c2L⟩, ⟨c2R, c2B, c2E, c2W⟩⟩, hrm1, hrm2⟩ := id hB
  refine zx_aload_n (i := 0) dX0_takeOff_0 rfl rfl ?_
  refine zx_dup dX0_takeOff_1 (fun a h => by cases h) ?_
  refine zx_getfield dX0_takeOff_2 zf_X0_78 hbr rfl ?_
  refine zx_iconst (v := 1) dX0_takeOff_5 rfl (z32_lit (by decide) (by decide)) ?_
  refine zx_iadd (v := tk + 1) dX0_takeOff_6 (zw_id ⟨by omega, by omega⟩) ?_
  obtain ⟨w_1, hw_2⟩ : ∃ ww, ww = zput w br (0, 0, [zR pg, zR t, zR nd, zI (g : Int), zR va, zR ce, zR li, zR ro, zI fr, zR bi, zR le, zR wk, zI (tk + 1), zI rs, zI (rd : Int)]) := ⟨_, rfl⟩
  refine zx_put (w1 := w_1) dX0_takeOff_7 zf_X0_78 hbr (Nat.le_of_ble_eq_true rfl) (zFt_int _) (fun h => by cases h) hw_2.symm ?_
  have q_3 : w_1.2.1 = w.2.1 ∧ w_1.2.2 = w.2.2 := by rw [hw_2]; exact ⟨rfl, rfl⟩
  have h_4 : w_1.1 br = some (0, 0, [zR pg, zR t, zR nd, zI (g : Int), zR va, zR ce, zR li, zR ro, zI fr, zR bi, zR le, zR wk, zI (tk + 1), zI rs, zI (rd : Int)]) := by rw [hw_2]; exact zput_at
  refine zx_aload_n (i := 0) dX0_takeOff_10 rfl rfl ?_
  refine zx_getfield dX0_takeOff_11 zf_X0_37 h_4 rfl ?_
  refine zx_aload_n (i := 0) dX0_takeOff_14 rfl rfl ?_
  refine zx_getfield dX0_takeOff_15 zf_X0_66 h_4 rfl ?_
  refine zx_iconst (v := 4) dX0_takeOff_18 rfl (z32_lit (by decide) (by decide)) ?_
  refine zx_pc (pc1 := 19) rfl ?_
  have h_5 : w_1.1 ro = some (144, br, tTb 6 cR RR) := by
    rw [hw_2]; exact zput_tg hbr hro (by simp)
  refine zx_iv (b := ro) (As := [zI fr, zI 4]) (st := []) (v := (some (zI (-1)))) (w1 := w_1) dX0_takeOff_19 zc_X0_84 h_5 (z_cls9 (by decide)) rfl rfl (Nat.le_of_ble_eq_true rfl) rfl (by have q := (c_X9_get (G := G) (d := d + 4) h_5 (by decide) okR fr 4); rw [r4] at q; exact q) ?_
  refine zx_st (st1 := [zI (-1)]) rfl ?_
  refine zx_istore_n (i := 1) dX0_takeOff_22 rfl (by decide) rfl ?_
  refine zx_L (L1 := [some (zR br), some (zI (-1)), none, none, none, none, none]) rfl ?_
  refine zx_aload_n (i := 0) dX0_takeOff_23 rfl rfl ?_
  refine zx_getfield dX0_takeOff_24 zf_X0_34 h_4 rfl ?_
  refine zx_aload_n (i := 0) dX0_takeOff_27 rfl rfl ?_
  refine zx_getfield dX0_takeOff_28 zf_X0_37 h_4 rfl ?_
  refine zx_aload_n (i := 0) dX0_takeOff_31 rfl rfl ?_
  refine zx_getfield dX0_takeOff_32 zf_X0_66 h_4 rfl ?_
  refine zx_iconst (v := 0) dX0_takeOff_35 rfl (z32_lit (by decide) (by decide)) ?_
  refine zx_iv (b := ro) (As := [zI fr, zI 0]) (st := [zR li]) (v := (some (zI p0))) (w1 := w_1) dX0_takeOff_36 zc_X0_84 h_5 (z_cls9 (by decide)) rfl rfl (Nat.le_of_ble_eq_true rfl) rfl (by have q := (c_X9_get (G := G) (d := d + 4) h_5 (by decide) okR fr 0); rw [r0] at q; exact q) ?_
  refine zx_st (st1 := [zI p0, zR li]) rfl ?_
  refine zx_aload_n (i := 0) dX0_takeOff_39 rfl rfl ?_
  refine zx_getfield dX0_takeOff_40 zf_X0_37 h_4 rfl ?_
  refine zx_pc (pc1 := 43) rfl ?_
  refine zx_aload_n (i := 0) dX0_takeOff_43 rfl rfl ?_
  refine zx_getfield dX0_takeOff_44 zf_X0_66 h_4 rfl ?_
  refine zx_iconst (v := 1) dX0_takeOff_47 rfl (z32_lit (by decide) (by decide)) ?_
  refine zx_iv (b := ro) (As := [zI fr, zI 1]) (st := [zI p0, zR li]) (v := (some (zI f0))) (w1 := w_1) dX0_takeOff_48 zc_X0_84 h_5 (z_cls9 (by decide)) rfl rfl (Nat.le_of_ble_eq_true rfl) rfl (by have q := (c_X9_get (G := G) (d := d + 4) h_5 (by decide) okR fr 1); rw [r1] at q; exact q) ?_
  refine zx_st (st1 := [zI f0, zI p0, zR li]) rfl ?_
  refine zx_aload_n (i := 0) dX0_takeOff_51 rfl rfl ?_
  refine zx_getfield dX0_takeOff_52 zf_X0_37 h_4 rfl ?_
  refine zx_aload_n (i := 0) dX0_takeOff_55 rfl rfl ?_
  refine zx_getfield dX0_takeOff_56 zf_X0_66 h_4 rfl ?_
  refine zx_iconst (v := 2) dX0_takeOff_59 rfl (z32_lit (by decide) (by decide)) ?_
  refine zx_iv (b := ro) (As := [zI fr, zI 2]) (st := [zI f0, zI p0, zR li]) (v := (some (zI t0))) (w1 := w_1) dX0_takeOff_60 zc_X0_84 h_5 (z_cls9 (by decide)) rfl rfl (Nat.le_of_ble_eq_true rfl) rfl (by have q := (c_X9_get (G := G) (d := d + 4) h_5 (by decide) okR fr 2); rw [r2] at q; exact q) ?_
  refine zx_st (st1 := [zI t0, zI f0, zI p0, zR li]) rfl ?_
  have h_6 : w_1.1 li = some (143, br, tTb 4 cL LL) := by
    rw [hw_2]; exact zput_tg hbr hli (by simp)
  refine zx_ok (fun ok_7 => ?_)
  obtain ⟨w_8, hw_9⟩ : ∃ ww, ww = tAw w_1 li 143 br 4 cL LL (trow 4 p0 f0 t0) := ⟨_, rfl⟩
  have h_10 : w_8.1 li = some (143, br, tTb 4 (tCap 4 cL LL) (LL ++ [(trow 4 p0 f0 t0)])) := by rw [hw_9]; exact tAw_at
  have qhw_9 := tAw_sz3 (w := w_1) (a := li) (t := 143) (ow := br) (c := 4) (cap := cL) (rows := LL) (r := (trow 4 p0 f0 t0)) (by omega)
  rw [← hw_9] at qhw_9
  refine zx_iv (b := li) (As := [zI p0, zI f0, zI t0]) (st := []) (v := (some (zI (LL.length : Int)))) (w1 := w_8) dX0_takeOff_63 zc_X0_113 h_6 (z_cls9 (by decide)) rfl rfl (Nat.le_of_ble_eq_true rfl) rfl (by rw [hw_9]; exact (c_X9_add h_6 (by decide) okL (by omega) (by by_cases cg : LL.length * 4 + 4 ≤ cL; exact Or.inl cg; exact Or.inr ⟨by omega, by omega⟩) p0 f0 t0)) ?_
  refine zx_st (st1 := [zI (LL.length : Int)]) rfl ?_
  refine zx_istore_n (i := 2) dX0_takeOff_66 rfl (by decide) rfl ?_
  refine zx_L (L1 := [some (zR br), some (zI (-1)), some (zI (LL.length : Int)), none, none, none, none]) rfl ?_
  refine zx_pc (pc1 := 67) rfl ?_
  refine zx_aload_n (i := 0) dX0_takeOff_67 rfl rfl ?_
  have h_11 : w_8.1 br = some (0, 0, [zR pg, zR t, zR nd, zI (g : Int), zR va, zR ce, zR li, zR ro, zI fr, zR bi, zR le, zR wk, zI (tk + 1), zI rs, zI (rd : Int)]) := by
    rw [hw_9]; exact (tAw_to ok_7 (zne_tg h_6 h_4 (by simp)) h_4)
  refine zx_getfield dX0_takeOff_68 zf_X0_34 h_11 rfl ?_
  refine zx_iload_n (i := 2) dX0_takeOff_71 rfl rfl ?_
  refine zx_iconst (v := 3) dX0_takeOff_72 rfl (z32_lit (by decide) (by decide)) ?_
  refine zx_aload_n (i := 0) dX0_takeOff_73 rfl rfl ?_
  refine zx_getfield dX0_takeOff_74 zf_X0_37 h_11 rfl ?_
  refine zx_aload_n (i := 0) dX0_takeOff_77 rfl rfl ?_
  refine zx_getfield dX0_takeOff_78 zf_X0_66 h_11 rfl ?_
  refine zx_iconst (v := 3) dX0_takeOff_81 rfl (z32_lit (by decide) (by decide)) ?_
  have h_12 : w_8.1 ro = some (144, br, tTb 6 cR RR) := by
    rw [hw_9]; exact (tAw_to ok_7 (zne_tg h_6 h_5 (by simp)) h_5)
  refine zx_iv (b := ro) (As := [zI fr, zI 3]) (st := [zI 3, zI (LL.length : Int), zR li]) (v := (some (zI e0))) (w1 := w_8) dX0_takeOff_82 zc_X0_84 h_12 (z_cls9 (by decide)) rfl rfl (Nat.le_of_ble_eq_true rfl) rfl (by have q := (c_X9_get (G := G) (d := d + 4) h_12 (by decide) okR fr 3); rw [r3] at q; exact q) ?_
  refine zx_st (st1 := [zI e0, zI 3, zI (LL.length : Int), zR li]) rfl ?_
  obtain ⟨w_13, hw_14⟩ : ∃ ww, ww = zput w_8 li (143, br, tTb 4 (tCap 4 cL LL) (ts (LL ++ [(trow 4 p0 f0 t0)]) (LL.length : Int) 3 e0)) := ⟨_, rfl⟩
  have q_15 : w_13.2.1 = w_8.2.1 ∧ w_13.2.2 = w_8.2.2 := by rw [hw_14]; exact ⟨rfl, rfl⟩
  have h_16 : w_13.1 li = some (143, br, tTb 4 (tCap 4 cL LL) (ts (LL ++ [(trow 4 p0 f0 t0)]) (LL.length : Int) 3 e0)) := by rw [hw_14]; exact zput_at
  refine zx_iv (b := li) (As := [zI (LL.length : Int), zI 3, zI e0]) (st := []) (v := none) (w1 := w_13) dX0_takeOff_85 zc_X0_142 h_10 (z_cls9 (by decide)) rfl rfl (Nat.le_of_ble_eq_true rfl) rfl (by rw [hw_14]; exact (c_X9_set h_10 (by decide) (tOk_app okL (by first | exact trow_len | rfl)) (LL.length : Int) 3 e0)) ?_
  refine zx_st (st1 := []) rfl ?_
  have hfaLq : zFa [br, li] w w_13 := (zFa_put (zFa_taw (zFa_put zFa_re (by simp) hw_2) (by simp) ok_7 hw_9) (by simp) hw_14)
  have hFq : zFr TB w w_13 := zFr_fa hfaLq (zLc hbr (by simp) (zLc hli (by simp) zLn))
  have h_17 : w_1.1 nd = some (140, br, tTb 5 cN NN) := by
    rw [hw_2]; exact zput_tg hbr hnd (by simp)
  have h_18 : w_8.1 nd = some (140, br, tTb 5 cN NN) := by
    rw [hw_9]; exact (tAw_to ok_7 (zne_tg h_6 h_17 (by simp)) h_17)
  have h_19 : w_13.1 nd = some (140, br, tTb 5 cN NN) := by
    rw [hw_14]; exact zput_tg h_10 h_18 (by simp)
  have h_20 : w_1.1 va = some (141, br, tTb 1 cV VV) := by
    rw [hw_2]; exact zput_tg hbr hva (by simp)
  have h_21 : w_8.1 va = some (141, br, tTb 1 cV VV) := by
    rw [hw_9]; exact (tAw_to ok_7 (zne_tg h_6 h_20 (by simp)) h_20)
  have h_22 : w_13.1 va = some (141, br, tTb 1 cV VV) := by
    rw [hw_14]; exact zput_tg h_10 h_21 (by simp)
  have h_23 : w_1.1 ce = some (142, br, tTb 3 cC CC) := by
    rw [hw_2]; exact zput_tg hbr hce (by simp)
  have h_24 : w_8.1 ce = some (142, br, tTb 3 cC CC) := by
    rw [hw_9]; exact (tAw_to ok_7 (zne_tg h_6 h_23 (by simp)) h_23)
  have h_25 : w_13.1 ce = some (142, br, tTb 3 cC CC) := by
    rw [hw_14]; exact zput_tg h_10 h_24 (by simp)
  have h_26 : w_13.1 ro = some (144, br, tTb 6 cR RR) := by
    rw [hw_14]; exact zput_tg h_10 h_12 (by simp)
  have h_27 : w_1.1 bi = some (145, br, tTb 2 cB BB) := by
    rw [hw_2]; exact zput_tg hbr hbi (by simp)
  have h_28 : w_8.1 bi = some (145, br, tTb 2 cB BB) := by
    rw [hw_9]; exact (tAw_to ok_7 (zne_tg h_6 h_27 (by simp)) h_27)
  have h_29 : w_13.1 bi = some (145, br, tTb 2 cB BB) := by
    rw [hw_14]; exact zput_tg h_10 h_28 (by simp)
  have h_30 : w_1.1 le = some (146, br, tTb 4 cE EE) := by
    rw [hw_2]; exact zput_tg hbr hle (by simp)
  have h_31 : w_8.1 le = some (146, br, tTb 4 cE EE) := by
    rw [hw_9]; exact (tAw_to ok_7 (zne_tg h_6 h_30 (by simp)) h_30)
  have h_32 : w_13.1 le = some (146, br, tTb 4 cE EE) := by
    rw [hw_14]; exact zput_tg h_10 h_31 (by simp)
  have h_33 : w_1.1 wk = some (147, br, tTb 3 cW WW) := by
    rw [hw_2]; exact zput_tg hbr hwk (by simp)
  have h_34 : w_8.1 wk = some (147, br, tTb 3 cW WW) := by
    rw [hw_9]; exact (tAw_to ok_7 (zne_tg h_6 h_33 (by simp)) h_33)
  have h_35 : w_13.1 wk = some (147, br, tTb 3 cW WW) := by
    rw [hw_14]; exact zput_tg h_10 h_34 (by simp)
  have h_36 : w_13.1 br = some (0, 0, [zR pg, zR t, zR nd, zI (g : Int), zR va, zR ce, zR li, zR ro, zI fr, zR bi, zR le, zR wk, zI (tk + 1), zI rs, zI (rd : Int)]) := by
    rw [hw_14]; exact zput_tg h_10 h_11 (by simp)
  have hBq : bbW w_13 b1 b2 ((br, pg, t), (nd, va, ce, li), (ro, bi, le, wk)) (((cN, NN), (cV, VV), (cC, CC), ((tCap 4 cL LL), (ts (LL ++ [(trow 4 p0 f0 t0)]) (LL.length : Int) 3 e0))), ((cR, RR), (cB, BB), (cE, EE), (cW, WW)), ((g : Int), fr, (tk + 1), rs, (rd : Int))) := ⟨h_36, ⟨⟨h_19, okN⟩, ⟨h_22, okV⟩, ⟨h_25, okC⟩, ⟨h_16, (tOk_ts (tOk_app okL (by first | exact trow_len | rfl)))⟩⟩, ⟨⟨h_26, okR⟩, ⟨h_29, okB⟩, ⟨h_32, okE⟩, ⟨h_35, okW⟩⟩, ⟨⟨by omega, by omega, by omega, by omega⟩, ⟨by omega, by omega, by omega, by omega⟩⟩, ⟨⟨by omega, by omega, by omega, by omega⟩, ⟨by omega, by omega, by omega, by omega⟩⟩, by omega, by omega⟩
  have hfaLq : zFa [br, li] w w_13 := (zFa_put (zFa_taw (zFa_put zFa_re (by simp) hw_2) (by simp) ok_7 hw_9) (by simp) hw_14)
  have hFq : zFr TB w w_13 := zFr_fa hfaLq (zLc hbr (by simp) (zLc hli (by simp) zLn))
  have hBq : bbW w_13 b1 b2 ((br, pg, t), (nd, va, ce, li), (ro, bi, le, wk)) (((cN, NN), (cV, VV), (cC, CC), ((tCap 4 cL LL), (ts (LL ++ [(trow 4 p0 f0 t0)]) (LL.length : Int) 3 e0))), ((cR, RR), (cB, BB), (cE, EE), (cW, WW)), ((g : Int), fr, (tk + 1), rs, (rd : Int))) := ⟨h_36, ⟨⟨h_19, okN⟩, ⟨h_22, okV⟩, ⟨h_25, okC⟩, ⟨h_16, (tOk_ts (tOk_app okL (by first | exact trow_len | rfl)))⟩⟩, ⟨⟨h_26, okR⟩, ⟨h_29, okB⟩, ⟨h_32, okE⟩, ⟨h_35, okW⟩⟩, ⟨⟨by omega, by omega, by omega, by omega⟩, ⟨by omega, by omega, by omega, by omega⟩⟩, ⟨⟨by omega, by omega, by omega, by omega⟩, ⟨by omega, by omega, by omega, by omega⟩⟩, by omega, by omega⟩
  refine zx_aload_n (i := 0) dX0_takeOff_88 rfl rfl ?_
  refine zx_pc (pc1 := 89) rfl ?_
  refine zx_iload_n (i := 1) dX0_takeOff_89 rfl rfl ?_
  refine zx_iv (b := br) (As := [zI (-1)]) (st := []) (v := (some (zN))) (w1 := w_13) dX0_takeOff_90 zc_X0_170 h_36 rfl rfl rfl (Nat.le_of_ble_eq_true rfl) rfl (hgo _ hBq hFq) ?_
  refine zx_st (st1 := [zN]) rfl ?_
  refine zx_astore_n (i := 3) dX0_takeOff_93 rfl (by decide) rfl ?_
  refine zx_L (L1 := [some (zR br), some (zI (-1)), some (zI (LL.length : Int)), some (zN), none, none, none]) rfl ?_
  refine zx_aload_n (i := 3) dX0_takeOff_94 rfl rfl ?_
  refine zx_ifnonnull (tgt := 102) dX0_takeOff_95 (by decide) (fun h => absurd rfl h) (fun _ => ?_)
  refine zx_null dX0_takeOff_98 ?_
  refine zx_goto (tgt := 113) dX0_takeOff_99 (by decide) ?_
  refine zx_astore (i := 4) dX0_takeOff_113 (by decide) rfl ?_
  refine zx_L (L1 := [some (zR br), some (zI (-1)), some (zI (LL.length : Int)), some (zN), some (zN), none, none]) rfl ?_
  refine zx_aload_n (i := 0) dX0_takeOff_115 rfl rfl ?_
  refine zx_getfield dX0_takeOff_116 zf_X0_37 h_36 rfl ?_
  refine zx_aload_n (i := 0) dX0_takeOff_119 rfl rfl ?_
  refine zx_getfield dX0_takeOff_120 zf_X0_66 h_36 rfl ?_
  refine zx_pc (pc1 := 123) rfl ?_
  refine zx_iconst (v := 5) dX0_takeOff_123 rfl (z32_lit (by decide) (by decide)) ?_
  refine zx_iv (b := ro) (As := [zI fr, zI 5]) (st := []) (v := (some (zI (tg RR fr 5)))) (w1 := w_13) dX0_takeOff_124 zc_X0_84 h_26 (z_cls9 (by decide)) rfl rfl (Nat.le_of_ble_eq_true rfl) rfl (c_X9_get h_26 (by decide) okR fr 5) ?_
  refine zx_st (st1 := [zI (tg RR fr 5)]) rfl ?_
  refine zx_istore (i := 5) dX0_takeOff_127 (by decide) rfl ?_
  refine zx_L (L1 := [some (zR br), some (zI (-1)), some (zI (LL.length : Int)), some (zN), some (zN), some (zI (tg RR fr 5)), none]) rfl ?_
  refine zx_aload (i := 4) dX0_takeOff_129 rfl ?_
  refine zx_ifnonnull (tgt := 138) dX0_takeOff_131 (by decide) (fun h => absurd rfl h) (fun _ => ?_)
  refine zx_null dX0_takeOff_134 ?_
  refine zx_goto (tgt := 145) dX0_takeOff_135 (by decide) ?_
  refine zx_astore (i := 6) dX0_takeOff_145 (by decide) rfl ?_
  refine zx_L (L1 := [some (zR br), some (zI (-1)), some (zI (LL.length : Int)), some (zN), some (zN), some (zI (tg RR fr 5)), some (zN)]) rfl ?_
  refine zx_aload (i := 6) dX0_takeOff_147 rfl ?_
  refine zx_ifnonnull (tgt := 164) dX0_takeOff_149 (by decide) (fun h => absurd rfl h) (fun _ => ?_)
  refine zx_aload_n (i := 0) dX0_takeOff_152 rfl rfl ?_
  refine zx_dup dX0_takeOff_153 (fun a h => by cases h) ?_
  refine zx_pc (pc1 := 154) rfl ?_
  refine zx_getfield dX0_takeOff_154 zf_X0_66 h_36 rfl ?_
  refine zx_iconst (v := 1) dX0_takeOff_157 rfl (z32_lit (by decide) (by decide)) ?_
  refine zx_iadd (v := fr + 1) dX0_takeOff_158 (zw_id ⟨by omega, by omega⟩) ?_
  obtain ⟨w_37, hw_38⟩ : ∃ ww, ww = zput w_13 br (0, 0, [zR pg, zR t, zR nd, zI (g : Int), zR va, zR ce, zR li, zR ro, zI (fr + 1), zR bi, zR le, zR wk, zI (tk + 1), zI rs, zI (rd : Int)]) := ⟨_, rfl⟩
  refine zx_put (w1 := w_37) dX0_takeOff_159 zf_X0_66 h_36 (Nat.le_of_ble_eq_true rfl) (zFt_int _) (fun h => by cases h) hw_38.symm ?_
  have q_39 : w_37.2.1 = w_13.2.1 ∧ w_37.2.2 = w_13.2.2 := by rw [hw_38]; exact ⟨rfl, rfl⟩
  have h_40 : w_37.1 br = some (0, 0, [zR pg, zR t, zR nd, zI (g : Int), zR va, zR ce, zR li, zR ro, zI (fr + 1), zR bi, zR le, zR wk, zI (tk + 1), zI rs, zI (rd : Int)]) := by rw [hw_38]; exact zput_at
  refine zx_iload_n (i := 2) dX0_takeOff_162 rfl rfl ?_
  refine zx_iret dX0_takeOff_163 rfl ?_
  have hfaL9 : zFa [br, li] w w_37 := (zFa_put (zFa_put (zFa_taw (zFa_put zFa_re (by simp) hw_2) (by simp) ok_7 hw_9) (by simp) hw_14) (by simp) hw_38)
  have hF9 : zFr TB w w_37 := zFr_fa hfaL9 (zLc hbr (by simp) (zLc hli (by simp) zLn))
  have h_41 : w_37.1 nd = some (140, br, tTb 5 cN NN) := by
    rw [hw_38]; exact zput_tg h_36 h_19 (by simp)
  have h_42 : w_37.1 va = some (141, br, tTb 1 cV VV) := by
    rw [hw_38]; exact zput_tg h_36 h_22 (by simp)
  have h_43 : w_37.1 ce = some (142, br, tTb 3 cC CC) := by
    rw [hw_38]; exact zput_tg h_36 h_25 (by simp)
  have h_44 : w_37.1 li = some (143, br, tTb 4 (tCap 4 cL LL) (ts (LL ++ [(trow 4 p0 f0 t0)]) (LL.length : Int) 3 e0)) := by
    rw [hw_38]; exact zput_tg h_36 h_16 (by simp)
  have h_45 : w_37.1 ro = some (144, br, tTb 6 cR RR) := by
    rw [hw_38]; exact zput_tg h_36 h_26 (by simp)
  have h_46 : w_37.1 bi = some (145, br, tTb 2 cB BB) := by
    rw [hw_38]; exact zput_tg h_36 h_29 (by simp)
  have h_47 : w_37.1 le = some (146, br, tTb 4 cE EE) := by
    rw [hw_38]; exact zput_tg h_36 h_32 (by simp)
  have h_48 : w_37.1 wk = some (147, br, tTb 3 cW WW) := by
    rw [hw_38]; exact zput_tg h_36 h_35 (by simp)
  have hB9 : bbW w_37 b1 b2 ((br, pg, t), (nd, va, ce, li), (ro, bi, le, wk)) (((cN, NN), (cV, VV), (cC, CC), ((tCap 4 cL LL), (ts (LL ++ [(trow 4 p0 f0 t0)]) (LL.length : Int) 3 e0))), ((cR, RR), (cB, BB), (cE, EE), (cW, WW)), ((g : Int), (fr + 1), (tk + 1), rs, (rd : Int))) := ⟨h_40, ⟨⟨h_41, okN⟩, ⟨h_42, okV⟩, ⟨h_43, okC⟩, ⟨h_44, (tOk_ts (tOk_app okL (by first | exact trow_len | rfl)))⟩⟩, ⟨⟨h_45, okR⟩, ⟨h_46, okB⟩, ⟨h_47, okE⟩, ⟨h_48, okW⟩⟩, ⟨⟨by omega, by omega, by omega, by omega⟩, ⟨by omega, by omega, by omega, by omega⟩⟩, ⟨⟨by omega, by omega, by omega, by omega⟩, ⟨by omega, by omega, by omega, by omega⟩⟩, by omega, by omega⟩
  exact ⟨_, rfl, k _ hB9 hF9⟩
theorem to_a (hB : bbW w b1 b2 ((br, pg, t), (nd, va, ce, li), (ro, bi, le, wk)) (((cN, NN), (cV, VV), (cC, CC), (cL, LL)), ((cR, RR), (cB, BB), (cE, EE), (cW, WW)), ((g : Int), fr, tk, rs, (rd : Int)))) (hG1 : b1 + 1800000 ≤ 30 * G.2.2.2.2.1) (hG2 : b2 + 3700000 ≤ G.2.2.2.2.2) (htk : 0 ≤ tk ∧ tk < 100000) (hfr : 0 ≤ fr ∧ fr < 100000) (hlL : LL.length < 400) (r4 : tg RR fr 4 = k0) (r0 : tg RR fr 0 = p0) (r1 : tg RR fr 1 = f0) (r2 : tg RR fr 2 = t0) (r3 : tg RR fr 3 = e0) (r5 : tg RR fr 5 = pl) (hP : pgW w pg R) (hg : goW w x r) (hn : lAt R.2.2.1.1 r.2.1 = some y) (hy : y ∈ R.2.2.1.1) (hcm : ∀ z, z ∈ (R.2.2.2.1 y).2.2.2.2 → z ∈ R.2.2.1.2.2) (hca : lAt (R.2.2.2.1 y).2.2.2.2 pl = some a) (hbs : tg CC k0 1 = (bs : Int)) (hgo : ∀ w1, bbW w1 b1 b2 ((br, pg, t), (nd, va, ce, li), (ro, bi, le, wk)) (((cN, NN), (cV, VV), (cC, CC), ((tCap 4 cL LL), (ts (LL ++ [trow 4 p0 f0 t0]) (LL.length : Int) 3 e0))), ((cR, RR), (cB, BB), (cE, EE), (cW, WW)), ((g : Int), fr, (tk + 1), rs, (rd : Int))) → zFr TB w w1 → zM G zm_X0_goalOf (d + 4) [zR br, zI k0] w1 (zRet (some (zR x)) w1)) (hoc : ∀ w1, bbW w1 b1 b2 ((br, pg, t), (nd, va, ce, li), (ro, bi, le, wk)) (((cN, NN), (cV, VV), (cC, CC), ((tCap 4 cL LL), (ts (LL ++ [trow 4 p0 f0 t0]) (LL.length : Int) 3 e0))), ((cR, RR), (cB, BB), (cE, EE), (cW, WW)), ((g : Int), fr, (tk + 1), rs, (rd : Int))) → zFr TB w w1 → zM G zm_X0_openClause (d + 4) [zR br, zR a, zR x, zI (bs : Int), zI e0] w1 (zVal fun o w2 => o = zI v0 ∧ P1 w2)) (k : ∀ w1, P1 w1 → zX G zm_X0_takeOff (d + 5) [zR br] w (zVal PQ) 198 [some (zR br), some (zI k0), some (zI (LL.length : Int)), some (zR x), some (zR y), some (zI pl), some (zR a)] [zI v0, zI 3, zI (LL.length : Int), zR li] w1) : zM G zm_X0_takeOff (d + 5) [zR br] w (zVal PQ) := by
  refine zx_ent (by decide +kernel) rfl (Nat.le_of_ble_eq_true rfl) ?_
  refine zx_L (L1 := [some (zR br), none, none, none, none, none, none]) rfl ?_
  obtain ⟨hbr, ⟨⟨hnd, okN⟩, ⟨hva, okV⟩, ⟨hce, okC⟩, ⟨hli, okL⟩⟩, ⟨⟨hro, okR⟩, ⟨hbi, okB⟩, ⟨hle, okE⟩, ⟨hwk, okW⟩⟩, ⟨⟨c1N, c1V, c1C, c1L⟩, ⟨c1R, c1B, c1E, c1W⟩⟩, ⟨⟨c2N, c2V, c2C, c2L⟩, ⟨c2R, c2B, c2E, c2W⟩⟩, hrm1, hrm2⟩ := id hB
  refine zx_aload_n (i := 0) dX0_takeOff_0 rfl rfl ?_
  refine zx_dup dX0_takeOff_1 (fun a h => by cases h) ?_
  refine zx_getfield dX0_takeOff_2 zf_X0_78 hbr rfl ?_
  refine zx_iconst (v := 1) dX0_takeOff_5 rfl (z32_lit (by decide) (by decide)) ?_
  refine zx_iadd (v := tk + 1) dX0_takeOff_6 (zw_id ⟨by omega, by omega⟩) ?_
  obtain ⟨w_1, hw_2⟩ : ∃ ww, ww = zput w br (0, 0, [zR pg, zR t, zR nd, zI (g : Int), zR va, zR ce, zR li, zR ro, zI fr, zR bi, zR le, zR wk, zI (tk + 1), zI rs, zI (rd : Int)]) := ⟨_, rfl⟩
  refine zx_put (w1 := w_1) dX0_takeOff_7 zf_X0_78 hbr (Nat.le_of_ble_eq_true rfl) (zFt_int _) (fun h => by cases h) hw_2.symm ?_
  have q_3 : w_1.2.1 = w.2.1 ∧ w_1.2.2 = w.2.2 := by rw [hw_2]; exact ⟨rfl, rfl⟩
  have h_4 : w_1.1 br = some (0, 0, [zR pg, zR t, zR nd, zI (g : Int), zR va, zR ce, zR li, zR ro, zI fr, zR bi, zR le, zR wk, zI (tk + 1), zI rs, zI (rd : Int)]) := by rw [hw_2]; exact zput_at
  refine zx_aload_n (i := 0) dX0_takeOff_10 rfl rfl ?_
  refine zx_getfield dX0_takeOff_11 zf_X0_37 h_4 rfl ?_
  refine zx_aload_n (i := 0) dX0_takeOff_14 rfl rfl ?_
  refine zx_getfield dX0_takeOff_15 zf_X0_66 h_4 rfl ?_
  refine zx_iconst (v := 4) dX0_takeOff_18 rfl (z32_lit (by decide) (by decide)) ?_
  refine zx_pc (pc1 := 19) rfl ?_
  have h_5 : w_1.1 ro = some (144, br, tTb 6 cR RR) := by
    rw [hw_2]; exact zput_tg hbr hro (by simp)
  refine zx_iv (b := ro) (As := [zI fr, zI 4]) (st := []) (v := (some (zI k0))) (w1 := w_1) dX0_takeOff_19 zc_X0_84 h_5 (z_cls9 (by decide)) rfl rfl (Nat.le_of_ble_eq_true rfl) rfl (by have q := (c_X9_get (G := G) (d := d + 4) h_5 (by decide) okR fr 4); rw [r4] at q; exact q) ?_
  refine zx_st (st1 := [zI k0]) rfl ?_
  refine zx_istore_n (i := 1) dX0_takeOff_22 rfl (by decide) rfl ?_
  refine zx_L (L1 := [some (zR br), some (zI k0), none, none, none, none, none]) rfl ?_
  refine zx_aload_n (i := 0) dX0_takeOff_23 rfl rfl ?_
  refine zx_getfield dX0_takeOff_24 zf_X0_34 h_4 rfl ?_
  refine zx_aload_n (i := 0) dX0_takeOff_27 rfl rfl ?_
  refine zx_getfield dX0_takeOff_28 zf_X0_37 h_4 rfl ?_
  refine zx_aload_n (i := 0) dX0_takeOff_31 rfl rfl ?_
  refine zx_getfield dX0_takeOff_32 zf_X0_66 h_4 rfl ?_
  refine zx_iconst (v := 0) dX0_takeOff_35 rfl (z32_lit (by decide) (by decide)) ?_
  refine zx_iv (b := ro) (As := [zI fr, zI 0]) (st := [zR li]) (v := (some (zI p0))) (w1 := w_1) dX0_takeOff_36 zc_X0_84 h_5 (z_cls9 (by decide)) rfl rfl (Nat.le_of_ble_eq_true rfl) rfl (by have q := (c_X9_get (G := G) (d := d + 4) h_5 (by decide) okR fr 0); rw [r0] at q; exact q) ?_
  refine zx_st (st1 := [zI p0, zR li]) rfl ?_
  refine zx_aload_n (i := 0) dX0_takeOff_39 rfl rfl ?_
  refine zx_getfield dX0_takeOff_40 zf_X0_37 h_4 rfl ?_
  refine zx_pc (pc1 := 43) rfl ?_
  refine zx_aload_n (i := 0) dX0_takeOff_43 rfl rfl ?_
  refine zx_getfield dX0_takeOff_44 zf_X0_66 h_4 rfl ?_
  refine zx_iconst (v := 1) dX0_takeOff_47 rfl (z32_lit (by decide) (by decide)) ?_
  refine zx_iv (b := ro) (As := [zI fr, zI 1]) (st := [zI p0, zR li]) (v := (some (zI f0))) (w1 := w_1) dX0_takeOff_48 zc_X0_84 h_5 (z_cls9 (by decide)) rfl rfl (Nat.le_of_ble_eq_true rfl) rfl (by have q := (c_X9_get (G := G) (d := d + 4) h_5 (by decide) okR fr 1); rw [r1] at q; exact q) ?_
  refine zx_st (st1 := [zI f0, zI p0, zR li]) rfl ?_
  refine zx_aload_n (i := 0) dX0_takeOff_51 rfl rfl ?_
  refine zx_getfield dX0_takeOff_52 zf_X0_37 h_4 rfl ?_
  refine zx_aload_n (i := 0) dX0_takeOff_55 rfl rfl ?_
  refine zx_getfield dX0_takeOff_56 zf_X0_66 h_4 rfl ?_
  refine zx_iconst (v := 2) dX0_takeOff_59 rfl (z32_lit (by decide) (by decide)) ?_
  refine zx_iv (b := ro) (As := [zI fr, zI 2]) (st := [zI f0, zI p0, zR li]) (v := (some (zI t0))) (w1 := w_1) dX0_takeOff_60 zc_X0_84 h_5 (z_cls9 (by decide)) rfl rfl (Nat.le_of_ble_eq_true rfl) rfl (by have q := (c_X9_get (G := G) (d := d + 4) h_5 (by decide) okR fr 2); rw [r2] at q; exact q) ?_
  refine zx_st (st1 := [zI t0, zI f0, zI p0, zR li]) rfl ?_
  have h_6 : w_1.1 li = some (143, br, tTb 4 cL LL) := by
    rw [hw_2]; exact zput_tg hbr hli (by simp)
  refine zx_ok (fun ok_7 => ?_)
  obtain ⟨w_8, hw_9⟩ : ∃ ww, ww = tAw w_1 li 143 br 4 cL LL (trow 4 p0 f0 t0) := ⟨_, rfl⟩
  have h_10 : w_8.1 li = some (143, br, tTb 4 (tCap 4 cL LL) (LL ++ [(trow 4 p0 f0 t0)])) := by rw [hw_9]; exact tAw_at
  have qhw_9 := tAw_sz3 (w := w_1) (a := li) (t := 143) (ow := br) (c := 4) (cap := cL) (rows := LL) (r := (trow 4 p0 f0 t0)) (by omega)
  rw [← hw_9] at qhw_9
  refine zx_iv (b := li) (As := [zI p0, zI f0, zI t0]) (st := []) (v := (some (zI (LL.length : Int)))) (w1 := w_8) dX0_takeOff_63 zc_X0_113 h_6 (z_cls9 (by decide)) rfl rfl (Nat.le_of_ble_eq_true rfl) rfl (by rw [hw_9]; exact (c_X9_add h_6 (by decide) okL (by omega) (by by_cases cg : LL.length * 4 + 4 ≤ cL; exact Or.inl cg; exact Or.inr ⟨by omega, by omega⟩) p0 f0 t0)) ?_
  refine zx_st (st1 := [zI (LL.length : Int)]) rfl ?_
  refine zx_istore_n (i := 2) dX0_takeOff_66 rfl (by decide) rfl ?_
  refine zx_L (L1 := [some (zR br), some (zI k0), some (zI (LL.length : Int)), none, none, none, none]) rfl ?_
  refine zx_pc (pc1 := 67) rfl ?_
  refine zx_aload_n (i := 0) dX0_takeOff_67 rfl rfl ?_
  have h_11 : w_8.1 br = some (0, 0, [zR pg, zR t, zR nd, zI (g : Int), zR va, zR ce, zR li, zR ro, zI fr, zR bi, zR le, zR wk, zI (tk + 1), zI rs, zI (rd : Int)]) := by
    rw [hw_9]; exact (tAw_to ok_7 (zne_tg h_6 h_4 (by simp)) h_4)
  refine zx_getfield dX0_takeOff_68 zf_X0_34 h_11 rfl ?_
  refine zx_iload_n (i := 2) dX0_takeOff_71 rfl rfl ?_
  refine zx_iconst (v := 3) dX0_takeOff_72 rfl (z32_lit (by decide) (by decide)) ?_
  refine zx_aload_n (i := 0) dX0_takeOff_73 rfl rfl ?_
  refine zx_getfield dX0_takeOff_74 zf_X0_37 h_11 rfl ?_
  refine zx_aload_n (i := 0) dX0_takeOff_77 rfl rfl ?_
  refine zx_getfield dX0_takeOff_78 zf_X0_66 h_11 rfl ?_
  refine zx_iconst (v := 3) dX0_takeOff_81 rfl (z32_lit (by decide) (by decide)) ?_
  have h_12 : w_8.1 ro = some (144, br, tTb 6 cR RR) := by
    rw [hw_9]; exact (tAw_to ok_7 (zne_tg h_6 h_5 (by simp)) h_5)
  refine zx_iv (b := ro) (As := [zI fr, zI 3]) (st := [zI 3, zI (LL.length : Int), zR li]) (v := (some (zI e0))) (w1 := w_8) dX0_takeOff_82 zc_X0_84 h_12 (z_cls9 (by decide)) rfl rfl (Nat.le_of_ble_eq_true rfl) rfl (by have q := (c_X9_get (G := G) (d := d + 4) h_12 (by decide) okR fr 3); rw [r3] at q; exact q) ?_
  refine zx_st (st1 := [zI e0, zI 3, zI (LL.length : Int), zR li]) rfl ?_
  obtain ⟨w_13, hw_14⟩ : ∃ ww, ww = zput w_8 li (143, br, tTb 4 (tCap 4 cL LL) (ts (LL ++ [(trow 4 p0 f0 t0)]) (LL.length : Int) 3 e0)) := ⟨_, rfl⟩
  have q_15 : w_13.2.1 = w_8.2.1 ∧ w_13.2.2 = w_8.2.2 := by rw [hw_14]; exact ⟨rfl, rfl⟩
  have h_16 : w_13.1 li = some (143, br, tTb 4 (tCap 4 cL LL) (ts (LL ++ [(trow 4 p0 f0 t0)]) (LL.length : Int) 3 e0)) := by rw [hw_14]; exact zput_at
  refine zx_iv (b := li) (As := [zI (LL.length : Int), zI 3, zI e0]) (st := []) (v := none) (w1 := w_13) dX0_takeOff_85 zc_X0_142 h_10 (z_cls9 (by decide)) rfl rfl (Nat.le_of_ble_eq_true rfl) rfl (by rw [hw_14]; exact (c_X9_set h_10 (by decide) (tOk_app okL (by first | exact trow_len | rfl)) (LL.length : Int) 3 e0)) ?_
  refine zx_st (st1 := []) rfl ?_
  have hfaLq : zFa [br, li] w w_13 := (zFa_put (zFa_taw (zFa_put zFa_re (by simp) hw_2) (by simp) ok_7 hw_9) (by simp) hw_14)
  have hFq : zFr TB w w_13 := zFr_fa hfaLq (zLc hbr (by simp) (zLc hli (by simp) zLn))
  have h_17 : w_1.1 nd = some (140, br, tTb 5 cN NN) := by
    rw [hw_2]; exact zput_tg hbr hnd (by simp)
  have h_18 : w_8.1 nd = some (140, br, tTb 5 cN NN) := by
    rw [hw_9]; exact (tAw_to ok_7 (zne_tg h_6 h_17 (by simp)) h_17)
  have h_19 : w_13.1 nd = some (140, br, tTb 5 cN NN) := by
    rw [hw_14]; exact zput_tg h_10 h_18 (by simp)
  have h_20 : w_1.1 va = some (141, br, tTb 1 cV VV) := by
    rw [hw_2]; exact zput_tg hbr hva (by simp)
  have h_21 : w_8.1 va = some (141, br, tTb 1 cV VV) := by
    rw [hw_9]; exact (tAw_to ok_7 (zne_tg h_6 h_20 (by simp)) h_20)
  have h_22 : w_13.1 va = some (141, br, tTb 1 cV VV) := by
    rw [hw_14]; exact zput_tg h_10 h_21 (by simp)
  have h_23 : w_1.1 ce = some (142, br, tTb 3 cC CC) := by
    rw [hw_2]; exact zput_tg hbr hce (by simp)
  have h_24 : w_8.1 ce = some (142, br, tTb 3 cC CC) := by
    rw [hw_9]; exact (tAw_to ok_7 (zne_tg h_6 h_23 (by simp)) h_23)
  have h_25 : w_13.1 ce = some (142, br, tTb 3 cC CC) := by
    rw [hw_14]; exact zput_tg h_10 h_24 (by simp)
  have h_26 : w_13.1 ro = some (144, br, tTb 6 cR RR) := by
    rw [hw_14]; exact zput_tg h_10 h_12 (by simp)
  have h_27 : w_1.1 bi = some (145, br, tTb 2 cB BB) := by
    rw [hw_2]; exact zput_tg hbr hbi (by simp)
  have h_28 : w_8.1 bi = some (145, br, tTb 2 cB BB) := by
    rw [hw_9]; exact (tAw_to ok_7 (zne_tg h_6 h_27 (by simp)) h_27)
  have h_29 : w_13.1 bi = some (145, br, tTb 2 cB BB) := by
    rw [hw_14]; exact zput_tg h_10 h_28 (by simp)
  have h_30 : w_1.1 le = some (146, br, tTb 4 cE EE) := by
    rw [hw_2]; exact zput_tg hbr hle (by simp)
  have h_31 : w_8.1 le = some (146, br, tTb 4 cE EE) := by
    rw [hw_9]; exact (tAw_to ok_7 (zne_tg h_6 h_30 (by simp)) h_30)
  have h_32 : w_13.1 le = some (146, br, tTb 4 cE EE) := by
    rw [hw_14]; exact zput_tg h_10 h_31 (by simp)
  have h_33 : w_1.1 wk = some (147, br, tTb 3 cW WW) := by
    rw [hw_2]; exact zput_tg hbr hwk (by simp)
  have h_34 : w_8.1 wk = some (147, br, tTb 3 cW WW) := by
    rw [hw_9]; exact (tAw_to ok_7 (zne_tg h_6 h_33 (by simp)) h_33)
  have h_35 : w_13.1 wk = some (147, br, tTb 3 cW WW) := by
    rw [hw_14]; exact zput_tg h_10 h_34 (by simp)
  have h_36 : w_13.1 br = some (0, 0, [zR pg, zR t, zR nd, zI (g : Int), zR va, zR ce, zR li, zR ro, zI fr, zR bi, zR le, zR wk, zI (tk + 1), zI rs, zI (rd : Int)]) := by
    rw [hw_14]; exact zput_tg h_10 h_11 (by simp)
  have hBq : bbW w_13 b1 b2 ((br, pg, t), (nd, va, ce, li), (ro, bi, le, wk)) (((cN, NN), (cV, VV), (cC, CC), ((tCap 4 cL LL), (ts (LL ++ [(trow 4 p0 f0 t0)]) (LL.length : Int) 3 e0))), ((cR, RR), (cB, BB), (cE, EE), (cW, WW)), ((g : Int), fr, (tk + 1), rs, (rd : Int))) := ⟨h_36, ⟨⟨h_19, okN⟩, ⟨h_22, okV⟩, ⟨h_25, okC⟩, ⟨h_16, (tOk_ts (tOk_app okL (by first | exact trow_len | rfl)))⟩⟩, ⟨⟨h_26, okR⟩, ⟨h_29, okB⟩, ⟨h_32, okE⟩, ⟨h_35, okW⟩⟩, ⟨⟨by omega, by omega, by omega, by omega⟩, ⟨by omega, by omega, by omega, by omega⟩⟩, ⟨⟨by omega, by omega, by omega, by omega⟩, ⟨by omega, by omega, by omega, by omega⟩⟩, by omega, by omega⟩
  have hPq := pgW_TB hP hFq
  obtain ⟨hpg, hps, hms, hcs, hPr, hMo, hCl⟩ := id hPq
  have helP : ∀ y ∈ R.2.2.1.1, ∃ a b, w_13.1 y = some ((6, a, b) : zO) := fun y hy => ⟨_, _, (hPr y hy).1.1⟩
  have helC : ∀ z ∈ (R.2.2.2.1 y).2.2.2.2, ∃ a b, w_13.1 z = some ((1, a, b) : zO) := fun z hz => ⟨_, _, (hCl z (hcm z hz)).1.1⟩
  have hgq := goW_TB hg hFq
  refine zx_aload_n (i := 0) dX0_takeOff_88 rfl rfl ?_
  refine zx_pc (pc1 := 89) rfl ?_
  refine zx_iload_n (i := 1) dX0_takeOff_89 rfl rfl ?_
  refine zx_iv (b := br) (As := [zI k0]) (st := []) (v := (some (zR x))) (w1 := w_13) dX0_takeOff_90 zc_X0_170 h_36 rfl rfl rfl (Nat.le_of_ble_eq_true rfl) rfl (hgo _ hBq hFq) ?_
  refine zx_st (st1 := [zR x]) rfl ?_
  refine zx_astore_n (i := 3) dX0_takeOff_93 rfl (by decide) rfl ?_
  refine zx_L (L1 := [some (zR br), some (zI k0), some (zI (LL.length : Int)), some (zR x), none, none, none]) rfl ?_
  refine zx_aload_n (i := 3) dX0_takeOff_94 rfl rfl ?_
  refine zx_ifnonnull (tgt := 102) dX0_takeOff_95 (by decide) (fun _ => ?_) (fun h => by cases h)
  refine zx_aload_n (i := 0) dX0_takeOff_102 rfl rfl ?_
  refine zx_getfield dX0_takeOff_103 zf_X0_9 h_36 rfl ?_
  refine zx_aload_n (i := 3) dX0_takeOff_106 rfl rfl ?_
  refine zx_getfield dX0_takeOff_107 zf_X0_173 hgq.1 rfl ?_
  refine zx_iv (b := pg) (As := [zI r.2.1]) (st := []) (v := (some (zR y))) (w1 := w_13) dX0_takeOff_110 zc_X0_145 hpg rfl rfl rfl (Nat.le_of_ble_eq_true rfl) rfl (by have q := c_X7_predicateAt (G := G) (d := d + 1) hpg hps helP r.2.1; rw [hn] at q; exact q) ?_
  refine zx_st (st1 := [zR y]) rfl ?_
  refine zx_astore (i := 4) dX0_takeOff_113 (by decide) rfl ?_
  refine zx_L (L1 := [some (zR br), some (zI k0), some (zI (LL.length : Int)), some (zR x), some (zR y), none, none]) rfl ?_
  refine zx_aload_n (i := 0) dX0_takeOff_115 rfl rfl ?_
  refine zx_pc (pc1 := 116) rfl ?_
  refine zx_getfield dX0_takeOff_116 zf_X0_37 h_36 rfl ?_
  refine zx_aload_n (i := 0) dX0_takeOff_119 rfl rfl ?_
  refine zx_getfield dX0_takeOff_120 zf_X0_66 h_36 rfl ?_
  refine zx_iconst (v := 5) dX0_takeOff_123 rfl (z32_lit (by decide) (by decide)) ?_
  refine zx_iv (b := ro) (As := [zI fr, zI 5]) (st := []) (v := (some (zI pl))) (w1 := w_13) dX0_takeOff_124 zc_X0_84 h_26 (z_cls9 (by decide)) rfl rfl (Nat.le_of_ble_eq_true rfl) rfl (by have q := (c_X9_get (G := G) (d := d + 4) h_26 (by decide) okR fr 5); rw [r5] at q; exact q) ?_
  refine zx_st (st1 := [zI pl]) rfl ?_
  refine zx_istore (i := 5) dX0_takeOff_127 (by decide) rfl ?_
  refine zx_L (L1 := [some (zR br), some (zI k0), some (zI (LL.length : Int)), some (zR x), some (zR y), some (zI pl), none]) rfl ?_
  refine zx_aload (i := 4) dX0_takeOff_129 rfl ?_
  refine zx_ifnonnull (tgt := 138) dX0_takeOff_131 (by decide) (fun _ => ?_) (fun h => by cases h)
  refine zx_aload (i := 4) dX0_takeOff_138 rfl ?_
  refine zx_iload (i := 5) dX0_takeOff_140 rfl ?_
  refine zx_iv (b := y) (As := [zI pl]) (st := []) (v := (some (zR a))) (w1 := w_13) dX0_takeOff_142 zc_X0_176 (hPr y hy).1.1 rfl rfl rfl (Nat.le_of_ble_eq_true rfl) rfl (by have q := c_X6_clauseAt (G := G) (d := d + 1) (hPr y hy).1.1 (hPr y hy).1.2.2.2 helC pl; rw [hca] at q; exact q) ?_
  refine zx_st (st1 := [zR a]) rfl ?_
  refine zx_astore (i := 6) dX0_takeOff_145 (by decide) rfl ?_
  refine zx_L (L1 := [some (zR br), some (zI k0), some (zI (LL.length : Int)), some (zR x), some (zR y), some (zI pl), some (zR a)]) rfl ?_
  refine zx_pc (pc1 := 147) rfl ?_
  refine zx_aload (i := 6) dX0_takeOff_147 rfl ?_
  refine zx_ifnonnull (tgt := 164) dX0_takeOff_149 (by decide) (fun _ => ?_) (fun h => by cases h)
  refine zx_aload_n (i := 0) dX0_takeOff_164 rfl rfl ?_
  refine zx_getfield dX0_takeOff_165 zf_X0_34 h_36 rfl ?_
  refine zx_iload_n (i := 2) dX0_takeOff_168 rfl rfl ?_
  refine zx_iconst (v := 3) dX0_takeOff_169 rfl (z32_lit (by decide) (by decide)) ?_
  refine zx_aload_n (i := 0) dX0_takeOff_170 rfl rfl ?_
  refine zx_aload (i := 6) dX0_takeOff_171 rfl ?_
  refine zx_aload_n (i := 3) dX0_takeOff_173 rfl rfl ?_
  refine zx_aload_n (i := 0) dX0_takeOff_174 rfl rfl ?_
  refine zx_getfield dX0_takeOff_175 zf_X0_31 h_36 rfl ?_
  refine zx_iload_n (i := 1) dX0_takeOff_178 rfl rfl ?_
  refine zx_pc (pc1 := 179) rfl ?_
  refine zx_iconst (v := 1) dX0_takeOff_179 rfl (z32_lit (by decide) (by decide)) ?_
  refine zx_iv6 (b := ce) (As := [zI k0, zI 1]) (st := [zR x, zR a, zR br, zI 3, zI (LL.length : Int), zR li]) (v := (some (zI (bs : Int)))) (w1 := w_13) dX0_takeOff_180 zc_X0_84 h_25 (z_cls9 (by decide)) rfl rfl (Nat.le_of_ble_eq_true rfl) rfl (by have q := (c_X9_get (G := G) (d := d + 4) h_25 (by decide) okC k0 1); rw [hbs] at q; exact q) ?_
  refine zx_st (st1 := [zI (bs : Int), zR x, zR a, zR br, zI 3, zI (LL.length : Int), zR li]) rfl ?_
  refine zx_aload_n (i := 0) dX0_takeOff_183 rfl rfl ?_
  refine zx_getfield dX0_takeOff_184 zf_X0_37 h_36 rfl ?_
  refine zx_aload_n (i := 0) dX0_takeOff_187 rfl rfl ?_
  refine zx_getfield dX0_takeOff_188 zf_X0_66 h_36 rfl ?_
  refine zx_iconst (v := 3) dX0_takeOff_191 rfl (z32_lit (by decide) (by decide)) ?_
  refine zx_iv6 (b := ro) (As := [zI fr, zI 3]) (st := [zI (bs : Int), zR x, zR a, zR br, zI 3, zI (LL.length : Int), zR li]) (v := (some (zI e0))) (w1 := w_13) dX0_takeOff_192 zc_X0_84 h_26 (z_cls9 (by decide)) rfl rfl (Nat.le_of_ble_eq_true rfl) rfl (by have q := (c_X9_get (G := G) (d := d + 4) h_26 (by decide) okR fr 3); rw [r3] at q; exact q) ?_
  refine zx_st (st1 := [zI e0, zI (bs : Int), zR x, zR a, zR br, zI 3, zI (LL.length : Int), zR li]) rfl ?_
  refine zx_ivV (b := br) (As := [zR a, zR x, zI (bs : Int), zI e0]) (st := [zI 3, zI (LL.length : Int), zR li]) dX0_takeOff_195 zc_X0_177 h_36 rfl rfl rfl (Nat.le_of_ble_eq_true rfl) rfl (hoc _ hBq hFq) (fun v1 w1 hq1 => ?_)
  obtain ⟨ev1, hq1⟩ := hq1
  subst ev1
  exact k w1 hq1
theorem to_b (hB : bbW w b1 b2 ((br, pg, t), (nd, va, ce, li), (ro, bi, le, wk)) (((cN, NN), (cV, VV), (cC, CC), (cL, LL)), ((cR, RR), (cB, BB), (cE, EE), (cW, WW)), ((g : Int), fr, tk, rs, (rd : Int)))) (hfr : 0 ≤ fr ∧ fr < 100000) (hpl : 0 ≤ pl ∧ pl < 100000) (hP : pgW w pg R) (hy : y ∈ R.2.2.1.1) (hc : pl + 1 < ((R.2.2.2.1 y).2.2.2.2.length : Int)) (k : ∀ w1, bbW w1 b1 b2 ((br, pg, t), (nd, va, ce, li), (ro, bi, le, wk)) (((cN, NN), (cV, VV), (cC, CC), (cL, (ts LL (li0 : Int) 3 v0))), ((cR, (ts RR fr 5 (pl + 1))), (cB, BB), (cE, EE), (cW, WW)), ((g : Int), fr, tk, rs, (rd : Int))) → zFr TB w w1 → PQ (zI (li0 : Int)) w1) : zX G zm_X0_takeOff (d + 5) [zR br] w0 (zVal PQ) 198 [some (zR br), some (zI k0), some (zI (li0 : Int)), some (zR x), some (zR y), some (zI pl), some (zR a)] [zI v0, zI 3, zI (li0 : Int), zR li] w := by
  obtain ⟨hbr, ⟨⟨hnd, okN⟩, ⟨hva, okV⟩, ⟨hce, okC⟩, ⟨hli, okL⟩⟩, ⟨⟨hro, okR⟩, ⟨hbi, okB⟩, ⟨hle, okE⟩, ⟨hwk, okW⟩⟩, ⟨⟨c1N, c1V, c1C, c1L⟩, ⟨c1R, c1B, c1E, c1W⟩⟩, ⟨⟨c2N, c2V, c2C, c2L⟩, ⟨c2R, c2B, c2E, c2W⟩⟩, hrm1, hrm2⟩ := id hB
  obtain ⟨w_1, hw_2⟩ : ∃ ww, ww = zput w li (143, br, tTb 4 cL (ts LL (li0 : Int) 3 v0)) := ⟨_, rfl⟩
  have q_3 : w_1.2.1 = w.2.1 ∧ w_1.2.2 = w.2.2 := by rw [hw_2]; exact ⟨rfl, rfl⟩
  have h_4 : w_1.1 li = some (143, br, tTb 4 cL (ts LL (li0 : Int) 3 v0)) := by rw [hw_2]; exact zput_at
  obtain ⟨hpg, hps, hms, hcs, hPr, hMo, hCl⟩ := id hP
  refine zx_iv (b := li) (As := [zI (li0 : Int), zI 3, zI v0]) (st := []) (v := none) (w1 := w_1) dX0_takeOff_198 zc_X0_142 hli (z_cls9 (by decide)) rfl rfl (Nat.le_of_ble_eq_true rfl) rfl (by rw [hw_2]; exact (c_X9_set hli (by decide) okL (li0 : Int) 3 v0)) ?_
  refine zx_st (st1 := []) rfl ?_
  refine zx_aload_n (i := 0) dX0_takeOff_201 rfl rfl ?_
  have h_5 : w_1.1 br = some (0, 0, [zR pg, zR t, zR nd, zI (g : Int), zR va, zR ce, zR li, zR ro, zI fr, zR bi, zR le, zR wk, zI tk, zI rs, zI (rd : Int)]) := by
    rw [hw_2]; exact zput_tg hli hbr (by simp)
  refine zx_getfield dX0_takeOff_202 zf_X0_37 h_5 rfl ?_
  refine zx_aload_n (i := 0) dX0_takeOff_205 rfl rfl ?_
  refine zx_getfield dX0_takeOff_206 zf_X0_66 h_5 rfl ?_
  refine zx_iconst (v := 5) dX0_takeOff_209 rfl (z32_lit (by decide) (by decide)) ?_
  refine zx_iload (i := 5) dX0_takeOff_210 rfl ?_
  refine zx_iconst (v := 1) dX0_takeOff_212 rfl (z32_lit (by decide) (by decide)) ?_
  refine zx_iadd (v := pl + 1) dX0_takeOff_213 (zw_id ⟨by omega, by omega⟩) ?_
  have h_6 : w_1.1 ro = some (144, br, tTb 6 cR RR) := by
    rw [hw_2]; exact zput_tg hli hro (by simp)
  obtain ⟨w_7, hw_8⟩ : ∃ ww, ww = zput w_1 ro (144, br, tTb 6 cR (ts RR fr 5 (pl + 1))) := ⟨_, rfl⟩
  have q_9 : w_7.2.1 = w_1.2.1 ∧ w_7.2.2 = w_1.2.2 := by rw [hw_8]; exact ⟨rfl, rfl⟩
  have h_10 : w_7.1 ro = some (144, br, tTb 6 cR (ts RR fr 5 (pl + 1))) := by rw [hw_8]; exact zput_at
  refine zx_iv (b := ro) (As := [zI fr, zI 5, zI (pl + 1)]) (st := []) (v := none) (w1 := w_7) dX0_takeOff_214 zc_X0_142 h_6 (z_cls9 (by decide)) rfl rfl (Nat.le_of_ble_eq_true rfl) rfl (by rw [hw_8]; exact (c_X9_set h_6 (by decide) okR fr 5 (pl + 1))) ?_
  refine zx_st (st1 := []) rfl ?_
  refine zx_iload (i := 5) dX0_takeOff_217 rfl ?_
  refine zx_pc (pc1 := 219) rfl ?_
  refine zx_iconst (v := 1) dX0_takeOff_219 rfl (z32_lit (by decide) (by decide)) ?_
  refine zx_iadd (v := pl + 1) dX0_takeOff_220 (zw_id ⟨by omega, by omega⟩) ?_
  refine zx_aload (i := 4) dX0_takeOff_221 rfl ?_
  have hfaLq : zFa [li, ro] w w_7 := (zFa_put (zFa_put zFa_re (by simp) hw_2) (by simp) hw_8)
  have hFq : zFr TB w w_7 := zFr_fa hfaLq (zLc hli (by simp) (zLc hro (by simp) zLn))
  have h_11 : w_1.1 nd = some (140, br, tTb 5 cN NN) := by
    rw [hw_2]; exact zput_tg hli hnd (by simp)
  have h_12 : w_7.1 nd = some (140, br, tTb 5 cN NN) := by
    rw [hw_8]; exact zput_tg h_6 h_11 (by simp)
  have h_13 : w_1.1 va = some (141, br, tTb 1 cV VV) := by
    rw [hw_2]; exact zput_tg hli hva (by simp)
  have h_14 : w_7.1 va = some (141, br, tTb 1 cV VV) := by
    rw [hw_8]; exact zput_tg h_6 h_13 (by simp)
  have h_15 : w_1.1 ce = some (142, br, tTb 3 cC CC) := by
    rw [hw_2]; exact zput_tg hli hce (by simp)
  have h_16 : w_7.1 ce = some (142, br, tTb 3 cC CC) := by
    rw [hw_8]; exact zput_tg h_6 h_15 (by simp)
  have h_17 : w_7.1 li = some (143, br, tTb 4 cL (ts LL (li0 : Int) 3 v0)) := by
    rw [hw_8]; exact zput_tg h_6 h_4 (by simp)
  have h_18 : w_1.1 bi = some (145, br, tTb 2 cB BB) := by
    rw [hw_2]; exact zput_tg hli hbi (by simp)
  have h_19 : w_7.1 bi = some (145, br, tTb 2 cB BB) := by
    rw [hw_8]; exact zput_tg h_6 h_18 (by simp)
  have h_20 : w_1.1 le = some (146, br, tTb 4 cE EE) := by
    rw [hw_2]; exact zput_tg hli hle (by simp)
  have h_21 : w_7.1 le = some (146, br, tTb 4 cE EE) := by
    rw [hw_8]; exact zput_tg h_6 h_20 (by simp)
  have h_22 : w_1.1 wk = some (147, br, tTb 3 cW WW) := by
    rw [hw_2]; exact zput_tg hli hwk (by simp)
  have h_23 : w_7.1 wk = some (147, br, tTb 3 cW WW) := by
    rw [hw_8]; exact zput_tg h_6 h_22 (by simp)
  have h_24 : w_7.1 br = some (0, 0, [zR pg, zR t, zR nd, zI (g : Int), zR va, zR ce, zR li, zR ro, zI fr, zR bi, zR le, zR wk, zI tk, zI rs, zI (rd : Int)]) := by
    rw [hw_8]; exact zput_tg h_6 h_5 (by simp)
  have hBq : bbW w_7 b1 b2 ((br, pg, t), (nd, va, ce, li), (ro, bi, le, wk)) (((cN, NN), (cV, VV), (cC, CC), (cL, (ts LL (li0 : Int) 3 v0))), ((cR, (ts RR fr 5 (pl + 1))), (cB, BB), (cE, EE), (cW, WW)), ((g : Int), fr, tk, rs, (rd : Int))) := ⟨h_24, ⟨⟨h_12, okN⟩, ⟨h_14, okV⟩, ⟨h_16, okC⟩, ⟨h_17, (tOk_ts okL)⟩⟩, ⟨⟨h_10, (tOk_ts okR)⟩, ⟨h_19, okB⟩, ⟨h_21, okE⟩, ⟨h_23, okW⟩⟩, ⟨⟨by omega, by omega, by omega, by omega⟩, ⟨by omega, by omega, by omega, by omega⟩⟩, ⟨⟨by omega, by omega, by omega, by omega⟩, ⟨by omega, by omega, by omega, by omega⟩⟩, by omega, by omega⟩
  have hPq := pgW_TB hP hFq
  obtain ⟨-, -, -, -, hPr2, -, -⟩ := id hPq
  have h_25 : w_1.1 y = some (6, 0, [zI (R.2.2.2.1 y).1.1, zR (R.2.2.2.1 y).1.2.1, zR (R.2.2.2.1 y).1.2.2.1, zR (R.2.2.2.1 y).1.2.2.2.1, zR (R.2.2.2.1 y).1.2.2.2.2]) := by
    rw [hw_2]; exact zput_tg hli (hPr y hy).1.1 (by simp)
  have h_26 : w_7.1 y = some (6, 0, [zI (R.2.2.2.1 y).1.1, zR (R.2.2.2.1 y).1.2.1, zR (R.2.2.2.1 y).1.2.2.1, zR (R.2.2.2.1 y).1.2.2.2.1, zR (R.2.2.2.1 y).1.2.2.2.2]) := by
    rw [hw_8]; exact zput_tg h_6 h_25 (by simp)
  refine zx_iv (b := y) (As := []) (st := [zI (pl + 1)]) (v := (some (zI ((R.2.2.2.1 y).2.2.2.2.length : Int)))) (w1 := w_7) dX0_takeOff_223 zc_X0_181 h_26 rfl rfl rfl (Nat.le_of_ble_eq_true rfl) rfl (c_X6_clauseCount (hPr2 y hy).1.1 (hPr2 y hy).1.2.2.2) ?_
  refine zx_st (st1 := [zI ((R.2.2.2.1 y).2.2.2.2.length : Int), zI (pl + 1)]) rfl ?_
  refine zx_icmp_lt (tgt := 239) dX0_takeOff_226 (by decide) (fun h226 => ?_) (fun h226 => absurd (by omega) h226)
  refine zx_iload_n (i := 2) dX0_takeOff_239 rfl rfl ?_
  refine zx_iret dX0_takeOff_240 rfl ?_
  have hfaL9 : zFa [li, ro] w w_7 := (zFa_put (zFa_put zFa_re (by simp) hw_2) (by simp) hw_8)
  have hF9 : zFr TB w w_7 := zFr_fa hfaL9 (zLc hli (by simp) (zLc hro (by simp) zLn))
  have hB9 : bbW w_7 b1 b2 ((br, pg, t), (nd, va, ce, li), (ro, bi, le, wk)) (((cN, NN), (cV, VV), (cC, CC), (cL, (ts LL (li0 : Int) 3 v0))), ((cR, (ts RR fr 5 (pl + 1))), (cB, BB), (cE, EE), (cW, WW)), ((g : Int), fr, tk, rs, (rd : Int))) := ⟨h_24, ⟨⟨h_12, okN⟩, ⟨h_14, okV⟩, ⟨h_16, okC⟩, ⟨h_17, (tOk_ts okL)⟩⟩, ⟨⟨h_10, (tOk_ts okR)⟩, ⟨h_19, okB⟩, ⟨h_21, okE⟩, ⟨h_23, okW⟩⟩, ⟨⟨by omega, by omega, by omega, by omega⟩, ⟨by omega, by omega, by omega, by omega⟩⟩, ⟨⟨by omega, by omega, by omega, by omega⟩, ⟨by omega, by omega, by omega, by omega⟩⟩, by omega, by omega⟩
  exact ⟨_, rfl, k _ hB9 hF9⟩
theorem to_c (hB : bbW w b1 b2 ((br, pg, t), (nd, va, ce, li), (ro, bi, le, wk)) (((cN, NN), (cV, VV), (cC, CC), (cL, LL)), ((cR, RR), (cB, BB), (cE, EE), (cW, WW)), ((g : Int), fr, tk, rs, (rd : Int)))) (hfr : 0 ≤ fr ∧ fr < 100000) (hpl : 0 ≤ pl ∧ pl < 100000) (hP : pgW w pg R) (hy : y ∈ R.2.2.1.1) (hc : ((R.2.2.2.1 y).2.2.2.2.length : Int) ≤ pl + 1) (k : ∀ w1, bbW w1 b1 b2 ((br, pg, t), (nd, va, ce, li), (ro, bi, le, wk)) (((cN, NN), (cV, VV), (cC, CC), (cL, (ts LL (li0 : Int) 3 v0))), ((cR, (ts RR fr 5 (pl + 1))), (cB, BB), (cE, EE), (cW, WW)), ((g : Int), (fr + 1), tk, rs, (rd : Int))) → zFr TB w w1 → PQ (zI (li0 : Int)) w1) : zX G zm_X0_takeOff (d + 5) [zR br] w0 (zVal PQ) 198 [some (zR br), some (zI k0), some (zI (li0 : Int)), some (zR x), some (zR y), some (zI pl), some (zR a)] [zI v0, zI 3, zI (li0 : Int), zR li] w := by
  obtain ⟨hbr, ⟨⟨hnd, okN⟩, ⟨hva, okV⟩, ⟨hce, okC⟩, ⟨hli, okL⟩⟩, ⟨⟨hro, okR⟩, ⟨hbi, okB⟩, ⟨hle, okE⟩, ⟨hwk, okW⟩⟩, ⟨⟨c1N, c1V, c1C, c1L⟩, ⟨c1R, c1B, c1E, c1W⟩⟩, ⟨⟨c2N, c2V, c2C, c2L⟩, ⟨c2R, c2B, c2E, c2W⟩⟩, hrm1, hrm2⟩ := id hB
  obtain ⟨w_1, hw_2⟩ : ∃ ww, ww = zput w li (143, br, tTb 4 cL (ts LL (li0 : Int) 3 v0)) := ⟨_, rfl⟩
  have q_3 : w_1.2.1 = w.2.1 ∧ w_1.2.2 = w.2.2 := by rw [hw_2]; exact ⟨rfl, rfl⟩
  have h_4 : w_1.1 li = some (143, br, tTb 4 cL (ts LL (li0 : Int) 3 v0)) := by rw [hw_2]; exact zput_at
  obtain ⟨hpg, hps, hms, hcs, hPr, hMo, hCl⟩ := id hP
  refine zx_iv (b := li) (As := [zI (li0 : Int), zI 3, zI v0]) (st := []) (v := none) (w1 := w_1) dX0_takeOff_198 zc_X0_142 hli (z_cls9 (by decide)) rfl rfl (Nat.le_of_ble_eq_true rfl) rfl (by rw [hw_2]; exact (c_X9_set hli (by decide) okL (li0 : Int) 3 v0)) ?_
  refine zx_st (st1 := []) rfl ?_
  refine zx_aload_n (i := 0) dX0_takeOff_201 rfl rfl ?_
  have h_5 : w_1.1 br = some (0, 0, [zR pg, zR t, zR nd, zI (g : Int), zR va, zR ce, zR li, zR ro, zI fr, zR bi, zR le, zR wk, zI tk, zI rs, zI (rd : Int)]) := by
    rw [hw_2]; exact zput_tg hli hbr (by simp)
  refine zx_getfield dX0_takeOff_202 zf_X0_37 h_5 rfl ?_
  refine zx_aload_n (i := 0) dX0_takeOff_205 rfl rfl ?_
  refine zx_getfield dX0_takeOff_206 zf_X0_66 h_5 rfl ?_
  refine zx_iconst (v := 5) dX0_takeOff_209 rfl (z32_lit (by decide) (by decide)) ?_
  refine zx_iload (i := 5) dX0_takeOff_210 rfl ?_
  refine zx_iconst (v := 1) dX0_takeOff_212 rfl (z32_lit (by decide) (by decide)) ?_
  refine zx_iadd (v := pl + 1) dX0_takeOff_213 (zw_id ⟨by omega, by omega⟩) ?_
  have h_6 : w_1.1 ro = some (144, br, tTb 6 cR RR) := by
    rw [hw_2]; exact zput_tg hli hro (by simp)
  obtain ⟨w_7, hw_8⟩ : ∃ ww, ww = zput w_1 ro (144, br, tTb 6 cR (ts RR fr 5 (pl + 1))) := ⟨_, rfl⟩
  have q_9 : w_7.2.1 = w_1.2.1 ∧ w_7.2.2 = w_1.2.2 := by rw [hw_8]; exact ⟨rfl, rfl⟩
  have h_10 : w_7.1 ro = some (144, br, tTb 6 cR (ts RR fr 5 (pl + 1))) := by rw [hw_8]; exact zput_at
  refine zx_iv (b := ro) (As := [zI fr, zI 5, zI (pl + 1)]) (st := []) (v := none) (w1 := w_7) dX0_takeOff_214 zc_X0_142 h_6 (z_cls9 (by decide)) rfl rfl (Nat.le_of_ble_eq_true rfl) rfl (by rw [hw_8]; exact (c_X9_set h_6 (by decide) okR fr 5 (pl + 1))) ?_
  refine zx_st (st1 := []) rfl ?_
  refine zx_iload (i := 5) dX0_takeOff_217 rfl ?_
  refine zx_pc (pc1 := 219) rfl ?_
  refine zx_iconst (v := 1) dX0_takeOff_219 rfl (z32_lit (by decide) (by decide)) ?_
  refine zx_iadd (v := pl + 1) dX0_takeOff_220 (zw_id ⟨by omega, by omega⟩) ?_
  refine zx_aload (i := 4) dX0_takeOff_221 rfl ?_
  have hfaLq : zFa [li, ro] w w_7 := (zFa_put (zFa_put zFa_re (by simp) hw_2) (by simp) hw_8)
  have hFq : zFr TB w w_7 := zFr_fa hfaLq (zLc hli (by simp) (zLc hro (by simp) zLn))
  have h_11 : w_1.1 nd = some (140, br, tTb 5 cN NN) := by
    rw [hw_2]; exact zput_tg hli hnd (by simp)
  have h_12 : w_7.1 nd = some (140, br, tTb 5 cN NN) := by
    rw [hw_8]; exact zput_tg h_6 h_11 (by simp)
  have h_13 : w_1.1 va = some (141, br, tTb 1 cV VV) := by
    rw [hw_2]; exact zput_tg hli hva (by simp)
  have h_14 : w_7.1 va = some (141, br, tTb 1 cV VV) := by
    rw [hw_8]; exact zput_tg h_6 h_13 (by simp)
  have h_15 : w_1.1 ce = some (142, br, tTb 3 cC CC) := by
    rw [hw_2]; exact zput_tg hli hce (by simp)
  have h_16 : w_7.1 ce = some (142, br, tTb 3 cC CC) := by
    rw [hw_8]; exact zput_tg h_6 h_15 (by simp)
  have h_17 : w_7.1 li = some (143, br, tTb 4 cL (ts LL (li0 : Int) 3 v0)) := by
    rw [hw_8]; exact zput_tg h_6 h_4 (by simp)
  have h_18 : w_1.1 bi = some (145, br, tTb 2 cB BB) := by
    rw [hw_2]; exact zput_tg hli hbi (by simp)
  have h_19 : w_7.1 bi = some (145, br, tTb 2 cB BB) := by
    rw [hw_8]; exact zput_tg h_6 h_18 (by simp)
  have h_20 : w_1.1 le = some (146, br, tTb 4 cE EE) := by
    rw [hw_2]; exact zput_tg hli hle (by simp)
  have h_21 : w_7.1 le = some (146, br, tTb 4 cE EE) := by
    rw [hw_8]; exact zput_tg h_6 h_20 (by simp)
  have h_22 : w_1.1 wk = some (147, br, tTb 3 cW WW) := by
    rw [hw_2]; exact zput_tg hli hwk (by simp)
  have h_23 : w_7.1 wk = some (147, br, tTb 3 cW WW) := by
    rw [hw_8]; exact zput_tg h_6 h_22 (by simp)
  have h_24 : w_7.1 br = some (0, 0, [zR pg, zR t, zR nd, zI (g : Int), zR va, zR ce, zR li, zR ro, zI fr, zR bi, zR le, zR wk, zI tk, zI rs, zI (rd : Int)]) := by
    rw [hw_8]; exact zput_tg h_6 h_5 (by simp)
  have hBq : bbW w_7 b1 b2 ((br, pg, t), (nd, va, ce, li), (ro, bi, le, wk)) (((cN, NN), (cV, VV), (cC, CC), (cL, (ts LL (li0 : Int) 3 v0))), ((cR, (ts RR fr 5 (pl + 1))), (cB, BB), (cE, EE), (cW, WW)), ((g : Int), fr, tk, rs, (rd : Int))) := ⟨h_24, ⟨⟨h_12, okN⟩, ⟨h_14, okV⟩, ⟨h_16, okC⟩, ⟨h_17, (tOk_ts okL)⟩⟩, ⟨⟨h_10, (tOk_ts okR)⟩, ⟨h_19, okB⟩, ⟨h_21, okE⟩, ⟨h_23, okW⟩⟩, ⟨⟨by omega, by omega, by omega, by omega⟩, ⟨by omega, by omega, by omega, by omega⟩⟩, ⟨⟨by omega, by omega, by omega, by omega⟩, ⟨by omega, by omega, by omega, by omega⟩⟩, by omega, by omega⟩
  have hPq := pgW_TB hP hFq
  obtain ⟨-, -, -, -, hPr2, -, -⟩ := id hPq
  have h_25 : w_1.1 y = some (6, 0, [zI (R.2.2.2.1 y).1.1, zR (R.2.2.2.1 y).1.2.1, zR (R.2.2.2.1 y).1.2.2.1, zR (R.2.2.2.1 y).1.2.2.2.1, zR (R.2.2.2.1 y).1.2.2.2.2]) := by
    rw [hw_2]; exact zput_tg hli (hPr y hy).1.1 (by simp)
  have h_26 : w_7.1 y = some (6, 0, [zI (R.2.2.2.1 y).1.1, zR (R.2.2.2.1 y).1.2.1, zR (R.2.2.2.1 y).1.2.2.1, zR (R.2.2.2.1 y).1.2.2.2.1, zR (R.2.2.2.1 y).1.2.2.2.2]) := by
    rw [hw_8]; exact zput_tg h_6 h_25 (by simp)
  refine zx_iv (b := y) (As := []) (st := [zI (pl + 1)]) (v := (some (zI ((R.2.2.2.1 y).2.2.2.2.length : Int)))) (w1 := w_7) dX0_takeOff_223 zc_X0_181 h_26 rfl rfl rfl (Nat.le_of_ble_eq_true rfl) rfl (c_X6_clauseCount (hPr2 y hy).1.1 (hPr2 y hy).1.2.2.2) ?_
  refine zx_st (st1 := [zI ((R.2.2.2.1 y).2.2.2.2.length : Int), zI (pl + 1)]) rfl ?_
  refine zx_icmp_lt (tgt := 239) dX0_takeOff_226 (by decide) (fun h226 => absurd h226 (by omega)) (fun h226 => ?_)
  refine zx_aload_n (i := 0) dX0_takeOff_229 rfl rfl ?_
  refine zx_dup dX0_takeOff_230 (fun a h => by cases h) ?_
  refine zx_getfield dX0_takeOff_231 zf_X0_66 h_24 rfl ?_
  refine zx_iconst (v := 1) dX0_takeOff_234 rfl (z32_lit (by decide) (by decide)) ?_
  refine zx_iadd (v := fr + 1) dX0_takeOff_235 (zw_id ⟨by omega, by omega⟩) ?_
  obtain ⟨w_27, hw_28⟩ : ∃ ww, ww = zput w_7 br (0, 0, [zR pg, zR t, zR nd, zI (g : Int), zR va, zR ce, zR li, zR ro, zI (fr + 1), zR bi, zR le, zR wk, zI tk, zI rs, zI (rd : Int)]) := ⟨_, rfl⟩
  refine zx_put (w1 := w_27) dX0_takeOff_236 zf_X0_66 h_24 (Nat.le_of_ble_eq_true rfl) (zFt_int _) (fun h => by cases h) hw_28.symm ?_
  have q_29 : w_27.2.1 = w_7.2.1 ∧ w_27.2.2 = w_7.2.2 := by rw [hw_28]; exact ⟨rfl, rfl⟩
  have h_30 : w_27.1 br = some (0, 0, [zR pg, zR t, zR nd, zI (g : Int), zR va, zR ce, zR li, zR ro, zI (fr + 1), zR bi, zR le, zR wk, zI tk, zI rs, zI (rd : Int)]) := by rw [hw_28]; exact zput_at
  refine zx_iload_n (i := 2) dX0_takeOff_239 rfl rfl ?_
  refine zx_pc (pc1 := 240) rfl ?_
  refine zx_iret dX0_takeOff_240 rfl ?_
  have hfaL9 : zFa [li, ro, br] w w_27 := (zFa_put (zFa_put (zFa_put zFa_re (by simp) hw_2) (by simp) hw_8) (by simp) hw_28)
  have hF9 : zFr TB w w_27 := zFr_fa hfaL9 (zLc hli (by simp) (zLc hro (by simp) (zLc hbr (by simp) zLn)))
  have h_31 : w_27.1 nd = some (140, br, tTb 5 cN NN) := by
    rw [hw_28]; exact zput_tg h_24 h_12 (by simp)
  have h_32 : w_27.1 va = some (141, br, tTb 1 cV VV) := by
    rw [hw_28]; exact zput_tg h_24 h_14 (by simp)
  have h_33 : w_27.1 ce = some (142, br, tTb 3 cC CC) := by
    rw [hw_28]; exact zput_tg h_24 h_16 (by simp)
  have h_34 : w_27.1 li = some (143, br, tTb 4 cL (ts LL (li0 : Int) 3 v0)) := by
    rw [hw_28]; exact zput_tg h_24 h_17 (by simp)
  have h_35 : w_27.1 ro = some (144, br, tTb 6 cR (ts RR fr 5 (pl + 1))) := by
    rw [hw_28]; exact zput_tg h_24 h_10 (by simp)
  have h_36 : w_27.1 bi = some (145, br, tTb 2 cB BB) := by
    rw [hw_28]; exact zput_tg h_24 h_19 (by simp)
  have h_37 : w_27.1 le = some (146, br, tTb 4 cE EE) := by
    rw [hw_28]; exact zput_tg h_24 h_21 (by simp)
  have h_38 : w_27.1 wk = some (147, br, tTb 3 cW WW) := by
    rw [hw_28]; exact zput_tg h_24 h_23 (by simp)
  have hB9 : bbW w_27 b1 b2 ((br, pg, t), (nd, va, ce, li), (ro, bi, le, wk)) (((cN, NN), (cV, VV), (cC, CC), (cL, (ts LL (li0 : Int) 3 v0))), ((cR, (ts RR fr 5 (pl + 1))), (cB, BB), (cE, EE), (cW, WW)), ((g : Int), (fr + 1), tk, rs, (rd : Int))) := ⟨h_30, ⟨⟨h_31, okN⟩, ⟨h_32, okV⟩, ⟨h_33, okC⟩, ⟨h_34, (tOk_ts okL)⟩⟩, ⟨⟨h_35, (tOk_ts okR)⟩, ⟨h_36, okB⟩, ⟨h_37, okE⟩, ⟨h_38, okW⟩⟩, ⟨⟨by omega, by omega, by omega, by omega⟩, ⟨by omega, by omega, by omega, by omega⟩⟩, ⟨⟨by omega, by omega, by omega, by omega⟩, ⟨by omega, by omega, by omega, by omega⟩⟩, by omega, by omega⟩
  exact ⟨_, rfl, k _ hB9 hF9⟩
end BTO
