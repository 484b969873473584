/-! Own rows: breadth's right side of an equation. Walked by program (wip/p37/m_brs.py). -/
section BRS
variable {G : zG} {d : Nat} {w : zW} {b1 b2 : Nat} {br pg t nd va ce li ro bi le wk : Nat} {cN cV cC cL cR cB cE cW : Nat} {NN VV CC LL RR BB EE WW : List (List Int)} {gc fr tk rs rd : Int} {g gv : Nat} {su : Int} {xs : List Int}
theorem c_X0_rightSide_same (hB : bbW w b1 b2 ((br, pg, t), (nd, va, ce, li), (ro, bi, le, wk)) (((cN, NN), (cV, VV), (cC, CC), (cL, LL)), ((cR, RR), (cB, BB), (cE, EE), (cW, WW)), (gc, fr, tk, rs, rd))) (hG1 : b1 + 1800000 ≤ 30 * G.2.2.2.2.1) (hG2 : b2 + 3700000 ≤ G.2.2.2.2.2) (hl : NN.length < 3900) (hg : w.1 g = some (3, 0, [zI 1, zI su, zI 2, zR gv])) (hv : w.1 gv = some (100, g, xs.map Sum.inl)) (hx : xs.length < 100) (b0 : Int) (hb : 0 ≤ b0 ∧ b0 < 1000000) (hz : 0 ≤ zVa xs 1 ∧ zVa xs 1 < 8) : zM G zm_X0_rightSide (d + 3) [zR br, zR g, zI b0] w (zRet (some (zI (tg VV (b0 + zVa xs 1) 0))) w) := by
  refine zx_ent (by decide +kernel) rfl (Nat.le_of_ble_eq_true rfl) ?_
  refine zx_L (L1 := [some (zR br), some (zR g), some (zI b0), none, none]) rfl ?_
  obtain ⟨hbr, ⟨⟨hnd, okN⟩, ⟨hva, okV⟩, ⟨hce, okC⟩, ⟨hli, okL⟩⟩, ⟨⟨hro, okR⟩, ⟨hbi, okB⟩, ⟨hle, okE⟩, ⟨hwk, okW⟩⟩, ⟨⟨c1N, c1V, c1C, c1L⟩, ⟨c1R, c1B, c1E, c1W⟩⟩, ⟨⟨c2N, c2V, c2C, c2L⟩, ⟨c2R, c2B, c2E, c2W⟩⟩, hrm1, hrm2⟩ := id hB
  refine zx_aload_n (i := 1) dX0_rightSide_0 rfl rfl ?_
  refine zx_getfield dX0_rightSide_1 zf_X0_206 hg rfl ?_
  refine zx_iconst (v := 1) dX0_rightSide_4 rfl (z32_lit (by decide) (by decide)) ?_
  refine zx_icmp_ne (tgt := 16) dX0_rightSide_5 (by decide) (fun h5 => absurd h5 (by decide)) (fun h5 => ?_)
  refine zx_aload_n (i := 0) dX0_rightSide_8 rfl rfl ?_
  refine zx_aload_n (i := 1) dX0_rightSide_9 rfl rfl ?_
  refine zx_iload_n (i := 2) dX0_rightSide_10 rfl rfl ?_
  refine zx_iconst (v := 1) dX0_rightSide_11 rfl (z32_lit (by decide) (by decide)) ?_
  refine zx_iv (b := br) (As := [zR g, zI b0, zI 1]) (st := []) (v := (some (zI (tg VV (b0 + zVa xs 1) 0)))) (w1 := w) dX0_rightSide_12 zc_X0_186 hbr rfl rfl rfl (Nat.le_of_ble_eq_true rfl) rfl (c_X0_nodeOf hB hg hv hx b0 1 hb hz) ?_
  refine zx_st (st1 := [zI (tg VV (b0 + zVa xs 1) 0)]) rfl ?_
  refine zx_iret dX0_rightSide_15 rfl ?_
  exact zr_i rfl
theorem c_X0_rightSide_part (hB : bbW w b1 b2 ((br, pg, t), (nd, va, ce, li), (ro, bi, le, wk)) (((cN, NN), (cV, VV), (cC, CC), (cL, LL)), ((cR, RR), (cB, BB), (cE, EE), (cW, WW)), (gc, fr, tk, rs, rd))) (hG1 : b1 + 1800000 ≤ 30 * G.2.2.2.2.1) (hG2 : b2 + 3700000 ≤ G.2.2.2.2.2) (hl : NN.length < 3900) (hg : w.1 g = some (3, 0, [zI 0, zI su, zI 2, zR gv])) (hv : w.1 gv = some (100, g, xs.map Sum.inl)) (hx : xs.length < 100) (b0 : Int) (hb : 0 ≤ b0 ∧ b0 < 1000000) (hz : 0 ≤ zVa xs 1 ∧ zVa xs 1 < 8) : zM G zm_X0_rightSide (d + 3) [zR br, zR g, zI b0] w (zVal fun o w' => o = zI (NN.length : Int) ∧ bbW w' b1 b2 ((br, pg, t), (nd, va, ce, li), (ro, bi, le, wk)) (((tCap 5 cN NN, NN ++ [trow 5 su (tg VV (b0 + zVa xs 1) 0) (-1)]), (cV, VV), (cC, CC), (cL, LL)), ((cR, RR), (cB, BB), (cE, EE), (cW, WW)), (gc, fr, tk, rs, rd)) ∧ zFr TB w w') := by
  refine zx_ent (by decide +kernel) rfl (Nat.le_of_ble_eq_true rfl) ?_
  refine zx_L (L1 := [some (zR br), some (zR g), some (zI b0), none, none]) rfl ?_
  obtain ⟨hbr, ⟨⟨hnd, okN⟩, ⟨hva, okV⟩, ⟨hce, okC⟩, ⟨hli, okL⟩⟩, ⟨⟨hro, okR⟩, ⟨hbi, okB⟩, ⟨hle, okE⟩, ⟨hwk, okW⟩⟩, ⟨⟨c1N, c1V, c1C, c1L⟩, ⟨c1R, c1B, c1E, c1W⟩⟩, ⟨⟨c2N, c2V, c2C, c2L⟩, ⟨c2R, c2B, c2E, c2W⟩⟩, hrm1, hrm2⟩ := id hB
  refine zx_aload_n (i := 1) dX0_rightSide_0 rfl rfl ?_
  refine zx_getfield dX0_rightSide_1 zf_X0_206 hg rfl ?_
  refine zx_iconst (v := 1) dX0_rightSide_4 rfl (z32_lit (by decide) (by decide)) ?_
  refine zx_icmp_ne (tgt := 16) dX0_rightSide_5 (by decide) (fun h5 => ?_) (fun h5 => absurd (by decide) h5)
  refine zx_aload_n (i := 1) dX0_rightSide_16 rfl rfl ?_
  refine zx_getfield dX0_rightSide_17 zf_X0_184 hg rfl ?_
  refine zx_iconst (v := 1) dX0_rightSide_20 rfl (z32_lit (by decide) (by decide)) ?_
  refine zx_icmp_le (tgt := 34) dX0_rightSide_21 (by decide) (fun h21 => absurd h21 (by decide)) (fun h21 => ?_)
  refine zx_aload_n (i := 0) dX0_rightSide_24 rfl rfl ?_
  refine zx_aload_n (i := 1) dX0_rightSide_25 rfl rfl ?_
  refine zx_iload_n (i := 2) dX0_rightSide_26 rfl rfl ?_
  refine zx_pc (pc1 := 27) rfl ?_
  refine zx_iconst (v := 1) dX0_rightSide_27 rfl (z32_lit (by decide) (by decide)) ?_
  refine zx_iv (b := br) (As := [zR g, zI b0, zI 1]) (st := []) (v := (some (zI (tg VV (b0 + zVa xs 1) 0)))) (w1 := w) dX0_rightSide_28 zc_X0_186 hbr rfl rfl rfl (Nat.le_of_ble_eq_true rfl) rfl (c_X0_nodeOf hB hg hv hx b0 1 hb hz) ?_
  refine zx_st (st1 := [zI (tg VV (b0 + zVa xs 1) 0)]) rfl ?_
  refine zx_goto (tgt := 35) dX0_rightSide_31 (by decide) ?_
  refine zx_istore_n (i := 3) dX0_rightSide_35 rfl (by decide) rfl ?_
  refine zx_L (L1 := [some (zR br), some (zR g), some (zI b0), some (zI (tg VV (b0 + zVa xs 1) 0)), none]) rfl ?_
  refine zx_aload_n (i := 1) dX0_rightSide_36 rfl rfl ?_
  refine zx_getfield dX0_rightSide_37 zf_X0_184 hg rfl ?_
  refine zx_iconst (v := 2) dX0_rightSide_40 rfl (z32_lit (by decide) (by decide)) ?_
  refine zx_icmp_le (tgt := 54) dX0_rightSide_41 (by decide) (fun h41 => ?_) (fun h41 => absurd (by decide) h41)
  refine zx_iconst (v := -1) dX0_rightSide_54 rfl (z32_lit (by decide) (by decide)) ?_
  refine zx_istore (i := 4) dX0_rightSide_55 (by decide) rfl ?_
  refine zx_L (L1 := [some (zR br), some (zR g), some (zI b0), some (zI (tg VV (b0 + zVa xs 1) 0)), some (zI (-1))]) rfl ?_
  refine zx_aload_n (i := 0) dX0_rightSide_57 rfl rfl ?_
  refine zx_getfield dX0_rightSide_58 zf_X0_24 hbr rfl ?_
  refine zx_pc (pc1 := 61) rfl ?_
  refine zx_aload_n (i := 1) dX0_rightSide_61 rfl rfl ?_
  refine zx_getfield dX0_rightSide_62 zf_X0_173 hg rfl ?_
  refine zx_iload_n (i := 3) dX0_rightSide_65 rfl rfl ?_
  refine zx_iload (i := 4) dX0_rightSide_66 rfl ?_
  refine zx_ok (fun ok_1 => ?_)
  obtain ⟨w_2, hw_3⟩ : ∃ ww, ww = tAw w nd 140 br 5 cN NN (trow 5 su (tg VV (b0 + zVa xs 1) 0) (-1)) := ⟨_, rfl⟩
  have h_4 : w_2.1 nd = some (140, br, tTb 5 (tCap 5 cN NN) (NN ++ [(trow 5 su (tg VV (b0 + zVa xs 1) 0) (-1))])) := by rw [hw_3]; exact tAw_at
  have qhw_3 := tAw_sz3 (w := w) (a := nd) (t := 140) (ow := br) (c := 5) (cap := cN) (rows := NN) (r := (trow 5 su (tg VV (b0 + zVa xs 1) 0) (-1))) (by omega)
  rw [← hw_3] at qhw_3
  refine zx_iv (b := nd) (As := [zI su, zI (tg VV (b0 + zVa xs 1) 0), zI (-1)]) (st := []) (v := (some (zI (NN.length : Int)))) (w1 := w_2) dX0_rightSide_68 zc_X0_113 hnd (z_cls9 (by decide)) rfl rfl (Nat.le_of_ble_eq_true rfl) rfl (by rw [hw_3]; exact (c_X9_add hnd (by decide) okN (by omega) (by by_cases cg : NN.length * 5 + 5 ≤ cN; exact Or.inl cg; exact Or.inr ⟨by omega, by omega⟩) su (tg VV (b0 + zVa xs 1) 0) (-1))) ?_
  refine zx_st (st1 := [zI (NN.length : Int)]) rfl ?_
  refine zx_iret dX0_rightSide_71 rfl ?_
  have hfaL2 : zFa [nd] w w_2 := (zFa_taw zFa_re (by simp) ok_1 hw_3)
  have hF2 : zFr TB w w_2 := zFr_fa hfaL2 (zLc hnd (by simp) zLn)
  have h_5 : w_2.1 va = some (141, br, tTb 1 cV VV) := by
    rw [hw_3]; exact (tAw_to ok_1 (zne_tg hnd hva (by simp)) hva)
  have h_6 : w_2.1 ce = some (142, br, tTb 3 cC CC) := by
    rw [hw_3]; exact (tAw_to ok_1 (zne_tg hnd hce (by simp)) hce)
  have h_7 : w_2.1 li = some (143, br, tTb 4 cL LL) := by
    rw [hw_3]; exact (tAw_to ok_1 (zne_tg hnd hli (by simp)) hli)
  have h_8 : w_2.1 ro = some (144, br, tTb 6 cR RR) := by
    rw [hw_3]; exact (tAw_to ok_1 (zne_tg hnd hro (by simp)) hro)
  have h_9 : w_2.1 bi = some (145, br, tTb 2 cB BB) := by
    rw [hw_3]; exact (tAw_to ok_1 (zne_tg hnd hbi (by simp)) hbi)
  have h_10 : w_2.1 le = some (146, br, tTb 4 cE EE) := by
    rw [hw_3]; exact (tAw_to ok_1 (zne_tg hnd hle (by simp)) hle)
  have h_11 : w_2.1 wk = some (147, br, tTb 3 cW WW) := by
    rw [hw_3]; exact (tAw_to ok_1 (zne_tg hnd hwk (by simp)) hwk)
  have h_12 : w_2.1 br = some (0, 0, [zR pg, zR t, zR nd, zI gc, zR va, zR ce, zR li, zR ro, zI fr, zR bi, zR le, zR wk, zI tk, zI rs, zI rd]) := by
    rw [hw_3]; exact (tAw_to ok_1 (zne_tg hnd hbr (by simp)) hbr)
  have hB2 : bbW w_2 b1 b2 ((br, pg, t), (nd, va, ce, li), (ro, bi, le, wk)) ((((tCap 5 cN NN), (NN ++ [(trow 5 su (tg VV (b0 + zVa xs 1) 0) (-1))])), (cV, VV), (cC, CC), (cL, LL)), ((cR, RR), (cB, BB), (cE, EE), (cW, WW)), (gc, fr, tk, rs, rd)) := ⟨h_12, ⟨⟨h_4, (tOk_app okN (by first | exact trow_len | rfl))⟩, ⟨h_5, okV⟩, ⟨h_6, okC⟩, ⟨h_7, okL⟩⟩, ⟨⟨h_8, okR⟩, ⟨h_9, okB⟩, ⟨h_10, okE⟩, ⟨h_11, okW⟩⟩, ⟨⟨by omega, by omega, by omega, by omega⟩, ⟨by omega, by omega, by omega, by omega⟩⟩, ⟨⟨by omega, by omega, by omega, by omega⟩, ⟨by omega, by omega, by omega, by omega⟩⟩, by omega, by omega⟩
  exact ⟨_, rfl, rfl, hB2, hF2⟩
theorem c_X0_rightSide_bare (hB : bbW w b1 b2 ((br, pg, t), (nd, va, ce, li), (ro, bi, le, wk)) (((cN, NN), (cV, VV), (cC, CC), (cL, LL)), ((cR, RR), (cB, BB), (cE, EE), (cW, WW)), (gc, fr, tk, rs, rd))) (hG1 : b1 + 1800000 ≤ 30 * G.2.2.2.2.1) (hG2 : b2 + 3700000 ≤ G.2.2.2.2.2) (hl : NN.length < 3900) (hg : w.1 g = some (3, 0, [zI 0, zI su, zI 1, zR gv])) (hv : w.1 gv = some (100, g, xs.map Sum.inl)) (hx : xs.length < 100) (b0 : Int) (hb : 0 ≤ b0 ∧ b0 < 1000000) (hz : 0 ≤ zVa xs 1 ∧ zVa xs 1 < 8) : zM G zm_X0_rightSide (d + 3) [zR br, zR g, zI b0] w (zVal fun o w' => o = zI (NN.length : Int) ∧ bbW w' b1 b2 ((br, pg, t), (nd, va, ce, li), (ro, bi, le, wk)) (((tCap 5 cN NN, NN ++ [trow 5 su (-1) (-1)]), (cV, VV), (cC, CC), (cL, LL)), ((cR, RR), (cB, BB), (cE, EE), (cW, WW)), (gc, fr, tk, rs, rd)) ∧ zFr TB w w') := by
  refine zx_ent (by decide +kernel) rfl (Nat.le_of_ble_eq_true rfl) ?_
  refine zx_L (L1 := [some (zR br), some (zR g), some (zI b0), none, none]) rfl ?_
  obtain ⟨hbr, ⟨⟨hnd, okN⟩, ⟨hva, okV⟩, ⟨hce, okC⟩, ⟨hli, okL⟩⟩, ⟨⟨hro, okR⟩, ⟨hbi, okB⟩, ⟨hle, okE⟩, ⟨hwk, okW⟩⟩, ⟨⟨c1N, c1V, c1C, c1L⟩, ⟨c1R, c1B, c1E, c1W⟩⟩, ⟨⟨c2N, c2V, c2C, c2L⟩, ⟨c2R, c2B, c2E, c2W⟩⟩, hrm1, hrm2⟩ := id hB
  refine zx_aload_n (i := 1) dX0_rightSide_0 rfl rfl ?_
  refine zx_getfield dX0_rightSide_1 zf_X0_206 hg rfl ?_
  refine zx_iconst (v := 1) dX0_rightSide_4 rfl (z32_lit (by decide) (by decide)) ?_
  refine zx_icmp_ne (tgt := 16) dX0_rightSide_5 (by decide) (fun h5 => ?_) (fun h5 => absurd (by decide) h5)
  refine zx_aload_n (i := 1) dX0_rightSide_16 rfl rfl ?_
  refine zx_getfield dX0_rightSide_17 zf_X0_184 hg rfl ?_
  refine zx_iconst (v := 1) dX0_rightSide_20 rfl (z32_lit (by decide) (by decide)) ?_
  refine zx_icmp_le (tgt := 34) dX0_rightSide_21 (by decide) (fun h21 => ?_) (fun h21 => absurd (by decide) h21)
  refine zx_iconst (v := -1) dX0_rightSide_34 rfl (z32_lit (by decide) (by decide)) ?_
  refine zx_istore_n (i := 3) dX0_rightSide_35 rfl (by decide) rfl ?_
  refine zx_L (L1 := [some (zR br), some (zR g), some (zI b0), some (zI (-1)), none]) rfl ?_
  refine zx_aload_n (i := 1) dX0_rightSide_36 rfl rfl ?_
  refine zx_pc (pc1 := 37) rfl ?_
  refine zx_getfield dX0_rightSide_37 zf_X0_184 hg rfl ?_
  refine zx_iconst (v := 2) dX0_rightSide_40 rfl (z32_lit (by decide) (by decide)) ?_
  refine zx_icmp_le (tgt := 54) dX0_rightSide_41 (by decide) (fun h41 => ?_) (fun h41 => absurd (by decide) h41)
  refine zx_iconst (v := -1) dX0_rightSide_54 rfl (z32_lit (by decide) (by decide)) ?_
  refine zx_istore (i := 4) dX0_rightSide_55 (by decide) rfl ?_
  refine zx_L (L1 := [some (zR br), some (zR g), some (zI b0), some (zI (-1)), some (zI (-1))]) rfl ?_
  refine zx_aload_n (i := 0) dX0_rightSide_57 rfl rfl ?_
  refine zx_getfield dX0_rightSide_58 zf_X0_24 hbr rfl ?_
  refine zx_aload_n (i := 1) dX0_rightSide_61 rfl rfl ?_
  refine zx_getfield dX0_rightSide_62 zf_X0_173 hg rfl ?_
  refine zx_iload_n (i := 3) dX0_rightSide_65 rfl rfl ?_
  refine zx_iload (i := 4) dX0_rightSide_66 rfl ?_
  refine zx_ok (fun ok_1 => ?_)
  obtain ⟨w_2, hw_3⟩ : ∃ ww, ww = tAw w nd 140 br 5 cN NN (trow 5 su (-1) (-1)) := ⟨_, rfl⟩
  have h_4 : w_2.1 nd = some (140, br, tTb 5 (tCap 5 cN NN) (NN ++ [(trow 5 su (-1) (-1))])) := by rw [hw_3]; exact tAw_at
  have qhw_3 := tAw_sz3 (w := w) (a := nd) (t := 140) (ow := br) (c := 5) (cap := cN) (rows := NN) (r := (trow 5 su (-1) (-1))) (by omega)
  rw [← hw_3] at qhw_3
  refine zx_iv (b := nd) (As := [zI su, zI (-1), zI (-1)]) (st := []) (v := (some (zI (NN.length : Int)))) (w1 := w_2) dX0_rightSide_68 zc_X0_113 hnd (z_cls9 (by decide)) rfl rfl (Nat.le_of_ble_eq_true rfl) rfl (by rw [hw_3]; exact (c_X9_add hnd (by decide) okN (by omega) (by by_cases cg : NN.length * 5 + 5 ≤ cN; exact Or.inl cg; exact Or.inr ⟨by omega, by omega⟩) su (-1) (-1))) ?_
  refine zx_st (st1 := [zI (NN.length : Int)]) rfl ?_
  refine zx_pc (pc1 := 71) rfl ?_
  refine zx_iret dX0_rightSide_71 rfl ?_
  have hfaL2 : zFa [nd] w w_2 := (zFa_taw zFa_re (by simp) ok_1 hw_3)
  have hF2 : zFr TB w w_2 := zFr_fa hfaL2 (zLc hnd (by simp) zLn)
  have h_5 : w_2.1 va = some (141, br, tTb 1 cV VV) := by
    rw [hw_3]; exact (tAw_to ok_1 (zne_tg hnd hva (by simp)) hva)
  have h_6 : w_2.1 ce = some (142, br, tTb 3 cC CC) := by
    rw [hw_3]; exact (tAw_to ok_1 (zne_tg hnd hce (by simp)) hce)
  have h_7 : w_2.1 li = some (143, br, tTb 4 cL LL) := by
    rw [hw_3]; exact (tAw_to ok_1 (zne_tg hnd hli (by simp)) hli)
  have h_8 : w_2.1 ro = some (144, br, tTb 6 cR RR) := by
    rw [hw_3]; exact (tAw_to ok_1 (zne_tg hnd hro (by simp)) hro)
  have h_9 : w_2.1 bi = some (145, br, tTb 2 cB BB) := by
    rw [hw_3]; exact (tAw_to ok_1 (zne_tg hnd hbi (by simp)) hbi)
  have h_10 : w_2.1 le = some (146, br, tTb 4 cE EE) := by
    rw [hw_3]; exact (tAw_to ok_1 (zne_tg hnd hle (by simp)) hle)
  have h_11 : w_2.1 wk = some (147, br, tTb 3 cW WW) := by
    rw [hw_3]; exact (tAw_to ok_1 (zne_tg hnd hwk (by simp)) hwk)
  have h_12 : w_2.1 br = some (0, 0, [zR pg, zR t, zR nd, zI gc, zR va, zR ce, zR li, zR ro, zI fr, zR bi, zR le, zR wk, zI tk, zI rs, zI rd]) := by
    rw [hw_3]; exact (tAw_to ok_1 (zne_tg hnd hbr (by simp)) hbr)
  have hB2 : bbW w_2 b1 b2 ((br, pg, t), (nd, va, ce, li), (ro, bi, le, wk)) ((((tCap 5 cN NN), (NN ++ [(trow 5 su (-1) (-1))])), (cV, VV), (cC, CC), (cL, LL)), ((cR, RR), (cB, BB), (cE, EE), (cW, WW)), (gc, fr, tk, rs, rd)) := ⟨h_12, ⟨⟨h_4, (tOk_app okN (by first | exact trow_len | rfl))⟩, ⟨h_5, okV⟩, ⟨h_6, okC⟩, ⟨h_7, okL⟩⟩, ⟨⟨h_8, okR⟩, ⟨h_9, okB⟩, ⟨h_10, okE⟩, ⟨h_11, okW⟩⟩, ⟨⟨by omega, by omega, by omega, by omega⟩, ⟨by omega, by omega, by omega, by omega⟩⟩, ⟨⟨by omega, by omega, by omega, by omega⟩, ⟨by omega, by omega, by omega, by omega⟩⟩, by omega, by omega⟩
  exact ⟨_, rfl, rfl, hB2, hF2⟩
end BRS
