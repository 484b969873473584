/-! Own rows: breadth joins two nodes; unify, a turn at a time. Walked by program (wip/p37/m_bun.py). -/
section BUN
variable {G : zG} {d : Nat} {w w0 : zW} {b1 b2 g rd lo hi q : Nat} {br pg t nd va ce li ro bi le wk : Nat} {cN cV cC cL cR cB cE cW : Nat} {NN VV CC LL RR BB EE WW : List (List Int)} {fr tk rs : Int} {tc tn th tz : Nat} {ty : Int} {TN TH : List (List Int)} {TS : List Int} {N : bNT} {bd : bBD} {mk : Nat → Int} {PQ : zV → zW → Prop}
theorem jn_up (hB : bbW w b1 b2 ((br, pg, t), (nd, va, ce, li), (ro, bi, le, wk)) (((cN, NN), (cV, VV), (cC, CC), (cL, LL)), ((cR, RR), (cB, BB), (cE, EE), (cW, WW)), ((g : Int), fr, tk, rs, (rd : Int)))) (hG1 : b1 + 1800000 ≤ 30 * G.2.2.2.2.1) (hG2 : b2 + 3700000 ≤ G.2.2.2.2.2) (hT : tmW w t tc tn th tz ty C3 TN TH TS) (hM : ndM NN N bd mk) (hlo : lo < N.length) (hhi : hi < N.length) (hBl : BB.length < 234500) (hWl : WW.length < 6000) (hl : bhd N lo = none) {c : Nat} (hh : bhd N hi = some c) : zM G zm_X0_join (d + 3) [zR br, zI (lo : Int), zI (hi : Int)] w (zVal fun o w' => o = zI 1 ∧ bbW w' b1 b2 ((br, pg, t), (nd, va, ce, li), (ro, bi, le, wk)) (((cN, (ts NN (lo : Int) 3 (hi : Int))), (cV, VV), (cC, CC), (cL, LL)), ((cR, RR), ((tCap 2 cB BB), (BB ++ [[(lo : Int), (hi : Int)]])), (cE, EE), (cW, WW)), ((g : Int), fr, tk, rs, (rd : Int))) ∧ zFr TB w w') := by
  refine zx_ent (by decide +kernel) rfl (Nat.le_of_ble_eq_true rfl) ?_
  refine zx_L (L1 := [some (zR br), some (zI (lo : Int)), some (zI (hi : Int)), none, none, none, none, none, none, none, none, none]) rfl ?_
  obtain ⟨hbr, ⟨⟨hnd, okN⟩, ⟨hva, okV⟩, ⟨hce, okC⟩, ⟨hli, okL⟩⟩, ⟨⟨hro, okR⟩, ⟨hbi, okB⟩, ⟨hle, okE⟩, ⟨hwk, okW⟩⟩, ⟨⟨c1N, c1V, c1C, c1L⟩, ⟨c1R, c1B, c1E, c1W⟩⟩, ⟨⟨c2N, c2V, c2C, c2L⟩, ⟨c2R, c2B, c2E, c2W⟩⟩, hrm1, hrm2⟩ := id hB
  have el : tg NN (lo : Int) 0 = -1 := by rw [(ndM_get hM hlo).1, hl]; rfl
  have eh : tg NN (hi : Int) 0 = (c : Int) := by rw [(ndM_get hM hhi).1, hh]; rfl
  refine zx_aload_n (i := 0) dX0_join_0 rfl rfl ?_
  refine zx_getfield dX0_join_1 zf_X0_24 hbr rfl ?_
  refine zx_iload_n (i := 1) dX0_join_4 rfl rfl ?_
  refine zx_iconst (v := 0) dX0_join_5 rfl (z32_lit (by decide) (by decide)) ?_
  refine zx_iv (b := nd) (As := [zI (lo : Int), zI 0]) (st := []) (v := (some (zI (-1)))) (w1 := w) dX0_join_6 zc_X0_84 hnd (z_cls9 (by decide)) rfl rfl (Nat.le_of_ble_eq_true rfl) rfl (by have q := (c_X9_get (G := G) (d := d + 2) hnd (by decide) okN (lo : Int) 0); rw [el] at q; exact q) ?_
  refine zx_st (st1 := [zI (-1)]) rfl ?_
  refine zx_istore_n (i := 3) dX0_join_9 rfl (by decide) rfl ?_
  refine zx_L (L1 := [some (zR br), some (zI (lo : Int)), some (zI (hi : Int)), some (zI (-1)), none, none, none, none, none, none, none, none]) rfl ?_
  refine zx_aload_n (i := 0) dX0_join_10 rfl rfl ?_
  refine zx_getfield dX0_join_11 zf_X0_24 hbr rfl ?_
  refine zx_iload_n (i := 2) dX0_join_14 rfl rfl ?_
  refine zx_iconst (v := 0) dX0_join_15 rfl (z32_lit (by decide) (by decide)) ?_
  refine zx_iv (b := nd) (As := [zI (hi : Int), zI 0]) (st := []) (v := (some (zI (c : Int)))) (w1 := w) dX0_join_16 zc_X0_84 hnd (z_cls9 (by decide)) rfl rfl (Nat.le_of_ble_eq_true rfl) rfl (by have q := (c_X9_get (G := G) (d := d + 2) hnd (by decide) okN (hi : Int) 0); rw [eh] at q; exact q) ?_
  refine zx_st (st1 := [zI (c : Int)]) rfl ?_
  refine zx_pc (pc1 := 19) rfl ?_
  refine zx_istore (i := 4) dX0_join_19 (by decide) rfl ?_
  refine zx_L (L1 := [some (zR br), some (zI (lo : Int)), some (zI (hi : Int)), some (zI (-1)), some (zI (c : Int)), none, none, none, none, none, none, none]) rfl ?_
  refine zx_iload_n (i := 3) dX0_join_21 rfl rfl ?_
  refine zx_iconst (v := -1) dX0_join_22 rfl (z32_lit (by decide) (by decide)) ?_
  refine zx_icmp_eq (tgt := 36) dX0_join_23 (by decide) (fun h23 => ?_) (fun h23 => absurd (by decide) h23)
  refine zx_iconst (v := 0) dX0_join_36 rfl (z32_lit (by decide) (by decide)) ?_
  refine zx_istore (i := 5) dX0_join_37 (by decide) rfl ?_
  refine zx_L (L1 := [some (zR br), some (zI (lo : Int)), some (zI (hi : Int)), some (zI (-1)), some (zI (c : Int)), some (zI 0), none, none, none, none, none, none]) rfl ?_
  refine zx_iload (i := 5) dX0_join_39 rfl ?_
  refine zx_if_eq (tgt := 60) dX0_join_41 (by decide) (fun h41 => ?_) (fun h41 => absurd (by decide) h41)
  refine zx_iload_n (i := 3) dX0_join_60 rfl rfl ?_
  refine zx_iconst (v := -1) dX0_join_61 rfl (z32_lit (by decide) (by decide)) ?_
  refine zx_icmp_ne (tgt := 75) dX0_join_62 (by decide) (fun h62 => absurd h62 (by decide)) (fun h62 => ?_)
  refine zx_iload (i := 4) dX0_join_65 rfl ?_
  refine zx_pc (pc1 := 67) rfl ?_
  refine zx_iconst (v := -1) dX0_join_67 rfl (z32_lit (by decide) (by decide)) ?_
  refine zx_icmp_eq (tgt := 75) dX0_join_68 (by decide) (fun h68 => absurd h68 (by omega)) (fun h68 => ?_)
  refine zx_iconst (v := 1) dX0_join_71 rfl (z32_lit (by decide) (by decide)) ?_
  refine zx_goto (tgt := 76) dX0_join_72 (by decide) ?_
  refine zx_istore (i := 6) dX0_join_76 (by decide) rfl ?_
  refine zx_L (L1 := [some (zR br), some (zI (lo : Int)), some (zI (hi : Int)), some (zI (-1)), some (zI (c : Int)), some (zI 0), some (zI 1), none, none, none, none, none]) rfl ?_
  refine zx_iload (i := 6) dX0_join_78 rfl ?_
  refine zx_if_eq (tgt := 87) dX0_join_80 (by decide) (fun h80 => absurd h80 (by decide)) (fun h80 => ?_)
  refine zx_iload_n (i := 1) dX0_join_83 rfl rfl ?_
  refine zx_goto (tgt := 88) dX0_join_84 (by decide) ?_
  refine zx_istore (i := 7) dX0_join_88 (by decide) rfl ?_
  refine zx_L (L1 := [some (zR br), some (zI (lo : Int)), some (zI (hi : Int)), some (zI (-1)), some (zI (c : Int)), some (zI 0), some (zI 1), some (zI (lo : Int)), none, none, none, none]) rfl ?_
  refine zx_iload (i := 6) dX0_join_90 rfl ?_
  refine zx_if_eq (tgt := 99) dX0_join_92 (by decide) (fun h92 => absurd h92 (by decide)) (fun h92 => ?_)
  refine zx_pc (pc1 := 95) rfl ?_
  refine zx_iload_n (i := 2) dX0_join_95 rfl rfl ?_
  refine zx_goto (tgt := 100) dX0_join_96 (by decide) ?_
  refine zx_istore (i := 8) dX0_join_100 (by decide) rfl ?_
  refine zx_L (L1 := [some (zR br), some (zI (lo : Int)), some (zI (hi : Int)), some (zI (-1)), some (zI (c : Int)), some (zI 0), some (zI 1), some (zI (lo : Int)), some (zI (hi : Int)), none, none, none]) rfl ?_
  refine zx_aload_n (i := 0) dX0_join_102 rfl rfl ?_
  refine zx_getfield dX0_join_103 zf_X0_24 hbr rfl ?_
  refine zx_iload (i := 7) dX0_join_106 rfl ?_
  refine zx_iconst (v := 3) dX0_join_108 rfl (z32_lit (by decide) (by decide)) ?_
  refine zx_iload (i := 8) dX0_join_109 rfl ?_
  obtain ⟨w_1, hw_2⟩ : ∃ ww, ww = zput w nd (140, br, tTb 5 cN (ts NN (lo : Int) 3 (hi : Int))) := ⟨_, rfl⟩
  have q_3 : w_1.2.1 = w.2.1 ∧ w_1.2.2 = w.2.2 := by rw [hw_2]; exact ⟨rfl, rfl⟩
  have h_4 : w_1.1 nd = some (140, br, tTb 5 cN (ts NN (lo : Int) 3 (hi : Int))) := by rw [hw_2]; exact zput_at
  refine zx_iv (b := nd) (As := [zI (lo : Int), zI 3, zI (hi : Int)]) (st := []) (v := none) (w1 := w_1) dX0_join_111 zc_X0_142 hnd (z_cls9 (by decide)) rfl rfl (Nat.le_of_ble_eq_true rfl) rfl (by rw [hw_2]; exact (c_X9_set hnd (by decide) okN (lo : Int) 3 (hi : Int))) ?_
  refine zx_st (st1 := []) rfl ?_
  refine zx_aload_n (i := 0) dX0_join_114 rfl rfl ?_
  have h_5 : w_1.1 br = some (0, 0, [zR pg, zR t, zR nd, zI (g : Int), zR va, zR ce, zR li, zR ro, zI fr, zR bi, zR le, zR wk, zI tk, zI rs, zI (rd : Int)]) := by
    rw [hw_2]; exact zput_tg hnd hbr (by simp)
  refine zx_getfield dX0_join_115 zf_X0_40 h_5 rfl ?_
  refine zx_iload (i := 7) dX0_join_118 rfl ?_
  refine zx_pc (pc1 := 120) rfl ?_
  refine zx_iload (i := 8) dX0_join_120 rfl ?_
  refine zx_iconst (v := -1) dX0_join_122 rfl (z32_lit (by decide) (by decide)) ?_
  have h_6 : w_1.1 bi = some (145, br, tTb 2 cB BB) := by
    rw [hw_2]; exact zput_tg hnd hbi (by simp)
  refine zx_ok (fun ok_7 => ?_)
  obtain ⟨w_8, hw_9⟩ : ∃ ww, ww = tAw w_1 bi 145 br 2 cB BB (trow 2 (lo : Int) (hi : Int) (-1)) := ⟨_, rfl⟩
  have h_10 : w_8.1 bi = some (145, br, tTb 2 (tCap 2 cB BB) (BB ++ [(trow 2 (lo : Int) (hi : Int) (-1))])) := by rw [hw_9]; exact tAw_at
  have qhw_9 := tAw_sz3 (w := w_1) (a := bi) (t := 145) (ow := br) (c := 2) (cap := cB) (rows := BB) (r := (trow 2 (lo : Int) (hi : Int) (-1))) (by omega)
  rw [← hw_9] at qhw_9
  refine zx_iv (b := bi) (As := [zI (lo : Int), zI (hi : Int), zI (-1)]) (st := []) (v := (some (zI (BB.length : Int)))) (w1 := w_8) dX0_join_123 zc_X0_113 h_6 (z_cls9 (by decide)) rfl rfl (Nat.le_of_ble_eq_true rfl) rfl (by rw [hw_9]; exact (c_X9_add h_6 (by decide) okB (by omega) (by by_cases cg : BB.length * 2 + 2 ≤ cB; exact Or.inl cg; exact Or.inr ⟨by omega, by omega⟩) (lo : Int) (hi : Int) (-1))) ?_
  refine zx_st (st1 := [zI (BB.length : Int)]) rfl ?_
  refine zx_pop dX0_join_126 (fun a h => by cases h) ?_
  refine zx_iload (i := 5) dX0_join_127 rfl ?_
  refine zx_if_eq (tgt := 143) dX0_join_129 (by decide) (fun h129 => ?_) (fun h129 => absurd (by decide) h129)
  refine zx_iconst (v := 0) dX0_join_143 rfl (z32_lit (by decide) (by decide)) ?_
  refine zx_istore (i := 9) dX0_join_144 (by decide) rfl ?_
  refine zx_L (L1 := [some (zR br), some (zI (lo : Int)), some (zI (hi : Int)), some (zI (-1)), some (zI (c : Int)), some (zI 0), some (zI 1), some (zI (lo : Int)), some (zI (hi : Int)), some (zI 0), none, none]) rfl ?_
  refine zx_iconst (v := 0) dX0_join_146 rfl (z32_lit (by decide) (by decide)) ?_
  refine zx_istore (i := 10) dX0_join_147 (by decide) rfl ?_
  refine zx_L (L1 := [some (zR br), some (zI (lo : Int)), some (zI (hi : Int)), some (zI (-1)), some (zI (c : Int)), some (zI 0), some (zI 1), some (zI (lo : Int)), some (zI (hi : Int)), some (zI 0), some (zI 0), none]) rfl ?_
  refine zx_iload (i := 10) dX0_join_149 rfl ?_
  refine zx_iload (i := 9) dX0_join_151 rfl ?_
  refine zx_pc (pc1 := 153) rfl ?_
  refine zx_icmp_ge (tgt := 203) dX0_join_153 (by decide) (fun h153 => ?_) (fun h153 => absurd (by decide) h153)
  refine zx_iconst (v := 1) dX0_join_203 rfl (z32_lit (by decide) (by decide)) ?_
  refine zx_zret dX0_join_204 rfl (by first | exact Or.inl rfl | exact Or.inr rfl | exact zB_or | assumption) ?_
  have hfaL2 : zFa [nd, bi] w w_8 := (zFa_taw (zFa_put zFa_re (by simp) hw_2) (by simp) ok_7 hw_9)
  have hF2 : zFr TB w w_8 := zFr_fa hfaL2 (zLc hnd (by simp) (zLc hbi (by simp) zLn))
  have h_11 : w_8.1 nd = some (140, br, tTb 5 cN (ts NN (lo : Int) 3 (hi : Int))) := by
    rw [hw_9]; exact (tAw_to ok_7 (zne_tg h_6 h_4 (by simp)) h_4)
  have h_12 : w_1.1 va = some (141, br, tTb 1 cV VV) := by
    rw [hw_2]; exact zput_tg hnd hva (by simp)
  have h_13 : w_8.1 va = some (141, br, tTb 1 cV VV) := by
    rw [hw_9]; exact (tAw_to ok_7 (zne_tg h_6 h_12 (by simp)) h_12)
  have h_14 : w_1.1 ce = some (142, br, tTb 3 cC CC) := by
    rw [hw_2]; exact zput_tg hnd hce (by simp)
  have h_15 : w_8.1 ce = some (142, br, tTb 3 cC CC) := by
    rw [hw_9]; exact (tAw_to ok_7 (zne_tg h_6 h_14 (by simp)) h_14)
  have h_16 : w_1.1 li = some (143, br, tTb 4 cL LL) := by
    rw [hw_2]; exact zput_tg hnd hli (by simp)
  have h_17 : w_8.1 li = some (143, br, tTb 4 cL LL) := by
    rw [hw_9]; exact (tAw_to ok_7 (zne_tg h_6 h_16 (by simp)) h_16)
  have h_18 : w_1.1 ro = some (144, br, tTb 6 cR RR) := by
    rw [hw_2]; exact zput_tg hnd hro (by simp)
  have h_19 : w_8.1 ro = some (144, br, tTb 6 cR RR) := by
    rw [hw_9]; exact (tAw_to ok_7 (zne_tg h_6 h_18 (by simp)) h_18)
  have h_20 : w_1.1 le = some (146, br, tTb 4 cE EE) := by
    rw [hw_2]; exact zput_tg hnd hle (by simp)
  have h_21 : w_8.1 le = some (146, br, tTb 4 cE EE) := by
    rw [hw_9]; exact (tAw_to ok_7 (zne_tg h_6 h_20 (by simp)) h_20)
  have h_22 : w_1.1 wk = some (147, br, tTb 3 cW WW) := by
    rw [hw_2]; exact zput_tg hnd hwk (by simp)
  have h_23 : w_8.1 wk = some (147, br, tTb 3 cW WW) := by
    rw [hw_9]; exact (tAw_to ok_7 (zne_tg h_6 h_22 (by simp)) h_22)
  have h_24 : w_8.1 br = some (0, 0, [zR pg, zR t, zR nd, zI (g : Int), zR va, zR ce, zR li, zR ro, zI fr, zR bi, zR le, zR wk, zI tk, zI rs, zI (rd : Int)]) := by
    rw [hw_9]; exact (tAw_to ok_7 (zne_tg h_6 h_5 (by simp)) h_5)
  have hB2 : bbW w_8 b1 b2 ((br, pg, t), (nd, va, ce, li), (ro, bi, le, wk)) (((cN, (ts NN (lo : Int) 3 (hi : Int))), (cV, VV), (cC, CC), (cL, LL)), ((cR, RR), ((tCap 2 cB BB), (BB ++ [(trow 2 (lo : Int) (hi : Int) (-1))])), (cE, EE), (cW, WW)), ((g : Int), fr, tk, rs, (rd : Int))) := ⟨h_24, ⟨⟨h_11, (tOk_ts okN)⟩, ⟨h_13, okV⟩, ⟨h_15, okC⟩, ⟨h_17, okL⟩⟩, ⟨⟨h_19, okR⟩, ⟨h_10, (tOk_app okB (by first | exact trow_len | rfl))⟩, ⟨h_21, okE⟩, ⟨h_23, okW⟩⟩, ⟨⟨by omega, by omega, by omega, by omega⟩, ⟨by omega, by omega, by omega, by omega⟩⟩, ⟨⟨by omega, by omega, by omega, by omega⟩, ⟨by omega, by omega, by omega, by omega⟩⟩, by omega, by omega⟩
  exact ⟨_, rfl, rfl, hB2, hF2⟩
theorem jn_nn (hB : bbW w b1 b2 ((br, pg, t), (nd, va, ce, li), (ro, bi, le, wk)) (((cN, NN), (cV, VV), (cC, CC), (cL, LL)), ((cR, RR), (cB, BB), (cE, EE), (cW, WW)), ((g : Int), fr, tk, rs, (rd : Int)))) (hG1 : b1 + 1800000 ≤ 30 * G.2.2.2.2.1) (hG2 : b2 + 3700000 ≤ G.2.2.2.2.2) (hT : tmW w t tc tn th tz ty C3 TN TH TS) (hM : ndM NN N bd mk) (hlo : lo < N.length) (hhi : hi < N.length) (hBl : BB.length < 234500) (hWl : WW.length < 6000) (hl : bhd N lo = none) (hh : bhd N hi = none) : zM G zm_X0_join (d + 3) [zR br, zI (lo : Int), zI (hi : Int)] w (zVal fun o w' => o = zI 1 ∧ bbW w' b1 b2 ((br, pg, t), (nd, va, ce, li), (ro, bi, le, wk)) (((cN, (ts NN (hi : Int) 3 (lo : Int))), (cV, VV), (cC, CC), (cL, LL)), ((cR, RR), ((tCap 2 cB BB), (BB ++ [[(hi : Int), (lo : Int)]])), (cE, EE), (cW, WW)), ((g : Int), fr, tk, rs, (rd : Int))) ∧ zFr TB w w') := by
  refine zx_ent (by decide +kernel) rfl (Nat.le_of_ble_eq_true rfl) ?_
  refine zx_L (L1 := [some (zR br), some (zI (lo : Int)), some (zI (hi : Int)), none, none, none, none, none, none, none, none, none]) rfl ?_
  obtain ⟨hbr, ⟨⟨hnd, okN⟩, ⟨hva, okV⟩, ⟨hce, okC⟩, ⟨hli, okL⟩⟩, ⟨⟨hro, okR⟩, ⟨hbi, okB⟩, ⟨hle, okE⟩, ⟨hwk, okW⟩⟩, ⟨⟨c1N, c1V, c1C, c1L⟩, ⟨c1R, c1B, c1E, c1W⟩⟩, ⟨⟨c2N, c2V, c2C, c2L⟩, ⟨c2R, c2B, c2E, c2W⟩⟩, hrm1, hrm2⟩ := id hB
  have el : tg NN (lo : Int) 0 = -1 := by rw [(ndM_get hM hlo).1, hl]; rfl
  have eh : tg NN (hi : Int) 0 = -1 := by rw [(ndM_get hM hhi).1, hh]; rfl
  refine zx_aload_n (i := 0) dX0_join_0 rfl rfl ?_
  refine zx_getfield dX0_join_1 zf_X0_24 hbr rfl ?_
  refine zx_iload_n (i := 1) dX0_join_4 rfl rfl ?_
  refine zx_iconst (v := 0) dX0_join_5 rfl (z32_lit (by decide) (by decide)) ?_
  refine zx_iv (b := nd) (As := [zI (lo : Int), zI 0]) (st := []) (v := (some (zI (-1)))) (w1 := w) dX0_join_6 zc_X0_84 hnd (z_cls9 (by decide)) rfl rfl (Nat.le_of_ble_eq_true rfl) rfl (by have q := (c_X9_get (G := G) (d := d + 2) hnd (by decide) okN (lo : Int) 0); rw [el] at q; exact q) ?_
  refine zx_st (st1 := [zI (-1)]) rfl ?_
  refine zx_istore_n (i := 3) dX0_join_9 rfl (by decide) rfl ?_
  refine zx_L (L1 := [some (zR br), some (zI (lo : Int)), some (zI (hi : Int)), some (zI (-1)), none, none, none, none, none, none, none, none]) rfl ?_
  refine zx_aload_n (i := 0) dX0_join_10 rfl rfl ?_
  refine zx_getfield dX0_join_11 zf_X0_24 hbr rfl ?_
  refine zx_iload_n (i := 2) dX0_join_14 rfl rfl ?_
  refine zx_iconst (v := 0) dX0_join_15 rfl (z32_lit (by decide) (by decide)) ?_
  refine zx_iv (b := nd) (As := [zI (hi : Int), zI 0]) (st := []) (v := (some (zI (-1)))) (w1 := w) dX0_join_16 zc_X0_84 hnd (z_cls9 (by decide)) rfl rfl (Nat.le_of_ble_eq_true rfl) rfl (by have q := (c_X9_get (G := G) (d := d + 2) hnd (by decide) okN (hi : Int) 0); rw [eh] at q; exact q) ?_
  refine zx_st (st1 := [zI (-1)]) rfl ?_
  refine zx_pc (pc1 := 19) rfl ?_
  refine zx_istore (i := 4) dX0_join_19 (by decide) rfl ?_
  refine zx_L (L1 := [some (zR br), some (zI (lo : Int)), some (zI (hi : Int)), some (zI (-1)), some (zI (-1)), none, none, none, none, none, none, none]) rfl ?_
  refine zx_iload_n (i := 3) dX0_join_21 rfl rfl ?_
  refine zx_iconst (v := -1) dX0_join_22 rfl (z32_lit (by decide) (by decide)) ?_
  refine zx_icmp_eq (tgt := 36) dX0_join_23 (by decide) (fun h23 => ?_) (fun h23 => absurd (by decide) h23)
  refine zx_iconst (v := 0) dX0_join_36 rfl (z32_lit (by decide) (by decide)) ?_
  refine zx_istore (i := 5) dX0_join_37 (by decide) rfl ?_
  refine zx_L (L1 := [some (zR br), some (zI (lo : Int)), some (zI (hi : Int)), some (zI (-1)), some (zI (-1)), some (zI 0), none, none, none, none, none, none]) rfl ?_
  refine zx_iload (i := 5) dX0_join_39 rfl ?_
  refine zx_if_eq (tgt := 60) dX0_join_41 (by decide) (fun h41 => ?_) (fun h41 => absurd (by decide) h41)
  refine zx_iload_n (i := 3) dX0_join_60 rfl rfl ?_
  refine zx_iconst (v := -1) dX0_join_61 rfl (z32_lit (by decide) (by decide)) ?_
  refine zx_icmp_ne (tgt := 75) dX0_join_62 (by decide) (fun h62 => absurd h62 (by decide)) (fun h62 => ?_)
  refine zx_iload (i := 4) dX0_join_65 rfl ?_
  refine zx_pc (pc1 := 67) rfl ?_
  refine zx_iconst (v := -1) dX0_join_67 rfl (z32_lit (by decide) (by decide)) ?_
  refine zx_icmp_eq (tgt := 75) dX0_join_68 (by decide) (fun h68 => ?_) (fun h68 => absurd (by decide) h68)
  refine zx_iconst (v := 0) dX0_join_75 rfl (z32_lit (by decide) (by decide)) ?_
  refine zx_istore (i := 6) dX0_join_76 (by decide) rfl ?_
  refine zx_L (L1 := [some (zR br), some (zI (lo : Int)), some (zI (hi : Int)), some (zI (-1)), some (zI (-1)), some (zI 0), some (zI 0), none, none, none, none, none]) rfl ?_
  refine zx_iload (i := 6) dX0_join_78 rfl ?_
  refine zx_if_eq (tgt := 87) dX0_join_80 (by decide) (fun h80 => ?_) (fun h80 => absurd (by decide) h80)
  refine zx_iload_n (i := 2) dX0_join_87 rfl rfl ?_
  refine zx_istore (i := 7) dX0_join_88 (by decide) rfl ?_
  refine zx_L (L1 := [some (zR br), some (zI (lo : Int)), some (zI (hi : Int)), some (zI (-1)), some (zI (-1)), some (zI 0), some (zI 0), some (zI (hi : Int)), none, none, none, none]) rfl ?_
  refine zx_iload (i := 6) dX0_join_90 rfl ?_
  refine zx_if_eq (tgt := 99) dX0_join_92 (by decide) (fun h92 => ?_) (fun h92 => absurd (by decide) h92)
  refine zx_iload_n (i := 1) dX0_join_99 rfl rfl ?_
  refine zx_istore (i := 8) dX0_join_100 (by decide) rfl ?_
  refine zx_L (L1 := [some (zR br), some (zI (lo : Int)), some (zI (hi : Int)), some (zI (-1)), some (zI (-1)), some (zI 0), some (zI 0), some (zI (hi : Int)), some (zI (lo : Int)), none, none, none]) rfl ?_
  refine zx_pc (pc1 := 102) rfl ?_
  refine zx_aload_n (i := 0) dX0_join_102 rfl rfl ?_
  refine zx_getfield dX0_join_103 zf_X0_24 hbr rfl ?_
  refine zx_iload (i := 7) dX0_join_106 rfl ?_
  refine zx_iconst (v := 3) dX0_join_108 rfl (z32_lit (by decide) (by decide)) ?_
  refine zx_iload (i := 8) dX0_join_109 rfl ?_
  obtain ⟨w_1, hw_2⟩ : ∃ ww, ww = zput w nd (140, br, tTb 5 cN (ts NN (hi : Int) 3 (lo : Int))) := ⟨_, rfl⟩
  have q_3 : w_1.2.1 = w.2.1 ∧ w_1.2.2 = w.2.2 := by rw [hw_2]; exact ⟨rfl, rfl⟩
  have h_4 : w_1.1 nd = some (140, br, tTb 5 cN (ts NN (hi : Int) 3 (lo : Int))) := by rw [hw_2]; exact zput_at
  refine zx_iv (b := nd) (As := [zI (hi : Int), zI 3, zI (lo : Int)]) (st := []) (v := none) (w1 := w_1) dX0_join_111 zc_X0_142 hnd (z_cls9 (by decide)) rfl rfl (Nat.le_of_ble_eq_true rfl) rfl (by rw [hw_2]; exact (c_X9_set hnd (by decide) okN (hi : Int) 3 (lo : Int))) ?_
  refine zx_st (st1 := []) rfl ?_
  refine zx_aload_n (i := 0) dX0_join_114 rfl rfl ?_
  have h_5 : w_1.1 br = some (0, 0, [zR pg, zR t, zR nd, zI (g : Int), zR va, zR ce, zR li, zR ro, zI fr, zR bi, zR le, zR wk, zI tk, zI rs, zI (rd : Int)]) := by
    rw [hw_2]; exact zput_tg hnd hbr (by simp)
  refine zx_getfield dX0_join_115 zf_X0_40 h_5 rfl ?_
  refine zx_iload (i := 7) dX0_join_118 rfl ?_
  refine zx_iload (i := 8) dX0_join_120 rfl ?_
  refine zx_iconst (v := -1) dX0_join_122 rfl (z32_lit (by decide) (by decide)) ?_
  have h_6 : w_1.1 bi = some (145, br, tTb 2 cB BB) := by
    rw [hw_2]; exact zput_tg hnd hbi (by simp)
  refine zx_ok (fun ok_7 => ?_)
  obtain ⟨w_8, hw_9⟩ : ∃ ww, ww = tAw w_1 bi 145 br 2 cB BB (trow 2 (hi : Int) (lo : Int) (-1)) := ⟨_, rfl⟩
  have h_10 : w_8.1 bi = some (145, br, tTb 2 (tCap 2 cB BB) (BB ++ [(trow 2 (hi : Int) (lo : Int) (-1))])) := by rw [hw_9]; exact tAw_at
  have qhw_9 := tAw_sz3 (w := w_1) (a := bi) (t := 145) (ow := br) (c := 2) (cap := cB) (rows := BB) (r := (trow 2 (hi : Int) (lo : Int) (-1))) (by omega)
  rw [← hw_9] at qhw_9
  refine zx_iv (b := bi) (As := [zI (hi : Int), zI (lo : Int), zI (-1)]) (st := []) (v := (some (zI (BB.length : Int)))) (w1 := w_8) dX0_join_123 zc_X0_113 h_6 (z_cls9 (by decide)) rfl rfl (Nat.le_of_ble_eq_true rfl) rfl (by rw [hw_9]; exact (c_X9_add h_6 (by decide) okB (by omega) (by by_cases cg : BB.length * 2 + 2 ≤ cB; exact Or.inl cg; exact Or.inr ⟨by omega, by omega⟩) (hi : Int) (lo : Int) (-1))) ?_
  refine zx_st (st1 := [zI (BB.length : Int)]) rfl ?_
  refine zx_pc (pc1 := 126) rfl ?_
  refine zx_pop dX0_join_126 (fun a h => by cases h) ?_
  refine zx_iload (i := 5) dX0_join_127 rfl ?_
  refine zx_if_eq (tgt := 143) dX0_join_129 (by decide) (fun h129 => ?_) (fun h129 => absurd (by decide) h129)
  refine zx_iconst (v := 0) dX0_join_143 rfl (z32_lit (by decide) (by decide)) ?_
  refine zx_istore (i := 9) dX0_join_144 (by decide) rfl ?_
  refine zx_L (L1 := [some (zR br), some (zI (lo : Int)), some (zI (hi : Int)), some (zI (-1)), some (zI (-1)), some (zI 0), some (zI 0), some (zI (hi : Int)), some (zI (lo : Int)), some (zI 0), none, none]) rfl ?_
  refine zx_iconst (v := 0) dX0_join_146 rfl (z32_lit (by decide) (by decide)) ?_
  refine zx_istore (i := 10) dX0_join_147 (by decide) rfl ?_
  refine zx_L (L1 := [some (zR br), some (zI (lo : Int)), some (zI (hi : Int)), some (zI (-1)), some (zI (-1)), some (zI 0), some (zI 0), some (zI (hi : Int)), some (zI (lo : Int)), some (zI 0), some (zI 0), none]) rfl ?_
  refine zx_iload (i := 10) dX0_join_149 rfl ?_
  refine zx_iload (i := 9) dX0_join_151 rfl ?_
  refine zx_icmp_ge (tgt := 203) dX0_join_153 (by decide) (fun h153 => ?_) (fun h153 => absurd (by decide) h153)
  refine zx_iconst (v := 1) dX0_join_203 rfl (z32_lit (by decide) (by decide)) ?_
  refine zx_zret dX0_join_204 rfl (by first | exact Or.inl rfl | exact Or.inr rfl | exact zB_or | assumption) ?_
  have hfaL2 : zFa [nd, bi] w w_8 := (zFa_taw (zFa_put zFa_re (by simp) hw_2) (by simp) ok_7 hw_9)
  have hF2 : zFr TB w w_8 := zFr_fa hfaL2 (zLc hnd (by simp) (zLc hbi (by simp) zLn))
  have h_11 : w_8.1 nd = some (140, br, tTb 5 cN (ts NN (hi : Int) 3 (lo : Int))) := by
    rw [hw_9]; exact (tAw_to ok_7 (zne_tg h_6 h_4 (by simp)) h_4)
  have h_12 : w_1.1 va = some (141, br, tTb 1 cV VV) := by
    rw [hw_2]; exact zput_tg hnd hva (by simp)
  have h_13 : w_8.1 va = some (141, br, tTb 1 cV VV) := by
    rw [hw_9]; exact (tAw_to ok_7 (zne_tg h_6 h_12 (by simp)) h_12)
  have h_14 : w_1.1 ce = some (142, br, tTb 3 cC CC) := by
    rw [hw_2]; exact zput_tg hnd hce (by simp)
  have h_15 : w_8.1 ce = some (142, br, tTb 3 cC CC) := by
    rw [hw_9]; exact (tAw_to ok_7 (zne_tg h_6 h_14 (by simp)) h_14)
  have h_16 : w_1.1 li = some (143, br, tTb 4 cL LL) := by
    rw [hw_2]; exact zput_tg hnd hli (by simp)
  have h_17 : w_8.1 li = some (143, br, tTb 4 cL LL) := by
    rw [hw_9]; exact (tAw_to ok_7 (zne_tg h_6 h_16 (by simp)) h_16)
  have h_18 : w_1.1 ro = some (144, br, tTb 6 cR RR) := by
    rw [hw_2]; exact zput_tg hnd hro (by simp)
  have h_19 : w_8.1 ro = some (144, br, tTb 6 cR RR) := by
    rw [hw_9]; exact (tAw_to ok_7 (zne_tg h_6 h_18 (by simp)) h_18)
  have h_20 : w_1.1 le = some (146, br, tTb 4 cE EE) := by
    rw [hw_2]; exact zput_tg hnd hle (by simp)
  have h_21 : w_8.1 le = some (146, br, tTb 4 cE EE) := by
    rw [hw_9]; exact (tAw_to ok_7 (zne_tg h_6 h_20 (by simp)) h_20)
  have h_22 : w_1.1 wk = some (147, br, tTb 3 cW WW) := by
    rw [hw_2]; exact zput_tg hnd hwk (by simp)
  have h_23 : w_8.1 wk = some (147, br, tTb 3 cW WW) := by
    rw [hw_9]; exact (tAw_to ok_7 (zne_tg h_6 h_22 (by simp)) h_22)
  have h_24 : w_8.1 br = some (0, 0, [zR pg, zR t, zR nd, zI (g : Int), zR va, zR ce, zR li, zR ro, zI fr, zR bi, zR le, zR wk, zI tk, zI rs, zI (rd : Int)]) := by
    rw [hw_9]; exact (tAw_to ok_7 (zne_tg h_6 h_5 (by simp)) h_5)
  have hB2 : bbW w_8 b1 b2 ((br, pg, t), (nd, va, ce, li), (ro, bi, le, wk)) (((cN, (ts NN (hi : Int) 3 (lo : Int))), (cV, VV), (cC, CC), (cL, LL)), ((cR, RR), ((tCap 2 cB BB), (BB ++ [(trow 2 (hi : Int) (lo : Int) (-1))])), (cE, EE), (cW, WW)), ((g : Int), fr, tk, rs, (rd : Int))) := ⟨h_24, ⟨⟨h_11, (tOk_ts okN)⟩, ⟨h_13, okV⟩, ⟨h_15, okC⟩, ⟨h_17, okL⟩⟩, ⟨⟨h_19, okR⟩, ⟨h_10, (tOk_app okB (by first | exact trow_len | rfl))⟩, ⟨h_21, okE⟩, ⟨h_23, okW⟩⟩, ⟨⟨by omega, by omega, by omega, by omega⟩, ⟨by omega, by omega, by omega, by omega⟩⟩, ⟨⟨by omega, by omega, by omega, by omega⟩, ⟨by omega, by omega, by omega, by omega⟩⟩, by omega, by omega⟩
  exact ⟨_, rfl, rfl, hB2, hF2⟩
theorem jn_dn (hB : bbW w b1 b2 ((br, pg, t), (nd, va, ce, li), (ro, bi, le, wk)) (((cN, NN), (cV, VV), (cC, CC), (cL, LL)), ((cR, RR), (cB, BB), (cE, EE), (cW, WW)), ((g : Int), fr, tk, rs, (rd : Int)))) (hG1 : b1 + 1800000 ≤ 30 * G.2.2.2.2.1) (hG2 : b2 + 3700000 ≤ G.2.2.2.2.2) (hT : tmW w t tc tn th tz ty C3 TN TH TS) (hM : ndM NN N bd mk) (hlo : lo < N.length) (hhi : hi < N.length) (hBl : BB.length < 234500) (hWl : WW.length < 6000) {c : Nat} (hl : bhd N lo = some c) (hh : bhd N hi = none) : zM G zm_X0_join (d + 3) [zR br, zI (lo : Int), zI (hi : Int)] w (zVal fun o w' => o = zI 1 ∧ bbW w' b1 b2 ((br, pg, t), (nd, va, ce, li), (ro, bi, le, wk)) (((cN, (ts NN (hi : Int) 3 (lo : Int))), (cV, VV), (cC, CC), (cL, LL)), ((cR, RR), ((tCap 2 cB BB), (BB ++ [[(hi : Int), (lo : Int)]])), (cE, EE), (cW, WW)), ((g : Int), fr, tk, rs, (rd : Int))) ∧ zFr TB w w') := by
  refine zx_ent (by decide +kernel) rfl (Nat.le_of_ble_eq_true rfl) ?_
  refine zx_L (L1 := [some (zR br), some (zI (lo : Int)), some (zI (hi : Int)), none, none, none, none, none, none, none, none, none]) rfl ?_
  obtain ⟨hbr, ⟨⟨hnd, okN⟩, ⟨hva, okV⟩, ⟨hce, okC⟩, ⟨hli, okL⟩⟩, ⟨⟨hro, okR⟩, ⟨hbi, okB⟩, ⟨hle, okE⟩, ⟨hwk, okW⟩⟩, ⟨⟨c1N, c1V, c1C, c1L⟩, ⟨c1R, c1B, c1E, c1W⟩⟩, ⟨⟨c2N, c2V, c2C, c2L⟩, ⟨c2R, c2B, c2E, c2W⟩⟩, hrm1, hrm2⟩ := id hB
  have el : tg NN (lo : Int) 0 = (c : Int) := by rw [(ndM_get hM hlo).1, hl]; rfl
  have eh : tg NN (hi : Int) 0 = -1 := by rw [(ndM_get hM hhi).1, hh]; rfl
  refine zx_aload_n (i := 0) dX0_join_0 rfl rfl ?_
  refine zx_getfield dX0_join_1 zf_X0_24 hbr rfl ?_
  refine zx_iload_n (i := 1) dX0_join_4 rfl rfl ?_
  refine zx_iconst (v := 0) dX0_join_5 rfl (z32_lit (by decide) (by decide)) ?_
  refine zx_iv (b := nd) (As := [zI (lo : Int), zI 0]) (st := []) (v := (some (zI (c : Int)))) (w1 := w) dX0_join_6 zc_X0_84 hnd (z_cls9 (by decide)) rfl rfl (Nat.le_of_ble_eq_true rfl) rfl (by have q := (c_X9_get (G := G) (d := d + 2) hnd (by decide) okN (lo : Int) 0); rw [el] at q; exact q) ?_
  refine zx_st (st1 := [zI (c : Int)]) rfl ?_
  refine zx_istore_n (i := 3) dX0_join_9 rfl (by decide) rfl ?_
  refine zx_L (L1 := [some (zR br), some (zI (lo : Int)), some (zI (hi : Int)), some (zI (c : Int)), none, none, none, none, none, none, none, none]) rfl ?_
  refine zx_aload_n (i := 0) dX0_join_10 rfl rfl ?_
  refine zx_getfield dX0_join_11 zf_X0_24 hbr rfl ?_
  refine zx_iload_n (i := 2) dX0_join_14 rfl rfl ?_
  refine zx_iconst (v := 0) dX0_join_15 rfl (z32_lit (by decide) (by decide)) ?_
  refine zx_iv (b := nd) (As := [zI (hi : Int), zI 0]) (st := []) (v := (some (zI (-1)))) (w1 := w) dX0_join_16 zc_X0_84 hnd (z_cls9 (by decide)) rfl rfl (Nat.le_of_ble_eq_true rfl) rfl (by have q := (c_X9_get (G := G) (d := d + 2) hnd (by decide) okN (hi : Int) 0); rw [eh] at q; exact q) ?_
  refine zx_st (st1 := [zI (-1)]) rfl ?_
  refine zx_pc (pc1 := 19) rfl ?_
  refine zx_istore (i := 4) dX0_join_19 (by decide) rfl ?_
  refine zx_L (L1 := [some (zR br), some (zI (lo : Int)), some (zI (hi : Int)), some (zI (c : Int)), some (zI (-1)), none, none, none, none, none, none, none]) rfl ?_
  refine zx_iload_n (i := 3) dX0_join_21 rfl rfl ?_
  refine zx_iconst (v := -1) dX0_join_22 rfl (z32_lit (by decide) (by decide)) ?_
  refine zx_icmp_eq (tgt := 36) dX0_join_23 (by decide) (fun h23 => absurd h23 (by omega)) (fun h23 => ?_)
  refine zx_iload (i := 4) dX0_join_26 rfl ?_
  refine zx_iconst (v := -1) dX0_join_28 rfl (z32_lit (by decide) (by decide)) ?_
  refine zx_icmp_eq (tgt := 36) dX0_join_29 (by decide) (fun h29 => ?_) (fun h29 => absurd (by decide) h29)
  refine zx_iconst (v := 0) dX0_join_36 rfl (z32_lit (by decide) (by decide)) ?_
  refine zx_istore (i := 5) dX0_join_37 (by decide) rfl ?_
  refine zx_L (L1 := [some (zR br), some (zI (lo : Int)), some (zI (hi : Int)), some (zI (c : Int)), some (zI (-1)), some (zI 0), none, none, none, none, none, none]) rfl ?_
  refine zx_iload (i := 5) dX0_join_39 rfl ?_
  refine zx_if_eq (tgt := 60) dX0_join_41 (by decide) (fun h41 => ?_) (fun h41 => absurd (by decide) h41)
  refine zx_iload_n (i := 3) dX0_join_60 rfl rfl ?_
  refine zx_pc (pc1 := 61) rfl ?_
  refine zx_iconst (v := -1) dX0_join_61 rfl (z32_lit (by decide) (by decide)) ?_
  refine zx_icmp_ne (tgt := 75) dX0_join_62 (by decide) (fun h62 => ?_) (fun h62 => absurd (by omega) h62)
  refine zx_iconst (v := 0) dX0_join_75 rfl (z32_lit (by decide) (by decide)) ?_
  refine zx_istore (i := 6) dX0_join_76 (by decide) rfl ?_
  refine zx_L (L1 := [some (zR br), some (zI (lo : Int)), some (zI (hi : Int)), some (zI (c : Int)), some (zI (-1)), some (zI 0), some (zI 0), none, none, none, none, none]) rfl ?_
  refine zx_iload (i := 6) dX0_join_78 rfl ?_
  refine zx_if_eq (tgt := 87) dX0_join_80 (by decide) (fun h80 => ?_) (fun h80 => absurd (by decide) h80)
  refine zx_iload_n (i := 2) dX0_join_87 rfl rfl ?_
  refine zx_istore (i := 7) dX0_join_88 (by decide) rfl ?_
  refine zx_L (L1 := [some (zR br), some (zI (lo : Int)), some (zI (hi : Int)), some (zI (c : Int)), some (zI (-1)), some (zI 0), some (zI 0), some (zI (hi : Int)), none, none, none, none]) rfl ?_
  refine zx_iload (i := 6) dX0_join_90 rfl ?_
  refine zx_if_eq (tgt := 99) dX0_join_92 (by decide) (fun h92 => ?_) (fun h92 => absurd (by decide) h92)
  refine zx_iload_n (i := 1) dX0_join_99 rfl rfl ?_
  refine zx_istore (i := 8) dX0_join_100 (by decide) rfl ?_
  refine zx_L (L1 := [some (zR br), some (zI (lo : Int)), some (zI (hi : Int)), some (zI (c : Int)), some (zI (-1)), some (zI 0), some (zI 0), some (zI (hi : Int)), some (zI (lo : Int)), none, none, none]) rfl ?_
  refine zx_pc (pc1 := 102) rfl ?_
  refine zx_aload_n (i := 0) dX0_join_102 rfl rfl ?_
  refine zx_getfield dX0_join_103 zf_X0_24 hbr rfl ?_
  refine zx_iload (i := 7) dX0_join_106 rfl ?_
  refine zx_iconst (v := 3) dX0_join_108 rfl (z32_lit (by decide) (by decide)) ?_
  refine zx_iload (i := 8) dX0_join_109 rfl ?_
  obtain ⟨w_1, hw_2⟩ : ∃ ww, ww = zput w nd (140, br, tTb 5 cN (ts NN (hi : Int) 3 (lo : Int))) := ⟨_, rfl⟩
  have q_3 : w_1.2.1 = w.2.1 ∧ w_1.2.2 = w.2.2 := by rw [hw_2]; exact ⟨rfl, rfl⟩
  have h_4 : w_1.1 nd = some (140, br, tTb 5 cN (ts NN (hi : Int) 3 (lo : Int))) := by rw [hw_2]; exact zput_at
  refine zx_iv (b := nd) (As := [zI (hi : Int), zI 3, zI (lo : Int)]) (st := []) (v := none) (w1 := w_1) dX0_join_111 zc_X0_142 hnd (z_cls9 (by decide)) rfl rfl (Nat.le_of_ble_eq_true rfl) rfl (by rw [hw_2]; exact (c_X9_set hnd (by decide) okN (hi : Int) 3 (lo : Int))) ?_
  refine zx_st (st1 := []) rfl ?_
  refine zx_aload_n (i := 0) dX0_join_114 rfl rfl ?_
  have h_5 : w_1.1 br = some (0, 0, [zR pg, zR t, zR nd, zI (g : Int), zR va, zR ce, zR li, zR ro, zI fr, zR bi, zR le, zR wk, zI tk, zI rs, zI (rd : Int)]) := by
    rw [hw_2]; exact zput_tg hnd hbr (by simp)
  refine zx_getfield dX0_join_115 zf_X0_40 h_5 rfl ?_
  refine zx_iload (i := 7) dX0_join_118 rfl ?_
  refine zx_iload (i := 8) dX0_join_120 rfl ?_
  refine zx_iconst (v := -1) dX0_join_122 rfl (z32_lit (by decide) (by decide)) ?_
  have h_6 : w_1.1 bi = some (145, br, tTb 2 cB BB) := by
    rw [hw_2]; exact zput_tg hnd hbi (by simp)
  refine zx_ok (fun ok_7 => ?_)
  obtain ⟨w_8, hw_9⟩ : ∃ ww, ww = tAw w_1 bi 145 br 2 cB BB (trow 2 (hi : Int) (lo : Int) (-1)) := ⟨_, rfl⟩
  have h_10 : w_8.1 bi = some (145, br, tTb 2 (tCap 2 cB BB) (BB ++ [(trow 2 (hi : Int) (lo : Int) (-1))])) := by rw [hw_9]; exact tAw_at
  have qhw_9 := tAw_sz3 (w := w_1) (a := bi) (t := 145) (ow := br) (c := 2) (cap := cB) (rows := BB) (r := (trow 2 (hi : Int) (lo : Int) (-1))) (by omega)
  rw [← hw_9] at qhw_9
  refine zx_iv (b := bi) (As := [zI (hi : Int), zI (lo : Int), zI (-1)]) (st := []) (v := (some (zI (BB.length : Int)))) (w1 := w_8) dX0_join_123 zc_X0_113 h_6 (z_cls9 (by decide)) rfl rfl (Nat.le_of_ble_eq_true rfl) rfl (by rw [hw_9]; exact (c_X9_add h_6 (by decide) okB (by omega) (by by_cases cg : BB.length * 2 + 2 ≤ cB; exact Or.inl cg; exact Or.inr ⟨by omega, by omega⟩) (hi : Int) (lo : Int) (-1))) ?_
  refine zx_st (st1 := [zI (BB.length : Int)]) rfl ?_
  refine zx_pc (pc1 := 126) rfl ?_
  refine zx_pop dX0_join_126 (fun a h => by cases h) ?_
  refine zx_iload (i := 5) dX0_join_127 rfl ?_
  refine zx_if_eq (tgt := 143) dX0_join_129 (by decide) (fun h129 => ?_) (fun h129 => absurd (by decide) h129)
  refine zx_iconst (v := 0) dX0_join_143 rfl (z32_lit (by decide) (by decide)) ?_
  refine zx_istore (i := 9) dX0_join_144 (by decide) rfl ?_
  refine zx_L (L1 := [some (zR br), some (zI (lo : Int)), some (zI (hi : Int)), some (zI (c : Int)), some (zI (-1)), some (zI 0), some (zI 0), some (zI (hi : Int)), some (zI (lo : Int)), some (zI 0), none, none]) rfl ?_
  refine zx_iconst (v := 0) dX0_join_146 rfl (z32_lit (by decide) (by decide)) ?_
  refine zx_istore (i := 10) dX0_join_147 (by decide) rfl ?_
  refine zx_L (L1 := [some (zR br), some (zI (lo : Int)), some (zI (hi : Int)), some (zI (c : Int)), some (zI (-1)), some (zI 0), some (zI 0), some (zI (hi : Int)), some (zI (lo : Int)), some (zI 0), some (zI 0), none]) rfl ?_
  refine zx_iload (i := 10) dX0_join_149 rfl ?_
  refine zx_iload (i := 9) dX0_join_151 rfl ?_
  refine zx_icmp_ge (tgt := 203) dX0_join_153 (by decide) (fun h153 => ?_) (fun h153 => absurd (by decide) h153)
  refine zx_iconst (v := 1) dX0_join_203 rfl (z32_lit (by decide) (by decide)) ?_
  refine zx_zret dX0_join_204 rfl (by first | exact Or.inl rfl | exact Or.inr rfl | exact zB_or | assumption) ?_
  have hfaL2 : zFa [nd, bi] w w_8 := (zFa_taw (zFa_put zFa_re (by simp) hw_2) (by simp) ok_7 hw_9)
  have hF2 : zFr TB w w_8 := zFr_fa hfaL2 (zLc hnd (by simp) (zLc hbi (by simp) zLn))
  have h_11 : w_8.1 nd = some (140, br, tTb 5 cN (ts NN (hi : Int) 3 (lo : Int))) := by
    rw [hw_9]; exact (tAw_to ok_7 (zne_tg h_6 h_4 (by simp)) h_4)
  have h_12 : w_1.1 va = some (141, br, tTb 1 cV VV) := by
    rw [hw_2]; exact zput_tg hnd hva (by simp)
  have h_13 : w_8.1 va = some (141, br, tTb 1 cV VV) := by
    rw [hw_9]; exact (tAw_to ok_7 (zne_tg h_6 h_12 (by simp)) h_12)
  have h_14 : w_1.1 ce = some (142, br, tTb 3 cC CC) := by
    rw [hw_2]; exact zput_tg hnd hce (by simp)
  have h_15 : w_8.1 ce = some (142, br, tTb 3 cC CC) := by
    rw [hw_9]; exact (tAw_to ok_7 (zne_tg h_6 h_14 (by simp)) h_14)
  have h_16 : w_1.1 li = some (143, br, tTb 4 cL LL) := by
    rw [hw_2]; exact zput_tg hnd hli (by simp)
  have h_17 : w_8.1 li = some (143, br, tTb 4 cL LL) := by
    rw [hw_9]; exact (tAw_to ok_7 (zne_tg h_6 h_16 (by simp)) h_16)
  have h_18 : w_1.1 ro = some (144, br, tTb 6 cR RR) := by
    rw [hw_2]; exact zput_tg hnd hro (by simp)
  have h_19 : w_8.1 ro = some (144, br, tTb 6 cR RR) := by
    rw [hw_9]; exact (tAw_to ok_7 (zne_tg h_6 h_18 (by simp)) h_18)
  have h_20 : w_1.1 le = some (146, br, tTb 4 cE EE) := by
    rw [hw_2]; exact zput_tg hnd hle (by simp)
  have h_21 : w_8.1 le = some (146, br, tTb 4 cE EE) := by
    rw [hw_9]; exact (tAw_to ok_7 (zne_tg h_6 h_20 (by simp)) h_20)
  have h_22 : w_1.1 wk = some (147, br, tTb 3 cW WW) := by
    rw [hw_2]; exact zput_tg hnd hwk (by simp)
  have h_23 : w_8.1 wk = some (147, br, tTb 3 cW WW) := by
    rw [hw_9]; exact (tAw_to ok_7 (zne_tg h_6 h_22 (by simp)) h_22)
  have h_24 : w_8.1 br = some (0, 0, [zR pg, zR t, zR nd, zI (g : Int), zR va, zR ce, zR li, zR ro, zI fr, zR bi, zR le, zR wk, zI tk, zI rs, zI (rd : Int)]) := by
    rw [hw_9]; exact (tAw_to ok_7 (zne_tg h_6 h_5 (by simp)) h_5)
  have hB2 : bbW w_8 b1 b2 ((br, pg, t), (nd, va, ce, li), (ro, bi, le, wk)) (((cN, (ts NN (hi : Int) 3 (lo : Int))), (cV, VV), (cC, CC), (cL, LL)), ((cR, RR), ((tCap 2 cB BB), (BB ++ [(trow 2 (hi : Int) (lo : Int) (-1))])), (cE, EE), (cW, WW)), ((g : Int), fr, tk, rs, (rd : Int))) := ⟨h_24, ⟨⟨h_11, (tOk_ts okN)⟩, ⟨h_13, okV⟩, ⟨h_15, okC⟩, ⟨h_17, okL⟩⟩, ⟨⟨h_19, okR⟩, ⟨h_10, (tOk_app okB (by first | exact trow_len | rfl))⟩, ⟨h_21, okE⟩, ⟨h_23, okW⟩⟩, ⟨⟨by omega, by omega, by omega, by omega⟩, ⟨by omega, by omega, by omega, by omega⟩⟩, ⟨⟨by omega, by omega, by omega, by omega⟩, ⟨by omega, by omega, by omega, by omega⟩⟩, by omega, by omega⟩
  exact ⟨_, rfl, rfl, hB2, hF2⟩
theorem jn_eq (hB : bbW w b1 b2 ((br, pg, t), (nd, va, ce, li), (ro, bi, le, wk)) (((cN, NN), (cV, VV), (cC, CC), (cL, LL)), ((cR, RR), (cB, BB), (cE, EE), (cW, WW)), ((g : Int), fr, tk, rs, (rd : Int)))) (hG1 : b1 + 1800000 ≤ 30 * G.2.2.2.2.1) (hG2 : b2 + 3700000 ≤ G.2.2.2.2.2) (hT : tmW w t tc tn th tz ty C3 TN TH TS) (hM : ndM NN N bd mk) (hlo : lo < N.length) (hhi : hi < N.length) (hBl : BB.length < 234500) (hWl : WW.length < 6000) {c : Nat} (hl : bhd N lo = some c) (hh : bhd N hi = some c) (hc : c < 3 ∧ c ≠ 1) (hg : g ≤ hi) : zM G zm_X0_join (d + 3) [zR br, zI (lo : Int), zI (hi : Int)] w (zVal fun o w' => o = zI 1 ∧ bbW w' b1 b2 ((br, pg, t), (nd, va, ce, li), (ro, bi, le, wk)) (((cN, (ts NN (hi : Int) 3 (lo : Int))), (cV, VV), (cC, CC), (cL, LL)), ((cR, RR), ((tCap 2 cB BB), (BB ++ [[(hi : Int), (lo : Int)]])), (cE, EE), (cW, WW)), ((g : Int), fr, tk, rs, (rd : Int))) ∧ zFr TB w w') := by
  refine zx_ent (by decide +kernel) rfl (Nat.le_of_ble_eq_true rfl) ?_
  refine zx_L (L1 := [some (zR br), some (zI (lo : Int)), some (zI (hi : Int)), none, none, none, none, none, none, none, none, none]) rfl ?_
  obtain ⟨hbr, ⟨⟨hnd, okN⟩, ⟨hva, okV⟩, ⟨hce, okC⟩, ⟨hli, okL⟩⟩, ⟨⟨hro, okR⟩, ⟨hbi, okB⟩, ⟨hle, okE⟩, ⟨hwk, okW⟩⟩, ⟨⟨c1N, c1V, c1C, c1L⟩, ⟨c1R, c1B, c1E, c1W⟩⟩, ⟨⟨c2N, c2V, c2C, c2L⟩, ⟨c2R, c2B, c2E, c2W⟩⟩, hrm1, hrm2⟩ := id hB
  have el : tg NN (lo : Int) 0 = (c : Int) := by rw [(ndM_get hM hlo).1, hl]; rfl
  have eh : tg NN (hi : Int) 0 = (c : Int) := by rw [(ndM_get hM hhi).1, hh]; rfl
  have hpc : tmPc C3 (c : Int) = 0 := by rw [tmPc3 hc.1, if_neg hc.2]
  refine zx_aload_n (i := 0) dX0_join_0 rfl rfl ?_
  refine zx_getfield dX0_join_1 zf_X0_24 hbr rfl ?_
  refine zx_iload_n (i := 1) dX0_join_4 rfl rfl ?_
  refine zx_iconst (v := 0) dX0_join_5 rfl (z32_lit (by decide) (by decide)) ?_
  refine zx_iv (b := nd) (As := [zI (lo : Int), zI 0]) (st := []) (v := (some (zI (c : Int)))) (w1 := w) dX0_join_6 zc_X0_84 hnd (z_cls9 (by decide)) rfl rfl (Nat.le_of_ble_eq_true rfl) rfl (by have q := (c_X9_get (G := G) (d := d + 2) hnd (by decide) okN (lo : Int) 0); rw [el] at q; exact q) ?_
  refine zx_st (st1 := [zI (c : Int)]) rfl ?_
  refine zx_istore_n (i := 3) dX0_join_9 rfl (by decide) rfl ?_
  refine zx_L (L1 := [some (zR br), some (zI (lo : Int)), some (zI (hi : Int)), some (zI (c : Int)), none, none, none, none, none, none, none, none]) rfl ?_
  refine zx_aload_n (i := 0) dX0_join_10 rfl rfl ?_
  refine zx_getfield dX0_join_11 zf_X0_24 hbr rfl ?_
  refine zx_iload_n (i := 2) dX0_join_14 rfl rfl ?_
  refine zx_iconst (v := 0) dX0_join_15 rfl (z32_lit (by decide) (by decide)) ?_
  refine zx_iv (b := nd) (As := [zI (hi : Int), zI 0]) (st := []) (v := (some (zI (c : Int)))) (w1 := w) dX0_join_16 zc_X0_84 hnd (z_cls9 (by decide)) rfl rfl (Nat.le_of_ble_eq_true rfl) rfl (by have q := (c_X9_get (G := G) (d := d + 2) hnd (by decide) okN (hi : Int) 0); rw [eh] at q; exact q) ?_
  refine zx_st (st1 := [zI (c : Int)]) rfl ?_
  refine zx_pc (pc1 := 19) rfl ?_
  refine zx_istore (i := 4) dX0_join_19 (by decide) rfl ?_
  refine zx_L (L1 := [some (zR br), some (zI (lo : Int)), some (zI (hi : Int)), some (zI (c : Int)), some (zI (c : Int)), none, none, none, none, none, none, none]) rfl ?_
  refine zx_iload_n (i := 3) dX0_join_21 rfl rfl ?_
  refine zx_iconst (v := -1) dX0_join_22 rfl (z32_lit (by decide) (by decide)) ?_
  refine zx_icmp_eq (tgt := 36) dX0_join_23 (by decide) (fun h23 => absurd h23 (by omega)) (fun h23 => ?_)
  refine zx_iload (i := 4) dX0_join_26 rfl ?_
  refine zx_iconst (v := -1) dX0_join_28 rfl (z32_lit (by decide) (by decide)) ?_
  refine zx_icmp_eq (tgt := 36) dX0_join_29 (by decide) (fun h29 => absurd h29 (by omega)) (fun h29 => ?_)
  refine zx_iconst (v := 1) dX0_join_32 rfl (z32_lit (by decide) (by decide)) ?_
  refine zx_goto (tgt := 37) dX0_join_33 (by decide) ?_
  refine zx_istore (i := 5) dX0_join_37 (by decide) rfl ?_
  refine zx_L (L1 := [some (zR br), some (zI (lo : Int)), some (zI (hi : Int)), some (zI (c : Int)), some (zI (c : Int)), some (zI 1), none, none, none, none, none, none]) rfl ?_
  refine zx_iload (i := 5) dX0_join_39 rfl ?_
  refine zx_if_eq (tgt := 60) dX0_join_41 (by decide) (fun h41 => absurd h41 (by decide)) (fun h41 => ?_)
  refine zx_pc (pc1 := 44) rfl ?_
  refine zx_iload_n (i := 3) dX0_join_44 rfl rfl ?_
  refine zx_iload (i := 4) dX0_join_45 rfl ?_
  refine zx_icmp_ne (tgt := 58) dX0_join_47 (by decide) (fun h47 => absurd h47 (by omega)) (fun h47 => ?_)
  refine zx_iload_n (i := 2) dX0_join_50 rfl rfl ?_
  refine zx_aload_n (i := 0) dX0_join_51 rfl rfl ?_
  refine zx_getfield dX0_join_52 zf_X0_117 hbr rfl ?_
  refine zx_icmp_ge (tgt := 60) dX0_join_55 (by decide) (fun h55 => ?_) (fun h55 => absurd (by omega) h55)
  refine zx_iload_n (i := 3) dX0_join_60 rfl rfl ?_
  refine zx_iconst (v := -1) dX0_join_61 rfl (z32_lit (by decide) (by decide)) ?_
  refine zx_icmp_ne (tgt := 75) dX0_join_62 (by decide) (fun h62 => ?_) (fun h62 => absurd (by omega) h62)
  refine zx_iconst (v := 0) dX0_join_75 rfl (z32_lit (by decide) (by decide)) ?_
  refine zx_istore (i := 6) dX0_join_76 (by decide) rfl ?_
  refine zx_L (L1 := [some (zR br), some (zI (lo : Int)), some (zI (hi : Int)), some (zI (c : Int)), some (zI (c : Int)), some (zI 1), some (zI 0), none, none, none, none, none]) rfl ?_
  refine zx_pc (pc1 := 78) rfl ?_
  refine zx_iload (i := 6) dX0_join_78 rfl ?_
  refine zx_if_eq (tgt := 87) dX0_join_80 (by decide) (fun h80 => ?_) (fun h80 => absurd (by decide) h80)
  refine zx_iload_n (i := 2) dX0_join_87 rfl rfl ?_
  refine zx_istore (i := 7) dX0_join_88 (by decide) rfl ?_
  refine zx_L (L1 := [some (zR br), some (zI (lo : Int)), some (zI (hi : Int)), some (zI (c : Int)), some (zI (c : Int)), some (zI 1), some (zI 0), some (zI (hi : Int)), none, none, none, none]) rfl ?_
  refine zx_iload (i := 6) dX0_join_90 rfl ?_
  refine zx_if_eq (tgt := 99) dX0_join_92 (by decide) (fun h92 => ?_) (fun h92 => absurd (by decide) h92)
  refine zx_iload_n (i := 1) dX0_join_99 rfl rfl ?_
  refine zx_istore (i := 8) dX0_join_100 (by decide) rfl ?_
  refine zx_L (L1 := [some (zR br), some (zI (lo : Int)), some (zI (hi : Int)), some (zI (c : Int)), some (zI (c : Int)), some (zI 1), some (zI 0), some (zI (hi : Int)), some (zI (lo : Int)), none, none, none]) rfl ?_
  refine zx_aload_n (i := 0) dX0_join_102 rfl rfl ?_
  refine zx_getfield dX0_join_103 zf_X0_24 hbr rfl ?_
  refine zx_iload (i := 7) dX0_join_106 rfl ?_
  refine zx_iconst (v := 3) dX0_join_108 rfl (z32_lit (by decide) (by decide)) ?_
  refine zx_pc (pc1 := 109) rfl ?_
  refine zx_iload (i := 8) dX0_join_109 rfl ?_
  obtain ⟨w_1, hw_2⟩ : ∃ ww, ww = zput w nd (140, br, tTb 5 cN (ts NN (hi : Int) 3 (lo : Int))) := ⟨_, rfl⟩
  have q_3 : w_1.2.1 = w.2.1 ∧ w_1.2.2 = w.2.2 := by rw [hw_2]; exact ⟨rfl, rfl⟩
  have h_4 : w_1.1 nd = some (140, br, tTb 5 cN (ts NN (hi : Int) 3 (lo : Int))) := by rw [hw_2]; exact zput_at
  refine zx_iv (b := nd) (As := [zI (hi : Int), zI 3, zI (lo : Int)]) (st := []) (v := none) (w1 := w_1) dX0_join_111 zc_X0_142 hnd (z_cls9 (by decide)) rfl rfl (Nat.le_of_ble_eq_true rfl) rfl (by rw [hw_2]; exact (c_X9_set hnd (by decide) okN (hi : Int) 3 (lo : Int))) ?_
  refine zx_st (st1 := []) rfl ?_
  refine zx_aload_n (i := 0) dX0_join_114 rfl rfl ?_
  have h_5 : w_1.1 br = some (0, 0, [zR pg, zR t, zR nd, zI (g : Int), zR va, zR ce, zR li, zR ro, zI fr, zR bi, zR le, zR wk, zI tk, zI rs, zI (rd : Int)]) := by
    rw [hw_2]; exact zput_tg hnd hbr (by simp)
  refine zx_getfield dX0_join_115 zf_X0_40 h_5 rfl ?_
  refine zx_iload (i := 7) dX0_join_118 rfl ?_
  refine zx_iload (i := 8) dX0_join_120 rfl ?_
  refine zx_iconst (v := -1) dX0_join_122 rfl (z32_lit (by decide) (by decide)) ?_
  have h_6 : w_1.1 bi = some (145, br, tTb 2 cB BB) := by
    rw [hw_2]; exact zput_tg hnd hbi (by simp)
  refine zx_ok (fun ok_7 => ?_)
  obtain ⟨w_8, hw_9⟩ : ∃ ww, ww = tAw w_1 bi 145 br 2 cB BB (trow 2 (hi : Int) (lo : Int) (-1)) := ⟨_, rfl⟩
  have h_10 : w_8.1 bi = some (145, br, tTb 2 (tCap 2 cB BB) (BB ++ [(trow 2 (hi : Int) (lo : Int) (-1))])) := by rw [hw_9]; exact tAw_at
  have qhw_9 := tAw_sz3 (w := w_1) (a := bi) (t := 145) (ow := br) (c := 2) (cap := cB) (rows := BB) (r := (trow 2 (hi : Int) (lo : Int) (-1))) (by omega)
  rw [← hw_9] at qhw_9
  refine zx_iv (b := bi) (As := [zI (hi : Int), zI (lo : Int), zI (-1)]) (st := []) (v := (some (zI (BB.length : Int)))) (w1 := w_8) dX0_join_123 zc_X0_113 h_6 (z_cls9 (by decide)) rfl rfl (Nat.le_of_ble_eq_true rfl) rfl (by rw [hw_9]; exact (c_X9_add h_6 (by decide) okB (by omega) (by by_cases cg : BB.length * 2 + 2 ≤ cB; exact Or.inl cg; exact Or.inr ⟨by omega, by omega⟩) (hi : Int) (lo : Int) (-1))) ?_
  refine zx_st (st1 := [zI (BB.length : Int)]) rfl ?_
  refine zx_pop dX0_join_126 (fun a h => by cases h) ?_
  refine zx_iload (i := 5) dX0_join_127 rfl ?_
  refine zx_if_eq (tgt := 143) dX0_join_129 (by decide) (fun h129 => absurd h129 (by decide)) (fun h129 => ?_)
  have hfaLT : zFa [nd, bi] w w_8 := (zFa_taw (zFa_put zFa_re (by simp) hw_2) (by simp) ok_7 hw_9)
  have hFT : zFr TB w w_8 := zFr_fa hfaLT (zLc hnd (by simp) (zLc hbi (by simp) zLn))
  have h_11 : w_8.1 nd = some (140, br, tTb 5 cN (ts NN (hi : Int) 3 (lo : Int))) := by
    rw [hw_9]; exact (tAw_to ok_7 (zne_tg h_6 h_4 (by simp)) h_4)
  have h_12 : w_1.1 va = some (141, br, tTb 1 cV VV) := by
    rw [hw_2]; exact zput_tg hnd hva (by simp)
  have h_13 : w_8.1 va = some (141, br, tTb 1 cV VV) := by
    rw [hw_9]; exact (tAw_to ok_7 (zne_tg h_6 h_12 (by simp)) h_12)
  have h_14 : w_1.1 ce = some (142, br, tTb 3 cC CC) := by
    rw [hw_2]; exact zput_tg hnd hce (by simp)
  have h_15 : w_8.1 ce = some (142, br, tTb 3 cC CC) := by
    rw [hw_9]; exact (tAw_to ok_7 (zne_tg h_6 h_14 (by simp)) h_14)
  have h_16 : w_1.1 li = some (143, br, tTb 4 cL LL) := by
    rw [hw_2]; exact zput_tg hnd hli (by simp)
  have h_17 : w_8.1 li = some (143, br, tTb 4 cL LL) := by
    rw [hw_9]; exact (tAw_to ok_7 (zne_tg h_6 h_16 (by simp)) h_16)
  have h_18 : w_1.1 ro = some (144, br, tTb 6 cR RR) := by
    rw [hw_2]; exact zput_tg hnd hro (by simp)
  have h_19 : w_8.1 ro = some (144, br, tTb 6 cR RR) := by
    rw [hw_9]; exact (tAw_to ok_7 (zne_tg h_6 h_18 (by simp)) h_18)
  have h_20 : w_1.1 le = some (146, br, tTb 4 cE EE) := by
    rw [hw_2]; exact zput_tg hnd hle (by simp)
  have h_21 : w_8.1 le = some (146, br, tTb 4 cE EE) := by
    rw [hw_9]; exact (tAw_to ok_7 (zne_tg h_6 h_20 (by simp)) h_20)
  have h_22 : w_1.1 wk = some (147, br, tTb 3 cW WW) := by
    rw [hw_2]; exact zput_tg hnd hwk (by simp)
  have h_23 : w_8.1 wk = some (147, br, tTb 3 cW WW) := by
    rw [hw_9]; exact (tAw_to ok_7 (zne_tg h_6 h_22 (by simp)) h_22)
  have h_24 : w_8.1 br = some (0, 0, [zR pg, zR t, zR nd, zI (g : Int), zR va, zR ce, zR li, zR ro, zI fr, zR bi, zR le, zR wk, zI tk, zI rs, zI (rd : Int)]) := by
    rw [hw_9]; exact (tAw_to ok_7 (zne_tg h_6 h_5 (by simp)) h_5)
  have hBT : bbW w_8 b1 b2 ((br, pg, t), (nd, va, ce, li), (ro, bi, le, wk)) (((cN, (ts NN (hi : Int) 3 (lo : Int))), (cV, VV), (cC, CC), (cL, LL)), ((cR, RR), ((tCap 2 cB BB), (BB ++ [(trow 2 (hi : Int) (lo : Int) (-1))])), (cE, EE), (cW, WW)), ((g : Int), fr, tk, rs, (rd : Int))) := ⟨h_24, ⟨⟨h_11, (tOk_ts okN)⟩, ⟨h_13, okV⟩, ⟨h_15, okC⟩, ⟨h_17, okL⟩⟩, ⟨⟨h_19, okR⟩, ⟨h_10, (tOk_app okB (by first | exact trow_len | rfl))⟩, ⟨h_21, okE⟩, ⟨h_23, okW⟩⟩, ⟨⟨by omega, by omega, by omega, by omega⟩, ⟨by omega, by omega, by omega, by omega⟩⟩, ⟨⟨by omega, by omega, by omega, by omega⟩, ⟨by omega, by omega, by omega, by omega⟩⟩, by omega, by omega⟩
  have hT2 := tmW_TB hT hFT
  refine zx_aload_n (i := 0) dX0_join_132 rfl rfl ?_
  refine zx_pc (pc1 := 133) rfl ?_
  refine zx_getfield dX0_join_133 zf_X0_15 h_24 rfl ?_
  refine zx_iload_n (i := 3) dX0_join_136 rfl rfl ?_
  have h_25 : w_1.1 t = some (10, 0, [zI ty, zR tc, zR tn, zR th, zR tz]) := by
    rw [hw_2]; exact zput_tg hnd hT.1 (by simp)
  have h_26 : w_8.1 t = some (10, 0, [zI ty, zR tc, zR tn, zR th, zR tz]) := by
    rw [hw_9]; exact (tAw_to ok_7 (zne_tg h_6 h_25 (by simp)) h_25)
  refine zx_iv (b := t) (As := [zI (c : Int)]) (st := []) (v := (some (zI 0))) (w1 := w_8) dX0_join_137 zc_X0_251 h_26 rfl rfl rfl (Nat.le_of_ble_eq_true rfl) rfl (by have q := c_X10_partCount (G := G) (d := d + 1) hT2 (c : Int); rw [hpc] at q; exact q) ?_
  refine zx_st (st1 := [zI 0]) rfl ?_
  refine zx_goto (tgt := 144) dX0_join_140 (by decide) ?_
  refine zx_istore (i := 9) dX0_join_144 (by decide) rfl ?_
  refine zx_L (L1 := [some (zR br), some (zI (lo : Int)), some (zI (hi : Int)), some (zI (c : Int)), some (zI (c : Int)), some (zI 1), some (zI 0), some (zI (hi : Int)), some (zI (lo : Int)), some (zI 0), none, none]) rfl ?_
  refine zx_iconst (v := 0) dX0_join_146 rfl (z32_lit (by decide) (by decide)) ?_
  refine zx_istore (i := 10) dX0_join_147 (by decide) rfl ?_
  refine zx_L (L1 := [some (zR br), some (zI (lo : Int)), some (zI (hi : Int)), some (zI (c : Int)), some (zI (c : Int)), some (zI 1), some (zI 0), some (zI (hi : Int)), some (zI (lo : Int)), some (zI 0), some (zI 0), none]) rfl ?_
  refine zx_iload (i := 10) dX0_join_149 rfl ?_
  refine zx_iload (i := 9) dX0_join_151 rfl ?_
  refine zx_icmp_ge (tgt := 203) dX0_join_153 (by decide) (fun h153 => ?_) (fun h153 => absurd (by decide) h153)
  refine zx_iconst (v := 1) dX0_join_203 rfl (z32_lit (by decide) (by decide)) ?_
  refine zx_zret dX0_join_204 rfl (by first | exact Or.inl rfl | exact Or.inr rfl | exact zB_or | assumption) ?_
  have hfaL2 : zFa [nd, bi] w w_8 := (zFa_taw (zFa_put zFa_re (by simp) hw_2) (by simp) ok_7 hw_9)
  have hF2 : zFr TB w w_8 := zFr_fa hfaL2 (zLc hnd (by simp) (zLc hbi (by simp) zLn))
  have hB2 : bbW w_8 b1 b2 ((br, pg, t), (nd, va, ce, li), (ro, bi, le, wk)) (((cN, (ts NN (hi : Int) 3 (lo : Int))), (cV, VV), (cC, CC), (cL, LL)), ((cR, RR), ((tCap 2 cB BB), (BB ++ [(trow 2 (hi : Int) (lo : Int) (-1))])), (cE, EE), (cW, WW)), ((g : Int), fr, tk, rs, (rd : Int))) := ⟨h_24, ⟨⟨h_11, (tOk_ts okN)⟩, ⟨h_13, okV⟩, ⟨h_15, okC⟩, ⟨h_17, okL⟩⟩, ⟨⟨h_19, okR⟩, ⟨h_10, (tOk_app okB (by first | exact trow_len | rfl))⟩, ⟨h_21, okE⟩, ⟨h_23, okW⟩⟩, ⟨⟨by omega, by omega, by omega, by omega⟩, ⟨by omega, by omega, by omega, by omega⟩⟩, ⟨⟨by omega, by omega, by omega, by omega⟩, ⟨by omega, by omega, by omega, by omega⟩⟩, by omega, by omega⟩
  exact ⟨_, rfl, rfl, hB2, hF2⟩
theorem jn_e1 (hB : bbW w b1 b2 ((br, pg, t), (nd, va, ce, li), (ro, bi, le, wk)) (((cN, NN), (cV, VV), (cC, CC), (cL, LL)), ((cR, RR), (cB, BB), (cE, EE), (cW, WW)), ((g : Int), fr, tk, rs, (rd : Int)))) (hG1 : b1 + 1800000 ≤ 30 * G.2.2.2.2.1) (hG2 : b2 + 3700000 ≤ G.2.2.2.2.2) (hT : tmW w t tc tn th tz ty C3 TN TH TS) (hM : ndM NN N bd mk) (hlo : lo < N.length) (hhi : hi < N.length) (hBl : BB.length < 234500) (hWl : WW.length < 6000) (hl : bhd N lo = some 1) (hh : bhd N hi = some 1) (hg : g ≤ hi) : zM G zm_X0_join (d + 3) [zR br, zI (lo : Int), zI (hi : Int)] w (zVal fun o w' => o = zI 1 ∧ bbW w' b1 b2 ((br, pg, t), (nd, va, ce, li), (ro, bi, le, wk)) (((cN, (ts NN (hi : Int) 3 (lo : Int))), (cV, VV), (cC, CC), (cL, LL)), ((cR, RR), ((tCap 2 cB BB), (BB ++ [[(hi : Int), (lo : Int)]])), (cE, EE), ((tCap 3 cW WW), (WW ++ [[(bfs N lo : Int), (bfs N hi : Int), -1]]))), ((g : Int), fr, tk, rs, (rd : Int))) ∧ zFr TB w w') := by
  refine zx_ent (by decide +kernel) rfl (Nat.le_of_ble_eq_true rfl) ?_
  refine zx_L (L1 := [some (zR br), some (zI (lo : Int)), some (zI (hi : Int)), none, none, none, none, none, none, none, none, none]) rfl ?_
  obtain ⟨hbr, ⟨⟨hnd, okN⟩, ⟨hva, okV⟩, ⟨hce, okC⟩, ⟨hli, okL⟩⟩, ⟨⟨hro, okR⟩, ⟨hbi, okB⟩, ⟨hle, okE⟩, ⟨hwk, okW⟩⟩, ⟨⟨c1N, c1V, c1C, c1L⟩, ⟨c1R, c1B, c1E, c1W⟩⟩, ⟨⟨c2N, c2V, c2C, c2L⟩, ⟨c2R, c2B, c2E, c2W⟩⟩, hrm1, hrm2⟩ := id hB
  have el : tg NN (lo : Int) 0 = 1 := by rw [(ndM_get hM hlo).1, hl]; rfl
  have eh : tg NN (hi : Int) 0 = 1 := by rw [(ndM_get hM hhi).1, hh]; rfl
  have hpc : tmPc C3 1 = 1 := by decide
  have hM1 : ndM (ts NN (hi : Int) 3 (lo : Int)) N _ mk := ndM_b hM hi (some lo)
  have fl : tg (ts NN (hi : Int) 3 (lo : Int)) (lo : Int) 1 = (bfs N lo : Int) := (ndM_get hM1 hlo).2.1 hl
  have fh : tg (ts NN (hi : Int) 3 (lo : Int)) (hi : Int) 1 = (bfs N hi : Int) := (ndM_get hM1 hhi).2.1 hh
  refine zx_aload_n (i := 0) dX0_join_0 rfl rfl ?_
  refine zx_getfield dX0_join_1 zf_X0_24 hbr rfl ?_
  refine zx_iload_n (i := 1) dX0_join_4 rfl rfl ?_
  refine zx_iconst (v := 0) dX0_join_5 rfl (z32_lit (by decide) (by decide)) ?_
  refine zx_iv (b := nd) (As := [zI (lo : Int), zI 0]) (st := []) (v := (some (zI 1))) (w1 := w) dX0_join_6 zc_X0_84 hnd (z_cls9 (by decide)) rfl rfl (Nat.le_of_ble_eq_true rfl) rfl (by have q := (c_X9_get (G := G) (d := d + 2) hnd (by decide) okN (lo : Int) 0); rw [el] at q; exact q) ?_
  refine zx_st (st1 := [zI 1]) rfl ?_
  refine zx_istore_n (i := 3) dX0_join_9 rfl (by decide) rfl ?_
  refine zx_L (L1 := [some (zR br), some (zI (lo : Int)), some (zI (hi : Int)), some (zI 1), none, none, none, none, none, none, none, none]) rfl ?_
  refine zx_aload_n (i := 0) dX0_join_10 rfl rfl ?_
  refine zx_getfield dX0_join_11 zf_X0_24 hbr rfl ?_
  refine zx_iload_n (i := 2) dX0_join_14 rfl rfl ?_
  refine zx_iconst (v := 0) dX0_join_15 rfl (z32_lit (by decide) (by decide)) ?_
  refine zx_iv (b := nd) (As := [zI (hi : Int), zI 0]) (st := []) (v := (some (zI 1))) (w1 := w) dX0_join_16 zc_X0_84 hnd (z_cls9 (by decide)) rfl rfl (Nat.le_of_ble_eq_true rfl) rfl (by have q := (c_X9_get (G := G) (d := d + 2) hnd (by decide) okN (hi : Int) 0); rw [eh] at q; exact q) ?_
  refine zx_st (st1 := [zI 1]) rfl ?_
  refine zx_pc (pc1 := 19) rfl ?_
  refine zx_istore (i := 4) dX0_join_19 (by decide) rfl ?_
  refine zx_L (L1 := [some (zR br), some (zI (lo : Int)), some (zI (hi : Int)), some (zI 1), some (zI 1), none, none, none, none, none, none, none]) rfl ?_
  refine zx_iload_n (i := 3) dX0_join_21 rfl rfl ?_
  refine zx_iconst (v := -1) dX0_join_22 rfl (z32_lit (by decide) (by decide)) ?_
  refine zx_icmp_eq (tgt := 36) dX0_join_23 (by decide) (fun h23 => absurd h23 (by decide)) (fun h23 => ?_)
  refine zx_iload (i := 4) dX0_join_26 rfl ?_
  refine zx_iconst (v := -1) dX0_join_28 rfl (z32_lit (by decide) (by decide)) ?_
  refine zx_icmp_eq (tgt := 36) dX0_join_29 (by decide) (fun h29 => absurd h29 (by decide)) (fun h29 => ?_)
  refine zx_iconst (v := 1) dX0_join_32 rfl (z32_lit (by decide) (by decide)) ?_
  refine zx_goto (tgt := 37) dX0_join_33 (by decide) ?_
  refine zx_istore (i := 5) dX0_join_37 (by decide) rfl ?_
  refine zx_L (L1 := [some (zR br), some (zI (lo : Int)), some (zI (hi : Int)), some (zI 1), some (zI 1), some (zI 1), none, none, none, none, none, none]) rfl ?_
  refine zx_iload (i := 5) dX0_join_39 rfl ?_
  refine zx_if_eq (tgt := 60) dX0_join_41 (by decide) (fun h41 => absurd h41 (by decide)) (fun h41 => ?_)
  refine zx_pc (pc1 := 44) rfl ?_
  refine zx_iload_n (i := 3) dX0_join_44 rfl rfl ?_
  refine zx_iload (i := 4) dX0_join_45 rfl ?_
  refine zx_icmp_ne (tgt := 58) dX0_join_47 (by decide) (fun h47 => absurd h47 (by decide)) (fun h47 => ?_)
  refine zx_iload_n (i := 2) dX0_join_50 rfl rfl ?_
  refine zx_aload_n (i := 0) dX0_join_51 rfl rfl ?_
  refine zx_getfield dX0_join_52 zf_X0_117 hbr rfl ?_
  refine zx_icmp_ge (tgt := 60) dX0_join_55 (by decide) (fun h55 => ?_) (fun h55 => absurd (by omega) h55)
  refine zx_iload_n (i := 3) dX0_join_60 rfl rfl ?_
  refine zx_iconst (v := -1) dX0_join_61 rfl (z32_lit (by decide) (by decide)) ?_
  refine zx_icmp_ne (tgt := 75) dX0_join_62 (by decide) (fun h62 => ?_) (fun h62 => absurd (by decide) h62)
  refine zx_iconst (v := 0) dX0_join_75 rfl (z32_lit (by decide) (by decide)) ?_
  refine zx_istore (i := 6) dX0_join_76 (by decide) rfl ?_
  refine zx_L (L1 := [some (zR br), some (zI (lo : Int)), some (zI (hi : Int)), some (zI 1), some (zI 1), some (zI 1), some (zI 0), none, none, none, none, none]) rfl ?_
  refine zx_pc (pc1 := 78) rfl ?_
  refine zx_iload (i := 6) dX0_join_78 rfl ?_
  refine zx_if_eq (tgt := 87) dX0_join_80 (by decide) (fun h80 => ?_) (fun h80 => absurd (by decide) h80)
  refine zx_iload_n (i := 2) dX0_join_87 rfl rfl ?_
  refine zx_istore (i := 7) dX0_join_88 (by decide) rfl ?_
  refine zx_L (L1 := [some (zR br), some (zI (lo : Int)), some (zI (hi : Int)), some (zI 1), some (zI 1), some (zI 1), some (zI 0), some (zI (hi : Int)), none, none, none, none]) rfl ?_
  refine zx_iload (i := 6) dX0_join_90 rfl ?_
  refine zx_if_eq (tgt := 99) dX0_join_92 (by decide) (fun h92 => ?_) (fun h92 => absurd (by decide) h92)
  refine zx_iload_n (i := 1) dX0_join_99 rfl rfl ?_
  refine zx_istore (i := 8) dX0_join_100 (by decide) rfl ?_
  refine zx_L (L1 := [some (zR br), some (zI (lo : Int)), some (zI (hi : Int)), some (zI 1), some (zI 1), some (zI 1), some (zI 0), some (zI (hi : Int)), some (zI (lo : Int)), none, none, none]) rfl ?_
  refine zx_aload_n (i := 0) dX0_join_102 rfl rfl ?_
  refine zx_getfield dX0_join_103 zf_X0_24 hbr rfl ?_
  refine zx_iload (i := 7) dX0_join_106 rfl ?_
  refine zx_iconst (v := 3) dX0_join_108 rfl (z32_lit (by decide) (by decide)) ?_
  refine zx_pc (pc1 := 109) rfl ?_
  refine zx_iload (i := 8) dX0_join_109 rfl ?_
  obtain ⟨w_1, hw_2⟩ : ∃ ww, ww = zput w nd (140, br, tTb 5 cN (ts NN (hi : Int) 3 (lo : Int))) := ⟨_, rfl⟩
  have q_3 : w_1.2.1 = w.2.1 ∧ w_1.2.2 = w.2.2 := by rw [hw_2]; exact ⟨rfl, rfl⟩
  have h_4 : w_1.1 nd = some (140, br, tTb 5 cN (ts NN (hi : Int) 3 (lo : Int))) := by rw [hw_2]; exact zput_at
  refine zx_iv (b := nd) (As := [zI (hi : Int), zI 3, zI (lo : Int)]) (st := []) (v := none) (w1 := w_1) dX0_join_111 zc_X0_142 hnd (z_cls9 (by decide)) rfl rfl (Nat.le_of_ble_eq_true rfl) rfl (by rw [hw_2]; exact (c_X9_set hnd (by decide) okN (hi : Int) 3 (lo : Int))) ?_
  refine zx_st (st1 := []) rfl ?_
  refine zx_aload_n (i := 0) dX0_join_114 rfl rfl ?_
  have h_5 : w_1.1 br = some (0, 0, [zR pg, zR t, zR nd, zI (g : Int), zR va, zR ce, zR li, zR ro, zI fr, zR bi, zR le, zR wk, zI tk, zI rs, zI (rd : Int)]) := by
    rw [hw_2]; exact zput_tg hnd hbr (by simp)
  refine zx_getfield dX0_join_115 zf_X0_40 h_5 rfl ?_
  refine zx_iload (i := 7) dX0_join_118 rfl ?_
  refine zx_iload (i := 8) dX0_join_120 rfl ?_
  refine zx_iconst (v := -1) dX0_join_122 rfl (z32_lit (by decide) (by decide)) ?_
  have h_6 : w_1.1 bi = some (145, br, tTb 2 cB BB) := by
    rw [hw_2]; exact zput_tg hnd hbi (by simp)
  refine zx_ok (fun ok_7 => ?_)
  obtain ⟨w_8, hw_9⟩ : ∃ ww, ww = tAw w_1 bi 145 br 2 cB BB (trow 2 (hi : Int) (lo : Int) (-1)) := ⟨_, rfl⟩
  have h_10 : w_8.1 bi = some (145, br, tTb 2 (tCap 2 cB BB) (BB ++ [(trow 2 (hi : Int) (lo : Int) (-1))])) := by rw [hw_9]; exact tAw_at
  have qhw_9 := tAw_sz3 (w := w_1) (a := bi) (t := 145) (ow := br) (c := 2) (cap := cB) (rows := BB) (r := (trow 2 (hi : Int) (lo : Int) (-1))) (by omega)
  rw [← hw_9] at qhw_9
  refine zx_iv (b := bi) (As := [zI (hi : Int), zI (lo : Int), zI (-1)]) (st := []) (v := (some (zI (BB.length : Int)))) (w1 := w_8) dX0_join_123 zc_X0_113 h_6 (z_cls9 (by decide)) rfl rfl (Nat.le_of_ble_eq_true rfl) rfl (by rw [hw_9]; exact (c_X9_add h_6 (by decide) okB (by omega) (by by_cases cg : BB.length * 2 + 2 ≤ cB; exact Or.inl cg; exact Or.inr ⟨by omega, by omega⟩) (hi : Int) (lo : Int) (-1))) ?_
  refine zx_st (st1 := [zI (BB.length : Int)]) rfl ?_
  refine zx_pop dX0_join_126 (fun a h => by cases h) ?_
  refine zx_iload (i := 5) dX0_join_127 rfl ?_
  refine zx_if_eq (tgt := 143) dX0_join_129 (by decide) (fun h129 => absurd h129 (by decide)) (fun h129 => ?_)
  have hfaLT : zFa [nd, bi] w w_8 := (zFa_taw (zFa_put zFa_re (by simp) hw_2) (by simp) ok_7 hw_9)
  have hFT : zFr TB w w_8 := zFr_fa hfaLT (zLc hnd (by simp) (zLc hbi (by simp) zLn))
  have h_11 : w_8.1 nd = some (140, br, tTb 5 cN (ts NN (hi : Int) 3 (lo : Int))) := by
    rw [hw_9]; exact (tAw_to ok_7 (zne_tg h_6 h_4 (by simp)) h_4)
  have h_12 : w_1.1 va = some (141, br, tTb 1 cV VV) := by
    rw [hw_2]; exact zput_tg hnd hva (by simp)
  have h_13 : w_8.1 va = some (141, br, tTb 1 cV VV) := by
    rw [hw_9]; exact (tAw_to ok_7 (zne_tg h_6 h_12 (by simp)) h_12)
  have h_14 : w_1.1 ce = some (142, br, tTb 3 cC CC) := by
    rw [hw_2]; exact zput_tg hnd hce (by simp)
  have h_15 : w_8.1 ce = some (142, br, tTb 3 cC CC) := by
    rw [hw_9]; exact (tAw_to ok_7 (zne_tg h_6 h_14 (by simp)) h_14)
  have h_16 : w_1.1 li = some (143, br, tTb 4 cL LL) := by
    rw [hw_2]; exact zput_tg hnd hli (by simp)
  have h_17 : w_8.1 li = some (143, br, tTb 4 cL LL) := by
    rw [hw_9]; exact (tAw_to ok_7 (zne_tg h_6 h_16 (by simp)) h_16)
  have h_18 : w_1.1 ro = some (144, br, tTb 6 cR RR) := by
    rw [hw_2]; exact zput_tg hnd hro (by simp)
  have h_19 : w_8.1 ro = some (144, br, tTb 6 cR RR) := by
    rw [hw_9]; exact (tAw_to ok_7 (zne_tg h_6 h_18 (by simp)) h_18)
  have h_20 : w_1.1 le = some (146, br, tTb 4 cE EE) := by
    rw [hw_2]; exact zput_tg hnd hle (by simp)
  have h_21 : w_8.1 le = some (146, br, tTb 4 cE EE) := by
    rw [hw_9]; exact (tAw_to ok_7 (zne_tg h_6 h_20 (by simp)) h_20)
  have h_22 : w_1.1 wk = some (147, br, tTb 3 cW WW) := by
    rw [hw_2]; exact zput_tg hnd hwk (by simp)
  have h_23 : w_8.1 wk = some (147, br, tTb 3 cW WW) := by
    rw [hw_9]; exact (tAw_to ok_7 (zne_tg h_6 h_22 (by simp)) h_22)
  have h_24 : w_8.1 br = some (0, 0, [zR pg, zR t, zR nd, zI (g : Int), zR va, zR ce, zR li, zR ro, zI fr, zR bi, zR le, zR wk, zI tk, zI rs, zI (rd : Int)]) := by
    rw [hw_9]; exact (tAw_to ok_7 (zne_tg h_6 h_5 (by simp)) h_5)
  have hBT : bbW w_8 b1 b2 ((br, pg, t), (nd, va, ce, li), (ro, bi, le, wk)) (((cN, (ts NN (hi : Int) 3 (lo : Int))), (cV, VV), (cC, CC), (cL, LL)), ((cR, RR), ((tCap 2 cB BB), (BB ++ [(trow 2 (hi : Int) (lo : Int) (-1))])), (cE, EE), (cW, WW)), ((g : Int), fr, tk, rs, (rd : Int))) := ⟨h_24, ⟨⟨h_11, (tOk_ts okN)⟩, ⟨h_13, okV⟩, ⟨h_15, okC⟩, ⟨h_17, okL⟩⟩, ⟨⟨h_19, okR⟩, ⟨h_10, (tOk_app okB (by first | exact trow_len | rfl))⟩, ⟨h_21, okE⟩, ⟨h_23, okW⟩⟩, ⟨⟨by omega, by omega, by omega, by omega⟩, ⟨by omega, by omega, by omega, by omega⟩⟩, ⟨⟨by omega, by omega, by omega, by omega⟩, ⟨by omega, by omega, by omega, by omega⟩⟩, by omega, by omega⟩
  have hT2 := tmW_TB hT hFT
  refine zx_aload_n (i := 0) dX0_join_132 rfl rfl ?_
  refine zx_pc (pc1 := 133) rfl ?_
  refine zx_getfield dX0_join_133 zf_X0_15 h_24 rfl ?_
  refine zx_iload_n (i := 3) dX0_join_136 rfl rfl ?_
  have h_25 : w_1.1 t = some (10, 0, [zI ty, zR tc, zR tn, zR th, zR tz]) := by
    rw [hw_2]; exact zput_tg hnd hT.1 (by simp)
  have h_26 : w_8.1 t = some (10, 0, [zI ty, zR tc, zR tn, zR th, zR tz]) := by
    rw [hw_9]; exact (tAw_to ok_7 (zne_tg h_6 h_25 (by simp)) h_25)
  refine zx_iv (b := t) (As := [zI 1]) (st := []) (v := (some (zI 1))) (w1 := w_8) dX0_join_137 zc_X0_251 h_26 rfl rfl rfl (Nat.le_of_ble_eq_true rfl) rfl (by have q := c_X10_partCount (G := G) (d := d + 1) hT2 1; rw [hpc] at q; exact q) ?_
  refine zx_st (st1 := [zI 1]) rfl ?_
  refine zx_goto (tgt := 144) dX0_join_140 (by decide) ?_
  refine zx_istore (i := 9) dX0_join_144 (by decide) rfl ?_
  refine zx_L (L1 := [some (zR br), some (zI (lo : Int)), some (zI (hi : Int)), some (zI 1), some (zI 1), some (zI 1), some (zI 0), some (zI (hi : Int)), some (zI (lo : Int)), some (zI 1), none, none]) rfl ?_
  refine zx_iconst (v := 0) dX0_join_146 rfl (z32_lit (by decide) (by decide)) ?_
  refine zx_istore (i := 10) dX0_join_147 (by decide) rfl ?_
  refine zx_L (L1 := [some (zR br), some (zI (lo : Int)), some (zI (hi : Int)), some (zI 1), some (zI 1), some (zI 1), some (zI 0), some (zI (hi : Int)), some (zI (lo : Int)), some (zI 1), some (zI 0), none]) rfl ?_
  refine zx_iload (i := 10) dX0_join_149 rfl ?_
  refine zx_iload (i := 9) dX0_join_151 rfl ?_
  refine zx_icmp_ge (tgt := 203) dX0_join_153 (by decide) (fun h153 => absurd h153 (by decide)) (fun h153 => ?_)
  refine zx_iload (i := 10) dX0_join_156 rfl ?_
  refine zx_if_ne (tgt := 165) dX0_join_158 (by decide) (fun h158 => absurd h158 (by decide)) (fun h158 => ?_)
  refine zx_pc (pc1 := 161) rfl ?_
  refine zx_iconst (v := 1) dX0_join_161 rfl (z32_lit (by decide) (by decide)) ?_
  refine zx_goto (tgt := 166) dX0_join_162 (by decide) ?_
  refine zx_istore (i := 11) dX0_join_166 (by decide) rfl ?_
  refine zx_L (L1 := [some (zR br), some (zI (lo : Int)), some (zI (hi : Int)), some (zI 1), some (zI 1), some (zI 1), some (zI 0), some (zI (hi : Int)), some (zI (lo : Int)), some (zI 1), some (zI 0), some (zI 1)]) rfl ?_
  refine zx_aload_n (i := 0) dX0_join_168 rfl rfl ?_
  refine zx_getfield dX0_join_169 zf_X0_46 h_24 rfl ?_
  refine zx_aload_n (i := 0) dX0_join_172 rfl rfl ?_
  refine zx_getfield dX0_join_173 zf_X0_24 h_24 rfl ?_
  refine zx_iload_n (i := 1) dX0_join_176 rfl rfl ?_
  refine zx_iload (i := 11) dX0_join_177 rfl ?_
  refine zx_iv (b := nd) (As := [zI (lo : Int), zI 1]) (st := [zR wk]) (v := (some (zI (bfs N lo : Int)))) (w1 := w_8) dX0_join_179 zc_X0_84 h_11 (z_cls9 (by decide)) rfl rfl (Nat.le_of_ble_eq_true rfl) rfl (by have q := (c_X9_get (G := G) (d := d + 2) h_11 (by decide) (tOk_ts okN) (lo : Int) 1); rw [fl] at q; exact q) ?_
  refine zx_st (st1 := [zI (bfs N lo : Int), zR wk]) rfl ?_
  refine zx_aload_n (i := 0) dX0_join_182 rfl rfl ?_
  refine zx_getfield dX0_join_183 zf_X0_24 h_24 rfl ?_
  refine zx_pc (pc1 := 186) rfl ?_
  refine zx_iload_n (i := 2) dX0_join_186 rfl rfl ?_
  refine zx_iload (i := 11) dX0_join_187 rfl ?_
  refine zx_iv (b := nd) (As := [zI (hi : Int), zI 1]) (st := [zI (bfs N lo : Int), zR wk]) (v := (some (zI (bfs N hi : Int)))) (w1 := w_8) dX0_join_189 zc_X0_84 h_11 (z_cls9 (by decide)) rfl rfl (Nat.le_of_ble_eq_true rfl) rfl (by have q := (c_X9_get (G := G) (d := d + 2) h_11 (by decide) (tOk_ts okN) (hi : Int) 1); rw [fh] at q; exact q) ?_
  refine zx_st (st1 := [zI (bfs N hi : Int), zI (bfs N lo : Int), zR wk]) rfl ?_
  refine zx_iconst (v := -1) dX0_join_192 rfl (z32_lit (by decide) (by decide)) ?_
  refine zx_ok (fun ok_27 => ?_)
  obtain ⟨w_28, hw_29⟩ : ∃ ww, ww = tAw w_8 wk 147 br 3 cW WW (trow 3 (bfs N lo : Int) (bfs N hi : Int) (-1)) := ⟨_, rfl⟩
  have h_30 : w_28.1 wk = some (147, br, tTb 3 (tCap 3 cW WW) (WW ++ [(trow 3 (bfs N lo : Int) (bfs N hi : Int) (-1))])) := by rw [hw_29]; exact tAw_at
  have qhw_29 := tAw_sz3 (w := w_8) (a := wk) (t := 147) (ow := br) (c := 3) (cap := cW) (rows := WW) (r := (trow 3 (bfs N lo : Int) (bfs N hi : Int) (-1))) (by omega)
  rw [← hw_29] at qhw_29
  refine zx_iv (b := wk) (As := [zI (bfs N lo : Int), zI (bfs N hi : Int), zI (-1)]) (st := []) (v := (some (zI (WW.length : Int)))) (w1 := w_28) dX0_join_193 zc_X0_113 h_23 (z_cls9 (by decide)) rfl rfl (Nat.le_of_ble_eq_true rfl) rfl (by rw [hw_29]; exact (c_X9_add h_23 (by decide) okW (by omega) (by by_cases cg : WW.length * 3 + 3 ≤ cW; exact Or.inl cg; exact Or.inr ⟨by omega, by omega⟩) (bfs N lo : Int) (bfs N hi : Int) (-1))) ?_
  refine zx_st (st1 := [zI (WW.length : Int)]) rfl ?_
  refine zx_pop dX0_join_196 (fun a h => by cases h) ?_
  refine zx_iinc (i := 10) (v := 1) dX0_join_197 rfl (by decide +kernel) (by decide) rfl ?_
  refine zx_L (L1 := [some (zR br), some (zI (lo : Int)), some (zI (hi : Int)), some (zI 1), some (zI 1), some (zI 1), some (zI 0), some (zI (hi : Int)), some (zI (lo : Int)), some (zI 1), some (zI 1), some (zI 1)]) rfl ?_
  refine zx_goto (tgt := 149) dX0_join_200 (by decide) ?_
  refine zx_iload (i := 10) dX0_join_149 rfl ?_
  refine zx_iload (i := 9) dX0_join_151 rfl ?_
  refine zx_icmp_ge (tgt := 203) dX0_join_153 (by decide) (fun h153 => ?_) (fun h153 => absurd (by decide) h153)
  refine zx_iconst (v := 1) dX0_join_203 rfl (z32_lit (by decide) (by decide)) ?_
  refine zx_pc (pc1 := 204) rfl ?_
  refine zx_zret dX0_join_204 rfl (by first | exact Or.inl rfl | exact Or.inr rfl | exact zB_or | assumption) ?_
  have hfaL2 : zFa [nd, bi, wk] w w_28 := (zFa_taw (zFa_taw (zFa_put zFa_re (by simp) hw_2) (by simp) ok_7 hw_9) (by simp) ok_27 hw_29)
  have hF2 : zFr TB w w_28 := zFr_fa hfaL2 (zLc hnd (by simp) (zLc hbi (by simp) (zLc hwk (by simp) zLn)))
  have h_31 : w_28.1 nd = some (140, br, tTb 5 cN (ts NN (hi : Int) 3 (lo : Int))) := by
    rw [hw_29]; exact (tAw_to ok_27 (zne_tg h_23 h_11 (by simp)) h_11)
  have h_32 : w_28.1 va = some (141, br, tTb 1 cV VV) := by
    rw [hw_29]; exact (tAw_to ok_27 (zne_tg h_23 h_13 (by simp)) h_13)
  have h_33 : w_28.1 ce = some (142, br, tTb 3 cC CC) := by
    rw [hw_29]; exact (tAw_to ok_27 (zne_tg h_23 h_15 (by simp)) h_15)
  have h_34 : w_28.1 li = some (143, br, tTb 4 cL LL) := by
    rw [hw_29]; exact (tAw_to ok_27 (zne_tg h_23 h_17 (by simp)) h_17)
  have h_35 : w_28.1 ro = some (144, br, tTb 6 cR RR) := by
    rw [hw_29]; exact (tAw_to ok_27 (zne_tg h_23 h_19 (by simp)) h_19)
  have h_36 : w_28.1 bi = some (145, br, tTb 2 (tCap 2 cB BB) (BB ++ [(trow 2 (hi : Int) (lo : Int) (-1))])) := by
    rw [hw_29]; exact (tAw_to ok_27 (zne_tg h_23 h_10 (by simp)) h_10)
  have h_37 : w_28.1 le = some (146, br, tTb 4 cE EE) := by
    rw [hw_29]; exact (tAw_to ok_27 (zne_tg h_23 h_21 (by simp)) h_21)
  have h_38 : w_28.1 br = some (0, 0, [zR pg, zR t, zR nd, zI (g : Int), zR va, zR ce, zR li, zR ro, zI fr, zR bi, zR le, zR wk, zI tk, zI rs, zI (rd : Int)]) := by
    rw [hw_29]; exact (tAw_to ok_27 (zne_tg h_23 h_24 (by simp)) h_24)
  have hB2 : bbW w_28 b1 b2 ((br, pg, t), (nd, va, ce, li), (ro, bi, le, wk)) (((cN, (ts NN (hi : Int) 3 (lo : Int))), (cV, VV), (cC, CC), (cL, LL)), ((cR, RR), ((tCap 2 cB BB), (BB ++ [(trow 2 (hi : Int) (lo : Int) (-1))])), (cE, EE), ((tCap 3 cW WW), (WW ++ [(trow 3 (bfs N lo : Int) (bfs N hi : Int) (-1))]))), ((g : Int), fr, tk, rs, (rd : Int))) := ⟨h_38, ⟨⟨h_31, (tOk_ts okN)⟩, ⟨h_32, okV⟩, ⟨h_33, okC⟩, ⟨h_34, okL⟩⟩, ⟨⟨h_35, okR⟩, ⟨h_36, (tOk_app okB (by first | exact trow_len | rfl))⟩, ⟨h_37, okE⟩, ⟨h_30, (tOk_app okW (by first | exact trow_len | rfl))⟩⟩, ⟨⟨by omega, by omega, by omega, by omega⟩, ⟨by omega, by omega, by omega, by omega⟩⟩, ⟨⟨by omega, by omega, by omega, by omega⟩, ⟨by omega, by omega, by omega, by omega⟩⟩, by omega, by omega⟩
  exact ⟨_, rfl, rfl, hB2, hF2⟩
theorem jn_ne (hB : bbW w b1 b2 ((br, pg, t), (nd, va, ce, li), (ro, bi, le, wk)) (((cN, NN), (cV, VV), (cC, CC), (cL, LL)), ((cR, RR), (cB, BB), (cE, EE), (cW, WW)), ((g : Int), fr, tk, rs, (rd : Int)))) (hG1 : b1 + 1800000 ≤ 30 * G.2.2.2.2.1) (hG2 : b2 + 3700000 ≤ G.2.2.2.2.2) (hT : tmW w t tc tn th tz ty C3 TN TH TS) (hM : ndM NN N bd mk) (hlo : lo < N.length) (hhi : hi < N.length) (hBl : BB.length < 234500) (hWl : WW.length < 6000) {c c2 : Nat} (hl : bhd N lo = some c) (hh : bhd N hi = some c2) (hne : c ≠ c2) : zM G zm_X0_join (d + 3) [zR br, zI (lo : Int), zI (hi : Int)] w (zRet (some (zI 0)) w) := by
  refine zx_ent (by decide +kernel) rfl (Nat.le_of_ble_eq_true rfl) ?_
  refine zx_L (L1 := [some (zR br), some (zI (lo : Int)), some (zI (hi : Int)), none, none, none, none, none, none, none, none, none]) rfl ?_
  obtain ⟨hbr, ⟨⟨hnd, okN⟩, ⟨hva, okV⟩, ⟨hce, okC⟩, ⟨hli, okL⟩⟩, ⟨⟨hro, okR⟩, ⟨hbi, okB⟩, ⟨hle, okE⟩, ⟨hwk, okW⟩⟩, ⟨⟨c1N, c1V, c1C, c1L⟩, ⟨c1R, c1B, c1E, c1W⟩⟩, ⟨⟨c2N, c2V, c2C, c2L⟩, ⟨c2R, c2B, c2E, c2W⟩⟩, hrm1, hrm2⟩ := id hB
  have el : tg NN (lo : Int) 0 = (c : Int) := by rw [(ndM_get hM hlo).1, hl]; rfl
  have eh : tg NN (hi : Int) 0 = (c2 : Int) := by rw [(ndM_get hM hhi).1, hh]; rfl
  refine zx_aload_n (i := 0) dX0_join_0 rfl rfl ?_
  refine zx_getfield dX0_join_1 zf_X0_24 hbr rfl ?_
  refine zx_iload_n (i := 1) dX0_join_4 rfl rfl ?_
  refine zx_iconst (v := 0) dX0_join_5 rfl (z32_lit (by decide) (by decide)) ?_
  refine zx_iv (b := nd) (As := [zI (lo : Int), zI 0]) (st := []) (v := (some (zI (c : Int)))) (w1 := w) dX0_join_6 zc_X0_84 hnd (z_cls9 (by decide)) rfl rfl (Nat.le_of_ble_eq_true rfl) rfl (by have q := (c_X9_get (G := G) (d := d + 2) hnd (by decide) okN (lo : Int) 0); rw [el] at q; exact q) ?_
  refine zx_st (st1 := [zI (c : Int)]) rfl ?_
  refine zx_istore_n (i := 3) dX0_join_9 rfl (by decide) rfl ?_
  refine zx_L (L1 := [some (zR br), some (zI (lo : Int)), some (zI (hi : Int)), some (zI (c : Int)), none, none, none, none, none, none, none, none]) rfl ?_
  refine zx_aload_n (i := 0) dX0_join_10 rfl rfl ?_
  refine zx_getfield dX0_join_11 zf_X0_24 hbr rfl ?_
  refine zx_iload_n (i := 2) dX0_join_14 rfl rfl ?_
  refine zx_iconst (v := 0) dX0_join_15 rfl (z32_lit (by decide) (by decide)) ?_
  refine zx_iv (b := nd) (As := [zI (hi : Int), zI 0]) (st := []) (v := (some (zI (c2 : Int)))) (w1 := w) dX0_join_16 zc_X0_84 hnd (z_cls9 (by decide)) rfl rfl (Nat.le_of_ble_eq_true rfl) rfl (by have q := (c_X9_get (G := G) (d := d + 2) hnd (by decide) okN (hi : Int) 0); rw [eh] at q; exact q) ?_
  refine zx_st (st1 := [zI (c2 : Int)]) rfl ?_
  refine zx_pc (pc1 := 19) rfl ?_
  refine zx_istore (i := 4) dX0_join_19 (by decide) rfl ?_
  refine zx_L (L1 := [some (zR br), some (zI (lo : Int)), some (zI (hi : Int)), some (zI (c : Int)), some (zI (c2 : Int)), none, none, none, none, none, none, none]) rfl ?_
  refine zx_iload_n (i := 3) dX0_join_21 rfl rfl ?_
  refine zx_iconst (v := -1) dX0_join_22 rfl (z32_lit (by decide) (by decide)) ?_
  refine zx_icmp_eq (tgt := 36) dX0_join_23 (by decide) (fun h23 => absurd h23 (by omega)) (fun h23 => ?_)
  refine zx_iload (i := 4) dX0_join_26 rfl ?_
  refine zx_iconst (v := -1) dX0_join_28 rfl (z32_lit (by decide) (by decide)) ?_
  refine zx_icmp_eq (tgt := 36) dX0_join_29 (by decide) (fun h29 => absurd h29 (by omega)) (fun h29 => ?_)
  refine zx_iconst (v := 1) dX0_join_32 rfl (z32_lit (by decide) (by decide)) ?_
  refine zx_goto (tgt := 37) dX0_join_33 (by decide) ?_
  refine zx_istore (i := 5) dX0_join_37 (by decide) rfl ?_
  refine zx_L (L1 := [some (zR br), some (zI (lo : Int)), some (zI (hi : Int)), some (zI (c : Int)), some (zI (c2 : Int)), some (zI 1), none, none, none, none, none, none]) rfl ?_
  refine zx_iload (i := 5) dX0_join_39 rfl ?_
  refine zx_if_eq (tgt := 60) dX0_join_41 (by decide) (fun h41 => absurd h41 (by decide)) (fun h41 => ?_)
  refine zx_pc (pc1 := 44) rfl ?_
  refine zx_iload_n (i := 3) dX0_join_44 rfl rfl ?_
  refine zx_iload (i := 4) dX0_join_45 rfl ?_
  refine zx_icmp_ne (tgt := 58) dX0_join_47 (by decide) (fun h47 => ?_) (fun h47 => absurd (by omega) h47)
  refine zx_iconst (v := 0) dX0_join_58 rfl (z32_lit (by decide) (by decide)) ?_
  refine zx_zret dX0_join_59 rfl (by first | exact Or.inl rfl | exact Or.inr rfl | exact zB_or | assumption) ?_
  exact zr_i rfl
theorem jn_lt (hB : bbW w b1 b2 ((br, pg, t), (nd, va, ce, li), (ro, bi, le, wk)) (((cN, NN), (cV, VV), (cC, CC), (cL, LL)), ((cR, RR), (cB, BB), (cE, EE), (cW, WW)), ((g : Int), fr, tk, rs, (rd : Int)))) (hG1 : b1 + 1800000 ≤ 30 * G.2.2.2.2.1) (hG2 : b2 + 3700000 ≤ G.2.2.2.2.2) (hT : tmW w t tc tn th tz ty C3 TN TH TS) (hM : ndM NN N bd mk) (hlo : lo < N.length) (hhi : hi < N.length) (hBl : BB.length < 234500) (hWl : WW.length < 6000) {c : Nat} (hl : bhd N lo = some c) (hh : bhd N hi = some c) (hg : hi < g) : zM G zm_X0_join (d + 3) [zR br, zI (lo : Int), zI (hi : Int)] w (zRet (some (zI 0)) w) := by
  refine zx_ent (by decide +kernel) rfl (Nat.le_of_ble_eq_true rfl) ?_
  refine zx_L (L1 := [some (zR br), some (zI (lo : Int)), some (zI (hi : Int)), none, none, none, none, none, none, none, none, none]) rfl ?_
  obtain ⟨hbr, ⟨⟨hnd, okN⟩, ⟨hva, okV⟩, ⟨hce, okC⟩, ⟨hli, okL⟩⟩, ⟨⟨hro, okR⟩, ⟨hbi, okB⟩, ⟨hle, okE⟩, ⟨hwk, okW⟩⟩, ⟨⟨c1N, c1V, c1C, c1L⟩, ⟨c1R, c1B, c1E, c1W⟩⟩, ⟨⟨c2N, c2V, c2C, c2L⟩, ⟨c2R, c2B, c2E, c2W⟩⟩, hrm1, hrm2⟩ := id hB
  have el : tg NN (lo : Int) 0 = (c : Int) := by rw [(ndM_get hM hlo).1, hl]; rfl
  have eh : tg NN (hi : Int) 0 = (c : Int) := by rw [(ndM_get hM hhi).1, hh]; rfl

  refine zx_aload_n (i := 0) dX0_join_0 rfl rfl ?_
  refine zx_getfield dX0_join_1 zf_X0_24 hbr rfl ?_
  refine zx_iload_n (i := 1) dX0_join_4 rfl rfl ?_
  refine zx_iconst (v := 0) dX0_join_5 rfl (z32_lit (by decide) (by decide)) ?_
  refine zx_iv (b := nd) (As := [zI (lo : Int), zI 0]) (st := []) (v := (some (zI (c : Int)))) (w1 := w) dX0_join_6 zc_X0_84 hnd (z_cls9 (by decide)) rfl rfl (Nat.le_of_ble_eq_true rfl) rfl (by have q := (c_X9_get (G := G) (d := d + 2) hnd (by decide) okN (lo : Int) 0); rw [el] at q; exact q) ?_
  refine zx_st (st1 := [zI (c : Int)]) rfl ?_
  refine zx_istore_n (i := 3) dX0_join_9 rfl (by decide) rfl ?_
  refine zx_L (L1 := [some (zR br), some (zI (lo : Int)), some (zI (hi : Int)), some (zI (c : Int)), none, none, none, none, none, none, none, none]) rfl ?_
  refine zx_aload_n (i := 0) dX0_join_10 rfl rfl ?_
  refine zx_getfield dX0_join_11 zf_X0_24 hbr rfl ?_
  refine zx_iload_n (i := 2) dX0_join_14 rfl rfl ?_
  refine zx_iconst (v := 0) dX0_join_15 rfl (z32_lit (by decide) (by decide)) ?_
  refine zx_iv (b := nd) (As := [zI (hi : Int), zI 0]) (st := []) (v := (some (zI (c : Int)))) (w1 := w) dX0_join_16 zc_X0_84 hnd (z_cls9 (by decide)) rfl rfl (Nat.le_of_ble_eq_true rfl) rfl (by have q := (c_X9_get (G := G) (d := d + 2) hnd (by decide) okN (hi : Int) 0); rw [eh] at q; exact q) ?_
  refine zx_st (st1 := [zI (c : Int)]) rfl ?_
  refine zx_pc (pc1 := 19) rfl ?_
  refine zx_istore (i := 4) dX0_join_19 (by decide) rfl ?_
  refine zx_L (L1 := [some (zR br), some (zI (lo : Int)), some (zI (hi : Int)), some (zI (c : Int)), some (zI (c : Int)), none, none, none, none, none, none, none]) rfl ?_
  refine zx_iload_n (i := 3) dX0_join_21 rfl rfl ?_
  refine zx_iconst (v := -1) dX0_join_22 rfl (z32_lit (by decide) (by decide)) ?_
  refine zx_icmp_eq (tgt := 36) dX0_join_23 (by decide) (fun h23 => absurd h23 (by omega)) (fun h23 => ?_)
  refine zx_iload (i := 4) dX0_join_26 rfl ?_
  refine zx_iconst (v := -1) dX0_join_28 rfl (z32_lit (by decide) (by decide)) ?_
  refine zx_icmp_eq (tgt := 36) dX0_join_29 (by decide) (fun h29 => absurd h29 (by omega)) (fun h29 => ?_)
  refine zx_iconst (v := 1) dX0_join_32 rfl (z32_lit (by decide) (by decide)) ?_
  refine zx_goto (tgt := 37) dX0_join_33 (by decide) ?_
  refine zx_istore (i := 5) dX0_join_37 (by decide) rfl ?_
  refine zx_L (L1 := [some (zR br), some (zI (lo : Int)), some (zI (hi : Int)), some (zI (c : Int)), some (zI (c : Int)), some (zI 1), none, none, none, none, none, none]) rfl ?_
  refine zx_iload (i := 5) dX0_join_39 rfl ?_
  refine zx_if_eq (tgt := 60) dX0_join_41 (by decide) (fun h41 => absurd h41 (by decide)) (fun h41 => ?_)
  refine zx_pc (pc1 := 44) rfl ?_
  refine zx_iload_n (i := 3) dX0_join_44 rfl rfl ?_
  refine zx_iload (i := 4) dX0_join_45 rfl ?_
  refine zx_icmp_ne (tgt := 58) dX0_join_47 (by decide) (fun h47 => absurd h47 (by omega)) (fun h47 => ?_)
  refine zx_iload_n (i := 2) dX0_join_50 rfl rfl ?_
  refine zx_aload_n (i := 0) dX0_join_51 rfl rfl ?_
  refine zx_getfield dX0_join_52 zf_X0_117 hbr rfl ?_
  refine zx_icmp_ge (tgt := 60) dX0_join_55 (by decide) (fun h55 => absurd h55 (by omega)) (fun h55 => ?_)
  refine zx_iconst (v := 0) dX0_join_58 rfl (z32_lit (by decide) (by decide)) ?_
  refine zx_zret dX0_join_59 rfl (by first | exact Or.inl rfl | exact Or.inr rfl | exact zB_or | assumption) ?_
  exact zr_i rfl
/-- two nodes that clash -/
theorem c_join_f (hB : bbW w b1 b2 ((br, pg, t), (nd, va, ce, li), (ro, bi, le, wk)) (((cN, NN), (cV, VV), (cC, CC), (cL, LL)), ((cR, RR), (cB, BB), (cE, EE), (cW, WW)), ((g : Int), fr, tk, rs, (rd : Int)))) (hG1 : b1 + 1800000 ≤ 30 * G.2.2.2.2.1) (hG2 : b2 + 3700000 ≤ G.2.2.2.2.2) (hT : tmW w t tc tn th tz ty C3 TN TH TS) (hM : ndM NN N bd mk) (hlo : lo < N.length) (hhi : hi < N.length) (hBl : BB.length < 234500) (hWl : WW.length < 6000) (hc : bClash N g lo hi) : zM G zm_X0_join (d + 3) [zR br, zI (lo : Int), zI (hi : Int)] w (zRet (some (zI 0)) w) := by
  obtain ⟨c, c2, h1, h2, h3⟩ := hc
  by_cases e : c = c2
  · subst e
    exact jn_lt hB hG1 hG2 hT hM hlo hhi hBl hWl h1 h2 (h3.resolve_left (fun q => q rfl))
  · exact jn_ne hB hG1 hG2 hT hM hlo hhi hBl hWl h1 h2 e
/-- two nodes that do not -/
theorem c_join_t (hB : bbW w b1 b2 ((br, pg, t), (nd, va, ce, li), (ro, bi, le, wk)) (((cN, NN), (cV, VV), (cC, CC), (cL, LL)), ((cR, RR), (cB, BB), (cE, EE), (cW, WW)), ((g : Int), fr, tk, rs, (rd : Int)))) (hG1 : b1 + 1800000 ≤ 30 * G.2.2.2.2.1) (hG2 : b2 + 3700000 ≤ G.2.2.2.2.2) (hT : tmW w t tc tn th tz ty C3 TN TH TS) (hM : ndM NN N bd mk) (hlo : lo < N.length) (hhi : hi < N.length) (hBl : BB.length < 234500) (hWl : WW.length < 6000) (hcc : ∀ n c, bhd N n = some c → c < 3) (hc : ¬ bClash N g lo hi) : zM G zm_X0_join (d + 3) [zR br, zI (lo : Int), zI (hi : Int)] w (zVal fun o w' => o = zI 1 ∧ (∃ (cB' cW' : Nat), bbW w' b1 b2 ((br, pg, t), (nd, va, ce, li), (ro, bi, le, wk)) (((cN, (ts NN ((bDir N lo hi).1 : Int) 3 ((bDir N lo hi).2 : Int))), (cV, VV), (cC, CC), (cL, LL)), ((cR, RR), (cB', (BB ++ [[((bDir N lo hi).1 : Int), ((bDir N lo hi).2 : Int)]])), (cE, EE), (cW', (WW ++ if bhd N lo = some 1 ∧ bhd N hi ≠ none then [[(bfs N lo : Int), (bfs N hi : Int), -1]] else []))), ((g : Int), fr, tk, rs, (rd : Int)))) ∧ zFr TB w w') := by
  cases hl : bhd N lo with
  | none => cases hh : bhd N hi with
    | none =>
      refine zM_mono (jn_nn hB hG1 hG2 hT hM hlo hhi hBl hWl hl hh) (fun oo w' q => ?_)
      obtain ⟨v, e1, e2, hB9, hF9⟩ := q
      have ed : bDir N lo hi = (hi, lo) := by unfold bDir; rw [if_neg (by rw [hh]; simp)]
      rw [ed, if_neg (by simp), List.append_nil]
      exact ⟨v, e1, e2, ⟨_, _, hB9⟩, hF9⟩
    | some c =>
      refine zM_mono (jn_up hB hG1 hG2 hT hM hlo hhi hBl hWl hl hh) (fun oo w' q => ?_)
      obtain ⟨v, e1, e2, hB9, hF9⟩ := q
      have ed : bDir N lo hi = (lo, hi) := by unfold bDir; rw [if_pos ⟨hl, by rw [hh]; simp⟩]
      rw [ed, if_neg (by simp), List.append_nil]
      exact ⟨v, e1, e2, ⟨_, _, hB9⟩, hF9⟩
  | some c =>
    have ed : bDir N lo hi = (hi, lo) := by unfold bDir; rw [if_neg (by rw [hl]; simp)]
    cases hh : bhd N hi with
    | none =>
      refine zM_mono (jn_dn hB hG1 hG2 hT hM hlo hhi hBl hWl hl hh) (fun oo w' q => ?_)
      obtain ⟨v, e1, e2, hB9, hF9⟩ := q
      rw [ed, if_neg (by simp), List.append_nil]
      exact ⟨v, e1, e2, ⟨_, _, hB9⟩, hF9⟩
    | some c2 =>
      have e : c = c2 := Classical.byContradiction fun q => hc ⟨c, c2, hl, hh, Or.inl q⟩
      subst e
      have hg : g ≤ hi := Classical.byContradiction fun q => hc ⟨c, c, hl, hh, Or.inr (by omega)⟩
      by_cases c1 : c = 1
      · subst c1
        refine zM_mono (jn_e1 hB hG1 hG2 hT hM hlo hhi hBl hWl hl hh hg) (fun oo w' q => ?_)
        obtain ⟨v, e1, e2, hB9, hF9⟩ := q
        rw [ed, if_pos ⟨rfl, by simp⟩]
        exact ⟨v, e1, e2, ⟨_, _, hB9⟩, hF9⟩
      · refine zM_mono (jn_eq hB hG1 hG2 hT hM hlo hhi hBl hWl hl hh ⟨hcc lo c hl, c1⟩ hg) (fun oo w' q => ?_)
        obtain ⟨v, e1, e2, hB9, hF9⟩ := q
        rw [ed, if_neg (fun q => c1 (Option.some.inj q.1)), List.append_nil]
        exact ⟨v, e1, e2, ⟨_, _, hB9⟩, hF9⟩
variable {x0 y0 x y a b : Nat} {o4 o5 o6 : Option zV}
theorem un_eq (hB : bbW w b1 b2 ((br, pg, t), (nd, va, ce, li), (ro, bi, le, wk)) (((cN, NN), (cV, VV), (cC, CC), (cL, LL)), ((cR, RR), (cB, BB), (cE, EE), (cW, [[(x : Int), (y : Int), -1]])), ((g : Int), fr, tk, rs, (rd : Int)))) (hG1 : b1 + 1800000 ≤ 30 * G.2.2.2.2.1) (hG2 : b2 + 3700000 ≤ G.2.2.2.2.2) (hT : tmW w t tc tn th tz ty C3 TN TH TS) (hM : ndM NN N bd mk) (hk : bWk N g bd) (hN : N.length ≤ 4000) (hq : q < 900000) (hx : x < N.length) (hy : y < N.length) (ha : bRp bd x a) (hb : bRp bd y b) (hab : a = b) (k : ∀ (o4 o5 o6 : Option zV) (w' : zW), bbW w' b1 b2 ((br, pg, t), (nd, va, ce, li), (ro, bi, le, wk)) (((cN, NN), (cV, VV), (cC, CC), (cL, LL)), ((cR, RR), (cB, BB), (cE, EE), (cW, ([] : List (List Int)))), ((g : Int), fr, tk, rs, (rd : Int))) → zFr TB w w' → zX G zm_X0_unify (d + 4) [zR br, zI (x0 : Int), zI (y0 : Int)] w0 (zVal PQ) 21 [some (zR br), some (zI (x0 : Int)), some (zI (y0 : Int)), some (zI ((q + 1 : Nat) : Int)), o4, o5, o6] [] w') : zX G zm_X0_unify (d + 4) [zR br, zI (x0 : Int), zI (y0 : Int)] w0 (zVal PQ) 21 [some (zR br), some (zI (x0 : Int)), some (zI (y0 : Int)), some (zI (q : Int)), o4, o5, o6] [] w := by
  have hg0 : tg [[(x : Int), (y : Int), -1]] 0 0 = (x : Int) := rfl
  have hg1 : tg [[(x : Int), (y : Int), -1]] 0 1 = (y : Int) := rfl
  obtain ⟨hbr, ⟨⟨hnd, okN⟩, ⟨hva, okV⟩, ⟨hce, okC⟩, ⟨hli, okL⟩⟩, ⟨⟨hro, okR⟩, ⟨hbi, okB⟩, ⟨hle, okE⟩, ⟨hwk, okW⟩⟩, ⟨⟨c1N, c1V, c1C, c1L⟩, ⟨c1R, c1B, c1E, c1W⟩⟩, ⟨⟨c2N, c2V, c2C, c2L⟩, ⟨c2R, c2B, c2E, c2W⟩⟩, hrm1, hrm2⟩ := id hB
  refine zx_iload_n (i := 3) dX0_unify_21 rfl rfl ?_
  refine zx_ldc (v := 1000000) dX0_unify_22 zk_X0_65 (by decide +kernel) (z32_lit (by decide) (by decide)) ?_
  refine zx_icmp_ge (tgt := 125) dX0_unify_24 (by decide) (fun h24 => absurd h24 (by omega)) (fun h24 => ?_)
  refine zx_aload_n (i := 0) dX0_unify_27 rfl rfl ?_
  refine zx_getfield dX0_unify_28 zf_X0_46 hbr rfl ?_
  refine zx_iv (b := wk) (As := []) (st := []) (v := (some (zI 1))) (w1 := w) dX0_unify_31 zc_X0_70 hwk (z_cls9 (by decide)) rfl rfl (Nat.le_of_ble_eq_true rfl) rfl (by have q := (c_X9_count (G := G) (d := d + 3) hwk (by decide) okW); exact q) ?_
  refine zx_st (st1 := [zI 1]) rfl ?_
  refine zx_if_le (tgt := 125) dX0_unify_34 (by decide) (fun h34 => absurd h34 (by decide)) (fun h34 => ?_)
  refine zx_aload_n (i := 0) dX0_unify_37 rfl rfl ?_
  refine zx_getfield dX0_unify_38 zf_X0_46 hbr rfl ?_
  refine zx_iv (b := wk) (As := []) (st := []) (v := (some (zI 1))) (w1 := w) dX0_unify_41 zc_X0_70 hwk (z_cls9 (by decide)) rfl rfl (Nat.le_of_ble_eq_true rfl) rfl (by have q := (c_X9_count (G := G) (d := d + 3) hwk (by decide) okW); exact q) ?_
  refine zx_st (st1 := [zI 1]) rfl ?_
  refine zx_iconst (v := 1) dX0_unify_44 rfl (z32_lit (by decide) (by decide)) ?_
  refine zx_pc (pc1 := 45) rfl ?_
  refine zx_isub (v := 0) dX0_unify_45 (by decide +kernel) ?_
  refine zx_istore (i := 4) dX0_unify_46 (by decide) rfl ?_
  refine zx_L (L1 := [some (zR br), some (zI (x0 : Int)), some (zI (y0 : Int)), some (zI (q : Int)), some (zI 0), o5, o6]) rfl ?_
  refine zx_aload_n (i := 0) dX0_unify_48 rfl rfl ?_
  refine zx_aload_n (i := 0) dX0_unify_49 rfl rfl ?_
  refine zx_getfield dX0_unify_50 zf_X0_46 hbr rfl ?_
  refine zx_iload (i := 4) dX0_unify_53 rfl ?_
  refine zx_iconst (v := 0) dX0_unify_55 rfl (z32_lit (by decide) (by decide)) ?_
  refine zx_iv (b := wk) (As := [zI 0, zI 0]) (st := [zR br]) (v := (some (zI (x : Int)))) (w1 := w) dX0_unify_56 zc_X0_84 hwk (z_cls9 (by decide)) rfl rfl (Nat.le_of_ble_eq_true rfl) rfl (by have q := (c_X9_get (G := G) (d := d + 3) hwk (by decide) okW 0 0); rw [hg0] at q; exact q) ?_
  refine zx_st (st1 := [zI (x : Int), zR br]) rfl ?_
  refine zx_iv (b := br) (As := [zI (x : Int)]) (st := []) (v := (some (zI (a : Int)))) (w1 := w) dX0_unify_59 zc_X0_237 hbr rfl rfl rfl (Nat.le_of_ble_eq_true rfl) rfl (c_find hB hM hk (by omega) hx ha) ?_
  refine zx_st (st1 := [zI (a : Int)]) rfl ?_
  refine zx_istore (i := 5) dX0_unify_62 (by decide) rfl ?_
  refine zx_L (L1 := [some (zR br), some (zI (x0 : Int)), some (zI (y0 : Int)), some (zI (q : Int)), some (zI 0), some (zI (a : Int)), o6]) rfl ?_
  refine zx_aload_n (i := 0) dX0_unify_64 rfl rfl ?_
  refine zx_aload_n (i := 0) dX0_unify_65 rfl rfl ?_
  refine zx_pc (pc1 := 66) rfl ?_
  refine zx_getfield dX0_unify_66 zf_X0_46 hbr rfl ?_
  refine zx_iload (i := 4) dX0_unify_69 rfl ?_
  refine zx_iconst (v := 1) dX0_unify_71 rfl (z32_lit (by decide) (by decide)) ?_
  refine zx_iv (b := wk) (As := [zI 0, zI 1]) (st := [zR br]) (v := (some (zI (y : Int)))) (w1 := w) dX0_unify_72 zc_X0_84 hwk (z_cls9 (by decide)) rfl rfl (Nat.le_of_ble_eq_true rfl) rfl (by have q := (c_X9_get (G := G) (d := d + 3) hwk (by decide) okW 0 1); rw [hg1] at q; exact q) ?_
  refine zx_st (st1 := [zI (y : Int), zR br]) rfl ?_
  refine zx_iv (b := br) (As := [zI (y : Int)]) (st := []) (v := (some (zI (b : Int)))) (w1 := w) dX0_unify_75 zc_X0_237 hbr rfl rfl rfl (Nat.le_of_ble_eq_true rfl) rfl (c_find hB hM hk (by omega) hy hb) ?_
  refine zx_st (st1 := [zI (b : Int)]) rfl ?_
  refine zx_istore (i := 6) dX0_unify_78 (by decide) rfl ?_
  refine zx_L (L1 := [some (zR br), some (zI (x0 : Int)), some (zI (y0 : Int)), some (zI (q : Int)), some (zI 0), some (zI (a : Int)), some (zI (b : Int))]) rfl ?_
  refine zx_aload_n (i := 0) dX0_unify_80 rfl rfl ?_
  refine zx_getfield dX0_unify_81 zf_X0_46 hbr rfl ?_
  refine zx_iload (i := 4) dX0_unify_84 rfl ?_
  obtain ⟨w_1, hw_2⟩ : ∃ ww, ww = zput w wk (147, br, tTb 3 cW ([] : List (List Int))) := ⟨_, rfl⟩
  have q_3 : w_1.2.1 = w.2.1 ∧ w_1.2.2 = w.2.2 := by rw [hw_2]; exact ⟨rfl, rfl⟩
  have h_4 : w_1.1 wk = some (147, br, tTb 3 cW ([] : List (List Int))) := by rw [hw_2]; exact zput_at
  refine zx_iv (b := wk) (As := [zI 0]) (st := []) (v := none) (w1 := w_1) dX0_unify_86 zc_X0_92 hwk (z_cls9 (by decide)) rfl rfl (Nat.le_of_ble_eq_true rfl) rfl (by rw [hw_2]; exact (by have q := c_X9_cut (G := G) (d := d + 3) hwk (by decide) okW 0; rw [tcut_0] at q; exact q)) ?_
  refine zx_st (st1 := []) rfl ?_
  refine zx_iload (i := 5) dX0_unify_89 rfl ?_
  refine zx_iload (i := 6) dX0_unify_91 rfl ?_
  refine zx_pc (pc1 := 93) rfl ?_
  refine zx_icmp_eq (tgt := 119) dX0_unify_93 (by decide) (fun h93 => ?_) (fun h93 => absurd (by omega) h93)
  refine zx_iinc (i := 3) (v := ((q + 1 : Nat) : Int)) dX0_unify_119 rfl (zw_eq (by omega) (by omega) (by omega)) (by decide) rfl ?_
  refine zx_L (L1 := [some (zR br), some (zI (x0 : Int)), some (zI (y0 : Int)), some (zI ((q + 1 : Nat) : Int)), some (zI 0), some (zI (a : Int)), some (zI (b : Int))]) rfl ?_
  refine zx_goto (tgt := 21) dX0_unify_122 (by decide) ?_
  have hfaL9 : zFa [wk] w w_1 := (zFa_put zFa_re (by simp) hw_2)
  have hF9 : zFr TB w w_1 := zFr_fa hfaL9 (zLc hwk (by simp) zLn)
  have h_5 : w_1.1 nd = some (140, br, tTb 5 cN NN) := by
    rw [hw_2]; exact zput_tg hwk hnd (by simp)
  have h_6 : w_1.1 va = some (141, br, tTb 1 cV VV) := by
    rw [hw_2]; exact zput_tg hwk hva (by simp)
  have h_7 : w_1.1 ce = some (142, br, tTb 3 cC CC) := by
    rw [hw_2]; exact zput_tg hwk hce (by simp)
  have h_8 : w_1.1 li = some (143, br, tTb 4 cL LL) := by
    rw [hw_2]; exact zput_tg hwk hli (by simp)
  have h_9 : w_1.1 ro = some (144, br, tTb 6 cR RR) := by
    rw [hw_2]; exact zput_tg hwk hro (by simp)
  have h_10 : w_1.1 bi = some (145, br, tTb 2 cB BB) := by
    rw [hw_2]; exact zput_tg hwk hbi (by simp)
  have h_11 : w_1.1 le = some (146, br, tTb 4 cE EE) := by
    rw [hw_2]; exact zput_tg hwk hle (by simp)
  have h_12 : w_1.1 br = some (0, 0, [zR pg, zR t, zR nd, zI (g : Int), zR va, zR ce, zR li, zR ro, zI fr, zR bi, zR le, zR wk, zI tk, zI rs, zI (rd : Int)]) := by
    rw [hw_2]; exact zput_tg hwk hbr (by simp)
  have hB9 : bbW w_1 b1 b2 ((br, pg, t), (nd, va, ce, li), (ro, bi, le, wk)) (((cN, NN), (cV, VV), (cC, CC), (cL, LL)), ((cR, RR), (cB, BB), (cE, EE), (cW, ([] : List (List Int)))), ((g : Int), fr, tk, rs, (rd : Int))) := ⟨h_12, ⟨⟨h_5, okN⟩, ⟨h_6, okV⟩, ⟨h_7, okC⟩, ⟨h_8, okL⟩⟩, ⟨⟨h_9, okR⟩, ⟨h_10, okB⟩, ⟨h_11, okE⟩, ⟨h_4, (tOk_nil (by decide))⟩⟩, ⟨⟨by omega, by omega, by omega, by omega⟩, ⟨by omega, by omega, by omega, by omega⟩⟩, ⟨⟨by omega, by omega, by omega, by omega⟩, ⟨by omega, by omega, by omega, by omega⟩⟩, by omega, by omega⟩
  exact k _ _ _ _ hB9 hF9
theorem un_no (hB : bbW w b1 b2 ((br, pg, t), (nd, va, ce, li), (ro, bi, le, wk)) (((cN, NN), (cV, VV), (cC, CC), (cL, LL)), ((cR, RR), (cB, BB), (cE, EE), (cW, [[(x : Int), (y : Int), -1]])), ((g : Int), fr, tk, rs, (rd : Int)))) (hG1 : b1 + 1800000 ≤ 30 * G.2.2.2.2.1) (hG2 : b2 + 3700000 ≤ G.2.2.2.2.2) (hT : tmW w t tc tn th tz ty C3 TN TH TS) (hM : ndM NN N bd mk) (hk : bWk N g bd) (hN : N.length ≤ 4000) (hq : q < 900000) (hx : x < N.length) (hy : y < N.length) (ha : bRp bd x a) (hb : bRp bd y b) (hab : a ≠ b) (hBl : BB.length < 234500) (hc : bClash N g (min a b) (max a b)) (k : ∀ w', bbW w' b1 b2 ((br, pg, t), (nd, va, ce, li), (ro, bi, le, wk)) (((cN, NN), (cV, VV), (cC, CC), (cL, LL)), ((cR, RR), (cB, BB), (cE, EE), (cW, ([] : List (List Int)))), ((g : Int), fr, tk, rs, (rd : Int))) → zFr TB w w' → PQ (zI 0) w') : zX G zm_X0_unify (d + 4) [zR br, zI (x0 : Int), zI (y0 : Int)] w0 (zVal PQ) 21 [some (zR br), some (zI (x0 : Int)), some (zI (y0 : Int)), some (zI (q : Int)), o4, o5, o6] [] w := by
  have hg0 : tg [[(x : Int), (y : Int), -1]] 0 0 = (x : Int) := rfl
  have hg1 : tg [[(x : Int), (y : Int), -1]] 0 1 = (y : Int) := rfl
  have hmin : min (a : Int) (b : Int) = ((min a b : Nat) : Int) := by omega
  have hmax : max (a : Int) (b : Int) = ((max a b : Nat) : Int) := by omega
  have la := bRp_lt hk hx ha
  have lb := bRp_lt hk hy hb
  obtain ⟨hbr, ⟨⟨hnd, okN⟩, ⟨hva, okV⟩, ⟨hce, okC⟩, ⟨hli, okL⟩⟩, ⟨⟨hro, okR⟩, ⟨hbi, okB⟩, ⟨hle, okE⟩, ⟨hwk, okW⟩⟩, ⟨⟨c1N, c1V, c1C, c1L⟩, ⟨c1R, c1B, c1E, c1W⟩⟩, ⟨⟨c2N, c2V, c2C, c2L⟩, ⟨c2R, c2B, c2E, c2W⟩⟩, hrm1, hrm2⟩ := id hB
  refine zx_iload_n (i := 3) dX0_unify_21 rfl rfl ?_
  refine zx_ldc (v := 1000000) dX0_unify_22 zk_X0_65 (by decide +kernel) (z32_lit (by decide) (by decide)) ?_
  refine zx_icmp_ge (tgt := 125) dX0_unify_24 (by decide) (fun h24 => absurd h24 (by omega)) (fun h24 => ?_)
  refine zx_aload_n (i := 0) dX0_unify_27 rfl rfl ?_
  refine zx_getfield dX0_unify_28 zf_X0_46 hbr rfl ?_
  refine zx_iv (b := wk) (As := []) (st := []) (v := (some (zI 1))) (w1 := w) dX0_unify_31 zc_X0_70 hwk (z_cls9 (by decide)) rfl rfl (Nat.le_of_ble_eq_true rfl) rfl (by have q := (c_X9_count (G := G) (d := d + 3) hwk (by decide) okW); exact q) ?_
  refine zx_st (st1 := [zI 1]) rfl ?_
  refine zx_if_le (tgt := 125) dX0_unify_34 (by decide) (fun h34 => absurd h34 (by decide)) (fun h34 => ?_)
  refine zx_aload_n (i := 0) dX0_unify_37 rfl rfl ?_
  refine zx_getfield dX0_unify_38 zf_X0_46 hbr rfl ?_
  refine zx_iv (b := wk) (As := []) (st := []) (v := (some (zI 1))) (w1 := w) dX0_unify_41 zc_X0_70 hwk (z_cls9 (by decide)) rfl rfl (Nat.le_of_ble_eq_true rfl) rfl (by have q := (c_X9_count (G := G) (d := d + 3) hwk (by decide) okW); exact q) ?_
  refine zx_st (st1 := [zI 1]) rfl ?_
  refine zx_iconst (v := 1) dX0_unify_44 rfl (z32_lit (by decide) (by decide)) ?_
  refine zx_pc (pc1 := 45) rfl ?_
  refine zx_isub (v := 0) dX0_unify_45 (by decide +kernel) ?_
  refine zx_istore (i := 4) dX0_unify_46 (by decide) rfl ?_
  refine zx_L (L1 := [some (zR br), some (zI (x0 : Int)), some (zI (y0 : Int)), some (zI (q : Int)), some (zI 0), o5, o6]) rfl ?_
  refine zx_aload_n (i := 0) dX0_unify_48 rfl rfl ?_
  refine zx_aload_n (i := 0) dX0_unify_49 rfl rfl ?_
  refine zx_getfield dX0_unify_50 zf_X0_46 hbr rfl ?_
  refine zx_iload (i := 4) dX0_unify_53 rfl ?_
  refine zx_iconst (v := 0) dX0_unify_55 rfl (z32_lit (by decide) (by decide)) ?_
  refine zx_iv (b := wk) (As := [zI 0, zI 0]) (st := [zR br]) (v := (some (zI (x : Int)))) (w1 := w) dX0_unify_56 zc_X0_84 hwk (z_cls9 (by decide)) rfl rfl (Nat.le_of_ble_eq_true rfl) rfl (by have q := (c_X9_get (G := G) (d := d + 3) hwk (by decide) okW 0 0); rw [hg0] at q; exact q) ?_
  refine zx_st (st1 := [zI (x : Int), zR br]) rfl ?_
  refine zx_iv (b := br) (As := [zI (x : Int)]) (st := []) (v := (some (zI (a : Int)))) (w1 := w) dX0_unify_59 zc_X0_237 hbr rfl rfl rfl (Nat.le_of_ble_eq_true rfl) rfl (c_find hB hM hk (by omega) hx ha) ?_
  refine zx_st (st1 := [zI (a : Int)]) rfl ?_
  refine zx_istore (i := 5) dX0_unify_62 (by decide) rfl ?_
  refine zx_L (L1 := [some (zR br), some (zI (x0 : Int)), some (zI (y0 : Int)), some (zI (q : Int)), some (zI 0), some (zI (a : Int)), o6]) rfl ?_
  refine zx_aload_n (i := 0) dX0_unify_64 rfl rfl ?_
  refine zx_aload_n (i := 0) dX0_unify_65 rfl rfl ?_
  refine zx_pc (pc1 := 66) rfl ?_
  refine zx_getfield dX0_unify_66 zf_X0_46 hbr rfl ?_
  refine zx_iload (i := 4) dX0_unify_69 rfl ?_
  refine zx_iconst (v := 1) dX0_unify_71 rfl (z32_lit (by decide) (by decide)) ?_
  refine zx_iv (b := wk) (As := [zI 0, zI 1]) (st := [zR br]) (v := (some (zI (y : Int)))) (w1 := w) dX0_unify_72 zc_X0_84 hwk (z_cls9 (by decide)) rfl rfl (Nat.le_of_ble_eq_true rfl) rfl (by have q := (c_X9_get (G := G) (d := d + 3) hwk (by decide) okW 0 1); rw [hg1] at q; exact q) ?_
  refine zx_st (st1 := [zI (y : Int), zR br]) rfl ?_
  refine zx_iv (b := br) (As := [zI (y : Int)]) (st := []) (v := (some (zI (b : Int)))) (w1 := w) dX0_unify_75 zc_X0_237 hbr rfl rfl rfl (Nat.le_of_ble_eq_true rfl) rfl (c_find hB hM hk (by omega) hy hb) ?_
  refine zx_st (st1 := [zI (b : Int)]) rfl ?_
  refine zx_istore (i := 6) dX0_unify_78 (by decide) rfl ?_
  refine zx_L (L1 := [some (zR br), some (zI (x0 : Int)), some (zI (y0 : Int)), some (zI (q : Int)), some (zI 0), some (zI (a : Int)), some (zI (b : Int))]) rfl ?_
  refine zx_aload_n (i := 0) dX0_unify_80 rfl rfl ?_
  refine zx_getfield dX0_unify_81 zf_X0_46 hbr rfl ?_
  refine zx_iload (i := 4) dX0_unify_84 rfl ?_
  obtain ⟨w_1, hw_2⟩ : ∃ ww, ww = zput w wk (147, br, tTb 3 cW ([] : List (List Int))) := ⟨_, rfl⟩
  have q_3 : w_1.2.1 = w.2.1 ∧ w_1.2.2 = w.2.2 := by rw [hw_2]; exact ⟨rfl, rfl⟩
  have h_4 : w_1.1 wk = some (147, br, tTb 3 cW ([] : List (List Int))) := by rw [hw_2]; exact zput_at
  refine zx_iv (b := wk) (As := [zI 0]) (st := []) (v := none) (w1 := w_1) dX0_unify_86 zc_X0_92 hwk (z_cls9 (by decide)) rfl rfl (Nat.le_of_ble_eq_true rfl) rfl (by rw [hw_2]; exact (by have q := c_X9_cut (G := G) (d := d + 3) hwk (by decide) okW 0; rw [tcut_0] at q; exact q)) ?_
  refine zx_st (st1 := []) rfl ?_
  refine zx_iload (i := 5) dX0_unify_89 rfl ?_
  refine zx_iload (i := 6) dX0_unify_91 rfl ?_
  refine zx_pc (pc1 := 93) rfl ?_
  refine zx_icmp_eq (tgt := 119) dX0_unify_93 (by decide) (fun h93 => absurd h93 (by omega)) (fun h93 => ?_)
  refine zx_aload_n (i := 0) dX0_unify_96 rfl rfl ?_
  refine zx_iload (i := 5) dX0_unify_97 rfl ?_
  refine zx_iload (i := 6) dX0_unify_99 rfl ?_
  refine zx_min (v := min (a : Int) (b : Int)) dX0_unify_101 zo_X0_240 zk_min1 zk_math zk_min2 (Nat.le_of_ble_eq_true rfl) rfl ?_
  refine zx_iload (i := 5) dX0_unify_104 rfl ?_
  refine zx_iload (i := 6) dX0_unify_106 rfl ?_
  refine zx_max (v := max (a : Int) (b : Int)) dX0_unify_108 zo_X0_245 zk_max1 zk_math zk_max2 (Nat.le_of_ble_eq_true rfl) rfl ?_
  have hfaLj : zFa [wk] w w_1 := (zFa_put zFa_re (by simp) hw_2)
  have hFj : zFr TB w w_1 := zFr_fa hfaLj (zLc hwk (by simp) zLn)
  have h_5 : w_1.1 nd = some (140, br, tTb 5 cN NN) := by
    rw [hw_2]; exact zput_tg hwk hnd (by simp)
  have h_6 : w_1.1 va = some (141, br, tTb 1 cV VV) := by
    rw [hw_2]; exact zput_tg hwk hva (by simp)
  have h_7 : w_1.1 ce = some (142, br, tTb 3 cC CC) := by
    rw [hw_2]; exact zput_tg hwk hce (by simp)
  have h_8 : w_1.1 li = some (143, br, tTb 4 cL LL) := by
    rw [hw_2]; exact zput_tg hwk hli (by simp)
  have h_9 : w_1.1 ro = some (144, br, tTb 6 cR RR) := by
    rw [hw_2]; exact zput_tg hwk hro (by simp)
  have h_10 : w_1.1 bi = some (145, br, tTb 2 cB BB) := by
    rw [hw_2]; exact zput_tg hwk hbi (by simp)
  have h_11 : w_1.1 le = some (146, br, tTb 4 cE EE) := by
    rw [hw_2]; exact zput_tg hwk hle (by simp)
  have h_12 : w_1.1 br = some (0, 0, [zR pg, zR t, zR nd, zI (g : Int), zR va, zR ce, zR li, zR ro, zI fr, zR bi, zR le, zR wk, zI tk, zI rs, zI (rd : Int)]) := by
    rw [hw_2]; exact zput_tg hwk hbr (by simp)
  have hBj : bbW w_1 b1 b2 ((br, pg, t), (nd, va, ce, li), (ro, bi, le, wk)) (((cN, NN), (cV, VV), (cC, CC), (cL, LL)), ((cR, RR), (cB, BB), (cE, EE), (cW, ([] : List (List Int)))), ((g : Int), fr, tk, rs, (rd : Int))) := ⟨h_12, ⟨⟨h_5, okN⟩, ⟨h_6, okV⟩, ⟨h_7, okC⟩, ⟨h_8, okL⟩⟩, ⟨⟨h_9, okR⟩, ⟨h_10, okB⟩, ⟨h_11, okE⟩, ⟨h_4, (tOk_nil (by decide))⟩⟩, ⟨⟨by omega, by omega, by omega, by omega⟩, ⟨by omega, by omega, by omega, by omega⟩⟩, ⟨⟨by omega, by omega, by omega, by omega⟩, ⟨by omega, by omega, by omega, by omega⟩⟩, by omega, by omega⟩
  have hTj := tmW_TB hT hFj
  refine zx_iv (b := br) (As := [zI (min (a : Int) (b : Int)), zI (max (a : Int) (b : Int))]) (st := []) (v := (some (zI 0))) (w1 := w_1) dX0_unify_111 zc_X0_248 h_12 rfl rfl rfl (Nat.le_of_ble_eq_true rfl) rfl (by have q := c_join_f (G := G) (d := d) (lo := min a b) (hi := max a b) hBj hG1 hG2 hTj hM (by omega) (by omega) hBl (by show 0 < 6000; omega) hc; rw [← hmin, ← hmax] at q; exact q) ?_
  refine zx_st (st1 := [zI 0]) rfl ?_
  refine zx_if_ne (tgt := 119) dX0_unify_114 (by decide) (fun h114 => absurd h114 (by decide)) (fun h114 => ?_)
  refine zx_iconst (v := 0) dX0_unify_117 rfl (z32_lit (by decide) (by decide)) ?_
  refine zx_zret dX0_unify_118 rfl (by first | exact Or.inl rfl | exact Or.inr rfl | exact zB_or | assumption) ?_
  have hfaL9 : zFa [wk] w w_1 := (zFa_put zFa_re (by simp) hw_2)
  have hF9 : zFr TB w w_1 := zFr_fa hfaL9 (zLc hwk (by simp) zLn)
  have hB9 : bbW w_1 b1 b2 ((br, pg, t), (nd, va, ce, li), (ro, bi, le, wk)) (((cN, NN), (cV, VV), (cC, CC), (cL, LL)), ((cR, RR), (cB, BB), (cE, EE), (cW, ([] : List (List Int)))), ((g : Int), fr, tk, rs, (rd : Int))) := ⟨h_12, ⟨⟨h_5, okN⟩, ⟨h_6, okV⟩, ⟨h_7, okC⟩, ⟨h_8, okL⟩⟩, ⟨⟨h_9, okR⟩, ⟨h_10, okB⟩, ⟨h_11, okE⟩, ⟨h_4, (tOk_nil (by decide))⟩⟩, ⟨⟨by omega, by omega, by omega, by omega⟩, ⟨by omega, by omega, by omega, by omega⟩⟩, ⟨⟨by omega, by omega, by omega, by omega⟩, ⟨by omega, by omega, by omega, by omega⟩⟩, by omega, by omega⟩
  exact ⟨_, rfl, k _ hB9 hF9⟩
theorem un_jn (hB : bbW w b1 b2 ((br, pg, t), (nd, va, ce, li), (ro, bi, le, wk)) (((cN, NN), (cV, VV), (cC, CC), (cL, LL)), ((cR, RR), (cB, BB), (cE, EE), (cW, [[(x : Int), (y : Int), -1]])), ((g : Int), fr, tk, rs, (rd : Int)))) (hG1 : b1 + 1800000 ≤ 30 * G.2.2.2.2.1) (hG2 : b2 + 3700000 ≤ G.2.2.2.2.2) (hT : tmW w t tc tn th tz ty C3 TN TH TS) (hM : ndM NN N bd mk) (hk : bWk N g bd) (hN : N.length ≤ 4000) (hq : q < 900000) (hx : x < N.length) (hy : y < N.length) (ha : bRp bd x a) (hb : bRp bd y b) (hab : a ≠ b) (hBl : BB.length < 234500) (hcc : ∀ n c, bhd N n = some c → c < 3) (hc : ¬ bClash N g (min a b) (max a b)) (k : ∀ (cB' cW' : Nat) (o4 o5 o6 : Option zV) (w' : zW), bbW w' b1 b2 ((br, pg, t), (nd, va, ce, li), (ro, bi, le, wk)) (((cN, (ts NN ((bDir N (min a b) (max a b)).1 : Int) 3 ((bDir N (min a b) (max a b)).2 : Int))), (cV, VV), (cC, CC), (cL, LL)), ((cR, RR), (cB', (BB ++ [[((bDir N (min a b) (max a b)).1 : Int), ((bDir N (min a b) (max a b)).2 : Int)]])), (cE, EE), (cW', (([] : List (List Int)) ++ if bhd N (min a b) = some 1 ∧ bhd N (max a b) ≠ none then [[(bfs N (min a b) : Int), (bfs N (max a b) : Int), -1]] else []))), ((g : Int), fr, tk, rs, (rd : Int))) → zFr TB w w' → zX G zm_X0_unify (d + 4) [zR br, zI (x0 : Int), zI (y0 : Int)] w0 (zVal PQ) 21 [some (zR br), some (zI (x0 : Int)), some (zI (y0 : Int)), some (zI ((q + 1 : Nat) : Int)), o4, o5, o6] [] w') : zX G zm_X0_unify (d + 4) [zR br, zI (x0 : Int), zI (y0 : Int)] w0 (zVal PQ) 21 [some (zR br), some (zI (x0 : Int)), some (zI (y0 : Int)), some (zI (q : Int)), o4, o5, o6] [] w := by
  have hg0 : tg [[(x : Int), (y : Int), -1]] 0 0 = (x : Int) := rfl
  have hg1 : tg [[(x : Int), (y : Int), -1]] 0 1 = (y : Int) := rfl
  have hmin : min (a : Int) (b : Int) = ((min a b : Nat) : Int) := by omega
  have hmax : max (a : Int) (b : Int) = ((max a b : Nat) : Int) := by omega
  have la := bRp_lt hk hx ha
  have lb := bRp_lt hk hy hb
  obtain ⟨hbr, ⟨⟨hnd, okN⟩, ⟨hva, okV⟩, ⟨hce, okC⟩, ⟨hli, okL⟩⟩, ⟨⟨hro, okR⟩, ⟨hbi, okB⟩, ⟨hle, okE⟩, ⟨hwk, okW⟩⟩, ⟨⟨c1N, c1V, c1C, c1L⟩, ⟨c1R, c1B, c1E, c1W⟩⟩, ⟨⟨c2N, c2V, c2C, c2L⟩, ⟨c2R, c2B, c2E, c2W⟩⟩, hrm1, hrm2⟩ := id hB
  refine zx_iload_n (i := 3) dX0_unify_21 rfl rfl ?_
  refine zx_ldc (v := 1000000) dX0_unify_22 zk_X0_65 (by decide +kernel) (z32_lit (by decide) (by decide)) ?_
  refine zx_icmp_ge (tgt := 125) dX0_unify_24 (by decide) (fun h24 => absurd h24 (by omega)) (fun h24 => ?_)
  refine zx_aload_n (i := 0) dX0_unify_27 rfl rfl ?_
  refine zx_getfield dX0_unify_28 zf_X0_46 hbr rfl ?_
  refine zx_iv (b := wk) (As := []) (st := []) (v := (some (zI 1))) (w1 := w) dX0_unify_31 zc_X0_70 hwk (z_cls9 (by decide)) rfl rfl (Nat.le_of_ble_eq_true rfl) rfl (by have q := (c_X9_count (G := G) (d := d + 3) hwk (by decide) okW); exact q) ?_
  refine zx_st (st1 := [zI 1]) rfl ?_
  refine zx_if_le (tgt := 125) dX0_unify_34 (by decide) (fun h34 => absurd h34 (by decide)) (fun h34 => ?_)
  refine zx_aload_n (i := 0) dX0_unify_37 rfl rfl ?_
  refine zx_getfield dX0_unify_38 zf_X0_46 hbr rfl ?_
  refine zx_iv (b := wk) (As := []) (st := []) (v := (some (zI 1))) (w1 := w) dX0_unify_41 zc_X0_70 hwk (z_cls9 (by decide)) rfl rfl (Nat.le_of_ble_eq_true rfl) rfl (by have q := (c_X9_count (G := G) (d := d + 3) hwk (by decide) okW); exact q) ?_
  refine zx_st (st1 := [zI 1]) rfl ?_
  refine zx_iconst (v := 1) dX0_unify_44 rfl (z32_lit (by decide) (by decide)) ?_
  refine zx_pc (pc1 := 45) rfl ?_
  refine zx_isub (v := 0) dX0_unify_45 (by decide +kernel) ?_
  refine zx_istore (i := 4) dX0_unify_46 (by decide) rfl ?_
  refine zx_L (L1 := [some (zR br), some (zI (x0 : Int)), some (zI (y0 : Int)), some (zI (q : Int)), some (zI 0), o5, o6]) rfl ?_
  refine zx_aload_n (i := 0) dX0_unify_48 rfl rfl ?_
  refine zx_aload_n (i := 0) dX0_unify_49 rfl rfl ?_
  refine zx_getfield dX0_unify_50 zf_X0_46 hbr rfl ?_
  refine zx_iload (i := 4) dX0_unify_53 rfl ?_
  refine zx_iconst (v := 0) dX0_unify_55 rfl (z32_lit (by decide) (by decide)) ?_
  refine zx_iv (b := wk) (As := [zI 0, zI 0]) (st := [zR br]) (v := (some (zI (x : Int)))) (w1 := w) dX0_unify_56 zc_X0_84 hwk (z_cls9 (by decide)) rfl rfl (Nat.le_of_ble_eq_true rfl) rfl (by have q := (c_X9_get (G := G) (d := d + 3) hwk (by decide) okW 0 0); rw [hg0] at q; exact q) ?_
  refine zx_st (st1 := [zI (x : Int), zR br]) rfl ?_
  refine zx_iv (b := br) (As := [zI (x : Int)]) (st := []) (v := (some (zI (a : Int)))) (w1 := w) dX0_unify_59 zc_X0_237 hbr rfl rfl rfl (Nat.le_of_ble_eq_true rfl) rfl (c_find hB hM hk (by omega) hx ha) ?_
  refine zx_st (st1 := [zI (a : Int)]) rfl ?_
  refine zx_istore (i := 5) dX0_unify_62 (by decide) rfl ?_
  refine zx_L (L1 := [some (zR br), some (zI (x0 : Int)), some (zI (y0 : Int)), some (zI (q : Int)), some (zI 0), some (zI (a : Int)), o6]) rfl ?_
  refine zx_aload_n (i := 0) dX0_unify_64 rfl rfl ?_
  refine zx_aload_n (i := 0) dX0_unify_65 rfl rfl ?_
  refine zx_pc (pc1 := 66) rfl ?_
  refine zx_getfield dX0_unify_66 zf_X0_46 hbr rfl ?_
  refine zx_iload (i := 4) dX0_unify_69 rfl ?_
  refine zx_iconst (v := 1) dX0_unify_71 rfl (z32_lit (by decide) (by decide)) ?_
  refine zx_iv (b := wk) (As := [zI 0, zI 1]) (st := [zR br]) (v := (some (zI (y : Int)))) (w1 := w) dX0_unify_72 zc_X0_84 hwk (z_cls9 (by decide)) rfl rfl (Nat.le_of_ble_eq_true rfl) rfl (by have q := (c_X9_get (G := G) (d := d + 3) hwk (by decide) okW 0 1); rw [hg1] at q; exact q) ?_
  refine zx_st (st1 := [zI (y : Int), zR br]) rfl ?_
  refine zx_iv (b := br) (As := [zI (y : Int)]) (st := []) (v := (some (zI (b : Int)))) (w1 := w) dX0_unify_75 zc_X0_237 hbr rfl rfl rfl (Nat.le_of_ble_eq_true rfl) rfl (c_find hB hM hk (by omega) hy hb) ?_
  refine zx_st (st1 := [zI (b : Int)]) rfl ?_
  refine zx_istore (i := 6) dX0_unify_78 (by decide) rfl ?_
  refine zx_L (L1 := [some (zR br), some (zI (x0 : Int)), some (zI (y0 : Int)), some (zI (q : Int)), some (zI 0), some (zI (a : Int)), some (zI (b : Int))]) rfl ?_
  refine zx_aload_n (i := 0) dX0_unify_80 rfl rfl ?_
  refine zx_getfield dX0_unify_81 zf_X0_46 hbr rfl ?_
  refine zx_iload (i := 4) dX0_unify_84 rfl ?_
  obtain ⟨w_1, hw_2⟩ : ∃ ww, ww = zput w wk (147, br, tTb 3 cW ([] : List (List Int))) := ⟨_, rfl⟩
  have q_3 : w_1.2.1 = w.2.1 ∧ w_1.2.2 = w.2.2 := by rw [hw_2]; exact ⟨rfl, rfl⟩
  have h_4 : w_1.1 wk = some (147, br, tTb 3 cW ([] : List (List Int))) := by rw [hw_2]; exact zput_at
  refine zx_iv (b := wk) (As := [zI 0]) (st := []) (v := none) (w1 := w_1) dX0_unify_86 zc_X0_92 hwk (z_cls9 (by decide)) rfl rfl (Nat.le_of_ble_eq_true rfl) rfl (by rw [hw_2]; exact (by have q := c_X9_cut (G := G) (d := d + 3) hwk (by decide) okW 0; rw [tcut_0] at q; exact q)) ?_
  refine zx_st (st1 := []) rfl ?_
  refine zx_iload (i := 5) dX0_unify_89 rfl ?_
  refine zx_iload (i := 6) dX0_unify_91 rfl ?_
  refine zx_pc (pc1 := 93) rfl ?_
  refine zx_icmp_eq (tgt := 119) dX0_unify_93 (by decide) (fun h93 => absurd h93 (by omega)) (fun h93 => ?_)
  refine zx_aload_n (i := 0) dX0_unify_96 rfl rfl ?_
  refine zx_iload (i := 5) dX0_unify_97 rfl ?_
  refine zx_iload (i := 6) dX0_unify_99 rfl ?_
  refine zx_min (v := min (a : Int) (b : Int)) dX0_unify_101 zo_X0_240 zk_min1 zk_math zk_min2 (Nat.le_of_ble_eq_true rfl) rfl ?_
  refine zx_iload (i := 5) dX0_unify_104 rfl ?_
  refine zx_iload (i := 6) dX0_unify_106 rfl ?_
  refine zx_max (v := max (a : Int) (b : Int)) dX0_unify_108 zo_X0_245 zk_max1 zk_math zk_max2 (Nat.le_of_ble_eq_true rfl) rfl ?_
  have hfaLpj : zFa [wk] w w_1 := (zFa_put zFa_re (by simp) hw_2)
  have hFpj : zFr TB w w_1 := zFr_fa hfaLpj (zLc hwk (by simp) zLn)
  have h_5 : w_1.1 nd = some (140, br, tTb 5 cN NN) := by
    rw [hw_2]; exact zput_tg hwk hnd (by simp)
  have h_6 : w_1.1 va = some (141, br, tTb 1 cV VV) := by
    rw [hw_2]; exact zput_tg hwk hva (by simp)
  have h_7 : w_1.1 ce = some (142, br, tTb 3 cC CC) := by
    rw [hw_2]; exact zput_tg hwk hce (by simp)
  have h_8 : w_1.1 li = some (143, br, tTb 4 cL LL) := by
    rw [hw_2]; exact zput_tg hwk hli (by simp)
  have h_9 : w_1.1 ro = some (144, br, tTb 6 cR RR) := by
    rw [hw_2]; exact zput_tg hwk hro (by simp)
  have h_10 : w_1.1 bi = some (145, br, tTb 2 cB BB) := by
    rw [hw_2]; exact zput_tg hwk hbi (by simp)
  have h_11 : w_1.1 le = some (146, br, tTb 4 cE EE) := by
    rw [hw_2]; exact zput_tg hwk hle (by simp)
  have h_12 : w_1.1 br = some (0, 0, [zR pg, zR t, zR nd, zI (g : Int), zR va, zR ce, zR li, zR ro, zI fr, zR bi, zR le, zR wk, zI tk, zI rs, zI (rd : Int)]) := by
    rw [hw_2]; exact zput_tg hwk hbr (by simp)
  have hBpj : bbW w_1 b1 b2 ((br, pg, t), (nd, va, ce, li), (ro, bi, le, wk)) (((cN, NN), (cV, VV), (cC, CC), (cL, LL)), ((cR, RR), (cB, BB), (cE, EE), (cW, ([] : List (List Int)))), ((g : Int), fr, tk, rs, (rd : Int))) := ⟨h_12, ⟨⟨h_5, okN⟩, ⟨h_6, okV⟩, ⟨h_7, okC⟩, ⟨h_8, okL⟩⟩, ⟨⟨h_9, okR⟩, ⟨h_10, okB⟩, ⟨h_11, okE⟩, ⟨h_4, (tOk_nil (by decide))⟩⟩, ⟨⟨by omega, by omega, by omega, by omega⟩, ⟨by omega, by omega, by omega, by omega⟩⟩, ⟨⟨by omega, by omega, by omega, by omega⟩, ⟨by omega, by omega, by omega, by omega⟩⟩, by omega, by omega⟩
  refine zx_ivV (b := br) (As := [zI (min (a : Int) (b : Int)), zI (max (a : Int) (b : Int))]) (st := []) dX0_unify_111 zc_X0_248 h_12 rfl rfl rfl (Nat.le_of_ble_eq_true rfl) rfl (by have q := c_join_t (G := G) (d := d) (lo := min a b) (hi := max a b) hBpj hG1 hG2 (tmW_TB hT hFpj) hM (by omega) (by omega) hBl (by show 0 < 6000; omega) hcc hc; rw [← hmin, ← hmax] at q; exact q) (fun vj wj hq => ?_)
  obtain ⟨evj, ⟨cB', cW', hBj⟩, hFj⟩ := hq
  subst evj
  obtain ⟨hbrj, ⟨⟨hndj, okNj⟩, ⟨hvaj, okVj⟩, ⟨hcej, okCj⟩, ⟨hlij, okLj⟩⟩, ⟨⟨hroj, okRj⟩, ⟨hbij, okBj⟩, ⟨hlej, okEj⟩, ⟨hwkj, okWj⟩⟩, ⟨⟨c1Nj, c1Vj, c1Cj, c1Lj⟩, ⟨c1Rj, c1Bj, c1Ej, c1Wj⟩⟩, ⟨⟨c2Nj, c2Vj, c2Cj, c2Lj⟩, ⟨c2Rj, c2Bj, c2Ej, c2Wj⟩⟩, hrm1j, hrm2j⟩ := id hBj
  refine zx_if_ne (tgt := 119) dX0_unify_114 (by decide) (fun h114 => ?_) (fun h114 => absurd (by decide) h114)
  refine zx_iinc (i := 3) (v := ((q + 1 : Nat) : Int)) dX0_unify_119 rfl (zw_eq (by omega) (by omega) (by omega)) (by decide) rfl ?_
  refine zx_L (L1 := [some (zR br), some (zI (x0 : Int)), some (zI (y0 : Int)), some (zI ((q + 1 : Nat) : Int)), some (zI 0), some (zI (a : Int)), some (zI (b : Int))]) rfl ?_
  refine zx_goto (tgt := 21) dX0_unify_122 (by decide) ?_
  have hF9 : zFr TB wj wj := zFr_re
  have hB9 : bbW wj b1 b2 ((br, pg, t), (nd, va, ce, li), (ro, bi, le, wk)) (((cN, (ts NN ((bDir N (min a b) (max a b)).1 : Int) 3 ((bDir N (min a b) (max a b)).2 : Int))), (cV, VV), (cC, CC), (cL, LL)), ((cR, RR), (cB', (BB ++ [[((bDir N (min a b) (max a b)).1 : Int), ((bDir N (min a b) (max a b)).2 : Int)]])), (cE, EE), (cW', (([] : List (List Int)) ++ if bhd N (min a b) = some 1 ∧ bhd N (max a b) ≠ none then [[(bfs N (min a b) : Int), (bfs N (max a b) : Int), -1]] else []))), ((g : Int), fr, tk, rs, (rd : Int))) := ⟨hbrj, ⟨⟨hndj, okNj⟩, ⟨hvaj, okVj⟩, ⟨hcej, okCj⟩, ⟨hlij, okLj⟩⟩, ⟨⟨hroj, okRj⟩, ⟨hbij, okBj⟩, ⟨hlej, okEj⟩, ⟨hwkj, okWj⟩⟩, ⟨⟨by omega, by omega, by omega, by omega⟩, ⟨by omega, by omega, by omega, by omega⟩⟩, ⟨⟨by omega, by omega, by omega, by omega⟩, ⟨by omega, by omega, by omega, by omega⟩⟩, by omega, by omega⟩
  exact k _ _ _ _ _ _ hB9 (zFr_tr hFpj (zFr_tr hFj hF9))
theorem un_end (hB : bbW w b1 b2 ((br, pg, t), (nd, va, ce, li), (ro, bi, le, wk)) (((cN, NN), (cV, VV), (cC, CC), (cL, LL)), ((cR, RR), (cB, BB), (cE, EE), (cW, ([] : List (List Int)))), ((g : Int), fr, tk, rs, (rd : Int)))) (hq : q < 900000) (k : PQ (zI 1) w) : zX G zm_X0_unify (d + 4) [zR br, zI (x0 : Int), zI (y0 : Int)] w0 (zVal PQ) 21 [some (zR br), some (zI (x0 : Int)), some (zI (y0 : Int)), some (zI (q : Int)), o4, o5, o6] [] w := by
  obtain ⟨hbr, ⟨⟨hnd, okN⟩, ⟨hva, okV⟩, ⟨hce, okC⟩, ⟨hli, okL⟩⟩, ⟨⟨hro, okR⟩, ⟨hbi, okB⟩, ⟨hle, okE⟩, ⟨hwk, okW⟩⟩, ⟨⟨c1N, c1V, c1C, c1L⟩, ⟨c1R, c1B, c1E, c1W⟩⟩, ⟨⟨c2N, c2V, c2C, c2L⟩, ⟨c2R, c2B, c2E, c2W⟩⟩, hrm1, hrm2⟩ := id hB
  refine zx_iload_n (i := 3) dX0_unify_21 rfl rfl ?_
  refine zx_ldc (v := 1000000) dX0_unify_22 zk_X0_65 (by decide +kernel) (z32_lit (by decide) (by decide)) ?_
  refine zx_icmp_ge (tgt := 125) dX0_unify_24 (by decide) (fun h24 => absurd h24 (by omega)) (fun h24 => ?_)
  refine zx_aload_n (i := 0) dX0_unify_27 rfl rfl ?_
  refine zx_getfield dX0_unify_28 zf_X0_46 hbr rfl ?_
  refine zx_iv (b := wk) (As := []) (st := []) (v := (some (zI 0))) (w1 := w) dX0_unify_31 zc_X0_70 hwk (z_cls9 (by decide)) rfl rfl (Nat.le_of_ble_eq_true rfl) rfl (by have q := (c_X9_count (G := G) (d := d + 3) hwk (by decide) okW); exact q) ?_
  refine zx_st (st1 := [zI 0]) rfl ?_
  refine zx_if_le (tgt := 125) dX0_unify_34 (by decide) (fun h34 => ?_) (fun h34 => absurd (by decide) h34)
  refine zx_iconst (v := 1) dX0_unify_125 rfl (z32_lit (by decide) (by decide)) ?_
  refine zx_zret dX0_unify_126 rfl (by first | exact Or.inl rfl | exact Or.inr rfl | exact zB_or | assumption) ?_
  exact ⟨_, rfl, k⟩
theorem un_start (hB : bbW w b1 b2 ((br, pg, t), (nd, va, ce, li), (ro, bi, le, wk)) (((cN, NN), (cV, VV), (cC, CC), (cL, LL)), ((cR, RR), (cB, BB), (cE, EE), (cW, WW)), ((g : Int), fr, tk, rs, (rd : Int)))) (hG1 : b1 + 1800000 ≤ 30 * G.2.2.2.2.1) (hG2 : b2 + 3700000 ≤ G.2.2.2.2.2) (k : ∀ w', bbW w' b1 b2 ((br, pg, t), (nd, va, ce, li), (ro, bi, le, wk)) (((cN, NN), (cV, VV), (cC, CC), (cL, LL)), ((cR, RR), (cB, BB), (cE, EE), ((tCap 3 cW []), [[(x0 : Int), (y0 : Int), -1]])), ((g : Int), fr, tk, rs, (rd : Int))) → zFr TB w w' → zX G zm_X0_unify (d + 4) [zR br, zI (x0 : Int), zI (y0 : Int)] w (zVal PQ) 21 [some (zR br), some (zI (x0 : Int)), some (zI (y0 : Int)), some (zI 0), none, none, none] [] w') : zM G zm_X0_unify (d + 4) [zR br, zI (x0 : Int), zI (y0 : Int)] w (zVal PQ) := by
  refine zx_ent (by decide +kernel) rfl (Nat.le_of_ble_eq_true rfl) ?_
  refine zx_L (L1 := [some (zR br), some (zI (x0 : Int)), some (zI (y0 : Int)), none, none, none, none]) rfl ?_
  have hl0 : ([] : List (List Int)).length = 0 := rfl
  obtain ⟨hbr, ⟨⟨hnd, okN⟩, ⟨hva, okV⟩, ⟨hce, okC⟩, ⟨hli, okL⟩⟩, ⟨⟨hro, okR⟩, ⟨hbi, okB⟩, ⟨hle, okE⟩, ⟨hwk, okW⟩⟩, ⟨⟨c1N, c1V, c1C, c1L⟩, ⟨c1R, c1B, c1E, c1W⟩⟩, ⟨⟨c2N, c2V, c2C, c2L⟩, ⟨c2R, c2B, c2E, c2W⟩⟩, hrm1, hrm2⟩ := id hB
  refine zx_aload_n (i := 0) dX0_unify_0 rfl rfl ?_
  refine zx_getfield dX0_unify_1 zf_X0_46 hbr rfl ?_
  refine zx_iconst (v := 0) dX0_unify_4 rfl (z32_lit (by decide) (by decide)) ?_
  obtain ⟨w_1, hw_2⟩ : ∃ ww, ww = zput w wk (147, br, tTb 3 cW ([] : List (List Int))) := ⟨_, rfl⟩
  have q_3 : w_1.2.1 = w.2.1 ∧ w_1.2.2 = w.2.2 := by rw [hw_2]; exact ⟨rfl, rfl⟩
  have h_4 : w_1.1 wk = some (147, br, tTb 3 cW ([] : List (List Int))) := by rw [hw_2]; exact zput_at
  refine zx_iv (b := wk) (As := [zI 0]) (st := []) (v := none) (w1 := w_1) dX0_unify_5 zc_X0_92 hwk (z_cls9 (by decide)) rfl rfl (Nat.le_of_ble_eq_true rfl) rfl (by rw [hw_2]; exact (by have q := c_X9_cut (G := G) (d := d + 3) hwk (by decide) okW 0; rw [tcut_0] at q; exact q)) ?_
  refine zx_st (st1 := []) rfl ?_
  refine zx_aload_n (i := 0) dX0_unify_8 rfl rfl ?_
  have h_5 : w_1.1 br = some (0, 0, [zR pg, zR t, zR nd, zI (g : Int), zR va, zR ce, zR li, zR ro, zI fr, zR bi, zR le, zR wk, zI tk, zI rs, zI (rd : Int)]) := by
    rw [hw_2]; exact zput_tg hwk hbr (by simp)
  refine zx_getfield dX0_unify_9 zf_X0_46 h_5 rfl ?_
  refine zx_iload_n (i := 1) dX0_unify_12 rfl rfl ?_
  refine zx_iload_n (i := 2) dX0_unify_13 rfl rfl ?_
  refine zx_iconst (v := -1) dX0_unify_14 rfl (z32_lit (by decide) (by decide)) ?_
  refine zx_ok (fun ok_6 => ?_)
  obtain ⟨w_7, hw_8⟩ : ∃ ww, ww = tAw w_1 wk 147 br 3 cW ([] : List (List Int)) (trow 3 (x0 : Int) (y0 : Int) (-1)) := ⟨_, rfl⟩
  have h_9 : w_7.1 wk = some (147, br, tTb 3 (tCap 3 cW ([] : List (List Int))) (([] : List (List Int)) ++ [(trow 3 (x0 : Int) (y0 : Int) (-1))])) := by rw [hw_8]; exact tAw_at
  have qhw_8 := tAw_sz3 (w := w_1) (a := wk) (t := 147) (ow := br) (c := 3) (cap := cW) (rows := ([] : List (List Int))) (r := (trow 3 (x0 : Int) (y0 : Int) (-1))) (by omega)
  rw [← hw_8] at qhw_8
  refine zx_iv (b := wk) (As := [zI (x0 : Int), zI (y0 : Int), zI (-1)]) (st := []) (v := (some (zI (([] : List (List Int)).length : Int)))) (w1 := w_7) dX0_unify_15 zc_X0_113 h_4 (z_cls9 (by decide)) rfl rfl (Nat.le_of_ble_eq_true rfl) rfl (by rw [hw_8]; exact (c_X9_add h_4 (by decide) (tOk_nil (by decide)) (by omega) (by by_cases cg : ([] : List (List Int)).length * 3 + 3 ≤ cW; exact Or.inl cg; exact Or.inr ⟨by omega, by omega⟩) (x0 : Int) (y0 : Int) (-1))) ?_
  refine zx_st (st1 := [zI (([] : List (List Int)).length : Int)]) rfl ?_
  refine zx_pop dX0_unify_18 (fun a h => by cases h) ?_
  refine zx_pc (pc1 := 19) rfl ?_
  refine zx_iconst (v := 0) dX0_unify_19 rfl (z32_lit (by decide) (by decide)) ?_
  refine zx_istore_n (i := 3) dX0_unify_20 rfl (by decide) rfl ?_
  refine zx_L (L1 := [some (zR br), some (zI (x0 : Int)), some (zI (y0 : Int)), some (zI 0), none, none, none]) rfl ?_
  have hfaL9 : zFa [wk] w w_7 := (zFa_taw (zFa_put zFa_re (by simp) hw_2) (by simp) ok_6 hw_8)
  have hF9 : zFr TB w w_7 := zFr_fa hfaL9 (zLc hwk (by simp) zLn)
  have h_10 : w_1.1 nd = some (140, br, tTb 5 cN NN) := by
    rw [hw_2]; exact zput_tg hwk hnd (by simp)
  have h_11 : w_7.1 nd = some (140, br, tTb 5 cN NN) := by
    rw [hw_8]; exact (tAw_to ok_6 (zne_tg h_4 h_10 (by simp)) h_10)
  have h_12 : w_1.1 va = some (141, br, tTb 1 cV VV) := by
    rw [hw_2]; exact zput_tg hwk hva (by simp)
  have h_13 : w_7.1 va = some (141, br, tTb 1 cV VV) := by
    rw [hw_8]; exact (tAw_to ok_6 (zne_tg h_4 h_12 (by simp)) h_12)
  have h_14 : w_1.1 ce = some (142, br, tTb 3 cC CC) := by
    rw [hw_2]; exact zput_tg hwk hce (by simp)
  have h_15 : w_7.1 ce = some (142, br, tTb 3 cC CC) := by
    rw [hw_8]; exact (tAw_to ok_6 (zne_tg h_4 h_14 (by simp)) h_14)
  have h_16 : w_1.1 li = some (143, br, tTb 4 cL LL) := by
    rw [hw_2]; exact zput_tg hwk hli (by simp)
  have h_17 : w_7.1 li = some (143, br, tTb 4 cL LL) := by
    rw [hw_8]; exact (tAw_to ok_6 (zne_tg h_4 h_16 (by simp)) h_16)
  have h_18 : w_1.1 ro = some (144, br, tTb 6 cR RR) := by
    rw [hw_2]; exact zput_tg hwk hro (by simp)
  have h_19 : w_7.1 ro = some (144, br, tTb 6 cR RR) := by
    rw [hw_8]; exact (tAw_to ok_6 (zne_tg h_4 h_18 (by simp)) h_18)
  have h_20 : w_1.1 bi = some (145, br, tTb 2 cB BB) := by
    rw [hw_2]; exact zput_tg hwk hbi (by simp)
  have h_21 : w_7.1 bi = some (145, br, tTb 2 cB BB) := by
    rw [hw_8]; exact (tAw_to ok_6 (zne_tg h_4 h_20 (by simp)) h_20)
  have h_22 : w_1.1 le = some (146, br, tTb 4 cE EE) := by
    rw [hw_2]; exact zput_tg hwk hle (by simp)
  have h_23 : w_7.1 le = some (146, br, tTb 4 cE EE) := by
    rw [hw_8]; exact (tAw_to ok_6 (zne_tg h_4 h_22 (by simp)) h_22)
  have h_24 : w_7.1 br = some (0, 0, [zR pg, zR t, zR nd, zI (g : Int), zR va, zR ce, zR li, zR ro, zI fr, zR bi, zR le, zR wk, zI tk, zI rs, zI (rd : Int)]) := by
    rw [hw_8]; exact (tAw_to ok_6 (zne_tg h_4 h_5 (by simp)) h_5)
  have hB9 : bbW w_7 b1 b2 ((br, pg, t), (nd, va, ce, li), (ro, bi, le, wk)) (((cN, NN), (cV, VV), (cC, CC), (cL, LL)), ((cR, RR), (cB, BB), (cE, EE), ((tCap 3 cW ([] : List (List Int))), (([] : List (List Int)) ++ [(trow 3 (x0 : Int) (y0 : Int) (-1))]))), ((g : Int), fr, tk, rs, (rd : Int))) := ⟨h_24, ⟨⟨h_11, okN⟩, ⟨h_13, okV⟩, ⟨h_15, okC⟩, ⟨h_17, okL⟩⟩, ⟨⟨h_19, okR⟩, ⟨h_21, okB⟩, ⟨h_23, okE⟩, ⟨h_9, (tOk_app (tOk_nil (by decide)) (by first | exact trow_len | rfl))⟩⟩, ⟨⟨by omega, by omega, by omega, by omega⟩, ⟨by omega, by omega, by omega, by omega⟩⟩, ⟨⟨by omega, by omega, by omega, by omega⟩, ⟨by omega, by omega, by omega, by omega⟩⟩, by omega, by omega⟩
  exact k _ hB9 hF9
end BUN
