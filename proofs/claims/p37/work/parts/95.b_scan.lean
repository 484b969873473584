/-! Own rows: breadth's scan, a turn at a time. Walked by program (wip/p37/m_bscan.py). -/
theorem tmW_TB {w w' : zW} {t tc tn th tz : Nat} {ty : Int} {C N H : List (List Int)} {S : List Int} (h : tmW w t tc tn th tz ty C N H S) (f : zFr TB w w') : tmW w' t tc tn th tz ty C N H S := by
  obtain ⟨h0, ⟨hc, okC⟩, ⟨hn, okN⟩, ⟨hh, okH⟩, hz, hS⟩ := h
  exact ⟨f _ _ h0 (by simp), ⟨f _ _ hc (by simp), okC⟩, ⟨f _ _ hn (by simp), okN⟩, ⟨f _ _ hh (by simp), okH⟩, f _ _ hz (by simp), hS⟩
def mkV (g rd : Nat) (mk : Nat → Int) (n : Nat) : Int := if n < g then 1 else max (mk n - 3 * (rd : Int)) (-1)
section BSC
variable {G : zG} {d : Nat} {w w0 : zW} {b1 b2 g rd st0 n q : Nat} {br pg t nd va ce li ro bi le wk : Nat} {cN cV cC cL cR cB cE cW : Nat} {NN VV CC LL RR BB EE WW : List (List Int)} {fr tk rs : Int} {tc tn th tz : Nat} {ty : Int} {TN TH : List (List Int)} {TS : List Int} {N : bNT} {bd : bBD} {mk : Nat → Int} {W0 : List (List Int)} {PQ : zV → zW → Prop} {o3 o4 o5 o6 o7 o8 : Option zV} {z x : Nat} {v hd : Int}
theorem c_find (hB : bbW w b1 b2 ((br, pg, t), (nd, va, ce, li), (ro, bi, le, wk)) (((cN, NN), (cV, VV), (cC, CC), (cL, LL)), ((cR, RR), (cB, BB), (cE, EE), (cW, WW)), ((g : Int), fr, tk, rs, (rd : Int)))) (hM : ndM NN N bd mk) (hk : bWk N g bd) (hN : N.length ≤ 100000) (hx : x < N.length) (hz : bRp bd x z) : zM G zm_X0_find (d + 1) [zR br, zI (x : Int)] w (zRet (some (zI (z : Int))) w) := by
  obtain ⟨k, k1, k2⟩ := bRp_k hk hz
  exact c_X0_find hB (by omega) (ndM_fd hM (fun a b h => (hk.2.2 a b h).2.2) k x z hx k2 hz.2)
theorem c_mark (hB : bbW w b1 b2 ((br, pg, t), (nd, va, ce, li), (ro, bi, le, wk)) (((cN, NN), (cV, VV), (cC, CC), (cL, LL)), ((cR, RR), (cB, BB), (cE, EE), (cW, WW)), ((g : Int), fr, tk, rs, (rd : Int)))) (hM : ndM NN N bd mk) (hn : n < N.length) (hrd : rd < 1000000) (hm : -1 ≤ mk n ∧ mk n < 3 * (rd : Int) + 3) : zM G zm_X0_markOf (d + 1) [zR br, zI (n : Int)] w (zRet (some (zI (mkV g rd mk n))) w) := by
  have e4 := (ndM_get hM hn).2.2.2
  have q := c_X0_markOf (G := G) (d := d) hB (n : Int) (by omega) (by rw [e4]; omega)
  rw [e4] at q
  have e : (if (n : Int) < (g : Int) then (1 : Int) else max (mk n - 3 * (rd : Int)) (-1)) = mkV g rd mk n := by
    unfold mkV
    by_cases c : n < g
    · rw [if_pos c, if_pos (by omega)]
    · rw [if_neg c, if_neg (by omega)]
  rw [e] at q
  exact q
theorem sc_pop2 (hB : bbW w b1 b2 ((br, pg, t), (nd, va, ce, li), (ro, bi, le, wk)) (((cN, NN), (cV, VV), (cC, CC), (cL, LL)), ((cR, RR), (cB, BB), (cE, EE), (cW, (W0 ++ [[(n : Int), 0, 1]]))), ((g : Int), fr, tk, rs, (rd : Int)))) (hG1 : b1 + 1800000 ≤ 30 * G.2.2.2.2.1) (hG2 : b2 + 3700000 ≤ G.2.2.2.2.2) (hT : tmW w t tc tn th tz ty C3 TN TH TS) (hM : ndM NN N bd mk) (hn : n < N.length) (hrd : rd < 1000000) (hq : q < 900000) (hlW : W0.length < 6000) (hh : bhd N n = none) (k : ∀ (o3 o4 o5 o6 o7 o8 : Option zV) (w' : zW), bbW w' b1 b2 ((br, pg, t), (nd, va, ce, li), (ro, bi, le, wk)) (((cN, (ts NN (n : Int) 4 (3 * (rd : Int) + 2))), (cV, VV), (cC, CC), (cL, LL)), ((cR, RR), (cB, BB), (cE, EE), (cW, W0)), ((g : Int), fr, tk, rs, (rd : Int))) → zFr TB w w' → zX G zm_X0_scan (d + 3) [zR br, zI (st0 : Int)] w0 (zVal PQ) 21 [some (zR br), some (zI (st0 : Int)), some (zI ((q + 1 : Nat) : Int)), o3, o4, o5, o6, o7, o8] [] w') : zX G zm_X0_scan (d + 3) [zR br, zI (st0 : Int)] w0 (zVal PQ) 21 [some (zR br), some (zI (st0 : Int)), some (zI (q : Int)), o3, o4, o5, o6, o7, o8] [] w := by
  have hlen1 : ((W0 ++ [[(n : Int), 0, 1]])).length = W0.length + 1 := by simp
  obtain ⟨hbr, ⟨⟨hnd, okN⟩, ⟨hva, okV⟩, ⟨hce, okC⟩, ⟨hli, okL⟩⟩, ⟨⟨hro, okR⟩, ⟨hbi, okB⟩, ⟨hle, okE⟩, ⟨hwk, okW⟩⟩, ⟨⟨c1N, c1V, c1C, c1L⟩, ⟨c1R, c1B, c1E, c1W⟩⟩, ⟨⟨c2N, c2V, c2C, c2L⟩, ⟨c2R, c2B, c2E, c2W⟩⟩, hrm1, hrm2⟩ := id hB
  have hg0 : tg (W0 ++ [[(n : Int), 0, 1]]) (W0.length : Int) 0 = (n : Int) := tg_last (j := 0) rfl
  have hg1 : tg (W0 ++ [[(n : Int), 0, 1]]) (W0.length : Int) 1 = 0 := tg_last (j := 1) rfl
  have hg2 : tg (W0 ++ [[(n : Int), 0, 1]]) (W0.length : Int) 2 = 1 := tg_last (j := 2) rfl
  have hh0 : tg NN (n : Int) 0 = -1 := by rw [(ndM_get hM hn).1, hh]; rfl
  have hpc : tmPc C3 (-1) = 0 := by decide
  refine zx_iload_n (i := 2) dX0_scan_21 rfl rfl ?_
  refine zx_ldc (v := 1000000) dX0_scan_22 zk_X0_65 (by decide +kernel) (z32_lit (by decide) (by decide)) ?_
  refine zx_icmp_ge (tgt := 241) dX0_scan_24 (by decide) (fun h24 => absurd h24 (by omega)) (fun h24 => ?_)
  refine zx_aload_n (i := 0) dX0_scan_27 rfl rfl ?_
  refine zx_getfield dX0_scan_28 zf_X0_46 hbr rfl ?_
  refine zx_iv (b := wk) (As := []) (st := []) (v := (some (zI ((W0.length + 1 : Nat) : Int)))) (w1 := w) dX0_scan_31 zc_X0_70 hwk (z_cls9 (by decide)) rfl rfl (Nat.le_of_ble_eq_true rfl) rfl (by have q := (c_X9_count (G := G) (d := d + 2) hwk (by decide) okW); rw [hlen1] at q; exact q) ?_
  refine zx_st (st1 := [zI ((W0.length + 1 : Nat) : Int)]) rfl ?_
  refine zx_if_le (tgt := 241) dX0_scan_34 (by decide) (fun h34 => absurd h34 (by omega)) (fun h34 => ?_)
  refine zx_aload_n (i := 0) dX0_scan_37 rfl rfl ?_
  refine zx_getfield dX0_scan_38 zf_X0_46 hbr rfl ?_
  refine zx_iv (b := wk) (As := []) (st := []) (v := (some (zI ((W0.length + 1 : Nat) : Int)))) (w1 := w) dX0_scan_41 zc_X0_70 hwk (z_cls9 (by decide)) rfl rfl (Nat.le_of_ble_eq_true rfl) rfl (by have q := (c_X9_count (G := G) (d := d + 2) hwk (by decide) okW); rw [hlen1] at q; exact q) ?_
  refine zx_st (st1 := [zI ((W0.length + 1 : Nat) : Int)]) rfl ?_
  refine zx_iconst (v := 1) dX0_scan_44 rfl (z32_lit (by decide) (by decide)) ?_
  refine zx_pc (pc1 := 45) rfl ?_
  refine zx_isub (v := (W0.length : Int)) dX0_scan_45 (zw_eq (by omega) (by omega) (by omega)) ?_
  refine zx_istore_n (i := 3) dX0_scan_46 rfl (by decide) rfl ?_
  refine zx_L (L1 := [some (zR br), some (zI (st0 : Int)), some (zI (q : Int)), some (zI (W0.length : Int)), o4, o5, o6, o7, o8]) rfl ?_
  refine zx_aload_n (i := 0) dX0_scan_47 rfl rfl ?_
  refine zx_getfield dX0_scan_48 zf_X0_46 hbr rfl ?_
  refine zx_iload_n (i := 3) dX0_scan_51 rfl rfl ?_
  refine zx_iconst (v := 0) dX0_scan_52 rfl (z32_lit (by decide) (by decide)) ?_
  refine zx_iv (b := wk) (As := [zI (W0.length : Int), zI 0]) (st := []) (v := (some (zI (n : Int)))) (w1 := w) dX0_scan_53 zc_X0_84 hwk (z_cls9 (by decide)) rfl rfl (Nat.le_of_ble_eq_true rfl) rfl (by have q := (c_X9_get (G := G) (d := d + 2) hwk (by decide) okW (W0.length : Int) 0); rw [hg0] at q; exact q) ?_
  refine zx_st (st1 := [zI (n : Int)]) rfl ?_
  refine zx_istore (i := 4) dX0_scan_56 (by decide) rfl ?_
  refine zx_L (L1 := [some (zR br), some (zI (st0 : Int)), some (zI (q : Int)), some (zI (W0.length : Int)), some (zI (n : Int)), o5, o6, o7, o8]) rfl ?_
  refine zx_aload_n (i := 0) dX0_scan_58 rfl rfl ?_
  refine zx_getfield dX0_scan_59 zf_X0_46 hbr rfl ?_
  refine zx_iload_n (i := 3) dX0_scan_62 rfl rfl ?_
  refine zx_iconst (v := 1) dX0_scan_63 rfl (z32_lit (by decide) (by decide)) ?_
  refine zx_pc (pc1 := 64) rfl ?_
  refine zx_iv (b := wk) (As := [zI (W0.length : Int), zI 1]) (st := []) (v := (some (zI 0))) (w1 := w) dX0_scan_64 zc_X0_84 hwk (z_cls9 (by decide)) rfl rfl (Nat.le_of_ble_eq_true rfl) rfl (by have q := (c_X9_get (G := G) (d := d + 2) hwk (by decide) okW (W0.length : Int) 1); rw [hg1] at q; exact q) ?_
  refine zx_st (st1 := [zI 0]) rfl ?_
  refine zx_istore (i := 5) dX0_scan_67 (by decide) rfl ?_
  refine zx_L (L1 := [some (zR br), some (zI (st0 : Int)), some (zI (q : Int)), some (zI (W0.length : Int)), some (zI (n : Int)), some (zI 0), o6, o7, o8]) rfl ?_
  refine zx_aload_n (i := 0) dX0_scan_69 rfl rfl ?_
  refine zx_getfield dX0_scan_70 zf_X0_24 hbr rfl ?_
  refine zx_iload (i := 4) dX0_scan_73 rfl ?_
  refine zx_iconst (v := 0) dX0_scan_75 rfl (z32_lit (by decide) (by decide)) ?_
  refine zx_iv (b := nd) (As := [zI (n : Int), zI 0]) (st := []) (v := (some (zI (-1)))) (w1 := w) dX0_scan_76 zc_X0_84 hnd (z_cls9 (by decide)) rfl rfl (Nat.le_of_ble_eq_true rfl) rfl (by have q := (c_X9_get (G := G) (d := d + 2) hnd (by decide) okN (n : Int) 0); rw [hh0] at q; exact q) ?_
  refine zx_st (st1 := [zI (-1)]) rfl ?_
  refine zx_istore (i := 6) dX0_scan_79 (by decide) rfl ?_
  refine zx_L (L1 := [some (zR br), some (zI (st0 : Int)), some (zI (q : Int)), some (zI (W0.length : Int)), some (zI (n : Int)), some (zI 0), some (zI (-1)), o7, o8]) rfl ?_
  refine zx_iload (i := 5) dX0_scan_81 rfl ?_
  refine zx_aload_n (i := 0) dX0_scan_83 rfl rfl ?_
  refine zx_getfield dX0_scan_84 zf_X0_15 hbr rfl ?_
  refine zx_iload (i := 6) dX0_scan_87 rfl ?_
  refine zx_pc (pc1 := 89) rfl ?_
  refine zx_iv (b := t) (As := [zI (-1)]) (st := [zI 0]) (v := (some (zI 0))) (w1 := w) dX0_scan_89 zc_X0_251 hT.1 rfl rfl rfl (Nat.le_of_ble_eq_true rfl) rfl (by have q := c_X10_partCount (G := G) (d := d + 1) hT (-1); rw [hpc] at q; exact q) ?_
  refine zx_st (st1 := [zI 0, zI 0]) rfl ?_
  refine zx_icmp_lt (tgt := 131) dX0_scan_92 (by decide) (fun h92 => absurd h92 (by decide)) (fun h92 => ?_)
  refine zx_aload_n (i := 0) dX0_scan_95 rfl rfl ?_
  refine zx_iload (i := 4) dX0_scan_96 rfl ?_
  refine zx_iload (i := 6) dX0_scan_98 rfl ?_
  refine zx_iconst (v := -1) dX0_scan_100 rfl (z32_lit (by decide) (by decide)) ?_
  refine zx_icmp_ne (tgt := 108) dX0_scan_101 (by decide) (fun h101 => absurd h101 (by decide)) (fun h101 => ?_)
  refine zx_iconst (v := 2) dX0_scan_104 rfl (z32_lit (by decide) (by decide)) ?_
  refine zx_goto (tgt := 117) dX0_scan_105 (by decide) ?_
  have hFp1 : zFr TB w w := zFr_re
  have hBp1 : bbW w b1 b2 ((br, pg, t), (nd, va, ce, li), (ro, bi, le, wk)) (((cN, NN), (cV, VV), (cC, CC), (cL, LL)), ((cR, RR), (cB, BB), (cE, EE), (cW, (W0 ++ [[(n : Int), 0, 1]]))), ((g : Int), fr, tk, rs, (rd : Int))) := ⟨hbr, ⟨⟨hnd, okN⟩, ⟨hva, okV⟩, ⟨hce, okC⟩, ⟨hli, okL⟩⟩, ⟨⟨hro, okR⟩, ⟨hbi, okB⟩, ⟨hle, okE⟩, ⟨hwk, okW⟩⟩, ⟨⟨by omega, by omega, by omega, by omega⟩, ⟨by omega, by omega, by omega, by omega⟩⟩, ⟨⟨by omega, by omega, by omega, by omega⟩, ⟨by omega, by omega, by omega, by omega⟩⟩, by omega, by omega⟩
  refine zx_ivN (b := br) (As := [zI (n : Int), zI 2]) (st := []) dX0_scan_117 zc_X0_260 hbr rfl rfl rfl (Nat.le_of_ble_eq_true rfl) rfl (c_X0_setMark hBp1 (n : Int) 2 (by omega) (by omega)) (fun w1 hq => ?_)
  obtain ⟨hB1, hF1⟩ := hq
  obtain ⟨hbr1, ⟨⟨hnd1, okN1⟩, ⟨hva1, okV1⟩, ⟨hce1, okC1⟩, ⟨hli1, okL1⟩⟩, ⟨⟨hro1, okR1⟩, ⟨hbi1, okB1⟩, ⟨hle1, okE1⟩, ⟨hwk1, okW1⟩⟩, ⟨⟨c1N1, c1V1, c1C1, c1L1⟩, ⟨c1R1, c1B1, c1E1, c1W1⟩⟩, ⟨⟨c2N1, c2V1, c2C1, c2L1⟩, ⟨c2R1, c2B1, c2E1, c2W1⟩⟩, hrm11, hrm21⟩ := id hB1
  refine zx_aload_n (i := 0) dX0_scan_120 rfl rfl ?_
  refine zx_getfield dX0_scan_121 zf_X0_46 hbr1 rfl ?_
  refine zx_pc (pc1 := 124) rfl ?_
  refine zx_iload_n (i := 3) dX0_scan_124 rfl rfl ?_
  obtain ⟨w_1, hw_2⟩ : ∃ ww, ww = zput w1 wk (147, br, tTb 3 cW (tcut (W0 ++ [[(n : Int), 0, 1]]) (W0.length : Int))) := ⟨_, rfl⟩
  have q_3 : w_1.2.1 = w1.2.1 ∧ w_1.2.2 = w1.2.2 := by rw [hw_2]; exact ⟨rfl, rfl⟩
  have h_4 : w_1.1 wk = some (147, br, tTb 3 cW (tcut (W0 ++ [[(n : Int), 0, 1]]) (W0.length : Int))) := by rw [hw_2]; exact zput_at
  refine zx_iv (b := wk) (As := [zI (W0.length : Int)]) (st := []) (v := none) (w1 := w_1) dX0_scan_125 zc_X0_92 hwk1 (z_cls9 (by decide)) rfl rfl (Nat.le_of_ble_eq_true rfl) rfl (by rw [hw_2]; exact (c_X9_cut hwk1 (by decide) okW1 (W0.length : Int))) ?_
  refine zx_st (st1 := []) rfl ?_
  refine zx_goto (tgt := 235) dX0_scan_128 (by decide) ?_
  refine zx_iinc (i := 2) (v := ((q + 1 : Nat) : Int)) dX0_scan_235 rfl (zw_eq (by omega) (by omega) (by omega)) (by decide) rfl ?_
  refine zx_L (L1 := [some (zR br), some (zI (st0 : Int)), some (zI ((q + 1 : Nat) : Int)), some (zI (W0.length : Int)), some (zI (n : Int)), some (zI 0), some (zI (-1)), o7, o8]) rfl ?_
  refine zx_goto (tgt := 21) dX0_scan_238 (by decide) ?_
  have hfaL9 : zFa [wk] w1 w_1 := (zFa_put zFa_re (by simp) hw_2)
  have hF9 : zFr TB w1 w_1 := zFr_fa hfaL9 (zLc hwk1 (by simp) zLn)
  have h_5 : w_1.1 nd = some (140, br, tTb 5 cN (ts NN (n : Int) 4 (3 * (rd : Int) + 2))) := by
    rw [hw_2]; exact zput_tg hwk1 hnd1 (by simp)
  have h_6 : w_1.1 va = some (141, br, tTb 1 cV VV) := by
    rw [hw_2]; exact zput_tg hwk1 hva1 (by simp)
  have h_7 : w_1.1 ce = some (142, br, tTb 3 cC CC) := by
    rw [hw_2]; exact zput_tg hwk1 hce1 (by simp)
  have h_8 : w_1.1 li = some (143, br, tTb 4 cL LL) := by
    rw [hw_2]; exact zput_tg hwk1 hli1 (by simp)
  have h_9 : w_1.1 ro = some (144, br, tTb 6 cR RR) := by
    rw [hw_2]; exact zput_tg hwk1 hro1 (by simp)
  have h_10 : w_1.1 bi = some (145, br, tTb 2 cB BB) := by
    rw [hw_2]; exact zput_tg hwk1 hbi1 (by simp)
  have h_11 : w_1.1 le = some (146, br, tTb 4 cE EE) := by
    rw [hw_2]; exact zput_tg hwk1 hle1 (by simp)
  have h_12 : w_1.1 br = some (0, 0, [zR pg, zR t, zR nd, zI (g : Int), zR va, zR ce, zR li, zR ro, zI fr, zR bi, zR le, zR wk, zI tk, zI rs, zI (rd : Int)]) := by
    rw [hw_2]; exact zput_tg hwk1 hbr1 (by simp)
  have hB9 : bbW w_1 b1 b2 ((br, pg, t), (nd, va, ce, li), (ro, bi, le, wk)) (((cN, (ts NN (n : Int) 4 (3 * (rd : Int) + 2))), (cV, VV), (cC, CC), (cL, LL)), ((cR, RR), (cB, BB), (cE, EE), (cW, (tcut (W0 ++ [[(n : Int), 0, 1]]) (W0.length : Int)))), ((g : Int), fr, tk, rs, (rd : Int))) := ⟨h_12, ⟨⟨h_5, okN1⟩, ⟨h_6, okV1⟩, ⟨h_7, okC1⟩, ⟨h_8, okL1⟩⟩, ⟨⟨h_9, okR1⟩, ⟨h_10, okB1⟩, ⟨h_11, okE1⟩, ⟨h_4, (tOk_cut okW1)⟩⟩, ⟨⟨by omega, by omega, by omega, by omega⟩, ⟨by omega, by omega, by omega, by omega⟩⟩, ⟨⟨by omega, by omega, by omega, by omega⟩, ⟨by omega, by omega, by omega, by omega⟩⟩, by omega, by omega⟩
  rw [tcut_last rfl] at hB9
  exact k _ _ _ _ _ _ _ hB9 (zFr_tr hFp1 (zFr_tr hF1 hF9))
theorem sc_pop1 (hB : bbW w b1 b2 ((br, pg, t), (nd, va, ce, li), (ro, bi, le, wk)) (((cN, NN), (cV, VV), (cC, CC), (cL, LL)), ((cR, RR), (cB, BB), (cE, EE), (cW, (W0 ++ [[(n : Int), 0, 1]]))), ((g : Int), fr, tk, rs, (rd : Int)))) (hG1 : b1 + 1800000 ≤ 30 * G.2.2.2.2.1) (hG2 : b2 + 3700000 ≤ G.2.2.2.2.2) (hT : tmW w t tc tn th tz ty C3 TN TH TS) (hM : ndM NN N bd mk) (hn : n < N.length) (hrd : rd < 1000000) (hq : q < 900000) (hlW : W0.length < 6000) {c : Nat} (hh : bhd N n = some c) (hc : c < 3 ∧ c ≠ 1) (k : ∀ (o3 o4 o5 o6 o7 o8 : Option zV) (w' : zW), bbW w' b1 b2 ((br, pg, t), (nd, va, ce, li), (ro, bi, le, wk)) (((cN, (ts NN (n : Int) 4 (3 * (rd : Int) + 1))), (cV, VV), (cC, CC), (cL, LL)), ((cR, RR), (cB, BB), (cE, EE), (cW, W0)), ((g : Int), fr, tk, rs, (rd : Int))) → zFr TB w w' → zX G zm_X0_scan (d + 3) [zR br, zI (st0 : Int)] w0 (zVal PQ) 21 [some (zR br), some (zI (st0 : Int)), some (zI ((q + 1 : Nat) : Int)), o3, o4, o5, o6, o7, o8] [] w') : zX G zm_X0_scan (d + 3) [zR br, zI (st0 : Int)] w0 (zVal PQ) 21 [some (zR br), some (zI (st0 : Int)), some (zI (q : Int)), o3, o4, o5, o6, o7, o8] [] w := by
  have hlen1 : ((W0 ++ [[(n : Int), 0, 1]])).length = W0.length + 1 := by simp
  obtain ⟨hbr, ⟨⟨hnd, okN⟩, ⟨hva, okV⟩, ⟨hce, okC⟩, ⟨hli, okL⟩⟩, ⟨⟨hro, okR⟩, ⟨hbi, okB⟩, ⟨hle, okE⟩, ⟨hwk, okW⟩⟩, ⟨⟨c1N, c1V, c1C, c1L⟩, ⟨c1R, c1B, c1E, c1W⟩⟩, ⟨⟨c2N, c2V, c2C, c2L⟩, ⟨c2R, c2B, c2E, c2W⟩⟩, hrm1, hrm2⟩ := id hB
  have hg0 : tg (W0 ++ [[(n : Int), 0, 1]]) (W0.length : Int) 0 = (n : Int) := tg_last (j := 0) rfl
  have hg1 : tg (W0 ++ [[(n : Int), 0, 1]]) (W0.length : Int) 1 = 0 := tg_last (j := 1) rfl
  have hg2 : tg (W0 ++ [[(n : Int), 0, 1]]) (W0.length : Int) 2 = 1 := tg_last (j := 2) rfl
  have hh0 : tg NN (n : Int) 0 = (c : Int) := by rw [(ndM_get hM hn).1, hh]; rfl
  have hpc : tmPc C3 (c : Int) = 0 := by rw [tmPc3 hc.1, if_neg hc.2]
  refine zx_iload_n (i := 2) dX0_scan_21 rfl rfl ?_
  refine zx_ldc (v := 1000000) dX0_scan_22 zk_X0_65 (by decide +kernel) (z32_lit (by decide) (by decide)) ?_
  refine zx_icmp_ge (tgt := 241) dX0_scan_24 (by decide) (fun h24 => absurd h24 (by omega)) (fun h24 => ?_)
  refine zx_aload_n (i := 0) dX0_scan_27 rfl rfl ?_
  refine zx_getfield dX0_scan_28 zf_X0_46 hbr rfl ?_
  refine zx_iv (b := wk) (As := []) (st := []) (v := (some (zI ((W0.length + 1 : Nat) : Int)))) (w1 := w) dX0_scan_31 zc_X0_70 hwk (z_cls9 (by decide)) rfl rfl (Nat.le_of_ble_eq_true rfl) rfl (by have q := (c_X9_count (G := G) (d := d + 2) hwk (by decide) okW); rw [hlen1] at q; exact q) ?_
  refine zx_st (st1 := [zI ((W0.length + 1 : Nat) : Int)]) rfl ?_
  refine zx_if_le (tgt := 241) dX0_scan_34 (by decide) (fun h34 => absurd h34 (by omega)) (fun h34 => ?_)
  refine zx_aload_n (i := 0) dX0_scan_37 rfl rfl ?_
  refine zx_getfield dX0_scan_38 zf_X0_46 hbr rfl ?_
  refine zx_iv (b := wk) (As := []) (st := []) (v := (some (zI ((W0.length + 1 : Nat) : Int)))) (w1 := w) dX0_scan_41 zc_X0_70 hwk (z_cls9 (by decide)) rfl rfl (Nat.le_of_ble_eq_true rfl) rfl (by have q := (c_X9_count (G := G) (d := d + 2) hwk (by decide) okW); rw [hlen1] at q; exact q) ?_
  refine zx_st (st1 := [zI ((W0.length + 1 : Nat) : Int)]) rfl ?_
  refine zx_iconst (v := 1) dX0_scan_44 rfl (z32_lit (by decide) (by decide)) ?_
  refine zx_pc (pc1 := 45) rfl ?_
  refine zx_isub (v := (W0.length : Int)) dX0_scan_45 (zw_eq (by omega) (by omega) (by omega)) ?_
  refine zx_istore_n (i := 3) dX0_scan_46 rfl (by decide) rfl ?_
  refine zx_L (L1 := [some (zR br), some (zI (st0 : Int)), some (zI (q : Int)), some (zI (W0.length : Int)), o4, o5, o6, o7, o8]) rfl ?_
  refine zx_aload_n (i := 0) dX0_scan_47 rfl rfl ?_
  refine zx_getfield dX0_scan_48 zf_X0_46 hbr rfl ?_
  refine zx_iload_n (i := 3) dX0_scan_51 rfl rfl ?_
  refine zx_iconst (v := 0) dX0_scan_52 rfl (z32_lit (by decide) (by decide)) ?_
  refine zx_iv (b := wk) (As := [zI (W0.length : Int), zI 0]) (st := []) (v := (some (zI (n : Int)))) (w1 := w) dX0_scan_53 zc_X0_84 hwk (z_cls9 (by decide)) rfl rfl (Nat.le_of_ble_eq_true rfl) rfl (by have q := (c_X9_get (G := G) (d := d + 2) hwk (by decide) okW (W0.length : Int) 0); rw [hg0] at q; exact q) ?_
  refine zx_st (st1 := [zI (n : Int)]) rfl ?_
  refine zx_istore (i := 4) dX0_scan_56 (by decide) rfl ?_
  refine zx_L (L1 := [some (zR br), some (zI (st0 : Int)), some (zI (q : Int)), some (zI (W0.length : Int)), some (zI (n : Int)), o5, o6, o7, o8]) rfl ?_
  refine zx_aload_n (i := 0) dX0_scan_58 rfl rfl ?_
  refine zx_getfield dX0_scan_59 zf_X0_46 hbr rfl ?_
  refine zx_iload_n (i := 3) dX0_scan_62 rfl rfl ?_
  refine zx_iconst (v := 1) dX0_scan_63 rfl (z32_lit (by decide) (by decide)) ?_
  refine zx_pc (pc1 := 64) rfl ?_
  refine zx_iv (b := wk) (As := [zI (W0.length : Int), zI 1]) (st := []) (v := (some (zI 0))) (w1 := w) dX0_scan_64 zc_X0_84 hwk (z_cls9 (by decide)) rfl rfl (Nat.le_of_ble_eq_true rfl) rfl (by have q := (c_X9_get (G := G) (d := d + 2) hwk (by decide) okW (W0.length : Int) 1); rw [hg1] at q; exact q) ?_
  refine zx_st (st1 := [zI 0]) rfl ?_
  refine zx_istore (i := 5) dX0_scan_67 (by decide) rfl ?_
  refine zx_L (L1 := [some (zR br), some (zI (st0 : Int)), some (zI (q : Int)), some (zI (W0.length : Int)), some (zI (n : Int)), some (zI 0), o6, o7, o8]) rfl ?_
  refine zx_aload_n (i := 0) dX0_scan_69 rfl rfl ?_
  refine zx_getfield dX0_scan_70 zf_X0_24 hbr rfl ?_
  refine zx_iload (i := 4) dX0_scan_73 rfl ?_
  refine zx_iconst (v := 0) dX0_scan_75 rfl (z32_lit (by decide) (by decide)) ?_
  refine zx_iv (b := nd) (As := [zI (n : Int), zI 0]) (st := []) (v := (some (zI (c : Int)))) (w1 := w) dX0_scan_76 zc_X0_84 hnd (z_cls9 (by decide)) rfl rfl (Nat.le_of_ble_eq_true rfl) rfl (by have q := (c_X9_get (G := G) (d := d + 2) hnd (by decide) okN (n : Int) 0); rw [hh0] at q; exact q) ?_
  refine zx_st (st1 := [zI (c : Int)]) rfl ?_
  refine zx_istore (i := 6) dX0_scan_79 (by decide) rfl ?_
  refine zx_L (L1 := [some (zR br), some (zI (st0 : Int)), some (zI (q : Int)), some (zI (W0.length : Int)), some (zI (n : Int)), some (zI 0), some (zI (c : Int)), o7, o8]) rfl ?_
  refine zx_iload (i := 5) dX0_scan_81 rfl ?_
  refine zx_aload_n (i := 0) dX0_scan_83 rfl rfl ?_
  refine zx_getfield dX0_scan_84 zf_X0_15 hbr rfl ?_
  refine zx_iload (i := 6) dX0_scan_87 rfl ?_
  refine zx_pc (pc1 := 89) rfl ?_
  refine zx_iv (b := t) (As := [zI (c : Int)]) (st := [zI 0]) (v := (some (zI 0))) (w1 := w) dX0_scan_89 zc_X0_251 hT.1 rfl rfl rfl (Nat.le_of_ble_eq_true rfl) rfl (by have q := c_X10_partCount (G := G) (d := d + 1) hT (c : Int); rw [hpc] at q; exact q) ?_
  refine zx_st (st1 := [zI 0, zI 0]) rfl ?_
  refine zx_icmp_lt (tgt := 131) dX0_scan_92 (by decide) (fun h92 => absurd h92 (by decide)) (fun h92 => ?_)
  refine zx_aload_n (i := 0) dX0_scan_95 rfl rfl ?_
  refine zx_iload (i := 4) dX0_scan_96 rfl ?_
  refine zx_iload (i := 6) dX0_scan_98 rfl ?_
  refine zx_iconst (v := -1) dX0_scan_100 rfl (z32_lit (by decide) (by decide)) ?_
  refine zx_icmp_ne (tgt := 108) dX0_scan_101 (by decide) (fun h101 => ?_) (fun h101 => absurd (by omega) h101)
  refine zx_aload_n (i := 0) dX0_scan_108 rfl rfl ?_
  refine zx_getfield dX0_scan_109 zf_X0_46 hbr rfl ?_
  refine zx_iload_n (i := 3) dX0_scan_112 rfl rfl ?_
  refine zx_iconst (v := 2) dX0_scan_113 rfl (z32_lit (by decide) (by decide)) ?_
  refine zx_iv (b := wk) (As := [zI (W0.length : Int), zI 2]) (st := [zI (n : Int), zR br]) (v := (some (zI 1))) (w1 := w) dX0_scan_114 zc_X0_84 hwk (z_cls9 (by decide)) rfl rfl (Nat.le_of_ble_eq_true rfl) rfl (by have q := (c_X9_get (G := G) (d := d + 2) hwk (by decide) okW (W0.length : Int) 2); rw [hg2] at q; exact q) ?_
  refine zx_st (st1 := [zI 1, zI (n : Int), zR br]) rfl ?_
  refine zx_pc (pc1 := 117) rfl ?_
  have hFp1 : zFr TB w w := zFr_re
  have hBp1 : bbW w b1 b2 ((br, pg, t), (nd, va, ce, li), (ro, bi, le, wk)) (((cN, NN), (cV, VV), (cC, CC), (cL, LL)), ((cR, RR), (cB, BB), (cE, EE), (cW, (W0 ++ [[(n : Int), 0, 1]]))), ((g : Int), fr, tk, rs, (rd : Int))) := ⟨hbr, ⟨⟨hnd, okN⟩, ⟨hva, okV⟩, ⟨hce, okC⟩, ⟨hli, okL⟩⟩, ⟨⟨hro, okR⟩, ⟨hbi, okB⟩, ⟨hle, okE⟩, ⟨hwk, okW⟩⟩, ⟨⟨by omega, by omega, by omega, by omega⟩, ⟨by omega, by omega, by omega, by omega⟩⟩, ⟨⟨by omega, by omega, by omega, by omega⟩, ⟨by omega, by omega, by omega, by omega⟩⟩, by omega, by omega⟩
  refine zx_ivN (b := br) (As := [zI (n : Int), zI 1]) (st := []) dX0_scan_117 zc_X0_260 hbr rfl rfl rfl (Nat.le_of_ble_eq_true rfl) rfl (c_X0_setMark hBp1 (n : Int) 1 (by omega) (by omega)) (fun w1 hq => ?_)
  obtain ⟨hB1, hF1⟩ := hq
  obtain ⟨hbr1, ⟨⟨hnd1, okN1⟩, ⟨hva1, okV1⟩, ⟨hce1, okC1⟩, ⟨hli1, okL1⟩⟩, ⟨⟨hro1, okR1⟩, ⟨hbi1, okB1⟩, ⟨hle1, okE1⟩, ⟨hwk1, okW1⟩⟩, ⟨⟨c1N1, c1V1, c1C1, c1L1⟩, ⟨c1R1, c1B1, c1E1, c1W1⟩⟩, ⟨⟨c2N1, c2V1, c2C1, c2L1⟩, ⟨c2R1, c2B1, c2E1, c2W1⟩⟩, hrm11, hrm21⟩ := id hB1
  refine zx_aload_n (i := 0) dX0_scan_120 rfl rfl ?_
  refine zx_getfield dX0_scan_121 zf_X0_46 hbr1 rfl ?_
  refine zx_iload_n (i := 3) dX0_scan_124 rfl rfl ?_
  obtain ⟨w_1, hw_2⟩ : ∃ ww, ww = zput w1 wk (147, br, tTb 3 cW (tcut (W0 ++ [[(n : Int), 0, 1]]) (W0.length : Int))) := ⟨_, rfl⟩
  have q_3 : w_1.2.1 = w1.2.1 ∧ w_1.2.2 = w1.2.2 := by rw [hw_2]; exact ⟨rfl, rfl⟩
  have h_4 : w_1.1 wk = some (147, br, tTb 3 cW (tcut (W0 ++ [[(n : Int), 0, 1]]) (W0.length : Int))) := by rw [hw_2]; exact zput_at
  refine zx_iv (b := wk) (As := [zI (W0.length : Int)]) (st := []) (v := none) (w1 := w_1) dX0_scan_125 zc_X0_92 hwk1 (z_cls9 (by decide)) rfl rfl (Nat.le_of_ble_eq_true rfl) rfl (by rw [hw_2]; exact (c_X9_cut hwk1 (by decide) okW1 (W0.length : Int))) ?_
  refine zx_st (st1 := []) rfl ?_
  refine zx_goto (tgt := 235) dX0_scan_128 (by decide) ?_
  refine zx_iinc (i := 2) (v := ((q + 1 : Nat) : Int)) dX0_scan_235 rfl (zw_eq (by omega) (by omega) (by omega)) (by decide) rfl ?_
  refine zx_L (L1 := [some (zR br), some (zI (st0 : Int)), some (zI ((q + 1 : Nat) : Int)), some (zI (W0.length : Int)), some (zI (n : Int)), some (zI 0), some (zI (c : Int)), o7, o8]) rfl ?_
  refine zx_goto (tgt := 21) dX0_scan_238 (by decide) ?_
  have hfaL9 : zFa [wk] w1 w_1 := (zFa_put zFa_re (by simp) hw_2)
  have hF9 : zFr TB w1 w_1 := zFr_fa hfaL9 (zLc hwk1 (by simp) zLn)
  have h_5 : w_1.1 nd = some (140, br, tTb 5 cN (ts NN (n : Int) 4 (3 * (rd : Int) + 1))) := by
    rw [hw_2]; exact zput_tg hwk1 hnd1 (by simp)
  have h_6 : w_1.1 va = some (141, br, tTb 1 cV VV) := by
    rw [hw_2]; exact zput_tg hwk1 hva1 (by simp)
  have h_7 : w_1.1 ce = some (142, br, tTb 3 cC CC) := by
    rw [hw_2]; exact zput_tg hwk1 hce1 (by simp)
  have h_8 : w_1.1 li = some (143, br, tTb 4 cL LL) := by
    rw [hw_2]; exact zput_tg hwk1 hli1 (by simp)
  have h_9 : w_1.1 ro = some (144, br, tTb 6 cR RR) := by
    rw [hw_2]; exact zput_tg hwk1 hro1 (by simp)
  have h_10 : w_1.1 bi = some (145, br, tTb 2 cB BB) := by
    rw [hw_2]; exact zput_tg hwk1 hbi1 (by simp)
  have h_11 : w_1.1 le = some (146, br, tTb 4 cE EE) := by
    rw [hw_2]; exact zput_tg hwk1 hle1 (by simp)
  have h_12 : w_1.1 br = some (0, 0, [zR pg, zR t, zR nd, zI (g : Int), zR va, zR ce, zR li, zR ro, zI fr, zR bi, zR le, zR wk, zI tk, zI rs, zI (rd : Int)]) := by
    rw [hw_2]; exact zput_tg hwk1 hbr1 (by simp)
  have hB9 : bbW w_1 b1 b2 ((br, pg, t), (nd, va, ce, li), (ro, bi, le, wk)) (((cN, (ts NN (n : Int) 4 (3 * (rd : Int) + 1))), (cV, VV), (cC, CC), (cL, LL)), ((cR, RR), (cB, BB), (cE, EE), (cW, (tcut (W0 ++ [[(n : Int), 0, 1]]) (W0.length : Int)))), ((g : Int), fr, tk, rs, (rd : Int))) := ⟨h_12, ⟨⟨h_5, okN1⟩, ⟨h_6, okV1⟩, ⟨h_7, okC1⟩, ⟨h_8, okL1⟩⟩, ⟨⟨h_9, okR1⟩, ⟨h_10, okB1⟩, ⟨h_11, okE1⟩, ⟨h_4, (tOk_cut okW1)⟩⟩, ⟨⟨by omega, by omega, by omega, by omega⟩, ⟨by omega, by omega, by omega, by omega⟩⟩, ⟨⟨by omega, by omega, by omega, by omega⟩, ⟨by omega, by omega, by omega, by omega⟩⟩, by omega, by omega⟩
  rw [tcut_last rfl] at hB9
  exact k _ _ _ _ _ _ _ hB9 (zFr_tr hFp1 (zFr_tr hF1 hF9))
theorem sc_popv (hB : bbW w b1 b2 ((br, pg, t), (nd, va, ce, li), (ro, bi, le, wk)) (((cN, NN), (cV, VV), (cC, CC), (cL, LL)), ((cR, RR), (cB, BB), (cE, EE), (cW, (W0 ++ [[(n : Int), 1, v]]))), ((g : Int), fr, tk, rs, (rd : Int)))) (hG1 : b1 + 1800000 ≤ 30 * G.2.2.2.2.1) (hG2 : b2 + 3700000 ≤ G.2.2.2.2.2) (hT : tmW w t tc tn th tz ty C3 TN TH TS) (hM : ndM NN N bd mk) (hn : n < N.length) (hrd : rd < 1000000) (hq : q < 900000) (hlW : W0.length < 6000) (hh : bhd N n = some 1) (hv : v = 1 ∨ v = 2) (k : ∀ (o3 o4 o5 o6 o7 o8 : Option zV) (w' : zW), bbW w' b1 b2 ((br, pg, t), (nd, va, ce, li), (ro, bi, le, wk)) (((cN, (ts NN (n : Int) 4 (3 * (rd : Int) + v))), (cV, VV), (cC, CC), (cL, LL)), ((cR, RR), (cB, BB), (cE, EE), (cW, W0)), ((g : Int), fr, tk, rs, (rd : Int))) → zFr TB w w' → zX G zm_X0_scan (d + 3) [zR br, zI (st0 : Int)] w0 (zVal PQ) 21 [some (zR br), some (zI (st0 : Int)), some (zI ((q + 1 : Nat) : Int)), o3, o4, o5, o6, o7, o8] [] w') : zX G zm_X0_scan (d + 3) [zR br, zI (st0 : Int)] w0 (zVal PQ) 21 [some (zR br), some (zI (st0 : Int)), some (zI (q : Int)), o3, o4, o5, o6, o7, o8] [] w := by
  have hlen1 : ((W0 ++ [[(n : Int), 1, v]])).length = W0.length + 1 := by simp
  obtain ⟨hbr, ⟨⟨hnd, okN⟩, ⟨hva, okV⟩, ⟨hce, okC⟩, ⟨hli, okL⟩⟩, ⟨⟨hro, okR⟩, ⟨hbi, okB⟩, ⟨hle, okE⟩, ⟨hwk, okW⟩⟩, ⟨⟨c1N, c1V, c1C, c1L⟩, ⟨c1R, c1B, c1E, c1W⟩⟩, ⟨⟨c2N, c2V, c2C, c2L⟩, ⟨c2R, c2B, c2E, c2W⟩⟩, hrm1, hrm2⟩ := id hB
  have hg0 : tg (W0 ++ [[(n : Int), 1, v]]) (W0.length : Int) 0 = (n : Int) := tg_last (j := 0) rfl
  have hg1 : tg (W0 ++ [[(n : Int), 1, v]]) (W0.length : Int) 1 = 1 := tg_last (j := 1) rfl
  have hg2 : tg (W0 ++ [[(n : Int), 1, v]]) (W0.length : Int) 2 = v := tg_last (j := 2) rfl
  have hh0 : tg NN (n : Int) 0 = 1 := by rw [(ndM_get hM hn).1, hh]; rfl
  have hpc : tmPc C3 1 = 1 := by decide
  refine zx_iload_n (i := 2) dX0_scan_21 rfl rfl ?_
  refine zx_ldc (v := 1000000) dX0_scan_22 zk_X0_65 (by decide +kernel) (z32_lit (by decide) (by decide)) ?_
  refine zx_icmp_ge (tgt := 241) dX0_scan_24 (by decide) (fun h24 => absurd h24 (by omega)) (fun h24 => ?_)
  refine zx_aload_n (i := 0) dX0_scan_27 rfl rfl ?_
  refine zx_getfield dX0_scan_28 zf_X0_46 hbr rfl ?_
  refine zx_iv (b := wk) (As := []) (st := []) (v := (some (zI ((W0.length + 1 : Nat) : Int)))) (w1 := w) dX0_scan_31 zc_X0_70 hwk (z_cls9 (by decide)) rfl rfl (Nat.le_of_ble_eq_true rfl) rfl (by have q := (c_X9_count (G := G) (d := d + 2) hwk (by decide) okW); rw [hlen1] at q; exact q) ?_
  refine zx_st (st1 := [zI ((W0.length + 1 : Nat) : Int)]) rfl ?_
  refine zx_if_le (tgt := 241) dX0_scan_34 (by decide) (fun h34 => absurd h34 (by omega)) (fun h34 => ?_)
  refine zx_aload_n (i := 0) dX0_scan_37 rfl rfl ?_
  refine zx_getfield dX0_scan_38 zf_X0_46 hbr rfl ?_
  refine zx_iv (b := wk) (As := []) (st := []) (v := (some (zI ((W0.length + 1 : Nat) : Int)))) (w1 := w) dX0_scan_41 zc_X0_70 hwk (z_cls9 (by decide)) rfl rfl (Nat.le_of_ble_eq_true rfl) rfl (by have q := (c_X9_count (G := G) (d := d + 2) hwk (by decide) okW); rw [hlen1] at q; exact q) ?_
  refine zx_st (st1 := [zI ((W0.length + 1 : Nat) : Int)]) rfl ?_
  refine zx_iconst (v := 1) dX0_scan_44 rfl (z32_lit (by decide) (by decide)) ?_
  refine zx_pc (pc1 := 45) rfl ?_
  refine zx_isub (v := (W0.length : Int)) dX0_scan_45 (zw_eq (by omega) (by omega) (by omega)) ?_
  refine zx_istore_n (i := 3) dX0_scan_46 rfl (by decide) rfl ?_
  refine zx_L (L1 := [some (zR br), some (zI (st0 : Int)), some (zI (q : Int)), some (zI (W0.length : Int)), o4, o5, o6, o7, o8]) rfl ?_
  refine zx_aload_n (i := 0) dX0_scan_47 rfl rfl ?_
  refine zx_getfield dX0_scan_48 zf_X0_46 hbr rfl ?_
  refine zx_iload_n (i := 3) dX0_scan_51 rfl rfl ?_
  refine zx_iconst (v := 0) dX0_scan_52 rfl (z32_lit (by decide) (by decide)) ?_
  refine zx_iv (b := wk) (As := [zI (W0.length : Int), zI 0]) (st := []) (v := (some (zI (n : Int)))) (w1 := w) dX0_scan_53 zc_X0_84 hwk (z_cls9 (by decide)) rfl rfl (Nat.le_of_ble_eq_true rfl) rfl (by have q := (c_X9_get (G := G) (d := d + 2) hwk (by decide) okW (W0.length : Int) 0); rw [hg0] at q; exact q) ?_
  refine zx_st (st1 := [zI (n : Int)]) rfl ?_
  refine zx_istore (i := 4) dX0_scan_56 (by decide) rfl ?_
  refine zx_L (L1 := [some (zR br), some (zI (st0 : Int)), some (zI (q : Int)), some (zI (W0.length : Int)), some (zI (n : Int)), o5, o6, o7, o8]) rfl ?_
  refine zx_aload_n (i := 0) dX0_scan_58 rfl rfl ?_
  refine zx_getfield dX0_scan_59 zf_X0_46 hbr rfl ?_
  refine zx_iload_n (i := 3) dX0_scan_62 rfl rfl ?_
  refine zx_iconst (v := 1) dX0_scan_63 rfl (z32_lit (by decide) (by decide)) ?_
  refine zx_pc (pc1 := 64) rfl ?_
  refine zx_iv (b := wk) (As := [zI (W0.length : Int), zI 1]) (st := []) (v := (some (zI 1))) (w1 := w) dX0_scan_64 zc_X0_84 hwk (z_cls9 (by decide)) rfl rfl (Nat.le_of_ble_eq_true rfl) rfl (by have q := (c_X9_get (G := G) (d := d + 2) hwk (by decide) okW (W0.length : Int) 1); rw [hg1] at q; exact q) ?_
  refine zx_st (st1 := [zI 1]) rfl ?_
  refine zx_istore (i := 5) dX0_scan_67 (by decide) rfl ?_
  refine zx_L (L1 := [some (zR br), some (zI (st0 : Int)), some (zI (q : Int)), some (zI (W0.length : Int)), some (zI (n : Int)), some (zI 1), o6, o7, o8]) rfl ?_
  refine zx_aload_n (i := 0) dX0_scan_69 rfl rfl ?_
  refine zx_getfield dX0_scan_70 zf_X0_24 hbr rfl ?_
  refine zx_iload (i := 4) dX0_scan_73 rfl ?_
  refine zx_iconst (v := 0) dX0_scan_75 rfl (z32_lit (by decide) (by decide)) ?_
  refine zx_iv (b := nd) (As := [zI (n : Int), zI 0]) (st := []) (v := (some (zI 1))) (w1 := w) dX0_scan_76 zc_X0_84 hnd (z_cls9 (by decide)) rfl rfl (Nat.le_of_ble_eq_true rfl) rfl (by have q := (c_X9_get (G := G) (d := d + 2) hnd (by decide) okN (n : Int) 0); rw [hh0] at q; exact q) ?_
  refine zx_st (st1 := [zI 1]) rfl ?_
  refine zx_istore (i := 6) dX0_scan_79 (by decide) rfl ?_
  refine zx_L (L1 := [some (zR br), some (zI (st0 : Int)), some (zI (q : Int)), some (zI (W0.length : Int)), some (zI (n : Int)), some (zI 1), some (zI 1), o7, o8]) rfl ?_
  refine zx_iload (i := 5) dX0_scan_81 rfl ?_
  refine zx_aload_n (i := 0) dX0_scan_83 rfl rfl ?_
  refine zx_getfield dX0_scan_84 zf_X0_15 hbr rfl ?_
  refine zx_iload (i := 6) dX0_scan_87 rfl ?_
  refine zx_pc (pc1 := 89) rfl ?_
  refine zx_iv (b := t) (As := [zI 1]) (st := [zI 1]) (v := (some (zI 1))) (w1 := w) dX0_scan_89 zc_X0_251 hT.1 rfl rfl rfl (Nat.le_of_ble_eq_true rfl) rfl (by have q := c_X10_partCount (G := G) (d := d + 1) hT 1; rw [hpc] at q; exact q) ?_
  refine zx_st (st1 := [zI 1, zI 1]) rfl ?_
  refine zx_icmp_lt (tgt := 131) dX0_scan_92 (by decide) (fun h92 => absurd h92 (by decide)) (fun h92 => ?_)
  refine zx_aload_n (i := 0) dX0_scan_95 rfl rfl ?_
  refine zx_iload (i := 4) dX0_scan_96 rfl ?_
  refine zx_iload (i := 6) dX0_scan_98 rfl ?_
  refine zx_iconst (v := -1) dX0_scan_100 rfl (z32_lit (by decide) (by decide)) ?_
  refine zx_icmp_ne (tgt := 108) dX0_scan_101 (by decide) (fun h101 => ?_) (fun h101 => absurd (by decide) h101)
  refine zx_aload_n (i := 0) dX0_scan_108 rfl rfl ?_
  refine zx_getfield dX0_scan_109 zf_X0_46 hbr rfl ?_
  refine zx_iload_n (i := 3) dX0_scan_112 rfl rfl ?_
  refine zx_iconst (v := 2) dX0_scan_113 rfl (z32_lit (by decide) (by decide)) ?_
  refine zx_iv (b := wk) (As := [zI (W0.length : Int), zI 2]) (st := [zI (n : Int), zR br]) (v := (some (zI v))) (w1 := w) dX0_scan_114 zc_X0_84 hwk (z_cls9 (by decide)) rfl rfl (Nat.le_of_ble_eq_true rfl) rfl (by have q := (c_X9_get (G := G) (d := d + 2) hwk (by decide) okW (W0.length : Int) 2); rw [hg2] at q; exact q) ?_
  refine zx_st (st1 := [zI v, zI (n : Int), zR br]) rfl ?_
  refine zx_pc (pc1 := 117) rfl ?_
  have hFp1 : zFr TB w w := zFr_re
  have hBp1 : bbW w b1 b2 ((br, pg, t), (nd, va, ce, li), (ro, bi, le, wk)) (((cN, NN), (cV, VV), (cC, CC), (cL, LL)), ((cR, RR), (cB, BB), (cE, EE), (cW, (W0 ++ [[(n : Int), 1, v]]))), ((g : Int), fr, tk, rs, (rd : Int))) := ⟨hbr, ⟨⟨hnd, okN⟩, ⟨hva, okV⟩, ⟨hce, okC⟩, ⟨hli, okL⟩⟩, ⟨⟨hro, okR⟩, ⟨hbi, okB⟩, ⟨hle, okE⟩, ⟨hwk, okW⟩⟩, ⟨⟨by omega, by omega, by omega, by omega⟩, ⟨by omega, by omega, by omega, by omega⟩⟩, ⟨⟨by omega, by omega, by omega, by omega⟩, ⟨by omega, by omega, by omega, by omega⟩⟩, by omega, by omega⟩
  refine zx_ivN (b := br) (As := [zI (n : Int), zI v]) (st := []) dX0_scan_117 zc_X0_260 hbr rfl rfl rfl (Nat.le_of_ble_eq_true rfl) rfl (c_X0_setMark hBp1 (n : Int) v (by omega) (by omega)) (fun w1 hq => ?_)
  obtain ⟨hB1, hF1⟩ := hq
  obtain ⟨hbr1, ⟨⟨hnd1, okN1⟩, ⟨hva1, okV1⟩, ⟨hce1, okC1⟩, ⟨hli1, okL1⟩⟩, ⟨⟨hro1, okR1⟩, ⟨hbi1, okB1⟩, ⟨hle1, okE1⟩, ⟨hwk1, okW1⟩⟩, ⟨⟨c1N1, c1V1, c1C1, c1L1⟩, ⟨c1R1, c1B1, c1E1, c1W1⟩⟩, ⟨⟨c2N1, c2V1, c2C1, c2L1⟩, ⟨c2R1, c2B1, c2E1, c2W1⟩⟩, hrm11, hrm21⟩ := id hB1
  refine zx_aload_n (i := 0) dX0_scan_120 rfl rfl ?_
  refine zx_getfield dX0_scan_121 zf_X0_46 hbr1 rfl ?_
  refine zx_iload_n (i := 3) dX0_scan_124 rfl rfl ?_
  obtain ⟨w_1, hw_2⟩ : ∃ ww, ww = zput w1 wk (147, br, tTb 3 cW (tcut (W0 ++ [[(n : Int), 1, v]]) (W0.length : Int))) := ⟨_, rfl⟩
  have q_3 : w_1.2.1 = w1.2.1 ∧ w_1.2.2 = w1.2.2 := by rw [hw_2]; exact ⟨rfl, rfl⟩
  have h_4 : w_1.1 wk = some (147, br, tTb 3 cW (tcut (W0 ++ [[(n : Int), 1, v]]) (W0.length : Int))) := by rw [hw_2]; exact zput_at
  refine zx_iv (b := wk) (As := [zI (W0.length : Int)]) (st := []) (v := none) (w1 := w_1) dX0_scan_125 zc_X0_92 hwk1 (z_cls9 (by decide)) rfl rfl (Nat.le_of_ble_eq_true rfl) rfl (by rw [hw_2]; exact (c_X9_cut hwk1 (by decide) okW1 (W0.length : Int))) ?_
  refine zx_st (st1 := []) rfl ?_
  refine zx_goto (tgt := 235) dX0_scan_128 (by decide) ?_
  refine zx_iinc (i := 2) (v := ((q + 1 : Nat) : Int)) dX0_scan_235 rfl (zw_eq (by omega) (by omega) (by omega)) (by decide) rfl ?_
  refine zx_L (L1 := [some (zR br), some (zI (st0 : Int)), some (zI ((q + 1 : Nat) : Int)), some (zI (W0.length : Int)), some (zI (n : Int)), some (zI 1), some (zI 1), o7, o8]) rfl ?_
  refine zx_goto (tgt := 21) dX0_scan_238 (by decide) ?_
  have hfaL9 : zFa [wk] w1 w_1 := (zFa_put zFa_re (by simp) hw_2)
  have hF9 : zFr TB w1 w_1 := zFr_fa hfaL9 (zLc hwk1 (by simp) zLn)
  have h_5 : w_1.1 nd = some (140, br, tTb 5 cN (ts NN (n : Int) 4 (3 * (rd : Int) + v))) := by
    rw [hw_2]; exact zput_tg hwk1 hnd1 (by simp)
  have h_6 : w_1.1 va = some (141, br, tTb 1 cV VV) := by
    rw [hw_2]; exact zput_tg hwk1 hva1 (by simp)
  have h_7 : w_1.1 ce = some (142, br, tTb 3 cC CC) := by
    rw [hw_2]; exact zput_tg hwk1 hce1 (by simp)
  have h_8 : w_1.1 li = some (143, br, tTb 4 cL LL) := by
    rw [hw_2]; exact zput_tg hwk1 hli1 (by simp)
  have h_9 : w_1.1 ro = some (144, br, tTb 6 cR RR) := by
    rw [hw_2]; exact zput_tg hwk1 hro1 (by simp)
  have h_10 : w_1.1 bi = some (145, br, tTb 2 cB BB) := by
    rw [hw_2]; exact zput_tg hwk1 hbi1 (by simp)
  have h_11 : w_1.1 le = some (146, br, tTb 4 cE EE) := by
    rw [hw_2]; exact zput_tg hwk1 hle1 (by simp)
  have h_12 : w_1.1 br = some (0, 0, [zR pg, zR t, zR nd, zI (g : Int), zR va, zR ce, zR li, zR ro, zI fr, zR bi, zR le, zR wk, zI tk, zI rs, zI (rd : Int)]) := by
    rw [hw_2]; exact zput_tg hwk1 hbr1 (by simp)
  have hB9 : bbW w_1 b1 b2 ((br, pg, t), (nd, va, ce, li), (ro, bi, le, wk)) (((cN, (ts NN (n : Int) 4 (3 * (rd : Int) + v))), (cV, VV), (cC, CC), (cL, LL)), ((cR, RR), (cB, BB), (cE, EE), (cW, (tcut (W0 ++ [[(n : Int), 1, v]]) (W0.length : Int)))), ((g : Int), fr, tk, rs, (rd : Int))) := ⟨h_12, ⟨⟨h_5, okN1⟩, ⟨h_6, okV1⟩, ⟨h_7, okC1⟩, ⟨h_8, okL1⟩⟩, ⟨⟨h_9, okR1⟩, ⟨h_10, okB1⟩, ⟨h_11, okE1⟩, ⟨h_4, (tOk_cut okW1)⟩⟩, ⟨⟨by omega, by omega, by omega, by omega⟩, ⟨by omega, by omega, by omega, by omega⟩⟩, ⟨⟨by omega, by omega, by omega, by omega⟩, ⟨by omega, by omega, by omega, by omega⟩⟩, by omega, by omega⟩
  rw [tcut_last rfl] at hB9
  exact k _ _ _ _ _ _ _ hB9 (zFr_tr hFp1 (zFr_tr hF1 hF9))
theorem sc_push (hB : bbW w b1 b2 ((br, pg, t), (nd, va, ce, li), (ro, bi, le, wk)) (((cN, NN), (cV, VV), (cC, CC), (cL, LL)), ((cR, RR), (cB, BB), (cE, EE), (cW, (W0 ++ [[(n : Int), 0, 1]]))), ((g : Int), fr, tk, rs, (rd : Int)))) (hG1 : b1 + 1800000 ≤ 30 * G.2.2.2.2.1) (hG2 : b2 + 3700000 ≤ G.2.2.2.2.2) (hT : tmW w t tc tn th tz ty C3 TN TH TS) (hM : ndM NN N bd mk) (hn : n < N.length) (hrd : rd < 1000000) (hq : q < 900000) (hlW : W0.length < 6000) (hk : bWk N g bd) (hh : bhd N n = some 1) (hN : N.length ≤ 6000) (hx : bfs N n < N.length) (hz : bRp bd (bfs N n) z) (hmz : -1 ≤ (if z = n then 3 * (rd : Int) else mk z) ∧ (if z = n then 3 * (rd : Int) else mk z) < 3 * (rd : Int) + 3) (hmv : mkV g rd (fun m => if m = n then 3 * (rd : Int) + 0 else mk m) z = -1) (k : ∀ (o3 o4 o5 o6 o7 o8 : Option zV) (w' : zW), bbW w' b1 b2 ((br, pg, t), (nd, va, ce, li), (ro, bi, le, wk)) (((cN, (ts NN (n : Int) 4 (3 * (rd : Int) + 0))), (cV, VV), (cC, CC), (cL, LL)), ((cR, RR), (cB, BB), (cE, EE), ((tCap 3 cW (W0 ++ [[(n : Int), 0, 1]])), (W0 ++ [[(n : Int), 0, 1]] ++ [[(z : Int), 0, 1]]))), ((g : Int), fr, tk, rs, (rd : Int))) → zFr TB w w' → zX G zm_X0_scan (d + 3) [zR br, zI (st0 : Int)] w0 (zVal PQ) 21 [some (zR br), some (zI (st0 : Int)), some (zI ((q + 1 : Nat) : Int)), o3, o4, o5, o6, o7, o8] [] w') : zX G zm_X0_scan (d + 3) [zR br, zI (st0 : Int)] w0 (zVal PQ) 21 [some (zR br), some (zI (st0 : Int)), some (zI (q : Int)), o3, o4, o5, o6, o7, o8] [] w := by
  have hlen1 : ((W0 ++ [[(n : Int), 0, 1]])).length = W0.length + 1 := by simp
  obtain ⟨hbr, ⟨⟨hnd, okN⟩, ⟨hva, okV⟩, ⟨hce, okC⟩, ⟨hli, okL⟩⟩, ⟨⟨hro, okR⟩, ⟨hbi, okB⟩, ⟨hle, okE⟩, ⟨hwk, okW⟩⟩, ⟨⟨c1N, c1V, c1C, c1L⟩, ⟨c1R, c1B, c1E, c1W⟩⟩, ⟨⟨c2N, c2V, c2C, c2L⟩, ⟨c2R, c2B, c2E, c2W⟩⟩, hrm1, hrm2⟩ := id hB
  have hg0 : tg (W0 ++ [[(n : Int), 0, 1]]) (W0.length : Int) 0 = (n : Int) := tg_last (j := 0) rfl
  have hg1 : tg (W0 ++ [[(n : Int), 0, 1]]) (W0.length : Int) 1 = 0 := tg_last (j := 1) rfl
  have hg2 : tg (W0 ++ [[(n : Int), 0, 1]]) (W0.length : Int) 2 = 1 := tg_last (j := 2) rfl
  have hh0 : tg NN (n : Int) 0 = 1 := by rw [(ndM_get hM hn).1, hh]; rfl
  have hpc : tmPc C3 1 = 1 := by decide
  have hM1 := ndM_m hM n (3 * (rd : Int) + 0)
  have hx1 : tg (ts NN (n : Int) 4 (3 * (rd : Int) + 0)) (n : Int) 1 = (bfs N n : Int) := (ndM_get hM1 hn).2.1 hh
  have hzN := bRp_lt hk hx hz
  have hmz : -1 ≤ (fun m => if m = n then 3 * (rd : Int) + 0 else mk m) z ∧ (fun m => if m = n then 3 * (rd : Int) + 0 else mk m) z < 3 * (rd : Int) + 3 := by
    rw [Int.add_zero]
    exact hmz
  refine zx_iload_n (i := 2) dX0_scan_21 rfl rfl ?_
  refine zx_ldc (v := 1000000) dX0_scan_22 zk_X0_65 (by decide +kernel) (z32_lit (by decide) (by decide)) ?_
  refine zx_icmp_ge (tgt := 241) dX0_scan_24 (by decide) (fun h24 => absurd h24 (by omega)) (fun h24 => ?_)
  refine zx_aload_n (i := 0) dX0_scan_27 rfl rfl ?_
  refine zx_getfield dX0_scan_28 zf_X0_46 hbr rfl ?_
  refine zx_iv (b := wk) (As := []) (st := []) (v := (some (zI ((W0.length + 1 : Nat) : Int)))) (w1 := w) dX0_scan_31 zc_X0_70 hwk (z_cls9 (by decide)) rfl rfl (Nat.le_of_ble_eq_true rfl) rfl (by have q := (c_X9_count (G := G) (d := d + 2) hwk (by decide) okW); rw [hlen1] at q; exact q) ?_
  refine zx_st (st1 := [zI ((W0.length + 1 : Nat) : Int)]) rfl ?_
  refine zx_if_le (tgt := 241) dX0_scan_34 (by decide) (fun h34 => absurd h34 (by omega)) (fun h34 => ?_)
  refine zx_aload_n (i := 0) dX0_scan_37 rfl rfl ?_
  refine zx_getfield dX0_scan_38 zf_X0_46 hbr rfl ?_
  refine zx_iv (b := wk) (As := []) (st := []) (v := (some (zI ((W0.length + 1 : Nat) : Int)))) (w1 := w) dX0_scan_41 zc_X0_70 hwk (z_cls9 (by decide)) rfl rfl (Nat.le_of_ble_eq_true rfl) rfl (by have q := (c_X9_count (G := G) (d := d + 2) hwk (by decide) okW); rw [hlen1] at q; exact q) ?_
  refine zx_st (st1 := [zI ((W0.length + 1 : Nat) : Int)]) rfl ?_
  refine zx_iconst (v := 1) dX0_scan_44 rfl (z32_lit (by decide) (by decide)) ?_
  refine zx_pc (pc1 := 45) rfl ?_
  refine zx_isub (v := (W0.length : Int)) dX0_scan_45 (zw_eq (by omega) (by omega) (by omega)) ?_
  refine zx_istore_n (i := 3) dX0_scan_46 rfl (by decide) rfl ?_
  refine zx_L (L1 := [some (zR br), some (zI (st0 : Int)), some (zI (q : Int)), some (zI (W0.length : Int)), o4, o5, o6, o7, o8]) rfl ?_
  refine zx_aload_n (i := 0) dX0_scan_47 rfl rfl ?_
  refine zx_getfield dX0_scan_48 zf_X0_46 hbr rfl ?_
  refine zx_iload_n (i := 3) dX0_scan_51 rfl rfl ?_
  refine zx_iconst (v := 0) dX0_scan_52 rfl (z32_lit (by decide) (by decide)) ?_
  refine zx_iv (b := wk) (As := [zI (W0.length : Int), zI 0]) (st := []) (v := (some (zI (n : Int)))) (w1 := w) dX0_scan_53 zc_X0_84 hwk (z_cls9 (by decide)) rfl rfl (Nat.le_of_ble_eq_true rfl) rfl (by have q := (c_X9_get (G := G) (d := d + 2) hwk (by decide) okW (W0.length : Int) 0); rw [hg0] at q; exact q) ?_
  refine zx_st (st1 := [zI (n : Int)]) rfl ?_
  refine zx_istore (i := 4) dX0_scan_56 (by decide) rfl ?_
  refine zx_L (L1 := [some (zR br), some (zI (st0 : Int)), some (zI (q : Int)), some (zI (W0.length : Int)), some (zI (n : Int)), o5, o6, o7, o8]) rfl ?_
  refine zx_aload_n (i := 0) dX0_scan_58 rfl rfl ?_
  refine zx_getfield dX0_scan_59 zf_X0_46 hbr rfl ?_
  refine zx_iload_n (i := 3) dX0_scan_62 rfl rfl ?_
  refine zx_iconst (v := 1) dX0_scan_63 rfl (z32_lit (by decide) (by decide)) ?_
  refine zx_pc (pc1 := 64) rfl ?_
  refine zx_iv (b := wk) (As := [zI (W0.length : Int), zI 1]) (st := []) (v := (some (zI 0))) (w1 := w) dX0_scan_64 zc_X0_84 hwk (z_cls9 (by decide)) rfl rfl (Nat.le_of_ble_eq_true rfl) rfl (by have q := (c_X9_get (G := G) (d := d + 2) hwk (by decide) okW (W0.length : Int) 1); rw [hg1] at q; exact q) ?_
  refine zx_st (st1 := [zI 0]) rfl ?_
  refine zx_istore (i := 5) dX0_scan_67 (by decide) rfl ?_
  refine zx_L (L1 := [some (zR br), some (zI (st0 : Int)), some (zI (q : Int)), some (zI (W0.length : Int)), some (zI (n : Int)), some (zI 0), o6, o7, o8]) rfl ?_
  refine zx_aload_n (i := 0) dX0_scan_69 rfl rfl ?_
  refine zx_getfield dX0_scan_70 zf_X0_24 hbr rfl ?_
  refine zx_iload (i := 4) dX0_scan_73 rfl ?_
  refine zx_iconst (v := 0) dX0_scan_75 rfl (z32_lit (by decide) (by decide)) ?_
  refine zx_iv (b := nd) (As := [zI (n : Int), zI 0]) (st := []) (v := (some (zI 1))) (w1 := w) dX0_scan_76 zc_X0_84 hnd (z_cls9 (by decide)) rfl rfl (Nat.le_of_ble_eq_true rfl) rfl (by have q := (c_X9_get (G := G) (d := d + 2) hnd (by decide) okN (n : Int) 0); rw [hh0] at q; exact q) ?_
  refine zx_st (st1 := [zI 1]) rfl ?_
  refine zx_istore (i := 6) dX0_scan_79 (by decide) rfl ?_
  refine zx_L (L1 := [some (zR br), some (zI (st0 : Int)), some (zI (q : Int)), some (zI (W0.length : Int)), some (zI (n : Int)), some (zI 0), some (zI 1), o7, o8]) rfl ?_
  refine zx_iload (i := 5) dX0_scan_81 rfl ?_
  refine zx_aload_n (i := 0) dX0_scan_83 rfl rfl ?_
  refine zx_getfield dX0_scan_84 zf_X0_15 hbr rfl ?_
  refine zx_iload (i := 6) dX0_scan_87 rfl ?_
  refine zx_pc (pc1 := 89) rfl ?_
  refine zx_iv (b := t) (As := [zI 1]) (st := [zI 0]) (v := (some (zI 1))) (w1 := w) dX0_scan_89 zc_X0_251 hT.1 rfl rfl rfl (Nat.le_of_ble_eq_true rfl) rfl (by have q := c_X10_partCount (G := G) (d := d + 1) hT 1; rw [hpc] at q; exact q) ?_
  refine zx_st (st1 := [zI 1, zI 0]) rfl ?_
  refine zx_icmp_lt (tgt := 131) dX0_scan_92 (by decide) (fun h92 => ?_) (fun h92 => absurd (by decide) h92)
  refine zx_aload_n (i := 0) dX0_scan_131 rfl rfl ?_
  refine zx_iload (i := 4) dX0_scan_132 rfl ?_
  refine zx_iconst (v := 0) dX0_scan_134 rfl (z32_lit (by decide) (by decide)) ?_
  have hFp1 : zFr TB w w := zFr_re
  have hBp1 : bbW w b1 b2 ((br, pg, t), (nd, va, ce, li), (ro, bi, le, wk)) (((cN, NN), (cV, VV), (cC, CC), (cL, LL)), ((cR, RR), (cB, BB), (cE, EE), (cW, (W0 ++ [[(n : Int), 0, 1]]))), ((g : Int), fr, tk, rs, (rd : Int))) := ⟨hbr, ⟨⟨hnd, okN⟩, ⟨hva, okV⟩, ⟨hce, okC⟩, ⟨hli, okL⟩⟩, ⟨⟨hro, okR⟩, ⟨hbi, okB⟩, ⟨hle, okE⟩, ⟨hwk, okW⟩⟩, ⟨⟨by omega, by omega, by omega, by omega⟩, ⟨by omega, by omega, by omega, by omega⟩⟩, ⟨⟨by omega, by omega, by omega, by omega⟩, ⟨by omega, by omega, by omega, by omega⟩⟩, by omega, by omega⟩
  refine zx_ivN (b := br) (As := [zI (n : Int), zI 0]) (st := []) dX0_scan_135 zc_X0_260 hbr rfl rfl rfl (Nat.le_of_ble_eq_true rfl) rfl (c_X0_setMark hBp1 (n : Int) 0 (by omega) (by omega)) (fun w1 hq => ?_)
  obtain ⟨hB1, hF1⟩ := hq
  obtain ⟨hbr1, ⟨⟨hnd1, okN1⟩, ⟨hva1, okV1⟩, ⟨hce1, okC1⟩, ⟨hli1, okL1⟩⟩, ⟨⟨hro1, okR1⟩, ⟨hbi1, okB1⟩, ⟨hle1, okE1⟩, ⟨hwk1, okW1⟩⟩, ⟨⟨c1N1, c1V1, c1C1, c1L1⟩, ⟨c1R1, c1B1, c1E1, c1W1⟩⟩, ⟨⟨c2N1, c2V1, c2C1, c2L1⟩, ⟨c2R1, c2B1, c2E1, c2W1⟩⟩, hrm11, hrm21⟩ := id hB1
  refine zx_aload_n (i := 0) dX0_scan_138 rfl rfl ?_
  refine zx_aload_n (i := 0) dX0_scan_139 rfl rfl ?_
  refine zx_getfield dX0_scan_140 zf_X0_24 hbr1 rfl ?_
  refine zx_iload (i := 4) dX0_scan_143 rfl ?_
  refine zx_iload (i := 5) dX0_scan_145 rfl ?_
  refine zx_if_ne (tgt := 154) dX0_scan_147 (by decide) (fun h147 => absurd h147 (by decide)) (fun h147 => ?_)
  refine zx_pc (pc1 := 150) rfl ?_
  refine zx_iconst (v := 1) dX0_scan_150 rfl (z32_lit (by decide) (by decide)) ?_
  refine zx_goto (tgt := 155) dX0_scan_151 (by decide) ?_
  refine zx_iv (b := nd) (As := [zI (n : Int), zI 1]) (st := [zR br]) (v := (some (zI (bfs N n : Int)))) (w1 := w1) dX0_scan_155 zc_X0_84 hnd1 (z_cls9 (by decide)) rfl rfl (Nat.le_of_ble_eq_true rfl) rfl (by have q := (c_X9_get (G := G) (d := d + 2) hnd1 (by decide) okN1 (n : Int) 1); rw [hx1] at q; exact q) ?_
  refine zx_st (st1 := [zI (bfs N n : Int), zR br]) rfl ?_
  refine zx_iv (b := br) (As := [zI (bfs N n : Int)]) (st := []) (v := (some (zI (z : Int)))) (w1 := w1) dX0_scan_158 zc_X0_237 hbr1 rfl rfl rfl (Nat.le_of_ble_eq_true rfl) rfl (c_find hB1 hM1 hk (by omega) hx hz) ?_
  refine zx_st (st1 := [zI (z : Int)]) rfl ?_
  refine zx_istore (i := 7) dX0_scan_161 (by decide) rfl ?_
  refine zx_L (L1 := [some (zR br), some (zI (st0 : Int)), some (zI (q : Int)), some (zI (W0.length : Int)), some (zI (n : Int)), some (zI 0), some (zI 1), some (zI (z : Int)), o8]) rfl ?_
  refine zx_aload_n (i := 0) dX0_scan_163 rfl rfl ?_
  refine zx_iload (i := 7) dX0_scan_164 rfl ?_
  refine zx_iv (b := br) (As := [zI (z : Int)]) (st := []) (v := (some (zI (-1)))) (w1 := w1) dX0_scan_166 zc_X0_254 hbr1 rfl rfl rfl (Nat.le_of_ble_eq_true rfl) rfl (by have q := c_mark (G := G) (d := d + 1) hB1 hM1 hzN hrd hmz; rw [hmv] at q; exact q) ?_
  refine zx_st (st1 := [zI (-1)]) rfl ?_
  refine zx_istore (i := 8) dX0_scan_169 (by decide) rfl ?_
  refine zx_L (L1 := [some (zR br), some (zI (st0 : Int)), some (zI (q : Int)), some (zI (W0.length : Int)), some (zI (n : Int)), some (zI 0), some (zI 1), some (zI (z : Int)), some (zI (-1))]) rfl ?_
  refine zx_iload (i := 8) dX0_scan_171 rfl ?_
  refine zx_if_ne (tgt := 178) dX0_scan_173 (by decide) (fun h173 => ?_) (fun h173 => absurd (by decide) h173)
  refine zx_iload (i := 8) dX0_scan_178 rfl ?_
  refine zx_pc (pc1 := 180) rfl ?_
  refine zx_iconst (v := -1) dX0_scan_180 rfl (z32_lit (by decide) (by decide)) ?_
  refine zx_icmp_ne (tgt := 199) dX0_scan_181 (by decide) (fun h181 => absurd h181 (by decide)) (fun h181 => ?_)
  refine zx_aload_n (i := 0) dX0_scan_184 rfl rfl ?_
  refine zx_getfield dX0_scan_185 zf_X0_46 hbr1 rfl ?_
  refine zx_iload (i := 7) dX0_scan_188 rfl ?_
  refine zx_iconst (v := 0) dX0_scan_190 rfl (z32_lit (by decide) (by decide)) ?_
  refine zx_iconst (v := 1) dX0_scan_191 rfl (z32_lit (by decide) (by decide)) ?_
  refine zx_ok (fun ok_1 => ?_)
  obtain ⟨w_2, hw_3⟩ : ∃ ww, ww = tAw w1 wk 147 br 3 cW (W0 ++ [[(n : Int), 0, 1]]) (trow 3 (z : Int) 0 1) := ⟨_, rfl⟩
  have h_4 : w_2.1 wk = some (147, br, tTb 3 (tCap 3 cW (W0 ++ [[(n : Int), 0, 1]])) ((W0 ++ [[(n : Int), 0, 1]]) ++ [(trow 3 (z : Int) 0 1)])) := by rw [hw_3]; exact tAw_at
  have qhw_3 := tAw_sz3 (w := w1) (a := wk) (t := 147) (ow := br) (c := 3) (cap := cW) (rows := (W0 ++ [[(n : Int), 0, 1]])) (r := (trow 3 (z : Int) 0 1)) (by omega)
  rw [← hw_3] at qhw_3
  refine zx_iv (b := wk) (As := [zI (z : Int), zI 0, zI 1]) (st := []) (v := (some (zI ((W0 ++ [[(n : Int), 0, 1]]).length : Int)))) (w1 := w_2) dX0_scan_192 zc_X0_113 hwk1 (z_cls9 (by decide)) rfl rfl (Nat.le_of_ble_eq_true rfl) rfl (by rw [hw_3]; exact (c_X9_add hwk1 (by decide) okW1 (by omega) (by by_cases cg : (W0 ++ [[(n : Int), 0, 1]]).length * 3 + 3 ≤ cW; exact Or.inl cg; exact Or.inr ⟨by omega, by omega⟩) (z : Int) 0 1)) ?_
  refine zx_st (st1 := [zI ((W0 ++ [[(n : Int), 0, 1]]).length : Int)]) rfl ?_
  refine zx_pop dX0_scan_195 (fun a h => by cases h) ?_
  refine zx_goto (tgt := 235) dX0_scan_196 (by decide) ?_
  refine zx_iinc (i := 2) (v := ((q + 1 : Nat) : Int)) dX0_scan_235 rfl (zw_eq (by omega) (by omega) (by omega)) (by decide) rfl ?_
  refine zx_L (L1 := [some (zR br), some (zI (st0 : Int)), some (zI ((q + 1 : Nat) : Int)), some (zI (W0.length : Int)), some (zI (n : Int)), some (zI 0), some (zI 1), some (zI (z : Int)), some (zI (-1))]) rfl ?_
  refine zx_goto (tgt := 21) dX0_scan_238 (by decide) ?_
  have hfaL9 : zFa [wk] w1 w_2 := (zFa_taw zFa_re (by simp) ok_1 hw_3)
  have hF9 : zFr TB w1 w_2 := zFr_fa hfaL9 (zLc hwk1 (by simp) zLn)
  have h_5 : w_2.1 nd = some (140, br, tTb 5 cN (ts NN (n : Int) 4 (3 * (rd : Int) + 0))) := by
    rw [hw_3]; exact (tAw_to ok_1 (zne_tg hwk1 hnd1 (by simp)) hnd1)
  have h_6 : w_2.1 va = some (141, br, tTb 1 cV VV) := by
    rw [hw_3]; exact (tAw_to ok_1 (zne_tg hwk1 hva1 (by simp)) hva1)
  have h_7 : w_2.1 ce = some (142, br, tTb 3 cC CC) := by
    rw [hw_3]; exact (tAw_to ok_1 (zne_tg hwk1 hce1 (by simp)) hce1)
  have h_8 : w_2.1 li = some (143, br, tTb 4 cL LL) := by
    rw [hw_3]; exact (tAw_to ok_1 (zne_tg hwk1 hli1 (by simp)) hli1)
  have h_9 : w_2.1 ro = some (144, br, tTb 6 cR RR) := by
    rw [hw_3]; exact (tAw_to ok_1 (zne_tg hwk1 hro1 (by simp)) hro1)
  have h_10 : w_2.1 bi = some (145, br, tTb 2 cB BB) := by
    rw [hw_3]; exact (tAw_to ok_1 (zne_tg hwk1 hbi1 (by simp)) hbi1)
  have h_11 : w_2.1 le = some (146, br, tTb 4 cE EE) := by
    rw [hw_3]; exact (tAw_to ok_1 (zne_tg hwk1 hle1 (by simp)) hle1)
  have h_12 : w_2.1 br = some (0, 0, [zR pg, zR t, zR nd, zI (g : Int), zR va, zR ce, zR li, zR ro, zI fr, zR bi, zR le, zR wk, zI tk, zI rs, zI (rd : Int)]) := by
    rw [hw_3]; exact (tAw_to ok_1 (zne_tg hwk1 hbr1 (by simp)) hbr1)
  have hB9 : bbW w_2 b1 b2 ((br, pg, t), (nd, va, ce, li), (ro, bi, le, wk)) (((cN, (ts NN (n : Int) 4 (3 * (rd : Int) + 0))), (cV, VV), (cC, CC), (cL, LL)), ((cR, RR), (cB, BB), (cE, EE), ((tCap 3 cW (W0 ++ [[(n : Int), 0, 1]])), ((W0 ++ [[(n : Int), 0, 1]]) ++ [(trow 3 (z : Int) 0 1)]))), ((g : Int), fr, tk, rs, (rd : Int))) := ⟨h_12, ⟨⟨h_5, okN1⟩, ⟨h_6, okV1⟩, ⟨h_7, okC1⟩, ⟨h_8, okL1⟩⟩, ⟨⟨h_9, okR1⟩, ⟨h_10, okB1⟩, ⟨h_11, okE1⟩, ⟨h_4, (tOk_app okW1 (by first | exact trow_len | rfl))⟩⟩, ⟨⟨by omega, by omega, by omega, by omega⟩, ⟨by omega, by omega, by omega, by omega⟩⟩, ⟨⟨by omega, by omega, by omega, by omega⟩, ⟨by omega, by omega, by omega, by omega⟩⟩, by omega, by omega⟩
  exact k _ _ _ _ _ _ _ hB9 (zFr_tr hFp1 (zFr_tr hF1 hF9))
theorem sc_set (hB : bbW w b1 b2 ((br, pg, t), (nd, va, ce, li), (ro, bi, le, wk)) (((cN, NN), (cV, VV), (cC, CC), (cL, LL)), ((cR, RR), (cB, BB), (cE, EE), (cW, (W0 ++ [[(n : Int), 0, 1]]))), ((g : Int), fr, tk, rs, (rd : Int)))) (hG1 : b1 + 1800000 ≤ 30 * G.2.2.2.2.1) (hG2 : b2 + 3700000 ≤ G.2.2.2.2.2) (hT : tmW w t tc tn th tz ty C3 TN TH TS) (hM : ndM NN N bd mk) (hn : n < N.length) (hrd : rd < 1000000) (hq : q < 900000) (hlW : W0.length < 6000) (hk : bWk N g bd) (hh : bhd N n = some 1) (hN : N.length ≤ 6000) (hx : bfs N n < N.length) (hz : bRp bd (bfs N n) z) (hmz : -1 ≤ (if z = n then 3 * (rd : Int) else mk z) ∧ (if z = n then 3 * (rd : Int) else mk z) < 3 * (rd : Int) + 3) (hmv : mkV g rd (fun m => if m = n then 3 * (rd : Int) + 0 else mk m) z = v) (hv : v = 1 ∨ v = 2) (k : ∀ (o3 o4 o5 o6 o7 o8 : Option zV) (w' : zW), bbW w' b1 b2 ((br, pg, t), (nd, va, ce, li), (ro, bi, le, wk)) (((cN, (ts NN (n : Int) 4 (3 * (rd : Int) + 0))), (cV, VV), (cC, CC), (cL, LL)), ((cR, RR), (cB, BB), (cE, EE), (cW, (W0 ++ [[(n : Int), 1, v]]))), ((g : Int), fr, tk, rs, (rd : Int))) → zFr TB w w' → zX G zm_X0_scan (d + 3) [zR br, zI (st0 : Int)] w0 (zVal PQ) 21 [some (zR br), some (zI (st0 : Int)), some (zI ((q + 1 : Nat) : Int)), o3, o4, o5, o6, o7, o8] [] w') : zX G zm_X0_scan (d + 3) [zR br, zI (st0 : Int)] w0 (zVal PQ) 21 [some (zR br), some (zI (st0 : Int)), some (zI (q : Int)), o3, o4, o5, o6, o7, o8] [] w := by
  have hlen1 : ((W0 ++ [[(n : Int), 0, 1]])).length = W0.length + 1 := by simp
  obtain ⟨hbr, ⟨⟨hnd, okN⟩, ⟨hva, okV⟩, ⟨hce, okC⟩, ⟨hli, okL⟩⟩, ⟨⟨hro, okR⟩, ⟨hbi, okB⟩, ⟨hle, okE⟩, ⟨hwk, okW⟩⟩, ⟨⟨c1N, c1V, c1C, c1L⟩, ⟨c1R, c1B, c1E, c1W⟩⟩, ⟨⟨c2N, c2V, c2C, c2L⟩, ⟨c2R, c2B, c2E, c2W⟩⟩, hrm1, hrm2⟩ := id hB
  have hg0 : tg (W0 ++ [[(n : Int), 0, 1]]) (W0.length : Int) 0 = (n : Int) := tg_last (j := 0) rfl
  have hg1 : tg (W0 ++ [[(n : Int), 0, 1]]) (W0.length : Int) 1 = 0 := tg_last (j := 1) rfl
  have hg2 : tg (W0 ++ [[(n : Int), 0, 1]]) (W0.length : Int) 2 = 1 := tg_last (j := 2) rfl
  have hh0 : tg NN (n : Int) 0 = 1 := by rw [(ndM_get hM hn).1, hh]; rfl
  have hpc : tmPc C3 1 = 1 := by decide
  have hM1 := ndM_m hM n (3 * (rd : Int) + 0)
  have hx1 : tg (ts NN (n : Int) 4 (3 * (rd : Int) + 0)) (n : Int) 1 = (bfs N n : Int) := (ndM_get hM1 hn).2.1 hh
  have hzN := bRp_lt hk hx hz
  have hmz : -1 ≤ (fun m => if m = n then 3 * (rd : Int) + 0 else mk m) z ∧ (fun m => if m = n then 3 * (rd : Int) + 0 else mk m) z < 3 * (rd : Int) + 3 := by
    rw [Int.add_zero]
    exact hmz
  have hg2b : tg (ts (W0 ++ [[(n : Int), 0, 1]]) (W0.length : Int) 1 1) (W0.length : Int) 2 = 1 := by
    have e1 : ts (W0 ++ [[(n : Int), 0, 1]]) (W0.length : Int) 1 1 = W0 ++ [[(n : Int), 1, 1]] := ts_last (j := 1)
    rw [e1]
    exact tg_last (j := 2) rfl
  refine zx_iload_n (i := 2) dX0_scan_21 rfl rfl ?_
  refine zx_ldc (v := 1000000) dX0_scan_22 zk_X0_65 (by decide +kernel) (z32_lit (by decide) (by decide)) ?_
  refine zx_icmp_ge (tgt := 241) dX0_scan_24 (by decide) (fun h24 => absurd h24 (by omega)) (fun h24 => ?_)
  refine zx_aload_n (i := 0) dX0_scan_27 rfl rfl ?_
  refine zx_getfield dX0_scan_28 zf_X0_46 hbr rfl ?_
  refine zx_iv (b := wk) (As := []) (st := []) (v := (some (zI ((W0.length + 1 : Nat) : Int)))) (w1 := w) dX0_scan_31 zc_X0_70 hwk (z_cls9 (by decide)) rfl rfl (Nat.le_of_ble_eq_true rfl) rfl (by have q := (c_X9_count (G := G) (d := d + 2) hwk (by decide) okW); rw [hlen1] at q; exact q) ?_
  refine zx_st (st1 := [zI ((W0.length + 1 : Nat) : Int)]) rfl ?_
  refine zx_if_le (tgt := 241) dX0_scan_34 (by decide) (fun h34 => absurd h34 (by omega)) (fun h34 => ?_)
  refine zx_aload_n (i := 0) dX0_scan_37 rfl rfl ?_
  refine zx_getfield dX0_scan_38 zf_X0_46 hbr rfl ?_
  refine zx_iv (b := wk) (As := []) (st := []) (v := (some (zI ((W0.length + 1 : Nat) : Int)))) (w1 := w) dX0_scan_41 zc_X0_70 hwk (z_cls9 (by decide)) rfl rfl (Nat.le_of_ble_eq_true rfl) rfl (by have q := (c_X9_count (G := G) (d := d + 2) hwk (by decide) okW); rw [hlen1] at q; exact q) ?_
  refine zx_st (st1 := [zI ((W0.length + 1 : Nat) : Int)]) rfl ?_
  refine zx_iconst (v := 1) dX0_scan_44 rfl (z32_lit (by decide) (by decide)) ?_
  refine zx_pc (pc1 := 45) rfl ?_
  refine zx_isub (v := (W0.length : Int)) dX0_scan_45 (zw_eq (by omega) (by omega) (by omega)) ?_
  refine zx_istore_n (i := 3) dX0_scan_46 rfl (by decide) rfl ?_
  refine zx_L (L1 := [some (zR br), some (zI (st0 : Int)), some (zI (q : Int)), some (zI (W0.length : Int)), o4, o5, o6, o7, o8]) rfl ?_
  refine zx_aload_n (i := 0) dX0_scan_47 rfl rfl ?_
  refine zx_getfield dX0_scan_48 zf_X0_46 hbr rfl ?_
  refine zx_iload_n (i := 3) dX0_scan_51 rfl rfl ?_
  refine zx_iconst (v := 0) dX0_scan_52 rfl (z32_lit (by decide) (by decide)) ?_
  refine zx_iv (b := wk) (As := [zI (W0.length : Int), zI 0]) (st := []) (v := (some (zI (n : Int)))) (w1 := w) dX0_scan_53 zc_X0_84 hwk (z_cls9 (by decide)) rfl rfl (Nat.le_of_ble_eq_true rfl) rfl (by have q := (c_X9_get (G := G) (d := d + 2) hwk (by decide) okW (W0.length : Int) 0); rw [hg0] at q; exact q) ?_
  refine zx_st (st1 := [zI (n : Int)]) rfl ?_
  refine zx_istore (i := 4) dX0_scan_56 (by decide) rfl ?_
  refine zx_L (L1 := [some (zR br), some (zI (st0 : Int)), some (zI (q : Int)), some (zI (W0.length : Int)), some (zI (n : Int)), o5, o6, o7, o8]) rfl ?_
  refine zx_aload_n (i := 0) dX0_scan_58 rfl rfl ?_
  refine zx_getfield dX0_scan_59 zf_X0_46 hbr rfl ?_
  refine zx_iload_n (i := 3) dX0_scan_62 rfl rfl ?_
  refine zx_iconst (v := 1) dX0_scan_63 rfl (z32_lit (by decide) (by decide)) ?_
  refine zx_pc (pc1 := 64) rfl ?_
  refine zx_iv (b := wk) (As := [zI (W0.length : Int), zI 1]) (st := []) (v := (some (zI 0))) (w1 := w) dX0_scan_64 zc_X0_84 hwk (z_cls9 (by decide)) rfl rfl (Nat.le_of_ble_eq_true rfl) rfl (by have q := (c_X9_get (G := G) (d := d + 2) hwk (by decide) okW (W0.length : Int) 1); rw [hg1] at q; exact q) ?_
  refine zx_st (st1 := [zI 0]) rfl ?_
  refine zx_istore (i := 5) dX0_scan_67 (by decide) rfl ?_
  refine zx_L (L1 := [some (zR br), some (zI (st0 : Int)), some (zI (q : Int)), some (zI (W0.length : Int)), some (zI (n : Int)), some (zI 0), o6, o7, o8]) rfl ?_
  refine zx_aload_n (i := 0) dX0_scan_69 rfl rfl ?_
  refine zx_getfield dX0_scan_70 zf_X0_24 hbr rfl ?_
  refine zx_iload (i := 4) dX0_scan_73 rfl ?_
  refine zx_iconst (v := 0) dX0_scan_75 rfl (z32_lit (by decide) (by decide)) ?_
  refine zx_iv (b := nd) (As := [zI (n : Int), zI 0]) (st := []) (v := (some (zI 1))) (w1 := w) dX0_scan_76 zc_X0_84 hnd (z_cls9 (by decide)) rfl rfl (Nat.le_of_ble_eq_true rfl) rfl (by have q := (c_X9_get (G := G) (d := d + 2) hnd (by decide) okN (n : Int) 0); rw [hh0] at q; exact q) ?_
  refine zx_st (st1 := [zI 1]) rfl ?_
  refine zx_istore (i := 6) dX0_scan_79 (by decide) rfl ?_
  refine zx_L (L1 := [some (zR br), some (zI (st0 : Int)), some (zI (q : Int)), some (zI (W0.length : Int)), some (zI (n : Int)), some (zI 0), some (zI 1), o7, o8]) rfl ?_
  refine zx_iload (i := 5) dX0_scan_81 rfl ?_
  refine zx_aload_n (i := 0) dX0_scan_83 rfl rfl ?_
  refine zx_getfield dX0_scan_84 zf_X0_15 hbr rfl ?_
  refine zx_iload (i := 6) dX0_scan_87 rfl ?_
  refine zx_pc (pc1 := 89) rfl ?_
  refine zx_iv (b := t) (As := [zI 1]) (st := [zI 0]) (v := (some (zI 1))) (w1 := w) dX0_scan_89 zc_X0_251 hT.1 rfl rfl rfl (Nat.le_of_ble_eq_true rfl) rfl (by have q := c_X10_partCount (G := G) (d := d + 1) hT 1; rw [hpc] at q; exact q) ?_
  refine zx_st (st1 := [zI 1, zI 0]) rfl ?_
  refine zx_icmp_lt (tgt := 131) dX0_scan_92 (by decide) (fun h92 => ?_) (fun h92 => absurd (by decide) h92)
  refine zx_aload_n (i := 0) dX0_scan_131 rfl rfl ?_
  refine zx_iload (i := 4) dX0_scan_132 rfl ?_
  refine zx_iconst (v := 0) dX0_scan_134 rfl (z32_lit (by decide) (by decide)) ?_
  have hFp1 : zFr TB w w := zFr_re
  have hBp1 : bbW w b1 b2 ((br, pg, t), (nd, va, ce, li), (ro, bi, le, wk)) (((cN, NN), (cV, VV), (cC, CC), (cL, LL)), ((cR, RR), (cB, BB), (cE, EE), (cW, (W0 ++ [[(n : Int), 0, 1]]))), ((g : Int), fr, tk, rs, (rd : Int))) := ⟨hbr, ⟨⟨hnd, okN⟩, ⟨hva, okV⟩, ⟨hce, okC⟩, ⟨hli, okL⟩⟩, ⟨⟨hro, okR⟩, ⟨hbi, okB⟩, ⟨hle, okE⟩, ⟨hwk, okW⟩⟩, ⟨⟨by omega, by omega, by omega, by omega⟩, ⟨by omega, by omega, by omega, by omega⟩⟩, ⟨⟨by omega, by omega, by omega, by omega⟩, ⟨by omega, by omega, by omega, by omega⟩⟩, by omega, by omega⟩
  refine zx_ivN (b := br) (As := [zI (n : Int), zI 0]) (st := []) dX0_scan_135 zc_X0_260 hbr rfl rfl rfl (Nat.le_of_ble_eq_true rfl) rfl (c_X0_setMark hBp1 (n : Int) 0 (by omega) (by omega)) (fun w1 hq => ?_)
  obtain ⟨hB1, hF1⟩ := hq
  obtain ⟨hbr1, ⟨⟨hnd1, okN1⟩, ⟨hva1, okV1⟩, ⟨hce1, okC1⟩, ⟨hli1, okL1⟩⟩, ⟨⟨hro1, okR1⟩, ⟨hbi1, okB1⟩, ⟨hle1, okE1⟩, ⟨hwk1, okW1⟩⟩, ⟨⟨c1N1, c1V1, c1C1, c1L1⟩, ⟨c1R1, c1B1, c1E1, c1W1⟩⟩, ⟨⟨c2N1, c2V1, c2C1, c2L1⟩, ⟨c2R1, c2B1, c2E1, c2W1⟩⟩, hrm11, hrm21⟩ := id hB1
  refine zx_aload_n (i := 0) dX0_scan_138 rfl rfl ?_
  refine zx_aload_n (i := 0) dX0_scan_139 rfl rfl ?_
  refine zx_getfield dX0_scan_140 zf_X0_24 hbr1 rfl ?_
  refine zx_iload (i := 4) dX0_scan_143 rfl ?_
  refine zx_iload (i := 5) dX0_scan_145 rfl ?_
  refine zx_if_ne (tgt := 154) dX0_scan_147 (by decide) (fun h147 => absurd h147 (by decide)) (fun h147 => ?_)
  refine zx_pc (pc1 := 150) rfl ?_
  refine zx_iconst (v := 1) dX0_scan_150 rfl (z32_lit (by decide) (by decide)) ?_
  refine zx_goto (tgt := 155) dX0_scan_151 (by decide) ?_
  refine zx_iv (b := nd) (As := [zI (n : Int), zI 1]) (st := [zR br]) (v := (some (zI (bfs N n : Int)))) (w1 := w1) dX0_scan_155 zc_X0_84 hnd1 (z_cls9 (by decide)) rfl rfl (Nat.le_of_ble_eq_true rfl) rfl (by have q := (c_X9_get (G := G) (d := d + 2) hnd1 (by decide) okN1 (n : Int) 1); rw [hx1] at q; exact q) ?_
  refine zx_st (st1 := [zI (bfs N n : Int), zR br]) rfl ?_
  refine zx_iv (b := br) (As := [zI (bfs N n : Int)]) (st := []) (v := (some (zI (z : Int)))) (w1 := w1) dX0_scan_158 zc_X0_237 hbr1 rfl rfl rfl (Nat.le_of_ble_eq_true rfl) rfl (c_find hB1 hM1 hk (by omega) hx hz) ?_
  refine zx_st (st1 := [zI (z : Int)]) rfl ?_
  refine zx_istore (i := 7) dX0_scan_161 (by decide) rfl ?_
  refine zx_L (L1 := [some (zR br), some (zI (st0 : Int)), some (zI (q : Int)), some (zI (W0.length : Int)), some (zI (n : Int)), some (zI 0), some (zI 1), some (zI (z : Int)), o8]) rfl ?_
  refine zx_aload_n (i := 0) dX0_scan_163 rfl rfl ?_
  refine zx_iload (i := 7) dX0_scan_164 rfl ?_
  refine zx_iv (b := br) (As := [zI (z : Int)]) (st := []) (v := (some (zI v))) (w1 := w1) dX0_scan_166 zc_X0_254 hbr1 rfl rfl rfl (Nat.le_of_ble_eq_true rfl) rfl (by have q := c_mark (G := G) (d := d + 1) hB1 hM1 hzN hrd hmz; rw [hmv] at q; exact q) ?_
  refine zx_st (st1 := [zI v]) rfl ?_
  refine zx_istore (i := 8) dX0_scan_169 (by decide) rfl ?_
  refine zx_L (L1 := [some (zR br), some (zI (st0 : Int)), some (zI (q : Int)), some (zI (W0.length : Int)), some (zI (n : Int)), some (zI 0), some (zI 1), some (zI (z : Int)), some (zI v)]) rfl ?_
  refine zx_iload (i := 8) dX0_scan_171 rfl ?_
  refine zx_if_ne (tgt := 178) dX0_scan_173 (by decide) (fun h173 => ?_) (fun h173 => absurd (by omega) h173)
  refine zx_iload (i := 8) dX0_scan_178 rfl ?_
  refine zx_pc (pc1 := 180) rfl ?_
  refine zx_iconst (v := -1) dX0_scan_180 rfl (z32_lit (by decide) (by decide)) ?_
  refine zx_icmp_ne (tgt := 199) dX0_scan_181 (by decide) (fun h181 => ?_) (fun h181 => absurd (by omega) h181)
  refine zx_aload_n (i := 0) dX0_scan_199 rfl rfl ?_
  refine zx_getfield dX0_scan_200 zf_X0_46 hbr1 rfl ?_
  refine zx_iload_n (i := 3) dX0_scan_203 rfl rfl ?_
  refine zx_iconst (v := 1) dX0_scan_204 rfl (z32_lit (by decide) (by decide)) ?_
  refine zx_iload (i := 5) dX0_scan_205 rfl ?_
  refine zx_iconst (v := 1) dX0_scan_207 rfl (z32_lit (by decide) (by decide)) ?_
  refine zx_iadd (v := 1) dX0_scan_208 (by decide +kernel) ?_
  obtain ⟨w_1, hw_2⟩ : ∃ ww, ww = zput w1 wk (147, br, tTb 3 cW (ts (W0 ++ [[(n : Int), 0, 1]]) (W0.length : Int) 1 1)) := ⟨_, rfl⟩
  have q_3 : w_1.2.1 = w1.2.1 ∧ w_1.2.2 = w1.2.2 := by rw [hw_2]; exact ⟨rfl, rfl⟩
  have h_4 : w_1.1 wk = some (147, br, tTb 3 cW (ts (W0 ++ [[(n : Int), 0, 1]]) (W0.length : Int) 1 1)) := by rw [hw_2]; exact zput_at
  refine zx_iv (b := wk) (As := [zI (W0.length : Int), zI 1, zI 1]) (st := []) (v := none) (w1 := w_1) dX0_scan_209 zc_X0_142 hwk1 (z_cls9 (by decide)) rfl rfl (Nat.le_of_ble_eq_true rfl) rfl (by rw [hw_2]; exact (c_X9_set hwk1 (by decide) okW1 (W0.length : Int) 1 1)) ?_
  refine zx_st (st1 := []) rfl ?_
  refine zx_aload_n (i := 0) dX0_scan_212 rfl rfl ?_
  have h_5 : w_1.1 br = some (0, 0, [zR pg, zR t, zR nd, zI (g : Int), zR va, zR ce, zR li, zR ro, zI fr, zR bi, zR le, zR wk, zI tk, zI rs, zI (rd : Int)]) := by
    rw [hw_2]; exact zput_tg hwk1 hbr1 (by simp)
  refine zx_getfield dX0_scan_213 zf_X0_46 h_5 rfl ?_
  refine zx_pc (pc1 := 216) rfl ?_
  refine zx_iload_n (i := 3) dX0_scan_216 rfl rfl ?_
  refine zx_iconst (v := 2) dX0_scan_217 rfl (z32_lit (by decide) (by decide)) ?_
  refine zx_iload (i := 8) dX0_scan_218 rfl ?_
  refine zx_aload_n (i := 0) dX0_scan_220 rfl rfl ?_
  refine zx_getfield dX0_scan_221 zf_X0_46 h_5 rfl ?_
  refine zx_iload_n (i := 3) dX0_scan_224 rfl rfl ?_
  refine zx_iconst (v := 2) dX0_scan_225 rfl (z32_lit (by decide) (by decide)) ?_
  refine zx_iv (b := wk) (As := [zI (W0.length : Int), zI 2]) (st := [zI v, zI 2, zI (W0.length : Int), zR wk]) (v := (some (zI 1))) (w1 := w_1) dX0_scan_226 zc_X0_84 h_4 (z_cls9 (by decide)) rfl rfl (Nat.le_of_ble_eq_true rfl) rfl (by have q := (c_X9_get (G := G) (d := d + 2) h_4 (by decide) (tOk_ts okW1) (W0.length : Int) 2); rw [hg2b] at q; exact q) ?_
  refine zx_st (st1 := [zI 1, zI v, zI 2, zI (W0.length : Int), zR wk]) rfl ?_
  refine zx_max (v := max v 1) dX0_scan_229 zo_X0_245 zk_max1 zk_math zk_max2 (Nat.le_of_ble_eq_true rfl) rfl ?_
  obtain ⟨w_6, hw_7⟩ : ∃ ww, ww = zput w_1 wk (147, br, tTb 3 cW (ts (ts (W0 ++ [[(n : Int), 0, 1]]) (W0.length : Int) 1 1) (W0.length : Int) 2 (max v 1))) := ⟨_, rfl⟩
  have q_8 : w_6.2.1 = w_1.2.1 ∧ w_6.2.2 = w_1.2.2 := by rw [hw_7]; exact ⟨rfl, rfl⟩
  have h_9 : w_6.1 wk = some (147, br, tTb 3 cW (ts (ts (W0 ++ [[(n : Int), 0, 1]]) (W0.length : Int) 1 1) (W0.length : Int) 2 (max v 1))) := by rw [hw_7]; exact zput_at
  refine zx_iv (b := wk) (As := [zI (W0.length : Int), zI 2, zI (max v 1)]) (st := []) (v := none) (w1 := w_6) dX0_scan_232 zc_X0_142 h_4 (z_cls9 (by decide)) rfl rfl (Nat.le_of_ble_eq_true rfl) rfl (by rw [hw_7]; exact (c_X9_set h_4 (by decide) (tOk_ts okW1) (W0.length : Int) 2 (max v 1))) ?_
  refine zx_st (st1 := []) rfl ?_
  refine zx_iinc (i := 2) (v := ((q + 1 : Nat) : Int)) dX0_scan_235 rfl (zw_eq (by omega) (by omega) (by omega)) (by decide) rfl ?_
  refine zx_L (L1 := [some (zR br), some (zI (st0 : Int)), some (zI ((q + 1 : Nat) : Int)), some (zI (W0.length : Int)), some (zI (n : Int)), some (zI 0), some (zI 1), some (zI (z : Int)), some (zI v)]) rfl ?_
  refine zx_goto (tgt := 21) dX0_scan_238 (by decide) ?_
  have hfaL9 : zFa [wk] w1 w_6 := (zFa_put (zFa_put zFa_re (by simp) hw_2) (by simp) hw_7)
  have hF9 : zFr TB w1 w_6 := zFr_fa hfaL9 (zLc hwk1 (by simp) zLn)
  have h_10 : w_1.1 nd = some (140, br, tTb 5 cN (ts NN (n : Int) 4 (3 * (rd : Int) + 0))) := by
    rw [hw_2]; exact zput_tg hwk1 hnd1 (by simp)
  have h_11 : w_6.1 nd = some (140, br, tTb 5 cN (ts NN (n : Int) 4 (3 * (rd : Int) + 0))) := by
    rw [hw_7]; exact zput_tg h_4 h_10 (by simp)
  have h_12 : w_1.1 va = some (141, br, tTb 1 cV VV) := by
    rw [hw_2]; exact zput_tg hwk1 hva1 (by simp)
  have h_13 : w_6.1 va = some (141, br, tTb 1 cV VV) := by
    rw [hw_7]; exact zput_tg h_4 h_12 (by simp)
  have h_14 : w_1.1 ce = some (142, br, tTb 3 cC CC) := by
    rw [hw_2]; exact zput_tg hwk1 hce1 (by simp)
  have h_15 : w_6.1 ce = some (142, br, tTb 3 cC CC) := by
    rw [hw_7]; exact zput_tg h_4 h_14 (by simp)
  have h_16 : w_1.1 li = some (143, br, tTb 4 cL LL) := by
    rw [hw_2]; exact zput_tg hwk1 hli1 (by simp)
  have h_17 : w_6.1 li = some (143, br, tTb 4 cL LL) := by
    rw [hw_7]; exact zput_tg h_4 h_16 (by simp)
  have h_18 : w_1.1 ro = some (144, br, tTb 6 cR RR) := by
    rw [hw_2]; exact zput_tg hwk1 hro1 (by simp)
  have h_19 : w_6.1 ro = some (144, br, tTb 6 cR RR) := by
    rw [hw_7]; exact zput_tg h_4 h_18 (by simp)
  have h_20 : w_1.1 bi = some (145, br, tTb 2 cB BB) := by
    rw [hw_2]; exact zput_tg hwk1 hbi1 (by simp)
  have h_21 : w_6.1 bi = some (145, br, tTb 2 cB BB) := by
    rw [hw_7]; exact zput_tg h_4 h_20 (by simp)
  have h_22 : w_1.1 le = some (146, br, tTb 4 cE EE) := by
    rw [hw_2]; exact zput_tg hwk1 hle1 (by simp)
  have h_23 : w_6.1 le = some (146, br, tTb 4 cE EE) := by
    rw [hw_7]; exact zput_tg h_4 h_22 (by simp)
  have h_24 : w_6.1 br = some (0, 0, [zR pg, zR t, zR nd, zI (g : Int), zR va, zR ce, zR li, zR ro, zI fr, zR bi, zR le, zR wk, zI tk, zI rs, zI (rd : Int)]) := by
    rw [hw_7]; exact zput_tg h_4 h_5 (by simp)
  have hB9 : bbW w_6 b1 b2 ((br, pg, t), (nd, va, ce, li), (ro, bi, le, wk)) (((cN, (ts NN (n : Int) 4 (3 * (rd : Int) + 0))), (cV, VV), (cC, CC), (cL, LL)), ((cR, RR), (cB, BB), (cE, EE), (cW, (ts (ts (W0 ++ [[(n : Int), 0, 1]]) (W0.length : Int) 1 1) (W0.length : Int) 2 (max v 1)))), ((g : Int), fr, tk, rs, (rd : Int))) := ⟨h_24, ⟨⟨h_11, okN1⟩, ⟨h_13, okV1⟩, ⟨h_15, okC1⟩, ⟨h_17, okL1⟩⟩, ⟨⟨h_19, okR1⟩, ⟨h_21, okB1⟩, ⟨h_23, okE1⟩, ⟨h_9, (tOk_ts (tOk_ts okW1))⟩⟩, ⟨⟨by omega, by omega, by omega, by omega⟩, ⟨by omega, by omega, by omega, by omega⟩⟩, ⟨⟨by omega, by omega, by omega, by omega⟩, ⟨by omega, by omega, by omega, by omega⟩⟩, by omega, by omega⟩
  have e1 : ts (W0 ++ [[(n : Int), 0, 1]]) (W0.length : Int) 1 1 = W0 ++ [[(n : Int), 1, 1]] := ts_last (j := 1)
  have e2 : ts (W0 ++ [[(n : Int), 1, 1]]) (W0.length : Int) 2 (max v 1) = W0 ++ [[(n : Int), 1, max v 1]] := ts_last (j := 2)
  rw [e1, e2, show max v 1 = v by omega] at hB9
  exact k _ _ _ _ _ _ _ hB9 (zFr_tr hFp1 (zFr_tr hF1 hF9))
theorem sc_stop (hB : bbW w b1 b2 ((br, pg, t), (nd, va, ce, li), (ro, bi, le, wk)) (((cN, NN), (cV, VV), (cC, CC), (cL, LL)), ((cR, RR), (cB, BB), (cE, EE), (cW, (W0 ++ [[(n : Int), 0, 1]]))), ((g : Int), fr, tk, rs, (rd : Int)))) (hG1 : b1 + 1800000 ≤ 30 * G.2.2.2.2.1) (hG2 : b2 + 3700000 ≤ G.2.2.2.2.2) (hT : tmW w t tc tn th tz ty C3 TN TH TS) (hM : ndM NN N bd mk) (hn : n < N.length) (hrd : rd < 1000000) (hq : q < 900000) (hlW : W0.length < 6000) (hk : bWk N g bd) (hh : bhd N n = some 1) (hN : N.length ≤ 6000) (hx : bfs N n < N.length) (hz : bRp bd (bfs N n) z) (hmz : -1 ≤ (if z = n then 3 * (rd : Int) else mk z) ∧ (if z = n then 3 * (rd : Int) else mk z) < 3 * (rd : Int) + 3) (hmv : mkV g rd (fun m => if m = n then 3 * (rd : Int) + 0 else mk m) z = 0) (k : ∀ w', bbW w' b1 b2 ((br, pg, t), (nd, va, ce, li), (ro, bi, le, wk)) (((cN, (ts NN (n : Int) 4 (3 * (rd : Int) + 0))), (cV, VV), (cC, CC), (cL, LL)), ((cR, RR), (cB, BB), (cE, EE), (cW, (W0 ++ [[(n : Int), 0, 1]]))), ((g : Int), fr, tk, rs, (rd : Int))) → zFr TB w w' → PQ (zI 0) w') : zX G zm_X0_scan (d + 3) [zR br, zI (st0 : Int)] w0 (zVal PQ) 21 [some (zR br), some (zI (st0 : Int)), some (zI (q : Int)), o3, o4, o5, o6, o7, o8] [] w := by
  have hlen1 : ((W0 ++ [[(n : Int), 0, 1]])).length = W0.length + 1 := by simp
  obtain ⟨hbr, ⟨⟨hnd, okN⟩, ⟨hva, okV⟩, ⟨hce, okC⟩, ⟨hli, okL⟩⟩, ⟨⟨hro, okR⟩, ⟨hbi, okB⟩, ⟨hle, okE⟩, ⟨hwk, okW⟩⟩, ⟨⟨c1N, c1V, c1C, c1L⟩, ⟨c1R, c1B, c1E, c1W⟩⟩, ⟨⟨c2N, c2V, c2C, c2L⟩, ⟨c2R, c2B, c2E, c2W⟩⟩, hrm1, hrm2⟩ := id hB
  have hg0 : tg (W0 ++ [[(n : Int), 0, 1]]) (W0.length : Int) 0 = (n : Int) := tg_last (j := 0) rfl
  have hg1 : tg (W0 ++ [[(n : Int), 0, 1]]) (W0.length : Int) 1 = 0 := tg_last (j := 1) rfl
  have hg2 : tg (W0 ++ [[(n : Int), 0, 1]]) (W0.length : Int) 2 = 1 := tg_last (j := 2) rfl
  have hh0 : tg NN (n : Int) 0 = 1 := by rw [(ndM_get hM hn).1, hh]; rfl
  have hpc : tmPc C3 1 = 1 := by decide
  have hM1 := ndM_m hM n (3 * (rd : Int) + 0)
  have hx1 : tg (ts NN (n : Int) 4 (3 * (rd : Int) + 0)) (n : Int) 1 = (bfs N n : Int) := (ndM_get hM1 hn).2.1 hh
  have hzN := bRp_lt hk hx hz
  have hmz : -1 ≤ (fun m => if m = n then 3 * (rd : Int) + 0 else mk m) z ∧ (fun m => if m = n then 3 * (rd : Int) + 0 else mk m) z < 3 * (rd : Int) + 3 := by
    rw [Int.add_zero]
    exact hmz
  refine zx_iload_n (i := 2) dX0_scan_21 rfl rfl ?_
  refine zx_ldc (v := 1000000) dX0_scan_22 zk_X0_65 (by decide +kernel) (z32_lit (by decide) (by decide)) ?_
  refine zx_icmp_ge (tgt := 241) dX0_scan_24 (by decide) (fun h24 => absurd h24 (by omega)) (fun h24 => ?_)
  refine zx_aload_n (i := 0) dX0_scan_27 rfl rfl ?_
  refine zx_getfield dX0_scan_28 zf_X0_46 hbr rfl ?_
  refine zx_iv (b := wk) (As := []) (st := []) (v := (some (zI ((W0.length + 1 : Nat) : Int)))) (w1 := w) dX0_scan_31 zc_X0_70 hwk (z_cls9 (by decide)) rfl rfl (Nat.le_of_ble_eq_true rfl) rfl (by have q := (c_X9_count (G := G) (d := d + 2) hwk (by decide) okW); rw [hlen1] at q; exact q) ?_
  refine zx_st (st1 := [zI ((W0.length + 1 : Nat) : Int)]) rfl ?_
  refine zx_if_le (tgt := 241) dX0_scan_34 (by decide) (fun h34 => absurd h34 (by omega)) (fun h34 => ?_)
  refine zx_aload_n (i := 0) dX0_scan_37 rfl rfl ?_
  refine zx_getfield dX0_scan_38 zf_X0_46 hbr rfl ?_
  refine zx_iv (b := wk) (As := []) (st := []) (v := (some (zI ((W0.length + 1 : Nat) : Int)))) (w1 := w) dX0_scan_41 zc_X0_70 hwk (z_cls9 (by decide)) rfl rfl (Nat.le_of_ble_eq_true rfl) rfl (by have q := (c_X9_count (G := G) (d := d + 2) hwk (by decide) okW); rw [hlen1] at q; exact q) ?_
  refine zx_st (st1 := [zI ((W0.length + 1 : Nat) : Int)]) rfl ?_
  refine zx_iconst (v := 1) dX0_scan_44 rfl (z32_lit (by decide) (by decide)) ?_
  refine zx_pc (pc1 := 45) rfl ?_
  refine zx_isub (v := (W0.length : Int)) dX0_scan_45 (zw_eq (by omega) (by omega) (by omega)) ?_
  refine zx_istore_n (i := 3) dX0_scan_46 rfl (by decide) rfl ?_
  refine zx_L (L1 := [some (zR br), some (zI (st0 : Int)), some (zI (q : Int)), some (zI (W0.length : Int)), o4, o5, o6, o7, o8]) rfl ?_
  refine zx_aload_n (i := 0) dX0_scan_47 rfl rfl ?_
  refine zx_getfield dX0_scan_48 zf_X0_46 hbr rfl ?_
  refine zx_iload_n (i := 3) dX0_scan_51 rfl rfl ?_
  refine zx_iconst (v := 0) dX0_scan_52 rfl (z32_lit (by decide) (by decide)) ?_
  refine zx_iv (b := wk) (As := [zI (W0.length : Int), zI 0]) (st := []) (v := (some (zI (n : Int)))) (w1 := w) dX0_scan_53 zc_X0_84 hwk (z_cls9 (by decide)) rfl rfl (Nat.le_of_ble_eq_true rfl) rfl (by have q := (c_X9_get (G := G) (d := d + 2) hwk (by decide) okW (W0.length : Int) 0); rw [hg0] at q; exact q) ?_
  refine zx_st (st1 := [zI (n : Int)]) rfl ?_
  refine zx_istore (i := 4) dX0_scan_56 (by decide) rfl ?_
  refine zx_L (L1 := [some (zR br), some (zI (st0 : Int)), some (zI (q : Int)), some (zI (W0.length : Int)), some (zI (n : Int)), o5, o6, o7, o8]) rfl ?_
  refine zx_aload_n (i := 0) dX0_scan_58 rfl rfl ?_
  refine zx_getfield dX0_scan_59 zf_X0_46 hbr rfl ?_
  refine zx_iload_n (i := 3) dX0_scan_62 rfl rfl ?_
  refine zx_iconst (v := 1) dX0_scan_63 rfl (z32_lit (by decide) (by decide)) ?_
  refine zx_pc (pc1 := 64) rfl ?_
  refine zx_iv (b := wk) (As := [zI (W0.length : Int), zI 1]) (st := []) (v := (some (zI 0))) (w1 := w) dX0_scan_64 zc_X0_84 hwk (z_cls9 (by decide)) rfl rfl (Nat.le_of_ble_eq_true rfl) rfl (by have q := (c_X9_get (G := G) (d := d + 2) hwk (by decide) okW (W0.length : Int) 1); rw [hg1] at q; exact q) ?_
  refine zx_st (st1 := [zI 0]) rfl ?_
  refine zx_istore (i := 5) dX0_scan_67 (by decide) rfl ?_
  refine zx_L (L1 := [some (zR br), some (zI (st0 : Int)), some (zI (q : Int)), some (zI (W0.length : Int)), some (zI (n : Int)), some (zI 0), o6, o7, o8]) rfl ?_
  refine zx_aload_n (i := 0) dX0_scan_69 rfl rfl ?_
  refine zx_getfield dX0_scan_70 zf_X0_24 hbr rfl ?_
  refine zx_iload (i := 4) dX0_scan_73 rfl ?_
  refine zx_iconst (v := 0) dX0_scan_75 rfl (z32_lit (by decide) (by decide)) ?_
  refine zx_iv (b := nd) (As := [zI (n : Int), zI 0]) (st := []) (v := (some (zI 1))) (w1 := w) dX0_scan_76 zc_X0_84 hnd (z_cls9 (by decide)) rfl rfl (Nat.le_of_ble_eq_true rfl) rfl (by have q := (c_X9_get (G := G) (d := d + 2) hnd (by decide) okN (n : Int) 0); rw [hh0] at q; exact q) ?_
  refine zx_st (st1 := [zI 1]) rfl ?_
  refine zx_istore (i := 6) dX0_scan_79 (by decide) rfl ?_
  refine zx_L (L1 := [some (zR br), some (zI (st0 : Int)), some (zI (q : Int)), some (zI (W0.length : Int)), some (zI (n : Int)), some (zI 0), some (zI 1), o7, o8]) rfl ?_
  refine zx_iload (i := 5) dX0_scan_81 rfl ?_
  refine zx_aload_n (i := 0) dX0_scan_83 rfl rfl ?_
  refine zx_getfield dX0_scan_84 zf_X0_15 hbr rfl ?_
  refine zx_iload (i := 6) dX0_scan_87 rfl ?_
  refine zx_pc (pc1 := 89) rfl ?_
  refine zx_iv (b := t) (As := [zI 1]) (st := [zI 0]) (v := (some (zI 1))) (w1 := w) dX0_scan_89 zc_X0_251 hT.1 rfl rfl rfl (Nat.le_of_ble_eq_true rfl) rfl (by have q := c_X10_partCount (G := G) (d := d + 1) hT 1; rw [hpc] at q; exact q) ?_
  refine zx_st (st1 := [zI 1, zI 0]) rfl ?_
  refine zx_icmp_lt (tgt := 131) dX0_scan_92 (by decide) (fun h92 => ?_) (fun h92 => absurd (by decide) h92)
  refine zx_aload_n (i := 0) dX0_scan_131 rfl rfl ?_
  refine zx_iload (i := 4) dX0_scan_132 rfl ?_
  refine zx_iconst (v := 0) dX0_scan_134 rfl (z32_lit (by decide) (by decide)) ?_
  have hFp1 : zFr TB w w := zFr_re
  have hBp1 : bbW w b1 b2 ((br, pg, t), (nd, va, ce, li), (ro, bi, le, wk)) (((cN, NN), (cV, VV), (cC, CC), (cL, LL)), ((cR, RR), (cB, BB), (cE, EE), (cW, (W0 ++ [[(n : Int), 0, 1]]))), ((g : Int), fr, tk, rs, (rd : Int))) := ⟨hbr, ⟨⟨hnd, okN⟩, ⟨hva, okV⟩, ⟨hce, okC⟩, ⟨hli, okL⟩⟩, ⟨⟨hro, okR⟩, ⟨hbi, okB⟩, ⟨hle, okE⟩, ⟨hwk, okW⟩⟩, ⟨⟨by omega, by omega, by omega, by omega⟩, ⟨by omega, by omega, by omega, by omega⟩⟩, ⟨⟨by omega, by omega, by omega, by omega⟩, ⟨by omega, by omega, by omega, by omega⟩⟩, by omega, by omega⟩
  refine zx_ivN (b := br) (As := [zI (n : Int), zI 0]) (st := []) dX0_scan_135 zc_X0_260 hbr rfl rfl rfl (Nat.le_of_ble_eq_true rfl) rfl (c_X0_setMark hBp1 (n : Int) 0 (by omega) (by omega)) (fun w1 hq => ?_)
  obtain ⟨hB1, hF1⟩ := hq
  obtain ⟨hbr1, ⟨⟨hnd1, okN1⟩, ⟨hva1, okV1⟩, ⟨hce1, okC1⟩, ⟨hli1, okL1⟩⟩, ⟨⟨hro1, okR1⟩, ⟨hbi1, okB1⟩, ⟨hle1, okE1⟩, ⟨hwk1, okW1⟩⟩, ⟨⟨c1N1, c1V1, c1C1, c1L1⟩, ⟨c1R1, c1B1, c1E1, c1W1⟩⟩, ⟨⟨c2N1, c2V1, c2C1, c2L1⟩, ⟨c2R1, c2B1, c2E1, c2W1⟩⟩, hrm11, hrm21⟩ := id hB1
  refine zx_aload_n (i := 0) dX0_scan_138 rfl rfl ?_
  refine zx_aload_n (i := 0) dX0_scan_139 rfl rfl ?_
  refine zx_getfield dX0_scan_140 zf_X0_24 hbr1 rfl ?_
  refine zx_iload (i := 4) dX0_scan_143 rfl ?_
  refine zx_iload (i := 5) dX0_scan_145 rfl ?_
  refine zx_if_ne (tgt := 154) dX0_scan_147 (by decide) (fun h147 => absurd h147 (by decide)) (fun h147 => ?_)
  refine zx_pc (pc1 := 150) rfl ?_
  refine zx_iconst (v := 1) dX0_scan_150 rfl (z32_lit (by decide) (by decide)) ?_
  refine zx_goto (tgt := 155) dX0_scan_151 (by decide) ?_
  refine zx_iv (b := nd) (As := [zI (n : Int), zI 1]) (st := [zR br]) (v := (some (zI (bfs N n : Int)))) (w1 := w1) dX0_scan_155 zc_X0_84 hnd1 (z_cls9 (by decide)) rfl rfl (Nat.le_of_ble_eq_true rfl) rfl (by have q := (c_X9_get (G := G) (d := d + 2) hnd1 (by decide) okN1 (n : Int) 1); rw [hx1] at q; exact q) ?_
  refine zx_st (st1 := [zI (bfs N n : Int), zR br]) rfl ?_
  refine zx_iv (b := br) (As := [zI (bfs N n : Int)]) (st := []) (v := (some (zI (z : Int)))) (w1 := w1) dX0_scan_158 zc_X0_237 hbr1 rfl rfl rfl (Nat.le_of_ble_eq_true rfl) rfl (c_find hB1 hM1 hk (by omega) hx hz) ?_
  refine zx_st (st1 := [zI (z : Int)]) rfl ?_
  refine zx_istore (i := 7) dX0_scan_161 (by decide) rfl ?_
  refine zx_L (L1 := [some (zR br), some (zI (st0 : Int)), some (zI (q : Int)), some (zI (W0.length : Int)), some (zI (n : Int)), some (zI 0), some (zI 1), some (zI (z : Int)), o8]) rfl ?_
  refine zx_aload_n (i := 0) dX0_scan_163 rfl rfl ?_
  refine zx_iload (i := 7) dX0_scan_164 rfl ?_
  refine zx_iv (b := br) (As := [zI (z : Int)]) (st := []) (v := (some (zI 0))) (w1 := w1) dX0_scan_166 zc_X0_254 hbr1 rfl rfl rfl (Nat.le_of_ble_eq_true rfl) rfl (by have q := c_mark (G := G) (d := d + 1) hB1 hM1 hzN hrd hmz; rw [hmv] at q; exact q) ?_
  refine zx_st (st1 := [zI 0]) rfl ?_
  refine zx_istore (i := 8) dX0_scan_169 (by decide) rfl ?_
  refine zx_L (L1 := [some (zR br), some (zI (st0 : Int)), some (zI (q : Int)), some (zI (W0.length : Int)), some (zI (n : Int)), some (zI 0), some (zI 1), some (zI (z : Int)), some (zI 0)]) rfl ?_
  refine zx_iload (i := 8) dX0_scan_171 rfl ?_
  refine zx_if_ne (tgt := 178) dX0_scan_173 (by decide) (fun h173 => absurd h173 (by decide)) (fun h173 => ?_)
  refine zx_iconst (v := 0) dX0_scan_176 rfl (z32_lit (by decide) (by decide)) ?_
  refine zx_pc (pc1 := 177) rfl ?_
  refine zx_zret dX0_scan_177 rfl (by first | exact Or.inl rfl | exact Or.inr rfl | exact zB_or | assumption) ?_
  have hF9 : zFr TB w1 w1 := zFr_re
  have hB9 : bbW w1 b1 b2 ((br, pg, t), (nd, va, ce, li), (ro, bi, le, wk)) (((cN, (ts NN (n : Int) 4 (3 * (rd : Int) + 0))), (cV, VV), (cC, CC), (cL, LL)), ((cR, RR), (cB, BB), (cE, EE), (cW, (W0 ++ [[(n : Int), 0, 1]]))), ((g : Int), fr, tk, rs, (rd : Int))) := ⟨hbr1, ⟨⟨hnd1, okN1⟩, ⟨hva1, okV1⟩, ⟨hce1, okC1⟩, ⟨hli1, okL1⟩⟩, ⟨⟨hro1, okR1⟩, ⟨hbi1, okB1⟩, ⟨hle1, okE1⟩, ⟨hwk1, okW1⟩⟩, ⟨⟨by omega, by omega, by omega, by omega⟩, ⟨by omega, by omega, by omega, by omega⟩⟩, ⟨⟨by omega, by omega, by omega, by omega⟩, ⟨by omega, by omega, by omega, by omega⟩⟩, by omega, by omega⟩
  exact ⟨_, rfl, k _ hB9 (zFr_tr hFp1 (zFr_tr hF1 hF9))⟩
theorem sc_end (hB : bbW w b1 b2 ((br, pg, t), (nd, va, ce, li), (ro, bi, le, wk)) (((cN, NN), (cV, VV), (cC, CC), (cL, LL)), ((cR, RR), (cB, BB), (cE, EE), (cW, ([] : List (List Int)))), ((g : Int), fr, tk, rs, (rd : Int)))) (hq : q < 900000) (k : PQ (zI 1) w) : zX G zm_X0_scan (d + 3) [zR br, zI (st0 : Int)] w0 (zVal PQ) 21 [some (zR br), some (zI (st0 : Int)), some (zI (q : Int)), o3, o4, o5, o6, o7, o8] [] w := by
  obtain ⟨hbr, ⟨⟨hnd, okN⟩, ⟨hva, okV⟩, ⟨hce, okC⟩, ⟨hli, okL⟩⟩, ⟨⟨hro, okR⟩, ⟨hbi, okB⟩, ⟨hle, okE⟩, ⟨hwk, okW⟩⟩, ⟨⟨c1N, c1V, c1C, c1L⟩, ⟨c1R, c1B, c1E, c1W⟩⟩, ⟨⟨c2N, c2V, c2C, c2L⟩, ⟨c2R, c2B, c2E, c2W⟩⟩, hrm1, hrm2⟩ := id hB
  refine zx_iload_n (i := 2) dX0_scan_21 rfl rfl ?_
  refine zx_ldc (v := 1000000) dX0_scan_22 zk_X0_65 (by decide +kernel) (z32_lit (by decide) (by decide)) ?_
  refine zx_icmp_ge (tgt := 241) dX0_scan_24 (by decide) (fun h24 => absurd h24 (by omega)) (fun h24 => ?_)
  refine zx_aload_n (i := 0) dX0_scan_27 rfl rfl ?_
  refine zx_getfield dX0_scan_28 zf_X0_46 hbr rfl ?_
  refine zx_iv (b := wk) (As := []) (st := []) (v := (some (zI 0))) (w1 := w) dX0_scan_31 zc_X0_70 hwk (z_cls9 (by decide)) rfl rfl (Nat.le_of_ble_eq_true rfl) rfl (by have q := (c_X9_count (G := G) (d := d + 2) hwk (by decide) okW); exact q) ?_
  refine zx_st (st1 := [zI 0]) rfl ?_
  refine zx_if_le (tgt := 241) dX0_scan_34 (by decide) (fun h34 => ?_) (fun h34 => absurd (by decide) h34)
  refine zx_iconst (v := 1) dX0_scan_241 rfl (z32_lit (by decide) (by decide)) ?_
  refine zx_zret dX0_scan_242 rfl (by first | exact Or.inl rfl | exact Or.inr rfl | exact zB_or | assumption) ?_
  exact ⟨_, rfl, k⟩
theorem sc_start (hB : bbW w b1 b2 ((br, pg, t), (nd, va, ce, li), (ro, bi, le, wk)) (((cN, NN), (cV, VV), (cC, CC), (cL, LL)), ((cR, RR), (cB, BB), (cE, EE), (cW, WW)), ((g : Int), fr, tk, rs, (rd : Int)))) (hG1 : b1 + 1800000 ≤ 30 * G.2.2.2.2.1) (hG2 : b2 + 3700000 ≤ G.2.2.2.2.2) (k : ∀ w', bbW w' b1 b2 ((br, pg, t), (nd, va, ce, li), (ro, bi, le, wk)) (((cN, NN), (cV, VV), (cC, CC), (cL, LL)), ((cR, RR), (cB, BB), (cE, EE), ((tCap 3 cW []), [[(st0 : Int), 0, 1]])), ((g : Int), fr, tk, rs, (rd : Int))) → zFr TB w w' → zX G zm_X0_scan (d + 3) [zR br, zI (st0 : Int)] w (zVal PQ) 21 [some (zR br), some (zI (st0 : Int)), some (zI 0), none, none, none, none, none, none] [] w') : zM G zm_X0_scan (d + 3) [zR br, zI (st0 : Int)] w (zVal PQ) := by
  refine zx_ent (by decide +kernel) rfl (Nat.le_of_ble_eq_true rfl) ?_
  refine zx_L (L1 := [some (zR br), some (zI (st0 : Int)), none, none, none, none, none, none, none]) rfl ?_
  have hl0 : ([] : List (List Int)).length = 0 := rfl
  obtain ⟨hbr, ⟨⟨hnd, okN⟩, ⟨hva, okV⟩, ⟨hce, okC⟩, ⟨hli, okL⟩⟩, ⟨⟨hro, okR⟩, ⟨hbi, okB⟩, ⟨hle, okE⟩, ⟨hwk, okW⟩⟩, ⟨⟨c1N, c1V, c1C, c1L⟩, ⟨c1R, c1B, c1E, c1W⟩⟩, ⟨⟨c2N, c2V, c2C, c2L⟩, ⟨c2R, c2B, c2E, c2W⟩⟩, hrm1, hrm2⟩ := id hB
  refine zx_aload_n (i := 0) dX0_scan_0 rfl rfl ?_
  refine zx_getfield dX0_scan_1 zf_X0_46 hbr rfl ?_
  refine zx_iconst (v := 0) dX0_scan_4 rfl (z32_lit (by decide) (by decide)) ?_
  obtain ⟨w_1, hw_2⟩ : ∃ ww, ww = zput w wk (147, br, tTb 3 cW ([] : List (List Int))) := ⟨_, rfl⟩
  have q_3 : w_1.2.1 = w.2.1 ∧ w_1.2.2 = w.2.2 := by rw [hw_2]; exact ⟨rfl, rfl⟩
  have h_4 : w_1.1 wk = some (147, br, tTb 3 cW ([] : List (List Int))) := by rw [hw_2]; exact zput_at
  refine zx_iv (b := wk) (As := [zI 0]) (st := []) (v := none) (w1 := w_1) dX0_scan_5 zc_X0_92 hwk (z_cls9 (by decide)) rfl rfl (Nat.le_of_ble_eq_true rfl) rfl (by rw [hw_2]; exact (by have q := c_X9_cut (G := G) (d := d + 2) hwk (by decide) okW 0; rw [tcut_0] at q; exact q)) ?_
  refine zx_st (st1 := []) rfl ?_
  refine zx_aload_n (i := 0) dX0_scan_8 rfl rfl ?_
  have h_5 : w_1.1 br = some (0, 0, [zR pg, zR t, zR nd, zI (g : Int), zR va, zR ce, zR li, zR ro, zI fr, zR bi, zR le, zR wk, zI tk, zI rs, zI (rd : Int)]) := by
    rw [hw_2]; exact zput_tg hwk hbr (by simp)
  refine zx_getfield dX0_scan_9 zf_X0_46 h_5 rfl ?_
  refine zx_iload_n (i := 1) dX0_scan_12 rfl rfl ?_
  refine zx_iconst (v := 0) dX0_scan_13 rfl (z32_lit (by decide) (by decide)) ?_
  refine zx_iconst (v := 1) dX0_scan_14 rfl (z32_lit (by decide) (by decide)) ?_
  refine zx_ok (fun ok_6 => ?_)
  obtain ⟨w_7, hw_8⟩ : ∃ ww, ww = tAw w_1 wk 147 br 3 cW ([] : List (List Int)) (trow 3 (st0 : Int) 0 1) := ⟨_, rfl⟩
  have h_9 : w_7.1 wk = some (147, br, tTb 3 (tCap 3 cW ([] : List (List Int))) (([] : List (List Int)) ++ [(trow 3 (st0 : Int) 0 1)])) := by rw [hw_8]; exact tAw_at
  have qhw_8 := tAw_sz3 (w := w_1) (a := wk) (t := 147) (ow := br) (c := 3) (cap := cW) (rows := ([] : List (List Int))) (r := (trow 3 (st0 : Int) 0 1)) (by omega)
  rw [← hw_8] at qhw_8
  refine zx_iv (b := wk) (As := [zI (st0 : Int), zI 0, zI 1]) (st := []) (v := (some (zI (([] : List (List Int)).length : Int)))) (w1 := w_7) dX0_scan_15 zc_X0_113 h_4 (z_cls9 (by decide)) rfl rfl (Nat.le_of_ble_eq_true rfl) rfl (by rw [hw_8]; exact (c_X9_add h_4 (by decide) (tOk_nil (by decide)) (by omega) (by by_cases cg : ([] : List (List Int)).length * 3 + 3 ≤ cW; exact Or.inl cg; exact Or.inr ⟨by omega, by omega⟩) (st0 : Int) 0 1)) ?_
  refine zx_st (st1 := [zI (([] : List (List Int)).length : Int)]) rfl ?_
  refine zx_pop dX0_scan_18 (fun a h => by cases h) ?_
  refine zx_pc (pc1 := 19) rfl ?_
  refine zx_iconst (v := 0) dX0_scan_19 rfl (z32_lit (by decide) (by decide)) ?_
  refine zx_istore_n (i := 2) dX0_scan_20 rfl (by decide) rfl ?_
  refine zx_L (L1 := [some (zR br), some (zI (st0 : Int)), some (zI 0), none, none, none, none, none, none]) rfl ?_
  have hfaL9 : zFa [wk] w w_7 := (zFa_taw (zFa_put zFa_re (by simp) hw_2) (by simp) ok_6 hw_8)
  have hF9 : zFr TB w w_7 := zFr_fa hfaL9 (zLc hwk (by simp) zLn)
  have h_10 : w_1.1 nd = some (140, br, tTb 5 cN NN) := by
    rw [hw_2]; exact zput_tg hwk hnd (by simp)
  have h_11 : w_7.1 nd = some (140, br, tTb 5 cN NN) := by
    rw [hw_8]; exact (tAw_to ok_6 (zne_tg h_4 h_10 (by simp)) h_10)
  have h_12 : w_1.1 va = some (141, br, tTb 1 cV VV) := by
    rw [hw_2]; exact zput_tg hwk hva (by simp)
  have h_13 : w_7.1 va = some (141, br, tTb 1 cV VV) := by
    rw [hw_8]; exact (tAw_to ok_6 (zne_tg h_4 h_12 (by simp)) h_12)
  have h_14 : w_1.1 ce = some (142, br, tTb 3 cC CC) := by
    rw [hw_2]; exact zput_tg hwk hce (by simp)
  have h_15 : w_7.1 ce = some (142, br, tTb 3 cC CC) := by
    rw [hw_8]; exact (tAw_to ok_6 (zne_tg h_4 h_14 (by simp)) h_14)
  have h_16 : w_1.1 li = some (143, br, tTb 4 cL LL) := by
    rw [hw_2]; exact zput_tg hwk hli (by simp)
  have h_17 : w_7.1 li = some (143, br, tTb 4 cL LL) := by
    rw [hw_8]; exact (tAw_to ok_6 (zne_tg h_4 h_16 (by simp)) h_16)
  have h_18 : w_1.1 ro = some (144, br, tTb 6 cR RR) := by
    rw [hw_2]; exact zput_tg hwk hro (by simp)
  have h_19 : w_7.1 ro = some (144, br, tTb 6 cR RR) := by
    rw [hw_8]; exact (tAw_to ok_6 (zne_tg h_4 h_18 (by simp)) h_18)
  have h_20 : w_1.1 bi = some (145, br, tTb 2 cB BB) := by
    rw [hw_2]; exact zput_tg hwk hbi (by simp)
  have h_21 : w_7.1 bi = some (145, br, tTb 2 cB BB) := by
    rw [hw_8]; exact (tAw_to ok_6 (zne_tg h_4 h_20 (by simp)) h_20)
  have h_22 : w_1.1 le = some (146, br, tTb 4 cE EE) := by
    rw [hw_2]; exact zput_tg hwk hle (by simp)
  have h_23 : w_7.1 le = some (146, br, tTb 4 cE EE) := by
    rw [hw_8]; exact (tAw_to ok_6 (zne_tg h_4 h_22 (by simp)) h_22)
  have h_24 : w_7.1 br = some (0, 0, [zR pg, zR t, zR nd, zI (g : Int), zR va, zR ce, zR li, zR ro, zI fr, zR bi, zR le, zR wk, zI tk, zI rs, zI (rd : Int)]) := by
    rw [hw_8]; exact (tAw_to ok_6 (zne_tg h_4 h_5 (by simp)) h_5)
  have hB9 : bbW w_7 b1 b2 ((br, pg, t), (nd, va, ce, li), (ro, bi, le, wk)) (((cN, NN), (cV, VV), (cC, CC), (cL, LL)), ((cR, RR), (cB, BB), (cE, EE), ((tCap 3 cW ([] : List (List Int))), (([] : List (List Int)) ++ [(trow 3 (st0 : Int) 0 1)]))), ((g : Int), fr, tk, rs, (rd : Int))) := ⟨h_24, ⟨⟨h_11, okN⟩, ⟨h_13, okV⟩, ⟨h_15, okC⟩, ⟨h_17, okL⟩⟩, ⟨⟨h_19, okR⟩, ⟨h_21, okB⟩, ⟨h_23, okE⟩, ⟨h_9, (tOk_app (tOk_nil (by decide)) (by first | exact trow_len | rfl))⟩⟩, ⟨⟨by omega, by omega, by omega, by omega⟩, ⟨by omega, by omega, by omega, by omega⟩⟩, ⟨⟨by omega, by omega, by omega, by omega⟩, ⟨by omega, by omega, by omega, by omega⟩⟩, by omega, by omega⟩
  exact k _ hB9 hF9
end BSC
