/-! Own rows: breadth's isFinite and isGround. Walked by program (wip/p37/m_big.py). -/
section BIG
variable {G : zG} {d : Nat} {w w0 : zW} {b1 b2 g rd q : Nat} {br pg t nd va ce li ro bi le wk : Nat} {cN cV cC cL cR cB cE cW : Nat} {NN VV CC LL RR BB EE WW : List (List Int)} {fr tk rs : Int} {tc tn th tz : Nat} {ty : Int} {TN TH : List (List Int)} {TS : List Int} {N : bNT} {bd : bBD} {mk : Nat → Int}
theorem c_fin_t {x : Nat} (hB : bbW w b1 b2 ((br, pg, t), (nd, va, ce, li), (ro, bi, le, wk)) (((cN, NN), (cV, VV), (cC, CC), (cL, LL)), ((cR, RR), (cB, BB), (cE, EE), (cW, WW)), ((g : Int), fr, tk, rs, (rd : Int)))) (hG1 : b1 + 1800000 ≤ 30 * G.2.2.2.2.1) (hG2 : b2 + 3700000 ≤ G.2.2.2.2.2) (hT : tmW w t tc tn th tz ty C3 TN TH TS) (hM : ndM NN N bd mk) (hk : bWk N g bd) (hgt : ∀ n, n < g → bhd N n ≠ none) (hp : ∀ n, bhd N n = some 1 → bfs N n < n) (hcc : ∀ n c, bhd N n = some c → c < 3) (hN : N.length ≤ 4000) (hrd : rd < 900000) (hx : x < N.length) (hf0 : bFin N bd x) (hI : ∀ m, m < N.length → -1 ≤ mk m ∧ mk m < 3 * (rd : Int) + 3) : zM G zm_X0_isFinite (d + 4) [zR br, zI (x : Int)] w (zVal fun o w' => o = zI 1 ∧ (∃ (cW' : Nat) (NN' WW' : List (List Int)) (mk' : Nat → Int), bbW w' b1 b2 ((br, pg, t), (nd, va, ce, li), (ro, bi, le, wk)) (((cN, NN'), (cV, VV), (cC, CC), (cL, LL)), ((cR, RR), (cB, BB), (cE, EE), (cW', WW')), ((g : Int), fr, tk, rs, ((rd + 1 : Nat) : Int))) ∧ ndM NN' N bd mk' ∧ ∀ m, m < N.length → -1 ≤ mk' m ∧ mk' m < 3 * ((rd + 1 : Nat) : Int) + 3) ∧ zFr TB w w') := by
  refine zx_ent (by decide +kernel) rfl (Nat.le_of_ble_eq_true rfl) ?_
  refine zx_L (L1 := [some (zR br), some (zI (x : Int))]) rfl ?_
  obtain ⟨z, hz⟩ := hk.1 x
  have hzN := bRp_lt hk hx hz
  have hf : bFin N bd z := by
    obtain ⟨⟨kz, hzt⟩, -⟩ := hz
    exact (bFin_t kz _ _ hzt).mp hf0
  obtain ⟨hbr, ⟨⟨hnd, okN⟩, ⟨hva, okV⟩, ⟨hce, okC⟩, ⟨hli, okL⟩⟩, ⟨⟨hro, okR⟩, ⟨hbi, okB⟩, ⟨hle, okE⟩, ⟨hwk, okW⟩⟩, ⟨⟨c1N, c1V, c1C, c1L⟩, ⟨c1R, c1B, c1E, c1W⟩⟩, ⟨⟨c2N, c2V, c2C, c2L⟩, ⟨c2R, c2B, c2E, c2W⟩⟩, hrm1, hrm2⟩ := id hB
  refine zx_aload_n (i := 0) dX0_isFinite_0 rfl rfl ?_
  refine zx_dup dX0_isFinite_1 (fun a h => by cases h) ?_
  refine zx_getfield dX0_isFinite_2 zf_X0_98 hbr rfl ?_
  refine zx_iconst (v := 1) dX0_isFinite_5 rfl (z32_lit (by decide) (by decide)) ?_
  refine zx_iadd (v := ((rd + 1 : Nat) : Int)) dX0_isFinite_6 (zw_eq (by omega) (by omega) (by omega)) ?_
  obtain ⟨w_1, hw_2⟩ : ∃ ww, ww = zput w br (0, 0, [zR pg, zR t, zR nd, zI (g : Int), zR va, zR ce, zR li, zR ro, zI fr, zR bi, zR le, zR wk, zI tk, zI rs, zI ((rd + 1 : Nat) : Int)]) := ⟨_, rfl⟩
  refine zx_put (w1 := w_1) dX0_isFinite_7 zf_X0_98 hbr (Nat.le_of_ble_eq_true rfl) (zFt_int _) (fun h => by cases h) hw_2.symm ?_
  have q_3 : w_1.2.1 = w.2.1 ∧ w_1.2.2 = w.2.2 := by rw [hw_2]; exact ⟨rfl, rfl⟩
  have h_4 : w_1.1 br = some (0, 0, [zR pg, zR t, zR nd, zI (g : Int), zR va, zR ce, zR li, zR ro, zI fr, zR bi, zR le, zR wk, zI tk, zI rs, zI ((rd + 1 : Nat) : Int)]) := by rw [hw_2]; exact zput_at
  refine zx_aload_n (i := 0) dX0_isFinite_10 rfl rfl ?_
  refine zx_aload_n (i := 0) dX0_isFinite_11 rfl rfl ?_
  refine zx_iload_n (i := 1) dX0_isFinite_12 rfl rfl ?_
  have hfaLq : zFa [br] w w_1 := (zFa_put zFa_re (by simp) hw_2)
  have hFq : zFr TB w w_1 := zFr_fa hfaLq (zLc hbr (by simp) zLn)
  have h_5 : w_1.1 nd = some (140, br, tTb 5 cN NN) := by
    rw [hw_2]; exact zput_tg hbr hnd (by simp)
  have h_6 : w_1.1 va = some (141, br, tTb 1 cV VV) := by
    rw [hw_2]; exact zput_tg hbr hva (by simp)
  have h_7 : w_1.1 ce = some (142, br, tTb 3 cC CC) := by
    rw [hw_2]; exact zput_tg hbr hce (by simp)
  have h_8 : w_1.1 li = some (143, br, tTb 4 cL LL) := by
    rw [hw_2]; exact zput_tg hbr hli (by simp)
  have h_9 : w_1.1 ro = some (144, br, tTb 6 cR RR) := by
    rw [hw_2]; exact zput_tg hbr hro (by simp)
  have h_10 : w_1.1 bi = some (145, br, tTb 2 cB BB) := by
    rw [hw_2]; exact zput_tg hbr hbi (by simp)
  have h_11 : w_1.1 le = some (146, br, tTb 4 cE EE) := by
    rw [hw_2]; exact zput_tg hbr hle (by simp)
  have h_12 : w_1.1 wk = some (147, br, tTb 3 cW WW) := by
    rw [hw_2]; exact zput_tg hbr hwk (by simp)
  have hBq : bbW w_1 b1 b2 ((br, pg, t), (nd, va, ce, li), (ro, bi, le, wk)) (((cN, NN), (cV, VV), (cC, CC), (cL, LL)), ((cR, RR), (cB, BB), (cE, EE), (cW, WW)), ((g : Int), fr, tk, rs, ((rd + 1 : Nat) : Int))) := ⟨h_4, ⟨⟨h_5, okN⟩, ⟨h_6, okV⟩, ⟨h_7, okC⟩, ⟨h_8, okL⟩⟩, ⟨⟨h_9, okR⟩, ⟨h_10, okB⟩, ⟨h_11, okE⟩, ⟨h_12, okW⟩⟩, ⟨⟨by omega, by omega, by omega, by omega⟩, ⟨by omega, by omega, by omega, by omega⟩⟩, ⟨⟨by omega, by omega, by omega, by omega⟩, ⟨by omega, by omega, by omega, by omega⟩⟩, by omega, by omega⟩
  refine zx_iv (b := br) (As := [zI (x : Int)]) (st := [zR br]) (v := (some (zI (z : Int)))) (w1 := w_1) dX0_isFinite_13 zc_X0_237 h_4 rfl rfl rfl (Nat.le_of_ble_eq_true rfl) rfl (c_find hBq hM hk (by omega) hx hz) ?_
  refine zx_st (st1 := [zI (z : Int), zR br]) rfl ?_
  have hfaLp2 : zFa [br] w w_1 := (zFa_put zFa_re (by simp) hw_2)
  have hFp2 : zFr TB w w_1 := zFr_fa hfaLp2 (zLc hbr (by simp) zLn)
  have hBp2 : bbW w_1 b1 b2 ((br, pg, t), (nd, va, ce, li), (ro, bi, le, wk)) (((cN, NN), (cV, VV), (cC, CC), (cL, LL)), ((cR, RR), (cB, BB), (cE, EE), (cW, WW)), ((g : Int), fr, tk, rs, ((rd + 1 : Nat) : Int))) := ⟨h_4, ⟨⟨h_5, okN⟩, ⟨h_6, okV⟩, ⟨h_7, okC⟩, ⟨h_8, okL⟩⟩, ⟨⟨h_9, okR⟩, ⟨h_10, okB⟩, ⟨h_11, okE⟩, ⟨h_12, okW⟩⟩, ⟨⟨by omega, by omega, by omega, by omega⟩, ⟨by omega, by omega, by omega, by omega⟩⟩, ⟨⟨by omega, by omega, by omega, by omega⟩, ⟨by omega, by omega, by omega, by omega⟩⟩, by omega, by omega⟩
  refine zx_ivV (b := br) (As := [zI (z : Int)]) (st := []) dX0_isFinite_16 zc_X0_257 h_4 rfl rfl rfl (Nat.le_of_ble_eq_true rfl) rfl (c_scan_t hBp2 (tmW_TB hT hFp2) hM hk hgt hp hcc hN (by omega) hG1 hG2 hzN hz.2 hf (fun m hm => ⟨(hI m hm).1, Or.inl (by have := (hI m hm).2; omega)⟩)) (fun v2 w2 hq => ?_)
  obtain ⟨ev2, ⟨cW2, NN2, WW2, mk2, hB2, hM2, hX2, hok2⟩, hF2⟩ := hq
  subst ev2
  obtain ⟨hbr2, ⟨⟨hnd2, okN2⟩, ⟨hva2, okV2⟩, ⟨hce2, okC2⟩, ⟨hli2, okL2⟩⟩, ⟨⟨hro2, okR2⟩, ⟨hbi2, okB2⟩, ⟨hle2, okE2⟩, ⟨hwk2, okW2⟩⟩, ⟨⟨c1N2, c1V2, c1C2, c1L2⟩, ⟨c1R2, c1B2, c1E2, c1W2⟩⟩, ⟨⟨c2N2, c2V2, c2C2, c2L2⟩, ⟨c2R2, c2B2, c2E2, c2W2⟩⟩, hrm12, hrm22⟩ := id hB2
  refine zx_pc (pc1 := 19) rfl ?_
  refine zx_zret dX0_isFinite_19 rfl (by first | exact Or.inl rfl | exact Or.inr rfl | exact zB_or | assumption) ?_
  have hF9 : zFr TB w2 w2 := zFr_re
  have hB9 : bbW w2 b1 b2 ((br, pg, t), (nd, va, ce, li), (ro, bi, le, wk)) (((cN, NN2), (cV, VV), (cC, CC), (cL, LL)), ((cR, RR), (cB, BB), (cE, EE), (cW2, WW2)), ((g : Int), fr, tk, rs, ((rd + 1 : Nat) : Int))) := ⟨hbr2, ⟨⟨hnd2, okN2⟩, ⟨hva2, okV2⟩, ⟨hce2, okC2⟩, ⟨hli2, okL2⟩⟩, ⟨⟨hro2, okR2⟩, ⟨hbi2, okB2⟩, ⟨hle2, okE2⟩, ⟨hwk2, okW2⟩⟩, ⟨⟨by omega, by omega, by omega, by omega⟩, ⟨by omega, by omega, by omega, by omega⟩⟩, ⟨⟨by omega, by omega, by omega, by omega⟩, ⟨by omega, by omega, by omega, by omega⟩⟩, by omega, by omega⟩
  refine ⟨_, rfl, rfl, ⟨cW2, NN2, WW2, mk2, hB9, hM2, ?_⟩, (zFr_tr hFp2 (zFr_tr hF2 hF9))⟩
  exact fun m hm => by
      rcases hX2 m hm with a | a
      · rw [a]; have := hI m hm; omega
      · rcases a with ⟨a, -⟩ | ⟨a, -⟩ <;> omega
theorem c_fin_f {x : Nat} (hB : bbW w b1 b2 ((br, pg, t), (nd, va, ce, li), (ro, bi, le, wk)) (((cN, NN), (cV, VV), (cC, CC), (cL, LL)), ((cR, RR), (cB, BB), (cE, EE), (cW, WW)), ((g : Int), fr, tk, rs, (rd : Int)))) (hG1 : b1 + 1800000 ≤ 30 * G.2.2.2.2.1) (hG2 : b2 + 3700000 ≤ G.2.2.2.2.2) (hT : tmW w t tc tn th tz ty C3 TN TH TS) (hM : ndM NN N bd mk) (hk : bWk N g bd) (hgt : ∀ n, n < g → bhd N n ≠ none) (hp : ∀ n, bhd N n = some 1 → bfs N n < n) (hcc : ∀ n c, bhd N n = some c → c < 3) (hN : N.length ≤ 4000) (hrd : rd < 900000) (hx : x < N.length) (hf0 : ¬ bFin N bd x) (hI : ∀ m, m < N.length → -1 ≤ mk m ∧ mk m < 3 * (rd : Int) + 3) : zM G zm_X0_isFinite (d + 4) [zR br, zI (x : Int)] w (zVal fun o w' => o = zI 0 ∧ (∃ (cW' : Nat) (NN' WW' : List (List Int)) (mk' : Nat → Int), bbW w' b1 b2 ((br, pg, t), (nd, va, ce, li), (ro, bi, le, wk)) (((cN, NN'), (cV, VV), (cC, CC), (cL, LL)), ((cR, RR), (cB, BB), (cE, EE), (cW', WW')), ((g : Int), fr, tk, rs, ((rd + 1 : Nat) : Int))) ∧ ndM NN' N bd mk' ∧ ∀ m, m < N.length → -1 ≤ mk' m ∧ mk' m < 3 * ((rd + 1 : Nat) : Int) + 3) ∧ zFr TB w w') := by
  refine zx_ent (by decide +kernel) rfl (Nat.le_of_ble_eq_true rfl) ?_
  refine zx_L (L1 := [some (zR br), some (zI (x : Int))]) rfl ?_
  obtain ⟨z, hz⟩ := hk.1 x
  have hzN := bRp_lt hk hx hz
  have hf : ¬ bFin N bd z := by
    obtain ⟨⟨kz, hzt⟩, -⟩ := hz
    exact fun q => hf0 ((bFin_t kz _ _ hzt).mpr q)
  obtain ⟨hbr, ⟨⟨hnd, okN⟩, ⟨hva, okV⟩, ⟨hce, okC⟩, ⟨hli, okL⟩⟩, ⟨⟨hro, okR⟩, ⟨hbi, okB⟩, ⟨hle, okE⟩, ⟨hwk, okW⟩⟩, ⟨⟨c1N, c1V, c1C, c1L⟩, ⟨c1R, c1B, c1E, c1W⟩⟩, ⟨⟨c2N, c2V, c2C, c2L⟩, ⟨c2R, c2B, c2E, c2W⟩⟩, hrm1, hrm2⟩ := id hB
  refine zx_aload_n (i := 0) dX0_isFinite_0 rfl rfl ?_
  refine zx_dup dX0_isFinite_1 (fun a h => by cases h) ?_
  refine zx_getfield dX0_isFinite_2 zf_X0_98 hbr rfl ?_
  refine zx_iconst (v := 1) dX0_isFinite_5 rfl (z32_lit (by decide) (by decide)) ?_
  refine zx_iadd (v := ((rd + 1 : Nat) : Int)) dX0_isFinite_6 (zw_eq (by omega) (by omega) (by omega)) ?_
  obtain ⟨w_1, hw_2⟩ : ∃ ww, ww = zput w br (0, 0, [zR pg, zR t, zR nd, zI (g : Int), zR va, zR ce, zR li, zR ro, zI fr, zR bi, zR le, zR wk, zI tk, zI rs, zI ((rd + 1 : Nat) : Int)]) := ⟨_, rfl⟩
  refine zx_put (w1 := w_1) dX0_isFinite_7 zf_X0_98 hbr (Nat.le_of_ble_eq_true rfl) (zFt_int _) (fun h => by cases h) hw_2.symm ?_
  have q_3 : w_1.2.1 = w.2.1 ∧ w_1.2.2 = w.2.2 := by rw [hw_2]; exact ⟨rfl, rfl⟩
  have h_4 : w_1.1 br = some (0, 0, [zR pg, zR t, zR nd, zI (g : Int), zR va, zR ce, zR li, zR ro, zI fr, zR bi, zR le, zR wk, zI tk, zI rs, zI ((rd + 1 : Nat) : Int)]) := by rw [hw_2]; exact zput_at
  refine zx_aload_n (i := 0) dX0_isFinite_10 rfl rfl ?_
  refine zx_aload_n (i := 0) dX0_isFinite_11 rfl rfl ?_
  refine zx_iload_n (i := 1) dX0_isFinite_12 rfl rfl ?_
  have hfaLq : zFa [br] w w_1 := (zFa_put zFa_re (by simp) hw_2)
  have hFq : zFr TB w w_1 := zFr_fa hfaLq (zLc hbr (by simp) zLn)
  have h_5 : w_1.1 nd = some (140, br, tTb 5 cN NN) := by
    rw [hw_2]; exact zput_tg hbr hnd (by simp)
  have h_6 : w_1.1 va = some (141, br, tTb 1 cV VV) := by
    rw [hw_2]; exact zput_tg hbr hva (by simp)
  have h_7 : w_1.1 ce = some (142, br, tTb 3 cC CC) := by
    rw [hw_2]; exact zput_tg hbr hce (by simp)
  have h_8 : w_1.1 li = some (143, br, tTb 4 cL LL) := by
    rw [hw_2]; exact zput_tg hbr hli (by simp)
  have h_9 : w_1.1 ro = some (144, br, tTb 6 cR RR) := by
    rw [hw_2]; exact zput_tg hbr hro (by simp)
  have h_10 : w_1.1 bi = some (145, br, tTb 2 cB BB) := by
    rw [hw_2]; exact zput_tg hbr hbi (by simp)
  have h_11 : w_1.1 le = some (146, br, tTb 4 cE EE) := by
    rw [hw_2]; exact zput_tg hbr hle (by simp)
  have h_12 : w_1.1 wk = some (147, br, tTb 3 cW WW) := by
    rw [hw_2]; exact zput_tg hbr hwk (by simp)
  have hBq : bbW w_1 b1 b2 ((br, pg, t), (nd, va, ce, li), (ro, bi, le, wk)) (((cN, NN), (cV, VV), (cC, CC), (cL, LL)), ((cR, RR), (cB, BB), (cE, EE), (cW, WW)), ((g : Int), fr, tk, rs, ((rd + 1 : Nat) : Int))) := ⟨h_4, ⟨⟨h_5, okN⟩, ⟨h_6, okV⟩, ⟨h_7, okC⟩, ⟨h_8, okL⟩⟩, ⟨⟨h_9, okR⟩, ⟨h_10, okB⟩, ⟨h_11, okE⟩, ⟨h_12, okW⟩⟩, ⟨⟨by omega, by omega, by omega, by omega⟩, ⟨by omega, by omega, by omega, by omega⟩⟩, ⟨⟨by omega, by omega, by omega, by omega⟩, ⟨by omega, by omega, by omega, by omega⟩⟩, by omega, by omega⟩
  refine zx_iv (b := br) (As := [zI (x : Int)]) (st := [zR br]) (v := (some (zI (z : Int)))) (w1 := w_1) dX0_isFinite_13 zc_X0_237 h_4 rfl rfl rfl (Nat.le_of_ble_eq_true rfl) rfl (c_find hBq hM hk (by omega) hx hz) ?_
  refine zx_st (st1 := [zI (z : Int), zR br]) rfl ?_
  have hfaLp2 : zFa [br] w w_1 := (zFa_put zFa_re (by simp) hw_2)
  have hFp2 : zFr TB w w_1 := zFr_fa hfaLp2 (zLc hbr (by simp) zLn)
  have hBp2 : bbW w_1 b1 b2 ((br, pg, t), (nd, va, ce, li), (ro, bi, le, wk)) (((cN, NN), (cV, VV), (cC, CC), (cL, LL)), ((cR, RR), (cB, BB), (cE, EE), (cW, WW)), ((g : Int), fr, tk, rs, ((rd + 1 : Nat) : Int))) := ⟨h_4, ⟨⟨h_5, okN⟩, ⟨h_6, okV⟩, ⟨h_7, okC⟩, ⟨h_8, okL⟩⟩, ⟨⟨h_9, okR⟩, ⟨h_10, okB⟩, ⟨h_11, okE⟩, ⟨h_12, okW⟩⟩, ⟨⟨by omega, by omega, by omega, by omega⟩, ⟨by omega, by omega, by omega, by omega⟩⟩, ⟨⟨by omega, by omega, by omega, by omega⟩, ⟨by omega, by omega, by omega, by omega⟩⟩, by omega, by omega⟩
  refine zx_ivV (b := br) (As := [zI (z : Int)]) (st := []) dX0_isFinite_16 zc_X0_257 h_4 rfl rfl rfl (Nat.le_of_ble_eq_true rfl) rfl (c_scan_f hBp2 (tmW_TB hT hFp2) hM hk hgt hp hN (by omega) hG1 hG2 hzN hz.2 hf (fun m hm => ⟨(hI m hm).1, by have := (hI m hm).2; omega⟩)) (fun v2 w2 hq => ?_)
  obtain ⟨ev2, ⟨cW2, NN2, WW2, mk2, hB2, hM2, hX2⟩, hF2⟩ := hq
  subst ev2
  obtain ⟨hbr2, ⟨⟨hnd2, okN2⟩, ⟨hva2, okV2⟩, ⟨hce2, okC2⟩, ⟨hli2, okL2⟩⟩, ⟨⟨hro2, okR2⟩, ⟨hbi2, okB2⟩, ⟨hle2, okE2⟩, ⟨hwk2, okW2⟩⟩, ⟨⟨c1N2, c1V2, c1C2, c1L2⟩, ⟨c1R2, c1B2, c1E2, c1W2⟩⟩, ⟨⟨c2N2, c2V2, c2C2, c2L2⟩, ⟨c2R2, c2B2, c2E2, c2W2⟩⟩, hrm12, hrm22⟩ := id hB2
  refine zx_pc (pc1 := 19) rfl ?_
  refine zx_zret dX0_isFinite_19 rfl (by first | exact Or.inl rfl | exact Or.inr rfl | exact zB_or | assumption) ?_
  have hF9 : zFr TB w2 w2 := zFr_re
  have hB9 : bbW w2 b1 b2 ((br, pg, t), (nd, va, ce, li), (ro, bi, le, wk)) (((cN, NN2), (cV, VV), (cC, CC), (cL, LL)), ((cR, RR), (cB, BB), (cE, EE), (cW2, WW2)), ((g : Int), fr, tk, rs, ((rd + 1 : Nat) : Int))) := ⟨hbr2, ⟨⟨hnd2, okN2⟩, ⟨hva2, okV2⟩, ⟨hce2, okC2⟩, ⟨hli2, okL2⟩⟩, ⟨⟨hro2, okR2⟩, ⟨hbi2, okB2⟩, ⟨hle2, okE2⟩, ⟨hwk2, okW2⟩⟩, ⟨⟨by omega, by omega, by omega, by omega⟩, ⟨by omega, by omega, by omega, by omega⟩⟩, ⟨⟨by omega, by omega, by omega, by omega⟩, ⟨by omega, by omega, by omega, by omega⟩⟩, by omega, by omega⟩
  refine ⟨_, rfl, rfl, ⟨cW2, NN2, WW2, mk2, hB9, hM2, ?_⟩, (zFr_tr hFp2 (zFr_tr hF2 hF9))⟩
  exact hX2
variable {y gv bs cnt x z : Nat} {k0 su : Int} {o4 : Option zV} {PQ : zV → zW → Prop}
theorem ig_g (hB : bbW w b1 b2 ((br, pg, t), (nd, va, ce, li), (ro, bi, le, wk)) (((cN, NN), (cV, VV), (cC, CC), (cL, LL)), ((cR, RR), (cB, BB), (cE, EE), (cW, WW)), ((g : Int), fr, tk, rs, (rd : Int)))) (hG1 : b1 + 1800000 ≤ 30 * G.2.2.2.2.1) (hG2 : b2 + 3700000 ≤ G.2.2.2.2.2) (hT : tmW w t tc tn th tz ty C3 TN TH TS) (hM : ndM NN N bd mk) (hk : bWk N g bd) (hgt : ∀ n, n < g → bhd N n ≠ none) (hp : ∀ n, bhd N n = some 1 → bfs N n < n) (hcc : ∀ n c, bhd N n = some c → c < 3) (hN : N.length ≤ 4000) (hrd : rd < 900000) (hy : w.1 y = some (3, 0, [zI k0, zI su, zI (cnt : Int), zR gv])) (hqc : q < cnt) (hc4 : cnt ≤ 3) (hno : zM G zm_X0_nodeOf (d + 3) [zR br, zR y, zI (bs : Int), zI (q : Int)] w (zRet (some (zI (x : Int))) w)) (hx : x < N.length) (hz : bRp bd x z) (hmz : -1 ≤ mk z ∧ mk z < 3 * (rd : Int) + 3) (hmv : mkV g rd mk z = 1) (k : ∀ (o4 : Option zV), zX G zm_X0_isGround (d + 4) [zR br, zR y, zI (bs : Int)] w0 (zVal PQ) 2 [some (zR br), some (zR y), some (zI (bs : Int)), some (zI ((q + 1 : Nat) : Int)), o4] [] w) : zX G zm_X0_isGround (d + 4) [zR br, zR y, zI (bs : Int)] w0 (zVal PQ) 2 [some (zR br), some (zR y), some (zI (bs : Int)), some (zI (q : Int)), o4] [] w := by
  have hzN := bRp_lt hk hx hz
  obtain ⟨hbr, ⟨⟨hnd, okN⟩, ⟨hva, okV⟩, ⟨hce, okC⟩, ⟨hli, okL⟩⟩, ⟨⟨hro, okR⟩, ⟨hbi, okB⟩, ⟨hle, okE⟩, ⟨hwk, okW⟩⟩, ⟨⟨c1N, c1V, c1C, c1L⟩, ⟨c1R, c1B, c1E, c1W⟩⟩, ⟨⟨c2N, c2V, c2C, c2L⟩, ⟨c2R, c2B, c2E, c2W⟩⟩, hrm1, hrm2⟩ := id hB
  refine zx_iload_n (i := 3) dX0_isGround_2 rfl rfl ?_
  refine zx_aload_n (i := 1) dX0_isGround_3 rfl rfl ?_
  refine zx_getfield dX0_isGround_4 zf_X0_184 hy rfl ?_
  refine zx_icmp_ge (tgt := 58) dX0_isGround_7 (by decide) (fun h7 => absurd h7 (by omega)) (fun h7 => ?_)
  refine zx_aload_n (i := 0) dX0_isGround_10 rfl rfl ?_
  refine zx_aload_n (i := 0) dX0_isGround_11 rfl rfl ?_
  refine zx_aload_n (i := 1) dX0_isGround_12 rfl rfl ?_
  refine zx_iload_n (i := 2) dX0_isGround_13 rfl rfl ?_
  refine zx_iload_n (i := 3) dX0_isGround_14 rfl rfl ?_
  refine zx_iv (b := br) (As := [zR y, zI (bs : Int), zI (q : Int)]) (st := [zR br]) (v := (some (zI (x : Int)))) (w1 := w) dX0_isGround_15 zc_X0_186 hbr rfl rfl rfl (Nat.le_of_ble_eq_true rfl) rfl hno ?_
  refine zx_st (st1 := [zI (x : Int), zR br]) rfl ?_
  refine zx_iv (b := br) (As := [zI (x : Int)]) (st := []) (v := (some (zI (z : Int)))) (w1 := w) dX0_isGround_18 zc_X0_237 hbr rfl rfl rfl (Nat.le_of_ble_eq_true rfl) rfl (c_find hB hM hk (by omega) hx hz) ?_
  refine zx_st (st1 := [zI (z : Int)]) rfl ?_
  refine zx_pc (pc1 := 21) rfl ?_
  refine zx_istore (i := 4) dX0_isGround_21 (by decide) rfl ?_
  refine zx_L (L1 := [some (zR br), some (zR y), some (zI (bs : Int)), some (zI (q : Int)), some (zI (z : Int))]) rfl ?_
  refine zx_aload_n (i := 0) dX0_isGround_23 rfl rfl ?_
  refine zx_iload (i := 4) dX0_isGround_24 rfl ?_
  refine zx_iv (b := br) (As := [zI (z : Int)]) (st := []) (v := (some (zI 1))) (w1 := w) dX0_isGround_26 zc_X0_254 hbr rfl rfl rfl (Nat.le_of_ble_eq_true rfl) rfl (by have q := c_mark (G := G) (d := d + 2) hB hM hzN (by omega) hmz; rw [hmv] at q; exact q) ?_
  refine zx_st (st1 := [zI 1]) rfl ?_
  refine zx_iconst (v := -1) dX0_isGround_29 rfl (z32_lit (by decide) (by decide)) ?_
  refine zx_icmp_ne (tgt := 40) dX0_isGround_30 (by decide) (fun h30 => ?_) (fun h30 => absurd (by decide) h30)
  refine zx_aload_n (i := 0) dX0_isGround_40 rfl rfl ?_
  refine zx_iload (i := 4) dX0_isGround_41 rfl ?_
  refine zx_iv (b := br) (As := [zI (z : Int)]) (st := []) (v := (some (zI 1))) (w1 := w) dX0_isGround_43 zc_X0_254 hbr rfl rfl rfl (Nat.le_of_ble_eq_true rfl) rfl (by have q := c_mark (G := G) (d := d + 2) hB hM hzN (by omega) hmz; rw [hmv] at q; exact q) ?_
  refine zx_st (st1 := [zI 1]) rfl ?_
  refine zx_iconst (v := 1) dX0_isGround_46 rfl (z32_lit (by decide) (by decide)) ?_
  refine zx_icmp_eq (tgt := 52) dX0_isGround_47 (by decide) (fun h47 => ?_) (fun h47 => absurd (by decide) h47)
  refine zx_iinc (i := 3) (v := ((q + 1 : Nat) : Int)) dX0_isGround_52 rfl (zw_eq (by omega) (by omega) (by omega)) (by decide) rfl ?_
  refine zx_L (L1 := [some (zR br), some (zR y), some (zI (bs : Int)), some (zI ((q + 1 : Nat) : Int)), some (zI (z : Int))]) rfl ?_
  refine zx_pc (pc1 := 55) rfl ?_
  refine zx_goto (tgt := 2) dX0_isGround_55 (by decide) ?_
  exact k _
theorem ig_u (hB : bbW w b1 b2 ((br, pg, t), (nd, va, ce, li), (ro, bi, le, wk)) (((cN, NN), (cV, VV), (cC, CC), (cL, LL)), ((cR, RR), (cB, BB), (cE, EE), (cW, WW)), ((g : Int), fr, tk, rs, (rd : Int)))) (hG1 : b1 + 1800000 ≤ 30 * G.2.2.2.2.1) (hG2 : b2 + 3700000 ≤ G.2.2.2.2.2) (hT : tmW w t tc tn th tz ty C3 TN TH TS) (hM : ndM NN N bd mk) (hk : bWk N g bd) (hgt : ∀ n, n < g → bhd N n ≠ none) (hp : ∀ n, bhd N n = some 1 → bfs N n < n) (hcc : ∀ n c, bhd N n = some c → c < 3) (hN : N.length ≤ 4000) (hrd : rd < 900000) (hy : w.1 y = some (3, 0, [zI k0, zI su, zI (cnt : Int), zR gv])) (hqc : q < cnt) (hc4 : cnt ≤ 3) (hno : zM G zm_X0_nodeOf (d + 3) [zR br, zR y, zI (bs : Int), zI (q : Int)] w (zRet (some (zI (x : Int))) w)) (hx : x < N.length) (hz : bRp bd x z) (hmz : -1 ≤ mk z ∧ mk z < 3 * (rd : Int) + 3) (hmv : mkV g rd mk z = 2) (k : PQ (zI 0) w) : zX G zm_X0_isGround (d + 4) [zR br, zR y, zI (bs : Int)] w0 (zVal PQ) 2 [some (zR br), some (zR y), some (zI (bs : Int)), some (zI (q : Int)), o4] [] w := by
  have hzN := bRp_lt hk hx hz
  obtain ⟨hbr, ⟨⟨hnd, okN⟩, ⟨hva, okV⟩, ⟨hce, okC⟩, ⟨hli, okL⟩⟩, ⟨⟨hro, okR⟩, ⟨hbi, okB⟩, ⟨hle, okE⟩, ⟨hwk, okW⟩⟩, ⟨⟨c1N, c1V, c1C, c1L⟩, ⟨c1R, c1B, c1E, c1W⟩⟩, ⟨⟨c2N, c2V, c2C, c2L⟩, ⟨c2R, c2B, c2E, c2W⟩⟩, hrm1, hrm2⟩ := id hB
  refine zx_iload_n (i := 3) dX0_isGround_2 rfl rfl ?_
  refine zx_aload_n (i := 1) dX0_isGround_3 rfl rfl ?_
  refine zx_getfield dX0_isGround_4 zf_X0_184 hy rfl ?_
  refine zx_icmp_ge (tgt := 58) dX0_isGround_7 (by decide) (fun h7 => absurd h7 (by omega)) (fun h7 => ?_)
  refine zx_aload_n (i := 0) dX0_isGround_10 rfl rfl ?_
  refine zx_aload_n (i := 0) dX0_isGround_11 rfl rfl ?_
  refine zx_aload_n (i := 1) dX0_isGround_12 rfl rfl ?_
  refine zx_iload_n (i := 2) dX0_isGround_13 rfl rfl ?_
  refine zx_iload_n (i := 3) dX0_isGround_14 rfl rfl ?_
  refine zx_iv (b := br) (As := [zR y, zI (bs : Int), zI (q : Int)]) (st := [zR br]) (v := (some (zI (x : Int)))) (w1 := w) dX0_isGround_15 zc_X0_186 hbr rfl rfl rfl (Nat.le_of_ble_eq_true rfl) rfl hno ?_
  refine zx_st (st1 := [zI (x : Int), zR br]) rfl ?_
  refine zx_iv (b := br) (As := [zI (x : Int)]) (st := []) (v := (some (zI (z : Int)))) (w1 := w) dX0_isGround_18 zc_X0_237 hbr rfl rfl rfl (Nat.le_of_ble_eq_true rfl) rfl (c_find hB hM hk (by omega) hx hz) ?_
  refine zx_st (st1 := [zI (z : Int)]) rfl ?_
  refine zx_pc (pc1 := 21) rfl ?_
  refine zx_istore (i := 4) dX0_isGround_21 (by decide) rfl ?_
  refine zx_L (L1 := [some (zR br), some (zR y), some (zI (bs : Int)), some (zI (q : Int)), some (zI (z : Int))]) rfl ?_
  refine zx_aload_n (i := 0) dX0_isGround_23 rfl rfl ?_
  refine zx_iload (i := 4) dX0_isGround_24 rfl ?_
  refine zx_iv (b := br) (As := [zI (z : Int)]) (st := []) (v := (some (zI 2))) (w1 := w) dX0_isGround_26 zc_X0_254 hbr rfl rfl rfl (Nat.le_of_ble_eq_true rfl) rfl (by have q := c_mark (G := G) (d := d + 2) hB hM hzN (by omega) hmz; rw [hmv] at q; exact q) ?_
  refine zx_st (st1 := [zI 2]) rfl ?_
  refine zx_iconst (v := -1) dX0_isGround_29 rfl (z32_lit (by decide) (by decide)) ?_
  refine zx_icmp_ne (tgt := 40) dX0_isGround_30 (by decide) (fun h30 => ?_) (fun h30 => absurd (by decide) h30)
  refine zx_aload_n (i := 0) dX0_isGround_40 rfl rfl ?_
  refine zx_iload (i := 4) dX0_isGround_41 rfl ?_
  refine zx_iv (b := br) (As := [zI (z : Int)]) (st := []) (v := (some (zI 2))) (w1 := w) dX0_isGround_43 zc_X0_254 hbr rfl rfl rfl (Nat.le_of_ble_eq_true rfl) rfl (by have q := c_mark (G := G) (d := d + 2) hB hM hzN (by omega) hmz; rw [hmv] at q; exact q) ?_
  refine zx_st (st1 := [zI 2]) rfl ?_
  refine zx_iconst (v := 1) dX0_isGround_46 rfl (z32_lit (by decide) (by decide)) ?_
  refine zx_icmp_eq (tgt := 52) dX0_isGround_47 (by decide) (fun h47 => absurd h47 (by decide)) (fun h47 => ?_)
  refine zx_iconst (v := 0) dX0_isGround_50 rfl (z32_lit (by decide) (by decide)) ?_
  refine zx_pc (pc1 := 51) rfl ?_
  refine zx_zret dX0_isGround_51 rfl (by first | exact Or.inl rfl | exact Or.inr rfl | exact zB_or | assumption) ?_
  exact ⟨_, rfl, k⟩
theorem ig_sg (hB : bbW w b1 b2 ((br, pg, t), (nd, va, ce, li), (ro, bi, le, wk)) (((cN, NN), (cV, VV), (cC, CC), (cL, LL)), ((cR, RR), (cB, BB), (cE, EE), (cW, WW)), ((g : Int), fr, tk, rs, (rd : Int)))) (hG1 : b1 + 1800000 ≤ 30 * G.2.2.2.2.1) (hG2 : b2 + 3700000 ≤ G.2.2.2.2.2) (hT : tmW w t tc tn th tz ty C3 TN TH TS) (hM : ndM NN N bd mk) (hk : bWk N g bd) (hgt : ∀ n, n < g → bhd N n ≠ none) (hp : ∀ n, bhd N n = some 1 → bfs N n < n) (hcc : ∀ n c, bhd N n = some c → c < 3) (hN : N.length ≤ 4000) (hrd : rd < 900000) (hy : w.1 y = some (3, 0, [zI k0, zI su, zI (cnt : Int), zR gv])) (hqc : q < cnt) (hc4 : cnt ≤ 3) (hno : zM G zm_X0_nodeOf (d + 3) [zR br, zR y, zI (bs : Int), zI (q : Int)] w (zRet (some (zI (x : Int))) w)) (hx : x < N.length) (hz : bRp bd x z) (hmz : -1 ≤ mk z ∧ mk z < 3 * (rd : Int) + 3) (hmv : mkV g rd mk z = -1) (hzg : ¬ z < g) (hf : bFin N bd z) (hI : ∀ m, m < N.length → -1 ≤ mk m ∧ (mk m < 3 * (rd : Int) ∨ okM N bd rd (mk m) m)) (hgu : gnd N bd z) (k : ∀ (cW2 : Nat) (NN2 WW2 : List (List Int)) (mk2 : Nat → Int) (o4 : Option zV) (w' : zW), bbW w' b1 b2 ((br, pg, t), (nd, va, ce, li), (ro, bi, le, wk)) (((cN, NN2), (cV, VV), (cC, CC), (cL, LL)), ((cR, RR), (cB, BB), (cE, EE), (cW2, WW2)), ((g : Int), fr, tk, rs, (rd : Int))) → ndM NN2 N bd mk2 → mkX N bd rd mk mk2 → zFr TB w w' → zX G zm_X0_isGround (d + 4) [zR br, zR y, zI (bs : Int)] w0 (zVal PQ) 2 [some (zR br), some (zR y), some (zI (bs : Int)), some (zI ((q + 1 : Nat) : Int)), o4] [] w') : zX G zm_X0_isGround (d + 4) [zR br, zR y, zI (bs : Int)] w0 (zVal PQ) 2 [some (zR br), some (zR y), some (zI (bs : Int)), some (zI (q : Int)), o4] [] w := by
  have hzN := bRp_lt hk hx hz
  obtain ⟨hbr, ⟨⟨hnd, okN⟩, ⟨hva, okV⟩, ⟨hce, okC⟩, ⟨hli, okL⟩⟩, ⟨⟨hro, okR⟩, ⟨hbi, okB⟩, ⟨hle, okE⟩, ⟨hwk, okW⟩⟩, ⟨⟨c1N, c1V, c1C, c1L⟩, ⟨c1R, c1B, c1E, c1W⟩⟩, ⟨⟨c2N, c2V, c2C, c2L⟩, ⟨c2R, c2B, c2E, c2W⟩⟩, hrm1, hrm2⟩ := id hB
  refine zx_iload_n (i := 3) dX0_isGround_2 rfl rfl ?_
  refine zx_aload_n (i := 1) dX0_isGround_3 rfl rfl ?_
  refine zx_getfield dX0_isGround_4 zf_X0_184 hy rfl ?_
  refine zx_icmp_ge (tgt := 58) dX0_isGround_7 (by decide) (fun h7 => absurd h7 (by omega)) (fun h7 => ?_)
  refine zx_aload_n (i := 0) dX0_isGround_10 rfl rfl ?_
  refine zx_aload_n (i := 0) dX0_isGround_11 rfl rfl ?_
  refine zx_aload_n (i := 1) dX0_isGround_12 rfl rfl ?_
  refine zx_iload_n (i := 2) dX0_isGround_13 rfl rfl ?_
  refine zx_iload_n (i := 3) dX0_isGround_14 rfl rfl ?_
  refine zx_iv (b := br) (As := [zR y, zI (bs : Int), zI (q : Int)]) (st := [zR br]) (v := (some (zI (x : Int)))) (w1 := w) dX0_isGround_15 zc_X0_186 hbr rfl rfl rfl (Nat.le_of_ble_eq_true rfl) rfl hno ?_
  refine zx_st (st1 := [zI (x : Int), zR br]) rfl ?_
  refine zx_iv (b := br) (As := [zI (x : Int)]) (st := []) (v := (some (zI (z : Int)))) (w1 := w) dX0_isGround_18 zc_X0_237 hbr rfl rfl rfl (Nat.le_of_ble_eq_true rfl) rfl (c_find hB hM hk (by omega) hx hz) ?_
  refine zx_st (st1 := [zI (z : Int)]) rfl ?_
  refine zx_pc (pc1 := 21) rfl ?_
  refine zx_istore (i := 4) dX0_isGround_21 (by decide) rfl ?_
  refine zx_L (L1 := [some (zR br), some (zR y), some (zI (bs : Int)), some (zI (q : Int)), some (zI (z : Int))]) rfl ?_
  refine zx_aload_n (i := 0) dX0_isGround_23 rfl rfl ?_
  refine zx_iload (i := 4) dX0_isGround_24 rfl ?_
  refine zx_iv (b := br) (As := [zI (z : Int)]) (st := []) (v := (some (zI (-1)))) (w1 := w) dX0_isGround_26 zc_X0_254 hbr rfl rfl rfl (Nat.le_of_ble_eq_true rfl) rfl (by have q := c_mark (G := G) (d := d + 2) hB hM hzN (by omega) hmz; rw [hmv] at q; exact q) ?_
  refine zx_st (st1 := [zI (-1)]) rfl ?_
  refine zx_iconst (v := -1) dX0_isGround_29 rfl (z32_lit (by decide) (by decide)) ?_
  refine zx_icmp_ne (tgt := 40) dX0_isGround_30 (by decide) (fun h30 => absurd h30 (by decide)) (fun h30 => ?_)
  refine zx_aload_n (i := 0) dX0_isGround_33 rfl rfl ?_
  refine zx_iload (i := 4) dX0_isGround_34 rfl ?_
  have hFp2 : zFr TB w w := zFr_re
  have hBp2 : bbW w b1 b2 ((br, pg, t), (nd, va, ce, li), (ro, bi, le, wk)) (((cN, NN), (cV, VV), (cC, CC), (cL, LL)), ((cR, RR), (cB, BB), (cE, EE), (cW, WW)), ((g : Int), fr, tk, rs, (rd : Int))) := ⟨hbr, ⟨⟨hnd, okN⟩, ⟨hva, okV⟩, ⟨hce, okC⟩, ⟨hli, okL⟩⟩, ⟨⟨hro, okR⟩, ⟨hbi, okB⟩, ⟨hle, okE⟩, ⟨hwk, okW⟩⟩, ⟨⟨by omega, by omega, by omega, by omega⟩, ⟨by omega, by omega, by omega, by omega⟩⟩, ⟨⟨by omega, by omega, by omega, by omega⟩, ⟨by omega, by omega, by omega, by omega⟩⟩, by omega, by omega⟩
  refine zx_ivV (b := br) (As := [zI (z : Int)]) (st := []) dX0_isGround_36 zc_X0_257 hbr rfl rfl rfl (Nat.le_of_ble_eq_true rfl) rfl (c_scan_t hBp2 (tmW_TB hT hFp2) hM hk hgt hp hcc hN (by omega) hG1 hG2 hzN hz.2 hf hI) (fun v2 w2 hq => ?_)
  obtain ⟨ev2, ⟨cW2, NN2, WW2, mk2, hB2, hM2, hX2, hok2⟩, hF2⟩ := hq
  subst ev2
  obtain ⟨hbr2, ⟨⟨hnd2, okN2⟩, ⟨hva2, okV2⟩, ⟨hce2, okC2⟩, ⟨hli2, okL2⟩⟩, ⟨⟨hro2, okR2⟩, ⟨hbi2, okB2⟩, ⟨hle2, okE2⟩, ⟨hwk2, okW2⟩⟩, ⟨⟨c1N2, c1V2, c1C2, c1L2⟩, ⟨c1R2, c1B2, c1E2, c1W2⟩⟩, ⟨⟨c2N2, c2V2, c2C2, c2L2⟩, ⟨c2R2, c2B2, c2E2, c2W2⟩⟩, hrm12, hrm22⟩ := id hB2
  have hmz2 : -1 ≤ mk2 z ∧ mk2 z < 3 * (rd : Int) + 3 := by rcases hok2 with ⟨a, -⟩ | ⟨a, -⟩ <;> omega
  have hmv2 : mkV g rd mk2 z = 1 := by
    rcases hok2 with ⟨a, b⟩ | ⟨a, b⟩
    · unfold mkV; rw [if_neg hzg, a]; omega
    · exact (gnd_unk hgu b).elim
  refine zx_pop dX0_isGround_39 (fun a h => by cases h) ?_
  refine zx_aload_n (i := 0) dX0_isGround_40 rfl rfl ?_
  refine zx_iload (i := 4) dX0_isGround_41 rfl ?_
  refine zx_pc (pc1 := 43) rfl ?_
  refine zx_iv (b := br) (As := [zI (z : Int)]) (st := []) (v := (some (zI 1))) (w1 := w2) dX0_isGround_43 zc_X0_254 hbr2 rfl rfl rfl (Nat.le_of_ble_eq_true rfl) rfl (by have q := c_mark (G := G) (d := d + 2) hB2 hM2 hzN (by omega) hmz2; rw [hmv2] at q; exact q) ?_
  refine zx_st (st1 := [zI 1]) rfl ?_
  refine zx_iconst (v := 1) dX0_isGround_46 rfl (z32_lit (by decide) (by decide)) ?_
  refine zx_icmp_eq (tgt := 52) dX0_isGround_47 (by decide) (fun h47 => ?_) (fun h47 => absurd (by decide) h47)
  refine zx_iinc (i := 3) (v := ((q + 1 : Nat) : Int)) dX0_isGround_52 rfl (zw_eq (by omega) (by omega) (by omega)) (by decide) rfl ?_
  refine zx_L (L1 := [some (zR br), some (zR y), some (zI (bs : Int)), some (zI ((q + 1 : Nat) : Int)), some (zI (z : Int))]) rfl ?_
  refine zx_goto (tgt := 2) dX0_isGround_55 (by decide) ?_
  have hF9 : zFr TB w2 w2 := zFr_re
  have hB9 : bbW w2 b1 b2 ((br, pg, t), (nd, va, ce, li), (ro, bi, le, wk)) (((cN, NN2), (cV, VV), (cC, CC), (cL, LL)), ((cR, RR), (cB, BB), (cE, EE), (cW2, WW2)), ((g : Int), fr, tk, rs, (rd : Int))) := ⟨hbr2, ⟨⟨hnd2, okN2⟩, ⟨hva2, okV2⟩, ⟨hce2, okC2⟩, ⟨hli2, okL2⟩⟩, ⟨⟨hro2, okR2⟩, ⟨hbi2, okB2⟩, ⟨hle2, okE2⟩, ⟨hwk2, okW2⟩⟩, ⟨⟨by omega, by omega, by omega, by omega⟩, ⟨by omega, by omega, by omega, by omega⟩⟩, ⟨⟨by omega, by omega, by omega, by omega⟩, ⟨by omega, by omega, by omega, by omega⟩⟩, by omega, by omega⟩
  exact k _ _ _ _ _ _ hB9 hM2 hX2 (zFr_tr hFp2 (zFr_tr hF2 hF9))
theorem ig_su (hB : bbW w b1 b2 ((br, pg, t), (nd, va, ce, li), (ro, bi, le, wk)) (((cN, NN), (cV, VV), (cC, CC), (cL, LL)), ((cR, RR), (cB, BB), (cE, EE), (cW, WW)), ((g : Int), fr, tk, rs, (rd : Int)))) (hG1 : b1 + 1800000 ≤ 30 * G.2.2.2.2.1) (hG2 : b2 + 3700000 ≤ G.2.2.2.2.2) (hT : tmW w t tc tn th tz ty C3 TN TH TS) (hM : ndM NN N bd mk) (hk : bWk N g bd) (hgt : ∀ n, n < g → bhd N n ≠ none) (hp : ∀ n, bhd N n = some 1 → bfs N n < n) (hcc : ∀ n c, bhd N n = some c → c < 3) (hN : N.length ≤ 4000) (hrd : rd < 900000) (hy : w.1 y = some (3, 0, [zI k0, zI su, zI (cnt : Int), zR gv])) (hqc : q < cnt) (hc4 : cnt ≤ 3) (hno : zM G zm_X0_nodeOf (d + 3) [zR br, zR y, zI (bs : Int), zI (q : Int)] w (zRet (some (zI (x : Int))) w)) (hx : x < N.length) (hz : bRp bd x z) (hmz : -1 ≤ mk z ∧ mk z < 3 * (rd : Int) + 3) (hmv : mkV g rd mk z = -1) (hzg : ¬ z < g) (hf : bFin N bd z) (hI : ∀ m, m < N.length → -1 ≤ mk m ∧ (mk m < 3 * (rd : Int) ∨ okM N bd rd (mk m) m)) (hgu : unk N bd z) (k : ∀ (cW2 : Nat) (NN2 WW2 : List (List Int)) (mk2 : Nat → Int) (o4 : Option zV) (w' : zW), bbW w' b1 b2 ((br, pg, t), (nd, va, ce, li), (ro, bi, le, wk)) (((cN, NN2), (cV, VV), (cC, CC), (cL, LL)), ((cR, RR), (cB, BB), (cE, EE), (cW2, WW2)), ((g : Int), fr, tk, rs, (rd : Int))) → ndM NN2 N bd mk2 → mkX N bd rd mk mk2 → zFr TB w w' → PQ (zI 0) w') : zX G zm_X0_isGround (d + 4) [zR br, zR y, zI (bs : Int)] w0 (zVal PQ) 2 [some (zR br), some (zR y), some (zI (bs : Int)), some (zI (q : Int)), o4] [] w := by
  have hzN := bRp_lt hk hx hz
  obtain ⟨hbr, ⟨⟨hnd, okN⟩, ⟨hva, okV⟩, ⟨hce, okC⟩, ⟨hli, okL⟩⟩, ⟨⟨hro, okR⟩, ⟨hbi, okB⟩, ⟨hle, okE⟩, ⟨hwk, okW⟩⟩, ⟨⟨c1N, c1V, c1C, c1L⟩, ⟨c1R, c1B, c1E, c1W⟩⟩, ⟨⟨c2N, c2V, c2C, c2L⟩, ⟨c2R, c2B, c2E, c2W⟩⟩, hrm1, hrm2⟩ := id hB
  refine zx_iload_n (i := 3) dX0_isGround_2 rfl rfl ?_
  refine zx_aload_n (i := 1) dX0_isGround_3 rfl rfl ?_
  refine zx_getfield dX0_isGround_4 zf_X0_184 hy rfl ?_
  refine zx_icmp_ge (tgt := 58) dX0_isGround_7 (by decide) (fun h7 => absurd h7 (by omega)) (fun h7 => ?_)
  refine zx_aload_n (i := 0) dX0_isGround_10 rfl rfl ?_
  refine zx_aload_n (i := 0) dX0_isGround_11 rfl rfl ?_
  refine zx_aload_n (i := 1) dX0_isGround_12 rfl rfl ?_
  refine zx_iload_n (i := 2) dX0_isGround_13 rfl rfl ?_
  refine zx_iload_n (i := 3) dX0_isGround_14 rfl rfl ?_
  refine zx_iv (b := br) (As := [zR y, zI (bs : Int), zI (q : Int)]) (st := [zR br]) (v := (some (zI (x : Int)))) (w1 := w) dX0_isGround_15 zc_X0_186 hbr rfl rfl rfl (Nat.le_of_ble_eq_true rfl) rfl hno ?_
  refine zx_st (st1 := [zI (x : Int), zR br]) rfl ?_
  refine zx_iv (b := br) (As := [zI (x : Int)]) (st := []) (v := (some (zI (z : Int)))) (w1 := w) dX0_isGround_18 zc_X0_237 hbr rfl rfl rfl (Nat.le_of_ble_eq_true rfl) rfl (c_find hB hM hk (by omega) hx hz) ?_
  refine zx_st (st1 := [zI (z : Int)]) rfl ?_
  refine zx_pc (pc1 := 21) rfl ?_
  refine zx_istore (i := 4) dX0_isGround_21 (by decide) rfl ?_
  refine zx_L (L1 := [some (zR br), some (zR y), some (zI (bs : Int)), some (zI (q : Int)), some (zI (z : Int))]) rfl ?_
  refine zx_aload_n (i := 0) dX0_isGround_23 rfl rfl ?_
  refine zx_iload (i := 4) dX0_isGround_24 rfl ?_
  refine zx_iv (b := br) (As := [zI (z : Int)]) (st := []) (v := (some (zI (-1)))) (w1 := w) dX0_isGround_26 zc_X0_254 hbr rfl rfl rfl (Nat.le_of_ble_eq_true rfl) rfl (by have q := c_mark (G := G) (d := d + 2) hB hM hzN (by omega) hmz; rw [hmv] at q; exact q) ?_
  refine zx_st (st1 := [zI (-1)]) rfl ?_
  refine zx_iconst (v := -1) dX0_isGround_29 rfl (z32_lit (by decide) (by decide)) ?_
  refine zx_icmp_ne (tgt := 40) dX0_isGround_30 (by decide) (fun h30 => absurd h30 (by decide)) (fun h30 => ?_)
  refine zx_aload_n (i := 0) dX0_isGround_33 rfl rfl ?_
  refine zx_iload (i := 4) dX0_isGround_34 rfl ?_
  have hFp2 : zFr TB w w := zFr_re
  have hBp2 : bbW w b1 b2 ((br, pg, t), (nd, va, ce, li), (ro, bi, le, wk)) (((cN, NN), (cV, VV), (cC, CC), (cL, LL)), ((cR, RR), (cB, BB), (cE, EE), (cW, WW)), ((g : Int), fr, tk, rs, (rd : Int))) := ⟨hbr, ⟨⟨hnd, okN⟩, ⟨hva, okV⟩, ⟨hce, okC⟩, ⟨hli, okL⟩⟩, ⟨⟨hro, okR⟩, ⟨hbi, okB⟩, ⟨hle, okE⟩, ⟨hwk, okW⟩⟩, ⟨⟨by omega, by omega, by omega, by omega⟩, ⟨by omega, by omega, by omega, by omega⟩⟩, ⟨⟨by omega, by omega, by omega, by omega⟩, ⟨by omega, by omega, by omega, by omega⟩⟩, by omega, by omega⟩
  refine zx_ivV (b := br) (As := [zI (z : Int)]) (st := []) dX0_isGround_36 zc_X0_257 hbr rfl rfl rfl (Nat.le_of_ble_eq_true rfl) rfl (c_scan_t hBp2 (tmW_TB hT hFp2) hM hk hgt hp hcc hN (by omega) hG1 hG2 hzN hz.2 hf hI) (fun v2 w2 hq => ?_)
  obtain ⟨ev2, ⟨cW2, NN2, WW2, mk2, hB2, hM2, hX2, hok2⟩, hF2⟩ := hq
  subst ev2
  obtain ⟨hbr2, ⟨⟨hnd2, okN2⟩, ⟨hva2, okV2⟩, ⟨hce2, okC2⟩, ⟨hli2, okL2⟩⟩, ⟨⟨hro2, okR2⟩, ⟨hbi2, okB2⟩, ⟨hle2, okE2⟩, ⟨hwk2, okW2⟩⟩, ⟨⟨c1N2, c1V2, c1C2, c1L2⟩, ⟨c1R2, c1B2, c1E2, c1W2⟩⟩, ⟨⟨c2N2, c2V2, c2C2, c2L2⟩, ⟨c2R2, c2B2, c2E2, c2W2⟩⟩, hrm12, hrm22⟩ := id hB2
  have hmz2 : -1 ≤ mk2 z ∧ mk2 z < 3 * (rd : Int) + 3 := by rcases hok2 with ⟨a, -⟩ | ⟨a, -⟩ <;> omega
  have hmv2 : mkV g rd mk2 z = 2 := by
    rcases hok2 with ⟨a, b⟩ | ⟨a, b⟩
    · unfold mkV; rw [if_neg hzg, a]; exact (gnd_unk b hgu).elim
    · unfold mkV; rw [if_neg hzg, a]; omega
  refine zx_pop dX0_isGround_39 (fun a h => by cases h) ?_
  refine zx_aload_n (i := 0) dX0_isGround_40 rfl rfl ?_
  refine zx_iload (i := 4) dX0_isGround_41 rfl ?_
  refine zx_pc (pc1 := 43) rfl ?_
  refine zx_iv (b := br) (As := [zI (z : Int)]) (st := []) (v := (some (zI 2))) (w1 := w2) dX0_isGround_43 zc_X0_254 hbr2 rfl rfl rfl (Nat.le_of_ble_eq_true rfl) rfl (by have q := c_mark (G := G) (d := d + 2) hB2 hM2 hzN (by omega) hmz2; rw [hmv2] at q; exact q) ?_
  refine zx_st (st1 := [zI 2]) rfl ?_
  refine zx_iconst (v := 1) dX0_isGround_46 rfl (z32_lit (by decide) (by decide)) ?_
  refine zx_icmp_eq (tgt := 52) dX0_isGround_47 (by decide) (fun h47 => absurd h47 (by decide)) (fun h47 => ?_)
  refine zx_iconst (v := 0) dX0_isGround_50 rfl (z32_lit (by decide) (by decide)) ?_
  refine zx_zret dX0_isGround_51 rfl (by first | exact Or.inl rfl | exact Or.inr rfl | exact zB_or | assumption) ?_
  have hF9 : zFr TB w2 w2 := zFr_re
  have hB9 : bbW w2 b1 b2 ((br, pg, t), (nd, va, ce, li), (ro, bi, le, wk)) (((cN, NN2), (cV, VV), (cC, CC), (cL, LL)), ((cR, RR), (cB, BB), (cE, EE), (cW2, WW2)), ((g : Int), fr, tk, rs, (rd : Int))) := ⟨hbr2, ⟨⟨hnd2, okN2⟩, ⟨hva2, okV2⟩, ⟨hce2, okC2⟩, ⟨hli2, okL2⟩⟩, ⟨⟨hro2, okR2⟩, ⟨hbi2, okB2⟩, ⟨hle2, okE2⟩, ⟨hwk2, okW2⟩⟩, ⟨⟨by omega, by omega, by omega, by omega⟩, ⟨by omega, by omega, by omega, by omega⟩⟩, ⟨⟨by omega, by omega, by omega, by omega⟩, ⟨by omega, by omega, by omega, by omega⟩⟩, by omega, by omega⟩
  exact ⟨_, rfl, k _ _ _ _ none _ hB9 hM2 hX2 (zFr_tr hFp2 (zFr_tr hF2 hF9))⟩
theorem ig_end (hy : w.1 y = some (3, 0, [zI k0, zI su, zI (cnt : Int), zR gv])) (k : PQ (zI 1) w) : zX G zm_X0_isGround (d + 4) [zR br, zR y, zI (bs : Int)] w0 (zVal PQ) 2 [some (zR br), some (zR y), some (zI (bs : Int)), some (zI (cnt : Int)), o4] [] w := by
  refine zx_iload_n (i := 3) dX0_isGround_2 rfl rfl ?_
  refine zx_aload_n (i := 1) dX0_isGround_3 rfl rfl ?_
  refine zx_getfield dX0_isGround_4 zf_X0_184 hy rfl ?_
  refine zx_icmp_ge (tgt := 58) dX0_isGround_7 (by decide) (fun h7 => ?_) (fun h7 => absurd (by omega) h7)
  refine zx_iconst (v := 1) dX0_isGround_58 rfl (z32_lit (by decide) (by decide)) ?_
  refine zx_zret dX0_isGround_59 rfl (by first | exact Or.inl rfl | exact Or.inr rfl | exact zB_or | assumption) ?_
  exact ⟨_, rfl, k⟩
theorem ig_start (k : zX G zm_X0_isGround (d + 4) [zR br, zR y, zI (bs : Int)] w (zVal PQ) 2 [some (zR br), some (zR y), some (zI (bs : Int)), some (zI 0), none] [] w) : zM G zm_X0_isGround (d + 4) [zR br, zR y, zI (bs : Int)] w (zVal PQ) := by
  refine zx_ent (by decide +kernel) rfl (Nat.le_of_ble_eq_true rfl) ?_
  refine zx_L (L1 := [some (zR br), some (zR y), some (zI (bs : Int)), none, none]) rfl ?_
  refine zx_iconst (v := 0) dX0_isGround_0 rfl (z32_lit (by decide) (by decide)) ?_
  refine zx_istore_n (i := 3) dX0_isGround_1 rfl (by decide) rfl ?_
  refine zx_L (L1 := [some (zR br), some (zR y), some (zI (bs : Int)), some (zI 0), none]) rfl ?_
  exact k
end BIG
