/-! Own rows: breadth binds what is bound in a list. Walked by program (wip/p37/m_bbind.py). -/
def bndN (BB : List (List Int)) (on : Bool) : Nat → Nat → List (List Int) → List (List Int)
  | 0, _, NN => NN
  | k + 1, i, NN => bndN BB on k (i + 1) (ts NN (tg BB (i : Int) 0) 3 (if on = true then tg BB (i : Int) 1 else -1))
def bpN (LL BB : List (List Int)) (on : Bool) : Nat → Int → List (List Int) → List (List Int)
  | 0, _, NN => NN
  | k + 1, a, NN => if a = -1 then NN else bpN LL BB on k (tg LL a 0) (bndN BB on (tg LL a 2 - tg LL a 1).toNat (tg LL a 1).toNat NN)
def bpT (LL : List (List Int)) : Nat → Int → Prop
  | 0, _ => True
  | k + 1, a => a ≠ -1 → (0 ≤ tg LL a 1 ∧ tg LL a 1 ≤ tg LL a 2 ∧ tg LL a 2 < 1000000) ∧ bpT LL k (tg LL a 0)
theorem bpN_e {LL BB : List (List Int)} {on : Bool} {NN : List (List Int)} : ∀ (k : Nat), bpN LL BB on k (-1) NN = NN
  | 0 => rfl
  | _ + 1 => if_pos rfl
theorem bpN_s {LL BB : List (List Int)} {on : Bool} {NN : List (List Int)} {k : Nat} {a : Int} (h : a ≠ -1) : bpN LL BB on (k + 1) a NN = bpN LL BB on k (tg LL a 0) (bndN BB on (tg LL a 2 - tg LL a 1).toNat (tg LL a 1).toNat NN) := if_neg h
section BBIND
variable {G : zG} {d : Nat} {w : zW} {b1 b2 : Nat} {br pg t nd va ce li ro bi le wk : Nat} {cN cV cC cL cR cB cE cW : Nat} {NN VV CC LL RR BB EE WW : List (List Int)} {gc fr tk rs rd : Int}
theorem c_X0_bind_true (hB : bbW w b1 b2 ((br, pg, t), (nd, va, ce, li), (ro, bi, le, wk)) (((cN, NN), (cV, VV), (cC, CC), (cL, LL)), ((cR, RR), (cB, BB), (cE, EE), (cW, WW)), (gc, fr, tk, rs, rd))) {i0 k n : Nat} (hn : i0 + k = n) (hn2 : n < 1000000) : zM G zm_X0_bind (d + 1) [zR br, zI (i0 : Int), zI (n : Int), zI 1] w (zVoid fun w' => bbW w' b1 b2 ((br, pg, t), (nd, va, ce, li), (ro, bi, le, wk)) (((cN, bndN BB true k i0 NN), (cV, VV), (cC, CC), (cL, LL)), ((cR, RR), (cB, BB), (cE, EE), (cW, WW)), (gc, fr, tk, rs, rd)) ∧ zFr TB w w') := by
  refine zx_ent (by decide +kernel) rfl (Nat.le_of_ble_eq_true rfl) ?_
  have loop : ∀ (k i : Nat) (NN1 : List (List Int)) (w1 : zW), i + k = n → bbW w1 b1 b2 ((br, pg, t), (nd, va, ce, li), (ro, bi, le, wk)) (((cN, NN1), (cV, VV), (cC, CC), (cL, LL)), ((cR, RR), (cB, BB), (cE, EE), (cW, WW)), (gc, fr, tk, rs, rd)) → zFr TB w w1 → zX G zm_X0_bind (d + 1) [zR br, zI (i0 : Int), zI (n : Int), zI 1] w (zVoid fun w' => bbW w' b1 b2 ((br, pg, t), (nd, va, ce, li), (ro, bi, le, wk)) (((cN, bndN BB true k i NN1), (cV, VV), (cC, CC), (cL, LL)), ((cR, RR), (cB, BB), (cE, EE), (cW, WW)), (gc, fr, tk, rs, rd)) ∧ zFr TB w w') 3 [some (zR br), some (zI (i0 : Int)), some (zI (n : Int)), some (zI 1), some (zI (i : Int))] [] w1 := by
    intro k
    induction k with
    | zero =>
      intro i NN1 w1 hi hB1 hF1
      obtain ⟨hbr1, ⟨⟨hnd1, okN1⟩, ⟨hva1, okV1⟩, ⟨hce1, okC1⟩, ⟨hli1, okL1⟩⟩, ⟨⟨hro1, okR1⟩, ⟨hbi1, okB1⟩, ⟨hle1, okE1⟩, ⟨hwk1, okW1⟩⟩, ⟨⟨c1N1, c1V1, c1C1, c1L1⟩, ⟨c1R1, c1B1, c1E1, c1W1⟩⟩, ⟨⟨c2N1, c2V1, c2C1, c2L1⟩, ⟨c2R1, c2B1, c2E1, c2W1⟩⟩, hrm11, hrm21⟩ := id hB1
      refine zx_iload (i := 4) dX0_bind_3 rfl ?_
      refine zx_iload_n (i := 2) dX0_bind_5 rfl rfl ?_
      refine zx_icmp_ge (tgt := 51) dX0_bind_6 (by decide) (fun h6 => ?_) (fun h6 => absurd (by omega) h6)
      refine zx_return dX0_bind_51 rfl ?_
      exact ⟨rfl, hB1, hF1⟩
    | succ k ih =>
      intro i NN1 w1 hi hB1 hF1
      obtain ⟨hbr1, ⟨⟨hnd1, okN1⟩, ⟨hva1, okV1⟩, ⟨hce1, okC1⟩, ⟨hli1, okL1⟩⟩, ⟨⟨hro1, okR1⟩, ⟨hbi1, okB1⟩, ⟨hle1, okE1⟩, ⟨hwk1, okW1⟩⟩, ⟨⟨c1N1, c1V1, c1C1, c1L1⟩, ⟨c1R1, c1B1, c1E1, c1W1⟩⟩, ⟨⟨c2N1, c2V1, c2C1, c2L1⟩, ⟨c2R1, c2B1, c2E1, c2W1⟩⟩, hrm11, hrm21⟩ := id hB1
      refine zx_iload (i := 4) dX0_bind_3 rfl ?_
      refine zx_iload_n (i := 2) dX0_bind_5 rfl rfl ?_
      refine zx_icmp_ge (tgt := 51) dX0_bind_6 (by decide) (fun h6 => absurd h6 (by omega)) (fun h6 => ?_)
      refine zx_aload_n (i := 0) dX0_bind_9 rfl rfl ?_
      refine zx_getfield dX0_bind_10 zf_X0_24 hbr1 rfl ?_
      refine zx_aload_n (i := 0) dX0_bind_13 rfl rfl ?_
      refine zx_getfield dX0_bind_14 zf_X0_40 hbr1 rfl ?_
      refine zx_iload (i := 4) dX0_bind_17 rfl ?_
      refine zx_iconst (v := 0) dX0_bind_19 rfl (z32_lit (by decide) (by decide)) ?_
      refine zx_iv (b := bi) (As := [zI (i : Int), zI 0]) (st := [zR nd]) (v := (some (zI (tg BB (i : Int) 0)))) (w1 := w1) dX0_bind_20 zc_X0_84 hbi1 (z_cls9 (by decide)) rfl rfl (Nat.le_of_ble_eq_true rfl) rfl (c_X9_get hbi1 (by decide) okB1 (i : Int) 0) ?_
      refine zx_st (st1 := [zI (tg BB (i : Int) 0), zR nd]) rfl ?_
      refine zx_iconst (v := 3) dX0_bind_23 rfl (z32_lit (by decide) (by decide)) ?_
      refine zx_pc (pc1 := 24) rfl ?_
      refine zx_iload_n (i := 3) dX0_bind_24 rfl rfl ?_
      refine zx_if_eq (tgt := 41) dX0_bind_25 (by decide) (fun h25 => absurd h25 (by decide)) (fun h25 => ?_)
      refine zx_aload_n (i := 0) dX0_bind_28 rfl rfl ?_
      refine zx_getfield dX0_bind_29 zf_X0_40 hbr1 rfl ?_
      refine zx_iload (i := 4) dX0_bind_32 rfl ?_
      refine zx_iconst (v := 1) dX0_bind_34 rfl (z32_lit (by decide) (by decide)) ?_
      refine zx_iv (b := bi) (As := [zI (i : Int), zI 1]) (st := [zI 3, zI (tg BB (i : Int) 0), zR nd]) (v := (some (zI (tg BB (i : Int) 1)))) (w1 := w1) dX0_bind_35 zc_X0_84 hbi1 (z_cls9 (by decide)) rfl rfl (Nat.le_of_ble_eq_true rfl) rfl (c_X9_get hbi1 (by decide) okB1 (i : Int) 1) ?_
      refine zx_st (st1 := [zI (tg BB (i : Int) 1), zI 3, zI (tg BB (i : Int) 0), zR nd]) rfl ?_
      refine zx_goto (tgt := 42) dX0_bind_38 (by decide) ?_
      obtain ⟨w_1, hw_2⟩ : ∃ ww, ww = zput w1 nd (140, br, tTb 5 cN (ts NN1 (tg BB (i : Int) 0) 3 (tg BB (i : Int) 1))) := ⟨_, rfl⟩
      have q_3 : w_1.2.1 = w1.2.1 ∧ w_1.2.2 = w1.2.2 := by rw [hw_2]; exact ⟨rfl, rfl⟩
      have h_4 : w_1.1 nd = some (140, br, tTb 5 cN (ts NN1 (tg BB (i : Int) 0) 3 (tg BB (i : Int) 1))) := by rw [hw_2]; exact zput_at
      refine zx_iv (b := nd) (As := [zI (tg BB (i : Int) 0), zI 3, zI (tg BB (i : Int) 1)]) (st := []) (v := none) (w1 := w_1) dX0_bind_42 zc_X0_142 hnd1 (z_cls9 (by decide)) rfl rfl (Nat.le_of_ble_eq_true rfl) rfl (by rw [hw_2]; exact (c_X9_set hnd1 (by decide) okN1 (tg BB (i : Int) 0) 3 (tg BB (i : Int) 1))) ?_
      refine zx_st (st1 := []) rfl ?_
      refine zx_iinc (i := 4) (v := ((i + 1 : Nat) : Int)) dX0_bind_45 rfl (zw_eq (by omega) (by omega) (by omega)) (by decide) rfl ?_
      refine zx_L (L1 := [some (zR br), some (zI (i0 : Int)), some (zI (n : Int)), some (zI 1), some (zI ((i + 1 : Nat) : Int))]) rfl ?_
      refine zx_goto (tgt := 3) dX0_bind_48 (by decide) ?_
      have hfaL9 : zFa [nd] w1 w_1 := (zFa_put zFa_re (by simp) hw_2)
      have hF9 : zFr TB w1 w_1 := zFr_fa hfaL9 (zLc hnd1 (by simp) zLn)
      have h_5 : w_1.1 va = some (141, br, tTb 1 cV VV) := by
        rw [hw_2]; exact zput_tg hnd1 hva1 (by simp)
      have h_6 : w_1.1 ce = some (142, br, tTb 3 cC CC) := by
        rw [hw_2]; exact zput_tg hnd1 hce1 (by simp)
      have h_7 : w_1.1 li = some (143, br, tTb 4 cL LL) := by
        rw [hw_2]; exact zput_tg hnd1 hli1 (by simp)
      have h_8 : w_1.1 ro = some (144, br, tTb 6 cR RR) := by
        rw [hw_2]; exact zput_tg hnd1 hro1 (by simp)
      have h_9 : w_1.1 bi = some (145, br, tTb 2 cB BB) := by
        rw [hw_2]; exact zput_tg hnd1 hbi1 (by simp)
      have h_10 : w_1.1 le = some (146, br, tTb 4 cE EE) := by
        rw [hw_2]; exact zput_tg hnd1 hle1 (by simp)
      have h_11 : w_1.1 wk = some (147, br, tTb 3 cW WW) := by
        rw [hw_2]; exact zput_tg hnd1 hwk1 (by simp)
      have h_12 : w_1.1 br = some (0, 0, [zR pg, zR t, zR nd, zI gc, zR va, zR ce, zR li, zR ro, zI fr, zR bi, zR le, zR wk, zI tk, zI rs, zI rd]) := by
        rw [hw_2]; exact zput_tg hnd1 hbr1 (by simp)
      have hB9 : bbW w_1 b1 b2 ((br, pg, t), (nd, va, ce, li), (ro, bi, le, wk)) (((cN, (ts NN1 (tg BB (i : Int) 0) 3 (tg BB (i : Int) 1))), (cV, VV), (cC, CC), (cL, LL)), ((cR, RR), (cB, BB), (cE, EE), (cW, WW)), (gc, fr, tk, rs, rd)) := ⟨h_12, ⟨⟨h_4, (tOk_ts okN1)⟩, ⟨h_5, okV1⟩, ⟨h_6, okC1⟩, ⟨h_7, okL1⟩⟩, ⟨⟨h_8, okR1⟩, ⟨h_9, okB1⟩, ⟨h_10, okE1⟩, ⟨h_11, okW1⟩⟩, ⟨⟨by omega, by omega, by omega, by omega⟩, ⟨by omega, by omega, by omega, by omega⟩⟩, ⟨⟨by omega, by omega, by omega, by omega⟩, ⟨by omega, by omega, by omega, by omega⟩⟩, by omega, by omega⟩
      exact ih (i + 1) _ _ (by omega) hB9 (zFr_tr hF1 hF9)
  refine zx_L (L1 := [some (zR br), some (zI (i0 : Int)), some (zI (n : Int)), some (zI 1), none]) rfl ?_
  obtain ⟨hbr, ⟨⟨hnd, okN⟩, ⟨hva, okV⟩, ⟨hce, okC⟩, ⟨hli, okL⟩⟩, ⟨⟨hro, okR⟩, ⟨hbi, okB⟩, ⟨hle, okE⟩, ⟨hwk, okW⟩⟩, ⟨⟨c1N, c1V, c1C, c1L⟩, ⟨c1R, c1B, c1E, c1W⟩⟩, ⟨⟨c2N, c2V, c2C, c2L⟩, ⟨c2R, c2B, c2E, c2W⟩⟩, hrm1, hrm2⟩ := id hB
  refine zx_iload_n (i := 1) dX0_bind_0 rfl rfl ?_
  refine zx_istore (i := 4) dX0_bind_1 (by decide) rfl ?_
  refine zx_L (L1 := [some (zR br), some (zI (i0 : Int)), some (zI (n : Int)), some (zI 1), some (zI (i0 : Int))]) rfl ?_
  exact loop k i0 NN w hn hB zFr_re
theorem c_X0_bind_false (hB : bbW w b1 b2 ((br, pg, t), (nd, va, ce, li), (ro, bi, le, wk)) (((cN, NN), (cV, VV), (cC, CC), (cL, LL)), ((cR, RR), (cB, BB), (cE, EE), (cW, WW)), (gc, fr, tk, rs, rd))) {i0 k n : Nat} (hn : i0 + k = n) (hn2 : n < 1000000) : zM G zm_X0_bind (d + 1) [zR br, zI (i0 : Int), zI (n : Int), zI 0] w (zVoid fun w' => bbW w' b1 b2 ((br, pg, t), (nd, va, ce, li), (ro, bi, le, wk)) (((cN, bndN BB false k i0 NN), (cV, VV), (cC, CC), (cL, LL)), ((cR, RR), (cB, BB), (cE, EE), (cW, WW)), (gc, fr, tk, rs, rd)) ∧ zFr TB w w') := by
  refine zx_ent (by decide +kernel) rfl (Nat.le_of_ble_eq_true rfl) ?_
  have loop : ∀ (k i : Nat) (NN1 : List (List Int)) (w1 : zW), i + k = n → bbW w1 b1 b2 ((br, pg, t), (nd, va, ce, li), (ro, bi, le, wk)) (((cN, NN1), (cV, VV), (cC, CC), (cL, LL)), ((cR, RR), (cB, BB), (cE, EE), (cW, WW)), (gc, fr, tk, rs, rd)) → zFr TB w w1 → zX G zm_X0_bind (d + 1) [zR br, zI (i0 : Int), zI (n : Int), zI 0] w (zVoid fun w' => bbW w' b1 b2 ((br, pg, t), (nd, va, ce, li), (ro, bi, le, wk)) (((cN, bndN BB false k i NN1), (cV, VV), (cC, CC), (cL, LL)), ((cR, RR), (cB, BB), (cE, EE), (cW, WW)), (gc, fr, tk, rs, rd)) ∧ zFr TB w w') 3 [some (zR br), some (zI (i0 : Int)), some (zI (n : Int)), some (zI 0), some (zI (i : Int))] [] w1 := by
    intro k
    induction k with
    | zero =>
      intro i NN1 w1 hi hB1 hF1
      obtain ⟨hbr1, ⟨⟨hnd1, okN1⟩, ⟨hva1, okV1⟩, ⟨hce1, okC1⟩, ⟨hli1, okL1⟩⟩, ⟨⟨hro1, okR1⟩, ⟨hbi1, okB1⟩, ⟨hle1, okE1⟩, ⟨hwk1, okW1⟩⟩, ⟨⟨c1N1, c1V1, c1C1, c1L1⟩, ⟨c1R1, c1B1, c1E1, c1W1⟩⟩, ⟨⟨c2N1, c2V1, c2C1, c2L1⟩, ⟨c2R1, c2B1, c2E1, c2W1⟩⟩, hrm11, hrm21⟩ := id hB1
      refine zx_iload (i := 4) dX0_bind_3 rfl ?_
      refine zx_iload_n (i := 2) dX0_bind_5 rfl rfl ?_
      refine zx_icmp_ge (tgt := 51) dX0_bind_6 (by decide) (fun h6 => ?_) (fun h6 => absurd (by omega) h6)
      refine zx_return dX0_bind_51 rfl ?_
      exact ⟨rfl, hB1, hF1⟩
    | succ k ih =>
      intro i NN1 w1 hi hB1 hF1
      obtain ⟨hbr1, ⟨⟨hnd1, okN1⟩, ⟨hva1, okV1⟩, ⟨hce1, okC1⟩, ⟨hli1, okL1⟩⟩, ⟨⟨hro1, okR1⟩, ⟨hbi1, okB1⟩, ⟨hle1, okE1⟩, ⟨hwk1, okW1⟩⟩, ⟨⟨c1N1, c1V1, c1C1, c1L1⟩, ⟨c1R1, c1B1, c1E1, c1W1⟩⟩, ⟨⟨c2N1, c2V1, c2C1, c2L1⟩, ⟨c2R1, c2B1, c2E1, c2W1⟩⟩, hrm11, hrm21⟩ := id hB1
      refine zx_iload (i := 4) dX0_bind_3 rfl ?_
      refine zx_iload_n (i := 2) dX0_bind_5 rfl rfl ?_
      refine zx_icmp_ge (tgt := 51) dX0_bind_6 (by decide) (fun h6 => absurd h6 (by omega)) (fun h6 => ?_)
      refine zx_aload_n (i := 0) dX0_bind_9 rfl rfl ?_
      refine zx_getfield dX0_bind_10 zf_X0_24 hbr1 rfl ?_
      refine zx_aload_n (i := 0) dX0_bind_13 rfl rfl ?_
      refine zx_getfield dX0_bind_14 zf_X0_40 hbr1 rfl ?_
      refine zx_iload (i := 4) dX0_bind_17 rfl ?_
      refine zx_iconst (v := 0) dX0_bind_19 rfl (z32_lit (by decide) (by decide)) ?_
      refine zx_iv (b := bi) (As := [zI (i : Int), zI 0]) (st := [zR nd]) (v := (some (zI (tg BB (i : Int) 0)))) (w1 := w1) dX0_bind_20 zc_X0_84 hbi1 (z_cls9 (by decide)) rfl rfl (Nat.le_of_ble_eq_true rfl) rfl (c_X9_get hbi1 (by decide) okB1 (i : Int) 0) ?_
      refine zx_st (st1 := [zI (tg BB (i : Int) 0), zR nd]) rfl ?_
      refine zx_iconst (v := 3) dX0_bind_23 rfl (z32_lit (by decide) (by decide)) ?_
      refine zx_pc (pc1 := 24) rfl ?_
      refine zx_iload_n (i := 3) dX0_bind_24 rfl rfl ?_
      refine zx_if_eq (tgt := 41) dX0_bind_25 (by decide) (fun h25 => ?_) (fun h25 => absurd (by decide) h25)
      refine zx_iconst (v := -1) dX0_bind_41 rfl (z32_lit (by decide) (by decide)) ?_
      obtain ⟨w_1, hw_2⟩ : ∃ ww, ww = zput w1 nd (140, br, tTb 5 cN (ts NN1 (tg BB (i : Int) 0) 3 (-1))) := ⟨_, rfl⟩
      have q_3 : w_1.2.1 = w1.2.1 ∧ w_1.2.2 = w1.2.2 := by rw [hw_2]; exact ⟨rfl, rfl⟩
      have h_4 : w_1.1 nd = some (140, br, tTb 5 cN (ts NN1 (tg BB (i : Int) 0) 3 (-1))) := by rw [hw_2]; exact zput_at
      refine zx_iv (b := nd) (As := [zI (tg BB (i : Int) 0), zI 3, zI (-1)]) (st := []) (v := none) (w1 := w_1) dX0_bind_42 zc_X0_142 hnd1 (z_cls9 (by decide)) rfl rfl (Nat.le_of_ble_eq_true rfl) rfl (by rw [hw_2]; exact (c_X9_set hnd1 (by decide) okN1 (tg BB (i : Int) 0) 3 (-1))) ?_
      refine zx_st (st1 := []) rfl ?_
      refine zx_iinc (i := 4) (v := ((i + 1 : Nat) : Int)) dX0_bind_45 rfl (zw_eq (by omega) (by omega) (by omega)) (by decide) rfl ?_
      refine zx_L (L1 := [some (zR br), some (zI (i0 : Int)), some (zI (n : Int)), some (zI 0), some (zI ((i + 1 : Nat) : Int))]) rfl ?_
      refine zx_goto (tgt := 3) dX0_bind_48 (by decide) ?_
      have hfaL9 : zFa [nd] w1 w_1 := (zFa_put zFa_re (by simp) hw_2)
      have hF9 : zFr TB w1 w_1 := zFr_fa hfaL9 (zLc hnd1 (by simp) zLn)
      have h_5 : w_1.1 va = some (141, br, tTb 1 cV VV) := by
        rw [hw_2]; exact zput_tg hnd1 hva1 (by simp)
      have h_6 : w_1.1 ce = some (142, br, tTb 3 cC CC) := by
        rw [hw_2]; exact zput_tg hnd1 hce1 (by simp)
      have h_7 : w_1.1 li = some (143, br, tTb 4 cL LL) := by
        rw [hw_2]; exact zput_tg hnd1 hli1 (by simp)
      have h_8 : w_1.1 ro = some (144, br, tTb 6 cR RR) := by
        rw [hw_2]; exact zput_tg hnd1 hro1 (by simp)
      have h_9 : w_1.1 bi = some (145, br, tTb 2 cB BB) := by
        rw [hw_2]; exact zput_tg hnd1 hbi1 (by simp)
      have h_10 : w_1.1 le = some (146, br, tTb 4 cE EE) := by
        rw [hw_2]; exact zput_tg hnd1 hle1 (by simp)
      have h_11 : w_1.1 wk = some (147, br, tTb 3 cW WW) := by
        rw [hw_2]; exact zput_tg hnd1 hwk1 (by simp)
      have h_12 : w_1.1 br = some (0, 0, [zR pg, zR t, zR nd, zI gc, zR va, zR ce, zR li, zR ro, zI fr, zR bi, zR le, zR wk, zI tk, zI rs, zI rd]) := by
        rw [hw_2]; exact zput_tg hnd1 hbr1 (by simp)
      have hB9 : bbW w_1 b1 b2 ((br, pg, t), (nd, va, ce, li), (ro, bi, le, wk)) (((cN, (ts NN1 (tg BB (i : Int) 0) 3 (-1))), (cV, VV), (cC, CC), (cL, LL)), ((cR, RR), (cB, BB), (cE, EE), (cW, WW)), (gc, fr, tk, rs, rd)) := ⟨h_12, ⟨⟨h_4, (tOk_ts okN1)⟩, ⟨h_5, okV1⟩, ⟨h_6, okC1⟩, ⟨h_7, okL1⟩⟩, ⟨⟨h_8, okR1⟩, ⟨h_9, okB1⟩, ⟨h_10, okE1⟩, ⟨h_11, okW1⟩⟩, ⟨⟨by omega, by omega, by omega, by omega⟩, ⟨by omega, by omega, by omega, by omega⟩⟩, ⟨⟨by omega, by omega, by omega, by omega⟩, ⟨by omega, by omega, by omega, by omega⟩⟩, by omega, by omega⟩
      exact ih (i + 1) _ _ (by omega) hB9 (zFr_tr hF1 hF9)
  refine zx_L (L1 := [some (zR br), some (zI (i0 : Int)), some (zI (n : Int)), some (zI 0), none]) rfl ?_
  obtain ⟨hbr, ⟨⟨hnd, okN⟩, ⟨hva, okV⟩, ⟨hce, okC⟩, ⟨hli, okL⟩⟩, ⟨⟨hro, okR⟩, ⟨hbi, okB⟩, ⟨hle, okE⟩, ⟨hwk, okW⟩⟩, ⟨⟨c1N, c1V, c1C, c1L⟩, ⟨c1R, c1B, c1E, c1W⟩⟩, ⟨⟨c2N, c2V, c2C, c2L⟩, ⟨c2R, c2B, c2E, c2W⟩⟩, hrm1, hrm2⟩ := id hB
  refine zx_iload_n (i := 1) dX0_bind_0 rfl rfl ?_
  refine zx_istore (i := 4) dX0_bind_1 (by decide) rfl ?_
  refine zx_L (L1 := [some (zR br), some (zI (i0 : Int)), some (zI (n : Int)), some (zI 0), some (zI (i0 : Int))]) rfl ?_
  exact loop k i0 NN w hn hB zFr_re
theorem c_X0_bindPath_true (hB : bbW w b1 b2 ((br, pg, t), (nd, va, ce, li), (ro, bi, le, wk)) (((cN, NN), (cV, VV), (cC, CC), (cL, LL)), ((cR, RR), (cB, BB), (cE, EE), (cW, WW)), (gc, fr, tk, rs, rd))) {a0 : Int} (hT : bpT LL 150 a0) : zM G zm_X0_bindPath (d + 2) [zR br, zI a0, zI 1] w (zVoid fun w' => bbW w' b1 b2 ((br, pg, t), (nd, va, ce, li), (ro, bi, le, wk)) (((cN, bpN LL BB true 150 a0 NN), (cV, VV), (cC, CC), (cL, LL)), ((cR, RR), (cB, BB), (cE, EE), (cW, WW)), (gc, fr, tk, rs, rd)) ∧ zFr TB w w') := by
  refine zx_ent (by decide +kernel) rfl (Nat.le_of_ble_eq_true rfl) ?_
  have loop : ∀ (k q : Nat) (a : Int) (NN1 : List (List Int)) (w1 : zW), q + k = 150 → bpT LL k a → bbW w1 b1 b2 ((br, pg, t), (nd, va, ce, li), (ro, bi, le, wk)) (((cN, NN1), (cV, VV), (cC, CC), (cL, LL)), ((cR, RR), (cB, BB), (cE, EE), (cW, WW)), (gc, fr, tk, rs, rd)) → zFr TB w w1 → zX G zm_X0_bindPath (d + 2) [zR br, zI a0, zI 1] w (zVoid fun w' => bbW w' b1 b2 ((br, pg, t), (nd, va, ce, li), (ro, bi, le, wk)) (((cN, bpN LL BB true k a NN1), (cV, VV), (cC, CC), (cL, LL)), ((cR, RR), (cB, BB), (cE, EE), (cW, WW)), (gc, fr, tk, rs, rd)) ∧ zFr TB w w') 5 [some (zR br), some (zI a0), some (zI 1), some (zI a), some (zI (q : Int))] [] w1 := by
    intro k
    induction k with
    | zero =>
      intro q a NN1 w1 hq hT hB1 hF1
      obtain ⟨hbr1, ⟨⟨hnd1, okN1⟩, ⟨hva1, okV1⟩, ⟨hce1, okC1⟩, ⟨hli1, okL1⟩⟩, ⟨⟨hro1, okR1⟩, ⟨hbi1, okB1⟩, ⟨hle1, okE1⟩, ⟨hwk1, okW1⟩⟩, ⟨⟨c1N1, c1V1, c1C1, c1L1⟩, ⟨c1R1, c1B1, c1E1, c1W1⟩⟩, ⟨⟨c2N1, c2V1, c2C1, c2L1⟩, ⟨c2R1, c2B1, c2E1, c2W1⟩⟩, hrm11, hrm21⟩ := id hB1
      refine zx_iload (i := 4) dX0_bindPath_5 rfl ?_
      refine zx_sipush (v := 150) dX0_bindPath_7 (by decide +kernel) (z32_lit (by decide) (by decide)) ?_
      refine zx_icmp_ge (tgt := 57) dX0_bindPath_10 (by decide) (fun h10 => ?_) (fun h10 => absurd (by omega) h10)
      refine zx_return dX0_bindPath_57 rfl ?_
      exact ⟨rfl, hB1, hF1⟩
    | succ k ih =>
      intro q a NN1 w1 hq hT hB1 hF1
      obtain ⟨hbr1, ⟨⟨hnd1, okN1⟩, ⟨hva1, okV1⟩, ⟨hce1, okC1⟩, ⟨hli1, okL1⟩⟩, ⟨⟨hro1, okR1⟩, ⟨hbi1, okB1⟩, ⟨hle1, okE1⟩, ⟨hwk1, okW1⟩⟩, ⟨⟨c1N1, c1V1, c1C1, c1L1⟩, ⟨c1R1, c1B1, c1E1, c1W1⟩⟩, ⟨⟨c2N1, c2V1, c2C1, c2L1⟩, ⟨c2R1, c2B1, c2E1, c2W1⟩⟩, hrm11, hrm21⟩ := id hB1
      by_cases h1 : a = -1
      · rw [h1, bpN_e]
        rw [h1] at hT
        refine zx_iload (i := 4) dX0_bindPath_5 rfl ?_
        refine zx_sipush (v := 150) dX0_bindPath_7 (by decide +kernel) (z32_lit (by decide) (by decide)) ?_
        refine zx_icmp_ge (tgt := 57) dX0_bindPath_10 (by decide) (fun h10 => absurd h10 (by omega)) (fun h10 => ?_)
        refine zx_iload_n (i := 3) dX0_bindPath_13 rfl rfl ?_
        refine zx_iconst (v := -1) dX0_bindPath_14 rfl (z32_lit (by decide) (by decide)) ?_
        refine zx_icmp_eq (tgt := 57) dX0_bindPath_15 (by decide) (fun h15 => ?_) (fun h15 => absurd (by decide) h15)
        refine zx_return dX0_bindPath_57 rfl ?_
        exact ⟨rfl, hB1, hF1⟩
      · obtain ⟨⟨h3, h4, h5⟩, h2⟩ := hT h1
        rw [bpN_s h1]
        refine zx_iload (i := 4) dX0_bindPath_5 rfl ?_
        refine zx_sipush (v := 150) dX0_bindPath_7 (by decide +kernel) (z32_lit (by decide) (by decide)) ?_
        refine zx_icmp_ge (tgt := 57) dX0_bindPath_10 (by decide) (fun h10 => absurd h10 (by omega)) (fun h10 => ?_)
        refine zx_iload_n (i := 3) dX0_bindPath_13 rfl rfl ?_
        refine zx_iconst (v := -1) dX0_bindPath_14 rfl (z32_lit (by decide) (by decide)) ?_
        refine zx_icmp_eq (tgt := 57) dX0_bindPath_15 (by decide) (fun h15 => absurd h15 (h1)) (fun h15 => ?_)
        refine zx_aload_n (i := 0) dX0_bindPath_18 rfl rfl ?_
        refine zx_aload_n (i := 0) dX0_bindPath_19 rfl rfl ?_
        refine zx_getfield dX0_bindPath_20 zf_X0_34 hbr1 rfl ?_
        refine zx_iload_n (i := 3) dX0_bindPath_23 rfl rfl ?_
        refine zx_iconst (v := 1) dX0_bindPath_24 rfl (z32_lit (by decide) (by decide)) ?_
        refine zx_pc (pc1 := 25) rfl ?_
        refine zx_iv (b := li) (As := [zI a, zI 1]) (st := [zR br]) (v := (some (zI (tg LL a 1)))) (w1 := w1) dX0_bindPath_25 zc_X0_84 hli1 (z_cls9 (by decide)) rfl rfl (Nat.le_of_ble_eq_true rfl) rfl (c_X9_get hli1 (by decide) okL1 a 1) ?_
        refine zx_st (st1 := [zI (tg LL a 1), zR br]) rfl ?_
        refine zx_aload_n (i := 0) dX0_bindPath_28 rfl rfl ?_
        refine zx_getfield dX0_bindPath_29 zf_X0_34 hbr1 rfl ?_
        refine zx_iload_n (i := 3) dX0_bindPath_32 rfl rfl ?_
        refine zx_iconst (v := 2) dX0_bindPath_33 rfl (z32_lit (by decide) (by decide)) ?_
        refine zx_iv (b := li) (As := [zI a, zI 2]) (st := [zI (tg LL a 1), zR br]) (v := (some (zI (tg LL a 2)))) (w1 := w1) dX0_bindPath_34 zc_X0_84 hli1 (z_cls9 (by decide)) rfl rfl (Nat.le_of_ble_eq_true rfl) rfl (c_X9_get hli1 (by decide) okL1 a 2) ?_
        refine zx_st (st1 := [zI (tg LL a 2), zI (tg LL a 1), zR br]) rfl ?_
        refine zx_iload_n (i := 2) dX0_bindPath_37 rfl rfl ?_
        have hFp2 : zFr TB w1 w1 := zFr_re
        have hBp2 : bbW w1 b1 b2 ((br, pg, t), (nd, va, ce, li), (ro, bi, le, wk)) (((cN, NN1), (cV, VV), (cC, CC), (cL, LL)), ((cR, RR), (cB, BB), (cE, EE), (cW, WW)), (gc, fr, tk, rs, rd)) := ⟨hbr1, ⟨⟨hnd1, okN1⟩, ⟨hva1, okV1⟩, ⟨hce1, okC1⟩, ⟨hli1, okL1⟩⟩, ⟨⟨hro1, okR1⟩, ⟨hbi1, okB1⟩, ⟨hle1, okE1⟩, ⟨hwk1, okW1⟩⟩, ⟨⟨by omega, by omega, by omega, by omega⟩, ⟨by omega, by omega, by omega, by omega⟩⟩, ⟨⟨by omega, by omega, by omega, by omega⟩, ⟨by omega, by omega, by omega, by omega⟩⟩, by omega, by omega⟩
        refine zx_ivN (b := br) (As := [zI (tg LL a 1), zI (tg LL a 2), zI 1]) (st := []) dX0_bindPath_38 zc_X0_225 hbr1 rfl rfl rfl (Nat.le_of_ble_eq_true rfl) rfl (by have q := c_X0_bind_true (G := G) (d := d) hBp2 (i0 := (tg LL a 1).toNat) (k := (tg LL a 2 - tg LL a 1).toNat) (n := (tg LL a 2).toNat) (by omega) (by omega); rw [Int.toNat_of_nonneg h3, Int.toNat_of_nonneg (show 0 ≤ tg LL a 2 by omega)] at q; exact q) (fun w2 hq => ?_)
        obtain ⟨hB2, hF2⟩ := hq
        obtain ⟨hbr2, ⟨⟨hnd2, okN2⟩, ⟨hva2, okV2⟩, ⟨hce2, okC2⟩, ⟨hli2, okL2⟩⟩, ⟨⟨hro2, okR2⟩, ⟨hbi2, okB2⟩, ⟨hle2, okE2⟩, ⟨hwk2, okW2⟩⟩, ⟨⟨c1N2, c1V2, c1C2, c1L2⟩, ⟨c1R2, c1B2, c1E2, c1W2⟩⟩, ⟨⟨c2N2, c2V2, c2C2, c2L2⟩, ⟨c2R2, c2B2, c2E2, c2W2⟩⟩, hrm12, hrm22⟩ := id hB2
        refine zx_aload_n (i := 0) dX0_bindPath_41 rfl rfl ?_
        refine zx_getfield dX0_bindPath_42 zf_X0_34 hbr2 rfl ?_
        refine zx_iload_n (i := 3) dX0_bindPath_45 rfl rfl ?_
        refine zx_iconst (v := 0) dX0_bindPath_46 rfl (z32_lit (by decide) (by decide)) ?_
        refine zx_pc (pc1 := 47) rfl ?_
        refine zx_iv (b := li) (As := [zI a, zI 0]) (st := []) (v := (some (zI (tg LL a 0)))) (w1 := w2) dX0_bindPath_47 zc_X0_84 hli2 (z_cls9 (by decide)) rfl rfl (Nat.le_of_ble_eq_true rfl) rfl (c_X9_get hli2 (by decide) okL2 a 0) ?_
        refine zx_st (st1 := [zI (tg LL a 0)]) rfl ?_
        refine zx_istore_n (i := 3) dX0_bindPath_50 rfl (by decide) rfl ?_
        refine zx_L (L1 := [some (zR br), some (zI a0), some (zI 1), some (zI (tg LL a 0)), some (zI (q : Int))]) rfl ?_
        refine zx_iinc (i := 4) (v := ((q + 1 : Nat) : Int)) dX0_bindPath_51 rfl (zw_eq (by omega) (by omega) (by omega)) (by decide) rfl ?_
        refine zx_L (L1 := [some (zR br), some (zI a0), some (zI 1), some (zI (tg LL a 0)), some (zI ((q + 1 : Nat) : Int))]) rfl ?_
        refine zx_goto (tgt := 5) dX0_bindPath_54 (by decide) ?_
        have hF9 : zFr TB w2 w2 := zFr_re
        have hB9 : bbW w2 b1 b2 ((br, pg, t), (nd, va, ce, li), (ro, bi, le, wk)) (((cN, (bndN BB true (tg LL a 2 - tg LL a 1).toNat (tg LL a 1).toNat NN1)), (cV, VV), (cC, CC), (cL, LL)), ((cR, RR), (cB, BB), (cE, EE), (cW, WW)), (gc, fr, tk, rs, rd)) := ⟨hbr2, ⟨⟨hnd2, okN2⟩, ⟨hva2, okV2⟩, ⟨hce2, okC2⟩, ⟨hli2, okL2⟩⟩, ⟨⟨hro2, okR2⟩, ⟨hbi2, okB2⟩, ⟨hle2, okE2⟩, ⟨hwk2, okW2⟩⟩, ⟨⟨by omega, by omega, by omega, by omega⟩, ⟨by omega, by omega, by omega, by omega⟩⟩, ⟨⟨by omega, by omega, by omega, by omega⟩, ⟨by omega, by omega, by omega, by omega⟩⟩, by omega, by omega⟩
        exact ih (q + 1) _ _ _ (by omega) h2 hB9 (zFr_tr hF1 (zFr_tr hFp2 (zFr_tr hF2 hF9)))
  refine zx_L (L1 := [some (zR br), some (zI a0), some (zI 1), none, none]) rfl ?_
  obtain ⟨hbr, ⟨⟨hnd, okN⟩, ⟨hva, okV⟩, ⟨hce, okC⟩, ⟨hli, okL⟩⟩, ⟨⟨hro, okR⟩, ⟨hbi, okB⟩, ⟨hle, okE⟩, ⟨hwk, okW⟩⟩, ⟨⟨c1N, c1V, c1C, c1L⟩, ⟨c1R, c1B, c1E, c1W⟩⟩, ⟨⟨c2N, c2V, c2C, c2L⟩, ⟨c2R, c2B, c2E, c2W⟩⟩, hrm1, hrm2⟩ := id hB
  refine zx_iload_n (i := 1) dX0_bindPath_0 rfl rfl ?_
  refine zx_istore_n (i := 3) dX0_bindPath_1 rfl (by decide) rfl ?_
  refine zx_L (L1 := [some (zR br), some (zI a0), some (zI 1), some (zI a0), none]) rfl ?_
  refine zx_iconst (v := 0) dX0_bindPath_2 rfl (z32_lit (by decide) (by decide)) ?_
  refine zx_istore (i := 4) dX0_bindPath_3 (by decide) rfl ?_
  refine zx_L (L1 := [some (zR br), some (zI a0), some (zI 1), some (zI a0), some (zI 0)]) rfl ?_
  exact loop 150 0 a0 NN w (by omega) hT hB zFr_re
theorem c_X0_bindPath_false (hB : bbW w b1 b2 ((br, pg, t), (nd, va, ce, li), (ro, bi, le, wk)) (((cN, NN), (cV, VV), (cC, CC), (cL, LL)), ((cR, RR), (cB, BB), (cE, EE), (cW, WW)), (gc, fr, tk, rs, rd))) {a0 : Int} (hT : bpT LL 150 a0) : zM G zm_X0_bindPath (d + 2) [zR br, zI a0, zI 0] w (zVoid fun w' => bbW w' b1 b2 ((br, pg, t), (nd, va, ce, li), (ro, bi, le, wk)) (((cN, bpN LL BB false 150 a0 NN), (cV, VV), (cC, CC), (cL, LL)), ((cR, RR), (cB, BB), (cE, EE), (cW, WW)), (gc, fr, tk, rs, rd)) ∧ zFr TB w w') := by
  refine zx_ent (by decide +kernel) rfl (Nat.le_of_ble_eq_true rfl) ?_
  have loop : ∀ (k q : Nat) (a : Int) (NN1 : List (List Int)) (w1 : zW), q + k = 150 → bpT LL k a → bbW w1 b1 b2 ((br, pg, t), (nd, va, ce, li), (ro, bi, le, wk)) (((cN, NN1), (cV, VV), (cC, CC), (cL, LL)), ((cR, RR), (cB, BB), (cE, EE), (cW, WW)), (gc, fr, tk, rs, rd)) → zFr TB w w1 → zX G zm_X0_bindPath (d + 2) [zR br, zI a0, zI 0] w (zVoid fun w' => bbW w' b1 b2 ((br, pg, t), (nd, va, ce, li), (ro, bi, le, wk)) (((cN, bpN LL BB false k a NN1), (cV, VV), (cC, CC), (cL, LL)), ((cR, RR), (cB, BB), (cE, EE), (cW, WW)), (gc, fr, tk, rs, rd)) ∧ zFr TB w w') 5 [some (zR br), some (zI a0), some (zI 0), some (zI a), some (zI (q : Int))] [] w1 := by
    intro k
    induction k with
    | zero =>
      intro q a NN1 w1 hq hT hB1 hF1
      obtain ⟨hbr1, ⟨⟨hnd1, okN1⟩, ⟨hva1, okV1⟩, ⟨hce1, okC1⟩, ⟨hli1, okL1⟩⟩, ⟨⟨hro1, okR1⟩, ⟨hbi1, okB1⟩, ⟨hle1, okE1⟩, ⟨hwk1, okW1⟩⟩, ⟨⟨c1N1, c1V1, c1C1, c1L1⟩, ⟨c1R1, c1B1, c1E1, c1W1⟩⟩, ⟨⟨c2N1, c2V1, c2C1, c2L1⟩, ⟨c2R1, c2B1, c2E1, c2W1⟩⟩, hrm11, hrm21⟩ := id hB1
      refine zx_iload (i := 4) dX0_bindPath_5 rfl ?_
      refine zx_sipush (v := 150) dX0_bindPath_7 (by decide +kernel) (z32_lit (by decide) (by decide)) ?_
      refine zx_icmp_ge (tgt := 57) dX0_bindPath_10 (by decide) (fun h10 => ?_) (fun h10 => absurd (by omega) h10)
      refine zx_return dX0_bindPath_57 rfl ?_
      exact ⟨rfl, hB1, hF1⟩
    | succ k ih =>
      intro q a NN1 w1 hq hT hB1 hF1
      obtain ⟨hbr1, ⟨⟨hnd1, okN1⟩, ⟨hva1, okV1⟩, ⟨hce1, okC1⟩, ⟨hli1, okL1⟩⟩, ⟨⟨hro1, okR1⟩, ⟨hbi1, okB1⟩, ⟨hle1, okE1⟩, ⟨hwk1, okW1⟩⟩, ⟨⟨c1N1, c1V1, c1C1, c1L1⟩, ⟨c1R1, c1B1, c1E1, c1W1⟩⟩, ⟨⟨c2N1, c2V1, c2C1, c2L1⟩, ⟨c2R1, c2B1, c2E1, c2W1⟩⟩, hrm11, hrm21⟩ := id hB1
      by_cases h1 : a = -1
      · rw [h1, bpN_e]
        rw [h1] at hT
        refine zx_iload (i := 4) dX0_bindPath_5 rfl ?_
        refine zx_sipush (v := 150) dX0_bindPath_7 (by decide +kernel) (z32_lit (by decide) (by decide)) ?_
        refine zx_icmp_ge (tgt := 57) dX0_bindPath_10 (by decide) (fun h10 => absurd h10 (by omega)) (fun h10 => ?_)
        refine zx_iload_n (i := 3) dX0_bindPath_13 rfl rfl ?_
        refine zx_iconst (v := -1) dX0_bindPath_14 rfl (z32_lit (by decide) (by decide)) ?_
        refine zx_icmp_eq (tgt := 57) dX0_bindPath_15 (by decide) (fun h15 => ?_) (fun h15 => absurd (by decide) h15)
        refine zx_return dX0_bindPath_57 rfl ?_
        exact ⟨rfl, hB1, hF1⟩
      · obtain ⟨⟨h3, h4, h5⟩, h2⟩ := hT h1
        rw [bpN_s h1]
        refine zx_iload (i := 4) dX0_bindPath_5 rfl ?_
        refine zx_sipush (v := 150) dX0_bindPath_7 (by decide +kernel) (z32_lit (by decide) (by decide)) ?_
        refine zx_icmp_ge (tgt := 57) dX0_bindPath_10 (by decide) (fun h10 => absurd h10 (by omega)) (fun h10 => ?_)
        refine zx_iload_n (i := 3) dX0_bindPath_13 rfl rfl ?_
        refine zx_iconst (v := -1) dX0_bindPath_14 rfl (z32_lit (by decide) (by decide)) ?_
        refine zx_icmp_eq (tgt := 57) dX0_bindPath_15 (by decide) (fun h15 => absurd h15 (h1)) (fun h15 => ?_)
        refine zx_aload_n (i := 0) dX0_bindPath_18 rfl rfl ?_
        refine zx_aload_n (i := 0) dX0_bindPath_19 rfl rfl ?_
        refine zx_getfield dX0_bindPath_20 zf_X0_34 hbr1 rfl ?_
        refine zx_iload_n (i := 3) dX0_bindPath_23 rfl rfl ?_
        refine zx_iconst (v := 1) dX0_bindPath_24 rfl (z32_lit (by decide) (by decide)) ?_
        refine zx_pc (pc1 := 25) rfl ?_
        refine zx_iv (b := li) (As := [zI a, zI 1]) (st := [zR br]) (v := (some (zI (tg LL a 1)))) (w1 := w1) dX0_bindPath_25 zc_X0_84 hli1 (z_cls9 (by decide)) rfl rfl (Nat.le_of_ble_eq_true rfl) rfl (c_X9_get hli1 (by decide) okL1 a 1) ?_
        refine zx_st (st1 := [zI (tg LL a 1), zR br]) rfl ?_
        refine zx_aload_n (i := 0) dX0_bindPath_28 rfl rfl ?_
        refine zx_getfield dX0_bindPath_29 zf_X0_34 hbr1 rfl ?_
        refine zx_iload_n (i := 3) dX0_bindPath_32 rfl rfl ?_
        refine zx_iconst (v := 2) dX0_bindPath_33 rfl (z32_lit (by decide) (by decide)) ?_
        refine zx_iv (b := li) (As := [zI a, zI 2]) (st := [zI (tg LL a 1), zR br]) (v := (some (zI (tg LL a 2)))) (w1 := w1) dX0_bindPath_34 zc_X0_84 hli1 (z_cls9 (by decide)) rfl rfl (Nat.le_of_ble_eq_true rfl) rfl (c_X9_get hli1 (by decide) okL1 a 2) ?_
        refine zx_st (st1 := [zI (tg LL a 2), zI (tg LL a 1), zR br]) rfl ?_
        refine zx_iload_n (i := 2) dX0_bindPath_37 rfl rfl ?_
        have hFp2 : zFr TB w1 w1 := zFr_re
        have hBp2 : bbW w1 b1 b2 ((br, pg, t), (nd, va, ce, li), (ro, bi, le, wk)) (((cN, NN1), (cV, VV), (cC, CC), (cL, LL)), ((cR, RR), (cB, BB), (cE, EE), (cW, WW)), (gc, fr, tk, rs, rd)) := ⟨hbr1, ⟨⟨hnd1, okN1⟩, ⟨hva1, okV1⟩, ⟨hce1, okC1⟩, ⟨hli1, okL1⟩⟩, ⟨⟨hro1, okR1⟩, ⟨hbi1, okB1⟩, ⟨hle1, okE1⟩, ⟨hwk1, okW1⟩⟩, ⟨⟨by omega, by omega, by omega, by omega⟩, ⟨by omega, by omega, by omega, by omega⟩⟩, ⟨⟨by omega, by omega, by omega, by omega⟩, ⟨by omega, by omega, by omega, by omega⟩⟩, by omega, by omega⟩
        refine zx_ivN (b := br) (As := [zI (tg LL a 1), zI (tg LL a 2), zI 0]) (st := []) dX0_bindPath_38 zc_X0_225 hbr1 rfl rfl rfl (Nat.le_of_ble_eq_true rfl) rfl (by have q := c_X0_bind_false (G := G) (d := d) hBp2 (i0 := (tg LL a 1).toNat) (k := (tg LL a 2 - tg LL a 1).toNat) (n := (tg LL a 2).toNat) (by omega) (by omega); rw [Int.toNat_of_nonneg h3, Int.toNat_of_nonneg (show 0 ≤ tg LL a 2 by omega)] at q; exact q) (fun w2 hq => ?_)
        obtain ⟨hB2, hF2⟩ := hq
        obtain ⟨hbr2, ⟨⟨hnd2, okN2⟩, ⟨hva2, okV2⟩, ⟨hce2, okC2⟩, ⟨hli2, okL2⟩⟩, ⟨⟨hro2, okR2⟩, ⟨hbi2, okB2⟩, ⟨hle2, okE2⟩, ⟨hwk2, okW2⟩⟩, ⟨⟨c1N2, c1V2, c1C2, c1L2⟩, ⟨c1R2, c1B2, c1E2, c1W2⟩⟩, ⟨⟨c2N2, c2V2, c2C2, c2L2⟩, ⟨c2R2, c2B2, c2E2, c2W2⟩⟩, hrm12, hrm22⟩ := id hB2
        refine zx_aload_n (i := 0) dX0_bindPath_41 rfl rfl ?_
        refine zx_getfield dX0_bindPath_42 zf_X0_34 hbr2 rfl ?_
        refine zx_iload_n (i := 3) dX0_bindPath_45 rfl rfl ?_
        refine zx_iconst (v := 0) dX0_bindPath_46 rfl (z32_lit (by decide) (by decide)) ?_
        refine zx_pc (pc1 := 47) rfl ?_
        refine zx_iv (b := li) (As := [zI a, zI 0]) (st := []) (v := (some (zI (tg LL a 0)))) (w1 := w2) dX0_bindPath_47 zc_X0_84 hli2 (z_cls9 (by decide)) rfl rfl (Nat.le_of_ble_eq_true rfl) rfl (c_X9_get hli2 (by decide) okL2 a 0) ?_
        refine zx_st (st1 := [zI (tg LL a 0)]) rfl ?_
        refine zx_istore_n (i := 3) dX0_bindPath_50 rfl (by decide) rfl ?_
        refine zx_L (L1 := [some (zR br), some (zI a0), some (zI 0), some (zI (tg LL a 0)), some (zI (q : Int))]) rfl ?_
        refine zx_iinc (i := 4) (v := ((q + 1 : Nat) : Int)) dX0_bindPath_51 rfl (zw_eq (by omega) (by omega) (by omega)) (by decide) rfl ?_
        refine zx_L (L1 := [some (zR br), some (zI a0), some (zI 0), some (zI (tg LL a 0)), some (zI ((q + 1 : Nat) : Int))]) rfl ?_
        refine zx_goto (tgt := 5) dX0_bindPath_54 (by decide) ?_
        have hF9 : zFr TB w2 w2 := zFr_re
        have hB9 : bbW w2 b1 b2 ((br, pg, t), (nd, va, ce, li), (ro, bi, le, wk)) (((cN, (bndN BB false (tg LL a 2 - tg LL a 1).toNat (tg LL a 1).toNat NN1)), (cV, VV), (cC, CC), (cL, LL)), ((cR, RR), (cB, BB), (cE, EE), (cW, WW)), (gc, fr, tk, rs, rd)) := ⟨hbr2, ⟨⟨hnd2, okN2⟩, ⟨hva2, okV2⟩, ⟨hce2, okC2⟩, ⟨hli2, okL2⟩⟩, ⟨⟨hro2, okR2⟩, ⟨hbi2, okB2⟩, ⟨hle2, okE2⟩, ⟨hwk2, okW2⟩⟩, ⟨⟨by omega, by omega, by omega, by omega⟩, ⟨by omega, by omega, by omega, by omega⟩⟩, ⟨⟨by omega, by omega, by omega, by omega⟩, ⟨by omega, by omega, by omega, by omega⟩⟩, by omega, by omega⟩
        exact ih (q + 1) _ _ _ (by omega) h2 hB9 (zFr_tr hF1 (zFr_tr hFp2 (zFr_tr hF2 hF9)))
  refine zx_L (L1 := [some (zR br), some (zI a0), some (zI 0), none, none]) rfl ?_
  obtain ⟨hbr, ⟨⟨hnd, okN⟩, ⟨hva, okV⟩, ⟨hce, okC⟩, ⟨hli, okL⟩⟩, ⟨⟨hro, okR⟩, ⟨hbi, okB⟩, ⟨hle, okE⟩, ⟨hwk, okW⟩⟩, ⟨⟨c1N, c1V, c1C, c1L⟩, ⟨c1R, c1B, c1E, c1W⟩⟩, ⟨⟨c2N, c2V, c2C, c2L⟩, ⟨c2R, c2B, c2E, c2W⟩⟩, hrm1, hrm2⟩ := id hB
  refine zx_iload_n (i := 1) dX0_bindPath_0 rfl rfl ?_
  refine zx_istore_n (i := 3) dX0_bindPath_1 rfl (by decide) rfl ?_
  refine zx_L (L1 := [some (zR br), some (zI a0), some (zI 0), some (zI a0), none]) rfl ?_
  refine zx_iconst (v := 0) dX0_bindPath_2 rfl (z32_lit (by decide) (by decide)) ?_
  refine zx_istore (i := 4) dX0_bindPath_3 (by decide) rfl ?_
  refine zx_L (L1 := [some (zR br), some (zI a0), some (zI 0), some (zI a0), some (zI 0)]) rfl ?_
  exact loop 150 0 a0 NN w (by omega) hT hB zFr_re
theorem c_X0_restore (hB : bbW w b1 b2 ((br, pg, t), (nd, va, ce, li), (ro, bi, le, wk)) (((cN, NN), (cV, VV), (cC, CC), (cL, LL)), ((cR, RR), (cB, BB), (cE, EE), (cW, WW)), (gc, fr, tk, rs, rd))) {l0 : Int} (hT1 : bpT LL 150 rs) (hT2 : bpT LL 150 l0) (hrd : 0 ≤ rd ∧ rd < 1000000) : zM G zm_X0_restore (d + 3) [zR br, zI l0] w (zVoid fun w' => bbW w' b1 b2 ((br, pg, t), (nd, va, ce, li), (ro, bi, le, wk)) (((cN, bpN LL BB true 150 l0 (bpN LL BB false 150 rs NN)), (cV, VV), (cC, CC), (cL, LL)), ((cR, RR), (cB, BB), (cE, EE), (cW, WW)), (gc, fr, tk, l0, rd + 1)) ∧ zFr TB w w') := by
  refine zx_ent (by decide +kernel) rfl (Nat.le_of_ble_eq_true rfl) ?_
  refine zx_L (L1 := [some (zR br), some (zI l0)]) rfl ?_
  obtain ⟨hbr, ⟨⟨hnd, okN⟩, ⟨hva, okV⟩, ⟨hce, okC⟩, ⟨hli, okL⟩⟩, ⟨⟨hro, okR⟩, ⟨hbi, okB⟩, ⟨hle, okE⟩, ⟨hwk, okW⟩⟩, ⟨⟨c1N, c1V, c1C, c1L⟩, ⟨c1R, c1B, c1E, c1W⟩⟩, ⟨⟨c2N, c2V, c2C, c2L⟩, ⟨c2R, c2B, c2E, c2W⟩⟩, hrm1, hrm2⟩ := id hB
  refine zx_aload_n (i := 0) dX0_restore_0 rfl rfl ?_
  refine zx_aload_n (i := 0) dX0_restore_1 rfl rfl ?_
  refine zx_getfield dX0_restore_2 zf_X0_95 hbr rfl ?_
  refine zx_iconst (v := 0) dX0_restore_5 rfl (z32_lit (by decide) (by decide)) ?_
  have hFp2 : zFr TB w w := zFr_re
  have hBp2 : bbW w b1 b2 ((br, pg, t), (nd, va, ce, li), (ro, bi, le, wk)) (((cN, NN), (cV, VV), (cC, CC), (cL, LL)), ((cR, RR), (cB, BB), (cE, EE), (cW, WW)), (gc, fr, tk, rs, rd)) := ⟨hbr, ⟨⟨hnd, okN⟩, ⟨hva, okV⟩, ⟨hce, okC⟩, ⟨hli, okL⟩⟩, ⟨⟨hro, okR⟩, ⟨hbi, okB⟩, ⟨hle, okE⟩, ⟨hwk, okW⟩⟩, ⟨⟨by omega, by omega, by omega, by omega⟩, ⟨by omega, by omega, by omega, by omega⟩⟩, ⟨⟨by omega, by omega, by omega, by omega⟩, ⟨by omega, by omega, by omega, by omega⟩⟩, by omega, by omega⟩
  refine zx_ivN (b := br) (As := [zI rs, zI 0]) (st := []) dX0_restore_6 zc_X0_229 hbr rfl rfl rfl (Nat.le_of_ble_eq_true rfl) rfl (c_X0_bindPath_false hBp2 hT1) (fun w2 hq => ?_)
  obtain ⟨hB2, hF2⟩ := hq
  obtain ⟨hbr2, ⟨⟨hnd2, okN2⟩, ⟨hva2, okV2⟩, ⟨hce2, okC2⟩, ⟨hli2, okL2⟩⟩, ⟨⟨hro2, okR2⟩, ⟨hbi2, okB2⟩, ⟨hle2, okE2⟩, ⟨hwk2, okW2⟩⟩, ⟨⟨c1N2, c1V2, c1C2, c1L2⟩, ⟨c1R2, c1B2, c1E2, c1W2⟩⟩, ⟨⟨c2N2, c2V2, c2C2, c2L2⟩, ⟨c2R2, c2B2, c2E2, c2W2⟩⟩, hrm12, hrm22⟩ := id hB2
  refine zx_aload_n (i := 0) dX0_restore_9 rfl rfl ?_
  refine zx_iload_n (i := 1) dX0_restore_10 rfl rfl ?_
  refine zx_iconst (v := 1) dX0_restore_11 rfl (z32_lit (by decide) (by decide)) ?_
  have hFp3 : zFr TB w2 w2 := zFr_re
  have hBp3 : bbW w2 b1 b2 ((br, pg, t), (nd, va, ce, li), (ro, bi, le, wk)) (((cN, (bpN LL BB false 150 rs NN)), (cV, VV), (cC, CC), (cL, LL)), ((cR, RR), (cB, BB), (cE, EE), (cW, WW)), (gc, fr, tk, rs, rd)) := ⟨hbr2, ⟨⟨hnd2, okN2⟩, ⟨hva2, okV2⟩, ⟨hce2, okC2⟩, ⟨hli2, okL2⟩⟩, ⟨⟨hro2, okR2⟩, ⟨hbi2, okB2⟩, ⟨hle2, okE2⟩, ⟨hwk2, okW2⟩⟩, ⟨⟨by omega, by omega, by omega, by omega⟩, ⟨by omega, by omega, by omega, by omega⟩⟩, ⟨⟨by omega, by omega, by omega, by omega⟩, ⟨by omega, by omega, by omega, by omega⟩⟩, by omega, by omega⟩
  refine zx_ivN (b := br) (As := [zI l0, zI 1]) (st := []) dX0_restore_12 zc_X0_229 hbr2 rfl rfl rfl (Nat.le_of_ble_eq_true rfl) rfl (c_X0_bindPath_true hBp3 hT2) (fun w3 hq => ?_)
  obtain ⟨hB3, hF3⟩ := hq
  obtain ⟨hbr3, ⟨⟨hnd3, okN3⟩, ⟨hva3, okV3⟩, ⟨hce3, okC3⟩, ⟨hli3, okL3⟩⟩, ⟨⟨hro3, okR3⟩, ⟨hbi3, okB3⟩, ⟨hle3, okE3⟩, ⟨hwk3, okW3⟩⟩, ⟨⟨c1N3, c1V3, c1C3, c1L3⟩, ⟨c1R3, c1B3, c1E3, c1W3⟩⟩, ⟨⟨c2N3, c2V3, c2C3, c2L3⟩, ⟨c2R3, c2B3, c2E3, c2W3⟩⟩, hrm13, hrm23⟩ := id hB3
  refine zx_aload_n (i := 0) dX0_restore_15 rfl rfl ?_
  refine zx_iload_n (i := 1) dX0_restore_16 rfl rfl ?_
  refine zx_pc (pc1 := 17) rfl ?_
  obtain ⟨w_1, hw_2⟩ : ∃ ww, ww = zput w3 br (0, 0, [zR pg, zR t, zR nd, zI gc, zR va, zR ce, zR li, zR ro, zI fr, zR bi, zR le, zR wk, zI tk, zI l0, zI rd]) := ⟨_, rfl⟩
  refine zx_put (w1 := w_1) dX0_restore_17 zf_X0_95 hbr3 (Nat.le_of_ble_eq_true rfl) (zFt_int _) (fun h => by cases h) hw_2.symm ?_
  have q_3 : w_1.2.1 = w3.2.1 ∧ w_1.2.2 = w3.2.2 := by rw [hw_2]; exact ⟨rfl, rfl⟩
  have h_4 : w_1.1 br = some (0, 0, [zR pg, zR t, zR nd, zI gc, zR va, zR ce, zR li, zR ro, zI fr, zR bi, zR le, zR wk, zI tk, zI l0, zI rd]) := by rw [hw_2]; exact zput_at
  refine zx_aload_n (i := 0) dX0_restore_20 rfl rfl ?_
  refine zx_dup dX0_restore_21 (fun a h => by cases h) ?_
  refine zx_getfield dX0_restore_22 zf_X0_98 h_4 rfl ?_
  refine zx_iconst (v := 1) dX0_restore_25 rfl (z32_lit (by decide) (by decide)) ?_
  refine zx_iadd (v := rd + 1) dX0_restore_26 (zw_id ⟨by omega, by omega⟩) ?_
  obtain ⟨w_5, hw_6⟩ : ∃ ww, ww = zput w_1 br (0, 0, [zR pg, zR t, zR nd, zI gc, zR va, zR ce, zR li, zR ro, zI fr, zR bi, zR le, zR wk, zI tk, zI l0, zI (rd + 1)]) := ⟨_, rfl⟩
  refine zx_put (w1 := w_5) dX0_restore_27 zf_X0_98 h_4 (Nat.le_of_ble_eq_true rfl) (zFt_int _) (fun h => by cases h) hw_6.symm ?_
  have q_7 : w_5.2.1 = w_1.2.1 ∧ w_5.2.2 = w_1.2.2 := by rw [hw_6]; exact ⟨rfl, rfl⟩
  have h_8 : w_5.1 br = some (0, 0, [zR pg, zR t, zR nd, zI gc, zR va, zR ce, zR li, zR ro, zI fr, zR bi, zR le, zR wk, zI tk, zI l0, zI (rd + 1)]) := by rw [hw_6]; exact zput_at
  refine zx_return dX0_restore_30 rfl ?_
  have hfaL9 : zFa [br] w3 w_5 := (zFa_put (zFa_put zFa_re (by simp) hw_2) (by simp) hw_6)
  have hF9 : zFr TB w3 w_5 := zFr_fa hfaL9 (zLc hbr3 (by simp) zLn)
  have h_9 : w_1.1 nd = some (140, br, tTb 5 cN (bpN LL BB true 150 l0 (bpN LL BB false 150 rs NN))) := by
    rw [hw_2]; exact zput_tg hbr3 hnd3 (by simp)
  have h_10 : w_5.1 nd = some (140, br, tTb 5 cN (bpN LL BB true 150 l0 (bpN LL BB false 150 rs NN))) := by
    rw [hw_6]; exact zput_tg h_4 h_9 (by simp)
  have h_11 : w_1.1 va = some (141, br, tTb 1 cV VV) := by
    rw [hw_2]; exact zput_tg hbr3 hva3 (by simp)
  have h_12 : w_5.1 va = some (141, br, tTb 1 cV VV) := by
    rw [hw_6]; exact zput_tg h_4 h_11 (by simp)
  have h_13 : w_1.1 ce = some (142, br, tTb 3 cC CC) := by
    rw [hw_2]; exact zput_tg hbr3 hce3 (by simp)
  have h_14 : w_5.1 ce = some (142, br, tTb 3 cC CC) := by
    rw [hw_6]; exact zput_tg h_4 h_13 (by simp)
  have h_15 : w_1.1 li = some (143, br, tTb 4 cL LL) := by
    rw [hw_2]; exact zput_tg hbr3 hli3 (by simp)
  have h_16 : w_5.1 li = some (143, br, tTb 4 cL LL) := by
    rw [hw_6]; exact zput_tg h_4 h_15 (by simp)
  have h_17 : w_1.1 ro = some (144, br, tTb 6 cR RR) := by
    rw [hw_2]; exact zput_tg hbr3 hro3 (by simp)
  have h_18 : w_5.1 ro = some (144, br, tTb 6 cR RR) := by
    rw [hw_6]; exact zput_tg h_4 h_17 (by simp)
  have h_19 : w_1.1 bi = some (145, br, tTb 2 cB BB) := by
    rw [hw_2]; exact zput_tg hbr3 hbi3 (by simp)
  have h_20 : w_5.1 bi = some (145, br, tTb 2 cB BB) := by
    rw [hw_6]; exact zput_tg h_4 h_19 (by simp)
  have h_21 : w_1.1 le = some (146, br, tTb 4 cE EE) := by
    rw [hw_2]; exact zput_tg hbr3 hle3 (by simp)
  have h_22 : w_5.1 le = some (146, br, tTb 4 cE EE) := by
    rw [hw_6]; exact zput_tg h_4 h_21 (by simp)
  have h_23 : w_1.1 wk = some (147, br, tTb 3 cW WW) := by
    rw [hw_2]; exact zput_tg hbr3 hwk3 (by simp)
  have h_24 : w_5.1 wk = some (147, br, tTb 3 cW WW) := by
    rw [hw_6]; exact zput_tg h_4 h_23 (by simp)
  have hB9 : bbW w_5 b1 b2 ((br, pg, t), (nd, va, ce, li), (ro, bi, le, wk)) (((cN, (bpN LL BB true 150 l0 (bpN LL BB false 150 rs NN))), (cV, VV), (cC, CC), (cL, LL)), ((cR, RR), (cB, BB), (cE, EE), (cW, WW)), (gc, fr, tk, l0, (rd + 1))) := ⟨h_8, ⟨⟨h_10, okN3⟩, ⟨h_12, okV3⟩, ⟨h_14, okC3⟩, ⟨h_16, okL3⟩⟩, ⟨⟨h_18, okR3⟩, ⟨h_20, okB3⟩, ⟨h_22, okE3⟩, ⟨h_24, okW3⟩⟩, ⟨⟨by omega, by omega, by omega, by omega⟩, ⟨by omega, by omega, by omega, by omega⟩⟩, ⟨⟨by omega, by omega, by omega, by omega⟩, ⟨by omega, by omega, by omega, by omega⟩⟩, by omega, by omega⟩
  exact ⟨rfl, hB9, (zFr_tr hFp2 (zFr_tr hF2 (zFr_tr hFp3 (zFr_tr hF3 hF9))))⟩
end BBIND
