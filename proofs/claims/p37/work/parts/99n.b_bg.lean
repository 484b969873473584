/-! Own rows: breadth begins, in pieces. Walked by program (wip/p37/m_bbeg.py). -/
theorem rpW_TB {w w' : zW} {rp ri ra rn : Nat} {mo : Option Nat} {IN AN NT : List (List Int)} {sc cc dc en bk bc : Int} (h : rpW w rp ri ra rn mo IN AN NT sc cc dc en bk bc) (f : zFr TB w w') : rpW w' rp ri ra rn mo IN AN NT sc cc dc en bk bc := by
  obtain ⟨h1, ⟨h2, h3⟩, ⟨h4, h5⟩, ⟨h6, h7⟩⟩ := h
  exact ⟨f _ _ h1 (by simp), ⟨f _ _ h2 (by simp), h3⟩, ⟨f _ _ h4 (by simp), h5⟩, ⟨f _ _ h6 (by simp), h7⟩⟩
section BBG
variable {G : zG} {d : Nat} {w w0 : zW} {b1 b2 q y tt0 ms cs qq : Nat} {nu : Int} {br pg t nd va ce li ro bi le wk : Nat} {cN cV cC cL cR cB cE cW : Nat} {NN VV CC LL RR BB EE WW : List (List Int)} {gc fr tk rs rd : Int} {tc tn th tz : Nat} {ty : Int} {TN TH : List (List Int)} {TS : List Int} {rp ri ra rn : Nat} {mo : Option Nat} {IN AN NT : List (List Int)} {sc cc dc en bk bc : Int} {TY : List (List Int)} {PV : zW → Prop} {o4 : Option zV}
theorem bg_0 (hB : bbW w b1 b2 ((br, pg, t), (nd, va, ce, li), (ro, bi, le, wk)) (((cN, NN), (cV, VV), (cC, CC), (cL, LL)), ((cR, RR), (cB, BB), (cE, EE), (cW, WW)), (gc, fr, tk, rs, rd)))  (k : ∀ w1, bbW w1 b1 b2 ((br, pg, t), (nd, va, ce, li), (ro, bi, le, wk)) (((cN, ([] : List (List Int))), (cV, ([] : List (List Int))), (cC, ([] : List (List Int))), (cL, ([] : List (List Int)))), ((cR, ([] : List (List Int))), (cB, ([] : List (List Int))), (cE, ([] : List (List Int))), (cW, WW)), (gc, 0, 0, (-1), 0)) → zFr TB w w1 → zX G zm_X0_begin (d + 5) [zR br, zR y, zR rp] w (zVoid PV) 78 [some (zR br), some (zR y), some (zR rp), some (zI 0), none] [] w1) : zM G zm_X0_begin (d + 5) [zR br, zR y, zR rp] w (zVoid PV) := by
  refine zx_ent (by decide +kernel) rfl (Nat.le_of_ble_eq_true rfl) ?_
  refine zx_L (L1 := [some (zR br), some (zR y), some (zR rp), none, none]) rfl ?_
  obtain ⟨hbr, ⟨⟨hnd, okN⟩, ⟨hva, okV⟩, ⟨hce, okC⟩, ⟨hli, okL⟩⟩, ⟨⟨hro, okR⟩, ⟨hbi, okB⟩, ⟨hle, okE⟩, ⟨hwk, okW⟩⟩, ⟨⟨c1N, c1V, c1C, c1L⟩, ⟨c1R, c1B, c1E, c1W⟩⟩, ⟨⟨c2N, c2V, c2C, c2L⟩, ⟨c2R, c2B, c2E, c2W⟩⟩, hrm1, hrm2⟩ := id hB
  refine zx_aload_n (i := 0) dX0_begin_0 rfl rfl ?_
  refine zx_getfield dX0_begin_1 zf_X0_24 hbr rfl ?_
  refine zx_iconst (v := 0) dX0_begin_4 rfl (z32_lit (by decide) (by decide)) ?_
  obtain ⟨w_1, hw_2⟩ : ∃ ww, ww = zput w nd (140, br, tTb 5 cN ([] : List (List Int))) := ⟨_, rfl⟩
  have q_3 : w_1.2.1 = w.2.1 ∧ w_1.2.2 = w.2.2 := by rw [hw_2]; exact ⟨rfl, rfl⟩
  have h_4 : w_1.1 nd = some (140, br, tTb 5 cN ([] : List (List Int))) := by rw [hw_2]; exact zput_at
  refine zx_iv (b := nd) (As := [zI 0]) (st := []) (v := none) (w1 := w_1) dX0_begin_5 zc_X0_92 hnd (z_cls9 (by decide)) rfl rfl (Nat.le_of_ble_eq_true rfl) rfl (by rw [hw_2]; exact (by have q := c_X9_cut (G := G) (d := d + 4) hnd (by decide) okN 0; rw [tcut_0] at q; exact q)) ?_
  refine zx_st (st1 := []) rfl ?_
  refine zx_aload_n (i := 0) dX0_begin_8 rfl rfl ?_
  have h_5 : w_1.1 br = some (0, 0, [zR pg, zR t, zR nd, zI gc, zR va, zR ce, zR li, zR ro, zI fr, zR bi, zR le, zR wk, zI tk, zI rs, zI rd]) := by
    rw [hw_2]; exact zput_tg hnd hbr (by simp)
  refine zx_getfield dX0_begin_9 zf_X0_28 h_5 rfl ?_
  refine zx_iconst (v := 0) dX0_begin_12 rfl (z32_lit (by decide) (by decide)) ?_
  have h_6 : w_1.1 va = some (141, br, tTb 1 cV VV) := by
    rw [hw_2]; exact zput_tg hnd hva (by simp)
  obtain ⟨w_7, hw_8⟩ : ∃ ww, ww = zput w_1 va (141, br, tTb 1 cV ([] : List (List Int))) := ⟨_, rfl⟩
  have q_9 : w_7.2.1 = w_1.2.1 ∧ w_7.2.2 = w_1.2.2 := by rw [hw_8]; exact ⟨rfl, rfl⟩
  have h_10 : w_7.1 va = some (141, br, tTb 1 cV ([] : List (List Int))) := by rw [hw_8]; exact zput_at
  refine zx_iv (b := va) (As := [zI 0]) (st := []) (v := none) (w1 := w_7) dX0_begin_13 zc_X0_92 h_6 (z_cls9 (by decide)) rfl rfl (Nat.le_of_ble_eq_true rfl) rfl (by rw [hw_8]; exact (by have q := c_X9_cut (G := G) (d := d + 4) h_6 (by decide) okV 0; rw [tcut_0] at q; exact q)) ?_
  refine zx_st (st1 := []) rfl ?_
  refine zx_aload_n (i := 0) dX0_begin_16 rfl rfl ?_
  have h_11 : w_7.1 br = some (0, 0, [zR pg, zR t, zR nd, zI gc, zR va, zR ce, zR li, zR ro, zI fr, zR bi, zR le, zR wk, zI tk, zI rs, zI rd]) := by
    rw [hw_8]; exact zput_tg h_6 h_5 (by simp)
  refine zx_getfield dX0_begin_17 zf_X0_31 h_11 rfl ?_
  refine zx_iconst (v := 0) dX0_begin_20 rfl (z32_lit (by decide) (by decide)) ?_
  refine zx_pc (pc1 := 21) rfl ?_
  have h_12 : w_1.1 ce = some (142, br, tTb 3 cC CC) := by
    rw [hw_2]; exact zput_tg hnd hce (by simp)
  have h_13 : w_7.1 ce = some (142, br, tTb 3 cC CC) := by
    rw [hw_8]; exact zput_tg h_6 h_12 (by simp)
  obtain ⟨w_14, hw_15⟩ : ∃ ww, ww = zput w_7 ce (142, br, tTb 3 cC ([] : List (List Int))) := ⟨_, rfl⟩
  have q_16 : w_14.2.1 = w_7.2.1 ∧ w_14.2.2 = w_7.2.2 := by rw [hw_15]; exact ⟨rfl, rfl⟩
  have h_17 : w_14.1 ce = some (142, br, tTb 3 cC ([] : List (List Int))) := by rw [hw_15]; exact zput_at
  refine zx_iv (b := ce) (As := [zI 0]) (st := []) (v := none) (w1 := w_14) dX0_begin_21 zc_X0_92 h_13 (z_cls9 (by decide)) rfl rfl (Nat.le_of_ble_eq_true rfl) rfl (by rw [hw_15]; exact (by have q := c_X9_cut (G := G) (d := d + 4) h_13 (by decide) okC 0; rw [tcut_0] at q; exact q)) ?_
  refine zx_st (st1 := []) rfl ?_
  refine zx_aload_n (i := 0) dX0_begin_24 rfl rfl ?_
  have h_18 : w_14.1 br = some (0, 0, [zR pg, zR t, zR nd, zI gc, zR va, zR ce, zR li, zR ro, zI fr, zR bi, zR le, zR wk, zI tk, zI rs, zI rd]) := by
    rw [hw_15]; exact zput_tg h_13 h_11 (by simp)
  refine zx_getfield dX0_begin_25 zf_X0_34 h_18 rfl ?_
  refine zx_iconst (v := 0) dX0_begin_28 rfl (z32_lit (by decide) (by decide)) ?_
  have h_19 : w_1.1 li = some (143, br, tTb 4 cL LL) := by
    rw [hw_2]; exact zput_tg hnd hli (by simp)
  have h_20 : w_7.1 li = some (143, br, tTb 4 cL LL) := by
    rw [hw_8]; exact zput_tg h_6 h_19 (by simp)
  have h_21 : w_14.1 li = some (143, br, tTb 4 cL LL) := by
    rw [hw_15]; exact zput_tg h_13 h_20 (by simp)
  obtain ⟨w_22, hw_23⟩ : ∃ ww, ww = zput w_14 li (143, br, tTb 4 cL ([] : List (List Int))) := ⟨_, rfl⟩
  have q_24 : w_22.2.1 = w_14.2.1 ∧ w_22.2.2 = w_14.2.2 := by rw [hw_23]; exact ⟨rfl, rfl⟩
  have h_25 : w_22.1 li = some (143, br, tTb 4 cL ([] : List (List Int))) := by rw [hw_23]; exact zput_at
  refine zx_iv (b := li) (As := [zI 0]) (st := []) (v := none) (w1 := w_22) dX0_begin_29 zc_X0_92 h_21 (z_cls9 (by decide)) rfl rfl (Nat.le_of_ble_eq_true rfl) rfl (by rw [hw_23]; exact (by have q := c_X9_cut (G := G) (d := d + 4) h_21 (by decide) okL 0; rw [tcut_0] at q; exact q)) ?_
  refine zx_st (st1 := []) rfl ?_
  refine zx_aload_n (i := 0) dX0_begin_32 rfl rfl ?_
  have h_26 : w_22.1 br = some (0, 0, [zR pg, zR t, zR nd, zI gc, zR va, zR ce, zR li, zR ro, zI fr, zR bi, zR le, zR wk, zI tk, zI rs, zI rd]) := by
    rw [hw_23]; exact zput_tg h_21 h_18 (by simp)
  refine zx_getfield dX0_begin_33 zf_X0_37 h_26 rfl ?_
  refine zx_iconst (v := 0) dX0_begin_36 rfl (z32_lit (by decide) (by decide)) ?_
  have h_27 : w_1.1 ro = some (144, br, tTb 6 cR RR) := by
    rw [hw_2]; exact zput_tg hnd hro (by simp)
  have h_28 : w_7.1 ro = some (144, br, tTb 6 cR RR) := by
    rw [hw_8]; exact zput_tg h_6 h_27 (by simp)
  have h_29 : w_14.1 ro = some (144, br, tTb 6 cR RR) := by
    rw [hw_15]; exact zput_tg h_13 h_28 (by simp)
  have h_30 : w_22.1 ro = some (144, br, tTb 6 cR RR) := by
    rw [hw_23]; exact zput_tg h_21 h_29 (by simp)
  obtain ⟨w_31, hw_32⟩ : ∃ ww, ww = zput w_22 ro (144, br, tTb 6 cR ([] : List (List Int))) := ⟨_, rfl⟩
  have q_33 : w_31.2.1 = w_22.2.1 ∧ w_31.2.2 = w_22.2.2 := by rw [hw_32]; exact ⟨rfl, rfl⟩
  have h_34 : w_31.1 ro = some (144, br, tTb 6 cR ([] : List (List Int))) := by rw [hw_32]; exact zput_at
  refine zx_iv (b := ro) (As := [zI 0]) (st := []) (v := none) (w1 := w_31) dX0_begin_37 zc_X0_92 h_30 (z_cls9 (by decide)) rfl rfl (Nat.le_of_ble_eq_true rfl) rfl (by rw [hw_32]; exact (by have q := c_X9_cut (G := G) (d := d + 4) h_30 (by decide) okR 0; rw [tcut_0] at q; exact q)) ?_
  refine zx_st (st1 := []) rfl ?_
  refine zx_aload_n (i := 0) dX0_begin_40 rfl rfl ?_
  have h_35 : w_31.1 br = some (0, 0, [zR pg, zR t, zR nd, zI gc, zR va, zR ce, zR li, zR ro, zI fr, zR bi, zR le, zR wk, zI tk, zI rs, zI rd]) := by
    rw [hw_32]; exact zput_tg h_30 h_26 (by simp)
  refine zx_getfield dX0_begin_41 zf_X0_40 h_35 rfl ?_
  refine zx_iconst (v := 0) dX0_begin_44 rfl (z32_lit (by decide) (by decide)) ?_
  refine zx_pc (pc1 := 45) rfl ?_
  have h_36 : w_1.1 bi = some (145, br, tTb 2 cB BB) := by
    rw [hw_2]; exact zput_tg hnd hbi (by simp)
  have h_37 : w_7.1 bi = some (145, br, tTb 2 cB BB) := by
    rw [hw_8]; exact zput_tg h_6 h_36 (by simp)
  have h_38 : w_14.1 bi = some (145, br, tTb 2 cB BB) := by
    rw [hw_15]; exact zput_tg h_13 h_37 (by simp)
  have h_39 : w_22.1 bi = some (145, br, tTb 2 cB BB) := by
    rw [hw_23]; exact zput_tg h_21 h_38 (by simp)
  have h_40 : w_31.1 bi = some (145, br, tTb 2 cB BB) := by
    rw [hw_32]; exact zput_tg h_30 h_39 (by simp)
  obtain ⟨w_41, hw_42⟩ : ∃ ww, ww = zput w_31 bi (145, br, tTb 2 cB ([] : List (List Int))) := ⟨_, rfl⟩
  have q_43 : w_41.2.1 = w_31.2.1 ∧ w_41.2.2 = w_31.2.2 := by rw [hw_42]; exact ⟨rfl, rfl⟩
  have h_44 : w_41.1 bi = some (145, br, tTb 2 cB ([] : List (List Int))) := by rw [hw_42]; exact zput_at
  refine zx_iv (b := bi) (As := [zI 0]) (st := []) (v := none) (w1 := w_41) dX0_begin_45 zc_X0_92 h_40 (z_cls9 (by decide)) rfl rfl (Nat.le_of_ble_eq_true rfl) rfl (by rw [hw_42]; exact (by have q := c_X9_cut (G := G) (d := d + 4) h_40 (by decide) okB 0; rw [tcut_0] at q; exact q)) ?_
  refine zx_st (st1 := []) rfl ?_
  refine zx_aload_n (i := 0) dX0_begin_48 rfl rfl ?_
  have h_45 : w_41.1 br = some (0, 0, [zR pg, zR t, zR nd, zI gc, zR va, zR ce, zR li, zR ro, zI fr, zR bi, zR le, zR wk, zI tk, zI rs, zI rd]) := by
    rw [hw_42]; exact zput_tg h_40 h_35 (by simp)
  refine zx_getfield dX0_begin_49 zf_X0_43 h_45 rfl ?_
  refine zx_iconst (v := 0) dX0_begin_52 rfl (z32_lit (by decide) (by decide)) ?_
  have h_46 : w_1.1 le = some (146, br, tTb 4 cE EE) := by
    rw [hw_2]; exact zput_tg hnd hle (by simp)
  have h_47 : w_7.1 le = some (146, br, tTb 4 cE EE) := by
    rw [hw_8]; exact zput_tg h_6 h_46 (by simp)
  have h_48 : w_14.1 le = some (146, br, tTb 4 cE EE) := by
    rw [hw_15]; exact zput_tg h_13 h_47 (by simp)
  have h_49 : w_22.1 le = some (146, br, tTb 4 cE EE) := by
    rw [hw_23]; exact zput_tg h_21 h_48 (by simp)
  have h_50 : w_31.1 le = some (146, br, tTb 4 cE EE) := by
    rw [hw_32]; exact zput_tg h_30 h_49 (by simp)
  have h_51 : w_41.1 le = some (146, br, tTb 4 cE EE) := by
    rw [hw_42]; exact zput_tg h_40 h_50 (by simp)
  obtain ⟨w_52, hw_53⟩ : ∃ ww, ww = zput w_41 le (146, br, tTb 4 cE ([] : List (List Int))) := ⟨_, rfl⟩
  have q_54 : w_52.2.1 = w_41.2.1 ∧ w_52.2.2 = w_41.2.2 := by rw [hw_53]; exact ⟨rfl, rfl⟩
  have h_55 : w_52.1 le = some (146, br, tTb 4 cE ([] : List (List Int))) := by rw [hw_53]; exact zput_at
  refine zx_iv (b := le) (As := [zI 0]) (st := []) (v := none) (w1 := w_52) dX0_begin_53 zc_X0_92 h_51 (z_cls9 (by decide)) rfl rfl (Nat.le_of_ble_eq_true rfl) rfl (by rw [hw_53]; exact (by have q := c_X9_cut (G := G) (d := d + 4) h_51 (by decide) okE 0; rw [tcut_0] at q; exact q)) ?_
  refine zx_st (st1 := []) rfl ?_
  refine zx_aload_n (i := 0) dX0_begin_56 rfl rfl ?_
  refine zx_iconst (v := 0) dX0_begin_57 rfl (z32_lit (by decide) (by decide)) ?_
  have h_56 : w_52.1 br = some (0, 0, [zR pg, zR t, zR nd, zI gc, zR va, zR ce, zR li, zR ro, zI fr, zR bi, zR le, zR wk, zI tk, zI rs, zI rd]) := by
    rw [hw_53]; exact zput_tg h_51 h_45 (by simp)
  obtain ⟨w_57, hw_58⟩ : ∃ ww, ww = zput w_52 br (0, 0, [zR pg, zR t, zR nd, zI gc, zR va, zR ce, zR li, zR ro, zI 0, zR bi, zR le, zR wk, zI tk, zI rs, zI rd]) := ⟨_, rfl⟩
  refine zx_put (w1 := w_57) dX0_begin_58 zf_X0_66 h_56 (Nat.le_of_ble_eq_true rfl) (zFt_int _) (fun h => by cases h) hw_58.symm ?_
  have q_59 : w_57.2.1 = w_52.2.1 ∧ w_57.2.2 = w_52.2.2 := by rw [hw_58]; exact ⟨rfl, rfl⟩
  have h_60 : w_57.1 br = some (0, 0, [zR pg, zR t, zR nd, zI gc, zR va, zR ce, zR li, zR ro, zI 0, zR bi, zR le, zR wk, zI tk, zI rs, zI rd]) := by rw [hw_58]; exact zput_at
  refine zx_aload_n (i := 0) dX0_begin_61 rfl rfl ?_
  refine zx_iconst (v := 0) dX0_begin_62 rfl (z32_lit (by decide) (by decide)) ?_
  obtain ⟨w_61, hw_62⟩ : ∃ ww, ww = zput w_57 br (0, 0, [zR pg, zR t, zR nd, zI gc, zR va, zR ce, zR li, zR ro, zI 0, zR bi, zR le, zR wk, zI 0, zI rs, zI rd]) := ⟨_, rfl⟩
  refine zx_put (w1 := w_61) dX0_begin_63 zf_X0_78 h_60 (Nat.le_of_ble_eq_true rfl) (zFt_int _) (fun h => by cases h) hw_62.symm ?_
  have q_63 : w_61.2.1 = w_57.2.1 ∧ w_61.2.2 = w_57.2.2 := by rw [hw_62]; exact ⟨rfl, rfl⟩
  have h_64 : w_61.1 br = some (0, 0, [zR pg, zR t, zR nd, zI gc, zR va, zR ce, zR li, zR ro, zI 0, zR bi, zR le, zR wk, zI 0, zI rs, zI rd]) := by rw [hw_62]; exact zput_at
  refine zx_aload_n (i := 0) dX0_begin_66 rfl rfl ?_
  refine zx_pc (pc1 := 67) rfl ?_
  refine zx_iconst (v := -1) dX0_begin_67 rfl (z32_lit (by decide) (by decide)) ?_
  obtain ⟨w_65, hw_66⟩ : ∃ ww, ww = zput w_61 br (0, 0, [zR pg, zR t, zR nd, zI gc, zR va, zR ce, zR li, zR ro, zI 0, zR bi, zR le, zR wk, zI 0, zI (-1), zI rd]) := ⟨_, rfl⟩
  refine zx_put (w1 := w_65) dX0_begin_68 zf_X0_95 h_64 (Nat.le_of_ble_eq_true rfl) (zFt_int _) (fun h => by cases h) hw_66.symm ?_
  have q_67 : w_65.2.1 = w_61.2.1 ∧ w_65.2.2 = w_61.2.2 := by rw [hw_66]; exact ⟨rfl, rfl⟩
  have h_68 : w_65.1 br = some (0, 0, [zR pg, zR t, zR nd, zI gc, zR va, zR ce, zR li, zR ro, zI 0, zR bi, zR le, zR wk, zI 0, zI (-1), zI rd]) := by rw [hw_66]; exact zput_at
  refine zx_aload_n (i := 0) dX0_begin_71 rfl rfl ?_
  refine zx_iconst (v := 0) dX0_begin_72 rfl (z32_lit (by decide) (by decide)) ?_
  obtain ⟨w_69, hw_70⟩ : ∃ ww, ww = zput w_65 br (0, 0, [zR pg, zR t, zR nd, zI gc, zR va, zR ce, zR li, zR ro, zI 0, zR bi, zR le, zR wk, zI 0, zI (-1), zI 0]) := ⟨_, rfl⟩
  refine zx_put (w1 := w_69) dX0_begin_73 zf_X0_98 h_68 (Nat.le_of_ble_eq_true rfl) (zFt_int _) (fun h => by cases h) hw_70.symm ?_
  have q_71 : w_69.2.1 = w_65.2.1 ∧ w_69.2.2 = w_65.2.2 := by rw [hw_70]; exact ⟨rfl, rfl⟩
  have h_72 : w_69.1 br = some (0, 0, [zR pg, zR t, zR nd, zI gc, zR va, zR ce, zR li, zR ro, zI 0, zR bi, zR le, zR wk, zI 0, zI (-1), zI 0]) := by rw [hw_70]; exact zput_at
  refine zx_iconst (v := 0) dX0_begin_76 rfl (z32_lit (by decide) (by decide)) ?_
  refine zx_istore_n (i := 3) dX0_begin_77 rfl (by decide) rfl ?_
  refine zx_L (L1 := [some (zR br), some (zR y), some (zR rp), some (zI 0), none]) rfl ?_
  have hfaL9 : zFa [nd, va, ce, li, ro, bi, le, br] w w_69 := (zFa_put (zFa_put (zFa_put (zFa_put (zFa_put (zFa_put (zFa_put (zFa_put (zFa_put (zFa_put (zFa_put zFa_re (by simp) hw_2) (by simp) hw_8) (by simp) hw_15) (by simp) hw_23) (by simp) hw_32) (by simp) hw_42) (by simp) hw_53) (by simp) hw_58) (by simp) hw_62) (by simp) hw_66) (by simp) hw_70)
  have hF9 : zFr TB w w_69 := zFr_fa hfaL9 (zLc hnd (by simp) (zLc hva (by simp) (zLc hce (by simp) (zLc hli (by simp) (zLc hro (by simp) (zLc hbi (by simp) (zLc hle (by simp) (zLc hbr (by simp) zLn))))))))
  have h_73 : w_7.1 nd = some (140, br, tTb 5 cN ([] : List (List Int))) := by
    rw [hw_8]; exact zput_tg h_6 h_4 (by simp)
  have h_74 : w_14.1 nd = some (140, br, tTb 5 cN ([] : List (List Int))) := by
    rw [hw_15]; exact zput_tg h_13 h_73 (by simp)
  have h_75 : w_22.1 nd = some (140, br, tTb 5 cN ([] : List (List Int))) := by
    rw [hw_23]; exact zput_tg h_21 h_74 (by simp)
  have h_76 : w_31.1 nd = some (140, br, tTb 5 cN ([] : List (List Int))) := by
    rw [hw_32]; exact zput_tg h_30 h_75 (by simp)
  have h_77 : w_41.1 nd = some (140, br, tTb 5 cN ([] : List (List Int))) := by
    rw [hw_42]; exact zput_tg h_40 h_76 (by simp)
  have h_78 : w_52.1 nd = some (140, br, tTb 5 cN ([] : List (List Int))) := by
    rw [hw_53]; exact zput_tg h_51 h_77 (by simp)
  have h_79 : w_57.1 nd = some (140, br, tTb 5 cN ([] : List (List Int))) := by
    rw [hw_58]; exact zput_tg h_56 h_78 (by simp)
  have h_80 : w_61.1 nd = some (140, br, tTb 5 cN ([] : List (List Int))) := by
    rw [hw_62]; exact zput_tg h_60 h_79 (by simp)
  have h_81 : w_65.1 nd = some (140, br, tTb 5 cN ([] : List (List Int))) := by
    rw [hw_66]; exact zput_tg h_64 h_80 (by simp)
  have h_82 : w_69.1 nd = some (140, br, tTb 5 cN ([] : List (List Int))) := by
    rw [hw_70]; exact zput_tg h_68 h_81 (by simp)
  have h_83 : w_14.1 va = some (141, br, tTb 1 cV ([] : List (List Int))) := by
    rw [hw_15]; exact zput_tg h_13 h_10 (by simp)
  have h_84 : w_22.1 va = some (141, br, tTb 1 cV ([] : List (List Int))) := by
    rw [hw_23]; exact zput_tg h_21 h_83 (by simp)
  have h_85 : w_31.1 va = some (141, br, tTb 1 cV ([] : List (List Int))) := by
    rw [hw_32]; exact zput_tg h_30 h_84 (by simp)
  have h_86 : w_41.1 va = some (141, br, tTb 1 cV ([] : List (List Int))) := by
    rw [hw_42]; exact zput_tg h_40 h_85 (by simp)
  have h_87 : w_52.1 va = some (141, br, tTb 1 cV ([] : List (List Int))) := by
    rw [hw_53]; exact zput_tg h_51 h_86 (by simp)
  have h_88 : w_57.1 va = some (141, br, tTb 1 cV ([] : List (List Int))) := by
    rw [hw_58]; exact zput_tg h_56 h_87 (by simp)
  have h_89 : w_61.1 va = some (141, br, tTb 1 cV ([] : List (List Int))) := by
    rw [hw_62]; exact zput_tg h_60 h_88 (by simp)
  have h_90 : w_65.1 va = some (141, br, tTb 1 cV ([] : List (List Int))) := by
    rw [hw_66]; exact zput_tg h_64 h_89 (by simp)
  have h_91 : w_69.1 va = some (141, br, tTb 1 cV ([] : List (List Int))) := by
    rw [hw_70]; exact zput_tg h_68 h_90 (by simp)
  have h_92 : w_22.1 ce = some (142, br, tTb 3 cC ([] : List (List Int))) := by
    rw [hw_23]; exact zput_tg h_21 h_17 (by simp)
  have h_93 : w_31.1 ce = some (142, br, tTb 3 cC ([] : List (List Int))) := by
    rw [hw_32]; exact zput_tg h_30 h_92 (by simp)
  have h_94 : w_41.1 ce = some (142, br, tTb 3 cC ([] : List (List Int))) := by
    rw [hw_42]; exact zput_tg h_40 h_93 (by simp)
  have h_95 : w_52.1 ce = some (142, br, tTb 3 cC ([] : List (List Int))) := by
    rw [hw_53]; exact zput_tg h_51 h_94 (by simp)
  have h_96 : w_57.1 ce = some (142, br, tTb 3 cC ([] : List (List Int))) := by
    rw [hw_58]; exact zput_tg h_56 h_95 (by simp)
  have h_97 : w_61.1 ce = some (142, br, tTb 3 cC ([] : List (List Int))) := by
    rw [hw_62]; exact zput_tg h_60 h_96 (by simp)
  have h_98 : w_65.1 ce = some (142, br, tTb 3 cC ([] : List (List Int))) := by
    rw [hw_66]; exact zput_tg h_64 h_97 (by simp)
  have h_99 : w_69.1 ce = some (142, br, tTb 3 cC ([] : List (List Int))) := by
    rw [hw_70]; exact zput_tg h_68 h_98 (by simp)
  have h_100 : w_31.1 li = some (143, br, tTb 4 cL ([] : List (List Int))) := by
    rw [hw_32]; exact zput_tg h_30 h_25 (by simp)
  have h_101 : w_41.1 li = some (143, br, tTb 4 cL ([] : List (List Int))) := by
    rw [hw_42]; exact zput_tg h_40 h_100 (by simp)
  have h_102 : w_52.1 li = some (143, br, tTb 4 cL ([] : List (List Int))) := by
    rw [hw_53]; exact zput_tg h_51 h_101 (by simp)
  have h_103 : w_57.1 li = some (143, br, tTb 4 cL ([] : List (List Int))) := by
    rw [hw_58]; exact zput_tg h_56 h_102 (by simp)
  have h_104 : w_61.1 li = some (143, br, tTb 4 cL ([] : List (List Int))) := by
    rw [hw_62]; exact zput_tg h_60 h_103 (by simp)
  have h_105 : w_65.1 li = some (143, br, tTb 4 cL ([] : List (List Int))) := by
    rw [hw_66]; exact zput_tg h_64 h_104 (by simp)
  have h_106 : w_69.1 li = some (143, br, tTb 4 cL ([] : List (List Int))) := by
    rw [hw_70]; exact zput_tg h_68 h_105 (by simp)
  have h_107 : w_41.1 ro = some (144, br, tTb 6 cR ([] : List (List Int))) := by
    rw [hw_42]; exact zput_tg h_40 h_34 (by simp)
  have h_108 : w_52.1 ro = some (144, br, tTb 6 cR ([] : List (List Int))) := by
    rw [hw_53]; exact zput_tg h_51 h_107 (by simp)
  have h_109 : w_57.1 ro = some (144, br, tTb 6 cR ([] : List (List Int))) := by
    rw [hw_58]; exact zput_tg h_56 h_108 (by simp)
  have h_110 : w_61.1 ro = some (144, br, tTb 6 cR ([] : List (List Int))) := by
    rw [hw_62]; exact zput_tg h_60 h_109 (by simp)
  have h_111 : w_65.1 ro = some (144, br, tTb 6 cR ([] : List (List Int))) := by
    rw [hw_66]; exact zput_tg h_64 h_110 (by simp)
  have h_112 : w_69.1 ro = some (144, br, tTb 6 cR ([] : List (List Int))) := by
    rw [hw_70]; exact zput_tg h_68 h_111 (by simp)
  have h_113 : w_52.1 bi = some (145, br, tTb 2 cB ([] : List (List Int))) := by
    rw [hw_53]; exact zput_tg h_51 h_44 (by simp)
  have h_114 : w_57.1 bi = some (145, br, tTb 2 cB ([] : List (List Int))) := by
    rw [hw_58]; exact zput_tg h_56 h_113 (by simp)
  have h_115 : w_61.1 bi = some (145, br, tTb 2 cB ([] : List (List Int))) := by
    rw [hw_62]; exact zput_tg h_60 h_114 (by simp)
  have h_116 : w_65.1 bi = some (145, br, tTb 2 cB ([] : List (List Int))) := by
    rw [hw_66]; exact zput_tg h_64 h_115 (by simp)
  have h_117 : w_69.1 bi = some (145, br, tTb 2 cB ([] : List (List Int))) := by
    rw [hw_70]; exact zput_tg h_68 h_116 (by simp)
  have h_118 : w_57.1 le = some (146, br, tTb 4 cE ([] : List (List Int))) := by
    rw [hw_58]; exact zput_tg h_56 h_55 (by simp)
  have h_119 : w_61.1 le = some (146, br, tTb 4 cE ([] : List (List Int))) := by
    rw [hw_62]; exact zput_tg h_60 h_118 (by simp)
  have h_120 : w_65.1 le = some (146, br, tTb 4 cE ([] : List (List Int))) := by
    rw [hw_66]; exact zput_tg h_64 h_119 (by simp)
  have h_121 : w_69.1 le = some (146, br, tTb 4 cE ([] : List (List Int))) := by
    rw [hw_70]; exact zput_tg h_68 h_120 (by simp)
  have h_122 : w_1.1 wk = some (147, br, tTb 3 cW WW) := by
    rw [hw_2]; exact zput_tg hnd hwk (by simp)
  have h_123 : w_7.1 wk = some (147, br, tTb 3 cW WW) := by
    rw [hw_8]; exact zput_tg h_6 h_122 (by simp)
  have h_124 : w_14.1 wk = some (147, br, tTb 3 cW WW) := by
    rw [hw_15]; exact zput_tg h_13 h_123 (by simp)
  have h_125 : w_22.1 wk = some (147, br, tTb 3 cW WW) := by
    rw [hw_23]; exact zput_tg h_21 h_124 (by simp)
  have h_126 : w_31.1 wk = some (147, br, tTb 3 cW WW) := by
    rw [hw_32]; exact zput_tg h_30 h_125 (by simp)
  have h_127 : w_41.1 wk = some (147, br, tTb 3 cW WW) := by
    rw [hw_42]; exact zput_tg h_40 h_126 (by simp)
  have h_128 : w_52.1 wk = some (147, br, tTb 3 cW WW) := by
    rw [hw_53]; exact zput_tg h_51 h_127 (by simp)
  have h_129 : w_57.1 wk = some (147, br, tTb 3 cW WW) := by
    rw [hw_58]; exact zput_tg h_56 h_128 (by simp)
  have h_130 : w_61.1 wk = some (147, br, tTb 3 cW WW) := by
    rw [hw_62]; exact zput_tg h_60 h_129 (by simp)
  have h_131 : w_65.1 wk = some (147, br, tTb 3 cW WW) := by
    rw [hw_66]; exact zput_tg h_64 h_130 (by simp)
  have h_132 : w_69.1 wk = some (147, br, tTb 3 cW WW) := by
    rw [hw_70]; exact zput_tg h_68 h_131 (by simp)
  have hB9 : bbW w_69 b1 b2 ((br, pg, t), (nd, va, ce, li), (ro, bi, le, wk)) (((cN, ([] : List (List Int))), (cV, ([] : List (List Int))), (cC, ([] : List (List Int))), (cL, ([] : List (List Int)))), ((cR, ([] : List (List Int))), (cB, ([] : List (List Int))), (cE, ([] : List (List Int))), (cW, WW)), (gc, 0, 0, (-1), 0)) := ⟨h_72, ⟨⟨h_82, (tOk_nil (by decide))⟩, ⟨h_91, (tOk_nil (by decide))⟩, ⟨h_99, (tOk_nil (by decide))⟩, ⟨h_106, (tOk_nil (by decide))⟩⟩, ⟨⟨h_112, (tOk_nil (by decide))⟩, ⟨h_117, (tOk_nil (by decide))⟩, ⟨h_121, (tOk_nil (by decide))⟩, ⟨h_132, okW⟩⟩, ⟨⟨by omega, by omega, by omega, by omega⟩, ⟨by omega, by omega, by omega, by omega⟩⟩, ⟨⟨by omega, by omega, by omega, by omega⟩, ⟨by omega, by omega, by omega, by omega⟩⟩, by omega, by omega⟩
  exact k _ hB9 hF9
theorem bg_t (hB : bbW w b1 b2 ((br, pg, t), (nd, va, ce, li), (ro, bi, le, wk)) (((cN, NN), (cV, VV), (cC, CC), (cL, LL)), ((cR, RR), (cB, BB), (cE, EE), (cW, WW)), (gc, fr, tk, rs, rd))) (hG1 : b1 + 1800000 ≤ 30 * G.2.2.2.2.1) (hG2 : b2 + 3700000 ≤ G.2.2.2.2.2) (hT : tmW w t tc tn th tz ty C3 TN TH TS) (hq : q < TN.length) (hTl : TN.length ≤ 200) (hlN : NN.length < 3900) (k : ∀ w1, bbW w1 b1 b2 ((br, pg, t), (nd, va, ce, li), (ro, bi, le, wk)) ((((tCap 5 cN NN), (NN ++ [trow 5 (tg TN (q : Int) 0) (tmPt TN (q : Int) 0) (tmPt TN (q : Int) 1)])), (cV, VV), (cC, CC), (cL, LL)), ((cR, RR), (cB, BB), (cE, EE), (cW, WW)), (gc, fr, tk, rs, rd)) → zFr TB w w1 → zX G zm_X0_begin (d + 5) [zR br, zR y, zR rp] w0 (zVoid PV) 78 [some (zR br), some (zR y), some (zR rp), some (zI ((q + 1 : Nat) : Int)), o4] [] w1) : zX G zm_X0_begin (d + 5) [zR br, zR y, zR rp] w0 (zVoid PV) 78 [some (zR br), some (zR y), some (zR rp), some (zI (q : Int)), o4] [] w := by
  obtain ⟨hbr, ⟨⟨hnd, okN⟩, ⟨hva, okV⟩, ⟨hce, okC⟩, ⟨hli, okL⟩⟩, ⟨⟨hro, okR⟩, ⟨hbi, okB⟩, ⟨hle, okE⟩, ⟨hwk, okW⟩⟩, ⟨⟨c1N, c1V, c1C, c1L⟩, ⟨c1R, c1B, c1E, c1W⟩⟩, ⟨⟨c2N, c2V, c2C, c2L⟩, ⟨c2R, c2B, c2E, c2W⟩⟩, hrm1, hrm2⟩ := id hB
  refine zx_iload_n (i := 3) dX0_begin_78 rfl rfl ?_
  refine zx_aload_n (i := 0) dX0_begin_79 rfl rfl ?_
  refine zx_getfield dX0_begin_80 zf_X0_15 hbr rfl ?_
  refine zx_iv (b := t) (As := []) (st := [zI (q : Int)]) (v := (some (zI (TN.length : Int)))) (w1 := w) dX0_begin_83 zc_X0_101 hT.1 rfl rfl rfl (Nat.le_of_ble_eq_true rfl) rfl (c_X10_termCount hT) ?_
  refine zx_st (st1 := [zI (TN.length : Int), zI (q : Int)]) rfl ?_
  refine zx_icmp_ge (tgt := 129) dX0_begin_86 (by decide) (fun h86 => absurd h86 (by omega)) (fun h86 => ?_)
  refine zx_aload_n (i := 0) dX0_begin_89 rfl rfl ?_
  refine zx_getfield dX0_begin_90 zf_X0_24 hbr rfl ?_
  refine zx_aload_n (i := 0) dX0_begin_93 rfl rfl ?_
  refine zx_getfield dX0_begin_94 zf_X0_15 hbr rfl ?_
  refine zx_iload_n (i := 3) dX0_begin_97 rfl rfl ?_
  refine zx_iv (b := t) (As := [zI (q : Int)]) (st := [zR nd]) (v := (some (zI (tg TN (q : Int) 0)))) (w1 := w) dX0_begin_98 zc_X0_106 hT.1 rfl rfl rfl (Nat.le_of_ble_eq_true rfl) rfl (c_X10_headOf hT (q : Int)) ?_
  refine zx_st (st1 := [zI (tg TN (q : Int) 0), zR nd]) rfl ?_
  refine zx_pc (pc1 := 101) rfl ?_
  refine zx_aload_n (i := 0) dX0_begin_101 rfl rfl ?_
  refine zx_getfield dX0_begin_102 zf_X0_15 hbr rfl ?_
  refine zx_iload_n (i := 3) dX0_begin_105 rfl rfl ?_
  refine zx_iconst (v := 0) dX0_begin_106 rfl (z32_lit (by decide) (by decide)) ?_
  refine zx_iv (b := t) (As := [zI (q : Int), zI 0]) (st := [zI (tg TN (q : Int) 0), zR nd]) (v := (some (zI (tmPt TN (q : Int) 0)))) (w1 := w) dX0_begin_107 zc_X0_110 hT.1 rfl rfl rfl (Nat.le_of_ble_eq_true rfl) rfl (c_X10_part hT (q : Int) 0) ?_
  refine zx_st (st1 := [zI (tmPt TN (q : Int) 0), zI (tg TN (q : Int) 0), zR nd]) rfl ?_
  refine zx_aload_n (i := 0) dX0_begin_110 rfl rfl ?_
  refine zx_getfield dX0_begin_111 zf_X0_15 hbr rfl ?_
  refine zx_iload_n (i := 3) dX0_begin_114 rfl rfl ?_
  refine zx_iconst (v := 1) dX0_begin_115 rfl (z32_lit (by decide) (by decide)) ?_
  refine zx_iv (b := t) (As := [zI (q : Int), zI 1]) (st := [zI (tmPt TN (q : Int) 0), zI (tg TN (q : Int) 0), zR nd]) (v := (some (zI (tmPt TN (q : Int) 1)))) (w1 := w) dX0_begin_116 zc_X0_110 hT.1 rfl rfl rfl (Nat.le_of_ble_eq_true rfl) rfl (c_X10_part hT (q : Int) 1) ?_
  refine zx_st (st1 := [zI (tmPt TN (q : Int) 1), zI (tmPt TN (q : Int) 0), zI (tg TN (q : Int) 0), zR nd]) rfl ?_
  refine zx_ok (fun ok_1 => ?_)
  obtain ⟨w_2, hw_3⟩ : ∃ ww, ww = tAw w nd 140 br 5 cN NN (trow 5 (tg TN (q : Int) 0) (tmPt TN (q : Int) 0) (tmPt TN (q : Int) 1)) := ⟨_, rfl⟩
  have h_4 : w_2.1 nd = some (140, br, tTb 5 (tCap 5 cN NN) (NN ++ [(trow 5 (tg TN (q : Int) 0) (tmPt TN (q : Int) 0) (tmPt TN (q : Int) 1))])) := by rw [hw_3]; exact tAw_at
  have qhw_3 := tAw_sz3 (w := w) (a := nd) (t := 140) (ow := br) (c := 5) (cap := cN) (rows := NN) (r := (trow 5 (tg TN (q : Int) 0) (tmPt TN (q : Int) 0) (tmPt TN (q : Int) 1))) (by omega)
  rw [← hw_3] at qhw_3
  refine zx_iv (b := nd) (As := [zI (tg TN (q : Int) 0), zI (tmPt TN (q : Int) 0), zI (tmPt TN (q : Int) 1)]) (st := []) (v := (some (zI (NN.length : Int)))) (w1 := w_2) dX0_begin_119 zc_X0_113 hnd (z_cls9 (by decide)) rfl rfl (Nat.le_of_ble_eq_true rfl) rfl (by rw [hw_3]; exact (c_X9_add hnd (by decide) okN (by omega) (by by_cases cg : NN.length * 5 + 5 ≤ cN; exact Or.inl cg; exact Or.inr ⟨by omega, by omega⟩) (tg TN (q : Int) 0) (tmPt TN (q : Int) 0) (tmPt TN (q : Int) 1))) ?_
  refine zx_st (st1 := [zI (NN.length : Int)]) rfl ?_
  refine zx_pop dX0_begin_122 (fun a h => by cases h) ?_
  refine zx_pc (pc1 := 123) rfl ?_
  refine zx_iinc (i := 3) (v := ((q + 1 : Nat) : Int)) dX0_begin_123 rfl (zw_eq (by omega) (by omega) (by omega)) (by decide) rfl ?_
  refine zx_L (L1 := [some (zR br), some (zR y), some (zR rp), some (zI ((q + 1 : Nat) : Int)), o4]) rfl ?_
  refine zx_goto (tgt := 78) dX0_begin_126 (by decide) ?_
  have hfaL9 : zFa [nd] w w_2 := (zFa_taw zFa_re (by simp) ok_1 hw_3)
  have hF9 : zFr TB w w_2 := zFr_fa hfaL9 (zLc hnd (by simp) zLn)
  have h_5 : w_2.1 va = some (141, br, tTb 1 cV VV) := by
    rw [hw_3]; exact (tAw_to ok_1 (zne_tg hnd hva (by simp)) hva)
  have h_6 : w_2.1 ce = some (142, br, tTb 3 cC CC) := by
    rw [hw_3]; exact (tAw_to ok_1 (zne_tg hnd hce (by simp)) hce)
  have h_7 : w_2.1 li = some (143, br, tTb 4 cL LL) := by
    rw [hw_3]; exact (tAw_to ok_1 (zne_tg hnd hli (by simp)) hli)
  have h_8 : w_2.1 ro = some (144, br, tTb 6 cR RR) := by
    rw [hw_3]; exact (tAw_to ok_1 (zne_tg hnd hro (by simp)) hro)
  have h_9 : w_2.1 bi = some (145, br, tTb 2 cB BB) := by
    rw [hw_3]; exact (tAw_to ok_1 (zne_tg hnd hbi (by simp)) hbi)
  have h_10 : w_2.1 le = some (146, br, tTb 4 cE EE) := by
    rw [hw_3]; exact (tAw_to ok_1 (zne_tg hnd hle (by simp)) hle)
  have h_11 : w_2.1 wk = some (147, br, tTb 3 cW WW) := by
    rw [hw_3]; exact (tAw_to ok_1 (zne_tg hnd hwk (by simp)) hwk)
  have h_12 : w_2.1 br = some (0, 0, [zR pg, zR t, zR nd, zI gc, zR va, zR ce, zR li, zR ro, zI fr, zR bi, zR le, zR wk, zI tk, zI rs, zI rd]) := by
    rw [hw_3]; exact (tAw_to ok_1 (zne_tg hnd hbr (by simp)) hbr)
  have hB9 : bbW w_2 b1 b2 ((br, pg, t), (nd, va, ce, li), (ro, bi, le, wk)) ((((tCap 5 cN NN), (NN ++ [(trow 5 (tg TN (q : Int) 0) (tmPt TN (q : Int) 0) (tmPt TN (q : Int) 1))])), (cV, VV), (cC, CC), (cL, LL)), ((cR, RR), (cB, BB), (cE, EE), (cW, WW)), (gc, fr, tk, rs, rd)) := ⟨h_12, ⟨⟨h_4, (tOk_app okN (by first | exact trow_len | rfl))⟩, ⟨h_5, okV⟩, ⟨h_6, okC⟩, ⟨h_7, okL⟩⟩, ⟨⟨h_8, okR⟩, ⟨h_9, okB⟩, ⟨h_10, okE⟩, ⟨h_11, okW⟩⟩, ⟨⟨by omega, by omega, by omega, by omega⟩, ⟨by omega, by omega, by omega, by omega⟩⟩, ⟨⟨by omega, by omega, by omega, by omega⟩, ⟨by omega, by omega, by omega, by omega⟩⟩, by omega, by omega⟩
  exact k _ hB9 hF9
theorem bg_1 (hB : bbW w b1 b2 ((br, pg, t), (nd, va, ce, li), (ro, bi, le, wk)) (((cN, NN), (cV, VV), (cC, CC), (cL, LL)), ((cR, RR), (cB, BB), (cE, EE), (cW, WW)), (gc, fr, tk, rs, rd))) (hT : tmW w t tc tn th tz ty C3 TN TH TS) (k : ∀ w1, bbW w1 b1 b2 ((br, pg, t), (nd, va, ce, li), (ro, bi, le, wk)) (((cN, NN), (cV, VV), (cC, CC), (cL, LL)), ((cR, RR), (cB, BB), (cE, EE), (cW, WW)), ((NN.length : Int), fr, tk, rs, rd)) → zFr TB w w1 → zX G zm_X0_begin (d + 5) [zR br, zR y, zR rp] w0 (zVoid PV) 142 [some (zR br), some (zR y), some (zR rp), some (zI 0), o4] [] w1) : zX G zm_X0_begin (d + 5) [zR br, zR y, zR rp] w0 (zVoid PV) 78 [some (zR br), some (zR y), some (zR rp), some (zI (TN.length : Int)), o4] [] w := by
  obtain ⟨hbr, ⟨⟨hnd, okN⟩, ⟨hva, okV⟩, ⟨hce, okC⟩, ⟨hli, okL⟩⟩, ⟨⟨hro, okR⟩, ⟨hbi, okB⟩, ⟨hle, okE⟩, ⟨hwk, okW⟩⟩, ⟨⟨c1N, c1V, c1C, c1L⟩, ⟨c1R, c1B, c1E, c1W⟩⟩, ⟨⟨c2N, c2V, c2C, c2L⟩, ⟨c2R, c2B, c2E, c2W⟩⟩, hrm1, hrm2⟩ := id hB
  refine zx_iload_n (i := 3) dX0_begin_78 rfl rfl ?_
  refine zx_aload_n (i := 0) dX0_begin_79 rfl rfl ?_
  refine zx_getfield dX0_begin_80 zf_X0_15 hbr rfl ?_
  refine zx_iv (b := t) (As := []) (st := [zI (TN.length : Int)]) (v := (some (zI (TN.length : Int)))) (w1 := w) dX0_begin_83 zc_X0_101 hT.1 rfl rfl rfl (Nat.le_of_ble_eq_true rfl) rfl (c_X10_termCount hT) ?_
  refine zx_st (st1 := [zI (TN.length : Int), zI (TN.length : Int)]) rfl ?_
  refine zx_icmp_ge (tgt := 129) dX0_begin_86 (by decide) (fun h86 => ?_) (fun h86 => absurd (by omega) h86)
  refine zx_aload_n (i := 0) dX0_begin_129 rfl rfl ?_
  refine zx_aload_n (i := 0) dX0_begin_130 rfl rfl ?_
  refine zx_getfield dX0_begin_131 zf_X0_24 hbr rfl ?_
  refine zx_iv (b := nd) (As := []) (st := [zR br]) (v := (some (zI (NN.length : Int)))) (w1 := w) dX0_begin_134 zc_X0_70 hnd (z_cls9 (by decide)) rfl rfl (Nat.le_of_ble_eq_true rfl) rfl (c_X9_count hnd (by decide) okN) ?_
  refine zx_st (st1 := [zI (NN.length : Int), zR br]) rfl ?_
  obtain ⟨w_1, hw_2⟩ : ∃ ww, ww = zput w br (0, 0, [zR pg, zR t, zR nd, zI (NN.length : Int), zR va, zR ce, zR li, zR ro, zI fr, zR bi, zR le, zR wk, zI tk, zI rs, zI rd]) := ⟨_, rfl⟩
  refine zx_put (w1 := w_1) dX0_begin_137 zf_X0_117 hbr (Nat.le_of_ble_eq_true rfl) (zFt_int _) (fun h => by cases h) hw_2.symm ?_
  have q_3 : w_1.2.1 = w.2.1 ∧ w_1.2.2 = w.2.2 := by rw [hw_2]; exact ⟨rfl, rfl⟩
  have h_4 : w_1.1 br = some (0, 0, [zR pg, zR t, zR nd, zI (NN.length : Int), zR va, zR ce, zR li, zR ro, zI fr, zR bi, zR le, zR wk, zI tk, zI rs, zI rd]) := by rw [hw_2]; exact zput_at
  refine zx_iconst (v := 0) dX0_begin_140 rfl (z32_lit (by decide) (by decide)) ?_
  refine zx_pc (pc1 := 141) rfl ?_
  refine zx_istore_n (i := 3) dX0_begin_141 rfl (by decide) rfl ?_
  refine zx_L (L1 := [some (zR br), some (zR y), some (zR rp), some (zI 0), o4]) rfl ?_
  have hfaL9 : zFa [br] w w_1 := (zFa_put zFa_re (by simp) hw_2)
  have hF9 : zFr TB w w_1 := zFr_fa hfaL9 (zLc hbr (by simp) zLn)
  have h_5 : w_1.1 nd = some (140, br, tTb 5 cN NN) := by
    rw [hw_2]; exact zput_tg hbr hnd (by simp)
  have h_6 : w_1.1 va = some (141, br, tTb 1 cV VV) := by
    rw [hw_2]; exact zput_tg hbr hva (by simp)
  have h_7 : w_1.1 ce = some (142, br, tTb 3 cC CC) := by
    rw [hw_2]; exact zput_tg hbr hce (by simp)
  have h_8 : w_1.1 li = some (143, br, tTb 4 cL LL) := by
    rw [hw_2]; exact zput_tg hbr hli (by simp)
  have h_9 : w_1.1 ro = some (144, br, tTb 6 cR RR) := by
    rw [hw_2]; exact zput_tg hbr hro (by simp)
  have h_10 : w_1.1 bi = some (145, br, tTb 2 cB BB) := by
    rw [hw_2]; exact zput_tg hbr hbi (by simp)
  have h_11 : w_1.1 le = some (146, br, tTb 4 cE EE) := by
    rw [hw_2]; exact zput_tg hbr hle (by simp)
  have h_12 : w_1.1 wk = some (147, br, tTb 3 cW WW) := by
    rw [hw_2]; exact zput_tg hbr hwk (by simp)
  have hB9 : bbW w_1 b1 b2 ((br, pg, t), (nd, va, ce, li), (ro, bi, le, wk)) (((cN, NN), (cV, VV), (cC, CC), (cL, LL)), ((cR, RR), (cB, BB), (cE, EE), (cW, WW)), ((NN.length : Int), fr, tk, rs, rd)) := ⟨h_4, ⟨⟨h_5, okN⟩, ⟨h_6, okV⟩, ⟨h_7, okC⟩, ⟨h_8, okL⟩⟩, ⟨⟨h_9, okR⟩, ⟨h_10, okB⟩, ⟨h_11, okE⟩, ⟨h_12, okW⟩⟩, ⟨⟨by omega, by omega, by omega, by omega⟩, ⟨by omega, by omega, by omega, by omega⟩⟩, ⟨⟨by omega, by omega, by omega, by omega⟩, ⟨by omega, by omega, by omega, by omega⟩⟩, by omega, by omega⟩
  exact k _ hB9 hF9
theorem bg_g (hB : bbW w b1 b2 ((br, pg, t), (nd, va, ce, li), (ro, bi, le, wk)) (((cN, NN), (cV, VV), (cC, CC), (cL, LL)), ((cR, RR), (cB, BB), (cE, EE), (cW, WW)), (gc, fr, tk, rs, rd))) (hG1 : b1 + 1800000 ≤ 30 * G.2.2.2.2.1) (hG2 : b2 + 3700000 ≤ G.2.2.2.2.2) (hy : w.1 y = some (6, 0, [zI nu, zR tt0, zR ms, zR cs, zR qq])) (hty : w.1 tt0 = some (134, y, tTb 1 3 TY) ∧ tOk 1 TY) (hR : rpW w rp ri ra rn mo IN AN NT sc cc dc en bk bc) (hq : q < TY.length) (hTY : TY.length ≤ 3) (hlV : VV.length < 6000) (hi : tg IN (q : Int) 0 ≠ -1) (k : ∀ (o4 : Option zV) w1, bbW w1 b1 b2 ((br, pg, t), (nd, va, ce, li), (ro, bi, le, wk)) (((cN, NN), ((tCap 1 cV VV), (VV ++ [trow 1 (tg IN (q : Int) 0) (-1) (-1)])), (cC, CC), (cL, LL)), ((cR, RR), (cB, BB), (cE, EE), (cW, WW)), (gc, fr, tk, rs, rd)) → zFr TB w w1 → zX G zm_X0_begin (d + 5) [zR br, zR y, zR rp] w0 (zVoid PV) 142 [some (zR br), some (zR y), some (zR rp), some (zI ((q + 1 : Nat) : Int)), o4] [] w1) : zX G zm_X0_begin (d + 5) [zR br, zR y, zR rp] w0 (zVoid PV) 142 [some (zR br), some (zR y), some (zR rp), some (zI (q : Int)), o4] [] w := by
  obtain ⟨hbr, ⟨⟨hnd, okN⟩, ⟨hva, okV⟩, ⟨hce, okC⟩, ⟨hli, okL⟩⟩, ⟨⟨hro, okR⟩, ⟨hbi, okB⟩, ⟨hle, okE⟩, ⟨hwk, okW⟩⟩, ⟨⟨c1N, c1V, c1C, c1L⟩, ⟨c1R, c1B, c1E, c1W⟩⟩, ⟨⟨c2N, c2V, c2C, c2L⟩, ⟨c2R, c2B, c2E, c2W⟩⟩, hrm1, hrm2⟩ := id hB
  refine zx_iload_n (i := 3) dX0_begin_142 rfl rfl ?_
  refine zx_aload_n (i := 1) dX0_begin_143 rfl rfl ?_
  refine zx_iv (b := y) (As := []) (st := [zI (q : Int)]) (v := (some (zI (TY.length : Int)))) (w1 := w) dX0_begin_144 zc_X0_120 hy rfl rfl rfl (Nat.le_of_ble_eq_true rfl) rfl (c_X6_arity hy hty.1 hty.2) ?_
  refine zx_st (st1 := [zI (TY.length : Int), zI (q : Int)]) rfl ?_
  refine zx_icmp_ge (tgt := 188) dX0_begin_147 (by decide) (fun h147 => absurd h147 (by omega)) (fun h147 => ?_)
  refine zx_aload_n (i := 2) dX0_begin_150 rfl rfl ?_
  refine zx_iload_n (i := 3) dX0_begin_151 rfl rfl ?_
  refine zx_iv (b := rp) (As := [zI (q : Int)]) (st := []) (v := (some (zI (tg IN (q : Int) 0)))) (w1 := w) dX0_begin_152 zc_X0_125 hR.1 rfl rfl rfl (Nat.le_of_ble_eq_true rfl) rfl (c_X8_inputAt hR (q : Int)) ?_
  refine zx_st (st1 := [zI (tg IN (q : Int) 0)]) rfl ?_
  refine zx_istore (i := 4) dX0_begin_155 (by decide) rfl ?_
  refine zx_L (L1 := [some (zR br), some (zR y), some (zR rp), some (zI (q : Int)), some (zI (tg IN (q : Int) 0))]) rfl ?_
  refine zx_aload_n (i := 0) dX0_begin_157 rfl rfl ?_
  refine zx_getfield dX0_begin_158 zf_X0_28 hbr rfl ?_
  refine zx_iload (i := 4) dX0_begin_161 rfl ?_
  refine zx_pc (pc1 := 163) rfl ?_
  refine zx_iconst (v := -1) dX0_begin_163 rfl (z32_lit (by decide) (by decide)) ?_
  refine zx_icmp_eq (tgt := 172) dX0_begin_164 (by decide) (fun h164 => absurd h164 (hi)) (fun h164 => ?_)
  refine zx_iload (i := 4) dX0_begin_167 rfl ?_
  refine zx_goto (tgt := 176) dX0_begin_169 (by decide) ?_
  refine zx_iconst (v := -1) dX0_begin_176 rfl (z32_lit (by decide) (by decide)) ?_
  refine zx_iconst (v := -1) dX0_begin_177 rfl (z32_lit (by decide) (by decide)) ?_
  refine zx_ok (fun ok_1 => ?_)
  obtain ⟨w_2, hw_3⟩ : ∃ ww, ww = tAw w va 141 br 1 cV VV (trow 1 (tg IN (q : Int) 0) (-1) (-1)) := ⟨_, rfl⟩
  have h_4 : w_2.1 va = some (141, br, tTb 1 (tCap 1 cV VV) (VV ++ [(trow 1 (tg IN (q : Int) 0) (-1) (-1))])) := by rw [hw_3]; exact tAw_at
  have qhw_3 := tAw_sz3 (w := w) (a := va) (t := 141) (ow := br) (c := 1) (cap := cV) (rows := VV) (r := (trow 1 (tg IN (q : Int) 0) (-1) (-1))) (by omega)
  rw [← hw_3] at qhw_3
  refine zx_iv (b := va) (As := [zI (tg IN (q : Int) 0), zI (-1), zI (-1)]) (st := []) (v := (some (zI (VV.length : Int)))) (w1 := w_2) dX0_begin_178 zc_X0_113 hva (z_cls9 (by decide)) rfl rfl (Nat.le_of_ble_eq_true rfl) rfl (by rw [hw_3]; exact (c_X9_add hva (by decide) okV (by omega) (by by_cases cg : VV.length * 1 + 1 ≤ cV; exact Or.inl cg; exact Or.inr ⟨by omega, by omega⟩) (tg IN (q : Int) 0) (-1) (-1))) ?_
  refine zx_st (st1 := [zI (VV.length : Int)]) rfl ?_
  refine zx_pop dX0_begin_181 (fun a h => by cases h) ?_
  refine zx_iinc (i := 3) (v := ((q + 1 : Nat) : Int)) dX0_begin_182 rfl (zw_eq (by omega) (by omega) (by omega)) (by decide) rfl ?_
  refine zx_L (L1 := [some (zR br), some (zR y), some (zR rp), some (zI ((q + 1 : Nat) : Int)), some (zI (tg IN (q : Int) 0))]) rfl ?_
  refine zx_goto (tgt := 142) dX0_begin_185 (by decide) ?_
  have hfaL9 : zFa [va] w w_2 := (zFa_taw zFa_re (by simp) ok_1 hw_3)
  have hF9 : zFr TB w w_2 := zFr_fa hfaL9 (zLc hva (by simp) zLn)
  have h_5 : w_2.1 nd = some (140, br, tTb 5 cN NN) := by
    rw [hw_3]; exact (tAw_to ok_1 (zne_tg hva hnd (by simp)) hnd)
  have h_6 : w_2.1 ce = some (142, br, tTb 3 cC CC) := by
    rw [hw_3]; exact (tAw_to ok_1 (zne_tg hva hce (by simp)) hce)
  have h_7 : w_2.1 li = some (143, br, tTb 4 cL LL) := by
    rw [hw_3]; exact (tAw_to ok_1 (zne_tg hva hli (by simp)) hli)
  have h_8 : w_2.1 ro = some (144, br, tTb 6 cR RR) := by
    rw [hw_3]; exact (tAw_to ok_1 (zne_tg hva hro (by simp)) hro)
  have h_9 : w_2.1 bi = some (145, br, tTb 2 cB BB) := by
    rw [hw_3]; exact (tAw_to ok_1 (zne_tg hva hbi (by simp)) hbi)
  have h_10 : w_2.1 le = some (146, br, tTb 4 cE EE) := by
    rw [hw_3]; exact (tAw_to ok_1 (zne_tg hva hle (by simp)) hle)
  have h_11 : w_2.1 wk = some (147, br, tTb 3 cW WW) := by
    rw [hw_3]; exact (tAw_to ok_1 (zne_tg hva hwk (by simp)) hwk)
  have h_12 : w_2.1 br = some (0, 0, [zR pg, zR t, zR nd, zI gc, zR va, zR ce, zR li, zR ro, zI fr, zR bi, zR le, zR wk, zI tk, zI rs, zI rd]) := by
    rw [hw_3]; exact (tAw_to ok_1 (zne_tg hva hbr (by simp)) hbr)
  have hB9 : bbW w_2 b1 b2 ((br, pg, t), (nd, va, ce, li), (ro, bi, le, wk)) (((cN, NN), ((tCap 1 cV VV), (VV ++ [(trow 1 (tg IN (q : Int) 0) (-1) (-1))])), (cC, CC), (cL, LL)), ((cR, RR), (cB, BB), (cE, EE), (cW, WW)), (gc, fr, tk, rs, rd)) := ⟨h_12, ⟨⟨h_5, okN⟩, ⟨h_4, (tOk_app okV (by first | exact trow_len | rfl))⟩, ⟨h_6, okC⟩, ⟨h_7, okL⟩⟩, ⟨⟨h_8, okR⟩, ⟨h_9, okB⟩, ⟨h_10, okE⟩, ⟨h_11, okW⟩⟩, ⟨⟨by omega, by omega, by omega, by omega⟩, ⟨by omega, by omega, by omega, by omega⟩⟩, ⟨⟨by omega, by omega, by omega, by omega⟩, ⟨by omega, by omega, by omega, by omega⟩⟩, by omega, by omega⟩
  exact k _ _ hB9 hF9
theorem bg_u (hB : bbW w b1 b2 ((br, pg, t), (nd, va, ce, li), (ro, bi, le, wk)) (((cN, NN), (cV, VV), (cC, CC), (cL, LL)), ((cR, RR), (cB, BB), (cE, EE), (cW, WW)), (gc, fr, tk, rs, rd))) (hG1 : b1 + 1800000 ≤ 30 * G.2.2.2.2.1) (hG2 : b2 + 3700000 ≤ G.2.2.2.2.2) (hy : w.1 y = some (6, 0, [zI nu, zR tt0, zR ms, zR cs, zR qq])) (hty : w.1 tt0 = some (134, y, tTb 1 3 TY) ∧ tOk 1 TY) (hR : rpW w rp ri ra rn mo IN AN NT sc cc dc en bk bc) (hq : q < TY.length) (hTY : TY.length ≤ 3) (hlV : VV.length < 6000) (hlN : NN.length < 3900) (hi : tg IN (q : Int) 0 = -1) (k : ∀ (o4 : Option zV) w1, bbW w1 b1 b2 ((br, pg, t), (nd, va, ce, li), (ro, bi, le, wk)) ((((tCap 5 cN NN), (NN ++ [trow 5 (-1) (-1) (-1)])), ((tCap 1 cV VV), (VV ++ [trow 1 (NN.length : Int) (-1) (-1)])), (cC, CC), (cL, LL)), ((cR, RR), (cB, BB), (cE, EE), (cW, WW)), (gc, fr, tk, rs, rd)) → zFr TB w w1 → zX G zm_X0_begin (d + 5) [zR br, zR y, zR rp] w0 (zVoid PV) 142 [some (zR br), some (zR y), some (zR rp), some (zI ((q + 1 : Nat) : Int)), o4] [] w1) : zX G zm_X0_begin (d + 5) [zR br, zR y, zR rp] w0 (zVoid PV) 142 [some (zR br), some (zR y), some (zR rp), some (zI (q : Int)), o4] [] w := by
  obtain ⟨hbr, ⟨⟨hnd, okN⟩, ⟨hva, okV⟩, ⟨hce, okC⟩, ⟨hli, okL⟩⟩, ⟨⟨hro, okR⟩, ⟨hbi, okB⟩, ⟨hle, okE⟩, ⟨hwk, okW⟩⟩, ⟨⟨c1N, c1V, c1C, c1L⟩, ⟨c1R, c1B, c1E, c1W⟩⟩, ⟨⟨c2N, c2V, c2C, c2L⟩, ⟨c2R, c2B, c2E, c2W⟩⟩, hrm1, hrm2⟩ := id hB
  refine zx_iload_n (i := 3) dX0_begin_142 rfl rfl ?_
  refine zx_aload_n (i := 1) dX0_begin_143 rfl rfl ?_
  refine zx_iv (b := y) (As := []) (st := [zI (q : Int)]) (v := (some (zI (TY.length : Int)))) (w1 := w) dX0_begin_144 zc_X0_120 hy rfl rfl rfl (Nat.le_of_ble_eq_true rfl) rfl (c_X6_arity hy hty.1 hty.2) ?_
  refine zx_st (st1 := [zI (TY.length : Int), zI (q : Int)]) rfl ?_
  refine zx_icmp_ge (tgt := 188) dX0_begin_147 (by decide) (fun h147 => absurd h147 (by omega)) (fun h147 => ?_)
  refine zx_aload_n (i := 2) dX0_begin_150 rfl rfl ?_
  refine zx_iload_n (i := 3) dX0_begin_151 rfl rfl ?_
  refine zx_iv (b := rp) (As := [zI (q : Int)]) (st := []) (v := (some (zI (tg IN (q : Int) 0)))) (w1 := w) dX0_begin_152 zc_X0_125 hR.1 rfl rfl rfl (Nat.le_of_ble_eq_true rfl) rfl (c_X8_inputAt hR (q : Int)) ?_
  refine zx_st (st1 := [zI (tg IN (q : Int) 0)]) rfl ?_
  refine zx_istore (i := 4) dX0_begin_155 (by decide) rfl ?_
  refine zx_L (L1 := [some (zR br), some (zR y), some (zR rp), some (zI (q : Int)), some (zI (tg IN (q : Int) 0))]) rfl ?_
  refine zx_aload_n (i := 0) dX0_begin_157 rfl rfl ?_
  refine zx_getfield dX0_begin_158 zf_X0_28 hbr rfl ?_
  refine zx_iload (i := 4) dX0_begin_161 rfl ?_
  refine zx_pc (pc1 := 163) rfl ?_
  refine zx_iconst (v := -1) dX0_begin_163 rfl (z32_lit (by decide) (by decide)) ?_
  refine zx_icmp_eq (tgt := 172) dX0_begin_164 (by decide) (fun h164 => ?_) (fun h164 => absurd (hi) h164)
  refine zx_aload_n (i := 0) dX0_begin_172 rfl rfl ?_
  have hFp1 : zFr TB w w := zFr_re
  have hBp1 : bbW w b1 b2 ((br, pg, t), (nd, va, ce, li), (ro, bi, le, wk)) (((cN, NN), (cV, VV), (cC, CC), (cL, LL)), ((cR, RR), (cB, BB), (cE, EE), (cW, WW)), (gc, fr, tk, rs, rd)) := ⟨hbr, ⟨⟨hnd, okN⟩, ⟨hva, okV⟩, ⟨hce, okC⟩, ⟨hli, okL⟩⟩, ⟨⟨hro, okR⟩, ⟨hbi, okB⟩, ⟨hle, okE⟩, ⟨hwk, okW⟩⟩, ⟨⟨by omega, by omega, by omega, by omega⟩, ⟨by omega, by omega, by omega, by omega⟩⟩, ⟨⟨by omega, by omega, by omega, by omega⟩, ⟨by omega, by omega, by omega, by omega⟩⟩, by omega, by omega⟩
  refine zx_ivV (b := br) (As := []) (st := [zR va]) dX0_begin_173 zc_X0_128 hbr rfl rfl rfl (Nat.le_of_ble_eq_true rfl) rfl (c_X0_newUnknown hBp1 hG1 hG2 hlN) (fun v1 w1 hq => ?_)
  obtain ⟨ev1, hB1, hF1⟩ := hq
  subst ev1
  obtain ⟨hbr1, ⟨⟨hnd1, okN1⟩, ⟨hva1, okV1⟩, ⟨hce1, okC1⟩, ⟨hli1, okL1⟩⟩, ⟨⟨hro1, okR1⟩, ⟨hbi1, okB1⟩, ⟨hle1, okE1⟩, ⟨hwk1, okW1⟩⟩, ⟨⟨c1N1, c1V1, c1C1, c1L1⟩, ⟨c1R1, c1B1, c1E1, c1W1⟩⟩, ⟨⟨c2N1, c2V1, c2C1, c2L1⟩, ⟨c2R1, c2B1, c2E1, c2W1⟩⟩, hrm11, hrm21⟩ := id hB1
  refine zx_iconst (v := -1) dX0_begin_176 rfl (z32_lit (by decide) (by decide)) ?_
  refine zx_iconst (v := -1) dX0_begin_177 rfl (z32_lit (by decide) (by decide)) ?_
  refine zx_ok (fun ok_1 => ?_)
  obtain ⟨w_2, hw_3⟩ : ∃ ww, ww = tAw w1 va 141 br 1 cV VV (trow 1 (NN.length : Int) (-1) (-1)) := ⟨_, rfl⟩
  have h_4 : w_2.1 va = some (141, br, tTb 1 (tCap 1 cV VV) (VV ++ [(trow 1 (NN.length : Int) (-1) (-1))])) := by rw [hw_3]; exact tAw_at
  have qhw_3 := tAw_sz3 (w := w1) (a := va) (t := 141) (ow := br) (c := 1) (cap := cV) (rows := VV) (r := (trow 1 (NN.length : Int) (-1) (-1))) (by omega)
  rw [← hw_3] at qhw_3
  refine zx_iv (b := va) (As := [zI (NN.length : Int), zI (-1), zI (-1)]) (st := []) (v := (some (zI (VV.length : Int)))) (w1 := w_2) dX0_begin_178 zc_X0_113 hva1 (z_cls9 (by decide)) rfl rfl (Nat.le_of_ble_eq_true rfl) rfl (by rw [hw_3]; exact (c_X9_add hva1 (by decide) okV1 (by omega) (by by_cases cg : VV.length * 1 + 1 ≤ cV; exact Or.inl cg; exact Or.inr ⟨by omega, by omega⟩) (NN.length : Int) (-1) (-1))) ?_
  refine zx_st (st1 := [zI (VV.length : Int)]) rfl ?_
  refine zx_pop dX0_begin_181 (fun a h => by cases h) ?_
  refine zx_iinc (i := 3) (v := ((q + 1 : Nat) : Int)) dX0_begin_182 rfl (zw_eq (by omega) (by omega) (by omega)) (by decide) rfl ?_
  refine zx_L (L1 := [some (zR br), some (zR y), some (zR rp), some (zI ((q + 1 : Nat) : Int)), some (zI (tg IN (q : Int) 0))]) rfl ?_
  refine zx_goto (tgt := 142) dX0_begin_185 (by decide) ?_
  have hfaL9 : zFa [va] w1 w_2 := (zFa_taw zFa_re (by simp) ok_1 hw_3)
  have hF9 : zFr TB w1 w_2 := zFr_fa hfaL9 (zLc hva1 (by simp) zLn)
  have h_5 : w_2.1 nd = some (140, br, tTb 5 (tCap 5 cN NN) (NN ++ [trow 5 (-1) (-1) (-1)])) := by
    rw [hw_3]; exact (tAw_to ok_1 (zne_tg hva1 hnd1 (by simp)) hnd1)
  have h_6 : w_2.1 ce = some (142, br, tTb 3 cC CC) := by
    rw [hw_3]; exact (tAw_to ok_1 (zne_tg hva1 hce1 (by simp)) hce1)
  have h_7 : w_2.1 li = some (143, br, tTb 4 cL LL) := by
    rw [hw_3]; exact (tAw_to ok_1 (zne_tg hva1 hli1 (by simp)) hli1)
  have h_8 : w_2.1 ro = some (144, br, tTb 6 cR RR) := by
    rw [hw_3]; exact (tAw_to ok_1 (zne_tg hva1 hro1 (by simp)) hro1)
  have h_9 : w_2.1 bi = some (145, br, tTb 2 cB BB) := by
    rw [hw_3]; exact (tAw_to ok_1 (zne_tg hva1 hbi1 (by simp)) hbi1)
  have h_10 : w_2.1 le = some (146, br, tTb 4 cE EE) := by
    rw [hw_3]; exact (tAw_to ok_1 (zne_tg hva1 hle1 (by simp)) hle1)
  have h_11 : w_2.1 wk = some (147, br, tTb 3 cW WW) := by
    rw [hw_3]; exact (tAw_to ok_1 (zne_tg hva1 hwk1 (by simp)) hwk1)
  have h_12 : w_2.1 br = some (0, 0, [zR pg, zR t, zR nd, zI gc, zR va, zR ce, zR li, zR ro, zI fr, zR bi, zR le, zR wk, zI tk, zI rs, zI rd]) := by
    rw [hw_3]; exact (tAw_to ok_1 (zne_tg hva1 hbr1 (by simp)) hbr1)
  have hB9 : bbW w_2 b1 b2 ((br, pg, t), (nd, va, ce, li), (ro, bi, le, wk)) ((((tCap 5 cN NN), (NN ++ [trow 5 (-1) (-1) (-1)])), ((tCap 1 cV VV), (VV ++ [(trow 1 (NN.length : Int) (-1) (-1))])), (cC, CC), (cL, LL)), ((cR, RR), (cB, BB), (cE, EE), (cW, WW)), (gc, fr, tk, rs, rd)) := ⟨h_12, ⟨⟨h_5, okN1⟩, ⟨h_4, (tOk_app okV1 (by first | exact trow_len | rfl))⟩, ⟨h_6, okC1⟩, ⟨h_7, okL1⟩⟩, ⟨⟨h_8, okR1⟩, ⟨h_9, okB1⟩, ⟨h_10, okE1⟩, ⟨h_11, okW1⟩⟩, ⟨⟨by omega, by omega, by omega, by omega⟩, ⟨by omega, by omega, by omega, by omega⟩⟩, ⟨⟨by omega, by omega, by omega, by omega⟩, ⟨by omega, by omega, by omega, by omega⟩⟩, by omega, by omega⟩
  exact k _ _ hB9 (zFr_tr hFp1 (zFr_tr hF1 hF9))
theorem bg_2 (hB : bbW w b1 b2 ((br, pg, t), (nd, va, ce, li), (ro, bi, le, wk)) (((cN, NN), (cV, VV), (cC, CC), (cL, LL)), ((cR, RR), (cB, BB), (cE, EE), (cW, WW)), (gc, fr, tk, rs, rd))) (hG1 : b1 + 1800000 ≤ 30 * G.2.2.2.2.1) (hG2 : b2 + 3700000 ≤ G.2.2.2.2.2) (hy : w.1 y = some (6, 0, [zI nu, zR tt0, zR ms, zR cs, zR qq])) (hty : w.1 tt0 = some (134, y, tTb 1 3 TY) ∧ tOk 1 TY) (hlR : RR.length < 3000) (hlC : CC.length < 114000) (hnu : 0 ≤ nu ∧ nu < 1000) (k : ∀ w1, bbW w1 b1 b2 ((br, pg, t), (nd, va, ce, li), (ro, bi, le, wk)) (((cN, NN), (cV, VV), ((tCap 3 cC CC), (CC ++ [trow 3 (60 + nu) 0 (-1)])), (cL, LL)), (((tCap 6 cR RR), (ts (ts (ts (RR ++ [trow 6 (-1) 0 0]) (RR.length : Int) 3 (CC.length : Int)) (RR.length : Int) 4 (-1)) (RR.length : Int) 5 0)), (cB, BB), (cE, EE), (cW, WW)), (gc, fr, tk, rs, rd)) → zFr TB w w1 → PV w1) : zX G zm_X0_begin (d + 5) [zR br, zR y, zR rp] w0 (zVoid PV) 142 [some (zR br), some (zR y), some (zR rp), some (zI (TY.length : Int)), o4] [] w := by
  obtain ⟨hbr, ⟨⟨hnd, okN⟩, ⟨hva, okV⟩, ⟨hce, okC⟩, ⟨hli, okL⟩⟩, ⟨⟨hro, okR⟩, ⟨hbi, okB⟩, ⟨hle, okE⟩, ⟨hwk, okW⟩⟩, ⟨⟨c1N, c1V, c1C, c1L⟩, ⟨c1R, c1B, c1E, c1W⟩⟩, ⟨⟨c2N, c2V, c2C, c2L⟩, ⟨c2R, c2B, c2E, c2W⟩⟩, hrm1, hrm2⟩ := id hB
  refine zx_iload_n (i := 3) dX0_begin_142 rfl rfl ?_
  refine zx_aload_n (i := 1) dX0_begin_143 rfl rfl ?_
  refine zx_iv (b := y) (As := []) (st := [zI (TY.length : Int)]) (v := (some (zI (TY.length : Int)))) (w1 := w) dX0_begin_144 zc_X0_120 hy rfl rfl rfl (Nat.le_of_ble_eq_true rfl) rfl (c_X6_arity hy hty.1 hty.2) ?_
  refine zx_st (st1 := [zI (TY.length : Int), zI (TY.length : Int)]) rfl ?_
  refine zx_icmp_ge (tgt := 188) dX0_begin_147 (by decide) (fun h147 => ?_) (fun h147 => absurd (by omega) h147)
  refine zx_aload_n (i := 0) dX0_begin_188 rfl rfl ?_
  refine zx_aload_n (i := 1) dX0_begin_189 rfl rfl ?_
  refine zx_getfield dX0_begin_190 zf_X0_131 hy rfl ?_
  refine zx_iconst (v := 0) dX0_begin_193 rfl (z32_lit (by decide) (by decide)) ?_
  refine zx_iconst (v := -1) dX0_begin_194 rfl (z32_lit (by decide) (by decide)) ?_
  have hFp2 : zFr TB w w := zFr_re
  have hBp2 : bbW w b1 b2 ((br, pg, t), (nd, va, ce, li), (ro, bi, le, wk)) (((cN, NN), (cV, VV), (cC, CC), (cL, LL)), ((cR, RR), (cB, BB), (cE, EE), (cW, WW)), (gc, fr, tk, rs, rd)) := ⟨hbr, ⟨⟨hnd, okN⟩, ⟨hva, okV⟩, ⟨hce, okC⟩, ⟨hli, okL⟩⟩, ⟨⟨hro, okR⟩, ⟨hbi, okB⟩, ⟨hle, okE⟩, ⟨hwk, okW⟩⟩, ⟨⟨by omega, by omega, by omega, by omega⟩, ⟨by omega, by omega, by omega, by omega⟩⟩, ⟨⟨by omega, by omega, by omega, by omega⟩, ⟨by omega, by omega, by omega, by omega⟩⟩, by omega, by omega⟩
  refine zx_ivN (b := br) (As := [zI nu, zI 0, zI (-1)]) (st := []) dX0_begin_195 zc_X0_134 hbr rfl rfl rfl (Nat.le_of_ble_eq_true rfl) rfl (c_X0_putQuestion hBp2 hG1 hG2 hlR hlC nu 0 (-1) hnu) (fun w2 hq => ?_)
  obtain ⟨hB2, hF2⟩ := hq
  obtain ⟨hbr2, ⟨⟨hnd2, okN2⟩, ⟨hva2, okV2⟩, ⟨hce2, okC2⟩, ⟨hli2, okL2⟩⟩, ⟨⟨hro2, okR2⟩, ⟨hbi2, okB2⟩, ⟨hle2, okE2⟩, ⟨hwk2, okW2⟩⟩, ⟨⟨c1N2, c1V2, c1C2, c1L2⟩, ⟨c1R2, c1B2, c1E2, c1W2⟩⟩, ⟨⟨c2N2, c2V2, c2C2, c2L2⟩, ⟨c2R2, c2B2, c2E2, c2W2⟩⟩, hrm12, hrm22⟩ := id hB2
  refine zx_return dX0_begin_198 rfl ?_
  have hF9 : zFr TB w2 w2 := zFr_re
  have hB9 : bbW w2 b1 b2 ((br, pg, t), (nd, va, ce, li), (ro, bi, le, wk)) (((cN, NN), (cV, VV), ((tCap 3 cC CC), (CC ++ [trow 3 (60 + nu) 0 (-1)])), (cL, LL)), (((tCap 6 cR RR), (ts (ts (ts (RR ++ [trow 6 (-1) 0 0]) (RR.length : Int) 3 (CC.length : Int)) (RR.length : Int) 4 (-1)) (RR.length : Int) 5 0)), (cB, BB), (cE, EE), (cW, WW)), (gc, fr, tk, rs, rd)) := ⟨hbr2, ⟨⟨hnd2, okN2⟩, ⟨hva2, okV2⟩, ⟨hce2, okC2⟩, ⟨hli2, okL2⟩⟩, ⟨⟨hro2, okR2⟩, ⟨hbi2, okB2⟩, ⟨hle2, okE2⟩, ⟨hwk2, okW2⟩⟩, ⟨⟨by omega, by omega, by omega, by omega⟩, ⟨by omega, by omega, by omega, by omega⟩⟩, ⟨⟨by omega, by omega, by omega, by omega⟩, ⟨by omega, by omega, by omega, by omega⟩⟩, by omega, by omega⟩
  exact ⟨rfl, k _ hB9 (zFr_tr hFp2 (zFr_tr hF2 hF9))⟩
end BBG
