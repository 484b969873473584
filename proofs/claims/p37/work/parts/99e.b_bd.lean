/-! Own rows: breadth begins a denied question. Walked by program (wip/p37/m_bbd.py). -/
section BBD
variable {G : zG} {d : Nat} {w w0 : zW} {b1 b2 g rd y bs q cnt : Nat} {br pg t nd va ce li ro bi le wk : Nat} {cN cV cC cL cR cB cE cW : Nat} {NN VV CC LL RR BB EE WW : List (List Int)} {fr tk rs : Int} {l0 r0 : Int} {PV : zW → Prop} {Vr : List (Option Nat)} {r : goR}
theorem bd_start (hB : bbW w b1 b2 ((br, pg, t), (nd, va, ce, li), (ro, bi, le, wk)) (((cN, NN), (cV, VV), (cC, CC), (cL, LL)), ((cR, RR), (cB, BB), (cE, EE), (cW, WW)), ((g : Int), fr, tk, rs, (rd : Int)))) (hG1 : b1 + 1800000 ≤ 30 * G.2.2.2.2.1) (hG2 : b2 + 3700000 ≤ G.2.2.2.2.2) (hlE : EE.length < 400) (hlR : RR.length < 3000) (k : ∀ w', bbW w' b1 b2 ((br, pg, t), (nd, va, ce, li), (ro, bi, le, wk)) (((cN, NN), (cV, VV), (cC, CC), (cL, LL)), ((cR, RR), (cB, BB), ((tCap 4 cE EE), (ts (EE ++ [trow 4 fr (RR.length : Int) l0]) (EE.length : Int) 3 r0)), (cW, WW)), ((g : Int), (RR.length : Int), tk, rs, (rd : Int))) → zFr TB w w' → zX G zm_X0_beginDenied (d + 5) [zR br, zI l0, zI r0, zR y, zI (bs : Int)] w (zVoid PV) 55 [some (zR br), some (zI l0), some (zI r0), some (zR y), some (zI (bs : Int)), some (zI (EE.length : Int)), some (zI (VV.length : Int)), some (zI 0)] [] w') : zM G zm_X0_beginDenied (d + 5) [zR br, zI l0, zI r0, zR y, zI (bs : Int)] w (zVoid PV) := by
  refine zx_ent (by decide +kernel) rfl (Nat.le_of_ble_eq_true rfl) ?_
  refine zx_L (L1 := [some (zR br), some (zI l0), some (zI r0), some (zR y), some (zI (bs : Int)), none, none, none]) rfl ?_
  obtain ⟨hbr, ⟨⟨hnd, okN⟩, ⟨hva, okV⟩, ⟨hce, okC⟩, ⟨hli, okL⟩⟩, ⟨⟨hro, okR⟩, ⟨hbi, okB⟩, ⟨hle, okE⟩, ⟨hwk, okW⟩⟩, ⟨⟨c1N, c1V, c1C, c1L⟩, ⟨c1R, c1B, c1E, c1W⟩⟩, ⟨⟨c2N, c2V, c2C, c2L⟩, ⟨c2R, c2B, c2E, c2W⟩⟩, hrm1, hrm2⟩ := id hB
  refine zx_aload_n (i := 0) dX0_beginDenied_0 rfl rfl ?_
  refine zx_getfield dX0_beginDenied_1 zf_X0_43 hbr rfl ?_
  refine zx_aload_n (i := 0) dX0_beginDenied_4 rfl rfl ?_
  refine zx_getfield dX0_beginDenied_5 zf_X0_66 hbr rfl ?_
  refine zx_aload_n (i := 0) dX0_beginDenied_8 rfl rfl ?_
  refine zx_getfield dX0_beginDenied_9 zf_X0_37 hbr rfl ?_
  refine zx_iv (b := ro) (As := []) (st := [zI fr, zR le]) (v := (some (zI (RR.length : Int)))) (w1 := w) dX0_beginDenied_12 zc_X0_70 hro (z_cls9 (by decide)) rfl rfl (Nat.le_of_ble_eq_true rfl) rfl (c_X9_count hro (by decide) okR) ?_
  refine zx_st (st1 := [zI (RR.length : Int), zI fr, zR le]) rfl ?_
  refine zx_iload_n (i := 1) dX0_beginDenied_15 rfl rfl ?_
  refine zx_ok (fun ok_1 => ?_)
  obtain ⟨w_2, hw_3⟩ : ∃ ww, ww = tAw w le 146 br 4 cE EE (trow 4 fr (RR.length : Int) l0) := ⟨_, rfl⟩
  have h_4 : w_2.1 le = some (146, br, tTb 4 (tCap 4 cE EE) (EE ++ [(trow 4 fr (RR.length : Int) l0)])) := by rw [hw_3]; exact tAw_at
  have qhw_3 := tAw_sz3 (w := w) (a := le) (t := 146) (ow := br) (c := 4) (cap := cE) (rows := EE) (r := (trow 4 fr (RR.length : Int) l0)) (by omega)
  rw [← hw_3] at qhw_3
  refine zx_iv (b := le) (As := [zI fr, zI (RR.length : Int), zI l0]) (st := []) (v := (some (zI (EE.length : Int)))) (w1 := w_2) dX0_beginDenied_16 zc_X0_113 hle (z_cls9 (by decide)) rfl rfl (Nat.le_of_ble_eq_true rfl) rfl (by rw [hw_3]; exact (c_X9_add hle (by decide) okE (by omega) (by by_cases cg : EE.length * 4 + 4 ≤ cE; exact Or.inl cg; exact Or.inr ⟨by omega, by omega⟩) fr (RR.length : Int) l0)) ?_
  refine zx_st (st1 := [zI (EE.length : Int)]) rfl ?_
  refine zx_istore (i := 5) dX0_beginDenied_19 (by decide) rfl ?_
  refine zx_L (L1 := [some (zR br), some (zI l0), some (zI r0), some (zR y), some (zI (bs : Int)), some (zI (EE.length : Int)), none, none]) rfl ?_
  refine zx_aload_n (i := 0) dX0_beginDenied_21 rfl rfl ?_
  refine zx_pc (pc1 := 22) rfl ?_
  have h_5 : w_2.1 br = some (0, 0, [zR pg, zR t, zR nd, zI (g : Int), zR va, zR ce, zR li, zR ro, zI fr, zR bi, zR le, zR wk, zI tk, zI rs, zI (rd : Int)]) := by
    rw [hw_3]; exact (tAw_to ok_1 (zne_tg hle hbr (by simp)) hbr)
  refine zx_getfield dX0_beginDenied_22 zf_X0_43 h_5 rfl ?_
  refine zx_iload (i := 5) dX0_beginDenied_25 rfl ?_
  refine zx_iconst (v := 3) dX0_beginDenied_27 rfl (z32_lit (by decide) (by decide)) ?_
  refine zx_iload_n (i := 2) dX0_beginDenied_28 rfl rfl ?_
  obtain ⟨w_6, hw_7⟩ : ∃ ww, ww = zput w_2 le (146, br, tTb 4 (tCap 4 cE EE) (ts (EE ++ [(trow 4 fr (RR.length : Int) l0)]) (EE.length : Int) 3 r0)) := ⟨_, rfl⟩
  have q_8 : w_6.2.1 = w_2.2.1 ∧ w_6.2.2 = w_2.2.2 := by rw [hw_7]; exact ⟨rfl, rfl⟩
  have h_9 : w_6.1 le = some (146, br, tTb 4 (tCap 4 cE EE) (ts (EE ++ [(trow 4 fr (RR.length : Int) l0)]) (EE.length : Int) 3 r0)) := by rw [hw_7]; exact zput_at
  refine zx_iv (b := le) (As := [zI (EE.length : Int), zI 3, zI r0]) (st := []) (v := none) (w1 := w_6) dX0_beginDenied_29 zc_X0_142 h_4 (z_cls9 (by decide)) rfl rfl (Nat.le_of_ble_eq_true rfl) rfl (by rw [hw_7]; exact (c_X9_set h_4 (by decide) (tOk_app okE (by first | exact trow_len | rfl)) (EE.length : Int) 3 r0)) ?_
  refine zx_st (st1 := []) rfl ?_
  refine zx_aload_n (i := 0) dX0_beginDenied_32 rfl rfl ?_
  refine zx_aload_n (i := 0) dX0_beginDenied_33 rfl rfl ?_
  have h_10 : w_6.1 br = some (0, 0, [zR pg, zR t, zR nd, zI (g : Int), zR va, zR ce, zR li, zR ro, zI fr, zR bi, zR le, zR wk, zI tk, zI rs, zI (rd : Int)]) := by
    rw [hw_7]; exact zput_tg h_4 h_5 (by simp)
  refine zx_getfield dX0_beginDenied_34 zf_X0_37 h_10 rfl ?_
  have h_11 : w_2.1 ro = some (144, br, tTb 6 cR RR) := by
    rw [hw_3]; exact (tAw_to ok_1 (zne_tg hle hro (by simp)) hro)
  have h_12 : w_6.1 ro = some (144, br, tTb 6 cR RR) := by
    rw [hw_7]; exact zput_tg h_4 h_11 (by simp)
  refine zx_iv (b := ro) (As := []) (st := [zR br]) (v := (some (zI (RR.length : Int)))) (w1 := w_6) dX0_beginDenied_37 zc_X0_70 h_12 (z_cls9 (by decide)) rfl rfl (Nat.le_of_ble_eq_true rfl) rfl (c_X9_count h_12 (by decide) okR) ?_
  refine zx_st (st1 := [zI (RR.length : Int), zR br]) rfl ?_
  obtain ⟨w_13, hw_14⟩ : ∃ ww, ww = zput w_6 br (0, 0, [zR pg, zR t, zR nd, zI (g : Int), zR va, zR ce, zR li, zR ro, zI (RR.length : Int), zR bi, zR le, zR wk, zI tk, zI rs, zI (rd : Int)]) := ⟨_, rfl⟩
  refine zx_put (w1 := w_13) dX0_beginDenied_40 zf_X0_66 h_10 (Nat.le_of_ble_eq_true rfl) (zFt_int _) (fun h => by cases h) hw_14.symm ?_
  have q_15 : w_13.2.1 = w_6.2.1 ∧ w_13.2.2 = w_6.2.2 := by rw [hw_14]; exact ⟨rfl, rfl⟩
  have h_16 : w_13.1 br = some (0, 0, [zR pg, zR t, zR nd, zI (g : Int), zR va, zR ce, zR li, zR ro, zI (RR.length : Int), zR bi, zR le, zR wk, zI tk, zI rs, zI (rd : Int)]) := by rw [hw_14]; exact zput_at
  refine zx_aload_n (i := 0) dX0_beginDenied_43 rfl rfl ?_
  refine zx_getfield dX0_beginDenied_44 zf_X0_28 h_16 rfl ?_
  refine zx_pc (pc1 := 47) rfl ?_
  have h_17 : w_2.1 va = some (141, br, tTb 1 cV VV) := by
    rw [hw_3]; exact (tAw_to ok_1 (zne_tg hle hva (by simp)) hva)
  have h_18 : w_6.1 va = some (141, br, tTb 1 cV VV) := by
    rw [hw_7]; exact zput_tg h_4 h_17 (by simp)
  have h_19 : w_13.1 va = some (141, br, tTb 1 cV VV) := by
    rw [hw_14]; exact zput_tg h_10 h_18 (by simp)
  refine zx_iv (b := va) (As := []) (st := []) (v := (some (zI (VV.length : Int)))) (w1 := w_13) dX0_beginDenied_47 zc_X0_70 h_19 (z_cls9 (by decide)) rfl rfl (Nat.le_of_ble_eq_true rfl) rfl (c_X9_count h_19 (by decide) okV) ?_
  refine zx_st (st1 := [zI (VV.length : Int)]) rfl ?_
  refine zx_istore (i := 6) dX0_beginDenied_50 (by decide) rfl ?_
  refine zx_L (L1 := [some (zR br), some (zI l0), some (zI r0), some (zR y), some (zI (bs : Int)), some (zI (EE.length : Int)), some (zI (VV.length : Int)), none]) rfl ?_
  refine zx_iconst (v := 0) dX0_beginDenied_52 rfl (z32_lit (by decide) (by decide)) ?_
  refine zx_istore (i := 7) dX0_beginDenied_53 (by decide) rfl ?_
  refine zx_L (L1 := [some (zR br), some (zI l0), some (zI r0), some (zR y), some (zI (bs : Int)), some (zI (EE.length : Int)), some (zI (VV.length : Int)), some (zI 0)]) rfl ?_
  have hfaL9 : zFa [le, br] w w_13 := (zFa_put (zFa_put (zFa_taw zFa_re (by simp) ok_1 hw_3) (by simp) hw_7) (by simp) hw_14)
  have hF9 : zFr TB w w_13 := zFr_fa hfaL9 (zLc hle (by simp) (zLc hbr (by simp) zLn))
  have h_20 : w_2.1 nd = some (140, br, tTb 5 cN NN) := by
    rw [hw_3]; exact (tAw_to ok_1 (zne_tg hle hnd (by simp)) hnd)
  have h_21 : w_6.1 nd = some (140, br, tTb 5 cN NN) := by
    rw [hw_7]; exact zput_tg h_4 h_20 (by simp)
  have h_22 : w_13.1 nd = some (140, br, tTb 5 cN NN) := by
    rw [hw_14]; exact zput_tg h_10 h_21 (by simp)
  have h_23 : w_2.1 ce = some (142, br, tTb 3 cC CC) := by
    rw [hw_3]; exact (tAw_to ok_1 (zne_tg hle hce (by simp)) hce)
  have h_24 : w_6.1 ce = some (142, br, tTb 3 cC CC) := by
    rw [hw_7]; exact zput_tg h_4 h_23 (by simp)
  have h_25 : w_13.1 ce = some (142, br, tTb 3 cC CC) := by
    rw [hw_14]; exact zput_tg h_10 h_24 (by simp)
  have h_26 : w_2.1 li = some (143, br, tTb 4 cL LL) := by
    rw [hw_3]; exact (tAw_to ok_1 (zne_tg hle hli (by simp)) hli)
  have h_27 : w_6.1 li = some (143, br, tTb 4 cL LL) := by
    rw [hw_7]; exact zput_tg h_4 h_26 (by simp)
  have h_28 : w_13.1 li = some (143, br, tTb 4 cL LL) := by
    rw [hw_14]; exact zput_tg h_10 h_27 (by simp)
  have h_29 : w_13.1 ro = some (144, br, tTb 6 cR RR) := by
    rw [hw_14]; exact zput_tg h_10 h_12 (by simp)
  have h_30 : w_2.1 bi = some (145, br, tTb 2 cB BB) := by
    rw [hw_3]; exact (tAw_to ok_1 (zne_tg hle hbi (by simp)) hbi)
  have h_31 : w_6.1 bi = some (145, br, tTb 2 cB BB) := by
    rw [hw_7]; exact zput_tg h_4 h_30 (by simp)
  have h_32 : w_13.1 bi = some (145, br, tTb 2 cB BB) := by
    rw [hw_14]; exact zput_tg h_10 h_31 (by simp)
  have h_33 : w_13.1 le = some (146, br, tTb 4 (tCap 4 cE EE) (ts (EE ++ [(trow 4 fr (RR.length : Int) l0)]) (EE.length : Int) 3 r0)) := by
    rw [hw_14]; exact zput_tg h_10 h_9 (by simp)
  have h_34 : w_2.1 wk = some (147, br, tTb 3 cW WW) := by
    rw [hw_3]; exact (tAw_to ok_1 (zne_tg hle hwk (by simp)) hwk)
  have h_35 : w_6.1 wk = some (147, br, tTb 3 cW WW) := by
    rw [hw_7]; exact zput_tg h_4 h_34 (by simp)
  have h_36 : w_13.1 wk = some (147, br, tTb 3 cW WW) := by
    rw [hw_14]; exact zput_tg h_10 h_35 (by simp)
  have hB9 : bbW w_13 b1 b2 ((br, pg, t), (nd, va, ce, li), (ro, bi, le, wk)) (((cN, NN), (cV, VV), (cC, CC), (cL, LL)), ((cR, RR), (cB, BB), ((tCap 4 cE EE), (ts (EE ++ [(trow 4 fr (RR.length : Int) l0)]) (EE.length : Int) 3 r0)), (cW, WW)), ((g : Int), (RR.length : Int), tk, rs, (rd : Int))) := ⟨h_16, ⟨⟨h_22, okN⟩, ⟨h_19, okV⟩, ⟨h_25, okC⟩, ⟨h_28, okL⟩⟩, ⟨⟨h_29, okR⟩, ⟨h_32, okB⟩, ⟨h_33, (tOk_ts (tOk_app okE (by first | exact trow_len | rfl)))⟩, ⟨h_36, okW⟩⟩, ⟨⟨by omega, by omega, by omega, by omega⟩, ⟨by omega, by omega, by omega, by omega⟩⟩, ⟨⟨by omega, by omega, by omega, by omega⟩, ⟨by omega, by omega, by omega, by omega⟩⟩, by omega, by omega⟩
  exact k _ hB9 hF9
variable {l1 a1 : Int}
theorem bd_turn {v : Int} (hB : bbW w b1 b2 ((br, pg, t), (nd, va, ce, li), (ro, bi, le, wk)) (((cN, NN), (cV, VV), (cC, CC), (cL, LL)), ((cR, RR), (cB, BB), (cE, EE), (cW, WW)), ((g : Int), fr, tk, rs, (rd : Int)))) (hG1 : b1 + 1800000 ≤ 30 * G.2.2.2.2.1) (hG2 : b2 + 3700000 ≤ G.2.2.2.2.2) (hy : w.1 y = some (3, 0, [zI r.1, zI r.2.1, zI (cnt : Int), zR r.2.2.2.1])) (hno : zM G zm_X0_nodeOf (d + 4) [zR br, zR y, zI (bs : Int), zI (q : Int)] w (zRet (some (zI v)) w)) (hlV : VV.length < 6000) (hq : q < cnt) (hc : cnt ≤ 3) (k : ∀ w', bbW w' b1 b2 ((br, pg, t), (nd, va, ce, li), (ro, bi, le, wk)) (((cN, NN), ((tCap 1 cV VV), (VV ++ [trow 1 v (-1) (-1)])), (cC, CC), (cL, LL)), ((cR, RR), (cB, BB), (cE, EE), (cW, WW)), ((g : Int), fr, tk, rs, (rd : Int))) → zFr TB w w' → zX G zm_X0_beginDenied (d + 5) [zR br, zI l0, zI r0, zR y, zI (bs : Int)] w0 (zVoid PV) 55 [some (zR br), some (zI l0), some (zI r0), some (zR y), some (zI (bs : Int)), some (zI l1), some (zI a1), some (zI ((q + 1 : Nat) : Int))] [] w') : zX G zm_X0_beginDenied (d + 5) [zR br, zI l0, zI r0, zR y, zI (bs : Int)] w0 (zVoid PV) 55 [some (zR br), some (zI l0), some (zI r0), some (zR y), some (zI (bs : Int)), some (zI l1), some (zI a1), some (zI (q : Int))] [] w := by
  obtain ⟨hbr, ⟨⟨hnd, okN⟩, ⟨hva, okV⟩, ⟨hce, okC⟩, ⟨hli, okL⟩⟩, ⟨⟨hro, okR⟩, ⟨hbi, okB⟩, ⟨hle, okE⟩, ⟨hwk, okW⟩⟩, ⟨⟨c1N, c1V, c1C, c1L⟩, ⟨c1R, c1B, c1E, c1W⟩⟩, ⟨⟨c2N, c2V, c2C, c2L⟩, ⟨c2R, c2B, c2E, c2W⟩⟩, hrm1, hrm2⟩ := id hB
  refine zx_iload (i := 7) dX0_beginDenied_55 rfl ?_
  refine zx_aload_n (i := 3) dX0_beginDenied_57 rfl rfl ?_
  refine zx_getfield dX0_beginDenied_58 zf_X0_184 hy rfl ?_
  refine zx_icmp_ge (tgt := 89) dX0_beginDenied_61 (by decide) (fun h61 => absurd h61 (by omega)) (fun h61 => ?_)
  refine zx_aload_n (i := 0) dX0_beginDenied_64 rfl rfl ?_
  refine zx_getfield dX0_beginDenied_65 zf_X0_28 hbr rfl ?_
  refine zx_aload_n (i := 0) dX0_beginDenied_68 rfl rfl ?_
  refine zx_aload_n (i := 3) dX0_beginDenied_69 rfl rfl ?_
  refine zx_iload (i := 4) dX0_beginDenied_70 rfl ?_
  refine zx_iload (i := 7) dX0_beginDenied_72 rfl ?_
  refine zx_iv (b := br) (As := [zR y, zI (bs : Int), zI (q : Int)]) (st := [zR va]) (v := (some (zI v))) (w1 := w) dX0_beginDenied_74 zc_X0_186 hbr rfl rfl rfl (Nat.le_of_ble_eq_true rfl) rfl hno ?_
  refine zx_st (st1 := [zI v, zR va]) rfl ?_
  refine zx_pc (pc1 := 77) rfl ?_
  refine zx_iconst (v := -1) dX0_beginDenied_77 rfl (z32_lit (by decide) (by decide)) ?_
  refine zx_iconst (v := -1) dX0_beginDenied_78 rfl (z32_lit (by decide) (by decide)) ?_
  refine zx_ok (fun ok_1 => ?_)
  obtain ⟨w_2, hw_3⟩ : ∃ ww, ww = tAw w va 141 br 1 cV VV (trow 1 v (-1) (-1)) := ⟨_, rfl⟩
  have h_4 : w_2.1 va = some (141, br, tTb 1 (tCap 1 cV VV) (VV ++ [(trow 1 v (-1) (-1))])) := by rw [hw_3]; exact tAw_at
  have qhw_3 := tAw_sz3 (w := w) (a := va) (t := 141) (ow := br) (c := 1) (cap := cV) (rows := VV) (r := (trow 1 v (-1) (-1))) (by omega)
  rw [← hw_3] at qhw_3
  refine zx_iv (b := va) (As := [zI v, zI (-1), zI (-1)]) (st := []) (v := (some (zI (VV.length : Int)))) (w1 := w_2) dX0_beginDenied_79 zc_X0_113 hva (z_cls9 (by decide)) rfl rfl (Nat.le_of_ble_eq_true rfl) rfl (by rw [hw_3]; exact (c_X9_add hva (by decide) okV (by omega) (by by_cases cg : VV.length * 1 + 1 ≤ cV; exact Or.inl cg; exact Or.inr ⟨by omega, by omega⟩) v (-1) (-1))) ?_
  refine zx_st (st1 := [zI (VV.length : Int)]) rfl ?_
  refine zx_pop dX0_beginDenied_82 (fun a h => by cases h) ?_
  refine zx_iinc (i := 7) (v := ((q + 1 : Nat) : Int)) dX0_beginDenied_83 rfl (zw_eq (by omega) (by omega) (by omega)) (by decide) rfl ?_
  refine zx_L (L1 := [some (zR br), some (zI l0), some (zI r0), some (zR y), some (zI (bs : Int)), some (zI l1), some (zI a1), some (zI ((q + 1 : Nat) : Int))]) rfl ?_
  refine zx_goto (tgt := 55) dX0_beginDenied_86 (by decide) ?_
  have hfaL9 : zFa [va] w w_2 := (zFa_taw zFa_re (by simp) ok_1 hw_3)
  have hF9 : zFr TB w w_2 := zFr_fa hfaL9 (zLc hva (by simp) zLn)
  have h_5 : w_2.1 nd = some (140, br, tTb 5 cN NN) := by
    rw [hw_3]; exact (tAw_to ok_1 (zne_tg hva hnd (by simp)) hnd)
  have h_6 : w_2.1 ce = some (142, br, tTb 3 cC CC) := by
    rw [hw_3]; exact (tAw_to ok_1 (zne_tg hva hce (by simp)) hce)
  have h_7 : w_2.1 li = some (143, br, tTb 4 cL LL) := by
    rw [hw_3]; exact (tAw_to ok_1 (zne_tg hva hli (by simp)) hli)
  have h_8 : w_2.1 ro = some (144, br, tTb 6 cR RR) := by
    rw [hw_3]; exact (tAw_to ok_1 (zne_tg hva hro (by simp)) hro)
  have h_9 : w_2.1 bi = some (145, br, tTb 2 cB BB) := by
    rw [hw_3]; exact (tAw_to ok_1 (zne_tg hva hbi (by simp)) hbi)
  have h_10 : w_2.1 le = some (146, br, tTb 4 cE EE) := by
    rw [hw_3]; exact (tAw_to ok_1 (zne_tg hva hle (by simp)) hle)
  have h_11 : w_2.1 wk = some (147, br, tTb 3 cW WW) := by
    rw [hw_3]; exact (tAw_to ok_1 (zne_tg hva hwk (by simp)) hwk)
  have h_12 : w_2.1 br = some (0, 0, [zR pg, zR t, zR nd, zI (g : Int), zR va, zR ce, zR li, zR ro, zI fr, zR bi, zR le, zR wk, zI tk, zI rs, zI (rd : Int)]) := by
    rw [hw_3]; exact (tAw_to ok_1 (zne_tg hva hbr (by simp)) hbr)
  have hB9 : bbW w_2 b1 b2 ((br, pg, t), (nd, va, ce, li), (ro, bi, le, wk)) (((cN, NN), ((tCap 1 cV VV), (VV ++ [(trow 1 v (-1) (-1))])), (cC, CC), (cL, LL)), ((cR, RR), (cB, BB), (cE, EE), (cW, WW)), ((g : Int), fr, tk, rs, (rd : Int))) := ⟨h_12, ⟨⟨h_5, okN⟩, ⟨h_4, (tOk_app okV (by first | exact trow_len | rfl))⟩, ⟨h_6, okC⟩, ⟨h_7, okL⟩⟩, ⟨⟨h_8, okR⟩, ⟨h_9, okB⟩, ⟨h_10, okE⟩, ⟨h_11, okW⟩⟩, ⟨⟨by omega, by omega, by omega, by omega⟩, ⟨by omega, by omega, by omega, by omega⟩⟩, ⟨⟨by omega, by omega, by omega, by omega⟩, ⟨by omega, by omega, by omega, by omega⟩⟩, by omega, by omega⟩
  exact k _ hB9 hF9
theorem bd_end (hB : bbW w b1 b2 ((br, pg, t), (nd, va, ce, li), (ro, bi, le, wk)) (((cN, NN), (cV, VV), (cC, CC), (cL, LL)), ((cR, RR), (cB, BB), (cE, EE), (cW, WW)), ((g : Int), fr, tk, rs, (rd : Int)))) (hG1 : b1 + 1800000 ≤ 30 * G.2.2.2.2.1) (hG2 : b2 + 3700000 ≤ G.2.2.2.2.2) (hy : w.1 y = some (3, 0, [zI r.1, zI r.2.1, zI (cnt : Int), zR r.2.2.2.1])) (hlR : RR.length < 3000) (hlC : CC.length < 114000) (hsu : 0 ≤ r.2.1 ∧ r.2.1 < 1000) (k : ∀ w', bbW w' b1 b2 ((br, pg, t), (nd, va, ce, li), (ro, bi, le, wk)) (((cN, NN), (cV, VV), ((tCap 3 cC CC), (CC ++ [trow 3 (60 + r.2.1) a1 (-1)])), (cL, LL)), (((tCap 6 cR RR), (ts (ts (ts (RR ++ [trow 6 l0 0 0]) (RR.length : Int) 3 (CC.length : Int)) (RR.length : Int) 4 (-1)) (RR.length : Int) 5 0)), (cB, BB), (cE, EE), (cW, WW)), ((g : Int), fr, tk, rs, (rd : Int))) → zFr TB w w' → PV w') : zX G zm_X0_beginDenied (d + 5) [zR br, zI l0, zI r0, zR y, zI (bs : Int)] w0 (zVoid PV) 55 [some (zR br), some (zI l0), some (zI r0), some (zR y), some (zI (bs : Int)), some (zI l1), some (zI a1), some (zI (cnt : Int))] [] w := by
  obtain ⟨hbr, ⟨⟨hnd, okN⟩, ⟨hva, okV⟩, ⟨hce, okC⟩, ⟨hli, okL⟩⟩, ⟨⟨hro, okR⟩, ⟨hbi, okB⟩, ⟨hle, okE⟩, ⟨hwk, okW⟩⟩, ⟨⟨c1N, c1V, c1C, c1L⟩, ⟨c1R, c1B, c1E, c1W⟩⟩, ⟨⟨c2N, c2V, c2C, c2L⟩, ⟨c2R, c2B, c2E, c2W⟩⟩, hrm1, hrm2⟩ := id hB
  refine zx_iload (i := 7) dX0_beginDenied_55 rfl ?_
  refine zx_aload_n (i := 3) dX0_beginDenied_57 rfl rfl ?_
  refine zx_getfield dX0_beginDenied_58 zf_X0_184 hy rfl ?_
  refine zx_icmp_ge (tgt := 89) dX0_beginDenied_61 (by decide) (fun h61 => ?_) (fun h61 => absurd (by omega) h61)
  refine zx_aload_n (i := 0) dX0_beginDenied_89 rfl rfl ?_
  refine zx_aload_n (i := 3) dX0_beginDenied_90 rfl rfl ?_
  refine zx_getfield dX0_beginDenied_91 zf_X0_173 hy rfl ?_
  refine zx_iload (i := 6) dX0_beginDenied_94 rfl ?_
  refine zx_iload_n (i := 1) dX0_beginDenied_96 rfl rfl ?_
  have hFp2 : zFr TB w w := zFr_re
  have hBp2 : bbW w b1 b2 ((br, pg, t), (nd, va, ce, li), (ro, bi, le, wk)) (((cN, NN), (cV, VV), (cC, CC), (cL, LL)), ((cR, RR), (cB, BB), (cE, EE), (cW, WW)), ((g : Int), fr, tk, rs, (rd : Int))) := ⟨hbr, ⟨⟨hnd, okN⟩, ⟨hva, okV⟩, ⟨hce, okC⟩, ⟨hli, okL⟩⟩, ⟨⟨hro, okR⟩, ⟨hbi, okB⟩, ⟨hle, okE⟩, ⟨hwk, okW⟩⟩, ⟨⟨by omega, by omega, by omega, by omega⟩, ⟨by omega, by omega, by omega, by omega⟩⟩, ⟨⟨by omega, by omega, by omega, by omega⟩, ⟨by omega, by omega, by omega, by omega⟩⟩, by omega, by omega⟩
  refine zx_ivN (b := br) (As := [zI r.2.1, zI a1, zI l0]) (st := []) dX0_beginDenied_97 zc_X0_134 hbr rfl rfl rfl (Nat.le_of_ble_eq_true rfl) rfl (c_X0_putQuestion hBp2 hG1 hG2 hlR hlC r.2.1 a1 l0 hsu) (fun w2 hq => ?_)
  obtain ⟨hB2, hF2⟩ := hq
  obtain ⟨hbr2, ⟨⟨hnd2, okN2⟩, ⟨hva2, okV2⟩, ⟨hce2, okC2⟩, ⟨hli2, okL2⟩⟩, ⟨⟨hro2, okR2⟩, ⟨hbi2, okB2⟩, ⟨hle2, okE2⟩, ⟨hwk2, okW2⟩⟩, ⟨⟨c1N2, c1V2, c1C2, c1L2⟩, ⟨c1R2, c1B2, c1E2, c1W2⟩⟩, ⟨⟨c2N2, c2V2, c2C2, c2L2⟩, ⟨c2R2, c2B2, c2E2, c2W2⟩⟩, hrm12, hrm22⟩ := id hB2
  refine zx_return dX0_beginDenied_100 rfl ?_
  have hF9 : zFr TB w2 w2 := zFr_re
  have hB9 : bbW w2 b1 b2 ((br, pg, t), (nd, va, ce, li), (ro, bi, le, wk)) (((cN, NN), (cV, VV), ((tCap 3 cC CC), (CC ++ [trow 3 (60 + r.2.1) a1 (-1)])), (cL, LL)), (((tCap 6 cR RR), (ts (ts (ts (RR ++ [trow 6 l0 0 0]) (RR.length : Int) 3 (CC.length : Int)) (RR.length : Int) 4 (-1)) (RR.length : Int) 5 0)), (cB, BB), (cE, EE), (cW, WW)), ((g : Int), fr, tk, rs, (rd : Int))) := ⟨hbr2, ⟨⟨hnd2, okN2⟩, ⟨hva2, okV2⟩, ⟨hce2, okC2⟩, ⟨hli2, okL2⟩⟩, ⟨⟨hro2, okR2⟩, ⟨hbi2, okB2⟩, ⟨hle2, okE2⟩, ⟨hwk2, okW2⟩⟩, ⟨⟨by omega, by omega, by omega, by omega⟩, ⟨by omega, by omega, by omega, by omega⟩⟩, ⟨⟨by omega, by omega, by omega, by omega⟩, ⟨by omega, by omega, by omega, by omega⟩⟩, by omega, by omega⟩
  exact ⟨rfl, k _ hB9 (zFr_tr hFp2 (zFr_tr hF2 hF9))⟩
end BBD
theorem s_beginDenied {G : zG} {d : Nat} {w : zW} {b1 b2 g rd : Nat} {rs : Option Nat} {br pg t nd va ce li ro bi le wk : Nat} {N : bNT} {Vr : List (Option Nat)} {Ce : List (Nat × Nat × Option Nat)} {Ls : bLs} {Ro : List bEn} {fr tk na : Nat} {Bi : List (Nat × Nat)} {lv : bLv} {y bs : Nat} {r : goR} (hW : bsW w b1 b2 ((br, pg, t), (nd, va, ce, li), (ro, bi, le, wk)) g rs rd ((N, Vr, Ce), (Ls, Ro, fr), Bi, lv, (tk, na))) (hG1 : b1 + 1800000 ≤ 30 * G.2.2.2.2.1) (hG2 : b2 + 3700000 ≤ G.2.2.2.2.2) (hg : goW w y r) (ho : gOk r) (hlv : lv.length < 400) (hlR : Ro.length < 3000) (hlV : Vr.length < 5000) (hlC : Ce.length < 114000) (hsu : (gL r).2.1 < 1000) (h1 : r.1 ≠ 1) (hv : ∀ k, k < (gL r).2.2.1 → ∃ n, bNo Vr bs (smv (gL r) k) = some n) (l : Nat) (ro0 : Option Nat) :
    zM G zm_X0_beginDenied (d + 5) [zR br, zI (l : Int), zI (oI ro0), zR y, zI (bs : Int)] w (zVoid fun w' => bsW w' b1 b2 ((br, pg, t), (nd, va, ce, li), (ro, bi, le, wk)) g rs rd ((N, (Vr ++ (List.range (gL r).2.2.1).map (fun k => bNo Vr bs (smv (gL r) k))), (Ce ++ [(60 + (gL r).2.1, Vr.length, none)])), (Ls, (Ro ++ [(some l, (0, 0), some Ce.length, none, 0)]), Ro.length), Bi, ((fr, Ro.length, l, ro0) :: lv), (tk, na)) ∧ zFr TB w w') := by
  obtain ⟨cN, cV, cC, cL, cR, cB, cE, cW, NN, WW, hB, hN, hBi⟩ := id hW
  have hc3 : r.2.2.1 = ((gL r).2.2.1 : Int) ∧ (gL r).2.2.1 ≤ 3 := by
    have h := ho.2.2.1
    have e : (gL r).2.2.1 = r.2.2.1.toNat := rfl
    rw [e]
    omega
  have hs3 : r.2.1 = ((gL r).2.1 : Int) := by
    have h := ho.2.1 h1
    have e : (gL r).2.1 = r.2.1.toNat := rfl
    rw [e]
    omega
  have hy : w.1 y = some (3, 0, [zI r.1, zI r.2.1, zI (((gL r).2.2.1 : Nat) : Int), zR r.2.2.2.1]) := by rw [← hc3.1]; exact hg.1
  have eE : ts (lv.reverse.map rwV ++ [trow 4 (fr : Int) ((Ro.map rwE).length : Int) (l : Int)]) ((lv.reverse.map rwV).length : Int) 3 (oI ro0) = ((fr, Ro.length, l, ro0) :: lv).reverse.map rwV := by
    have e1 : ts (lv.reverse.map rwV ++ [trow 4 (fr : Int) ((Ro.map rwE).length : Int) (l : Int)]) ((lv.reverse.map rwV).length : Int) 3 (oI ro0) = lv.reverse.map rwV ++ [(trow 4 (fr : Int) ((Ro.map rwE).length : Int) (l : Int)).set 3 (oI ro0)] := ts_last (j := 3)
    rw [e1, List.reverse_cons, List.map_append, List.length_map]
    rfl
  refine bd_start hB hG1 hG2 (by rw [List.length_map, List.length_reverse]; exact hlv) (by rw [List.length_map]; exact hlR) (fun w1 hB1 hF1 => ?_)
  rw [eE] at hB1
  have loop : ∀ (j q cV1 : Nat) (X : List (Option Nat)) (w2 : zW), q + j = (gL r).2.2.1 → X = (List.range q).map (fun k => bNo Vr bs (smv (gL r) k)) → bbW w2 b1 b2 ((br, pg, t), (nd, va, ce, li), (ro, bi, le, wk)) (((cN, NN), (cV1, ((Vr ++ X).map (fun o => [oI o]))), (cC, (Ce.map rwC)), (cL, (Ls.map rwL))), ((cR, (Ro.map rwE)), (cB, (Bi.map rwB)), ((tCap 4 cE (lv.reverse.map rwV)), (((fr, Ro.length, l, ro0) :: lv).reverse.map rwV)), (cW, WW)), ((g : Int), ((Ro.map rwE).length : Int), (tk : Int), (oI rs), (rd : Int))) → zFr TB w w2 → zX G zm_X0_beginDenied (d + 5) [zR br, zI (l : Int), zI (oI ro0), zR y, zI (bs : Int)] w (zVoid fun w' => bsW w' b1 b2 ((br, pg, t), (nd, va, ce, li), (ro, bi, le, wk)) g rs rd ((N, (Vr ++ (List.range (gL r).2.2.1).map (fun k => bNo Vr bs (smv (gL r) k))), (Ce ++ [(60 + (gL r).2.1, Vr.length, none)])), (Ls, (Ro ++ [(some l, (0, 0), some Ce.length, none, 0)]), Ro.length), Bi, ((fr, Ro.length, l, ro0) :: lv), (tk, na)) ∧ zFr TB w w') 55 [some (zR br), some (zI (l : Int)), some (zI (oI ro0)), some (zR y), some (zI (bs : Int)), some (zI ((lv.reverse.map rwV).length : Int)), some (zI ((Vr.map (fun o => [oI o])).length : Int)), some (zI ((q : Nat) : Int))] [] w2 := by
    intro j
    induction j with
    | zero =>
      intro q cV1 X w2 hq hX hB2 hF2
      have eq : q = (gL r).2.2.1 := by omega
      rw [eq]
      refine bd_end hB2 hG1 hG2 (hF2 _ _ hy (by simp)) (by rw [List.length_map]; exact hlR) (by rw [List.length_map]; exact hlC) (by omega) (fun w3 hB3 hF3 => ?_)
      have e2 : Ce.map rwC ++ [trow 3 (60 + r.2.1) ((Vr.map (fun o => [oI o])).length : Int) (-1)] = (Ce ++ [(60 + (gL r).2.1, Vr.length, none)]).map rwC := by
        rw [List.map_append, List.length_map, hs3]
        rfl
      have e3 : ts (ts (ts (Ro.map rwE ++ [trow 6 (l : Int) 0 0]) ((Ro.map rwE).length : Int) 3 ((Ce.map rwC).length : Int)) ((Ro.map rwE).length : Int) 4 (-1)) ((Ro.map rwE).length : Int) 5 0 = (Ro ++ [(some l, (0, 0), some Ce.length, none, 0)]).map rwE := by
        have a0 : ts (Ro.map rwE ++ [trow 6 (l : Int) 0 0]) ((Ro.map rwE).length : Int) 3 ((Ce.map rwC).length : Int) = Ro.map rwE ++ [(trow 6 (l : Int) 0 0).set 3 ((Ce.map rwC).length : Int)] := ts_last (j := 3)
        have a1 : ts (Ro.map rwE ++ [(trow 6 (l : Int) 0 0).set 3 ((Ce.map rwC).length : Int)]) ((Ro.map rwE).length : Int) 4 (-1) = Ro.map rwE ++ [((trow 6 (l : Int) 0 0).set 3 ((Ce.map rwC).length : Int)).set 4 (-1)] := ts_last (j := 4)
        have a2 : ts (Ro.map rwE ++ [((trow 6 (l : Int) 0 0).set 3 ((Ce.map rwC).length : Int)).set 4 (-1)]) ((Ro.map rwE).length : Int) 5 0 = Ro.map rwE ++ [(((trow 6 (l : Int) 0 0).set 3 ((Ce.map rwC).length : Int)).set 4 (-1)).set 5 0] := ts_last (j := 5)
        rw [a0, a1, a2, List.map_append, List.length_map]
        rfl
      rw [e2, e3, hX, eq, List.length_map (as := Ro)] at hB3
      exact ⟨⟨_, _, _, _, _, _, _, _, _, _, hB3, hN, hBi⟩, zFr_tr hF2 hF3⟩
    | succ j ih =>
      intro q cV1 X w2 hq hX hB2 hF2
      obtain ⟨n, hn⟩ := hv q (by omega)
      have hXl : X.length = q := by rw [hX, List.length_map, List.length_range]
      have hbs : bs < 1000000 := by
        have := (List.getElem?_eq_some_iff.mp (bNo_iff.mp hn)).1
        omega
      have hno := c_node (G := G) (d := d + 3) hB2 (goW_TB hg hF2) ho hbs (k := q) (by omega)
      rw [bNo_pre (bPre_app _ _) hn] at hno
      refine bd_turn hB2 hG1 hG2 (hF2 _ _ hy (by simp)) hno (by rw [List.length_map, List.length_append, hXl]; omega) (by omega) hc3.2 (fun w3 hB3 hF3 => ?_)
      have e4 : (Vr ++ X).map (fun o => [oI o]) ++ [trow 1 (oI (some n)) (-1) (-1)] = (Vr ++ (X ++ [some n])).map (fun o => [oI o]) := by
        rw [← List.append_assoc, List.map_append (l₂ := [some n])]
        rfl
      rw [e4] at hB3
      exact ih (q + 1) _ (X ++ [some n]) w3 (by omega) (by rw [hX, List.range_succ, List.map_append, List.map_singleton, hn]) hB3 (zFr_tr hF2 hF3)
  exact loop (gL r).2.2.1 0 cV [] w1 (by omega) rfl (by rw [List.append_nil]; exact hB1) hF1
