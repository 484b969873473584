/-! Own rows: breadth's resolve, in pieces. Walked by program (wip/p37/m_bre.py). -/
section BRE
variable {G : zG} {d : Nat} {w w0 : zW} {b1 b2 g rd l c x bs : Nat} {br pg t nd va ce li ro bi le wk : Nat} {cN cV cC cL cR cB cE cW : Nat} {NN VV CC LL RR BB EE WW : List (List Int)} {fr tk rs : Int} {r : goR} {R : pgR} {PV : zW → Prop} {P1 : zW → Prop} {r0 h0 x1 y1 : Int} {o2 o3 o4 o5 o6 o7 o8 : Option zV}
theorem rv_1 (hB : bbW w b1 b2 ((br, pg, t), (nd, va, ce, li), (ro, bi, le, wk)) (((cN, NN), (cV, VV), (cC, CC), (cL, LL)), ((cR, RR), (cB, BB), (cE, EE), (cW, WW)), ((g : Int), fr, tk, rs, (rd : Int)))) (hr : zM G zm_X0_restore (d + 5) [zR br, zI (l : Int)] w (zVoid P1)) (k : ∀ w1, P1 w1 → zX G zm_X0_resolve (d + 6) [zR br, zI (l : Int)] w (zVoid PV) 5 [some (zR br), some (zI (l : Int)), none, none, none, none, none, none, none] [] w1) : zM G zm_X0_resolve (d + 6) [zR br, zI (l : Int)] w (zVoid PV) := by
  refine zx_ent (by decide +kernel) rfl (Nat.le_of_ble_eq_true rfl) ?_
  refine zx_L (L1 := [some (zR br), some (zI (l : Int)), none, none, none, none, none, none, none]) rfl ?_
  obtain ⟨hbr, ⟨⟨hnd, okN⟩, ⟨hva, okV⟩, ⟨hce, okC⟩, ⟨hli, okL⟩⟩, ⟨⟨hro, okR⟩, ⟨hbi, okB⟩, ⟨hle, okE⟩, ⟨hwk, okW⟩⟩, ⟨⟨c1N, c1V, c1C, c1L⟩, ⟨c1R, c1B, c1E, c1W⟩⟩, ⟨⟨c2N, c2V, c2C, c2L⟩, ⟨c2R, c2B, c2E, c2W⟩⟩, hrm1, hrm2⟩ := id hB
  refine zx_aload_n (i := 0) dX0_resolve_0 rfl rfl ?_
  refine zx_iload_n (i := 1) dX0_resolve_1 rfl rfl ?_
  refine zx_ivN (b := br) (As := [zI (l : Int)]) (st := []) dX0_resolve_2 zc_X0_197 hbr rfl rfl rfl (Nat.le_of_ble_eq_true rfl) rfl hr (fun w1 hq1 => ?_)
  exact k w1 hq1
theorem rv_2 (hB : bbW w b1 b2 ((br, pg, t), (nd, va, ce, li), (ro, bi, le, wk)) (((cN, NN), (cV, VV), (cC, CC), (cL, LL)), ((cR, RR), (cB, BB), (cE, EE), (cW, WW)), ((g : Int), fr, tk, rs, (rd : Int)))) (hl3 : tg LL (l : Int) 3 = h0) {cc : Int} (hf : zM G zm_X0_firstToResolve (d + 5) [zR br, zI h0] w (zVal fun o w' => o = zI cc ∧ P1 w')) (k : ∀ w1, P1 w1 → zX G zm_X0_resolve (d + 6) [zR br, zI (l : Int)] w0 (zVoid PV) 19 [some (zR br), some (zI (l : Int)), some (zI cc), o3, o4, o5, o6, o7, o8] [] w1) : zX G zm_X0_resolve (d + 6) [zR br, zI (l : Int)] w0 (zVoid PV) 5 [some (zR br), some (zI (l : Int)), o2, o3, o4, o5, o6, o7, o8] [] w := by
  obtain ⟨hbr, ⟨⟨hnd, okN⟩, ⟨hva, okV⟩, ⟨hce, okC⟩, ⟨hli, okL⟩⟩, ⟨⟨hro, okR⟩, ⟨hbi, okB⟩, ⟨hle, okE⟩, ⟨hwk, okW⟩⟩, ⟨⟨c1N, c1V, c1C, c1L⟩, ⟨c1R, c1B, c1E, c1W⟩⟩, ⟨⟨c2N, c2V, c2C, c2L⟩, ⟨c2R, c2B, c2E, c2W⟩⟩, hrm1, hrm2⟩ := id hB
  refine zx_aload_n (i := 0) dX0_resolve_5 rfl rfl ?_
  refine zx_aload_n (i := 0) dX0_resolve_6 rfl rfl ?_
  refine zx_getfield dX0_resolve_7 zf_X0_34 hbr rfl ?_
  refine zx_iload_n (i := 1) dX0_resolve_10 rfl rfl ?_
  refine zx_iconst (v := 3) dX0_resolve_11 rfl (z32_lit (by decide) (by decide)) ?_
  refine zx_iv (b := li) (As := [zI (l : Int), zI 3]) (st := [zR br]) (v := (some (zI h0))) (w1 := w) dX0_resolve_12 zc_X0_84 hli (z_cls9 (by decide)) rfl rfl (Nat.le_of_ble_eq_true rfl) rfl (by have q := (c_X9_get (G := G) (d := d + 5) hli (by decide) okL (l : Int) 3); rw [hl3] at q; exact q) ?_
  refine zx_st (st1 := [zI h0, zR br]) rfl ?_
  refine zx_ivV (b := br) (As := [zI h0]) (st := []) dX0_resolve_15 zc_X0_200 hbr rfl rfl rfl (Nat.le_of_ble_eq_true rfl) rfl hf (fun v1 w1 hq1 => ?_)
  obtain ⟨ev1, hq1⟩ := hq1
  subst ev1
  refine zx_istore_n (i := 2) dX0_resolve_18 rfl (by decide) rfl ?_
  refine zx_L (L1 := [some (zR br), some (zI (l : Int)), some (zI cc), o3, o4, o5, o6, o7, o8]) rfl ?_
  exact k w1 hq1
theorem rv_3 (hB : bbW w b1 b2 ((br, pg, t), (nd, va, ce, li), (ro, bi, le, wk)) (((cN, NN), (cV, VV), (cC, CC), (cL, LL)), ((cR, RR), (cB, BB), (cE, EE), (cW, WW)), ((g : Int), fr, tk, rs, (rd : Int)))) (hgo : zM G zm_X0_goalOf (d + 5) [zR br, zI (-1)] w (zRet (some zN) w)) (k : PV w)  : zX G zm_X0_resolve (d + 6) [zR br, zI (l : Int)] w0 (zVoid PV) 19 [some (zR br), some (zI (l : Int)), some (zI (-1)), o3, o4, o5, o6, o7, o8] [] w := by
  obtain ⟨hbr, ⟨⟨hnd, okN⟩, ⟨hva, okV⟩, ⟨hce, okC⟩, ⟨hli, okL⟩⟩, ⟨⟨hro, okR⟩, ⟨hbi, okB⟩, ⟨hle, okE⟩, ⟨hwk, okW⟩⟩, ⟨⟨c1N, c1V, c1C, c1L⟩, ⟨c1R, c1B, c1E, c1W⟩⟩, ⟨⟨c2N, c2V, c2C, c2L⟩, ⟨c2R, c2B, c2E, c2W⟩⟩, hrm1, hrm2⟩ := id hB
  refine zx_aload_n (i := 0) dX0_resolve_19 rfl rfl ?_
  refine zx_iload_n (i := 2) dX0_resolve_20 rfl rfl ?_
  refine zx_iv (b := br) (As := [zI (-1)]) (st := []) (v := (some (zN))) (w1 := w) dX0_resolve_21 zc_X0_170 hbr rfl rfl rfl (Nat.le_of_ble_eq_true rfl) rfl hgo ?_
  refine zx_st (st1 := [zN]) rfl ?_
  refine zx_astore_n (i := 3) dX0_resolve_24 rfl (by decide) rfl ?_
  refine zx_L (L1 := [some (zR br), some (zI (l : Int)), some (zI (-1)), some (zN), o4, o5, o6, o7, o8]) rfl ?_
  refine zx_aload_n (i := 3) dX0_resolve_25 rfl rfl ?_
  refine zx_ifnonnull (tgt := 30) dX0_resolve_26 (by decide) (fun h => absurd rfl h) (fun _ => ?_)
  refine zx_return dX0_resolve_29 rfl ?_
  exact ⟨rfl, k⟩
theorem rv_4 (hB : bbW w b1 b2 ((br, pg, t), (nd, va, ce, li), (ro, bi, le, wk)) (((cN, NN), (cV, VV), (cC, CC), (cL, LL)), ((cR, RR), (cB, BB), (cE, EE), (cW, WW)), ((g : Int), fr, tk, rs, (rd : Int)))) (hgo : zM G zm_X0_goalOf (d + 5) [zR br, zI (c : Int)] w (zRet (some (zR x)) w)) (hl3 : tg LL (l : Int) 3 = h0) (hw : zM G zm_X0_without (d + 5) [zR br, zI h0, zI (c : Int)] w (zVal fun o w' => o = zI r0 ∧ P1 w')) (k : ∀ w1, P1 w1 → zX G zm_X0_resolve (d + 6) [zR br, zI (l : Int)] w0 (zVoid PV) 46 [some (zR br), some (zI (l : Int)), some (zI (c : Int)), some (zR x), some (zI r0), o5, o6, o7, o8] [] w1) : zX G zm_X0_resolve (d + 6) [zR br, zI (l : Int)] w0 (zVoid PV) 19 [some (zR br), some (zI (l : Int)), some (zI (c : Int)), o3, o4, o5, o6, o7, o8] [] w := by
  obtain ⟨hbr, ⟨⟨hnd, okN⟩, ⟨hva, okV⟩, ⟨hce, okC⟩, ⟨hli, okL⟩⟩, ⟨⟨hro, okR⟩, ⟨hbi, okB⟩, ⟨hle, okE⟩, ⟨hwk, okW⟩⟩, ⟨⟨c1N, c1V, c1C, c1L⟩, ⟨c1R, c1B, c1E, c1W⟩⟩, ⟨⟨c2N, c2V, c2C, c2L⟩, ⟨c2R, c2B, c2E, c2W⟩⟩, hrm1, hrm2⟩ := id hB
  refine zx_aload_n (i := 0) dX0_resolve_19 rfl rfl ?_
  refine zx_iload_n (i := 2) dX0_resolve_20 rfl rfl ?_
  refine zx_iv (b := br) (As := [zI (c : Int)]) (st := []) (v := (some (zR x))) (w1 := w) dX0_resolve_21 zc_X0_170 hbr rfl rfl rfl (Nat.le_of_ble_eq_true rfl) rfl hgo ?_
  refine zx_st (st1 := [zR x]) rfl ?_
  refine zx_astore_n (i := 3) dX0_resolve_24 rfl (by decide) rfl ?_
  refine zx_L (L1 := [some (zR br), some (zI (l : Int)), some (zI (c : Int)), some (zR x), o4, o5, o6, o7, o8]) rfl ?_
  refine zx_aload_n (i := 3) dX0_resolve_25 rfl rfl ?_
  refine zx_ifnonnull (tgt := 30) dX0_resolve_26 (by decide) (fun _ => ?_) (fun h => by cases h)
  refine zx_aload_n (i := 0) dX0_resolve_30 rfl rfl ?_
  refine zx_aload_n (i := 0) dX0_resolve_31 rfl rfl ?_
  refine zx_getfield dX0_resolve_32 zf_X0_34 hbr rfl ?_
  refine zx_iload_n (i := 1) dX0_resolve_35 rfl rfl ?_
  refine zx_iconst (v := 3) dX0_resolve_36 rfl (z32_lit (by decide) (by decide)) ?_
  refine zx_pc (pc1 := 37) rfl ?_
  refine zx_iv (b := li) (As := [zI (l : Int), zI 3]) (st := [zR br]) (v := (some (zI h0))) (w1 := w) dX0_resolve_37 zc_X0_84 hli (z_cls9 (by decide)) rfl rfl (Nat.le_of_ble_eq_true rfl) rfl (by have q := (c_X9_get (G := G) (d := d + 5) hli (by decide) okL (l : Int) 3); rw [hl3] at q; exact q) ?_
  refine zx_st (st1 := [zI h0, zR br]) rfl ?_
  refine zx_iload_n (i := 2) dX0_resolve_40 rfl rfl ?_
  refine zx_ivV (b := br) (As := [zI h0, zI (c : Int)]) (st := []) dX0_resolve_41 zc_X0_203 hbr rfl rfl rfl (Nat.le_of_ble_eq_true rfl) rfl hw (fun v1 w1 hq1 => ?_)
  obtain ⟨ev1, hq1⟩ := hq1
  subst ev1
  refine zx_istore (i := 4) dX0_resolve_44 (by decide) rfl ?_
  refine zx_L (L1 := [some (zR br), some (zI (l : Int)), some (zI (c : Int)), some (zR x), some (zI r0), o5, o6, o7, o8]) rfl ?_
  exact k w1 hq1
theorem rv_c0 (hB : bbW w b1 b2 ((br, pg, t), (nd, va, ce, li), (ro, bi, le, wk)) (((cN, NN), (cV, VV), (cC, CC), (cL, LL)), ((cR, RR), (cB, BB), (cE, EE), (cW, WW)), ((g : Int), fr, tk, rs, (rd : Int)))) (hg : goW w x r) (hc1 : tg CC (c : Int) 1 = (bs : Int)) (hP : pgW w pg R) (hk : r.1 = 2) (hn : lAt R.2.2.1.1 r.2.1 = none) (k : PV w)  : zX G zm_X0_resolve (d + 6) [zR br, zI (l : Int)] w0 (zVoid PV) 46 [some (zR br), some (zI (l : Int)), some (zI (c : Int)), some (zR x), some (zI r0), o5, o6, o7, o8] [] w := by
  obtain ⟨hbr, ⟨⟨hnd, okN⟩, ⟨hva, okV⟩, ⟨hce, okC⟩, ⟨hli, okL⟩⟩, ⟨⟨hro, okR⟩, ⟨hbi, okB⟩, ⟨hle, okE⟩, ⟨hwk, okW⟩⟩, ⟨⟨c1N, c1V, c1C, c1L⟩, ⟨c1R, c1B, c1E, c1W⟩⟩, ⟨⟨c2N, c2V, c2C, c2L⟩, ⟨c2R, c2B, c2E, c2W⟩⟩, hrm1, hrm2⟩ := id hB
  obtain ⟨hpg, hps, hms, hcs, hPr, hMo, hCl⟩ := id hP
  have helP : ∀ y ∈ R.2.2.1.1, ∃ a b, w.1 y = some ((6, a, b) : zO) := fun y hy => ⟨_, _, (hPr y hy).1.1⟩
  refine zx_aload_n (i := 0) dX0_resolve_46 rfl rfl ?_
  refine zx_getfield dX0_resolve_47 zf_X0_31 hbr rfl ?_
  refine zx_iload_n (i := 2) dX0_resolve_50 rfl rfl ?_
  refine zx_iconst (v := 1) dX0_resolve_51 rfl (z32_lit (by decide) (by decide)) ?_
  refine zx_iv (b := ce) (As := [zI (c : Int), zI 1]) (st := []) (v := (some (zI (bs : Int)))) (w1 := w) dX0_resolve_52 zc_X0_84 hce (z_cls9 (by decide)) rfl rfl (Nat.le_of_ble_eq_true rfl) rfl (by have q := (c_X9_get (G := G) (d := d + 5) hce (by decide) okC (c : Int) 1); rw [hc1] at q; exact q) ?_
  refine zx_st (st1 := [zI (bs : Int)]) rfl ?_
  refine zx_istore (i := 5) dX0_resolve_55 (by decide) rfl ?_
  refine zx_L (L1 := [some (zR br), some (zI (l : Int)), some (zI (c : Int)), some (zR x), some (zI r0), some (zI (bs : Int)), o6, o7, o8]) rfl ?_
  refine zx_aload_n (i := 3) dX0_resolve_57 rfl rfl ?_
  refine zx_getfield dX0_resolve_58 zf_X0_206 hg.1 rfl ?_
  refine zx_iconst (v := 2) dX0_resolve_61 rfl (z32_lit (by decide) (by decide)) ?_
  refine zx_icmp_ne (tgt := 104) dX0_resolve_62 (by decide) (fun h62 => absurd h62 (by omega)) (fun h62 => ?_)
  refine zx_aload_n (i := 0) dX0_resolve_65 rfl rfl ?_
  refine zx_pc (pc1 := 66) rfl ?_
  refine zx_getfield dX0_resolve_66 zf_X0_9 hbr rfl ?_
  refine zx_aload_n (i := 3) dX0_resolve_69 rfl rfl ?_
  refine zx_getfield dX0_resolve_70 zf_X0_173 hg.1 rfl ?_
  refine zx_iv (b := pg) (As := [zI r.2.1]) (st := []) (v := (some (zN))) (w1 := w) dX0_resolve_73 zc_X0_145 hpg rfl rfl rfl (Nat.le_of_ble_eq_true rfl) rfl (by have q := c_X7_predicateAt (G := G) (d := d + 2) hpg hps helP r.2.1; rw [hn] at q; exact q) ?_
  refine zx_st (st1 := [zN]) rfl ?_
  refine zx_astore (i := 6) dX0_resolve_76 (by decide) rfl ?_
  refine zx_L (L1 := [some (zR br), some (zI (l : Int)), some (zI (c : Int)), some (zR x), some (zI r0), some (zI (bs : Int)), some (zN), o7, o8]) rfl ?_
  refine zx_aload (i := 6) dX0_resolve_78 rfl ?_
  refine zx_ifnull (tgt := 101) dX0_resolve_80 (by decide) (fun _ => ?_) (fun h => absurd rfl h)
  refine zx_goto (tgt := 224) dX0_resolve_101 (by decide) ?_
  refine zx_return dX0_resolve_224 rfl ?_
  exact ⟨rfl, k⟩
theorem rv_c1 (hB : bbW w b1 b2 ((br, pg, t), (nd, va, ce, li), (ro, bi, le, wk)) (((cN, NN), (cV, VV), (cC, CC), (cL, LL)), ((cR, RR), (cB, BB), (cE, EE), (cW, WW)), ((g : Int), fr, tk, rs, (rd : Int)))) (hg : goW w x r) (hc1 : tg CC (c : Int) 1 = (bs : Int)) (hP : pgW w pg R) (hk : r.1 = 2) {y : Nat} (hn : lAt R.2.2.1.1 r.2.1 = some y) (hy : y ∈ R.2.2.1.1) (hl : (R.2.2.2.1 y).2.2.2.2.length = 0) (k : PV w)  : zX G zm_X0_resolve (d + 6) [zR br, zI (l : Int)] w0 (zVoid PV) 46 [some (zR br), some (zI (l : Int)), some (zI (c : Int)), some (zR x), some (zI r0), o5, o6, o7, o8] [] w := by
  obtain ⟨hbr, ⟨⟨hnd, okN⟩, ⟨hva, okV⟩, ⟨hce, okC⟩, ⟨hli, okL⟩⟩, ⟨⟨hro, okR⟩, ⟨hbi, okB⟩, ⟨hle, okE⟩, ⟨hwk, okW⟩⟩, ⟨⟨c1N, c1V, c1C, c1L⟩, ⟨c1R, c1B, c1E, c1W⟩⟩, ⟨⟨c2N, c2V, c2C, c2L⟩, ⟨c2R, c2B, c2E, c2W⟩⟩, hrm1, hrm2⟩ := id hB
  obtain ⟨hpg, hps, hms, hcs, hPr, hMo, hCl⟩ := id hP
  have helP : ∀ y ∈ R.2.2.1.1, ∃ a b, w.1 y = some ((6, a, b) : zO) := fun y hy => ⟨_, _, (hPr y hy).1.1⟩
  refine zx_aload_n (i := 0) dX0_resolve_46 rfl rfl ?_
  refine zx_getfield dX0_resolve_47 zf_X0_31 hbr rfl ?_
  refine zx_iload_n (i := 2) dX0_resolve_50 rfl rfl ?_
  refine zx_iconst (v := 1) dX0_resolve_51 rfl (z32_lit (by decide) (by decide)) ?_
  refine zx_iv (b := ce) (As := [zI (c : Int), zI 1]) (st := []) (v := (some (zI (bs : Int)))) (w1 := w) dX0_resolve_52 zc_X0_84 hce (z_cls9 (by decide)) rfl rfl (Nat.le_of_ble_eq_true rfl) rfl (by have q := (c_X9_get (G := G) (d := d + 5) hce (by decide) okC (c : Int) 1); rw [hc1] at q; exact q) ?_
  refine zx_st (st1 := [zI (bs : Int)]) rfl ?_
  refine zx_istore (i := 5) dX0_resolve_55 (by decide) rfl ?_
  refine zx_L (L1 := [some (zR br), some (zI (l : Int)), some (zI (c : Int)), some (zR x), some (zI r0), some (zI (bs : Int)), o6, o7, o8]) rfl ?_
  refine zx_aload_n (i := 3) dX0_resolve_57 rfl rfl ?_
  refine zx_getfield dX0_resolve_58 zf_X0_206 hg.1 rfl ?_
  refine zx_iconst (v := 2) dX0_resolve_61 rfl (z32_lit (by decide) (by decide)) ?_
  refine zx_icmp_ne (tgt := 104) dX0_resolve_62 (by decide) (fun h62 => absurd h62 (by omega)) (fun h62 => ?_)
  refine zx_aload_n (i := 0) dX0_resolve_65 rfl rfl ?_
  refine zx_pc (pc1 := 66) rfl ?_
  refine zx_getfield dX0_resolve_66 zf_X0_9 hbr rfl ?_
  refine zx_aload_n (i := 3) dX0_resolve_69 rfl rfl ?_
  refine zx_getfield dX0_resolve_70 zf_X0_173 hg.1 rfl ?_
  refine zx_iv (b := pg) (As := [zI r.2.1]) (st := []) (v := (some (zR y))) (w1 := w) dX0_resolve_73 zc_X0_145 hpg rfl rfl rfl (Nat.le_of_ble_eq_true rfl) rfl (by have q := c_X7_predicateAt (G := G) (d := d + 2) hpg hps helP r.2.1; rw [hn] at q; exact q) ?_
  refine zx_st (st1 := [zR y]) rfl ?_
  refine zx_astore (i := 6) dX0_resolve_76 (by decide) rfl ?_
  refine zx_L (L1 := [some (zR br), some (zI (l : Int)), some (zI (c : Int)), some (zR x), some (zI r0), some (zI (bs : Int)), some (zR y), o7, o8]) rfl ?_
  refine zx_aload (i := 6) dX0_resolve_78 rfl ?_
  refine zx_ifnull (tgt := 101) dX0_resolve_80 (by decide) (fun h => by cases h) (fun _ => ?_)
  refine zx_aload (i := 6) dX0_resolve_83 rfl ?_
  refine zx_iv (b := y) (As := []) (st := []) (v := (some (zI ((R.2.2.2.1 y).2.2.2.2.length : Int)))) (w1 := w) dX0_resolve_85 zc_X0_181 (hPr y hy).1.1 rfl rfl rfl (Nat.le_of_ble_eq_true rfl) rfl (c_X6_clauseCount (hPr y hy).1.1 (hPr y hy).1.2.2.2) ?_
  refine zx_st (st1 := [zI ((R.2.2.2.1 y).2.2.2.2.length : Int)]) rfl ?_
  refine zx_if_le (tgt := 101) dX0_resolve_88 (by decide) (fun h88 => ?_) (fun h88 => absurd (by omega) h88)
  refine zx_goto (tgt := 224) dX0_resolve_101 (by decide) ?_
  refine zx_return dX0_resolve_224 rfl ?_
  exact ⟨rfl, k⟩
theorem rv_c2 (hB : bbW w b1 b2 ((br, pg, t), (nd, va, ce, li), (ro, bi, le, wk)) (((cN, NN), (cV, VV), (cC, CC), (cL, LL)), ((cR, RR), (cB, BB), (cE, EE), (cW, WW)), ((g : Int), fr, tk, rs, (rd : Int)))) (hg : goW w x r) (hc1 : tg CC (c : Int) 1 = (bs : Int)) (hP : pgW w pg R) (hk : r.1 = 2) {y : Nat} (hn : lAt R.2.2.1.1 r.2.1 = some y) (hy : y ∈ R.2.2.1.1) (hl : 0 < (R.2.2.2.1 y).2.2.2.2.length) (ha : zM G zm_X0_addToRow (d + 5) [zR br, zI (l : Int), zI 0, zI 0, zI r0, zI (c : Int)] w (zVoid PV))  : zX G zm_X0_resolve (d + 6) [zR br, zI (l : Int)] w0 (zVoid PV) 46 [some (zR br), some (zI (l : Int)), some (zI (c : Int)), some (zR x), some (zI r0), o5, o6, o7, o8] [] w := by
  obtain ⟨hbr, ⟨⟨hnd, okN⟩, ⟨hva, okV⟩, ⟨hce, okC⟩, ⟨hli, okL⟩⟩, ⟨⟨hro, okR⟩, ⟨hbi, okB⟩, ⟨hle, okE⟩, ⟨hwk, okW⟩⟩, ⟨⟨c1N, c1V, c1C, c1L⟩, ⟨c1R, c1B, c1E, c1W⟩⟩, ⟨⟨c2N, c2V, c2C, c2L⟩, ⟨c2R, c2B, c2E, c2W⟩⟩, hrm1, hrm2⟩ := id hB
  obtain ⟨hpg, hps, hms, hcs, hPr, hMo, hCl⟩ := id hP
  have helP : ∀ y ∈ R.2.2.1.1, ∃ a b, w.1 y = some ((6, a, b) : zO) := fun y hy => ⟨_, _, (hPr y hy).1.1⟩
  refine zx_aload_n (i := 0) dX0_resolve_46 rfl rfl ?_
  refine zx_getfield dX0_resolve_47 zf_X0_31 hbr rfl ?_
  refine zx_iload_n (i := 2) dX0_resolve_50 rfl rfl ?_
  refine zx_iconst (v := 1) dX0_resolve_51 rfl (z32_lit (by decide) (by decide)) ?_
  refine zx_iv (b := ce) (As := [zI (c : Int), zI 1]) (st := []) (v := (some (zI (bs : Int)))) (w1 := w) dX0_resolve_52 zc_X0_84 hce (z_cls9 (by decide)) rfl rfl (Nat.le_of_ble_eq_true rfl) rfl (by have q := (c_X9_get (G := G) (d := d + 5) hce (by decide) okC (c : Int) 1); rw [hc1] at q; exact q) ?_
  refine zx_st (st1 := [zI (bs : Int)]) rfl ?_
  refine zx_istore (i := 5) dX0_resolve_55 (by decide) rfl ?_
  refine zx_L (L1 := [some (zR br), some (zI (l : Int)), some (zI (c : Int)), some (zR x), some (zI r0), some (zI (bs : Int)), o6, o7, o8]) rfl ?_
  refine zx_aload_n (i := 3) dX0_resolve_57 rfl rfl ?_
  refine zx_getfield dX0_resolve_58 zf_X0_206 hg.1 rfl ?_
  refine zx_iconst (v := 2) dX0_resolve_61 rfl (z32_lit (by decide) (by decide)) ?_
  refine zx_icmp_ne (tgt := 104) dX0_resolve_62 (by decide) (fun h62 => absurd h62 (by omega)) (fun h62 => ?_)
  refine zx_aload_n (i := 0) dX0_resolve_65 rfl rfl ?_
  refine zx_pc (pc1 := 66) rfl ?_
  refine zx_getfield dX0_resolve_66 zf_X0_9 hbr rfl ?_
  refine zx_aload_n (i := 3) dX0_resolve_69 rfl rfl ?_
  refine zx_getfield dX0_resolve_70 zf_X0_173 hg.1 rfl ?_
  refine zx_iv (b := pg) (As := [zI r.2.1]) (st := []) (v := (some (zR y))) (w1 := w) dX0_resolve_73 zc_X0_145 hpg rfl rfl rfl (Nat.le_of_ble_eq_true rfl) rfl (by have q := c_X7_predicateAt (G := G) (d := d + 2) hpg hps helP r.2.1; rw [hn] at q; exact q) ?_
  refine zx_st (st1 := [zR y]) rfl ?_
  refine zx_astore (i := 6) dX0_resolve_76 (by decide) rfl ?_
  refine zx_L (L1 := [some (zR br), some (zI (l : Int)), some (zI (c : Int)), some (zR x), some (zI r0), some (zI (bs : Int)), some (zR y), o7, o8]) rfl ?_
  refine zx_aload (i := 6) dX0_resolve_78 rfl ?_
  refine zx_ifnull (tgt := 101) dX0_resolve_80 (by decide) (fun h => by cases h) (fun _ => ?_)
  refine zx_aload (i := 6) dX0_resolve_83 rfl ?_
  refine zx_iv (b := y) (As := []) (st := []) (v := (some (zI ((R.2.2.2.1 y).2.2.2.2.length : Int)))) (w1 := w) dX0_resolve_85 zc_X0_181 (hPr y hy).1.1 rfl rfl rfl (Nat.le_of_ble_eq_true rfl) rfl (c_X6_clauseCount (hPr y hy).1.1 (hPr y hy).1.2.2.2) ?_
  refine zx_st (st1 := [zI ((R.2.2.2.1 y).2.2.2.2.length : Int)]) rfl ?_
  refine zx_if_le (tgt := 101) dX0_resolve_88 (by decide) (fun h88 => absurd h88 (by omega)) (fun h88 => ?_)
  refine zx_aload_n (i := 0) dX0_resolve_91 rfl rfl ?_
  refine zx_iload_n (i := 1) dX0_resolve_92 rfl rfl ?_
  refine zx_pc (pc1 := 93) rfl ?_
  refine zx_iconst (v := 0) dX0_resolve_93 rfl (z32_lit (by decide) (by decide)) ?_
  refine zx_iconst (v := 0) dX0_resolve_94 rfl (z32_lit (by decide) (by decide)) ?_
  refine zx_iload (i := 4) dX0_resolve_95 rfl ?_
  refine zx_iload_n (i := 2) dX0_resolve_97 rfl rfl ?_
  refine zx_ivN (b := br) (As := [zI (l : Int), zI 0, zI 0, zI r0, zI (c : Int)]) (st := []) dX0_resolve_98 zc_X0_138 hbr rfl rfl rfl (Nat.le_of_ble_eq_true rfl) rfl ha (fun w1 hq1 => ?_)
  refine zx_goto (tgt := 224) dX0_resolve_101 (by decide) ?_
  refine zx_return dX0_resolve_224 rfl ?_
  exact ⟨rfl, hq1⟩
theorem rv_d (hB : bbW w b1 b2 ((br, pg, t), (nd, va, ce, li), (ro, bi, le, wk)) (((cN, NN), (cV, VV), (cC, CC), (cL, LL)), ((cR, RR), (cB, BB), (cE, EE), (cW, WW)), ((g : Int), fr, tk, rs, (rd : Int)))) (hg : goW w x r) (hc1 : tg CC (c : Int) 1 = (bs : Int)) (hk : r.1 = 3) (hd : zM G zm_X0_beginDenied (d + 5) [zR br, zI (l : Int), zI r0, zR x, zI (bs : Int)] w (zVoid PV))  : zX G zm_X0_resolve (d + 6) [zR br, zI (l : Int)] w0 (zVoid PV) 46 [some (zR br), some (zI (l : Int)), some (zI (c : Int)), some (zR x), some (zI r0), o5, o6, o7, o8] [] w := by
  obtain ⟨hbr, ⟨⟨hnd, okN⟩, ⟨hva, okV⟩, ⟨hce, okC⟩, ⟨hli, okL⟩⟩, ⟨⟨hro, okR⟩, ⟨hbi, okB⟩, ⟨hle, okE⟩, ⟨hwk, okW⟩⟩, ⟨⟨c1N, c1V, c1C, c1L⟩, ⟨c1R, c1B, c1E, c1W⟩⟩, ⟨⟨c2N, c2V, c2C, c2L⟩, ⟨c2R, c2B, c2E, c2W⟩⟩, hrm1, hrm2⟩ := id hB
  refine zx_aload_n (i := 0) dX0_resolve_46 rfl rfl ?_
  refine zx_getfield dX0_resolve_47 zf_X0_31 hbr rfl ?_
  refine zx_iload_n (i := 2) dX0_resolve_50 rfl rfl ?_
  refine zx_iconst (v := 1) dX0_resolve_51 rfl (z32_lit (by decide) (by decide)) ?_
  refine zx_iv (b := ce) (As := [zI (c : Int), zI 1]) (st := []) (v := (some (zI (bs : Int)))) (w1 := w) dX0_resolve_52 zc_X0_84 hce (z_cls9 (by decide)) rfl rfl (Nat.le_of_ble_eq_true rfl) rfl (by have q := (c_X9_get (G := G) (d := d + 5) hce (by decide) okC (c : Int) 1); rw [hc1] at q; exact q) ?_
  refine zx_st (st1 := [zI (bs : Int)]) rfl ?_
  refine zx_istore (i := 5) dX0_resolve_55 (by decide) rfl ?_
  refine zx_L (L1 := [some (zR br), some (zI (l : Int)), some (zI (c : Int)), some (zR x), some (zI r0), some (zI (bs : Int)), o6, o7, o8]) rfl ?_
  refine zx_aload_n (i := 3) dX0_resolve_57 rfl rfl ?_
  refine zx_getfield dX0_resolve_58 zf_X0_206 hg.1 rfl ?_
  refine zx_iconst (v := 2) dX0_resolve_61 rfl (z32_lit (by decide) (by decide)) ?_
  refine zx_icmp_ne (tgt := 104) dX0_resolve_62 (by decide) (fun h62 => ?_) (fun h62 => absurd (by omega) h62)
  refine zx_aload_n (i := 3) dX0_resolve_104 rfl rfl ?_
  refine zx_pc (pc1 := 105) rfl ?_
  refine zx_getfield dX0_resolve_105 zf_X0_206 hg.1 rfl ?_
  refine zx_iconst (v := 3) dX0_resolve_108 rfl (z32_lit (by decide) (by decide)) ?_
  refine zx_icmp_ne (tgt := 125) dX0_resolve_109 (by decide) (fun h109 => absurd h109 (by omega)) (fun h109 => ?_)
  refine zx_aload_n (i := 0) dX0_resolve_112 rfl rfl ?_
  refine zx_iload_n (i := 1) dX0_resolve_113 rfl rfl ?_
  refine zx_iload (i := 4) dX0_resolve_114 rfl ?_
  refine zx_aload_n (i := 3) dX0_resolve_116 rfl rfl ?_
  refine zx_iload (i := 5) dX0_resolve_117 rfl ?_
  refine zx_ivN (b := br) (As := [zI (l : Int), zI r0, zR x, zI (bs : Int)]) (st := []) dX0_resolve_119 zc_X0_209 hbr rfl rfl rfl (Nat.le_of_ble_eq_true rfl) rfl hd (fun w1 hq1 => ?_)
  refine zx_goto (tgt := 224) dX0_resolve_122 (by decide) ?_
  refine zx_return dX0_resolve_224 rfl ?_
  exact ⟨rfl, hq1⟩
theorem rv_u (hB : bbW w b1 b2 ((br, pg, t), (nd, va, ce, li), (ro, bi, le, wk)) (((cN, NN), (cV, VV), (cC, CC), (cL, LL)), ((cR, RR), (cB, BB), (cE, EE), (cW, WW)), ((g : Int), fr, tk, rs, (rd : Int)))) (hg : goW w x r) (hc1 : tg CC (c : Int) 1 = (bs : Int)) (hk : r.1 ≤ 1) (hno : zM G zm_X0_nodeOf (d + 5) [zR br, zR x, zI (bs : Int), zI 0] w (zRet (some (zI x1)) w)) (hrs : zM G zm_X0_rightSide (d + 5) [zR br, zR x, zI (bs : Int)] w (zVal fun o w' => o = zI y1 ∧ P1 w')) (k : ∀ w1, P1 w1 → zX G zm_X0_resolve (d + 6) [zR br, zI (l : Int)] w0 (zVoid PV) 154 [some (zR br), some (zI (l : Int)), some (zI (c : Int)), some (zR x), some (zI r0), some (zI (bs : Int)), some (zI (BB.length : Int)), some (zI x1), o8] [zI y1, zI x1, zR br] w1) : zX G zm_X0_resolve (d + 6) [zR br, zI (l : Int)] w0 (zVoid PV) 46 [some (zR br), some (zI (l : Int)), some (zI (c : Int)), some (zR x), some (zI r0), o5, o6, o7, o8] [] w := by
  obtain ⟨hbr, ⟨⟨hnd, okN⟩, ⟨hva, okV⟩, ⟨hce, okC⟩, ⟨hli, okL⟩⟩, ⟨⟨hro, okR⟩, ⟨hbi, okB⟩, ⟨hle, okE⟩, ⟨hwk, okW⟩⟩, ⟨⟨c1N, c1V, c1C, c1L⟩, ⟨c1R, c1B, c1E, c1W⟩⟩, ⟨⟨c2N, c2V, c2C, c2L⟩, ⟨c2R, c2B, c2E, c2W⟩⟩, hrm1, hrm2⟩ := id hB
  refine zx_aload_n (i := 0) dX0_resolve_46 rfl rfl ?_
  refine zx_getfield dX0_resolve_47 zf_X0_31 hbr rfl ?_
  refine zx_iload_n (i := 2) dX0_resolve_50 rfl rfl ?_
  refine zx_iconst (v := 1) dX0_resolve_51 rfl (z32_lit (by decide) (by decide)) ?_
  refine zx_iv (b := ce) (As := [zI (c : Int), zI 1]) (st := []) (v := (some (zI (bs : Int)))) (w1 := w) dX0_resolve_52 zc_X0_84 hce (z_cls9 (by decide)) rfl rfl (Nat.le_of_ble_eq_true rfl) rfl (by have q := (c_X9_get (G := G) (d := d + 5) hce (by decide) okC (c : Int) 1); rw [hc1] at q; exact q) ?_
  refine zx_st (st1 := [zI (bs : Int)]) rfl ?_
  refine zx_istore (i := 5) dX0_resolve_55 (by decide) rfl ?_
  refine zx_L (L1 := [some (zR br), some (zI (l : Int)), some (zI (c : Int)), some (zR x), some (zI r0), some (zI (bs : Int)), o6, o7, o8]) rfl ?_
  refine zx_aload_n (i := 3) dX0_resolve_57 rfl rfl ?_
  refine zx_getfield dX0_resolve_58 zf_X0_206 hg.1 rfl ?_
  refine zx_iconst (v := 2) dX0_resolve_61 rfl (z32_lit (by decide) (by decide)) ?_
  refine zx_icmp_ne (tgt := 104) dX0_resolve_62 (by decide) (fun h62 => ?_) (fun h62 => absurd (by omega) h62)
  refine zx_aload_n (i := 3) dX0_resolve_104 rfl rfl ?_
  refine zx_pc (pc1 := 105) rfl ?_
  refine zx_getfield dX0_resolve_105 zf_X0_206 hg.1 rfl ?_
  refine zx_iconst (v := 3) dX0_resolve_108 rfl (z32_lit (by decide) (by decide)) ?_
  refine zx_icmp_ne (tgt := 125) dX0_resolve_109 (by decide) (fun h109 => ?_) (fun h109 => absurd (by omega) h109)
  refine zx_aload_n (i := 0) dX0_resolve_125 rfl rfl ?_
  refine zx_getfield dX0_resolve_126 zf_X0_40 hbr rfl ?_
  refine zx_iv (b := bi) (As := []) (st := []) (v := (some (zI (BB.length : Int)))) (w1 := w) dX0_resolve_129 zc_X0_70 hbi (z_cls9 (by decide)) rfl rfl (Nat.le_of_ble_eq_true rfl) rfl (c_X9_count hbi (by decide) okB) ?_
  refine zx_st (st1 := [zI (BB.length : Int)]) rfl ?_
  refine zx_istore (i := 6) dX0_resolve_132 (by decide) rfl ?_
  refine zx_L (L1 := [some (zR br), some (zI (l : Int)), some (zI (c : Int)), some (zR x), some (zI r0), some (zI (bs : Int)), some (zI (BB.length : Int)), o7, o8]) rfl ?_
  refine zx_aload_n (i := 0) dX0_resolve_134 rfl rfl ?_
  refine zx_aload_n (i := 3) dX0_resolve_135 rfl rfl ?_
  refine zx_iload (i := 5) dX0_resolve_136 rfl ?_
  refine zx_iconst (v := 0) dX0_resolve_138 rfl (z32_lit (by decide) (by decide)) ?_
  refine zx_iv (b := br) (As := [zR x, zI (bs : Int), zI 0]) (st := []) (v := (some (zI x1))) (w1 := w) dX0_resolve_139 zc_X0_186 hbr rfl rfl rfl (Nat.le_of_ble_eq_true rfl) rfl hno ?_
  refine zx_st (st1 := [zI x1]) rfl ?_
  refine zx_pc (pc1 := 142) rfl ?_
  refine zx_istore (i := 7) dX0_resolve_142 (by decide) rfl ?_
  refine zx_L (L1 := [some (zR br), some (zI (l : Int)), some (zI (c : Int)), some (zR x), some (zI r0), some (zI (bs : Int)), some (zI (BB.length : Int)), some (zI x1), o8]) rfl ?_
  refine zx_aload_n (i := 0) dX0_resolve_144 rfl rfl ?_
  refine zx_iload (i := 7) dX0_resolve_145 rfl ?_
  refine zx_aload_n (i := 0) dX0_resolve_147 rfl rfl ?_
  refine zx_aload_n (i := 3) dX0_resolve_148 rfl rfl ?_
  refine zx_iload (i := 5) dX0_resolve_149 rfl ?_
  refine zx_ivV (b := br) (As := [zR x, zI (bs : Int)]) (st := [zI x1, zR br]) dX0_resolve_151 zc_X0_213 hbr rfl rfl rfl (Nat.le_of_ble_eq_true rfl) rfl hrs (fun v1 w1 hq1 => ?_)
  obtain ⟨ev1, hq1⟩ := hq1
  subst ev1
  exact k w1 hq1
variable {f1 : Int}
theorem rv_n (hB : bbW w b1 b2 ((br, pg, t), (nd, va, ce, li), (ro, bi, le, wk)) (((cN, NN), (cV, VV), (cC, CC), (cL, LL)), ((cR, RR), (cB, BB), (cE, EE), (cW, WW)), ((g : Int), fr, tk, rs, (rd : Int)))) {P0 : zW → Prop} (hu : zM G zm_X0_unify (d + 5) [zR br, zI x1, zI y1] w (zVal fun o w' => (o = zI 0 ∧ P0 w') ∨ (o = zI 1 ∧ P1 w'))) (k0 : ∀ w1, P0 w1 → zX G zm_X0_resolve (d + 6) [zR br, zI (l : Int)] w0 (zVoid PV) 176 [some (zR br), some (zI (l : Int)), some (zI (c : Int)), some (zR x), some (zI r0), some (zI (bs : Int)), some (zI f1), some (zI x1), some (zI 0)] [] w1) (k : ∀ w1, P1 w1 → zX G zm_X0_resolve (d + 6) [zR br, zI (l : Int)] w0 (zVoid PV) 160 [some (zR br), some (zI (l : Int)), some (zI (c : Int)), some (zR x), some (zI r0), some (zI (bs : Int)), some (zI f1), some (zI x1), o8] [] w1) : zX G zm_X0_resolve (d + 6) [zR br, zI (l : Int)] w0 (zVoid PV) 154 [some (zR br), some (zI (l : Int)), some (zI (c : Int)), some (zR x), some (zI r0), some (zI (bs : Int)), some (zI f1), some (zI x1), o8] [zI y1, zI x1, zR br] w := by
  obtain ⟨hbr, ⟨⟨hnd, okN⟩, ⟨hva, okV⟩, ⟨hce, okC⟩, ⟨hli, okL⟩⟩, ⟨⟨hro, okR⟩, ⟨hbi, okB⟩, ⟨hle, okE⟩, ⟨hwk, okW⟩⟩, ⟨⟨c1N, c1V, c1C, c1L⟩, ⟨c1R, c1B, c1E, c1W⟩⟩, ⟨⟨c2N, c2V, c2C, c2L⟩, ⟨c2R, c2B, c2E, c2W⟩⟩, hrm1, hrm2⟩ := id hB
  refine zx_ivV (b := br) (As := [zI x1, zI y1]) (st := []) dX0_resolve_154 zc_X0_217 hbr rfl rfl rfl (Nat.le_of_ble_eq_true rfl) rfl hu (fun v1 w1 hq1 => ?_)
  rcases hq1 with ⟨ev1, hq1⟩ | ⟨ev1, hq1⟩ <;> subst ev1
  · refine zx_if_eq (tgt := 173) dX0_resolve_157 (by decide) (fun h157 => ?_) (fun h157 => absurd (by decide) h157)
    refine zx_iconst (v := 0) dX0_resolve_173 rfl (z32_lit (by decide) (by decide)) ?_
    refine zx_istore (i := 8) dX0_resolve_174 (by decide) rfl ?_
    refine zx_L (L1 := [some (zR br), some (zI (l : Int)), some (zI (c : Int)), some (zR x), some (zI r0), some (zI (bs : Int)), some (zI f1), some (zI x1), some (zI 0)]) rfl ?_
    exact k0 w1 hq1
  · refine zx_if_eq (tgt := 173) dX0_resolve_157 (by decide) (fun h157 => absurd h157 (by decide)) (fun h157 => ?_)
    exact k w1 hq1
theorem rv_f0 (hB : bbW w b1 b2 ((br, pg, t), (nd, va, ce, li), (ro, bi, le, wk)) (((cN, NN), (cV, VV), (cC, CC), (cL, LL)), ((cR, RR), (cB, BB), (cE, EE), (cW, WW)), ((g : Int), fr, tk, rs, (rd : Int)))) (hf : zM G zm_X0_isFinite (d + 5) [zR br, zI x1] w (zVal fun o w' => o = zI 0 ∧ P1 w')) (k : ∀ w1, P1 w1 → zX G zm_X0_resolve (d + 6) [zR br, zI (l : Int)] w0 (zVoid PV) 176 [some (zR br), some (zI (l : Int)), some (zI (c : Int)), some (zR x), some (zI r0), some (zI (bs : Int)), some (zI f1), some (zI x1), some (zI 0)] [] w1) : zX G zm_X0_resolve (d + 6) [zR br, zI (l : Int)] w0 (zVoid PV) 160 [some (zR br), some (zI (l : Int)), some (zI (c : Int)), some (zR x), some (zI r0), some (zI (bs : Int)), some (zI f1), some (zI x1), o8] [] w := by
  obtain ⟨hbr, ⟨⟨hnd, okN⟩, ⟨hva, okV⟩, ⟨hce, okC⟩, ⟨hli, okL⟩⟩, ⟨⟨hro, okR⟩, ⟨hbi, okB⟩, ⟨hle, okE⟩, ⟨hwk, okW⟩⟩, ⟨⟨c1N, c1V, c1C, c1L⟩, ⟨c1R, c1B, c1E, c1W⟩⟩, ⟨⟨c2N, c2V, c2C, c2L⟩, ⟨c2R, c2B, c2E, c2W⟩⟩, hrm1, hrm2⟩ := id hB
  refine zx_aload_n (i := 0) dX0_resolve_160 rfl rfl ?_
  refine zx_iload (i := 7) dX0_resolve_161 rfl ?_
  refine zx_ivV (b := br) (As := [zI x1]) (st := []) dX0_resolve_163 zc_X0_221 hbr rfl rfl rfl (Nat.le_of_ble_eq_true rfl) rfl hf (fun v1 w1 hq1 => ?_)
  obtain ⟨ev1, hq1⟩ := hq1
  subst ev1
  refine zx_if_eq (tgt := 173) dX0_resolve_166 (by decide) (fun h166 => ?_) (fun h166 => absurd (by decide) h166)
  refine zx_iconst (v := 0) dX0_resolve_173 rfl (z32_lit (by decide) (by decide)) ?_
  refine zx_istore (i := 8) dX0_resolve_174 (by decide) rfl ?_
  refine zx_L (L1 := [some (zR br), some (zI (l : Int)), some (zI (c : Int)), some (zR x), some (zI r0), some (zI (bs : Int)), some (zI f1), some (zI x1), some (zI 0)]) rfl ?_
  exact k w1 hq1
theorem rv_f1 (hB : bbW w b1 b2 ((br, pg, t), (nd, va, ce, li), (ro, bi, le, wk)) (((cN, NN), (cV, VV), (cC, CC), (cL, LL)), ((cR, RR), (cB, BB), (cE, EE), (cW, WW)), ((g : Int), fr, tk, rs, (rd : Int)))) (hf : zM G zm_X0_isFinite (d + 5) [zR br, zI x1] w (zVal fun o w' => o = zI 1 ∧ P1 w')) (k : ∀ w1, P1 w1 → zX G zm_X0_resolve (d + 6) [zR br, zI (l : Int)] w0 (zVoid PV) 176 [some (zR br), some (zI (l : Int)), some (zI (c : Int)), some (zR x), some (zI r0), some (zI (bs : Int)), some (zI f1), some (zI x1), some (zI 1)] [] w1) : zX G zm_X0_resolve (d + 6) [zR br, zI (l : Int)] w0 (zVoid PV) 160 [some (zR br), some (zI (l : Int)), some (zI (c : Int)), some (zR x), some (zI r0), some (zI (bs : Int)), some (zI f1), some (zI x1), o8] [] w := by
  obtain ⟨hbr, ⟨⟨hnd, okN⟩, ⟨hva, okV⟩, ⟨hce, okC⟩, ⟨hli, okL⟩⟩, ⟨⟨hro, okR⟩, ⟨hbi, okB⟩, ⟨hle, okE⟩, ⟨hwk, okW⟩⟩, ⟨⟨c1N, c1V, c1C, c1L⟩, ⟨c1R, c1B, c1E, c1W⟩⟩, ⟨⟨c2N, c2V, c2C, c2L⟩, ⟨c2R, c2B, c2E, c2W⟩⟩, hrm1, hrm2⟩ := id hB
  refine zx_aload_n (i := 0) dX0_resolve_160 rfl rfl ?_
  refine zx_iload (i := 7) dX0_resolve_161 rfl ?_
  refine zx_ivV (b := br) (As := [zI x1]) (st := []) dX0_resolve_163 zc_X0_221 hbr rfl rfl rfl (Nat.le_of_ble_eq_true rfl) rfl hf (fun v1 w1 hq1 => ?_)
  obtain ⟨ev1, hq1⟩ := hq1
  subst ev1
  refine zx_if_eq (tgt := 173) dX0_resolve_166 (by decide) (fun h166 => absurd h166 (by decide)) (fun h166 => ?_)
  refine zx_iconst (v := 1) dX0_resolve_169 rfl (z32_lit (by decide) (by decide)) ?_
  refine zx_goto (tgt := 174) dX0_resolve_170 (by decide) ?_
  refine zx_istore (i := 8) dX0_resolve_174 (by decide) rfl ?_
  refine zx_L (L1 := [some (zR br), some (zI (l : Int)), some (zI (c : Int)), some (zR x), some (zI r0), some (zI (bs : Int)), some (zI f1), some (zI x1), some (zI 1)]) rfl ?_
  exact k w1 hq1
variable {e8 : Int}
theorem rv_b (hB : bbW w b1 b2 ((br, pg, t), (nd, va, ce, li), (ro, bi, le, wk)) (((cN, NN), (cV, VV), (cC, CC), (cL, LL)), ((cR, RR), (cB, BB), (cE, EE), (cW, WW)), ((g : Int), fr, tk, rs, (rd : Int)))) (hb : zM G zm_X0_bind (d + 5) [zR br, zI f1, zI (BB.length : Int), zI 0] w (zVoid P1)) (k : ∀ w1, P1 w1 → zX G zm_X0_resolve (d + 6) [zR br, zI (l : Int)] w0 (zVoid PV) 190 [some (zR br), some (zI (l : Int)), some (zI (c : Int)), some (zR x), some (zI r0), some (zI (bs : Int)), some (zI f1), some (zI x1), some (zI e8)] [] w1) : zX G zm_X0_resolve (d + 6) [zR br, zI (l : Int)] w0 (zVoid PV) 176 [some (zR br), some (zI (l : Int)), some (zI (c : Int)), some (zR x), some (zI r0), some (zI (bs : Int)), some (zI f1), some (zI x1), some (zI e8)] [] w := by
  obtain ⟨hbr, ⟨⟨hnd, okN⟩, ⟨hva, okV⟩, ⟨hce, okC⟩, ⟨hli, okL⟩⟩, ⟨⟨hro, okR⟩, ⟨hbi, okB⟩, ⟨hle, okE⟩, ⟨hwk, okW⟩⟩, ⟨⟨c1N, c1V, c1C, c1L⟩, ⟨c1R, c1B, c1E, c1W⟩⟩, ⟨⟨c2N, c2V, c2C, c2L⟩, ⟨c2R, c2B, c2E, c2W⟩⟩, hrm1, hrm2⟩ := id hB
  refine zx_aload_n (i := 0) dX0_resolve_176 rfl rfl ?_
  refine zx_iload (i := 6) dX0_resolve_177 rfl ?_
  refine zx_aload_n (i := 0) dX0_resolve_179 rfl rfl ?_
  refine zx_getfield dX0_resolve_180 zf_X0_40 hbr rfl ?_
  refine zx_iv (b := bi) (As := []) (st := [zI f1, zR br]) (v := (some (zI (BB.length : Int)))) (w1 := w) dX0_resolve_183 zc_X0_70 hbi (z_cls9 (by decide)) rfl rfl (Nat.le_of_ble_eq_true rfl) rfl (c_X9_count hbi (by decide) okB) ?_
  refine zx_st (st1 := [zI (BB.length : Int), zI f1, zR br]) rfl ?_
  refine zx_iconst (v := 0) dX0_resolve_186 rfl (z32_lit (by decide) (by decide)) ?_
  refine zx_ivN (b := br) (As := [zI f1, zI (BB.length : Int), zI 0]) (st := []) dX0_resolve_187 zc_X0_225 hbr rfl rfl rfl (Nat.le_of_ble_eq_true rfl) rfl hb (fun w1 hq1 => ?_)
  exact k w1 hq1
theorem rv_y (hB : bbW w b1 b2 ((br, pg, t), (nd, va, ce, li), (ro, bi, le, wk)) (((cN, NN), (cV, VV), (cC, CC), (cL, LL)), ((cR, RR), (cB, BB), (cE, EE), (cW, WW)), ((g : Int), fr, tk, rs, (rd : Int)))) (ha : zM G zm_X0_addToRow (d + 5) [zR br, zI (l : Int), zI f1, zI (BB.length : Int), zI r0, zI (-1)] w (zVoid PV))  : zX G zm_X0_resolve (d + 6) [zR br, zI (l : Int)] w0 (zVoid PV) 190 [some (zR br), some (zI (l : Int)), some (zI (c : Int)), some (zR x), some (zI r0), some (zI (bs : Int)), some (zI f1), some (zI x1), some (zI 1)] [] w := by
  obtain ⟨hbr, ⟨⟨hnd, okN⟩, ⟨hva, okV⟩, ⟨hce, okC⟩, ⟨hli, okL⟩⟩, ⟨⟨hro, okR⟩, ⟨hbi, okB⟩, ⟨hle, okE⟩, ⟨hwk, okW⟩⟩, ⟨⟨c1N, c1V, c1C, c1L⟩, ⟨c1R, c1B, c1E, c1W⟩⟩, ⟨⟨c2N, c2V, c2C, c2L⟩, ⟨c2R, c2B, c2E, c2W⟩⟩, hrm1, hrm2⟩ := id hB
  refine zx_iload (i := 8) dX0_resolve_190 rfl ?_
  refine zx_if_eq (tgt := 215) dX0_resolve_192 (by decide) (fun h192 => absurd h192 (by decide)) (fun h192 => ?_)
  refine zx_aload_n (i := 0) dX0_resolve_195 rfl rfl ?_
  refine zx_iload_n (i := 1) dX0_resolve_196 rfl rfl ?_
  refine zx_iload (i := 6) dX0_resolve_197 rfl ?_
  refine zx_aload_n (i := 0) dX0_resolve_199 rfl rfl ?_
  refine zx_getfield dX0_resolve_200 zf_X0_40 hbr rfl ?_
  refine zx_iv (b := bi) (As := []) (st := [zI f1, zI (l : Int), zR br]) (v := (some (zI (BB.length : Int)))) (w1 := w) dX0_resolve_203 zc_X0_70 hbi (z_cls9 (by decide)) rfl rfl (Nat.le_of_ble_eq_true rfl) rfl (c_X9_count hbi (by decide) okB) ?_
  refine zx_st (st1 := [zI (BB.length : Int), zI f1, zI (l : Int), zR br]) rfl ?_
  refine zx_iload (i := 4) dX0_resolve_206 rfl ?_
  refine zx_iconst (v := -1) dX0_resolve_208 rfl (z32_lit (by decide) (by decide)) ?_
  refine zx_ivN (b := br) (As := [zI (l : Int), zI f1, zI (BB.length : Int), zI r0, zI (-1)]) (st := []) dX0_resolve_209 zc_X0_138 hbr rfl rfl rfl (Nat.le_of_ble_eq_true rfl) rfl ha (fun w1 hq1 => ?_)
  refine zx_pc (pc1 := 212) rfl ?_
  refine zx_goto (tgt := 224) dX0_resolve_212 (by decide) ?_
  refine zx_return dX0_resolve_224 rfl ?_
  exact ⟨rfl, hq1⟩
theorem rv_z (hB : bbW w b1 b2 ((br, pg, t), (nd, va, ce, li), (ro, bi, le, wk)) (((cN, NN), (cV, VV), (cC, CC), (cL, LL)), ((cR, RR), (cB, BB), (cE, EE), (cW, WW)), ((g : Int), fr, tk, rs, (rd : Int)))) (k : ∀ w', bbW w' b1 b2 ((br, pg, t), (nd, va, ce, li), (ro, bi, le, wk)) (((cN, NN), (cV, VV), (cC, CC), (cL, LL)), ((cR, RR), (cB, (tcut BB f1)), (cE, EE), (cW, WW)), ((g : Int), fr, tk, rs, (rd : Int))) → zFr TB w w' → PV w')  : zX G zm_X0_resolve (d + 6) [zR br, zI (l : Int)] w0 (zVoid PV) 190 [some (zR br), some (zI (l : Int)), some (zI (c : Int)), some (zR x), some (zI r0), some (zI (bs : Int)), some (zI f1), some (zI x1), some (zI 0)] [] w := by
  obtain ⟨hbr, ⟨⟨hnd, okN⟩, ⟨hva, okV⟩, ⟨hce, okC⟩, ⟨hli, okL⟩⟩, ⟨⟨hro, okR⟩, ⟨hbi, okB⟩, ⟨hle, okE⟩, ⟨hwk, okW⟩⟩, ⟨⟨c1N, c1V, c1C, c1L⟩, ⟨c1R, c1B, c1E, c1W⟩⟩, ⟨⟨c2N, c2V, c2C, c2L⟩, ⟨c2R, c2B, c2E, c2W⟩⟩, hrm1, hrm2⟩ := id hB
  refine zx_iload (i := 8) dX0_resolve_190 rfl ?_
  refine zx_if_eq (tgt := 215) dX0_resolve_192 (by decide) (fun h192 => ?_) (fun h192 => absurd (by decide) h192)
  refine zx_aload_n (i := 0) dX0_resolve_215 rfl rfl ?_
  refine zx_getfield dX0_resolve_216 zf_X0_40 hbr rfl ?_
  refine zx_iload (i := 6) dX0_resolve_219 rfl ?_
  obtain ⟨w_1, hw_2⟩ : ∃ ww, ww = zput w bi (145, br, tTb 2 cB (tcut BB f1)) := ⟨_, rfl⟩
  have q_3 : w_1.2.1 = w.2.1 ∧ w_1.2.2 = w.2.2 := by rw [hw_2]; exact ⟨rfl, rfl⟩
  have h_4 : w_1.1 bi = some (145, br, tTb 2 cB (tcut BB f1)) := by rw [hw_2]; exact zput_at
  refine zx_iv (b := bi) (As := [zI f1]) (st := []) (v := none) (w1 := w_1) dX0_resolve_221 zc_X0_92 hbi (z_cls9 (by decide)) rfl rfl (Nat.le_of_ble_eq_true rfl) rfl (by rw [hw_2]; exact (c_X9_cut hbi (by decide) okB f1)) ?_
  refine zx_st (st1 := []) rfl ?_
  refine zx_return dX0_resolve_224 rfl ?_
  have hfaL2 : zFa [bi] w w_1 := (zFa_put zFa_re (by simp) hw_2)
  have hF2 : zFr TB w w_1 := zFr_fa hfaL2 (zLc hbi (by simp) zLn)
  have h_5 : w_1.1 nd = some (140, br, tTb 5 cN NN) := by
    rw [hw_2]; exact zput_tg hbi hnd (by simp)
  have h_6 : w_1.1 va = some (141, br, tTb 1 cV VV) := by
    rw [hw_2]; exact zput_tg hbi hva (by simp)
  have h_7 : w_1.1 ce = some (142, br, tTb 3 cC CC) := by
    rw [hw_2]; exact zput_tg hbi hce (by simp)
  have h_8 : w_1.1 li = some (143, br, tTb 4 cL LL) := by
    rw [hw_2]; exact zput_tg hbi hli (by simp)
  have h_9 : w_1.1 ro = some (144, br, tTb 6 cR RR) := by
    rw [hw_2]; exact zput_tg hbi hro (by simp)
  have h_10 : w_1.1 le = some (146, br, tTb 4 cE EE) := by
    rw [hw_2]; exact zput_tg hbi hle (by simp)
  have h_11 : w_1.1 wk = some (147, br, tTb 3 cW WW) := by
    rw [hw_2]; exact zput_tg hbi hwk (by simp)
  have h_12 : w_1.1 br = some (0, 0, [zR pg, zR t, zR nd, zI (g : Int), zR va, zR ce, zR li, zR ro, zI fr, zR bi, zR le, zR wk, zI tk, zI rs, zI (rd : Int)]) := by
    rw [hw_2]; exact zput_tg hbi hbr (by simp)
  have hB2 : bbW w_1 b1 b2 ((br, pg, t), (nd, va, ce, li), (ro, bi, le, wk)) (((cN, NN), (cV, VV), (cC, CC), (cL, LL)), ((cR, RR), (cB, (tcut BB f1)), (cE, EE), (cW, WW)), ((g : Int), fr, tk, rs, (rd : Int))) := ⟨h_12, ⟨⟨h_5, okN⟩, ⟨h_6, okV⟩, ⟨h_7, okC⟩, ⟨h_8, okL⟩⟩, ⟨⟨h_9, okR⟩, ⟨h_4, (tOk_cut okB)⟩, ⟨h_10, okE⟩, ⟨h_11, okW⟩⟩, ⟨⟨by omega, by omega, by omega, by omega⟩, ⟨by omega, by omega, by omega, by omega⟩⟩, ⟨⟨by omega, by omega, by omega, by omega⟩, ⟨by omega, by omega, by omega, by omega⟩⟩, by omega, by omega⟩
  exact ⟨rfl, k _ hB2 hF2⟩
end BRE
