/-! Own rows: breadth opens a clause. Walked by program (wip/p37/m_boc.py). -/
section BOC
variable {G : zG} {d : Nat} {w w0 : zW} {b1 b2 g rd a x bs q cnt j c : Nat} {br pg t nd va ce li ro bi le wk : Nat} {cN cV cC cL cR cB cE cW : Nat} {NN VV CC LL RR BB EE WW : List (List Int)} {fr tk rs : Int} {R : pgR} {r : goR} {r0 v0 e6 : Int} {PQ : zV → zW → Prop} {o7 : Option zV}
theorem oc_start (hB : bbW w b1 b2 ((br, pg, t), (nd, va, ce, li), (ro, bi, le, wk)) (((cN, NN), (cV, VV), (cC, CC), (cL, LL)), ((cR, RR), (cB, BB), (cE, EE), (cW, WW)), ((g : Int), fr, tk, rs, (rd : Int))))  (k : zX G zm_X0_openClause (d + 4) [zR br, zR a, zR x, zI (bs : Int), zI r0] w (zVal PQ) 12 [some (zR br), some (zR a), some (zR x), some (zI (bs : Int)), some (zI r0), some (zI (VV.length : Int)), some (zI 0), none] [] w) : zM G zm_X0_openClause (d + 4) [zR br, zR a, zR x, zI (bs : Int), zI r0] w (zVal PQ) := by
  refine zx_ent (by decide +kernel) rfl (Nat.le_of_ble_eq_true rfl) ?_
  refine zx_L (L1 := [some (zR br), some (zR a), some (zR x), some (zI (bs : Int)), some (zI r0), none, none, none]) rfl ?_
  obtain ⟨hbr, ⟨⟨hnd, okN⟩, ⟨hva, okV⟩, ⟨hce, okC⟩, ⟨hli, okL⟩⟩, ⟨⟨hro, okR⟩, ⟨hbi, okB⟩, ⟨hle, okE⟩, ⟨hwk, okW⟩⟩, ⟨⟨c1N, c1V, c1C, c1L⟩, ⟨c1R, c1B, c1E, c1W⟩⟩, ⟨⟨c2N, c2V, c2C, c2L⟩, ⟨c2R, c2B, c2E, c2W⟩⟩, hrm1, hrm2⟩ := id hB
  refine zx_aload_n (i := 0) dX0_openClause_0 rfl rfl ?_
  refine zx_getfield dX0_openClause_1 zf_X0_28 hbr rfl ?_
  refine zx_iv (b := va) (As := []) (st := []) (v := (some (zI (VV.length : Int)))) (w1 := w) dX0_openClause_4 zc_X0_70 hva (z_cls9 (by decide)) rfl rfl (Nat.le_of_ble_eq_true rfl) rfl (c_X9_count hva (by decide) okV) ?_
  refine zx_st (st1 := [zI (VV.length : Int)]) rfl ?_
  refine zx_istore (i := 5) dX0_openClause_7 (by decide) rfl ?_
  refine zx_L (L1 := [some (zR br), some (zR a), some (zR x), some (zI (bs : Int)), some (zI r0), some (zI (VV.length : Int)), none, none]) rfl ?_
  refine zx_iconst (v := 0) dX0_openClause_9 rfl (z32_lit (by decide) (by decide)) ?_
  refine zx_istore (i := 6) dX0_openClause_10 (by decide) rfl ?_
  refine zx_L (L1 := [some (zR br), some (zR a), some (zR x), some (zI (bs : Int)), some (zI r0), some (zI (VV.length : Int)), some (zI 0), none]) rfl ?_
  exact k
theorem oc_arg (hB : bbW w b1 b2 ((br, pg, t), (nd, va, ce, li), (ro, bi, le, wk)) (((cN, NN), (cV, VV), (cC, CC), (cL, LL)), ((cR, RR), (cB, BB), (cE, EE), (cW, WW)), ((g : Int), fr, tk, rs, (rd : Int)))) (hG1 : b1 + 1800000 ≤ 30 * G.2.2.2.2.1) (hG2 : b2 + 3700000 ≤ G.2.2.2.2.2) (hx : w.1 x = some (3, 0, [zI r.1, zI r.2.1, zI (cnt : Int), zR r.2.2.2.1])) {v : Int} (hno : zM G zm_X0_nodeOf (d + 3) [zR br, zR x, zI (bs : Int), zI (q : Int)] w (zRet (some (zI v)) w)) (hq8 : q < 8) (hqc : q < cnt) (hc3 : cnt ≤ 3) (hlV : VV.length < 6000) (k : ∀ (o7 : Option zV) w1, bbW w1 b1 b2 ((br, pg, t), (nd, va, ce, li), (ro, bi, le, wk)) (((cN, NN), ((tCap 1 cV VV), (VV ++ [trow 1 v (-1) (-1)])), (cC, CC), (cL, LL)), ((cR, RR), (cB, BB), (cE, EE), (cW, WW)), ((g : Int), fr, tk, rs, (rd : Int))) → zFr TB w w1 → zX G zm_X0_openClause (d + 4) [zR br, zR a, zR x, zI (bs : Int), zI r0] w0 (zVal PQ) 12 [some (zR br), some (zR a), some (zR x), some (zI (bs : Int)), some (zI r0), some (zI v0), some (zI ((q + 1 : Nat) : Int)), o7] [] w1) : zX G zm_X0_openClause (d + 4) [zR br, zR a, zR x, zI (bs : Int), zI r0] w0 (zVal PQ) 12 [some (zR br), some (zR a), some (zR x), some (zI (bs : Int)), some (zI r0), some (zI v0), some (zI (q : Int)), o7] [] w := by
  obtain ⟨hbr, ⟨⟨hnd, okN⟩, ⟨hva, okV⟩, ⟨hce, okC⟩, ⟨hli, okL⟩⟩, ⟨⟨hro, okR⟩, ⟨hbi, okB⟩, ⟨hle, okE⟩, ⟨hwk, okW⟩⟩, ⟨⟨c1N, c1V, c1C, c1L⟩, ⟨c1R, c1B, c1E, c1W⟩⟩, ⟨⟨c2N, c2V, c2C, c2L⟩, ⟨c2R, c2B, c2E, c2W⟩⟩, hrm1, hrm2⟩ := id hB
  refine zx_iload (i := 6) dX0_openClause_12 rfl ?_
  refine zx_bipush (v := 8) dX0_openClause_14 (by decide +kernel) (z32_lit (by decide) (by decide)) ?_
  refine zx_icmp_ge (tgt := 78) dX0_openClause_16 (by decide) (fun h16 => absurd h16 (by omega)) (fun h16 => ?_)
  refine zx_iconst (v := -1) dX0_openClause_19 rfl (z32_lit (by decide) (by decide)) ?_
  refine zx_istore (i := 7) dX0_openClause_20 (by decide) rfl ?_
  refine zx_L (L1 := [some (zR br), some (zR a), some (zR x), some (zI (bs : Int)), some (zI r0), some (zI v0), some (zI (q : Int)), some (zI (-1))]) rfl ?_
  refine zx_iload (i := 6) dX0_openClause_22 rfl ?_
  refine zx_aload_n (i := 2) dX0_openClause_24 rfl rfl ?_
  refine zx_getfield dX0_openClause_25 zf_X0_184 hx rfl ?_
  refine zx_icmp_ge (tgt := 44) dX0_openClause_28 (by decide) (fun h28 => absurd h28 (by omega)) (fun h28 => ?_)
  refine zx_aload_n (i := 0) dX0_openClause_31 rfl rfl ?_
  refine zx_aload_n (i := 2) dX0_openClause_32 rfl rfl ?_
  refine zx_pc (pc1 := 33) rfl ?_
  refine zx_iload_n (i := 3) dX0_openClause_33 rfl rfl ?_
  refine zx_iload (i := 6) dX0_openClause_34 rfl ?_
  refine zx_iv (b := br) (As := [zR x, zI (bs : Int), zI (q : Int)]) (st := []) (v := (some (zI v))) (w1 := w) dX0_openClause_36 zc_X0_186 hbr rfl rfl rfl (Nat.le_of_ble_eq_true rfl) rfl hno ?_
  refine zx_st (st1 := [zI v]) rfl ?_
  refine zx_istore (i := 7) dX0_openClause_39 (by decide) rfl ?_
  refine zx_L (L1 := [some (zR br), some (zR a), some (zR x), some (zI (bs : Int)), some (zI r0), some (zI v0), some (zI (q : Int)), some (zI v)]) rfl ?_
  refine zx_goto (tgt := 60) dX0_openClause_41 (by decide) ?_
  refine zx_aload_n (i := 0) dX0_openClause_60 rfl rfl ?_
  refine zx_getfield dX0_openClause_61 zf_X0_28 hbr rfl ?_
  refine zx_iload (i := 7) dX0_openClause_64 rfl ?_
  refine zx_iconst (v := -1) dX0_openClause_66 rfl (z32_lit (by decide) (by decide)) ?_
  refine zx_iconst (v := -1) dX0_openClause_67 rfl (z32_lit (by decide) (by decide)) ?_
  refine zx_ok (fun ok_1 => ?_)
  obtain ⟨w_2, hw_3⟩ : ∃ ww, ww = tAw w va 141 br 1 cV VV (trow 1 v (-1) (-1)) := ⟨_, rfl⟩
  have h_4 : w_2.1 va = some (141, br, tTb 1 (tCap 1 cV VV) (VV ++ [(trow 1 v (-1) (-1))])) := by rw [hw_3]; exact tAw_at
  have qhw_3 := tAw_sz3 (w := w) (a := va) (t := 141) (ow := br) (c := 1) (cap := cV) (rows := VV) (r := (trow 1 v (-1) (-1))) (by omega)
  rw [← hw_3] at qhw_3
  refine zx_iv (b := va) (As := [zI v, zI (-1), zI (-1)]) (st := []) (v := (some (zI (VV.length : Int)))) (w1 := w_2) dX0_openClause_68 zc_X0_113 hva (z_cls9 (by decide)) rfl rfl (Nat.le_of_ble_eq_true rfl) rfl (by rw [hw_3]; exact (c_X9_add hva (by decide) okV (by omega) (by by_cases cg : VV.length * 1 + 1 ≤ cV; exact Or.inl cg; exact Or.inr ⟨by omega, by omega⟩) v (-1) (-1))) ?_
  refine zx_st (st1 := [zI (VV.length : Int)]) rfl ?_
  refine zx_pop dX0_openClause_71 (fun a h => by cases h) ?_
  refine zx_pc (pc1 := 72) rfl ?_
  refine zx_iinc (i := 6) (v := ((q + 1 : Nat) : Int)) dX0_openClause_72 rfl (zw_eq (by omega) (by omega) (by omega)) (by decide) rfl ?_
  refine zx_L (L1 := [some (zR br), some (zR a), some (zR x), some (zI (bs : Int)), some (zI r0), some (zI v0), some (zI ((q + 1 : Nat) : Int)), some (zI v)]) rfl ?_
  refine zx_goto (tgt := 12) dX0_openClause_75 (by decide) ?_
  have hfaL9 : zFa [va] w w_2 := (zFa_taw zFa_re (by simp) ok_1 hw_3)
  have hF9 : zFr TB w w_2 := zFr_fa hfaL9 (zLc hva (by simp) zLn)
  have h_5 : w_2.1 nd = some (140, br, tTb 5 cN NN) := by
    rw [hw_3]; exact (tAw_to ok_1 (zne_tg hva hnd (by simp)) hnd)
  have h_6 : w_2.1 ce = some (142, br, tTb 3 cC CC) := by
    rw [hw_3]; exact (tAw_to ok_1 (zne_tg hva hce (by simp)) hce)
  have h_7 : w_2.1 li = some (143, br, tTb 4 cL LL) := by
    rw [hw_3]; exact (tAw_to ok_1 (zne_tg hva hli (by simp)) hli)
  have h_8 : w_2.1 ro = some (144, br, tTb 6 cR RR) := by
    rw [hw_3]; exact (tAw_to ok_1 (zne_tg hva hro (by simp)) hro)
  have h_9 : w_2.1 bi = some (145, br, tTb 2 cB BB) := by
    rw [hw_3]; exact (tAw_to ok_1 (zne_tg hva hbi (by simp)) hbi)
  have h_10 : w_2.1 le = some (146, br, tTb 4 cE EE) := by
    rw [hw_3]; exact (tAw_to ok_1 (zne_tg hva hle (by simp)) hle)
  have h_11 : w_2.1 wk = some (147, br, tTb 3 cW WW) := by
    rw [hw_3]; exact (tAw_to ok_1 (zne_tg hva hwk (by simp)) hwk)
  have h_12 : w_2.1 br = some (0, 0, [zR pg, zR t, zR nd, zI (g : Int), zR va, zR ce, zR li, zR ro, zI fr, zR bi, zR le, zR wk, zI tk, zI rs, zI (rd : Int)]) := by
    rw [hw_3]; exact (tAw_to ok_1 (zne_tg hva hbr (by simp)) hbr)
  have hB9 : bbW w_2 b1 b2 ((br, pg, t), (nd, va, ce, li), (ro, bi, le, wk)) (((cN, NN), ((tCap 1 cV VV), (VV ++ [(trow 1 v (-1) (-1))])), (cC, CC), (cL, LL)), ((cR, RR), (cB, BB), (cE, EE), (cW, WW)), ((g : Int), fr, tk, rs, (rd : Int))) := ⟨h_12, ⟨⟨h_5, okN⟩, ⟨h_4, (tOk_app okV (by first | exact trow_len | rfl))⟩, ⟨h_6, okC⟩, ⟨h_7, okL⟩⟩, ⟨⟨h_8, okR⟩, ⟨h_9, okB⟩, ⟨h_10, okE⟩, ⟨h_11, okW⟩⟩, ⟨⟨by omega, by omega, by omega, by omega⟩, ⟨by omega, by omega, by omega, by omega⟩⟩, ⟨⟨by omega, by omega, by omega, by omega⟩, ⟨by omega, by omega, by omega, by omega⟩⟩, by omega, by omega⟩
  exact k _ _ hB9 hF9
theorem oc_non (hB : bbW w b1 b2 ((br, pg, t), (nd, va, ce, li), (ro, bi, le, wk)) (((cN, NN), (cV, VV), (cC, CC), (cL, LL)), ((cR, RR), (cB, BB), (cE, EE), (cW, WW)), ((g : Int), fr, tk, rs, (rd : Int)))) (hG1 : b1 + 1800000 ≤ 30 * G.2.2.2.2.1) (hG2 : b2 + 3700000 ≤ G.2.2.2.2.2) (hx : w.1 x = some (3, 0, [zI r.1, zI r.2.1, zI (cnt : Int), zR r.2.2.2.1])) (ha : clV w a (R.2.2.2.2.2.1 a)) (hty : tg (R.2.2.2.2.2.1 a).2.2.1 (q : Int) 0 = -1) (hq8 : q < 8) (hqc : cnt ≤ q) (hc3 : cnt ≤ 3) (hlV : VV.length < 6000) (k : ∀ (o7 : Option zV) w1, bbW w1 b1 b2 ((br, pg, t), (nd, va, ce, li), (ro, bi, le, wk)) (((cN, NN), ((tCap 1 cV VV), (VV ++ [trow 1 (-1) (-1) (-1)])), (cC, CC), (cL, LL)), ((cR, RR), (cB, BB), (cE, EE), (cW, WW)), ((g : Int), fr, tk, rs, (rd : Int))) → zFr TB w w1 → zX G zm_X0_openClause (d + 4) [zR br, zR a, zR x, zI (bs : Int), zI r0] w0 (zVal PQ) 12 [some (zR br), some (zR a), some (zR x), some (zI (bs : Int)), some (zI r0), some (zI v0), some (zI ((q + 1 : Nat) : Int)), o7] [] w1) : zX G zm_X0_openClause (d + 4) [zR br, zR a, zR x, zI (bs : Int), zI r0] w0 (zVal PQ) 12 [some (zR br), some (zR a), some (zR x), some (zI (bs : Int)), some (zI r0), some (zI v0), some (zI (q : Int)), o7] [] w := by
  obtain ⟨hbr, ⟨⟨hnd, okN⟩, ⟨hva, okV⟩, ⟨hce, okC⟩, ⟨hli, okL⟩⟩, ⟨⟨hro, okR⟩, ⟨hbi, okB⟩, ⟨hle, okE⟩, ⟨hwk, okW⟩⟩, ⟨⟨c1N, c1V, c1C, c1L⟩, ⟨c1R, c1B, c1E, c1W⟩⟩, ⟨⟨c2N, c2V, c2C, c2L⟩, ⟨c2R, c2B, c2E, c2W⟩⟩, hrm1, hrm2⟩ := id hB
  refine zx_iload (i := 6) dX0_openClause_12 rfl ?_
  refine zx_bipush (v := 8) dX0_openClause_14 (by decide +kernel) (z32_lit (by decide) (by decide)) ?_
  refine zx_icmp_ge (tgt := 78) dX0_openClause_16 (by decide) (fun h16 => absurd h16 (by omega)) (fun h16 => ?_)
  refine zx_iconst (v := -1) dX0_openClause_19 rfl (z32_lit (by decide) (by decide)) ?_
  refine zx_istore (i := 7) dX0_openClause_20 (by decide) rfl ?_
  refine zx_L (L1 := [some (zR br), some (zR a), some (zR x), some (zI (bs : Int)), some (zI r0), some (zI v0), some (zI (q : Int)), some (zI (-1))]) rfl ?_
  refine zx_iload (i := 6) dX0_openClause_22 rfl ?_
  refine zx_aload_n (i := 2) dX0_openClause_24 rfl rfl ?_
  refine zx_getfield dX0_openClause_25 zf_X0_184 hx rfl ?_
  refine zx_icmp_ge (tgt := 44) dX0_openClause_28 (by decide) (fun h28 => ?_) (fun h28 => absurd (by omega) h28)
  refine zx_aload_n (i := 1) dX0_openClause_44 rfl rfl ?_
  refine zx_iload (i := 6) dX0_openClause_45 rfl ?_
  refine zx_pc (pc1 := 47) rfl ?_
  refine zx_iv (b := a) (As := [zI (q : Int)]) (st := []) (v := (some (zI (tg (R.2.2.2.2.2.1 a).2.2.1 (q : Int) 0)))) (w1 := w) dX0_openClause_47 zc_X0_190 ha.1 rfl rfl rfl (Nat.le_of_ble_eq_true rfl) rfl (c_X1_typeAt ha (q : Int)) ?_
  refine zx_st (st1 := [zI (tg (R.2.2.2.2.2.1 a).2.2.1 (q : Int) 0)]) rfl ?_
  refine zx_iconst (v := -1) dX0_openClause_50 rfl (z32_lit (by decide) (by decide)) ?_
  refine zx_icmp_eq (tgt := 60) dX0_openClause_51 (by decide) (fun h51 => ?_) (fun h51 => absurd (hty) h51)
  refine zx_aload_n (i := 0) dX0_openClause_60 rfl rfl ?_
  refine zx_getfield dX0_openClause_61 zf_X0_28 hbr rfl ?_
  refine zx_iload (i := 7) dX0_openClause_64 rfl ?_
  refine zx_iconst (v := -1) dX0_openClause_66 rfl (z32_lit (by decide) (by decide)) ?_
  refine zx_iconst (v := -1) dX0_openClause_67 rfl (z32_lit (by decide) (by decide)) ?_
  refine zx_ok (fun ok_1 => ?_)
  obtain ⟨w_2, hw_3⟩ : ∃ ww, ww = tAw w va 141 br 1 cV VV (trow 1 (-1) (-1) (-1)) := ⟨_, rfl⟩
  have h_4 : w_2.1 va = some (141, br, tTb 1 (tCap 1 cV VV) (VV ++ [(trow 1 (-1) (-1) (-1))])) := by rw [hw_3]; exact tAw_at
  have qhw_3 := tAw_sz3 (w := w) (a := va) (t := 141) (ow := br) (c := 1) (cap := cV) (rows := VV) (r := (trow 1 (-1) (-1) (-1))) (by omega)
  rw [← hw_3] at qhw_3
  refine zx_iv (b := va) (As := [zI (-1), zI (-1), zI (-1)]) (st := []) (v := (some (zI (VV.length : Int)))) (w1 := w_2) dX0_openClause_68 zc_X0_113 hva (z_cls9 (by decide)) rfl rfl (Nat.le_of_ble_eq_true rfl) rfl (by rw [hw_3]; exact (c_X9_add hva (by decide) okV (by omega) (by by_cases cg : VV.length * 1 + 1 ≤ cV; exact Or.inl cg; exact Or.inr ⟨by omega, by omega⟩) (-1) (-1) (-1))) ?_
  refine zx_st (st1 := [zI (VV.length : Int)]) rfl ?_
  refine zx_pop dX0_openClause_71 (fun a h => by cases h) ?_
  refine zx_iinc (i := 6) (v := ((q + 1 : Nat) : Int)) dX0_openClause_72 rfl (zw_eq (by omega) (by omega) (by omega)) (by decide) rfl ?_
  refine zx_L (L1 := [some (zR br), some (zR a), some (zR x), some (zI (bs : Int)), some (zI r0), some (zI v0), some (zI ((q + 1 : Nat) : Int)), some (zI (-1))]) rfl ?_
  refine zx_goto (tgt := 12) dX0_openClause_75 (by decide) ?_
  have hfaL9 : zFa [va] w w_2 := (zFa_taw zFa_re (by simp) ok_1 hw_3)
  have hF9 : zFr TB w w_2 := zFr_fa hfaL9 (zLc hva (by simp) zLn)
  have h_5 : w_2.1 nd = some (140, br, tTb 5 cN NN) := by
    rw [hw_3]; exact (tAw_to ok_1 (zne_tg hva hnd (by simp)) hnd)
  have h_6 : w_2.1 ce = some (142, br, tTb 3 cC CC) := by
    rw [hw_3]; exact (tAw_to ok_1 (zne_tg hva hce (by simp)) hce)
  have h_7 : w_2.1 li = some (143, br, tTb 4 cL LL) := by
    rw [hw_3]; exact (tAw_to ok_1 (zne_tg hva hli (by simp)) hli)
  have h_8 : w_2.1 ro = some (144, br, tTb 6 cR RR) := by
    rw [hw_3]; exact (tAw_to ok_1 (zne_tg hva hro (by simp)) hro)
  have h_9 : w_2.1 bi = some (145, br, tTb 2 cB BB) := by
    rw [hw_3]; exact (tAw_to ok_1 (zne_tg hva hbi (by simp)) hbi)
  have h_10 : w_2.1 le = some (146, br, tTb 4 cE EE) := by
    rw [hw_3]; exact (tAw_to ok_1 (zne_tg hva hle (by simp)) hle)
  have h_11 : w_2.1 wk = some (147, br, tTb 3 cW WW) := by
    rw [hw_3]; exact (tAw_to ok_1 (zne_tg hva hwk (by simp)) hwk)
  have h_12 : w_2.1 br = some (0, 0, [zR pg, zR t, zR nd, zI (g : Int), zR va, zR ce, zR li, zR ro, zI fr, zR bi, zR le, zR wk, zI tk, zI rs, zI (rd : Int)]) := by
    rw [hw_3]; exact (tAw_to ok_1 (zne_tg hva hbr (by simp)) hbr)
  have hB9 : bbW w_2 b1 b2 ((br, pg, t), (nd, va, ce, li), (ro, bi, le, wk)) (((cN, NN), ((tCap 1 cV VV), (VV ++ [(trow 1 (-1) (-1) (-1))])), (cC, CC), (cL, LL)), ((cR, RR), (cB, BB), (cE, EE), (cW, WW)), ((g : Int), fr, tk, rs, (rd : Int))) := ⟨h_12, ⟨⟨h_5, okN⟩, ⟨h_4, (tOk_app okV (by first | exact trow_len | rfl))⟩, ⟨h_6, okC⟩, ⟨h_7, okL⟩⟩, ⟨⟨h_8, okR⟩, ⟨h_9, okB⟩, ⟨h_10, okE⟩, ⟨h_11, okW⟩⟩, ⟨⟨by omega, by omega, by omega, by omega⟩, ⟨by omega, by omega, by omega, by omega⟩⟩, ⟨⟨by omega, by omega, by omega, by omega⟩, ⟨by omega, by omega, by omega, by omega⟩⟩, by omega, by omega⟩
  exact k _ _ hB9 hF9
theorem oc_new (hB : bbW w b1 b2 ((br, pg, t), (nd, va, ce, li), (ro, bi, le, wk)) (((cN, NN), (cV, VV), (cC, CC), (cL, LL)), ((cR, RR), (cB, BB), (cE, EE), (cW, WW)), ((g : Int), fr, tk, rs, (rd : Int)))) (hG1 : b1 + 1800000 ≤ 30 * G.2.2.2.2.1) (hG2 : b2 + 3700000 ≤ G.2.2.2.2.2) (hx : w.1 x = some (3, 0, [zI r.1, zI r.2.1, zI (cnt : Int), zR r.2.2.2.1])) (ha : clV w a (R.2.2.2.2.2.1 a)) (hty : tg (R.2.2.2.2.2.1 a).2.2.1 (q : Int) 0 ≠ -1) (hq8 : q < 8) (hqc : cnt ≤ q) (hc3 : cnt ≤ 3) (hlV : VV.length < 6000) (hlN : NN.length < 3900) (k : ∀ (o7 : Option zV) w1, bbW w1 b1 b2 ((br, pg, t), (nd, va, ce, li), (ro, bi, le, wk)) ((((tCap 5 cN NN), (NN ++ [trow 5 (-1) (-1) (-1)])), ((tCap 1 cV VV), (VV ++ [trow 1 (NN.length : Int) (-1) (-1)])), (cC, CC), (cL, LL)), ((cR, RR), (cB, BB), (cE, EE), (cW, WW)), ((g : Int), fr, tk, rs, (rd : Int))) → zFr TB w w1 → zX G zm_X0_openClause (d + 4) [zR br, zR a, zR x, zI (bs : Int), zI r0] w0 (zVal PQ) 12 [some (zR br), some (zR a), some (zR x), some (zI (bs : Int)), some (zI r0), some (zI v0), some (zI ((q + 1 : Nat) : Int)), o7] [] w1) : zX G zm_X0_openClause (d + 4) [zR br, zR a, zR x, zI (bs : Int), zI r0] w0 (zVal PQ) 12 [some (zR br), some (zR a), some (zR x), some (zI (bs : Int)), some (zI r0), some (zI v0), some (zI (q : Int)), o7] [] w := by
  obtain ⟨hbr, ⟨⟨hnd, okN⟩, ⟨hva, okV⟩, ⟨hce, okC⟩, ⟨hli, okL⟩⟩, ⟨⟨hro, okR⟩, ⟨hbi, okB⟩, ⟨hle, okE⟩, ⟨hwk, okW⟩⟩, ⟨⟨c1N, c1V, c1C, c1L⟩, ⟨c1R, c1B, c1E, c1W⟩⟩, ⟨⟨c2N, c2V, c2C, c2L⟩, ⟨c2R, c2B, c2E, c2W⟩⟩, hrm1, hrm2⟩ := id hB
  refine zx_iload (i := 6) dX0_openClause_12 rfl ?_
  refine zx_bipush (v := 8) dX0_openClause_14 (by decide +kernel) (z32_lit (by decide) (by decide)) ?_
  refine zx_icmp_ge (tgt := 78) dX0_openClause_16 (by decide) (fun h16 => absurd h16 (by omega)) (fun h16 => ?_)
  refine zx_iconst (v := -1) dX0_openClause_19 rfl (z32_lit (by decide) (by decide)) ?_
  refine zx_istore (i := 7) dX0_openClause_20 (by decide) rfl ?_
  refine zx_L (L1 := [some (zR br), some (zR a), some (zR x), some (zI (bs : Int)), some (zI r0), some (zI v0), some (zI (q : Int)), some (zI (-1))]) rfl ?_
  refine zx_iload (i := 6) dX0_openClause_22 rfl ?_
  refine zx_aload_n (i := 2) dX0_openClause_24 rfl rfl ?_
  refine zx_getfield dX0_openClause_25 zf_X0_184 hx rfl ?_
  refine zx_icmp_ge (tgt := 44) dX0_openClause_28 (by decide) (fun h28 => ?_) (fun h28 => absurd (by omega) h28)
  refine zx_aload_n (i := 1) dX0_openClause_44 rfl rfl ?_
  refine zx_iload (i := 6) dX0_openClause_45 rfl ?_
  refine zx_pc (pc1 := 47) rfl ?_
  refine zx_iv (b := a) (As := [zI (q : Int)]) (st := []) (v := (some (zI (tg (R.2.2.2.2.2.1 a).2.2.1 (q : Int) 0)))) (w1 := w) dX0_openClause_47 zc_X0_190 ha.1 rfl rfl rfl (Nat.le_of_ble_eq_true rfl) rfl (c_X1_typeAt ha (q : Int)) ?_
  refine zx_st (st1 := [zI (tg (R.2.2.2.2.2.1 a).2.2.1 (q : Int) 0)]) rfl ?_
  refine zx_iconst (v := -1) dX0_openClause_50 rfl (z32_lit (by decide) (by decide)) ?_
  refine zx_icmp_eq (tgt := 60) dX0_openClause_51 (by decide) (fun h51 => absurd h51 (hty)) (fun h51 => ?_)
  refine zx_aload_n (i := 0) dX0_openClause_54 rfl rfl ?_
  have hFp1 : zFr TB w w := zFr_re
  have hBp1 : bbW w b1 b2 ((br, pg, t), (nd, va, ce, li), (ro, bi, le, wk)) (((cN, NN), (cV, VV), (cC, CC), (cL, LL)), ((cR, RR), (cB, BB), (cE, EE), (cW, WW)), ((g : Int), fr, tk, rs, (rd : Int))) := ⟨hbr, ⟨⟨hnd, okN⟩, ⟨hva, okV⟩, ⟨hce, okC⟩, ⟨hli, okL⟩⟩, ⟨⟨hro, okR⟩, ⟨hbi, okB⟩, ⟨hle, okE⟩, ⟨hwk, okW⟩⟩, ⟨⟨by omega, by omega, by omega, by omega⟩, ⟨by omega, by omega, by omega, by omega⟩⟩, ⟨⟨by omega, by omega, by omega, by omega⟩, ⟨by omega, by omega, by omega, by omega⟩⟩, by omega, by omega⟩
  refine zx_ivV (b := br) (As := []) (st := []) dX0_openClause_55 zc_X0_128 hbr rfl rfl rfl (Nat.le_of_ble_eq_true rfl) rfl (c_X0_newUnknown hBp1 hG1 hG2 hlN) (fun v1 w1 hq => ?_)
  obtain ⟨ev1, hB1, hF1⟩ := hq
  subst ev1
  obtain ⟨hbr1, ⟨⟨hnd1, okN1⟩, ⟨hva1, okV1⟩, ⟨hce1, okC1⟩, ⟨hli1, okL1⟩⟩, ⟨⟨hro1, okR1⟩, ⟨hbi1, okB1⟩, ⟨hle1, okE1⟩, ⟨hwk1, okW1⟩⟩, ⟨⟨c1N1, c1V1, c1C1, c1L1⟩, ⟨c1R1, c1B1, c1E1, c1W1⟩⟩, ⟨⟨c2N1, c2V1, c2C1, c2L1⟩, ⟨c2R1, c2B1, c2E1, c2W1⟩⟩, hrm11, hrm21⟩ := id hB1
  refine zx_istore (i := 7) dX0_openClause_58 (by decide) rfl ?_
  refine zx_L (L1 := [some (zR br), some (zR a), some (zR x), some (zI (bs : Int)), some (zI r0), some (zI v0), some (zI (q : Int)), some (zI (NN.length : Int))]) rfl ?_
  refine zx_aload_n (i := 0) dX0_openClause_60 rfl rfl ?_
  refine zx_getfield dX0_openClause_61 zf_X0_28 hbr1 rfl ?_
  refine zx_iload (i := 7) dX0_openClause_64 rfl ?_
  refine zx_iconst (v := -1) dX0_openClause_66 rfl (z32_lit (by decide) (by decide)) ?_
  refine zx_iconst (v := -1) dX0_openClause_67 rfl (z32_lit (by decide) (by decide)) ?_
  refine zx_ok (fun ok_1 => ?_)
  obtain ⟨w_2, hw_3⟩ : ∃ ww, ww = tAw w1 va 141 br 1 cV VV (trow 1 (NN.length : Int) (-1) (-1)) := ⟨_, rfl⟩
  have h_4 : w_2.1 va = some (141, br, tTb 1 (tCap 1 cV VV) (VV ++ [(trow 1 (NN.length : Int) (-1) (-1))])) := by rw [hw_3]; exact tAw_at
  have qhw_3 := tAw_sz3 (w := w1) (a := va) (t := 141) (ow := br) (c := 1) (cap := cV) (rows := VV) (r := (trow 1 (NN.length : Int) (-1) (-1))) (by omega)
  rw [← hw_3] at qhw_3
  refine zx_iv (b := va) (As := [zI (NN.length : Int), zI (-1), zI (-1)]) (st := []) (v := (some (zI (VV.length : Int)))) (w1 := w_2) dX0_openClause_68 zc_X0_113 hva1 (z_cls9 (by decide)) rfl rfl (Nat.le_of_ble_eq_true rfl) rfl (by rw [hw_3]; exact (c_X9_add hva1 (by decide) okV1 (by omega) (by by_cases cg : VV.length * 1 + 1 ≤ cV; exact Or.inl cg; exact Or.inr ⟨by omega, by omega⟩) (NN.length : Int) (-1) (-1))) ?_
  refine zx_st (st1 := [zI (VV.length : Int)]) rfl ?_
  refine zx_pc (pc1 := 71) rfl ?_
  refine zx_pop dX0_openClause_71 (fun a h => by cases h) ?_
  refine zx_iinc (i := 6) (v := ((q + 1 : Nat) : Int)) dX0_openClause_72 rfl (zw_eq (by omega) (by omega) (by omega)) (by decide) rfl ?_
  refine zx_L (L1 := [some (zR br), some (zR a), some (zR x), some (zI (bs : Int)), some (zI r0), some (zI v0), some (zI ((q + 1 : Nat) : Int)), some (zI (NN.length : Int))]) rfl ?_
  refine zx_goto (tgt := 12) dX0_openClause_75 (by decide) ?_
  have hfaL9 : zFa [va] w1 w_2 := (zFa_taw zFa_re (by simp) ok_1 hw_3)
  have hF9 : zFr TB w1 w_2 := zFr_fa hfaL9 (zLc hva1 (by simp) zLn)
  have h_5 : w_2.1 nd = some (140, br, tTb 5 (tCap 5 cN NN) (NN ++ [trow 5 (-1) (-1) (-1)])) := by
    rw [hw_3]; exact (tAw_to ok_1 (zne_tg hva1 hnd1 (by simp)) hnd1)
  have h_6 : w_2.1 ce = some (142, br, tTb 3 cC CC) := by
    rw [hw_3]; exact (tAw_to ok_1 (zne_tg hva1 hce1 (by simp)) hce1)
  have h_7 : w_2.1 li = some (143, br, tTb 4 cL LL) := by
    rw [hw_3]; exact (tAw_to ok_1 (zne_tg hva1 hli1 (by simp)) hli1)
  have h_8 : w_2.1 ro = some (144, br, tTb 6 cR RR) := by
    rw [hw_3]; exact (tAw_to ok_1 (zne_tg hva1 hro1 (by simp)) hro1)
  have h_9 : w_2.1 bi = some (145, br, tTb 2 cB BB) := by
    rw [hw_3]; exact (tAw_to ok_1 (zne_tg hva1 hbi1 (by simp)) hbi1)
  have h_10 : w_2.1 le = some (146, br, tTb 4 cE EE) := by
    rw [hw_3]; exact (tAw_to ok_1 (zne_tg hva1 hle1 (by simp)) hle1)
  have h_11 : w_2.1 wk = some (147, br, tTb 3 cW WW) := by
    rw [hw_3]; exact (tAw_to ok_1 (zne_tg hva1 hwk1 (by simp)) hwk1)
  have h_12 : w_2.1 br = some (0, 0, [zR pg, zR t, zR nd, zI (g : Int), zR va, zR ce, zR li, zR ro, zI fr, zR bi, zR le, zR wk, zI tk, zI rs, zI (rd : Int)]) := by
    rw [hw_3]; exact (tAw_to ok_1 (zne_tg hva1 hbr1 (by simp)) hbr1)
  have hB9 : bbW w_2 b1 b2 ((br, pg, t), (nd, va, ce, li), (ro, bi, le, wk)) ((((tCap 5 cN NN), (NN ++ [trow 5 (-1) (-1) (-1)])), ((tCap 1 cV VV), (VV ++ [(trow 1 (NN.length : Int) (-1) (-1))])), (cC, CC), (cL, LL)), ((cR, RR), (cB, BB), (cE, EE), (cW, WW)), ((g : Int), fr, tk, rs, (rd : Int))) := ⟨h_12, ⟨⟨h_5, okN1⟩, ⟨h_4, (tOk_app okV1 (by first | exact trow_len | rfl))⟩, ⟨h_6, okC1⟩, ⟨h_7, okL1⟩⟩, ⟨⟨h_8, okR1⟩, ⟨h_9, okB1⟩, ⟨h_10, okE1⟩, ⟨h_11, okW1⟩⟩, ⟨⟨by omega, by omega, by omega, by omega⟩, ⟨by omega, by omega, by omega, by omega⟩⟩, ⟨⟨by omega, by omega, by omega, by omega⟩, ⟨by omega, by omega, by omega, by omega⟩⟩, by omega, by omega⟩
  exact k _ _ hB9 (zFr_tr hFp1 (zFr_tr hF1 hF9))
theorem oc_mid (hB : bbW w b1 b2 ((br, pg, t), (nd, va, ce, li), (ro, bi, le, wk)) (((cN, NN), (cV, VV), (cC, CC), (cL, LL)), ((cR, RR), (cB, BB), (cE, EE), (cW, WW)), ((g : Int), fr, tk, rs, (rd : Int)))) (ha : clV w a (R.2.2.2.2.2.1 a)) (hgl : (R.2.2.2.2.2.1 a).2.2.2.1.2.length < 100) (k : zX G zm_X0_openClause (d + 4) [zR br, zR a, zR x, zI (bs : Int), zI r0] w0 (zVal PQ) 90 [some (zR br), some (zR a), some (zR x), some (zI (bs : Int)), some (zI r0), some (zI v0), some (zI r0), some (zI (((R.2.2.2.2.2.1 a).2.2.2.1.2.length : Int) - 1))] [] w) : zX G zm_X0_openClause (d + 4) [zR br, zR a, zR x, zI (bs : Int), zI r0] w0 (zVal PQ) 12 [some (zR br), some (zR a), some (zR x), some (zI (bs : Int)), some (zI r0), some (zI v0), some (zI 8), o7] [] w := by
  obtain ⟨hbr, ⟨⟨hnd, okN⟩, ⟨hva, okV⟩, ⟨hce, okC⟩, ⟨hli, okL⟩⟩, ⟨⟨hro, okR⟩, ⟨hbi, okB⟩, ⟨hle, okE⟩, ⟨hwk, okW⟩⟩, ⟨⟨c1N, c1V, c1C, c1L⟩, ⟨c1R, c1B, c1E, c1W⟩⟩, ⟨⟨c2N, c2V, c2C, c2L⟩, ⟨c2R, c2B, c2E, c2W⟩⟩, hrm1, hrm2⟩ := id hB
  refine zx_iload (i := 6) dX0_openClause_12 rfl ?_
  refine zx_bipush (v := 8) dX0_openClause_14 (by decide +kernel) (z32_lit (by decide) (by decide)) ?_
  refine zx_icmp_ge (tgt := 78) dX0_openClause_16 (by decide) (fun h16 => ?_) (fun h16 => absurd (by decide) h16)
  refine zx_iload (i := 4) dX0_openClause_78 rfl ?_
  refine zx_istore (i := 6) dX0_openClause_80 (by decide) rfl ?_
  refine zx_L (L1 := [some (zR br), some (zR a), some (zR x), some (zI (bs : Int)), some (zI r0), some (zI v0), some (zI r0), o7]) rfl ?_
  refine zx_aload_n (i := 1) dX0_openClause_82 rfl rfl ?_
  refine zx_iv (b := a) (As := []) (st := []) (v := (some (zI ((R.2.2.2.2.2.1 a).2.2.2.1.2.length : Int)))) (w1 := w) dX0_openClause_83 zc_X0_193 ha.1 rfl rfl rfl (Nat.le_of_ble_eq_true rfl) rfl (c_X1_goalCount ha.1 ha.2.2.1) ?_
  refine zx_st (st1 := [zI ((R.2.2.2.2.2.1 a).2.2.2.1.2.length : Int)]) rfl ?_
  refine zx_iconst (v := 1) dX0_openClause_86 rfl (z32_lit (by decide) (by decide)) ?_
  refine zx_isub (v := (((R.2.2.2.2.2.1 a).2.2.2.1.2.length : Int) - 1)) dX0_openClause_87 (zw_eq rfl (by omega) (by omega)) ?_
  refine zx_istore (i := 7) dX0_openClause_88 (by decide) rfl ?_
  refine zx_L (L1 := [some (zR br), some (zR a), some (zR x), some (zI (bs : Int)), some (zI r0), some (zI v0), some (zI r0), some (zI (((R.2.2.2.2.2.1 a).2.2.2.1.2.length : Int) - 1))]) rfl ?_
  exact k
theorem oc_goal (hB : bbW w b1 b2 ((br, pg, t), (nd, va, ce, li), (ro, bi, le, wk)) (((cN, NN), (cV, VV), (cC, CC), (cL, LL)), ((cR, RR), (cB, BB), (cE, EE), (cW, WW)), ((g : Int), fr, tk, rs, (rd : Int)))) (hG1 : b1 + 1800000 ≤ 30 * G.2.2.2.2.1) (hG2 : b2 + 3700000 ≤ G.2.2.2.2.2) (ha : clV w a (R.2.2.2.2.2.1 a)) (hnu : (R.2.2.2.2.2.1 a).1.1 = (c : Int)) (hc12 : c < 12) (hj : j < 100) (hlC : CC.length < 114000) (k : ∀ w1, bbW w1 b1 b2 ((br, pg, t), (nd, va, ce, li), (ro, bi, le, wk)) (((cN, NN), (cV, VV), ((tCap 3 cC CC), (CC ++ [trow 3 ((c * 5 + j : Nat) : Int) v0 e6])), (cL, LL)), ((cR, RR), (cB, BB), (cE, EE), (cW, WW)), ((g : Int), fr, tk, rs, (rd : Int))) → zFr TB w w1 → zX G zm_X0_openClause (d + 4) [zR br, zR a, zR x, zI (bs : Int), zI r0] w0 (zVal PQ) 90 [some (zR br), some (zR a), some (zR x), some (zI (bs : Int)), some (zI r0), some (zI v0), some (zI (CC.length : Int)), some (zI ((j : Int) - 1))] [] w1) : zX G zm_X0_openClause (d + 4) [zR br, zR a, zR x, zI (bs : Int), zI r0] w0 (zVal PQ) 90 [some (zR br), some (zR a), some (zR x), some (zI (bs : Int)), some (zI r0), some (zI v0), some (zI e6), some (zI (((j + 1 : Nat) : Int) - 1))] [] w := by
  obtain ⟨hbr, ⟨⟨hnd, okN⟩, ⟨hva, okV⟩, ⟨hce, okC⟩, ⟨hli, okL⟩⟩, ⟨⟨hro, okR⟩, ⟨hbi, okB⟩, ⟨hle, okE⟩, ⟨hwk, okW⟩⟩, ⟨⟨c1N, c1V, c1C, c1L⟩, ⟨c1R, c1B, c1E, c1W⟩⟩, ⟨⟨c2N, c2V, c2C, c2L⟩, ⟨c2R, c2B, c2E, c2W⟩⟩, hrm1, hrm2⟩ := id hB
  refine zx_iload (i := 7) dX0_openClause_90 rfl ?_
  refine zx_if_lt (tgt := 123) dX0_openClause_92 (by decide) (fun h92 => absurd h92 (by omega)) (fun h92 => ?_)
  refine zx_aload_n (i := 0) dX0_openClause_95 rfl rfl ?_
  refine zx_getfield dX0_openClause_96 zf_X0_31 hbr rfl ?_
  refine zx_aload_n (i := 1) dX0_openClause_99 rfl rfl ?_
  refine zx_getfield dX0_openClause_100 zf_X0_196 ha.1 rfl ?_
  refine zx_iconst (v := 5) dX0_openClause_103 rfl (z32_lit (by decide) (by decide)) ?_
  refine zx_imul (v := ((c * 5 : Nat) : Int)) dX0_openClause_104 (zw_eq (by rw [hnu]; omega) (by omega) (by omega)) ?_
  refine zx_iload (i := 7) dX0_openClause_105 rfl ?_
  refine zx_iadd (v := ((c * 5 + j : Nat) : Int)) dX0_openClause_107 (zw_eq (by omega) (by omega) (by omega)) ?_
  refine zx_iload (i := 5) dX0_openClause_108 rfl ?_
  refine zx_pc (pc1 := 110) rfl ?_
  refine zx_iload (i := 6) dX0_openClause_110 rfl ?_
  refine zx_ok (fun ok_1 => ?_)
  obtain ⟨w_2, hw_3⟩ : ∃ ww, ww = tAw w ce 142 br 3 cC CC (trow 3 ((c * 5 + j : Nat) : Int) v0 e6) := ⟨_, rfl⟩
  have h_4 : w_2.1 ce = some (142, br, tTb 3 (tCap 3 cC CC) (CC ++ [(trow 3 ((c * 5 + j : Nat) : Int) v0 e6)])) := by rw [hw_3]; exact tAw_at
  have qhw_3 := tAw_sz3 (w := w) (a := ce) (t := 142) (ow := br) (c := 3) (cap := cC) (rows := CC) (r := (trow 3 ((c * 5 + j : Nat) : Int) v0 e6)) (by omega)
  rw [← hw_3] at qhw_3
  refine zx_iv (b := ce) (As := [zI ((c * 5 + j : Nat) : Int), zI v0, zI e6]) (st := []) (v := (some (zI (CC.length : Int)))) (w1 := w_2) dX0_openClause_112 zc_X0_113 hce (z_cls9 (by decide)) rfl rfl (Nat.le_of_ble_eq_true rfl) rfl (by rw [hw_3]; exact (c_X9_add hce (by decide) okC (by omega) (by by_cases cg : CC.length * 3 + 3 ≤ cC; exact Or.inl cg; exact Or.inr ⟨by omega, by omega⟩) ((c * 5 + j : Nat) : Int) v0 e6)) ?_
  refine zx_st (st1 := [zI (CC.length : Int)]) rfl ?_
  refine zx_istore (i := 6) dX0_openClause_115 (by decide) rfl ?_
  refine zx_L (L1 := [some (zR br), some (zR a), some (zR x), some (zI (bs : Int)), some (zI r0), some (zI v0), some (zI (CC.length : Int)), some (zI (((j + 1 : Nat) : Int) - 1))]) rfl ?_
  refine zx_iinc (i := 7) (v := ((j : Int) - 1)) dX0_openClause_117 rfl (zw_eq (by omega) (by omega) (by omega)) (by decide) rfl ?_
  refine zx_L (L1 := [some (zR br), some (zR a), some (zR x), some (zI (bs : Int)), some (zI r0), some (zI v0), some (zI (CC.length : Int)), some (zI ((j : Int) - 1))]) rfl ?_
  refine zx_goto (tgt := 90) dX0_openClause_120 (by decide) ?_
  have hfaL9 : zFa [ce] w w_2 := (zFa_taw zFa_re (by simp) ok_1 hw_3)
  have hF9 : zFr TB w w_2 := zFr_fa hfaL9 (zLc hce (by simp) zLn)
  have h_5 : w_2.1 nd = some (140, br, tTb 5 cN NN) := by
    rw [hw_3]; exact (tAw_to ok_1 (zne_tg hce hnd (by simp)) hnd)
  have h_6 : w_2.1 va = some (141, br, tTb 1 cV VV) := by
    rw [hw_3]; exact (tAw_to ok_1 (zne_tg hce hva (by simp)) hva)
  have h_7 : w_2.1 li = some (143, br, tTb 4 cL LL) := by
    rw [hw_3]; exact (tAw_to ok_1 (zne_tg hce hli (by simp)) hli)
  have h_8 : w_2.1 ro = some (144, br, tTb 6 cR RR) := by
    rw [hw_3]; exact (tAw_to ok_1 (zne_tg hce hro (by simp)) hro)
  have h_9 : w_2.1 bi = some (145, br, tTb 2 cB BB) := by
    rw [hw_3]; exact (tAw_to ok_1 (zne_tg hce hbi (by simp)) hbi)
  have h_10 : w_2.1 le = some (146, br, tTb 4 cE EE) := by
    rw [hw_3]; exact (tAw_to ok_1 (zne_tg hce hle (by simp)) hle)
  have h_11 : w_2.1 wk = some (147, br, tTb 3 cW WW) := by
    rw [hw_3]; exact (tAw_to ok_1 (zne_tg hce hwk (by simp)) hwk)
  have h_12 : w_2.1 br = some (0, 0, [zR pg, zR t, zR nd, zI (g : Int), zR va, zR ce, zR li, zR ro, zI fr, zR bi, zR le, zR wk, zI tk, zI rs, zI (rd : Int)]) := by
    rw [hw_3]; exact (tAw_to ok_1 (zne_tg hce hbr (by simp)) hbr)
  have hB9 : bbW w_2 b1 b2 ((br, pg, t), (nd, va, ce, li), (ro, bi, le, wk)) (((cN, NN), (cV, VV), ((tCap 3 cC CC), (CC ++ [(trow 3 ((c * 5 + j : Nat) : Int) v0 e6)])), (cL, LL)), ((cR, RR), (cB, BB), (cE, EE), (cW, WW)), ((g : Int), fr, tk, rs, (rd : Int))) := ⟨h_12, ⟨⟨h_5, okN⟩, ⟨h_6, okV⟩, ⟨h_4, (tOk_app okC (by first | exact trow_len | rfl))⟩, ⟨h_7, okL⟩⟩, ⟨⟨h_8, okR⟩, ⟨h_9, okB⟩, ⟨h_10, okE⟩, ⟨h_11, okW⟩⟩, ⟨⟨by omega, by omega, by omega, by omega⟩, ⟨by omega, by omega, by omega, by omega⟩⟩, ⟨⟨by omega, by omega, by omega, by omega⟩, ⟨by omega, by omega, by omega, by omega⟩⟩, by omega, by omega⟩
  exact k _ hB9 hF9
theorem oc_end (hB : bbW w b1 b2 ((br, pg, t), (nd, va, ce, li), (ro, bi, le, wk)) (((cN, NN), (cV, VV), (cC, CC), (cL, LL)), ((cR, RR), (cB, BB), (cE, EE), (cW, WW)), ((g : Int), fr, tk, rs, (rd : Int))))  (k : PQ (zI e6) w) : zX G zm_X0_openClause (d + 4) [zR br, zR a, zR x, zI (bs : Int), zI r0] w0 (zVal PQ) 90 [some (zR br), some (zR a), some (zR x), some (zI (bs : Int)), some (zI r0), some (zI v0), some (zI e6), some (zI (((0 : Nat) : Int) - 1))] [] w := by
  obtain ⟨hbr, ⟨⟨hnd, okN⟩, ⟨hva, okV⟩, ⟨hce, okC⟩, ⟨hli, okL⟩⟩, ⟨⟨hro, okR⟩, ⟨hbi, okB⟩, ⟨hle, okE⟩, ⟨hwk, okW⟩⟩, ⟨⟨c1N, c1V, c1C, c1L⟩, ⟨c1R, c1B, c1E, c1W⟩⟩, ⟨⟨c2N, c2V, c2C, c2L⟩, ⟨c2R, c2B, c2E, c2W⟩⟩, hrm1, hrm2⟩ := id hB
  refine zx_iload (i := 7) dX0_openClause_90 rfl ?_
  refine zx_if_lt (tgt := 123) dX0_openClause_92 (by decide) (fun h92 => ?_) (fun h92 => absurd (by omega) h92)
  refine zx_iload (i := 6) dX0_openClause_123 rfl ?_
  refine zx_iret dX0_openClause_125 rfl ?_
  exact ⟨_, rfl, k⟩
end BOC
