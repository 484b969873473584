/-! Own rows: breadth's firstToResolve, a turn at a time. Walked by program (wip/p37/m_bft.py). -/
section BFT
variable {G : zG} {d : Nat} {w w0 : zW} {b1 b2 g rd h0 q c x : Nat} {br pg t nd va ce li ro bi le wk : Nat} {cN cV cC cL cR cB cE cW : Nat} {NN VV CC LL RR BB EE WW : List (List Int)} {fr tk rs : Int} {Ce : List (Nat × Nat × Option Nat)} {e : Nat × Nat × Option Nat} {r : goR} {N : bNT} {bd : bBD} {mk : Nat → Int} {PQ : zV → zW → Prop} {o4 : Option zV}
theorem ft_take (hB : bbW w b1 b2 ((br, pg, t), (nd, va, ce, li), (ro, bi, le, wk)) (((cN, NN), (cV, VV), (cC, (Ce.map rwC)), (cL, LL)), ((cR, RR), (cB, BB), (cE, EE), (cW, WW)), ((g : Int), fr, tk, rs, (rd : Int)))) (hgo : zM G zm_X0_goalOf (d + 4) [zR br, zI (c : Int)] w (zRet (some (zR x)) w)) (hg : goW w x r) (he : Ce[c]? = some e) (hq : q < 900000) (hk3 : r.1 ≠ 3) (k : PQ (zI (c : Int)) w) : zX G zm_X0_firstToResolve (d + 5) [zR br, zI (h0 : Int)] w0 (zVal PQ) 4 [some (zR br), some (zI (h0 : Int)), some (zI (c : Int)), some (zI ((q : Nat) : Int)), o4] [] w := by
  have e1 : tg (Ce.map rwC) (c : Int) 1 = (e.2.1 : Int) := tg_map (j := 1) he
  have e2 : tg (Ce.map rwC) (c : Int) 2 = oI e.2.2 := tg_map (j := 2) he
  obtain ⟨hbr, ⟨⟨hnd, okN⟩, ⟨hva, okV⟩, ⟨hce, okC⟩, ⟨hli, okL⟩⟩, ⟨⟨hro, okR⟩, ⟨hbi, okB⟩, ⟨hle, okE⟩, ⟨hwk, okW⟩⟩, ⟨⟨c1N, c1V, c1C, c1L⟩, ⟨c1R, c1B, c1E, c1W⟩⟩, ⟨⟨c2N, c2V, c2C, c2L⟩, ⟨c2R, c2B, c2E, c2W⟩⟩, hrm1, hrm2⟩ := id hB
  refine zx_iload_n (i := 3) dX0_firstToResolve_4 rfl rfl ?_
  refine zx_ldc (v := 1000000) dX0_firstToResolve_5 zk_X0_65 (by decide +kernel) (z32_lit (by decide) (by decide)) ?_
  refine zx_icmp_ge (tgt := 72) dX0_firstToResolve_7 (by decide) (fun h7 => absurd h7 (by omega)) (fun h7 => ?_)
  refine zx_iload_n (i := 2) dX0_firstToResolve_10 rfl rfl ?_
  refine zx_iconst (v := -1) dX0_firstToResolve_11 rfl (z32_lit (by decide) (by decide)) ?_
  refine zx_icmp_eq (tgt := 72) dX0_firstToResolve_12 (by decide) (fun h12 => absurd h12 (by omega)) (fun h12 => ?_)
  refine zx_aload_n (i := 0) dX0_firstToResolve_15 rfl rfl ?_
  refine zx_iload_n (i := 2) dX0_firstToResolve_16 rfl rfl ?_
  refine zx_iv (b := br) (As := [zI (c : Int)]) (st := []) (v := (some (zR x))) (w1 := w) dX0_firstToResolve_17 zc_X0_170 hbr rfl rfl rfl (Nat.le_of_ble_eq_true rfl) rfl hgo ?_
  refine zx_st (st1 := [zR x]) rfl ?_
  refine zx_astore (i := 4) dX0_firstToResolve_20 (by decide) rfl ?_
  refine zx_L (L1 := [some (zR br), some (zI (h0 : Int)), some (zI (c : Int)), some (zI (q : Int)), some (zR x)]) rfl ?_
  refine zx_aload (i := 4) dX0_firstToResolve_22 rfl ?_
  refine zx_pc (pc1 := 24) rfl ?_
  refine zx_ifnull (tgt := 56) dX0_firstToResolve_24 (by decide) (fun h => by cases h) (fun _ => ?_)
  refine zx_aload (i := 4) dX0_firstToResolve_27 rfl ?_
  refine zx_getfield dX0_firstToResolve_29 zf_X0_206 hg.1 rfl ?_
  refine zx_iconst (v := 3) dX0_firstToResolve_32 rfl (z32_lit (by decide) (by decide)) ?_
  refine zx_icmp_ne (tgt := 54) dX0_firstToResolve_33 (by decide) (fun h33 => ?_) (fun h33 => absurd (by omega) h33)
  refine zx_iload_n (i := 2) dX0_firstToResolve_54 rfl rfl ?_
  refine zx_iret dX0_firstToResolve_55 rfl ?_
  exact ⟨_, rfl, k⟩
theorem ft_yes (hB : bbW w b1 b2 ((br, pg, t), (nd, va, ce, li), (ro, bi, le, wk)) (((cN, NN), (cV, VV), (cC, (Ce.map rwC)), (cL, LL)), ((cR, RR), (cB, BB), (cE, EE), (cW, WW)), ((g : Int), fr, tk, rs, (rd : Int)))) (hgo : zM G zm_X0_goalOf (d + 4) [zR br, zI (c : Int)] w (zRet (some (zR x)) w)) (hg : goW w x r) (he : Ce[c]? = some e) (hq : q < 900000) (hk3 : r.1 = 3) (hig : zM G zm_X0_isGround (d + 4) [zR br, zR x, zI (e.2.1 : Int)] w (zVal fun o w' => o = zI 1 ∧ (∃ (cW2 : Nat) (NN2 WW2 : List (List Int)) (mk2 : Nat → Int), bbW w' b1 b2 ((br, pg, t), (nd, va, ce, li), (ro, bi, le, wk)) (((cN, NN2), (cV, VV), (cC, (Ce.map rwC)), (cL, LL)), ((cR, RR), (cB, BB), (cE, EE), (cW2, WW2)), ((g : Int), fr, tk, rs, (rd : Int))) ∧ ndM NN2 N bd mk2 ∧ mkX N bd rd mk mk2) ∧ zFr TB w w')) (k : ∀ (cW2 : Nat) (NN2 WW2 : List (List Int)) (mk2 : Nat → Int) (w' : zW), bbW w' b1 b2 ((br, pg, t), (nd, va, ce, li), (ro, bi, le, wk)) (((cN, NN2), (cV, VV), (cC, (Ce.map rwC)), (cL, LL)), ((cR, RR), (cB, BB), (cE, EE), (cW2, WW2)), ((g : Int), fr, tk, rs, (rd : Int))) → ndM NN2 N bd mk2 → mkX N bd rd mk mk2 → zFr TB w w' → PQ (zI (c : Int)) w') : zX G zm_X0_firstToResolve (d + 5) [zR br, zI (h0 : Int)] w0 (zVal PQ) 4 [some (zR br), some (zI (h0 : Int)), some (zI (c : Int)), some (zI ((q : Nat) : Int)), o4] [] w := by
  have e1 : tg (Ce.map rwC) (c : Int) 1 = (e.2.1 : Int) := tg_map (j := 1) he
  have e2 : tg (Ce.map rwC) (c : Int) 2 = oI e.2.2 := tg_map (j := 2) he
  obtain ⟨hbr, ⟨⟨hnd, okN⟩, ⟨hva, okV⟩, ⟨hce, okC⟩, ⟨hli, okL⟩⟩, ⟨⟨hro, okR⟩, ⟨hbi, okB⟩, ⟨hle, okE⟩, ⟨hwk, okW⟩⟩, ⟨⟨c1N, c1V, c1C, c1L⟩, ⟨c1R, c1B, c1E, c1W⟩⟩, ⟨⟨c2N, c2V, c2C, c2L⟩, ⟨c2R, c2B, c2E, c2W⟩⟩, hrm1, hrm2⟩ := id hB
  refine zx_iload_n (i := 3) dX0_firstToResolve_4 rfl rfl ?_
  refine zx_ldc (v := 1000000) dX0_firstToResolve_5 zk_X0_65 (by decide +kernel) (z32_lit (by decide) (by decide)) ?_
  refine zx_icmp_ge (tgt := 72) dX0_firstToResolve_7 (by decide) (fun h7 => absurd h7 (by omega)) (fun h7 => ?_)
  refine zx_iload_n (i := 2) dX0_firstToResolve_10 rfl rfl ?_
  refine zx_iconst (v := -1) dX0_firstToResolve_11 rfl (z32_lit (by decide) (by decide)) ?_
  refine zx_icmp_eq (tgt := 72) dX0_firstToResolve_12 (by decide) (fun h12 => absurd h12 (by omega)) (fun h12 => ?_)
  refine zx_aload_n (i := 0) dX0_firstToResolve_15 rfl rfl ?_
  refine zx_iload_n (i := 2) dX0_firstToResolve_16 rfl rfl ?_
  refine zx_iv (b := br) (As := [zI (c : Int)]) (st := []) (v := (some (zR x))) (w1 := w) dX0_firstToResolve_17 zc_X0_170 hbr rfl rfl rfl (Nat.le_of_ble_eq_true rfl) rfl hgo ?_
  refine zx_st (st1 := [zR x]) rfl ?_
  refine zx_astore (i := 4) dX0_firstToResolve_20 (by decide) rfl ?_
  refine zx_L (L1 := [some (zR br), some (zI (h0 : Int)), some (zI (c : Int)), some (zI (q : Int)), some (zR x)]) rfl ?_
  refine zx_aload (i := 4) dX0_firstToResolve_22 rfl ?_
  refine zx_pc (pc1 := 24) rfl ?_
  refine zx_ifnull (tgt := 56) dX0_firstToResolve_24 (by decide) (fun h => by cases h) (fun _ => ?_)
  refine zx_aload (i := 4) dX0_firstToResolve_27 rfl ?_
  refine zx_getfield dX0_firstToResolve_29 zf_X0_206 hg.1 rfl ?_
  refine zx_iconst (v := 3) dX0_firstToResolve_32 rfl (z32_lit (by decide) (by decide)) ?_
  refine zx_icmp_ne (tgt := 54) dX0_firstToResolve_33 (by decide) (fun h33 => absurd h33 (by omega)) (fun h33 => ?_)
  refine zx_aload_n (i := 0) dX0_firstToResolve_36 rfl rfl ?_
  refine zx_aload (i := 4) dX0_firstToResolve_37 rfl ?_
  refine zx_aload_n (i := 0) dX0_firstToResolve_39 rfl rfl ?_
  refine zx_getfield dX0_firstToResolve_40 zf_X0_31 hbr rfl ?_
  refine zx_iload_n (i := 2) dX0_firstToResolve_43 rfl rfl ?_
  refine zx_iconst (v := 1) dX0_firstToResolve_44 rfl (z32_lit (by decide) (by decide)) ?_
  refine zx_iv (b := ce) (As := [zI (c : Int), zI 1]) (st := [zR x, zR br]) (v := (some (zI (e.2.1 : Int)))) (w1 := w) dX0_firstToResolve_45 zc_X0_84 hce (z_cls9 (by decide)) rfl rfl (Nat.le_of_ble_eq_true rfl) rfl (by have q := (c_X9_get (G := G) (d := d + 4) hce (by decide) okC (c : Int) 1); rw [e1] at q; exact q) ?_
  refine zx_st (st1 := [zI (e.2.1 : Int), zR x, zR br]) rfl ?_
  refine zx_pc (pc1 := 48) rfl ?_
  have hFp2 : zFr TB w w := zFr_re
  have hBp2 : bbW w b1 b2 ((br, pg, t), (nd, va, ce, li), (ro, bi, le, wk)) (((cN, NN), (cV, VV), (cC, (Ce.map rwC)), (cL, LL)), ((cR, RR), (cB, BB), (cE, EE), (cW, WW)), ((g : Int), fr, tk, rs, (rd : Int))) := ⟨hbr, ⟨⟨hnd, okN⟩, ⟨hva, okV⟩, ⟨hce, okC⟩, ⟨hli, okL⟩⟩, ⟨⟨hro, okR⟩, ⟨hbi, okB⟩, ⟨hle, okE⟩, ⟨hwk, okW⟩⟩, ⟨⟨by omega, by omega, by omega, by omega⟩, ⟨by omega, by omega, by omega, by omega⟩⟩, ⟨⟨by omega, by omega, by omega, by omega⟩, ⟨by omega, by omega, by omega, by omega⟩⟩, by omega, by omega⟩
  refine zx_ivV (b := br) (As := [zR x, zI (e.2.1 : Int)]) (st := []) dX0_firstToResolve_48 zc_X0_233 hbr rfl rfl rfl (Nat.le_of_ble_eq_true rfl) rfl hig (fun v2 w2 hq => ?_)
  obtain ⟨ev2, ⟨cW2, NN2, WW2, mk2, hB2, hM2, hX2⟩, hF2⟩ := hq
  subst ev2
  obtain ⟨hbr2, ⟨⟨hnd2, okN2⟩, ⟨hva2, okV2⟩, ⟨hce2, okC2⟩, ⟨hli2, okL2⟩⟩, ⟨⟨hro2, okR2⟩, ⟨hbi2, okB2⟩, ⟨hle2, okE2⟩, ⟨hwk2, okW2⟩⟩, ⟨⟨c1N2, c1V2, c1C2, c1L2⟩, ⟨c1R2, c1B2, c1E2, c1W2⟩⟩, ⟨⟨c2N2, c2V2, c2C2, c2L2⟩, ⟨c2R2, c2B2, c2E2, c2W2⟩⟩, hrm12, hrm22⟩ := id hB2
  refine zx_if_eq (tgt := 56) dX0_firstToResolve_51 (by decide) (fun h51 => absurd h51 (by decide)) (fun h51 => ?_)
  refine zx_iload_n (i := 2) dX0_firstToResolve_54 rfl rfl ?_
  refine zx_iret dX0_firstToResolve_55 rfl ?_
  have hF9 : zFr TB w2 w2 := zFr_re
  have hB9 : bbW w2 b1 b2 ((br, pg, t), (nd, va, ce, li), (ro, bi, le, wk)) (((cN, NN2), (cV, VV), (cC, (Ce.map rwC)), (cL, LL)), ((cR, RR), (cB, BB), (cE, EE), (cW2, WW2)), ((g : Int), fr, tk, rs, (rd : Int))) := ⟨hbr2, ⟨⟨hnd2, okN2⟩, ⟨hva2, okV2⟩, ⟨hce2, okC2⟩, ⟨hli2, okL2⟩⟩, ⟨⟨hro2, okR2⟩, ⟨hbi2, okB2⟩, ⟨hle2, okE2⟩, ⟨hwk2, okW2⟩⟩, ⟨⟨by omega, by omega, by omega, by omega⟩, ⟨by omega, by omega, by omega, by omega⟩⟩, ⟨⟨by omega, by omega, by omega, by omega⟩, ⟨by omega, by omega, by omega, by omega⟩⟩, by omega, by omega⟩
  exact ⟨_, rfl, k _ _ _ _ _ hB9 hM2 hX2 (zFr_tr hFp2 (zFr_tr hF2 hF9))⟩
theorem ft_no (hB : bbW w b1 b2 ((br, pg, t), (nd, va, ce, li), (ro, bi, le, wk)) (((cN, NN), (cV, VV), (cC, (Ce.map rwC)), (cL, LL)), ((cR, RR), (cB, BB), (cE, EE), (cW, WW)), ((g : Int), fr, tk, rs, (rd : Int)))) (hgo : zM G zm_X0_goalOf (d + 4) [zR br, zI (c : Int)] w (zRet (some (zR x)) w)) (hg : goW w x r) (he : Ce[c]? = some e) (hq : q < 900000) (hk3 : r.1 = 3) (hig : zM G zm_X0_isGround (d + 4) [zR br, zR x, zI (e.2.1 : Int)] w (zVal fun o w' => o = zI 0 ∧ (∃ (cW2 : Nat) (NN2 WW2 : List (List Int)) (mk2 : Nat → Int), bbW w' b1 b2 ((br, pg, t), (nd, va, ce, li), (ro, bi, le, wk)) (((cN, NN2), (cV, VV), (cC, (Ce.map rwC)), (cL, LL)), ((cR, RR), (cB, BB), (cE, EE), (cW2, WW2)), ((g : Int), fr, tk, rs, (rd : Int))) ∧ ndM NN2 N bd mk2 ∧ mkX N bd rd mk mk2) ∧ zFr TB w w')) (k : ∀ (cW2 : Nat) (NN2 WW2 : List (List Int)) (mk2 : Nat → Int) (w' : zW), bbW w' b1 b2 ((br, pg, t), (nd, va, ce, li), (ro, bi, le, wk)) (((cN, NN2), (cV, VV), (cC, (Ce.map rwC)), (cL, LL)), ((cR, RR), (cB, BB), (cE, EE), (cW2, WW2)), ((g : Int), fr, tk, rs, (rd : Int))) → ndM NN2 N bd mk2 → mkX N bd rd mk mk2 → zFr TB w w' → ∀ o4 : Option zV, zX G zm_X0_firstToResolve (d + 5) [zR br, zI (h0 : Int)] w0 (zVal PQ) 4 [some (zR br), some (zI (h0 : Int)), some (zI (oI e.2.2)), some (zI ((q + 1 : Nat) : Int)), o4] [] w') : zX G zm_X0_firstToResolve (d + 5) [zR br, zI (h0 : Int)] w0 (zVal PQ) 4 [some (zR br), some (zI (h0 : Int)), some (zI (c : Int)), some (zI ((q : Nat) : Int)), o4] [] w := by
  have e1 : tg (Ce.map rwC) (c : Int) 1 = (e.2.1 : Int) := tg_map (j := 1) he
  have e2 : tg (Ce.map rwC) (c : Int) 2 = oI e.2.2 := tg_map (j := 2) he
  obtain ⟨hbr, ⟨⟨hnd, okN⟩, ⟨hva, okV⟩, ⟨hce, okC⟩, ⟨hli, okL⟩⟩, ⟨⟨hro, okR⟩, ⟨hbi, okB⟩, ⟨hle, okE⟩, ⟨hwk, okW⟩⟩, ⟨⟨c1N, c1V, c1C, c1L⟩, ⟨c1R, c1B, c1E, c1W⟩⟩, ⟨⟨c2N, c2V, c2C, c2L⟩, ⟨c2R, c2B, c2E, c2W⟩⟩, hrm1, hrm2⟩ := id hB
  refine zx_iload_n (i := 3) dX0_firstToResolve_4 rfl rfl ?_
  refine zx_ldc (v := 1000000) dX0_firstToResolve_5 zk_X0_65 (by decide +kernel) (z32_lit (by decide) (by decide)) ?_
  refine zx_icmp_ge (tgt := 72) dX0_firstToResolve_7 (by decide) (fun h7 => absurd h7 (by omega)) (fun h7 => ?_)
  refine zx_iload_n (i := 2) dX0_firstToResolve_10 rfl rfl ?_
  refine zx_iconst (v := -1) dX0_firstToResolve_11 rfl (z32_lit (by decide) (by decide)) ?_
  refine zx_icmp_eq (tgt := 72) dX0_firstToResolve_12 (by decide) (fun h12 => absurd h12 (by omega)) (fun h12 => ?_)
  refine zx_aload_n (i := 0) dX0_firstToResolve_15 rfl rfl ?_
  refine zx_iload_n (i := 2) dX0_firstToResolve_16 rfl rfl ?_
  refine zx_iv (b := br) (As := [zI (c : Int)]) (st := []) (v := (some (zR x))) (w1 := w) dX0_firstToResolve_17 zc_X0_170 hbr rfl rfl rfl (Nat.le_of_ble_eq_true rfl) rfl hgo ?_
  refine zx_st (st1 := [zR x]) rfl ?_
  refine zx_astore (i := 4) dX0_firstToResolve_20 (by decide) rfl ?_
  refine zx_L (L1 := [some (zR br), some (zI (h0 : Int)), some (zI (c : Int)), some (zI (q : Int)), some (zR x)]) rfl ?_
  refine zx_aload (i := 4) dX0_firstToResolve_22 rfl ?_
  refine zx_pc (pc1 := 24) rfl ?_
  refine zx_ifnull (tgt := 56) dX0_firstToResolve_24 (by decide) (fun h => by cases h) (fun _ => ?_)
  refine zx_aload (i := 4) dX0_firstToResolve_27 rfl ?_
  refine zx_getfield dX0_firstToResolve_29 zf_X0_206 hg.1 rfl ?_
  refine zx_iconst (v := 3) dX0_firstToResolve_32 rfl (z32_lit (by decide) (by decide)) ?_
  refine zx_icmp_ne (tgt := 54) dX0_firstToResolve_33 (by decide) (fun h33 => absurd h33 (by omega)) (fun h33 => ?_)
  refine zx_aload_n (i := 0) dX0_firstToResolve_36 rfl rfl ?_
  refine zx_aload (i := 4) dX0_firstToResolve_37 rfl ?_
  refine zx_aload_n (i := 0) dX0_firstToResolve_39 rfl rfl ?_
  refine zx_getfield dX0_firstToResolve_40 zf_X0_31 hbr rfl ?_
  refine zx_iload_n (i := 2) dX0_firstToResolve_43 rfl rfl ?_
  refine zx_iconst (v := 1) dX0_firstToResolve_44 rfl (z32_lit (by decide) (by decide)) ?_
  refine zx_iv (b := ce) (As := [zI (c : Int), zI 1]) (st := [zR x, zR br]) (v := (some (zI (e.2.1 : Int)))) (w1 := w) dX0_firstToResolve_45 zc_X0_84 hce (z_cls9 (by decide)) rfl rfl (Nat.le_of_ble_eq_true rfl) rfl (by have q := (c_X9_get (G := G) (d := d + 4) hce (by decide) okC (c : Int) 1); rw [e1] at q; exact q) ?_
  refine zx_st (st1 := [zI (e.2.1 : Int), zR x, zR br]) rfl ?_
  refine zx_pc (pc1 := 48) rfl ?_
  have hFp2 : zFr TB w w := zFr_re
  have hBp2 : bbW w b1 b2 ((br, pg, t), (nd, va, ce, li), (ro, bi, le, wk)) (((cN, NN), (cV, VV), (cC, (Ce.map rwC)), (cL, LL)), ((cR, RR), (cB, BB), (cE, EE), (cW, WW)), ((g : Int), fr, tk, rs, (rd : Int))) := ⟨hbr, ⟨⟨hnd, okN⟩, ⟨hva, okV⟩, ⟨hce, okC⟩, ⟨hli, okL⟩⟩, ⟨⟨hro, okR⟩, ⟨hbi, okB⟩, ⟨hle, okE⟩, ⟨hwk, okW⟩⟩, ⟨⟨by omega, by omega, by omega, by omega⟩, ⟨by omega, by omega, by omega, by omega⟩⟩, ⟨⟨by omega, by omega, by omega, by omega⟩, ⟨by omega, by omega, by omega, by omega⟩⟩, by omega, by omega⟩
  refine zx_ivV (b := br) (As := [zR x, zI (e.2.1 : Int)]) (st := []) dX0_firstToResolve_48 zc_X0_233 hbr rfl rfl rfl (Nat.le_of_ble_eq_true rfl) rfl hig (fun v2 w2 hq => ?_)
  obtain ⟨ev2, ⟨cW2, NN2, WW2, mk2, hB2, hM2, hX2⟩, hF2⟩ := hq
  subst ev2
  obtain ⟨hbr2, ⟨⟨hnd2, okN2⟩, ⟨hva2, okV2⟩, ⟨hce2, okC2⟩, ⟨hli2, okL2⟩⟩, ⟨⟨hro2, okR2⟩, ⟨hbi2, okB2⟩, ⟨hle2, okE2⟩, ⟨hwk2, okW2⟩⟩, ⟨⟨c1N2, c1V2, c1C2, c1L2⟩, ⟨c1R2, c1B2, c1E2, c1W2⟩⟩, ⟨⟨c2N2, c2V2, c2C2, c2L2⟩, ⟨c2R2, c2B2, c2E2, c2W2⟩⟩, hrm12, hrm22⟩ := id hB2
  refine zx_if_eq (tgt := 56) dX0_firstToResolve_51 (by decide) (fun h51 => ?_) (fun h51 => absurd (by decide) h51)
  refine zx_aload_n (i := 0) dX0_firstToResolve_56 rfl rfl ?_
  refine zx_getfield dX0_firstToResolve_57 zf_X0_31 hbr2 rfl ?_
  refine zx_iload_n (i := 2) dX0_firstToResolve_60 rfl rfl ?_
  refine zx_iconst (v := 2) dX0_firstToResolve_61 rfl (z32_lit (by decide) (by decide)) ?_
  refine zx_iv (b := ce) (As := [zI (c : Int), zI 2]) (st := []) (v := (some (zI (oI e.2.2)))) (w1 := w2) dX0_firstToResolve_62 zc_X0_84 hce2 (z_cls9 (by decide)) rfl rfl (Nat.le_of_ble_eq_true rfl) rfl (by have q := (c_X9_get (G := G) (d := d + 4) hce2 (by decide) okC2 (c : Int) 2); rw [e2] at q; exact q) ?_
  refine zx_st (st1 := [zI (oI e.2.2)]) rfl ?_
  refine zx_istore_n (i := 2) dX0_firstToResolve_65 rfl (by decide) rfl ?_
  refine zx_L (L1 := [some (zR br), some (zI (h0 : Int)), some (zI (oI e.2.2)), some (zI (q : Int)), some (zR x)]) rfl ?_
  refine zx_iinc (i := 3) (v := ((q + 1 : Nat) : Int)) dX0_firstToResolve_66 rfl (zw_eq (by omega) (by omega) (by omega)) (by decide) rfl ?_
  refine zx_L (L1 := [some (zR br), some (zI (h0 : Int)), some (zI (oI e.2.2)), some (zI ((q + 1 : Nat) : Int)), some (zR x)]) rfl ?_
  refine zx_goto (tgt := 4) dX0_firstToResolve_69 (by decide) ?_
  have hF9 : zFr TB w2 w2 := zFr_re
  have hB9 : bbW w2 b1 b2 ((br, pg, t), (nd, va, ce, li), (ro, bi, le, wk)) (((cN, NN2), (cV, VV), (cC, (Ce.map rwC)), (cL, LL)), ((cR, RR), (cB, BB), (cE, EE), (cW2, WW2)), ((g : Int), fr, tk, rs, (rd : Int))) := ⟨hbr2, ⟨⟨hnd2, okN2⟩, ⟨hva2, okV2⟩, ⟨hce2, okC2⟩, ⟨hli2, okL2⟩⟩, ⟨⟨hro2, okR2⟩, ⟨hbi2, okB2⟩, ⟨hle2, okE2⟩, ⟨hwk2, okW2⟩⟩, ⟨⟨by omega, by omega, by omega, by omega⟩, ⟨by omega, by omega, by omega, by omega⟩⟩, ⟨⟨by omega, by omega, by omega, by omega⟩, ⟨by omega, by omega, by omega, by omega⟩⟩, by omega, by omega⟩
  exact k _ _ _ _ _ hB9 hM2 hX2 (zFr_tr hFp2 (zFr_tr hF2 hF9)) _
theorem ft_end (hq : q < 900000) (k : PQ (zI (-1)) w) : zX G zm_X0_firstToResolve (d + 5) [zR br, zI (h0 : Int)] w0 (zVal PQ) 4 [some (zR br), some (zI (h0 : Int)), some (zI (-1)), some (zI ((q : Nat) : Int)), o4] [] w := by
  refine zx_iload_n (i := 3) dX0_firstToResolve_4 rfl rfl ?_
  refine zx_ldc (v := 1000000) dX0_firstToResolve_5 zk_X0_65 (by decide +kernel) (z32_lit (by decide) (by decide)) ?_
  refine zx_icmp_ge (tgt := 72) dX0_firstToResolve_7 (by decide) (fun h7 => absurd h7 (by omega)) (fun h7 => ?_)
  refine zx_iload_n (i := 2) dX0_firstToResolve_10 rfl rfl ?_
  refine zx_iconst (v := -1) dX0_firstToResolve_11 rfl (z32_lit (by decide) (by decide)) ?_
  refine zx_icmp_eq (tgt := 72) dX0_firstToResolve_12 (by decide) (fun h12 => ?_) (fun h12 => absurd (by decide) h12)
  refine zx_iconst (v := -1) dX0_firstToResolve_72 rfl (z32_lit (by decide) (by decide)) ?_
  refine zx_iret dX0_firstToResolve_73 rfl ?_
  exact ⟨_, rfl, k⟩
theorem ft_start (k : zX G zm_X0_firstToResolve (d + 5) [zR br, zI (h0 : Int)] w (zVal PQ) 4 [some (zR br), some (zI (h0 : Int)), some (zI (h0 : Int)), some (zI 0), none] [] w) : zM G zm_X0_firstToResolve (d + 5) [zR br, zI (h0 : Int)] w (zVal PQ) := by
  refine zx_ent (by decide +kernel) rfl (Nat.le_of_ble_eq_true rfl) ?_
  refine zx_L (L1 := [some (zR br), some (zI (h0 : Int)), none, none, none]) rfl ?_
  refine zx_iload_n (i := 1) dX0_firstToResolve_0 rfl rfl ?_
  refine zx_istore_n (i := 2) dX0_firstToResolve_1 rfl (by decide) rfl ?_
  refine zx_L (L1 := [some (zR br), some (zI (h0 : Int)), some (zI (h0 : Int)), none, none]) rfl ?_
  refine zx_iconst (v := 0) dX0_firstToResolve_2 rfl (z32_lit (by decide) (by decide)) ?_
  refine zx_istore_n (i := 3) dX0_firstToResolve_3 rfl (by decide) rfl ?_
  refine zx_L (L1 := [some (zR br), some (zI (h0 : Int)), some (zI (h0 : Int)), some (zI 0), none]) rfl ?_
  exact k
end BFT
