/-! Own rows: breadth counts, in pieces. Walked by program (wip/p37/m_bct.py). -/
section BCT
variable {G : zG} {d : Nat} {w w0 : zW} {b1 b2 q na md y l : Nat} {br pg t nd va ce li ro bi le wk : Nat} {cN cV cC cL cR cB cE cW : Nat} {NN VV CC LL RR BB EE WW : List (List Int)} {gc fr tk rs rd : Int} {rp ri ra rn : Nat} {IN AN NT : List (List Int)} {sc cc dc en bk bc : Int} {P1 : zW → Prop} {PQ : zV → zW → Prop} {o4 : Option zV} {m1 m2 m3 m4 m5 m6 m7 m8 : Int}
theorem ct_0 (hB : bbW w b1 b2 ((br, pg, t), (nd, va, ce, li), (ro, bi, le, wk)) (((cN, NN), (cV, VV), (cC, CC), (cL, LL)), ((cR, RR), (cB, BB), (cE, EE), (cW, WW)), (gc, fr, tk, rs, rd))) (hR : rpW w rp ri ra rn none IN AN NT sc cc dc en bk bc) (k : PQ (zI (-1)) w) : zM G zm_X0_count (d + 7) [zR br, zR rp] w (zVal PQ) := by
  refine zx_ent (by decide +kernel) rfl (Nat.le_of_ble_eq_true rfl) ?_
  refine zx_L (L1 := [some (zR br), some (zR rp), none, none, none]) rfl ?_
  obtain ⟨hbr, ⟨⟨hnd, okN⟩, ⟨hva, okV⟩, ⟨hce, okC⟩, ⟨hli, okL⟩⟩, ⟨⟨hro, okR⟩, ⟨hbi, okB⟩, ⟨hle, okE⟩, ⟨hwk, okW⟩⟩, ⟨⟨c1N, c1V, c1C, c1L⟩, ⟨c1R, c1B, c1E, c1W⟩⟩, ⟨⟨c2N, c2V, c2C, c2L⟩, ⟨c2R, c2B, c2E, c2W⟩⟩, hrm1, hrm2⟩ := id hB
  refine zx_aload_n (i := 1) dX0_count_0 rfl rfl ?_
  refine zx_getfield dX0_count_1 zf_X0_49 hR.1 rfl ?_
  refine zx_ifnonnull (tgt := 9) dX0_count_4 (by decide) (fun h => absurd rfl h) (fun _ => ?_)
  refine zx_iconst (v := -1) dX0_count_7 rfl (z32_lit (by decide) (by decide)) ?_
  refine zx_iret dX0_count_8 rfl ?_
  exact ⟨_, rfl, k⟩
theorem ct_1 (hB : bbW w b1 b2 ((br, pg, t), (nd, va, ce, li), (ro, bi, le, wk)) (((cN, NN), (cV, VV), (cC, CC), (cL, LL)), ((cR, RR), (cB, BB), (cE, EE), (cW, WW)), (gc, fr, tk, rs, rd))) (hR : rpW w rp ri ra rn (some md) IN AN NT sc cc dc en bk bc) (hmd : w.1 md = some (5, 0, [zR y, zI m1, zI m2, zI m3, zI m4, zI m5, zI m6, zI m7, zI m8])) (hbg : zM G zm_X0_begin (d + 6) [zR br, zR y, zR rp] w (zVoid P1)) (k : ∀ w1, P1 w1 → zX G zm_X0_count (d + 7) [zR br, zR rp] w (zVal PQ) 25 [some (zR br), some (zR rp), some (zI 0), some (zI 0), none] [] w1) : zM G zm_X0_count (d + 7) [zR br, zR rp] w (zVal PQ) := by
  refine zx_ent (by decide +kernel) rfl (Nat.le_of_ble_eq_true rfl) ?_
  refine zx_L (L1 := [some (zR br), some (zR rp), none, none, none]) rfl ?_
  obtain ⟨hbr, ⟨⟨hnd, okN⟩, ⟨hva, okV⟩, ⟨hce, okC⟩, ⟨hli, okL⟩⟩, ⟨⟨hro, okR⟩, ⟨hbi, okB⟩, ⟨hle, okE⟩, ⟨hwk, okW⟩⟩, ⟨⟨c1N, c1V, c1C, c1L⟩, ⟨c1R, c1B, c1E, c1W⟩⟩, ⟨⟨c2N, c2V, c2C, c2L⟩, ⟨c2R, c2B, c2E, c2W⟩⟩, hrm1, hrm2⟩ := id hB
  refine zx_aload_n (i := 1) dX0_count_0 rfl rfl ?_
  refine zx_getfield dX0_count_1 zf_X0_49 hR.1 rfl ?_
  refine zx_ifnonnull (tgt := 9) dX0_count_4 (by decide) (fun _ => ?_) (fun h => by cases h)
  refine zx_aload_n (i := 0) dX0_count_9 rfl rfl ?_
  refine zx_aload_n (i := 1) dX0_count_10 rfl rfl ?_
  refine zx_getfield dX0_count_11 zf_X0_49 hR.1 rfl ?_
  refine zx_getfield dX0_count_14 zf_X0_55 hmd rfl ?_
  refine zx_aload_n (i := 1) dX0_count_17 rfl rfl ?_
  refine zx_ivN (b := br) (As := [zR y, zR rp]) (st := []) dX0_count_18 zc_X0_61 hbr rfl rfl rfl (Nat.le_of_ble_eq_true rfl) rfl hbg (fun w1 hq1 => ?_)
  refine zx_iconst (v := 0) dX0_count_21 rfl (z32_lit (by decide) (by decide)) ?_
  refine zx_istore_n (i := 2) dX0_count_22 rfl (by decide) rfl ?_
  refine zx_L (L1 := [some (zR br), some (zR rp), some (zI 0), none, none]) rfl ?_
  refine zx_pc (pc1 := 23) rfl ?_
  refine zx_iconst (v := 0) dX0_count_23 rfl (z32_lit (by decide) (by decide)) ?_
  refine zx_istore_n (i := 3) dX0_count_24 rfl (by decide) rfl ?_
  refine zx_L (L1 := [some (zR br), some (zR rp), some (zI 0), some (zI 0), none]) rfl ?_
  exact k w1 hq1
theorem ct_a (hB : bbW w b1 b2 ((br, pg, t), (nd, va, ce, li), (ro, bi, le, wk)) (((cN, NN), (cV, VV), (cC, CC), (cL, LL)), ((cR, RR), (cB, BB), (cE, EE), (cW, WW)), (gc, fr, tk, rs, rd))) (hq : q < 900000) (hf : (RR.length : Int) ≤ fr) (hE : EE.length = 0) (k : PQ (zI (na : Int)) w)  : zX G zm_X0_count (d + 7) [zR br, zR rp] w0 (zVal PQ) 25 [some (zR br), some (zR rp), some (zI (na : Int)), some (zI (q : Int)), o4] [] w := by
  obtain ⟨hbr, ⟨⟨hnd, okN⟩, ⟨hva, okV⟩, ⟨hce, okC⟩, ⟨hli, okL⟩⟩, ⟨⟨hro, okR⟩, ⟨hbi, okB⟩, ⟨hle, okE⟩, ⟨hwk, okW⟩⟩, ⟨⟨c1N, c1V, c1C, c1L⟩, ⟨c1R, c1B, c1E, c1W⟩⟩, ⟨⟨c2N, c2V, c2C, c2L⟩, ⟨c2R, c2B, c2E, c2W⟩⟩, hrm1, hrm2⟩ := id hB
  refine zx_iload_n (i := 3) dX0_count_25 rfl rfl ?_
  refine zx_ldc (v := 1000000) dX0_count_26 zk_X0_65 (by decide +kernel) (z32_lit (by decide) (by decide)) ?_
  refine zx_icmp_ge (tgt := 133) dX0_count_28 (by decide) (fun h28 => absurd h28 (by omega)) (fun h28 => ?_)
  refine zx_aload_n (i := 0) dX0_count_31 rfl rfl ?_
  refine zx_getfield dX0_count_32 zf_X0_66 hbr rfl ?_
  refine zx_aload_n (i := 0) dX0_count_35 rfl rfl ?_
  refine zx_getfield dX0_count_36 zf_X0_37 hbr rfl ?_
  refine zx_iv (b := ro) (As := []) (st := [zI fr]) (v := (some (zI (RR.length : Int)))) (w1 := w) dX0_count_39 zc_X0_70 hro (z_cls9 (by decide)) rfl rfl (Nat.le_of_ble_eq_true rfl) rfl (c_X9_count hro (by decide) okR) ?_
  refine zx_st (st1 := [zI (RR.length : Int), zI fr]) rfl ?_
  refine zx_icmp_lt (tgt := 65) dX0_count_42 (by decide) (fun h42 => absurd h42 (by omega)) (fun h42 => ?_)
  refine zx_aload_n (i := 0) dX0_count_45 rfl rfl ?_
  refine zx_getfield dX0_count_46 zf_X0_43 hbr rfl ?_
  refine zx_pc (pc1 := 49) rfl ?_
  refine zx_iv (b := le) (As := []) (st := []) (v := (some (zI (EE.length : Int)))) (w1 := w) dX0_count_49 zc_X0_70 hle (z_cls9 (by decide)) rfl rfl (Nat.le_of_ble_eq_true rfl) rfl (c_X9_count hle (by decide) okE) ?_
  refine zx_st (st1 := [zI (EE.length : Int)]) rfl ?_
  refine zx_if_ne (tgt := 57) dX0_count_52 (by decide) (fun h52 => absurd h52 (by omega)) (fun h52 => ?_)
  refine zx_iload_n (i := 2) dX0_count_55 rfl rfl ?_
  refine zx_iret dX0_count_56 rfl ?_
  exact ⟨_, rfl, k⟩
theorem ct_b (hB : bbW w b1 b2 ((br, pg, t), (nd, va, ce, li), (ro, bi, le, wk)) (((cN, NN), (cV, VV), (cC, CC), (cL, LL)), ((cR, RR), (cB, BB), (cE, EE), (cW, WW)), (gc, fr, tk, rs, rd))) (hq : q < 900000) (hf : (RR.length : Int) ≤ fr) (hE : 0 < EE.length) (he : zM G zm_X0_endDenied (d + 6) [zR br, zI 1] w (zVoid P1)) (k : ∀ w1, P1 w1 → zX G zm_X0_count (d + 7) [zR br, zR rp] w0 (zVal PQ) 25 [some (zR br), some (zR rp), some (zI (na : Int)), some (zI ((q + 1 : Nat) : Int)), o4] [] w1) : zX G zm_X0_count (d + 7) [zR br, zR rp] w0 (zVal PQ) 25 [some (zR br), some (zR rp), some (zI (na : Int)), some (zI (q : Int)), o4] [] w := by
  obtain ⟨hbr, ⟨⟨hnd, okN⟩, ⟨hva, okV⟩, ⟨hce, okC⟩, ⟨hli, okL⟩⟩, ⟨⟨hro, okR⟩, ⟨hbi, okB⟩, ⟨hle, okE⟩, ⟨hwk, okW⟩⟩, ⟨⟨c1N, c1V, c1C, c1L⟩, ⟨c1R, c1B, c1E, c1W⟩⟩, ⟨⟨c2N, c2V, c2C, c2L⟩, ⟨c2R, c2B, c2E, c2W⟩⟩, hrm1, hrm2⟩ := id hB
  refine zx_iload_n (i := 3) dX0_count_25 rfl rfl ?_
  refine zx_ldc (v := 1000000) dX0_count_26 zk_X0_65 (by decide +kernel) (z32_lit (by decide) (by decide)) ?_
  refine zx_icmp_ge (tgt := 133) dX0_count_28 (by decide) (fun h28 => absurd h28 (by omega)) (fun h28 => ?_)
  refine zx_aload_n (i := 0) dX0_count_31 rfl rfl ?_
  refine zx_getfield dX0_count_32 zf_X0_66 hbr rfl ?_
  refine zx_aload_n (i := 0) dX0_count_35 rfl rfl ?_
  refine zx_getfield dX0_count_36 zf_X0_37 hbr rfl ?_
  refine zx_iv (b := ro) (As := []) (st := [zI fr]) (v := (some (zI (RR.length : Int)))) (w1 := w) dX0_count_39 zc_X0_70 hro (z_cls9 (by decide)) rfl rfl (Nat.le_of_ble_eq_true rfl) rfl (c_X9_count hro (by decide) okR) ?_
  refine zx_st (st1 := [zI (RR.length : Int), zI fr]) rfl ?_
  refine zx_icmp_lt (tgt := 65) dX0_count_42 (by decide) (fun h42 => absurd h42 (by omega)) (fun h42 => ?_)
  refine zx_aload_n (i := 0) dX0_count_45 rfl rfl ?_
  refine zx_getfield dX0_count_46 zf_X0_43 hbr rfl ?_
  refine zx_pc (pc1 := 49) rfl ?_
  refine zx_iv (b := le) (As := []) (st := []) (v := (some (zI (EE.length : Int)))) (w1 := w) dX0_count_49 zc_X0_70 hle (z_cls9 (by decide)) rfl rfl (Nat.le_of_ble_eq_true rfl) rfl (c_X9_count hle (by decide) okE) ?_
  refine zx_st (st1 := [zI (EE.length : Int)]) rfl ?_
  refine zx_if_ne (tgt := 57) dX0_count_52 (by decide) (fun h52 => ?_) (fun h52 => absurd (by omega) h52)
  refine zx_aload_n (i := 0) dX0_count_57 rfl rfl ?_
  refine zx_iconst (v := 1) dX0_count_58 rfl (z32_lit (by decide) (by decide)) ?_
  refine zx_ivN (b := br) (As := [zI 1]) (st := []) dX0_count_59 zc_X0_74 hbr rfl rfl rfl (Nat.le_of_ble_eq_true rfl) rfl he (fun w1 hq1 => ?_)
  refine zx_goto (tgt := 127) dX0_count_62 (by decide) ?_
  refine zx_iinc (i := 3) (v := ((q + 1 : Nat) : Int)) dX0_count_127 rfl (zw_eq (by omega) (by omega) (by omega)) (by decide) rfl ?_
  refine zx_L (L1 := [some (zR br), some (zR rp), some (zI (na : Int)), some (zI ((q + 1 : Nat) : Int)), o4]) rfl ?_
  refine zx_goto (tgt := 25) dX0_count_130 (by decide) ?_
  exact k w1 hq1
theorem ct_c (hB : bbW w b1 b2 ((br, pg, t), (nd, va, ce, li), (ro, bi, le, wk)) (((cN, NN), (cV, VV), (cC, CC), (cL, LL)), ((cR, RR), (cB, BB), (cE, EE), (cW, WW)), (gc, fr, tk, rs, rd))) (hq : q < 900000) (hf : fr < (RR.length : Int)) (ht : 150 ≤ tk) (k : PQ (zI (-1)) w)  : zX G zm_X0_count (d + 7) [zR br, zR rp] w0 (zVal PQ) 25 [some (zR br), some (zR rp), some (zI (na : Int)), some (zI (q : Int)), o4] [] w := by
  obtain ⟨hbr, ⟨⟨hnd, okN⟩, ⟨hva, okV⟩, ⟨hce, okC⟩, ⟨hli, okL⟩⟩, ⟨⟨hro, okR⟩, ⟨hbi, okB⟩, ⟨hle, okE⟩, ⟨hwk, okW⟩⟩, ⟨⟨c1N, c1V, c1C, c1L⟩, ⟨c1R, c1B, c1E, c1W⟩⟩, ⟨⟨c2N, c2V, c2C, c2L⟩, ⟨c2R, c2B, c2E, c2W⟩⟩, hrm1, hrm2⟩ := id hB
  refine zx_iload_n (i := 3) dX0_count_25 rfl rfl ?_
  refine zx_ldc (v := 1000000) dX0_count_26 zk_X0_65 (by decide +kernel) (z32_lit (by decide) (by decide)) ?_
  refine zx_icmp_ge (tgt := 133) dX0_count_28 (by decide) (fun h28 => absurd h28 (by omega)) (fun h28 => ?_)
  refine zx_aload_n (i := 0) dX0_count_31 rfl rfl ?_
  refine zx_getfield dX0_count_32 zf_X0_66 hbr rfl ?_
  refine zx_aload_n (i := 0) dX0_count_35 rfl rfl ?_
  refine zx_getfield dX0_count_36 zf_X0_37 hbr rfl ?_
  refine zx_iv (b := ro) (As := []) (st := [zI fr]) (v := (some (zI (RR.length : Int)))) (w1 := w) dX0_count_39 zc_X0_70 hro (z_cls9 (by decide)) rfl rfl (Nat.le_of_ble_eq_true rfl) rfl (c_X9_count hro (by decide) okR) ?_
  refine zx_st (st1 := [zI (RR.length : Int), zI fr]) rfl ?_
  refine zx_icmp_lt (tgt := 65) dX0_count_42 (by decide) (fun h42 => ?_) (fun h42 => absurd (by omega) h42)
  refine zx_aload_n (i := 0) dX0_count_65 rfl rfl ?_
  refine zx_getfield dX0_count_66 zf_X0_78 hbr rfl ?_
  refine zx_pc (pc1 := 69) rfl ?_
  refine zx_sipush (v := 150) dX0_count_69 (by decide +kernel) (z32_lit (by decide) (by decide)) ?_
  refine zx_icmp_lt (tgt := 77) dX0_count_72 (by decide) (fun h72 => absurd h72 (by omega)) (fun h72 => ?_)
  refine zx_iconst (v := -1) dX0_count_75 rfl (z32_lit (by decide) (by decide)) ?_
  refine zx_iret dX0_count_76 rfl ?_
  exact ⟨_, rfl, k⟩
theorem ct_d (hB : bbW w b1 b2 ((br, pg, t), (nd, va, ce, li), (ro, bi, le, wk)) (((cN, NN), (cV, VV), (cC, CC), (cL, LL)), ((cR, RR), (cB, BB), (cE, EE), (cW, WW)), (gc, fr, tk, rs, rd))) (hq : q < 900000) (hf : fr < (RR.length : Int)) (ht : tk < 150) (hto : zM G zm_X0_takeOff (d + 6) [zR br] w (zVal fun o w' => o = zI (l : Int) ∧ P1 w')) (k : ∀ w1, P1 w1 → zX G zm_X0_count (d + 7) [zR br, zR rp] w0 (zVal PQ) 83 [some (zR br), some (zR rp), some (zI (na : Int)), some (zI (q : Int)), some (zI (l : Int))] [] w1) : zX G zm_X0_count (d + 7) [zR br, zR rp] w0 (zVal PQ) 25 [some (zR br), some (zR rp), some (zI (na : Int)), some (zI (q : Int)), o4] [] w := by
  obtain ⟨hbr, ⟨⟨hnd, okN⟩, ⟨hva, okV⟩, ⟨hce, okC⟩, ⟨hli, okL⟩⟩, ⟨⟨hro, okR⟩, ⟨hbi, okB⟩, ⟨hle, okE⟩, ⟨hwk, okW⟩⟩, ⟨⟨c1N, c1V, c1C, c1L⟩, ⟨c1R, c1B, c1E, c1W⟩⟩, ⟨⟨c2N, c2V, c2C, c2L⟩, ⟨c2R, c2B, c2E, c2W⟩⟩, hrm1, hrm2⟩ := id hB
  refine zx_iload_n (i := 3) dX0_count_25 rfl rfl ?_
  refine zx_ldc (v := 1000000) dX0_count_26 zk_X0_65 (by decide +kernel) (z32_lit (by decide) (by decide)) ?_
  refine zx_icmp_ge (tgt := 133) dX0_count_28 (by decide) (fun h28 => absurd h28 (by omega)) (fun h28 => ?_)
  refine zx_aload_n (i := 0) dX0_count_31 rfl rfl ?_
  refine zx_getfield dX0_count_32 zf_X0_66 hbr rfl ?_
  refine zx_aload_n (i := 0) dX0_count_35 rfl rfl ?_
  refine zx_getfield dX0_count_36 zf_X0_37 hbr rfl ?_
  refine zx_iv (b := ro) (As := []) (st := [zI fr]) (v := (some (zI (RR.length : Int)))) (w1 := w) dX0_count_39 zc_X0_70 hro (z_cls9 (by decide)) rfl rfl (Nat.le_of_ble_eq_true rfl) rfl (c_X9_count hro (by decide) okR) ?_
  refine zx_st (st1 := [zI (RR.length : Int), zI fr]) rfl ?_
  refine zx_icmp_lt (tgt := 65) dX0_count_42 (by decide) (fun h42 => ?_) (fun h42 => absurd (by omega) h42)
  refine zx_aload_n (i := 0) dX0_count_65 rfl rfl ?_
  refine zx_getfield dX0_count_66 zf_X0_78 hbr rfl ?_
  refine zx_pc (pc1 := 69) rfl ?_
  refine zx_sipush (v := 150) dX0_count_69 (by decide +kernel) (z32_lit (by decide) (by decide)) ?_
  refine zx_icmp_lt (tgt := 77) dX0_count_72 (by decide) (fun h72 => ?_) (fun h72 => absurd (by omega) h72)
  refine zx_aload_n (i := 0) dX0_count_77 rfl rfl ?_
  refine zx_ivV (b := br) (As := []) (st := []) dX0_count_78 zc_X0_81 hbr rfl rfl rfl (Nat.le_of_ble_eq_true rfl) rfl hto (fun v1 w1 hq1 => ?_)
  obtain ⟨ev1, hq1⟩ := hq1
  subst ev1
  refine zx_istore (i := 4) dX0_count_81 (by decide) rfl ?_
  refine zx_L (L1 := [some (zR br), some (zR rp), some (zI (na : Int)), some (zI (q : Int)), some (zI (l : Int))]) rfl ?_
  exact k w1 hq1
variable {c0 : Int}
theorem ct_e (hB : bbW w b1 b2 ((br, pg, t), (nd, va, ce, li), (ro, bi, le, wk)) (((cN, NN), (cV, VV), (cC, CC), (cL, LL)), ((cR, RR), (cB, BB), (cE, EE), (cW, WW)), (gc, fr, tk, rs, rd))) (hq : q < 900000) (hcell : tg LL (l : Int) 3 = c0) (hc0 : c0 ≠ -1) (hre : zM G zm_X0_resolve (d + 6) [zR br, zI (l : Int)] w (zVoid P1)) (k : ∀ w1, P1 w1 → zX G zm_X0_count (d + 7) [zR br, zR rp] w0 (zVal PQ) 25 [some (zR br), some (zR rp), some (zI (na : Int)), some (zI ((q + 1 : Nat) : Int)), some (zI (l : Int))] [] w1) : zX G zm_X0_count (d + 7) [zR br, zR rp] w0 (zVal PQ) 83 [some (zR br), some (zR rp), some (zI (na : Int)), some (zI (q : Int)), some (zI (l : Int))] [] w := by
  obtain ⟨hbr, ⟨⟨hnd, okN⟩, ⟨hva, okV⟩, ⟨hce, okC⟩, ⟨hli, okL⟩⟩, ⟨⟨hro, okR⟩, ⟨hbi, okB⟩, ⟨hle, okE⟩, ⟨hwk, okW⟩⟩, ⟨⟨c1N, c1V, c1C, c1L⟩, ⟨c1R, c1B, c1E, c1W⟩⟩, ⟨⟨c2N, c2V, c2C, c2L⟩, ⟨c2R, c2B, c2E, c2W⟩⟩, hrm1, hrm2⟩ := id hB
  refine zx_aload_n (i := 0) dX0_count_83 rfl rfl ?_
  refine zx_getfield dX0_count_84 zf_X0_34 hbr rfl ?_
  refine zx_iload (i := 4) dX0_count_87 rfl ?_
  refine zx_iconst (v := 3) dX0_count_89 rfl (z32_lit (by decide) (by decide)) ?_
  refine zx_iv (b := li) (As := [zI (l : Int), zI 3]) (st := []) (v := (some (zI c0))) (w1 := w) dX0_count_90 zc_X0_84 hli (z_cls9 (by decide)) rfl rfl (Nat.le_of_ble_eq_true rfl) rfl (by have q := (c_X9_get (G := G) (d := d + 6) hli (by decide) okL (l : Int) 3); rw [hcell] at q; exact q) ?_
  refine zx_st (st1 := [zI c0]) rfl ?_
  refine zx_iconst (v := -1) dX0_count_93 rfl (z32_lit (by decide) (by decide)) ?_
  refine zx_icmp_eq (tgt := 106) dX0_count_94 (by decide) (fun h94 => absurd h94 (hc0)) (fun h94 => ?_)
  refine zx_aload_n (i := 0) dX0_count_97 rfl rfl ?_
  refine zx_iload (i := 4) dX0_count_98 rfl ?_
  refine zx_ivN (b := br) (As := [zI (l : Int)]) (st := []) dX0_count_100 zc_X0_88 hbr rfl rfl rfl (Nat.le_of_ble_eq_true rfl) rfl hre (fun w1 hq1 => ?_)
  refine zx_goto (tgt := 127) dX0_count_103 (by decide) ?_
  refine zx_pc (pc1 := 127) rfl ?_
  refine zx_iinc (i := 3) (v := ((q + 1 : Nat) : Int)) dX0_count_127 rfl (zw_eq (by omega) (by omega) (by omega)) (by decide) rfl ?_
  refine zx_L (L1 := [some (zR br), some (zR rp), some (zI (na : Int)), some (zI ((q + 1 : Nat) : Int)), some (zI (l : Int))]) rfl ?_
  refine zx_goto (tgt := 25) dX0_count_130 (by decide) ?_
  exact k w1 hq1
theorem ct_f (hB : bbW w b1 b2 ((br, pg, t), (nd, va, ce, li), (ro, bi, le, wk)) (((cN, NN), (cV, VV), (cC, CC), (cL, LL)), ((cR, RR), (cB, BB), (cE, EE), (cW, WW)), (gc, fr, tk, rs, rd))) (hq : q < 900000) (hna : na < 900000) (hcell : tg LL (l : Int) 3 = -1) (hE : EE.length = 0) (k : zX G zm_X0_count (d + 7) [zR br, zR rp] w0 (zVal PQ) 25 [some (zR br), some (zR rp), some (zI ((na + 1 : Nat) : Int)), some (zI ((q + 1 : Nat) : Int)), some (zI (l : Int))] [] w) : zX G zm_X0_count (d + 7) [zR br, zR rp] w0 (zVal PQ) 83 [some (zR br), some (zR rp), some (zI (na : Int)), some (zI (q : Int)), some (zI (l : Int))] [] w := by
  obtain ⟨hbr, ⟨⟨hnd, okN⟩, ⟨hva, okV⟩, ⟨hce, okC⟩, ⟨hli, okL⟩⟩, ⟨⟨hro, okR⟩, ⟨hbi, okB⟩, ⟨hle, okE⟩, ⟨hwk, okW⟩⟩, ⟨⟨c1N, c1V, c1C, c1L⟩, ⟨c1R, c1B, c1E, c1W⟩⟩, ⟨⟨c2N, c2V, c2C, c2L⟩, ⟨c2R, c2B, c2E, c2W⟩⟩, hrm1, hrm2⟩ := id hB
  refine zx_aload_n (i := 0) dX0_count_83 rfl rfl ?_
  refine zx_getfield dX0_count_84 zf_X0_34 hbr rfl ?_
  refine zx_iload (i := 4) dX0_count_87 rfl ?_
  refine zx_iconst (v := 3) dX0_count_89 rfl (z32_lit (by decide) (by decide)) ?_
  refine zx_iv (b := li) (As := [zI (l : Int), zI 3]) (st := []) (v := (some (zI (-1)))) (w1 := w) dX0_count_90 zc_X0_84 hli (z_cls9 (by decide)) rfl rfl (Nat.le_of_ble_eq_true rfl) rfl (by have q := (c_X9_get (G := G) (d := d + 6) hli (by decide) okL (l : Int) 3); rw [hcell] at q; exact q) ?_
  refine zx_st (st1 := [zI (-1)]) rfl ?_
  refine zx_iconst (v := -1) dX0_count_93 rfl (z32_lit (by decide) (by decide)) ?_
  refine zx_icmp_eq (tgt := 106) dX0_count_94 (by decide) (fun h94 => ?_) (fun h94 => absurd (by decide) h94)
  refine zx_aload_n (i := 0) dX0_count_106 rfl rfl ?_
  refine zx_getfield dX0_count_107 zf_X0_43 hbr rfl ?_
  refine zx_iv (b := le) (As := []) (st := []) (v := (some (zI (EE.length : Int)))) (w1 := w) dX0_count_110 zc_X0_70 hle (z_cls9 (by decide)) rfl rfl (Nat.le_of_ble_eq_true rfl) rfl (c_X9_count hle (by decide) okE) ?_
  refine zx_st (st1 := [zI (EE.length : Int)]) rfl ?_
  refine zx_if_ne (tgt := 122) dX0_count_113 (by decide) (fun h113 => absurd h113 (by omega)) (fun h113 => ?_)
  refine zx_pc (pc1 := 116) rfl ?_
  refine zx_iinc (i := 2) (v := ((na + 1 : Nat) : Int)) dX0_count_116 rfl (zw_eq (by omega) (by omega) (by omega)) (by decide) rfl ?_
  refine zx_L (L1 := [some (zR br), some (zR rp), some (zI ((na + 1 : Nat) : Int)), some (zI (q : Int)), some (zI (l : Int))]) rfl ?_
  refine zx_goto (tgt := 127) dX0_count_119 (by decide) ?_
  refine zx_iinc (i := 3) (v := ((q + 1 : Nat) : Int)) dX0_count_127 rfl (zw_eq (by omega) (by omega) (by omega)) (by decide) rfl ?_
  refine zx_L (L1 := [some (zR br), some (zR rp), some (zI ((na + 1 : Nat) : Int)), some (zI ((q + 1 : Nat) : Int)), some (zI (l : Int))]) rfl ?_
  refine zx_goto (tgt := 25) dX0_count_130 (by decide) ?_
  exact k
theorem ct_g (hB : bbW w b1 b2 ((br, pg, t), (nd, va, ce, li), (ro, bi, le, wk)) (((cN, NN), (cV, VV), (cC, CC), (cL, LL)), ((cR, RR), (cB, BB), (cE, EE), (cW, WW)), (gc, fr, tk, rs, rd))) (hq : q < 900000) (hcell : tg LL (l : Int) 3 = -1) (hE : 0 < EE.length) (he : zM G zm_X0_endDenied (d + 6) [zR br, zI 0] w (zVoid P1)) (k : ∀ w1, P1 w1 → zX G zm_X0_count (d + 7) [zR br, zR rp] w0 (zVal PQ) 25 [some (zR br), some (zR rp), some (zI (na : Int)), some (zI ((q + 1 : Nat) : Int)), some (zI (l : Int))] [] w1) : zX G zm_X0_count (d + 7) [zR br, zR rp] w0 (zVal PQ) 83 [some (zR br), some (zR rp), some (zI (na : Int)), some (zI (q : Int)), some (zI (l : Int))] [] w := by
  obtain ⟨hbr, ⟨⟨hnd, okN⟩, ⟨hva, okV⟩, ⟨hce, okC⟩, ⟨hli, okL⟩⟩, ⟨⟨hro, okR⟩, ⟨hbi, okB⟩, ⟨hle, okE⟩, ⟨hwk, okW⟩⟩, ⟨⟨c1N, c1V, c1C, c1L⟩, ⟨c1R, c1B, c1E, c1W⟩⟩, ⟨⟨c2N, c2V, c2C, c2L⟩, ⟨c2R, c2B, c2E, c2W⟩⟩, hrm1, hrm2⟩ := id hB
  refine zx_aload_n (i := 0) dX0_count_83 rfl rfl ?_
  refine zx_getfield dX0_count_84 zf_X0_34 hbr rfl ?_
  refine zx_iload (i := 4) dX0_count_87 rfl ?_
  refine zx_iconst (v := 3) dX0_count_89 rfl (z32_lit (by decide) (by decide)) ?_
  refine zx_iv (b := li) (As := [zI (l : Int), zI 3]) (st := []) (v := (some (zI (-1)))) (w1 := w) dX0_count_90 zc_X0_84 hli (z_cls9 (by decide)) rfl rfl (Nat.le_of_ble_eq_true rfl) rfl (by have q := (c_X9_get (G := G) (d := d + 6) hli (by decide) okL (l : Int) 3); rw [hcell] at q; exact q) ?_
  refine zx_st (st1 := [zI (-1)]) rfl ?_
  refine zx_iconst (v := -1) dX0_count_93 rfl (z32_lit (by decide) (by decide)) ?_
  refine zx_icmp_eq (tgt := 106) dX0_count_94 (by decide) (fun h94 => ?_) (fun h94 => absurd (by decide) h94)
  refine zx_aload_n (i := 0) dX0_count_106 rfl rfl ?_
  refine zx_getfield dX0_count_107 zf_X0_43 hbr rfl ?_
  refine zx_iv (b := le) (As := []) (st := []) (v := (some (zI (EE.length : Int)))) (w1 := w) dX0_count_110 zc_X0_70 hle (z_cls9 (by decide)) rfl rfl (Nat.le_of_ble_eq_true rfl) rfl (c_X9_count hle (by decide) okE) ?_
  refine zx_st (st1 := [zI (EE.length : Int)]) rfl ?_
  refine zx_if_ne (tgt := 122) dX0_count_113 (by decide) (fun h113 => ?_) (fun h113 => absurd (by omega) h113)
  refine zx_pc (pc1 := 122) rfl ?_
  refine zx_aload_n (i := 0) dX0_count_122 rfl rfl ?_
  refine zx_iconst (v := 0) dX0_count_123 rfl (z32_lit (by decide) (by decide)) ?_
  refine zx_ivN (b := br) (As := [zI 0]) (st := []) dX0_count_124 zc_X0_74 hbr rfl rfl rfl (Nat.le_of_ble_eq_true rfl) rfl he (fun w1 hq1 => ?_)
  refine zx_iinc (i := 3) (v := ((q + 1 : Nat) : Int)) dX0_count_127 rfl (zw_eq (by omega) (by omega) (by omega)) (by decide) rfl ?_
  refine zx_L (L1 := [some (zR br), some (zR rp), some (zI (na : Int)), some (zI ((q + 1 : Nat) : Int)), some (zI (l : Int))]) rfl ?_
  refine zx_goto (tgt := 25) dX0_count_130 (by decide) ?_
  exact k w1 hq1
end BCT
