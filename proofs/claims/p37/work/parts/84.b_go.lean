/-! Own rows: breadth's goal of a cell. Walked by program (wip/p37/m_bgo.py). -/
theorem zdiv5 : ∀ n : Fin 60, zdiv ((n.val : Nat) : Int) 5 = ((n.val / 5 : Nat) : Int) := by decide +kernel
theorem zrem5 : ∀ n : Fin 60, zrem ((n.val : Nat) : Int) 5 = ((n.val % 5 : Nat) : Int) := by decide +kernel
section BGO
variable {G : zG} {d : Nat} {w : zW} {b1 b2 : Nat} {R : pgR} {br pg t nd va ce li ro bi le wk : Nat} {cN cV cC cL cR cB cE cW : Nat} {NN VV CC LL RR BB EE WW : List (List Int)} {gc fr tk rs rd : Int}
theorem c_X0_goalOf_n (hB : bbW w b1 b2 ((br, pg, t), (nd, va, ce, li), (ro, bi, le, wk)) (((cN, NN), (cV, VV), (cC, CC), (cL, LL)), ((cR, RR), (cB, BB), (cE, EE), (cW, WW)), (gc, fr, tk, rs, rd))) (hP : pgW w pg R) {c0 : Int} (hn : tg CC c0 0 = -1) : zM G zm_X0_goalOf (d + 4) [zR br, zI c0] w (zRet (some zN) w) := by
  refine zx_ent (by decide +kernel) rfl (Nat.le_of_ble_eq_true rfl) ?_
  refine zx_L (L1 := [some (zR br), some (zI c0), none, none]) rfl ?_
  obtain ⟨hbr, ⟨⟨hnd, okN⟩, ⟨hva, okV⟩, ⟨hce, okC⟩, ⟨hli, okL⟩⟩, ⟨⟨hro, okR⟩, ⟨hbi, okB⟩, ⟨hle, okE⟩, ⟨hwk, okW⟩⟩, ⟨⟨c1N, c1V, c1C, c1L⟩, ⟨c1R, c1B, c1E, c1W⟩⟩, ⟨⟨c2N, c2V, c2C, c2L⟩, ⟨c2R, c2B, c2E, c2W⟩⟩, hrm1, hrm2⟩ := id hB
  obtain ⟨hpg, hps, hms, hcs, hPr, hMo, hCl⟩ := id hP
  have helP : ∀ y ∈ R.2.2.1.1, ∃ a b, w.1 y = some ((6, a, b) : zO) := fun y hy => ⟨_, _, (hPr y hy).1.1⟩
  have helC : ∀ y ∈ R.2.2.1.2.2, ∃ a b, w.1 y = some ((1, a, b) : zO) := fun y hy => ⟨_, _, (hCl y hy).1.1⟩
  refine zx_aload_n (i := 0) dX0_goalOf_0 rfl rfl ?_
  refine zx_getfield dX0_goalOf_1 zf_X0_31 hbr rfl ?_
  refine zx_iload_n (i := 1) dX0_goalOf_4 rfl rfl ?_
  refine zx_iconst (v := 0) dX0_goalOf_5 rfl (z32_lit (by decide) (by decide)) ?_
  refine zx_iv (b := ce) (As := [zI c0, zI 0]) (st := []) (v := (some (zI (-1)))) (w1 := w) dX0_goalOf_6 zc_X0_84 hce (z_cls9 (by decide)) rfl rfl (Nat.le_of_ble_eq_true rfl) rfl (by have q := (c_X9_get (G := G) (d := d + 3) hce (by decide) okC c0 0); rw [hn] at q; exact q) ?_
  refine zx_st (st1 := [zI (-1)]) rfl ?_
  refine zx_istore_n (i := 2) dX0_goalOf_9 rfl (by decide) rfl ?_
  refine zx_L (L1 := [some (zR br), some (zI c0), some (zI (-1)), none]) rfl ?_
  refine zx_iload_n (i := 2) dX0_goalOf_10 rfl rfl ?_
  refine zx_bipush (v := 60) dX0_goalOf_11 (by decide +kernel) (z32_lit (by decide) (by decide)) ?_
  refine zx_icmp_lt (tgt := 41) dX0_goalOf_13 (by decide) (fun h13 => ?_) (fun h13 => absurd (by decide) h13)
  refine zx_iload_n (i := 2) dX0_goalOf_41 rfl rfl ?_
  refine zx_if_ge (tgt := 49) dX0_goalOf_42 (by decide) (fun h42 => absurd h42 (by decide)) (fun h42 => ?_)
  refine zx_pc (pc1 := 45) rfl ?_
  refine zx_null dX0_goalOf_45 ?_
  refine zx_goto (tgt := 59) dX0_goalOf_46 (by decide) ?_
  refine zx_astore_n (i := 3) dX0_goalOf_59 rfl (by decide) rfl ?_
  refine zx_L (L1 := [some (zR br), some (zI c0), some (zI (-1)), some (zN)]) rfl ?_
  refine zx_aload_n (i := 3) dX0_goalOf_60 rfl rfl ?_
  refine zx_ifnonnull (tgt := 68) dX0_goalOf_61 (by decide) (fun h => absurd rfl h) (fun _ => ?_)
  refine zx_null dX0_goalOf_64 ?_
  refine zx_goto (tgt := 75) dX0_goalOf_65 (by decide) ?_
  refine zx_areturn dX0_goalOf_75 rfl (Or.inl ⟨_, rfl⟩) ?_
  exact zr_v rfl rfl
theorem c_X0_goalOf_q (hB : bbW w b1 b2 ((br, pg, t), (nd, va, ce, li), (ro, bi, le, wk)) (((cN, NN), (cV, VV), (cC, CC), (cL, LL)), ((cR, RR), (cB, BB), (cE, EE), (cW, WW)), (gc, fr, tk, rs, rd))) (hP : pgW w pg R) {c0 : Int} {n y : Nat} (hn : tg CC c0 0 = (n : Int)) (h60 : 60 ≤ n) (hn2 : n < 1000) (hy : R.2.2.1.1[n - 60]? = some y) : zM G zm_X0_goalOf (d + 4) [zR br, zI c0] w (zRet (some (zR (R.2.2.2.1 y).1.2.2.2.2)) w) := by
  refine zx_ent (by decide +kernel) rfl (Nat.le_of_ble_eq_true rfl) ?_
  refine zx_L (L1 := [some (zR br), some (zI c0), none, none]) rfl ?_
  obtain ⟨hbr, ⟨⟨hnd, okN⟩, ⟨hva, okV⟩, ⟨hce, okC⟩, ⟨hli, okL⟩⟩, ⟨⟨hro, okR⟩, ⟨hbi, okB⟩, ⟨hle, okE⟩, ⟨hwk, okW⟩⟩, ⟨⟨c1N, c1V, c1C, c1L⟩, ⟨c1R, c1B, c1E, c1W⟩⟩, ⟨⟨c2N, c2V, c2C, c2L⟩, ⟨c2R, c2B, c2E, c2W⟩⟩, hrm1, hrm2⟩ := id hB
  obtain ⟨hpg, hps, hms, hcs, hPr, hMo, hCl⟩ := id hP
  have helP : ∀ y ∈ R.2.2.1.1, ∃ a b, w.1 y = some ((6, a, b) : zO) := fun y hy => ⟨_, _, (hPr y hy).1.1⟩
  have helC : ∀ y ∈ R.2.2.1.2.2, ∃ a b, w.1 y = some ((1, a, b) : zO) := fun y hy => ⟨_, _, (hCl y hy).1.1⟩
  have hl : lAt R.2.2.1.1 ((n - 60 : Nat) : Int) = some y := lAt_in (by omega) (by rw [Int.toNat_natCast]; exact hy)
  have hy0 := (hPr y (List.mem_of_getElem? hy)).1.1
  refine zx_aload_n (i := 0) dX0_goalOf_0 rfl rfl ?_
  refine zx_getfield dX0_goalOf_1 zf_X0_31 hbr rfl ?_
  refine zx_iload_n (i := 1) dX0_goalOf_4 rfl rfl ?_
  refine zx_iconst (v := 0) dX0_goalOf_5 rfl (z32_lit (by decide) (by decide)) ?_
  refine zx_iv (b := ce) (As := [zI c0, zI 0]) (st := []) (v := (some (zI (n : Int)))) (w1 := w) dX0_goalOf_6 zc_X0_84 hce (z_cls9 (by decide)) rfl rfl (Nat.le_of_ble_eq_true rfl) rfl (by have q := (c_X9_get (G := G) (d := d + 3) hce (by decide) okC c0 0); rw [hn] at q; exact q) ?_
  refine zx_st (st1 := [zI (n : Int)]) rfl ?_
  refine zx_istore_n (i := 2) dX0_goalOf_9 rfl (by decide) rfl ?_
  refine zx_L (L1 := [some (zR br), some (zI c0), some (zI (n : Int)), none]) rfl ?_
  refine zx_iload_n (i := 2) dX0_goalOf_10 rfl rfl ?_
  refine zx_bipush (v := 60) dX0_goalOf_11 (by decide +kernel) (z32_lit (by decide) (by decide)) ?_
  refine zx_icmp_lt (tgt := 41) dX0_goalOf_13 (by decide) (fun h13 => absurd h13 (by omega)) (fun h13 => ?_)
  refine zx_aload_n (i := 0) dX0_goalOf_16 rfl rfl ?_
  refine zx_getfield dX0_goalOf_17 zf_X0_9 hbr rfl ?_
  refine zx_pc (pc1 := 20) rfl ?_
  refine zx_iload_n (i := 2) dX0_goalOf_20 rfl rfl ?_
  refine zx_bipush (v := 60) dX0_goalOf_21 (by decide +kernel) (z32_lit (by decide) (by decide)) ?_
  refine zx_isub (v := ((n - 60 : Nat) : Int)) dX0_goalOf_23 (zw_eq (by omega) (by omega) (by omega)) ?_
  refine zx_iv (b := pg) (As := [zI ((n - 60 : Nat) : Int)]) (st := []) (v := (some (zR y))) (w1 := w) dX0_goalOf_24 zc_X0_145 hpg rfl rfl rfl (Nat.le_of_ble_eq_true rfl) rfl (by have q := c_X7_predicateAt (G := G) (d := d) hpg hps helP ((n - 60 : Nat) : Int); rw [hl] at q; exact q) ?_
  refine zx_st (st1 := [zR y]) rfl ?_
  refine zx_astore_n (i := 3) dX0_goalOf_27 rfl (by decide) rfl ?_
  refine zx_L (L1 := [some (zR br), some (zI c0), some (zI (n : Int)), some (zR y)]) rfl ?_
  refine zx_aload_n (i := 3) dX0_goalOf_28 rfl rfl ?_
  refine zx_ifnonnull (tgt := 36) dX0_goalOf_29 (by decide) (fun _ => ?_) (fun h => by cases h)
  refine zx_aload_n (i := 3) dX0_goalOf_36 rfl rfl ?_
  refine zx_getfield dX0_goalOf_37 zf_X0_151 hy0 rfl ?_
  refine zx_areturn dX0_goalOf_40 rfl (Or.inl ⟨_, rfl⟩) ?_
  exact zr_v rfl rfl
theorem c_X0_goalOf_c (hB : bbW w b1 b2 ((br, pg, t), (nd, va, ce, li), (ro, bi, le, wk)) (((cN, NN), (cV, VV), (cC, CC), (cL, LL)), ((cR, RR), (cB, BB), (cE, EE), (cW, WW)), (gc, fr, tk, rs, rd))) (hP : pgW w pg R) {c0 : Int} {n a g : Nat} (hn : tg CC c0 0 = (n : Int)) (h60 : n < 60) (ha : R.2.2.1.2.2[n / 5]? = some a) (hg : (R.2.2.2.2.2.1 a).2.2.2.1.2[n % 5]? = some g) : zM G zm_X0_goalOf (d + 4) [zR br, zI c0] w (zRet (some (zR g)) w) := by
  refine zx_ent (by decide +kernel) rfl (Nat.le_of_ble_eq_true rfl) ?_
  refine zx_L (L1 := [some (zR br), some (zI c0), none, none]) rfl ?_
  obtain ⟨hbr, ⟨⟨hnd, okN⟩, ⟨hva, okV⟩, ⟨hce, okC⟩, ⟨hli, okL⟩⟩, ⟨⟨hro, okR⟩, ⟨hbi, okB⟩, ⟨hle, okE⟩, ⟨hwk, okW⟩⟩, ⟨⟨c1N, c1V, c1C, c1L⟩, ⟨c1R, c1B, c1E, c1W⟩⟩, ⟨⟨c2N, c2V, c2C, c2L⟩, ⟨c2R, c2B, c2E, c2W⟩⟩, hrm1, hrm2⟩ := id hB
  obtain ⟨hpg, hps, hms, hcs, hPr, hMo, hCl⟩ := id hP
  have helP : ∀ y ∈ R.2.2.1.1, ∃ a b, w.1 y = some ((6, a, b) : zO) := fun y hy => ⟨_, _, (hPr y hy).1.1⟩
  have helC : ∀ y ∈ R.2.2.1.2.2, ∃ a b, w.1 y = some ((1, a, b) : zO) := fun y hy => ⟨_, _, (hCl y hy).1.1⟩
  have hl : lAt R.2.2.1.2.2 ((n / 5 : Nat) : Int) = some a := lAt_in (by omega) (by rw [Int.toNat_natCast]; exact ha)
  have hl2 : lAt (R.2.2.2.2.2.1 a).2.2.2.1.2 ((n % 5 : Nat) : Int) = some g := lAt_in (by omega) (by rw [Int.toNat_natCast]; exact hg)
  obtain ⟨hcl, hgoa⟩ := hCl a (List.mem_of_getElem? ha)
  obtain ⟨ha0, hty, hgs, -⟩ := hcl
  have helG : ∀ y ∈ (R.2.2.2.2.2.1 a).2.2.2.1.2, ∃ a b, w.1 y = some ((3, a, b) : zO) := fun y hy => ⟨_, _, (hgoa y hy).1⟩
  refine zx_aload_n (i := 0) dX0_goalOf_0 rfl rfl ?_
  refine zx_getfield dX0_goalOf_1 zf_X0_31 hbr rfl ?_
  refine zx_iload_n (i := 1) dX0_goalOf_4 rfl rfl ?_
  refine zx_iconst (v := 0) dX0_goalOf_5 rfl (z32_lit (by decide) (by decide)) ?_
  refine zx_iv (b := ce) (As := [zI c0, zI 0]) (st := []) (v := (some (zI (n : Int)))) (w1 := w) dX0_goalOf_6 zc_X0_84 hce (z_cls9 (by decide)) rfl rfl (Nat.le_of_ble_eq_true rfl) rfl (by have q := (c_X9_get (G := G) (d := d + 3) hce (by decide) okC c0 0); rw [hn] at q; exact q) ?_
  refine zx_st (st1 := [zI (n : Int)]) rfl ?_
  refine zx_istore_n (i := 2) dX0_goalOf_9 rfl (by decide) rfl ?_
  refine zx_L (L1 := [some (zR br), some (zI c0), some (zI (n : Int)), none]) rfl ?_
  refine zx_iload_n (i := 2) dX0_goalOf_10 rfl rfl ?_
  refine zx_bipush (v := 60) dX0_goalOf_11 (by decide +kernel) (z32_lit (by decide) (by decide)) ?_
  refine zx_icmp_lt (tgt := 41) dX0_goalOf_13 (by decide) (fun h13 => ?_) (fun h13 => absurd (by omega) h13)
  refine zx_iload_n (i := 2) dX0_goalOf_41 rfl rfl ?_
  refine zx_if_ge (tgt := 49) dX0_goalOf_42 (by decide) (fun h42 => ?_) (fun h42 => absurd (by omega) h42)
  refine zx_pc (pc1 := 49) rfl ?_
  refine zx_aload_n (i := 0) dX0_goalOf_49 rfl rfl ?_
  refine zx_getfield dX0_goalOf_50 zf_X0_9 hbr rfl ?_
  refine zx_iload_n (i := 2) dX0_goalOf_53 rfl rfl ?_
  refine zx_iconst (v := 5) dX0_goalOf_54 rfl (z32_lit (by decide) (by decide)) ?_
  refine zx_idiv (v := ((n / 5 : Nat) : Int)) dX0_goalOf_55 (by decide) (zdiv5 ⟨n, h60⟩) ?_
  refine zx_iv (b := pg) (As := [zI ((n / 5 : Nat) : Int)]) (st := []) (v := (some (zR a))) (w1 := w) dX0_goalOf_56 zc_X0_155 hpg rfl rfl rfl (Nat.le_of_ble_eq_true rfl) rfl (by have q := c_X7_clauseAt (G := G) (d := d) hpg hcs helC ((n / 5 : Nat) : Int); rw [hl] at q; exact q) ?_
  refine zx_st (st1 := [zR a]) rfl ?_
  refine zx_astore_n (i := 3) dX0_goalOf_59 rfl (by decide) rfl ?_
  refine zx_L (L1 := [some (zR br), some (zI c0), some (zI (n : Int)), some (zR a)]) rfl ?_
  refine zx_aload_n (i := 3) dX0_goalOf_60 rfl rfl ?_
  refine zx_ifnonnull (tgt := 68) dX0_goalOf_61 (by decide) (fun _ => ?_) (fun h => by cases h)
  refine zx_aload_n (i := 3) dX0_goalOf_68 rfl rfl ?_
  refine zx_iload_n (i := 2) dX0_goalOf_69 rfl rfl ?_
  refine zx_iconst (v := 5) dX0_goalOf_70 rfl (z32_lit (by decide) (by decide)) ?_
  refine zx_pc (pc1 := 71) rfl ?_
  refine zx_irem (v := ((n % 5 : Nat) : Int)) dX0_goalOf_71 (by decide) (zrem5 ⟨n, h60⟩) ?_
  refine zx_iv (b := a) (As := [zI ((n % 5 : Nat) : Int)]) (st := []) (v := (some (zR g))) (w1 := w) dX0_goalOf_72 zc_X0_159 ha0 rfl rfl rfl (Nat.le_of_ble_eq_true rfl) rfl (by have q := c_X1_goalNumbered (G := G) (d := d) ha0 hgs helG ((n % 5 : Nat) : Int); rw [hl2] at q; exact q) ?_
  refine zx_st (st1 := [zR g]) rfl ?_
  refine zx_areturn dX0_goalOf_75 rfl (Or.inl ⟨_, rfl⟩) ?_
  exact zr_v rfl rfl
end BGO
