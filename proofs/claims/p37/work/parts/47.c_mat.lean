/-! Own rows: Program.modeAt, faultCount. Walked by program (wip/p37/m_mat.py). -/
def mdAt (R : pgR) (i m : Int) : Option Nat := match lAt R.2.2.1.1 i with | none => none | some y => lAt (R.2.2.2.1 y).2.2.1.2 m
theorem mdAt_n {R : pgR} {i m : Int} (h : lAt R.2.2.1.1 i = none) : mdAt R i m = none := by unfold mdAt; rw [h]
theorem mdAt_s {R : pgR} {i m : Int} {y : Nat} (h : lAt R.2.2.1.1 i = some y) : mdAt R i m = lAt (R.2.2.2.1 y).2.2.1.2 m := by unfold mdAt; rw [h]
/-- the sign of a mode's fault -/
def fsI (r : moR) : Int := if r.2.2.2.2.1 ≠ 0 then 111 else if r.2.2.2.2.2.1 ≠ 0 ∧ ((r.2.2.2.2.2.2.1 ≠ 0 ∧ (r.2.2.2.1 = 100 ∨ r.2.2.2.1 = 109)) ∨ (r.2.2.2.2.2.2.2.1 ≠ 0 ∧ (r.2.2.2.1 = 100 ∨ r.2.2.2.1 = 115))) then 112 else 45
def fcN (R : pgR) : List Nat → Nat
  | [] => 0
  | y :: l => (if fsI (R.2.2.2.2.1 y) = 45 then 0 else 1) + fcN R l
theorem fcN_c {R : pgR} {y : Nat} {l : List Nat} : fcN R (y :: l) = (if fsI (R.2.2.2.2.1 y) = 45 then 0 else 1) + fcN R l := rfl
section CMAT
variable {G : zG} {d : Nat} {w : zW} {pg : Nat} {R : pgR}
theorem c_X7_modeAt (hP : pgW w pg R) (i j : Int) : zM G zm_X7_modeAt (d + 4) [zR pg, zI i, zI j] w (zRet (some (zP (mdAt R i j))) w) := by
  refine zx_ent (by decide +kernel) rfl (Nat.le_of_ble_eq_true rfl) ?_
  refine zx_L (L1 := [some (zR pg), some (zI i), some (zI j), none]) rfl ?_
  obtain ⟨hpg, hps, hms, hcs, hPr, hMo, hCl⟩ := hP
  have helP : ∀ y ∈ R.2.2.1.1, ∃ a b, w.1 y = some ((6, a, b) : zO) := fun y hy => ⟨_, _, (hPr y hy).1.1⟩
  cases hy : lAt R.2.2.1.1 i with
  | none =>
    rw [mdAt_n hy]
    refine zx_aload_n (i := 0) dX7_modeAt_0 rfl rfl ?_
    refine zx_iload_n (i := 1) dX7_modeAt_1 rfl rfl ?_
    refine zx_iv (b := pg) (As := [zI i]) (st := []) (v := (some (zN))) (w1 := w) dX7_modeAt_2 zc_X7_36 hpg rfl rfl rfl (Nat.le_of_ble_eq_true rfl) rfl (by have q := c_X7_predicateAt (G := G) (d := d) hpg hps helP i; rw [hy] at q; exact q) ?_
    refine zx_st (st1 := [zN]) rfl ?_
    refine zx_astore_n (i := 3) dX7_modeAt_5 rfl (by decide) rfl ?_
    refine zx_L (L1 := [some (zR pg), some (zI i), some (zI j), some (zN)]) rfl ?_
    refine zx_aload_n (i := 3) dX7_modeAt_6 rfl rfl ?_
    refine zx_ifnonnull (tgt := 14) dX7_modeAt_7 (by decide) (fun h => absurd rfl h) (fun _ => ?_)
    refine zx_null dX7_modeAt_10 ?_
    refine zx_goto (tgt := 19) dX7_modeAt_11 (by decide) ?_
    refine zx_areturn dX7_modeAt_19 rfl (Or.inl ⟨_, rfl⟩) ?_
    exact zr_v rfl rfl
  | some y =>
    rw [mdAt_s hy]
    obtain ⟨⟨hpy, htt, hml, hcl⟩, hsm, -⟩ := hPr y (lAt_mem hy)
    have helM : ∀ z ∈ (R.2.2.2.1 y).2.2.1.2, ∃ a b, w.1 z = some ((5, a, b) : zO) := fun z hz => ⟨_, _, hMo z (hsm z hz)⟩
    refine zx_aload_n (i := 0) dX7_modeAt_0 rfl rfl ?_
    refine zx_iload_n (i := 1) dX7_modeAt_1 rfl rfl ?_
    refine zx_iv (b := pg) (As := [zI i]) (st := []) (v := (some (zR y))) (w1 := w) dX7_modeAt_2 zc_X7_36 hpg rfl rfl rfl (Nat.le_of_ble_eq_true rfl) rfl (by have q := c_X7_predicateAt (G := G) (d := d) hpg hps helP i; rw [hy] at q; exact q) ?_
    refine zx_st (st1 := [zR y]) rfl ?_
    refine zx_astore_n (i := 3) dX7_modeAt_5 rfl (by decide) rfl ?_
    refine zx_L (L1 := [some (zR pg), some (zI i), some (zI j), some (zR y)]) rfl ?_
    refine zx_aload_n (i := 3) dX7_modeAt_6 rfl rfl ?_
    refine zx_ifnonnull (tgt := 14) dX7_modeAt_7 (by decide) (fun _ => ?_) (fun h => by cases h)
    refine zx_aload_n (i := 3) dX7_modeAt_14 rfl rfl ?_
    refine zx_iload_n (i := 2) dX7_modeAt_15 rfl rfl ?_
    refine zx_iv (b := y) (As := [zI j]) (st := []) (v := (some (zP (lAt (R.2.2.2.1 y).2.2.1.2 j)))) (w1 := w) dX7_modeAt_16 zc_X7_40 hpy rfl rfl rfl (Nat.le_of_ble_eq_true rfl) rfl (c_X6_modeAt (G := G) (d := d) hpy hml helM j) ?_
    refine zx_st (st1 := [zP (lAt (R.2.2.2.1 y).2.2.1.2 j)]) rfl ?_
    refine zx_areturn dX7_modeAt_19 rfl (Or.inl ⟨_, rfl⟩) ?_
    exact zr_v rfl rfl
theorem c_X7_faultCount (hP : pgW w pg R) (hlen : R.2.2.1.2.1.length < 1000) : zM G zm_X7_faultCount (d + 3) [zR pg] w (zRet (some (zI (fcN R R.2.2.1.2.1 : Int))) w) := by
  refine zx_ent (by decide +kernel) rfl (Nat.le_of_ble_eq_true rfl) ?_
  obtain ⟨hpg, hps, hms, hcs, hPr, hMo, hCl⟩ := hP
  have loop : ∀ n q x : Nat, q + n = R.2.2.1.2.1.length → x ≤ q → x + fcN R (R.2.2.1.2.1.drop q) = fcN R R.2.2.1.2.1 → zX G zm_X7_faultCount (d + 3) [zR pg] w (zRet (some (zI (fcN R R.2.2.1.2.1 : Int))) w) 4 [some (zR pg), some (zI (x : Int)), some (zI (q : Int))] [] w := by
    intro n
    induction n with
    | zero =>
      intro q x hq hxq hx
      rw [List.drop_eq_nil_of_le (by omega)] at hx
      rw [← hx]
      refine zx_iload_n (i := 2) dX7_faultCount_4 rfl rfl ?_
      refine zx_aload_n (i := 0) dX7_faultCount_5 rfl rfl ?_
      refine zx_getfield dX7_faultCount_6 zf_X7_18 hpg rfl ?_
      refine zx_iv (b := R.1.2.1) (As := []) (st := [zI (q : Int)]) (v := (some (zI (R.2.2.1.2.1.length : Int)))) (w1 := w) dX7_faultCount_9 zc_X7_24 hms (z_cls12 (by decide)) rfl rfl (Nat.le_of_ble_eq_true rfl) rfl (c_list_size hms (by decide)) ?_
      refine zx_st (st1 := [zI (R.2.2.1.2.1.length : Int), zI (q : Int)]) rfl ?_
      refine zx_icmp_ge (tgt := 48) dX7_faultCount_12 (by decide) (fun h12 => ?_) (fun h12 => absurd (by omega) h12)
      refine zx_iload_n (i := 1) dX7_faultCount_48 rfl rfl ?_
      refine zx_iret dX7_faultCount_49 rfl ?_
      exact zr_i rfl
    | succ n ih =>
      intro q x hq hxq hx
      obtain ⟨y, hyq⟩ : ∃ y, R.2.2.1.2.1[q]? = some y := ⟨_, List.getElem?_eq_getElem (by omega)⟩
      have hy1 : w.1 y = some (5, 0, moF (R.2.2.2.2.1 y)) := hMo y (List.mem_of_getElem? hyq)
      rw [drop_cons hyq, fcN_c] at hx
      by_cases hf : fsI (R.2.2.2.2.1 y) = 45
      · rw [if_pos hf] at hx
        refine zx_iload_n (i := 2) dX7_faultCount_4 rfl rfl ?_
        refine zx_aload_n (i := 0) dX7_faultCount_5 rfl rfl ?_
        refine zx_getfield dX7_faultCount_6 zf_X7_18 hpg rfl ?_
        refine zx_iv (b := R.1.2.1) (As := []) (st := [zI (q : Int)]) (v := (some (zI (R.2.2.1.2.1.length : Int)))) (w1 := w) dX7_faultCount_9 zc_X7_24 hms (z_cls12 (by decide)) rfl rfl (Nat.le_of_ble_eq_true rfl) rfl (c_list_size hms (by decide)) ?_
        refine zx_st (st1 := [zI (R.2.2.1.2.1.length : Int), zI (q : Int)]) rfl ?_
        refine zx_icmp_ge (tgt := 48) dX7_faultCount_12 (by decide) (fun h12 => absurd h12 (by omega)) (fun h12 => ?_)
        refine zx_iload_n (i := 1) dX7_faultCount_15 rfl rfl ?_
        refine zx_aload_n (i := 0) dX7_faultCount_16 rfl rfl ?_
        refine zx_getfield dX7_faultCount_17 zf_X7_18 hpg rfl ?_
        refine zx_iload_n (i := 2) dX7_faultCount_20 rfl rfl ?_
        refine zx_iv (b := R.1.2.1) (As := [zI (q : Int)]) (st := [zI (x : Int)]) (v := (some (zR y))) (w1 := w) dX7_faultCount_21 zc_X7_28 hms (z_cls12 (by decide)) rfl rfl (Nat.le_of_ble_eq_true rfl) rfl (c_list_get hms (by decide) (by omega) (by rw [Int.toNat_natCast]; exact hyq)) ?_
        refine zx_st (st1 := [zR y, zI (x : Int)]) rfl ?_
        refine zx_castR dX7_faultCount_24 hy1 rfl zl_X7_51 ?_
        refine zx_pc (pc1 := 27) rfl ?_
        refine zx_iv (b := y) (As := []) (st := [zI (x : Int)]) (v := (some (zI (fsI (R.2.2.2.2.1 y))))) (w1 := w) dX7_faultCount_27 zc_X7_66 hy1 rfl rfl rfl (Nat.le_of_ble_eq_true rfl) rfl (c_X5_faultSign (d := d + 1) hy1) ?_
        refine zx_st (st1 := [zI (fsI (R.2.2.2.2.1 y)), zI (x : Int)]) rfl ?_
        refine zx_bipush (v := 45) dX7_faultCount_30 (by decide +kernel) (z32_lit (by decide) (by decide)) ?_
        refine zx_icmp_ne (tgt := 39) dX7_faultCount_32 (by decide) (fun h32 => absurd h32 (not_not_intro hf)) (fun h32 => ?_)
        refine zx_iconst (v := 0) dX7_faultCount_35 rfl (z32_lit (by decide) (by decide)) ?_
        refine zx_goto (tgt := 40) dX7_faultCount_36 (by decide) ?_
        refine zx_iadd (v := (x : Int)) dX7_faultCount_40 (zw_eq (by omega) (by omega) (by omega)) ?_
        refine zx_istore_n (i := 1) dX7_faultCount_41 rfl (by decide) rfl ?_
        refine zx_L (L1 := [some (zR pg), some (zI (x : Int)), some (zI (q : Int))]) rfl ?_
        refine zx_iinc (i := 2) (v := ((q + 1 : Nat) : Int)) dX7_faultCount_42 rfl (zw_eq (by omega) (by omega) (by omega)) (by decide) rfl ?_
        refine zx_L (L1 := [some (zR pg), some (zI (x : Int)), some (zI ((q + 1 : Nat) : Int))]) rfl ?_
        refine zx_goto (tgt := 4) dX7_faultCount_45 (by decide) ?_
        exact ih (q + 1) x (by omega) (by omega) (by omega)
      · rw [if_neg hf] at hx
        refine zx_iload_n (i := 2) dX7_faultCount_4 rfl rfl ?_
        refine zx_aload_n (i := 0) dX7_faultCount_5 rfl rfl ?_
        refine zx_getfield dX7_faultCount_6 zf_X7_18 hpg rfl ?_
        refine zx_iv (b := R.1.2.1) (As := []) (st := [zI (q : Int)]) (v := (some (zI (R.2.2.1.2.1.length : Int)))) (w1 := w) dX7_faultCount_9 zc_X7_24 hms (z_cls12 (by decide)) rfl rfl (Nat.le_of_ble_eq_true rfl) rfl (c_list_size hms (by decide)) ?_
        refine zx_st (st1 := [zI (R.2.2.1.2.1.length : Int), zI (q : Int)]) rfl ?_
        refine zx_icmp_ge (tgt := 48) dX7_faultCount_12 (by decide) (fun h12 => absurd h12 (by omega)) (fun h12 => ?_)
        refine zx_iload_n (i := 1) dX7_faultCount_15 rfl rfl ?_
        refine zx_aload_n (i := 0) dX7_faultCount_16 rfl rfl ?_
        refine zx_getfield dX7_faultCount_17 zf_X7_18 hpg rfl ?_
        refine zx_iload_n (i := 2) dX7_faultCount_20 rfl rfl ?_
        refine zx_iv (b := R.1.2.1) (As := [zI (q : Int)]) (st := [zI (x : Int)]) (v := (some (zR y))) (w1 := w) dX7_faultCount_21 zc_X7_28 hms (z_cls12 (by decide)) rfl rfl (Nat.le_of_ble_eq_true rfl) rfl (c_list_get hms (by decide) (by omega) (by rw [Int.toNat_natCast]; exact hyq)) ?_
        refine zx_st (st1 := [zR y, zI (x : Int)]) rfl ?_
        refine zx_castR dX7_faultCount_24 hy1 rfl zl_X7_51 ?_
        refine zx_pc (pc1 := 27) rfl ?_
        refine zx_iv (b := y) (As := []) (st := [zI (x : Int)]) (v := (some (zI (fsI (R.2.2.2.2.1 y))))) (w1 := w) dX7_faultCount_27 zc_X7_66 hy1 rfl rfl rfl (Nat.le_of_ble_eq_true rfl) rfl (c_X5_faultSign (d := d + 1) hy1) ?_
        refine zx_st (st1 := [zI (fsI (R.2.2.2.2.1 y)), zI (x : Int)]) rfl ?_
        refine zx_bipush (v := 45) dX7_faultCount_30 (by decide +kernel) (z32_lit (by decide) (by decide)) ?_
        refine zx_icmp_ne (tgt := 39) dX7_faultCount_32 (by decide) (fun h32 => ?_) (fun h32 => absurd (hf) h32)
        refine zx_iconst (v := 1) dX7_faultCount_39 rfl (z32_lit (by decide) (by decide)) ?_
        refine zx_iadd (v := ((x + 1 : Nat) : Int)) dX7_faultCount_40 (zw_eq (by omega) (by omega) (by omega)) ?_
        refine zx_istore_n (i := 1) dX7_faultCount_41 rfl (by decide) rfl ?_
        refine zx_L (L1 := [some (zR pg), some (zI ((x + 1 : Nat) : Int)), some (zI (q : Int))]) rfl ?_
        refine zx_iinc (i := 2) (v := ((q + 1 : Nat) : Int)) dX7_faultCount_42 rfl (zw_eq (by omega) (by omega) (by omega)) (by decide) rfl ?_
        refine zx_L (L1 := [some (zR pg), some (zI ((x + 1 : Nat) : Int)), some (zI ((q + 1 : Nat) : Int))]) rfl ?_
        refine zx_goto (tgt := 4) dX7_faultCount_45 (by decide) ?_
        exact ih (q + 1) (x + 1) (by omega) (by omega) (by omega)
  refine zx_L (L1 := [some (zR pg), none, none]) rfl ?_
  refine zx_iconst (v := 0) dX7_faultCount_0 rfl (z32_lit (by decide) (by decide)) ?_
  refine zx_istore_n (i := 1) dX7_faultCount_1 rfl (by decide) rfl ?_
  refine zx_L (L1 := [some (zR pg), some (zI 0), none]) rfl ?_
  refine zx_iconst (v := 0) dX7_faultCount_2 rfl (z32_lit (by decide) (by decide)) ?_
  refine zx_istore_n (i := 2) dX7_faultCount_3 rfl (by decide) rfl ?_
  refine zx_L (L1 := [some (zR pg), some (zI 0), some (zI 0)]) rfl ?_
  exact loop R.2.2.1.2.1.length 0 0 (by omega) (by omega) (by rw [List.drop_zero, Nat.zero_add])
end CMAT
