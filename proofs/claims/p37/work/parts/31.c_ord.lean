/-! Own rows: goals put in ORDER. Walked by program (wip/p37/m_ord.py). -/
abbrev cbT (g : goR) (ch : Option Nat) (kn : Int) : Prop :=
  if g.1 = 0 then bt1 kn (zVa g.2.2.2.2 0) ∨ zand (vSt g.2.2.2.2 (g.2.2.1 - 1).toNat 0 1) (zxor kn (-1)) = 0
  else if g.1 = 1 then bt1 kn (zVa g.2.2.2.2 0) ∨ bt1 kn (zVa g.2.2.2.2 1)
  else if g.1 = 2 then ch ≠ none
  else ch ≠ none ∧ zand (vSt g.2.2.2.2 (g.2.2.1 - 0).toNat 0 0) (zxor kn (-1)) = 0
/-- the first goal that can be taken, from a place on -/
def ngN (R : pgR) (Gs : List Nat) (tk kn : Int) : Nat → Nat → Int
  | 0, _ => -1
  | n + 1, q => if zand (zshr tk (q : Int)) 1 = 0 ∧ cbT (R.2.2.2.2.2.2 (Gs.getD q 0)) (chM R (R.2.2.2.2.2.2 (Gs.getD q 0)) kn) kn then (q : Int) else ngN R Gs tk kn n (q + 1)
theorem ngN_s {R : pgR} {Gs : List Nat} {tk kn : Int} {n q : Nat} : ngN R Gs tk kn (n + 1) q = if zand (zshr tk (q : Int)) 1 = 0 ∧ cbT (R.2.2.2.2.2.2 (Gs.getD q 0)) (chM R (R.2.2.2.2.2.2 (Gs.getD q 0)) kn) kn then (q : Int) else ngN R Gs tk kn n (q + 1) := rfl
section CORD
variable {G : zG} {d : Nat} {w : zW} {pg : Nat} {R : pgR}
theorem zRet_eq {M : zMd} {av : List zV} {v v' : Option zV} {w1 : zW} (h : zM G M d av w (zRet v w1)) (e : v = v') : zM G M d av w (zRet v' w1) := by rw [← e]; exact h
theorem c_X7_canBeTaken {g : Nat} {gr : goR} (hG : goW w g gr) (ch : Option Nat) (kn : Int) : zM G zm_X7_canBeTaken (d + 2) [zR g, zP ch, zI kn] w (zRet (some (zI (zB (cbT gr ch kn)))) w) := by
  obtain ⟨k, su, n, va, xs⟩ := gr
  obtain ⟨hg, hv, hx, hgn, hgk⟩ := hG
  simp only at hg hv hx hgn hgk
  obtain rfl | rfl | rfl | rfl : k = 0 ∨ k = 1 ∨ k = 2 ∨ k = 3 := by omega
  · exact c_X7_canBeTaken0 hg hv hx hgn ch kn
  · exact c_X7_canBeTaken1 hg hv hx hgn ch kn
  · cases ch with
    | none => exact zRet_eq (c_X7_canBeTaken2n hg hv hx hgn kn) (by rw [zB_f (p := cbT (2, su, n, va, xs) none kn) (show ¬ ((none : Option Nat) ≠ none) from fun h => h rfl)])
    | some m => exact zRet_eq (c_X7_canBeTaken2s hg hv hx hgn kn) (by rw [zB_t (p := cbT (2, su, n, va, xs) (some m) kn) (show (some m : Option Nat) ≠ none from by simp)])
  · cases ch with
    | none => exact zRet_eq (c_X7_canBeTaken3n hg hv hx hgn kn) (by rw [zB_f (p := cbT (3, su, n, va, xs) none kn) (show ¬ ((none : Option Nat) ≠ none ∧ zand (vSt xs (n - 0).toNat 0 0) (zxor kn (-1)) = 0) from fun h => h.1 rfl)])
    | some m =>
      refine zRet_eq (c_X7_canBeTaken3s hg hv hx hgn kn) ?_
      by_cases hq : zand (vSt xs (n - 0).toNat 0 0) (zxor kn (-1)) = 0
      · rw [zB_t hq, zB_t (p := cbT (3, su, n, va, xs) (some m) kn) (show (some m : Option Nat) ≠ none ∧ zand (vSt xs (n - 0).toNat 0 0) (zxor kn (-1)) = 0 from ⟨by simp, hq⟩)]
      · rw [zB_f hq, zB_f (p := cbT (3, su, n, va, xs) (some m) kn) (show ¬ ((some m : Option Nat) ≠ none ∧ zand (vSt xs (n - 0).toNat 0 0) (zxor kn (-1)) = 0) from fun h => hq h.2)]
theorem c_X7_nextGoal (hP : pgW w pg R) {c : Nat} {r : clR} (hC : clV w c r) (hgo : ∀ g ∈ r.2.2.2.1.2, goW w g (R.2.2.2.2.2.2 g)) (hlen : r.2.2.2.1.2.length < 1000) (tk kn : Int) : zM G zm_X7_nextGoal (d + 6) [zR pg, zR c, zI tk, zI kn] w (zRet (some (zI (ngN R r.2.2.2.1.2 tk kn r.2.2.2.1.2.length 0))) w) := by
  refine zx_ent (by decide +kernel) rfl (Nat.le_of_ble_eq_true rfl) ?_
  obtain ⟨h0, ⟨hty, okT⟩, hgs, ⟨hle, nle⟩, ⟨hns, nns⟩, ⟨hod, nod⟩, ⟨hch, nch⟩, ⟨hkn, nkn⟩⟩ := hC
  have hpg := hP.1
  have helG : ∀ y ∈ r.2.2.2.1.2, ∃ a b, w.1 y = some ((3, a, b) : zO) := fun y hy => ⟨_, _, (hgo y hy).1⟩
  have loop : ∀ (n q : Nat) (o5 o6 : Option zV), q + n = r.2.2.2.1.2.length → zX G zm_X7_nextGoal (d + 6) [zR pg, zR c, zI tk, zI kn] w (zRet (some (zI (ngN R r.2.2.2.1.2 tk kn n q))) w) 3 [some (zR pg), some (zR c), some (zI tk), some (zI kn), some (zI (q : Int)), o5, o6] [] w := by
    intro n
    induction n with
    | zero =>
      intro q o5 o6 hq
      refine zx_iload (i := 4) dX7_nextGoal_3 rfl ?_
      refine zx_aload_n (i := 1) dX7_nextGoal_5 rfl rfl ?_
      refine zx_iv (b := c) (As := []) (st := [zI (q : Int)]) (v := (some (zI (r.2.2.2.1.2.length : Int)))) (w1 := w) dX7_nextGoal_6 zc_X7_124 h0 rfl rfl rfl (Nat.le_of_ble_eq_true rfl) rfl (c_X1_goalCount h0 hgs) ?_
      refine zx_st (st1 := [zI (r.2.2.2.1.2.length : Int), zI (q : Int)]) rfl ?_
      refine zx_icmp_ge (tgt := 71) dX7_nextGoal_9 (by decide) (fun h9 => ?_) (fun h9 => absurd (by omega) h9)
      refine zx_iconst (v := -1) dX7_nextGoal_71 rfl (z32_lit (by decide) (by decide)) ?_
      refine zx_iret dX7_nextGoal_72 rfl ?_
      exact zr_i rfl
    | succ n ih =>
      intro q o5 o6 hq
      obtain ⟨m, hm⟩ : ∃ m, r.2.2.2.1.2[q]? = some m := ⟨_, List.getElem?_eq_getElem (by omega)⟩
      have hGm : goW w m (R.2.2.2.2.2.2 m) := hgo m (List.mem_of_getElem? hm)
      have hgm := hGm.1
      have em : r.2.2.2.1.2.getD q 0 = m := by rw [List.getD_eq_getElem?_getD, hm]; rfl
      by_cases h1 : zand (zshr tk (q : Int)) 1 = 0
      · by_cases h2 : cbT (R.2.2.2.2.2.2 m) (chM R (R.2.2.2.2.2.2 m) kn) kn
        · refine zx_iload (i := 4) dX7_nextGoal_3 rfl ?_
          refine zx_aload_n (i := 1) dX7_nextGoal_5 rfl rfl ?_
          refine zx_iv (b := c) (As := []) (st := [zI (q : Int)]) (v := (some (zI (r.2.2.2.1.2.length : Int)))) (w1 := w) dX7_nextGoal_6 zc_X7_124 h0 rfl rfl rfl (Nat.le_of_ble_eq_true rfl) rfl (c_X1_goalCount h0 hgs) ?_
          refine zx_st (st1 := [zI (r.2.2.2.1.2.length : Int), zI (q : Int)]) rfl ?_
          refine zx_icmp_ge (tgt := 71) dX7_nextGoal_9 (by decide) (fun h9 => absurd h9 (by omega)) (fun h9 => ?_)
          refine zx_aload_n (i := 1) dX7_nextGoal_12 rfl rfl ?_
          refine zx_iload (i := 4) dX7_nextGoal_13 rfl ?_
          refine zx_iv (b := c) (As := [zI (q : Int)]) (st := []) (v := (some (zR m))) (w1 := w) dX7_nextGoal_15 zc_X7_131 h0 rfl rfl rfl (Nat.le_of_ble_eq_true rfl) rfl (by have h := c_X1_goalNumbered (G := G) (d := d + 2) h0 hgs helG (q : Int); rw [lAt_in (by omega) (by rw [Int.toNat_natCast]; exact hm)] at h; exact h) ?_
          refine zx_st (st1 := [zR m]) rfl ?_
          refine zx_astore (i := 5) dX7_nextGoal_18 (by decide) rfl ?_
          refine zx_L (L1 := [some (zR pg), some (zR c), some (zI tk), some (zI kn), some (zI (q : Int)), some (zR m), o6]) rfl ?_
          refine zx_iload_n (i := 2) dX7_nextGoal_20 rfl rfl ?_
          refine zx_iload (i := 4) dX7_nextGoal_21 rfl ?_
          refine zx_ishr (v := zshr tk (q : Int)) dX7_nextGoal_23 rfl ?_
          refine zx_pc (pc1 := 24) rfl ?_
          refine zx_iconst (v := 1) dX7_nextGoal_24 rfl (z32_lit (by decide) (by decide)) ?_
          refine zx_iand (v := zand (zshr tk (q : Int)) 1) dX7_nextGoal_25 rfl ?_
          refine zx_if_ne (tgt := 33) dX7_nextGoal_26 (by decide) (fun h26 => absurd h26 (not_not_intro h1)) (fun h26 => ?_)
          refine zx_iconst (v := 1) dX7_nextGoal_29 rfl (z32_lit (by decide) (by decide)) ?_
          refine zx_goto (tgt := 34) dX7_nextGoal_30 (by decide) ?_
          refine zx_istore (i := 6) dX7_nextGoal_34 (by decide) rfl ?_
          refine zx_L (L1 := [some (zR pg), some (zR c), some (zI tk), some (zI kn), some (zI (q : Int)), some (zR m), some (zI 1)]) rfl ?_
          refine zx_iload (i := 6) dX7_nextGoal_36 rfl ?_
          refine zx_if_eq (tgt := 65) dX7_nextGoal_38 (by decide) (fun h38 => absurd h38 (by decide)) (fun h38 => ?_)
          refine zx_aload (i := 5) dX7_nextGoal_41 rfl ?_
          refine zx_ifnull (tgt := 65) dX7_nextGoal_43 (by decide) (fun h => by cases h) (fun _ => ?_)
          refine zx_aload (i := 5) dX7_nextGoal_46 rfl ?_
          refine zx_aload_n (i := 0) dX7_nextGoal_48 rfl rfl ?_
          refine zx_pc (pc1 := 49) rfl ?_
          refine zx_aload (i := 5) dX7_nextGoal_49 rfl ?_
          refine zx_iload_n (i := 3) dX7_nextGoal_51 rfl rfl ?_
          refine zx_iv (b := pg) (As := [zR m, zI kn]) (st := [zR m]) (v := (some (zP (chM R (R.2.2.2.2.2.2 m) kn)))) (w1 := w) dX7_nextGoal_52 zc_X7_135 hpg rfl rfl rfl (Nat.le_of_ble_eq_true rfl) rfl (c_X7_chooseMode hP hGm kn) ?_
          refine zx_st (st1 := [zP (chM R (R.2.2.2.2.2.2 m) kn), zR m]) rfl ?_
          refine zx_iload_n (i := 3) dX7_nextGoal_55 rfl rfl ?_
          refine zx_is (As := [zR m, zP (chM R (R.2.2.2.2.2.2 m) kn), zI kn]) (st := []) (v := (some (zI (zB (cbT (R.2.2.2.2.2.2 m) (chM R (R.2.2.2.2.2.2 m) kn) kn))))) (w1 := w) dX7_nextGoal_56 zc_X7_152 rfl (Nat.le_of_ble_eq_true rfl) rfl (c_X7_canBeTaken hGm (chM R (R.2.2.2.2.2.2 m) kn) kn) ?_
          refine zx_st (st1 := [zI (zB (cbT (R.2.2.2.2.2.2 m) (chM R (R.2.2.2.2.2.2 m) kn) kn))]) rfl ?_
          refine zx_if_eq (tgt := 65) dX7_nextGoal_59 (by decide) (fun h59 => absurd h59 (by rw [zB_t h2]; decide)) (fun h59 => ?_)
          refine zx_iload (i := 4) dX7_nextGoal_62 rfl ?_
          refine zx_iret dX7_nextGoal_64 rfl ?_
          exact zr_i (by rw [ngN_s, em, if_pos ⟨h1, h2⟩])
        · refine zx_iload (i := 4) dX7_nextGoal_3 rfl ?_
          refine zx_aload_n (i := 1) dX7_nextGoal_5 rfl rfl ?_
          refine zx_iv (b := c) (As := []) (st := [zI (q : Int)]) (v := (some (zI (r.2.2.2.1.2.length : Int)))) (w1 := w) dX7_nextGoal_6 zc_X7_124 h0 rfl rfl rfl (Nat.le_of_ble_eq_true rfl) rfl (c_X1_goalCount h0 hgs) ?_
          refine zx_st (st1 := [zI (r.2.2.2.1.2.length : Int), zI (q : Int)]) rfl ?_
          refine zx_icmp_ge (tgt := 71) dX7_nextGoal_9 (by decide) (fun h9 => absurd h9 (by omega)) (fun h9 => ?_)
          refine zx_aload_n (i := 1) dX7_nextGoal_12 rfl rfl ?_
          refine zx_iload (i := 4) dX7_nextGoal_13 rfl ?_
          refine zx_iv (b := c) (As := [zI (q : Int)]) (st := []) (v := (some (zR m))) (w1 := w) dX7_nextGoal_15 zc_X7_131 h0 rfl rfl rfl (Nat.le_of_ble_eq_true rfl) rfl (by have h := c_X1_goalNumbered (G := G) (d := d + 2) h0 hgs helG (q : Int); rw [lAt_in (by omega) (by rw [Int.toNat_natCast]; exact hm)] at h; exact h) ?_
          refine zx_st (st1 := [zR m]) rfl ?_
          refine zx_astore (i := 5) dX7_nextGoal_18 (by decide) rfl ?_
          refine zx_L (L1 := [some (zR pg), some (zR c), some (zI tk), some (zI kn), some (zI (q : Int)), some (zR m), o6]) rfl ?_
          refine zx_iload_n (i := 2) dX7_nextGoal_20 rfl rfl ?_
          refine zx_iload (i := 4) dX7_nextGoal_21 rfl ?_
          refine zx_ishr (v := zshr tk (q : Int)) dX7_nextGoal_23 rfl ?_
          refine zx_pc (pc1 := 24) rfl ?_
          refine zx_iconst (v := 1) dX7_nextGoal_24 rfl (z32_lit (by decide) (by decide)) ?_
          refine zx_iand (v := zand (zshr tk (q : Int)) 1) dX7_nextGoal_25 rfl ?_
          refine zx_if_ne (tgt := 33) dX7_nextGoal_26 (by decide) (fun h26 => absurd h26 (not_not_intro h1)) (fun h26 => ?_)
          refine zx_iconst (v := 1) dX7_nextGoal_29 rfl (z32_lit (by decide) (by decide)) ?_
          refine zx_goto (tgt := 34) dX7_nextGoal_30 (by decide) ?_
          refine zx_istore (i := 6) dX7_nextGoal_34 (by decide) rfl ?_
          refine zx_L (L1 := [some (zR pg), some (zR c), some (zI tk), some (zI kn), some (zI (q : Int)), some (zR m), some (zI 1)]) rfl ?_
          refine zx_iload (i := 6) dX7_nextGoal_36 rfl ?_
          refine zx_if_eq (tgt := 65) dX7_nextGoal_38 (by decide) (fun h38 => absurd h38 (by decide)) (fun h38 => ?_)
          refine zx_aload (i := 5) dX7_nextGoal_41 rfl ?_
          refine zx_ifnull (tgt := 65) dX7_nextGoal_43 (by decide) (fun h => by cases h) (fun _ => ?_)
          refine zx_aload (i := 5) dX7_nextGoal_46 rfl ?_
          refine zx_aload_n (i := 0) dX7_nextGoal_48 rfl rfl ?_
          refine zx_pc (pc1 := 49) rfl ?_
          refine zx_aload (i := 5) dX7_nextGoal_49 rfl ?_
          refine zx_iload_n (i := 3) dX7_nextGoal_51 rfl rfl ?_
          refine zx_iv (b := pg) (As := [zR m, zI kn]) (st := [zR m]) (v := (some (zP (chM R (R.2.2.2.2.2.2 m) kn)))) (w1 := w) dX7_nextGoal_52 zc_X7_135 hpg rfl rfl rfl (Nat.le_of_ble_eq_true rfl) rfl (c_X7_chooseMode hP hGm kn) ?_
          refine zx_st (st1 := [zP (chM R (R.2.2.2.2.2.2 m) kn), zR m]) rfl ?_
          refine zx_iload_n (i := 3) dX7_nextGoal_55 rfl rfl ?_
          refine zx_is (As := [zR m, zP (chM R (R.2.2.2.2.2.2 m) kn), zI kn]) (st := []) (v := (some (zI (zB (cbT (R.2.2.2.2.2.2 m) (chM R (R.2.2.2.2.2.2 m) kn) kn))))) (w1 := w) dX7_nextGoal_56 zc_X7_152 rfl (Nat.le_of_ble_eq_true rfl) rfl (c_X7_canBeTaken hGm (chM R (R.2.2.2.2.2.2 m) kn) kn) ?_
          refine zx_st (st1 := [zI (zB (cbT (R.2.2.2.2.2.2 m) (chM R (R.2.2.2.2.2.2 m) kn) kn))]) rfl ?_
          refine zx_if_eq (tgt := 65) dX7_nextGoal_59 (by decide) (fun h59 => ?_) (fun h59 => absurd (zB_f h2) h59)
          refine zx_iinc (i := 4) (v := ((q + 1 : Nat) : Int)) dX7_nextGoal_65 rfl (zw_eq (by omega) (by omega) (by omega)) (by decide) rfl ?_
          refine zx_L (L1 := [some (zR pg), some (zR c), some (zI tk), some (zI kn), some (zI ((q + 1 : Nat) : Int)), some (zR m), some (zI 1)]) rfl ?_
          refine zx_goto (tgt := 3) dX7_nextGoal_68 (by decide) ?_
          rw [ngN_s, if_neg (by rw [em]; exact fun hq => h2 hq.2)]
          exact ih (q + 1) _ _ (by omega)
      · refine zx_iload (i := 4) dX7_nextGoal_3 rfl ?_
        refine zx_aload_n (i := 1) dX7_nextGoal_5 rfl rfl ?_
        refine zx_iv (b := c) (As := []) (st := [zI (q : Int)]) (v := (some (zI (r.2.2.2.1.2.length : Int)))) (w1 := w) dX7_nextGoal_6 zc_X7_124 h0 rfl rfl rfl (Nat.le_of_ble_eq_true rfl) rfl (c_X1_goalCount h0 hgs) ?_
        refine zx_st (st1 := [zI (r.2.2.2.1.2.length : Int), zI (q : Int)]) rfl ?_
        refine zx_icmp_ge (tgt := 71) dX7_nextGoal_9 (by decide) (fun h9 => absurd h9 (by omega)) (fun h9 => ?_)
        refine zx_aload_n (i := 1) dX7_nextGoal_12 rfl rfl ?_
        refine zx_iload (i := 4) dX7_nextGoal_13 rfl ?_
        refine zx_iv (b := c) (As := [zI (q : Int)]) (st := []) (v := (some (zR m))) (w1 := w) dX7_nextGoal_15 zc_X7_131 h0 rfl rfl rfl (Nat.le_of_ble_eq_true rfl) rfl (by have h := c_X1_goalNumbered (G := G) (d := d + 2) h0 hgs helG (q : Int); rw [lAt_in (by omega) (by rw [Int.toNat_natCast]; exact hm)] at h; exact h) ?_
        refine zx_st (st1 := [zR m]) rfl ?_
        refine zx_astore (i := 5) dX7_nextGoal_18 (by decide) rfl ?_
        refine zx_L (L1 := [some (zR pg), some (zR c), some (zI tk), some (zI kn), some (zI (q : Int)), some (zR m), o6]) rfl ?_
        refine zx_iload_n (i := 2) dX7_nextGoal_20 rfl rfl ?_
        refine zx_iload (i := 4) dX7_nextGoal_21 rfl ?_
        refine zx_ishr (v := zshr tk (q : Int)) dX7_nextGoal_23 rfl ?_
        refine zx_pc (pc1 := 24) rfl ?_
        refine zx_iconst (v := 1) dX7_nextGoal_24 rfl (z32_lit (by decide) (by decide)) ?_
        refine zx_iand (v := zand (zshr tk (q : Int)) 1) dX7_nextGoal_25 rfl ?_
        refine zx_if_ne (tgt := 33) dX7_nextGoal_26 (by decide) (fun h26 => ?_) (fun h26 => absurd (h1) h26)
        refine zx_iconst (v := 0) dX7_nextGoal_33 rfl (z32_lit (by decide) (by decide)) ?_
        refine zx_istore (i := 6) dX7_nextGoal_34 (by decide) rfl ?_
        refine zx_L (L1 := [some (zR pg), some (zR c), some (zI tk), some (zI kn), some (zI (q : Int)), some (zR m), some (zI 0)]) rfl ?_
        refine zx_iload (i := 6) dX7_nextGoal_36 rfl ?_
        refine zx_if_eq (tgt := 65) dX7_nextGoal_38 (by decide) (fun h38 => ?_) (fun h38 => absurd (by decide) h38)
        refine zx_iinc (i := 4) (v := ((q + 1 : Nat) : Int)) dX7_nextGoal_65 rfl (zw_eq (by omega) (by omega) (by omega)) (by decide) rfl ?_
        refine zx_L (L1 := [some (zR pg), some (zR c), some (zI tk), some (zI kn), some (zI ((q + 1 : Nat) : Int)), some (zR m), some (zI 0)]) rfl ?_
        refine zx_goto (tgt := 3) dX7_nextGoal_68 (by decide) ?_
        rw [ngN_s, if_neg (fun hq => h1 hq.1)]
        exact ih (q + 1) _ _ (by omega)
  refine zx_L (L1 := [some (zR pg), some (zR c), some (zI tk), some (zI kn), none, none, none]) rfl ?_
  refine zx_iconst (v := 0) dX7_nextGoal_0 rfl (z32_lit (by decide) (by decide)) ?_
  refine zx_istore (i := 4) dX7_nextGoal_1 (by decide) rfl ?_
  refine zx_L (L1 := [some (zR pg), some (zR c), some (zI tk), some (zI kn), some (zI 0), none, none]) rfl ?_
  exact loop _ 0 none none (by omega)
end CORD
