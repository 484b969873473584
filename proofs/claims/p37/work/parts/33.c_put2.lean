/-! Own rows: putClauseInOrder. Walked by program (wip/p37/m_put2.py). -/
def orV (T : List (List Int)) (o : Bool × Int × clR) : Int := if o.1 = true then zB (zand (zw (zshl 1 (T.length : Int) - 1)) (zxor o.2.1 (-1)) = 0) else 0
def orC (r : clR) (m : Nat) : clR := clSet r (r.2.2.2.2.1.1.set m 0) r.2.2.2.2.1.2.1 r.2.2.2.2.1.2.2 r.2.2.2.2.2.1 r.2.2.2.2.2.2
def ordO (R : pgR) (m c : Nat) (ins : Int) : Bool × Int × clR := ordS R m (R.2.2.2.2.2.1 c).2.2.2.1.2 (R.2.2.2.2.2.1 c).2.2.2.1.2.length 0 0 ins (orC (R.2.2.2.2.2.1 c) m)
theorem clPut_clear {w : zW} {c m : Nat} {r : clR} (h : clV w c r) : clPut w c (orC r m) = zput w r.2.1.2.2.1 (101, c, (r.2.2.2.2.1.1.set m 0).map Sum.inl) := by
  obtain ⟨-, -, -, ⟨hle, -⟩, ⟨hns, -⟩, ⟨hod, -⟩, ⟨hch, -⟩, ⟨hkn, -⟩⟩ := h
  unfold clPut orC clSet
  rw [zput_id (zput_tg hle hns (by simp)), zput_id (zput_tg hle hod (by simp)), zput_id (zput_tg hle hch (by simp)), zput_id (zput_tg hle hkn (by simp))]
theorem clV_len {w : zW} {c : Nat} {r : clR} (h : clV w c r) : r.2.2.2.2.1.1.length = 2 ∧ r.2.2.2.2.1.2.1.length = 10 ∧ r.2.2.2.2.1.2.2.length = 10 ∧ r.2.2.2.2.2.1.length = 10 ∧ r.2.2.2.2.2.2.length = 10 := by
  obtain ⟨-, -, -, ⟨-, l1⟩, ⟨-, l2⟩, ⟨-, l4⟩, ⟨-, l5⟩, ⟨-, l3⟩⟩ := h
  exact ⟨l1, l2, l3, l4, l5⟩
theorem clSm_c {w : zW} {c m : Nat} {r : clR} (h : clV w c r) : clSm r (orC r m) := by
  obtain ⟨l1, l2, l3, l4, l5⟩ := clV_len h
  exact ⟨rfl, rfl, rfl, rfl, by unfold orC clSet; simpa using l1, l2, l3, l4, l5⟩
section CPUT
variable {G : zG} {d : Nat} {w : zW} {pg : Nat} {R : pgR}
theorem cln_take {r : clR} {m q : Nat} {go kw : Int} {g : Nat} {mo : Option Nat} (hm : m < 2) (hl : r.2.2.2.2.1.1.length = 2) : cln (takeR r m q go kw g mo).2.2.2.2.1.1 (m : Int) = ((q + 1 : Nat) : Int) := by
  unfold cln takeR clSet
  rw [if_pos (by omega), Int.toNat_natCast]
  show (List.set _ m _).getD m 0 = _
  rw [List.getD_eq_getElem?_getD, List.getElem?_set_self (by omega)]
  rfl
theorem cln_c {r : clR} {m : Nat} (hm : m < 2) (hl : r.2.2.2.2.1.1.length = 2) : cln (orC r m).2.2.2.2.1.1 (m : Int) = ((0 : Nat) : Int) := by
  unfold cln orC clSet
  rw [if_pos (by omega), Int.toNat_natCast]
  show (List.set _ m _).getD m 0 = _
  rw [List.getD_eq_getElem?_getD, List.getElem?_set_self (by omega)]
  rfl
theorem c_X7_putClause (hP : pgW w pg R) {c md pr m : Nat} {ins pm lo gd cf cr sw : Int} (hc : c ∈ R.2.2.1.2.2) (hm : md ∈ R.2.2.1.2.1) (hmr : R.2.2.2.2.1 md = (pr, (m : Int), ins, pm, lo, gd, cf, cr, sw)) (hpr : pr ∈ R.2.2.1.1) (hm2 : m < 2) (hGl : (R.2.2.2.2.2.1 c).2.2.2.1.2.length ≤ 5) : zM G zm_X7_putClauseInOrder (d + 8) [zR pg, zR c, zR md] w (zRet (some (zI (orV (R.2.2.2.1 pr).2.1 (ordO R m c ins)))) (clPut w c (ordO R m c ins).2.2)) := by
  refine zx_ent (by decide +kernel) rfl (Nat.le_of_ble_eq_true rfl) ?_
  obtain ⟨hpg, hps, hms, hcs, hPr, hMo, hCl⟩ := id hP
  have hC := (hCl c hc).1
  have hgo := (hCl c hc).2
  have hmd := hMo md hm
  unfold moW at hmd
  rw [hmr] at hmd
  obtain ⟨⟨hpy, ⟨htt, okTT⟩, hml, hcl⟩, -⟩ := hPr pr hpr
  obtain ⟨h0, ⟨hty, okT⟩, hgs, ⟨hle, nle⟩, -⟩ := id hC
  have loop : ∀ (n q : Nat) (tk kn : Int) (r1 : clR) (o6 o7 : Option zV), q + n = (R.2.2.2.2.2.1 c).2.2.2.1.2.length → clSm (R.2.2.2.2.2.1 c) r1 → cln r1.2.2.2.2.1.1 (m : Int) = (q : Int) → ∀ w1, w1 = clPut w c r1 → zX G zm_X7_putClauseInOrder (d + 8) [zR pg, zR c, zR md] w (zRet (some (zI (orV (R.2.2.2.1 pr).2.1 (ordS R m (R.2.2.2.2.2.1 c).2.2.2.1.2 n q tk kn r1)))) (clPut w c (ordS R m (R.2.2.2.2.2.1 c).2.2.2.1.2 n q tk kn r1).2.2)) 19 [some (zR pg), some (zR c), some (zR md), some (zI kn), some (zI tk), some (zI (q : Int)), o6, o7] [] w1 := by
    intro n
    induction n with
    | zero =>
      intro q tk kn r1 o6 o7 hq hs hk w1 hw
      show zX G zm_X7_putClauseInOrder (d + 8) [zR pg, zR c, zR md] w (zRet (some (zI (orV (R.2.2.2.1 pr).2.1 (true, kn, r1)))) (clPut w c r1)) 19 _ [] w1
      have hpg1 := clPut_fr hC hs.2.1 hpg (by simp)
      rw [← hw] at hpg1
      have h01 := clPut_fr hC hs.2.1 h0 (by simp)
      rw [← hw] at h01
      have hgs1 := clPut_fr hC hs.2.1 hgs (by simp)
      rw [← hw] at hgs1
      have hmd1 := clPut_fr hC hs.2.1 hmd (by simp)
      rw [← hw] at hmd1
      have hpy1 := clPut_fr hC hs.2.1 hpy (by simp)
      rw [← hw] at hpy1
      have htt1 := clPut_fr hC hs.2.1 htt (by simp)
      rw [← hw] at htt1
      refine zx_iload (i := 5) dX7_putClauseInOrder_19 rfl ?_
      refine zx_aload_n (i := 1) dX7_putClauseInOrder_21 rfl rfl ?_
      refine zx_iv (b := c) (As := []) (st := [zI (q : Int)]) (v := (some (zI ((R.2.2.2.2.2.1 c).2.2.2.1.2.length : Int)))) (w1 := w1) dX7_putClauseInOrder_22 zc_X7_124 h01 rfl rfl rfl (Nat.le_of_ble_eq_true rfl) rfl (c_X1_goalCount h01 hgs1) ?_
      refine zx_st (st1 := [zI ((R.2.2.2.2.2.1 c).2.2.2.1.2.length : Int), zI (q : Int)]) rfl ?_
      refine zx_icmp_ge (tgt := 95) dX7_putClauseInOrder_25 (by decide) (fun h25 => ?_) (fun h25 => absurd (by omega) h25)
      refine zx_aload_n (i := 2) dX7_putClauseInOrder_95 rfl rfl ?_
      refine zx_getfield dX7_putClauseInOrder_96 zf_X7_102 hmd1 rfl ?_
      refine zx_iv (b := pr) (As := []) (st := []) (v := (some (zI (zw (zshl 1 ((R.2.2.2.1 pr).2.1.length : Int) - 1))))) (w1 := w1) dX7_putClauseInOrder_99 zc_X7_149 hpy1 rfl rfl rfl (Nat.le_of_ble_eq_true rfl) rfl (c_X6_argumentSet hpy1 htt1 okTT) ?_
      refine zx_st (st1 := [zI (zw (zshl 1 ((R.2.2.2.1 pr).2.1.length : Int) - 1))]) rfl ?_
      refine zx_iload_n (i := 3) dX7_putClauseInOrder_102 rfl rfl ?_
      refine zx_iconst (v := -1) dX7_putClauseInOrder_103 rfl (z32_lit (by decide) (by decide)) ?_
      refine zx_ixor (v := zxor kn (-1)) dX7_putClauseInOrder_104 rfl ?_
      refine zx_iand (v := zand (zw (zshl 1 ((R.2.2.2.1 pr).2.1.length : Int) - 1)) (zxor kn (-1))) dX7_putClauseInOrder_105 rfl ?_
      refine zx_pc (pc1 := 106) rfl ?_
      refine zx_if_ne (tgt := 113) dX7_putClauseInOrder_106 (by decide) (fun h106 => ?_) (fun h106 => ?_)
      · refine zx_iconst (v := 0) dX7_putClauseInOrder_113 rfl (z32_lit (by decide) (by decide)) ?_
        refine zx_zret dX7_putClauseInOrder_114 rfl (by first | exact Or.inl rfl | exact Or.inr rfl | exact zB_or | assumption) ?_
        have e : orV (R.2.2.2.1 pr).2.1 (true, kn, r1) = zB (zand (zw (zshl 1 ((R.2.2.2.1 pr).2.1.length : Int) - 1)) (zxor kn (-1)) = 0) := rfl
        exact zr_v (by rw [e, zB_f h106]) hw
      · refine zx_iconst (v := 1) dX7_putClauseInOrder_109 rfl (z32_lit (by decide) (by decide)) ?_
        refine zx_goto (tgt := 114) dX7_putClauseInOrder_110 (by decide) ?_
        refine zx_zret dX7_putClauseInOrder_114 rfl (by first | exact Or.inl rfl | exact Or.inr rfl | exact zB_or | assumption) ?_
        have e : orV (R.2.2.2.1 pr).2.1 (true, kn, r1) = zB (zand (zw (zshl 1 ((R.2.2.2.1 pr).2.1.length : Int) - 1)) (zxor kn (-1)) = 0) := rfl
        exact zr_v (by rw [e, zB_t (Decidable.not_not.mp h106)]) hw
    | succ n ih =>
      intro q tk kn r1 o6 o7 hq hs hk w1 hw
      have hpg1 := clPut_fr hC hs.2.1 hpg (by simp)
      rw [← hw] at hpg1
      have h01 := clPut_fr hC hs.2.1 h0 (by simp)
      rw [← hw] at h01
      have hgs1 := clPut_fr hC hs.2.1 hgs (by simp)
      rw [← hw] at hgs1
      have hmd1 := clPut_fr hC hs.2.1 hmd (by simp)
      rw [← hw] at hmd1
      have hpy1 := clPut_fr hC hs.2.1 hpy (by simp)
      rw [← hw] at hpy1
      have htt1 := clPut_fr hC hs.2.1 htt (by simp)
      rw [← hw] at htt1
      have hP1 : pgW w1 pg (pgSetC R c r1) := by rw [hw]; exact pgW_clPut hP hc hs
      have hC1 : clV w1 c r1 := by rw [hw]; exact clPut_get hC hs
      have hq5 : q < 5 := by omega
      have hl1 : r1.2.2.2.1.2.length < 1000 := by rw [hs.2.2.2.1]; omega
      have hgw : ∀ g ∈ (R.2.2.2.2.2.1 c).2.2.2.1.2, goW w1 g (R.2.2.2.2.2.2 g) := fun g hg => by
        obtain ⟨g1, g2, g3⟩ := hgo g hg
        rw [hw]
        exact ⟨clPut_fr hC hs.2.1 g1 (by simp), clPut_fr hC hs.2.1 g2 (by simp), g3⟩
      have hgo1 : ∀ g ∈ r1.2.2.2.1.2, goW w1 g ((pgSetC R c r1).2.2.2.2.2.2 g) := by rw [hs.2.2.2.1]; exact hgw
      have helG1 : ∀ y ∈ (R.2.2.2.2.2.1 c).2.2.2.1.2, ∃ a b, w1.1 y = some ((3, a, b) : zO) := fun y hy => ⟨_, _, (hgw y hy).1⟩
      have helG1b : ∀ y ∈ r1.2.2.2.1.2, ∃ a b, w1.1 y = some ((3, a, b) : zO) := by rw [hs.2.2.2.1]; exact helG1
      obtain ⟨go, ego⟩ : ∃ x, x = ngN R (R.2.2.2.2.2.1 c).2.2.2.1.2 tk kn (R.2.2.2.2.2.1 c).2.2.2.1.2.length 0 := ⟨_, rfl⟩
      cases hla : lAt (R.2.2.2.2.2.1 c).2.2.2.1.2 go with
      | none =>
        rw [ordS_n (by rw [← ego]; exact hla)]
        refine zx_iload (i := 5) dX7_putClauseInOrder_19 rfl ?_
        refine zx_aload_n (i := 1) dX7_putClauseInOrder_21 rfl rfl ?_
        refine zx_iv (b := c) (As := []) (st := [zI (q : Int)]) (v := (some (zI ((R.2.2.2.2.2.1 c).2.2.2.1.2.length : Int)))) (w1 := w1) dX7_putClauseInOrder_22 zc_X7_124 h01 rfl rfl rfl (Nat.le_of_ble_eq_true rfl) rfl (c_X1_goalCount h01 hgs1) ?_
        refine zx_st (st1 := [zI ((R.2.2.2.2.2.1 c).2.2.2.1.2.length : Int), zI (q : Int)]) rfl ?_
        refine zx_icmp_ge (tgt := 95) dX7_putClauseInOrder_25 (by decide) (fun h25 => absurd h25 (by omega)) (fun h25 => ?_)
        refine zx_aload_n (i := 0) dX7_putClauseInOrder_28 rfl rfl ?_
        refine zx_aload_n (i := 1) dX7_putClauseInOrder_29 rfl rfl ?_
        refine zx_iload (i := 4) dX7_putClauseInOrder_30 rfl ?_
        refine zx_iload_n (i := 3) dX7_putClauseInOrder_32 rfl rfl ?_
        refine zx_iv (b := pg) (As := [zR c, zI tk, zI kn]) (st := []) (v := (some (zI go))) (w1 := w1) dX7_putClauseInOrder_33 zc_X7_127 hpg1 rfl rfl rfl (Nat.le_of_ble_eq_true rfl) rfl (by have h := c_X7_nextGoal (G := G) (d := d + 1) hP1 hC1 hgo1 hl1 tk kn; rw [ngN_set, hs.2.2.2.1, ← ego] at h; exact h) ?_
        refine zx_st (st1 := [zI go]) rfl ?_
        refine zx_istore (i := 6) dX7_putClauseInOrder_36 (by decide) rfl ?_
        refine zx_L (L1 := [some (zR pg), some (zR c), some (zR md), some (zI kn), some (zI tk), some (zI (q : Int)), some (zI go), o7]) rfl ?_
        refine zx_aload_n (i := 1) dX7_putClauseInOrder_38 rfl rfl ?_
        refine zx_pc (pc1 := 39) rfl ?_
        refine zx_iload (i := 6) dX7_putClauseInOrder_39 rfl ?_
        refine zx_iv (b := c) (As := [zI go]) (st := []) (v := (some (zN))) (w1 := w1) dX7_putClauseInOrder_41 zc_X7_131 h01 rfl rfl rfl (Nat.le_of_ble_eq_true rfl) rfl (by have h := c_X1_goalNumbered (G := G) (d := d + 4) h01 hgs1 helG1 go; rw [hla] at h; exact h) ?_
        refine zx_st (st1 := [zN]) rfl ?_
        refine zx_astore (i := 7) dX7_putClauseInOrder_44 (by decide) rfl ?_
        refine zx_L (L1 := [some (zR pg), some (zR c), some (zR md), some (zI kn), some (zI tk), some (zI (q : Int)), some (zI go), some (zN)]) rfl ?_
        refine zx_aload (i := 7) dX7_putClauseInOrder_46 rfl ?_
        refine zx_ifnonnull (tgt := 53) dX7_putClauseInOrder_48 (by decide) (fun h => absurd rfl h) (fun _ => ?_)
        refine zx_iconst (v := 0) dX7_putClauseInOrder_51 rfl (z32_lit (by decide) (by decide)) ?_
        refine zx_zret dX7_putClauseInOrder_52 rfl (by first | exact Or.inl rfl | exact Or.inr rfl | exact zB_or | assumption) ?_
        exact zr_v (by unfold orV; rw [if_neg (by simp)]) hw
      | some g =>
        have hla0 : lAt (R.2.2.2.2.2.1 c).2.2.2.1.2 (ngN R (R.2.2.2.2.2.1 c).2.2.2.1.2 tk kn (R.2.2.2.2.2.1 c).2.2.2.1.2.length 0) = some g := by rw [← ego]; exact hla
        have hla1 : lAt r1.2.2.2.1.2 go = some g := by rw [hs.2.2.2.1]; exact hla
        have hGg1 : goW w1 g (R.2.2.2.2.2.2 g) := hgw g (lAt_mem hla)
        obtain ⟨hgg, hgv, hgx, hgn, hgk⟩ := id hGg1
        cases hch : chM R (R.2.2.2.2.2.2 g) kn with
        | none =>
          refine zx_iload (i := 5) dX7_putClauseInOrder_19 rfl ?_
          refine zx_aload_n (i := 1) dX7_putClauseInOrder_21 rfl rfl ?_
          refine zx_iv (b := c) (As := []) (st := [zI (q : Int)]) (v := (some (zI ((R.2.2.2.2.2.1 c).2.2.2.1.2.length : Int)))) (w1 := w1) dX7_putClauseInOrder_22 zc_X7_124 h01 rfl rfl rfl (Nat.le_of_ble_eq_true rfl) rfl (c_X1_goalCount h01 hgs1) ?_
          refine zx_st (st1 := [zI ((R.2.2.2.2.2.1 c).2.2.2.1.2.length : Int), zI (q : Int)]) rfl ?_
          refine zx_icmp_ge (tgt := 95) dX7_putClauseInOrder_25 (by decide) (fun h25 => absurd h25 (by omega)) (fun h25 => ?_)
          refine zx_aload_n (i := 0) dX7_putClauseInOrder_28 rfl rfl ?_
          refine zx_aload_n (i := 1) dX7_putClauseInOrder_29 rfl rfl ?_
          refine zx_iload (i := 4) dX7_putClauseInOrder_30 rfl ?_
          refine zx_iload_n (i := 3) dX7_putClauseInOrder_32 rfl rfl ?_
          refine zx_iv (b := pg) (As := [zR c, zI tk, zI kn]) (st := []) (v := (some (zI go))) (w1 := w1) dX7_putClauseInOrder_33 zc_X7_127 hpg1 rfl rfl rfl (Nat.le_of_ble_eq_true rfl) rfl (by have h := c_X7_nextGoal (G := G) (d := d + 1) hP1 hC1 hgo1 hl1 tk kn; rw [ngN_set, hs.2.2.2.1, ← ego] at h; exact h) ?_
          refine zx_st (st1 := [zI go]) rfl ?_
          refine zx_istore (i := 6) dX7_putClauseInOrder_36 (by decide) rfl ?_
          refine zx_L (L1 := [some (zR pg), some (zR c), some (zR md), some (zI kn), some (zI tk), some (zI (q : Int)), some (zI go), o7]) rfl ?_
          refine zx_aload_n (i := 1) dX7_putClauseInOrder_38 rfl rfl ?_
          refine zx_pc (pc1 := 39) rfl ?_
          refine zx_iload (i := 6) dX7_putClauseInOrder_39 rfl ?_
          refine zx_iv (b := c) (As := [zI go]) (st := []) (v := (some (zR g))) (w1 := w1) dX7_putClauseInOrder_41 zc_X7_131 h01 rfl rfl rfl (Nat.le_of_ble_eq_true rfl) rfl (by have h := c_X1_goalNumbered (G := G) (d := d + 4) h01 hgs1 helG1 go; rw [hla] at h; exact h) ?_
          refine zx_st (st1 := [zR g]) rfl ?_
          refine zx_astore (i := 7) dX7_putClauseInOrder_44 (by decide) rfl ?_
          refine zx_L (L1 := [some (zR pg), some (zR c), some (zR md), some (zI kn), some (zI tk), some (zI (q : Int)), some (zI go), some (zR g)]) rfl ?_
          refine zx_aload (i := 7) dX7_putClauseInOrder_46 rfl ?_
          refine zx_ifnonnull (tgt := 53) dX7_putClauseInOrder_48 (by decide) (fun _ => ?_) (fun h => by cases h)
          refine zx_aload_n (i := 1) dX7_putClauseInOrder_53 rfl rfl ?_
          refine zx_aload_n (i := 2) dX7_putClauseInOrder_54 rfl rfl ?_
          refine zx_getfield dX7_putClauseInOrder_55 zf_X7_57 hmd1 rfl ?_
          refine zx_iload (i := 6) dX7_putClauseInOrder_58 rfl ?_
          refine zx_aload_n (i := 0) dX7_putClauseInOrder_60 rfl rfl ?_
          refine zx_aload (i := 7) dX7_putClauseInOrder_61 rfl ?_
          refine zx_iload_n (i := 3) dX7_putClauseInOrder_63 rfl rfl ?_
          refine zx_pc (pc1 := 64) rfl ?_
          refine zx_iv (b := pg) (As := [zR g, zI kn]) (st := [zI go, zI (m : Int), zR c]) (v := (some (zN))) (w1 := w1) dX7_putClauseInOrder_64 zc_X7_135 hpg1 rfl rfl rfl (Nat.le_of_ble_eq_true rfl) rfl (by have h := c_X7_chooseMode (G := G) (d := d + 2) hP1 hGg1 kn; rw [show chM (pgSetC R c r1) (R.2.2.2.2.2.2 g) kn = _ from hch] at h; exact h) ?_
          refine zx_st (st1 := [zN, zI go, zI (m : Int), zR c]) rfl ?_
          refine zx_iload_n (i := 3) dX7_putClauseInOrder_67 rfl rfl ?_
          obtain ⟨w_1, hw_2⟩ : ∃ ww, ww = clPut w1 c (takeR r1 m q go kn g none) := ⟨_, rfl⟩
          refine zx_iv (b := c) (As := [zI (m : Int), zI go, zN, zI kn]) (st := []) (v := none) (w1 := w_1) dX7_putClauseInOrder_68 zc_X7_139 h01 rfl rfl rfl (Nat.le_of_ble_eq_true rfl) rfl (by rw [hw_2]; exact (c_X1_takeNext0 hC1 hm2 hk hq5 hla1 helG1b)) ?_
          refine zx_st (st1 := []) rfl ?_
          refine zx_iload (i := 4) dX7_putClauseInOrder_71 rfl ?_
          refine zx_iconst (v := 1) dX7_putClauseInOrder_73 rfl (z32_lit (by decide) (by decide)) ?_
          refine zx_iload (i := 6) dX7_putClauseInOrder_74 rfl ?_
          refine zx_ishl (v := zshl 1 go) dX7_putClauseInOrder_76 rfl ?_
          refine zx_ior (v := zor tk (zshl 1 go)) dX7_putClauseInOrder_77 rfl ?_
          refine zx_istore (i := 4) dX7_putClauseInOrder_78 (by decide) rfl ?_
          refine zx_L (L1 := [some (zR pg), some (zR c), some (zR md), some (zI kn), some (zI (zor tk (zshl 1 go))), some (zI (q : Int)), some (zI go), some (zR g)]) rfl ?_
          refine zx_iload_n (i := 3) dX7_putClauseInOrder_80 rfl rfl ?_
          refine zx_aload (i := 7) dX7_putClauseInOrder_81 rfl ?_
          refine zx_iconst (v := 0) dX7_putClauseInOrder_83 rfl (z32_lit (by decide) (by decide)) ?_
          refine zx_pc (pc1 := 84) rfl ?_
          have h_3 : w_1.1 g = some (3, 0, [zI (R.2.2.2.2.2.2 g).1, zI (R.2.2.2.2.2.2 g).2.1, zI (R.2.2.2.2.2.2 g).2.2.1, zR (R.2.2.2.2.2.2 g).2.2.2.1]) := by
            rw [hw_2]; exact (clPut_fr hC1 rfl hgg (by simp))
          have h_4 : w_1.1 ((R.2.2.2.2.2.2 g).2.2.2.1) = some (100, g, (R.2.2.2.2.2.2 g).2.2.2.2.map Sum.inl) := by
            rw [hw_2]; exact (clPut_fr hC1 rfl hgv (by simp))
          refine zx_iv (b := g) (As := [zI 0]) (st := [zI kn]) (v := (some (zI (vSt (R.2.2.2.2.2.2 g).2.2.2.2 ((R.2.2.2.2.2.2 g).2.2.1 - 0).toNat 0 0)))) (w1 := w_1) dX7_putClauseInOrder_84 zc_X7_143 h_3 rfl rfl rfl (Nat.le_of_ble_eq_true rfl) rfl (c_X3_variableSet h_3 h_4 hgx 0 (by decide) (by omega)) ?_
          refine zx_st (st1 := [zI (vSt (R.2.2.2.2.2.2 g).2.2.2.2 ((R.2.2.2.2.2.2 g).2.2.1 - 0).toNat 0 0), zI kn]) rfl ?_
          refine zx_ior (v := zor kn (vSt (R.2.2.2.2.2.2 g).2.2.2.2 ((R.2.2.2.2.2.2 g).2.2.1 - 0).toNat 0 0)) dX7_putClauseInOrder_87 rfl ?_
          refine zx_istore_n (i := 3) dX7_putClauseInOrder_88 rfl (by decide) rfl ?_
          refine zx_L (L1 := [some (zR pg), some (zR c), some (zR md), some (zI (zor kn (vSt (R.2.2.2.2.2.2 g).2.2.2.2 ((R.2.2.2.2.2.2 g).2.2.1 - 0).toNat 0 0))), some (zI (zor tk (zshl 1 go))), some (zI (q : Int)), some (zI go), some (zR g)]) rfl ?_
          refine zx_iinc (i := 5) (v := ((q + 1 : Nat) : Int)) dX7_putClauseInOrder_89 rfl (zw_eq (by omega) (by omega) (by omega)) (by decide) rfl ?_
          refine zx_L (L1 := [some (zR pg), some (zR c), some (zR md), some (zI (zor kn (vSt (R.2.2.2.2.2.2 g).2.2.2.2 ((R.2.2.2.2.2.2 g).2.2.1 - 0).toNat 0 0))), some (zI (zor tk (zshl 1 go))), some (zI ((q + 1 : Nat) : Int)), some (zI go), some (zR g)]) rfl ?_
          refine zx_goto (tgt := 19) dX7_putClauseInOrder_92 (by decide) ?_
          have e3 : ordS R m (R.2.2.2.2.2.1 c).2.2.2.1.2 (n + 1) q tk kn r1 = ordS R m (R.2.2.2.2.2.1 c).2.2.2.1.2 n (q + 1) (zor tk (zshl 1 go)) (zor kn (vSt (R.2.2.2.2.2.2 g).2.2.2.2 ((R.2.2.2.2.2.2 g).2.2.1 - 0).toNat 0 0)) (takeR r1 m q go kn g none) := by rw [ordS_y hla0, hch, ← ego]
          rw [e3]
          exact ih (q + 1) _ _ _ _ _ (by omega) (clSm_take hs) (cln_take hm2 hs.2.2.2.2.1) _ (by rw [hw_2, hw]; exact clPut_put (r1 := r1) rfl)
        | some x0 =>
          have hx0 := clPut_fr hC hs.2.1 (hMo x0 (chM_mem hP hch)) (by simp)
          rw [← hw] at hx0
          refine zx_iload (i := 5) dX7_putClauseInOrder_19 rfl ?_
          refine zx_aload_n (i := 1) dX7_putClauseInOrder_21 rfl rfl ?_
          refine zx_iv (b := c) (As := []) (st := [zI (q : Int)]) (v := (some (zI ((R.2.2.2.2.2.1 c).2.2.2.1.2.length : Int)))) (w1 := w1) dX7_putClauseInOrder_22 zc_X7_124 h01 rfl rfl rfl (Nat.le_of_ble_eq_true rfl) rfl (c_X1_goalCount h01 hgs1) ?_
          refine zx_st (st1 := [zI ((R.2.2.2.2.2.1 c).2.2.2.1.2.length : Int), zI (q : Int)]) rfl ?_
          refine zx_icmp_ge (tgt := 95) dX7_putClauseInOrder_25 (by decide) (fun h25 => absurd h25 (by omega)) (fun h25 => ?_)
          refine zx_aload_n (i := 0) dX7_putClauseInOrder_28 rfl rfl ?_
          refine zx_aload_n (i := 1) dX7_putClauseInOrder_29 rfl rfl ?_
          refine zx_iload (i := 4) dX7_putClauseInOrder_30 rfl ?_
          refine zx_iload_n (i := 3) dX7_putClauseInOrder_32 rfl rfl ?_
          refine zx_iv (b := pg) (As := [zR c, zI tk, zI kn]) (st := []) (v := (some (zI go))) (w1 := w1) dX7_putClauseInOrder_33 zc_X7_127 hpg1 rfl rfl rfl (Nat.le_of_ble_eq_true rfl) rfl (by have h := c_X7_nextGoal (G := G) (d := d + 1) hP1 hC1 hgo1 hl1 tk kn; rw [ngN_set, hs.2.2.2.1, ← ego] at h; exact h) ?_
          refine zx_st (st1 := [zI go]) rfl ?_
          refine zx_istore (i := 6) dX7_putClauseInOrder_36 (by decide) rfl ?_
          refine zx_L (L1 := [some (zR pg), some (zR c), some (zR md), some (zI kn), some (zI tk), some (zI (q : Int)), some (zI go), o7]) rfl ?_
          refine zx_aload_n (i := 1) dX7_putClauseInOrder_38 rfl rfl ?_
          refine zx_pc (pc1 := 39) rfl ?_
          refine zx_iload (i := 6) dX7_putClauseInOrder_39 rfl ?_
          refine zx_iv (b := c) (As := [zI go]) (st := []) (v := (some (zR g))) (w1 := w1) dX7_putClauseInOrder_41 zc_X7_131 h01 rfl rfl rfl (Nat.le_of_ble_eq_true rfl) rfl (by have h := c_X1_goalNumbered (G := G) (d := d + 4) h01 hgs1 helG1 go; rw [hla] at h; exact h) ?_
          refine zx_st (st1 := [zR g]) rfl ?_
          refine zx_astore (i := 7) dX7_putClauseInOrder_44 (by decide) rfl ?_
          refine zx_L (L1 := [some (zR pg), some (zR c), some (zR md), some (zI kn), some (zI tk), some (zI (q : Int)), some (zI go), some (zR g)]) rfl ?_
          refine zx_aload (i := 7) dX7_putClauseInOrder_46 rfl ?_
          refine zx_ifnonnull (tgt := 53) dX7_putClauseInOrder_48 (by decide) (fun _ => ?_) (fun h => by cases h)
          refine zx_aload_n (i := 1) dX7_putClauseInOrder_53 rfl rfl ?_
          refine zx_aload_n (i := 2) dX7_putClauseInOrder_54 rfl rfl ?_
          refine zx_getfield dX7_putClauseInOrder_55 zf_X7_57 hmd1 rfl ?_
          refine zx_iload (i := 6) dX7_putClauseInOrder_58 rfl ?_
          refine zx_aload_n (i := 0) dX7_putClauseInOrder_60 rfl rfl ?_
          refine zx_aload (i := 7) dX7_putClauseInOrder_61 rfl ?_
          refine zx_iload_n (i := 3) dX7_putClauseInOrder_63 rfl rfl ?_
          refine zx_pc (pc1 := 64) rfl ?_
          refine zx_iv (b := pg) (As := [zR g, zI kn]) (st := [zI go, zI (m : Int), zR c]) (v := (some (zR x0))) (w1 := w1) dX7_putClauseInOrder_64 zc_X7_135 hpg1 rfl rfl rfl (Nat.le_of_ble_eq_true rfl) rfl (by have h := c_X7_chooseMode (G := G) (d := d + 2) hP1 hGg1 kn; rw [show chM (pgSetC R c r1) (R.2.2.2.2.2.2 g) kn = _ from hch] at h; exact h) ?_
          refine zx_st (st1 := [zR x0, zI go, zI (m : Int), zR c]) rfl ?_
          refine zx_iload_n (i := 3) dX7_putClauseInOrder_67 rfl rfl ?_
          obtain ⟨w_1, hw_2⟩ : ∃ ww, ww = clPut w1 c (takeR r1 m q go kn g (some x0)) := ⟨_, rfl⟩
          refine zx_iv (b := c) (As := [zI (m : Int), zI go, zR x0, zI kn]) (st := []) (v := none) (w1 := w_1) dX7_putClauseInOrder_68 zc_X7_139 h01 rfl rfl rfl (Nat.le_of_ble_eq_true rfl) rfl (by rw [hw_2]; exact (c_X1_takeNext1 hC1 hx0 hm2 hk hq5 hla1 helG1b)) ?_
          refine zx_st (st1 := []) rfl ?_
          refine zx_iload (i := 4) dX7_putClauseInOrder_71 rfl ?_
          refine zx_iconst (v := 1) dX7_putClauseInOrder_73 rfl (z32_lit (by decide) (by decide)) ?_
          refine zx_iload (i := 6) dX7_putClauseInOrder_74 rfl ?_
          refine zx_ishl (v := zshl 1 go) dX7_putClauseInOrder_76 rfl ?_
          refine zx_ior (v := zor tk (zshl 1 go)) dX7_putClauseInOrder_77 rfl ?_
          refine zx_istore (i := 4) dX7_putClauseInOrder_78 (by decide) rfl ?_
          refine zx_L (L1 := [some (zR pg), some (zR c), some (zR md), some (zI kn), some (zI (zor tk (zshl 1 go))), some (zI (q : Int)), some (zI go), some (zR g)]) rfl ?_
          refine zx_iload_n (i := 3) dX7_putClauseInOrder_80 rfl rfl ?_
          refine zx_aload (i := 7) dX7_putClauseInOrder_81 rfl ?_
          refine zx_iconst (v := 0) dX7_putClauseInOrder_83 rfl (z32_lit (by decide) (by decide)) ?_
          refine zx_pc (pc1 := 84) rfl ?_
          have h_3 : w_1.1 g = some (3, 0, [zI (R.2.2.2.2.2.2 g).1, zI (R.2.2.2.2.2.2 g).2.1, zI (R.2.2.2.2.2.2 g).2.2.1, zR (R.2.2.2.2.2.2 g).2.2.2.1]) := by
            rw [hw_2]; exact (clPut_fr hC1 rfl hgg (by simp))
          have h_4 : w_1.1 ((R.2.2.2.2.2.2 g).2.2.2.1) = some (100, g, (R.2.2.2.2.2.2 g).2.2.2.2.map Sum.inl) := by
            rw [hw_2]; exact (clPut_fr hC1 rfl hgv (by simp))
          refine zx_iv (b := g) (As := [zI 0]) (st := [zI kn]) (v := (some (zI (vSt (R.2.2.2.2.2.2 g).2.2.2.2 ((R.2.2.2.2.2.2 g).2.2.1 - 0).toNat 0 0)))) (w1 := w_1) dX7_putClauseInOrder_84 zc_X7_143 h_3 rfl rfl rfl (Nat.le_of_ble_eq_true rfl) rfl (c_X3_variableSet h_3 h_4 hgx 0 (by decide) (by omega)) ?_
          refine zx_st (st1 := [zI (vSt (R.2.2.2.2.2.2 g).2.2.2.2 ((R.2.2.2.2.2.2 g).2.2.1 - 0).toNat 0 0), zI kn]) rfl ?_
          refine zx_ior (v := zor kn (vSt (R.2.2.2.2.2.2 g).2.2.2.2 ((R.2.2.2.2.2.2 g).2.2.1 - 0).toNat 0 0)) dX7_putClauseInOrder_87 rfl ?_
          refine zx_istore_n (i := 3) dX7_putClauseInOrder_88 rfl (by decide) rfl ?_
          refine zx_L (L1 := [some (zR pg), some (zR c), some (zR md), some (zI (zor kn (vSt (R.2.2.2.2.2.2 g).2.2.2.2 ((R.2.2.2.2.2.2 g).2.2.1 - 0).toNat 0 0))), some (zI (zor tk (zshl 1 go))), some (zI (q : Int)), some (zI go), some (zR g)]) rfl ?_
          refine zx_iinc (i := 5) (v := ((q + 1 : Nat) : Int)) dX7_putClauseInOrder_89 rfl (zw_eq (by omega) (by omega) (by omega)) (by decide) rfl ?_
          refine zx_L (L1 := [some (zR pg), some (zR c), some (zR md), some (zI (zor kn (vSt (R.2.2.2.2.2.2 g).2.2.2.2 ((R.2.2.2.2.2.2 g).2.2.1 - 0).toNat 0 0))), some (zI (zor tk (zshl 1 go))), some (zI ((q + 1 : Nat) : Int)), some (zI go), some (zR g)]) rfl ?_
          refine zx_goto (tgt := 19) dX7_putClauseInOrder_92 (by decide) ?_
          have e3 : ordS R m (R.2.2.2.2.2.1 c).2.2.2.1.2 (n + 1) q tk kn r1 = ordS R m (R.2.2.2.2.2.1 c).2.2.2.1.2 n (q + 1) (zor tk (zshl 1 go)) (zor kn (vSt (R.2.2.2.2.2.2 g).2.2.2.2 ((R.2.2.2.2.2.2 g).2.2.1 - 0).toNat 0 0)) (takeR r1 m q go kn g (some x0)) := by rw [ordS_y hla0, hch, ← ego]
          rw [e3]
          exact ih (q + 1) _ _ _ _ _ (by omega) (clSm_take hs) (cln_take hm2 hs.2.2.2.2.1) _ (by rw [hw_2, hw]; exact clPut_put (r1 := r1) rfl)
  refine zx_L (L1 := [some (zR pg), some (zR c), some (zR md), none, none, none, none, none]) rfl ?_
  show zX G zm_X7_putClauseInOrder (d + 8) [zR pg, zR c, zR md] w (zRet (some (zI (orV (R.2.2.2.1 pr).2.1 (ordS R m (R.2.2.2.2.2.1 c).2.2.2.1.2 (R.2.2.2.2.2.1 c).2.2.2.1.2.length 0 0 ins (orC (R.2.2.2.2.2.1 c) m))))) (clPut w c (ordS R m (R.2.2.2.2.2.1 c).2.2.2.1.2 (R.2.2.2.2.2.1 c).2.2.2.1.2.length 0 0 ins (orC (R.2.2.2.2.2.1 c) m)).2.2)) 0 _ [] w
  refine zx_aload_n (i := 1) dX7_putClauseInOrder_0 rfl rfl ?_
  refine zx_aload_n (i := 2) dX7_putClauseInOrder_1 rfl rfl ?_
  refine zx_getfield dX7_putClauseInOrder_2 zf_X7_57 hmd rfl ?_
  obtain ⟨w_1, hw_2⟩ : ∃ ww, ww = zput w ((R.2.2.2.2.2.1 c).2.1.2.2.1) (101, c, ((R.2.2.2.2.2.1 c).2.2.2.2.1.1.set m 0).map Sum.inl) := ⟨_, rfl⟩
  have h_3 : w_1.1 ((R.2.2.2.2.2.1 c).2.1.2.2.1) = some (101, c, ((R.2.2.2.2.2.1 c).2.2.2.2.1.1.set m 0).map Sum.inl) := by rw [hw_2]; exact zput_at
  refine zx_iv (b := c) (As := [zI (m : Int)]) (st := []) (v := none) (w1 := w_1) dX7_putClauseInOrder_5 zc_X7_117 h0 rfl rfl rfl (Nat.le_of_ble_eq_true rfl) rfl (by rw [hw_2]; exact (c_X1_clearOrder hC m hm2)) ?_
  refine zx_st (st1 := []) rfl ?_
  refine zx_aload_n (i := 2) dX7_putClauseInOrder_8 rfl rfl ?_
  have h_4 : w_1.1 md = some (5, 0, [zR pr, zI (m : Int), zI ins, zI pm, zI lo, zI gd, zI cf, zI cr, zI sw]) := by
    rw [hw_2]; exact zput_tg hle hmd (by simp)
  refine zx_getfield dX7_putClauseInOrder_9 zf_X7_121 h_4 rfl ?_
  refine zx_istore_n (i := 3) dX7_putClauseInOrder_12 rfl (by decide) rfl ?_
  refine zx_L (L1 := [some (zR pg), some (zR c), some (zR md), some (zI ins), none, none, none, none]) rfl ?_
  refine zx_iconst (v := 0) dX7_putClauseInOrder_13 rfl (z32_lit (by decide) (by decide)) ?_
  refine zx_istore (i := 4) dX7_putClauseInOrder_14 (by decide) rfl ?_
  refine zx_L (L1 := [some (zR pg), some (zR c), some (zR md), some (zI ins), some (zI 0), none, none, none]) rfl ?_
  refine zx_iconst (v := 0) dX7_putClauseInOrder_16 rfl (z32_lit (by decide) (by decide)) ?_
  refine zx_istore (i := 5) dX7_putClauseInOrder_17 (by decide) rfl ?_
  refine zx_L (L1 := [some (zR pg), some (zR c), some (zR md), some (zI ins), some (zI 0), some (zI 0), none, none]) rfl ?_
  exact loop _ 0 0 ins (orC (R.2.2.2.2.2.1 c) m) none none (by omega) (clSm_c hC) (cln_c hm2 (clV_len hC).1) _ (by rw [hw_2, clPut_clear hC])
end CPUT
