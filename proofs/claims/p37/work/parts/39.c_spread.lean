/-! Own rows: what is found is spread. Walked by program (wip/p37/m_spread.py). -/
def pgSetM (R : pgR) (y : Nat) (r : moR) : pgR := (R.1, R.2.1, R.2.2.1, R.2.2.2.1, (fun z => if z = y then r else R.2.2.2.2.1 z), R.2.2.2.2.2)
theorem pgW_moPut {w : zW} {pg y : Nat} {R : pgR} {r : moR} (hP : pgW w pg R) (hy : y ∈ R.2.2.1.2.1) : pgW (zput w y (5, 0, moF r)) pg (pgSetM R y r) := by
  obtain ⟨hpg, hps, hms, hcs, hPr, hMo, hCl⟩ := hP
  have h0 := hMo y hy
  have fr : ∀ a ob, w.1 a = some ob → ob.1 ≠ 5 → (zput w y (5, 0, moF r)).1 a = some ob := fun a ob ha hn => zput_tg h0 ha (fun e => hn e.symm)
  refine ⟨fr _ _ hpg (by simp), fr _ _ hps (by simp), fr _ _ hms (by simp), fr _ _ hcs (by simp), ?_, ?_, ?_⟩
  · intro z hz
    obtain ⟨⟨a1, ⟨a2, a3⟩, a4, a5⟩, b⟩ := hPr z hz
    exact ⟨⟨fr _ _ a1 (by simp), ⟨fr _ _ a2 (by simp), a3⟩, fr _ _ a4 (by simp), fr _ _ a5 (by simp)⟩, b⟩
  · intro z hz
    by_cases e : z = y
    · subst e
      have e2 : (pgSetM R z r).2.2.2.2.1 z = r := if_pos rfl
      rw [e2]
      exact zput_at
    · have e2 : (pgSetM R y r).2.2.2.2.1 z = R.2.2.2.2.1 z := if_neg e
      rw [e2]
      exact zput_to e (hMo z hz)
  · intro z hz
    obtain ⟨a, b⟩ := hCl z hz
    obtain ⟨a0, ⟨a1, a2⟩, a3, ⟨a4, a5⟩, ⟨a6, a7⟩, ⟨a8, a9⟩, ⟨a10, a11⟩, ⟨a12, a13⟩⟩ := a
    refine ⟨⟨fr _ _ a0 (by simp), ⟨fr _ _ a1 (by simp), a2⟩, fr _ _ a3 (by simp), ⟨fr _ _ a4 (by simp), a5⟩, ⟨fr _ _ a6 (by simp), a7⟩, ⟨fr _ _ a8 (by simp), a9⟩, ⟨fr _ _ a10 (by simp), a11⟩, ⟨fr _ _ a12 (by simp), a13⟩⟩, fun g hg => ?_⟩
    obtain ⟨g1, g2, g3⟩ := b g hg
    exact ⟨fr _ _ g1 (by simp), fr _ _ g2 (by simp), g3⟩
/-- the modes belong to predicates of the program -/
def pgN (R : pgR) : Prop := ∀ y ∈ R.2.2.1.2.1, (R.2.2.2.2.1 y).1 ∈ R.2.2.1.1 ∧ (0 ≤ (R.2.2.2.2.1 y).2.1 ∧ (R.2.2.2.2.1 y).2.1 < 2) ∧ (R.2.2.2.1 (R.2.2.2.2.1 y).1).2.2.2.2.length < 1000
theorem pgN_set {R : pgR} {y : Nat} {r : moR} (h : pgN R) (hr1 : r.1 = (R.2.2.2.2.1 y).1) (hr2 : r.2.1 = (R.2.2.2.2.1 y).2.1) : pgN (pgSetM R y r) := by
  intro z hz
  have q := h z hz
  show ((if z = y then r else R.2.2.2.2.1 z).1 ∈ _ ∧ (0 ≤ (if z = y then r else R.2.2.2.2.1 z).2.1 ∧ (if z = y then r else R.2.2.2.2.1 z).2.1 < 2) ∧ (R.2.2.2.1 (if z = y then r else R.2.2.2.2.1 z).1).2.2.2.2.length < 1000)
  by_cases e : z = y
  · rw [if_pos e, hr1, hr2, ← e]; exact q
  · rw [if_neg e]; exact q
def badM (R : pgR) (y : Nat) : Bool := (R.2.2.2.1 (R.2.2.2.2.1 y).1).2.2.2.2.any (cbC R (R.2.2.2.2.1 y).2.1)
def setGd (r : moR) (v : Int) : moR := (r.1, r.2.1, r.2.2.1, r.2.2.2.1, r.2.2.2.2.1, v, r.2.2.2.2.2.2.1, r.2.2.2.2.2.2.2.1, r.2.2.2.2.2.2.2.2)
def spF : List Nat → Bool → zW → pgR → Bool × zW × pgR
  | [], b, w, R => (b, w, R)
  | y :: l, b, w, R => if (R.2.2.2.2.1 y).2.2.2.2.2.1 ≠ 0 ∧ badM R y = true then spF l true (zput w y (5, 0, moF (setGd (R.2.2.2.2.1 y) 0))) (pgSetM R y (setGd (R.2.2.2.2.1 y) 0)) else spF l b w R
theorem spF_y {y : Nat} {l : List Nat} {b : Bool} {w : zW} {R : pgR} (h : (R.2.2.2.2.1 y).2.2.2.2.2.1 ≠ 0 ∧ badM R y = true) : spF (y :: l) b w R = spF l true (zput w y (5, 0, moF (setGd (R.2.2.2.2.1 y) 0))) (pgSetM R y (setGd (R.2.2.2.2.1 y) 0)) := if_pos h
theorem spF_n {y : Nat} {l : List Nat} {b : Bool} {w : zW} {R : pgR} (h : ¬ ((R.2.2.2.2.1 y).2.2.2.2.2.1 ≠ 0 ∧ badM R y = true)) : spF (y :: l) b w R = spF l b w R := if_neg h
section CSPREAD
variable {G : zG} {d : Nat} {w : zW} {pg : Nat} {R : pgR}
theorem c_X7_spreadFaults {Ms : List Nat} (hP : pgW w pg R) (hO : pgO R) (hN : pgN R) (hMs0 : R.2.2.1.2.1 = Ms) (hlen : Ms.length < 1000) : zM G zm_X7_spreadFaults (d + 6) [zR pg] w (zRet (some (zI (zB ((spF Ms false w R).1 = true)))) (spF Ms false w R).2.1) := by
  refine zx_ent (by decide +kernel) rfl (Nat.le_of_ble_eq_true rfl) ?_
  have loop : ∀ (n q : Nat) (b : Bool) (o3 : Option zV) (w1 : zW) (R1 : pgR), q + n = Ms.length → pgW w1 pg R1 → pgO R1 → pgN R1 → R1.2.2.1.2.1 = Ms → zX G zm_X7_spreadFaults (d + 6) [zR pg] w (zRet (some (zI (zB ((spF (Ms.drop q) b w1 R1).1 = true)))) (spF (Ms.drop q) b w1 R1).2.1) 4 [some (zR pg), some (zI (zB (b = true))), some (zI (q : Int)), o3] [] w1 := by
    intro n
    induction n with
    | zero =>
      intro q b o3 w1 R1 hq hP1 hO1 hN1 hMs
      obtain ⟨hpg1, -, hms1, -⟩ := id hP1
      rw [hMs] at hms1
      rw [List.drop_eq_nil_of_le (by omega)]
      refine zx_iload_n (i := 2) dX7_spreadFaults_4 rfl rfl ?_
      refine zx_aload_n (i := 0) dX7_spreadFaults_5 rfl rfl ?_
      refine zx_getfield dX7_spreadFaults_6 zf_X7_18 hpg1 rfl ?_
      refine zx_iv (b := R1.1.2.1) (As := []) (st := [zI (q : Int)]) (v := (some (zI (Ms.length : Int)))) (w1 := w1) dX7_spreadFaults_9 zc_X7_24 hms1 (z_cls12 (by decide)) rfl rfl (Nat.le_of_ble_eq_true rfl) rfl (c_list_size hms1 (by decide)) ?_
      refine zx_st (st1 := [zI (Ms.length : Int), zI (q : Int)]) rfl ?_
      refine zx_icmp_ge (tgt := 54) dX7_spreadFaults_12 (by decide) (fun h12 => ?_) (fun h12 => absurd (by omega) h12)
      refine zx_iload_n (i := 1) dX7_spreadFaults_54 rfl rfl ?_
      refine zx_zret dX7_spreadFaults_55 rfl (by first | exact Or.inl rfl | exact Or.inr rfl | exact zB_or | assumption) ?_
      exact zr_v rfl rfl
    | succ n ih =>
      intro q b o3 w1 R1 hq hP1 hO1 hN1 hMs
      obtain ⟨hpg1, -, hms1, -, hPr1, hMo1, -⟩ := id hP1
      rw [hMs] at hms1
      obtain ⟨y, hyq⟩ : ∃ y, Ms[q]? = some y := ⟨_, List.getElem?_eq_getElem (by omega)⟩
      have hym : y ∈ R1.2.2.1.2.1 := by rw [hMs]; exact List.mem_of_getElem? hyq
      have hy1 := hMo1 y hym
      unfold moW at hy1
      obtain ⟨hpr1, hnu, hlen1⟩ := hN1 y hym
      rw [drop_cons hyq]
      have hbad : badM R1 y = (R1.2.2.2.1 (R1.2.2.2.2.1 y).1).2.2.2.2.any (cbC R1 (R1.2.2.2.2.1 y).2.1) := rfl
      rcases hmr : R1.2.2.2.2.1 y with ⟨pr, nu, ins, pm, lo, gd, cf, cr, sw⟩
      rw [hmr] at hy1 hpr1 hnu hlen1 hbad
      simp only at hpr1 hnu hlen1 hbad
      obtain ⟨m, rfl⟩ : ∃ m : Nat, nu = m := ⟨nu.toNat, by omega⟩
      by_cases hgd : gd = 0
      · rw [spF_n (by rw [hmr]; exact fun h => h.1 hgd)]
        refine zx_iload_n (i := 2) dX7_spreadFaults_4 rfl rfl ?_
        refine zx_aload_n (i := 0) dX7_spreadFaults_5 rfl rfl ?_
        refine zx_getfield dX7_spreadFaults_6 zf_X7_18 hpg1 rfl ?_
        refine zx_iv (b := R1.1.2.1) (As := []) (st := [zI (q : Int)]) (v := (some (zI (Ms.length : Int)))) (w1 := w1) dX7_spreadFaults_9 zc_X7_24 hms1 (z_cls12 (by decide)) rfl rfl (Nat.le_of_ble_eq_true rfl) rfl (c_list_size hms1 (by decide)) ?_
        refine zx_st (st1 := [zI (Ms.length : Int), zI (q : Int)]) rfl ?_
        refine zx_icmp_ge (tgt := 54) dX7_spreadFaults_12 (by decide) (fun h12 => absurd h12 (by omega)) (fun h12 => ?_)
        refine zx_aload_n (i := 0) dX7_spreadFaults_15 rfl rfl ?_
        refine zx_getfield dX7_spreadFaults_16 zf_X7_18 hpg1 rfl ?_
        refine zx_iload_n (i := 2) dX7_spreadFaults_19 rfl rfl ?_
        refine zx_iv (b := R1.1.2.1) (As := [zI (q : Int)]) (st := []) (v := (some (zR y))) (w1 := w1) dX7_spreadFaults_20 zc_X7_28 hms1 (z_cls12 (by decide)) rfl rfl (Nat.le_of_ble_eq_true rfl) rfl (c_list_get hms1 (by decide) (by omega) (by rw [Int.toNat_natCast]; exact hyq)) ?_
        refine zx_st (st1 := [zR y]) rfl ?_
        refine zx_castR dX7_spreadFaults_23 hy1 rfl zl_X7_51 ?_
        refine zx_astore_n (i := 3) dX7_spreadFaults_26 rfl (by decide) rfl ?_
        refine zx_L (L1 := [some (zR pg), some (zI (zB (b = true))), some (zI (q : Int)), some (zR y)]) rfl ?_
        refine zx_pc (pc1 := 27) rfl ?_
        refine zx_aload_n (i := 3) dX7_spreadFaults_27 rfl rfl ?_
        refine zx_getfield dX7_spreadFaults_28 zf_X7_70 hy1 rfl ?_
        refine zx_if_eq (tgt := 48) dX7_spreadFaults_31 (by decide) (fun h31 => ?_) (fun h31 => absurd (hgd) h31)
        refine zx_iinc (i := 2) (v := ((q + 1 : Nat) : Int)) dX7_spreadFaults_48 rfl (zw_eq (by omega) (by omega) (by omega)) (by decide) rfl ?_
        refine zx_L (L1 := [some (zR pg), some (zI (zB (b = true))), some (zI ((q + 1 : Nat) : Int)), some (zR y)]) rfl ?_
        refine zx_goto (tgt := 4) dX7_spreadFaults_51 (by decide) ?_
        exact ih (q + 1) b _ w1 R1 (by omega) hP1 hO1 hN1 hMs
      · by_cases hb : badM R1 y = true
        · rw [spF_y ⟨by rw [hmr]; exact hgd, hb⟩]
          refine zx_iload_n (i := 2) dX7_spreadFaults_4 rfl rfl ?_
          refine zx_aload_n (i := 0) dX7_spreadFaults_5 rfl rfl ?_
          refine zx_getfield dX7_spreadFaults_6 zf_X7_18 hpg1 rfl ?_
          refine zx_iv (b := R1.1.2.1) (As := []) (st := [zI (q : Int)]) (v := (some (zI (Ms.length : Int)))) (w1 := w1) dX7_spreadFaults_9 zc_X7_24 hms1 (z_cls12 (by decide)) rfl rfl (Nat.le_of_ble_eq_true rfl) rfl (c_list_size hms1 (by decide)) ?_
          refine zx_st (st1 := [zI (Ms.length : Int), zI (q : Int)]) rfl ?_
          refine zx_icmp_ge (tgt := 54) dX7_spreadFaults_12 (by decide) (fun h12 => absurd h12 (by omega)) (fun h12 => ?_)
          refine zx_aload_n (i := 0) dX7_spreadFaults_15 rfl rfl ?_
          refine zx_getfield dX7_spreadFaults_16 zf_X7_18 hpg1 rfl ?_
          refine zx_iload_n (i := 2) dX7_spreadFaults_19 rfl rfl ?_
          refine zx_iv (b := R1.1.2.1) (As := [zI (q : Int)]) (st := []) (v := (some (zR y))) (w1 := w1) dX7_spreadFaults_20 zc_X7_28 hms1 (z_cls12 (by decide)) rfl rfl (Nat.le_of_ble_eq_true rfl) rfl (c_list_get hms1 (by decide) (by omega) (by rw [Int.toNat_natCast]; exact hyq)) ?_
          refine zx_st (st1 := [zR y]) rfl ?_
          refine zx_castR dX7_spreadFaults_23 hy1 rfl zl_X7_51 ?_
          refine zx_astore_n (i := 3) dX7_spreadFaults_26 rfl (by decide) rfl ?_
          refine zx_L (L1 := [some (zR pg), some (zI (zB (b = true))), some (zI (q : Int)), some (zR y)]) rfl ?_
          refine zx_pc (pc1 := 27) rfl ?_
          refine zx_aload_n (i := 3) dX7_spreadFaults_27 rfl rfl ?_
          refine zx_getfield dX7_spreadFaults_28 zf_X7_70 hy1 rfl ?_
          refine zx_if_eq (tgt := 48) dX7_spreadFaults_31 (by decide) (fun h31 => absurd h31 (hgd)) (fun h31 => ?_)
          refine zx_aload_n (i := 3) dX7_spreadFaults_34 rfl rfl ?_
          refine zx_is (As := [zR y]) (st := []) (v := (some (zI (zB (badM R1 y = true))))) (w1 := w1) dX7_spreadFaults_35 zc_X7_185 rfl (Nat.le_of_ble_eq_true rfl) rfl (by have h := c_X7_choosesBad (G := G) (d := d) hP1 hO1 hym hmr hpr1 rfl hlen1; rw [← hbad] at h; exact h) ?_
          refine zx_st (st1 := [zI (zB (badM R1 y = true))]) rfl ?_
          refine zx_if_eq (tgt := 48) dX7_spreadFaults_38 (by decide) (fun h38 => absurd h38 (by rw [zB_t hb]; decide)) (fun h38 => ?_)
          refine zx_aload_n (i := 3) dX7_spreadFaults_41 rfl rfl ?_
          refine zx_iconst (v := 0) dX7_spreadFaults_42 rfl (z32_lit (by decide) (by decide)) ?_
          obtain ⟨w_1, hw_2⟩ : ∃ ww, ww = zput w1 y (5, 0, [zR pr, zI (m : Int), zI ins, zI pm, zI lo, zI 0, zI cf, zI cr, zI sw]) := ⟨_, rfl⟩
          refine zx_put (w1 := w_1) dX7_spreadFaults_43 zf_X7_70 hy1 (Nat.le_of_ble_eq_true rfl) (zFt_bool (by first | exact Or.inl rfl | exact Or.inr rfl | exact zB_or | assumption)) (fun h => by cases h) hw_2.symm ?_
          have h_3 : w_1.1 y = some (5, 0, [zR pr, zI (m : Int), zI ins, zI pm, zI lo, zI 0, zI cf, zI cr, zI sw]) := by rw [hw_2]; exact zput_at
          refine zx_iconst (v := 1) dX7_spreadFaults_46 rfl (z32_lit (by decide) (by decide)) ?_
          refine zx_istore_n (i := 1) dX7_spreadFaults_47 rfl (by decide) rfl ?_
          refine zx_L (L1 := [some (zR pg), some (zI 1), some (zI (q : Int)), some (zR y)]) rfl ?_
          refine zx_iinc (i := 2) (v := ((q + 1 : Nat) : Int)) dX7_spreadFaults_48 rfl (zw_eq (by omega) (by omega) (by omega)) (by decide) rfl ?_
          refine zx_L (L1 := [some (zR pg), some (zI 1), some (zI ((q + 1 : Nat) : Int)), some (zR y)]) rfl ?_
          refine zx_pc (pc1 := 51) rfl ?_
          refine zx_goto (tgt := 4) dX7_spreadFaults_51 (by decide) ?_
          rw [show zI 1 = zI (zB (true = true)) from rfl, hw_2, hmr]
          exact ih (q + 1) true _ (zput w1 y (5, 0, moF (setGd (pr, (m : Int), ins, pm, lo, gd, cf, cr, sw) 0))) (pgSetM R1 y (setGd (pr, (m : Int), ins, pm, lo, gd, cf, cr, sw) 0)) (by omega) (pgW_moPut hP1 hym) hO1 (pgN_set hN1 (by rw [hmr]; rfl) (by rw [hmr]; rfl)) hMs
        · rw [spF_n (fun h => hb h.2)]
          refine zx_iload_n (i := 2) dX7_spreadFaults_4 rfl rfl ?_
          refine zx_aload_n (i := 0) dX7_spreadFaults_5 rfl rfl ?_
          refine zx_getfield dX7_spreadFaults_6 zf_X7_18 hpg1 rfl ?_
          refine zx_iv (b := R1.1.2.1) (As := []) (st := [zI (q : Int)]) (v := (some (zI (Ms.length : Int)))) (w1 := w1) dX7_spreadFaults_9 zc_X7_24 hms1 (z_cls12 (by decide)) rfl rfl (Nat.le_of_ble_eq_true rfl) rfl (c_list_size hms1 (by decide)) ?_
          refine zx_st (st1 := [zI (Ms.length : Int), zI (q : Int)]) rfl ?_
          refine zx_icmp_ge (tgt := 54) dX7_spreadFaults_12 (by decide) (fun h12 => absurd h12 (by omega)) (fun h12 => ?_)
          refine zx_aload_n (i := 0) dX7_spreadFaults_15 rfl rfl ?_
          refine zx_getfield dX7_spreadFaults_16 zf_X7_18 hpg1 rfl ?_
          refine zx_iload_n (i := 2) dX7_spreadFaults_19 rfl rfl ?_
          refine zx_iv (b := R1.1.2.1) (As := [zI (q : Int)]) (st := []) (v := (some (zR y))) (w1 := w1) dX7_spreadFaults_20 zc_X7_28 hms1 (z_cls12 (by decide)) rfl rfl (Nat.le_of_ble_eq_true rfl) rfl (c_list_get hms1 (by decide) (by omega) (by rw [Int.toNat_natCast]; exact hyq)) ?_
          refine zx_st (st1 := [zR y]) rfl ?_
          refine zx_castR dX7_spreadFaults_23 hy1 rfl zl_X7_51 ?_
          refine zx_astore_n (i := 3) dX7_spreadFaults_26 rfl (by decide) rfl ?_
          refine zx_L (L1 := [some (zR pg), some (zI (zB (b = true))), some (zI (q : Int)), some (zR y)]) rfl ?_
          refine zx_pc (pc1 := 27) rfl ?_
          refine zx_aload_n (i := 3) dX7_spreadFaults_27 rfl rfl ?_
          refine zx_getfield dX7_spreadFaults_28 zf_X7_70 hy1 rfl ?_
          refine zx_if_eq (tgt := 48) dX7_spreadFaults_31 (by decide) (fun h31 => absurd h31 (hgd)) (fun h31 => ?_)
          refine zx_aload_n (i := 3) dX7_spreadFaults_34 rfl rfl ?_
          refine zx_is (As := [zR y]) (st := []) (v := (some (zI (zB (badM R1 y = true))))) (w1 := w1) dX7_spreadFaults_35 zc_X7_185 rfl (Nat.le_of_ble_eq_true rfl) rfl (by have h := c_X7_choosesBad (G := G) (d := d) hP1 hO1 hym hmr hpr1 rfl hlen1; rw [← hbad] at h; exact h) ?_
          refine zx_st (st1 := [zI (zB (badM R1 y = true))]) rfl ?_
          refine zx_if_eq (tgt := 48) dX7_spreadFaults_38 (by decide) (fun h38 => ?_) (fun h38 => absurd (zB_f hb) h38)
          refine zx_iinc (i := 2) (v := ((q + 1 : Nat) : Int)) dX7_spreadFaults_48 rfl (zw_eq (by omega) (by omega) (by omega)) (by decide) rfl ?_
          refine zx_L (L1 := [some (zR pg), some (zI (zB (b = true))), some (zI ((q + 1 : Nat) : Int)), some (zR y)]) rfl ?_
          refine zx_goto (tgt := 4) dX7_spreadFaults_51 (by decide) ?_
          exact ih (q + 1) b _ w1 R1 (by omega) hP1 hO1 hN1 hMs
  have h0 := loop Ms.length 0 false none w R (by omega) hP hO hN hMs0
  rw [List.drop_zero] at h0
  refine zx_L (L1 := [some (zR pg), none, none, none]) rfl ?_
  refine zx_iconst (v := 0) dX7_spreadFaults_0 rfl (z32_lit (by decide) (by decide)) ?_
  refine zx_istore_n (i := 1) dX7_spreadFaults_1 rfl (by decide) rfl ?_
  refine zx_L (L1 := [some (zR pg), some (zI 0), none, none]) rfl ?_
  refine zx_iconst (v := 0) dX7_spreadFaults_2 rfl (z32_lit (by decide) (by decide)) ?_
  refine zx_istore_n (i := 2) dX7_spreadFaults_3 rfl (by decide) rfl ?_
  refine zx_L (L1 := [some (zR pg), some (zI 0), some (zI 0), none]) rfl ?_
  exact h0
end CSPREAD
