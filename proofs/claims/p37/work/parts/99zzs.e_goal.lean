/-! Own rows: addSame, addBuild, addCall at the level of the object. Printed by wip/p37/m_goal3.py. -/
theorem lAt_at {ys : List Nat} {i : Int} {y : Nat} (h : lAt ys i = some y) : 0 ≤ i ∧ ys[i.toNat]? = some y := by
  unfold lAt at h
  by_cases c : 0 ≤ i
  · rw [if_pos c] at h
    exact ⟨c, h⟩
  · rw [if_neg c] at h
    cases h
theorem pk3 {a b c : Int} {n : Int} (h0 : 0 < n → a = 0) (h1 : 1 < n → b = 0) (h2 : 2 < n → c = 0) (hn : n ≤ 3) (j : Nat) (hj : (j : Int) < n) : pk (j : Int) a b c = 0 := by
  unfold pk
  rcases (show j = 0 ∨ j = 1 ∨ j = 2 by omega) with e | e | e
  · subst e
    exact h0 (by omega)
  · subst e
    exact h1 (by omega)
  · subst e
    exact h2 (by omega)
section GOAL3
variable {G : zG} {d : Nat} {w : zW} {o k1 k2 : Nat} {ty : Int} {C : List (List Int)} {tm : List smG} {R : pgR} {comp asked sum : Int} {La : whL}
theorem w_as (h : whW w o k1 k2 ((ty, C), tm, R, (comp, asked, sum), La)) (hst0 : G.1.stackTraces = false) (hr : w.2.1 + 100 ≤ G.2.2.2.2.1 ∧ w.2.2 + 1000 ≤ G.2.2.2.2.2) (hI : lwT R) (i x z : Int) (hx : 0 ≤ x ∧ x < 8) (hz : 0 ≤ z ∧ z < 8) : zM G zm_X11_addSame (d + 8) [zR o, zI i, zI x, zI z] w (fwQ w o (k1 + 1000) (k2 + 200) (bdQ ((ty, C), tm, R, (comp, asked, sum), La) 0)) := by
  refine zM_ok (fun ok => ?_)
  obtain ⟨A, T, Sp, M, B, hW, r1, r2⟩ := id h
  obtain ⟨⟨t, tc, tn, th, tz⟩, pg, ⟨mc, fa, ca, ta⟩, ⟨⟨la, lai, laa, lan⟩, ⟨sp, spi, spa, spn⟩⟩, br, ⟨nd, va, ce, li⟩, ⟨ro, bi, le, wk⟩⟩ := A
  obtain ⟨N, H, Sz⟩ := T
  obtain ⟨ho, -, ⟨hT, htm⟩, ⟨hPg, hQ⟩, -⟩ := id hW
  cases hcc : lAt R.2.2.1.2.2 i with
  | none => exact zM_any (f_as_x0 (d := d) ho hPg i hcc x z hst0 (by omega) (by omega)) (bd_x h (by decide))
  | some c =>
    have hcm := lAt_mem hcc
    obtain ⟨-, t2⟩ := hI.2.1 c hcm
    have ty0 : ∀ v : Int, 0 ≤ v ∧ v < 8 → tg (R.2.2.2.2.2.1 c).2.2.1 v 0 = -1 ∨ tg (R.2.2.2.2.2.1 c).2.2.1 v 0 = 0 := fun v hv => by
      have q := t2 v.toNat
      rw [Int.toNat_of_nonneg hv.1] at q
      exact q
    have hoc : ∀ va : Nat, gOkC (pgC R) (gL (1, -1, 2, va, [x, z, 0])) := fun va => ⟨Nat.le_of_ble_eq_true rfl, Nat.le_of_ble_eq_true rfl, fun q => absurd q (by show ¬ ((1 : Nat) = 0); decide), fun _ => rfl, fun q => absurd q (by show ¬ ((2 : Nat) ≤ 1); decide)⟩
    by_cases hx1 : tg (R.2.2.2.2.2.1 c).2.2.1 x 0 = -1
    · by_cases hz1 : tg (R.2.2.2.2.2.1 c).2.2.1 z 0 = -1
      · exact zM_any (f_as_x1 (d := d) ho hPg i hcc x z hx hz hx1 hz1 hst0 (by omega) (by omega)) (bd_x h (by decide))
      · have e0 : tg (R.2.2.2.2.2.1 c).2.2.1 z 0 = 0 := (ty0 z hz).resolve_left hz1
        exact f_as_b (G := G) (d := d) ho hPg i hcc x z hx hz hx1 hz1 (fun w2 g va hg => w_ag ok h hst0 hr hI hcm hg (by decide) (by decide) _ _ _ (pk3 (fun _ => e0) (fun _ => e0) (fun q => absurd q (by decide)) (by decide)) hx hz (by decide) (hoc va) (fun q => absurd rfl q) (fun q => absurd q (by decide))) fw_fc.1 hst0 (by omega) (by omega)
    · have e0 : tg (R.2.2.2.2.2.1 c).2.2.1 x 0 = 0 := (ty0 x hx).resolve_left hx1
      exact f_as_a (G := G) (d := d) ho hPg i hcc x z hx hz hx1 (fun w2 g va hg => w_ag ok h hst0 hr hI hcm hg (by decide) (by decide) _ _ _ (pk3 (fun _ => e0) (fun _ => e0) (fun q => absurd q (by decide)) (by decide)) hx hz (by decide) (hoc va) (fun q => absurd rfl q) (fun q => absurd q (by decide))) fw_fc.1 hst0 (by omega) (by omega)
theorem w_ab (h : whW w o k1 k2 ((ty, C), tm, R, (comp, asked, sum), La)) (hst0 : G.1.stackTraces = false) (hr : w.2.1 + 100 ≤ G.2.2.2.2.1 ∧ w.2.2 + 1000 ≤ G.2.2.2.2.2) (hI : lwT R) (hC : C = C3) (i x kc y z : Int) (hx : 0 ≤ x ∧ x < 8) (hk : 0 ≤ kc ∧ kc < 3) (hy : 0 ≤ y ∧ y < 8) (hz : 0 ≤ z ∧ z < 8) : zM G zm_X11_addBuild (d + 8) [zR o, zI i, zI x, zI kc, zI y, zI z] w (fwQ w o (k1 + 1000) (k2 + 200) (bdQ ((ty, C), tm, R, (comp, asked, sum), La) 0)) := by
  refine zM_ok (fun ok => ?_)
  obtain ⟨A, T, Sp, M, B, hW, r1, r2⟩ := id h
  obtain ⟨⟨t, tc, tn, th, tz⟩, pg, ⟨mc, fa, ca, ta⟩, ⟨⟨la, lai, laa, lan⟩, ⟨sp, spi, spa, spn⟩⟩, br, ⟨nd, va, ce, li⟩, ⟨ro, bi, le, wk⟩⟩ := A
  obtain ⟨N, H, Sz⟩ := T
  obtain ⟨ho, -, ⟨hT, htm⟩, ⟨hPg, hQ⟩, -⟩ := id hW
  subst hC
  cases hcc : lAt R.2.2.1.2.2 i with
  | none => exact zM_any (f_ab_x0 (d := d) ho hT hPg i hcc x kc y z hst0 (by omega) (by omega)) (bd_x h (by decide))
  | some c =>
    have hcm := lAt_mem hcc
    rcases (show kc = 0 ∨ kc = 1 ∨ kc = 2 by omega) with e | e | e
    · subst e
      exact f_ab (G := G) (d := d) ho hT hPg i hcc x 0 y z hx hy hz (by decide) (by decide) (fun w2 g va hg => w_ag ok h hst0 hr hI hcm hg (by decide) (by decide) _ _ _ (pk3 (fun _ => by decide) (fun q => absurd q (by decide)) (fun q => absurd q (by decide)) (by decide)) hx hy hz ⟨Nat.le_of_ble_eq_true rfl, Nat.le_of_ble_eq_true rfl, fun _ => ⟨Nat.le_of_ble_eq_true rfl, rfl⟩, fun q => absurd q (by show ¬ ((0 : Nat) = 1); decide), fun q => absurd q (by show ¬ ((2 : Nat) ≤ 0); decide)⟩ (fun _ => by decide) (fun q => absurd q (by decide))) fw_fc.1 hst0 (by omega) (by omega)
    · subst e
      exact f_ab (G := G) (d := d) ho hT hPg i hcc x 1 y z hx hy hz (by decide) (by decide) (fun w2 g va hg => w_ag ok h hst0 hr hI hcm hg (by decide) (by decide) _ _ _ (pk3 (fun _ => by decide) (fun _ => by decide) (fun q => absurd q (by decide)) (by decide)) hx hy hz ⟨Nat.le_of_ble_eq_true rfl, Nat.le_of_ble_eq_true rfl, fun _ => ⟨Nat.le_of_ble_eq_true rfl, rfl⟩, fun q => absurd q (by show ¬ ((0 : Nat) = 1); decide), fun q => absurd q (by show ¬ ((2 : Nat) ≤ 0); decide)⟩ (fun _ => by decide) (fun q => absurd q (by decide))) fw_fc.1 hst0 (by omega) (by omega)
    · subst e
      exact f_ab (G := G) (d := d) ho hT hPg i hcc x 2 y z hx hy hz (by decide) (by decide) (fun w2 g va hg => w_ag ok h hst0 hr hI hcm hg (by decide) (by decide) _ _ _ (pk3 (fun _ => by decide) (fun q => absurd q (by decide)) (fun q => absurd q (by decide)) (by decide)) hx hy hz ⟨Nat.le_of_ble_eq_true rfl, Nat.le_of_ble_eq_true rfl, fun _ => ⟨Nat.le_of_ble_eq_true rfl, rfl⟩, fun q => absurd q (by show ¬ ((0 : Nat) = 1); decide), fun q => absurd q (by show ¬ ((2 : Nat) ≤ 0); decide)⟩ (fun _ => by decide) (fun q => absurd q (by decide))) fw_fc.1 hst0 (by omega) (by omega)
theorem w_cl (h : whW w o k1 k2 ((ty, C), tm, R, (comp, asked, sum), La)) (hst0 : G.1.stackTraces = false) (hr : w.2.1 + 100 ≤ G.2.2.2.2.1 ∧ w.2.2 + 1000 ≤ G.2.2.2.2.2) (hI : lwT R) (i j x y z dn : Int) (hx : 0 ≤ x ∧ x < 8) (hy : 0 ≤ y ∧ y < 8) (hz : 0 ≤ z ∧ z < 8) : zM G zm_X11_addCall (d + 8) [zR o, zI i, zI j, zI x, zI y, zI z, zI dn] w (fwQ w o (k1 + 1000) (k2 + 200) (bdQ ((ty, C), tm, R, (comp, asked, sum), La) 0)) := by
  refine zM_ok (fun ok => ?_)
  obtain ⟨A, T, Sp, M, B, hW, r1, r2⟩ := id h
  obtain ⟨⟨t, tc, tn, th, tz⟩, pg, ⟨mc, fa, ca, ta⟩, ⟨⟨la, lai, laa, lan⟩, ⟨sp, spi, spa, spn⟩⟩, br, ⟨nd, va, ce, li⟩, ⟨ro, bi, le, wk⟩⟩ := A
  obtain ⟨N, H, Sz⟩ := T
  obtain ⟨ho, -, ⟨hT, htm⟩, ⟨hPg, hQ⟩, -⟩ := id hW
  cases hcc : lAt R.2.2.1.2.2 i with
  | none =>
    cases hcp : lAt R.2.2.1.1 j with
    | none => exact zM_any (f_cl_x0c (d := d) ho hPg i hcc j x y z dn hcp hst0 (by omega) (by omega)) (bd_x h (by decide))
    | some pr => exact zM_any (f_cl_x0d (d := d) ho hPg i hcc j x y z dn hcp hst0 (by omega) (by omega)) (bd_x h (by decide))
  | some c =>
    cases hcp : lAt R.2.2.1.1 j with
    | none => exact zM_any (f_cl_x0p (d := d) ho hPg i hcc j x y z dn hcp hst0 (by omega) (by omega)) (bd_x h (by decide))
    | some pr =>
      have hcm := lAt_mem hcc
      have hpm := lAt_mem hcp
      obtain ⟨hj0, hjp⟩ := lAt_at hcp
      obtain ⟨n3, n4⟩ := pr_0 hI.1 hpm
      have a0 : tg (R.2.2.2.1 pr).2.1 0 0 = if 0 < (R.2.2.2.1 pr).2.1.length then 0 else -1 := n4 0
      have a1 : tg (R.2.2.2.1 pr).2.1 1 0 = if 1 < (R.2.2.2.1 pr).2.1.length then 0 else -1 := n4 1
      have a2 : tg (R.2.2.2.1 pr).2.1 2 0 = if 2 < (R.2.2.2.1 pr).2.1.length then 0 else -1 := n4 2
      have hpk := pk3 (a := tg (R.2.2.2.1 pr).2.1 0 0) (b := tg (R.2.2.2.1 pr).2.1 1 0) (c := tg (R.2.2.2.1 pr).2.1 2 0) (n := ((R.2.2.2.1 pr).2.1.length : Int)) (fun q => by rw [a0, if_pos (by omega)]) (fun q => by rw [a1, if_pos (by omega)]) (fun q => by rw [a2, if_pos (by omega)]) (by omega)
      have har : ((R.2.2.2.1 pr).2.1.length : Int).toNat = (pgC R).1.2 j.toNat := by
        rw [rd_ar (p := j.toNat) hjp, Int.toNat_natCast]
      by_cases hdn : dn = 0
      · exact f_cl2 (G := G) (d := d) ho hPg i hcc j x y z dn hx hy hz hcp hdn (fun w2 g va hg => w_ag ok h hst0 hr hI hcm hg (by decide) ⟨Int.natCast_nonneg _, by omega⟩ _ _ _ hpk hx hy hz ⟨Nat.le_of_ble_eq_true rfl, by show ((R.2.2.2.1 pr).2.1.length : Int).toNat ≤ 3; omega, fun q => absurd q (by show ¬ ((2 : Nat) = 0); decide), fun q => absurd q (by show ¬ ((2 : Nat) = 1); decide), fun _ => har⟩ (fun _ => hj0) (fun _ => ⟨pr, hjp⟩)) fw_fc.1 hst0 (by omega) (by omega)
      · exact f_cl3 (G := G) (d := d) ho hPg i hcc j x y z dn hx hy hz hcp hdn (fun w2 g va hg => w_ag ok h hst0 hr hI hcm hg (by decide) ⟨Int.natCast_nonneg _, by omega⟩ _ _ _ hpk hx hy hz ⟨Nat.le_of_ble_eq_true rfl, by show ((R.2.2.2.1 pr).2.1.length : Int).toNat ≤ 3; omega, fun q => absurd q (by show ¬ ((3 : Nat) = 0); decide), fun q => absurd q (by show ¬ ((3 : Nat) = 1); decide), fun _ => har⟩ (fun _ => hj0) (fun _ => ⟨pr, hjp⟩)) fw_fc.1 hst0 (by omega) (by omega)
end GOAL3
