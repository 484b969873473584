/-! Own rows: what a call of the face tells at the level of the object, and what the law's call makes of it; further readers. By hand. -/
/-- a number or a throw, and the object behind it -/
def fwQ (w : zW) (o k1 k2 : Nat) (P : Int ⊕ Nat → whS → Prop) : zQ := fun out w' => ∃ (r : Int ⊕ Nat) (S' : whS), P r S' ∧ (whW w' o k1 k2 S' ∧ zSc w w') ∧ match r with
  | .inl n => out = .inl (some (zI n))
  | .inr i => i < 5 ∧ out = .inr i
def rvN : Int ⊕ Nat → Int
  | .inl n => n
  | .inr i => -1001 - (i : Int)
/-- the law's call: always a number -/
def lwQ (w : zW) (o k1 k2 : Nat) (P : Int ⊕ Nat → whS → Prop) : zQ := fun out w' => ∃ (r : Int ⊕ Nat) (S' : whS), P r S' ∧ (whW w' o k1 k2 S' ∧ zSc w w') ∧ out = .inl (some (zI (rvN r)))
section FW
variable {G : zG} {d : Nat} {w : zW} {o k1 k2 : Nat} {P P' : Int ⊕ Nat → whS → Prop}
theorem fw_fc : fcQ (fwQ w o k1 k2 P) := by
  refine ⟨fun v w' h => ?_, fun i w' h => ?_⟩
  · obtain ⟨r, S', -, -, e⟩ := h
    cases r with
    | inl n => exact ⟨n, Sum.inl.inj e⟩
    | inr i => exact absurd e.2 (by simp)
  · obtain ⟨r, S', -, -, e⟩ := h
    cases r with
    | inl n => exact absurd e (by simp)
    | inr j =>
      obtain ⟨e1, e2⟩ := e
      cases e2
      exact e1
theorem lw_fw : ∀ out w', lcQ (fwQ w o k1 k2 P) out w' → lwQ w o k1 k2 P out w' := fun out w' h => by
  rcases h with ⟨n, e, r, S', p, q, z⟩ | ⟨i, hi, e, r, S', p, q, z⟩
  · refine ⟨r, S', p, q, ?_⟩
    cases r with
    | inl m =>
      rw [e]
      exact z
    | inr j => exact absurd z.2 (by simp)
  · refine ⟨r, S', p, q, ?_⟩
    cases r with
    | inl m => exact absurd z (by simp)
    | inr j =>
      obtain ⟨-, z⟩ := z
      cases z
      exact e
theorem fw_rd {S : whS} {r : Int ⊕ Nat} (hr : ∀ i, r = .inr i → i < 5) : ∀ out w', rdO w o k1 k2 S r out w' → fwQ w o (k1 + 60) (k2 + 6) (fun q S' => q = r ∧ S' = S) out w' := fun out w' h => by
  obtain ⟨h1, h2⟩ := h
  refine ⟨r, S, ⟨rfl, rfl⟩, h1, ?_⟩
  cases r with
  | inl n => exact h2
  | inr i => exact ⟨hr i rfl, h2⟩
theorem fw_le {k3 k4 : Nat} (h1 : k1 ≤ k3) (h2 : k2 ≤ k4) (hp : ∀ r S', P r S' → P' r S') : ∀ out w', fwQ w o k1 k2 P out w' → fwQ w o k3 k4 P' out w' := fun out w' h => by
  obtain ⟨r, S', p, ⟨q1, q2⟩, z⟩ := h
  exact ⟨r, S', hp r S' p, ⟨whW_le q1 h1 h2, q2⟩, z⟩
theorem lw_le {k3 k4 : Nat} (h1 : k1 ≤ k3) (h2 : k2 ≤ k4) (hp : ∀ r S', P r S' → P' r S') : ∀ out w', lwQ w o k1 k2 P out w' → lwQ w o k3 k4 P' out w' := fun out w' h => by
  obtain ⟨r, S', p, ⟨q1, q2⟩, z⟩ := h
  exact ⟨r, S', hp r S' p, ⟨whW_le q1 h1 h2, q2⟩, z⟩
end FW
section RD4
variable {G : zG} {d : Nat} {w : zW} {o k1 k2 : Nat} {ty : Int} {C : List (List Int)} {tm : List smG} {R : pgR} {comp asked sum : Int} {mo : Option Nat} {I An Nt : List (List Int)} {sc cc dc en bk bc : Int}
theorem w_aa (h : whW w o k1 k2 ((ty, C), tm, R, (comp, asked, sum), (mo, (I, An, Nt), (sc, cc, dc, en, bk, bc)))) (hst0 : G.1.stackTraces = false) (hr : w.2.1 + 100 ≤ G.2.2.2.2.1 ∧ w.2.2 + 1000 ≤ G.2.2.2.2.2) (i j : Int) (hm : asked ≠ 0 → ∃ md, mo = some md ∧ md ∈ R.2.2.1.2.1 ∧ (R.2.2.2.2.1 md).1 ∈ R.2.2.1.1) : zM G zm_X11_answerAt (d + 6) [zR o, zI i, zI j] w (rdO w o k1 k2 ((ty, C), tm, R, (comp, asked, sum), (mo, (I, An, Nt), (sc, cc, dc, en, bk, bc))) (if asked = 0 then .inr 4 else if (0 ≤ i ∧ i < (An.length : Int)) ∧ (0 ≤ j ∧ j < ((R.2.2.2.1 (R.2.2.2.2.1 (mo.getD 0)).1).2.1.length : Int)) then .inl (tg An i j) else .inr 0)) := by
  obtain ⟨A, T, Sp, M, B, hP, h1, h2⟩ := id h
  obtain ⟨⟨t, tc, tn, th, tz⟩, pg, ⟨mc, fa, ca, ta⟩, ⟨⟨la, lai, laa, lan⟩, ⟨sp, spi, spa, spn⟩⟩, br, ⟨nd, va, ce, li⟩, ⟨ro, bi, le, wk⟩⟩ := A
  obtain ⟨N, H, Sz⟩ := T
  obtain ⟨ho, -, ⟨hT, htm⟩, ⟨hP, hQ⟩, hL, -⟩ := hP
  by_cases ha : asked = 0
  · rw [if_pos ha]
    exact zM_any (f_aa_x4 (d := d + 1) ho ha i j hst0 (by omega) (by omega)) (rd_x h)
  · rw [if_neg ha]
    obtain ⟨md, e, m1, m2⟩ := hm ha
    subst e
    have hmd := hP.2.2.2.2.2.1 md m1
    have hpr := (hP.2.2.2.2.1 _ m2).1
    by_cases hi : 0 ≤ i ∧ i < (An.length : Int)
    · by_cases hj : 0 ≤ j ∧ j < ((R.2.2.2.1 (R.2.2.2.2.1 md).1).2.1.length : Int)
      · rw [if_pos ⟨hi, hj⟩]
        exact zM_any (f_aa_ok (d := d + 3) ho ha hmd hpr hL i j hi hj) (rd_v h)
      · rw [if_neg (fun q => hj q.2)]
        exact zM_any (f_aa_x0j (d := d + 3) ho ha hmd hpr hL i j hi hj hst0 (by omega) (by omega)) (rd_x h)
    · rw [if_neg (fun q => hi q.1)]
      exact zM_any (f_aa_x0 (d := d + 3) ho ha hL i j hi hst0 (by omega) (by omega)) (rd_x h)
theorem w_mu (h : whW w o k1 k2 ((ty, C), tm, R, (comp, asked, sum), (mo, (I, An, Nt), (sc, cc, dc, en, bk, bc)))) (hst0 : G.1.stackTraces = false) (hr : w.2.1 + 100 ≤ G.2.2.2.2.1 ∧ w.2.2 + 1000 ≤ G.2.2.2.2.2) (hA : An.length < 1000) (i : Int) : zM G zm_X11_multiplicity (d + 6) [zR o, zI i] w (rdO w o k1 k2 ((ty, C), tm, R, (comp, asked, sum), (mo, (I, An, Nt), (sc, cc, dc, en, bk, bc))) (if asked = 0 then .inr 4 else if 0 ≤ i ∧ i < (An.length : Int) then .inl (rpLike An i An.length) else .inr 0)) := by
  obtain ⟨A, T, Sp, M, B, hP, h1, h2⟩ := id h
  obtain ⟨⟨t, tc, tn, th, tz⟩, pg, ⟨mc, fa, ca, ta⟩, ⟨⟨la, lai, laa, lan⟩, ⟨sp, spi, spa, spn⟩⟩, br, ⟨nd, va, ce, li⟩, ⟨ro, bi, le, wk⟩⟩ := A
  obtain ⟨N, H, Sz⟩ := T
  obtain ⟨ho, -, ⟨hT, htm⟩, ⟨hP, hQ⟩, hL, -⟩ := hP
  by_cases ha : asked = 0
  · rw [if_pos ha]
    exact zM_any (f_mu_x4 (d := d + 1) ho ha i hst0 (by omega) (by omega)) (rd_x h)
  · rw [if_neg ha]
    by_cases hi : 0 ≤ i ∧ i < (An.length : Int)
    · rw [if_pos hi]
      exact zM_any (f_mu_ok (d := d + 3) ho ha hL hA i hi) (rd_v h)
    · rw [if_neg hi]
      exact zM_any (f_mu_x0 (d := d + 3) ho ha hL i hi hst0 (by omega) (by omega)) (rd_x h)
theorem w_bb (h : whW w o k1 k2 ((ty, C), tm, R, (comp, asked, sum), (mo, (I, An, Nt), (sc, cc, dc, en, bk, bc)))) (hst0 : G.1.stackTraces = false) (hr : w.2.1 + 100 ≤ G.2.2.2.2.1 ∧ w.2.2 + 1000 ≤ G.2.2.2.2.2) (hb : asked ≠ 0 → bk ≠ 0) : zM G zm_X11_answersByBreadth (d + 5) [zR o] w (rdO w o k1 k2 ((ty, C), tm, R, (comp, asked, sum), (mo, (I, An, Nt), (sc, cc, dc, en, bk, bc))) (if asked = 0 then .inr 4 else if bc = -1 then .inr 3 else .inl bc)) := by
  obtain ⟨A, T, Sp, M, B, hP, h1, h2⟩ := id h
  obtain ⟨⟨t, tc, tn, th, tz⟩, pg, ⟨mc, fa, ca, ta⟩, ⟨⟨la, lai, laa, lan⟩, ⟨sp, spi, spa, spn⟩⟩, br, ⟨nd, va, ce, li⟩, ⟨ro, bi, le, wk⟩⟩ := A
  obtain ⟨N, H, Sz⟩ := T
  obtain ⟨ho, -, ⟨hT, htm⟩, ⟨hP, hQ⟩, hL, -⟩ := hP
  by_cases ha : asked = 0
  · rw [if_pos ha]
    exact zM_any (f_bb_x4 ho ha hst0 (by omega) (by omega)) (rd_x h)
  · rw [if_neg ha]
    by_cases hi : bc = -1
    · rw [if_pos hi]
      exact zM_any (f_bb_x3 ho ha hL (hb ha) hi hst0 (by omega) (by omega)) (rd_x h)
    · rw [if_neg hi]
      exact zM_any (f_bb_ok ho ha hL (hb ha) hi hst0 (by omega) (by omega)) (rd_v h)
theorem w_co (h : whW w o k1 k2 ((ty, C), tm, R, (comp, asked, sum), (mo, (I, An, Nt), (sc, cc, dc, en, bk, bc)))) (hst0 : G.1.stackTraces = false) (hr : w.2.1 + 100 ≤ G.2.2.2.2.1 ∧ w.2.2 + 1000 ≤ G.2.2.2.2.2) : zM G zm_X11_constructorOf (d + 5) [zR o, zI (tm.length : Int)] w (rdO w o k1 k2 ((ty, C), tm, R, (comp, asked, sum), (mo, (I, An, Nt), (sc, cc, dc, en, bk, bc))) (.inr 0)) := by
  obtain ⟨A, T, Sp, M, B, hP, h1, h2⟩ := id h
  obtain ⟨⟨t, tc, tn, th, tz⟩, pg, ⟨mc, fa, ca, ta⟩, ⟨⟨la, lai, laa, lan⟩, ⟨sp, spi, spa, spn⟩⟩, br, ⟨nd, va, ce, li⟩, ⟨ro, bi, le, wk⟩⟩ := A
  obtain ⟨N, H, Sz⟩ := T
  obtain ⟨ho, -, ⟨hT, htm⟩, ⟨hP, hQ⟩, hL, -⟩ := hP
  have e := htm.2.1
  exact zM_any (f_co_x0 ho hT (tm.length : Int) (by omega) hst0 (by omega) (by omega)) (rd_x h)
theorem w_po (h : whW w o k1 k2 ((ty, C), tm, R, (comp, asked, sum), (mo, (I, An, Nt), (sc, cc, dc, en, bk, bc)))) (hC : C = C3) (hst0 : G.1.stackTraces = false) (hr : w.2.1 + 100 ≤ G.2.2.2.2.1 ∧ w.2.2 + 1000 ≤ G.2.2.2.2.2) {n : Nat} {g : smG} (hn : tm[n]? = some g) (hg : 0 < g.1) : ∃ f : Nat, tm[f]? = some (g.1 - 1, g.2) ∧ zM G zm_X11_partOf (d + 3) [zR o, zI (n : Int), zI 0] w (rdO w o k1 k2 ((ty, C), tm, R, (comp, asked, sum), (mo, (I, An, Nt), (sc, cc, dc, en, bk, bc))) (.inl (f : Int))) := by
  obtain ⟨A, T, Sp, M, B, hP, h1, h2⟩ := id h
  obtain ⟨⟨t, tc, tn, th, tz⟩, pg, ⟨mc, fa, ca, ta⟩, ⟨⟨la, lai, laa, lan⟩, ⟨sp, spi, spa, spn⟩⟩, br, ⟨nd, va, ce, li⟩, ⟨ro, bi, le, wk⟩⟩ := A
  obtain ⟨N, H, Sz⟩ := T
  obtain ⟨ho, -, ⟨hT, htm⟩, ⟨hP, hQ⟩, hL, -⟩ := hP
  obtain ⟨-, hNl, -, -, -, hrow⟩ := id htm
  obtain ⟨-, ⟨f, nx, q1, -, q3⟩, -⟩ := hrow n g hn
  obtain ⟨-, q3⟩ := q3 hg
  have hnl : n < tm.length := (List.getElem?_eq_some_iff.mp hn).1
  have e0 : tg N (n : Int) 0 = (smHd g : Int) := tg_at (j := 0) q1
  have e1 : tmPt N (n : Int) 0 = (f : Int) := by
    show tg N (n : Int) (if (0 : Int) = 0 then 1 else 2) = _
    rw [if_pos rfl]
    exact tg_at (j := 1) q1
  have e2 : smHd g = 1 := by
    unfold smHd
    rw [if_neg (by omega)]
  have e3 : tmPc C (tg N (n : Int) 0) = 1 := by
    rw [e0, e2, hC]
    rfl
  refine ⟨f, q3, ?_⟩
  rw [← e1]
  exact zM_any (f_po_ok ho hT (n : Int) 0 (by omega) ⟨Int.le_refl 0, by rw [e3]; decide⟩ hst0 (by omega) (by omega)) (rd_v h)
theorem w_sz (h : whW w o k1 k2 ((ty, C), tm, R, (comp, asked, sum), (mo, (I, An, Nt), (sc, cc, dc, en, bk, bc)))) {n : Nat} {g : smG} (hn : tm[n]? = some g) : zM G zm_X11_sizeOf (d + 3) [zR o, zI (n : Int)] w (zRet (some (zJ ((g.1 : Int) + 1))) w) := by
  obtain ⟨A, T, Sp, M, B, hP, h1, h2⟩ := id h
  obtain ⟨⟨t, tc, tn, th, tz⟩, pg, ⟨mc, fa, ca, ta⟩, ⟨⟨la, lai, laa, lan⟩, ⟨sp, spi, spa, spn⟩⟩, br, ⟨nd, va, ce, li⟩, ⟨ro, bi, le, wk⟩⟩ := A
  obtain ⟨N, H, Sz⟩ := T
  obtain ⟨ho, -, ⟨hT, htm⟩, ⟨hP, hQ⟩, hL, -⟩ := hP
  obtain ⟨-, hNl, -, -, -, hrow⟩ := id htm
  obtain ⟨-, -, q⟩ := hrow n g hn
  have hnl : n < tm.length := (List.getElem?_eq_some_iff.mp hn).1
  have e1 : tmSz Sz (n : Int) = (g.1 : Int) + 1 := by
    unfold tmSz
    rw [if_pos (Int.natCast_nonneg n), Int.toNat_natCast]
    exact q
  rw [← e1]
  exact f_sz_ok ho hT (n : Int) (by omega)
end RD4
