/-! Own rows: readers of modes at the level of the object. Printed by wip/p37/m_rd2.py. -/
theorem mdAt_mo {w : zW} {pg : Nat} {R : pgR} {i j : Int} {md : Nat} (hP : pgW w pg R) (h : mdAt R i j = some md) : moW w md (R.2.2.2.2.1 md) := by
  unfold mdAt at h
  cases hl : lAt R.2.2.1.1 i with
  | none => rw [hl] at h; cases h
  | some y =>
    rw [hl] at h
    have h : lAt (R.2.2.2.1 y).2.2.1.2 j = some md := h
    exact hP.2.2.2.2.2.1 md ((hP.2.2.2.2.1 y (lAt_mem hl)).2.1 md (lAt_mem h))
section RD3
variable {G : zG} {d : Nat} {w : zW} {o k1 k2 : Nat} {ty : Int} {C : List (List Int)} {tm : List smG} {R : pgR} {comp asked sum : Int} {mo : Option Nat} {I An Nt : List (List Int)} {sc cc dc en bk bc : Int}
theorem w_fa (h : whW w o k1 k2 ((ty, C), tm, R, (comp, asked, sum), (mo, (I, An, Nt), (sc, cc, dc, en, bk, bc)))) (hst0 : G.1.stackTraces = false) (hr : w.2.1 + 100 ≤ G.2.2.2.2.1 ∧ w.2.2 + 1000 ≤ G.2.2.2.2.2) (i j : Int) : zM G zm_X11_fault (d + 6) [zR o, zI i, zI j] w (rdO w o k1 k2 ((ty, C), tm, R, (comp, asked, sum), (mo, (I, An, Nt), (sc, cc, dc, en, bk, bc))) (match mdAt R i j with | none => .inr 0 | some md => if comp = 0 then .inr 2 else .inl (fsI (R.2.2.2.2.1 md)))) := by
  obtain ⟨A, T, Sp, M, B, hP, h1, h2⟩ := id h
  obtain ⟨⟨t, tc, tn, th, tz⟩, pg, ⟨mc, fa, ca, ta⟩, ⟨⟨la, lai, laa, lan⟩, ⟨sp, spi, spa, spn⟩⟩, br, ⟨nd, va, ce, li⟩, ⟨ro, bi, le, wk⟩⟩ := A
  obtain ⟨N, H, Sz⟩ := T
  obtain ⟨ho, -, ⟨hT, htm⟩, ⟨hP, hQ⟩, hL, -⟩ := hP
  cases hm : mdAt R i j with
  | none => exact zM_any (f_fa_x0 ho hP i j hm hst0 (by omega) (by omega)) (rd_x h)
  | some md =>
    show zM G zm_X11_fault (d + 6) [zR o, zI i, zI j] w (rdO w o k1 k2 _ (if comp = 0 then .inr 2 else .inl (fsI (R.2.2.2.2.1 md))))
    by_cases hc : comp = 0
    · rw [if_pos hc]
      exact zM_any (f_fa_x2 ho hP i j hm (mdAt_mo hP hm) hc hst0 (by omega) (by omega)) (rd_x h)
    · rw [if_neg hc]
      exact zM_any (f_fa_ok ho hP i j hm (mdAt_mo hP hm) hc hst0 (by omega) (by omega)) (rd_v h)
theorem w_ig (h : whW w o k1 k2 ((ty, C), tm, R, (comp, asked, sum), (mo, (I, An, Nt), (sc, cc, dc, en, bk, bc)))) (hst0 : G.1.stackTraces = false) (hr : w.2.1 + 100 ≤ G.2.2.2.2.1 ∧ w.2.2 + 1000 ≤ G.2.2.2.2.2) (i j : Int) (hg : ∀ md, mdAt R i j = some md → (R.2.2.2.2.1 md).2.2.2.2.2.1 = 0 ∨ (R.2.2.2.2.1 md).2.2.2.2.2.1 = 1) : zM G zm_X11_isGood (d + 6) [zR o, zI i, zI j] w (rdO w o k1 k2 ((ty, C), tm, R, (comp, asked, sum), (mo, (I, An, Nt), (sc, cc, dc, en, bk, bc))) (match mdAt R i j with | none => .inr 0 | some md => if comp = 0 then .inr 2 else .inl (R.2.2.2.2.1 md).2.2.2.2.2.1)) := by
  obtain ⟨A, T, Sp, M, B, hP, h1, h2⟩ := id h
  obtain ⟨⟨t, tc, tn, th, tz⟩, pg, ⟨mc, fa, ca, ta⟩, ⟨⟨la, lai, laa, lan⟩, ⟨sp, spi, spa, spn⟩⟩, br, ⟨nd, va, ce, li⟩, ⟨ro, bi, le, wk⟩⟩ := A
  obtain ⟨N, H, Sz⟩ := T
  obtain ⟨ho, -, ⟨hT, htm⟩, ⟨hP, hQ⟩, hL, -⟩ := hP
  cases hm : mdAt R i j with
  | none => exact zM_any (f_ig_x0 ho hP i j hm hst0 (by omega) (by omega)) (rd_x h)
  | some md =>
    show zM G zm_X11_isGood (d + 6) [zR o, zI i, zI j] w (rdO w o k1 k2 _ (if comp = 0 then .inr 2 else .inl (R.2.2.2.2.1 md).2.2.2.2.2.1))
    by_cases hc : comp = 0
    · rw [if_pos hc]
      exact zM_any (f_ig_x2 ho hP i j hm (mdAt_mo hP hm) hc hst0 (by omega) (by omega)) (rd_x h)
    · rw [if_neg hc]
      exact zM_any (f_ig_ok ho hP i j hm (mdAt_mo hP hm) hc (hg md hm) hst0 (by omega) (by omega)) (rd_v h)
theorem w_fo (h : whW w o k1 k2 ((ty, C), tm, R, (comp, asked, sum), (mo, (I, An, Nt), (sc, cc, dc, en, bk, bc)))) (hst0 : G.1.stackTraces = false) (hr : w.2.1 + 100 ≤ G.2.2.2.2.1 ∧ w.2.2 + 1000 ≤ G.2.2.2.2.2) (i j : Int) : zM G zm_X11_found (d + 6) [zR o, zI i, zI j] w (rdO w o k1 k2 ((ty, C), tm, R, (comp, asked, sum), (mo, (I, An, Nt), (sc, cc, dc, en, bk, bc))) (match mdAt R i j with | none => .inr 0 | some md => if comp = 0 then .inr 2 else if (R.2.2.2.2.1 md).2.2.2.2.2.1 = 0 then .inr 4 else .inl (if (R.2.2.2.2.1 md).2.2.2.2.2.2.2.1 = 0 then (if (R.2.2.2.2.1 md).2.2.2.2.2.2.1 = 0 then 100 else 115) else (if (R.2.2.2.2.1 md).2.2.2.2.2.2.1 = 0 then 109 else 110)))) := by
  obtain ⟨A, T, Sp, M, B, hP, h1, h2⟩ := id h
  obtain ⟨⟨t, tc, tn, th, tz⟩, pg, ⟨mc, fa, ca, ta⟩, ⟨⟨la, lai, laa, lan⟩, ⟨sp, spi, spa, spn⟩⟩, br, ⟨nd, va, ce, li⟩, ⟨ro, bi, le, wk⟩⟩ := A
  obtain ⟨N, H, Sz⟩ := T
  obtain ⟨ho, -, ⟨hT, htm⟩, ⟨hP, hQ⟩, hL, -⟩ := hP
  cases hm : mdAt R i j with
  | none => exact zM_any (f_fo_x0 ho hP i j hm hst0 (by omega) (by omega)) (rd_x h)
  | some md =>
    show zM G zm_X11_found (d + 6) [zR o, zI i, zI j] w (rdO w o k1 k2 _ (if comp = 0 then .inr 2 else if (R.2.2.2.2.1 md).2.2.2.2.2.1 = 0 then .inr 4 else .inl (if (R.2.2.2.2.1 md).2.2.2.2.2.2.2.1 = 0 then (if (R.2.2.2.2.1 md).2.2.2.2.2.2.1 = 0 then 100 else 115) else (if (R.2.2.2.2.1 md).2.2.2.2.2.2.1 = 0 then 109 else 110))))
    by_cases hc : comp = 0
    · rw [if_pos hc]
      exact zM_any (f_fo_x2 ho hP i j hm (mdAt_mo hP hm) hc hst0 (by omega) (by omega)) (rd_x h)
    · rw [if_neg hc]
      by_cases hg : (R.2.2.2.2.1 md).2.2.2.2.2.1 = 0
      · rw [if_pos hg]
        exact zM_any (f_fo_x4 ho hP i j hm (mdAt_mo hP hm) hc hg hst0 (by omega) (by omega)) (rd_x h)
      · rw [if_neg hg]
        exact zM_any (f_fo_ok ho hP i j hm (mdAt_mo hP hm) hc hg hst0 (by omega) (by omega)) (rd_v h)
theorem w_sw (h : whW w o k1 k2 ((ty, C), tm, R, (comp, asked, sum), (mo, (I, An, Nt), (sc, cc, dc, en, bk, bc)))) (hst0 : G.1.stackTraces = false) (hr : w.2.1 + 100 ≤ G.2.2.2.2.1 ∧ w.2.2 + 1000 ≤ G.2.2.2.2.2) (i j : Int) : zM G zm_X11_switchOf (d + 6) [zR o, zI i, zI j] w (rdO w o k1 k2 ((ty, C), tm, R, (comp, asked, sum), (mo, (I, An, Nt), (sc, cc, dc, en, bk, bc))) (match mdAt R i j with | none => .inr 0 | some md => if comp = 0 then .inr 2 else if (R.2.2.2.2.1 md).2.2.2.2.1 ≠ 0 ∨ (R.2.2.2.2.1 md).2.2.2.2.2.2.2.2 = -1 then .inr 4 else .inl (R.2.2.2.2.1 md).2.2.2.2.2.2.2.2)) := by
  obtain ⟨A, T, Sp, M, B, hP, h1, h2⟩ := id h
  obtain ⟨⟨t, tc, tn, th, tz⟩, pg, ⟨mc, fa, ca, ta⟩, ⟨⟨la, lai, laa, lan⟩, ⟨sp, spi, spa, spn⟩⟩, br, ⟨nd, va, ce, li⟩, ⟨ro, bi, le, wk⟩⟩ := A
  obtain ⟨N, H, Sz⟩ := T
  obtain ⟨ho, -, ⟨hT, htm⟩, ⟨hP, hQ⟩, hL, -⟩ := hP
  cases hm : mdAt R i j with
  | none => exact zM_any (f_sw_x0 ho hP i j hm hst0 (by omega) (by omega)) (rd_x h)
  | some md =>
    show zM G zm_X11_switchOf (d + 6) [zR o, zI i, zI j] w (rdO w o k1 k2 _ (if comp = 0 then .inr 2 else if (R.2.2.2.2.1 md).2.2.2.2.1 ≠ 0 ∨ (R.2.2.2.2.1 md).2.2.2.2.2.2.2.2 = -1 then .inr 4 else .inl (R.2.2.2.2.1 md).2.2.2.2.2.2.2.2))
    by_cases hc : comp = 0
    · rw [if_pos hc]
      exact zM_any (f_sw_x2 ho hP i j hm (mdAt_mo hP hm) hc hst0 (by omega) (by omega)) (rd_x h)
    · rw [if_neg hc]
      by_cases hg : (R.2.2.2.2.1 md).2.2.2.2.1 ≠ 0 ∨ (R.2.2.2.2.1 md).2.2.2.2.2.2.2.2 = -1
      · rw [if_pos hg]
        exact zM_any (f_sw_x4 ho hP i j hm (mdAt_mo hP hm) hc hg hst0 (by omega) (by omega)) (rd_x h)
      · rw [if_neg hg]
        exact zM_any (f_sw_ok ho hP i j hm (mdAt_mo hP hm) hc (by omega) (by omega) hst0 (by omega) (by omega)) (rd_v h)
end RD3
