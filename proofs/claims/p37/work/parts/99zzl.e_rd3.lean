/-! Own rows: readers of modes at the level of the object. Printed by wip/p37/m_rd2.py. -/
theorem mdAt_mo {w : zW} {pg : Nat} {R : pgR} {i j : Int} {md : Nat} (hP : pgW w pg R) (h : mdAt R i j = some md) : moW w md (R.2.2.2.2.1 md) := by
  unfold mdAt at h
  cases hl : lAt R.2.2.1.1 i with
  | none => rw [hl] at h; cases h
  | some y =>
    rw [hl] at h
    have h : lAt (R.2.2.2.1 y).2.2.1.2 j = some md := h
    exact hP.2.2.2.2.2.1 md ((hP.2.2.2.2.1 y (lAt_mem hl)).2.1 md (lAt_mem h))
section RD3
variable {G : zG} {d : Nat} {w : zW} {o k1 k2 : Nat} {ty : Int} {C : List (List Int)} {tm : List smG} {R : pgR} {comp asked sum : Int} {mo : Option Nat} {I An Nt : List (List Int)} {sc cc dc en bk bc : Int}
theorem w_fa (h : whW w o k1 k2 ((ty, C), tm, R, (comp, asked, sum), (mo, (I, An, Nt), (sc, cc, dc, en, bk, bc)))) (hst0 : G.1.stackTraces = false) (hr : w.2.1 + 100 ≤ G.2.2.2.2.1 ∧ w.2.2 + 1000 ≤ G.2.2.2.2.2) (i j : Int) : zM G zm_X11_fault (d + 6) [zR o, zI i, zI j] w (rdO o k1 k2 ((ty, C), tm, R, (comp, asked, sum), (mo, (I, An, Nt), (sc, cc, dc, en, bk, bc))) (match mdAt R i j with | none => .inr 0 | some md => if comp = 0 then .inr 2 else .inl (fsI (R.2.2.2.2.1 md)))) := by
  obtain ⟨A, T, Sp, M, B, hP, h1, h2⟩ := id h
  obtain ⟨⟨t, tc, tn, th, tz⟩, pg, ⟨mc, fa, ca, ta⟩, ⟨⟨la, lai, laa, lan⟩, ⟨sp, spi, spa, spn⟩⟩, br, ⟨nd, va, ce, li⟩, ⟨ro, bi, le, wk⟩⟩ := A
  obtain ⟨N, H, Sz⟩ := T
  obtain ⟨ho, -, ⟨hT, htm⟩, ⟨hP, hQ⟩, hL, -⟩ := hP
  cases hm : mdAt R i j with
  | none => exact zM_any (f_fa_x0 ho hP i j hm hst0 (by omega) (by omega)) (rd_x h)
  | some md =>
    show zM G zm_X11_fault (d + 6) [zR o, zI i, zI j] w (rdO o k1 k2 _ (if comp = 0 then .inr 2 else .inl (fsI (R.2.2.2.2.1 md))))
    by_cases hc : comp = 0
    · rw [if_pos hc]
      exact zM_any (f_fa_x2 ho hP i j hm (mdAt_mo hP hm) hc hst0 (by omega) (by omega)) (rd_x h)
    · rw [if_neg hc]
      exact zM_any (f_fa_ok ho hP i j hm (mdAt_mo hP hm) hc hst0 (by omega) (by omega)) (rd_v h)
end RD3
