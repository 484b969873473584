/-! Own rows: readers at the level of the object. Printed by wip/p37/m_rd.py. -/
section RD2
variable {G : zG} {d : Nat} {w : zW} {o k1 k2 : Nat} {ty : Int} {C : List (List Int)} {tm : List smG} {R : pgR} {comp asked sum : Int} {mo : Option Nat} {I An Nt : List (List Int)} {sc cc dc en bk bc : Int}
theorem w_cp (h : whW w o k1 k2 ((ty, C), tm, R, (comp, asked, sum), (mo, (I, An, Nt), (sc, cc, dc, en, bk, bc)))) (hst0 : G.1.stackTraces = false) (hr : w.2.1 + 100 ≤ G.2.2.2.2.1 ∧ w.2.2 + 1000 ≤ G.2.2.2.2.2) : zM G zm_X11_choicePoints (d + 5) [zR o] w (rdO w o k1 k2 ((ty, C), tm, R, (comp, asked, sum), (mo, (I, An, Nt), (sc, cc, dc, en, bk, bc))) (if asked = 0 then .inr 4 else .inl cc)) := by
  obtain ⟨A, T, Sp, M, B, hP, h1, h2⟩ := id h
  obtain ⟨⟨t, tc, tn, th, tz⟩, pg, ⟨mc, fa, ca, ta⟩, ⟨⟨la, lai, laa, lan⟩, ⟨sp, spi, spa, spn⟩⟩, br, ⟨nd, va, ce, li⟩, ⟨ro, bi, le, wk⟩⟩ := A
  obtain ⟨N, H, Sz⟩ := T
  obtain ⟨ho, -, ⟨hT, htm⟩, ⟨hP, hQ⟩, hL, -⟩ := hP
  by_cases ha : asked = 0
  · rw [if_pos ha]
    exact zM_any (f_cp_x ho ha hst0 (by omega) (by omega)) (rd_x h)
  · rw [if_neg ha]
    exact zM_any (f_cp_ok (d := d + 4) ho ha hL) (rd_v h)
theorem w_dp (h : whW w o k1 k2 ((ty, C), tm, R, (comp, asked, sum), (mo, (I, An, Nt), (sc, cc, dc, en, bk, bc)))) (hst0 : G.1.stackTraces = false) (hr : w.2.1 + 100 ≤ G.2.2.2.2.1 ∧ w.2.2 + 1000 ≤ G.2.2.2.2.2) : zM G zm_X11_deepest (d + 5) [zR o] w (rdO w o k1 k2 ((ty, C), tm, R, (comp, asked, sum), (mo, (I, An, Nt), (sc, cc, dc, en, bk, bc))) (if asked = 0 then .inr 4 else .inl dc)) := by
  obtain ⟨A, T, Sp, M, B, hP, h1, h2⟩ := id h
  obtain ⟨⟨t, tc, tn, th, tz⟩, pg, ⟨mc, fa, ca, ta⟩, ⟨⟨la, lai, laa, lan⟩, ⟨sp, spi, spa, spn⟩⟩, br, ⟨nd, va, ce, li⟩, ⟨ro, bi, le, wk⟩⟩ := A
  obtain ⟨N, H, Sz⟩ := T
  obtain ⟨ho, -, ⟨hT, htm⟩, ⟨hP, hQ⟩, hL, -⟩ := hP
  by_cases ha : asked = 0
  · rw [if_pos ha]
    exact zM_any (f_dp_x ho ha hst0 (by omega) (by omega)) (rd_x h)
  · rw [if_neg ha]
    exact zM_any (f_dp_ok (d := d + 4) ho ha hL) (rd_v h)
theorem w_rc (h : whW w o k1 k2 ((ty, C), tm, R, (comp, asked, sum), (mo, (I, An, Nt), (sc, cc, dc, en, bk, bc)))) (hst0 : G.1.stackTraces = false) (hr : w.2.1 + 100 ≤ G.2.2.2.2.1 ∧ w.2.2 + 1000 ≤ G.2.2.2.2.2) : zM G zm_X11_recorded (d + 5) [zR o] w (rdO w o k1 k2 ((ty, C), tm, R, (comp, asked, sum), (mo, (I, An, Nt), (sc, cc, dc, en, bk, bc))) (if asked = 0 then .inr 4 else .inl (Nt.length : Int))) := by
  obtain ⟨A, T, Sp, M, B, hP, h1, h2⟩ := id h
  obtain ⟨⟨t, tc, tn, th, tz⟩, pg, ⟨mc, fa, ca, ta⟩, ⟨⟨la, lai, laa, lan⟩, ⟨sp, spi, spa, spn⟩⟩, br, ⟨nd, va, ce, li⟩, ⟨ro, bi, le, wk⟩⟩ := A
  obtain ⟨N, H, Sz⟩ := T
  obtain ⟨ho, -, ⟨hT, htm⟩, ⟨hP, hQ⟩, hL, -⟩ := hP
  by_cases ha : asked = 0
  · rw [if_pos ha]
    exact zM_any (f_rc_x ho ha hst0 (by omega) (by omega)) (rd_x h)
  · rw [if_neg ha]
    exact zM_any (f_rc_ok (d := d + 3) ho ha hL) (rd_v h)
theorem w_en (h : whW w o k1 k2 ((ty, C), tm, R, (comp, asked, sum), (mo, (I, An, Nt), (sc, cc, dc, en, bk, bc)))) (hst0 : G.1.stackTraces = false) (hr : w.2.1 + 100 ≤ G.2.2.2.2.1 ∧ w.2.2 + 1000 ≤ G.2.2.2.2.2) (he : 0 ≤ en ∧ en < 65536) : zM G zm_X11_ending (d + 5) [zR o] w (rdO w o k1 k2 ((ty, C), tm, R, (comp, asked, sum), (mo, (I, An, Nt), (sc, cc, dc, en, bk, bc))) (if asked = 0 then .inr 4 else .inl en)) := by
  obtain ⟨A, T, Sp, M, B, hP, h1, h2⟩ := id h
  obtain ⟨⟨t, tc, tn, th, tz⟩, pg, ⟨mc, fa, ca, ta⟩, ⟨⟨la, lai, laa, lan⟩, ⟨sp, spi, spa, spn⟩⟩, br, ⟨nd, va, ce, li⟩, ⟨ro, bi, le, wk⟩⟩ := A
  obtain ⟨N, H, Sz⟩ := T
  obtain ⟨ho, -, ⟨hT, htm⟩, ⟨hP, hQ⟩, hL, -⟩ := hP
  by_cases ha : asked = 0
  · rw [if_pos ha]
    exact zM_any (f_en_x ho ha hst0 (by omega) (by omega)) (rd_x h)
  · rw [if_neg ha]
    exact zM_any (f_en_ok (d := d + 4) ho ha hL he) (rd_v h)
theorem w_te (h : whW w o k1 k2 ((ty, C), tm, R, (comp, asked, sum), (mo, (I, An, Nt), (sc, cc, dc, en, bk, bc)))) : zM G zm_X11_terms (d + 2) [zR o] w (rdO w o k1 k2 ((ty, C), tm, R, (comp, asked, sum), (mo, (I, An, Nt), (sc, cc, dc, en, bk, bc))) (.inl (tm.length : Int))) := by
  obtain ⟨A, T, Sp, M, B, hP, h1, h2⟩ := id h
  obtain ⟨⟨t, tc, tn, th, tz⟩, pg, ⟨mc, fa, ca, ta⟩, ⟨⟨la, lai, laa, lan⟩, ⟨sp, spi, spa, spn⟩⟩, br, ⟨nd, va, ce, li⟩, ⟨ro, bi, le, wk⟩⟩ := A
  obtain ⟨N, H, Sz⟩ := T
  obtain ⟨ho, -, ⟨hT, htm⟩, ⟨hP, hQ⟩, hL, -⟩ := hP
  have e : (N.length : Int) = (tm.length : Int) := by rw [htm.2.1]
  rw [← e]
  exact zM_any (f_te ho hT) (rd_v h)
theorem w_ra (h : whW w o k1 k2 ((ty, C), tm, R, (comp, asked, sum), (mo, (I, An, Nt), (sc, cc, dc, en, bk, bc)))) (hst0 : G.1.stackTraces = false) (hr : w.2.1 + 100 ≤ G.2.2.2.2.1 ∧ w.2.2 + 1000 ≤ G.2.2.2.2.2) (i : Int) (hc : 0 ≤ i → i < (Nt.length : Int) → 0 ≤ tg Nt i 0 ∧ tg Nt i 0 < 65536) : zM G zm_X11_recordAt (d + 6) [zR o, zI i] w (rdO w o k1 k2 ((ty, C), tm, R, (comp, asked, sum), (mo, (I, An, Nt), (sc, cc, dc, en, bk, bc))) (if asked = 0 then .inr 4 else if 0 ≤ i ∧ i < (Nt.length : Int) then .inl (tg Nt i 0) else .inr 0)) := by
  obtain ⟨A, T, Sp, M, B, hP, h1, h2⟩ := id h
  obtain ⟨⟨t, tc, tn, th, tz⟩, pg, ⟨mc, fa, ca, ta⟩, ⟨⟨la, lai, laa, lan⟩, ⟨sp, spi, spa, spn⟩⟩, br, ⟨nd, va, ce, li⟩, ⟨ro, bi, le, wk⟩⟩ := A
  obtain ⟨N, H, Sz⟩ := T
  obtain ⟨ho, -, ⟨hT, htm⟩, ⟨hP, hQ⟩, hL, -⟩ := hP
  by_cases ha : asked = 0
  · rw [if_pos ha]
    exact zM_any (f_ra_x4 ho ha i hst0 (by omega) (by omega)) (rd_x h)
  · rw [if_neg ha]
    by_cases hi : 0 ≤ i ∧ i < (Nt.length : Int)
    · rw [if_pos hi]
      exact zM_any (f_ra_ok (d := d + 1) ho ha hL i hi (hc hi.1 hi.2) hst0 (by omega) (by omega)) (rd_v h)
    · rw [if_neg hi]
      exact zM_any (f_ra_x0 (d := d + 1) ho ha hL i (by omega) hst0 (by omega) (by omega)) (rd_x h)
theorem w_wa (h : whW w o k1 k2 ((ty, C), tm, R, (comp, asked, sum), (mo, (I, An, Nt), (sc, cc, dc, en, bk, bc)))) (hst0 : G.1.stackTraces = false) (hr : w.2.1 + 100 ≤ G.2.2.2.2.1 ∧ w.2.2 + 1000 ≤ G.2.2.2.2.2) (i : Int) : zM G zm_X11_whereAt (d + 6) [zR o, zI i] w (rdO w o k1 k2 ((ty, C), tm, R, (comp, asked, sum), (mo, (I, An, Nt), (sc, cc, dc, en, bk, bc))) (if asked = 0 then .inr 4 else if 0 ≤ i ∧ i < (Nt.length : Int) then .inl (tg Nt i 1) else .inr 0)) := by
  obtain ⟨A, T, Sp, M, B, hP, h1, h2⟩ := id h
  obtain ⟨⟨t, tc, tn, th, tz⟩, pg, ⟨mc, fa, ca, ta⟩, ⟨⟨la, lai, laa, lan⟩, ⟨sp, spi, spa, spn⟩⟩, br, ⟨nd, va, ce, li⟩, ⟨ro, bi, le, wk⟩⟩ := A
  obtain ⟨N, H, Sz⟩ := T
  obtain ⟨ho, -, ⟨hT, htm⟩, ⟨hP, hQ⟩, hL, -⟩ := hP
  by_cases ha : asked = 0
  · rw [if_pos ha]
    exact zM_any (f_wa_x4 ho ha i hst0 (by omega) (by omega)) (rd_x h)
  · rw [if_neg ha]
    by_cases hi : 0 ≤ i ∧ i < (Nt.length : Int)
    · rw [if_pos hi]
      exact zM_any (f_wa_ok (d := d + 1) ho ha hL i hi  hst0 (by omega) (by omega)) (rd_v h)
    · rw [if_neg hi]
      exact zM_any (f_wa_x0 (d := d + 1) ho ha hL i (by omega) hst0 (by omega) (by omega)) (rd_x h)
end RD2
