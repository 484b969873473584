/-! Own rows: the object behind a throw. By hand. -/
section WHX
variable {w w' : zW} {o k1 k2 : Nat}
theorem whP_w1 {A : whA} {S : whS} {T : List (List Int) × List (List Int) × List Int} {Sp : whL} {M : maR} {B : bbR} {z : Nat × Nat} (h : whP w o A S T Sp M B) : whP (w.1, z) o A S T Sp M B := by
  obtain ⟨⟨t, tc, tn, th, tz⟩, pg, ⟨mc, fa, ca, ta⟩, ⟨⟨la, lai, laa, lan⟩, ⟨sp, spi, spa, spn⟩⟩, br, ⟨nd, va, ce, li⟩, ⟨ro, bi, le, wk⟩⟩ := A
  obtain ⟨⟨ty, C⟩, tm, R, ⟨comp, asked, sum⟩, ⟨mo, ⟨I, An, Nt⟩, ⟨sc, cc, dc, en, bk, bc⟩⟩⟩ := S
  obtain ⟨N, H, Sz⟩ := T
  obtain ⟨mo2, ⟨I2, An2, Nt2⟩, ⟨sc2, cc2, dc2, en2, bk2, bc2⟩⟩ := Sp
  obtain ⟨⟨r0, cap, Fs, fm⟩, ⟨c1, CH⟩, ⟨ct, TR⟩, ⟨us, cu, pl, de⟩, ⟨fl, ov, fu⟩⟩ := M
  obtain ⟨⟨⟨cN, NN⟩, ⟨cV, VV⟩, ⟨cC, CC⟩, ⟨cL, LL⟩⟩, ⟨⟨cR, RR⟩, ⟨cB, BB⟩, ⟨cE, EE⟩, ⟨cW, WW⟩⟩, ⟨gc, fr, tk, rs, rd⟩⟩ := B
  exact h
/-- a throw leaves the object as it was -/
theorem whW_x {S : whS} {i : Nat} (h : whW w o k1 k2 S) (q : zXw i w (.inr i) w') : whW w' o (k1 + 60) (k2 + 6) S := by
  obtain ⟨A, T, Sp, M, B, hP, h1, h2⟩ := h
  obtain ⟨-, e, q1, q2, q3, q4⟩ := q
  obtain ⟨m, z1, z2⟩ := w'
  have e : m = w.1 := e
  subst e
  have q2 : z1 ≤ w.2.1 + 1 := q2
  have q4 : z2 ≤ w.2.2 + 6 := q4
  refine ⟨A, T, Sp, M, B, whP_w1 hP, ?_, ?_⟩
  · show 60 * z1 ≤ _
    omega
  · show z2 ≤ _
    omega
theorem whW_le {S : whS} {k3 k4 : Nat} (h : whW w o k1 k2 S) (h1 : k1 ≤ k3) (h2 : k2 ≤ k4) : whW w o k3 k4 S := by
  obtain ⟨A, T, Sp, M, B, hP, a, b⟩ := h
  exact ⟨A, T, Sp, M, B, hP, by omega, by omega⟩
end WHX
