/-! Own rows: readers at the level of the object. By hand. -/
theorem maV_b {w : zW} {mc fa ca ta t : Nat} {M : maR} (h : maV w mc fa ca ta t M) : mPot1 M ≤ 1461700 ∧ mPot2 M ≤ 3128200 := by
  obtain ⟨⟨r0, cap, Fs, fm⟩, ⟨c1, CH⟩, ⟨ct, TR⟩, ⟨us, cu, pl, de⟩, ⟨fl, ov, fu⟩⟩ := M
  obtain ⟨⟨-, -, -, -, -, -, a1, a2, a3, a4⟩, h2⟩ := h
  have h2 : Fs.length ≤ 320 := h2
  constructor
  · show 180 * Fs.length + c1 + ct ≤ _
    omega
  · show 1000 * Fs.length + 2 * c1 + 2 * ct ≤ _
    omega
theorem baW_b {w : zW} {K : bbK} {B : bbR} (h : baW w K B) : bPot B ≤ 1798000 := by
  obtain ⟨⟨br, pg, t⟩, ⟨nd, va, ce, li⟩, ⟨ro, bi, le, wk⟩⟩ := K
  obtain ⟨⟨⟨cN, NN⟩, ⟨cV, VV⟩, ⟨cC, CC⟩, ⟨cL, LL⟩⟩, ⟨⟨cR, RR⟩, ⟨cB, BB⟩, ⟨cE, EE⟩, ⟨cW, WW⟩⟩, ⟨gc, fr, tk, rs, rd⟩⟩ := B
  obtain ⟨-, -, -, -, ⟨⟨a1, a2, a3, a4⟩, a5, a6, a7, a8⟩⟩ := h
  show cN + cV + cC + cL + cR + cB + cE + cW ≤ _
  omega
/-- the script stands -/
def zSc (w w' : zW) : Prop := ∀ a ob, w.1 a = some ob → ob.1 = 118 → w'.1 a = some ob
theorem zSc_re {w : zW} : zSc w w := fun _ _ h _ => h
theorem zSc_eq {w w' : zW} (e : w'.1 = w.1) : zSc w w' := fun _ _ h _ => by rw [e]; exact h
theorem zSc_tr {w w1 w2 : zW} (h : zSc w w1) (k : zSc w1 w2) : zSc w w2 := fun a ob ha hb => k a ob (h a ob ha hb) hb
theorem zSc_fr {T : List Nat} {w w' : zW} (f : zFr T w w') (h : 118 ∉ T) : zSc w w' := fun a ob ha hb => f a ob ha (by rw [hb]; exact h)
section RD
variable {G : zG} {d : Nat} {w : zW} {o k1 k2 : Nat}
/-- there is room as long as no more than so much was used -/
theorem whW_room {S : whS} (h : whW w o k1 k2 S) (hk1 : k1 + 6000000 ≤ 60 * G.2.2.2.2.1) (hk2 : k2 + 6830000 ≤ G.2.2.2.2.2) : w.2.1 + 100 ≤ G.2.2.2.2.1 ∧ w.2.2 + 1000 ≤ G.2.2.2.2.2 := by
  obtain ⟨A, T, Sp, M, B, hP, h1, h2⟩ := h
  obtain ⟨⟨t, tc, tn, th, tz⟩, pg, ⟨mc, fa, ca, ta⟩, ⟨⟨la, lai, laa, lan⟩, ⟨sp, spi, spa, spn⟩⟩, br, ⟨nd, va, ce, li⟩, ⟨ro, bi, le, wk⟩⟩ := A
  obtain ⟨⟨ty, C⟩, tm, R, ⟨comp, asked, sum⟩, La⟩ := S
  obtain ⟨N, H, Sz⟩ := T
  obtain ⟨-, -, -, -, -, -, hM, hB⟩ := hP
  have b1 := maV_b hM
  have b2 := baW_b hB
  omega
/-- what a reader tells, the object as it was -/
def rdO (w : zW) (o k1 k2 : Nat) (S : whS) (r : Int ⊕ Nat) : zQ := fun out w' => (whW w' o (k1 + 60) (k2 + 6) S ∧ zSc w w') ∧ out = match r with
  | .inl n => .inl (some (zI n))
  | .inr i => .inr i
theorem rd_v {S : whS} {n : Int} (h : whW w o k1 k2 S) : ∀ out w', zRet (some (zI n)) w out w' → rdO w o k1 k2 S (.inl n) out w' := fun out w' q => by
  rw [q.1, q.2]
  exact ⟨⟨whW_le h (by omega) (by omega), zSc_re⟩, rfl⟩
theorem rd_x {S : whS} {i : Nat} (h : whW w o k1 k2 S) : ∀ out w', zXw i w out w' → rdO w o k1 k2 S (.inr i) out w' := fun out w' q => ⟨⟨whW_x (i := i) h ⟨rfl, q.2⟩, zSc_eq q.2.1⟩, q.1⟩
theorem w_steps {S : whS} (h : whW w o k1 k2 S) (hst0 : G.1.stackTraces = false) (hr : w.2.1 + 100 ≤ G.2.2.2.2.1 ∧ w.2.2 + 1000 ≤ G.2.2.2.2.2) : zM G zm_X11_steps (d + 5) [zR o] w (rdO w o k1 k2 S (if S.2.2.2.1.2.1 = 0 then .inr 4 else .inl S.2.2.2.2.2.2.1)) := by
  obtain ⟨A, T, Sp, M, B, hP, h1, h2⟩ := id h
  obtain ⟨⟨t, tc, tn, th, tz⟩, pg, ⟨mc, fa, ca, ta⟩, ⟨⟨la, lai, laa, lan⟩, ⟨sp, spi, spa, spn⟩⟩, br, ⟨nd, va, ce, li⟩, ⟨ro, bi, le, wk⟩⟩ := A
  obtain ⟨⟨ty, C⟩, tm, R, ⟨comp, asked, sum⟩, ⟨mo, ⟨I, An, Nt⟩, ⟨sc, cc, dc, en, bk, bc⟩⟩⟩ := S
  obtain ⟨N, H, Sz⟩ := T
  obtain ⟨ho, -, -, -, hL, -⟩ := hP
  show zM G zm_X11_steps (d + 5) [zR o] w (rdO w o k1 k2 _ (if asked = 0 then .inr 4 else .inl sc))
  by_cases ha : asked = 0
  · rw [if_pos ha]
    exact zM_any (f_st_x ho ha hst0 (by omega) (by omega)) (rd_x h)
  · rw [if_neg ha]
    exact zM_any (f_st_ok (d := d + 4) ho ha hL) (rd_v h)
end RD
