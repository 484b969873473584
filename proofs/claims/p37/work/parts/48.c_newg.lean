/-! Own rows: a new goal in the program. By hand. -/
def ngR (r : clR) (g : Nat) (T : List (List Int)) : clR := (r.1, r.2.1, T, (lCap r.2.2.2.1.1 r.2.2.2.1.2, r.2.2.2.1.2 ++ [g]), r.2.2.2.2)
def pgNG (R : pgR) (c g : Nat) (T : List (List Int)) (gr : goR) : pgR := (R.1, R.2.1, R.2.2.1, R.2.2.2.1, R.2.2.2.2.1, (fun z => if z = c then ngR (R.2.2.2.2.2.1 c) g T else R.2.2.2.2.2.1 z), (fun z => if z = g then gr else R.2.2.2.2.2.2 z))
theorem pgW_newG {w w' : zW} {pg c g : Nat} {R : pgR} {T : List (List Int)} {gr : goR} (hP : pgW w pg R) (hc : c ∈ R.2.2.1.2.2) (hnew : ∀ y ∈ R.2.2.1.2.2, g ∉ (R.2.2.2.2.2.1 y).2.2.2.1.2) (hT : tOk 1 T) (hfr : ∀ b ob, w.1 b = some ob → ¬ (ob.1 = 133 ∧ ob.2.1 = c) → ¬ (ob.1 = 165 ∧ ob.2.1 = c) → w'.1 b = some ob) (h1 : w'.1 (R.2.2.2.2.2.1 c).2.1.1 = some (133, c, tTb 1 8 T)) (h2 : w'.1 (R.2.2.2.2.2.1 c).2.1.2.1 = some (165, c, zLs (lCap (R.2.2.2.2.2.1 c).2.2.2.1.1 (R.2.2.2.2.2.1 c).2.2.2.1.2) ((R.2.2.2.2.2.1 c).2.2.2.1.2 ++ [g]))) (hg : goW w' g gr) : pgW w' pg (pgNG R c g T gr) := by
  obtain ⟨hpg, hps, hms, hcs, hPr, hMo, hCl⟩ := hP
  refine ⟨hfr _ _ hpg (by simp) (by simp), hfr _ _ hps (by simp) (by simp), hfr _ _ hms (by simp) (by simp), hfr _ _ hcs (by simp) (by simp), ?_, ?_, ?_⟩
  · intro z hz
    obtain ⟨⟨a1, ⟨a2, a3⟩, a4, a5⟩, b⟩ := hPr z hz
    exact ⟨⟨hfr _ _ a1 (by simp) (by simp), ⟨hfr _ _ a2 (by simp) (by simp), a3⟩, hfr _ _ a4 (by simp) (by simp), hfr _ _ a5 (by simp) (by simp)⟩, b⟩
  · intro z hz
    exact hfr _ _ (hMo z hz) (by simp) (by simp)
  · intro z hz
    obtain ⟨a, b⟩ := hCl z hz
    obtain ⟨a0, ⟨a1, a2⟩, a3, ⟨a4, a5⟩, ⟨a6, a7⟩, ⟨a8, a9⟩, ⟨a10, a11⟩, ⟨a12, a13⟩⟩ := a
    have old : ∀ x ∈ (R.2.2.2.2.2.1 z).2.2.2.1.2, goW w' x ((pgNG R c g T gr).2.2.2.2.2.2 x) := fun x hx => by
      have e : x ≠ g := fun e => hnew z hz (by rw [← e]; exact hx)
      have e2 : (pgNG R c g T gr).2.2.2.2.2.2 x = R.2.2.2.2.2.2 x := if_neg e
      rw [e2]
      obtain ⟨g1, g2, g3⟩ := b x hx
      exact ⟨hfr _ _ g1 (by simp) (by simp), hfr _ _ g2 (by simp) (by simp), g3⟩
    by_cases e : z = c
    · subst e
      have e2 : (pgNG R z g T gr).2.2.2.2.2.1 z = ngR (R.2.2.2.2.2.1 z) g T := if_pos rfl
      rw [e2]
      refine ⟨⟨hfr _ _ a0 (by simp) (by simp), ⟨h1, hT⟩, h2, ⟨hfr _ _ a4 (by simp) (by simp), a5⟩, ⟨hfr _ _ a6 (by simp) (by simp), a7⟩, ⟨hfr _ _ a8 (by simp) (by simp), a9⟩, ⟨hfr _ _ a10 (by simp) (by simp), a11⟩, ⟨hfr _ _ a12 (by simp) (by simp), a13⟩⟩, fun x hx => ?_⟩
      rcases List.mem_append.mp (show x ∈ (R.2.2.2.2.2.1 z).2.2.2.1.2 ++ [g] from hx) with h | h
      · exact old x h
      · have ex : x = g := by simpa using h
        subst ex
        have e3 : (pgNG R z x T gr).2.2.2.2.2.2 x = gr := if_pos rfl
        rw [e3]
        exact hg
    · have e2 : (pgNG R c g T gr).2.2.2.2.2.1 z = R.2.2.2.2.2.1 z := if_neg e
      rw [e2]
      exact ⟨⟨hfr _ _ a0 (by simp) (by simp), ⟨hfr _ _ a1 (by simp [e]) (by simp), a2⟩, hfr _ _ a3 (by simp) (by simp [e]), ⟨hfr _ _ a4 (by simp) (by simp), a5⟩, ⟨hfr _ _ a6 (by simp) (by simp), a7⟩, ⟨hfr _ _ a8 (by simp) (by simp), a9⟩, ⟨hfr _ _ a10 (by simp) (by simp), a11⟩, ⟨hfr _ _ a12 (by simp) (by simp), a13⟩⟩, old⟩
