/-! Own rows: what is kept when the program grows. By hand. -/
theorem pgO_NP {R : pgR} {p : Nat} {f s t : Int} (h : pgO R) : pgO (pgNP R p f s t) := h
theorem pgL_NP {R : pgR} {p : Nat} {f s t : Int} (h : pgL R) : pgL (pgNP R p f s t) := h
theorem pgN_NP {R : pgR} {p : Nat} {f s t : Int} (h : pgN R) : pgN (pgNP R p f s t) := by
  intro y hy
  obtain ⟨a, b, c⟩ := h y hy
  refine ⟨List.mem_append_left _ a, b, ?_⟩
  show ((if (R.2.2.2.2.1 y).1 = p then ((((R.2.2.1.1.length : Int), p + 1, p + 3, p + 4, p + 5), prT f s t, (0, []), (0, [])) : prR) else R.2.2.2.1 (R.2.2.2.2.1 y).1)).2.2.2.2.length < 1000
  split
  · exact Nat.le_of_ble_eq_true rfl
  · exact c
theorem pgO_NM {R : pgR} {pr y : Nat} {r : moR} (h : pgO R) : pgO (pgNM R pr y r) := fun c hc => ⟨(h c hc).1, fun x hx => List.mem_append_left _ ((h c hc).2.1 x hx), (h c hc).2.2⟩
theorem pgL_NM {R : pgR} {pr y : Nat} {r : moR} (h : pgL R) : pgL (pgNM R pr y r) := h
theorem pgN_NM {R : pgR} {pr y : Nat} {r : moR} (h : pgN R) (hpr : pr ∈ R.2.2.1.1) (h1 : r.1 = pr) (h2 : 0 ≤ r.2.1 ∧ r.2.1 < 2) (h3 : (R.2.2.2.1 pr).2.2.2.2.length < 1000) : pgN (pgNM R pr y r) := by
  have key : ∀ z : Nat, (R.2.2.2.1 z).2.2.2.2.length < 1000 → ((pgNM R pr y r).2.2.2.1 z).2.2.2.2.length < 1000 := fun z hz => by
    show ((if z = pr then (((R.2.2.2.1 pr).1, (R.2.2.2.1 pr).2.1, (lCap (R.2.2.2.1 pr).2.2.1.1 (R.2.2.2.1 pr).2.2.1.2, (R.2.2.2.1 pr).2.2.1.2 ++ [y]), (R.2.2.2.1 pr).2.2.2) : prR) else R.2.2.2.1 z)).2.2.2.2.length < 1000
    split
    · exact h3
    · exact hz
  intro z hz
  by_cases e : z = y
  · have e2 : (pgNM R pr y r).2.2.2.2.1 z = r := if_pos e
    rw [e2, h1]
    exact ⟨hpr, h2, key pr h3⟩
  · have e2 : (pgNM R pr y r).2.2.2.2.1 z = R.2.2.2.2.1 z := if_neg e
    rw [e2]
    rcases List.mem_append.mp (show z ∈ R.2.2.1.2.1 ++ [y] from hz) with a | a
    · obtain ⟨b1, b2, b3⟩ := h z a
      exact ⟨b1, b2, key _ b3⟩
    · exact absurd (by simpa using a) e
theorem pgO_NC {R : pgR} {pr c : Nat} {n : Int} {T : List (List Int)} (h : pgO R) : pgO (pgNC R pr c (clN n pr c T)) := by
  intro z hz
  by_cases e : z = c
  · have e2 : (pgNC R pr c (clN n pr c T)).2.2.2.2.2.1 z = clN n pr c T := if_pos e
    rw [e2]
    refine ⟨fun g hg => ?_, fun x hx => ?_, fun x hx => ?_⟩
    · have := (List.mem_replicate.mp (show some g ∈ List.replicate 10 (none : Option Nat) from hg)).2
      cases this
    · have := (List.mem_replicate.mp (show some x ∈ List.replicate 10 (none : Option Nat) from hx)).2
      cases this
    · rw [(List.mem_replicate.mp (show x ∈ List.replicate 2 (0 : Int) from hx)).2]
      decide
  · have e2 : (pgNC R pr c (clN n pr c T)).2.2.2.2.2.1 z = R.2.2.2.2.2.1 z := if_neg e
    rw [e2]
    rcases List.mem_append.mp (show z ∈ R.2.2.1.2.2 ++ [c] from hz) with a | a
    · exact h z a
    · exact absurd (by simpa using a) e
theorem pgL_NC {R : pgR} {pr c : Nat} {n : Int} {T : List (List Int)} (h : pgL R) : pgL (pgNC R pr c (clN n pr c T)) := by
  intro z hz
  by_cases e : z = c
  · have e2 : (pgNC R pr c (clN n pr c T)).2.2.2.2.2.1 z = clN n pr c T := if_pos e
    rw [e2]
    exact Nat.zero_le _
  · have e2 : (pgNC R pr c (clN n pr c T)).2.2.2.2.2.1 z = R.2.2.2.2.2.1 z := if_neg e
    rw [e2]
    rcases List.mem_append.mp (show z ∈ R.2.2.1.2.2 ++ [c] from hz) with a | a
    · exact h z a
    · exact absurd (by simpa using a) e
theorem pgL_NG {R : pgR} {c g : Nat} {T : List (List Int)} {gr : goR} (h : pgL R) (hl : (R.2.2.2.2.2.1 c).2.2.2.1.2.length < 5) : pgL (pgNG R c g T gr) := by
  intro z hz
  by_cases e : z = c
  · have e2 : (pgNG R c g T gr).2.2.2.2.2.1 z = ngR (R.2.2.2.2.2.1 c) g T := if_pos e
    rw [e2]
    show ((R.2.2.2.2.2.1 c).2.2.2.1.2 ++ [g]).length ≤ 5
    rw [List.length_append, List.length_singleton]
    omega
  · have e2 : (pgNG R c g T gr).2.2.2.2.2.1 z = R.2.2.2.2.2.1 z := if_neg e
    rw [e2]
    exact h z hz
theorem pgO_NG {R : pgR} {c g : Nat} {T : List (List Int)} {gr : goR} (h : pgO R) : pgO (pgNG R c g T gr) := by
  intro z hz
  by_cases e : z = c
  · subst e
    have e2 : (pgNG R z g T gr).2.2.2.2.2.1 z = ngR (R.2.2.2.2.2.1 z) g T := if_pos rfl
    rw [e2]
    obtain ⟨a, b, d⟩ := h z hz
    exact ⟨fun x hx => List.mem_append_left _ (a x hx), b, d⟩
  · have e2 : (pgNG R c g T gr).2.2.2.2.2.1 z = R.2.2.2.2.2.1 z := if_neg e
    rw [e2]
    exact h z hz
theorem pgN_NG {R : pgR} {c g : Nat} {T : List (List Int)} {gr : goR} (h : pgN R) : pgN (pgNG R c g T gr) := h
theorem pgN_NC {R : pgR} {pr c : Nat} {r : clR} (h : pgN R) (h3 : (R.2.2.2.1 pr).2.2.2.2.length < 999) : pgN (pgNC R pr c r) := by
  intro z hz
  obtain ⟨b1, b2, b3⟩ := h z hz
  refine ⟨b1, b2, ?_⟩
  show ((if (R.2.2.2.2.1 z).1 = pr then (((R.2.2.2.1 pr).1, (R.2.2.2.1 pr).2.1, (R.2.2.2.1 pr).2.2.1, (lCap (R.2.2.2.1 pr).2.2.2.1 (R.2.2.2.1 pr).2.2.2.2, (R.2.2.2.1 pr).2.2.2.2 ++ [c])) : prR) else R.2.2.2.1 (R.2.2.2.2.1 z).1)).2.2.2.2.length < 1000
  split
  · show ((R.2.2.2.1 pr).2.2.2.2 ++ [c]).length < 1000
    rw [List.length_append, List.length_singleton]
    omega
  · exact b3
