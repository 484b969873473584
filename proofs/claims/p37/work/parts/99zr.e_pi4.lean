/-! Own rows: a goal more; a program compiled. By hand; nothing of the bytecode. -/
theorem pgI_NG {R : pgR} {c g : Nat} {T : List (List Int)} {gr : goR} (h : pgI R) (hc : c ∈ R.2.2.1.2.2) (hg : ∀ y, y ∈ R.2.2.1.2.2 → g ∉ (R.2.2.2.2.2.1 y).2.2.2.1.2) (hl : (R.2.2.2.2.2.1 c).2.2.2.1.2.length < 5) (ho : gOk gr) (hoc : gOkC (pgC R) (gL gr)) (hsub : 2 ≤ (gL gr).1 → ∃ y, pgP R (gL gr).2.1 = some y) (hT1 : ∀ k : Nat, tg (R.2.2.2.2.2.1 c).2.2.1 (k : Int) 0 ≠ -1 → tg T (k : Int) 0 ≠ -1) (hT2 : ∀ k, k < (gL gr).2.2.1 → (R.2.2.2.1 (R.2.2.2.2.2.1 c).1.2).2.1.length ≤ smv (gL gr) k → tg T ((smv (gL gr) k : Nat) : Int) 0 ≠ -1) : pgI (pgNG R c g T gr) := by
  obtain ⟨hF, hO, hN, hL, hA, hnd, hms, ⟨k1, k2, k3, k4, k5⟩⟩ := h
  obtain ⟨R', hR'⟩ : ∃ R', R' = pgNG R c g T gr := ⟨_, rfl⟩
  rw [← hR']
  have e1 : R'.2.2.1 = R.2.2.1 := by rw [hR']; rfl
  have e2 : R'.2.2.2.1 = R.2.2.2.1 := by rw [hR']; rfl
  have e5 : R'.2.2.2.2.1 = R.2.2.2.2.1 := by rw [hR']; rfl
  have e6 : R'.2.1 = R.2.1 := by rw [hR']; rfl
  have e7 : ∀ z, z ≠ c → R'.2.2.2.2.2.1 z = R.2.2.2.2.2.1 z := fun z hz => by rw [hR']; exact if_neg hz
  have e8 : R'.2.2.2.2.2.1 c = ngR (R.2.2.2.2.2.1 c) g T := by rw [hR']; exact if_pos rfl
  have e9 : ∀ z, z ≠ g → R'.2.2.2.2.2.2 z = R.2.2.2.2.2.2 z := fun z hz => by rw [hR']; exact if_neg hz
  have e10 : R'.2.2.2.2.2.2 g = gr := by rw [hR']; exact if_pos rfl
  clear hR'
  have hPe : ∀ q, pgP R' q = pgP R q := fun q => by unfold pgP; rw [e1]
  have hCe : ∀ q, pgCl R' q = pgCl R q := fun q => by unfold pgCl; rw [e1]
  have hG : pgG R R' := ⟨fun q z hq => by rw [hPe]; exact hq, fun z hz => by
      rw [e2]
      exact ⟨rfl, rfl, fun _ h => h⟩, fun q a hq => by rw [hCe]; exact hq, fun z hz => by
      rw [e1, e5]
      exact ⟨hz, rfl⟩⟩
  have hmo : ∀ z, z ∈ R.2.2.1.1 → ∃ l, (R'.2.2.2.1 z).2.2.1.2 = (R.2.2.2.1 z).2.2.1.2 ++ l := fun z hz => ⟨[], by rw [e2, List.append_nil]⟩
  have hold : ∀ a, a ∈ R.2.2.1.2.2 → ∀ x, x ∈ (R.2.2.2.2.2.1 a).2.2.2.1.2 → R'.2.2.2.2.2.2 x = R.2.2.2.2.2.2 x := fun a ha x hx => e9 x (fun q => hg a ha (q ▸ hx))
  have q1 : ∀ z, (R'.2.2.2.2.2.1 z).1 = (R.2.2.2.2.2.1 z).1 ∧ (R'.2.2.2.2.2.1 z).2.2.2.2 = (R.2.2.2.2.2.1 z).2.2.2.2 ∧ ∀ x, x ∈ (R.2.2.2.2.2.1 z).2.2.2.1.2 → x ∈ (R'.2.2.2.2.2.1 z).2.2.2.1.2 := fun z => by
    by_cases q : z = c
    · rw [q, e8]
      exact ⟨rfl, rfl, fun x hx => List.mem_append_left _ hx⟩
    · rw [e7 z q]
      exact ⟨rfl, rfl, fun x hx => hx⟩
  have hin : ∀ z, z ∈ R.2.2.1.1 → ∀ a, a ∈ (R.2.2.2.1 z).2.2.2.2 → a ∈ R.2.2.1.2.2 := fun z hz a ha => by
    obtain ⟨q, hq⟩ := pgP_mem hz
    obtain ⟨k, hk⟩ := (hF.2.2.1 q z hq).2.2 a ha
    exact List.mem_of_getElem? hk
  refine ⟨pF_mk (fun q z hq => ?_) (fun k a hk => ?_), fun a ha => ?_, fun z hz => ?_, fun a ha => ?_, fun q hq a ha m hm => ?_, ?_, fun z hz => ?_, ⟨?_, ?_, ?_, fun z hz => ?_, fun a ha => ?_⟩⟩
  · rw [hPe] at hq
    have hz := List.mem_of_getElem? hq
    exact ⟨prA_keep hG hz (hF.1 q z hq), prB_keep hG hz (by rw [e2]) (hF.2.1 q z hq), prC_keep hG (by rw [e2]) (hF.2.2.1 q z hq)⟩
  · rw [hCe] at hk
    have ham := List.mem_of_getElem? hk
    by_cases qa : a = c
    · rw [qa] at hk ham ⊢
      obtain ⟨h1, h2, h3, ⟨h4, h5⟩, h6, h7⟩ := hF.2.2.2 k c hk
      have gar : ∀ gl : smL, gOkC (pgC R) gl → (2 ≤ gl.1 → ∃ y, pgP R gl.2.1 = some y) → gOkC (pgC R') gl := fun gl k1 k2 => gOkC_ar k1 (fun q => by
        obtain ⟨y, hy⟩ := k2 q
        exact ar_eq hy (hG.1 _ _ hy) (by rw [e2]))
      unfold clI
      rw [e8, e1, e2]
      refine ⟨h1, h2, h3, ⟨h4, fun q z hq ha => h5 q z (by rw [← hPe]; exact hq) ha⟩, ?_, fun x hx => ?_⟩
      · show ((R.2.2.2.2.2.1 c).2.2.2.1.2 ++ [g]).length ≤ 5
        rw [List.length_append, List.length_singleton]
        exact hl
      · rcases List.mem_append.mp hx with j | j
        · obtain ⟨g1, g2, g3, g4⟩ := h7 x j
          rw [hold c hc x j]
          exact ⟨g1, gar _ g2 g3, fun q => by
            obtain ⟨y, hy⟩ := g3 q
            exact ⟨y, hG.1 _ _ hy⟩, fun i hi hi2 => hT1 _ (g4 i hi hi2)⟩
        · rw [List.mem_singleton.mp j, e10]
          exact ⟨ho, gar _ hoc hsub, fun q => by
            obtain ⟨y, hy⟩ := hsub q
            exact ⟨y, hG.1 _ _ hy⟩, hT2⟩
    · exact clI_keep hG (e7 a qa) (hold a ham) (fun q z hq ha => ⟨q, by rw [← hPe]; exact hq, by rw [e2] at ha; exact ha⟩) (hF.2.2.2 k a hk)
  · rw [e1] at ha
    obtain ⟨a1, a2, a3⟩ := hO a ha
    rw [(q1 a).2.1, e1]
    exact ⟨fun x hx => (q1 a).2.2 x (a1 x hx), a2, a3⟩
  · rw [e1] at hz
    rw [e5, e1, e2]
    exact hN z hz
  · rw [e1] at ha
    by_cases qa : a = c
    · rw [qa, e8]
      show ((R.2.2.2.2.2.1 c).2.2.2.1.2 ++ [g]).length ≤ 5
      rw [List.length_append, List.length_singleton]
      exact hl
    · rw [e7 a qa]
      exact hL a ha
  · rw [e1] at hq
    rw [e2] at ha
    have ham := hin q hq a ha
    exact ordP_keep hG hmo (pF_B hF) (q1 a).2.1 (fun x hx => ⟨(q1 a).2.2 x hx, hold a ham x hx⟩) (hA q hq a ha m hm)
  · rw [e1]
    exact hnd
  · rw [e1] at hz
    rw [e5, e2]
    exact hms z hz
  · rw [e6, e1]
    exact k1
  · rw [e6, e1]
    exact k2
  · rw [e6, e1]
    exact k3
  · rw [e1] at hz
    rw [e2]
    exact k4 z hz
  · rw [e1] at ha
    by_cases qa : a = c
    · rw [qa, e8]
      exact lcI_add (k5 c hc) (by omega)
    · rw [e7 a qa]
      exact k5 a ha
