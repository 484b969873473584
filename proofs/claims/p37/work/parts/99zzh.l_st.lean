/-! Own rows: the law's call as it is called; a contract that tells less. By hand. -/
theorem zc_L_128 : zCH "ModedMillLaw" 128 zm_L_call 7 := ⟨⟨by decide, zin 1 0 rfl rfl, zin 4 7 rfl rfl, by decide +kernel, by decide⟩, zin 4 5 rfl rfl, zin 4 6 rfl rfl⟩
/-- a contract that tells less -/
theorem zM_any {G : zG} {M : zMd} {d : Nat} {av : List zV} {w : zW} {Q1 Q2 : zQ} (hM : zM G M d av w Q1) (h : ∀ o w', Q1 o w' → Q2 o w') : zM G M d av w Q2 := by
  intro hf p e ha hc hk s m args below hb hap hP hK
  obtain ⟨n, o, h1, h2, h3, h4⟩ := hM hf p e ha hc hk s m args below hb hap hP hK
  refine ⟨n, o, h1, h2, h3, ?_⟩
  rcases h4 with ⟨⟨v, w', k1, k2, k3, k4⟩, k5⟩ | ⟨q, k1, E, ce, L, ⟨i, w', j1, j2, j3, j4⟩, k3⟩
  · exact Or.inl ⟨⟨v, w', k1, h _ _ k2, k3, k4⟩, k5⟩
  · exact Or.inr ⟨q, k1, E, ce, L, ⟨i, w', j1, j2, h _ _ j3, j4⟩, k3⟩
