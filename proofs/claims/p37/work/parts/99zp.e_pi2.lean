/-! Own rows: a predicate more, a mode more. By hand; nothing of the bytecode. -/
/-- what the program's records are, between the calls -/
def pgI (R : pgR) : Prop := pF R ∧ pgO R ∧ pgN R ∧ pgL R ∧ ordA R ∧ R.2.2.1.2.1.Nodup ∧ (∀ y, y ∈ R.2.2.1.2.1 → ∃ m : Nat, (R.2.2.2.1 (R.2.2.2.2.1 y).1).2.2.1.2[m]? = some y) ∧ pgK R
theorem pF_B {R : pgR} (hF : pF R) : ∀ y, y ∈ R.2.2.1.1 → ∀ md, md ∈ (R.2.2.2.1 y).2.2.1.2 → md ∈ R.2.2.1.2.1 := fun y hy md hm => by
  obtain ⟨q, hq⟩ := pgP_mem hy
  obtain ⟨k, hk⟩ := List.getElem?_of_mem hm
  exact (hF.2.1 q y hq k md hk).1
theorem app_at {T : Type} {l : List T} {x y : T} {q : Nat} (h : (l ++ [x])[q]? = some y) : l[q]? = some y ∨ (q = l.length ∧ y = x) := by
  by_cases c : q < l.length
  · rw [List.getElem?_append_left c] at h
    exact Or.inl h
  · right
    have hl := (List.getElem?_eq_some_iff.mp h).1
    rw [List.length_append, List.length_singleton] at hl
    have e : q = l.length := by omega
    rw [e, List.getElem?_append_right (Nat.le_refl _), Nat.sub_self] at h
    exact ⟨e, (Option.some.inj h).symm⟩
theorem app_old {T : Type} {l : List T} {x y : T} {q : Nat} (h : l[q]? = some y) : (l ++ [x])[q]? = some y := by
  rw [List.getElem?_append_left (List.getElem?_eq_some_iff.mp h).1]
  exact h
theorem prT_ok {f s t : Int} (hf : f = -1 ∨ f = 0) (hs : s = -1 ∨ s = 0) (ht : t = -1 ∨ t = 0) : (prT f s t).length ≤ 3 ∧ ∀ k : Nat, k < (prT f s t).length → tg (prT f s t) (k : Int) 0 = 0 := by
  rcases hf with rfl | rfl <;> rcases hs with rfl | rfl <;> rcases ht with rfl | rfl <;> exact ⟨by decide, by decide⟩
theorem pgI_NP {R : pgR} {p : Nat} {f s t : Int} (h : pgI R) (hp : p ∉ R.2.2.1.1) (hl : R.2.2.1.1.length < 5) (hf : f = -1 ∨ f = 0) (hs : s = -1 ∨ s = 0) (ht : t = -1 ∨ t = 0) : pgI (pgNP R p f s t) := by
  obtain ⟨hF, hO, hN, hL, hA, hnd, hms, ⟨k1, k2, k3, k4, k5⟩⟩ := h
  obtain ⟨R', hR'⟩ : ∃ R', R' = pgNP R p f s t := ⟨_, rfl⟩
  rw [← hR']
  have e1 : R'.2.2.1.1 = R.2.2.1.1 ++ [p] := by rw [hR']; rfl
  have e2 : R'.2.2.1.2 = R.2.2.1.2 := by rw [hR']; rfl
  have e3 : ∀ z, z ≠ p → R'.2.2.2.1 z = R.2.2.2.1 z := fun z hz => by rw [hR']; exact if_neg hz
  have e4 : R'.2.2.2.1 p = (((R.2.2.1.1.length : Int), p + 1, p + 3, p + 4, p + 5), prT f s t, (0, []), (0, [])) := by rw [hR']; exact if_pos rfl
  have e5 : R'.2.2.2.2 = R.2.2.2.2 := by rw [hR']; rfl
  have e6 : R'.2.1 = (lCap R.2.1.1 R.2.2.1.1, R.2.1.2) := by rw [hR']; rfl
  clear hR'
  have hne : ∀ y, y ∈ R.2.2.1.1 → y ≠ p := fun y hy q => hp (q ▸ hy)
  have hG : pgG R R' := ⟨fun q y hq => by
      show R'.2.2.1.1[q]? = some y
      rw [e1]
      exact app_old hq, fun y hy => by
      rw [e3 y (hne y hy)]
      exact ⟨rfl, rfl, fun _ h => h⟩, fun c a hc => by
      show R'.2.2.1.2.2[c]? = some a
      rw [e2]
      exact hc, fun y hy => by
      rw [e2, e5]
      exact ⟨hy, rfl⟩⟩
  have hP' : ∀ q y, pgP R' q = some y → pgP R q = some y ∨ (q = R.2.2.1.1.length ∧ y = p) := fun q y hq => app_at (by rw [← e1]; exact hq)
  refine ⟨pF_mk (fun q y hq => ?_) (fun c a hc => ?_), ?_, fun y hy => ?_, ?_, fun q hq a ha m hm => ?_, ?_, fun y hy => ?_, ⟨⟨?_, ?_⟩, ?_, ?_, fun y hy => ?_, ?_⟩⟩
  · rcases hP' q y hq with k | ⟨ka, kb⟩
    · have hy := List.mem_of_getElem? k
      exact ⟨prA_keep hG hy (hF.1 q y k), prB_keep hG hy (by rw [e3 y (hne y hy)]) (hF.2.1 q y k), prC_keep hG (by rw [e3 y (hne y hy)]) (hF.2.2.1 q y k)⟩
    · obtain ⟨t1, t2⟩ := prT_ok hf hs ht
      rw [kb]
      unfold prA prB prC
      rw [e4]
      exact ⟨⟨by rw [ka], by omega, t1, t2⟩, fun m md hm => (nomatch hm), List.nodup_nil, Nat.zero_le _, fun a ha => (nomatch ha)⟩
  · have hc' : pgCl R c = some a := by
      have hc : R'.2.2.1.2.2[c]? = some a := hc
      rw [e2] at hc
      exact hc
    refine clI_keep hG (by rw [e5]) (fun g _ => by rw [e5]) (fun q y hq ha => ?_) (hF.2.2.2 c a hc')
    rcases hP' q y hq with k | ⟨-, k⟩
    · rw [e3 y (hne y (List.mem_of_getElem? k))] at ha
      exact ⟨q, k, ha⟩
    · rw [k, e4] at ha
      cases ha
  · unfold pgO
    rw [e2, e5]
    exact hO
  · rw [e2] at hy
    obtain ⟨a, b, c⟩ := hN y hy
    rw [e5, e1, e3 _ (hne _ a)]
    exact ⟨List.mem_append_left _ a, b, c⟩
  · unfold pgL
    rw [e2, e5]
    exact hL
  · rw [e1] at hq
    rcases List.mem_append.mp hq with k | k
    · rw [e3 q (hne q k)] at ha
      exact ordP_keep hG (fun y hy => ⟨[], by rw [e3 y (hne y hy), List.append_nil]⟩) (pF_B hF) (by rw [e5]) (fun g hg => by rw [e5]; exact ⟨hg, rfl⟩) (hA q k a ha m hm)
    · rw [List.mem_singleton.mp k, e4] at ha
      cases ha
  · rw [e2]
    exact hnd
  · rw [e2] at hy
    obtain ⟨a, b, c⟩ := hN y hy
    rw [e5, e3 _ (hne _ a)]
    exact hms y hy
  · rw [e6, e1]
    exact lcI_add k1.1 (by omega)
  · rw [e1, List.length_append, List.length_singleton]
    omega
  · rw [e6, e2, e1, List.length_append, List.length_singleton]
    exact ⟨k2.1, by have := k2.2; omega⟩
  · rw [e6, e2]
    exact k3
  · rw [e1] at hy
    rcases List.mem_append.mp hy with k | k
    · rw [e3 y (hne y k)]
      exact k4 y k
    · rw [List.mem_singleton.mp k, e4]
      exact ⟨⟨rfl, Nat.zero_le _⟩, rfl⟩
  · rw [e2, e5]
    exact k5
theorem pgI_NM {R : pgR} {pr y : Nat} {r : moR} (h : pgI R) (hpr : pr ∈ R.2.2.1.1) (hy : y ∉ R.2.2.1.2.1) (hl : (R.2.2.2.1 pr).2.2.1.2.length < 2) (hl2 : R.2.2.1.2.1.length + 1 ≤ 2 * R.2.2.1.1.length) (hr1 : r.1 = pr) (hr2 : r.2.1 = ((R.2.2.2.1 pr).2.2.1.2.length : Int)) (hr3 : ∀ v : Nat, v < 32 → bI r.2.2.1 v = true → v < (R.2.2.2.1 pr).2.1.length) : pgI (pgNM R pr y r) := by
  obtain ⟨hF, hO, hN, hL, hA, hnd, hms, ⟨k1, k2, k3, k4, k5⟩⟩ := h
  obtain ⟨R', hR'⟩ : ∃ R', R' = pgNM R pr y r := ⟨_, rfl⟩
  rw [← hR']
  have e1 : R'.2.2.1 = (R.2.2.1.1, R.2.2.1.2.1 ++ [y], R.2.2.1.2.2) := by rw [hR']; rfl
  have e3 : ∀ z, z ≠ pr → R'.2.2.2.1 z = R.2.2.2.1 z := fun z hz => by rw [hR']; exact if_neg hz
  have e4 : R'.2.2.2.1 pr = ((R.2.2.2.1 pr).1, (R.2.2.2.1 pr).2.1, (lCap (R.2.2.2.1 pr).2.2.1.1 (R.2.2.2.1 pr).2.2.1.2, (R.2.2.2.1 pr).2.2.1.2 ++ [y]), (R.2.2.2.1 pr).2.2.2) := by rw [hR']; exact if_pos rfl
  have e5 : R'.2.2.2.2.2 = R.2.2.2.2.2 := by rw [hR']; rfl
  have e6 : R'.2.1 = (R.2.1.1, lCap R.2.1.2.1 R.2.2.1.2.1, R.2.1.2.2) := by rw [hR']; rfl
  have e7 : ∀ z, z ≠ y → R'.2.2.2.2.1 z = R.2.2.2.2.1 z := fun z hz => by rw [hR']; exact if_neg hz
  have e8 : R'.2.2.2.2.1 y = r := by rw [hR']; exact if_pos rfl
  clear hR'
  have hne : ∀ z, z ∈ R.2.2.1.2.1 → z ≠ y := fun z hz q => hy (q ▸ hz)
  have q1 : ∀ z, (R'.2.2.2.1 z).1 = (R.2.2.2.1 z).1 ∧ (R'.2.2.2.1 z).2.1 = (R.2.2.2.1 z).2.1 ∧ (R'.2.2.2.1 z).2.2.2 = (R.2.2.2.1 z).2.2.2 := fun z => by
    by_cases c : z = pr
    · rw [c, e4]
      exact ⟨rfl, rfl, rfl⟩
    · rw [e3 z c]
      exact ⟨rfl, rfl, rfl⟩
  have hPe : ∀ q, pgP R' q = pgP R q := fun q => by unfold pgP; rw [e1]
  have hCe : ∀ q, pgCl R' q = pgCl R q := fun q => by unfold pgCl; rw [e1]
  have hG : pgG R R' := ⟨fun q z hq => by rw [hPe]; exact hq, fun z hz => by
      obtain ⟨a, b, c⟩ := q1 z
      rw [a, b, c]
      exact ⟨rfl, rfl, fun _ h => h⟩, fun c a hc => by rw [hCe]; exact hc, fun z hz => by
      rw [e1, e7 z (hne z hz)]
      exact ⟨List.mem_append_left _ hz, rfl⟩⟩
  have hN' : ∀ z, z ∈ R'.2.2.1.2.1 → z ∈ R.2.2.1.2.1 ∨ z = y := fun z hz => by
    rw [e1] at hz
    rcases List.mem_append.mp hz with k | k
    · exact Or.inl k
    · exact Or.inr (List.mem_singleton.mp k)
  have hmo : ∀ z, z ∈ R.2.2.1.1 → ∃ l, (R'.2.2.2.1 z).2.2.1.2 = (R.2.2.2.1 z).2.2.1.2 ++ l := fun z hz => by
    by_cases c : z = pr
    · rw [c, e4]
      exact ⟨[y], rfl⟩
    · rw [e3 z c]
      exact ⟨[], (List.append_nil _).symm⟩
  refine ⟨pF_mk (fun q z hq => ?_) (fun c a hc => ?_), ?_, fun z hz => ?_, ?_, fun q hq a ha m hm => ?_, ?_, fun z hz => ?_, ⟨?_, ?_, ?_, fun z hz => ?_, ?_⟩⟩
  · rw [hPe] at hq
    have hz := List.mem_of_getElem? hq
    refine ⟨prA_keep hG hz (hF.1 q z hq), ?_, prC_keep hG (by rw [(q1 z).2.2]) (hF.2.2.1 q z hq)⟩
    by_cases c : z = pr
    · intro m md hm
      rw [c, e4] at hm
      rw [c, (q1 pr).2.1]
      have hm : ((R.2.2.2.1 pr).2.2.1.2 ++ [y])[m]? = some md := hm
      rcases app_at hm with k | ⟨ka, kb⟩
      · obtain ⟨a, b, c', d'⟩ := hF.2.1 q pr (by rw [← c]; exact hq) m md k
        rw [e7 md (hne md a), e1]
        exact ⟨List.mem_append_left _ a, b, c', d'⟩
      · rw [kb, e8, e1, hr1, hr2, ka]
        exact ⟨List.mem_append_right _ (List.mem_singleton.mpr rfl), rfl, rfl, hl, hr3⟩
    · exact prB_keep hG hz (by rw [e3 z c]) (hF.2.1 q z hq)
  · rw [hCe] at hc
    refine clI_keep hG (by rw [e5]) (fun g _ => by rw [e5]) (fun q z hq ha => ?_) (hF.2.2.2 c a hc)
    rw [hPe] at hq
    rw [(q1 z).2.2] at ha
    exact ⟨q, hq, ha⟩
  · intro c hc
    rw [e1] at hc
    obtain ⟨a, b, c'⟩ := hO c hc
    rw [e5, e1]
    exact ⟨a, fun x hx => List.mem_append_left _ (b x hx), c'⟩
  · rw [(q1 _).2.2]
    rcases hN' z hz with k | k
    · rw [e7 z (hne z k), e1]
      exact hN z k
    · rw [k, e8, hr1, hr2, e1]
      obtain ⟨q, hq⟩ := pgP_mem hpr
      have := (hF.2.2.1 q pr hq).2.1
      exact ⟨hpr, ⟨by omega, by omega⟩, by omega⟩
  · unfold pgL
    rw [e1, e5]
    exact hL
  · rw [e1] at hq
    rw [(q1 q).2.2] at ha
    exact ordP_keep hG hmo (pF_B hF) (by rw [e5]) (fun g hg => by rw [e5]; exact ⟨hg, rfl⟩) (hA q hq a ha m hm)
  · rw [e1]
    exact List.nodup_append.mpr ⟨hnd, List.nodup_cons.mpr ⟨List.not_mem_nil, List.nodup_nil⟩, fun a ha b hb => by rw [List.mem_singleton.mp hb]; exact hne a ha⟩
  · rcases hN' z hz with k | k
    · rw [e7 z (hne z k)]
      obtain ⟨m, hm⟩ := hms z k
      obtain ⟨l, hl⟩ := hmo _ (hN z k).1
      rw [hl]
      exact ⟨m, by rw [List.getElem?_append_left (List.getElem?_eq_some_iff.mp hm).1]; exact hm⟩
    · rw [k, e8, hr1, e4]
      exact ⟨(R.2.2.2.1 pr).2.2.1.2.length, by rw [List.getElem?_append_right (Nat.le_refl _), Nat.sub_self]; rfl⟩
  · rw [e6, e1]
    exact k1
  · rw [e6, e1]
    refine ⟨lcI_add k2.1 ?_, ?_⟩
    · have := k1.2
      omega
    · show (R.2.2.1.2.1 ++ [y]).length ≤ _
      rw [List.length_append, List.length_singleton]
      exact hl2
  · rw [e6, e1]
    exact k3
  · rw [e1] at hz
    rw [(q1 z).2.2]
    obtain ⟨⟨j1, j2⟩, j3⟩ := k4 z hz
    refine ⟨?_, j3⟩
    by_cases c : z = pr
    · rw [c] at j1 j2
      rw [c, e4]
      refine ⟨lcI_add j1 (by omega), ?_⟩
      show ((R.2.2.2.1 pr).2.2.1.2 ++ [y]).length ≤ 2
      rw [List.length_append, List.length_singleton]
      exact hl
    · rw [e3 z c]
      exact ⟨j1, j2⟩
  · rw [e1, e5]
    exact k5
