/-! Own rows: a clause more, a goal more. By hand; nothing of the bytecode. -/
theorem nd_mp {f : Nat → Nat} {L : List Nat} (h : L.Nodup) (hi : ∀ a, a ∈ L → ∀ b, b ∈ L → f a = f b → a = b) : (L.map f).Nodup := by
  unfold List.Nodup
  rw [List.pairwise_map]
  exact List.Pairwise.imp_of_mem (fun ha hb hab e => hab (hi _ ha _ hb e)) h
/-- the modes are fewer than there is room for, as long as a predicate has room -/
theorem pgI_mc {R : pgR} {pr : Nat} (h : pgI R) (hpr : pr ∈ R.2.2.1.1) (hl : (R.2.2.2.1 pr).2.2.1.2.length < 2) : R.2.2.1.2.1.length + 1 ≤ 2 * R.2.2.1.1.length := by
  obtain ⟨hF, hO, hN, hL, hA, hnd, hms, -⟩ := h
  have key : ∀ y, y ∈ R.2.2.1.2.1 → ∃ q z m : Nat, pgP R q = some z ∧ (R.2.2.2.1 z).2.2.1.2[m]? = some y ∧ (R.2.2.2.2.1 y).1 = z ∧ ((R.2.2.2.1 (R.2.2.2.2.1 y).1).1.1).toNat = q ∧ (R.2.2.2.2.1 y).2.1.toNat = m ∧ m < 2 := fun y hy => by
    obtain ⟨q, hq⟩ := pgP_mem (hN y hy).1
    obtain ⟨m, hm⟩ := hms y hy
    obtain ⟨-, -, a, b, -⟩ := hF.2.1 q _ hq m y hm
    have c := (hF.1 q _ hq).1
    exact ⟨q, _, m, hq, hm, rfl, by rw [c]; rfl, by rw [a]; rfl, b⟩
  obtain ⟨q0, hq0⟩ := pgP_mem hpr
  have n0 := (hF.1 q0 pr hq0).1
  have l0 := (List.getElem?_eq_some_iff.mp hq0).1
  have hn1 : (2 * q0 + (R.2.2.2.1 pr).2.2.1.2.length) ∉ R.2.2.1.2.1.map (fun y => 2 * ((R.2.2.2.1 (R.2.2.2.2.1 y).1).1.1).toNat + (R.2.2.2.2.1 y).2.1.toNat) := fun hmem => by
    obtain ⟨y, hy, e⟩ := List.mem_map.mp hmem
    obtain ⟨q, z, m, a1, a2, a3, a4, a5, a6⟩ := key y hy
    rw [a4, a5] at e
    have eq : q = q0 := by omega
    have em : m = (R.2.2.2.1 pr).2.2.1.2.length := by omega
    rw [eq, hq0] at a1
    have ez : pr = z := Option.some.inj a1
    rw [← ez, em, List.getElem?_eq_none (Nat.le_refl _)] at a2
    cases a2
  have hn2 : (R.2.2.1.2.1.map (fun y => 2 * ((R.2.2.2.1 (R.2.2.2.2.1 y).1).1.1).toNat + (R.2.2.2.2.1 y).2.1.toNat)).Nodup := nd_mp hnd (fun a ha b hb e => by
    obtain ⟨q, z, m, a1, a2, a3, a4, a5, a6⟩ := key a ha
    obtain ⟨q', z', m', b1, b2, b3, b4, b5, b6⟩ := key b hb
    have e : 2 * ((R.2.2.2.1 (R.2.2.2.2.1 a).1).1.1).toNat + (R.2.2.2.2.1 a).2.1.toNat = 2 * ((R.2.2.2.1 (R.2.2.2.2.1 b).1).1.1).toNat + (R.2.2.2.2.1 b).2.1.toNat := e
    rw [a4, a5, b4, b5] at e
    have eq : q = q' := by omega
    have em : m = m' := by omega
    rw [eq, b1] at a1
    have ez : z' = z := Option.some.inj a1
    rw [em, ← ez, b2] at a2
    exact (Option.some.inj a2).symm)
  have q := nd_le (2 * R.2.2.1.1.length) ((2 * q0 + (R.2.2.2.1 pr).2.2.1.2.length) :: R.2.2.1.2.1.map (fun y => 2 * ((R.2.2.2.1 (R.2.2.2.2.1 y).1).1.1).toNat + (R.2.2.2.2.1 y).2.1.toNat)) (List.nodup_cons.mpr ⟨hn1, hn2⟩) (fun x hx => by
      rcases List.mem_cons.mp hx with e | e
      · rw [e]; omega
      · obtain ⟨y, hy, e⟩ := List.mem_map.mp e
        obtain ⟨q, z, m, a1, a2, a3, a4, a5, a6⟩ := key y hy
        have hl := (List.getElem?_eq_some_iff.mp a1).1
        rw [a4, a5] at e
        omega)
  rw [List.length_cons, List.length_map] at q
  exact q
theorem pgI_NC {R : pgR} {pr c : Nat} (h : pgI R) (hpr : pr ∈ R.2.2.1.1) (hc : c ∉ R.2.2.1.2.2) (hl : R.2.2.1.2.2.length < 12) : pgI (pgNC R pr c (clN (R.2.2.1.2.2.length : Int) pr c (R.2.2.2.1 pr).2.1)) := by
  obtain ⟨hF, hO, hN, hL, hA, hnd, hms, ⟨k1, k2, k3, k4, k5⟩⟩ := h
  obtain ⟨r, hr⟩ : ∃ r, r = clN (R.2.2.1.2.2.length : Int) pr c (R.2.2.2.1 pr).2.1 := ⟨_, rfl⟩
  rw [← hr]
  have r1 : r.1 = ((R.2.2.1.2.2.length : Int), pr) := by rw [hr]; rfl
  have r2 : r.2.2.2.1 = (0, []) := by rw [hr]; rfl
  have r3 : r.2.2.2.2.1.1 = List.replicate 2 0 := by rw [hr]; rfl
  have r4 : r.2.2.2.2.2 = (List.replicate 10 none, List.replicate 10 none) := by rw [hr]; rfl
  clear hr
  obtain ⟨R', hR'⟩ : ∃ R', R' = pgNC R pr c r := ⟨_, rfl⟩
  rw [← hR']
  have e1 : R'.2.2.1 = (R.2.2.1.1, R.2.2.1.2.1, R.2.2.1.2.2 ++ [c]) := by rw [hR']; rfl
  have e3 : ∀ z, z ≠ pr → R'.2.2.2.1 z = R.2.2.2.1 z := fun z hz => by rw [hR']; exact if_neg hz
  have e4 : R'.2.2.2.1 pr = ((R.2.2.2.1 pr).1, (R.2.2.2.1 pr).2.1, (R.2.2.2.1 pr).2.2.1, (lCap (R.2.2.2.1 pr).2.2.2.1 (R.2.2.2.1 pr).2.2.2.2, (R.2.2.2.1 pr).2.2.2.2 ++ [c])) := by rw [hR']; exact if_pos rfl
  have e5 : R'.2.2.2.2.1 = R.2.2.2.2.1 := by rw [hR']; rfl
  have e6 : R'.2.1 = (R.2.1.1, R.2.1.2.1, lCap R.2.1.2.2 R.2.2.1.2.2) := by rw [hR']; rfl
  have e7 : ∀ z, z ≠ c → R'.2.2.2.2.2.1 z = R.2.2.2.2.2.1 z := fun z hz => by rw [hR']; exact if_neg hz
  have e8 : R'.2.2.2.2.2.1 c = r := by rw [hR']; exact if_pos rfl
  have e9 : R'.2.2.2.2.2.2 = R.2.2.2.2.2.2 := by rw [hR']; rfl
  clear hR'
  have hne : ∀ z, z ∈ R.2.2.1.2.2 → z ≠ c := fun z hz q => hc (q ▸ hz)
  have q1 : ∀ z, (R'.2.2.2.1 z).1 = (R.2.2.2.1 z).1 ∧ (R'.2.2.2.1 z).2.1 = (R.2.2.2.1 z).2.1 ∧ (R'.2.2.2.1 z).2.2.1 = (R.2.2.2.1 z).2.2.1 := fun z => by
    by_cases q : z = pr
    · rw [q, e4]
      exact ⟨rfl, rfl, rfl⟩
    · rw [e3 z q]
      exact ⟨rfl, rfl, rfl⟩
  have hPe : ∀ q, pgP R' q = pgP R q := fun q => by unfold pgP; rw [e1]
  have hin : ∀ z, z ∈ R.2.2.1.1 → ∀ a, a ∈ (R.2.2.2.1 z).2.2.2.2 → a ∈ R.2.2.1.2.2 := fun z hz a ha => by
    obtain ⟨q, hq⟩ := pgP_mem hz
    obtain ⟨k, hk⟩ := (hF.2.2.1 q z hq).2.2 a ha
    exact List.mem_of_getElem? hk
  have hcs : ∀ z, z ∈ R.2.2.1.1 → ∀ a, a ∈ (R'.2.2.2.1 z).2.2.2.2 → a ∈ (R.2.2.2.1 z).2.2.2.2 ∨ (z = pr ∧ a = c) := fun z hz a ha => by
    by_cases q : z = pr
    · rw [q, e4] at ha
      rcases List.mem_append.mp ha with k | k
      · exact Or.inl (by rw [q]; exact k)
      · exact Or.inr ⟨q, List.mem_singleton.mp k⟩
    · rw [e3 z q] at ha
      exact Or.inl ha
  have hG : pgG R R' := ⟨fun q z hq => by rw [hPe]; exact hq, fun z hz => by
      obtain ⟨a, b, -⟩ := q1 z
      rw [a, b]
      refine ⟨rfl, rfl, fun x hx => ?_⟩
      by_cases q : z = pr
      · rw [q, e4]
        rw [q] at hx
        exact List.mem_append_left _ hx
      · rw [e3 z q]
        exact hx, fun q a hq => by
      show R'.2.2.1.2.2[q]? = some a
      rw [e1]
      exact app_old hq, fun z hz => by
      rw [e1, e5]
      exact ⟨hz, rfl⟩⟩
  have hmo : ∀ z, z ∈ R.2.2.1.1 → ∃ l, (R'.2.2.2.1 z).2.2.1.2 = (R.2.2.2.1 z).2.2.1.2 ++ l := fun z hz => ⟨[], by rw [(q1 z).2.2, List.append_nil]⟩
  have hCl' : ∀ q a, pgCl R' q = some a → pgCl R q = some a ∨ (q = R.2.2.1.2.2.length ∧ a = c) := fun q a hq => app_at (by
    have hq : R'.2.2.1.2.2[q]? = some a := hq
    rw [e1] at hq
    exact hq)
  refine ⟨pF_mk (fun q z hq => ?_) (fun k a hk => ?_), fun a ha => ?_, fun z hz => ?_, fun a ha => ?_, fun q hq a ha m hm => ?_, ?_, fun z hz => ?_, ⟨?_, ?_, ?_, fun z hz => ?_, fun a ha => ?_⟩⟩
  · rw [hPe] at hq
    have hz := List.mem_of_getElem? hq
    refine ⟨prA_keep hG hz (hF.1 q z hq), prB_keep hG hz (by rw [(q1 z).2.2]) (hF.2.1 q z hq), ?_⟩
    by_cases qz : z = pr
    · obtain ⟨f1, f2, f3⟩ := hF.2.2.1 q z hq
      rw [qz] at f1 f2 f3
      have hlen : (R.2.2.2.1 pr).2.2.2.2.length ≤ R.2.2.1.2.2.length := by
        have hcl : ∀ a, a ∈ (R.2.2.2.1 pr).2.2.2.2 → ∃ k, pgCl R k = some a ∧ ((R.2.2.2.2.2.1 a).1.1).toNat = k := fun a ha => by
          obtain ⟨k, hk⟩ := f3 a ha
          exact ⟨k, hk, by rw [(hF.2.2.2 k a hk).1]; rfl⟩
        have := nd_le R.2.2.1.2.2.length ((R.2.2.2.1 pr).2.2.2.2.map (fun a => ((R.2.2.2.2.2.1 a).1.1).toNat)) (nd_mp f1 (fun a ha b hb e => by
          obtain ⟨k, a1, a2⟩ := hcl a ha
          obtain ⟨k', b1, b2⟩ := hcl b hb
          have e : ((R.2.2.2.2.2.1 a).1.1).toNat = ((R.2.2.2.2.2.1 b).1.1).toNat := e
          rw [a2, b2] at e
          rw [e, b1] at a1
          exact (Option.some.inj a1).symm)) (fun x hx => by
          obtain ⟨a, ha, e⟩ := List.mem_map.mp hx
          obtain ⟨k, a1, a2⟩ := hcl a ha
          have := (List.getElem?_eq_some_iff.mp a1).1
          have e : ((R.2.2.2.2.2.1 a).1.1).toNat = x := e
          omega)
        rw [List.length_map] at this
        exact this
      unfold prC
      rw [qz, e4]
      refine ⟨List.nodup_append.mpr ⟨f1, List.nodup_cons.mpr ⟨List.not_mem_nil, List.nodup_nil⟩, fun a ha b hb => by rw [List.mem_singleton.mp hb]; exact hne a (hin pr hpr a ha)⟩, ?_, fun a ha => ?_⟩
      · show ((R.2.2.2.1 pr).2.2.2.2 ++ [c]).length ≤ 12
        rw [List.length_append, List.length_singleton]
        omega
      · rcases List.mem_append.mp ha with k | k
        · obtain ⟨x, hx⟩ := f3 a k
          exact ⟨x, hG.2.2.1 x a hx⟩
        · refine ⟨R.2.2.1.2.2.length, ?_⟩
          show R'.2.2.1.2.2[R.2.2.1.2.2.length]? = some a
          rw [e1, List.mem_singleton.mp k]
          show (R.2.2.1.2.2 ++ [c])[R.2.2.1.2.2.length]? = some c
          rw [List.getElem?_append_right (Nat.le_refl _), Nat.sub_self]
          rfl
    · exact prC_keep hG (by rw [e3 z qz]) (hF.2.2.1 q z hq)
  · rcases hCl' k a hk with j | ⟨ja, jb⟩
    · have ham := List.mem_of_getElem? j
      refine clI_keep hG (e7 a (hne a ham)) (fun g _ => by rw [e9]) (fun q z hq ha => ?_) (hF.2.2.2 k a j)
      rw [hPe] at hq
      rcases hcs z (List.mem_of_getElem? hq) a ha with x | ⟨-, x⟩
      · exact ⟨q, hq, x⟩
      · exact absurd x (hne a ham)
    · unfold clI
      rw [jb, e8, r1, r2, ja, e1]
      refine ⟨rfl, hl, hpr, ⟨?_, fun q z hq ha => ?_⟩, Nat.zero_le _, fun g hg => (nomatch hg)⟩
      · rw [e4]
        exact List.mem_append_right _ (List.mem_singleton.mpr rfl)
      · rw [hPe] at hq
        have hz := List.mem_of_getElem? hq
        rcases hcs z hz c ha with x | ⟨x, -⟩
        · exact absurd (hin z hz c x) hc
        · exact x.symm
  · rw [e1] at ha
    rw [e1]
    rcases List.mem_append.mp ha with k | k
    · rw [e7 a (hne a k)]
      exact hO a k
    · rw [List.mem_singleton.mp k, e8, r4, r3]
      refine ⟨fun g hg => ?_, fun g hg => ?_, fun x hx => ?_⟩
      · have e := List.eq_of_mem_replicate hg
        cases e
      · have e := List.eq_of_mem_replicate hg
        cases e
      · rw [List.eq_of_mem_replicate hx]
        exact ⟨Int.le_refl _, by decide⟩
  · rw [e1] at hz
    rw [e5, e1]
    obtain ⟨a, b, d⟩ := hN z hz
    refine ⟨a, b, ?_⟩
    by_cases q : (R.2.2.2.2.1 z).1 = pr
    · rw [q, e4]
      show ((R.2.2.2.1 pr).2.2.2.2 ++ [c]).length < 1000
      obtain ⟨j, hj⟩ := pgP_mem hpr
      have := (hF.2.2.1 j pr hj).2.1
      rw [List.length_append, List.length_singleton]
      omega
    · rw [e3 _ q]
      exact d
  · rw [e1] at ha
    rcases List.mem_append.mp ha with k | k
    · rw [e7 a (hne a k)]
      exact hL a k
    · rw [List.mem_singleton.mp k, e8, r2]
      exact Nat.zero_le _
  · rw [e1] at hq
    rcases hcs q hq a ha with k | ⟨-, k⟩
    · have ham := hin q hq a k
      exact ordP_keep hG hmo (pF_B hF) (by rw [e7 a (hne a ham)]) (fun g hg => by rw [e7 a (hne a ham), e9]; exact ⟨hg, rfl⟩) (hA q hq a k m hm)
    · refine ⟨0, ?_, Nat.zero_le _, fun x hx => absurd hx (Nat.not_lt_zero x)⟩
      rw [k, e8, r3]
      have hm' : m = 0 ∨ m = 1 := by omega
      rcases hm' with e | e <;> rw [e] <;> rfl
  · rw [e1]
    exact hnd
  · rw [e1] at hz
    rw [e5, (q1 _).2.2]
    exact hms z hz
  · rw [e6, e1]
    exact k1
  · rw [e6, e1]
    exact k2
  · rw [e6, e1]
    refine ⟨lcI_add k3.1 (by omega), ?_⟩
    show (R.2.2.1.2.2 ++ [c]).length ≤ 12
    rw [List.length_append, List.length_singleton]
    exact hl
  · rw [e1] at hz
    rw [(q1 z).2.2]
    obtain ⟨j1, j2⟩ := k4 z hz
    refine ⟨j1, ?_⟩
    by_cases q : z = pr
    · rw [q] at j2
      rw [q, e4]
      refine lcI_add j2 ?_
      obtain ⟨j, hj⟩ := pgP_mem hpr
      have := (hF.2.2.1 j pr hj).2.1
      omega
    · rw [e3 z q]
      exact j2
  · rw [e1] at ha
    rcases List.mem_append.mp ha with k | k
    · rw [e7 a (hne a k)]
      exact k5 a k
    · rw [List.mem_singleton.mp k, e8, r2]
      rfl
