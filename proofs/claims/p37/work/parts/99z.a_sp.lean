/-! Own rows: the compiler's other loops end where nothing changes. By hand; nothing of the bytecode. -/
theorem filter_le {T : Type} {p q : T → Bool} : ∀ {l : List T}, (∀ x, x ∈ l → q x = true → p x = true) → (l.filter q).length ≤ (l.filter p).length
  | [], _ => Nat.le_refl _
  | x :: l, h => by
    have ih := filter_le (l := l) (fun y hy => h y (List.mem_cons_of_mem _ hy))
    have hx := h x List.mem_cons_self
    cases hq : q x with
    | true =>
      rw [List.filter_cons_of_pos hq, List.filter_cons_of_pos (hx hq), List.length_cons, List.length_cons]
      omega
    | false =>
      rw [List.filter_cons_of_neg (by rw [hq]; simp)]
      cases hp : p x with
      | true => rw [List.filter_cons_of_pos hp, List.length_cons]; omega
      | false => rw [List.filter_cons_of_neg (by rw [hp]; simp)]; exact ih
theorem filter_lt {T : Type} {p q : T → Bool} : ∀ {l : List T}, (∀ x, x ∈ l → q x = true → p x = true) → (∃ x, x ∈ l ∧ p x = true ∧ q x = false) → (l.filter q).length < (l.filter p).length
  | [], _, ⟨x, h, _⟩ => absurd h List.not_mem_nil
  | x :: l, h, ⟨y, hy, hp, hq⟩ => by
    have hle := filter_le (l := l) (fun y hy => h y (List.mem_cons_of_mem _ hy))
    rcases List.mem_cons.mp hy with e | e
    · rw [← e, List.filter_cons_of_neg (by rw [hq]; simp), List.filter_cons_of_pos hp, List.length_cons]
      omega
    · have ih := filter_lt (l := l) (fun y hy => h y (List.mem_cons_of_mem _ hy)) ⟨y, e, hp, hq⟩
      have hx := h x List.mem_cons_self
      cases hqx : q x with
      | true =>
        rw [List.filter_cons_of_pos hqx, List.filter_cons_of_pos (hx hqx), List.length_cons, List.length_cons]
        omega
      | false =>
        rw [List.filter_cons_of_neg (by rw [hqx]; simp)]
        cases hpx : p x with
        | true => rw [List.filter_cons_of_pos hpx, List.length_cons]; omega
        | false => rw [List.filter_cons_of_neg (by rw [hpx]; simp)]; exact ih
abbrev moG (r : moR) : Int := r.2.2.2.2.2.1
abbrev moF1 (r : moR) : Int := r.2.2.2.2.2.2.1
abbrev moF2 (r : moR) : Int := r.2.2.2.2.2.2.2.1
/-- only that a mode is good was lost -/
def gK (R R' : pgR) : Prop := (R'.2.2.1 = R.2.2.1 ∧ R'.2.2.2.1 = R.2.2.2.1 ∧ R'.2.2.2.2.2 = R.2.2.2.2.2) ∧ ∀ y, R'.2.2.2.2.1 y = R.2.2.2.2.1 y ∨ R'.2.2.2.2.1 y = setGd (R.2.2.2.2.1 y) 0
theorem gK_re {R : pgR} : gK R R := ⟨⟨rfl, rfl, rfl⟩, fun _ => Or.inl rfl⟩
theorem gK_tr {R R1 R2 : pgR} (h : gK R R1) (k : gK R1 R2) : gK R R2 := by
  obtain ⟨⟨a1, a2, a3⟩, a4⟩ := h
  obtain ⟨⟨b1, b2, b3⟩, b4⟩ := k
  refine ⟨⟨b1.trans a1, b2.trans a2, b3.trans a3⟩, fun y => ?_⟩
  rcases b4 y with e | e <;> rcases a4 y with e' | e' <;> rw [e, e']
  · exact Or.inl rfl
  · exact Or.inr rfl
  · exact Or.inr rfl
  · exact Or.inr rfl
theorem gK_g {R R' : pgR} (h : gK R R') {y : Nat} (hg : moG (R'.2.2.2.2.1 y) ≠ 0) : R'.2.2.2.2.1 y = R.2.2.2.2.1 y := by
  rcases h.2 y with e | e
  · exact e
  · rw [e] at hg
    exact absurd rfl hg
theorem gK_set {R : pgR} {y : Nat} : gK R (pgSetM R y (setGd (R.2.2.2.2.1 y) 0)) := ⟨⟨rfl, rfl, rfl⟩, fun z => by
  show (if z = y then _ else _) = _ ∨ (if z = y then _ else _) = _
  by_cases c : z = y
  · rw [if_pos c, c]; exact Or.inr rfl
  · rw [if_neg c]; exact Or.inl rfl⟩
theorem spF_ok : ∀ (l : List Nat) (b : Bool) (w : zW) (R : pgR), gK R (spF l b w R).2.2 ∧
    ((spF l b w R).1 = false → b = false ∧ (spF l b w R).2.2 = R ∧ ∀ y, y ∈ l → ¬ (moG (R.2.2.2.2.1 y) ≠ 0 ∧ badM R y = true)) ∧
    ((spF l b w R).1 = true → b = true ∨ ∃ y, y ∈ l ∧ moG (R.2.2.2.2.1 y) ≠ 0 ∧ moG ((spF l b w R).2.2.2.2.2.2.1 y) = 0)
  | [], b, w, R => ⟨gK_re, fun h => ⟨h, rfl, fun y hy => absurd hy List.not_mem_nil⟩, fun h => Or.inl h⟩
  | y :: l, b, w, R => by
    by_cases c : moG (R.2.2.2.2.1 y) ≠ 0 ∧ badM R y = true
    · rw [spF_y c]
      obtain ⟨i1, i2, i3⟩ := spF_ok l true (zput w y (5, 0, moF (setGd (R.2.2.2.2.1 y) 0))) (pgSetM R y (setGd (R.2.2.2.2.1 y) 0))
      have hy0 : (pgSetM R y (setGd (R.2.2.2.2.1 y) 0)).2.2.2.2.1 y = setGd (R.2.2.2.2.1 y) 0 := if_pos rfl
      refine ⟨gK_tr gK_set i1, fun h => ?_, fun _ => Or.inr ⟨y, List.mem_cons_self, c.1, ?_⟩⟩
      · have := (i2 h).1
        cases this
      · rcases i1.2 y with e | e <;> rw [e, hy0] <;> rfl
    · rw [spF_n c]
      obtain ⟨i1, i2, i3⟩ := spF_ok l b w R
      refine ⟨i1, fun h => ?_, fun h => ?_⟩
      · obtain ⟨a, a2, a3⟩ := i2 h
        refine ⟨a, a2, fun z hz => ?_⟩
        rcases List.mem_cons.mp hz with e | e
        · rw [e]; exact c
        · exact a3 z e
      · rcases i3 h with e | ⟨z, e1, e2⟩
        · exact Or.inl e
        · exact Or.inr ⟨z, List.mem_cons_of_mem _ e1, e2⟩
theorem sf2_ok {Ms : List Nat} : ∀ (n : Nat) (w : zW) (R : pgR), (Ms.filter (fun y => decide (moG (R.2.2.2.2.1 y) ≠ 0))).length < n → gK R (sf2 Ms n true w R).2 ∧ ∀ y, y ∈ Ms → ¬ (moG ((sf2 Ms n true w R).2.2.2.2.2.1 y) ≠ 0 ∧ badM (sf2 Ms n true w R).2 y = true)
  | 0, _, _, h => absurd h (Nat.not_lt_zero _)
  | n + 1, w, R, h => by
    rw [sf2_t]
    obtain ⟨i1, i2, i3⟩ := spF_ok Ms false w R
    cases hb : (spF Ms false w R).1 with
    | false =>
      rw [sf2_f]
      obtain ⟨-, e, k⟩ := i2 hb
      rw [e]
      exact ⟨gK_re, k⟩
    | true =>
      have hd : (Ms.filter (fun y => decide (moG ((spF Ms false w R).2.2.2.2.2.2.1 y) ≠ 0))).length < (Ms.filter (fun y => decide (moG (R.2.2.2.2.1 y) ≠ 0))).length := by
        refine filter_lt (fun y _ hy => ?_) ?_
        · rw [decide_eq_true_eq] at hy ⊢
          rw [← gK_g i1 hy]
          exact hy
        · rcases i3 hb with e | ⟨y, e1, e2, e3⟩
          · cases e
          · exact ⟨y, e1, decide_eq_true e2, decide_eq_false (fun q => q e3)⟩
      obtain ⟨k1, k2⟩ := sf2_ok (Ms := Ms) n (spF Ms false w R).2.1 (spF Ms false w R).2.2 (by omega)
      exact ⟨gK_tr i1 k1, k2⟩
/-- only flags were found -/
def fK (R R' : pgR) : Prop := (R'.2.2.1 = R.2.2.1 ∧ R'.2.2.2.1 = R.2.2.2.1 ∧ R'.2.2.2.2.2 = R.2.2.2.2.2) ∧ ∀ y, ∃ f v : Int, R'.2.2.2.2.1 y = setFr (R.2.2.2.2.1 y) f v
theorem fK_re {R : pgR} : fK R R := ⟨⟨rfl, rfl, rfl⟩, fun y => ⟨moF1 (R.2.2.2.2.1 y), moF2 (R.2.2.2.2.1 y), rfl⟩⟩
theorem fK_tr {R R1 R2 : pgR} (h : fK R R1) (k : fK R1 R2) : fK R R2 := by
  obtain ⟨⟨a1, a2, a3⟩, a4⟩ := h
  obtain ⟨⟨b1, b2, b3⟩, b4⟩ := k
  refine ⟨⟨b1.trans a1, b2.trans a2, b3.trans a3⟩, fun y => ?_⟩
  obtain ⟨f, v, e⟩ := a4 y
  obtain ⟨f', v', e'⟩ := b4 y
  exact ⟨f', v', by rw [e', e]; rfl⟩
theorem fK_set {R : pgR} {y : Nat} {f v : Int} : fK R (pgSetM R y (setFr (R.2.2.2.2.1 y) f v)) := ⟨⟨rfl, rfl, rfl⟩, fun z => by
  by_cases c : z = y
  · refine ⟨f, v, ?_⟩
    show (if z = y then _ else _) = _
    rw [if_pos c, c]
  · refine ⟨moF1 (R.2.2.2.2.1 z), moF2 (R.2.2.2.2.1 z), ?_⟩
    show (if z = y then _ else _) = _
    rw [if_neg c]
    rfl⟩
/-- flags are 0 or 1, and 0 where a mode is not good -/
def flI (Ms : List Nat) (R : pgR) : Prop := ∀ y, y ∈ Ms → (moF1 (R.2.2.2.2.1 y) = 0 ∨ (moF1 (R.2.2.2.2.1 y) = 1 ∧ moG (R.2.2.2.2.1 y) ≠ 0)) ∧ (moF2 (R.2.2.2.2.1 y) = 0 ∨ (moF2 (R.2.2.2.2.1 y) = 1 ∧ moG (R.2.2.2.2.1 y) ≠ 0))
theorem ffV_ok {gd c v : Int} (h : c = 0 ∨ (c = 1 ∧ gd ≠ 0)) : (ffV gd c v = 0 ∨ (ffV gd c v = 1 ∧ gd ≠ 0)) ∧ (c ≠ 0 → ffV gd c v = c) ∧ (ffV gd c v = 0 → gd ≠ 0 → c = 0 ∧ v = 0) := by
  unfold ffV
  by_cases h1 : ¬ gd = 0 ∧ (¬ c = 0 ∨ ¬ v = 0)
  · rw [if_pos h1]
    refine ⟨Or.inr ⟨rfl, h1.1⟩, fun hc => ?_, fun q => by cases q⟩
    rcases h with e | e
    · exact absurd e hc
    · exact e.1.symm
  · rw [if_neg h1]
    refine ⟨Or.inl rfl, fun hc => ?_, fun _ hg => ?_⟩
    · rcases h with e | e
      · exact absurd e hc
      · exact absurd ⟨e.2, Or.inl hc⟩ h1
    · constructor
      · exact Classical.byContradiction fun q => h1 ⟨hg, Or.inl q⟩
      · exact Classical.byContradiction fun q => h1 ⟨hg, Or.inr q⟩
theorem pgSetM_id {R : pgR} {y : Nat} {r : moR} (h : r = R.2.2.2.2.1 y) : pgSetM R y r = R := by
  obtain ⟨a, b, c, d, e, f⟩ := R
  unfold pgSetM
  have : (fun z => if z = y then r else e z) = e := by
    funext z
    by_cases c : z = y
    · rw [if_pos c, h, c]
    · rw [if_neg c]
  show (a, b, c, d, (fun z => if z = y then r else e z), f) = _
  rw [this]
theorem spG_ok {C : List (List Int)} {Ms : List Nat} : ∀ (l : List Nat) (b : Bool) (w : zW) (R : pgR), (∀ y, y ∈ l → y ∈ Ms) → flI Ms R → fK R (spG C l b w R).2.2 ∧ flI Ms (spG C l b w R).2.2 ∧
    (∀ y, (moF1 (R.2.2.2.2.1 y) ≠ 0 → moF1 ((spG C l b w R).2.2.2.2.2.2.1 y) ≠ 0) ∧ (moF2 (R.2.2.2.2.1 y) ≠ 0 → moF2 ((spG C l b w R).2.2.2.2.2.2.1 y) ≠ 0)) ∧
    ((spG C l b w R).1 = false → b = false ∧ (spG C l b w R).2.2 = R ∧ ∀ y, y ∈ l → moF1 (frR R C (R.2.2.2.2.1 y)) = moF1 (R.2.2.2.2.1 y) ∧ moF2 (frR R C (R.2.2.2.2.1 y)) = moF2 (R.2.2.2.2.1 y)) ∧
    ((spG C l b w R).1 = true → b = true ∨ ∃ y, y ∈ l ∧ ((moF1 (R.2.2.2.2.1 y) = 0 ∧ moF1 ((spG C l b w R).2.2.2.2.2.2.1 y) ≠ 0) ∨ (moF2 (R.2.2.2.2.1 y) = 0 ∧ moF2 ((spG C l b w R).2.2.2.2.2.2.1 y) ≠ 0)))
  | [], b, w, R, _, hf => ⟨fK_re, hf, fun _ => ⟨id, id⟩, fun h => ⟨h, rfl, fun y hy => absurd hy List.not_mem_nil⟩, fun h => Or.inl h⟩
  | y :: l, b, w, R, hl, hf => by
    rw [spG_c]
    obtain ⟨h1, h2⟩ := hf y (hl y List.mem_cons_self)
    have q1 := ffV_ok (v := cmfI R C (R.2.2.2.2.1 y).1 (R.2.2.2.2.1 y).2.2.2.2.2.2.2.2 (R.2.2.2.2.1 y).2.1) h1
    have q2 := ffV_ok (v := cmrI R (R.2.2.2.2.1 y).1 (R.2.2.2.2.1 y).2.2.2.2.2.2.2.2 (R.2.2.2.2.1 y).2.1) h2
    obtain ⟨R1, hR1⟩ : ∃ R1, R1 = pgSetM R y (frR R C (R.2.2.2.2.1 y)) := ⟨_, rfl⟩
    have hy1 : R1.2.2.2.2.1 y = frR R C (R.2.2.2.2.1 y) := by rw [hR1]; exact if_pos rfl
    have hz1 : ∀ z, z ≠ y → R1.2.2.2.2.1 z = R.2.2.2.2.1 z := fun z hz => by rw [hR1]; exact if_neg hz
    have hfK : fK R R1 := by rw [hR1]; exact fK_set
    have hf1 : flI Ms R1 := fun z hz => by
      by_cases c : z = y
      · rw [c, hy1]
        exact ⟨q1.1, q2.1⟩
      · rw [hz1 z c]
        exact hf z hz
    have hmon : ∀ z, (moF1 (R.2.2.2.2.1 z) ≠ 0 → moF1 (R1.2.2.2.2.1 z) ≠ 0) ∧ (moF2 (R.2.2.2.2.1 z) ≠ 0 → moF2 (R1.2.2.2.2.1 z) ≠ 0) := fun z => by
      by_cases c : z = y
      · rw [c, hy1]
        refine ⟨fun h => ?_, fun h => ?_⟩
        · have e : moF1 (frR R C (R.2.2.2.2.1 y)) = moF1 (R.2.2.2.2.1 y) := q1.2.1 h
          rw [e]; exact h
        · have e : moF2 (frR R C (R.2.2.2.2.1 y)) = moF2 (R.2.2.2.2.1 y) := q2.2.1 h
          rw [e]; exact h
      · rw [hz1 z c]
        exact ⟨id, id⟩
    rw [← hR1]
    obtain ⟨i1, i2, i3, i4, i5⟩ := spG_ok (C := C) (Ms := Ms) l (b || decide (moF1 (frR R C (R.2.2.2.2.1 y)) ≠ moF1 (R.2.2.2.2.1 y) ∨ moF2 (frR R C (R.2.2.2.2.1 y)) ≠ moF2 (R.2.2.2.2.1 y))) (zput w y (5, 0, moF (frR R C (R.2.2.2.2.1 y)))) R1 (fun z hz => hl z (List.mem_cons_of_mem _ hz)) hf1
    refine ⟨fK_tr hfK i1, i2, fun z => ⟨fun h => (i3 z).1 ((hmon z).1 h), fun h => (i3 z).2 ((hmon z).2 h)⟩, fun h => ?_, fun h => ?_⟩
    · obtain ⟨a, a2, a3⟩ := i4 h
      rw [Bool.or_eq_false_iff, decide_eq_false_iff_not] at a
      have e1 : moF1 (frR R C (R.2.2.2.2.1 y)) = moF1 (R.2.2.2.2.1 y) := Classical.byContradiction fun q => a.2 (Or.inl q)
      have e2 : moF2 (frR R C (R.2.2.2.2.1 y)) = moF2 (R.2.2.2.2.1 y) := Classical.byContradiction fun q => a.2 (Or.inr q)
      have er : frR R C (R.2.2.2.2.1 y) = R.2.2.2.2.1 y := by
        have e3 : frR R C (R.2.2.2.2.1 y) = setFr (R.2.2.2.2.1 y) (moF1 (frR R C (R.2.2.2.2.1 y))) (moF2 (frR R C (R.2.2.2.2.1 y))) := rfl
        rw [e3, e1, e2]
        rfl
      have eR : R1 = R := by rw [hR1]; exact pgSetM_id er
      rw [a2, eR]
      rw [eR] at a3
      refine ⟨a.1, rfl, fun z hz => ?_⟩
      rcases List.mem_cons.mp hz with e | e
      · rw [e]; exact ⟨e1, e2⟩
      · exact a3 z e
    · rcases i5 h with e | ⟨z, e1, e2⟩
      · rw [Bool.or_eq_true, decide_eq_true_eq] at e
        rcases e with e | e
        · exact Or.inl e
        · refine Or.inr ⟨y, List.mem_cons_self, ?_⟩
          rcases e with e | e
          · have z0 : moF1 (R.2.2.2.2.1 y) = 0 := Classical.byContradiction fun q => e (q1.2.1 q)
            refine Or.inl ⟨z0, (i3 y).1 ?_⟩
            rw [hy1]
            exact fun q => e (q.trans z0.symm)
          · have z0 : moF2 (R.2.2.2.2.1 y) = 0 := Classical.byContradiction fun q => e (q2.2.1 q)
            refine Or.inr ⟨z0, (i3 y).2 ?_⟩
            rw [hy1]
            exact fun q => e (q.trans z0.symm)
      · refine Or.inr ⟨z, List.mem_cons_of_mem _ e1, ?_⟩
        rcases e2 with ⟨a, b⟩ | ⟨a, b⟩
        · exact Or.inl ⟨Classical.byContradiction fun q => (hmon z).1 q a, b⟩
        · exact Or.inr ⟨Classical.byContradiction fun q => (hmon z).2 q a, b⟩
theorem sf3_ok {C : List (List Int)} {Ms : List Nat} : ∀ (n : Nat) (w : zW) (R : pgR), flI Ms R → (Ms.filter (fun y => decide (moF1 (R.2.2.2.2.1 y) = 0))).length + (Ms.filter (fun y => decide (moF2 (R.2.2.2.2.1 y) = 0))).length < n → fK R (sf3 C Ms n true w R).2 ∧ flI Ms (sf3 C Ms n true w R).2 ∧ ∀ y, y ∈ Ms → moF1 (frR (sf3 C Ms n true w R).2 C ((sf3 C Ms n true w R).2.2.2.2.2.1 y)) = moF1 ((sf3 C Ms n true w R).2.2.2.2.2.1 y) ∧ moF2 (frR (sf3 C Ms n true w R).2 C ((sf3 C Ms n true w R).2.2.2.2.2.1 y)) = moF2 ((sf3 C Ms n true w R).2.2.2.2.2.1 y)
  | 0, _, _, _, h => absurd h (Nat.not_lt_zero _)
  | n + 1, w, R, hf, h => by
    rw [sf3_t]
    obtain ⟨i1, i2, i3, i4, i5⟩ := spG_ok (C := C) (Ms := Ms) Ms false w R (fun _ h => h) hf
    cases hb : (spG C Ms false w R).1 with
    | false =>
      rw [sf3_f]
      obtain ⟨-, e, k⟩ := i4 hb
      rw [e]
      exact ⟨fK_re, hf, k⟩
    | true =>
      have l1 : ∀ y, y ∈ Ms → decide (moF1 ((spG C Ms false w R).2.2.2.2.2.2.1 y) = 0) = true → decide (moF1 (R.2.2.2.2.1 y) = 0) = true := fun y _ hy => by
        rw [decide_eq_true_eq] at hy ⊢
        exact Classical.byContradiction fun q => (i3 y).1 q hy
      have l2 : ∀ y, y ∈ Ms → decide (moF2 ((spG C Ms false w R).2.2.2.2.2.2.1 y) = 0) = true → decide (moF2 (R.2.2.2.2.1 y) = 0) = true := fun y _ hy => by
        rw [decide_eq_true_eq] at hy ⊢
        exact Classical.byContradiction fun q => (i3 y).2 q hy
      have a1 := filter_le l1
      have a2 := filter_le l2
      have hd : (Ms.filter (fun y => decide (moF1 ((spG C Ms false w R).2.2.2.2.2.2.1 y) = 0))).length + (Ms.filter (fun y => decide (moF2 ((spG C Ms false w R).2.2.2.2.2.2.1 y) = 0))).length < (Ms.filter (fun y => decide (moF1 (R.2.2.2.2.1 y) = 0))).length + (Ms.filter (fun y => decide (moF2 (R.2.2.2.2.1 y) = 0))).length := by
        rcases i5 hb with e | ⟨y, e1, ⟨e2, e3⟩ | ⟨e2, e3⟩⟩
        · cases e
        · have := filter_lt l1 ⟨y, e1, decide_eq_true e2, decide_eq_false e3⟩
          omega
        · have := filter_lt l2 ⟨y, e1, decide_eq_true e2, decide_eq_false e3⟩
          omega
      obtain ⟨k1, k2, k3⟩ := sf3_ok (Ms := Ms) n (spG C Ms false w R).2.1 (spG C Ms false w R).2.2 i2 (by omega)
      exact ⟨fK_tr i1 k1, k2, k3⟩
