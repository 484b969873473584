/-! Own rows: what the calls that build a program keep: a predicate more, a mode more. By hand; nothing of the bytecode. -/
def clI (R : pgR) (c a : Nat) : Prop := (R.2.2.2.2.2.1 a).1.1 = (c : Int) ∧ c < 12 ∧ (R.2.2.2.2.2.1 a).1.2 ∈ R.2.2.1.1 ∧ (a ∈ (R.2.2.2.1 (R.2.2.2.2.2.1 a).1.2).2.2.2.2 ∧ ∀ p y, pgP R p = some y → a ∈ (R.2.2.2.1 y).2.2.2.2 → (R.2.2.2.2.2.1 a).1.2 = y) ∧ (R.2.2.2.2.2.1 a).2.2.2.1.2.length ≤ 5 ∧
    ∀ g, g ∈ (R.2.2.2.2.2.1 a).2.2.2.1.2 → gOk (R.2.2.2.2.2.2 g) ∧ gOkC (pgC R) (gL (R.2.2.2.2.2.2 g)) ∧ (2 ≤ (gL (R.2.2.2.2.2.2 g)).1 → ∃ y, pgP R (gL (R.2.2.2.2.2.2 g)).2.1 = some y) ∧
      ∀ k, k < (gL (R.2.2.2.2.2.2 g)).2.2.1 → (R.2.2.2.1 (R.2.2.2.2.2.1 a).1.2).2.1.length ≤ smv (gL (R.2.2.2.2.2.2 g)) k → tg (R.2.2.2.2.2.1 a).2.2.1 ((smv (gL (R.2.2.2.2.2.2 g)) k : Nat) : Int) 0 ≠ -1
def prA (R : pgR) (p y : Nat) : Prop := (R.2.2.2.1 y).1.1 = (p : Int) ∧ p < 5 ∧ (R.2.2.2.1 y).2.1.length ≤ 3 ∧ ∀ k : Nat, k < (R.2.2.2.1 y).2.1.length → tg (R.2.2.2.1 y).2.1 (k : Int) 0 = 0
def prB (R : pgR) (y : Nat) : Prop := ∀ (m md : Nat), (R.2.2.2.1 y).2.2.1.2[m]? = some md → md ∈ R.2.2.1.2.1 ∧ (R.2.2.2.2.1 md).1 = y ∧ (R.2.2.2.2.1 md).2.1 = (m : Int) ∧ m < 2 ∧ ∀ v : Nat, v < 32 → bI (R.2.2.2.2.1 md).2.2.1 v = true → v < (R.2.2.2.1 y).2.1.length
def prC (R : pgR) (y : Nat) : Prop := (R.2.2.2.1 y).2.2.2.2.Nodup ∧ (R.2.2.2.1 y).2.2.2.2.length ≤ 12 ∧ ∀ a, a ∈ (R.2.2.2.1 y).2.2.2.2 → ∃ c, pgCl R c = some a
theorem pF_mk {R : pgR} (h1 : ∀ p y, pgP R p = some y → prA R p y ∧ prB R y ∧ prC R y) (h2 : ∀ c a, pgCl R c = some a → clI R c a) : pF R := ⟨fun p y h => (h1 p y h).1, fun p y h => (h1 p y h).2.1, fun p y h => (h1 p y h).2.2, h2⟩
theorem gOkC_ar {R R' : pgR} {gl : smL} (h : gOkC (pgC R) gl) (e : 2 ≤ gl.1 → (pgC R').1.2 gl.2.1 = (pgC R).1.2 gl.2.1) : gOkC (pgC R') gl := ⟨h.1, h.2.1, h.2.2.1, h.2.2.2.1, fun q => by rw [e q]; exact h.2.2.2.2 q⟩
theorem ar_eq {R R' : pgR} {p y : Nat} (h : pgP R p = some y) (h' : pgP R' p = some y) (e : (R'.2.2.2.1 y).2.1 = (R.2.2.2.1 y).2.1) : (pgC R').1.2 p = (pgC R).1.2 p := by
  show (match pgP R' p with | none => 0 | some y => (R'.2.2.2.1 y).2.1.length) = (match pgP R p with | none => 0 | some y => (R.2.2.2.1 y).2.1.length)
  rw [h, h']
  show (R'.2.2.2.1 y).2.1.length = (R.2.2.2.1 y).2.1.length
  rw [e]
/-- a program that has grown -/
def pgG (R R' : pgR) : Prop := (∀ q y, pgP R q = some y → pgP R' q = some y) ∧ (∀ y, y ∈ R.2.2.1.1 → (R'.2.2.2.1 y).1.1 = (R.2.2.2.1 y).1.1 ∧ (R'.2.2.2.1 y).2.1 = (R.2.2.2.1 y).2.1 ∧ ∀ a, a ∈ (R.2.2.2.1 y).2.2.2.2 → a ∈ (R'.2.2.2.1 y).2.2.2.2) ∧ (∀ c a, pgCl R c = some a → pgCl R' c = some a) ∧ (∀ y, y ∈ R.2.2.1.2.1 → y ∈ R'.2.2.1.2.1 ∧ R'.2.2.2.2.1 y = R.2.2.2.2.1 y)
theorem clI_keep {R R' : pgR} {c a : Nat} (hG : pgG R R') (hcl : R'.2.2.2.2.2.1 a = R.2.2.2.2.2.1 a) (hg : ∀ g, g ∈ (R.2.2.2.2.2.1 a).2.2.2.1.2 → R'.2.2.2.2.2.2 g = R.2.2.2.2.2.2 g) (hu : ∀ q y, pgP R' q = some y → a ∈ (R'.2.2.2.1 y).2.2.2.2 → ∃ q', pgP R q' = some y ∧ a ∈ (R.2.2.2.1 y).2.2.2.2) (h : clI R c a) : clI R' c a := by
  obtain ⟨h1, h2, h3, ⟨h4, h5⟩, h6, h7⟩ := h
  obtain ⟨-, hpd1, hpd2⟩ := hG.2.1 _ h3
  unfold clI
  rw [hcl]
  refine ⟨h1, h2, ?_, ⟨hpd2 a h4, fun q y hq ha => ?_⟩, h6, fun g hgm => ?_⟩
  · obtain ⟨q, hq⟩ := List.getElem?_of_mem h3
    exact List.mem_of_getElem? (hG.1 q _ hq)
  · obtain ⟨q', k1, k2⟩ := hu q y hq ha
    exact h5 q' y k1 k2
  · obtain ⟨g1, g2, g3, g4⟩ := h7 g hgm
    rw [hg g hgm]
    refine ⟨g1, gOkC_ar g2 (fun q => ?_), fun q => ?_, ?_⟩
    · obtain ⟨y, hy⟩ := g3 q
      exact ar_eq hy (hG.1 _ _ hy) (hG.2.1 y (List.mem_of_getElem? hy)).2.1
    · obtain ⟨y, hy⟩ := g3 q
      exact ⟨y, hG.1 _ _ hy⟩
    · rw [hpd1]
      exact g4
theorem prA_keep {R R' : pgR} {p y : Nat} (hG : pgG R R') (hy : y ∈ R.2.2.1.1) (h : prA R p y) : prA R' p y := by
  obtain ⟨a, b, -⟩ := hG.2.1 y hy
  unfold prA
  rw [a, b]
  exact h
theorem prB_keep {R R' : pgR} {y : Nat} (hG : pgG R R') (hy : y ∈ R.2.2.1.1) (e : (R'.2.2.2.1 y).2.2.1.2 = (R.2.2.2.1 y).2.2.1.2) (h : prB R y) : prB R' y := by
  intro m md hm
  rw [e] at hm
  obtain ⟨a, b, c, d⟩ := h m md hm
  obtain ⟨k1, k2⟩ := hG.2.2.2 md a
  rw [k2, (hG.2.1 y hy).2.1]
  exact ⟨k1, b, c, d⟩
theorem prC_keep {R R' : pgR} {y : Nat} (hG : pgG R R') (e : (R'.2.2.2.1 y).2.2.2.2 = (R.2.2.2.1 y).2.2.2.2) (h : prC R y) : prC R' y := by
  unfold prC
  rw [e]
  refine ⟨h.1, h.2.1, fun a ha => ?_⟩
  obtain ⟨c, hc⟩ := h.2.2 a ha
  exact ⟨c, hG.2.2.1 c a hc⟩
theorem find_grow {f f' : Nat → Bool} {L l : List Nat} {x : Nat} (h : L.find? f = some x) (he : ∀ m, m ∈ L → f' m = f m) : (L ++ l).find? f' = some x := by
  induction L with
  | nil => cases h
  | cons z L ih =>
    rw [List.cons_append, List.find?_cons, he z List.mem_cons_self]
    rw [List.find?_cons] at h
    cases hz : f z with
    | true => rw [hz] at h; exact h
    | false =>
      rw [hz] at h
      exact ih h (fun m hm => he m (List.mem_cons_of_mem _ hm))
/-- what is chosen stays chosen -/
theorem ch_keep {R R' : pgR} (hG : pgG R R') (hm : ∀ y, y ∈ R.2.2.1.1 → ∃ l, (R'.2.2.2.1 y).2.2.1.2 = (R.2.2.2.1 y).2.2.1.2 ++ l) (hB : ∀ y, y ∈ R.2.2.1.1 → ∀ md, md ∈ (R.2.2.2.1 y).2.2.1.2 → md ∈ R.2.2.1.2.1) {g : goR} {kn : Int} {x : Nat} (h : chM R g kn = some x) : chM R' g kn = some x := by
  by_cases c : g.1 = 2 ∨ g.1 = 3
  · cases hl : lAt R.2.2.1.1 g.2.1 with
    | none => rw [chM_0 hl] at h; cases h
    | some y =>
      rw [chM_1 c hl] at h
      have hy := lAt_mem hl
      have hl' : lAt R'.2.2.1.1 g.2.1 = some y := by
        unfold lAt at hl ⊢
        by_cases c0 : 0 ≤ g.2.1
        · rw [if_pos c0] at hl ⊢
          exact hG.1 _ _ hl
        · rw [if_neg c0] at hl; cases hl
      rw [chM_1 c hl']
      obtain ⟨l, hl2⟩ := hm y hy
      rw [hl2]
      refine find_grow h (fun m hmm => ?_)
      rw [(hG.2.2.2 m (hB y hy m hmm)).2]
  · rw [chM_n c] at h; cases h
theorem ordP_keep {R R' : pgR} (hG : pgG R R') (hm : ∀ y, y ∈ R.2.2.1.1 → ∃ l, (R'.2.2.2.1 y).2.2.1.2 = (R.2.2.2.1 y).2.2.1.2 ++ l) (hB : ∀ y, y ∈ R.2.2.1.1 → ∀ md, md ∈ (R.2.2.2.1 y).2.2.1.2 → md ∈ R.2.2.1.2.1) {m a : Nat} (ho : (R'.2.2.2.2.2.1 a).2.2.2.2 = (R.2.2.2.2.2.1 a).2.2.2.2) (hgs : ∀ g, g ∈ (R.2.2.2.2.2.1 a).2.2.2.1.2 → g ∈ (R'.2.2.2.2.2.1 a).2.2.2.1.2 ∧ R'.2.2.2.2.2.2 g = R.2.2.2.2.2.2 g) (h : ordP R m a) : ordP R' m a := by
  obtain ⟨n, h1, h2, h3⟩ := h
  refine ⟨n, by rw [ho]; exact h1, h2, fun q hq => ?_⟩
  obtain ⟨g, k1, k2, k3⟩ := h3 q hq
  obtain ⟨k4, k5⟩ := hgs g k2
  refine ⟨g, by rw [ho]; exact k1, k4, fun x hx => ?_⟩
  rw [ho] at hx
  obtain ⟨kn, hk⟩ := k3 x hx
  exact ⟨kn, by rw [k5]; exact ch_keep hG hm hB hk⟩
/-- a list and its room -/
def lcI (cap : Nat) (ys : List Nat) : Prop := cap = if ys = [] then 0 else if ys.length ≤ 10 then 10 else 15
theorem lcI_add {cap y : Nat} {ys : List Nat} (h : lcI cap ys) (hl : ys.length < 15) : lcI (lCap cap ys) (ys ++ [y]) := by
  unfold lcI at h ⊢
  have e : ys ++ [y] ≠ [] := by simp
  rw [if_neg e, List.length_append, List.length_singleton]
  unfold lCap
  by_cases c : ys = []
  · rw [if_pos c, c]
    rfl
  · rw [if_neg c]
    rw [if_neg c] at h
    by_cases c2 : ys.length ≤ 10
    · rw [if_pos c2] at h
      rw [h]
      by_cases c3 : ys.length < 10
      · rw [if_pos c3, if_pos (by omega)]
      · rw [if_neg c3, if_neg (by omega)]
    · rw [if_neg c2] at h
      rw [h, if_pos (by omega), if_neg (by omega)]
theorem lcI_b {cap : Nat} {ys : List Nat} (h : lcI cap ys) (hl : ys.length < 15) : (ys = [] → cap = 0) ∧ ys.length ≤ cap ∧ cap ≤ 15 := by
  unfold lcI at h
  refine ⟨fun c => by rw [if_pos c] at h; exact h, ?_⟩
  by_cases c : ys = []
  · rw [if_pos c] at h
    rw [c, h]
    exact ⟨Nat.le_refl _, Nat.zero_le _⟩
  · rw [if_neg c] at h
    by_cases c2 : ys.length ≤ 10
    · rw [if_pos c2] at h
      omega
    · rw [if_neg c2] at h
      omega
/-- the rooms of all lists, and how long they may be -/
def pgK (R : pgR) : Prop := (lcI R.2.1.1 R.2.2.1.1 ∧ R.2.2.1.1.length ≤ 5) ∧ (lcI R.2.1.2.1 R.2.2.1.2.1 ∧ R.2.2.1.2.1.length ≤ 2 * R.2.2.1.1.length) ∧ (lcI R.2.1.2.2 R.2.2.1.2.2 ∧ R.2.2.1.2.2.length ≤ 12) ∧ (∀ y, y ∈ R.2.2.1.1 → (lcI (R.2.2.2.1 y).2.2.1.1 (R.2.2.2.1 y).2.2.1.2 ∧ (R.2.2.2.1 y).2.2.1.2.length ≤ 2) ∧ lcI (R.2.2.2.1 y).2.2.2.1 (R.2.2.2.1 y).2.2.2.2) ∧ ∀ c, c ∈ R.2.2.1.2.2 → lcI (R.2.2.2.2.2.1 c).2.2.2.1.1 (R.2.2.2.2.2.1 c).2.2.2.1.2
