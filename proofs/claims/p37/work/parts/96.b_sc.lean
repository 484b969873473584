/-! Own rows: breadth's scan marks what is in a node: whole. By hand. -/
def gnd (N : bNT) (bd : bBD) (n : Nat) : Prop := ∃ k e, bend N bd k n = some e ∧ bhd N e.2 ≠ none
def unk (N : bNT) (bd : bBD) (n : Nat) : Prop := ∃ k e, bend N bd k n = some e ∧ bhd N e.2 = none
/-- a mark of this round, of a node that is done -/
def okM (N : bNT) (bd : bBD) (rd : Nat) (v : Int) (n : Nat) : Prop := (v = 3 * (rd : Int) + 1 ∧ gnd N bd n) ∨ (v = 3 * (rd : Int) + 2 ∧ unk N bd n)
def mkX (N : bNT) (bd : bBD) (rd : Nat) (mk mk' : Nat → Int) : Prop := ∀ m, m < N.length → mk' m = mk m ∨ okM N bd rd (mk' m) m
def mkI (N : bNT) (bd : bBD) (rd : Nat) (mk : Nat → Int) (c : Nat) : Prop := ∀ m, m < N.length → -1 ≤ mk m ∧ (mk m < 3 * (rd : Int) ∨ okM N bd rd (mk m) m ∨ (mk m = 3 * (rd : Int) ∧ ∃ k e, bend N bd k m = some e ∧ c < e.1))
theorem bend_one {N : bNT} {bd : bBD} {k k' n : Nat} {e e' : Nat × Nat} (h : bend N bd k n = some e) (h' : bend N bd k' n = some e') : e = e' := by
  have h1 := bend_mono k (k + k') n e (by omega) h
  have h2 := bend_mono k' (k + k') n e' (by omega) h'
  rw [h1] at h2
  exact Option.some.inj h2
theorem gnd_unk {N : bNT} {bd : bBD} {n : Nat} (h : gnd N bd n) (k : unk N bd n) : False := by
  obtain ⟨a, e, h1, h2⟩ := h
  obtain ⟨b, f, k1, k2⟩ := k
  rw [bend_one h1 k1] at h2
  exact h2 k2
theorem bend_t {N : bNT} {bd : bBD} {P : Nat × Nat → Prop} {z : Nat} : ∀ (k : Nat) (x : Nat), bt bd k x z → ((∃ k e, bend N bd k x = some e ∧ P e) ↔ ∃ k e, bend N bd k z = some e ∧ P e)
  | 0, x, e => by rw [show x = z from e]
  | k + 1, x, ⟨m, h1, h2⟩ => by
    refine Iff.trans ?_ (bend_t k m h2)
    constructor
    · rintro ⟨k, e, q, p⟩
      cases k with
      | zero => cases q
      | succ k => exact ⟨k, e, by rw [← bend_bound h1]; exact q, p⟩
    · rintro ⟨k, e, q, p⟩
      exact ⟨k + 1, e, by rw [bend_bound h1]; exact q, p⟩
theorem bend_b {N : bNT} {bd : bBD} {P : Nat × Nat → Prop} {n : Nat} (h : bd n = none) (hh : bhd N n = some 1) : (∃ k e, bend N bd k n = some e ∧ P e) ↔ ∃ k e, bend N bd k (bfs N n) = some e ∧ P (e.1 + 1, e.2) := by
  constructor
  · rintro ⟨k, e, q, p⟩
    cases k with
    | zero => cases q
    | succ k =>
      rw [bend_built h hh] at q
      obtain ⟨e', q1, q2⟩ := Option.map_eq_some_iff.mp q
      exact ⟨k, e', q1, by rw [q2]; exact p⟩
  · rintro ⟨k, e, q, p⟩
    exact ⟨k + 1, (e.1 + 1, e.2), by rw [bend_built h hh, q]; rfl, p⟩
theorem gnd_t {N : bNT} {bd : bBD} {x z k : Nat} (h : bt bd k x z) : (gnd N bd x ↔ gnd N bd z) ∧ (unk N bd x ↔ unk N bd z) := ⟨bend_t (P := fun e => bhd N e.2 ≠ none) k x h, bend_t (P := fun e => bhd N e.2 = none) k x h⟩
theorem gnd_b {N : bNT} {bd : bBD} {n : Nat} (h : bd n = none) (hh : bhd N n = some 1) : (gnd N bd n ↔ gnd N bd (bfs N n)) ∧ (unk N bd n ↔ unk N bd (bfs N n)) := ⟨bend_b (P := fun e => bhd N e.2 ≠ none) h hh, bend_b (P := fun e => bhd N e.2 = none) h hh⟩
theorem fin_or {N : bNT} {bd : bBD} {n : Nat} (h : bFin N bd n) : gnd N bd n ∨ unk N bd n := by
  obtain ⟨k, e, q⟩ := h
  by_cases c : bhd N e.2 = none
  · exact Or.inr ⟨k, e, q, c⟩
  · exact Or.inl ⟨k, e, q, c⟩
theorem gnd_fin {N : bNT} {bd : bBD} {n : Nat} (h : gnd N bd n) : bFin N bd n := by
  obtain ⟨k, e, q, -⟩ := h
  exact ⟨k, e, q⟩
theorem bFin_one {N : bNT} {bd : bBD} {n : Nat} (h : bd n = none) (hh : bhd N n = some 1) : bFin N bd n ↔ bFin N bd (bfs N n) := by
  constructor
  · rintro ⟨k, e, q⟩
    cases k with
    | zero => cases q
    | succ k =>
      rw [bend_built h hh] at q
      obtain ⟨e', q1, q2⟩ := Option.map_eq_some_iff.mp q
      exact ⟨k, e', q1⟩
  · rintro ⟨k, e, q⟩
    exact ⟨k + 1, (e.1 + 1, e.2), by rw [bend_built h hh, q]; rfl⟩
/-- the numbered terms are ground -/
theorem gnd_lt {N : bNT} {g : Nat} {bd : bBD} (hk : bWk N g bd) (hg : ∀ n, n < g → bhd N n ≠ none) (hp : ∀ n, bhd N n = some 1 → bfs N n < n) : ∀ n, n < g → gnd N bd n := by
  intro n
  induction n using Nat.strongRecOn with
  | _ n ih =>
    intro hn
    have h0 : bd n = none := by
      cases q : bd n with
      | none => rfl
      | some m => have := (hk.2.2 n m q).1; omega
    by_cases c : bhd N n = some 1
    · have := hp n c
      exact (gnd_b h0 c).1.mpr (ih _ this (by omega))
    · exact ⟨1, (0, n), bend_last h0 c, hg n hn⟩
/-- the way to the end passes different nodes -/
theorem bend_list {N : bNT} {bd : bBD} : ∀ (k n : Nat) (e : Nat × Nat), bend N bd k n = some e → ∃ l : List Nat, l.length = e.1 ∧ l.Nodup ∧ ∀ a, a ∈ l → bhd N a = some 1 ∧ ∃ j f, bend N bd j a = some f ∧ f.1 ≤ e.1
  | 0, _, _, h => by cases h
  | k + 1, n, e, h => by
    cases hb : bd n with
    | some m =>
      rw [bend_bound hb] at h
      exact bend_list k m e h
    | none =>
      by_cases c : bhd N n = some 1
      · have h0 := h
        rw [bend_built hb c] at h
        obtain ⟨e', h1, h2⟩ := Option.map_eq_some_iff.mp h
        obtain ⟨l, l1, l2, l3⟩ := bend_list k _ e' h1
        rw [← h2] at h0 ⊢
        refine ⟨n :: l, by rw [List.length_cons, l1], List.nodup_cons.mpr ⟨fun hx => ?_, l2⟩, fun a ha => ?_⟩
        · obtain ⟨-, j, f, j1, j2⟩ := l3 n hx
          have := bend_one j1 h0
          rw [this] at j2
          have j2 : e'.1 + 1 ≤ e'.1 := j2
          omega
        · rcases List.mem_cons.mp ha with q | q
          · rw [q]
            exact ⟨c, k + 1, _, h0, Nat.le_refl _⟩
          · obtain ⟨a1, j, f, j1, j2⟩ := l3 a q
            exact ⟨a1, j, f, j1, by show f.1 ≤ e'.1 + 1; omega⟩
      · rw [bend_last hb c] at h
        cases h
        exact ⟨[], rfl, List.nodup_nil, fun a ha => absurd ha List.not_mem_nil⟩
theorem bend_cnt {N : bNT} {bd : bBD} {k n : Nat} {e : Nat × Nat} (h : bend N bd k n = some e) : e.1 ≤ N.length := by
  obtain ⟨l, l1, l2, l3⟩ := bend_list k n e h
  rw [← l1]
  exact nd_le _ l l2 (fun a ha => bhd_lt (l3 a ha).1)
theorem mkX_re {N : bNT} {bd : bBD} {rd : Nat} {mk : Nat → Int} : mkX N bd rd mk mk := fun _ _ => Or.inl rfl
theorem okM_v {N : bNT} {bd : bBD} {g rd : Nat} {mk : Nat → Int} {n : Nat} (h : okM N bd rd (mk n) n) (hg : n < g → gnd N bd n) : ∃ v, (v = 1 ∧ gnd N bd n ∨ v = 2 ∧ unk N bd n) ∧ mkV g rd mk n = v := by
  unfold mkV
  by_cases c : n < g
  · rw [if_pos c]
    exact ⟨1, Or.inl ⟨rfl, hg c⟩, rfl⟩
  · rw [if_neg c]
    rcases h with ⟨a, b⟩ | ⟨a, b⟩
    · exact ⟨1, Or.inl ⟨rfl, b⟩, by omega⟩
    · exact ⟨2, Or.inr ⟨rfl, b⟩, by omega⟩
