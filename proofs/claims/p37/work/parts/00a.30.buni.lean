/-! Own rows: BREADTH: nodes of terms with unknowns, what is bound to what, and two nodes made the same. Constructor 1 has one part, so each node has one way on at most. Nothing of the bytecode here. -/
/-- heads (none: an unknown) and first parts -/
abbrev bNT : Type := List (Option Nat × Nat)
abbrev bBD : Type := Nat → Option Nat
def bhd (N : bNT) (n : Nat) : Option Nat := (N[n]?).bind fun x => x.1
def bfs (N : bNT) (n : Nat) : Nat := ((N[n]?).map fun x => x.2).getD 0
/-- so many steps of what is bound to what -/
def bt (bd : bBD) : Nat → Nat → Nat → Prop
  | 0, x, z => x = z
  | k + 1, x, z => ∃ m, bd x = some m ∧ bt bd k m z
def bRp (bd : bBD) (x z : Nat) : Prop := (∃ k, bt bd k x z) ∧ bd z = none
/-- the way to the end: how many constructors with a part, and the last node -/
def bend (N : bNT) (bd : bBD) : Nat → Nat → Option (Nat × Nat)
  | 0, _ => none
  | k + 1, n => match bd n with
    | some m => bend N bd k m
    | none => if bhd N n = some 1 then (bend N bd k (bfs N n)).map (fun e => (e.1 + 1, e.2)) else some (0, n)
def bFin (N : bNT) (bd : bBD) (n : Nat) : Prop := ∃ k e, bend N bd k n = some e
/-- values of nodes: what is built is built -/
def bSt (N : bNT) (ν : Nat → smG) : Prop := ∀ n c, bhd N n = some c → ν n = smB c (ν (bfs N n))
def bSo (bd : bBD) (ν : Nat → smG) : Prop := ∀ n m, bd n = some m → ν n = ν m
def bCg (N : bNT) (bd : bBD) (n m : Nat) : Prop := bhd N n = some 1 → ∃ z k k', bt bd k (bfs N n) z ∧ bt bd k' (bfs N m) z
/-- g: so many nodes are the numbered terms -/
def bWk (N : bNT) (g : Nat) (bd : bBD) : Prop := (∀ x, ∃ z, bRp bd x z) ∧ (∀ n m c, bd n = some m → bhd N n = some c → bhd N m = some c) ∧ ∀ n m, bd n = some m → g ≤ n ∧ n < N.length ∧ m < N.length
def bWF (N : bNT) (g : Nat) (bd : bBD) : Prop := bWk N g bd ∧ (∀ n m, bd n = some m → bCg N bd n m) ∧ ∀ n, bFin N bd n
section BU
variable {N : bNT} {g : Nat} {bd : bBD}
theorem bt_app : ∀ (k k' : Nat) (x y z : Nat), bt bd k x y → bt bd k' y z → bt bd (k + k') x z
  | 0, k', x, y, z, h1, h2 => by
    have h1 : x = y := h1
    rw [Nat.zero_add, h1]
    exact h2
  | k + 1, k', x, y, z, ⟨m, h1, h3⟩, h2 => by
    rw [show k + 1 + k' = (k + k') + 1 by omega]
    exact ⟨m, h1, bt_app k k' m y z h3 h2⟩
theorem bt_mono {bd' : bBD} (h : ∀ n m, bd n = some m → bd' n = some m) : ∀ (k x z : Nat), bt bd k x z → bt bd' k x z
  | 0, _, _, e => e
  | k + 1, _, _, ⟨m, h1, h2⟩ => ⟨m, h _ _ h1, bt_mono h k _ _ h2⟩
theorem bt_rp : ∀ (k x z : Nat), bt bd k x z → ∀ r, bRp bd z r → bRp bd x r
  | k, x, z, h, r, ⟨⟨k', h1⟩, h2⟩ => ⟨⟨k + k', bt_app k k' x z r h h1⟩, h2⟩
theorem bRp_uniq : ∀ (k x z z' : Nat), bt bd k x z → bd z = none → bRp bd x z' → z = z'
  | 0, x, z, z', h, hz, ⟨⟨k', h1⟩, h2⟩ => by
    have h : x = z := h
    subst h
    cases k' with
    | zero => exact h1
    | succ k' =>
      obtain ⟨m, q, -⟩ := h1
      rw [hz] at q
      cases q
  | k + 1, x, z, z', ⟨m, q1, q2⟩, hz, ⟨⟨k', h1⟩, h2⟩ => by
    cases k' with
    | zero =>
      have h1 : x = z' := h1
      rw [h1, h2] at q1
      cases q1
    | succ k' =>
      obtain ⟨m', q3, q4⟩ := h1
      rw [q1] at q3
      cases q3
      exact bRp_uniq k m z z' q2 hz ⟨⟨k', q4⟩, h2⟩
theorem bRp_one {x z z' : Nat} (h : bRp bd x z) (h' : bRp bd x z') : z = z' := by
  obtain ⟨⟨k, h1⟩, h2⟩ := h
  exact bRp_uniq k x z z' h1 h2 h'
theorem bRp_self {x : Nat} (h : bd x = none) : bRp bd x x := ⟨⟨0, rfl⟩, h⟩
theorem bRp_step {x m z : Nat} (h : bd x = some m) (k : bRp bd m z) : bRp bd x z := bt_rp 1 x m ⟨m, h, rfl⟩ z k
theorem bt_val {ν : Nat → smG} (h : bSo bd ν) : ∀ (k x z : Nat), bt bd k x z → ν x = ν z
  | 0, _, _, e => by rw [show _ = _ from e]
  | k + 1, x, z, ⟨m, h1, h2⟩ => by rw [h x m h1, bt_val h k m z h2]
theorem bt_hd (hk : bWk N g bd) {c : Nat} : ∀ (k x z : Nat), bt bd k x z → bhd N x = some c → bhd N z = some c
  | 0, _, _, e, h => by rw [← show _ = _ from e]; exact h
  | k + 1, x, z, ⟨m, h1, h2⟩, h => bt_hd hk k m z h2 (hk.2.1 x m c h1 h)
theorem bend_mono : ∀ (k k' n : Nat) (e : Nat × Nat), k ≤ k' → bend N bd k n = some e → bend N bd k' n = some e
  | 0, _, _, _, _, h => by cases h
  | k + 1, 0, _, _, hk, _ => by omega
  | k + 1, k' + 1, n, e, hk, h => by
    unfold bend at h ⊢
    cases hb : bd n with
    | some m =>
      rw [hb] at h
      exact bend_mono k k' m e (by omega) h
    | none =>
      rw [hb] at h
      by_cases c : bhd N n = some 1
      · simp only [if_pos c] at h ⊢
        obtain ⟨e', h1, h2⟩ := Option.map_eq_some_iff.mp h
        rw [bend_mono k k' _ e' (by omega) h1, ← h2]
        rfl
      · simp only [if_neg c] at h ⊢
        exact h
theorem bend_bound {k n m : Nat} (h : bd n = some m) : bend N bd (k + 1) n = bend N bd k m := by
  conv => lhs; unfold bend
  rw [h]
theorem bend_built {k n : Nat} (h : bd n = none) (hh : bhd N n = some 1) : bend N bd (k + 1) n = (bend N bd k (bfs N n)).map (fun e => (e.1 + 1, e.2)) := by
  conv => lhs; unfold bend
  rw [h]
  simp only [if_pos hh]
theorem bend_last {k n : Nat} (h : bd n = none) (hh : bhd N n ≠ some 1) : bend N bd (k + 1) n = some (0, n) := by
  conv => lhs; unfold bend
  rw [h]
  simp only [if_neg hh]
theorem bend_end : ∀ (k n : Nat) (e : Nat × Nat), bend N bd k n = some e → bd e.2 = none ∧ bhd N e.2 ≠ some 1
  | 0, _, _, h => by cases h
  | k + 1, n, e, h => by
    cases hb : bd n with
    | some m =>
      rw [bend_bound hb] at h
      exact bend_end k m e h
    | none =>
      by_cases c : bhd N n = some 1
      · rw [bend_built hb c] at h
        obtain ⟨e', h1, h2⟩ := Option.map_eq_some_iff.mp h
        rw [← h2]
        exact bend_end k _ e' h1
      · rw [bend_last hb c] at h
        cases h
        exact ⟨hb, c⟩
theorem bFin_bound {n m : Nat} (h : bd n = some m) : bFin N bd n ↔ bFin N bd m := by
  constructor
  · rintro ⟨k, e, q⟩
    cases k with
    | zero => cases q
    | succ k => exact ⟨k, e, by rw [← bend_bound h]; exact q⟩
  · rintro ⟨k, e, q⟩
    exact ⟨k + 1, e, by rw [bend_bound h]; exact q⟩
theorem bFin_t : ∀ (k x z : Nat), bt bd k x z → (bFin N bd x ↔ bFin N bd z)
  | 0, _, _, e => by rw [show _ = _ from e]
  | k + 1, x, z, ⟨m, h1, h2⟩ => (bFin_bound h1).trans (bFin_t k m z h2)
/-- built nodes, bound or not -/
theorem bFin_built (hk : bWk N g bd) (hc : ∀ n m, bd n = some m → bCg N bd n m) : ∀ (k n z : Nat), bt bd k n z → bd z = none → bhd N n = some 1 → (bFin N bd n ↔ bFin N bd (bfs N n))
  | 0, n, z, e, hz, hh => by
    have e : n = z := e
    subst e
    constructor
    · rintro ⟨k, e, q⟩
      cases k with
      | zero => cases q
      | succ k =>
        rw [bend_built hz hh] at q
        obtain ⟨e', h1, h2⟩ := Option.map_eq_some_iff.mp q
        exact ⟨k, e', h1⟩
    · rintro ⟨k, e, q⟩
      exact ⟨k + 1, (e.1 + 1, e.2), by rw [bend_built hz hh, q]; rfl⟩
  | k + 1, n, z, ⟨m, h1, h2⟩, hz, hh => by
    have hm := hk.2.1 n m 1 h1 hh
    obtain ⟨w, a, b, q1, q2⟩ := hc n m h1 hh
    rw [bFin_bound h1, bFin_built hk hc k m z h2 hz hm, bFin_t a _ w q1, bFin_t b _ w q2]
theorem bFin_b (hk : bWk N g bd) (hc : ∀ n m, bd n = some m → bCg N bd n m) {n : Nat} (hh : bhd N n = some 1) : bFin N bd n ↔ bFin N bd (bfs N n) := by
  obtain ⟨z, ⟨k, h1⟩, h2⟩ := hk.1 n
  exact bFin_built hk hc k n z h1 h2 hh
theorem bFin_leaf (hk : bWk N g bd) {n c : Nat} (hh : bhd N n = some c) (hc : c ≠ 1) : bFin N bd n := by
  obtain ⟨z, ⟨k, h1⟩, h2⟩ := hk.1 n
  rw [bFin_t k n z h1]
  have h3 := bt_hd hk k n z h1 hh
  exact ⟨1, (0, z), bend_last h2 (by rw [h3]; simp [hc])⟩
/-- values along the way -/
theorem bend_val {ν : Nat → smG} (hs : bSt N ν) (ho : bSo bd ν) : ∀ (k n : Nat) (e : Nat × Nat), bend N bd k n = some e → ν n = ((ν e.2).1 + e.1, (ν e.2).2)
  | 0, _, _, h => by cases h
  | k + 1, n, e, h => by
    cases hb : bd n with
    | some m =>
      rw [bend_bound hb] at h
      rw [ho n m hb]
      exact bend_val hs ho k m e h
    | none =>
      by_cases c : bhd N n = some 1
      · rw [bend_built hb c] at h
        obtain ⟨e', h1, h2⟩ := Option.map_eq_some_iff.mp h
        rw [hs n 1 c, bend_val hs ho k _ e' h1, ← h2]
        simp [smB, Nat.add_assoc]
      · rw [bend_last hb c] at h
        cases h
        simp
/-- what has values has an end -/
theorem bFin_sol (hk : bWk N g bd) {ν : Nat → smG} (hs : bSt N ν) (ho : bSo bd ν) : ∀ (s n : Nat), (ν n).1 ≤ s → bFin N bd n := by
  intro s
  induction s with
  | zero =>
    intro n hn
    obtain ⟨z, ⟨k, h1⟩, h2⟩ := hk.1 n
    rw [bFin_t k n z h1]
    by_cases c : bhd N z = some 1
    · have e := hs z 1 c
      rw [← bt_val ho k n z h1] at e
      rw [e] at hn
      simp [smB] at hn
    · exact ⟨1, (0, z), bend_last h2 c⟩
  | succ s ih =>
    intro n hn
    obtain ⟨z, ⟨k, h1⟩, h2⟩ := hk.1 n
    rw [bFin_t k n z h1]
    by_cases c : bhd N z = some 1
    · have e := hs z 1 c
      rw [← bt_val ho k n z h1] at e
      rw [e] at hn
      obtain ⟨k', e', q⟩ := ih (bfs N z) (by simpa [smB] using hn)
      exact ⟨k' + 1, (e'.1 + 1, e'.2), by rw [bend_built h2 c, q]; rfl⟩
    · exact ⟨1, (0, z), bend_last h2 c⟩
/-- there are values, whatever the unknowns are -/
theorem b_sat (hk : bWF N g bd) (θ : Nat → smG) : ∃ ν, bSt N ν ∧ bSo bd ν ∧ ∀ n, bd n = none → bhd N n = none → ν n = θ n := by
  obtain ⟨h1, h2, h3⟩ := hk
  have ch : ∃ f : Nat → Nat × Nat, ∀ n, ∃ k, bend N bd k n = some (f n) := ⟨fun n => Classical.choose (Classical.choose_spec (h3 n)), fun n => ⟨_, Classical.choose_spec (Classical.choose_spec (h3 n))⟩⟩
  obtain ⟨f, hf⟩ := ch
  have uniq : ∀ n k e, bend N bd k n = some e → f n = e := fun n k e h => by
    obtain ⟨k', h'⟩ := hf n
    have q1 := bend_mono k (max k k') n e (Nat.le_max_left _ _) h
    have q2 := bend_mono k' (max k k') n _ (Nat.le_max_right _ _) h'
    rw [q1] at q2
    exact (Option.some.inj q2).symm
  have f_bound : ∀ n m, bd n = some m → f n = f m := fun n m h => by
    obtain ⟨k, q⟩ := hf m
    exact uniq n (k + 1) _ (by rw [bend_bound h]; exact q)
  have f_t : ∀ k x z, bt bd k x z → f x = f z := by
    intro k
    induction k with
    | zero => intro x z e; rw [show x = z from e]
    | succ k ih => rintro x z ⟨m, q1, q2⟩; rw [f_bound x m q1, ih m z q2]
  have f_built : ∀ k n z, bt bd k n z → bd z = none → bhd N n = some 1 → f n = ((f (bfs N n)).1 + 1, (f (bfs N n)).2) := by
    intro k
    induction k with
    | zero =>
      intro n z e hz hh
      have e : n = z := e
      subst e
      obtain ⟨k, q⟩ := hf (bfs N n)
      exact uniq n (k + 1) _ (by rw [bend_built hz hh, q]; rfl)
    | succ k ih =>
      rintro n z ⟨m, q1, q2⟩ hz hh
      obtain ⟨w, a, b, q3, q4⟩ := h2 n m q1 hh
      rw [f_bound n m q1, ih m z q2 hz (h1.2.1 n m 1 q1 hh), f_t a _ w q3, f_t b _ w q4]
  have f_leaf : ∀ n c, bhd N n = some c → c ≠ 1 → (f n).1 = 0 ∧ bhd N (f n).2 = some c := fun n c hh hc => by
    obtain ⟨z, ⟨k, q1⟩, q2⟩ := h1.1 n
    have q3 := bt_hd h1 k n z q1 hh
    rw [f_t k n z q1, uniq z 1 (0, z) (bend_last q2 (by rw [q3]; simp [hc]))]
    exact ⟨rfl, q3⟩
  refine ⟨fun n => match bhd N (f n).2 with | some c => ((f n).1, c) | none => ((θ (f n).2).1 + (f n).1, (θ (f n).2).2), fun n c hh => ?_, fun n m h => ?_, fun n h hh => ?_⟩
  · by_cases c1 : c = 1
    · subst c1
      obtain ⟨z, ⟨k, q1⟩, q2⟩ := h1.1 n
      have e := f_built k n z q1 q2 hh
      simp only [e]
      cases bhd N (f (bfs N n)).2 <;> simp [smB, Nat.add_assoc]
    · obtain ⟨e1, e2⟩ := f_leaf n c hh c1
      simp only [e1, e2, smB, if_neg c1]
  · simp only [f_bound n m h]
  · have e := uniq n 1 (0, n) (bend_last h (by rw [hh]; simp))
    simp only [e, hh, Nat.add_zero]
end BU
/-! two nodes are made the same -/
def bUp (bd : bBD) (a b : Nat) : bBD := fun n => if n = a then some b else bd n
def bClash (N : bNT) (g lo hi : Nat) : Prop := ∃ c c', bhd N lo = some c ∧ bhd N hi = some c' ∧ (c ≠ c' ∨ hi < g)
/-- which of two nodes is bound -/
def bDir (N : bNT) (lo hi : Nat) : Nat × Nat := if bhd N lo = none ∧ bhd N hi ≠ none then (lo, hi) else (hi, lo)
def bUn (N : bNT) (g : Nat) : Nat → bBD → Nat → Nat → Bool × bBD × List (Nat × Nat) → Prop
  | 0, _, _, _, _ => False
  | k + 1, bd, x, y, r => ∃ a b, bRp bd x a ∧ bRp bd y b ∧
    ((a = b ∧ r = (true, bd, [])) ∨ (a ≠ b ∧ bClash N g (min a b) (max a b) ∧ r = (false, bd, [])) ∨
     (a ≠ b ∧ ¬ bClash N g (min a b) (max a b) ∧ ∃ r' : Bool × bBD × List (Nat × Nat), r = (r'.1, r'.2.1, bDir N (min a b) (max a b) :: r'.2.2) ∧
       ((bhd N (min a b) = some 1 ∧ bhd N (max a b) ≠ none ∧ bUn N g k (bUp bd (bDir N (min a b) (max a b)).1 (bDir N (min a b) (max a b)).2) (bfs N (min a b)) (bfs N (max a b)) r') ∨
        (¬ (bhd N (min a b) = some 1 ∧ bhd N (max a b) ≠ none) ∧ r' = (true, bUp bd (bDir N (min a b) (max a b)).1 (bDir N (min a b) (max a b)).2, [])))))
