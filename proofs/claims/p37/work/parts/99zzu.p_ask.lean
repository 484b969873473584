/-! Own rows: what a question's run tells; the facts that asking wants. By hand; nothing of the bytecode. -/
section PASK
variable {C : mmC}
theorem tm_step {S : mmS} : ∃ t, mmTm (resS (mmStep C S)) = mmTm S ++ t := by
  obtain ⟨⟨fr, cls, V, ch, T⟩, ⟨cur, pl, den, fl⟩, tm, ⟨na, ns, nc, dp⟩, nt⟩ := S
  unfold mmStep
  simp only
  split
  · split
    · exact ⟨[], by rw [List.append_nil]; exact tm_leave⟩
    · exact tm_goal
  · exact ⟨[], by rw [List.append_nil]; exact tm_back⟩
theorem tm_run : ∀ (n : Nat) (S : mmS) (r : Nat × mmS), mmRun C n S = some r → ∃ t, mmTm r.2 = mmTm S ++ t
  | 0, S, r, h => by cases h
  | n + 1, S, r, h => by
    obtain ⟨t, ht⟩ := tm_step (C := C) (S := S)
    unfold mmRun at h
    cases hs : mmStep C S with
    | inl S' =>
      rw [hs] at h ht
      have ht : mmTm S' = mmTm S ++ t := ht
      obtain ⟨t2, h2⟩ := tm_run n S' r h
      exact ⟨t ++ t2, by rw [h2, ht, List.append_assoc]⟩
    | inr r' =>
      rw [hs] at h ht
      cases h
      exact ⟨t, ht⟩
end PASK
theorem pC_o5 {R : pgR} (hO : pgO R) : ∀ m c, ((pgC R).2.1.2 m c).length ≤ 5 := fun m c => by
  show (match pgCl R c with | none => [] | some a => pgOr R (R.2.2.2.2.2.1 a) m).length ≤ 5
  cases hc : pgCl R c with
  | none => exact Nat.zero_le _
  | some a =>
    show (pgOr R (R.2.2.2.2.2.1 a) m).length ≤ 5
    unfold pgOr
    rw [List.length_map, List.length_range, List.getD_eq_getElem?_getD]
    have q := (hO a (List.mem_of_getElem? hc)).2.2
    cases hg : (R.2.2.2.2.2.1 a).2.2.2.2.1.1[m]? with
    | none => exact Nat.zero_le _
    | some x =>
      have := q x (List.mem_of_getElem? hg)
      show x.toNat ≤ 5
      omega
theorem pC_12 {R : pgR} (hF : pF R) : ∀ p, ((pgC R).1.1.1 p).length ≤ 12 := fun p => by
  show (match pgP R p with | none => [] | some y => (R.2.2.2.1 y).2.2.2.2.map (fun a => (R.2.2.2.2.2.1 a).1.1.toNat)).length ≤ 12
  cases hp : pgP R p with
  | none => exact Nat.zero_le _
  | some y =>
    show ((R.2.2.2.1 y).2.2.2.2.map (fun a => (R.2.2.2.2.2.1 a).1.1.toNat)).length ≤ 12
    rw [List.length_map]
    exact (hF.2.2.1 p y hp).2.1
theorem lAt_n {ys : List Nat} {p : Nat} : lAt ys (p : Int) = ys[p]? := by
  unfold lAt
  rw [if_pos (Int.natCast_nonneg p), Int.toNat_natCast]
theorem mdAt_pm {R : pgR} {p m : Nat} : mdAt R (p : Int) (m : Int) = pgMo R p m := by
  unfold mdAt pgMo pgP
  rw [lAt_n]
  cases R.2.2.1.1[p]? with
  | none => rfl
  | some y => exact lAt_n
theorem pgMo_in {R : pgR} (hF : pF R) {p m md : Nat} (h : pgMo R p m = some md) : ∃ y, pgP R p = some y ∧ y ∈ R.2.2.1.1 ∧ md ∈ R.2.2.1.2.1 ∧ (R.2.2.2.2.1 md).1 = y ∧ (R.2.2.2.1 y).2.1.length ≤ 3 ∧ ∀ v : Nat, v < 32 → bI (R.2.2.2.2.1 md).2.2.1 v = true → v < (R.2.2.2.1 y).2.1.length := by
  unfold pgMo at h
  cases hp : pgP R p with
  | none => rw [hp] at h; cases h
  | some y =>
    rw [hp] at h
    obtain ⟨a, b, -, -, c⟩ := hF.2.1 p y hp m md h
    exact ⟨y, rfl, List.mem_of_getElem? hp, a, b, (hF.1 p y hp).2.2.1, c⟩
/-- the inputs of a question -/
def ipF (ins f s u : Int) (k : Nat) : Option Nat := if k < 3 ∧ zand (zshr ins (k : Int)) 1 = 1 then some (pk (k : Int) f s u).toNat else none
theorem ip_row {ins f s u : Int} (hf : 0 ≤ f) (hs : 0 ≤ s) (hu : 0 ≤ u) {k : Nat} (hk : k < 3) : tg [[rpIn ins f s u 0], [rpIn ins f s u 1], [rpIn ins f s u 2]] (k : Int) 0 = oI (ipF ins f s u k) := by
  have e : tg [[rpIn ins f s u 0], [rpIn ins f s u 1], [rpIn ins f s u 2]] (k : Int) 0 = rpIn ins f s u (k : Int) := by
    rcases (show k = 0 ∨ k = 1 ∨ k = 2 by omega) with e | e | e <;> subst e <;> rfl
  have hp : 0 ≤ pk (k : Int) f s u := by
    unfold pk
    split
    · exact hf
    · split
      · exact hs
      · exact hu
  rw [e]
  unfold rpIn ipF
  by_cases c : zand (zshr ins (k : Int)) 1 = 1
  · rw [if_pos c, if_pos ⟨hk, c⟩]
    exact (Int.toNat_of_nonneg hp).symm
  · rw [if_neg c, if_neg (fun q => c q.2)]
    rfl
theorem ip_lt {ins f s u : Int} {n : Nat} (hf : 0 ≤ f ∧ f < (n : Int)) (hs : 0 ≤ s ∧ s < (n : Int)) (hu : 0 ≤ u ∧ u < (n : Int)) : ∀ k v, ipF ins f s u k = some v → v < n := fun k v h => by
  unfold ipF at h
  split at h
  · cases h
    unfold pk
    split
    · omega
    · split
      · omega
      · omega
  · cases h
theorem ip_in {tm : List smG} {ins f s u : Int} (hl : ∀ k v, ipF ins f s u k = some v → v < tm.length) {R : pgR} {p m md : Nat} (hm : pgMo R p m = some md) (hi : (R.2.2.2.2.1 md).2.2.1 = ins) : ∀ k, inV tm (ipF ins f s u) k ≠ none ↔ (pgC R).2.1.1 p m k = true := fun k => by
  rw [rd_in hm, hi, decide_eq_true_iff]
  unfold inV
  cases hv : ipF ins f s u k with
  | none =>
    refine ⟨fun q => absurd rfl q, fun q => ?_⟩
    unfold ipF at hv
    rw [if_pos q] at hv
    cases hv
  | some v =>
    have hlt := hl k v hv
    have e : ((some v).bind fun v => tm[v]?) = some tm[v] := List.getElem?_eq_getElem hlt
    rw [e]
    refine ⟨fun _ => ?_, fun _ q => by cases q⟩
    unfold ipF at hv
    split at hv
    · rename_i c
      exact c
    · cases hv
theorem inV_app {tm t : List smG} {inp : Nat → Option Nat} (hl : ∀ k v, inp k = some v → v < tm.length) : inV (tm ++ t) inp = inV tm inp := by
  funext k
  unfold inV
  cases hv : inp k with
  | none => rfl
  | some v => exact List.getElem?_append_left (hl k v hv)
theorem ip_tv {tm : List smG} {ins f s u : Int} (hf : 0 ≤ f) (hs : 0 ≤ s) (hu : 0 ≤ u) (hl : ∀ k v, ipF ins f s u k = some v → v < tm.length) (k : Nat) (hk : k < 3) : tvE tm (tg [[rpIn ins f s u 0], [rpIn ins f s u 1], [rpIn ins f s u 2]] (k : Int) 0) (inV tm (ipF ins f s u) k) := by
  rw [ip_row hf hs hu hk]
  unfold inV
  cases hv : ipF ins f s u k with
  | none => exact tvE_n.mpr rfl
  | some v =>
    have hlt := hl k v hv
    have e : ((some v).bind fun v => tm[v]?) = some tm[v] := List.getElem?_eq_getElem hlt
    rw [e]
    refine tvE_s.mpr ⟨Int.natCast_nonneg v, ?_⟩
    show tm[((v : Nat) : Int).toNat]? = _
    rw [Int.toNat_natCast]
    exact List.getElem?_eq_getElem hlt
/-- what is asked of breadth's question -/
def bdF (R : pgR) (tm : List smG) (La : whL) (p m : Nat) : Prop := ∃ (tm0 : List smG) (inp : Nat → Option Nat) (n : Nat) (r : Nat × mmS), mmRun (pgC R) n (mmStart (pgC R) tm0 (p, m) (inV tm inp)) = some r ∧ (La.2.2.2.2.2.1 = 101 → r.1 = 0) ∧ mmNa r.2 = La.2.1.2.1.length ∧ (∀ k, k < (pgC R).1.2 p → tg La.2.1.1 (k : Int) 0 = oI (inp k)) ∧ (∀ k v, inp k = some v → v < tm.length) ∧ ∀ k, inV tm inp k ≠ none ↔ (pgC R).2.1.1 p m k = true
/-- what is so of the last question -/
def qsF (R : pgR) (La : whL) (p m : Nat) : Prop := ∃ md, La.1 = some md ∧ pgMo R p m = some md ∧ moG (R.2.2.2.2.1 md) ≠ 0 ∧ La.2.1.2.1.length ≤ 50 ∧ (moF2 (R.2.2.2.2.1 md) = 0 → La.2.1.2.1.length ≤ 1) ∧ (La.2.2.2.2.2.1 = 101 → moF1 (R.2.2.2.2.1 md) = 0 → 1 ≤ La.2.1.2.1.length) ∧ (0 ≤ La.2.2.1 ∧ La.2.2.1 ≤ 300) ∧ (1 ≤ La.2.2.2.2.1 ∧ La.2.2.2.2.1 ≤ 30) ∧ (La.2.2.2.2.2.1 = 101 ∨ La.2.2.2.2.2.1 = 108) ∧ ∃ nt : List (Nat × Nat), La.2.1.2.2 = nt.map (fun e => [(e.1 : Int), (e.2 : Int)]) ∧ ntO p nt
/-- a run's facts -/
theorem qs_mk {R : pgR} (hcp : cpF R) {tm : List smG} {p m md : Nat} (hm : pgMo R p m = some md) (hg : moG (R.2.2.2.2.1 md) ≠ 0) {o : Nat → Option smG} (ho : ∀ k, o k ≠ none ↔ (pgC R).2.1.1 p m k = true) (hvl : ∀ k g, o k = some g → vlG g) {n : Nat} {r : Nat × mmS} (hr : mmRun (pgC R) n (mmStart (pgC R) tm (p, m) o) = some r) : nvI p r.2 ∧ (moF2 (R.2.2.2.2.1 md) = 0 → mmNa r.2 ≤ 1) ∧ (r.1 = 0 → moF1 (R.2.2.2.2.1 md) = 0 → 1 ≤ mmNa r.2) ∧ ∃ t, mmTm r.2 = tm ++ t := by
  obtain ⟨hF, hFa, -, -, -⟩ := hcp
  have hgd : gdR R (p, m) := ⟨md, hm, hg⟩
  have har := pF_A3 hF p
  refine ⟨ans_nv hFa hgd har ho hr, fun h => ?_, fun h0 h => ?_, ?_⟩
  · refine one_ans hFa hgd har ho ?_ hr
    show (match pgMo R p m with | none => false | some md => decide ((R.2.2.2.2.1 md).2.2.2.2.2.2.2.1 ≠ 0)) = false
    rw [hm]
    exact decide_eq_false (fun q => q h)
  · refine ans_nf hFa hgd har ho hvl ?_ hr h0
    show (match pgMo R p m with | none => false | some md => decide ((R.2.2.2.2.1 md).2.2.2.2.2.2.1 ≠ 0)) = false
    rw [hm]
    exact decide_eq_false (fun q => q h)
  · obtain ⟨t, ht⟩ := tm_run n _ r hr
    refine ⟨t, ?_⟩
    rw [ht]
    show mmTm (mmEnter (pgC R) 0 (([((p, m), (none, 0, 1), false, none, 0)], fun _ => none, mmNew (fun _ _ => none) 0 o, [], []), (none, 0, none, false), tm, (0, 0, 0, 0), [])) ++ t = tm ++ t
    rw [tm_enter]
theorem hd_0 {N H : List (List Int)} {Sz : List Int} {tm : List smG} (h : tmR N H Sz tm) {x : Int} (hx : 0 ≤ x ∧ x < (tm.length : Int)) : tg C3 (tg N x 0) 0 = 0 := by
  obtain ⟨n, hn⟩ : ∃ n : Nat, x = (n : Int) := ⟨x.toNat, by omega⟩
  subst hn
  have hlt : n < tm.length := by omega
  obtain ⟨a02, ⟨ff, nx, q1, -⟩, -⟩ := h.2.2.2.2.2 n tm[n] (List.getElem?_eq_getElem hlt)
  have e0 : tg N (n : Int) 0 = (smHd tm[n] : Int) := tg_at (j := 0) q1
  rw [e0]
  have h3 : smHd tm[n] = 0 ∨ smHd tm[n] = 1 ∨ smHd tm[n] = 2 := by
    unfold smHd
    split
    · rcases a02 with e | e
      · exact Or.inl e
      · exact Or.inr (Or.inr e)
    · exact Or.inr (Or.inl rfl)
  rcases h3 with e | e | e <;> rw [e] <;> decide
