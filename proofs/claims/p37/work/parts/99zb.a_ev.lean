/-! Own rows: the program's facts; an order's places. By hand; nothing of the bytecode. -/
/-- what the calls that build a program keep -/
def pF (R : pgR) : Prop :=
  (∀ p y, pgP R p = some y → (R.2.2.2.1 y).1.1 = (p : Int) ∧ p < 5 ∧ (R.2.2.2.1 y).2.1.length ≤ 3 ∧ ∀ k : Nat, k < (R.2.2.2.1 y).2.1.length → tg (R.2.2.2.1 y).2.1 (k : Int) 0 = 0) ∧
  (∀ p y, pgP R p = some y → ∀ (m md : Nat), (R.2.2.2.1 y).2.2.1.2[m]? = some md → md ∈ R.2.2.1.2.1 ∧ (R.2.2.2.2.1 md).1 = y ∧ (R.2.2.2.2.1 md).2.1 = (m : Int) ∧ m < 2 ∧ ∀ v : Nat, v < 32 → bI (R.2.2.2.2.1 md).2.2.1 v = true → v < (R.2.2.2.1 y).2.1.length) ∧
  (∀ p y, pgP R p = some y → (R.2.2.2.1 y).2.2.2.2.Nodup ∧ (R.2.2.2.1 y).2.2.2.2.length ≤ 12 ∧ ∀ a, a ∈ (R.2.2.2.1 y).2.2.2.2 → ∃ c, pgCl R c = some a) ∧
  ∀ c a, pgCl R c = some a → (R.2.2.2.2.2.1 a).1.1 = (c : Int) ∧ c < 12 ∧ (R.2.2.2.2.2.1 a).1.2 ∈ R.2.2.1.1 ∧ (a ∈ (R.2.2.2.1 (R.2.2.2.2.2.1 a).1.2).2.2.2.2 ∧ ∀ p y, pgP R p = some y → a ∈ (R.2.2.2.1 y).2.2.2.2 → (R.2.2.2.2.2.1 a).1.2 = y) ∧ (R.2.2.2.2.2.1 a).2.2.2.1.2.length ≤ 5 ∧
    ∀ g, g ∈ (R.2.2.2.2.2.1 a).2.2.2.1.2 → gOk (R.2.2.2.2.2.2 g) ∧ gOkC (pgC R) (gL (R.2.2.2.2.2.2 g)) ∧ (2 ≤ (gL (R.2.2.2.2.2.2 g)).1 → ∃ y, pgP R (gL (R.2.2.2.2.2.2 g)).2.1 = some y) ∧
      ∀ k, k < (gL (R.2.2.2.2.2.2 g)).2.2.1 → (R.2.2.2.1 (R.2.2.2.2.2.1 a).1.2).2.1.length ≤ smv (gL (R.2.2.2.2.2.2 g)) k → tg (R.2.2.2.2.2.1 a).2.2.1 ((smv (gL (R.2.2.2.2.2.2 g)) k : Nat) : Int) 0 ≠ -1
theorem nd_full {n : Nat} {L : List Nat} (h1 : L.Nodup) (h2 : ∀ i, i ∈ L → i < n) (h3 : L.length = n) : ∀ i, i < n → i ∈ L := fun i hi => Classical.byContradiction fun q => by
  have := nd_le n (i :: L) (List.nodup_cons.mpr ⟨q, h1⟩) (fun a ha => by
    rcases List.mem_cons.mp ha with e | e
    · rw [e]; exact hi
    · exact h2 a e)
  rw [List.length_cons] at this
  omega
theorem nd_perm {n : Nat} {L : List Nat} (h1 : L.Nodup) (h2 : ∀ i, i ∈ L → i < n) (h3 : L.length = n) : L.Perm (List.range n) :=
  (List.perm_ext_iff_of_nodup h1 List.nodup_range).mpr fun i => ⟨fun h => List.mem_range.mpr (h2 i h), fun h => nd_full h1 h2 h3 i (List.mem_range.mp h)⟩
section AEV
variable {R : pgR}
theorem pC_cl {c a : Nat} (h : pgCl R c = some a) : (pgC R).1.1.2 c = (R.2.2.2.2.2.1 a).2.2.2.1.2.map (fun g => gL (R.2.2.2.2.2.2 g)) := by
  show (match pgCl R c with | none => [] | some a => (R.2.2.2.2.2.1 a).2.2.2.1.2.map (fun g => gL (R.2.2.2.2.2.2 g))) = _
  rw [h]
theorem pC_p {p y : Nat} (h : pgP R p = some y) : (pgC R).1.1.1 p = (R.2.2.2.1 y).2.2.2.2.map (fun a => (R.2.2.2.2.2.1 a).1.1.toNat) := by
  show (match pgP R p with | none => [] | some y => (R.2.2.2.1 y).2.2.2.2.map (fun a => (R.2.2.2.2.2.1 a).1.1.toNat)) = _
  rw [h]
theorem pC_ar {p y : Nat} (h : pgP R p = some y) : (pgC R).1.2 p = (R.2.2.2.1 y).2.1.length := by
  show (match pgP R p with | none => 0 | some y => (R.2.2.2.1 y).2.1.length) = _
  rw [h]
theorem pC_or {c a m : Nat} (h : pgCl R c = some a) : (pgC R).2.1.2 m c = pgOr R (R.2.2.2.2.2.1 a) m := by
  show (match pgCl R c with | none => [] | some a => pgOr R (R.2.2.2.2.2.1 a) m) = _
  rw [h]
/-- a clause of a predicate -/
theorem pC_mem (hF : pF R) {p c : Nat} (h : c ∈ (pgC R).1.1.1 p) : ∃ y a, pgP R p = some y ∧ a ∈ (R.2.2.2.1 y).2.2.2.2 ∧ pgCl R c = some a := by
  cases hp : pgP R p with
  | none =>
    have e : (pgC R).1.1.1 p = [] := by
      show (match pgP R p with | none => [] | some y => (R.2.2.2.1 y).2.2.2.2.map (fun a => (R.2.2.2.2.2.1 a).1.1.toNat)) = _
      rw [hp]
    rw [e] at h
    exact absurd h List.not_mem_nil
  | some y =>
    rw [pC_p hp] at h
    obtain ⟨a, ha, e⟩ := List.mem_map.mp h
    obtain ⟨c', hc'⟩ := (hF.2.2.1 p y hp).2.2 a ha
    have hn := (hF.2.2.2 c' a hc').1
    have ec : c' = c := by omega
    rw [ec] at hc'
    exact ⟨y, a, rfl, ha, hc'⟩
theorem pC_in (hF : pF R) {p c y a : Nat} (hp : pgP R p = some y) (ha : a ∈ (R.2.2.2.1 y).2.2.2.2) (hc : pgCl R c = some a) : c ∈ (pgC R).1.1.1 p := by
  rw [pC_p hp]
  exact List.mem_map.mpr ⟨a, ha, by rw [(hF.2.2.2 c a hc).1]; rfl⟩
/-- what is known, by the goals taken -/
theorem kn_iff (hF : pF R) {a c : Nat} (hc : pgCl R c = some a) : ∀ (L : List Nat) (kn : Int) (x : Nat), x < 8 → (∀ i, i ∈ L → i < (R.2.2.2.2.2.1 a).2.2.2.1.2.length) →
    (bI (knS R (R.2.2.2.2.2.1 a).2.2.2.1.2 kn L) x = true ↔ bI kn x = true ∨ ∃ i, i ∈ L ∧ ∃ k, k < (gL (R.2.2.2.2.2.2 ((R.2.2.2.2.2.1 a).2.2.2.1.2.getD i 0))).2.2.1 ∧ smv (gL (R.2.2.2.2.2.2 ((R.2.2.2.2.2.1 a).2.2.2.1.2.getD i 0))) k = x)
  | [], kn, x, _, _ => by
    constructor
    · exact Or.inl
    · rintro (h | ⟨i, h, -⟩)
      · exact h
      · exact absurd h List.not_mem_nil
  | i :: L, kn, x, hx, hl => by
    have hi := hl i List.mem_cons_self
    have hgm : (R.2.2.2.2.2.1 a).2.2.2.1.2.getD i 0 ∈ (R.2.2.2.2.2.1 a).2.2.2.1.2 := by
      rw [List.getD_eq_getElem?_getD, List.getElem?_eq_getElem hi]
      exact List.getElem_mem hi
    obtain ⟨gg, hgg⟩ : ∃ gg, gg = (R.2.2.2.2.2.1 a).2.2.2.1.2.getD i 0 := ⟨_, rfl⟩
    rw [← hgg] at hgm
    obtain ⟨ho, -⟩ := (hF.2.2.2 c a hc).2.2.2.2.2 gg hgm
    obtain ⟨o1, o2, o3, o4, -⟩ := go_1 ho
    have ih := kn_iff hF hc L (zor kn (vSt (R.2.2.2.2.2.2 gg).2.2.2.2 ((R.2.2.2.2.2.2 gg).2.2.1 - 0).toNat 0 0)) x hx (fun j hj => hl j (List.mem_cons_of_mem _ hj))
    have hv := bI_vSt (xs := (R.2.2.2.2.2.2 gg).2.2.2.2) ho.2.2.2.2 ((R.2.2.2.2.2.2 gg).2.2.1 - 0).toNat 0 0 x (by omega)
    have hcnt : ((R.2.2.2.2.2.2 gg).2.2.1 - 0).toNat = (gL (R.2.2.2.2.2.2 gg)).2.2.1 := by rw [o3]; omega
    have e0 : ((0 : Nat) : Int) = 0 := rfl
    rw [hcnt, e0, bI_zero] at hv
    rw [hcnt] at ih
    show bI (knS R (R.2.2.2.2.2.1 a).2.2.2.1.2 (zor kn (vSt (R.2.2.2.2.2.2 ((R.2.2.2.2.2.1 a).2.2.2.1.2.getD i 0)).2.2.2.2 ((R.2.2.2.2.2.2 ((R.2.2.2.2.2.1 a).2.2.2.1.2.getD i 0)).2.2.1 - 0).toNat 0 0)) L) x = true ↔ _
    rw [← hgg, hcnt, ih, bI_or, Bool.or_eq_true, hv]
    constructor
    · rintro ((h | (h | ⟨j, h1, h2⟩)) | ⟨j, h1, h2⟩)
      · exact Or.inl h
      · cases h
      · refine Or.inr ⟨i, List.mem_cons_self, j, by rw [← hgg]; exact h1, ?_⟩
        rw [← hgg]
        have := (go_v ho (k := j) (by omega)).1
        rw [Nat.zero_add] at h2
        omega
      · exact Or.inr ⟨j, List.mem_cons_of_mem _ h1, h2⟩
    · rintro (h | ⟨j, h1, k, h2, h3⟩)
      · exact Or.inl (Or.inl h)
      · rcases List.mem_cons.mp h1 with e | e
        · rw [e, ← hgg] at h2 h3
          refine Or.inl (Or.inr (Or.inr ⟨k, h2, ?_⟩))
          have := (go_v ho (k := k) (by omega)).1
          rw [Nat.zero_add]
          omega
        · exact Or.inr ⟨j, e, k, h2, h3⟩
theorem pC_inp (hF : pF R) {p m md y x : Nat} (hp : pgP R p = some y) (hm : pgMo R p m = some md) : (pgC R).2.1.1 p m x = true ↔ x < 32 ∧ bI (R.2.2.2.2.1 md).2.2.1 x = true := by
  rw [rd_in hm, decide_eq_true_eq]
  have hmm : (R.2.2.2.1 y).2.2.1.2[m]? = some md := by
    unfold pgMo at hm
    rw [hp] at hm
    exact hm
  have hi := (hF.2.1 p y hp m md hmm).2.2.2.2
  have ha := (hF.1 p y hp).2.2.1
  constructor
  · rintro ⟨h1, h2⟩
    exact ⟨by omega, (bt_bI (by omega)).mp h2⟩
  · rintro ⟨h1, h2⟩
    have := hi x h1 h2
    exact ⟨by omega, (bt_bI (by omega)).mpr h2⟩
/-- an order, place by place -/
theorem or_at {m a : Nat} {ins : Int} {ar : Nat} {L : List Nat} (h1 : (R.2.2.2.2.2.1 a).2.2.2.2.1.1.getD m 0 = ((R.2.2.2.2.2.1 a).2.2.2.1.2.length : Int)) (h2 : L.length = (R.2.2.2.2.2.1 a).2.2.2.1.2.length) (h6 : ∀ j i, L[j]? = some i → plA R (R.2.2.2.2.2.1 a).2.2.2.1.2 (R.2.2.2.2.2.1 a) (m * 5 + j) i (knS R (R.2.2.2.2.2.1 a).2.2.2.1.2 ins (L.take j))) :
    pgOr R (R.2.2.2.2.2.1 a) m = (List.range L.length).map (fun j => (gL (R.2.2.2.2.2.2 ((R.2.2.2.2.2.1 a).2.2.2.1.2.getD (L.getD j 0) 0)), (chM R (R.2.2.2.2.2.2 ((R.2.2.2.2.2.1 a).2.2.2.1.2.getD (L.getD j 0) 0)) (knS R (R.2.2.2.2.2.1 a).2.2.2.1.2 ins (L.take j))).map (fun x => (R.2.2.2.2.1 x).2.1.toNat), 0)) := by
  unfold pgOr
  rw [h1, Int.toNat_natCast, h2]
  refine List.map_congr_left fun j hj => ?_
  have hj := List.mem_range.mp hj
  obtain ⟨i, hi⟩ : ∃ i, L[j]? = some i := ⟨_, List.getElem?_eq_getElem (by omega)⟩
  obtain ⟨q1, q2, -⟩ := h6 j i hi
  have hgi : L.getD j 0 = i := getD_of hi
  unfold pgOe
  rw [q1, q2, hgi]
  rfl
end AEV
