/-! Own rows: sets of variables as bits. By hand. -/
def bI (a : Int) (v : Nat) : Bool := (Int32.ofInt a).toBitVec.getLsbD v
theorem bI_to (x : Int32) (v : Nat) : bI x.toInt v = x.toBitVec.getLsbD v := by
  unfold bI
  rw [Int32.ofInt_toInt]
theorem bI_or {a b : Int} {v : Nat} : bI (zor a b) v = (bI a v || bI b v) := by
  unfold zor
  rw [bI_to, Int32.toBitVec_or, BitVec.getLsbD_or]
  rfl
theorem bI_one8 : ∀ (q : Fin 8) (v : Fin 32), bI (zshl 1 ((q.val : Nat) : Int)) v.val = decide (v.val = q.val) := by decide +kernel
theorem bI_one {q v : Nat} (hq : q < 8) (hv : v < 32) : bI (zshl 1 (q : Int)) v = decide (v = q) := bI_one8 ⟨q, hq⟩ ⟨v, hv⟩
theorem bI_low4 : ∀ (n : Fin 4) (v : Fin 32), bI (zw (zshl 1 ((n.val : Nat) : Int) - 1)) v.val = decide (v.val < n.val) := by decide +kernel
theorem bI_low {n v : Nat} (hn : n < 4) (hv : v < 32) : bI (zw (zshl 1 (n : Int) - 1)) v = decide (v < n) := bI_low4 ⟨n, hn⟩ ⟨v, hv⟩
theorem bv_and1 (x : BitVec 32) : x &&& 1#32 = if x.getLsbD 0 = true then 1#32 else 0#32 := by
  apply BitVec.eq_of_getLsbD_eq
  intro i hi
  rw [BitVec.getLsbD_and]
  by_cases c : i = 0
  · subst c
    cases h : x.getLsbD 0
    · rw [if_neg (by decide)]
      rfl
    · rw [if_pos rfl]
      rfl
  · have e1 : (1#32).getLsbD i = false := by
      rw [BitVec.getLsbD_one]
      simp [c]
    have e0 : (0#32).getLsbD i = false := BitVec.getLsbD_zero
    rw [e1, Bool.and_false]
    split
    · exact e1.symm
    · exact e0.symm
theorem zand_1 {a : Int} : zand a 1 = if bI a 0 = true then 1 else 0 := by
  unfold zand
  have e : (Int32.ofInt a &&& Int32.ofInt 1).toBitVec = if (Int32.ofInt a).toBitVec.getLsbD 0 = true then 1#32 else 0#32 := by
    rw [Int32.toBitVec_and]
    exact bv_and1 _
  show (Int32.ofInt a &&& Int32.ofInt 1).toBitVec.toInt = _
  rw [e]
  unfold bI
  split <;> rfl
theorem shr_amt : ∀ v : Fin 8, ((Int32.ofInt ((v.val : Nat) : Int) &&& 31).toBitVec.smod 32#32).toNat = v.val := by decide +kernel
theorem bI_shr {a : Int} {v : Nat} (hv : v < 8) : bI (zshr a (v : Int)) 0 = bI a v := by
  unfold zshr
  rw [bI_to, Int32.toBitVec_shiftRight]
  show ((Int32.ofInt a).toBitVec.sshiftRight ((Int32.ofInt (v : Int) &&& 31).toBitVec.smod 32#32).toNat).getLsbD 0 = _
  have e : ((Int32.ofInt (v : Int) &&& 31).toBitVec.smod 32#32).toNat = v := shr_amt ⟨v, hv⟩
  rw [e, BitVec.getLsbD_sshiftRight]
  simp only [Nat.add_zero]
  rw [if_pos (by omega)]
  rfl
/-- a variable is known -/
theorem bt_bI {a : Int} {v : Nat} (hv : v < 8) : zand (zshr a (v : Int)) 1 = 1 ↔ bI a v = true := by
  rw [zand_1, bI_shr hv]
  cases bI a v <;> simp
theorem bt_bI0 {a : Int} {v : Nat} (hv : v < 8) : zand (zshr a (v : Int)) 1 = 0 ↔ bI a v = false := by
  rw [zand_1, bI_shr hv]
  cases bI a v <;> simp
theorem bI_not {a : Int} {v : Nat} (hv : v < 32) : bI (zxor a (-1)) v = !bI a v := by
  unfold zxor
  rw [bI_to, Int32.toBitVec_xor, BitVec.getLsbD_xor]
  have e : (Int32.ofInt (-1)).toBitVec = BitVec.allOnes 32 := by decide
  rw [e, BitVec.getLsbD_allOnes, decide_eq_true hv, Bool.xor_true]
  rfl
theorem zand_0 {a b : Int} : zand a b = 0 ↔ ∀ v, v < 32 → (bI a v && bI b v) = false := by
  unfold zand
  have e : (Int32.ofInt a &&& Int32.ofInt b).toInt = 0 ↔ (Int32.ofInt a &&& Int32.ofInt b).toBitVec = 0#32 := by
    show (Int32.ofInt a &&& Int32.ofInt b).toBitVec.toInt = 0 ↔ _
    constructor
    · intro h
      apply BitVec.eq_of_toInt_eq
      rw [h]
      rfl
    · intro h
      rw [h]
      rfl
  rw [e, Int32.toBitVec_and]
  constructor
  · intro h v hv
    have q := congrArg (fun x => BitVec.getLsbD x v) h
    simp only [BitVec.getLsbD_and, BitVec.getLsbD_zero] at q
    exact q
  · intro h
    apply BitVec.eq_of_getLsbD_eq
    intro i hi
    rw [BitVec.getLsbD_and, BitVec.getLsbD_zero]
    exact h i hi
/-- all of these are known -/
theorem sub_bI {s a : Int} : zand s (zxor a (-1)) = 0 ↔ ∀ v, v < 32 → bI s v = true → bI a v = true := by
  rw [zand_0]
  constructor
  · intro h v hv hs
    have q := h v hv
    rw [bI_not hv, hs] at q
    simpa using q
  · intro h v hv
    rw [bI_not hv]
    cases hs : bI s v with
    | false => rfl
    | true => rw [h v hv hs]; rfl
theorem bI_zero {v : Nat} : bI 0 v = false := by
  unfold bI
  have e : (Int32.ofInt 0).toBitVec = 0#32 := rfl
  rw [e]
  exact BitVec.getLsbD_zero
/-- the variables of a stretch of a goal's places -/
theorem bI_vSt {xs : List Int} (hx : ∀ k : Int, 0 ≤ zVa xs k ∧ zVa xs k < 8) : ∀ (n : Nat) (a : Int) (q v : Nat), v < 32 → (bI (vSt xs n a (q : Int)) v = true ↔ bI a v = true ∨ ∃ j, j < n ∧ zVa xs ((q + j : Nat) : Int) = (v : Int))
  | 0, a, q, v, hv => by
    constructor
    · exact Or.inl
    · rintro (h | ⟨j, h, -⟩)
      · exact h
      · exact absurd h (Nat.not_lt_zero _)
  | n + 1, a, q, v, hv => by
    show bI (vSt xs n (zor a (zshl 1 (zVa xs (q : Int)))) ((q : Int) + 1)) v = true ↔ _
    have ih := bI_vSt hx n (zor a (zshl 1 (zVa xs (q : Int)))) (q + 1) v hv
    rw [show ((q + 1 : Nat) : Int) = (q : Int) + 1 by omega] at ih
    obtain ⟨x, hxe, hx8⟩ : ∃ x : Nat, zVa xs (q : Int) = (x : Int) ∧ x < 8 := ⟨(zVa xs (q : Int)).toNat, by have := hx (q : Int); omega, by have := hx (q : Int); omega⟩
    rw [ih, bI_or, hxe, bI_one hx8 hv, Bool.or_eq_true, decide_eq_true_eq]
    constructor
    · rintro ((h | h) | ⟨j, h1, h2⟩)
      · exact Or.inl h
      · exact Or.inr ⟨0, Nat.zero_lt_succ _, by rw [Nat.add_zero, hxe, h]⟩
      · exact Or.inr ⟨j + 1, by omega, by rw [show q + (j + 1) = q + 1 + j by omega]; exact h2⟩
    · rintro (h | ⟨j, h1, h2⟩)
      · exact Or.inl (Or.inl h)
      · cases j with
        | zero =>
          rw [Nat.add_zero, hxe] at h2
          exact Or.inl (Or.inr (by omega))
        | succ j => exact Or.inr ⟨j, by omega, by rw [show q + 1 + j = q + (j + 1) by omega]; exact h2⟩
