/-! Own rows: what an order is when it is whole. By hand; nothing of the bytecode. -/
section AORD
variable {R : pgR} {Gs : List Nat} {m : Nat}
theorem ngN_ok {tk kn : Int} : ∀ (n q : Nat), ngN R Gs tk kn n q = -1 ∨ ∃ j, q ≤ j ∧ j < q + n ∧ ngN R Gs tk kn n q = (j : Int) ∧ zand (zshr tk (j : Int)) 1 = 0 ∧ cbT (R.2.2.2.2.2.2 (Gs.getD j 0)) (chM R (R.2.2.2.2.2.2 (Gs.getD j 0)) kn) kn
  | 0, _ => Or.inl rfl
  | n + 1, q => by
    rw [ngN_s]
    by_cases c : zand (zshr tk (q : Int)) 1 = 0 ∧ cbT (R.2.2.2.2.2.2 (Gs.getD q 0)) (chM R (R.2.2.2.2.2.2 (Gs.getD q 0)) kn) kn
    · rw [if_pos c]
      exact Or.inr ⟨q, Nat.le_refl _, by omega, rfl, c.1, c.2⟩
    · rw [if_neg c]
      rcases ngN_ok n (q + 1) with h | ⟨j, h1, h2, h3⟩
      · exact Or.inl h
      · exact Or.inr ⟨j, by omega, by omega, h3⟩
/-- what is known behind some goals -/
def knS (R : pgR) (Gs : List Nat) : Int → List Nat → Int
  | kn, [] => kn
  | kn, i :: L => knS R Gs (zor kn (vSt (R.2.2.2.2.2.2 (Gs.getD i 0)).2.2.2.2 ((R.2.2.2.2.2.2 (Gs.getD i 0)).2.2.1 - 0).toNat 0 0)) L
theorem knS_app : ∀ (L L' : List Nat) (kn : Int), knS R Gs kn (L ++ L') = knS R Gs (knS R Gs kn L) L'
  | [], _, _ => rfl
  | _ :: L, L', kn => knS_app L L' _
/-- the arrays of a clause -/
def clAr (r : clR) : Prop := r.2.2.2.2.1.1.length = 2 ∧ r.2.2.2.2.1.2.1.length = 10 ∧ r.2.2.2.2.1.2.2.length = 10 ∧ r.2.2.2.2.2.1.length = 10 ∧ r.2.2.2.2.2.2.length = 10
/-- so much stands at a place of an order -/
def plA (R : pgR) (Gs : List Nat) (r : clR) (s i : Nat) (kn : Int) : Prop := r.2.2.2.2.2.1.getD s none = some (Gs.getD i 0) ∧ r.2.2.2.2.2.2.getD s none = chM R (R.2.2.2.2.2.2 (Gs.getD i 0)) kn ∧ r.2.2.2.2.1.2.2.getD s 0 = kn ∧ cbT (R.2.2.2.2.2.2 (Gs.getD i 0)) (chM R (R.2.2.2.2.2.2 (Gs.getD i 0)) kn) kn
theorem getD_set {T : Type} {l : List T} {i j : Nat} {x d : T} (h : j < l.length) : (l.set j x).getD i d = if i = j then x else l.getD i d := by
  rw [List.getD_eq_getElem?_getD, List.getD_eq_getElem?_getD]
  by_cases c : i = j
  · rw [if_pos c, c, List.getElem?_set_self h]
    rfl
  · rw [if_neg c, List.getElem?_set_ne (by omega)]
theorem ord_ok (hGl : Gs.length ≤ 5) (hm : m < 2) : ∀ (n q : Nat) (tk kn : Int) (r : clR), q + n ≤ 5 → clAr r → r.2.2.2.2.1.1.getD m 0 = (q : Int) →
    clAr (ordS R m Gs n q tk kn r).2.2 ∧
    (∀ s, (s < m * 5 + q ∨ m * 5 + q + n ≤ s) → (ordS R m Gs n q tk kn r).2.2.2.2.2.2.2.1.getD s none = r.2.2.2.2.2.1.getD s none ∧ (ordS R m Gs n q tk kn r).2.2.2.2.2.2.2.2.getD s none = r.2.2.2.2.2.2.getD s none ∧ (ordS R m Gs n q tk kn r).2.2.2.2.2.2.1.2.2.getD s 0 = r.2.2.2.2.1.2.2.getD s 0) ∧
    (∀ m', m' ≠ m → (ordS R m Gs n q tk kn r).2.2.2.2.2.2.1.1.getD m' 0 = r.2.2.2.2.1.1.getD m' 0) ∧
    ((ordS R m Gs n q tk kn r).1 = true → (ordS R m Gs n q tk kn r).2.2.2.2.2.2.1.1.getD m 0 = ((q + n : Nat) : Int) ∧
      ∃ L : List Nat, L.length = n ∧ L.Nodup ∧ (∀ i, i ∈ L → i < Gs.length ∧ bI tk i = false) ∧ (ordS R m Gs n q tk kn r).2.1 = knS R Gs kn L ∧
        ∀ j i, L[j]? = some i → plA R Gs (ordS R m Gs n q tk kn r).2.2 (m * 5 + (q + j)) i (knS R Gs kn (L.take j)))
  | 0, q, tk, kn, r, hq, hr, hle => by
    refine ⟨hr, fun s _ => ⟨rfl, rfl, rfl⟩, fun _ _ => rfl, fun _ => ⟨hle, [], rfl, List.nodup_nil, (fun i hi => absurd hi List.not_mem_nil), rfl, fun j i h => by cases h⟩⟩
  | n + 1, q, tk, kn, r, hq, hr, hle => by
    rcases ngN_ok (R := R) (Gs := Gs) (tk := tk) (kn := kn) Gs.length 0 with hn | ⟨i, -, hi, hn, htk, hcb⟩
    · have hl : lAt Gs (ngN R Gs tk kn Gs.length 0) = none := by rw [hn]; exact lAt_out (Or.inl (by decide))
      rw [ordS_n hl]
      exact ⟨hr, fun s _ => ⟨rfl, rfl, rfl⟩, fun _ _ => rfl, fun h => by cases h⟩
    · have hi : i < Gs.length := by omega
      have hg : Gs.getD i 0 = Gs[i]'hi := by rw [List.getD_eq_getElem?_getD, List.getElem?_eq_getElem hi]; rfl
      have hl : lAt Gs (ngN R Gs tk kn Gs.length 0) = some (Gs.getD i 0) := by
        rw [hn]
        exact lAt_in (by omega) (by rw [Int.toNat_natCast, hg, List.getElem?_eq_getElem hi])
      rw [ordS_y hl, hn]
      obtain ⟨r1, r2, r3, r4, r5⟩ := hr
      have hs10 : m * 5 + q < 10 := by omega
      have e1 : (takeR r m q (i : Int) kn (Gs.getD i 0) (chM R (R.2.2.2.2.2.2 (Gs.getD i 0)) kn)).2.2.2.2.1.1 = r.2.2.2.2.1.1.set m ((q + 1 : Nat) : Int) := rfl
      have hr2 : clAr (takeR r m q (i : Int) kn (Gs.getD i 0) (chM R (R.2.2.2.2.2.2 (Gs.getD i 0)) kn)) := by
        unfold takeR clSet
        exact ⟨by simpa using r1, by simpa using r2, by simpa using r3, by simpa using r4, by simpa using r5⟩
      obtain ⟨i1, i2, i3, i4⟩ := ord_ok hGl hm n (q + 1) (zor tk (zshl 1 (i : Int))) (zor kn (vSt (R.2.2.2.2.2.2 (Gs.getD i 0)).2.2.2.2 ((R.2.2.2.2.2.2 (Gs.getD i 0)).2.2.1 - 0).toNat 0 0)) (takeR r m q (i : Int) kn (Gs.getD i 0) (chM R (R.2.2.2.2.2.2 (Gs.getD i 0)) kn)) (by omega) hr2 (by
        rw [e1, getD_set (by omega), if_pos rfl])
      refine ⟨i1, fun s hs => ?_, fun m' hm' => ?_, fun h => ?_⟩
      · obtain ⟨a, b, c⟩ := i2 s (by omega)
        rw [a, b, c]
        refine ⟨?_, ?_, ?_⟩
        · show (r.2.2.2.2.2.1.set (m * 5 + q) (some (Gs.getD i 0))).getD s none = _
          rw [getD_set (by omega), if_neg (by omega)]
        · show (r.2.2.2.2.2.2.set (m * 5 + q) (chM R (R.2.2.2.2.2.2 (Gs.getD i 0)) kn)).getD s none = _
          rw [getD_set (by omega), if_neg (by omega)]
        · show (r.2.2.2.2.1.2.2.set (m * 5 + q) kn).getD s 0 = _
          rw [getD_set (by omega), if_neg (by omega)]
      · rw [i3 m' hm', e1, getD_set (by omega), if_neg hm']
      · obtain ⟨k1, L, k2, k3, k4, k5, k6⟩ := i4 h
        have hni : i ∉ L := fun hL => by
          have := (k4 i hL).2
          rw [bI_or, bI_one (by omega) (by omega), Bool.or_eq_false_iff] at this
          simpa using this.2
        refine ⟨by rw [k1]; congr 1; omega, i :: L, by rw [List.length_cons, k2], List.nodup_cons.mpr ⟨hni, k3⟩, fun j hj => ?_, by rw [k5]; rfl, fun j i' hj => ?_⟩
        · rcases List.mem_cons.mp hj with e | e
          · rw [e]
            exact ⟨hi, (bt_bI0 (by omega)).mp htk⟩
          · obtain ⟨a, b⟩ := k4 j e
            rw [bI_or, Bool.or_eq_false_iff] at b
            exact ⟨a, b.1⟩
        · cases j with
          | zero =>
            have e : i = i' := by simpa using hj
            subst e
            show plA R Gs _ (m * 5 + q) i kn
            obtain ⟨a, b, c⟩ := i2 (m * 5 + q) (by omega)
            refine ⟨?_, ?_, ?_, hcb⟩
            · rw [a]
              show (r.2.2.2.2.2.1.set (m * 5 + q) (some (Gs.getD i 0))).getD (m * 5 + q) none = _
              rw [getD_set (by omega), if_pos rfl]
            · rw [b]
              show (r.2.2.2.2.2.2.set (m * 5 + q) (chM R (R.2.2.2.2.2.2 (Gs.getD i 0)) kn)).getD (m * 5 + q) none = _
              rw [getD_set (by omega), if_pos rfl]
            · rw [c]
              show (r.2.2.2.2.1.2.2.set (m * 5 + q) kn).getD (m * 5 + q) 0 = _
              rw [getD_set (by omega), if_pos rfl]
          | succ j =>
            have hj : L[j]? = some i' := by simpa using hj
            have q9 := k6 j i' hj
            rw [show q + 1 + j = q + (j + 1) by omega] at q9
            exact q9
end AORD
