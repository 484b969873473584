/-! Own rows: the compiler's first loop: orders, lost modes, switches. By hand; nothing of the bytecode. -/
/-- the same order for a mode -/
def clEq (m : Nat) (r r' : clR) : Prop := r'.2.2.2.1 = r.2.2.2.1 ∧ r'.2.2.2.2.1.1.getD m 0 = r.2.2.2.2.1.1.getD m 0 ∧ ∀ s, m * 5 ≤ s → s < m * 5 + 5 → r'.2.2.2.2.2.1.getD s none = r.2.2.2.2.2.1.getD s none ∧ r'.2.2.2.2.2.2.getD s none = r.2.2.2.2.2.2.getD s none ∧ r'.2.2.2.2.1.2.2.getD s 0 = r.2.2.2.2.1.2.2.getD s 0
theorem clEq_re {m : Nat} {r : clR} : clEq m r r := ⟨rfl, rfl, fun _ _ _ => ⟨rfl, rfl, rfl⟩⟩
theorem clEq_tr {m : Nat} {r r1 r2 : clR} (h : clEq m r r1) (k : clEq m r1 r2) : clEq m r r2 := by
  obtain ⟨h1, h2, h3⟩ := h
  obtain ⟨k1, k2, k3⟩ := k
  refine ⟨k1.trans h1, k2.trans h2, fun s a b => ?_⟩
  obtain ⟨p, q, u⟩ := h3 s a b
  obtain ⟨p', q', u'⟩ := k3 s a b
  exact ⟨p'.trans p, q'.trans q, u'.trans u⟩
theorem clOt_eq {m m' : Nat} {r r' : clR} (h : clOt m r r') (hm : m' ≠ m) : clEq m' r r' := ⟨h.2.2.2.1, (h.2.2.2.2 m' hm).1, (h.2.2.2.2 m' hm).2⟩
theorem ordWh_q {R R' : pgR} (h : pgSa R R') {m : Nat} {ins : Int} {ar a : Nat} (ho : clEq m (R.2.2.2.2.2.1 a) (R'.2.2.2.2.2.1 a)) (h5 : (R.2.2.2.2.2.1 a).2.2.2.1.2.length ≤ 5) (k : ordWh R m ins ar a) : ordWh R' m ins ar a := by
  obtain ⟨k1, L, k2, k3, k4, k5, k6⟩ := k
  obtain ⟨o1, o2, o3⟩ := ho
  unfold ordWh
  rw [o1, o2]
  refine ⟨k1, L, k2, k3, k4, fun v hv => by rw [pgSa_kn h]; exact k5 v hv, fun j i hj => ?_⟩
  have hjl := (List.getElem?_eq_some_iff.mp hj).1
  obtain ⟨a1, a2, a3⟩ := o3 (m * 5 + j) (by omega) (by omega)
  rw [pgSa_kn h]
  exact pgSa_pl h a1 a2 a3 (k6 j i hj)
theorem odA_q {m q : Nat} {r r' : clR} (h : clEq m r r') (hm : m < 2) : odA r' (m : Int) (q : Int) = odA r (m : Int) (q : Int) ∧ chA r' (m : Int) (q : Int) = chA r (m : Int) (q : Int) ∧ knA r' (m : Int) (q : Int) = knA r (m : Int) (q : Int) ∧ cln r'.2.2.2.2.1.1 (m : Int) = cln r.2.2.2.2.1.1 (m : Int) := by
  obtain ⟨h1, h2, h3⟩ := h
  have e : csl r'.2.2.2.2.1.1 (m : Int) (q : Int) = csl r.2.2.2.2.1.1 (m : Int) (q : Int) := by
    unfold csl
    rw [Int.toNat_natCast, h2]
  have e4 : cln r'.2.2.2.2.1.1 (m : Int) = cln r.2.2.2.2.1.1 (m : Int) := by
    unfold cln
    rw [Int.toNat_natCast, h2]
  unfold odA chA knA
  rw [e]
  by_cases c : 0 ≤ csl r.2.2.2.2.1.1 (m : Int) (q : Int)
  · rw [if_pos c, if_pos c, if_pos c, if_pos c, if_pos c, if_pos c]
    have hs : csl r.2.2.2.2.1.1 (m : Int) (q : Int) = (m : Int) * 5 + (q : Int) ∧ q < 5 := by
      unfold csl at c ⊢
      split
      · rename_i hc
        exact ⟨rfl, by omega⟩
      · rename_i hc
        rw [if_neg hc] at c
        omega
    obtain ⟨a, b, d⟩ := h3 (csl r.2.2.2.2.1.1 (m : Int) (q : Int)).toNat (by omega) (by omega)
    exact ⟨a, b, d, e4⟩
  · rw [if_neg c, if_neg c, if_neg c, if_neg c, if_neg c, if_neg c]
    exact ⟨rfl, rfl, rfl, e4⟩
theorem fsS_q {R R' : pgR} (hg : R'.2.2.2.2.2.2 = R.2.2.2.2.2.2) {m : Nat} {ins : Int} (hm : m < 2) : ∀ (cs : List Nat) (f k : Int), (∀ c, c ∈ cs → clEq m (R.2.2.2.2.2.1 c) (R'.2.2.2.2.2.1 c)) → fsS R' ins (m : Int) cs f k = fsS R ins (m : Int) cs f k
  | [], _, _, _ => rfl
  | c :: cs, f, k, h => by
    have e : odA (R'.2.2.2.2.2.1 c) (m : Int) ((0 : Nat) : Int) = odA (R.2.2.2.2.2.1 c) (m : Int) ((0 : Nat) : Int) := (odA_q (h c List.mem_cons_self) hm).1
    have e : odA (R'.2.2.2.2.2.1 c) (m : Int) 0 = odA (R.2.2.2.2.2.1 c) (m : Int) 0 := e
    have ih := fun f k => fsS_q hg (ins := ins) hm cs f k (fun c' hc => h c' (List.mem_cons_of_mem _ hc))
    cases ho : odA (R.2.2.2.2.2.1 c) (m : Int) 0 with
    | none => rw [fsS_n ho, fsS_n (e.trans ho)]
    | some g => rw [fsS_s ho, fsS_s (e.trans ho), hg, ih]
/-- what the program's modes and clauses keep -/
def pgM2 (R : pgR) : Prop :=
  (∀ y y', y ∈ R.2.2.1.2.1 → y' ∈ R.2.2.1.2.1 → (R.2.2.2.2.1 y).1 = (R.2.2.2.2.1 y').1 → (R.2.2.2.2.1 y).2.1 = (R.2.2.2.2.1 y').2.1 → y = y') ∧
  (∀ p p' c, p ∈ R.2.2.1.1 → p' ∈ R.2.2.1.1 → c ∈ (R.2.2.2.1 p).2.2.2.2 → c ∈ (R.2.2.2.1 p').2.2.2.2 → p = p') ∧
  (∀ p, p ∈ R.2.2.1.1 → (R.2.2.2.1 p).2.2.2.2.Nodup ∧ (R.2.2.2.1 p).2.1.length < 4 ∧ ∀ c, c ∈ (R.2.2.2.1 p).2.2.2.2 → clAr (R.2.2.2.2.2.1 c) ∧ (R.2.2.2.2.2.1 c).2.2.2.1.2.length ≤ 5)
/-- the clauses but for their orders -/
def clKp (r r' : clR) : Prop := r'.1 = r.1 ∧ r'.2.1 = r.2.1 ∧ r'.2.2.1 = r.2.2.1 ∧ r'.2.2.2.1 = r.2.2.2.1
theorem clKp_tr {r r1 r2 : clR} (h : clKp r r1) (k : clKp r1 r2) : clKp r r2 := ⟨k.1.trans h.1, k.2.1.trans h.2.1, k.2.2.1.trans h.2.2.1, k.2.2.2.trans h.2.2.2⟩
/-- what is so of a mode that was looked at -/
def moDn (R R' : pgR) (y : Nat) : Prop := ∃ lost : Int, R'.2.2.2.2.1 y = setSw (anM (R.2.2.2.2.1 y) lost) (fsS R' (R.2.2.2.2.1 y).2.2.1 (R.2.2.2.2.1 y).2.1 (R.2.2.2.1 (R.2.2.2.2.1 y).1).2.2.2.2 (-1) 0) ∧
  (lost = 0 → ∀ c, c ∈ (R.2.2.2.1 (R.2.2.2.2.1 y).1).2.2.2.2 → ordWh R' (R.2.2.2.2.1 y).2.1.toNat (R.2.2.2.2.1 y).2.2.1 (R.2.2.2.1 (R.2.2.2.2.1 y).1).2.1.length c)
theorem an_step {w : zW} {R : pgR} {y : Nat} (hy : y ∈ R.2.2.1.2.1) (hN : pgN R) (hM : pgM2 R) (R3 : pgR) (e3 : R3 = (anS w R (R.2.2.2.2.1 y) y (anP w R (R.2.2.2.2.1 y))).2) :
    pgSa R R3 ∧ (∀ z, z ≠ y → R3.2.2.2.2.1 z = R.2.2.2.2.1 z) ∧ (R3.2.2.2.2.1 y).1 = (R.2.2.2.2.1 y).1 ∧ (R3.2.2.2.2.1 y).2.1 = (R.2.2.2.2.1 y).2.1 ∧ (∀ c, clKp (R.2.2.2.2.2.1 c) (R3.2.2.2.2.2.1 c) ∧ (clAr (R.2.2.2.2.2.1 c) → clAr (R3.2.2.2.2.2.1 c))) ∧ moDn R R3 y ∧
    ∀ z, z ∈ R.2.2.1.2.1 → z ≠ y → ∀ c, c ∈ (R.2.2.2.1 (R.2.2.2.2.1 z).1).2.2.2.2 → clEq (R.2.2.2.2.1 z).2.1.toNat (R.2.2.2.2.2.1 c) (R3.2.2.2.2.2.1 c) := by
  obtain ⟨n1, n2, -⟩ := hN y hy
  obtain ⟨d1, d2, d3⟩ := hM
  obtain ⟨p1, p2, p3⟩ := d3 _ n1
  obtain ⟨r, hr⟩ : ∃ r, r = R.2.2.2.2.1 y := ⟨_, rfl⟩
  rw [← hr] at n1 n2 p1 p2 p3 e3 ⊢
  obtain ⟨m, hm⟩ : ∃ m : Nat, r.2.1 = (m : Int) := ⟨r.2.1.toNat, by omega⟩
  have hm2 : m < 2 := by omega
  have hmt : r.2.1.toNat = m := by omega
  obtain ⟨⟨q1, q1b⟩, q2, q3, q4⟩ := pio_ok (m := m) (pr := r.1) (ins := r.2.2.1) hm2 (R.2.2.2.1 r.1).2.2.2.2 true w R p1 p3 p2
  obtain ⟨P, hP⟩ : ∃ P, P = pioS m r.2.2.1 r.1 (R.2.2.2.1 r.1).2.2.2.2 true w R := ⟨_, rfl⟩
  have hP2 : anP w R r = P := by
    rw [hP]
    unfold anP
    rw [hmt]
  rw [hP2] at e3
  rw [← hP] at q1 q1b q2 q3 q4
  obtain ⟨lost, hlost⟩ : ∃ lost : Int, lost = if P.1 = true then 0 else 1 := ⟨_, rfl⟩
  have e3 : R3 = pgSetM P.2.2 y (setSw (anM r lost) (fsS (pgSetM P.2.2 y (anM r lost)) r.2.2.1 r.2.1 (R.2.2.2.1 r.1).2.2.2.2 (-1) 0)) := by rw [e3, hlost]; rfl
  have mo3 : ∀ z, R3.2.2.2.2.1 z = if z = y then setSw (anM r lost) (fsS (pgSetM P.2.2 y (anM r lost)) r.2.2.1 r.2.1 (R.2.2.2.1 r.1).2.2.2.2 (-1) 0) else R.2.2.2.2.1 z := fun z => by
    rw [e3]
    show (if z = y then _ else P.2.2.2.2.2.2.1 z) = _
    rw [show P.2.2.2.2.2.2.1 = R.2.2.2.2.1 from q1b]
  have c3 : R3.2.2.2.2.2 = P.2.2.2.2.2.2.2 := by rw [e3]; rfl
  have hsa : pgSa P.2.2 R3 := by
    rw [e3]
    refine ⟨rfl, rfl, rfl, fun z => ?_⟩
    show (if z = y then _ else P.2.2.2.2.2.2.1 z).2.2.1 = _
    by_cases c : z = y
    · rw [if_pos c, c, show P.2.2.2.2.2.2.1 = R.2.2.2.2.1 from q1b, ← hr]
      rfl
    · rw [if_neg c]
  have hc3 : ∀ c, R3.2.2.2.2.2.1 c = P.2.2.2.2.2.2.2.1 c := fun c => by rw [c3]
  have hy3 : R3.2.2.2.2.1 y = setSw (anM r lost) (fsS (pgSetM P.2.2 y (anM r lost)) r.2.2.1 r.2.1 (R.2.2.2.1 r.1).2.2.2.2 (-1) 0) := by rw [mo3, if_pos rfl]
  refine ⟨pgSa_tr q1 hsa, fun z hz => by rw [mo3, if_neg hz], by rw [hy3]; rfl, by rw [hy3]; rfl, fun c => ?_, ⟨lost, ?_, fun hl c hc => ?_⟩, fun z hz hzy c hc => ?_⟩
  · rw [hc3]
    by_cases hc : c ∈ (R.2.2.2.1 r.1).2.2.2.2
    · obtain ⟨a, b⟩ := q3 c hc
      exact ⟨⟨a.1, a.2.1, a.2.2.1, a.2.2.2.1⟩, fun _ => b⟩
    · rw [q2 c hc]
      exact ⟨⟨rfl, rfl, rfl, rfl⟩, id⟩
  · rw [← hr, hy3, hm]
    congr 1
    exact (fsS_q (R := R3) (R' := pgSetM P.2.2 y (anM r lost)) (by rw [e3]; rfl) hm2 _ _ _ (fun c _ => by
      show clEq m (R3.2.2.2.2.2.1 c) (P.2.2.2.2.2.2.2.1 c)
      rw [hc3]
      exact clEq_re))
  · rw [← hr] at hc ⊢
    rw [hmt]
    have hb : P.1 = true := Classical.byContradiction fun q => by
      rw [if_neg q] at hlost
      omega
    exact ordWh_eq hsa (hc3 c) ((q4 hb).2 c hc)
  · rw [hc3]
    obtain ⟨z1, z2, -⟩ := hN z hz
    by_cases hp : (R.2.2.2.2.1 z).1 = r.1
    · rw [hp] at hc
      refine clOt_eq (q3 c hc).1 (fun e => hzy (d1 z y hz hy (by rw [← hr]; exact hp) ?_))
      rw [← hr]
      omega
    · rw [q2 c (fun hc2 => hp (d2 _ _ c z1 n1 hc hc2))]
      exact clEq_re
theorem moDn_q {R R1 R2 : pgR} {y : Nat} (hy : y ∈ R.2.2.1.2.1) (hN : pgN R) (hM : pgM2 R) (h1 : pgSa R R1) (h2 : pgSa R1 R2) (hk : ∀ c, clKp (R.2.2.2.2.2.1 c) (R1.2.2.2.2.2.1 c)) (hm : R2.2.2.2.2.1 y = R1.2.2.2.2.1 y) (hc : ∀ c, c ∈ (R.2.2.2.1 (R.2.2.2.2.1 y).1).2.2.2.2 → clEq (R.2.2.2.2.1 y).2.1.toNat (R1.2.2.2.2.2.1 c) (R2.2.2.2.2.2.1 c)) (h : moDn R R1 y) : moDn R R2 y := by
  obtain ⟨lost, k1, k2⟩ := h
  obtain ⟨n1, n2, -⟩ := hN y hy
  obtain ⟨m, hmm⟩ : ∃ m : Nat, (R.2.2.2.2.1 y).2.1 = (m : Int) := ⟨(R.2.2.2.2.1 y).2.1.toNat, by omega⟩
  have hmt : (R.2.2.2.2.1 y).2.1.toNat = m := by omega
  rw [hmt] at hc k2
  refine ⟨lost, ?_, fun hl c hcc => ?_⟩
  · rw [hm, k1, hmm, fsS_q h2.2.2.1 (by omega) _ _ _ hc]
  · rw [hmt]
    refine ordWh_q h2 (hc c hcc) ?_ (k2 hl c hcc)
    rw [(hk c).2.2.2]
    exact ((hM.2.2 _ n1).2.2 c hcc).2
theorem pgN_sa {R R1 : pgR} (h : pgSa R R1) (hn : ∀ y, (R1.2.2.2.2.1 y).1 = (R.2.2.2.2.1 y).1 ∧ (R1.2.2.2.2.1 y).2.1 = (R.2.2.2.2.1 y).2.1) (k : pgN R) : pgN R1 := fun y hy => by
  rw [h.1] at hy
  rw [h.1, h.2.1, (hn y).1, (hn y).2]
  exact k y hy
theorem pgM2_sa {R R1 : pgR} (h : pgSa R R1) (hn : ∀ y, (R1.2.2.2.2.1 y).1 = (R.2.2.2.2.1 y).1 ∧ (R1.2.2.2.2.1 y).2.1 = (R.2.2.2.2.1 y).2.1) (hk : ∀ c, clKp (R.2.2.2.2.2.1 c) (R1.2.2.2.2.2.1 c) ∧ (clAr (R.2.2.2.2.2.1 c) → clAr (R1.2.2.2.2.2.1 c))) (k : pgM2 R) : pgM2 R1 := by
  obtain ⟨k1, k2, k3⟩ := k
  refine ⟨fun y y' hy hy' e e' => ?_, fun p p' c hp hp' => ?_, fun p hp => ?_⟩
  · rw [h.1] at hy hy'
    rw [(hn y).1, (hn y').1] at e
    rw [(hn y).2, (hn y').2] at e'
    exact k1 y y' hy hy' e e'
  · rw [h.1] at hp hp'
    rw [h.2.1]
    exact k2 p p' c hp hp'
  · rw [h.1] at hp
    rw [h.2.1]
    obtain ⟨a, b, c⟩ := k3 p hp
    refine ⟨a, b, fun x hx => ?_⟩
    obtain ⟨u, v⟩ := c x hx
    exact ⟨(hk x).2 u, by rw [(hk x).1.2.2.2]; exact v⟩
theorem an1_ok : ∀ (l : List Nat) (w : zW) (R : pgR), l.Nodup → (∀ y, y ∈ l → y ∈ R.2.2.1.2.1) → pgN R → pgM2 R →
    pgSa R (an1 l w R).2 ∧ (∀ y, ((an1 l w R).2.2.2.2.2.1 y).1 = (R.2.2.2.2.1 y).1 ∧ ((an1 l w R).2.2.2.2.2.1 y).2.1 = (R.2.2.2.2.1 y).2.1) ∧ (∀ c, clKp (R.2.2.2.2.2.1 c) ((an1 l w R).2.2.2.2.2.2.1 c) ∧ (clAr (R.2.2.2.2.2.1 c) → clAr ((an1 l w R).2.2.2.2.2.2.1 c))) ∧
    (∀ z, z ∉ l → (an1 l w R).2.2.2.2.2.1 z = R.2.2.2.2.1 z) ∧ (∀ z, z ∈ R.2.2.1.2.1 → z ∉ l → ∀ c, c ∈ (R.2.2.2.1 (R.2.2.2.2.1 z).1).2.2.2.2 → clEq (R.2.2.2.2.1 z).2.1.toNat (R.2.2.2.2.2.1 c) ((an1 l w R).2.2.2.2.2.2.1 c)) ∧
    ∀ y, y ∈ l → moDn R (an1 l w R).2 y
  | [], w, R, _, _, _, _ => ⟨pgSa_re, fun _ => ⟨rfl, rfl⟩, fun _ => ⟨⟨rfl, rfl, rfl, rfl⟩, id⟩, fun _ _ => rfl, fun _ _ _ _ _ => clEq_re, fun y h => absurd h List.not_mem_nil⟩
  | y :: l, w, R, hn, hs, hN, hM => by
    rw [List.nodup_cons] at hn
    rw [an1_c]
    have hyM := hs y List.mem_cons_self
    obtain ⟨R3, e3⟩ : ∃ R3, R3 = (anS w R (R.2.2.2.2.1 y) y (anP w R (R.2.2.2.2.1 y))).2 := ⟨_, rfl⟩
    obtain ⟨s1, s2, s3, s4, s5, s6, s7⟩ := an_step hyM hN hM R3 e3
    rw [← e3]
    obtain ⟨w3, hw3⟩ : ∃ w3, w3 = (anS w R (R.2.2.2.2.1 y) y (anP w R (R.2.2.2.2.1 y))).1 := ⟨_, rfl⟩
    rw [← hw3]
    have mo : ∀ z, (R3.2.2.2.2.1 z).1 = (R.2.2.2.2.1 z).1 ∧ (R3.2.2.2.2.1 z).2.1 = (R.2.2.2.2.1 z).2.1 := fun z => by
      by_cases c : z = y
      · rw [c]; exact ⟨s3, s4⟩
      · rw [s2 z c]; exact ⟨rfl, rfl⟩
    have hN3 := pgN_sa s1 mo hN
    have hM3 := pgM2_sa s1 mo s5 hM
    obtain ⟨i1, i2, i3, i4, i5, i6⟩ := an1_ok l w3 R3 hn.2 (fun z hz => by rw [s1.1]; exact hs z (List.mem_cons_of_mem _ hz)) hN3 hM3
    refine ⟨pgSa_tr s1 i1, fun z => ⟨(i2 z).1.trans (mo z).1, (i2 z).2.trans (mo z).2⟩, fun c => ⟨clKp_tr (s5 c).1 (i3 c).1, fun q => (i3 c).2 ((s5 c).2 q)⟩, fun z hz => ?_, fun z hz hzl c hc => ?_, fun z hz => ?_⟩
    · rw [i4 z (fun q => hz (List.mem_cons_of_mem _ q)), s2 z (fun q => hz (q ▸ List.mem_cons_self))]
    · have hzy : z ≠ y := fun q => hzl (q ▸ List.mem_cons_self)
      have a := s7 z hz hzy c hc
      have b := i5 z (by rw [s1.1]; exact hz) (fun q => hzl (List.mem_cons_of_mem _ q)) c (by rw [s1.2.1, (mo z).1]; exact hc)
      rw [(mo z).2] at b
      exact clEq_tr a b
    · rcases List.mem_cons.mp hz with e | e
      · subst e
        refine moDn_q hyM hN hM s1 i1 (fun c => (s5 c).1) (i4 z hn.1) (fun c hc => ?_) s6
        have b := i5 z (by rw [s1.1]; exact hyM) hn.1 c (by rw [s1.2.1, s3]; exact hc)
        rw [s4] at b
        exact b
      · have hzy : z ≠ y := fun q => hn.1 (q ▸ e)
        have b := i6 z e
        unfold moDn at b ⊢
        rw [s2 z hzy, s1.2.1] at b
        exact b
