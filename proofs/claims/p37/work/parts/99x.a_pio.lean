/-! Own rows: the orders of a predicate's clauses for a mode. By hand; nothing of the bytecode. -/
/-- the same, as far as an order looks -/
def pgSa (R R' : pgR) : Prop := R'.2.2.1 = R.2.2.1 ∧ R'.2.2.2.1 = R.2.2.2.1 ∧ R'.2.2.2.2.2.2 = R.2.2.2.2.2.2 ∧ ∀ y, (R'.2.2.2.2.1 y).2.2.1 = (R.2.2.2.2.1 y).2.2.1
theorem pgSa_re {R : pgR} : pgSa R R := ⟨rfl, rfl, rfl, fun _ => rfl⟩
theorem pgSa_tr {R R1 R2 : pgR} (h : pgSa R R1) (k : pgSa R1 R2) : pgSa R R2 := ⟨k.1.trans h.1, k.2.1.trans h.2.1, k.2.2.1.trans h.2.2.1, fun y => (k.2.2.2 y).trans (h.2.2.2 y)⟩
theorem pgSa_ch {R R' : pgR} (h : pgSa R R') (g : goR) (kn : Int) : chM R' g kn = chM R g kn := by
  obtain ⟨a, b, -, c⟩ := h
  unfold chM
  rw [a, b]
  simp only [c]
theorem pgSa_kn {R R' : pgR} (h : pgSa R R') (Gs : List Nat) : ∀ (L : List Nat) (kn : Int), knS R' Gs kn L = knS R Gs kn L
  | [], _ => rfl
  | i :: L, kn => by
    show knS R' Gs (zor kn (vSt (R'.2.2.2.2.2.2 (Gs.getD i 0)).2.2.2.2 ((R'.2.2.2.2.2.2 (Gs.getD i 0)).2.2.1 - 0).toNat 0 0)) L = _
    rw [h.2.2.1, pgSa_kn h Gs L]
    rfl
theorem pgSa_pl {R R' : pgR} (h : pgSa R R') {Gs : List Nat} {r r' : clR} {s i : Nat} {kn : Int} (e1 : r'.2.2.2.2.2.1.getD s none = r.2.2.2.2.2.1.getD s none) (e2 : r'.2.2.2.2.2.2.getD s none = r.2.2.2.2.2.2.getD s none) (e3 : r'.2.2.2.2.1.2.2.getD s 0 = r.2.2.2.2.1.2.2.getD s 0) (k : plA R Gs r s i kn) : plA R' Gs r' s i kn := by
  obtain ⟨k1, k2, k3, k4⟩ := k
  unfold plA
  rw [e1, e2, e3, h.2.2.1, pgSa_ch h]
  exact ⟨k1, k2, k3, k4⟩
/-- the order of a clause for a mode is whole -/
def ordWh (R : pgR) (m : Nat) (ins : Int) (ar a : Nat) : Prop := (R.2.2.2.2.2.1 a).2.2.2.2.1.1.getD m 0 = ((R.2.2.2.2.2.1 a).2.2.2.1.2.length : Int) ∧
  ∃ L : List Nat, L.length = (R.2.2.2.2.2.1 a).2.2.2.1.2.length ∧ L.Nodup ∧ (∀ i, i ∈ L → i < (R.2.2.2.2.2.1 a).2.2.2.1.2.length) ∧ (∀ v, v < ar → bI (knS R (R.2.2.2.2.2.1 a).2.2.2.1.2 ins L) v = true) ∧
    ∀ j i, L[j]? = some i → plA R (R.2.2.2.2.2.1 a).2.2.2.1.2 (R.2.2.2.2.2.1 a) (m * 5 + j) i (knS R (R.2.2.2.2.2.1 a).2.2.2.1.2 ins (L.take j))
/-- the same but for a mode's order -/
def clOt (m : Nat) (r r' : clR) : Prop := r'.1 = r.1 ∧ r'.2.1 = r.2.1 ∧ r'.2.2.1 = r.2.2.1 ∧ r'.2.2.2.1 = r.2.2.2.1 ∧ ∀ m', m' ≠ m → r'.2.2.2.2.1.1.getD m' 0 = r.2.2.2.2.1.1.getD m' 0 ∧ ∀ s, m' * 5 ≤ s → s < m' * 5 + 5 → r'.2.2.2.2.2.1.getD s none = r.2.2.2.2.2.1.getD s none ∧ r'.2.2.2.2.2.2.getD s none = r.2.2.2.2.2.2.getD s none ∧ r'.2.2.2.2.1.2.2.getD s 0 = r.2.2.2.2.1.2.2.getD s 0
theorem clOt_tr {m : Nat} {r r1 r2 : clR} (h : clOt m r r1) (k : clOt m r1 r2) : clOt m r r2 := by
  obtain ⟨h1, h2, h3, h4, h5⟩ := h
  obtain ⟨k1, k2, k3, k4, k5⟩ := k
  refine ⟨k1.trans h1, k2.trans h2, k3.trans h3, k4.trans h4, fun m' hm => ⟨(k5 m' hm).1.trans (h5 m' hm).1, fun s s1 s2 => ?_⟩⟩
  obtain ⟨a, b, c⟩ := (k5 m' hm).2 s s1 s2
  obtain ⟨a', b', c'⟩ := (h5 m' hm).2 s s1 s2
  exact ⟨a.trans a', b.trans b', c.trans c'⟩
theorem ordWh_ot {R R' : pgR} (h : pgSa R R') {m m' : Nat} {ins : Int} {ar a : Nat} (hm : m' ≠ m) (ho : clOt m (R.2.2.2.2.2.1 a) (R'.2.2.2.2.2.1 a)) (h5 : (R.2.2.2.2.2.1 a).2.2.2.1.2.length ≤ 5) (k : ordWh R m' ins ar a) : ordWh R' m' ins ar a := by
  obtain ⟨k1, L, k2, k3, k4, k5, k6⟩ := k
  obtain ⟨o1, o2, o3, o4, o5⟩ := ho
  unfold ordWh
  rw [o4, (o5 m' hm).1]
  refine ⟨k1, L, k2, k3, k4, fun v hv => by rw [pgSa_kn h]; exact k5 v hv, fun j i hj => ?_⟩
  have hjl := (List.getElem?_eq_some_iff.mp hj).1
  obtain ⟨a1, a2, a3⟩ := (o5 m' hm).2 (m' * 5 + j) (by omega) (by omega)
  rw [pgSa_kn h]
  exact pgSa_pl h a1 a2 a3 (k6 j i hj)
theorem ordWh_eq {R R' : pgR} (h : pgSa R R') {m : Nat} {ins : Int} {ar a : Nat} (ho : R'.2.2.2.2.2.1 a = R.2.2.2.2.2.1 a) (k : ordWh R m ins ar a) : ordWh R' m ins ar a := by
  obtain ⟨k1, L, k2, k3, k4, k5, k6⟩ := k
  unfold ordWh
  rw [ho]
  refine ⟨k1, L, k2, k3, k4, fun v hv => by rw [pgSa_kn h]; exact k5 v hv, fun j i hj => ?_⟩
  rw [pgSa_kn h]
  exact pgSa_pl h rfl rfl rfl (k6 j i hj)
/-- a clause is put in order -/
theorem ordO_ok {R : pgR} {m c : Nat} {ins : Int} (hm : m < 2) (hr : clAr (R.2.2.2.2.2.1 c)) (h5 : (R.2.2.2.2.2.1 c).2.2.2.1.2.length ≤ 5) : clAr (ordO R m c ins).2.2 ∧ clOt m (R.2.2.2.2.2.1 c) (ordO R m c ins).2.2 ∧
    ((ordO R m c ins).1 = true → (ordO R m c ins).2.2.2.2.2.2.1.1.getD m 0 = ((R.2.2.2.2.2.1 c).2.2.2.1.2.length : Int) ∧
      ∃ L : List Nat, L.length = (R.2.2.2.2.2.1 c).2.2.2.1.2.length ∧ L.Nodup ∧ (∀ i, i ∈ L → i < (R.2.2.2.2.2.1 c).2.2.2.1.2.length) ∧ (ordO R m c ins).2.1 = knS R (R.2.2.2.2.2.1 c).2.2.2.1.2 ins L ∧
        ∀ j i, L[j]? = some i → plA R (R.2.2.2.2.2.1 c).2.2.2.1.2 (ordO R m c ins).2.2 (m * 5 + j) i (knS R (R.2.2.2.2.2.1 c).2.2.2.1.2 ins (L.take j))) := by
  obtain ⟨r1, r2, r3, r4, r5⟩ := id hr
  have e0 : (orC (R.2.2.2.2.2.1 c) m).2.2.2.2.1.1 = (R.2.2.2.2.2.1 c).2.2.2.2.1.1.set m 0 := rfl
  have hc : clAr (orC (R.2.2.2.2.2.1 c) m) := ⟨by rw [e0, List.length_set]; exact r1, r2, r3, r4, r5⟩
  obtain ⟨i1, i2, i3, i4⟩ := ord_ok (R := R) (Gs := (R.2.2.2.2.2.1 c).2.2.2.1.2) h5 hm (R.2.2.2.2.2.1 c).2.2.2.1.2.length 0 0 ins (orC (R.2.2.2.2.2.1 c) m) (by omega) hc (by
    rw [e0, getD_set (by omega), if_pos rfl]
    rfl)
  have hsm : ∀ (n q : Nat) (tk kn : Int) (r : clR), (ordS R m (R.2.2.2.2.2.1 c).2.2.2.1.2 n q tk kn r).2.2.1 = r.1 ∧ (ordS R m (R.2.2.2.2.2.1 c).2.2.2.1.2 n q tk kn r).2.2.2.1 = r.2.1 ∧ (ordS R m (R.2.2.2.2.2.1 c).2.2.2.1.2 n q tk kn r).2.2.2.2.1 = r.2.2.1 ∧ (ordS R m (R.2.2.2.2.2.1 c).2.2.2.1.2 n q tk kn r).2.2.2.2.2.1 = r.2.2.2.1 := by
    intro n
    induction n with
    | zero => intro q tk kn r; exact ⟨rfl, rfl, rfl, rfl⟩
    | succ n ih =>
      intro q tk kn r
      cases hl : lAt (R.2.2.2.2.2.1 c).2.2.2.1.2 (ngN R (R.2.2.2.2.2.1 c).2.2.2.1.2 tk kn (R.2.2.2.2.2.1 c).2.2.2.1.2.length 0) with
      | none => rw [ordS_n hl]; exact ⟨rfl, rfl, rfl, rfl⟩
      | some g => rw [ordS_y hl]; exact ih _ _ _ _
  obtain ⟨s1, s2, s3, s4⟩ := hsm (R.2.2.2.2.2.1 c).2.2.2.1.2.length 0 0 ins (orC (R.2.2.2.2.2.1 c) m)
  refine ⟨i1, ⟨s1, s2, s3, s4, fun m' hm' => ⟨?_, fun s h1 h2 => ?_⟩⟩, fun h => ?_⟩
  · show (ordS R m (R.2.2.2.2.2.1 c).2.2.2.1.2 (R.2.2.2.2.2.1 c).2.2.2.1.2.length 0 0 ins (orC (R.2.2.2.2.2.1 c) m)).2.2.2.2.2.2.1.1.getD m' 0 = _
    rw [i3 m' hm', e0, getD_set (by omega), if_neg hm']
  · exact i2 s (by omega)
  · obtain ⟨k1, L, k2, k3, k4, k5, k6⟩ := i4 h
    refine ⟨?_, L, k2, k3, fun i hi => (k4 i hi).1, k5, fun j i hj => ?_⟩
    · rw [Nat.zero_add] at k1
      exact k1
    · have q := k6 j i hj
      rw [Nat.zero_add] at q
      exact q
theorem pgSa_setC {R : pgR} {c : Nat} {r : clR} : pgSa R (pgSetC R c r) := ⟨rfl, rfl, rfl, fun _ => rfl⟩
theorem pio_ok {m pr : Nat} {ins : Int} (hm : m < 2) : ∀ (cs : List Nat) (b : Bool) (w : zW) (R : pgR), cs.Nodup → (∀ c, c ∈ cs → clAr (R.2.2.2.2.2.1 c) ∧ (R.2.2.2.2.2.1 c).2.2.2.1.2.length ≤ 5) → (R.2.2.2.1 pr).2.1.length < 4 →
    (pgSa R (pioS m ins pr cs b w R).2.2 ∧ (pioS m ins pr cs b w R).2.2.2.2.2.2.1 = R.2.2.2.2.1) ∧ (∀ c, c ∉ cs → (pioS m ins pr cs b w R).2.2.2.2.2.2.2.1 c = R.2.2.2.2.2.1 c) ∧
    (∀ c, c ∈ cs → clOt m (R.2.2.2.2.2.1 c) ((pioS m ins pr cs b w R).2.2.2.2.2.2.2.1 c) ∧ clAr ((pioS m ins pr cs b w R).2.2.2.2.2.2.2.1 c)) ∧
    ((pioS m ins pr cs b w R).1 = true → b = true ∧ ∀ c, c ∈ cs → ordWh (pioS m ins pr cs b w R).2.2 m ins (R.2.2.2.1 pr).2.1.length c)
  | [], b, w, R, _, _, _ => ⟨⟨pgSa_re, rfl⟩, fun _ _ => rfl, fun c h => absurd h List.not_mem_nil, fun h => ⟨h, fun c hc => absurd hc List.not_mem_nil⟩⟩
  | c :: cs, b, w, R, hn, hc, ha => by
    rw [List.nodup_cons] at hn
    rw [pioS_c]
    obtain ⟨hr, h5⟩ := hc c List.mem_cons_self
    obtain ⟨o1, o2, o3⟩ := ordO_ok (ins := ins) hm hr h5
    obtain ⟨R1, hR1⟩ : ∃ R1, R1 = pgSetC R c (ordO R m c ins).2.2 := ⟨_, rfl⟩
    have hsa : pgSa R R1 := by rw [hR1]; exact pgSa_setC
    have hat : R1.2.2.2.2.2.1 c = (ordO R m c ins).2.2 := by
      rw [hR1]
      show (if c = c then _ else _) = _
      rw [if_pos rfl]
    have hnat : ∀ c', c' ≠ c → R1.2.2.2.2.2.1 c' = R.2.2.2.2.2.1 c' := fun c' h => by
      rw [hR1]
      show (if c' = c then _ else _) = _
      rw [if_neg h]
    rw [← hR1]
    have hne : ∀ c', c' ∈ cs → c' ≠ c := fun c' h e => hn.1 (e ▸ h)
    obtain ⟨⟨i1, i1b⟩, i2, i3, i4⟩ := pio_ok (pr := pr) (ins := ins) hm cs (b && decide (orV (R.2.2.2.1 pr).2.1 (ordO R m c ins) ≠ 0)) (clPut w c (ordO R m c ins).2.2) R1 hn.2 (fun c' h => by rw [hnat c' (hne c' h)]; exact hc c' (List.mem_cons_of_mem _ h)) (by rw [hsa.2.1]; exact ha)
    have hatF : (pioS m ins pr cs (b && decide (orV (R.2.2.2.1 pr).2.1 (ordO R m c ins) ≠ 0)) (clPut w c (ordO R m c ins).2.2) R1).2.2.2.2.2.2.2.1 c = (ordO R m c ins).2.2 := by rw [i2 c hn.1, hat]
    refine ⟨⟨pgSa_tr hsa i1, i1b.trans (by rw [hR1]; rfl)⟩, fun c' h => ?_, fun c' h => ?_, fun h => ?_⟩
    · rw [i2 c' (fun q => h (List.mem_cons_of_mem _ q)), hnat c' (fun q => h (q ▸ List.mem_cons_self))]
    · rcases List.mem_cons.mp h with q | q
      · rw [q, hatF]
        exact ⟨o2, o1⟩
      · obtain ⟨a, b'⟩ := i3 c' q
        rw [hnat c' (hne c' q)] at a
        exact ⟨a, b'⟩
    · obtain ⟨k1, k2⟩ := i4 h
      rw [Bool.and_eq_true, decide_eq_true_eq] at k1
      refine ⟨k1.1, fun c' h' => ?_⟩
      rcases List.mem_cons.mp h' with q | q
      · subst q
        have hov := k1.2
        unfold orV at hov
        have ho : (ordO R m c' ins).1 = true := Classical.byContradiction fun q => hov (if_neg q)
        rw [if_pos ho] at hov
        have hall := (zB_nz).mp hov
        rw [sub_bI] at hall
        obtain ⟨l1, L, l2, l3, l4, l5, l6⟩ := o3 ho
        have hGs : ((ordO R m c' ins).2.2).2.2.2.1 = (R.2.2.2.2.2.1 c').2.2.2.1 := o2.2.2.2.1
        refine ordWh_eq (R := R1) i1 (by rw [hatF, hat]) ?_
        unfold ordWh
        rw [hat, hGs]
        refine ⟨l1, L, l2, l3, l4, fun v hv => ?_, fun j i hj => ?_⟩
        · rw [pgSa_kn hsa, ← l5]
          exact hall v (by omega) (by rw [bI_low (by omega) (by omega)]; exact decide_eq_true hv)
        · rw [pgSa_kn hsa]
          exact pgSa_pl hsa rfl rfl rfl (l6 j i hj)
      · have := k2 c' q
        rw [hsa.2.1] at this
        exact this
