/-! Own rows: what the compiler finds, as the machine's proof wants it. By hand; nothing of the bytecode. -/
theorem nd_map {T U : Type} {f : T → U} : ∀ {l : List T}, l.Nodup → (∀ a b, a ∈ l → b ∈ l → f a = f b → a = b) → (l.map f).Nodup
  | [], _, _ => List.nodup_nil
  | x :: l, h, hi => by
    rw [List.nodup_cons] at h
    rw [List.map_cons, List.nodup_cons]
    refine ⟨fun q => ?_, nd_map h.2 (fun a b ha hb => hi a b (List.mem_cons_of_mem _ ha) (List.mem_cons_of_mem _ hb))⟩
    obtain ⟨z, hz, e⟩ := List.mem_map.mp q
    have := hi z x (List.mem_cons_of_mem _ hz) List.mem_cons_self e
    exact h.1 (this ▸ hz)
theorem clG_ok {xs : List Int} {P : Nat → Bool} (hx : ∀ k : Int, 0 ≤ zVa xs k ∧ zVa xs k < 8) : ∀ (n q : Nat) (sn : Int), clG xs P n q sn = false → ∀ j, j < n → P (q + j) = false → ¬ bt1 sn (zVa xs ((q + j : Nat) : Int)) ∧ ∀ j', j' < j → P (q + j') = false → zVa xs ((q + j' : Nat) : Int) ≠ zVa xs ((q + j : Nat) : Int)
  | 0, _, _, _, j, hj, _ => absurd hj (Nat.not_lt_zero _)
  | n + 1, q, sn, h, j, hj, hp => by
    cases hq : P q with
    | true =>
      rw [clG_p hq] at h
      cases j with
      | zero => rw [Nat.add_zero, hq] at hp; cases hp
      | succ j =>
        have ih := clG_ok hx n (q + 1) sn h j (by omega) (by rw [show q + 1 + j = q + (j + 1) by omega]; exact hp)
        rw [show q + 1 + j = q + (j + 1) by omega] at ih
        refine ⟨ih.1, fun j' hj' hp' => ?_⟩
        cases j' with
        | zero => rw [Nat.add_zero, hq] at hp'; cases hp'
        | succ j' =>
          have k := ih.2 j' (by omega) (by rw [show q + 1 + j' = q + (j' + 1) by omega]; exact hp')
          rw [show q + 1 + j' = q + (j' + 1) by omega] at k
          exact k
    | false =>
      rw [clG_n (by rw [hq]; simp), Bool.or_eq_false_iff, decide_eq_false_iff_not] at h
      obtain ⟨v, hv, hv8⟩ : ∃ v : Nat, zVa xs (q : Int) = (v : Int) ∧ v < 8 := ⟨(zVa xs (q : Int)).toNat, by have := hx (q : Int); omega, by have := hx (q : Int); omega⟩
      cases j with
      | zero => exact ⟨by rw [Nat.add_zero]; exact h.1, fun j' hj' => absurd hj' (Nat.not_lt_zero _)⟩
      | succ j =>
        have ih := clG_ok hx n (q + 1) _ h.2 j (by omega) (by rw [show q + 1 + j = q + (j + 1) by omega]; exact hp)
        rw [show q + 1 + j = q + (j + 1) by omega] at ih
        obtain ⟨u, hu, hu8⟩ : ∃ u : Nat, zVa xs ((q + (j + 1) : Nat) : Int) = (u : Int) ∧ u < 8 := ⟨(zVa xs ((q + (j + 1) : Nat) : Int)).toNat, by have := hx ((q + (j + 1) : Nat) : Int); omega, by have := hx ((q + (j + 1) : Nat) : Int); omega⟩
        have hb := ih.1
        rw [hv, hu] at hb
        have hb : ¬ bI (zor sn (zshl 1 (v : Int))) u = true := fun k => hb ((bt_bI hu8).mpr k)
        rw [bI_or, bI_one hv8 (by omega), Bool.or_eq_true, decide_eq_true_eq] at hb
        refine ⟨fun k => hb (Or.inl ((bt_bI hu8).mp (by rw [hu] at k; exact k))), fun j' hj' hp' => ?_⟩
        cases j' with
        | zero =>
          rw [Nat.add_zero, hv, hu]
          exact fun k => hb (Or.inr (by omega))
        | succ j' =>
          have k := ih.2 j' (by omega) (by rw [show q + 1 + j' = q + (j' + 1) by omega]; exact hp')
          rw [show q + 1 + j' = q + (j' + 1) by omega] at k
          exact k
theorem cfP_ok {R : pgR} {r : clR} {sw m : Int} : ∀ (n q : Nat), cfP R r sw m n q = false → ∀ j, j < n → cfE R r sw m (q + j) = false
  | 0, _, _, j, hj => absurd hj (Nat.not_lt_zero _)
  | n + 1, q, h, j, hj => by
    rw [cfP_s, Bool.or_eq_false_iff] at h
    cases j with
    | zero => exact h.1
    | succ j =>
      have := cfP_ok n (q + 1) h.2 j (by omega)
      rw [show q + 1 + j = q + (j + 1) by omega] at this
      exact this
theorem crP_ok {R : pgR} {r : clR} {m : Int} : ∀ (n q : Nat), crP R r m n q = false → ∀ j, j < n → ∀ g x, odA r m ((q + j : Nat) : Int) = some g → chA r m ((q + j : Nat) : Int) = some x → (R.2.2.2.2.2.2 g).1 = 2 → moF2 (R.2.2.2.2.1 x) = 0
  | 0, _, _, j, hj, _, _, _, _, _ => absurd hj (Nat.not_lt_zero _)
  | n + 1, q, h, j, hj, g, x, hg, hx, hk => by
    unfold crP at h
    rw [Bool.or_eq_false_iff] at h
    cases j with
    | zero =>
      rw [Nat.add_zero] at hg hx
      have h1 := h.1
      rw [hg, hx] at h1
      have h1 : decide ((R.2.2.2.2.2.2 g).1 = 2 ∧ moF2 (R.2.2.2.2.1 x) ≠ 0) = false := h1
      rw [decide_eq_false_iff_not] at h1
      exact Classical.byContradiction fun q => h1 ⟨hk, q⟩
    | succ j => exact crP_ok n (q + 1) h.2 j (by omega) g x (by rw [show q + 1 + j = q + (j + 1) by omega]; exact hg) (by rw [show q + 1 + j = q + (j + 1) by omega]; exact hx) hk
section AFA
variable {R : pgR}
theorem fsS_ok {ins m : Int} : ∀ (cs : List Nat) (f k s : Int), (∀ c, c ∈ cs → ∀ g, odA (R.2.2.2.2.2.1 c) m 0 = some g → (0 ≤ zVa (R.2.2.2.2.2.2 g).2.2.2.2 0) ∧ ((R.2.2.2.2.2.2 g).1 = 0 → 0 ≤ (R.2.2.2.2.2.2 g).2.1 ∧ (R.2.2.2.2.2.2 g).2.1 < 3)) → fsS R ins m cs f k = s → s ≠ -1 →
    (f ≠ -1 → s = f) ∧ (∀ c, c ∈ cs → ∃ g, odA (R.2.2.2.2.2.1 c) m 0 = some g ∧ (R.2.2.2.2.2.2 g).1 = 0 ∧ isIn ins s ∧ zVa (R.2.2.2.2.2.2 g).2.2.2.2 0 = s ∧ ¬ bt1 k (R.2.2.2.2.2.2 g).2.1) ∧
    ∀ c c', c ∈ cs → c' ∈ cs → ∀ g g', odA (R.2.2.2.2.2.1 c) m 0 = some g → odA (R.2.2.2.2.2.1 c') m 0 = some g' → (R.2.2.2.2.2.2 g).2.1 = (R.2.2.2.2.2.2 g').2.1 → c = c'
  | [], f, k, s, _, h, hs => ⟨fun _ => h.symm, fun c hc => absurd hc List.not_mem_nil, fun c _ hc => absurd hc List.not_mem_nil⟩
  | c :: cs, f, k, s, hg, h, hs => by
    cases ho : odA (R.2.2.2.2.2.1 c) m 0 with
    | none => rw [fsS_n ho] at h; exact absurd h.symm hs
    | some g =>
      rw [fsS_s ho] at h
      obtain ⟨h0, hsu⟩ := hg c List.mem_cons_self g ho
      by_cases c1 : (R.2.2.2.2.2.2 g).1 = 0 ∧ isIn ins (zVa (R.2.2.2.2.2.2 g).2.2.2.2 0)
      · rw [if_pos c1] at h
        by_cases c2 : (f ≠ -1 ∧ f ≠ zVa (R.2.2.2.2.2.2 g).2.2.2.2 0) ∨ bt1 k (R.2.2.2.2.2.2 g).2.1
        · rw [if_pos c2] at h; exact absurd h.symm hs
        · rw [if_neg c2] at h
          obtain ⟨u, hu, hu8⟩ : ∃ u : Nat, (R.2.2.2.2.2.2 g).2.1 = (u : Int) ∧ u < 3 := ⟨(R.2.2.2.2.2.2 g).2.1.toNat, by have := hsu c1.1; omega, by have := hsu c1.1; omega⟩
          obtain ⟨i1, i2, i3⟩ := fsS_ok cs _ _ s (fun c' hc' => hg c' (List.mem_cons_of_mem _ hc')) h hs
          have es := i1 (by omega)
          have fresh : ∀ c', c' ∈ cs → ∀ g', odA (R.2.2.2.2.2.1 c') m 0 = some g' → ¬ bt1 k (R.2.2.2.2.2.2 g').2.1 ∧ (R.2.2.2.2.2.2 g').2.1 ≠ (R.2.2.2.2.2.2 g).2.1 := fun c' hc' g' ho' => by
            obtain ⟨g2, e2, k0, -, -, nb⟩ := i2 c' hc'
            rw [ho'] at e2
            cases e2
            obtain ⟨v, hv, hv8⟩ : ∃ v : Nat, (R.2.2.2.2.2.2 g').2.1 = (v : Int) ∧ v < 3 := ⟨(R.2.2.2.2.2.2 g').2.1.toNat, by have := (hg c' (List.mem_cons_of_mem _ hc') g' ho').2 k0; omega, by have := (hg c' (List.mem_cons_of_mem _ hc') g' ho').2 k0; omega⟩
            rw [hv, hu] at nb
            have nb : ¬ bI (zor k (zshl 1 (u : Int))) v = true := fun q => nb ((bt_bI (by omega)).mpr q)
            rw [bI_or, bI_one (by omega) (by omega), Bool.or_eq_true, decide_eq_true_eq] at nb
            refine ⟨fun q => nb (Or.inl ((bt_bI (by omega)).mp (by rw [hv] at q; exact q))), fun q => nb (Or.inr (by omega))⟩
          refine ⟨fun hf => ?_, fun c' hc' => ?_, fun a b ha hb ga gb ea eb e => ?_⟩
          · rw [es]
            exact Classical.byContradiction fun q => c2 (Or.inl ⟨hf, fun q2 => q q2.symm⟩)
          · rcases List.mem_cons.mp hc' with e | e
            · rw [e]
              exact ⟨g, ho, c1.1, by rw [es]; exact c1.2, es.symm, fun q => c2 (Or.inr q)⟩
            · obtain ⟨g', o', k0, k1, k2, -⟩ := i2 c' e
              exact ⟨g', o', k0, k1, k2, (fresh c' e g' o').1⟩
          · rcases List.mem_cons.mp ha with e1 | e1 <;> rcases List.mem_cons.mp hb with e2 | e2
            · rw [e1, e2]
            · rw [e1, ho] at ea
              cases ea
              exact absurd e.symm (fresh b e2 gb eb).2
            · rw [e2, ho] at eb
              cases eb
              exact absurd e (fresh a e1 ga ea).2
            · exact i3 a b e1 e2 ga gb ea eb e
      · rw [if_neg c1] at h; exact absurd h.symm hs
/-- a place of an order that cannot fail -/
theorem nf_ok (hF : pF R) {g : Nat} {kn : Int} {S : Nat → Prop} {e : mmO} (ho : gOk (R.2.2.2.2.2.2 g)) (hok : gOkC (pgC R) (gL (R.2.2.2.2.2.2 g))) (e1 : e.1 = gL (R.2.2.2.2.2.2 g)) (e2 : e.2.1 = (chM R (R.2.2.2.2.2.2 g) kn).map (fun x => (R.2.2.2.2.1 x).2.1.toNat)) (hS : ∀ x, x < 8 → (S x ↔ bI kn x = true)) (hc : cgF R (R.2.2.2.2.2.2 g) (chM R (R.2.2.2.2.2.2 g) kn) kn = false) : mmNf (pgC R) S e := by
  obtain ⟨o1, o2, o3, o4, o5⟩ := go_1 ho
  obtain ⟨v0, u0⟩ := go_v ho (k := 0) (by decide)
  obtain ⟨v1, u1⟩ := go_v ho (k := 1) (by decide)
  have v0 : zVa (R.2.2.2.2.2.2 g).2.2.2.2 0 = ((smv (gL (R.2.2.2.2.2.2 g)) 0 : Nat) : Int) := v0
  have v1 : zVa (R.2.2.2.2.2.2 g).2.2.2.2 1 = ((smv (gL (R.2.2.2.2.2.2 g)) 1 : Nat) : Int) := v1
  unfold cgF at hc
  unfold mmNf
  rw [e1]
  by_cases k0 : (R.2.2.2.2.2.2 g).1 = 0
  · rw [if_pos k0, decide_eq_false_iff_not, v0] at hc
    exact Or.inl ⟨by omega, fun h => hc ((bt_bI u0).mpr ((hS _ u0).mp h))⟩
  rw [if_neg k0] at hc
  by_cases k1 : (R.2.2.2.2.2.2 g).1 = 1
  · rw [if_pos k1, decide_eq_false_iff_not, v0, v1] at hc
    exact Or.inr (Or.inl ⟨by omega, fun h => hc ⟨(bt_bI u0).mpr ((hS _ u0).mp h.1), (bt_bI u1).mpr ((hS _ u1).mp h.2)⟩⟩)
  rw [if_neg k1] at hc
  by_cases k2 : (R.2.2.2.2.2.2 g).1 = 2
  · rw [if_pos k2] at hc
    refine Or.inr (Or.inr ⟨by omega, fun m' hm' => ?_⟩)
    rw [e2] at hm'
    cases hx : chM R (R.2.2.2.2.2.2 g) kn with
    | none => rw [hx] at hm'; cases hm'
    | some x =>
      rw [hx] at hm' hc
      have hm' : (R.2.2.2.2.1 x).2.1.toNat = m' := Option.some.inj hm'
      have hc : decide (moF1 (R.2.2.2.2.1 x) ≠ 0 ∨ clG (R.2.2.2.2.2.2 g).2.2.2.2 (fun q => decide (isIn (R.2.2.2.2.1 x).2.2.1 (q : Int))) ((R.2.2.2.2.2.2 g).2.2.1 - 0).toNat 0 kn = true) = false := hc
      rw [decide_eq_false_iff_not] at hc
      obtain ⟨-, yy, m2, hpy, hmo, hnum, -⟩ := chM_ok hF ho hx
      have em : m2 = m' := by omega
      subst em
      refine ⟨?_, fun k hk hin => ?_⟩
      · show (match pgMo R (gL (R.2.2.2.2.2.2 g)).2.1 m2 with | none => false | some md => decide ((R.2.2.2.2.1 md).2.2.2.2.2.2.1 ≠ 0)) = false
        rw [hmo]
        exact decide_eq_false (fun q => hc (Or.inl q))
      · have hcl : clG (R.2.2.2.2.2.2 g).2.2.2.2 (fun q => decide (isIn (R.2.2.2.2.1 x).2.2.1 (q : Int))) ((R.2.2.2.2.2.2 g).2.2.1 - 0).toNat 0 kn = false := by
          cases hq : clG (R.2.2.2.2.2.2 g).2.2.2.2 (fun q => decide (isIn (R.2.2.2.2.1 x).2.2.1 (q : Int))) ((R.2.2.2.2.2.2 g).2.2.1 - 0).toNat 0 kn with
          | false => rfl
          | true => exact absurd (Or.inr hq) hc
        have hnin : ∀ j, j < (gL (R.2.2.2.2.2.2 g)).2.2.1 → (pgC R).2.1.1 (gL (R.2.2.2.2.2.2 g)).2.1 m2 j = false → decide (isIn (R.2.2.2.2.1 x).2.2.1 ((0 + j : Nat) : Int)) = false := fun j hj hf => by
          rw [decide_eq_false_iff_not, Nat.zero_add]
          intro hi
          have : (pgC R).2.1.1 (gL (R.2.2.2.2.2.2 g)).2.1 m2 j = true := (pC_inp hF hpy hmo).mpr ⟨by omega, (bt_bI (by omega)).mp hi.2.2⟩
          rw [hf] at this
          cases this
        obtain ⟨q1, q2⟩ := clG_ok ho.2.2.2.2 _ 0 kn hcl k (by omega) (hnin k hk hin)
        obtain ⟨w1, w2⟩ := go_v ho (k := k) (by omega)
        rw [Nat.zero_add] at q1 q2
        rw [w1] at q1 q2
        refine ⟨fun h => q1 ((bt_bI w2).mpr ((hS _ w2).mp h)), fun k' hk' hin' => ?_⟩
        have q3 := q2 k' hk' (hnin k' (by omega) hin')
        obtain ⟨w3, w4⟩ := go_v ho (k := k') (by omega)
        rw [Nat.zero_add, w3] at q3
        omega
  · rw [if_neg k2] at hc
    cases hc
end AFA
