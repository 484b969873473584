/-! Own rows: the compiler keeps what the machine's proof wants. By hand; nothing of the bytecode. -/
theorem range_getD {T U : Type} {f : T → U} {d : T} (L : List T) : (List.range L.length).map (fun j => f (L.getD j d)) = L.map f := by
  apply List.ext_getElem?
  intro i
  rw [List.getElem?_map, List.getElem?_map]
  by_cases c : i < L.length
  · rw [List.getElem?_range c, List.getElem?_eq_getElem c]
    show some (f (L.getD i d)) = some (f L[i])
    rw [List.getD_eq_getElem?_getD, List.getElem?_eq_getElem c]
    rfl
  · rw [List.getElem?_eq_none (by rw [List.length_range]; omega), List.getElem?_eq_none (by omega)]
    rfl
section AALL
variable {R : pgR}
/-- a good mode, unpacked -/
theorem gd_un (hF : pF R) (hOK : ∀ p m md, pgMo R p m = some md → moG (R.2.2.2.2.1 md) ≠ 0 → moOK C3 R md) {p m md : Nat} (hm : pgMo R p m = some md) (hg : moG (R.2.2.2.2.1 md) ≠ 0) :
    ∃ y, pgP R p = some y ∧ (R.2.2.2.2.1 md).1 = y ∧ (R.2.2.2.2.1 md).2.1 = (m : Int) ∧ m < 2 ∧ (∀ a, a ∈ (R.2.2.2.1 y).2.2.2.2 → ordWh R m (R.2.2.2.2.1 md).2.2.1 (R.2.2.2.1 y).2.1.length a ∧ cbC R (m : Int) a = false) ∧
      (R.2.2.2.2.1 md).2.2.2.2.2.2.2.2 = fsS R (R.2.2.2.2.1 md).2.2.1 (m : Int) (R.2.2.2.1 y).2.2.2.2 (-1) 0 ∧
      (moF1 (R.2.2.2.2.1 md) = 0 → cmfI R C3 y (R.2.2.2.2.1 md).2.2.2.2.2.2.2.2 (m : Int) = 0) ∧ (moF2 (R.2.2.2.2.1 md) = 0 → cmrI R y (R.2.2.2.2.1 md).2.2.2.2.2.2.2.2 (m : Int) = 0) := by
  obtain ⟨k1, k2, k3, k4, k5⟩ := hOK p m md hm hg
  cases hp : pgP R p with
  | none => unfold pgMo at hm; rw [hp] at hm; cases hm
  | some y =>
    have hmm : (R.2.2.2.1 y).2.2.1.2[m]? = some md := by
      unfold pgMo at hm
      rw [hp] at hm
      exact hm
    obtain ⟨f1, f2, f3, f4, f5⟩ := hF.2.1 p y hp m md hmm
    have hmt : (R.2.2.2.2.1 md).2.1.toNat = m := by omega
    rw [f2, f3] at k2 k4 k5
    rw [f2, hmt] at k1
    refine ⟨y, rfl, f2, f3, f4, fun a ha => ⟨k1 a ha, ?_⟩, k2, k4, k5⟩
    unfold badM at k3
    rw [f2, f3, List.any_eq_false] at k3
    have := k3 a ha
    simpa using this
theorem pC_fa (hF : pF R) (hOK : ∀ p m md, pgMo R p m = some md → moG (R.2.2.2.2.1 md) ≠ 0 → moOK C3 R md) : mmFa (pgC R) (gdR R) := by
  refine ⟨fun p => ?_, fun p m k h => ?_, fun pm hgd => ?_⟩
  · cases hp : pgP R p with
    | none =>
      have e : (pgC R).1.1.1 p = [] := by
        show (match pgP R p with | none => [] | some y => (R.2.2.2.1 y).2.2.2.2.map (fun a => (R.2.2.2.2.2.1 a).1.1.toNat)) = _
        rw [hp]
      rw [e]
      exact ⟨List.nodup_nil, Nat.zero_le _⟩
    | some y =>
      rw [pC_p hp, List.length_map]
      obtain ⟨q1, q2, q3⟩ := hF.2.2.1 p y hp
      refine ⟨nd_map q1 (fun a b ha hb e => ?_), q2⟩
      obtain ⟨ca, hca⟩ := q3 a ha
      obtain ⟨cb, hcb⟩ := q3 b hb
      have e1 := (hF.2.2.2 ca a hca).1
      have e2 := (hF.2.2.2 cb b hcb).1
      have : ca = cb := by omega
      rw [this, hcb] at hca
      exact (Option.some.inj hca).symm
  · cases hm : pgMo R p m with
    | none =>
      have e : (pgC R).2.1.1 p m k = false := by
        show (match pgMo R p m with | none => false | some md => decide (k < 3 ∧ zand (zshr (R.2.2.2.2.1 md).2.2.1 (k : Int)) 1 = 1)) = false
        rw [hm]
      rw [e] at h
      cases h
    | some md =>
      cases hp : pgP R p with
      | none => unfold pgMo at hm; rw [hp] at hm; cases hm
      | some y =>
        have hmm : (R.2.2.2.1 y).2.2.1.2[m]? = some md := by
          unfold pgMo at hm
          rw [hp] at hm
          exact hm
        rw [pC_inp hF hp hm] at h
        rw [pC_ar hp]
        exact (hF.2.1 p y hp m md hmm).2.2.2.2 k h.1 h.2
  · obtain ⟨p, m⟩ := pm
    obtain ⟨md, hm, hg⟩ := hgd
    have hm : pgMo R p m = some md := hm
    obtain ⟨y, hp, g1, g2, hm2, gcl, gsw, gf, gr⟩ := gd_un hF hOK hm hg
    obtain ⟨ins, hins⟩ : ∃ ins, ins = (R.2.2.2.2.1 md).2.2.1 := ⟨_, rfl⟩
    obtain ⟨sw, hsw⟩ : ∃ sw, sw = (R.2.2.2.2.1 md).2.2.2.2.2.2.2.2 := ⟨_, rfl⟩
    have har := pC_ar hp
    have ha3 := (hF.1 p y hp).2.2.1
    -- a clause
    have pk : ∀ c, c ∈ (pgC R).1.1.1 p → ∃ a, a ∈ (R.2.2.2.1 y).2.2.2.2 ∧ pgCl R c = some a := fun c hc => by
      obtain ⟨y', a, q1, q2, q3⟩ := pC_mem hF hc
      rw [hp] at q1
      cases q1
      exact ⟨a, q2, q3⟩
    have clsw : (pgC R).2.2.1 p m = if sw = -1 then none else some sw.toNat := by
      show (match pgMo R p m with | none => none | some md => if (R.2.2.2.2.1 md).2.2.2.2.2.2.2.2 = -1 then none else some (R.2.2.2.2.1 md).2.2.2.2.2.2.2.2.toNat) = _
      rw [hm, hsw]
    have hgs : ∀ a, a ∈ (R.2.2.2.1 y).2.2.2.2 → ∀ g, odA (R.2.2.2.2.2.1 a) (m : Int) 0 = some g → gOk (R.2.2.2.2.2.2 g) ∧ gOkC (pgC R) (gL (R.2.2.2.2.2.2 g)) ∧ ∃ c e os, pgCl R c = some a ∧ (pgC R).2.1.2 m c = e :: os ∧ e.1 = gL (R.2.2.2.2.2.2 g) := fun a ha g hod => by
      obtain ⟨c, hc⟩ := (hF.2.2.1 p y hp).2.2 a ha
      obtain ⟨h1, L, h2, h3, h4, h5, h6⟩ := (gcl a ha).1
      have hne : 0 < L.length := Classical.byContradiction fun q => by
        have hn : csl (R.2.2.2.2.2.1 a).2.2.2.2.1.1 (m : Int) 0 = -1 := by
          unfold csl
          rw [if_neg]
          intro k
          rw [Int.toNat_natCast, h1] at k
          omega
        unfold odA at hod
        rw [hn, if_neg (by decide)] at hod
        cases hod
      cases ho : (pgC R).2.1.2 m c with
      | nil =>
        exfalso
        rw [pC_or hc, or_at (ar := 0) h1 h2 h6] at ho
        have := congrArg List.length ho
        rw [List.length_map, List.length_range] at this
        have e0 : ([] : List mmO).length = 0 := rfl
        omega
      | cons e os =>
        obtain ⟨i, g', i1, i2, i3, i4, i5, i6, i7, i8, -⟩ := or_pl hF hp hm hm2 hc h1 h2 h4 h6 (j := 0) (e := e) (by rw [ho]; rfl)
        have i8 : odA (R.2.2.2.2.2.1 a) (m : Int) 0 = some g' := i8
        rw [hod] at i8
        cases i8
        exact ⟨i4, i5, c, e, os, hc, ho, i6⟩
    have hfs := fsS_ok (R := R) (ins := ins) (m := (m : Int)) (R.2.2.2.1 y).2.2.2.2 (-1) 0 sw (fun a ha g hod => by
      obtain ⟨k1, k2, -⟩ := hgs a ha g hod
      obtain ⟨o1, o2, o3, o4, o5⟩ := go_1 k1
      refine ⟨(k1.2.2.2.2 0).1, fun k0 => ?_⟩
      have := (k2.2.2.1 (by omega)).1
      have := o5 (by omega)
      omega) (by rw [hsw, hins]; exact gsw.symm)
    -- what is so where there is a switch
    have sws : ∀ s, (pgC R).2.2.1 p m = some s → sw ≠ -1 ∧ sw = (s : Int) ∧ isIn ins sw := fun s hs => by
      rw [clsw] at hs
      by_cases c : sw = -1
      · rw [if_pos c] at hs; cases hs
      · rw [if_neg c] at hs
        obtain ⟨-, f2, -⟩ := hfs c
        have hin : isIn ins sw := by
          cases hcl : (R.2.2.2.1 y).2.2.2.2 with
          | nil =>
            rw [hcl] at gsw
            exact absurd (hsw.trans gsw) c
          | cons a as =>
            obtain ⟨g, -, -, k, -⟩ := f2 a (by rw [hcl]; exact List.mem_cons_self)
            exact k
        have hs := Option.some.inj hs
        exact ⟨c, by have := hin.1; omega, hin⟩
    have hd0 : ∀ s, (pgC R).2.2.1 p m = some s → ∀ c, c ∈ (pgC R).1.1.1 p → ∃ a g e os, a ∈ (R.2.2.2.1 y).2.2.2.2 ∧ pgCl R c = some a ∧ odA (R.2.2.2.2.2.1 a) (m : Int) 0 = some g ∧ (pgC R).2.1.2 m c = e :: os ∧ e.1 = gL (R.2.2.2.2.2.2 g) ∧ e.1.1 = 0 ∧ smv e.1 0 = s ∧ gOk (R.2.2.2.2.2.2 g) ∧ gOkC (pgC R) (gL (R.2.2.2.2.2.2 g)) := fun s hs c hc => by
      obtain ⟨s1, s2, s3⟩ := sws s hs
      obtain ⟨a, ha, hca⟩ := pk c hc
      obtain ⟨g, hod, k0, -, k2, -⟩ := (hfs s1).2.1 a ha
      obtain ⟨q1, q2, c', e, os, q3, q4, q5⟩ := hgs a ha g hod
      have ec : c' = c := by
        have e1 := (hF.2.2.2 c' a q3).1
        have e2 := (hF.2.2.2 c a hca).1
        omega
      subst ec
      obtain ⟨o1, o2, -⟩ := go_1 q1
      refine ⟨a, g, e, os, ha, hca, hod, q4, q5, by rw [q5]; omega, ?_, q1, q2⟩
      rw [q5]
      have v0 : zVa (R.2.2.2.2.2.2 g).2.2.2.2 0 = ((smv (gL (R.2.2.2.2.2.2 g)) 0 : Nat) : Int) := (go_v q1 (k := 0) (by decide)).1
      omega
    -- places that cannot fail
    have nf : ∀ a c, a ∈ (R.2.2.2.1 y).2.2.2.2 → pgCl R c = some a → cfC R sw (m : Int) a = false → ∀ i e, (i ≠ 0 ∨ sw = -1) → ((pgC R).2.1.2 m c)[i]? = some e → mmNf (pgC R) (mmKn (pgC R) (p, m) (((pgC R).2.1.2 m c).take i)) e := fun a c ha hc hcf i e hi he => by
      obtain ⟨h1, L, h2, h3, h4, h5, h6⟩ := (gcl a ha).1
      obtain ⟨j, g, i1, i2, i3, i4, i5, i6, i7, i8, i9, i10, i11, i12, i13⟩ := or_pl hF hp hm hm2 hc h1 h2 h4 h6 he
      unfold cfC at hcf
      rw [i13, Int.toNat_natCast] at hcf
      have q := cfP_ok L.length 0 hcf i i12
      rw [Nat.zero_add, cfE_g i8 (fun k => hi.elim (fun k2 => k2 k.1) (fun k2 => k.2 k2)), i9, i10] at q
      exact nf_ok hF i4 i5 i6 i7 (fun x hx => or_kn hF hp hm hc h1 h2 h4 h6 (by omega) hx) q
    refine ⟨fun c hc => ?_, fun s hs => ?_, fun hr => ?_, fun hf => ?_⟩
    · -- the orders
      obtain ⟨a, ha, hca⟩ := pk c hc
      obtain ⟨⟨h1, L, h2, h3, h4, h5, h6⟩, hcb⟩ := gcl a ha
      refine ⟨?_, fun i e he => or_go hF hp hm hm2 hca hcb h1 h2 h4 h6 he, fun k hk => ?_⟩
      · show (((pgC R).2.1.2 m c).map (fun e => e.1)).Perm ((pgC R).1.1.2 c)
        rw [pC_or hca, or_at (ar := 0) h1 h2 h6, List.map_map, pC_cl hca]
        have e1 : (List.range L.length).map ((fun e : mmO => e.1) ∘ fun j => (gL (R.2.2.2.2.2.2 ((R.2.2.2.2.2.1 a).2.2.2.1.2.getD (L.getD j 0) 0)), (chM R (R.2.2.2.2.2.2 ((R.2.2.2.2.2.1 a).2.2.2.1.2.getD (L.getD j 0) 0)) (knS R (R.2.2.2.2.2.1 a).2.2.2.1.2 (R.2.2.2.2.1 md).2.2.1 (L.take j))).map (fun x => (R.2.2.2.2.1 x).2.1.toNat), 0)) = L.map (fun i => gL (R.2.2.2.2.2.2 ((R.2.2.2.2.2.1 a).2.2.2.1.2.getD i 0))) := range_getD (d := 0) (f := fun i => gL (R.2.2.2.2.2.2 ((R.2.2.2.2.2.1 a).2.2.2.1.2.getD i 0))) L
        rw [e1]
        have e2 := (nd_perm h3 h4 h2).map (fun i => gL (R.2.2.2.2.2.2 ((R.2.2.2.2.2.1 a).2.2.2.1.2.getD i 0)))
        have e3 : (List.range (R.2.2.2.2.2.1 a).2.2.2.1.2.length).map (fun i => gL (R.2.2.2.2.2.2 ((R.2.2.2.2.2.1 a).2.2.2.1.2.getD i 0))) = (R.2.2.2.2.2.1 a).2.2.2.1.2.map (fun g => gL (R.2.2.2.2.2.2 g)) := range_getD (d := 0) (f := fun g => gL (R.2.2.2.2.2.2 g)) (R.2.2.2.2.2.1 a).2.2.2.1.2
        rw [e3] at e2
        exact e2
      · have hk : k < (pgC R).1.2 p := hk
        rw [har] at hk
        have q := (or_kn hF hp hm hca h1 h2 h4 h6 (i := L.length) (Nat.le_refl _) (x := k) (by omega)).mpr (by rw [List.take_length]; exact h5 k hk)
        have e1 : ((pgC R).2.1.2 m c).take L.length = (pgC R).2.1.2 m c := by
          refine List.take_of_length_le ?_
          rw [pC_or hca, or_at (ar := 0) h1 h2 h6, List.length_map, List.length_range]
          exact Nat.le_refl _
        rw [e1] at q
        exact q
    · -- the switch
      obtain ⟨s1, s2, s3⟩ := sws s hs
      refine ⟨(pC_inp hF hp hm).mpr ⟨by have := s3.2.1; omega, ?_⟩, fun c hc => ?_, fun c c' hc hc' e e' he he' hee => ?_⟩
      · rw [← hins]
        have k := s3.2.2
        rw [s2] at k
        exact (bt_bI (by have := s3.2.1; omega)).mp k
      · obtain ⟨a, g, e, os, -, -, -, q1, -, q2, q3, -⟩ := hd0 s hs c hc
        exact ⟨e, os, q1, q2, q3⟩
      · obtain ⟨a, g, e1, os, ha, hca, hod, q1, q2, q3, q4, q5, q6⟩ := hd0 s hs c hc
        obtain ⟨a', g', e1', os', ha', hca', hod', q1', q2', q3', q4', q5', q6'⟩ := hd0 s hs c' hc'
        have he : ((pgC R).2.1.2 m c).head? = some e := he
        have he' : ((pgC R).2.1.2 m c').head? = some e' := he'
        rw [q1] at he
        rw [q1'] at he'
        have he := Option.some.inj he
        have he' := Option.some.inj he'
        rw [← he, ← he', q2, q2'] at hee
        have h1 := (go_1 q5).2.2.2.2 (by rw [q2] at q3; have := (go_1 q5).1; have := (go_1 q5).2.1; omega)
        have h2 := (go_1 q5').2.2.2.2 (by rw [q2'] at q3'; have := (go_1 q5').1; have := (go_1 q5').2.1; omega)
        have eaa := (hfs s1).2.2 a a' ha ha' g g' hod hod' (by rw [h1, h2, hee])
        rw [eaa] at hca
        have e1 := (hF.2.2.2 c a' hca).1
        have e2 := (hF.2.2.2 c' a' hca').1
        omega
    · -- it cannot repeat
      have hr : (match pgMo R p m with | none => false | some md => decide ((R.2.2.2.2.1 md).2.2.2.2.2.2.2.1 ≠ 0)) = false := hr
      rw [hm] at hr
      have hr : decide (moF2 (R.2.2.2.2.1 md) ≠ 0) = false := hr
      rw [decide_eq_false_iff_not] at hr
      have hr0 : moF2 (R.2.2.2.2.1 md) = 0 := Classical.byContradiction hr
      have k := gr hr0
      rw [← hsw] at k
      unfold cmrI at k
      have k : ¬ ((sw = -1 ∧ 1 < (R.2.2.2.1 y).2.2.2.2.length) ∨ (R.2.2.2.1 y).2.2.2.2.any (crC R (m : Int)) = true) := fun q => by rw [zB_t q] at k; cases k
      refine ⟨?_, fun c hc e he h2 m' hm' => ?_⟩
      · show (pgC R).2.2.1 p m ≠ none ∨ ((pgC R).1.1.1 p).length ≤ 1
        rw [clsw, pC_p hp, List.length_map]
        by_cases c : sw = -1
        · rw [if_pos c]
          exact Or.inr (Classical.byContradiction fun q => k (Or.inl ⟨c, by omega⟩))
        · rw [if_neg c]
          exact Or.inl (by simp)
      · obtain ⟨a, ha, hca⟩ := pk c hc
        obtain ⟨h1, L, h2', h3, h4, h5, h6⟩ := (gcl a ha).1
        obtain ⟨j, hj⟩ := List.getElem?_of_mem he
        obtain ⟨i, g, i1, i2, i3, i4, i5, i6, i7, i8, i9, i10, i11, i12, i13⟩ := or_pl hF hp hm hm2 hca h1 h2' h4 h6 hj
        have hcr : crC R (m : Int) a = false := by
          cases hq : crC R (m : Int) a with
          | false => rfl
          | true => exact absurd (Or.inr (List.any_eq_true.mpr ⟨a, ha, hq⟩)) k
        rw [i7] at hm'
        cases hx : chM R (R.2.2.2.2.2.2 g) (knS R (R.2.2.2.2.2.1 a).2.2.2.1.2 (R.2.2.2.2.1 md).2.2.1 (L.take j)) with
        | none => rw [hx] at hm'; cases hm'
        | some x =>
          rw [hx] at hm' i9
          have hm' : (R.2.2.2.2.1 x).2.1.toNat = m' := Option.some.inj hm'
          obtain ⟨-, yy, m2, hpy, hmo, hnum, -⟩ := chM_ok hF i4 hx
          have em : m2 = m' := by omega
          subst em
          rw [i6] at h2
          have hk2 : (R.2.2.2.2.2.2 g).1 = 2 := by
            have := (go_1 i4).1
            have := (go_1 i4).2.1
            omega
          unfold crC at hcr
          rw [i13, Int.toNat_natCast] at hcr
          have q0 := crP_ok L.length 0 hcr j i12 g x (by rw [Nat.zero_add]; exact i8) (by rw [Nat.zero_add]; exact i9) hk2
          rw [i6]
          show (match pgMo R (gL (R.2.2.2.2.2.2 g)).2.1 m2 with | none => false | some md => decide ((R.2.2.2.2.1 md).2.2.2.2.2.2.2.1 ≠ 0)) = false
          rw [hmo]
          exact decide_eq_false (fun q => q q0)
    · -- it cannot fail
      have hf : (match pgMo R p m with | none => false | some md => decide ((R.2.2.2.2.1 md).2.2.2.2.2.2.1 ≠ 0)) = false := hf
      rw [hm] at hf
      have hf : decide (moF1 (R.2.2.2.2.1 md) ≠ 0) = false := hf
      rw [decide_eq_false_iff_not] at hf
      have hf0 : moF1 (R.2.2.2.2.1 md) = 0 := Classical.byContradiction hf
      have k := gf hf0
      rw [← hsw] at k
      unfold cmfI at k
      refine ⟨fun hn => ?_, fun s hs => ?_⟩
      · have hn : (pgC R).2.2.1 p m = none := hn
        rw [clsw] at hn
        have hs1 : sw = -1 := Classical.byContradiction fun q => by rw [if_neg q] at hn; cases hn
        rw [if_neg (fun q => q hs1)] at k
        have k : ¬ ((R.2.2.2.1 y).2.2.2.2.filter (cfC R sw (m : Int))).length = (R.2.2.2.1 y).2.2.2.2.length := fun q => by rw [zB_t q] at k; cases k
        obtain ⟨a, ha, hcf⟩ : ∃ a, a ∈ (R.2.2.2.1 y).2.2.2.2 ∧ cfC R sw (m : Int) a = false := Classical.byContradiction fun q => k (by
          rw [List.filter_eq_self.mpr]
          intro a ha
          cases hq : cfC R sw (m : Int) a with
          | true => rfl
          | false => exact absurd ⟨a, ha, hq⟩ q)
        obtain ⟨c, hc⟩ := (hF.2.2.1 p y hp).2.2 a ha
        exact ⟨c, pC_in hF hp ha hc, fun i e he => nf a c ha hc hcf i e (Or.inr hs1) he⟩
      · obtain ⟨s1, s2, s3⟩ := sws s hs
        rw [if_pos s1] at k
        have k : ¬ (0 < ((R.2.2.2.1 y).2.2.2.2.filter (cfC R sw (m : Int))).length ∨ ¬ tcN C3 (tg (R.2.2.2.1 y).2.1 sw 0) C3.length = ((R.2.2.2.1 y).2.2.2.2.length : Int)) := fun q => by rw [zB_t q] at k; cases k
        have hcf : ∀ a, a ∈ (R.2.2.2.1 y).2.2.2.2 → cfC R sw (m : Int) a = false := fun a ha => by
          cases hq : cfC R sw (m : Int) a with
          | false => rfl
          | true =>
            refine absurd (Or.inl ?_) k
            exact List.length_pos_of_mem (List.mem_filter.mpr ⟨ha, hq⟩)
        have hlen : (R.2.2.2.1 y).2.2.2.2.length = 3 := by
          have q : tcN C3 (tg (R.2.2.2.1 y).2.1 sw 0) C3.length = ((R.2.2.2.1 y).2.2.2.2.length : Int) := Classical.byContradiction fun q => k (Or.inr q)
          have hsl : s < (R.2.2.2.1 y).2.1.length := by
            have q1 := (hF.2.1 p y hp m md (by unfold pgMo at hm; rw [hp] at hm; exact hm)).2.2.2.2 s (by have := s3.2.1; omega)
            refine q1 ?_
            rw [← hins]
            have k2 := s3.2.2
            rw [s2] at k2
            exact (bt_bI (by have := s3.2.1; omega)).mp k2
          rw [s2, (hF.1 p y hp).2.2.2 s hsl] at q
          have e3 : tcN C3 0 C3.length = 3 := by decide
          rw [e3] at q
          omega
        refine ⟨fun h hh => ?_, fun c hc => ⟨fun e he h1 => ?_, fun i e he => ?_⟩⟩
        · -- each constructor has its clause
          have hnd : (((pgC R).1.1.1 p).map (fun c => (((pgC R).2.1.2 m c).head?.map (fun e => e.1.2.1)).getD 0)).Nodup := by
            refine nd_map ?_ (fun c c' hc hc' e => ?_)
            · rw [pC_p hp]
              refine nd_map (hF.2.2.1 p y hp).1 (fun a b ha hb e => ?_)
              obtain ⟨ca, hca⟩ := (hF.2.2.1 p y hp).2.2 a ha
              obtain ⟨cb, hcb⟩ := (hF.2.2.1 p y hp).2.2 b hb
              have e1 := (hF.2.2.2 ca a hca).1
              have e2 := (hF.2.2.2 cb b hcb).1
              have : ca = cb := by omega
              rw [this, hcb] at hca
              exact (Option.some.inj hca).symm
            · obtain ⟨a, g, e1, os, ha, hca, hod, q1, q2, q3, q4, q5, q6⟩ := hd0 s hs c hc
              obtain ⟨a', g', e1', os', ha', hca', hod', q1', q2', q3', q4', q5', q6'⟩ := hd0 s hs c' hc'
              rw [q1, q1'] at e
              have e : e1.1.2.1 = e1'.1.2.1 := e
              rw [q2, q2'] at e
              have h1 := (go_1 q5).2.2.2.2 (by rw [q2] at q3; have := (go_1 q5).1; have := (go_1 q5).2.1; omega)
              have h2 := (go_1 q5').2.2.2.2 (by rw [q2'] at q3'; have := (go_1 q5').1; have := (go_1 q5').2.1; omega)
              have eaa := (hfs s1).2.2 a a' ha ha' g g' hod hod' (by rw [h1, h2, e])
              rw [eaa] at hca
              have e1 := (hF.2.2.2 c a' hca).1
              have e2 := (hF.2.2.2 c' a' hca').1
              omega
          have hin := nd_full (n := 3) hnd (fun z hz => by
            obtain ⟨c, hc, e⟩ := List.mem_map.mp hz
            obtain ⟨a, g, e1, os, ha, hca, hod, q1, q2, q3, q4, q5, q6⟩ := hd0 s hs c hc
            rw [q1] at e
            have e : e1.1.2.1 = z := e
            rw [← e, q2]
            exact (q6.2.2.1 (by rw [q2] at q3; exact q3)).1) (by rw [List.length_map, pC_p hp, List.length_map]; exact hlen) h hh
          obtain ⟨c, hc, e⟩ := List.mem_map.mp hin
          obtain ⟨a, g, e1, os, ha, hca, hod, q1, q2, q3, q4, q5, q6⟩ := hd0 s hs c hc
          refine ⟨c, hc, e1, by rw [q1]; rfl, ?_⟩
          rw [q1] at e
          exact e
        · -- the part has no value yet
          obtain ⟨a, g, e1, os, ha, hca, hod, q1, q2, q3, q4, q5, q6⟩ := hd0 s hs c hc
          have he : ((pgC R).2.1.2 m c).head? = some e := he
          rw [q1] at he
          have he := Option.some.inj he
          subst he
          obtain ⟨h1', L, h2, h3, h4, h5, h6⟩ := (gcl a ha).1
          obtain ⟨i, g', i1, i2, i3, i4, i5, i6, i7, i8, i9, i10, i11, i12, i13⟩ := or_pl hF hp hm hm2 hca h1' h2 h4 h6 (j := 0) (e := e1) (by rw [q1]; rfl)
          have i8 : odA (R.2.2.2.2.2.1 a) (m : Int) 0 = some g' := i8
          rw [hod] at i8
          cases i8
          have hc0 := hcf a ha
          unfold cfC at hc0
          rw [i13, Int.toNat_natCast] at hc0
          have qe := cfP_ok L.length 0 hc0 0 i12
          rw [Nat.zero_add, cfE_w hod ⟨rfl, s1⟩, i10] at qe
          have hcn : (gL (R.2.2.2.2.2.2 g)).2.2.1 = 2 := by
            rw [q2] at q3 h1
            rw [(q6.2.2.1 q3).2, if_pos h1]
          have hn1 : ((R.2.2.2.2.2.2 g).2.2.1 - 1).toNat = 1 := by
            have := (go_1 q5).2.2.1
            omega
          rw [hn1] at qe
          have qf := (clG_ok q5.2.2.2.2 1 1 _ qe 0 (by decide) rfl).1
          obtain ⟨v1, u1⟩ := go_v q5 (k := 1) (by decide)
          intro hkn
          have kk := (or_kn hF hp hm hca h1' h2 h4 h6 (i := 0) (Nat.zero_le _) (x := smv (gL (R.2.2.2.2.2.2 g)) 1) u1).mp (by rw [q2] at hkn; exact hkn)
          refine qf ?_
          rw [Nat.add_zero, v1]
          exact (bt_bI u1).mpr kk
        · obtain ⟨a, ha, hca⟩ := pk c hc
          exact nf a c ha hca (hcf a ha) (i + 1) e (Or.inl (by omega)) he
end AALL
