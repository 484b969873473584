/-! Own rows: each goal of a whole order has what it needs. By hand; nothing of the bytecode. -/
theorem aiK_ok {xs : List Int} {ins kn : Int} : ∀ (n q : Nat), aiK xs ins kn n q = true → ∀ j, j < n → isIn ins ((q + j : Nat) : Int) → ¬ zand (zshr kn (zVa xs ((q + j : Nat) : Int))) 1 = 0
  | 0, _, _, j, hj, _ => absurd hj (Nat.not_lt_zero _)
  | n + 1, q, h, j, hj, hi => by
    rw [aiK_s, Bool.and_eq_true] at h
    cases j with
    | zero =>
      intro k
      rw [Nat.add_zero] at hi k
      have h1 := h.1
      rw [decide_eq_true hi, decide_eq_true k] at h1
      cases h1
    | succ j =>
      have q9 := aiK_ok n (q + 1) h.2 j (by omega)
      rw [show q + 1 + j = q + (j + 1) by omega] at q9
      exact q9 hi
theorem cbP_ok {R : pgR} {r : clR} {m : Int} : ∀ (n q : Nat), cbP R r m n q = false → ∀ j, j < n → ∀ x, chA r m ((q + j : Nat) : Int) = some x → moG (R.2.2.2.2.1 x) ≠ 0
  | 0, _, _, j, hj, _, _ => absurd hj (Nat.not_lt_zero _)
  | n + 1, q, h, j, hj, x, hx => by
    cases j with
    | zero =>
      rw [Nat.add_zero] at hx
      rw [cbP_s hx, Bool.or_eq_false_iff, decide_eq_false_iff_not] at h
      exact h.1
    | succ j =>
      have h2 : cbP R r m n (q + 1) = false := by
        cases hc : chA r m (q : Int) with
        | none => rw [cbP_n hc] at h; exact h
        | some z => rw [cbP_s hc, Bool.or_eq_false_iff] at h; exact h.2
      exact cbP_ok n (q + 1) h2 j (by omega) x (by rw [show q + 1 + j = q + (j + 1) by omega]; exact hx)
theorem csl_in {LE : List Int} {m j n : Nat} (hm : m < 2) (hl : LE.getD m 0 = (n : Int)) (hn : n ≤ 5) (hj : j < n) : csl LE (m : Int) (j : Int) = ((m * 5 + j : Nat) : Int) := by
  unfold csl
  rw [Int.toNat_natCast, hl, if_pos ⟨by omega, by omega, by omega, by omega, by omega⟩]
  omega
section AGO
variable {R : pgR}
theorem odA_in {a m j i n : Nat} {kn : Int} (hm : m < 2) (h1 : (R.2.2.2.2.2.1 a).2.2.2.2.1.1.getD m 0 = (n : Int)) (hn : n ≤ 5) (hj : j < n) (h6 : plA R (R.2.2.2.2.2.1 a).2.2.2.1.2 (R.2.2.2.2.2.1 a) (m * 5 + j) i kn) :
    odA (R.2.2.2.2.2.1 a) (m : Int) (j : Int) = some ((R.2.2.2.2.2.1 a).2.2.2.1.2.getD i 0) ∧ chA (R.2.2.2.2.2.1 a) (m : Int) (j : Int) = chM R (R.2.2.2.2.2.2 ((R.2.2.2.2.2.1 a).2.2.2.1.2.getD i 0)) kn ∧ knA (R.2.2.2.2.2.1 a) (m : Int) (j : Int) = kn ∧ cln (R.2.2.2.2.2.1 a).2.2.2.2.1.1 (m : Int) = (n : Int) := by
  have e := csl_in hm h1 hn hj
  have e4 : cln (R.2.2.2.2.2.1 a).2.2.2.2.1.1 (m : Int) = (n : Int) := by
    unfold cln
    rw [if_pos (by omega), Int.toNat_natCast]
    exact h1
  obtain ⟨p1, p2, p3, -⟩ := h6
  unfold odA chA knA
  rw [e, if_pos (by omega), if_pos (by omega), if_pos (by omega), Int.toNat_natCast]
  exact ⟨p1, p2, p3, e4⟩
/-- a mode that was chosen -/
theorem chM_ok (hF : pF R) {g : goR} {kn : Int} {x : Nat} (ho : gOk g) (h : chM R g kn = some x) : (g.1 = 2 ∨ g.1 = 3) ∧ ∃ y m', pgP R (gL g).2.1 = some y ∧ pgMo R (gL g).2.1 m' = some x ∧ (R.2.2.2.2.1 x).2.1 = (m' : Int) ∧ ∀ k, k < (gL g).2.2.1 → isIn (R.2.2.2.2.1 x).2.2.1 (k : Int) → bI kn (smv (gL g) k) = true := by
  obtain ⟨o1, o2, o3, o4, o5⟩ := go_1 ho
  unfold chM at h
  by_cases c : g.1 = 2 ∨ g.1 = 3
  · rw [if_pos c] at h
    have hs := o5 (by omega)
    refine ⟨c, ?_⟩
    cases hy : lAt R.2.2.1.1 g.2.1 with
    | none => rw [hy] at h; cases h
    | some y =>
      rw [hy] at h
      have h : (R.2.2.2.1 y).2.2.1.2.find? (fun m => aiK g.2.2.2.2 (R.2.2.2.2.1 m).2.2.1 kn g.2.2.1.toNat 0) = some x := h
      have hp : pgP R (gL g).2.1 = some y := by
        rw [hs] at hy
        unfold lAt at hy
        rw [if_pos (by omega), Int.toNat_natCast] at hy
        exact hy
      have hk := List.find?_some h
      obtain ⟨m', hm'⟩ := List.getElem?_of_mem (List.mem_of_find?_eq_some h)
      obtain ⟨f1, f2, f3, f4, f5⟩ := hF.2.1 _ y hp m' x hm'
      refine ⟨y, m', hp, ?_, f3, fun k hk2 hin => ?_⟩
      · unfold pgMo
        rw [hp]
        exact hm'
      · have hcnt : g.2.2.1.toNat = (gL g).2.2.1 := rfl
        rw [hcnt] at hk
        have q := aiK_ok _ 0 hk k hk2 (by rw [Nat.zero_add]; exact hin)
        rw [Nat.zero_add] at q
        obtain ⟨v1, v2⟩ := go_v ho (k := k) (by omega)
        rw [v1] at q
        rw [bt_bI0 v2] at q
        simpa using q
  · rw [if_neg c] at h
    cases h
theorem or_kn (hF : pF R) {p m md y c a : Nat} (hp : pgP R p = some y) (hm : pgMo R p m = some md) (hc : pgCl R c = some a) {L : List Nat} (h1 : (R.2.2.2.2.2.1 a).2.2.2.2.1.1.getD m 0 = ((R.2.2.2.2.2.1 a).2.2.2.1.2.length : Int)) (h2 : L.length = (R.2.2.2.2.2.1 a).2.2.2.1.2.length) (h4 : ∀ i, i ∈ L → i < (R.2.2.2.2.2.1 a).2.2.2.1.2.length) (h6 : ∀ j i, L[j]? = some i → plA R (R.2.2.2.2.2.1 a).2.2.2.1.2 (R.2.2.2.2.2.1 a) (m * 5 + j) i (knS R (R.2.2.2.2.2.1 a).2.2.2.1.2 (R.2.2.2.2.1 md).2.2.1 (L.take j))) {i x : Nat} (hi : i ≤ L.length) (hx : x < 8) :
    mmKn (pgC R) (p, m) (((pgC R).2.1.2 m c).take i) x ↔ bI (knS R (R.2.2.2.2.2.1 a).2.2.2.1.2 (R.2.2.2.2.1 md).2.2.1 (L.take i)) x = true := by
  rw [pC_or hc, or_at (ar := 0) h1 h2 h6, kn_iff hF hc (L.take i) _ x hx (fun j hj => h4 j (List.mem_of_mem_take hj))]
  unfold mmKn
  have hin : (pgC R).2.1.1 p m x = true ↔ bI (R.2.2.2.2.1 md).2.2.1 x = true := by
    rw [pC_inp hF hp hm]
    exact ⟨fun h => h.2, fun h => ⟨by omega, h⟩⟩
  show (pgC R).2.1.1 p m x = true ∨ _ ↔ _
  rw [hin]
  constructor
  · rintro (h | ⟨e, he, k, k1, k2⟩)
    · exact Or.inl h
    · obtain ⟨j, hj⟩ := List.getElem?_of_mem he
      have hji : j < i := Classical.byContradiction fun q => by
        rw [List.getElem?_eq_none (by rw [List.length_take]; omega)] at hj
        cases hj
      rw [List.getElem?_take_of_lt hji, List.getElem?_map, List.getElem?_range (by omega)] at hj
      have hj := Option.some.inj hj
      subst hj
      refine Or.inr ⟨L.getD j 0, ?_, k, k1, k2⟩
      refine List.mem_of_getElem? (i := j) ?_
      rw [List.getElem?_take_of_lt hji, List.getD_eq_getElem?_getD, List.getElem?_eq_getElem (by omega)]
      rfl
  · rintro (h | ⟨i0, hi0, k, k1, k2⟩)
    · exact Or.inl h
    · obtain ⟨j, hj⟩ := List.getElem?_of_mem hi0
      have hji : j < i := Classical.byContradiction fun q => by
        rw [List.getElem?_eq_none (by rw [List.length_take]; omega)] at hj
        cases hj
      rw [List.getElem?_take_of_lt hji] at hj
      have hgd : L.getD j 0 = i0 := getD_of hj
      refine Or.inr ⟨_, List.mem_of_getElem? (i := j) (by rw [List.getElem?_take_of_lt hji, List.getElem?_map, List.getElem?_range (by omega)]; rfl), k, ?_, ?_⟩
      · show k < (gL (R.2.2.2.2.2.2 ((R.2.2.2.2.2.1 a).2.2.2.1.2.getD (L.getD j 0) 0))).2.2.1
        rw [hgd]; exact k1
      · show smv (gL (R.2.2.2.2.2.2 ((R.2.2.2.2.2.1 a).2.2.2.1.2.getD (L.getD j 0) 0))) k = x
        rw [hgd]; exact k2
/-- the good modes -/
def gdR (R : pgR) (pm : Nat × Nat) : Prop := ∃ md, pgMo R pm.1 pm.2 = some md ∧ moG (R.2.2.2.2.1 md) ≠ 0
/-- what is so of a place of an order -/
theorem or_pl (hF : pF R) {p m md y c a : Nat} (hp : pgP R p = some y) (hm : pgMo R p m = some md) (hm2 : m < 2) (hc : pgCl R c = some a) {L : List Nat} (h1 : (R.2.2.2.2.2.1 a).2.2.2.2.1.1.getD m 0 = ((R.2.2.2.2.2.1 a).2.2.2.1.2.length : Int)) (h2 : L.length = (R.2.2.2.2.2.1 a).2.2.2.1.2.length) (h4 : ∀ i, i ∈ L → i < (R.2.2.2.2.2.1 a).2.2.2.1.2.length) (h6 : ∀ j i, L[j]? = some i → plA R (R.2.2.2.2.2.1 a).2.2.2.1.2 (R.2.2.2.2.2.1 a) (m * 5 + j) i (knS R (R.2.2.2.2.2.1 a).2.2.2.1.2 (R.2.2.2.2.1 md).2.2.1 (L.take j))) {j : Nat} {e : mmO} (he : ((pgC R).2.1.2 m c)[j]? = some e) :
    ∃ i g, L[j]? = some i ∧ g = (R.2.2.2.2.2.1 a).2.2.2.1.2.getD i 0 ∧ g ∈ (R.2.2.2.2.2.1 a).2.2.2.1.2 ∧ gOk (R.2.2.2.2.2.2 g) ∧ gOkC (pgC R) (gL (R.2.2.2.2.2.2 g)) ∧ e.1 = gL (R.2.2.2.2.2.2 g) ∧
      e.2.1 = (chM R (R.2.2.2.2.2.2 g) (knS R (R.2.2.2.2.2.1 a).2.2.2.1.2 (R.2.2.2.2.1 md).2.2.1 (L.take j))).map (fun x => (R.2.2.2.2.1 x).2.1.toNat) ∧
      odA (R.2.2.2.2.2.1 a) (m : Int) (j : Int) = some g ∧ chA (R.2.2.2.2.2.1 a) (m : Int) (j : Int) = chM R (R.2.2.2.2.2.2 g) (knS R (R.2.2.2.2.2.1 a).2.2.2.1.2 (R.2.2.2.2.1 md).2.2.1 (L.take j)) ∧ knA (R.2.2.2.2.2.1 a) (m : Int) (j : Int) = knS R (R.2.2.2.2.2.1 a).2.2.2.1.2 (R.2.2.2.2.1 md).2.2.1 (L.take j) ∧
      cbT (R.2.2.2.2.2.2 g) (chM R (R.2.2.2.2.2.2 g) (knS R (R.2.2.2.2.2.1 a).2.2.2.1.2 (R.2.2.2.2.1 md).2.2.1 (L.take j))) (knS R (R.2.2.2.2.2.1 a).2.2.2.1.2 (R.2.2.2.2.1 md).2.2.1 (L.take j)) ∧ j < L.length ∧ cln (R.2.2.2.2.2.1 a).2.2.2.2.1.1 (m : Int) = (L.length : Int) := by
  obtain ⟨f1, f2, f3, f3b, f4, f5⟩ := hF.2.2.2 c a hc
  rw [pC_or hc, or_at (ar := 0) h1 h2 h6] at he
  have hj : j < L.length := Classical.byContradiction fun q => by
    rw [List.getElem?_eq_none (by rw [List.length_map, List.length_range]; omega)] at he
    cases he
  rw [List.getElem?_map, List.getElem?_range hj] at he
  have he := Option.some.inj he
  obtain ⟨i, hi⟩ : ∃ i, L[j]? = some i := ⟨_, List.getElem?_eq_getElem hj⟩
  have hgd : L.getD j 0 = i := getD_of hi
  simp only [hgd] at he
  have hil := h4 i (List.mem_of_getElem? hi)
  have hgm : (R.2.2.2.2.2.1 a).2.2.2.1.2.getD i 0 ∈ (R.2.2.2.2.2.1 a).2.2.2.1.2 := by
    rw [List.getD_eq_getElem?_getD, List.getElem?_eq_getElem hil]
    exact List.getElem_mem hil
  obtain ⟨o1, o2, -⟩ := f5 _ hgm
  have hpl := h6 j i hi
  obtain ⟨d1, d2, d3, d4⟩ := odA_in hm2 h1 f4 (by omega) hpl
  exact ⟨i, _, hi, rfl, hgm, o1, o2, by rw [← he], by rw [← he], d1, d2, d3, hpl.2.2.2, hj, by rw [d4, h2]⟩
theorem or_go (hF : pF R) {p m md y c a : Nat} (hp : pgP R p = some y) (hm : pgMo R p m = some md) (hm2 : m < 2) (hc : pgCl R c = some a) (hcb : cbC R (m : Int) a = false) {L : List Nat} (h1 : (R.2.2.2.2.2.1 a).2.2.2.2.1.1.getD m 0 = ((R.2.2.2.2.2.1 a).2.2.2.1.2.length : Int)) (h2 : L.length = (R.2.2.2.2.2.1 a).2.2.2.1.2.length) (h4 : ∀ i, i ∈ L → i < (R.2.2.2.2.2.1 a).2.2.2.1.2.length) (h6 : ∀ j i, L[j]? = some i → plA R (R.2.2.2.2.2.1 a).2.2.2.1.2 (R.2.2.2.2.2.1 a) (m * 5 + j) i (knS R (R.2.2.2.2.2.1 a).2.2.2.1.2 (R.2.2.2.2.1 md).2.2.1 (L.take j))) {j : Nat} {e : mmO} (he : ((pgC R).2.1.2 m c)[j]? = some e) :
    mmGo (pgC R) (gdR R) (mmKn (pgC R) (p, m) (((pgC R).2.1.2 m c).take j)) e := by
  obtain ⟨i, g, hi, hg, hgm, ho, hok, e1, e2, d1, d2, d3, hcbT, hj, hcl⟩ := or_pl hF hp hm hm2 hc h1 h2 h4 h6 he
  obtain ⟨o1, o2, o3, o4, o5⟩ := go_1 ho
  have kn : ∀ x, x < 8 → (mmKn (pgC R) (p, m) (((pgC R).2.1.2 m c).take j) x ↔ bI (knS R (R.2.2.2.2.2.1 a).2.2.2.1.2 (R.2.2.2.2.1 md).2.2.1 (L.take j)) x = true) := fun x hx => or_kn hF hp hm hc h1 h2 h4 h6 (by omega) hx
  obtain ⟨KN, hKN⟩ : ∃ KN, KN = knS R (R.2.2.2.2.2.1 a).2.2.2.1.2 (R.2.2.2.2.1 md).2.2.1 (L.take j) := ⟨_, rfl⟩
  rw [← hKN] at kn d2 d3 hcbT e2
  obtain ⟨v0, u0⟩ := go_v ho (k := 0) (by decide)
  obtain ⟨v1, u1⟩ := go_v ho (k := 1) (by decide)
  have v0 : zVa (R.2.2.2.2.2.2 g).2.2.2.2 0 = ((smv (gL (R.2.2.2.2.2.2 g)) 0 : Nat) : Int) := v0
  have v1 : zVa (R.2.2.2.2.2.2 g).2.2.2.2 1 = ((smv (gL (R.2.2.2.2.2.2 g)) 1 : Nat) : Int) := v1
  have vs : ∀ (n q v : Nat), v < 8 → bI KN v = false → zand (vSt (R.2.2.2.2.2.2 g).2.2.2.2 n 0 (q : Int)) (zxor KN (-1)) = 0 → ∀ k, k < n → zVa (R.2.2.2.2.2.2 g).2.2.2.2 ((q + k : Nat) : Int) ≠ (v : Int) := fun n q v hv hb hz k hk hzv => by
    have h := sub_bI.mp hz v (by omega) ((bI_vSt ho.2.2.2.2 n 0 q v (by omega)).mpr (Or.inr ⟨k, hk, hzv⟩))
    rw [hb] at h
    cases h
  rw [show e = (e.1, e.2.1, e.2.2) from rfl]
  unfold mmGo
  show (e.1.1 = 0 ∧ _) ∨ (e.1.1 = 1 ∧ _) ∨ _
  rw [e1]
  unfold cbT at hcbT
  by_cases k0 : (R.2.2.2.2.2.2 g).1 = 0
  · rw [if_pos k0, v0] at hcbT
    have g0 : (gL (R.2.2.2.2.2.2 g)).1 = 0 := by omega
    obtain ⟨s3, cn⟩ := hok.2.2.1 g0
    refine Or.inl ⟨g0, s3, cn, ?_⟩
    rcases hcbT with h | h
    · exact Or.inl ((kn _ u0).mpr ((bt_bI u0).mp h))
    · refine Or.inr fun hs => (kn _ u1).mpr ?_
      rw [if_pos hs] at cn
      cases hb : bI KN (smv (gL (R.2.2.2.2.2.2 g)) 1) with
      | true => rfl
      | false =>
        have hn1 : ((R.2.2.2.2.2.2 g).2.2.1 - 1).toNat = 1 := by omega
        rw [hn1] at h
        exact absurd v1 (vs 1 1 _ u1 hb h 0 (by decide))
  rw [if_neg k0] at hcbT
  by_cases k1 : (R.2.2.2.2.2.2 g).1 = 1
  · rw [if_pos k1, v0, v1] at hcbT
    have g1 : (gL (R.2.2.2.2.2.2 g)).1 = 1 := by omega
    refine Or.inr (Or.inl ⟨g1, hok.2.2.2.1 g1, ?_⟩)
    rcases hcbT with h | h
    · exact Or.inl ((kn _ u0).mpr ((bt_bI u0).mp h))
    · exact Or.inr ((kn _ u1).mpr ((bt_bI u1).mp h))
  rw [if_neg k1] at hcbT
  have hne : chM R (R.2.2.2.2.2.2 g) KN ≠ none := by
    by_cases k2 : (R.2.2.2.2.2.2 g).1 = 2
    · rw [if_pos k2] at hcbT; exact hcbT
    · rw [if_neg k2] at hcbT; exact hcbT.1
  obtain ⟨x, hx⟩ := Option.ne_none_iff_exists'.mp hne
  obtain ⟨k23, yy, m', hpy, hmo, hnum, hkn⟩ := chM_ok hF ho hx
  rw [hx] at e2 d2
  have g23 : (gL (R.2.2.2.2.2.2 g)).1 = 2 ∨ (gL (R.2.2.2.2.2.2 g)).1 = 3 := by omega
  have hgood : moG (R.2.2.2.2.1 x) ≠ 0 := by
    unfold cbC at hcb
    rw [hcl, Int.toNat_natCast] at hcb
    exact cbP_ok L.length 0 hcb j hj x (by rw [Nat.zero_add]; exact d2)
  have hxm : (R.2.2.2.2.1 x).2.1.toNat = m' := by omega
  refine Or.inr (Or.inr ⟨g23, m', by rw [e2]; show some ((R.2.2.2.2.1 x).2.1.toNat) = some m'; rw [hxm], ⟨x, hmo, hgood⟩, hok.2.2.2.2 (by omega), fun k hk hin => ?_, fun h3 k hk => ?_⟩)
  · rw [pC_inp hF hpy hmo] at hin
    have hk3 : k < 3 := by omega
    exact (kn _ (go_v ho hk3).2).mpr (hkn k hk ⟨by omega, by omega, (bt_bI (by omega)).mpr hin.2⟩)
  · have k2 : ¬ (R.2.2.2.2.2.2 g).1 = 2 := by omega
    rw [if_neg k2] at hcbT
    obtain ⟨w1, w2⟩ := go_v ho (k := k) (by omega)
    refine (kn _ w2).mpr ?_
    cases hb : bI KN (smv (gL (R.2.2.2.2.2.2 g)) k) with
    | true => rfl
    | false =>
      refine absurd w1 ?_
      have q := vs ((R.2.2.2.2.2.2 g).2.2.1 - 0).toNat 0 _ w2 hb hcbT.2 k (by omega)
      rw [Nat.zero_add] at q
      exact q
end AGO
