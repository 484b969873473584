/-! Own rows: a turn of the machine that leaves a frame. -/
section ML
variable {C : mmC} {Gd : Nat × Nat → Prop}
theorem mmAg_dom {V : mmV} {T : mmT} {i x : Nat} {w : smG} {y : Nat} : (mmAg V T i x (some w)).2.1 i y ≠ none ↔ V i y ≠ none ∨ y = x := by
  unfold mmAg
  by_cases c : V i x = none
  · rw [if_pos c]
    show (if i = i ∧ y = x then some w else V i y) ≠ none ↔ _
    by_cases e : y = x
    · simp [e]
    · simp [e]
  · rw [if_neg c]
    show V i y ≠ none ↔ _
    exact ⟨Or.inl, fun h => h.elim id fun e => e ▸ c⟩
theorem mmAg_dom_some {V : mmV} {T : mmT} {i x z u : Nat} (h : V z u ≠ none) {y : Nat} : (mmAg V T i x (V z u)).2.1 i y ≠ none ↔ V i y ≠ none ∨ y = x := by
  obtain ⟨w, hw⟩ := Option.ne_none_iff_exists'.mp h
  rw [hw]
  exact mmAg_dom
theorem mmAg_other {V : mmV} {T : mmT} {i x j : Nat} {o : Option smG} (h : j ≠ i) (y : Nat) : (mmAg V T i x o).2.1 j y = V j y := (mmAg_wr (V := V) (T := T) (x := x) (o := o)).2.2.1 j h y
theorem mmAg_same {V : mmV} {T : mmT} {i x : Nat} {o : Option smG} (h : V i x ≠ none) : mmAg V T i x o = (decide (V i x = o), V, T) := by
  unfold mmAg
  rw [if_neg h]
theorem mmHb_same {inp : Nat → Bool} {j i : Nat} {g : smL} : ∀ (ks : List Nat) (V : mmV) (T : mmT), (∀ k, k ∈ ks → inp k = false → V i (smv g k) ≠ none) → (mmHb inp j i g ks V T).2 = (V, T)
  | [], V, T, _ => rfl
  | k :: ks, V, T, h => by
    have ih := mmHb_same (inp := inp) (j := j) (i := i) (g := g) ks V T fun x hx => h x (List.mem_cons_of_mem _ hx)
    unfold mmHb
    cases hk : inp k with
    | true => simpa using ih
    | false =>
      have h1 := mmAg_same (T := T) (o := V j k) (h k List.mem_cons_self hk)
      rw [h1]
      simp only [Bool.false_eq_true, if_false]
      split
      · exact ih
      · rfl
theorem mmHb_dom {inp : Nat → Bool} {j i : Nat} {g : smL} (hji : j ≠ i) : ∀ (ks : List Nat) (V : mmV) (T : mmT), (∀ k, k ∈ ks → inp k = false → V j k ≠ none) → (mmHb inp j i g ks V T).1 = true → ∀ y, (mmHb inp j i g ks V T).2.1 i y ≠ none ↔ V i y ≠ none ∨ ∃ k, k ∈ ks ∧ inp k = false ∧ smv g k = y
  | [], V, T, _, _, y => ⟨Or.inl, fun h => h.elim id fun ⟨k, hk, _⟩ => absurd hk List.not_mem_nil⟩
  | k :: ks, V, T, h, ht, y => by
    unfold mmHb at ht ⊢
    cases hk : inp k with
    | true =>
      simp only [hk, if_true] at ht ⊢
      rw [mmHb_dom hji ks V T (fun x hx => h x (List.mem_cons_of_mem _ hx)) ht y]
      constructor
      · rintro (q | ⟨x, hx, q⟩)
        · exact Or.inl q
        · exact Or.inr ⟨x, List.mem_cons_of_mem _ hx, q⟩
      · rintro (q | ⟨x, hx, q1, q2⟩)
        · exact Or.inl q
        · rcases List.mem_cons.mp hx with e | hx
          · rw [e, hk] at q1; cases q1
          · exact Or.inr ⟨x, hx, q1, q2⟩
    | false =>
      obtain ⟨w, hw⟩ := Option.ne_none_iff_exists'.mp (h k List.mem_cons_self hk)
      simp only [hk, Bool.false_eq_true, if_false, hw] at ht ⊢
      by_cases ha : (mmAg V T i (smv g k) (some w)).1 = true
      · simp only [ha, if_true] at ht ⊢
        rw [mmHb_dom hji ks _ _ (fun x hx hx2 => by rw [mmAg_other hji]; exact h x (List.mem_cons_of_mem _ hx) hx2) ht y, mmAg_dom]
        constructor
        · rintro ((q | q) | ⟨x, hx, q⟩)
          · exact Or.inl q
          · exact Or.inr ⟨k, List.mem_cons_self, hk, q.symm⟩
          · exact Or.inr ⟨x, List.mem_cons_of_mem _ hx, q⟩
        · rintro (q | ⟨x, hx, q1, q2⟩)
          · exact Or.inl (Or.inl q)
          · rcases List.mem_cons.mp hx with e | hx
            · exact Or.inl (Or.inr (by rw [← q2, e]))
            · exact Or.inr ⟨x, hx, q1, q2⟩
      · simp only [ha, if_false] at ht
        exact absurd ht ha
theorem mmBs_caller {fr : List mmF} {G : mmGh} {j i : Nat} {o : Option Nat} (hn : mmCn C Gd fr G j) (hc : (mmf fr j).2.1.1 = some i) (hd : ∀ d, o = some d → d ≠ j) (h : mmBs fr G o j) : mmBs fr G o i := by
  obtain ⟨q1, q2, q3⟩ := mmCn_caller hn hc
  have q4 : ∀ x, x ∈ G.2.1 i → x ∈ G.2.1 j := fun x hx => by rw [q3]; exact List.mem_cons_of_mem _ hx
  cases o with
  | none => exact fun x hx => h x (q4 x hx)
  | some d =>
    refine ⟨?_, fun x hx => h.2 x (q4 x hx)⟩
    have h1 := h.1
    rw [q3] at h1
    exact (List.mem_cons.mp h1).resolve_left (hd d rfl)
theorem mmLeave_0 {C : mmC} {fr : List mmF} {cls : Nat → Option Nat} {V : mmV} {ch : mmH} {T : mmT} {cur den : Option Nat} {pl na ns nc dp j : Nat} {fl : Bool} {tm : List smG} {nt : List (Nat × Nat)} (hcl : (mmf fr j).2.1.1 = none) (h : 50 ≤ na) : mmLeave C j ((fr, cls, V, ch, T), (cur, pl, den, fl), tm, (na, ns, nc, dp), nt) = .inr (1, ((fr, cls, V, ch, T), (cur, pl, den, fl), tm, (na, ns, nc, dp), mmNote nt 120 (mmf fr j).1.1 (mmf fr j).2.1.2.2)) := by
  unfold mmLeave
  simp only [hcl]
  rw [if_pos h]
theorem mmLeave_1 {C : mmC} {fr : List mmF} {cls : Nat → Option Nat} {V : mmV} {ch : mmH} {T : mmT} {cur den : Option Nat} {pl na ns nc dp j : Nat} {fl : Bool} {tm : List smG} {nt : List (Nat × Nat)} (hcl : (mmf fr j).2.1.1 = none) (h : ¬ 50 ≤ na) : mmLeave C j ((fr, cls, V, ch, T), (cur, pl, den, fl), tm, (na, ns, nc, dp), nt) = .inl ((fr, cls, V, ch, T), (cur, pl, den, true), tm, (na + 1, ns, nc, dp), mmNote nt 120 (mmf fr j).1.1 (mmf fr j).2.1.2.2) := by
  unfold mmLeave
  simp only [hcl]
  rw [if_neg h]
theorem mmLeave_2 {C : mmC} {fr : List mmF} {cls : Nat → Option Nat} {V : mmV} {ch : mmH} {T : mmT} {cur den : Option Nat} {pl na ns nc dp j : Nat} {fl : Bool} {tm : List smG} {nt : List (Nat × Nat)} {i : Nat} {r : Bool × mmV × mmT} (hcl : (mmf fr j).2.1.1 = some i) (hr : mmHb (C.2.1.1 (mmf fr j).1.1 (mmf fr j).1.2) j i (mmBy C fr cls j i) (List.range (mmBy C fr cls j i).2.2.1) V T = r) (hd : (mmf fr j).2.2.1 = true) (hb : r.1 = true) : mmLeave C j ((fr, cls, V, ch, T), (cur, pl, den, fl), tm, (na, ns, nc, dp), nt) = .inl ((fr, cls, r.2.1, ch.drop (ch.length - (mmf fr j).2.2.2.2), r.2.2), (cur, pl, (mmf fr j).2.2.2.1, true), tm, (na, ns, nc, dp), mmNote nt 120 (mmf fr j).1.1 (mmf fr j).2.1.2.2) := by
  unfold mmLeave
  simp only [hcl, hr]
  rw [if_pos hd, if_pos hb]
theorem mmLeave_3 {C : mmC} {fr : List mmF} {cls : Nat → Option Nat} {V : mmV} {ch : mmH} {T : mmT} {cur den : Option Nat} {pl na ns nc dp j : Nat} {fl : Bool} {tm : List smG} {nt : List (Nat × Nat)} {i : Nat} {r : Bool × mmV × mmT} (hcl : (mmf fr j).2.1.1 = some i) (hr : mmHb (C.2.1.1 (mmf fr j).1.1 (mmf fr j).1.2) j i (mmBy C fr cls j i) (List.range (mmBy C fr cls j i).2.2.1) V T = r) (hd : (mmf fr j).2.2.1 = true) (hb : ¬ r.1 = true) : mmLeave C j ((fr, cls, V, ch, T), (cur, pl, den, fl), tm, (na, ns, nc, dp), nt) = .inl ((fr, cls, r.2.1, ch, r.2.2), (cur, pl, den, true), tm, (na, ns, nc, dp), mmNote nt 120 (mmf fr j).1.1 (mmf fr j).2.1.2.2) := by
  unfold mmLeave
  simp only [hcl, hr]
  rw [if_pos hd, if_neg hb]
theorem mmLeave_4 {C : mmC} {fr : List mmF} {cls : Nat → Option Nat} {V : mmV} {ch : mmH} {T : mmT} {cur den : Option Nat} {pl na ns nc dp j : Nat} {fl : Bool} {tm : List smG} {nt : List (Nat × Nat)} {i : Nat} {r : Bool × mmV × mmT} (hcl : (mmf fr j).2.1.1 = some i) (hr : mmHb (C.2.1.1 (mmf fr j).1.1 (mmf fr j).1.2) j i (mmBy C fr cls j i) (List.range (mmBy C fr cls j i).2.2.1) V T = r) (hd : ¬ (mmf fr j).2.2.1 = true) : mmLeave C j ((fr, cls, V, ch, T), (cur, pl, den, fl), tm, (na, ns, nc, dp), nt) = .inl ((fr, cls, r.2.1, ch, r.2.2), (some i, (mmf fr j).2.1.2.1 + 1, den, !r.1), tm, (na, ns, nc, dp), mmNote nt 120 (mmf fr j).1.1 (mmf fr j).2.1.2.2) := by
  unfold mmLeave
  simp only [hcl, hr]
  rw [if_neg hd]
theorem mm_leave (hF : mmFa C Gd) {fr : List mmF} {cls : Nat → Option Nat} {V : mmV} {ch : mmH} {T : mmT} {cur den : Option Nat} {pl na ns nc dp : Nat} {fl : Bool} {tm : List smG} {nt : List (Nat × Nat)} {G : mmGh} {top : List mmCG} {lv : List (mmLG × List mmCG)} {j c : Nat}
    (hlv : mmLv fr G top lv ch den) (hco : ∀ c, c ∈ top ++ lv.flatMap (fun l => l.2) → mmCo C Gd fr G cls V T c) (hlo : ∀ l, l ∈ lv → mmLo C Gd fr G cls V T l.1) (hpw : mmPw ch) (hac : mmAc C Gd fr G cls V j c pl) (hbs : mmBs fr G (mmHd lv) j) (hpl : (C.2.1.2 (mmf fr j).1.2 c)[pl]? = none) :
    match mmLeave C j ((fr, cls, V, ch, T), (cur, pl, den, fl), tm, (na, ns, nc, dp), nt) with
    | .inl S' => mmNx C Gd G top lv (some (j, c)) ((fr, cls, V, ch, T), (cur, pl, den, fl), tm, (na, ns, nc, dp), nt) S'
    | .inr r => r.1 ≠ 0 := by
  obtain ⟨a1, a2, a3, a4, a5, a6⟩ := hac
  have hpl2 : pl = (C.2.1.2 (mmf fr j).1.2 c).length := by
    have := List.getElem?_eq_none_iff.mp hpl
    omega
  have hnode : mmNd C fr G V j c pl = (G.1 j, mmZ V (G.2.1 j)) := by
    unfold mmNd
    rw [List.drop_eq_nil_of_le (by omega)]
    rfl
  have hgd : Gd (mmf fr j).1 := (a1.2 j a1.1).2.1
  have hargs : ∀ k, k < C.1.2 (mmf fr j).1.1 → V j k ≠ none := fun k hk => by
    rw [a6 k, List.take_of_length_le (by omega)]
    exact (((hF.2.2 _ hgd).1 c a4).2.2) k hk
  cases hcl : (mmf fr j).2.1.1 with
  | none =>
    obtain ⟨w1, w2, w3⟩ : G.1 j = [] ∧ G.2.1 j = [j] ∧ (mmf fr j).2.2.1 = false := by
      obtain ⟨-, -, ⟨-, w1, w2, w3, -⟩ | ⟨i, w1, -⟩⟩ := a1.2 j a1.1
      · exact ⟨w1, w2, w3⟩
      · rw [hcl] at w1; cases w1
    have elv : lv = [] := by
      cases lv with
      | nil => rfl
      | cons l lv =>
        have q1 : l.1.1 ∈ G.2.1 j := hbs.1
        rw [w2] at q1
        have q2 := (hlo l List.mem_cons_self).2.2.1
        rw [List.mem_singleton.mp q1, w3] at q2
        cases q2
    subst elv
    by_cases h50 : 50 ≤ na
    · rw [mmLeave_0 hcl h50]
      exact Nat.one_ne_zero
    · rw [mmLeave_1 hcl h50]
      refine ⟨G, top, [], none, ⟨hlv, hco, hlo, hpw, fun _ => rfl, fun h => by cases h⟩, Nat.le_succ _, fun k g => ?_⟩
      have g2 : smGood C.1.1 ([] ++ top.flatMap (mmCd C fr G)) [] k := g
      show smGood C.1.1 ([mmNd C fr G V j c pl] ++ top.flatMap (mmCd C fr G)) [] (k + (na + 1 - na))
      rw [hnode, w1, show na + 1 - na = 1 by omega]
      exact smGood_ans (mmZ_sat _ _) g2
  | some i =>
    obtain ⟨-, -, ⟨w1, -⟩ | ⟨i', w1, w2, w3, w4, w5, w5b, e, w6, w7, w8, w9, w10⟩⟩ := a1.2 j a1.1
    · rw [hcl] at w1; cases w1
    rw [hcl] at w1
    cases w1
    obtain ⟨q1, q2, q3⟩ := mmCn_caller a1 hcl
    obtain ⟨q4, q5⟩ := a2 j a1.1 i hcl
    have hby : mmBy C fr cls j i = e.1 := by
      unfold mmBy
      rw [q4, Option.getD_some, List.getD_eq_getElem?_getD, w6]
      rfl
    have hgi : Gd (mmf fr i).1 := (q1.2 i q1.1).2.1
    have hgo := ((hF.2.2 _ hgi).1 _ w5).2.1 _ e w6
    obtain ⟨m, g1, g2, g3, g4, g5⟩ : ∃ m, e.2.1 = some m ∧ Gd (e.1.2.1, m) ∧ e.1.2.2.1 = C.1.2 e.1.2.1 ∧ (∀ k, k < e.1.2.2.1 → C.2.1.1 e.1.2.1 m k = true → mmKn C (mmf fr i).1 ((C.2.1.2 (mmf fr i).1.2 (G.2.2 j)).take (mmf fr j).2.1.2.1) (smv e.1 k)) ∧ (e.1.1 = 3 → ∀ k, k < e.1.2.2.1 → mmKn C (mmf fr i).1 ((C.2.1.2 (mmf fr i).1.2 (G.2.2 j)).take (mmf fr j).2.1.2.1) (smv e.1 k)) := by
      rcases hgo with ⟨h, -⟩ | ⟨h, -⟩ | ⟨-, h⟩
      · rw [h] at w9; split at w9 <;> omega
      · rw [h] at w9; split at w9 <;> omega
      · exact h
    rw [w8] at g1
    cases g1
    have houts : ∀ k, k ∈ List.range e.1.2.2.1 → C.2.1.1 (mmf fr j).1.1 (mmf fr j).1.2 k = false → V j k ≠ none := fun k hk _ => hargs k (by rw [← w7, ← g3]; exact List.mem_range.mp hk)
    have hil : i ∈ G.2.1 j := by rw [q3]; exact List.mem_cons_of_mem _ q1.1
    obtain ⟨r, hr⟩ : ∃ r, mmHb (C.2.1.1 (mmf fr j).1.1 (mmf fr j).1.2) j i e.1 (List.range e.1.2.2.1) V T = r := ⟨_, rfl⟩
    have hr0 : mmHb (C.2.1.1 (mmf fr j).1.1 (mmf fr j).1.2) j i (mmBy C fr cls j i) (List.range (mmBy C fr cls j i).2.2.1) V T = r := by rw [hby]; exact hr
    have hwr : mmWr i V T r.2.1 r.2.2 := by rw [← hr]; exact mmHb_wr _ _ _
    have hrf := fun (P : List smI) => mmRf_hb (pg := C.1.1) (inp := C.2.1.1 (mmf fr j).1.1 (mmf fr j).1.2) (L := G.2.1 j) (g := e.1) (P := P) a1.1 hil (List.range e.1.2.2.1) V T houts
    rw [hr] at hrf
    have hle := mmLv_le lv top ch den j hlv hlo a1 hbs
    by_cases hden : (mmf fr j).2.2.1 = true
    · rw [if_pos hden] at w9 w10
      have hsame : r.2 = (V, T) := by
        rw [← hr]
        refine mmHb_same _ _ _ fun k hk _ => ?_
        rw [q5]
        exact g5 w9 k (List.mem_range.mp hk)
      obtain ⟨b, V', T'⟩ := r
      simp only [Prod.mk.injEq] at hsame
      obtain ⟨e1, e2⟩ := hsame
      subst e1; subst e2
      cases lv with
      | nil =>
        have := hbs j a1.1
        rw [hden] at this
        cases this
      | cons l lv =>
        obtain ⟨⟨d, tl, gvr⟩, outer⟩ := l
        obtain ⟨h1, h2, h3, h4, ch', h5, h6, h7⟩ := hlv
        have hb2 : d ∈ G.2.1 j ∧ ∀ x, x ∈ G.2.1 j → d < x → (mmf fr x).2.2.1 = false := hbs
        have ed : d = j := by
          have := mmCn_le a1 hb2.1
          by_cases q : d < j
          · have := hb2.2 j a1.1 q
            rw [hden] at this
            cases this
          · omega
        subst ed
        have h6 : ch'.length = (mmf fr d).2.2.2.2 := h6
        cases b with
        | true =>
          rw [mmLeave_2 hcl hr0 hden rfl]
          have e3 : ch.drop (ch.length - (mmf fr d).2.2.2.2) = ch' := by
            rw [h5, ← h6, List.length_append, Nat.add_sub_cancel, List.drop_left' rfl]
          show mmNx C Gd G top _ _ _ ((fr, cls, V', ch.drop (ch.length - (mmf fr d).2.2.2.2), T'), _)
          rw [e3]
          have hpw' : mmPw ch' := by
            rw [h5] at hpw
            exact (List.pairwise_append.mp hpw).2.1
          refine ⟨G, outer, lv, none, ⟨h7, fun x hx => hco x (by simpa using Or.inr hx), fun x hx => hlo x (List.mem_cons_of_mem _ hx), hpw', fun _ => rfl, fun h => by cases h⟩, Nat.le_refl _, fun k g => ?_⟩
          have g2 : smGood C.1.1 ([] ++ outer.flatMap (mmCd C fr G)) (mmSt C fr G lv) k := g
          show smGood C.1.1 ([mmNd C fr G V' d c pl] ++ top.flatMap (mmCd C fr G)) (mmSt C fr G (((d, tl, gvr), outer) :: lv)) (k + (na - na))
          rw [Nat.sub_self, Nat.add_zero, hnode, w10]
          refine smGood_rf (B := top.flatMap (mmCd C fr G)) (hrf []) ?_
          rw [if_pos rfl]
          exact smGood_yes (mmZ_sat _ _) g2
        | false =>
          rw [mmLeave_3 hcl hr0 hden Bool.false_ne_true]
          refine ⟨G, top, ((d, tl, gvr), outer) :: lv, none, ⟨⟨h1, h2, h3, h4, ch', h5, h6, h7⟩, hco, hlo, hpw, fun _ => rfl, fun h => by cases h⟩, Nat.le_refl _, fun k g => ?_⟩
          have g2 : smGood C.1.1 ([] ++ top.flatMap (mmCd C fr G)) (mmSt C fr G (((d, tl, gvr), outer) :: lv)) k := g
          show smGood C.1.1 ([mmNd C fr G V' d c pl] ++ top.flatMap (mmCd C fr G)) (mmSt C fr G (((d, tl, gvr), outer) :: lv)) (k + (na - na))
          rw [Nat.sub_self, Nat.add_zero, hnode, w10]
          refine smGood_rf (B := top.flatMap (mmCd C fr G)) (hrf []) ?_
          rw [if_neg (by simp)]
          exact g2
    · rw [mmLeave_4 hcl hr0 hden]
      rw [if_neg hden] at w9 w10
      have hdj : ∀ d, mmHd lv = some d → d ≠ j := by
        intro d hd ed
        cases lv with
        | nil => cases hd
        | cons l lv =>
          have e1 : l.1.1 = d := Option.some.inj hd
          have := (hlo l List.mem_cons_self).2.2.1
          rw [e1, ed] at this
          exact hden this
      have hbi : mmBs fr G (mmHd lv) i := mmBs_caller a1 hcl hdj hbs
      have hli := mmLv_le lv top ch den i hlv hlo q1 hbi
      have hco' : ∀ x, x ∈ top ++ lv.flatMap (fun l => l.2) → mmCo C Gd fr G cls r.2.1 r.2.2 x := fun x hx => mmCo_wr hwr (hco x hx)
      have hlo' : ∀ l, l ∈ lv → mmLo C Gd fr G cls r.2.1 r.2.2 l.1 := fun l hl => mmLo_wr hwr (hli l hl).1 (hlo l hl)
      cases hb : r.1 with
      | true =>
        show mmNx C Gd G top lv _ _ ((fr, cls, r.2.1, ch, r.2.2), (some i, (mmf fr j).2.1.2.1 + 1, den, !true), _)
        have hdom : ∀ y, r.2.1 i y ≠ none ↔ mmKn C (mmf fr i).1 ((C.2.1.2 (mmf fr i).1.2 (G.2.2 j)).take ((mmf fr j).2.1.2.1 + 1)) y := by
          intro y
          have q6 := mmHb_dom (inp := C.2.1.1 (mmf fr j).1.1 (mmf fr j).1.2) (g := e.1) (show j ≠ i by omega) (List.range e.1.2.2.1) V T houts (by rw [hr]; exact hb) y
          rw [hr] at q6
          rw [q6, mmKn_succ w6, q5 y]
          constructor
          · rintro (q | ⟨k, hk, -, q⟩)
            · exact Or.inl q
            · exact Or.inr ⟨k, List.mem_range.mp hk, q⟩
          · rintro (q | ⟨k, hk, q⟩)
            · exact Or.inl q
            · cases hin : C.2.1.1 (mmf fr j).1.1 (mmf fr j).1.2 k with
              | true =>
                refine Or.inl ?_
                rw [← q]
                exact g4 k hk (by rw [w7]; exact hin)
              | false => exact Or.inr ⟨k, List.mem_range.mpr hk, hin, q⟩
        refine ⟨G, top, lv, some (i, G.2.2 j), ⟨hlv, hco', hlo', hpw, (by intro h; cases h), fun _ => ⟨i, G.2.2 j, rfl, rfl, ⟨q1, ?_, q4, w5, ?_, hdom⟩, hbi⟩⟩, Nat.le_refl _, fun k g => ?_⟩
        · refine mmDn_wr hwr (Nat.le_refl _) q1 fun j' hj' a ha => ?_
          exact a2 j' (by rw [q3]; exact List.mem_cons_of_mem _ hj') a ha
        · obtain ⟨q, -⟩ := List.getElem?_eq_some_iff.mp w6
          exact q
        · have g2 : smGood C.1.1 ([mmNd C fr G r.2.1 i (G.2.2 j) ((mmf fr j).2.1.2.1 + 1)] ++ top.flatMap (mmCd C fr G)) (mmSt C fr G lv) k := g
          show smGood C.1.1 ([mmNd C fr G V j c pl] ++ top.flatMap (mmCd C fr G)) (mmSt C fr G lv) (k + (na - na))
          rw [Nat.sub_self, Nat.add_zero, hnode, w10]
          refine smGood_rf (B := top.flatMap (mmCd C fr G)) (hrf _) ?_
          rw [hb, if_pos rfl]
          refine smGood_rf (ms := [mmNd C fr G r.2.1 i (G.2.2 j) ((mmf fr j).2.1.2.1 + 1)]) ?_ g2
          rw [q3]
          refine smRf_drop (fun x hx hjx => ?_) (fun h => by have := mmCn_le q1 h; omega)
          rcases List.mem_append.mp hx with hx | hx
          · have := mmIt_in (fun e he => mmFa_kind hF hgi w5 (List.mem_of_mem_drop he)) hx hjx
            omega
          · have := mmCn_le q1 (mmK_in hF i i (Nat.le_refl _) q1 x hx j hjx)
            omega
      | false =>
        refine ⟨G, top, lv, none, ⟨hlv, hco', hlo', hpw, fun _ => rfl, fun h => by cases h⟩, Nat.le_refl _, fun k g => ?_⟩
        have g2 : smGood C.1.1 ([] ++ top.flatMap (mmCd C fr G)) (mmSt C fr G lv) k := g
        show smGood C.1.1 ([mmNd C fr G V j c pl] ++ top.flatMap (mmCd C fr G)) (mmSt C fr G lv) (k + (na - na))
        rw [Nat.sub_self, Nat.add_zero, hnode, w10]
        refine smGood_rf (B := top.flatMap (mmCd C fr G)) (hrf _) ?_
        rw [hb, if_neg (by simp)]
        exact g2
end ML
