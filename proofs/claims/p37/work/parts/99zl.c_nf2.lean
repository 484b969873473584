/-! Own rows: what cannot fail answers: its turns. By hand; nothing of the bytecode. -/
section CNF2
variable {C : mmC} {Gd : Nat × Nat → Prop}
theorem enter_sf (hF : mmFa C Gd) {j : Nat} {fr : List mmF} {cls : Nat → Option Nat} {V : mmV} {ch : mmH} {T : mmT} {cur den : Option Nat} {pl : Nat} {tm : List smG} {nn : Nat × Nat × Nat × Nat} {nt : List (Nat × Nat)} (hs : sfF C fr cls j) (hg : Gd (mmf fr j).1) (hn : C.2.2.2.1 (mmf fr j).1.1 (mmf fr j).1.2 = false) (hv : ∀ x, C.2.1.1 (mmf fr j).1.1 (mmf fr j).1.2 x = true → V j x ≠ none) (hV : vlI V) : sfS C (mmEnter C j ((fr, cls, V, ch, T), (cur, pl, den, false), tm, nn, nt)) := by
  obtain ⟨na, ns, nc, dp⟩ := nn
  obtain ⟨-, f2, -, f4⟩ := hF.2.2 _ hg
  obtain ⟨f5, f6⟩ := f4 hn
  right
  have hup : ∀ c, sfF C fr (mmUp cls j c) j := fun c => sfF_up hs (Nat.le_refl j)
  have hcl : ∀ c, mmUp cls j c j = some c := fun c => if_pos rfl
  cases hw : C.2.2.1 (mmf fr j).1.1 (mmf fr j).1.2 with
  | none =>
    obtain ⟨c, c1, c2⟩ := f5 hw
    have hf : mmFirst C V (mmf fr j).1 j = (C.1.1.1 (mmf fr j).1.1).head? := by
      unfold mmFirst
      rw [hw]
    obtain ⟨k, k3⟩ := List.getElem?_of_mem c1
    have hk := (List.getElem?_eq_some_iff.mp k3).1
    obtain ⟨c0, hc0⟩ : ∃ c0, (C.1.1.1 (mmf fr j).1.1)[0]? = some c0 := ⟨_, List.getElem?_eq_getElem (Nat.lt_of_le_of_lt (Nat.zero_le k) hk)⟩
    have hf2 : mmFirst C V (mmf fr j).1 j = some c0 := by rw [hf, List.head?_eq_getElem?, hc0]
    cases k with
    | zero =>
      left
      have ec : c0 = c := Option.some.inj (hc0.symm.trans k3)
      have hr : sfR C (mmf fr j).1 c0 0 := by rw [ec]; exact fun n e _ he => c2 n e he
      by_cases hs2 : C.2.2.1 (mmf fr j).1.1 (mmf fr j).1.2 = none ∧ 1 < (C.1.1.1 (mmf fr j).1.1).length
      · rw [mmEnter_1 hf2 hs2]
        exact ⟨rfl, j, c0, rfl, hcl c0, hup c0, Or.inl hr⟩
      · rw [mmEnter_2 hf2 hs2]
        exact ⟨rfl, j, c0, rfl, hcl c0, hup c0, Or.inl hr⟩
    | succ k =>
      right
      have hs2 : C.2.2.1 (mmf fr j).1.1 (mmf fr j).1.2 = none ∧ 1 < (C.1.1.1 (mmf fr j).1.1).length := ⟨hw, by omega⟩
      rw [mmEnter_1 hf2 hs2]
      exact ⟨(j, 1, T.length), List.mem_cons_self, hup c0, k + 1, c, Nat.le_add_left 1 k, k3, fun n e _ he => c2 n e he⟩
  | some s =>
    obtain ⟨g1, g2⟩ := f6 s hw
    obtain ⟨h1, h2, -⟩ := f2 s hw
    cases hvs : V j s with
    | none => exact absurd hvs (hv s h1)
    | some v =>
      have hvg : vlG v := hV j s v hvs
      have hhd : smHd v < 3 := by
        have q : v.2 = 0 ∨ v.2 = 2 := hvg
        unfold smHd
        split <;> omega
      obtain ⟨c, c1, e, c2, c3⟩ := g1 _ hhd
      have hf : mmFirst C V (mmf fr j).1 j = (C.1.1.1 (mmf fr j).1.1).find? (fun c => match (C.2.1.2 (mmf fr j).1.2 c).head? with
        | none => false
        | some e => e.1.2.1 == smHd v) := by
        unfold mmFirst
        simp only [hw, hvs, Option.getD_some]
        rfl
      cases hx : mmFirst C V (mmf fr j).1 j with
      | none =>
        exfalso
        rw [hf] at hx
        have q := List.find?_eq_none.mp hx c c1
        simp only [c2, c3, beq_self_eq_true, not_true_eq_false] at q
      | some c' =>
        have hs2 : ¬ (C.2.2.1 (mmf fr j).1.1 (mmf fr j).1.2 = none ∧ 1 < (C.1.1.1 (mmf fr j).1.1).length) := fun q => by
          rw [hw] at q
          cases q.1
        rw [mmEnter_2 hx hs2]
        rw [hf] at hx
        have hm := List.mem_of_find?_eq_some hx
        have hp := List.find?_some hx
        obtain ⟨e', os, q1, q2, q3⟩ := h2 c' hm
        have hhe : e'.1.2.1 = smHd v := by
          simp only [q1, List.head?_cons] at hp
          exact beq_iff_eq.mp hp
        left
        refine ⟨rfl, j, c', rfl, hcl c', hup c', Or.inr ⟨rfl, e', os, v, q1, q2, ?_, ?_, ?_, ?_⟩⟩
        · rw [q3]; exact hvs
        · rw [hhe]; exact smB_hd hvg
        · exact (g2 c' hm).1 e' (by rw [q1]; rfl)
        · intro n e hn he
          cases n with
          | zero => exact absurd hn (by decide)
          | succ n => exact (g2 c' hm).2 n e he
theorem enter_sfH {j : Nat} {fr : List mmF} {cls : Nat → Option Nat} {V : mmV} {ch : mmH} {T : mmT} {cf : Option Nat × Nat × Option Nat × Bool} {tm : List smG} {nn : Nat × Nat × Nat × Nat} {nt : List (Nat × Nat)} (h : ∃ e, e ∈ ch ∧ e.1 ≤ j ∧ sfE C fr cls e) : sfS C (mmEnter C j ((fr, cls, V, ch, T), cf, tm, nn, nt)) := by
  obtain ⟨cur, pl, den, fl⟩ := cf
  obtain ⟨na, ns, nc, dp⟩ := nn
  obtain ⟨e, e1, e2, e3⟩ := h
  right
  right
  cases hf : mmFirst C V (mmf fr j).1 j with
  | none => rw [mmEnter_0 hf]; exact ⟨e, e1, e3⟩
  | some c =>
    by_cases hs : C.2.2.1 (mmf fr j).1.1 (mmf fr j).1.2 = none ∧ 1 < (C.1.1.1 (mmf fr j).1.1).length
    · rw [mmEnter_1 hf hs]
      exact ⟨e, List.mem_cons_of_mem _ e1, sfE_up e3 e2⟩
    · rw [mmEnter_2 hf hs]
      exact ⟨e, e1, sfE_up e3 e2⟩
/-! the turn at hand is safe -/
theorem leave_sf {j : Nat} {fr : List mmF} {G : mmGh} {cls : Nat → Option Nat} {V : mmV} {ch : mmH} {T : mmT} {cur den : Option Nat} {pl na ns nc dp : Nat} {tm : List smG} {nt : List (Nat × Nat)} (hn : mmCn C Gd fr G j) (hd : mmDn C fr G cls V j) (hs : sfF C fr cls j) : sfX C (mmLeave C j ((fr, cls, V, ch, T), (cur, pl, den, false), tm, (na, ns, nc, dp), nt)) := by
  cases hp : (mmf fr j).2.1.1 with
  | none =>
    by_cases h5 : 50 ≤ na
    · rw [mmLeave_0 hp h5]
      exact Nat.one_ne_zero
    · rw [mmLeave_1 hp h5]
      exact Or.inl (Nat.le_add_left 1 na)
  | some i =>
    obtain ⟨q, hrr⟩ : ∃ q, mmHb (C.2.1.1 (mmf fr j).1.1 (mmf fr j).1.2) j i (mmBy C fr cls j i) (List.range (mmBy C fr cls j i).2.2.1) V T = q := ⟨_, rfl⟩
    obtain ⟨s1, s2, c, s3, s4⟩ := sfF_call hs hp
    have hnd : ¬ (mmf fr j).2.2.1 = true := by rw [sfF_nd hs]; decide
    obtain ⟨d1, d2⟩ := hd j hn.1 i hp
    have ec : c = G.2.2 j := Option.some.inj (s3.symm.trans d1)
    obtain ⟨-, -, ⟨k3, -⟩ | ⟨i', k3, k4, k5, k6, k7, k8, e, e1, e2, e3, e4, -⟩⟩ := hn.2 j hn.1
    · rw [hp] at k3; cases k3
    · rw [hp] at k3
      cases k3
      have e4 : e.1.1 = 2 := by rw [e4, if_neg hnd]
      have hby : mmBy C fr cls j i = e.1 := by
        unfold mmBy
        rw [d1, Option.getD_some, List.getD_eq_getElem?_getD, e1]
        rfl
      have hnf := s4 _ e (Nat.le_refl _) (by rw [ec]; exact e1)
      have hfree : mmFree (C.2.1.1 (mmf fr j).1.1 (mmf fr j).1.2) (mmKn C (mmf fr i).1 ((C.2.1.2 (mmf fr i).1.2 c).take (mmf fr j).2.1.2.1)) e.1 := by
        rcases hnf with ⟨z, -⟩ | ⟨z, -⟩ | ⟨-, z⟩
        · omega
        · omega
        · have := (z _ e3).2
          rw [e2] at this
          exact this
      have hq : q.1 = true := by
        rw [← hrr, hby]
        rw [← ec] at d2
        exact hb_free hfree d2
      rw [mmLeave_4 hp hrr hnd]
      refine Or.inr (Or.inl ⟨?_, i, c, rfl, s3, s2, Or.inl ?_⟩)
      · show (!q.1) = false
        rw [hq]
        rfl
      · intro n e hn' he
        exact s4 n e (Nat.le_of_succ_le hn') he
theorem goal_sf (hF : mmFa C Gd) {i c : Nat} {e : mmO} {fr : List mmF} {G : mmGh} {cls : Nat → Option Nat} {V : mmV} {ch : mmH} {T : mmT} {den : Option Nat} {pl na ns nc dp : Nat} {tm : List smG} {nt : List (Nat × Nat)} (hac : mmAc C Gd fr G cls V i c pl) (he : (C.2.1.2 (mmf fr i).1.2 c)[pl]? = some e) (hV : vlI V) (hs : sfF C fr cls i) (hw : sfR C (mmf fr i).1 c pl ∨ sfW C (mmf fr i).1 (V i) c pl) : sfX C (mmGoal C i e ((fr, cls, V, ch, T), (some i, pl, den, false), tm, (na, ns, nc, dp), nt)) := by
  obtain ⟨a1, a2, a3, a4, a5, a6⟩ := hac
  have hgd : Gd (mmf fr i).1 := (a1.2 i a1.1).2.1
  have hgo := ((hF.2.2 _ hgd).1 c a4).2.1 _ e he
  have hr1 : sfR C (mmf fr i).1 c (pl + 1) := by
    rcases hw with h | ⟨h0, e', os, v, -, -, -, -, -, h⟩
    · exact fun n e hn he => h n e (Nat.le_of_succ_le hn) he
    · rw [h0]; exact h
  unfold mmGoal
  by_cases h300 : 300 ≤ ns
  · simp only [if_pos h300]
    exact Nat.one_ne_zero
  simp only [if_neg h300]
  by_cases hk : e.1.1 = 2 ∨ e.1.1 = 3
  · simp only [if_pos hk]
    have hr : sfR C (mmf fr i).1 c pl := by
      rcases hw with h | ⟨h0, e', os, v, h1, h2, -⟩
      · exact h
      · exfalso
        rw [h0, h1] at he
        cases he
        omega
    obtain ⟨m, g1, g2, g3, g4, -⟩ : ∃ m, e.2.1 = some m ∧ Gd (e.1.2.1, m) ∧ e.1.2.2.1 = C.1.2 e.1.2.1 ∧ (∀ k, k < e.1.2.2.1 → C.2.1.1 e.1.2.1 m k = true → mmKn C (mmf fr i).1 ((C.2.1.2 (mmf fr i).1.2 c).take pl) (smv e.1 k)) ∧ (e.1.1 = 3 → ∀ k, k < e.1.2.2.1 → mmKn C (mmf fr i).1 ((C.2.1.2 (mmf fr i).1.2 c).take pl) (smv e.1 k)) := by
      rcases hgo with ⟨h, -⟩ | ⟨h, -⟩ | ⟨-, h⟩
      · omega
      · omega
      · exact h
    have hnf : e.1.1 = 2 ∧ C.2.2.2.1 e.1.2.1 m = false := by
      rcases hr pl e (Nat.le_refl _) he with ⟨z, -⟩ | ⟨z, -⟩ | ⟨z, z2⟩
      · omega
      · omega
      · exact ⟨z, (z2 m g1).1⟩
    have hk3 : ¬ e.1.1 = 3 := by omega
    simp only [g1]
    by_cases h30 : 30 ≤ (mmf fr i).2.1.2.2
    · simp only [if_pos h30]
      exact Nat.one_ne_zero
    simp only [if_neg h30, if_neg hk3]
    have hin : ∀ k, k < e.1.2.2.1 → C.2.1.1 e.1.2.1 m k = true → V i (smv e.1 k) ≠ none := fun k hk hb => (a6 _).mpr (g4 k hk hb)
    refine enter_sf hF (sfF_new hs a3 hr ⟨rfl, rfl, rfl⟩) ?_ ?_ ?_ (vl_new hV (vl_args hV))
    · rw [mmf_new]; exact g2
    · rw [mmf_new]; exact hnf.2
    · rw [mmf_new]
      exact fun x hx => (mmNew_in hin hF g3 fr.length x).mpr hx
  · simp only [if_neg hk]
    cases hq : mmEq V T tm i e.1 with
    | none =>
      show (2 : Nat) ≠ 0
      decide
    | some r =>
      refine Or.inr (Or.inl ⟨?_, i, c, rfl, a3, hs, Or.inl hr1⟩)
      have hq1 : r.1 = true := by
        rcases hw with h | ⟨h0, e', os, v, h1, h2, h3, h4, h5, -⟩
        · exact eq_nf a6 (fun z => hk (Or.inl z)) (h pl e (Nat.le_refl _) he) hq
        · rw [h0, h1] at he
          cases he
          refine eq_w h2 h3 h4 (fun z => ?_) hq
          have q := h5 z
          cases w : V i (smv e.1 1) with
          | none => rfl
          | some y =>
            have q2 := (a6 (smv e.1 1)).mp (by rw [w]; exact fun z => nomatch z)
            rw [h0] at q2
            exact absurd q2 q
      show (!r.1) = false
      rw [hq1]
      rfl
/-! a choice is safe -/
theorem pop_sf {fr : List mmF} {cls : Nat → Option Nat} {V : mmV} {ch : mmH} {T : mmT} {cur den : Option Nat} {pl : Nat} {fl : Bool} {tm : List smG} {nn : Nat × Nat × Nat × Nat} {nt : List (Nat × Nat)} (hpw : mmPw ch) (h : sfH C fr cls ch) : sfX C (mmPop C ((fr, cls, V, ch, T), (cur, pl, den, fl), tm, nn, nt)) := by
  obtain ⟨e, he, h1, k', c, k1, k2, k3⟩ := h
  cases ch with
  | nil => cases he
  | cons a ch' =>
    obtain ⟨f, k, t⟩ := a
    obtain ⟨p1, -⟩ := mmPw_tail hpw
    unfold mmPop
    rcases List.mem_cons.mp he with q | q
    · rw [q] at h1 k1 k2 k3
      have h1 : sfF C fr cls f := h1
      have k1 : k ≤ k' := k1
      have k2 : (C.1.1.1 (mmf fr f).1.1)[k']? = some c := k2
      by_cases ek : k' = k
      · refine Or.inr (Or.inl ⟨rfl, f, c, rfl, ?_, sfF_up h1 (Nat.le_refl f), Or.inl k3⟩)
        show mmUp cls f ((C.1.1.1 (mmf fr f).1.1).getD k 0) f = some c
        unfold mmUp
        rw [if_pos rfl, List.getD_eq_getElem?_getD, ← ek, k2]
        rfl
      · have hl := (List.getElem?_eq_some_iff.mp k2).1
        refine Or.inr (Or.inr ⟨(f, k + 1, t), ?_, sfF_up h1 (Nat.le_refl f), k', c, ?_, k2, k3⟩)
        · show (f, k + 1, t) ∈ (if k + 1 < (C.1.1.1 (mmf fr f).1.1).length then (f, k + 1, t) :: ch' else ch')
          rw [if_pos (by omega)]
          exact List.mem_cons_self
        · show k + 1 ≤ k'
          omega
    · have hlt : e.1 < f := (p1 e q).1
      refine Or.inr (Or.inr ⟨e, ?_, sfE_up ⟨h1, k', c, k1, k2, k3⟩ (Nat.le_of_lt hlt)⟩)
      show e ∈ (if k + 1 < (C.1.1.1 (mmf fr f).1.1).length then (f, k + 1, t) :: ch' else ch')
      split
      · exact List.mem_cons_of_mem _ q
      · exact q
theorem back_sf {fr : List mmF} {cls : Nat → Option Nat} {V : mmV} {ch : mmH} {T : mmT} {cur den : Option Nat} {pl : Nat} {fl : Bool} {tm : List smG} {nn : Nat × Nat × Nat × Nat} {nt : List (Nat × Nat)} (hpw : mmPw ch) (h : sfH C fr cls ch) : sfX C (mmBack C ((fr, cls, V, ch, T), (cur, pl, den, fl), tm, nn, nt)) := by
  unfold mmBack
  cases den with
  | none => exact pop_sf hpw h
  | some d =>
    simp only
    split
    · exact Or.inr (Or.inr h)
    · exact pop_sf hpw h
theorem goal_sfH {i : Nat} {e : mmO} {fr : List mmF} {cls : Nat → Option Nat} {V : mmV} {ch : mmH} {T : mmT} {cf : Option Nat × Nat × Option Nat × Bool} {tm : List smG} {nn : Nat × Nat × Nat × Nat} {nt : List (Nat × Nat)} (h : sfH C fr cls ch) : sfX C (mmGoal C i e ((fr, cls, V, ch, T), cf, tm, nn, nt)) := by
  obtain ⟨cur, pl, den, fl⟩ := cf
  obtain ⟨na, ns, nc, dp⟩ := nn
  obtain ⟨x, x1, x2⟩ := h
  have hx := sfF_lt x2.1
  unfold mmGoal
  simp only
  split
  · exact Nat.one_ne_zero
  · split
    · split
      · exact Nat.one_ne_zero
      · split
        · exact Nat.one_ne_zero
        · split
          · exact enter_sfH ⟨x, x1, Nat.le_of_lt hx, sfE_app x2⟩
          · exact enter_sfH ⟨x, x1, Nat.le_of_lt hx, sfE_app x2⟩
    · split
      · show (2 : Nat) ≠ 0
        decide
      · exact Or.inr (Or.inr ⟨x, x1, x2⟩)
theorem leave_sfH {j : Nat} {fr : List mmF} {G : mmGh} {top : List mmCG} {lv : List (mmLG × List mmCG)} {cls : Nat → Option Nat} {V : mmV} {ch : mmH} {T : mmT} {cur den : Option Nat} {pl na ns nc dp : Nat} {tm : List smG} {nt : List (Nat × Nat)} (hlv : mmLv fr G top lv ch den) (hco : ∀ c, c ∈ top ++ lv.flatMap (fun l => l.2) → mmCo C Gd fr G cls V T c) (hn : mmCn C Gd fr G j) (hbs : mmBs fr G (mmHd lv) j) (h : sfH C fr cls ch) : sfX C (mmLeave C j ((fr, cls, V, ch, T), (cur, pl, den, false), tm, (na, ns, nc, dp), nt)) := by
  cases hp : (mmf fr j).2.1.1 with
  | none =>
    by_cases h5 : 50 ≤ na
    · rw [mmLeave_0 hp h5]
      exact Nat.one_ne_zero
    · rw [mmLeave_1 hp h5]
      exact Or.inl (Nat.le_add_left 1 na)
  | some i =>
    obtain ⟨q, hrr⟩ : ∃ q, mmHb (C.2.1.1 (mmf fr j).1.1 (mmf fr j).1.2) j i (mmBy C fr cls j i) (List.range (mmBy C fr cls j i).2.2.1) V T = q := ⟨_, rfl⟩
    by_cases hd : (mmf fr j).2.2.1 = true
    · by_cases hr1 : q.1 = true
      · rw [mmLeave_2 hp hrr hd hr1]
        refine Or.inr (Or.inr ?_)
        show sfH C fr cls (ch.drop (ch.length - (mmf fr j).2.2.2.2))
        cases lv with
        | nil =>
          have := hbs j hn.1
          rw [hd] at this
          cases this
        | cons lo lv2 =>
          obtain ⟨l, outer⟩ := lo
          obtain ⟨b1, b2⟩ : l.1 ∈ G.2.1 j ∧ ∀ x, x ∈ G.2.1 j → l.1 < x → (mmf fr x).2.2.1 = false := hbs
          have hle := mmCn_le hn b1
          have elj : l.1 = j := by
            by_cases c : l.1 < j
            · have := b2 j hn.1 c
              rw [hd] at this
              cases this
            · omega
          obtain ⟨-, l2, -, -, ch', l3, l4, -⟩ := hlv
          rw [elj] at l4
          obtain ⟨e, e1, e2⟩ := h
          have hdrop : ch.drop (ch.length - (mmf fr j).2.2.2.2) = ch' := by
            rw [l3, ← l4, List.length_append, Nat.add_sub_cancel, List.drop_left]
          rw [hdrop]
          rw [l3] at e1
          rcases List.mem_append.mp e1 with k | k
          · exfalso
            obtain ⟨cg, c1, c2⟩ := List.mem_map.mp k
            obtain ⟨m1, -⟩ := l2 cg c1
            have m2 : l.1 ∈ G.2.1 cg.1.1 := m1.1
            have m3 := (hco cg (List.mem_append_left _ c1)).1
            have m4 : sfF C fr cls cg.1.1 := by rw [c2]; exact e2.1
            have m5 := sfF_anc (cg.1.1 + 1) cg.1.1 (Nat.lt_succ_self _) m3 m4 l.1 m2
            rw [elj, hd] at m5
            cases m5
          · exact ⟨e, k, e2⟩
      · rw [mmLeave_3 hp hrr hd hr1]
        exact Or.inr (Or.inr h)
    · rw [mmLeave_4 hp hrr hd]
      exact Or.inr (Or.inr h)
end CNF2
