/-! Own rows: what cannot fail answers: a run. By hand; nothing of the bytecode. -/
section CNF3
variable {C : mmC} {Gd : Nat × Nat → Prop}
def vlX : mmS ⊕ (Nat × mmS) → Prop
  | .inl S => vlI S.1.2.2.1
  | .inr _ => True
theorem pop_vl {S : mmS} (h : vlI S.1.2.2.1) : vlX (mmPop C S) := by
  obtain ⟨⟨fr, cls, V, ch, T⟩, ⟨cur, pl, den, fl⟩, tm, nn, nt⟩ := S
  unfold mmPop
  cases ch with
  | nil => trivial
  | cons a ch' =>
    obtain ⟨f, k, t⟩ := a
    exact vl_un h
theorem back_vl {S : mmS} (h : vlI S.1.2.2.1) : vlX (mmBack C S) := by
  obtain ⟨⟨fr, cls, V, ch, T⟩, ⟨cur, pl, den, fl⟩, tm, nn, nt⟩ := S
  unfold mmBack
  cases den with
  | none => exact pop_vl h
  | some d =>
    simp only
    split
    · exact h
    · exact pop_vl h
theorem leave_vl {j : Nat} {S : mmS} (h : vlI S.1.2.2.1) : vlX (mmLeave C j S) := by
  obtain ⟨⟨fr, cls, V, ch, T⟩, ⟨cur, pl, den, fl⟩, tm, ⟨na, ns, nc, dp⟩, nt⟩ := S
  have h : vlI V := h
  cases hp : (mmf fr j).2.1.1 with
  | none =>
    by_cases h5 : 50 ≤ na
    · rw [mmLeave_0 hp h5]
      trivial
    · rw [mmLeave_1 hp h5]
      exact h
  | some i =>
    obtain ⟨q, hrr⟩ : ∃ q, mmHb (C.2.1.1 (mmf fr j).1.1 (mmf fr j).1.2) j i (mmBy C fr cls j i) (List.range (mmBy C fr cls j i).2.2.1) V T = q := ⟨_, rfl⟩
    have hq : vlI q.2.1 := by rw [← hrr]; exact vl_hb _ V T h
    by_cases hd : (mmf fr j).2.2.1 = true
    · by_cases hr1 : q.1 = true
      · rw [mmLeave_2 hp hrr hd hr1]
        exact hq
      · rw [mmLeave_3 hp hrr hd hr1]
        exact hq
    · rw [mmLeave_4 hp hrr hd]
      exact hq
theorem goal_vl {i : Nat} {e : mmO} {S : mmS} (hk : e.1.1 = 0 → e.1.2.1 < 3) (hk3 : e.1.1 ≤ 3) (h : vlI S.1.2.2.1) : vlX (mmGoal C i e S) := by
  obtain ⟨⟨fr, cls, V, ch, T⟩, ⟨cur, pl, den, fl⟩, tm, ⟨na, ns, nc, dp⟩, nt⟩ := S
  have h : vlI V := h
  unfold mmGoal
  simp only
  split
  · trivial
  · split
    · split
      · trivial
      · split
        · trivial
        · split
          · show vlI (mmEnter C _ _).1.2.2.1
            rw [enter_V]
            exact vl_new h (vl_args h)
          · show vlI (mmEnter C _ _).1.2.2.1
            rw [enter_V]
            exact vl_new h (vl_args h)
    · rename_i hc
      split
      · trivial
      · rename_i r hr
        refine vl_eq h ?_ hr
        by_cases c : e.1.1 = 1
        · exact Or.inl c
        · exact Or.inr (hk (by omega))
theorem step_sf (hF : mmFa C Gd) {G : mmGh} {top : List mmCG} {lv : List (mmLG × List mmCG)} {an : Option (Nat × Nat)} {S : mmS} (hI : mmIn C Gd G top lv an S) (hV : vlI S.1.2.2.1) (h : sfA C S ∨ sfH C S.1.1 S.1.2.1 S.1.2.2.2.1) : sfX C (mmStep C S) ∧ vlX (mmStep C S) := by
  obtain ⟨⟨fr, cls, V, ch, T⟩, ⟨cur, pl, den, fl⟩, tm, ⟨na, ns, nc, dp⟩, nt⟩ := S
  have hV : vlI V := hV
  cases fl with
  | true =>
    have e : mmStep C ((fr, cls, V, ch, T), (cur, pl, den, true), tm, (na, ns, nc, dp), nt) = mmBack C ((fr, cls, V, ch, T), (cur, pl, den, true), tm, (na, ns, nc, dp), nt) := rfl
    rw [e]
    refine ⟨?_, back_vl hV⟩
    rcases h with ⟨k, -⟩ | k
    · cases k
    · exact back_sf hI.2.2.2.1 k
  | false =>
    obtain ⟨hlv, hco, hlo, hpw, -, hac⟩ := hI
    obtain ⟨i, c, -, e2, hac2, hbs⟩ := hac rfl
    subst e2
    have hc := hac2.2.2.1
    have e : mmStep C ((fr, cls, V, ch, T), (some i, pl, den, false), tm, (na, ns, nc, dp), nt) = match (C.2.1.2 (mmf fr i).1.2 c)[pl]? with
      | none => mmLeave C i ((fr, cls, V, ch, T), (some i, pl, den, false), tm, (na, ns, nc, dp), nt)
      | some e => mmGoal C i e ((fr, cls, V, ch, T), (some i, pl, den, false), tm, (na, ns, nc, dp), nt) := by
      unfold mmStep
      simp only [Option.bind_some, hc]
      cases (C.2.1.2 (mmf fr i).1.2 c)[pl]? <;> rfl
    rw [e]
    have hA : sfA C ((fr, cls, V, ch, T), (some i, pl, den, false), tm, (na, ns, nc, dp), nt) → sfF C fr cls i ∧ (sfR C (mmf fr i).1 c pl ∨ sfW C (mmf fr i).1 (V i) c pl) := by
      rintro ⟨-, i', c', q1, q2, q3, q4⟩
      have ei : i = i' := Option.some.inj q1
      subst ei
      have ec : c = c' := Option.some.inj (hc.symm.trans q2)
      subst ec
      exact ⟨q3, q4⟩
    cases hpl : (C.2.1.2 (mmf fr i).1.2 c)[pl]? with
    | none =>
      simp only
      refine ⟨?_, leave_vl hV⟩
      rcases h with k | k
      · exact leave_sf hac2.1 hac2.2.1 (hA k).1
      · exact leave_sfH hlv hco hac2.1 hbs k
    | some e =>
      simp only
      have hgd : Gd (mmf fr i).1 := (hac2.1.2 i hac2.1.1).2.1
      have hgo := ((hF.2.2 _ hgd).1 c hac2.2.2.2.1).2.1 _ e hpl
      refine ⟨?_, goal_vl (fun z => ?_) (mmGo_kind hgo) hV⟩
      · rcases h with k | k
        · obtain ⟨k1, k2⟩ := hA k
          exact goal_sf hF hac2 hpl hV k1 k2
        · exact goal_sfH k
      · rcases hgo with ⟨-, k, -⟩ | ⟨k, -⟩ | ⟨k, -⟩
        · exact k
        · omega
        · omega
theorem run_nf (hF : mmFa C Gd) : ∀ (n : Nat) (G : mmGh) (top : List mmCG) (lv : List (mmLG × List mmCG)) (an : Option (Nat × Nat)) (S : mmS) (r : Nat × mmS), mmIn C Gd G top lv an S → vlI S.1.2.2.1 → sfS C S → mmRun C n S = some r → r.1 = 0 → 1 ≤ mmNa r.2 := by
  intro n
  induction n with
  | zero => intro G top lv an S r _ _ _ h; cases h
  | succ n ih =>
    intro G top lv an S r hI hV hS h h0
    by_cases hna : 1 ≤ mmNa S
    · exact Nat.le_trans hna (mm_run hF _ G top lv an S r hI h h0).1
    · have q := mm_step hF hI
      obtain ⟨q1, q2⟩ := step_sf hF hI hV (hS.resolve_left hna)
      unfold mmRun at h
      cases hs : mmStep C S with
      | inl S' =>
        rw [hs] at q q1 q2 h
        obtain ⟨G', top', lv', an', p1, -⟩ := q
        exact ih G' top' lv' an' S' r p1 q2 q1 h h0
      | inr r' =>
        rw [hs] at q1 h
        cases h
        exact absurd h0 q1
theorem ans_nf (hF : mmFa C Gd) {tm : List smG} {pm : Nat × Nat} {o : Nat → Option smG} (hg : Gd pm) (har : C.1.2 pm.1 ≤ 3) (ho : ∀ k, o k ≠ none ↔ C.2.1.1 pm.1 pm.2 k = true) (hov : ∀ k g, o k = some g → vlG g) (hn : C.2.2.2.1 pm.1 pm.2 = false) {n : Nat} {r : Nat × mmS} (h : mmRun C n (mmStart C tm pm o) = some r) (h0 : r.1 = 0) : 1 ≤ mmNa r.2 := by
  obtain ⟨G, top, an, h1, h2, -⟩ := mm_root hF (tm := tm) hg har ho
  have hV : vlI (mmNew (fun _ _ => none) 0 o) := vl_new (fun _ _ _ z => nomatch z) hov
  refine run_nf hF n G top [] an _ r h1 ?_ ?_ h h0
  · show vlI (mmEnter C 0 _).1.2.2.1
    rw [enter_V]
    exact hV
  · refine enter_sf hF ⟨[0], List.mem_singleton.mpr rfl, fun x hx => ?_⟩ hg hn (fun x hx => ?_) hV
    · rw [List.mem_singleton.mp hx]
      exact ⟨Nat.le_refl _, Nat.zero_lt_one, rfl, fun i hi => nomatch hi⟩
    · show mmNew (fun _ _ => none) 0 o 0 x ≠ none
      unfold mmNew
      rw [if_pos rfl]
      exact (ho x).mpr hx
end CNF3
