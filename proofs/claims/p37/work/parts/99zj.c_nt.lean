/-! Own rows: bounds of a run, and what its record holds. By hand; nothing of the bytecode. -/
def cnS (s : Nat) (l : List (Nat × Nat)) : Nat := (l.filter (fun e => e.1 == s)).length
theorem cnS_app {s : Nat} {l : List (Nat × Nat)} {x : Nat × Nat} : cnS s (l ++ [x]) = cnS s l + (if x.1 = s then 1 else 0) := by
  unfold cnS
  rw [List.filter_append, List.length_append]
  congr 1
  by_cases c : x.1 = s
  · rw [if_pos c, List.filter_cons_of_pos (by simpa using c)]
    rfl
  · rw [if_neg c, List.filter_cons_of_neg (by simpa using c)]
    rfl
/-- a record that is sound -/
def ntO (p : Nat) (nt : List (Nat × Nat)) : Prop := nt.length ≤ 80 ∧ nt[0]? = some (99, 100 * p + 1) ∧ (∀ e, e ∈ nt → (e.1 = 99 ∨ e.1 = 120 ∨ e.1 = 114 ∨ e.1 = 102) ∧ 1 ≤ e.2 % 100 ∧ e.2 % 100 ≤ 30) ∧ ∀ k, cnS 102 (nt.take k) ≤ cnS 99 (nt.take k)
theorem take_ap1 {T : Type} {l : List T} {x : T} {k : Nat} : (l ++ [x]).take k = if k ≤ l.length then l.take k else l ++ [x] := by
  by_cases c : k ≤ l.length
  · rw [if_pos c, List.take_append_of_le_length c]
  · rw [if_neg c, List.take_of_length_le (by rw [List.length_append, List.length_singleton]; omega)]
theorem ntO_note {p s q d : Nat} {nt : List (Nat × Nat)} (h : ntO p nt) (hs : s = 99 ∨ s = 120 ∨ s = 114) (hd : 1 ≤ d ∧ d ≤ 30) : ntO p (mmNote nt s q d) := by
  obtain ⟨h1, h2, h3, h4⟩ := h
  unfold mmNote
  by_cases c : nt.length < 80
  · rw [if_pos c]
    refine ⟨by rw [List.length_append, List.length_singleton]; omega, ?_, fun e he => ?_, fun k => ?_⟩
    · rw [List.getElem?_append_left (List.getElem?_eq_some_iff.mp h2).1]
      exact h2
    · rcases List.mem_append.mp he with k | k
      · exact h3 e k
      · rw [List.mem_singleton.mp k]
        exact ⟨by show s = 99 ∨ s = 120 ∨ s = 114 ∨ s = 102; omega, by show 1 ≤ (100 * q + d) % 100; omega, by show (100 * q + d) % 100 ≤ 30; omega⟩
    · rw [take_ap1]
      by_cases c2 : k ≤ nt.length
      · rw [if_pos c2]; exact h4 k
      · rw [if_neg c2, cnS_app, cnS_app, if_neg (by show ¬ s = 102; omega)]
        have := h4 nt.length
        rw [List.take_length] at this
        omega
  · rw [if_neg c]
    exact ⟨h1, h2, h3, h4⟩
theorem ntO_2 {p q d q' d' : Nat} {nt : List (Nat × Nat)} (h : ntO p nt) (hd : 1 ≤ d ∧ d ≤ 30) (hd' : 1 ≤ d' ∧ d' ≤ 30) : ntO p (mmNote (mmNote nt 99 q d) 102 q' d') := by
  have hn := ntO_note (q := q) h (Or.inl rfl) hd
  by_cases c : (mmNote nt 99 q d).length < 80
  · have c0 : nt.length < 80 := by
      unfold mmNote at c
      by_cases c0 : nt.length < 80
      · exact c0
      · rw [if_neg c0] at c; exact c
    have e0 : mmNote nt 99 q d = nt ++ [(99, 100 * q + d)] := if_pos c0
    have e1 : mmNote (mmNote nt 99 q d) 102 q' d' = mmNote nt 99 q d ++ [(102, 100 * q' + d')] := if_pos c
    rw [e1]
    obtain ⟨h1, h2, h3, h4⟩ := hn
    refine ⟨by rw [List.length_append, List.length_singleton]; omega, ?_, fun e he => ?_, fun k => ?_⟩
    · rw [List.getElem?_append_left (List.getElem?_eq_some_iff.mp h2).1]
      exact h2
    · rcases List.mem_append.mp he with k | k
      · exact h3 e k
      · rw [List.mem_singleton.mp k]
        exact ⟨Or.inr (Or.inr (Or.inr rfl)), by show 1 ≤ (100 * q' + d') % 100; omega, by show (100 * q' + d') % 100 ≤ 30; omega⟩
    · rw [take_ap1]
      by_cases c2 : k ≤ (mmNote nt 99 q d).length
      · rw [if_pos c2]; exact h4 k
      · rw [if_neg c2, e0, cnS_app, cnS_app, cnS_app, cnS_app]
        have := h.2.2.2 nt.length
        rw [List.take_length] at this
        have d1 : (if (((99, 100 * q + d) : Nat × Nat)).1 = 102 then 1 else 0) = 0 := rfl
        have d2 : (if (((99, 100 * q + d) : Nat × Nat)).1 = 99 then 1 else 0) = 1 := rfl
        have d3 : (if (((102, 100 * q' + d') : Nat × Nat)).1 = 102 then 1 else 0) = 1 := rfl
        have d4 : (if (((102, 100 * q' + d') : Nat × Nat)).1 = 99 then 1 else 0) = 0 := rfl
        rw [d1, d2, d3, d4]
        omega
  · have e1 : mmNote (mmNote nt 99 q d) 102 q' d' = mmNote nt 99 q d := if_neg c
    rw [e1]
    exact hn
abbrev mmDp (fr : List mmF) (j : Nat) : Nat := (mmf fr j).2.1.2.2
/-- the bounds of a state -/
def nvP (p : Nat) (fr : List mmF) (nn : Nat × Nat × Nat × Nat) (nt : List (Nat × Nat)) : Prop := (∀ j, j < fr.length → 1 ≤ mmDp fr j ∧ mmDp fr j ≤ 30) ∧ nn.1 ≤ 50 ∧ nn.2.1 ≤ 300 ∧ (1 ≤ nn.2.2.2 ∧ nn.2.2.2 ≤ 30) ∧ ntO p nt
def nvI (p : Nat) (S : mmS) : Prop := nvP p S.1.1 S.2.2.2.1 S.2.2.2.2
section CNT
variable {C : mmC} {Gd : Nat × Nat → Prop}
theorem enter_nv {p j : Nat} {fr : List mmF} {cls : Nat → Option Nat} {V : mmV} {ch : mmH} {T : mmT} {cf : Option Nat × Nat × Option Nat × Bool} {tm : List smG} {nn : Nat × Nat × Nat × Nat} {nt : List (Nat × Nat)} (h : nvP p fr nn nt) (hj : j < fr.length) : nvI p (mmEnter C j ((fr, cls, V, ch, T), cf, tm, nn, nt)) := by
  obtain ⟨cur, pl, den, fl⟩ := cf
  obtain ⟨na, ns, nc, dp⟩ := nn
  obtain ⟨h1, h2, h3, h4, h5⟩ := h
  have h4 : 1 ≤ dp ∧ dp ≤ 30 := h4
  have hd := h1 j hj
  have hd : 1 ≤ (mmf fr j).2.1.2.2 ∧ (mmf fr j).2.1.2.2 ≤ 30 := hd
  cases hf : mmFirst C V (mmf fr j).1 j with
  | none =>
    rw [mmEnter_0 hf]
    exact ⟨h1, h2, h3, ⟨by show 1 ≤ max dp _; omega, by show max dp _ ≤ 30; omega⟩, ntO_2 h5 hd hd⟩
  | some c =>
    by_cases hs : C.2.2.1 (mmf fr j).1.1 (mmf fr j).1.2 = none ∧ 1 < (C.1.1.1 (mmf fr j).1.1).length
    · rw [mmEnter_1 hf hs]
      exact ⟨h1, h2, h3, ⟨by show 1 ≤ max dp _; omega, by show max dp _ ≤ 30; omega⟩, ntO_note h5 (Or.inl rfl) hd⟩
    · rw [mmEnter_2 hf hs]
      exact ⟨h1, h2, h3, ⟨by show 1 ≤ max dp _; omega, by show max dp _ ≤ 30; omega⟩, ntO_note h5 (Or.inl rfl) hd⟩
def nvR (p : Nat) : mmS ⊕ (Nat × mmS) → Prop
  | .inl S => nvI p S
  | .inr r => nvI p r.2
theorem pop_nv {p : Nat} {S : mmS} (h : nvI p S) (hc : ∀ e, e ∈ S.1.2.2.2.1 → e.1 < S.1.1.length) : nvR p (mmPop C S) := by
  obtain ⟨⟨fr, cls, V, ch, T⟩, ⟨cur, pl, den, fl⟩, tm, nn, nt⟩ := S
  unfold mmPop
  cases ch with
  | nil => exact h
  | cons e ch' =>
    obtain ⟨f, k, t⟩ := e
    obtain ⟨h1, h2, h3, h4, h5⟩ := h
    exact ⟨h1, h2, h3, h4, ntO_note h5 (Or.inr (Or.inr rfl)) (h1 f (hc (f, k, t) List.mem_cons_self))⟩
theorem back_nv {p : Nat} {S : mmS} (h : nvI p S) (hc : ∀ e, e ∈ S.1.2.2.2.1 → e.1 < S.1.1.length) : nvR p (mmBack C S) := by
  obtain ⟨⟨fr, cls, V, ch, T⟩, ⟨cur, pl, den, fl⟩, tm, nn, nt⟩ := S
  unfold mmBack
  cases den with
  | none => exact pop_nv h hc
  | some d =>
    simp only
    split
    · exact h
    · exact pop_nv h hc
theorem leave_nv {p j : Nat} {S : mmS} (h : nvI p S) (hj : j < S.1.1.length) : nvR p (mmLeave C j S) := by
  obtain ⟨⟨fr, cls, V, ch, T⟩, ⟨cur, pl, den, fl⟩, tm, ⟨na, ns, nc, dp⟩, nt⟩ := S
  obtain ⟨h1, h2, h3, h4, h5⟩ := h
  have hn : ntO p (mmNote nt 120 (mmf fr j).1.1 (mmf fr j).2.1.2.2) := ntO_note h5 (Or.inr (Or.inl rfl)) (h1 j hj)
  have h2 : na ≤ 50 := h2
  cases hp : (mmf fr j).2.1.1 with
  | none =>
    by_cases h5' : 50 ≤ na
    · rw [mmLeave_0 hp h5']
      exact ⟨h1, h2, h3, h4, hn⟩
    · rw [mmLeave_1 hp h5']
      exact ⟨h1, by show na + 1 ≤ 50; omega, h3, h4, hn⟩
  | some i =>
    obtain ⟨q, hrr⟩ : ∃ q, mmHb (C.2.1.1 (mmf fr j).1.1 (mmf fr j).1.2) j i (mmBy C fr cls j i) (List.range (mmBy C fr cls j i).2.2.1) V T = q := ⟨_, rfl⟩
    by_cases hd : (mmf fr j).2.2.1 = true
    · by_cases hr1 : q.1 = true
      · rw [mmLeave_2 hp hrr hd hr1]
        exact ⟨h1, h2, h3, h4, hn⟩
      · rw [mmLeave_3 hp hrr hd hr1]
        exact ⟨h1, h2, h3, h4, hn⟩
    · rw [mmLeave_4 hp hrr hd]
      exact ⟨h1, h2, h3, h4, hn⟩
theorem goal_nv {p i : Nat} {e : mmO} {S : mmS} (h : nvI p S) : nvR p (mmGoal C i e S) := by
  obtain ⟨⟨fr, cls, V, ch, T⟩, ⟨cur, pl, den, fl⟩, tm, ⟨na, ns, nc, dp⟩, nt⟩ := S
  obtain ⟨h1, h2, h3, h4, h5⟩ := h
  have h3 : ns ≤ 300 := h3
  unfold mmGoal
  simp only
  split
  · exact ⟨h1, h2, h3, h4, h5⟩
  · rename_i hns
    have h3' : ns + 1 ≤ 300 := by omega
    split
    · split
      · exact ⟨h1, h2, h3', h4, h5⟩
      · split
        · exact ⟨h1, h2, h3', h4, h5⟩
        · rename_i hdp
          have hfr : ∀ (f : mmF), f.2.1.2.2 = (mmf fr i).2.1.2.2 + 1 → ∀ j, j < (fr ++ [f]).length → 1 ≤ mmDp (fr ++ [f]) j ∧ mmDp (fr ++ [f]) j ≤ 30 := fun f hf j hj => by
            rw [List.length_append, List.length_singleton] at hj
            show 1 ≤ (mmf (fr ++ [f]) j).2.1.2.2 ∧ (mmf (fr ++ [f]) j).2.1.2.2 ≤ 30
            rw [mmf_app]
            by_cases c : j < fr.length
            · rw [if_pos c]
              exact h1 j c
            · rw [if_neg c, if_pos (by omega), hf]
              omega
          split
          · exact enter_nv ⟨hfr _ rfl, h2, h3', h4, h5⟩ (by rw [List.length_append]; exact Nat.lt_succ_self _)
          · exact enter_nv ⟨hfr _ rfl, h2, h3', h4, h5⟩ (by rw [List.length_append]; exact Nat.lt_succ_self _)
    · split
      · exact ⟨h1, h2, h3', h4, h5⟩
      · exact ⟨h1, h2, h3', h4, h5⟩
theorem step_nv {p : Nat} {G : mmGh} {top : List mmCG} {lv : List (mmLG × List mmCG)} {an : Option (Nat × Nat)} {S : mmS} (hI : mmIn C Gd G top lv an S) (h : nvI p S) : nvR p (mmStep C S) := by
  obtain ⟨⟨fr, cls, V, ch, T⟩, ⟨cur, pl, den, fl⟩, tm, nn, nt⟩ := S
  obtain ⟨hlv, hco, hlo, hpw, -, hac⟩ := hI
  have hch : ∀ e, e ∈ ch → e.1 < fr.length := fun e he => by
    rw [mmLv_mem lv top ch den hlv] at he
    obtain ⟨c, hc, rfl⟩ := List.mem_map.mp he
    obtain ⟨h1, -⟩ := hco c hc
    exact (h1.2 _ h1.1).1
  cases fl with
  | true => exact back_nv (S := ((fr, cls, V, ch, T), (cur, pl, den, true), tm, nn, nt)) h hch
  | false =>
    obtain ⟨i, c, -, e2, hac2, -⟩ := hac rfl
    subst e2
    have hc := hac2.2.2.1
    have hil : i < fr.length := (hac2.1.2 i hac2.1.1).1
    have e : mmStep C ((fr, cls, V, ch, T), (some i, pl, den, false), tm, nn, nt) = match (C.2.1.2 (mmf fr i).1.2 c)[pl]? with
      | none => mmLeave C i ((fr, cls, V, ch, T), (some i, pl, den, false), tm, nn, nt)
      | some e => mmGoal C i e ((fr, cls, V, ch, T), (some i, pl, den, false), tm, nn, nt) := by
      unfold mmStep
      simp only [Option.bind_some, hc]
      cases (C.2.1.2 (mmf fr i).1.2 c)[pl]? <;> rfl
    rw [e]
    cases (C.2.1.2 (mmf fr i).1.2 c)[pl]? with
    | none => exact leave_nv h hil
    | some e => exact goal_nv h
theorem run_nv (hF : mmFa C Gd) {p : Nat} : ∀ (n : Nat) (G : mmGh) (top : List mmCG) (lv : List (mmLG × List mmCG)) (an : Option (Nat × Nat)) (S : mmS) (r : Nat × mmS), mmIn C Gd G top lv an S → nvI p S → mmRun C n S = some r → nvI p r.2 := by
  intro n
  induction n with
  | zero => intro G top lv an S r _ _ h; cases h
  | succ n ih =>
    intro G top lv an S r hI hv h
    have q := mm_step hF hI
    have q2 := step_nv hI hv
    unfold mmRun at h
    cases hs : mmStep C S with
    | inl S' =>
      rw [hs] at q q2 h
      obtain ⟨G', top', lv', an', q1, -⟩ := q
      exact ih G' top' lv' an' S' r q1 q2 h
    | inr r' =>
      rw [hs] at q2 h
      cases h
      exact q2
theorem ans_nv (hF : mmFa C Gd) {tm : List smG} {pm : Nat × Nat} {o : Nat → Option smG} (hg : Gd pm) (har : C.1.2 pm.1 ≤ 3) (ho : ∀ k, o k ≠ none ↔ C.2.1.1 pm.1 pm.2 k = true) {n : Nat} {r : Nat × mmS} (h : mmRun C n (mmStart C tm pm o) = some r) : nvI pm.1 r.2 := by
  obtain ⟨G, top, an, h1, h2, -⟩ := mm_root hF (tm := tm) hg har ho
  refine run_nv hF n G top [] an _ r h1 ?_ h
  have hdep : ∀ j, j < ([(pm, (none, 0, 1), false, none, 0)] : List mmF).length → 1 ≤ mmDp ([(pm, (none, 0, 1), false, none, 0)] : List mmF) j ∧ mmDp ([(pm, (none, 0, 1), false, none, 0)] : List mmF) j ≤ 30 := fun j hj => by
    have e0 : j = 0 := by
      have hj : j < 1 := hj
      omega
    rw [e0]
    exact ⟨Nat.le_refl _, Nat.le_of_ble_eq_true rfl⟩
  have hnt1 : ntO pm.1 [(99, 100 * pm.1 + 1)] := by
    refine ⟨Nat.le_of_ble_eq_true rfl, rfl, fun e he => ?_, fun k => ?_⟩
    · rw [List.mem_singleton.mp he]
      exact ⟨Or.inl rfl, by show 1 ≤ (100 * pm.1 + 1) % 100; omega, by show (100 * pm.1 + 1) % 100 ≤ 30; omega⟩
    · cases k with
      | zero => exact Nat.le_refl _
      | succ k =>
        rw [List.take_of_length_le (by show 1 ≤ k + 1; omega)]
        exact Nat.zero_le _
  have hnt2 : ntO pm.1 (mmNote (mmNote [] 99 pm.1 1) 102 pm.1 1) := by
    refine ⟨Nat.le_of_ble_eq_true rfl, rfl, fun e he => ?_, fun k => ?_⟩
    · have he : e ∈ [(99, 100 * pm.1 + 1), (102, 100 * pm.1 + 1)] := he
      rcases List.mem_cons.mp he with q | q
      · rw [q]
        exact ⟨Or.inl rfl, by show 1 ≤ (100 * pm.1 + 1) % 100; omega, by show (100 * pm.1 + 1) % 100 ≤ 30; omega⟩
      · rw [List.mem_singleton.mp q]
        exact ⟨Or.inr (Or.inr (Or.inr rfl)), by show 1 ≤ (100 * pm.1 + 1) % 100; omega, by show (100 * pm.1 + 1) % 100 ≤ 30; omega⟩
    · have e : mmNote (mmNote [] 99 pm.1 1) 102 pm.1 1 = [(99, 100 * pm.1 + 1), (102, 100 * pm.1 + 1)] := rfl
      rw [e]
      cases k with
      | zero => exact Nat.le_refl _
      | succ k => cases k with
        | zero => exact Nat.zero_le _
        | succ k =>
          rw [List.take_of_length_le (by show 2 ≤ k + 1 + 1; omega)]
          exact Nat.le_refl _
  unfold mmStart
  cases hf : mmFirst C (mmNew (fun _ _ => none) 0 o) (mmf ([(pm, (none, 0, 1), false, none, 0)] : List mmF) 0).1 0 with
  | none =>
    rw [mmEnter_0 hf]
    exact ⟨hdep, Nat.zero_le _, Nat.zero_le _, ⟨Nat.le_refl _, by show max 0 1 ≤ 30; decide⟩, hnt2⟩
  | some c =>
    by_cases hs : C.2.2.1 (mmf ([(pm, (none, 0, 1), false, none, 0)] : List mmF) 0).1.1 (mmf ([(pm, (none, 0, 1), false, none, 0)] : List mmF) 0).1.2 = none ∧ 1 < (C.1.1.1 (mmf ([(pm, (none, 0, 1), false, none, 0)] : List mmF) 0).1.1).length
    · rw [mmEnter_1 hf hs]
      exact ⟨hdep, Nat.zero_le _, Nat.zero_le _, ⟨Nat.le_refl _, by show max 0 1 ≤ 30; decide⟩, hnt1⟩
    · rw [mmEnter_2 hf hs]
      exact ⟨hdep, Nat.zero_le _, Nat.zero_le _, ⟨Nat.le_refl _, by show max 0 1 ≤ 30; decide⟩, hnt1⟩
end CNT
