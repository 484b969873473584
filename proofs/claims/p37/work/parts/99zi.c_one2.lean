/-! Own rows: what cannot repeat answers at most once: a run. By hand; nothing of the bytecode. -/
section CON2
variable {C : mmC} {Gd : Nat × Nat → Prop}
theorem pop_r {S : mmS} {r : Nat × mmS} (h : mmPop C S = .inr r) : mmNa r.2 = mmNa S := by
  obtain ⟨⟨fr, cls, V, ch, T⟩, ⟨cur, pl, den, fl⟩, tm, nn, nt⟩ := S
  unfold mmPop at h
  cases ch with
  | nil => cases h; rfl
  | cons e ch' => obtain ⟨f, k, t⟩ := e; cases h
theorem step_r {S : mmS} {r : Nat × mmS} (h : mmStep C S = .inr r) : mmNa r.2 = mmNa S := by
  obtain ⟨⟨fr, cls, V, ch, T⟩, ⟨cur, pl, den, fl⟩, tm, ⟨na, ns, nc, dp⟩, nt⟩ := S
  unfold mmStep at h
  simp only at h
  split at h
  · split at h
    · rename_i j c _ _ _
      cases hp : (mmf fr j).2.1.1 with
      | none =>
        by_cases h5 : 50 ≤ na
        · rw [mmLeave_0 hp h5] at h
          cases h
          rfl
        · rw [mmLeave_1 hp h5] at h
          cases h
      | some i =>
        obtain ⟨q, hrr⟩ : ∃ q, mmHb (C.2.1.1 (mmf fr j).1.1 (mmf fr j).1.2) j i (mmBy C fr cls j i) (List.range (mmBy C fr cls j i).2.2.1) V T = q := ⟨_, rfl⟩
        by_cases hd : (mmf fr j).2.2.1 = true
        · by_cases hr1 : q.1 = true
          · rw [mmLeave_2 hp hrr hd hr1] at h
            cases h
          · rw [mmLeave_3 hp hrr hd hr1] at h
            cases h
        · rw [mmLeave_4 hp hrr hd] at h
          cases h
    · unfold mmGoal at h
      simp only at h
      split at h
      · cases h; rfl
      · split at h
        · split at h
          · cases h; rfl
          · split at h
            · cases h; rfl
            · split at h <;> cases h
        · split at h
          · cases h; rfl
          · cases h
  · unfold mmBack at h
    cases den with
    | none => exact pop_r h
    | some d =>
      simp only at h
      split at h
      · cases h
      · exact pop_r h
theorem one_run (hF : mmFa C Gd) {pm : Nat × Nat} (hn : C.2.2.2.2 pm.1 pm.2 = false) : ∀ (n : Nat) (G : mmGh) (top : List mmCG) (lv : List (mmLG × List mmCG)) (an : Option (Nat × Nat)) (S : mmS) (r : Nat × mmS), mmIn C Gd G top lv an S → rtI pm S.1.1 → chI S.1.2.2.2.1 → mmNa S = 0 → mmRun C n S = some r → mmNa r.2 ≤ 1 := by
  intro n
  induction n with
  | zero => intro G top lv an S r _ _ _ _ h; cases h
  | succ n ih =>
    intro G top lv an S r hI hr hc h0 h
    have q := mm_step hF hI
    unfold mmRun at h
    cases hs : mmStep C S with
    | inr r' =>
      rw [hs] at h
      cases h
      rw [step_r hs, h0]
      exact Nat.zero_le _
    | inl S' =>
      rw [hs] at h q
      obtain ⟨k1, k2, k3⟩ := step_keep hr hc hs
      obtain ⟨G', top', lv', an', q1, -⟩ := q
      rcases k3 with k | ⟨ka, kb, kc, kd, i, ke, kf⟩
      · have h : mmRun C n S' = some r := h
        exact ih G' top' lv' an' S' r q1 k1 k2 (k.trans h0) h
      · obtain ⟨⟨fr, cls, V, ch, T⟩, ⟨cur, pl, den, fl⟩, tm, nn, nt⟩ := S
        have ke : cur = some i := ke
        have kd : fl = false := kd
        subst ke kd
        obtain ⟨hlv, hco, hlo, hpw, -, hac⟩ := hI
        obtain ⟨i', c, -, e2, hac2, hbs⟩ := hac rfl
        have ei : i = i' := Option.some.inj e2
        subst ei
        obtain ⟨hcn, -⟩ := hac2
        have kf : (mmf fr i).2.1.1 = none := kf
        obtain ⟨-, -, hk⟩ := hcn.2 i hcn.1
        have hroot : G.2.1 i = [i] ∧ (mmf fr i).2.2.1 = false := by
          rcases hk with ⟨-, -, a, b, -⟩ | ⟨j, a, -⟩
          · exact ⟨a, b⟩
          · rw [kf] at a; cases a
        have hdc : den = none ∧ ch = [] := by
          cases lv with
          | cons l lv2 =>
            exfalso
            have hbs : l.1.1 ∈ G.2.1 i ∧ _ := hbs
            rw [hroot.1] at hbs
            have el := List.mem_singleton.mp hbs.1
            have := (hlo l List.mem_cons_self).2.2.1
            rw [el, hroot.2] at this
            cases this
          | nil =>
            obtain ⟨d1, d2, d3⟩ := hlv
            refine ⟨d1, ?_⟩
            cases top with
            | nil => exact d3
            | cons cg top2 =>
              exfalso
              refine mmCo_nr hF hn hr (hco cg (List.mem_append_left _ List.mem_cons_self)) (d2 cg List.mem_cons_self) (hc cg.1 ?_)
              show cg.1 ∈ ch
              rw [d3]
              exact List.mem_cons_self
        obtain ⟨d1, d2⟩ := hdc
        obtain ⟨⟨fr', cls', V', ch', T'⟩, ⟨cur', pl', den', fl'⟩, tm', nn', nt'⟩ := S'
        have kb : (fr', cls', V', ch', T') = (fr, cls, V, ch, T) := kb
        have kc : (cur', pl', den', fl') = (some i, pl, den, true) := kc
        have ka : nn'.1 = nn.1 + 1 := ka
        have h0 : nn.1 = 0 := h0
        cases kb
        cases kc
        have h : mmRun C n ((fr, cls, V, ch, T), (some i, pl, den, true), tm', nn', nt') = some r := h
        clear ih
        cases n with
        | zero => cases h
        | succ n =>
          unfold mmRun at h
          have hb : mmStep C ((fr, cls, V, ch, T), (some i, pl, den, true), tm', nn', nt') = .inr (0, ((fr, cls, V, ch, T), (some i, pl, den, false), tm', nn', nt')) := by
            rw [d1, d2]
            rfl
          rw [hb] at h
          cases h
          show nn'.1 ≤ 1
          omega
theorem one_ans (hF : mmFa C Gd) {tm : List smG} {pm : Nat × Nat} {o : Nat → Option smG} (hg : Gd pm) (har : C.1.2 pm.1 ≤ 3) (ho : ∀ k, o k ≠ none ↔ C.2.1.1 pm.1 pm.2 k = true) (hn : C.2.2.2.2 pm.1 pm.2 = false) {n : Nat} {r : Nat × mmS} (h : mmRun C n (mmStart C tm pm o) = some r) : mmNa r.2 ≤ 1 := by
  obtain ⟨G, top, an, h1, h2, -⟩ := mm_root hF (tm := tm) hg har ho
  have hk := enter_keep (C := C) (j := 0) (fr := [(pm, (none, 0, 1), false, none, 0)]) (cls := fun _ => none) (V := mmNew (fun _ _ => none) 0 o) (ch := []) (T := []) (cf := (none, 0, none, false)) (tm := tm) (nn := (0, 0, 0, 0)) (nt := []) (fun e he => absurd he List.not_mem_nil)
  refine one_run hF hn n G top [] an _ r h1 ?_ hk.2.1 h2 h
  show rtI pm (mmEnter C 0 (([(pm, (none, 0, 1), false, none, 0)], fun _ => none, mmNew (fun _ _ => none) 0 o, [], []), (none, 0, none, false), tm, (0, 0, 0, 0), [])).1.1
  rw [hk.1]
  intro j hj _
  have e0 : j = 0 := by
    have hj : j < 1 := hj
    omega
  rw [e0]
  rfl
end CON2
