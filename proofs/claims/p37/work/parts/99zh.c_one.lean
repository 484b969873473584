/-! Own rows: what cannot repeat answers at most once. By hand; nothing of the bytecode. -/
section CONE
variable {C : mmC} {Gd : Nat × Nat → Prop}
/-- frames without a caller are the question's -/
def rtI (pm : Nat × Nat) (fr : List mmF) : Prop := ∀ j, j < fr.length → (mmf fr j).2.1.1 = none → (mmf fr j).1 = pm
/-- a frame with no denied one above it cannot repeat, if the question cannot -/
theorem nr_fr (hF : mmFa C Gd) {pm : Nat × Nat} (hn : C.2.2.2.2 pm.1 pm.2 = false) {fr : List mmF} {G : mmGh} (hr : rtI pm fr) : ∀ (n j : Nat), j ≤ n → mmCn C Gd fr G j → (∀ i, i ∈ G.2.1 j → (mmf fr i).2.2.1 = false) → C.2.2.2.2 (mmf fr j).1.1 (mmf fr j).1.2 = false := by
  intro n
  induction n with
  | zero =>
    intro j hj hc hd
    obtain ⟨c1, c2⟩ := hc
    obtain ⟨k1, k2, ⟨k3, -⟩ | ⟨i, -, k4, -⟩⟩ := c2 j c1
    · rw [hr j k1 k3]
      exact hn
    · omega
  | succ n ih =>
    intro j hj hc hd
    obtain ⟨c1, c2⟩ := hc
    obtain ⟨k1, k2, ⟨k3, -⟩ | ⟨i, k3, k4, k5, k6, k7, k8, e, e1, e2, e3, e4, -⟩⟩ := c2 j c1
    · rw [hr j k1 k3]
      exact hn
    · have hdi : ∀ a, a ∈ G.2.1 i → (mmf fr a).2.2.1 = false := fun a ha => hd a (by rw [k5]; exact List.mem_cons_of_mem _ ha)
      have hci : mmCn C Gd fr G i := ⟨k6, fun a ha => c2 a (by rw [k5]; exact List.mem_cons_of_mem _ ha)⟩
      have h1 := ih i (by omega) hci hdi
      obtain ⟨-, g2, -⟩ := hci.2 i k6
      have hdj := hd j c1
      rw [hdj, if_neg (by decide)] at e4
      have q := ((hF.2.2 (mmf fr i).1 g2).2.2.1 h1).2 (G.2.2 j) k7 e (List.mem_of_getElem? e1) e4 _ e3
      rw [e2] at q
      exact q
theorem mmCo_nr (hF : mmFa C Gd) {pm : Nat × Nat} (hn : C.2.2.2.2 pm.1 pm.2 = false) {fr : List mmF} {G : mmGh} {cls : Nat → Option Nat} {V : mmV} {T : mmT} (hr : rtI pm fr) {c : mmCG} (h : mmCo C Gd fr G cls V T c) (hb : mmBs fr G none c.1.1) (hk : 1 ≤ c.1.2.1) : False := by
  obtain ⟨h1, -, h3, h4, -⟩ := h
  have q := nr_fr hF hn hr c.1.1 c.1.1 (Nat.le_refl _) h1 hb
  obtain ⟨-, g2, -⟩ := h1.2 _ h1.1
  rcases ((hF.2.2 (mmf fr c.1.1).1 g2).2.2.1 q).1 with k | k
  · exact k h4
  · omega
/-- choices stand behind the first clause -/
def chI (ch : mmH) : Prop := ∀ e, e ∈ ch → 1 ≤ e.2.1
theorem mmf_app {fr : List mmF} {f : mmF} {j : Nat} : mmf (fr ++ [f]) j = if j < fr.length then mmf fr j else if j = fr.length then f else ((0, 0), (none, 0, 0), false, none, 0) := by
  unfold mmf
  rw [List.getD_eq_getElem?_getD, List.getD_eq_getElem?_getD]
  by_cases c : j < fr.length
  · rw [if_pos c, List.getElem?_append_left c]
  · rw [if_neg c]
    by_cases c2 : j = fr.length
    · rw [if_pos c2, c2]
      simp
    · rw [if_neg c2, List.getElem?_eq_none (by simp; omega)]
      rfl
theorem rtI_app {pm : Nat × Nat} {fr : List mmF} {f : mmF} (h : rtI pm fr) (hf : f.2.1.1 ≠ none) : rtI pm (fr ++ [f]) := fun j hj hn => by
  rw [List.length_append, List.length_singleton] at hj
  rw [mmf_app] at hn ⊢
  by_cases c : j < fr.length
  · rw [if_pos c] at hn ⊢
    exact h j c hn
  · rw [if_neg c, if_pos (by omega)] at hn
    exact absurd hn hf
/-- what one turn keeps; or an answer -/
def onK (pm : Nat × Nat) (S S' : mmS) : Prop := rtI pm S'.1.1 ∧ chI S'.1.2.2.2.1 ∧ (mmNa S' = mmNa S ∨ (mmNa S' = mmNa S + 1 ∧ S'.1 = S.1 ∧ S'.2.1 = (S.2.1.1, S.2.1.2.1, S.2.1.2.2.1, true) ∧ S.2.1.2.2.2 = false ∧ ∃ i, S.2.1.1 = some i ∧ (mmf S.1.1 i).2.1.1 = none))
theorem enter_keep {j : Nat} {fr : List mmF} {cls : Nat → Option Nat} {V : mmV} {ch : mmH} {T : mmT} {cf : Option Nat × Nat × Option Nat × Bool} {tm : List smG} {nn : Nat × Nat × Nat × Nat} {nt : List (Nat × Nat)} (hc : chI ch) : (mmEnter C j ((fr, cls, V, ch, T), cf, tm, nn, nt)).1.1 = fr ∧ chI (mmEnter C j ((fr, cls, V, ch, T), cf, tm, nn, nt)).1.2.2.2.1 ∧ mmNa (mmEnter C j ((fr, cls, V, ch, T), cf, tm, nn, nt)) = nn.1 := by
  obtain ⟨cur, pl, den, fl⟩ := cf
  obtain ⟨na, ns, nc, dp⟩ := nn
  cases hf : mmFirst C V (mmf fr j).1 j with
  | none => rw [mmEnter_0 hf]; exact ⟨rfl, hc, rfl⟩
  | some c =>
    by_cases hs : C.2.2.1 (mmf fr j).1.1 (mmf fr j).1.2 = none ∧ 1 < (C.1.1.1 (mmf fr j).1.1).length
    · rw [mmEnter_1 hf hs]
      refine ⟨rfl, fun e he => ?_, rfl⟩
      have he : e ∈ (j, 1, T.length) :: ch := he
      rcases List.mem_cons.mp he with q | q
      · rw [q]; exact Nat.le_refl _
      · exact hc e q
    · rw [mmEnter_2 hf hs]
      exact ⟨rfl, hc, rfl⟩
theorem pop_keep {pm : Nat × Nat} {S S' : mmS} (hr : rtI pm S.1.1) (hc : chI S.1.2.2.2.1) (h : mmPop C S = .inl S') : onK pm S S' := by
  obtain ⟨⟨fr, cls, V, ch, T⟩, ⟨cur, pl, den, fl⟩, tm, nn, nt⟩ := S
  unfold mmPop at h
  cases ch with
  | nil => cases h
  | cons e ch' =>
    obtain ⟨f, k, t⟩ := e
    cases h
    refine ⟨hr, ?_, Or.inl rfl⟩
    show chI (if k + 1 < (C.1.1.1 (mmf fr f).1.1).length then (f, k + 1, t) :: ch' else ch')
    split
    · intro x hx
      rcases List.mem_cons.mp hx with q | q
      · rw [q]; exact Nat.le_add_left _ _
      · exact hc x (List.mem_cons_of_mem _ q)
    · exact fun x hx => hc x (List.mem_cons_of_mem _ hx)
theorem back_keep {pm : Nat × Nat} {S S' : mmS} (hr : rtI pm S.1.1) (hc : chI S.1.2.2.2.1) (h : mmBack C S = .inl S') : onK pm S S' := by
  obtain ⟨⟨fr, cls, V, ch, T⟩, ⟨cur, pl, den, fl⟩, tm, nn, nt⟩ := S
  unfold mmBack at h
  cases den with
  | none => exact pop_keep hr hc h
  | some d =>
    simp only at h
    split at h
    · cases h
      exact ⟨hr, hc, Or.inl rfl⟩
    · exact pop_keep hr hc h
theorem leave_keep {pm : Nat × Nat} {j : Nat} {S S' : mmS} (hr : rtI pm S.1.1) (hc : chI S.1.2.2.2.1) (hj : S.2.1.1 = some j) (hfl : S.2.1.2.2.2 = false) (h : mmLeave C j S = .inl S') : onK pm S S' := by
  obtain ⟨⟨fr, cls, V, ch, T⟩, ⟨cur, pl, den, fl⟩, tm, ⟨na, ns, nc, dp⟩, nt⟩ := S
  cases hp : (mmf fr j).2.1.1 with
  | none =>
    by_cases h5 : 50 ≤ na
    · rw [mmLeave_0 hp h5] at h
      cases h
    · rw [mmLeave_1 hp h5] at h
      cases h
      exact ⟨hr, hc, Or.inr ⟨rfl, rfl, rfl, hfl, j, hj, hp⟩⟩
  | some i =>
    obtain ⟨r, hrr⟩ : ∃ r, mmHb (C.2.1.1 (mmf fr j).1.1 (mmf fr j).1.2) j i (mmBy C fr cls j i) (List.range (mmBy C fr cls j i).2.2.1) V T = r := ⟨_, rfl⟩
    by_cases hd : (mmf fr j).2.2.1 = true
    · by_cases hr1 : r.1 = true
      · rw [mmLeave_2 hp hrr hd hr1] at h
        cases h
        exact ⟨hr, fun x hx => hc x (List.mem_of_mem_drop hx), Or.inl rfl⟩
      · rw [mmLeave_3 hp hrr hd hr1] at h
        cases h
        exact ⟨hr, hc, Or.inl rfl⟩
    · rw [mmLeave_4 hp hrr hd] at h
      cases h
      exact ⟨hr, hc, Or.inl rfl⟩
theorem goal_keep {pm : Nat × Nat} {i : Nat} {e : mmO} {S S' : mmS} (hr : rtI pm S.1.1) (hc : chI S.1.2.2.2.1) (h : mmGoal C i e S = .inl S') : onK pm S S' := by
  obtain ⟨⟨fr, cls, V, ch, T⟩, ⟨cur, pl, den, fl⟩, tm, ⟨na, ns, nc, dp⟩, nt⟩ := S
  unfold mmGoal at h
  simp only at h
  split at h
  · cases h
  · split at h
    · split at h
      · cases h
      · split at h
        · cases h
        · split at h
          · cases h
            refine ⟨?_, (enter_keep hc).2.1, Or.inl (enter_keep hc).2.2⟩
            rw [(enter_keep hc).1]
            exact rtI_app hr (by simp)
          · cases h
            refine ⟨?_, (enter_keep hc).2.1, Or.inl (enter_keep hc).2.2⟩
            rw [(enter_keep hc).1]
            exact rtI_app hr (by simp)
    · split at h
      · cases h
      · cases h
        exact ⟨hr, hc, Or.inl rfl⟩
theorem step_keep {pm : Nat × Nat} {S S' : mmS} (hr : rtI pm S.1.1) (hc : chI S.1.2.2.2.1) (h : mmStep C S = .inl S') : onK pm S S' := by
  obtain ⟨⟨fr, cls, V, ch, T⟩, ⟨cur, pl, den, fl⟩, tm, nn, nt⟩ := S
  unfold mmStep at h
  simp only at h
  split at h
  · split at h
    · exact leave_keep hr hc rfl rfl h
    · exact goal_keep hr hc h
  · exact back_keep hr hc h
end CONE
