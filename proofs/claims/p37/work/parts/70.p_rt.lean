/-! Own rows: a turn keeps the terms; what a run needs beside. By hand; nothing of the bytecode. -/
abbrev mmTm (S : mmS) : List smG := S.2.2.1
def resS : mmS ⊕ (Nat × mmS) → mmS
  | .inl S => S
  | .inr r => r.2
section RT
variable {C : mmC}
theorem tm_pop {S : mmS} : mmTm (resS (mmPop C S)) = mmTm S := by
  obtain ⟨⟨fr, cls, V, ch, T⟩, ⟨cur, pl, den, fl⟩, tm, nn, nt⟩ := S
  cases ch with
  | nil => rfl
  | cons e ch => rfl
theorem tm_back {S : mmS} : mmTm (resS (mmBack C S)) = mmTm S := by
  obtain ⟨⟨fr, cls, V, ch, T⟩, ⟨cur, pl, den, fl⟩, tm, nn, nt⟩ := S
  cases den with
  | none => exact tm_pop (C := C) (S := ((fr, cls, V, ch, T), (cur, pl, none, fl), tm, nn, nt))
  | some d =>
    by_cases c : ch.length ≤ (mmf fr d).2.2.2.2
    · rw [show mmBack C ((fr, cls, V, ch, T), (cur, pl, some d, fl), tm, nn, nt) = .inl ((fr, cls, V, ch, T), ((mmf fr d).2.1.1, (mmf fr d).2.1.2.1 + 1, (mmf fr d).2.2.2.1, false), tm, nn, nt) from if_pos c]
      rfl
    · rw [show mmBack C ((fr, cls, V, ch, T), (cur, pl, some d, fl), tm, nn, nt) = mmPop C ((fr, cls, V, ch, T), (cur, pl, some d, fl), tm, nn, nt) from if_neg c]
      exact tm_pop (C := C) (S := ((fr, cls, V, ch, T), (cur, pl, some d, fl), tm, nn, nt))
theorem tm_leave {S : mmS} {j : Nat} : mmTm (resS (mmLeave C j S)) = mmTm S := by
  obtain ⟨⟨fr, cls, V, ch, T⟩, ⟨cur, pl, den, fl⟩, tm, ⟨na, ns, nc, dp⟩, nt⟩ := S
  cases hcal : (mmf fr j).2.1.1 with
  | none =>
    by_cases c : 50 ≤ na
    · rw [mmLeave_0 hcal c]; rfl
    · rw [mmLeave_1 hcal c]; rfl
  | some i =>
    by_cases hd : (mmf fr j).2.2.1 = true
    · by_cases hb : (mmHb (C.2.1.1 (mmf fr j).1.1 (mmf fr j).1.2) j i (mmBy C fr cls j i) (List.range (mmBy C fr cls j i).2.2.1) V T).1 = true
      · rw [mmLeave_2 hcal rfl hd hb]; rfl
      · rw [mmLeave_3 hcal rfl hd hb]; rfl
    · rw [mmLeave_4 hcal rfl hd]; rfl
theorem tm_enter {S : mmS} {j : Nat} : mmTm (mmEnter C j S) = mmTm S := by
  obtain ⟨⟨fr, cls, V, ch, T⟩, ⟨cur, pl, den, fl⟩, tm, ⟨na, ns, nc, dp⟩, nt⟩ := S
  cases hm : mmFirst C V (mmf fr j).1 j with
  | none => rw [mmEnter_0 hm]
  | some c =>
    by_cases hs2 : C.2.2.1 (mmf fr j).1.1 (mmf fr j).1.2 = none ∧ 1 < (C.1.1.1 (mmf fr j).1.1).length
    · rw [mmEnter_1 hm hs2]
    · rw [mmEnter_2 hm hs2]
theorem mmEq_tm {V : mmV} {T : mmT} {tm : List smG} {i : Nat} {g : smL} {r : Bool × mmV × mmT × List smG} (h : mmEq V T tm i g = some r) : ∃ t, r.2.2.2 = tm ++ t := by
  by_cases hk : g.1 = 1
  · by_cases hx : V i (smv g 0) = none
    · rw [mmEq_sn hk hx] at h
      cases h
      exact ⟨[], (List.append_nil _).symm⟩
    · rw [mmEq_sy hk hx] at h
      cases h
      exact ⟨[], (List.append_nil _).symm⟩
  · cases hx : V i (smv g 0) with
    | some hv =>
      rw [mmEq_ca hk hx] at h
      cases h
      exact ⟨[], (List.append_nil _).symm⟩
    | none =>
      unfold mmEq at h
      rw [if_neg hk, hx] at h
      have h : (if _ then _ else _) = _ := h
      split at h
      · cases h; exact ⟨[], (List.append_nil _).symm⟩
      · split at h
        · cases h; exact ⟨_, rfl⟩
        · cases h
theorem tm_goal {fr : List mmF} {cls : Nat → Option Nat} {V : mmV} {ch : mmH} {T : mmT} {cur den : Option Nat} {pl na ns nc dp i : Nat} {fl : Bool} {tm : List smG} {nt : List (Nat × Nat)} {e : mmO} : ∃ t, mmTm (resS (mmGoal C i e ((fr, cls, V, ch, T), (cur, pl, den, fl), tm, (na, ns, nc, dp), nt))) = tm ++ t := by
  have h0 : ∃ t, tm = tm ++ t := ⟨[], (List.append_nil _).symm⟩
  by_cases hns : 300 ≤ ns
  · rw [mg_l hns]; exact h0
  · by_cases hk : e.1.1 = 2 ∨ e.1.1 = 3
    · cases hm : e.2.1 with
      | none => rw [mg_n hns hk hm]; exact h0
      | some m =>
        by_cases hdq : 30 ≤ (mmf fr i).2.1.2.2
        · rw [mg_d hns hk hm hdq]; exact h0
        · rcases hk with hk | hk
          · rw [mg_2 hns hk hm hdq]
            exact ⟨[], by rw [List.append_nil]; simp only [resS]; exact tm_enter⟩
          · rw [mg_3 hns hk hm hdq]
            exact ⟨[], by rw [List.append_nil]; simp only [resS]; exact tm_enter⟩
    · rw [mg_e hns hk]
      cases hq : mmEq V T tm i e.1 with
      | none => exact h0
      | some r => exact mmEq_tm hq
theorem rn_pos {x : Nat} {fr : List mmF} {cls : Nat → Option Nat} {V : mmV} {ch : mmH} {T : mmT} {cur den : Option Nat} {pl na ns nc dp : Nat} {fl : Bool} {tm : List smG} {nt : List (Nat × Nat)} {S' : mmS}
    (hR : rN C x ((fr, cls, V, ch, T), (cur, pl, den, fl), tm, (na, ns, nc, dp), nt)) (hpop : ∀ f k t0 ch1, ch = (f, k, t0) :: ch1 → t0 ≤ T.length ∧ k < (C.1.1.1 (mmf fr f).1.1).length)
    (h : mmBack C ((fr, cls, V, ch, T), (cur, pl, den, fl), tm, (na, ns, nc, dp), nt) = .inl S') : 0 < x := by
  obtain ⟨n, h1, h2, -⟩ := hR
  have h2 : 386 * (300 - ns) + 32 * mCh C fr ch + 32 * n + (if fl = true then 0 else curD fr cur) ≤ x := h2
  cases n with
  | succ n => omega
  | zero =>
    have hd : den = none := h1
    subst hd
    cases ch with
    | nil => cases h
    | cons e ch1 =>
      obtain ⟨f, k, t0⟩ := e
      obtain ⟨-, hk⟩ := hpop f k t0 ch1 rfl
      have h2 : 386 * (300 - ns) + 32 * (((C.1.1.1 (mmf fr f).1.1).length - k) + mCh C fr ch1) + 32 * 0 + (if fl = true then 0 else curD fr cur) ≤ x := h2
      omega
theorem mmRun_s {S S' : mmS} {n : Nat} {r : Nat × mmS} (h : mmStep C S = .inl S') (hr : mmRun C n S' = some r) : mmRun C (n + 1) S = some r := by
  unfold mmRun
  rw [h]
  exact hr
theorem mmRun_e {S : mmS} {r : Nat × mmS} (h : mmStep C S = .inr r) : mmRun C 1 S = some r := by
  unfold mmRun
  rw [h]
end RT
theorem fmUp_up {fm : Nat → fmR} {y : Nat} {r r' : fmR} : fmUp (fmUp fm y r) y r' = fmUp fm y r' := by
  funext z
  unfold fmUp
  split <;> rfl
theorem st_vals {o : Nat → Option smG} (ho3 : ∀ k, 3 ≤ k → o k = none) : (fun j z => if j = 0 ∧ z = 2 then o 2 else (fun j z => if j = 0 ∧ z = 1 then o 1 else (fun j z => if j = 0 ∧ z = 0 then o 0 else mmNew (fun _ _ => none) 0 (fun _ => none) j z) j z) j z) = mmNew (fun _ _ => none) 0 o := by
  funext j z
  have e : ∀ p : Nat → Option smG, mmNew (fun _ _ => none) 0 p j z = if j = 0 then p z else none := fun _ => rfl
  rw [e o]
  show (if j = 0 ∧ z = 2 then o 2 else if j = 0 ∧ z = 1 then o 1 else if j = 0 ∧ z = 0 then o 0 else mmNew (fun _ _ => none) 0 (fun _ => none) j z) = _
  rw [e (fun _ => none)]
  by_cases c : j = 0
  · skip
    by_cases c2 : z = 2
    · rw [if_pos ⟨c, c2⟩, c2, if_pos c]
    · rw [if_neg (fun q => c2 q.2)]
      by_cases c1 : z = 1
      · rw [if_pos ⟨c, c1⟩, c1, if_pos c]
      · rw [if_neg (fun q => c1 q.2)]
        by_cases c0 : z = 0
        · rw [if_pos ⟨c, c0⟩, c0, if_pos c]
        · rw [if_neg (fun q => c0 q.2), if_pos c, if_pos c, ho3 z (by omega)]
  · rw [if_neg c, if_neg (fun q => c q.1), if_neg (fun q => c q.1), if_neg (fun q => c q.1), if_neg c]
