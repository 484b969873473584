/-! Own rows: what putting in order keeps. By hand. -/
def clO (R : pgR) (Gs : List Nat) (r : clR) : Prop := (∀ g, some g ∈ r.2.2.2.2.2.1 → g ∈ Gs) ∧ (∀ x, some x ∈ r.2.2.2.2.2.2 → x ∈ R.2.2.1.2.1) ∧ ∀ x ∈ r.2.2.2.2.1.1, 0 ≤ x ∧ x ≤ 5
theorem clO_take {w : zW} {pg : Nat} {R : pgR} {Gs : List Nat} {r : clR} {m q g : Nat} {go kw : Int} {gr : goR} {kn : Int} (hP : pgW w pg R) (h : clO R Gs r) (hg : g ∈ Gs) (hq : q < 5) : clO R Gs (takeR r m q go kw g (chM R gr kn)) := by
  obtain ⟨h1, h2, h3⟩ := h
  refine ⟨fun y hy => ?_, fun y hy => ?_, fun y hy => ?_⟩
  · rcases List.mem_or_eq_of_mem_set (show some y ∈ r.2.2.2.2.2.1.set (m * 5 + q) (some g) from hy) with a | a
    · exact h1 y a
    · cases a; exact hg
  · rcases List.mem_or_eq_of_mem_set (show some y ∈ r.2.2.2.2.2.2.set (m * 5 + q) (chM R gr kn) from hy) with a | a
    · exact h2 y a
    · exact chM_mem hP a.symm
  · rcases List.mem_or_eq_of_mem_set (show y ∈ r.2.2.2.2.1.1.set m ((q + 1 : Nat) : Int) from hy) with a | a
    · exact h3 y a
    · rw [a]; omega
theorem ordS_clO {w : zW} {pg : Nat} {R : pgR} {m : Nat} {Gs : List Nat} (hP : pgW w pg R) : ∀ {n q : Nat} {tk kn : Int} {r : clR}, q + n ≤ 5 → clO R Gs r → clO R Gs (ordS R m Gs n q tk kn r).2.2
  | 0, _, _, _, _, _, h => h
  | n + 1, q, tk, kn, r, hq, h => by
    cases hl : lAt Gs (ngN R Gs tk kn Gs.length 0) with
    | none => rw [ordS_n hl]; exact h
    | some g => rw [ordS_y hl]; exact ordS_clO hP (by omega) (clO_take hP h (lAt_mem hl) (by omega))
theorem clO_c {R : pgR} {Gs : List Nat} {r : clR} {m : Nat} (h : clO R Gs r) : clO R Gs (orC r m) := by
  obtain ⟨h1, h2, h3⟩ := h
  refine ⟨h1, h2, fun y hy => ?_⟩
  rcases List.mem_or_eq_of_mem_set (show y ∈ r.2.2.2.2.1.1.set m 0 from hy) with a | a
  · exact h3 y a
  · rw [a]; omega
theorem pgO_put {w : zW} {pg : Nat} {R : pgR} {c m : Nat} {ins : Int} (hP : pgW w pg R) (hO : pgO R) (hc : c ∈ R.2.2.1.2.2) (hl : (R.2.2.2.2.2.1 c).2.2.2.1.2.length ≤ 5) : pgO (pgSetC R c (ordO R m c ins).2.2) := by
  intro y hy
  by_cases e : y = c
  · subst e
    have e2 : (pgSetC R y (ordO R m y ins).2.2).2.2.2.2.2.1 y = (ordO R m y ins).2.2 := if_pos rfl
    have hs := ordO_sm (m := m) (ins := ins) (hP.2.2.2.2.2.2 y hc).1
    rw [e2, hs.2.2.2.1]
    exact ordS_clO hP (by omega) (clO_c (hO y hc))
  · have e2 : (pgSetC R c (ordO R m c ins).2.2).2.2.2.2.2.1 y = R.2.2.2.2.2.1 y := if_neg e
    rw [e2]
    exact hO y hy
/-- only orders differ -/
def pgSm (R R' : pgR) : Prop := R'.1 = R.1 ∧ R'.2.1 = R.2.1 ∧ R'.2.2.1 = R.2.2.1 ∧ R'.2.2.2.1 = R.2.2.2.1 ∧ R'.2.2.2.2.1 = R.2.2.2.2.1 ∧ R'.2.2.2.2.2.2 = R.2.2.2.2.2.2 ∧ ∀ y, (R'.2.2.2.2.2.1 y).2.2.2.1 = (R.2.2.2.2.2.1 y).2.2.2.1
theorem pgSm_re {R : pgR} : pgSm R R := ⟨rfl, rfl, rfl, rfl, rfl, rfl, fun _ => rfl⟩
theorem pgSm_tr {R R1 R2 : pgR} (h : pgSm R R1) (h2 : pgSm R1 R2) : pgSm R R2 := by
  obtain ⟨a1, a2, a3, a4, a5, a6, a7⟩ := h
  obtain ⟨b1, b2, b3, b4, b5, b6, b7⟩ := h2
  exact ⟨b1.trans a1, b2.trans a2, b3.trans a3, b4.trans a4, b5.trans a5, b6.trans a6, fun y => (b7 y).trans (a7 y)⟩
theorem pgSm_set {R : pgR} {c : Nat} {r : clR} (h : clSm (R.2.2.2.2.2.1 c) r) : pgSm R (pgSetC R c r) := by
  refine ⟨rfl, rfl, rfl, rfl, rfl, rfl, fun y => ?_⟩
  show (if y = c then r else R.2.2.2.2.2.1 y).2.2.2.1 = _
  by_cases e : y = c
  · rw [if_pos e, h.2.2.2.1, e]
  · rw [if_neg e]
theorem pioS_keep {m : Nat} {ins : Int} {pr pg : Nat} : ∀ {cs : List Nat} {b : Bool} {w : zW} {R : pgR}, pgW w pg R → pgO R → (∀ c ∈ cs, c ∈ R.2.2.1.2.2) → (∀ c ∈ cs, (R.2.2.2.2.2.1 c).2.2.2.1.2.length ≤ 5) → pgW (pioS m ins pr cs b w R).2.1 pg (pioS m ins pr cs b w R).2.2 ∧ pgO (pioS m ins pr cs b w R).2.2 ∧ pgSm R (pioS m ins pr cs b w R).2.2
  | [], _, _, _, h, hO, _, _ => ⟨h, hO, pgSm_re⟩
  | c :: cs, b, w, R, h, hO, hs, hl => by
    rw [pioS_c]
    have hc := hs c List.mem_cons_self
    have hsm := ordO_sm (m := m) (ins := ins) (h.2.2.2.2.2.2 c hc).1
    have q := pioS_keep (m := m) (ins := ins) (pr := pr) (cs := cs) (b := (b && decide (orV (R.2.2.2.1 pr).2.1 (ordO R m c ins) ≠ 0))) (pgW_clPut h hc hsm) (pgO_put h hO hc (hl c List.mem_cons_self)) (fun x hx => hs x (List.mem_cons_of_mem _ hx)) (fun x hx => by
      rw [gl_set hsm]
      exact hl x (List.mem_cons_of_mem _ hx))
    exact ⟨q.1, q.2.1, pgSm_tr (pgSm_set hsm) q.2.2⟩
theorem pgN_sm {R R' : pgR} (h : pgN R) (hs : pgSm R R') : pgN R' := by
  obtain ⟨a1, a2, a3, a4, a5, a6, a7⟩ := hs
  intro y hy
  rw [a3] at hy ⊢
  rw [a4, a5]
  exact h y hy
/-- each clause has five goals at most -/
def pgL (R : pgR) : Prop := ∀ c ∈ R.2.2.1.2.2, (R.2.2.2.2.2.1 c).2.2.2.1.2.length ≤ 5
theorem pgL_sm {R R' : pgR} (h : pgL R) (hs : pgSm R R') : pgL R' := by
  obtain ⟨a1, a2, a3, a4, a5, a6, a7⟩ := hs
  intro y hy
  rw [a3] at hy
  rw [a7]
  exact h y hy
