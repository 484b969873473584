/-! Own rows: the terms with numbers stand for a list of pure terms (constructors 0, 1, 2 of one type; 1 has one part). By hand. -/
def C3 : List (List Int) := [[0, -1, -1], [0, 0, -1], [0, -1, -1]]
def tmR (N H : List (List Int)) (Sz : List Int) (tm : List smG) : Prop :=
  chR N H ∧ N.length = tm.length ∧ tm.Nodup ∧ tm.length ≤ 200 ∧ Sz.length = 200 ∧ ∀ n g, tm[n]? = some g → (g.2 = 0 ∨ g.2 = 2) ∧ (∃ (f : Nat) (nx : Int), N[n]? = some [(smHd g : Int), (f : Int), 0, nx] ∧ (g.1 = 0 → f = 0) ∧ (0 < g.1 → f < n ∧ tm[f]? = some (g.1 - 1, g.2))) ∧ Sz.getD n 0 = (g.1 : Int) + 1
theorem nd_inj {T : Type} {l : List T} (h : l.Nodup) {i j : Nat} {x : T} (h1 : l[i]? = some x) (h2 : l[j]? = some x) : i = j := by
  obtain ⟨a1, a2⟩ := List.getElem?_eq_some_iff.mp h1
  obtain ⟨b1, b2⟩ := List.getElem?_eq_some_iff.mp h2
  have hp := List.pairwise_iff_getElem.mp h
  rcases Nat.lt_trichotomy i j with c | c | c
  · exact absurd (a2.trans b2.symm) (hp i j a1 b1 c)
  · exact c
  · exact absurd (b2.trans a2.symm) (hp j i b1 a1 c)
theorem tm_le {N H : List (List Int)} {Sz : List Int} {tm : List smG} (h : tmR N H Sz tm) : ∀ (k n : Nat) (g : smG), n ≤ k → tm[n]? = some g → g.1 ≤ n
  | 0, n, g, hn, hg => by
    obtain ⟨-, ⟨f, nx, -, -, a3⟩, -⟩ := h.2.2.2.2.2 n g hg
    by_cases c : 0 < g.1
    · have := (a3 c).1
      omega
    · omega
  | k + 1, n, g, hn, hg => by
    obtain ⟨-, ⟨f, nx, -, -, a3⟩, -⟩ := h.2.2.2.2.2 n g hg
    by_cases c : 0 < g.1
    · obtain ⟨b1, b2⟩ := a3 c
      have := tm_le h k f _ (by omega) b2
      simp only at this
      omega
    · omega
theorem tm_find {N H : List (List Int)} {Sz : List Int} {tm : List smG} (h : tmR N H Sz tm) {c f : Nat} {y : smG} (h1 : c = 1 → tm[f]? = some y) (h0 : c ≠ 1 → f = 0) :
    (tmFind N H (c : Int) (f : Int) 0 = -1 ∧ smB c y ∉ tm) ∨ ∃ n : Nat, tmFind N H (c : Int) (f : Int) 0 = (n : Int) ∧ tm[n]? = some (smB c y) := by
  obtain ⟨a1, a2, a3, a4, a5, a6⟩ := h
  rcases ch_find a1 (by omega) (c : Int) (f : Int) 0 with ⟨b1, b2⟩ | ⟨n, b1, b2, b3⟩
  · refine Or.inl ⟨b1, fun hm => ?_⟩
    obtain ⟨n, hn⟩ := List.mem_iff_getElem?.mp hm
    have hlt := (List.getElem?_eq_some_iff.mp hn).1
    obtain ⟨d1, ⟨f', nx, d2, d3, d4⟩, -⟩ := a6 n _ hn
    refine b2 n (by omega) ⟨?_, ?_, ?_⟩
    · have := tg_at (j := 0) d2
      rw [show ((0 : Nat) : Int) = 0 from rfl] at this
      rw [this, smHd_B]
      rfl
    · have := tg_at (j := 1) d2
      rw [show ((1 : Nat) : Int) = 1 from rfl] at this
      rw [this]
      show (f' : Int) = (f : Int)
      by_cases e : c = 1
      · have e2 : smB c y = (y.1 + 1, y.2) := if_pos e
        rw [e2] at d4
        have d5 := (d4 (by simp)).2
        have d5 : tm[f']? = some y := d5
        rw [nd_inj a3 d5 (h1 e)]
      · have e2 : smB c y = (0, c) := if_neg e
        rw [e2] at d3
        rw [d3 rfl, h0 e]
    · have := tg_at (j := 2) d2
      rw [show ((2 : Nat) : Int) = 2 from rfl] at this
      rw [this]
      rfl
  · refine Or.inr ⟨n, b2, ?_⟩
    obtain ⟨g, hg⟩ : ∃ g, tm[n]? = some g := ⟨_, List.getElem?_eq_getElem (by omega)⟩
    obtain ⟨d1, ⟨f', nx, d2, d3, d4⟩, -⟩ := a6 n g hg
    obtain ⟨m1, m2, m3⟩ := b3
    have t0 := tg_at (j := 0) d2
    rw [show ((0 : Nat) : Int) = 0 from rfl, m1] at t0
    have t0 : (c : Int) = (smHd g : Int) := t0
    have t1 := tg_at (j := 1) d2
    rw [show ((1 : Nat) : Int) = 1 from rfl, m2] at t1
    have t1 : (f : Int) = (f' : Int) := t1
    rw [hg]
    obtain ⟨g1, g2⟩ := g
    have e0 : c = smHd (g1, g2) := by omega
    have e1 : f = f' := by omega
    simp only at d1 d3 d4
    by_cases z : g1 = 0
    · have e3 : smHd (g1, g2) = g2 := by unfold smHd; rw [if_pos z]
      have e4 : c ≠ 1 := by omega
      have e5 : smB c y = (0, c) := if_neg e4
      rw [e5, e0, e3, z]
    · have e3 : smHd (g1, g2) = 1 := by unfold smHd; rw [if_neg z]
      have e4 : c = 1 := by omega
      have d5 := (d4 (by omega)).2
      rw [← e1, h1 e4] at d5
      have e5 : smB c y = (y.1 + 1, y.2) := if_pos e4
      cases d5
      rw [e5]
      have : g1 - 1 + 1 = g1 := by omega
      simp only [this]
theorem tmPc3 {c : Nat} (hc : c < 3) : tmPc C3 (c : Int) = if c = 1 then 1 else 0 := by
  rcases (show c = 0 ∨ c = 1 ∨ c = 2 by omega) with e | e | e <;> subst e <;> decide
theorem tmNs3 {N H : List (List Int)} {Sz : List Int} {tm : List smG} (h : tmR N H Sz tm) {c f : Nat} {y : smG} (hc : c < 3) (h1 : c = 1 → tm[f]? = some y) : tmNs C3 Sz (c : Int) (f : Int) 0 = ((smB c y).1 : Int) + 1 := by
  unfold tmNs
  rw [tmPc3 hc]
  by_cases e : c = 1
  · have hy := tm_le h f f y (Nat.le_refl _) (h1 e)
    have hlt := (List.getElem?_eq_some_iff.mp (h1 e)).1
    have h4 := h.2.2.2.1
    have hs := (h.2.2.2.2.2 f y (h1 e)).2.2
    rw [if_pos e, if_pos (by omega), if_neg (by omega)]
    have e2 : tmSz Sz (f : Int) = (y.1 : Int) + 1 := by
      unfold tmSz
      rw [if_pos (by omega), Int.toNat_natCast]
      exact hs
    have e5 : smB c y = (y.1 + 1, y.2) := if_pos e
    rw [e2, e5]
    have z1 : zwl (1 + ((y.1 : Int) + 1)) = 1 + ((y.1 : Int) + 1) := zwl_id ⟨by omega, by omega⟩
    have z2 : zwl (1 + ((y.1 : Int) + 1) + 0) = 1 + ((y.1 : Int) + 1) + 0 := zwl_id ⟨by omega, by omega⟩
    rw [z1, z2]
    simp only
    omega
  · rw [if_neg e, if_neg (by omega), if_neg (by omega)]
    have e5 : smB c y = (0, c) := if_neg e
    rw [e5]
    show zwl (zwl (1 + 0) + 0) = ((0 : Nat) : Int) + 1
    decide
theorem tm_new {N H : List (List Int)} {Sz : List Int} {tm : List smG} (h : tmR N H Sz tm) {c f : Nat} {y : smG} (hc : c < 3) (h1 : c = 1 → tm[f]? = some y) (h0 : c ≠ 1 → f = 0) (hn : smB c y ∉ tm) (hl : tm.length < 200) :
    tmR (N ++ [[(c : Int), (f : Int), 0, tg H (tmCh (c : Int) (f : Int) 0) 0]]) (ts H (tmCh (c : Int) (f : Int) 0) 0 (N.length : Int)) (Sz.set N.length (tmNs C3 Sz (c : Int) (f : Int) 0)) (tm ++ [smB c y]) := by
  have hsz := tmNs3 h hc h1
  obtain ⟨a1, a2, a3, a4, a5, a6⟩ := h
  refine ⟨ch_new a1 _ _ _, by simp [a2], ?_, by simp; omega, by rw [List.length_set]; exact a5, fun n g hg => ?_⟩
  · rw [List.nodup_append]
    refine ⟨a3, by simp, fun x hx z hz e => ?_⟩
    rw [List.mem_singleton.mp hz] at e
    exact hn (e ▸ hx)
  · by_cases e : n < tm.length
    · rw [List.getElem?_append_left e] at hg
      obtain ⟨d1, ⟨f', nx, d2, d3, d4⟩, d5⟩ := a6 n g hg
      refine ⟨d1, ⟨f', nx, by rw [List.getElem?_append_left (by omega)]; exact d2, d3, fun q => ⟨(d4 q).1, by rw [List.getElem?_append_left (by have := (d4 q).1; omega)]; exact (d4 q).2⟩⟩, ?_⟩
      rw [List.getD_eq_getElem?_getD, List.getElem?_set_ne (by omega), ← List.getD_eq_getElem?_getD]
      exact d5
    · have e2 : n = tm.length := by
        have := (List.getElem?_eq_some_iff.mp hg).1
        simp at this
        omega
      subst e2
      have e3 : g = smB c y := by simpa using hg.symm
      subst e3
      refine ⟨?_, ⟨f, tg H (tmCh (c : Int) (f : Int) 0) 0, ?_, fun q => ?_, fun q => ?_⟩, ?_⟩
      · by_cases e : c = 1
        · have e5 : smB c y = (y.1 + 1, y.2) := if_pos e
          rw [e5]
          exact (a6 f y (h1 e)).1
        · have e5 : smB c y = (0, c) := if_neg e
          rw [e5]
          simp only
          omega
      · rw [← a2, smHd_B]
        simp
      · by_cases e : c = 1
        · have e5 : smB c y = (y.1 + 1, y.2) := if_pos e
          rw [e5] at q
          simp at q
        · exact h0 e
      · by_cases e : c = 1
        · have e5 : smB c y = (y.1 + 1, y.2) := if_pos e
          have hlt := (List.getElem?_eq_some_iff.mp (h1 e)).1
          rw [e5]
          exact ⟨hlt, by rw [List.getElem?_append_left hlt]; exact h1 e⟩
        · have e5 : smB c y = (0, c) := if_neg e
          rw [e5] at q
          simp at q
      · rw [hsz, a2, List.getD_eq_getElem?_getD, List.getElem?_set_self (by omega)]
        rfl
theorem tm_forget {Sz : List Int} {cnt : Nat} : ∀ (k : Nat) (N H : List (List Int)) (tm : List smG), tmR N H Sz tm → N.length = k → cnt ≤ tm.length → tmR (tmFg (cnt : Int) k N H).1 (tmFg (cnt : Int) k N H).2 Sz (tm.take cnt)
  | 0, N, H, tm, h, hk, hc => by
    have : tm.length = 0 := by have := h.2.1; omega
    have e : tm = [] := List.length_eq_zero_iff.mp this
    subst e
    rw [List.take_nil]
    exact h
  | k + 1, N, H, tm, h, hk, hc => by
    have hl := h.2.1
    by_cases c : cnt = tm.length
    · rw [tmFg_z (by omega), c, List.take_length]
      exact h
    · have e1 : (N.length : Int) - 1 = ((N.length - 1 : Nat) : Int) := by omega
      rw [tmFg_s (by omega), e1]
      have e2 : tcut N ((N.length - 1 : Nat) : Int) = N.take (N.length - 1) := by
        unfold tcut
        rw [if_pos (by omega), Int.toNat_natCast]
      rw [e2]
      have e3 : tm.take cnt = (tm.take (N.length - 1)).take cnt := by rw [List.take_take]; congr 1; omega
      rw [e3]
      have hp := ch_pop h.1 (by omega)
      obtain ⟨a1, a2, a3, a4, a5, a6⟩ := h
      refine tm_forget k _ _ _ ⟨hp, by rw [List.length_take, List.length_take]; omega, List.Sublist.nodup (List.take_sublist _ _) a3, by rw [List.length_take]; omega, a5, fun n g hg => ?_⟩ (by rw [List.length_take]; omega) (by rw [List.length_take]; omega)
      have hlt := (List.getElem?_eq_some_iff.mp hg).1
      rw [List.length_take] at hlt
      rw [List.getElem?_take_of_lt (by omega)] at hg
      obtain ⟨d1, ⟨f', nx, d2, d3, d4⟩, d5⟩ := a6 n g hg
      exact ⟨d1, ⟨f', nx, by rw [List.getElem?_take_of_lt (by omega)]; exact d2, d3, fun q => ⟨(d4 q).1, by rw [List.getElem?_take_of_lt (by have := (d4 q).1; omega)]; exact (d4 q).2⟩⟩, d5⟩
/-! a value's number: none is -1 -/
def tvE (tm : List smG) (z : Int) (o : Option smG) : Prop := match o with
  | none => z = -1
  | some g => 0 ≤ z ∧ tm[z.toNat]? = some g
theorem tvE_n {tm : List smG} {z : Int} : tvE tm z none ↔ z = -1 := Iff.rfl
theorem tvE_s {tm : List smG} {z : Int} {g : smG} : tvE tm z (some g) ↔ 0 ≤ z ∧ tm[z.toNat]? = some g := Iff.rfl
theorem tvE_none {tm : List smG} {z : Int} {o : Option smG} (h : tvE tm z o) : z = -1 ↔ o = none := by
  cases o with
  | none => exact ⟨fun _ => rfl, fun _ => h⟩
  | some g => exact ⟨fun e => by have := h.1; omega, fun e => by cases e⟩
theorem tvE_eq {tm : List smG} (hn : tm.Nodup) {z z' : Int} {o o' : Option smG} (h : tvE tm z o) (h' : tvE tm z' o') : z = z' ↔ o = o' := by
  cases o with
  | none =>
    have h : z = -1 := h
    rw [h, eq_comm, tvE_none h', eq_comm]
  | some g =>
    cases o' with
    | none =>
      have h' : z' = -1 := h'
      have := h.1
      exact ⟨fun e => by omega, fun e => by cases e⟩
    | some g' =>
      constructor
      · intro e
        rw [e] at h
        rw [← h.2, ← h'.2]
      · intro e
        cases e
        have := nd_inj hn h.2 h'.2
        have := h.1
        have := h'.1
        omega
theorem tvE_app {tm : List smG} {z : Int} {o : Option smG} {x : smG} (h : tvE tm z o) : tvE (tm ++ [x]) z o := by
  cases o with
  | none => exact h
  | some g => exact ⟨h.1, by rw [List.getElem?_append_left (List.getElem?_eq_some_iff.mp h.2).1]; exact h.2⟩
/-- a term's head and part, by its row -/
theorem tm_row {N H : List (List Int)} {Sz : List Int} {tm : List smG} (h : tmR N H Sz tm) {z : Int} {g : smG} (hz : tvE tm z (some g)) : tg N z 0 = (smHd g : Int) ∧ (0 < g.1 → tvE tm (tg N z 1) (some (g.1 - 1, g.2))) := by
  obtain ⟨z0, z1⟩ := hz
  obtain ⟨-, ⟨f, nx, d2, d3, d4⟩, -⟩ := h.2.2.2.2.2 _ g z1
  have e : z = ((z.toNat : Nat) : Int) := by omega
  refine ⟨?_, fun q => ?_⟩
  · have := tg_at (j := 0) d2
    rw [show ((0 : Nat) : Int) = 0 from rfl, ← e] at this
    rw [this]
    rfl
  · have := tg_at (j := 1) d2
    rw [show ((1 : Nat) : Int) = 1 from rfl, ← e] at this
    rw [this]
    show tvE tm (f : Int) _
    exact ⟨by omega, by rw [Int.toNat_natCast]; exact (d4 q).2⟩
