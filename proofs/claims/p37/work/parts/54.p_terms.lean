/-! Own rows: the TERMS with numbers against the pure terms: chains, what is found, what is made, what is forgotten. By hand; nothing of the bytecode. -/
theorem tg_at {rows : List (List Int)} {n j : Nat} {r : List Int} (h : rows[n]? = some r) : tg rows (n : Int) (j : Int) = (r[j]?).getD (-1) := by
  unfold tg
  rw [if_pos ⟨by omega, by omega⟩, Int.toNat_natCast, Int.toNat_natCast, h]
  rfl
theorem tg_app {rows : List (List Int)} {r : List Int} {n : Nat} {j : Int} (h : n < rows.length) : tg (rows ++ [r]) (n : Int) j = tg rows (n : Int) j := by
  unfold tg
  rw [Int.toNat_natCast, List.getElem?_append_left h]
theorem tg_take {rows : List (List Int)} {n k : Nat} {j : Int} (h : n < k) : tg (rows.take k) (n : Int) j = tg rows (n : Int) j := by
  unfold tg
  rw [Int.toNat_natCast, List.getElem?_take_of_lt h]
theorem tg_neg {rows : List (List Int)} {i j : Int} (h : i < 0) : tg rows i j = -1 := by
  unfold tg
  rw [if_neg (by omega)]
theorem tg_ts {rows : List (List Int)} {h : Nat} {v : Int} (hl : h < rows.length) (hr : ∀ r ∈ rows, r.length = 1) : tg (ts rows (h : Int) 0 v) (h : Int) 0 = v := by
  unfold ts
  rw [if_pos ⟨by omega, by omega⟩, Int.toNat_natCast]
  have e : (rows.getD h []).length = 1 := by
    rw [List.getD_eq_getElem?_getD, List.getElem?_eq_getElem hl]
    exact hr _ (List.getElem_mem hl)
  unfold tg
  rw [if_pos ⟨by omega, by omega⟩, Int.toNat_natCast, List.getElem?_set_self hl]
  show ((((rows.getD h []).set 0 v)[0]?)).getD (-1) = v
  rw [List.getElem?_set_self (by omega)]
  rfl
theorem tg_ts_ne {rows : List (List Int)} {h k : Nat} {v j : Int} (hn : k ≠ h) : tg (ts rows (h : Int) 0 v) (k : Int) j = tg rows (k : Int) j := by
  unfold ts
  rw [if_pos ⟨by omega, by omega⟩, Int.toNat_natCast]
  unfold tg
  rw [Int.toNat_natCast, List.getElem?_set_ne (Ne.symm hn)]
theorem ts_r1 {rows : List (List Int)} {i v : Int} (hr : ∀ r ∈ rows, r.length = 1) : ∀ r ∈ ts rows i 0 v, r.length = 1 := by
  have := (tOk_ts (i := i) (j := 0) (v := v) (c := 1) (rows := rows) ⟨by decide, hr⟩).2
  exact this
/-- a chain: its numbers, the latest first -/
def chL (N : List (List Int)) : Int → List Nat → Prop
  | z, [] => z = -1
  | z, n :: l => z = (n : Int) ∧ n < N.length ∧ (∀ m ∈ l, m < n) ∧ chL N (tg N (n : Int) 3) l
abbrev chH (N : List (List Int)) (n : Nat) : Int := tmCh (tg N (n : Int) 0) (tg N (n : Int) 1) (tg N (n : Int) 2)
def chR (N H : List (List Int)) : Prop := H.length = 64 ∧ (∀ r ∈ H, r.length = 1) ∧ ∀ h : Nat, h < 64 → ∃ l, chL N (tg H (h : Int) 0) l ∧ ∀ n, n ∈ l ↔ n < N.length ∧ chH N n = (h : Int)
theorem zand63 (a : Int) : 0 ≤ zand a 63 ∧ zand a 63 < 64 := by
  unfold zand
  have e : (Int32.ofInt a &&& Int32.ofInt 63).toBitVec.toNat ≤ 63 := by
    rw [Int32.toBitVec_and, BitVec.toNat_and]
    exact Nat.and_le_right
  have e2 : (Int32.ofInt a &&& Int32.ofInt 63).toInt = ((Int32.ofInt a &&& Int32.ofInt 63).toBitVec.toNat : Int) := by
    show (Int32.ofInt a &&& Int32.ofInt 63).toBitVec.toInt = _
    rw [BitVec.toInt_eq_toNat_of_lt (by omega)]
  omega
theorem tmCh_r (c f s : Int) : ∃ h : Nat, tmCh c f s = (h : Int) ∧ h < 64 := by
  unfold tmCh
  have := zand63 (zw (zw (zw (31 * c) + zw (7 * f)) + s))
  exact ⟨(zand (zw (zw (zw (31 * c) + zw (7 * f)) + s)) 63).toNat, by omega, by omega⟩
theorem chL_len {N : List (List Int)} : ∀ (l : List Nat) (z : Int) (b : Nat), chL N z l → (∀ m ∈ l, m < b) → l.length ≤ b
  | [], _, _, _, _ => Nat.zero_le _
  | n :: l, z, b, h, hb => by
    have := chL_len l _ n h.2.2.2 h.2.2.1
    have := hb n List.mem_cons_self
    simp only [List.length_cons]
    omega
theorem chL_lt {N : List (List Int)} : ∀ (l : List Nat) (z : Int), chL N z l → ∀ m ∈ l, m < N.length
  | [], _, _, m, hm => absurd hm List.not_mem_nil
  | n :: l, z, h, m, hm => by
    rcases List.mem_cons.mp hm with e | e
    · rw [e]; exact h.2.1
    · exact chL_lt l _ h.2.2.2 m e
theorem chL_app {N : List (List Int)} {r : List Int} : ∀ (l : List Nat) (z : Int), chL N z l → chL (N ++ [r]) z l
  | [], _, h => h
  | n :: l, z, h => ⟨h.1, by rw [List.length_append]; have := h.2.1; omega, h.2.2.1, by rw [tg_app h.2.1]; exact chL_app l _ h.2.2.2⟩
theorem chL_take {N : List (List Int)} {k : Nat} (hk : k ≤ N.length) : ∀ (l : List Nat) (z : Int), chL N z l → (∀ m ∈ l, m < k) → chL (N.take k) z l
  | [], _, h, _ => h
  | n :: l, z, h, hb => ⟨h.1, by rw [List.length_take]; have := hb n List.mem_cons_self; omega, h.2.2.1, by rw [tg_take (hb n List.mem_cons_self)]; exact chL_take hk l _ h.2.2.2 (fun m hm => hb m (List.mem_cons_of_mem _ hm))⟩
abbrev chM3 (N : List (List Int)) (c f s : Int) (n : Nat) : Prop := tg N (n : Int) 0 = c ∧ tg N (n : Int) 1 = f ∧ tg N (n : Int) 2 = s
theorem chF {N : List (List Int)} {c f s : Int} : ∀ (l : List Nat) (z : Int) (k : Nat), chL N z l → l.length ≤ k → (tmF N c f s k z = -1 ∧ ∀ n ∈ l, ¬ chM3 N c f s n) ∨ ∃ n ∈ l, tmF N c f s k z = (n : Int) ∧ chM3 N c f s n
  | [], z, k, h, _ => by
    have h : z = -1 := h
    refine Or.inl ⟨?_, fun n hn => absurd hn List.not_mem_nil⟩
    cases k with
    | zero => rfl
    | succ k => rw [tmF_s, if_pos h]
  | n :: l, z, k, h, hk => by
    obtain ⟨h1, h2, h3, h4⟩ := h
    cases k with
    | zero => simp at hk
    | succ k =>
      rw [tmF_s, if_neg (by omega), h1]
      by_cases c1 : tg N (n : Int) 0 = c ∧ tg N (n : Int) 1 = f ∧ tg N (n : Int) 2 = s
      · rw [if_pos c1]
        exact Or.inr ⟨n, List.mem_cons_self, rfl, c1⟩
      · rw [if_neg c1]
        rcases chF l _ k h4 (by simp only [List.length_cons] at hk; omega) with ⟨a, b⟩ | ⟨m, a, b⟩
        · refine Or.inl ⟨a, fun m hm => ?_⟩
          rcases List.mem_cons.mp hm with e | e
          · rw [e]; exact c1
          · exact b m e
        · exact Or.inr ⟨m, List.mem_cons_of_mem _ a, b⟩
theorem ch_find {N H : List (List Int)} (h : chR N H) (hN : N.length ≤ 200) (c f s : Int) : (tmFind N H c f s = -1 ∧ ∀ n, n < N.length → ¬ chM3 N c f s n) ∨ ∃ n, n < N.length ∧ tmFind N H c f s = (n : Int) ∧ chM3 N c f s n := by
  obtain ⟨k, e, hk⟩ := tmCh_r c f s
  obtain ⟨l, h1, h2⟩ := h.2.2 k hk
  unfold tmFind
  rw [e]
  have hb := chL_lt l _ h1
  have hl := chL_len l _ _ h1 hb
  rcases chF (c := c) (f := f) (s := s) l _ 200 h1 (by omega) with ⟨a, b⟩ | ⟨n, a, b, d⟩
  · refine Or.inl ⟨a, fun n hn m => b n ((h2 n).mpr ⟨hn, ?_⟩) m⟩
    unfold chH
    rw [m.1, m.2.1, m.2.2, e]
  · exact Or.inr ⟨n, hb n a, b, d⟩
theorem ch_new {N H : List (List Int)} (h : chR N H) (c f s : Int) : chR (N ++ [[c, f, s, tg H (tmCh c f s) 0]]) (ts H (tmCh c f s) 0 (N.length : Int)) := by
  obtain ⟨k, e, hk⟩ := tmCh_r c f s
  rw [e]
  obtain ⟨a1, a2, a3⟩ := h
  have hat : (N ++ [[c, f, s, tg H (k : Int) 0]])[N.length]? = some [c, f, s, tg H (k : Int) 0] := by simp
  have ehash : chH (N ++ [[c, f, s, tg H (k : Int) 0]]) N.length = (k : Int) := by
    unfold chH
    have e0 := tg_at (j := 0) hat
    have e1 := tg_at (j := 1) hat
    have e2 := tg_at (j := 2) hat
    have e0 : tg (N ++ [[c, f, s, tg H (k : Int) 0]]) (N.length : Int) 0 = c := e0
    have e1 : tg (N ++ [[c, f, s, tg H (k : Int) 0]]) (N.length : Int) 1 = f := e1
    have e2 : tg (N ++ [[c, f, s, tg H (k : Int) 0]]) (N.length : Int) 2 = s := e2
    rw [e0, e1, e2]
    exact e
  refine ⟨by rw [ts_len]; exact a1, ts_r1 a2, fun g hg => ?_⟩
  obtain ⟨l, b1, b2⟩ := a3 g hg
  have hold : ∀ n, n < N.length → chH (N ++ [[c, f, s, tg H (k : Int) 0]]) n = chH N n := fun n hn => by
    unfold chH
    rw [tg_app hn, tg_app hn, tg_app hn]
  by_cases eg : g = k
  · subst eg
    refine ⟨N.length :: l, ⟨?_, by simp, chL_lt l _ b1, ?_⟩, fun n => ?_⟩
    · rw [tg_ts (by omega) a2]
    · have e3 := tg_at (j := 3) hat
      have e3 : tg (N ++ [[c, f, s, tg H (g : Int) 0]]) (N.length : Int) 3 = tg H (g : Int) 0 := e3
      rw [e3]
      exact chL_app l _ b1
    · rw [List.mem_cons, List.length_append, List.length_singleton]
      constructor
      · intro q
        rcases q with q | q
        · rw [q]
          exact ⟨by omega, ehash⟩
        · obtain ⟨q1, q2⟩ := (b2 n).mp q
          exact ⟨by omega, by rw [hold n q1]; exact q2⟩
      · intro ⟨q1, q2⟩
        by_cases q3 : n = N.length
        · exact Or.inl q3
        · exact Or.inr ((b2 n).mpr ⟨by omega, by rw [← hold n (by omega)]; exact q2⟩)
  · refine ⟨l, ?_, fun n => ?_⟩
    · rw [tg_ts_ne eg]
      exact chL_app l _ b1
    · rw [b2 n, List.length_append, List.length_singleton]
      constructor
      · intro ⟨q1, q2⟩
        exact ⟨by omega, by rw [hold n q1]; exact q2⟩
      · intro ⟨q1, q2⟩
        by_cases q3 : n = N.length
        · rw [q3, ehash] at q2
          omega
        · exact ⟨by omega, by rw [← hold n (by omega)]; exact q2⟩
theorem ch_pop {N H : List (List Int)} (h : chR N H) (hN : 0 < N.length) : chR (N.take (N.length - 1)) (ts H (chH N (N.length - 1)) 0 (tg N ((N.length - 1 : Nat) : Int) 3)) := by
  obtain ⟨a1, a2, a3⟩ := h
  obtain ⟨k, e, hk⟩ := tmCh_r (tg N ((N.length - 1 : Nat) : Int) 0) (tg N ((N.length - 1 : Nat) : Int) 1) (tg N ((N.length - 1 : Nat) : Int) 2)
  have e : chH N (N.length - 1) = (k : Int) := e
  rw [e]
  have elen : (N.take (N.length - 1)).length = N.length - 1 := by rw [List.length_take]; omega
  have hold : ∀ n, n < N.length - 1 → chH (N.take (N.length - 1)) n = chH N n := fun n hn => by
    unfold chH
    rw [tg_take hn, tg_take hn, tg_take hn]
  refine ⟨by rw [ts_len]; exact a1, ts_r1 a2, fun g hg => ?_⟩
  obtain ⟨l, b1, b2⟩ := a3 g hg
  by_cases eg : g = k
  · subst eg
    have hm : N.length - 1 ∈ l := (b2 _).mpr ⟨by omega, e⟩
    cases l with
    | nil => cases hm
    | cons n l =>
      obtain ⟨c1, c2, c3, c4⟩ := b1
      have en : n = N.length - 1 := by
        rcases List.mem_cons.mp hm with q | q
        · exact q.symm
        · have := c3 _ q
          omega
      subst en
      refine ⟨l, ?_, fun n => ?_⟩
      · rw [tg_ts (by omega) a2]
        exact chL_take (by omega) l _ c4 c3
      · rw [elen]
        constructor
        · intro q
          have q1 := c3 n q
          exact ⟨q1, by rw [hold n q1]; exact ((b2 n).mp (List.mem_cons_of_mem _ q)).2⟩
        · intro ⟨q1, q2⟩
          rcases List.mem_cons.mp ((b2 n).mpr ⟨by omega, by rw [← hold n q1]; exact q2⟩) with q | q
          · omega
          · exact q
  · have hlt : ∀ m ∈ l, m < N.length - 1 := fun m hm => by
      obtain ⟨q1, q2⟩ := (b2 m).mp hm
      by_cases q3 : m = N.length - 1
      · rw [q3, e] at q2
        omega
      · omega
    refine ⟨l, ?_, fun n => ?_⟩
    · rw [tg_ts_ne eg]
      exact chL_take (by omega) l _ b1 hlt
    · rw [elen]
      constructor
      · intro q
        have q1 := hlt n q
        exact ⟨q1, by rw [hold n q1]; exact ((b2 n).mp q).2⟩
      · intro ⟨q1, q2⟩
        exact (b2 n).mpr ⟨by omega, by rw [← hold n q1]; exact q2⟩
