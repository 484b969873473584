/-! Own rows: BREADTH: what every turn keeps of its tables. By hand; nothing of the bytecode. -/
abbrev bTS : Type := bTb × bLs × List (Nat × Nat)
def tS (S : bS) : bTS := (S.1, S.2.1.1, S.2.2.1)
def tPre (T F : bTS) : Prop := bPre T.1.1 F.1.1 ∧ bPre T.1.2.1 F.1.2.1 ∧ bPre T.1.2.2 F.1.2.2 ∧ bPre T.2.1 F.2.1 ∧ bPre T.2.2 F.2.2
theorem tPre_re (T : bTS) : tPre T T := ⟨bPre_refl _, bPre_refl _, bPre_refl _, bPre_refl _, bPre_refl _⟩
theorem tPre_tr {T U F : bTS} (h : tPre T U) (k : tPre U F) : tPre T F := ⟨bPre_trans h.1 k.1, bPre_trans h.2.1 k.2.1, bPre_trans h.2.2.1 k.2.2.1, bPre_trans h.2.2.2.1 k.2.2.2.1, bPre_trans h.2.2.2.2 k.2.2.2.2⟩
/-- the tables are sound: so many nodes are terms; parts come before; variables are nodes; lists have their parents before -/
def tW (g : Nat) (T : bTS) : Prop := (∀ n, n < g → bhd T.1.1 n ≠ none) ∧ (0 < g ∧ g ≤ T.1.1.length) ∧ (∀ n, bhd T.1.1 n = some 1 → bfs T.1.1 n < n) ∧ (∀ (i n : Nat), T.1.2.1[i]? = some (some n) → n < T.1.1.length) ∧ bLw T.2.1 T.2.2.length
def enW (T : bTS) (en : bEn) : Prop := (∀ p, en.1 = some p → p < T.2.1.length) ∧ en.2.1.1 ≤ en.2.1.2 ∧ en.2.1.2 ≤ T.2.2.length
def sIn (g : Nat) (S : bS) : Prop := tW g (tS S) ∧ (∀ en, en ∈ S.2.1.2.1 → enW (tS S) en) ∧ (∀ l, l ∈ S.2.2.2.1 → l.2.2.1 < S.2.1.1.length) ∧ S.2.1.1.length = S.2.2.2.2.1
theorem enW_pre {T U : bTS} {en : bEn} (h : tPre T U) (k : enW T en) : enW U en := ⟨fun p hp => Nat.lt_of_lt_of_le (k.1 p hp) (bPre_len h.2.2.2.1), k.2.1, Nat.le_trans k.2.2 (bPre_len h.2.2.2.2)⟩
theorem bhd_new {N : bNT} {x : Option Nat × Nat} {n : Nat} : bhd (N ++ [x]) n = if n < N.length then bhd N n else if n = N.length then x.1 else none := by
  unfold bhd
  by_cases c : n < N.length
  · rw [if_pos c, List.getElem?_append_left c]
  · rw [if_neg c]
    by_cases c2 : n = N.length
    · rw [if_pos c2, c2]
      simp
    · rw [if_neg c2, List.getElem?_eq_none (by simp; omega)]
      rfl
theorem bfs_new {N : bNT} {x : Option Nat × Nat} {n : Nat} : bfs (N ++ [x]) n = if n < N.length then bfs N n else if n = N.length then x.2 else 0 := by
  unfold bfs
  by_cases c : n < N.length
  · rw [if_pos c, List.getElem?_append_left c]
  · rw [if_neg c]
    by_cases c2 : n = N.length
    · rw [if_pos c2, c2]
      simp
    · rw [if_neg c2, List.getElem?_eq_none (by simp; omega)]
      rfl
/-- a node more -/
theorem tW_node {g : Nat} {N : bNT} {Vr : List (Option Nat)} {Ce : List (Nat × Nat × Option Nat)} {Ls : bLs} {Bi : List (Nat × Nat)} {x : Option Nat × Nat} (h : tW g ((N, Vr, Ce), Ls, Bi)) (hx : x.1 = some 1 → x.2 < N.length) : tW g ((N ++ [x], Vr, Ce), Ls, Bi) := by
  obtain ⟨h1, h2, h3, h4, h5⟩ := h
  refine ⟨fun n hn => ?_, ⟨h2.1, ?_⟩, fun n hn => ?_, fun i n hi => ?_, h5⟩
  · show bhd (N ++ [x]) n ≠ none
    rw [bhd_new, if_pos (Nat.lt_of_lt_of_le hn h2.2)]
    exact h1 n hn
  · show g ≤ (N ++ [x]).length
    rw [List.length_append]
    exact Nat.le_trans h2.2 (Nat.le_add_right _ _)
  · show bfs (N ++ [x]) n < n
    have hn : bhd (N ++ [x]) n = some 1 := hn
    rw [bhd_new] at hn
    rw [bfs_new]
    by_cases c : n < N.length
    · rw [if_pos c] at hn ⊢
      exact h3 n hn
    · rw [if_neg c] at hn ⊢
      by_cases c2 : n = N.length
      · rw [if_pos c2] at hn ⊢
        rw [c2]
        exact hx hn
      · rw [if_neg c2] at hn
        cases hn
  · show n < (N ++ [x]).length
    rw [List.length_append]
    have := h4 i n hi
    exact Nat.lt_of_lt_of_le this (Nat.le_add_right _ _)
/-- variables more -/
theorem tW_var {g : Nat} {N : bNT} {Vr : List (Option Nat)} {Ce : List (Nat × Nat × Option Nat)} {Ls : bLs} {Bi : List (Nat × Nat)} {o : Option Nat} (h : tW g ((N, Vr, Ce), Ls, Bi)) (ho : ∀ n, o = some n → n < N.length) : tW g ((N, Vr ++ [o], Ce), Ls, Bi) := by
  obtain ⟨h1, h2, h3, h4, h5⟩ := h
  refine ⟨h1, h2, h3, fun i n hi => ?_, h5⟩
  have hi : (Vr ++ [o])[i]? = some (some n) := hi
  by_cases c : i < Vr.length
  · rw [List.getElem?_append_left c] at hi
    exact h4 i n hi
  · rw [List.getElem?_append_right (by omega)] at hi
    have hl := (List.getElem?_eq_some_iff.mp hi).1
    have e : i - Vr.length = 0 := by simpa using hl
    rw [e] at hi
    exact ho n (by simpa using hi)
theorem tW_vars {g : Nat} {N : bNT} {Ce : List (Nat × Nat × Option Nat)} {Ls : bLs} {Bi : List (Nat × Nat)} : ∀ (os : List (Option Nat)) (Vr : List (Option Nat)), tW g ((N, Vr, Ce), Ls, Bi) → (∀ o, o ∈ os → ∀ n, o = some n → n < N.length) → tW g ((N, Vr ++ os, Ce), Ls, Bi)
  | [], Vr, h, _ => by rw [List.append_nil]; exact h
  | o :: os, Vr, h, ho => by
    have := tW_vars os (Vr ++ [o]) (tW_var h (ho o List.mem_cons_self)) (fun x hx => ho x (List.mem_cons_of_mem _ hx))
    rw [List.append_assoc] at this
    exact this
theorem bNo_lt {g : Nat} {N : bNT} {Vr : List (Option Nat)} {Ce : List (Nat × Nat × Option Nat)} {Ls : bLs} {Bi : List (Nat × Nat)} (h : tW g ((N, Vr, Ce), Ls, Bi)) {b x n : Nat} (hn : bNo Vr b x = some n) : n < N.length := h.2.2.2.1 _ _ (bNo_iff.mp hn)
/-- a clause's variables -/
theorem tW_bOv {g : Nat} {Ce : List (Nat × Nat × Option Nat)} {Ls : bLs} {Bi : List (Nat × Nat)} {tv : Nat → Bool} {cnt : Nat} {arg : Nat → Option Nat} : ∀ (xs : List Nat) (N : bNT) (Vr : List (Option Nat)), tW g ((N, Vr, Ce), Ls, Bi) → (∀ x n, arg x = some n → n < N.length) → tW g (((bOv tv cnt arg xs N Vr).1, (bOv tv cnt arg xs N Vr).2, Ce), Ls, Bi) ∧ bPre N (bOv tv cnt arg xs N Vr).1 ∧ bPre Vr (bOv tv cnt arg xs N Vr).2
  | [], N, Vr, h, _ => ⟨h, bPre_refl _, bPre_refl _⟩
  | x :: xs, N, Vr, h, ha => by
    by_cases c : x < cnt
    · have e : bOv tv cnt arg (x :: xs) N Vr = bOv tv cnt arg xs N (Vr ++ [arg x]) := if_pos c
      rw [e]
      obtain ⟨a1, a2, a3⟩ := tW_bOv xs N (Vr ++ [arg x]) (tW_var h (fun n hn => ha x n hn)) ha
      exact ⟨a1, a2, bPre_trans (bPre_app _ _) a3⟩
    · by_cases c2 : tv x = true
      · have e : bOv tv cnt arg (x :: xs) N Vr = bOv tv cnt arg xs (N ++ [(none, 0)]) (Vr ++ [some N.length]) := by
          show (if _ then _ else _) = _
          rw [if_neg c, if_pos c2]
        rw [e]
        obtain ⟨a1, a2, a3⟩ := tW_bOv xs (N ++ [(none, 0)]) (Vr ++ [some N.length]) (tW_var (tW_node h (fun q => by cases q)) (fun n hn => by cases hn; simp)) (fun x n hn => by have := ha x n hn; rw [List.length_append]; omega)
        exact ⟨a1, bPre_trans (bPre_app _ _) a2, bPre_trans (bPre_app _ _) a3⟩
      · have e : bOv tv cnt arg (x :: xs) N Vr = bOv tv cnt arg xs N (Vr ++ [none]) := by
          show (if _ then _ else _) = _
          rw [if_neg c, if_neg c2]
        rw [e]
        obtain ⟨a1, a2, a3⟩ := tW_bOv xs N (Vr ++ [none]) (tW_var h (fun n hn => by cases hn)) ha
        exact ⟨a1, a2, bPre_trans (bPre_app _ _) a3⟩
theorem bOc_pre {c base : Nat} : ∀ (k : Nat) (r : Option Nat) (Ce : List (Nat × Nat × Option Nat)), bPre Ce (bOc c base k r Ce).1
  | 0, _, Ce => bPre_refl Ce
  | k + 1, r, Ce => bPre_trans (bPre_app _ _) (bOc_pre k (some Ce.length) (Ce ++ [(c * 5 + k, base, r)]))
/-- a list more -/
theorem tW_list {g : Nat} {N : bNT} {Vr : List (Option Nat)} {Ce : List (Nat × Nat × Option Nat)} {Ls : bLs} {Bi : List (Nat × Nat)} {p : Option Nat} {i j : Nat} {h0 : Option Nat} (h : tW g ((N, Vr, Ce), Ls, Bi)) (hp : ∀ q, p = some q → q < Ls.length) (hij : i ≤ j) (hj : j ≤ Bi.length) : tW g ((N, Vr, Ce), Ls ++ [(p, i, j, h0)], Bi) := by
  obtain ⟨h1, h2, h3, h4, h5⟩ := h
  refine ⟨h1, h2, h3, h4, fun l e he => ?_⟩
  have he : (Ls ++ [(p, i, j, h0)])[l]? = some e := he
  by_cases c : l < Ls.length
  · rw [List.getElem?_append_left c] at he
    exact h5 l e he
  · rw [List.getElem?_append_right (by omega)] at he
    have hl := (List.getElem?_eq_some_iff.mp he).1
    have e0 : l - Ls.length = 0 := by simpa using hl
    rw [e0] at he
    have e1 : e = (p, i, j, h0) := by simpa using he.symm
    rw [e1]
    exact ⟨fun q hq => by have := hp q hq; omega, hij, hj⟩
theorem tW_bi {g : Nat} {N : bNT} {Vr : List (Option Nat)} {Ce : List (Nat × Nat × Option Nat)} {Ls : bLs} {Bi x : List (Nat × Nat)} (h : tW g ((N, Vr, Ce), Ls, Bi)) : tW g ((N, Vr, Ce), Ls, Bi ++ x) := by
  obtain ⟨h1, h2, h3, h4, h5⟩ := h
  refine ⟨h1, h2, h3, h4, fun l e he => ?_⟩
  obtain ⟨a, b, c⟩ := h5 l e he
  refine ⟨a, b, ?_⟩
  show e.2.2.1 ≤ (Bi ++ x).length
  have c : e.2.2.1 ≤ Bi.length := c
  rw [List.length_append]
  omega
theorem tW_ce {g : Nat} {N : bNT} {Vr : List (Option Nat)} {Ce Ce' : List (Nat × Nat × Option Nat)} {Ls : bLs} {Bi : List (Nat × Nat)} (h : tW g ((N, Vr, Ce), Ls, Bi)) : tW g ((N, Vr, Ce'), Ls, Bi) := h
section BS
variable {C : mmC} {tv : Nat → Nat → Bool} {g : Nat}
theorem sIn_take {S S1 : bS} {h : Option Nat} (hS : sIn g S) (ht : bTake C tv S h S1) : sIn g S1 ∧ tPre (tS S) (tS S1) ∧ S1.2.1.1.length = S.2.1.1.length + 1 := by
  obtain ⟨⟨N, Vr, Ce⟩, ⟨Ls, Ro, fr⟩, Bi, lv, ⟨tk, na⟩⟩ := S
  obtain ⟨w1, w2, w3, w4⟩ := hS
  obtain ⟨en, e1, e2⟩ := ht
  have hen := w2 en (List.mem_of_getElem? e1)
  have w4 : Ls.length = tk := w4
  rcases e2 with ⟨-, -, rfl⟩ | ⟨cc, e, gl, c, q1, q2, q3, q4, q5, rfl⟩
  · refine ⟨⟨tW_list w1 hen.1 hen.2.1 hen.2.2, fun x hx => ?_, fun l hl => ?_, ?_⟩, ⟨bPre_refl _, bPre_refl _, bPre_refl _, bPre_app _ _, bPre_refl _⟩, by simp⟩
    · exact enW_pre (T := ((N, Vr, Ce), Ls, Bi)) ⟨bPre_refl _, bPre_refl _, bPre_refl _, bPre_app _ _, bPre_refl _⟩ (w2 x hx)
    · have := w3 l hl
      show l.2.2.1 < (Ls ++ [_]).length
      rw [List.length_append]
      exact Nat.lt_of_lt_of_le this (Nat.le_add_right _ _)
    · show (Ls ++ [_]).length = tk + 1
      rw [List.length_append, w4]
      rfl
  · obtain ⟨a1, a2, a3⟩ := tW_bOv (tv := tv c) (cnt := gl.2.2.1) (arg := fun k => bNo Vr e.2.1 (smv gl k)) (List.range 8) N Vr w1 (fun x n hn => bNo_lt w1 hn)
    have hpre : tPre ((N, Vr, Ce), Ls, Bi) (((bOv (tv c) gl.2.2.1 (fun k => bNo Vr e.2.1 (smv gl k)) (List.range 8) N Vr).1, (bOv (tv c) gl.2.2.1 (fun k => bNo Vr e.2.1 (smv gl k)) (List.range 8) N Vr).2, (bOc c Vr.length (C.1.1.2 c).length en.2.2.1 Ce).1), (Ls ++ [(en.1, en.2.1.1, en.2.1.2, h)]), Bi) := ⟨a2, a3, bOc_pre _ _ _, bPre_app _ _, bPre_refl _⟩
    refine ⟨⟨tW_list (tW_ce a1) hen.1 hen.2.1 hen.2.2, fun x hx => ?_, fun l hl => ?_, ?_⟩, hpre, by simp⟩
    · refine enW_pre hpre ?_
      rcases List.mem_or_eq_of_mem_set hx with q | q
      · exact w2 x q
      · rw [q]; exact hen
    · have := w3 l hl
      show l.2.2.1 < (Ls ++ [_]).length
      rw [List.length_append]
      exact Nat.lt_of_lt_of_le this (Nat.le_add_right _ _)
    · show (Ls ++ [_]).length = tk + 1
      rw [List.length_append, w4]
      rfl
theorem sIn_res {S S1 : bS} {l h : Nat} (hS : sIn g S) (hl : l < S.2.1.1.length) (ht : bRes C g l h S S1) : sIn g S1 ∧ tPre (tS S) (tS S1) := by
  obtain ⟨⟨N, Vr, Ce⟩, ⟨Ls, Ro, fr⟩, Bi, lv, ⟨tk, na⟩⟩ := S
  obtain ⟨w1, w2, w3, w4⟩ := hS
  have w1 : tW g ((N, Vr, Ce), Ls, Bi) := w1
  have w2 : ∀ en, en ∈ Ro → enW ((N, Vr, Ce), Ls, Bi) en := w2
  obtain ⟨cs, -, ⟨-, rfl⟩ | ⟨A, cc, B, e, gl, -, -, -, -, -, Ce1, r, hCe1, -, hk⟩⟩ := ht
  · exact ⟨⟨w1, w2, w3, w4⟩, tPre_re _⟩
  · have hc1 : bPre Ce Ce1 := by rw [hCe1]; exact bPre_app _ _
    rcases hk with ⟨-, rfl⟩ | ⟨-, rfl⟩ | ⟨-, x, y, N1, k, rr, hx, hy, -, ⟨-, -, rfl⟩ | ⟨-, rfl⟩⟩
    · have hp : tPre ((N, Vr, Ce), Ls, Bi) ((N, Vr, Ce1), Ls, Bi) := ⟨bPre_refl _, bPre_refl _, hc1, bPre_refl _, bPre_refl _⟩
      refine ⟨⟨tW_ce w1, fun en hen => ?_, w3, w4⟩, hp⟩
      have hen : en ∈ (if C.1.1.1 gl.2.1 = [] then Ro else Ro ++ [(some l, (0, 0), r, some cc, 0)]) := hen
      split at hen
      · exact enW_pre hp (w2 en hen)
      · rcases List.mem_append.mp hen with q | q
        · exact enW_pre hp (w2 en q)
        · rw [List.mem_singleton.mp q]
          exact ⟨fun p hp => by cases hp; exact hl, Nat.le_refl _, Nat.zero_le _⟩
    · have hp : tPre ((N, Vr, Ce), Ls, Bi) ((N, Vr ++ (List.range gl.2.2.1).map (fun k => bNo Vr e.2.1 (smv gl k)), Ce1 ++ [(60 + gl.2.1, Vr.length, none)]), Ls, Bi) := ⟨bPre_refl _, bPre_app _ _, bPre_trans hc1 (bPre_app _ _), bPre_refl _, bPre_refl _⟩
      refine ⟨⟨tW_ce (tW_vars _ _ w1 (fun o ho n hn => ?_)), fun en hen => ?_, fun q hq => ?_, w4⟩, hp⟩
      · obtain ⟨k, -, e1⟩ := List.mem_map.mp ho
        rw [hn] at e1
        exact bNo_lt w1 e1
      · rcases List.mem_append.mp hen with q | q
        · exact enW_pre hp (w2 en q)
        · rw [List.mem_singleton.mp q]
          exact ⟨fun p hp => by cases hp; exact hl, Nat.le_refl _, Nat.zero_le _⟩
      · rcases List.mem_cons.mp hq with q | q
        · rw [q]; exact hl
        · exact w3 _ q
    · have hN1 : tW g ((N1, Vr, Ce), Ls, Bi) ∧ bPre N N1 := by
        rcases hy with ⟨-, -, rfl⟩ | ⟨-, -, rfl⟩
        · exact ⟨w1, bPre_refl _⟩
        · refine ⟨tW_node w1 (fun q => ?_), bPre_app _ _⟩
          have q : gl.2.1 = 1 := by simpa using q
          show (if gl.2.1 = 1 then (bNo Vr e.2.1 (smv gl 1)).getD 0 else 0) < N.length
          rw [if_pos q]
          cases hb : bNo Vr e.2.1 (smv gl 1) with
          | none => exact Nat.lt_of_lt_of_le w1.2.1.1 w1.2.1.2
          | some n => exact bNo_lt w1 hb
      have hp : tPre ((N, Vr, Ce), Ls, Bi) ((N1, Vr, Ce1), Ls, Bi ++ rr.2.2) := ⟨hN1.2, bPre_refl _, hc1, bPre_refl _, bPre_app _ _⟩
      refine ⟨⟨tW_bi (tW_ce hN1.1), fun en hen => ?_, w3, w4⟩, hp⟩
      rcases List.mem_append.mp hen with q | q
      · exact enW_pre hp (w2 en q)
      · rw [List.mem_singleton.mp q]
        refine ⟨fun p hp => by cases hp; exact hl, Nat.le_add_right _ _, ?_⟩
        show Bi.length + rr.2.2.length ≤ (Bi ++ rr.2.2).length
        rw [List.length_append]
        exact Nat.le_refl _
    · have hN1 : tW g ((N1, Vr, Ce), Ls, Bi) ∧ bPre N N1 := by
        rcases hy with ⟨-, -, rfl⟩ | ⟨-, -, rfl⟩
        · exact ⟨w1, bPre_refl _⟩
        · refine ⟨tW_node w1 (fun q => ?_), bPre_app _ _⟩
          have q : gl.2.1 = 1 := by simpa using q
          show (if gl.2.1 = 1 then (bNo Vr e.2.1 (smv gl 1)).getD 0 else 0) < N.length
          rw [if_pos q]
          cases hb : bNo Vr e.2.1 (smv gl 1) with
          | none => exact Nat.lt_of_lt_of_le w1.2.1.1 w1.2.1.2
          | some n => exact bNo_lt w1 hb
      have hp : tPre ((N, Vr, Ce), Ls, Bi) ((N1, Vr, Ce1), Ls, Bi) := ⟨hN1.2, bPre_refl _, hc1, bPre_refl _, bPre_refl _⟩
      exact ⟨⟨tW_ce hN1.1, fun en hen => enW_pre hp (w2 en hen), w3, w4⟩, hp⟩
theorem sIn_turn {S S' : bS} (hS : sIn g S) (ht : bTurn C tv g S (.inl S')) : sIn g S' ∧ tPre (tS S) (tS S') := by
  obtain ⟨⟨N, Vr, Ce⟩, ⟨Ls, Ro, fr⟩, Bi, lv, ⟨tk, na⟩⟩ := S
  rcases ht with ⟨-, ⟨-, q⟩ | ⟨l, lv', rfl, q⟩⟩ | ⟨-, -, q⟩ | ⟨-, -, h, S1, hk, hr⟩
  · cases q
  · cases q
    obtain ⟨w1, w2, w3, w4⟩ := hS
    refine ⟨⟨w1, fun en hen => ?_, fun l' hl' => w3 l' (List.mem_cons_of_mem _ hl'), w4⟩, tPre_re _⟩
    rcases List.mem_append.mp hen with q | q
    · exact w2 en (List.mem_of_mem_take q)
    · rw [List.mem_singleton.mp q]
      exact ⟨fun p hp => by cases hp; exact w3 l List.mem_cons_self, Nat.le_refl _, Nat.zero_le _⟩
  · cases q
  · obtain ⟨k1, k2, k3⟩ := sIn_take hS hk
    have e5 : S1.2.2.2.1 = lv ∧ S1.2.2.2.2.1 = tk + 1 := by
      obtain ⟨en, -, ⟨-, -, rfl⟩ | ⟨_, _, _, _, -, -, -, -, -, rfl⟩⟩ := hk
      · exact ⟨rfl, rfl⟩
      · exact ⟨rfl, rfl⟩
    rcases hr with ⟨-, ⟨-, q⟩ | ⟨l, lv', rfl, q⟩⟩ | ⟨c, S2, -, q, hres⟩
    · cases q
      obtain ⟨w1, w2, w3, w4⟩ := k1
      rw [e5.1] at w3
      exact ⟨⟨w1, w2, w3, by rw [← e5.2]; exact w4⟩, k2⟩
    · cases q
      obtain ⟨w1, w2, w3, w4⟩ := k1
      rw [e5.1] at w3
      exact ⟨⟨w1, fun en hen => w2 en (List.mem_of_mem_take hen), fun l' hl' => w3 l' (List.mem_cons_of_mem _ hl'), by rw [← e5.2]; exact w4⟩, k2⟩
    · cases q
      obtain ⟨r1, r2⟩ := sIn_res k1 (by rw [k3]; exact Nat.lt_succ_self _) hres
      exact ⟨r1, tPre_tr k2 r2⟩
end BS
