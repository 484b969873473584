/-! Own rows: BREADTH: how long the ways are; the marks of nodes. By hand; nothing of the bytecode. -/
theorem nd_le : ∀ (n : Nat) (l : List Nat), l.Nodup → (∀ a, a ∈ l → a < n) → l.length ≤ n
  | 0, [], _, _ => Nat.le_refl _
  | 0, a :: _, _, h => absurd (h a List.mem_cons_self) (by omega)
  | n + 1, l, hn, h => by
    by_cases c : n ∈ l
    · have h1 := nd_le n (l.erase n) (hn.erase n) (fun a ha => by
        have q := hn.mem_erase_iff.mp ha
        have := h a q.2
        have := q.1
        omega)
      rw [List.length_erase_of_mem c] at h1
      omega
    · have h1 := nd_le n l hn (fun a ha => by
        have := h a ha
        have : a ≠ n := fun e => c (e ▸ ha)
        omega)
      omega
theorem bt_two {bd : bBD} : ∀ (j j' a z : Nat), bt bd j a z → bt bd j' a z → bd z = none → j = j'
  | 0, 0, _, _, _, _, _ => rfl
  | 0, j' + 1, a, z, h, ⟨m, q, _⟩, hz => by
    have h : a = z := h
    rw [h, hz] at q
    cases q
  | j + 1, 0, a, z, ⟨m, q, _⟩, h, hz => by
    have h : a = z := h
    rw [h, hz] at q
    cases q
  | j + 1, j' + 1, a, z, ⟨m, q, k⟩, ⟨m', q', k'⟩, hz => by
    rw [q] at q'
    cases q'
    rw [bt_two j j' m z k k' hz]
theorem bt_list {bd : bBD} : ∀ (k x z : Nat), bt bd k x z → bd z = none → ∃ l : List Nat, l.length = k ∧ l.Nodup ∧ ∀ a, a ∈ l → bd a ≠ none ∧ ∃ j, j ≤ k ∧ bt bd j a z
  | 0, _, _, _, _ => ⟨[], rfl, List.nodup_nil, fun a h => absurd h List.not_mem_nil⟩
  | k + 1, x, z, ⟨m, q, h⟩, hz => by
    obtain ⟨l, l1, l2, l3⟩ := bt_list k m z h hz
    refine ⟨x :: l, by rw [List.length_cons, l1], List.nodup_cons.mpr ⟨fun hx => ?_, l2⟩, fun a ha => ?_⟩
    · obtain ⟨-, j, j1, j2⟩ := l3 x hx
      have := bt_two j (k + 1) x z j2 ⟨m, q, h⟩ hz
      omega
    · rcases List.mem_cons.mp ha with e | e
      · rw [e]
        exact ⟨by rw [q]; simp, k + 1, Nat.le_refl _, m, q, h⟩
      · obtain ⟨a1, j, j1, j2⟩ := l3 a e
        exact ⟨a1, j, by omega, j2⟩
theorem bRp_k {N : bNT} {g : Nat} {bd : bBD} (hk : bWk N g bd) {x z : Nat} (h : bRp bd x z) : ∃ k, k ≤ N.length ∧ bt bd k x z := by
  obtain ⟨⟨k, h1⟩, h2⟩ := h
  obtain ⟨l, l1, l2, l3⟩ := bt_list k x z h1 h2
  refine ⟨k, ?_, h1⟩
  rw [← l1]
  refine nd_le _ l l2 (fun a ha => ?_)
  obtain ⟨m, hm⟩ := Option.ne_none_iff_exists'.mp (l3 a ha).1
  exact (hk.2.2 a m hm).2.1
/-- the nodes' rows, with the marks -/
def ndM (NN : List (List Int)) (N : bNT) (bd : bBD) (mk : Nat → Int) : Prop := NN.length = N.length ∧ ∀ (n : Nat) (x : Option Nat × Nat), N[n]? = some x → ∃ fs sc : Int, NN[n]? = some [oI x.1, fs, sc, oI (bd n), mk n] ∧ (x.1 = some 1 → fs = (x.2 : Int))
theorem ndM_of {NN : List (List Int)} {N : bNT} {bd : bBD} {mb : Int} (h : ndR NN N bd mb) : ∃ mk, ndM NN N bd mk ∧ ∀ n, n < N.length → -1 ≤ mk n ∧ mk n < mb := by
  refine ⟨fun n => tg NN (n : Int) 4, ⟨h.1, fun n x hx => ?_⟩, fun n hn => ?_⟩
  · obtain ⟨fs, sc, m0, h1, h2, h3⟩ := h.2 n x hx
    have e := tg_at (j := 4) h1
    refine ⟨fs, sc, ?_, h2⟩
    rw [h1]
    show some [oI x.1, fs, sc, oI (bd n), m0] = some [oI x.1, fs, sc, oI (bd n), tg NN (n : Int) 4]
    rw [show tg NN (n : Int) 4 = m0 from e]
  · obtain ⟨x, hx⟩ : ∃ x, N[n]? = some x := ⟨_, List.getElem?_eq_getElem hn⟩
    obtain ⟨fs, sc, m0, h1, h2, h3⟩ := h.2 n x hx
    have e : tg NN (n : Int) 4 = m0 := tg_at (j := 4) h1
    show -1 ≤ tg NN (n : Int) 4 ∧ tg NN (n : Int) 4 < mb
    rw [e]
    exact h3
theorem ndR_of {NN : List (List Int)} {N : bNT} {bd : bBD} {mb : Int} {mk : Nat → Int} (h : ndM NN N bd mk) (hm : ∀ n, n < N.length → -1 ≤ mk n ∧ mk n < mb) : ndR NN N bd mb := ⟨h.1, fun n x hx => by
  obtain ⟨fs, sc, h1, h2⟩ := h.2 n x hx
  exact ⟨fs, sc, mk n, h1, h2, hm n (List.getElem?_eq_some_iff.mp hx).1⟩⟩
theorem bhd_at {N : bNT} {n : Nat} {x : Option Nat × Nat} (h : N[n]? = some x) : bhd N n = x.1 ∧ bfs N n = x.2 := by
  unfold bhd bfs
  rw [h]
  exact ⟨rfl, rfl⟩
theorem ndM_get {NN : List (List Int)} {N : bNT} {bd : bBD} {mk : Nat → Int} (h : ndM NN N bd mk) {n : Nat} (hn : n < N.length) : tg NN (n : Int) 0 = oI (bhd N n) ∧ (bhd N n = some 1 → tg NN (n : Int) 1 = (bfs N n : Int)) ∧ tg NN (n : Int) 3 = oI (bd n) ∧ tg NN (n : Int) 4 = mk n := by
  obtain ⟨x, hx⟩ : ∃ x, N[n]? = some x := ⟨_, List.getElem?_eq_getElem hn⟩
  obtain ⟨fs, sc, h1, h2⟩ := h.2 n x hx
  obtain ⟨e1, e2⟩ := bhd_at hx
  rw [e1, e2]
  refine ⟨tg_at (j := 0) h1, fun q => ?_, tg_at (j := 3) h1, tg_at (j := 4) h1⟩
  rw [← h2 q]
  exact tg_at (j := 1) h1
theorem ndM_fd {NN : List (List Int)} {N : bNT} {bd : bBD} {mk : Nat → Int} (h : ndM NN N bd mk) (hb : ∀ n m, bd n = some m → m < N.length) : ∀ (k x z : Nat), x < N.length → bt bd k x z → bd z = none → fdT NN k (x : Int) (z : Int)
  | 0, x, z, hx, e, hz => by
    have e : x = z := e
    subst e
    refine ⟨rfl, ?_⟩
    rw [(ndM_get h hx).2.2.1, hz]
    rfl
  | k + 1, x, z, hx, ⟨m, q, e⟩, hz => by
    show tg NN (x : Int) 3 ≠ -1 ∧ fdT NN k (tg NN (x : Int) 3) (z : Int)
    rw [(ndM_get h hx).2.2.1, q]
    exact ⟨oI_ne, ndM_fd h hb k m z (hb x m q) e hz⟩
theorem ndM_b {NN : List (List Int)} {N : bNT} {bd : bBD} {mk : Nat → Int} (h : ndM NN N bd mk) (a : Nat) (o : Option Nat) : ndM (ts NN (a : Int) 3 (oI o)) N (fun n => if n = a then o else bd n) mk := by
  refine ⟨by rw [ts_len]; exact h.1, fun n x hx => ?_⟩
  obtain ⟨fs, sc, h1, h2⟩ := h.2 n x hx
  have e3 : ts NN (a : Int) 3 (oI o) = NN.set a ((NN.getD a []).set 3 (oI o)) := ts_in (j := 3)
  refine ⟨fs, sc, ?_, h2⟩
  rw [e3]
  show (NN.set a ((NN.getD a []).set 3 (oI o)))[n]? = some [oI x.1, fs, sc, oI (if n = a then o else bd n), mk n]
  by_cases c : n = a
  · subst c
    have hl := (List.getElem?_eq_some_iff.mp h1).1
    rw [if_pos rfl, List.getElem?_set_self hl, List.getD_eq_getElem?_getD, h1]
    rfl
  · rw [if_neg c, List.getElem?_set_ne (by omega)]
    exact h1
theorem ndM_m {NN : List (List Int)} {N : bNT} {bd : bBD} {mk : Nat → Int} (h : ndM NN N bd mk) (a : Nat) (v : Int) : ndM (ts NN (a : Int) 4 v) N bd (fun n => if n = a then v else mk n) := by
  refine ⟨by rw [ts_len]; exact h.1, fun n x hx => ?_⟩
  obtain ⟨fs, sc, h1, h2⟩ := h.2 n x hx
  have e3 : ts NN (a : Int) 4 v = NN.set a ((NN.getD a []).set 4 v) := ts_in (j := 4)
  refine ⟨fs, sc, ?_, h2⟩
  rw [e3]
  show (NN.set a ((NN.getD a []).set 4 v))[n]? = some [oI x.1, fs, sc, oI (bd n), if n = a then v else mk n]
  by_cases c : n = a
  · subst c
    have hl := (List.getElem?_eq_some_iff.mp h1).1
    rw [if_pos rfl, List.getElem?_set_self hl, List.getD_eq_getElem?_getD, h1]
    rfl
  · rw [if_neg c, List.getElem?_set_ne (by omega)]
    exact h1
theorem ndM_ex {NN : List (List Int)} {N : bNT} {bd bd' : bBD} {mk mk' : Nat → Int} (h : ndM NN N bd mk) (hb : ∀ n, bd n = bd' n) (hm : ∀ n, mk n = mk' n) : ndM NN N bd' mk' := by
  have e1 : bd = bd' := funext hb
  have e2 : mk = mk' := funext hm
  rw [← e1, ← e2]
  exact h
theorem ndM_new {NN : List (List Int)} {N : bNT} {bd : bBD} {mk : Nat → Int} {hd : Option Nat} {f : Nat} {fs sc : Int} (h : ndM NN N bd mk) (hb : bd N.length = none) (hf : hd = some 1 → fs = (f : Int)) : ndM (NN ++ [trow 5 (oI hd) fs sc]) (N ++ [(hd, f)]) bd (fun n => if n = N.length then -1 else mk n) := by
  refine ⟨by rw [List.length_append, List.length_append, h.1]; rfl, fun n x hx => ?_⟩
  by_cases c : n < N.length
  · rw [List.getElem?_append_left c] at hx
    obtain ⟨f1, s1, h1, h2⟩ := h.2 n x hx
    refine ⟨f1, s1, ?_, h2⟩
    show (NN ++ [trow 5 (oI hd) fs sc])[n]? = some [oI x.1, f1, s1, oI (bd n), if n = N.length then -1 else mk n]
    rw [List.getElem?_append_left (by rw [h.1]; exact c), if_neg (by omega)]
    exact h1
  · have hl := (List.getElem?_eq_some_iff.mp hx).1
    rw [List.length_append, List.length_singleton] at hl
    have e : n = N.length := by omega
    subst e
    rw [List.getElem?_append_right (Nat.le_refl _), Nat.sub_self] at hx
    have e1 : x = (hd, f) := by simpa using hx.symm
    subst e1
    refine ⟨fs, sc, ?_, hf⟩
    show (NN ++ [trow 5 (oI hd) fs sc])[N.length]? = some [oI hd, fs, sc, oI (bd N.length), if N.length = N.length then -1 else mk N.length]
    rw [List.getElem?_append_right (by rw [h.1]; exact Nat.le_refl _), h.1, Nat.sub_self, hb, if_pos rfl]
    rfl
