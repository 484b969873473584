/-! Own rows: BREADTH: how long chains are and how many cells there are. By hand; nothing of the bytecode. -/
def chK (Ce : List (Nat × Nat × Option Nat)) (K : Nat) (o : Option Nat) : Prop := ∃ cs, bCh Ce o cs ∧ cs.length ≤ K
theorem chK_pre {Ce Ce' : List (Nat × Nat × Option Nat)} {K K' : Nat} {o : Option Nat} (h : bPre Ce Ce') (hk : K ≤ K') (c : chK Ce K o) : chK Ce' K' o := by
  obtain ⟨cs, h1, h2⟩ := c
  exact ⟨cs, bCh_pre h _ _ h1, by omega⟩
def pqz : Nat → Nat
  | 0 => 0
  | n + 1 => pqz n + 10 * n + 24
theorem bOc_len {c base : Nat} : ∀ (k : Nat) (r : Option Nat) (Ce : List (Nat × Nat × Option Nat)), (bOc c base k r Ce).1.length = Ce.length + k
  | 0, _, _ => rfl
  | k + 1, r, Ce => by
    show (bOc c base k (some Ce.length) (Ce ++ [(c * 5 + k, base, r)])).1.length = _
    rw [bOc_len k, List.length_append, List.length_singleton]
    omega
def zCl (S : bS) (K : Nat) : Prop := (∀ en, en ∈ S.2.1.2.1 → chK S.1.2.2 K en.2.2.1) ∧ ∀ l, l ∈ S.2.2.2.1 → chK S.1.2.2 K l.2.2.2
theorem zCl_le {S : bS} {K K' : Nat} (h : zCl S K) (hk : K ≤ K') : zCl S K' := ⟨fun en hen => chK_pre (bPre_refl _) hk (h.1 en hen), fun l hl => chK_pre (bPre_refl _) hk (h.2 l hl)⟩
section BCZ
variable {C : mmC} {tv : Nat → Nat → Bool} {g : Nat}
theorem zCl_take (hCC : ∀ p c, c ∈ C.1.1.1 p → (C.1.1.2 c).length ≤ 5) {S S1 : bS} {h : Option Nat} {K : Nat} (hS : zCl S K) (ht : bTake C tv S h S1) : zCl S1 K ∧ chK S1.1.2.2 (K + 5) h ∧ S1.1.2.2.length ≤ S.1.2.2.length + 5 := by
  obtain ⟨⟨N, Vr, Ce⟩, ⟨Ls, Ro, fr⟩, Bi, lv, ⟨tk, na⟩⟩ := S
  obtain ⟨h1, h2⟩ := hS
  have h1 : ∀ en, en ∈ Ro → chK Ce K en.2.2.1 := h1
  have h2 : ∀ l, l ∈ lv → chK Ce K l.2.2.2 := h2
  obtain ⟨en, e1, ⟨-, rfl, rfl⟩ | ⟨cc, e, gl, c, -, -, -, q4, q5, rfl⟩⟩ := ht
  · exact ⟨⟨h1, h2⟩, chK_pre (bPre_refl _) (by omega) (h1 en (List.mem_of_getElem? e1)), Nat.le_add_right _ _⟩
  · have hen := h1 en (List.mem_of_getElem? e1)
    have h5 := hCC _ _ (List.mem_of_getElem? q4)
    have hp : bPre Ce (bOc c Vr.length (C.1.1.2 c).length en.2.2.1 Ce).1 := bOc_pre _ _ _
    refine ⟨⟨fun x hx => ?_, fun l hl => chK_pre hp (Nat.le_refl _) (h2 l hl)⟩, ?_, ?_⟩
    · rcases List.mem_or_eq_of_mem_set hx with q | q
      · exact chK_pre hp (Nat.le_refl _) (h1 x q)
      · rw [q]
        exact chK_pre hp (Nat.le_refl _) hen
    · obtain ⟨cs, a1, a2⟩ := hen
      obtain ⟨ds, d1, d2, -⟩ := bOc_ch (c := c) (base := Vr.length) (C.1.1.2 c).length en.2.2.1 Ce cs a1
      rw [q5]
      exact ⟨ds ++ cs, d1, by rw [List.length_append]; omega⟩
    · show (bOc c Vr.length (C.1.1.2 c).length en.2.2.1 Ce).1.length ≤ Ce.length + 5
      rw [bOc_len]
      omega
theorem zCl_res {S S1 : bS} {l h K : Nat} (hS : zCl S K) (hh : chK S.1.2.2 K (some h)) (hK : 1 ≤ K) (ht : bRes C g l h S S1) : zCl S1 K ∧ S1.1.2.2.length ≤ S.1.2.2.length + K := by
  obtain ⟨⟨N, Vr, Ce⟩, ⟨Ls, Ro, fr⟩, Bi, lv, ⟨tk, na⟩⟩ := S
  obtain ⟨h1, h2⟩ := hS
  have h1 : ∀ en, en ∈ Ro → chK Ce K en.2.2.1 := h1
  have h2 : ∀ l, l ∈ lv → chK Ce K l.2.2.2 := h2
  obtain ⟨cs0, c0, c1⟩ := hh
  have c0 : bCh Ce (some h) cs0 := c0
  obtain ⟨cs, hcs, ⟨-, rfl⟩ | ⟨A, cc, B, e, gl, eA, -, -, he, -, Ce1, r, hCe1, hr, hk⟩⟩ := ht
  · exact ⟨⟨h1, h2⟩, Nat.le_add_right _ _⟩
  · have ec : cs = cs0 := bCh_uniq _ _ _ hcs c0
    rw [← ec, eA, List.length_append, List.length_cons] at c1
    rw [eA] at hcs
    have hp : bPre Ce Ce1 := by rw [hCe1]; exact bPre_app _ _
    have hl : Ce1.length = Ce.length + A.length := by rw [hCe1, List.length_append, bWo_len]
    have hB : bCh Ce1 e.2.2 B := by
      obtain ⟨e', q1, q2⟩ := bCh_app A cc B _ hcs
      rw [he] at q1
      cases q1
      exact bCh_pre hp _ _ q2
    have hR : chK Ce1 K r := by
      have q := bWo_ch hCe1 hB
      rw [← hr] at q
      exact ⟨_, q, by rw [List.length_append, List.length_map, List.length_range]; omega⟩
    have o1 : ∀ en, en ∈ Ro → chK Ce1 K en.2.2.1 := fun en hen => chK_pre hp (Nat.le_refl _) (h1 en hen)
    have o2 : ∀ q, q ∈ lv → chK Ce1 K q.2.2.2 := fun q hq => chK_pre hp (Nat.le_refl _) (h2 q hq)
    rcases hk with ⟨-, rfl⟩ | ⟨-, rfl⟩ | ⟨-, x, y, N1, k, rr, -, hy, -, ⟨-, -, rfl⟩ | ⟨-, rfl⟩⟩
    · refine ⟨⟨fun en hen => ?_, o2⟩, by show Ce1.length ≤ Ce.length + K; omega⟩
      have hen : en ∈ (if C.1.1.1 gl.2.1 = [] then Ro else Ro ++ [(some l, (0, 0), r, some cc, 0)]) := hen
      split at hen
      · exact o1 en hen
      · rcases List.mem_append.mp hen with q | q
        · exact o1 en q
        · rw [List.mem_singleton.mp q]
          exact hR
    · have hp2 : bPre Ce1 (Ce1 ++ [((60 + gl.2.1, Vr.length, none) : Nat × Nat × Option Nat)]) := bPre_app _ _
      refine ⟨⟨fun en hen => ?_, fun q hq => ?_⟩, by show (Ce1 ++ [_]).length ≤ Ce.length + K; rw [List.length_append, List.length_singleton]; omega⟩
      · rcases List.mem_append.mp hen with q | q
        · exact chK_pre hp2 (Nat.le_refl _) (o1 en q)
        · rw [List.mem_singleton.mp q]
          exact ⟨[Ce1.length], ⟨rfl, (60 + gl.2.1, Vr.length, none), by simp, rfl⟩, hK⟩
      · rcases List.mem_cons.mp hq with q0 | q0
        · rw [q0]
          exact chK_pre hp2 (Nat.le_refl _) hR
        · exact chK_pre hp2 (Nat.le_refl _) (o2 q q0)
    · refine ⟨⟨fun en hen => ?_, o2⟩, by show Ce1.length ≤ Ce.length + K; omega⟩
      rcases List.mem_append.mp hen with q | q
      · exact o1 en q
      · rw [List.mem_singleton.mp q]
        exact hR
    · exact ⟨⟨o1, o2⟩, by show Ce1.length ≤ Ce.length + K; omega⟩
/-- so long chains, so many cells, by the lists taken -/
def zCs (S : bS) : Prop := zCl S (1 + 5 * S.2.2.2.2.1) ∧ 2 * S.1.2.2.length ≤ 2 + pqz S.2.2.2.2.1
theorem zCs_turn (hCC : ∀ p c, c ∈ C.1.1.1 p → (C.1.1.2 c).length ≤ 5) {S S' : bS} (hS : zCs S) (ht : bTurn C tv g S (.inl S')) : zCs S' := by
  obtain ⟨⟨N, Vr, Ce⟩, ⟨Ls, Ro, fr⟩, Bi, lv, ⟨tk, na⟩⟩ := S
  obtain ⟨h1, h2⟩ := hS
  have h2 : 2 * Ce.length ≤ 2 + pqz tk := h2
  rcases ht with ⟨-, ⟨-, q⟩ | ⟨l, lv', rfl, q⟩⟩ | ⟨-, -, q⟩ | ⟨-, htk, h, S1, hk, hr⟩
  · cases q
  · cases q
    refine ⟨⟨fun en hen => ?_, fun q hq => h1.2 q (List.mem_cons_of_mem _ hq)⟩, h2⟩
    rcases List.mem_append.mp hen with q | q
    · exact h1.1 en (List.mem_of_mem_take q)
    · rw [List.mem_singleton.mp q]
      exact h1.2 l List.mem_cons_self
  · cases q
  · obtain ⟨k1, k2, k3⟩ := zCl_take hCC h1 hk
    have k1 : zCl S1 (1 + 5 * tk) := k1
    have k2 : chK S1.1.2.2 (1 + 5 * tk + 5) h := k2
    have k3 : S1.1.2.2.length ≤ Ce.length + 5 := k3
    have e5 : S1.2.2.2.1 = lv ∧ S1.2.2.2.2.1 = tk + 1 := by
      obtain ⟨en, -, ⟨-, -, rfl⟩ | ⟨_, _, _, _, -, -, -, -, -, rfl⟩⟩ := hk
      · exact ⟨rfl, rfl⟩
      · exact ⟨rfl, rfl⟩
    have hpq : pqz (tk + 1) = pqz tk + 10 * tk + 24 := rfl
    have k4 := zCl_le k1 (show 1 + 5 * tk ≤ 1 + 5 * (tk + 1) by omega)
    rcases hr with ⟨-, ⟨-, q⟩ | ⟨l, lv', rfl, q⟩⟩ | ⟨c, S2, rfl, q, hres⟩
    · cases q
      refine ⟨⟨k4.1, fun q hq => k4.2 q (by rw [e5.1]; exact hq)⟩, ?_⟩
      show 2 * S1.1.2.2.length ≤ 2 + pqz (tk + 1)
      omega
    · cases q
      refine ⟨⟨fun en hen => k4.1 en (List.mem_of_mem_take hen), fun q hq => k4.2 q (by rw [e5.1]; exact List.mem_cons_of_mem _ hq)⟩, ?_⟩
      show 2 * S1.1.2.2.length ≤ 2 + pqz (tk + 1)
      omega
    · cases q
      obtain ⟨r1, r2⟩ := zCl_res k4 (chK_pre (bPre_refl _) (show 1 + 5 * tk + 5 ≤ 1 + 5 * (tk + 1) by omega) k2) (by omega) hres
      have e6 : S'.2.2.2.2.1 = tk + 1 := by
        obtain ⟨⟨N1, Vr1, Ce1⟩, ⟨Ls1, Ro1, fr1⟩, Bi1, lv1, ⟨tk1, na1⟩⟩ := S1
        obtain ⟨cs, -, ⟨-, rfl⟩ | ⟨A, cc, B, e, gl, -, -, -, -, -, Ce2, r, -, -, hkk⟩⟩ := hres
        · exact e5.2
        · rcases hkk with ⟨-, rfl⟩ | ⟨-, rfl⟩ | ⟨-, x, y, N2, k, rr, -, hy, -, ⟨-, -, rfl⟩ | ⟨-, rfl⟩⟩
          · exact e5.2
          · exact e5.2
          · exact e5.2
          · exact e5.2
      unfold zCs
      rw [e6]
      exact ⟨r1, by omega⟩
end BCZ
