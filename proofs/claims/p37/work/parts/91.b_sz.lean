/-! Own rows: BREADTH: how much there is, by the lists taken. By hand; nothing of the bytecode. -/
theorem bOv_len {tv : Nat → Bool} {cnt : Nat} {arg : Nat → Option Nat} : ∀ (xs : List Nat) (N : bNT) (Vr : List (Option Nat)), (bOv tv cnt arg xs N Vr).1.length ≤ N.length + xs.length ∧ (bOv tv cnt arg xs N Vr).2.length = Vr.length + xs.length
  | [], N, Vr => ⟨Nat.le_refl _, rfl⟩
  | x :: xs, N, Vr => by
    rw [bOv_c]
    split
    · obtain ⟨a, b⟩ := bOv_len xs N (Vr ++ [arg x]) (tv := tv) (cnt := cnt) (arg := arg)
      rw [List.length_append, List.length_singleton] at b
      rw [List.length_cons]
      exact ⟨by omega, by omega⟩
    · split
      · obtain ⟨a, b⟩ := bOv_len xs (N ++ [(none, 0)]) (Vr ++ [some N.length]) (tv := tv) (cnt := cnt) (arg := arg)
        rw [List.length_append, List.length_singleton] at a b
        rw [List.length_cons]
        exact ⟨by omega, by omega⟩
      · obtain ⟨a, b⟩ := bOv_len xs N (Vr ++ [none]) (tv := tv) (cnt := cnt) (arg := arg)
        rw [List.length_append, List.length_singleton] at b
        rw [List.length_cons]
        exact ⟨by omega, by omega⟩
/-- with so much to spare -/
def zSp (n0 a b c : Nat) (S : bS) : Prop := S.2.1.2.1.length + S.2.2.2.1.length + a ≤ 1 + 2 * S.2.2.2.2.1 ∧ S.1.1.length + b ≤ n0 + 9 * S.2.2.2.2.1 ∧ S.1.2.1.length + c ≤ 3 + 11 * S.2.2.2.2.1
section BSZ
variable {C : mmC} {tv : Nat → Nat → Bool} {g n0 : Nat}
theorem zSp_take {S S1 : bS} {h : Option Nat} (hS : zSp n0 0 0 0 S) (ht : bTake C tv S h S1) : zSp n0 2 1 3 S1 := by
  obtain ⟨⟨N, Vr, Ce⟩, ⟨Ls, Ro, fr⟩, Bi, lv, ⟨tk, na⟩⟩ := S
  obtain ⟨h1, h2, h3⟩ := hS
  have h1 : Ro.length + lv.length + 0 ≤ 1 + 2 * tk := h1
  have h2 : N.length + 0 ≤ n0 + 9 * tk := h2
  have h3 : Vr.length + 0 ≤ 3 + 11 * tk := h3
  obtain ⟨en, -, ⟨-, -, rfl⟩ | ⟨cc, e, gl, c, -, -, -, -, -, rfl⟩⟩ := ht
  · refine ⟨?_, ?_, ?_⟩
    · show Ro.length + lv.length + 2 ≤ 1 + 2 * (tk + 1)
      omega
    · show N.length + 1 ≤ n0 + 9 * (tk + 1)
      omega
    · show Vr.length + 3 ≤ 3 + 11 * (tk + 1)
      omega
  · obtain ⟨a, b⟩ := bOv_len (List.range 8) N Vr (tv := tv c) (cnt := gl.2.2.1) (arg := fun k => bNo Vr e.2.1 (smv gl k))
    rw [List.length_range] at a b
    refine ⟨?_, ?_, ?_⟩
    · show (Ro.set fr _).length + lv.length + 2 ≤ 1 + 2 * (tk + 1)
      rw [List.length_set]
      omega
    · show (bOv (tv c) gl.2.2.1 (fun k => bNo Vr e.2.1 (smv gl k)) (List.range 8) N Vr).1.length + 1 ≤ n0 + 9 * (tk + 1)
      omega
    · show (bOv (tv c) gl.2.2.1 (fun k => bNo Vr e.2.1 (smv gl k)) (List.range 8) N Vr).2.length + 3 ≤ 3 + 11 * (tk + 1)
      omega
theorem zSp_res (hA : ∀ n gl, bG C n = some gl → gl.2.2.1 ≤ 3) {S S1 : bS} {l h : Nat} (hS : zSp n0 2 1 3 S) (ht : bRes C g l h S S1) : zSp n0 0 0 0 S1 := by
  obtain ⟨⟨N, Vr, Ce⟩, ⟨Ls, Ro, fr⟩, Bi, lv, ⟨tk, na⟩⟩ := S
  obtain ⟨h1, h2, h3⟩ := hS
  have h1 : Ro.length + lv.length + 2 ≤ 1 + 2 * tk := h1
  have h2 : N.length + 1 ≤ n0 + 9 * tk := h2
  have h3 : Vr.length + 3 ≤ 3 + 11 * tk := h3
  have mk : ∀ (N' : bNT) (Vr' : List (Option Nat)) (Ce' : List (Nat × Nat × Option Nat)) (Ro' : List bEn) (fr' : Nat) (Bi' : List (Nat × Nat)) (lv' : bLv), Ro'.length + lv'.length ≤ Ro.length + lv.length + 2 → N'.length ≤ N.length + 1 → Vr'.length ≤ Vr.length + 3 → zSp n0 0 0 0 ((N', Vr', Ce'), (Ls, Ro', fr'), Bi', lv', (tk, na)) := fun N' Vr' Ce' Ro' fr' Bi' lv' a b c => ⟨(by show Ro'.length + lv'.length + 0 ≤ 1 + 2 * tk; omega), (by show N'.length + 0 ≤ n0 + 9 * tk; omega), (by show Vr'.length + 0 ≤ 3 + 11 * tk; omega)⟩
  obtain ⟨cs, -, ⟨-, rfl⟩ | ⟨A, cc, B, e, gl, -, -, -, -, hg, Ce1, r, hCe1, -, hk⟩⟩ := ht
  · exact mk _ _ _ _ _ _ _ (by omega) (by omega) (by omega)
  · rcases hk with ⟨-, rfl⟩ | ⟨-, rfl⟩ | ⟨-, x, y, N1, k, rr, -, hy, -, hend⟩
    · refine mk _ _ _ _ _ _ _ ?_ (by omega) (by omega)
      split
      · omega
      · rw [List.length_append, List.length_singleton]
        omega
    · have := hA _ _ hg
      refine mk _ _ _ _ _ _ _ ?_ (by omega) ?_
      · rw [List.length_append, List.length_singleton, List.length_cons]
        omega
      · rw [List.length_append, List.length_map, List.length_range]
        omega
    · have hN : N1.length ≤ N.length + 1 := by
        rcases hy with ⟨-, -, rfl⟩ | ⟨-, -, rfl⟩
        · omega
        · rw [List.length_append, List.length_singleton]
          omega
      rcases hend with ⟨-, -, rfl⟩ | ⟨-, rfl⟩
      · refine mk _ _ _ _ _ _ _ ?_ hN (by omega)
        rw [List.length_append, List.length_singleton]
        omega
      · exact mk _ _ _ _ _ _ _ (by omega) hN (by omega)
theorem zSp_turn (hA : ∀ n gl, bG C n = some gl → gl.2.2.1 ≤ 3) {S S' : bS} (hS : zSp n0 0 0 0 S) (ht : bTurn C tv g S (.inl S')) : zSp n0 0 0 0 S' := by
  obtain ⟨⟨N, Vr, Ce⟩, ⟨Ls, Ro, fr⟩, Bi, lv, ⟨tk, na⟩⟩ := S
  rcases ht with ⟨-, ⟨-, q⟩ | ⟨l, lv', rfl, q⟩⟩ | ⟨-, -, q⟩ | ⟨-, htk, h, S1, hk, hr⟩
  · cases q
  · cases q
    obtain ⟨h1, h2, h3⟩ := hS
    have h1 : Ro.length + (l :: lv').length + 0 ≤ 1 + 2 * tk := h1
    rw [List.length_cons] at h1
    refine ⟨?_, h2, h3⟩
    show (Ro.take l.2.1 ++ [_]).length + lv'.length + 0 ≤ 1 + 2 * tk
    rw [List.length_append, List.length_singleton, List.length_take]
    omega
  · cases q
  · have hz := zSp_take hS hk
    have e5 : S1.2.2.2.1 = lv ∧ S1.2.2.2.2.1 = tk + 1 := by
      obtain ⟨en, -, ⟨-, -, rfl⟩ | ⟨_, _, _, _, -, -, -, -, -, rfl⟩⟩ := hk
      · exact ⟨rfl, rfl⟩
      · exact ⟨rfl, rfl⟩
    rcases hr with ⟨-, ⟨-, q⟩ | ⟨l, lv', rfl, q⟩⟩ | ⟨c, S2, -, q, hres⟩
    · cases q
      obtain ⟨h1, h2, h3⟩ := hz
      rw [e5.1, e5.2] at h1
      rw [e5.2] at h2 h3
      exact ⟨(by show S1.2.1.2.1.length + lv.length + 0 ≤ 1 + 2 * (tk + 1); omega), (by show S1.1.1.length + 0 ≤ n0 + 9 * (tk + 1); omega), (by show S1.1.2.1.length + 0 ≤ 3 + 11 * (tk + 1); omega)⟩
    · cases q
      obtain ⟨h1, h2, h3⟩ := hz
      rw [e5.1, e5.2, List.length_cons] at h1
      rw [e5.2] at h2 h3
      exact ⟨(by show (S1.2.1.2.1.take l.2.1).length + lv'.length + 0 ≤ 1 + 2 * (tk + 1); rw [List.length_take]; omega), (by show S1.1.1.length + 0 ≤ n0 + 9 * (tk + 1); omega), (by show S1.1.2.1.length + 0 ≤ 3 + 11 * (tk + 1); omega)⟩
    · cases q
      exact zSp_res hA hz hres
end BSZ
