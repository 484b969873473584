/-! Own rows: BREADTH: all that every turn keeps, forward. By hand; nothing of the bytecode. -/
theorem pqz_le : ∀ {a b : Nat}, a ≤ b → pqz a ≤ pqz b := fun {a b} h => by
  induction h with
  | refl => exact Nat.le_refl _
  | @step m _ ih =>
    refine Nat.le_trans ih ?_
    show pqz m ≤ pqz m + 10 * m + 24
    omega
def hd3 (S : bS) : Prop := ∀ n c, bhd S.1.1 n = some c → c < 3
theorem hd3_new {N : bNT} {x : Option Nat × Nat} (h : ∀ n c, bhd N n = some c → c < 3) (hx : ∀ c, x.1 = some c → c < 3) : ∀ n c, bhd (N ++ [x]) n = some c → c < 3 := fun n c hn => by
  rw [bhd_new] at hn
  by_cases c1 : n < N.length
  · rw [if_pos c1] at hn
    exact h n c hn
  · rw [if_neg c1] at hn
    by_cases c2 : n = N.length
    · rw [if_pos c2] at hn
      exact hx c hn
    · rw [if_neg c2] at hn
      cases hn
theorem bOv_hd {tv : Nat → Bool} {cnt : Nat} {arg : Nat → Option Nat} : ∀ (xs : List Nat) (N : bNT) (Vr : List (Option Nat)), (∀ n c, bhd N n = some c → c < 3) → ∀ n c, bhd (bOv tv cnt arg xs N Vr).1 n = some c → c < 3
  | [], _, _, h => h
  | x :: xs, N, Vr, h => by
    rw [bOv_c]
    split
    · exact bOv_hd xs N _ h
    · split
      · exact bOv_hd xs _ _ (hd3_new h (fun c q => by cases q))
      · exact bOv_hd xs N _ h
section BIV
variable {C : mmC} {pv : Nat → Prop} {tv : Nat → Nat → Bool} {g n0 : Nat}
theorem hd3_take {S S1 : bS} {h : Option Nat} (hS : hd3 S) (ht : bTake C tv S h S1) : hd3 S1 := by
  obtain ⟨⟨N, Vr, Ce⟩, ⟨Ls, Ro, fr⟩, Bi, lv, ⟨tk, na⟩⟩ := S
  obtain ⟨en, e1, ⟨-, -, rfl⟩ | ⟨cc, e, gl, c, -, -, -, -, -, rfl⟩⟩ := ht
  · exact hS
  · exact bOv_hd _ _ _ hS
theorem hd3_res {S S1 : bS} {l h : Nat} (hG : gIn C pv S) (hS : hd3 S) (ht : bRes C g l h S S1) : hd3 S1 := by
  obtain ⟨⟨N, Vr, Ce⟩, ⟨Ls, Ro, fr⟩, Bi, lv, ⟨tk, na⟩⟩ := S
  obtain ⟨cs, -, ⟨-, rfl⟩ | ⟨A, cc, B, e, gl, -, -, -, he, hgl, Ce1, r, -, -, hk⟩⟩ := ht
  · exact hS
  obtain ⟨⟨gl', b1, gok, -⟩, -⟩ := hG.1 cc e he
  rw [hgl] at b1
  cases b1
  have hN1 : ∀ (y : Nat) (N1 : bNT), ((gl.1 = 1 ∧ bNo Vr e.2.1 (smv gl 1) = some y ∧ N1 = N) ∨ (gl.1 = 0 ∧ y = N.length ∧ N1 = N ++ [(some gl.2.1, if gl.2.1 = 1 then (bNo Vr e.2.1 (smv gl 1)).getD 0 else 0)])) → ∀ n c, bhd N1 n = some c → c < 3 := fun y N1 hy => by
    rcases hy with ⟨-, -, rfl⟩ | ⟨h0, -, rfl⟩
    · exact hS
    · exact hd3_new hS (fun c q => by cases q; exact (gok.2.2.1 h0).1)
  rcases hk with ⟨-, rfl⟩ | ⟨-, rfl⟩ | ⟨-, x, y, N1, k, rr, hx, hy, -, ⟨-, -, rfl⟩ | ⟨-, rfl⟩⟩
  · exact hS
  · exact hS
  · exact hN1 y N1 hy
  · exact hN1 y N1 hy
theorem bi_res {S S1 : bS} {l h : Nat} (hI : fIn g S) (hl : l < S.2.1.1.length) (ht : bRes C g l h S S1) : S1.2.2.1.length ≤ S.2.2.1.length + S1.1.1.length := by
  obtain ⟨r1, r2⟩ := sIn_res hI.1 hl ht
  obtain ⟨⟨N, Vr, Ce⟩, ⟨Ls, Ro, fr⟩, Bi, lv, ⟨tk, na⟩⟩ := S
  obtain ⟨cs, -, ⟨-, rfl⟩ | ⟨A, cc, B, e, gl, -, -, -, he, hgl, Ce1, r, -, -, hk⟩⟩ := ht
  · exact Nat.le_add_right _ _
  rcases hk with ⟨-, rfl⟩ | ⟨-, rfl⟩ | ⟨-, x, y, N1, k, rr, hx, hy, hU, ⟨-, -, rfl⟩ | ⟨-, rfl⟩⟩
  · exact Nat.le_add_right _ _
  · exact Nat.le_add_right _ _
  · show (Bi ++ rr.2.2).length ≤ Bi.length + N1.length
    rw [List.length_append]
    have hpre : bPre N N1 := r2.1
    have t1 : ∀ n, n < g → bhd N1 n ≠ none := r1.1.1
    have t3 : ∀ n, bhd N1 n = some 1 → bfs N1 n < n := r1.1.2.2.1
    have hlo : lOk N g (bPb Ls Bi 150 (some l)) := hI.2.2.1 l hl
    have hWF := bWF_pre hpre t3 hlo.1
    have hng : bNg N1 g := ⟨t1, fun n hn hh => by have := t3 n hh; omega⟩
    have hw : tW g ((N, Vr, Ce), Ls, Bi) := hI.1.1
    have hxN : x < N.length := hw.2.2.2.1 _ x (bNo_iff.mp hx)
    have hyN : y < N1.length := by
      rcases hy with ⟨-, h2, rfl⟩ | ⟨-, rfl, rfl⟩
      · exact hw.2.2.2.1 _ y (bNo_iff.mp h2)
      · rw [List.length_append, List.length_singleton]; omega
    obtain ⟨u1, u2, u3, u4, -⟩ := bun_ok hng k _ x y rr hU hWF.1 (Nat.lt_of_lt_of_le hxN (bPre_len hpre)) hyN
    have := nd_le N1.length (rr.2.2.map fun e => e.1) u4 (fun a ha => by
      obtain ⟨e, he, rfl⟩ := List.mem_map.mp ha
      exact (u1.2.2 e.1 e.2 ((u2 e.1 e.2).mpr (Or.inr he))).2.1)
    rw [List.length_map] at this
    omega
  · exact Nat.le_add_right _ _
theorem bTake_x {S S1 : bS} {h : Option Nat} (ht : bTake C tv S h S1) : (∃ p i j, S1.2.1.1 = S.2.1.1 ++ [(p, i, j, h)]) ∧ S1.2.2.1 = S.2.2.1 ∧ S1.2.2.2.1 = S.2.2.2.1 ∧ S1.2.2.2.2 = (S.2.2.2.2.1 + 1, S.2.2.2.2.2) := by
  obtain ⟨⟨N, Vr, Ce⟩, ⟨Ls, Ro, fr⟩, Bi, lv, ⟨tk, na⟩⟩ := S
  obtain ⟨en, e1, ⟨-, -, rfl⟩ | ⟨cc, e, gl, c, -, -, -, -, -, rfl⟩⟩ := ht
  · exact ⟨⟨_, _, _, rfl⟩, rfl, rfl, rfl⟩
  · exact ⟨⟨_, _, _, rfl⟩, rfl, rfl, rfl⟩
theorem bRes_x {S S1 : bS} {l h : Nat} (ht : bRes C g l h S S1) : S1.2.1.1 = S.2.1.1 ∧ S1.2.2.2.2 = S.2.2.2.2 ∧ S1.2.2.2.1.length ≤ S.2.2.2.1.length + 1 := by
  obtain ⟨⟨N, Vr, Ce⟩, ⟨Ls, Ro, fr⟩, Bi, lv, ⟨tk, na⟩⟩ := S
  obtain ⟨cs, -, ⟨-, rfl⟩ | ⟨A, cc, B, e, gl, -, -, -, he, hgl, Ce1, r, -, -, hk⟩⟩ := ht
  · exact ⟨rfl, rfl, Nat.le_succ _⟩
  rcases hk with ⟨-, rfl⟩ | ⟨-, rfl⟩ | ⟨-, x, y, N1, k, rr, hx, hy, hU, ⟨-, -, rfl⟩ | ⟨-, rfl⟩⟩
  · exact ⟨rfl, rfl, Nat.le_succ _⟩
  · exact ⟨rfl, rfl, Nat.le_refl _⟩
  · exact ⟨rfl, rfl, Nat.le_succ _⟩
  · exact ⟨rfl, rfl, Nat.le_succ _⟩
/-- all that every state keeps -/
def cInv (C : mmC) (pv : Nat → Prop) (g n0 : Nat) (S : bS) : Prop := fIn g S ∧ gIn C pv S ∧ zSp n0 0 0 0 S ∧ zCs S ∧ hd3 S ∧ S.2.2.1.length ≤ S.2.2.2.2.1 * (n0 + 1351)
theorem cInv_turn (hCC : bCC C tv) (hA3 : ∀ p, C.1.2 p ≤ 3) (hA : ∀ n gl, bG C n = some gl → gl.2.2.1 ≤ 3) (hpv : ∀ n gl, bG C n = some gl → gl.1 = 3 → pv gl.2.1) {S S' : bS} (hS : cInv C pv g n0 S) (ht : bTurn C tv g S (.inl S')) : cInv C pv g n0 S' := by
  obtain ⟨h1, h2, h3, h4, h5, h6⟩ := hS
  refine ⟨fIn_turn h1 ht, gIn_turn hCC hA3 hpv h2 ht, zSp_turn hA h3 ht, zCs_turn (fun p c hc => (hCC p c hc).2.1) h4 ht, ?_⟩
  have z3 := zSp_turn hA h3 ht
  obtain ⟨⟨N, Vr, Ce⟩, ⟨Ls, Ro, fr⟩, Bi, lv, ⟨tk, na⟩⟩ := S
  have h6 : Bi.length ≤ tk * (n0 + 1351) := h6
  rcases ht with ⟨-, ⟨-, q⟩ | ⟨l, lv', rfl, q⟩⟩ | ⟨-, -, q⟩ | ⟨hfr, htk, h, S1, hT, ⟨-, ⟨-, q⟩ | ⟨l, lv', rfl, q⟩⟩ | ⟨c, S2, rfl, q, hr⟩⟩
  · cases q
  · cases q
    exact ⟨h5, h6⟩
  · cases q
  · cases q
    obtain ⟨-, x2, -, -⟩ := bTake_x hT
    have k5 : hd3 S1 := hd3_take h5 hT
    refine ⟨k5, ?_⟩
    show S1.2.2.1.length ≤ (tk + 1) * (n0 + 1351)
    rw [x2, Nat.succ_mul]
    exact Nat.le_trans h6 (Nat.le_add_right _ _)
  · cases q
    obtain ⟨-, x2, -, -⟩ := bTake_x hT
    have k5 : hd3 S1 := hd3_take h5 hT
    refine ⟨k5, ?_⟩
    show S1.2.2.1.length ≤ (tk + 1) * (n0 + 1351)
    rw [x2, Nat.succ_mul]
    exact Nat.le_trans h6 (Nat.le_add_right _ _)
  · cases q
    obtain ⟨⟨p, i, j, x1⟩, x2, x3, x4⟩ := bTake_x hT
    obtain ⟨-, y2, -⟩ := bRes_x hr
    have hLl : Ls.length = tk := h1.1.2.2.2
    have g1 := gIn_take hCC h2 hT
    have f1 := fIn_take h1 (by show Ls.length < 150; omega) hT
    have hl1 : Ls.length < S1.2.1.1.length := by
      rw [x1, List.length_append]
      exact Nat.lt_succ_self _
    refine ⟨hd3_res g1 (hd3_take h5 hT) hr, ?_⟩
    have b1 := bi_res f1 hl1 hr
    have e4 : S'.2.2.2.2.1 = tk + 1 := by rw [y2, x4]
    have z2 : S'.1.1.length + 0 ≤ n0 + 9 * S'.2.2.2.2.1 := z3.2.1
    rw [e4] at z2 ⊢
    rw [x2] at b1
    have b1 : S'.2.2.1.length ≤ Bi.length + S'.1.1.length := b1
    rw [Nat.succ_mul]
    omega
end BIV
