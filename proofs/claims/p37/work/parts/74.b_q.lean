/-! Own rows: BREADTH: what one goal does to a node. By hand; nothing of the bytecode. -/
def bF (N : bNT) (g : Nat) : Prop := bNg N g ∧ (∀ n, bhd N n = some 1 → bfs N n < n) ∧ ∀ ν, bSt N ν → ∀ a b, a < g → b < g → ν a = ν b → a = b
section BQ
variable {N : bNT} {g : Nat} {Vr : List (Option Nat)} {bd : bBD}
/-- the right side of an equation -/
def bRs (N : bNT) (Vr : List (Option Nat)) (b : Nat) (gl : smL) (y : Nat) : Prop := (gl.1 = 1 ∧ bNo Vr b (smv gl 1) = some y) ∨ (gl.1 = 0 ∧ bhd N y = some gl.2.1 ∧ (gl.2.1 = 1 → bNo Vr b (smv gl 1) = some (bfs N y)))
theorem bz_eqv {ν : Nat → smG} {v : smV} {b x y : Nat} {gl : smL} (h1 : bSt N ν) (h3 : ∀ b x n, bNo Vr b x = some n → v (2 * b) x = ν n) (hx : bNo Vr b (smv gl 0) = some x) (hy : bRs N Vr b gl y) : smEq v (2 * b, gl) ↔ ν x = ν y := by
  unfold smEq
  show (if gl.1 = 0 then v (2 * b) (smv gl 0) = smB gl.2.1 (v (2 * b) (smv gl 1)) else if gl.1 = 1 then v (2 * b) (smv gl 0) = v (2 * b) (smv gl 1) else _) ↔ _
  rcases hy with ⟨e, q⟩ | ⟨e, q1, q2⟩
  · rw [if_neg (by omega), if_pos e, h3 _ _ _ hx, h3 _ _ _ q]
  · rw [if_pos e, h3 _ _ _ hx, h1 y _ q1]
    by_cases c : gl.2.1 = 1
    · rw [h3 _ _ _ (q2 c)]
    · unfold smB
      rw [if_neg c, if_neg c]
theorem bz_ok (hF : bF N g) (hk : bWF N g bd) {k b x y : Nat} {gl : smL} {rr : Bool × bBD × List (Nat × Nat)} (hu : bUn N g k bd x y rr) (lx : x < N.length) (ly : y < N.length) (hx : bNo Vr b (smv gl 0) = some x) (hy : bRs N Vr b gl y) (ht : rr.1 = true) (hf : bFin N rr.2.1 x) :
    bWF N g rr.2.1 ∧ ∀ v, bZ N Vr rr.2.1 v ↔ bZ N Vr bd v ∧ smEq v (2 * b, gl) := by
  obtain ⟨w1, w2, w3, w4, w5⟩ := bun_ok hF.1 k bd x y rr hu hk.1 lx ly
  refine ⟨bun_fin hF.1 hu hk lx ly ht hf, fun v => ⟨fun ⟨ν, z1, z2, z3⟩ => ?_, fun ⟨⟨ν, z1, z2, z3⟩, z4⟩ => ?_⟩⟩
  · have z2' : bSo bd ν := fun n m h => z2 n m ((w2 n m).mpr (Or.inl h))
    refine ⟨⟨ν, z1, z2', z3⟩, (bz_eqv z1 z3 hx hy).mpr ?_⟩
    exact (bun_val z1 (hF.2.2 ν z1) k bd x y rr hu z2').2 ht (fun e he => z2 e.1 e.2 ((w2 e.1 e.2).mpr (Or.inr he)))
  · have e := (bz_eqv z1 z3 hx hy).mp z4
    have q := ((bun_val z1 (hF.2.2 ν z1) k bd x y rr hu z2).1 e).2
    refine ⟨ν, z1, fun n m h => ?_, z3⟩
    rcases (w2 n m).mp h with h | h
    · exact z2 n m h
    · exact q (n, m) h
theorem bz_no (hF : bF N g) (hk : bWF N g bd) {k b x y : Nat} {gl : smL} {rr : Bool × bBD × List (Nat × Nat)} (hu : bUn N g k bd x y rr) (lx : x < N.length) (ly : y < N.length) (hx : bNo Vr b (smv gl 0) = some x) (hy : bRs N Vr b gl y) (hno : ¬ (rr.1 = true ∧ bFin N rr.2.1 x)) : ∀ v, bZ N Vr bd v → ¬ smEq v (2 * b, gl) := fun v ⟨ν, z1, z2, z3⟩ z4 => by
  obtain ⟨w1, w2, w3, w4, w5⟩ := bun_ok hF.1 k bd x y rr hu hk.1 lx ly
  have e := (bz_eqv z1 z3 hx hy).mp z4
  obtain ⟨q1, q2⟩ := (bun_val z1 (hF.2.2 ν z1) k bd x y rr hu z2).1 e
  refine hno ⟨q1, bFin_sol w1 z1 (fun n m h => ?_) _ x (Nat.le_refl _)⟩
  rcases (w2 n m).mp h with h | h
  · exact z2 n m h
  · exact q2 (n, m) h
/-- a ground goal -/
theorem bz_gr (hk : bWF N g bd) {b : Nat} {gl : smL} (h : ∀ k, k < gl.2.2.1 → ∃ n, bNo Vr b (smv gl k) = some n ∧ ∃ j e, bend N bd j n = some e ∧ bhd N e.2 ≠ none) : ∀ v w, bZ N Vr bd v → bZ N Vr bd w → ∀ k, k < gl.2.2.1 → v (2 * b) (smv gl k) = w (2 * b) (smv gl k) := fun v w ⟨ν, z1, z2, z3⟩ ⟨ν', y1, y2, y3⟩ k hk2 => by
  obtain ⟨n, h1, j, e, h2, h3⟩ := h k hk2
  rw [z3 _ _ _ h1, y3 _ _ _ h1, bend_val z1 z2 j n e h2, bend_val y1 y2 j n e h2]
  obtain ⟨c, hc⟩ := Option.ne_none_iff_exists'.mp h3
  have c1 : c ≠ 1 := fun q => (bend_end j n e h2).2 (by rw [hc, q])
  rw [z1 _ _ hc, y1 _ _ hc]
  unfold smB
  rw [if_neg c1, if_neg c1]
/-- an unknown at the end: two values -/
theorem bz_two (hk : bWF N g bd) {b x n j : Nat} {e : Nat × Nat} (h1 : bNo Vr b x = some n) (h2 : bend N bd j n = some e) (h3 : bhd N e.2 = none) (h : ∀ v w, bZ N Vr bd v → bZ N Vr bd w → v (2 * b) x = w (2 * b) x) : False := by
  obtain ⟨ν, z1, z2, z3⟩ := b_sat hk (fun _ => (0, 0))
  obtain ⟨ν', y1, y2, y3⟩ := b_sat hk (fun _ => (1, 0))
  have q := h _ _ (bZ_mk (Vr := Vr) (v := fun _ _ => (0, 0)) z1 z2) (bZ_mk (Vr := Vr) (v := fun _ _ => (0, 0)) y1 y2)
  rw [bVal_e h1, bVal_e h1, bend_val z1 z2 j n e h2, bend_val y1 y2 j n e h2, z3 _ (bend_end j n e h2).1 h3, y3 _ (bend_end j n e h2).1 h3] at q
  have := congrArg Prod.fst q
  simp only at this
  omega
theorem smAt_eq {gl : smL} {r r' : Nat → smG} (h : ∀ k, k < gl.2.2.1 → r (smv gl k) = r' (smv gl k)) : smAt gl r = smAt gl r' := by
  unfold smAt
  congr 1
  exact List.map_congr_left fun k hk => h k (List.mem_range.mp hk)
end BQ
