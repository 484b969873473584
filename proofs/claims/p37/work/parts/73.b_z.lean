/-! Own rows: BREADTH: a list of goals as a node of a search: its items, the assignments that its bindings allow. By hand; nothing of the bytecode. -/
/-- how many variables of a goal are looked at -/
def nvc (g : smL) : Nat := if g.1 = 0 then (if g.2.1 = 1 then 2 else 1) else if g.1 = 1 then 2 else g.2.2.1
theorem smS_sim {E : smA → smT → Prop} {K : smA → Prop} {v w : smV} : ∀ (Q : List (Nat × Nat × smL)) (F : List smT), (∀ q, q ∈ Q → q.2.2.1 ≤ 3 ∧ ∀ k, k < nvc q.2.2 → v q.1 (smv q.2.2 k) = w q.2.1 (smv q.2.2 k)) → smS E K v (Q.map fun q => (q.1, q.2.2)) F → smS E K w (Q.map fun q => (q.2.1, q.2.2)) F
  | [], _, _, h => h
  | q :: Q, F, hq, h => by
    obtain ⟨h3, hk⟩ := hq q List.mem_cons_self
    have hP : ∀ x, x ∈ Q → x.2.2.1 ≤ 3 ∧ ∀ k, k < nvc x.2.2 → v x.1 (smv x.2.2 k) = w x.2.1 (smv x.2.2 k) := fun x hx => hq x (List.mem_cons_of_mem _ hx)
    rw [List.map_cons] at h ⊢
    rw [smS_c] at h ⊢
    have eat : 2 ≤ q.2.2.1 → smAt q.2.2 (v q.1) = smAt q.2.2 (w q.2.1) := fun h2 => by
      unfold smAt
      congr 1
      refine List.map_congr_left fun k hk2 => ?_
      refine hk k ?_
      unfold nvc
      rw [if_neg (by omega), if_neg (by omega)]
      exact List.mem_range.mp hk2
    by_cases h2 : q.2.2.1 = 2
    · rw [if_pos h2] at h ⊢
      obtain ⟨t, F', e1, e2, e3⟩ := h
      exact ⟨t, F', e1, by show E (smAt q.2.2 (w q.2.1)) t; rw [← eat (by omega)]; exact e2, smS_sim Q F' hP e3⟩
    · rw [if_neg h2] at h ⊢
      by_cases h4 : q.2.2.1 = 3
      · rw [if_pos h4] at h ⊢
        exact ⟨by show K (smAt q.2.2 (w q.2.1)); rw [← eat (by omega)]; exact h.1, smS_sim Q F hP h.2⟩
      · rw [if_neg h4] at h ⊢
        refine ⟨?_, smS_sim Q F hP h.2⟩
        have h5 := h.1
        unfold smEq at h5 ⊢
        show if q.2.2.1 = 0 then w q.2.1 (smv q.2.2 0) = smB q.2.2.2.1 (w q.2.1 (smv q.2.2 1)) else if q.2.2.1 = 1 then w q.2.1 (smv q.2.2 0) = w q.2.1 (smv q.2.2 1) else _
        have h5 : if q.2.2.1 = 0 then v q.1 (smv q.2.2 0) = smB q.2.2.2.1 (v q.1 (smv q.2.2 1)) else if q.2.2.1 = 1 then v q.1 (smv q.2.2 0) = v q.1 (smv q.2.2 1) else _ := h5
        by_cases h6 : q.2.2.1 = 0
        · rw [if_pos h6] at h5 ⊢
          have e0 := hk 0 (by unfold nvc; rw [if_pos h6]; split <;> omega)
          rw [← e0, h5]
          by_cases h7 : q.2.2.2.1 = 1
          · rw [hk 1 (by unfold nvc; rw [if_pos h6, if_pos h7]; omega)]
          · unfold smB
            rw [if_neg h7, if_neg h7]
        · rw [if_neg h6] at h5 ⊢
          have h7 : q.2.2.1 = 1 := by omega
          rw [if_pos h7] at h5 ⊢
          have e0 := hk 0 (by unfold nvc; rw [if_neg h6, if_pos h7]; omega)
          have e1 := hk 1 (by unfold nvc; rw [if_neg h6, if_pos h7]; omega)
          rw [← e0, ← e1]
          exact h5
theorem smRf_sim {pg : smP} {Q : List (Nat × Nat × smL)} {Z Z' : smV → Prop} (hk : ∀ q, q ∈ Q → q.2.2.1 ≤ 3)
    (h1 : ∀ v, Z v → ∃ w, Z' w ∧ ∀ q, q ∈ Q → ∀ k, k < nvc q.2.2 → v q.1 (smv q.2.2 k) = w q.2.1 (smv q.2.2 k))
    (h2 : ∀ w, Z' w → ∃ v, Z v ∧ ∀ q, q ∈ Q → ∀ k, k < nvc q.2.2 → v q.1 (smv q.2.2 k) = w q.2.1 (smv q.2.2 k)) :
    smRf pg (Q.map (fun q => (q.1, q.2.2)), Z) [(Q.map (fun q => (q.2.1, q.2.2)), Z')] := by
  have back : ∀ (E : smA → smT → Prop) (K : smA → Prop) (v w : smV) (F : List smT), (∀ q, q ∈ Q → ∀ k, k < nvc q.2.2 → v q.1 (smv q.2.2 k) = w q.2.1 (smv q.2.2 k)) → smS E K w (Q.map fun q => (q.2.1, q.2.2)) F → smS E K v (Q.map fun q => (q.1, q.2.2)) F := fun E K v w F hs h => by
    have e1 : (Q.map fun q => (q.2.1, q.2.2)) = ((Q.map fun q => (q.2.1, q.1, q.2.2)).map fun q => (q.1, q.2.2)) := by rw [List.map_map]; rfl
    have e2 : (Q.map fun q => (q.1, q.2.2)) = ((Q.map fun q => (q.2.1, q.1, q.2.2)).map fun q => (q.2.1, q.2.2)) := by rw [List.map_map]; rfl
    rw [e1] at h
    rw [e2]
    refine smS_sim _ F (fun q hq => ?_) h
    obtain ⟨q', hq', rfl⟩ := List.mem_map.mp hq
    exact ⟨hk q' hq', fun k hk2 => (hs q' hq' k hk2).symm⟩
  refine ⟨0, fun n _ => ⟨fun k ⟨V, k', h3, h4, h5⟩ => ⟨V, ⟨h3.1, fun F hF => ?_, fun F v hv hs => ?_⟩, ?_⟩, fun ⟨x, h3, F, w, h4, h5⟩ => ?_⟩⟩
  · obtain ⟨w, q1, q2⟩ := h3.2.1 F hF
    obtain ⟨v, q3, q4⟩ := h2 w q1
    exact ⟨v, q3, back _ _ v w F q4 q2⟩
  · obtain ⟨w, q3, q4⟩ := h1 v hv
    exact h3.2.2 F w q3 (smS_sim Q F (fun q hq => ⟨hk q hq, q4 q hq⟩) hs)
  · have h4 : k' = 0 := h4
    omega
  · rw [List.mem_singleton.mp h3] at h4 h5
    obtain ⟨v, q3, q4⟩ := h2 w h4
    exact ⟨F, v, q3, back _ _ v w F q4 h5⟩
/-- the assignments that bindings allow: instance 2 b has its variables at b -/
def bZ (N : bNT) (Vr : List (Option Nat)) (bd : bBD) : smV → Prop := fun v => ∃ ν, bSt N ν ∧ bSo bd ν ∧ ∀ b x n, bNo Vr b x = some n → v (2 * b) x = ν n
def bVal (Vr : List (Option Nat)) (ν : Nat → smG) (v : smV) : smV := fun i x => if i % 2 = 0 then (match bNo Vr (i / 2) x with | some n => ν n | none => v i x) else v i x
theorem bVal_e {Vr : List (Option Nat)} {ν : Nat → smG} {v : smV} {b x n : Nat} (h : bNo Vr b x = some n) : bVal Vr ν v (2 * b) x = ν n := by
  unfold bVal
  rw [if_pos (by omega), show 2 * b / 2 = b by omega, h]
theorem bVal_o {Vr : List (Option Nat)} {ν : Nat → smG} {v : smV} {i : Nat} (h : i % 2 = 1) : bVal Vr ν v i = v i := by
  funext x
  unfold bVal
  rw [if_neg (by omega)]
theorem bZ_mk {N : bNT} {Vr : List (Option Nat)} {bd : bBD} {ν : Nat → smG} {v : smV} (h1 : bSt N ν) (h2 : bSo bd ν) : bZ N Vr bd (bVal Vr ν v) := ⟨ν, h1, h2, fun _ _ _ h => bVal_e h⟩
theorem bZ_sat {N : bNT} {g : Nat} {Vr : List (Option Nat)} {bd : bBD} (hk : bWF N g bd) : ∃ v, bZ N Vr bd v := by
  obtain ⟨ν, h1, h2, -⟩ := b_sat hk (fun _ => (0, 0))
  exact ⟨_, bZ_mk (v := fun _ _ => (0, 0)) h1 h2⟩
theorem bend_in {N : bNT} {bd : bBD} {n0 : Nat} (hb : ∀ n m, bd n = some m → n < n0 ∧ m < n0) (hp : ∀ n, bhd N n = some 1 → bfs N n < n) : ∀ (k n : Nat) (e : Nat × Nat), n < n0 → bend N bd k n = some e → e.2 < n0
  | 0, _, _, _, h => by cases h
  | k + 1, n, e, hn, h => by
    cases hbd : bd n with
    | some m =>
      rw [bend_bound hbd] at h
      exact bend_in hb hp k m e (hb n m hbd).2 h
    | none =>
      by_cases hh : bhd N n = some 1
      · rw [bend_built hbd hh] at h
        cases hq : bend N bd k (bfs N n) with
        | none => rw [hq] at h; cases h
        | some e' =>
          rw [hq] at h
          cases h
          exact bend_in hb hp k _ e' (by have := hp n hh; omega) hq
      · rw [bend_last hbd hh] at h
        cases h
        exact hn
/-- two solutions that agree on the last nodes -/
theorem b_uniq {N : bNT} {bd : bBD} {n0 : Nat} (hb : ∀ n m, bd n = some m → n < n0 ∧ m < n0) (hp : ∀ n, bhd N n = some 1 → bfs N n < n) {ν ν' : Nat → smG} (h1 : bSt N ν) (h2 : bSo bd ν) (h1' : bSt N ν') (h2' : bSo bd ν') (hq : ∀ n, n < n0 → bd n = none → bhd N n = none → ν n = ν' n) {n : Nat} (hn : n < n0) (hf : bFin N bd n) : ν n = ν' n := by
  obtain ⟨k, e, he⟩ := hf
  rw [bend_val h1 h2 k n e he, bend_val h1' h2' k n e he]
  have hlt := bend_in hb hp k n e hn he
  obtain ⟨q1, q2⟩ := bend_end k n e he
  have e2 : ν e.2 = ν' e.2 := by
    cases hh : bhd N e.2 with
    | none => exact hq _ hlt q1 hh
    | some c =>
      have c1 : c ≠ 1 := fun q => q2 (by rw [hh, q])
      rw [h1 _ _ hh, h1' _ _ hh]
      unfold smB
      rw [if_neg c1, if_neg c1]
  rw [e2]
/-- a clause that is opened: its instance, renamed -/
theorem bz_open {pg : smP} {N : bNT} {Vr : List (Option Nat)} {bd : bBD} {g n0 b b' c : Nat} {gl : smL} {B : List smI} (hk : bWF N g bd) (hb : ∀ n m, bd n = some m → n < n0 ∧ m < n0) (hp : ∀ n, bhd N n = some 1 → bfs N n < n)
    (har : ∀ x, x < gl.2.2.1 → ∃ n, bNo Vr b (smv gl x) = some n ∧ bNo Vr b' x = some n ∧ n < n0)
    (hfr : ∀ x n, gl.2.2.1 ≤ x → x < 8 → bNo Vr b' x = some n → n0 ≤ n ∧ bhd N n = none) (hinj : ∀ x x' n, gl.2.2.1 ≤ x → gl.2.2.1 ≤ x' → x < 8 → x' < 8 → bNo Vr b' x = some n → bNo Vr b' x' = some n → x = x')
    (hbody : ∀ gg, gg ∈ pg.2 c → gg.1 ≤ 3 ∧ ∀ k, k < nvc gg → smv gg k < 8 ∧ ∃ n, bNo Vr b' (smv gg k) = some n)
    (hB : ∀ it, it ∈ B → it.2.1 ≤ 3 ∧ ∀ k, k < nvc it.2 → ∃ b0 n, it.1 = 2 * b0 ∧ bNo Vr b0 (smv it.2 k) = some n ∧ n < n0) :
    smRf pg (smKid pg [] B (2 * b, gl) (bZ N Vr bd) 1 c) [((pg.2 c).map (fun gg => (2 * b', gg)) ++ B, bZ N Vr bd)] := by
  have e1 : (smKid pg [] B (2 * b, gl) (bZ N Vr bd) 1 c) = (((pg.2 c).map (fun gg => ((1 : Nat), 2 * b', gg)) ++ B.map (fun it => (it.1, it.1, it.2))).map (fun q => (q.1, q.2.2)), fun v => bZ N Vr bd v ∧ ∀ x, x < gl.2.2.1 → v 1 x = v (2 * b) (smv gl x)) := by
    unfold smKid
    rw [List.nil_append, List.map_append, List.map_map, List.map_map]
    have e2 : B.map ((fun q : Nat × Nat × smL => (q.1, q.2.2)) ∘ fun it => (it.1, it.1, it.2)) = B := by
      have : ((fun q : Nat × Nat × smL => (q.1, q.2.2)) ∘ fun it : smI => (it.1, it.1, it.2)) = id := rfl
      rw [this, List.map_id]
    rw [e2]
    rfl
  have e3 : (pg.2 c).map (fun gg => (2 * b', gg)) ++ B = ((pg.2 c).map (fun gg => ((1 : Nat), 2 * b', gg)) ++ B.map (fun it => (it.1, it.1, it.2))).map (fun q => (q.2.1, q.2.2)) := by
    rw [List.map_append, List.map_map, List.map_map]
    have e2 : B.map ((fun q : Nat × Nat × smL => (q.2.1, q.2.2)) ∘ fun it => (it.1, it.1, it.2)) = B := by
      have : ((fun q : Nat × Nat × smL => (q.2.1, q.2.2)) ∘ fun it : smI => (it.1, it.1, it.2)) = id := rfl
      rw [this, List.map_id]
    rw [e2]
    rfl
  rw [e1, e3]
  have mem : ∀ q, q ∈ ((pg.2 c).map (fun gg => ((1 : Nat), 2 * b', gg)) ++ B.map (fun it => (it.1, it.1, it.2))) → (∃ gg, gg ∈ pg.2 c ∧ q = (1, 2 * b', gg)) ∨ ∃ it, it ∈ B ∧ q = (it.1, it.1, it.2) := fun q hq => by
    rcases List.mem_append.mp hq with h | h
    · obtain ⟨gg, h1, h2⟩ := List.mem_map.mp h
      exact Or.inl ⟨gg, h1, h2.symm⟩
    · obtain ⟨it, h1, h2⟩ := List.mem_map.mp h
      exact Or.inr ⟨it, h1, h2.symm⟩
  refine smRf_sim (fun q hq => ?_) (fun v hv => ?_) (fun w hw => ?_)
  · rcases mem q hq with ⟨gg, h1, rfl⟩ | ⟨it, h1, rfl⟩
    · exact (hbody gg h1).1
    · exact (hB it h1).1
  · obtain ⟨⟨ν, z1, z2, z3⟩, hv1⟩ := hv
    obtain ⟨ν', y1, y2, y3⟩ := b_sat hk (fun n => match (List.range 8).find? (fun x => decide (gl.2.2.1 ≤ x ∧ bNo Vr b' x = some n)) with | some x => v 1 x | none => ν n)
    have old : ∀ n, n < n0 → ν n = ν' n := fun n hn => by
      refine b_uniq hb hp z1 z2 y1 y2 (fun m hm h1 h2 => ?_) hn (hk.2.2 n)
      rw [y3 m h1 h2]
      have e : (List.range 8).find? (fun x => decide (gl.2.2.1 ≤ x ∧ bNo Vr b' x = some m)) = none := by
        rw [List.find?_eq_none]
        intro x hx hd
        have hd := of_decide_eq_true hd
        have := (hfr x m hd.1 (List.mem_range.mp hx) hd.2).1
        omega
      rw [e]
    have fresh : ∀ x n, gl.2.2.1 ≤ x → x < 8 → bNo Vr b' x = some n → ν' n = v 1 x := fun x n hx hx8 hn => by
      obtain ⟨f1, f2⟩ := hfr x n hx hx8 hn
      have hbn : bd n = none := by
        cases hq : bd n with
        | none => rfl
        | some m => have := (hb n m hq).1; omega
      rw [y3 n hbn f2]
      cases hf : (List.range 8).find? (fun x => decide (gl.2.2.1 ≤ x ∧ bNo Vr b' x = some n)) with
      | none =>
        have := List.find?_eq_none.mp hf x (List.mem_range.mpr hx8)
        exact absurd (decide_eq_true ⟨hx, hn⟩) this
      | some x' =>
        have h0 := List.find?_some (p := fun x => decide (gl.2.2.1 ≤ x ∧ bNo Vr b' x = some n)) hf
        have h1 := of_decide_eq_true h0
        have h2 := List.mem_range.mp (List.mem_of_find?_eq_some hf)
        have := hinj x' x n h1.1 hx h2 hx8 h1.2 hn
        rw [this]
    refine ⟨bVal Vr ν' v, bZ_mk y1 y2, fun q hq k hk2 => ?_⟩
    rcases mem q hq with ⟨gg, h1, rfl⟩ | ⟨it, h1, rfl⟩
    · obtain ⟨h8, n, hn⟩ := (hbody gg h1).2 k hk2
      show v 1 (smv gg k) = bVal Vr ν' v (2 * b') (smv gg k)
      rw [bVal_e hn]
      by_cases hx : smv gg k < gl.2.2.1
      · obtain ⟨m, m1, m2, m3⟩ := har _ hx
        rw [hn] at m2
        cases m2
        rw [hv1 _ hx, z3 _ _ _ m1, old _ m3]
      · exact (fresh _ n (by omega) h8 hn).symm
    · obtain ⟨b0, n, hb0, hn, hlt⟩ := (hB it h1).2 k hk2
      show v it.1 (smv it.2 k) = bVal Vr ν' v it.1 (smv it.2 k)
      rw [hb0, bVal_e hn, z3 _ _ _ hn, old n hlt]
  · obtain ⟨ν, z1, z2, z3⟩ := id hw
    refine ⟨fun i => if i = 1 then w (2 * b') else w i, ⟨⟨ν, z1, z2, fun b0 x n hn => ?_⟩, fun x hx => ?_⟩, fun q hq k hk2 => ?_⟩
    · show (if 2 * b0 = 1 then w (2 * b') else w (2 * b0)) x = ν n
      rw [if_neg (by omega)]
      exact z3 _ _ _ hn
    · obtain ⟨m, m1, m2, m3⟩ := har x hx
      show (if 1 = 1 then w (2 * b') else w 1) x = (if 2 * b = 1 then w (2 * b') else w (2 * b)) (smv gl x)
      rw [if_pos rfl, if_neg (by omega), z3 _ _ _ m1, z3 _ _ _ m2]
    · rcases mem q hq with ⟨gg, h1, rfl⟩ | ⟨it, h1, rfl⟩
      · show (if 1 = 1 then w (2 * b') else w 1) (smv gg k) = w (2 * b') (smv gg k)
        rw [if_pos rfl]
      · obtain ⟨b0, n, hb0, hn, hlt⟩ := (hB it h1).2 k hk2
        show (if it.1 = 1 then w (2 * b') else w it.1) (smv it.2 k) = w it.1 (smv it.2 k)
        rw [if_neg (by omega)]
