/-! Own rows: BREADTH: where it starts. By hand; nothing of the bytecode. -/
theorem bgR_c {inp : Nat → Option Nat} {k : Nat} {ks : List Nat} {N : bNT} {Vr : List (Option Nat)} : bgR inp (k :: ks) N Vr = (match inp k with | some v => bgR inp ks N (Vr ++ [some v]) | none => bgR inp ks (N ++ [(none, 0)]) (Vr ++ [some N.length])) := rfl
theorem bgR_pre {inp : Nat → Option Nat} : ∀ (ks : List Nat) (N : bNT) (Vr : List (Option Nat)), bPre N (bgR inp ks N Vr).1 ∧ bPre Vr (bgR inp ks N Vr).2 ∧ (bgR inp ks N Vr).1.length ≤ N.length + ks.length ∧ (bgR inp ks N Vr).2.length = Vr.length + ks.length
  | [], N, Vr => ⟨bPre_refl _, bPre_refl _, Nat.le_refl _, rfl⟩
  | k :: ks, N, Vr => by
    rw [bgR_c]
    cases inp k with
    | some v =>
      obtain ⟨a, b, c, e⟩ := bgR_pre (inp := inp) ks N (Vr ++ [some v])
      rw [List.length_append, List.length_singleton] at e
      refine ⟨a, bPre_trans (bPre_app _ _) b, ?_, ?_⟩
      · show (bgR inp ks N (Vr ++ [some v])).1.length ≤ N.length + (k :: ks).length
        rw [List.length_cons]; omega
      · show (bgR inp ks N (Vr ++ [some v])).2.length = Vr.length + (k :: ks).length
        rw [List.length_cons]; omega
    | none =>
      obtain ⟨a, b, c, e⟩ := bgR_pre (inp := inp) ks (N ++ [(none, 0)]) (Vr ++ [some N.length])
      rw [List.length_append, List.length_singleton] at c e
      refine ⟨bPre_trans (bPre_app _ _) a, bPre_trans (bPre_app _ _) b, ?_, ?_⟩
      · show (bgR inp ks (N ++ [(none, 0)]) (Vr ++ [some N.length])).1.length ≤ N.length + (k :: ks).length
        rw [List.length_cons]; omega
      · show (bgR inp ks (N ++ [(none, 0)]) (Vr ++ [some N.length])).2.length = Vr.length + (k :: ks).length
        rw [List.length_cons]; omega
theorem bgR_hd {inp : Nat → Option Nat} : ∀ (ks : List Nat) (N : bNT) (Vr : List (Option Nat)) (n : Nat), N.length ≤ n → bhd (bgR inp ks N Vr).1 n = none
  | [], N, Vr, n, h => by
    show bhd N n = none
    unfold bhd
    rw [List.getElem?_eq_none (by omega)]
    rfl
  | k :: ks, N, Vr, n, h => by
    rw [bgR_c]
    cases inp k with
    | some v => exact bgR_hd ks N _ n h
    | none =>
      by_cases c : n = N.length
      · have hp := (bgR_pre (inp := inp) ks (N ++ [(none, 0)]) (Vr ++ [some N.length])).1
        show bhd (bgR inp ks (N ++ [(none, 0)]) (Vr ++ [some N.length])).1 n = none
        rw [bhd_pre hp (by rw [List.length_append, List.length_singleton]; omega), bhd_new, if_neg (by omega), if_pos c]
      · exact bgR_hd ks _ _ n (by rw [List.length_append, List.length_singleton]; omega)
theorem bgR_at {inp : Nat → Option Nat} : ∀ (ks : List Nat) (N : bNT) (Vr : List (Option Nat)) (i k : Nat), ks[i]? = some k → ∃ n, (bgR inp ks N Vr).2[Vr.length + i]? = some (some n) ∧ (∀ v, inp k = some v → n = v) ∧ (inp k = none → N.length ≤ n ∧ n < (bgR inp ks N Vr).1.length)
  | [], _, _, _, _, h => by cases h
  | k0 :: ks, N, Vr, 0, k, h => by
    have e : k0 = k := by simpa using h
    subst e
    rw [bgR_c]
    cases hv : inp k0 with
    | some v =>
      have hp := (bgR_pre (inp := inp) ks N (Vr ++ [some v])).2.1
      exact ⟨v, bPre_some hp (by simp), fun u hu => by cases hu; rfl, fun q => by cases q⟩
    | none =>
      have hp := bgR_pre (inp := inp) ks (N ++ [(none, 0)]) (Vr ++ [some N.length])
      refine ⟨N.length, bPre_some hp.2.1 (by simp), (fun u hu => by cases hu), fun _ => ⟨Nat.le_refl _, ?_⟩⟩
      have := bPre_len hp.1
      rw [List.length_append, List.length_singleton] at this
      exact this
  | k0 :: ks, N, Vr, i + 1, k, h => by
    have h : ks[i]? = some k := by simpa using h
    rw [bgR_c]
    cases inp k0 with
    | some v =>
      obtain ⟨n, a, b⟩ := bgR_at (inp := inp) ks N (Vr ++ [some v]) i k h
      rw [List.length_append, List.length_singleton, show Vr.length + 1 + i = Vr.length + (i + 1) by omega] at a
      exact ⟨n, a, b⟩
    | none =>
      obtain ⟨n, a, b, c⟩ := bgR_at (inp := inp) ks (N ++ [(none, 0)]) (Vr ++ [some N.length]) i k h
      rw [List.length_append, List.length_singleton, show Vr.length + 1 + i = Vr.length + (i + 1) by omega] at a
      refine ⟨n, a, b, fun q => ?_⟩
      have := c q
      rw [List.length_append, List.length_singleton] at this
      exact ⟨by omega, this.2⟩
/-- unknowns are different -/
theorem bgR_df {inp : Nat → Option Nat} : ∀ (ks : List Nat) (N : bNT) (Vr : List (Option Nat)), (∀ k v, k ∈ ks → inp k = some v → v < N.length) → ∀ (i j k k' n : Nat), ks[i]? = some k → ks[j]? = some k' → inp k = none → (bgR inp ks N Vr).2[Vr.length + i]? = some (some n) → (bgR inp ks N Vr).2[Vr.length + j]? = some (some n) → i = j
  | [], _, _, _, _, _, _, _, _, h, _, _, _, _ => by cases h
  | k0 :: ks, N, Vr, hv, i, j, k, k', n, hi, hj, hk, ei, ej => by
    cases i with
    | zero => cases j with
      | zero => rfl
      | succ j =>
        exfalso
        have e : k0 = k := by simpa using hi
        subst e
        have hj : ks[j]? = some k' := by simpa using hj
        rw [bgR_c, hk] at ei ej
        have hp := bgR_pre (inp := inp) ks (N ++ [(none, 0)]) (Vr ++ [some N.length])
        have ei : (bgR inp ks (N ++ [(none, 0)]) (Vr ++ [some N.length])).2[Vr.length + 0]? = some (some n) := ei
        have ej : (bgR inp ks (N ++ [(none, 0)]) (Vr ++ [some N.length])).2[Vr.length + (j + 1)]? = some (some n) := ej
        have e0 : (bgR inp ks (N ++ [(none, 0)]) (Vr ++ [some N.length])).2[Vr.length + 0]? = some (some N.length) := bPre_some hp.2.1 (by simp)
        rw [e0] at ei
        have en : n = N.length := by
          have q := Option.some.inj (Option.some.inj ei)
          exact q.symm
        obtain ⟨n2, a, b, c⟩ := bgR_at (inp := inp) ks (N ++ [(none, 0)]) (Vr ++ [some N.length]) j k' hj
        rw [List.length_append, List.length_singleton, show Vr.length + 1 + j = Vr.length + (j + 1) by omega, ej] at a
        have en2 : n = n2 := Option.some.inj (Option.some.inj a)
        cases hk' : inp k' with
        | none =>
          have := (c hk').1
          rw [List.length_append, List.length_singleton] at this
          omega
        | some v =>
          have := b v hk'
          have := hv k' v (List.mem_cons_of_mem _ (List.mem_of_getElem? hj)) hk'
          omega
    | succ i =>
      have hi : ks[i]? = some k := by simpa using hi
      cases j with
      | zero =>
        exfalso
        have e : k0 = k' := by simpa using hj
        subst e
        rw [bgR_c] at ei ej
        cases h0 : inp k0 with
        | some v0 =>
          rw [h0] at ei ej
          have hp := bgR_pre (inp := inp) ks N (Vr ++ [some v0])
          have ei : (bgR inp ks N (Vr ++ [some v0])).2[Vr.length + (i + 1)]? = some (some n) := ei
          have ej : (bgR inp ks N (Vr ++ [some v0])).2[Vr.length + 0]? = some (some n) := ej
          have e0 : (bgR inp ks N (Vr ++ [some v0])).2[Vr.length + 0]? = some (some v0) := bPre_some hp.2.1 (by simp)
          rw [e0] at ej
          have en : v0 = n := Option.some.inj (Option.some.inj ej)
          obtain ⟨n2, a, -, c⟩ := bgR_at (inp := inp) ks N (Vr ++ [some v0]) i k hi
          rw [List.length_append, List.length_singleton, show Vr.length + 1 + i = Vr.length + (i + 1) by omega, ei] at a
          have en2 : n = n2 := Option.some.inj (Option.some.inj a)
          have := (c hk).1
          have := hv k0 v0 List.mem_cons_self h0
          omega
        | none =>
          rw [h0] at ei ej
          have hp := bgR_pre (inp := inp) ks (N ++ [(none, 0)]) (Vr ++ [some N.length])
          have ei : (bgR inp ks (N ++ [(none, 0)]) (Vr ++ [some N.length])).2[Vr.length + (i + 1)]? = some (some n) := ei
          have ej : (bgR inp ks (N ++ [(none, 0)]) (Vr ++ [some N.length])).2[Vr.length + 0]? = some (some n) := ej
          have e0 : (bgR inp ks (N ++ [(none, 0)]) (Vr ++ [some N.length])).2[Vr.length + 0]? = some (some N.length) := bPre_some hp.2.1 (by simp)
          rw [e0] at ej
          have en : N.length = n := Option.some.inj (Option.some.inj ej)
          obtain ⟨n2, a, -, c⟩ := bgR_at (inp := inp) ks (N ++ [(none, 0)]) (Vr ++ [some N.length]) i k hi
          rw [List.length_append, List.length_singleton, show Vr.length + 1 + i = Vr.length + (i + 1) by omega, ei] at a
          have en2 : n = n2 := Option.some.inj (Option.some.inj a)
          have := (c hk).1
          rw [List.length_append, List.length_singleton] at this
          omega
      | succ j =>
        have hj : ks[j]? = some k' := by simpa using hj
        rw [bgR_c] at ei ej
        cases h0 : inp k0 with
        | some v0 =>
          rw [h0] at ei ej
          have q := bgR_df (inp := inp) ks N (Vr ++ [some v0]) (fun a v ha => hv a v (List.mem_cons_of_mem _ ha)) i j k k' n hi hj hk (by rw [List.length_append, List.length_singleton, show Vr.length + 1 + i = Vr.length + (i + 1) by omega]; exact ei) (by rw [List.length_append, List.length_singleton, show Vr.length + 1 + j = Vr.length + (j + 1) by omega]; exact ej)
          omega
        | none =>
          rw [h0] at ei ej
          have q := bgR_df (inp := inp) ks (N ++ [(none, 0)]) (Vr ++ [some N.length]) (fun a v ha hva => by have := hv a v (List.mem_cons_of_mem _ ha) hva; rw [List.length_append]; omega) i j k k' n hi hj hk (by rw [List.length_append, List.length_singleton, show Vr.length + 1 + i = Vr.length + (i + 1) by omega]; exact ei) (by rw [List.length_append, List.length_singleton, show Vr.length + 1 + j = Vr.length + (j + 1) by omega]; exact ej)
          omega
