/-! Own rows: BREADTH's tables only grow: what is told of nodes, lists and cells stays. -/
section BP
def bPre {T : Type} (A B : List T) : Prop := ∃ t, B = A ++ t
theorem bPre_refl {T : Type} (A : List T) : bPre A A := ⟨[], (List.append_nil A).symm⟩
theorem bPre_trans {T : Type} {A B D : List T} (h : bPre A B) (k : bPre B D) : bPre A D := by
  obtain ⟨s, rfl⟩ := h
  obtain ⟨t, rfl⟩ := k
  exact ⟨s ++ t, List.append_assoc _ _ _⟩
theorem bPre_app {T : Type} (A t : List T) : bPre A (A ++ t) := ⟨t, rfl⟩
theorem bPre_at {T : Type} {A B : List T} (h : bPre A B) {i : Nat} (hi : i < A.length) : B[i]? = A[i]? := by
  obtain ⟨t, rfl⟩ := h
  exact List.getElem?_append_left hi
theorem b_lt {T : Type} {A : List T} {i : Nat} {x : T} (hx : A[i]? = some x) : i < A.length := (List.getElem?_eq_some_iff.mp hx).1
theorem bPre_some {T : Type} {A B : List T} (h : bPre A B) {i : Nat} {x : T} (hx : A[i]? = some x) : B[i]? = some x := by
  rw [bPre_at h (b_lt hx)]; exact hx
theorem bPre_len {T : Type} {A B : List T} (h : bPre A B) : A.length ≤ B.length := by
  obtain ⟨t, rfl⟩ := h
  simp
theorem bhd_lt {N : bNT} {n c : Nat} (h : bhd N n = some c) : n < N.length := by
  unfold bhd at h
  cases e : N[n]? with
  | none => rw [e] at h; cases h
  | some x => exact b_lt e
theorem bhd_pre {N N' : bNT} (h : bPre N N') {n : Nat} (hn : n < N.length) : bhd N' n = bhd N n := by
  unfold bhd; rw [bPre_at h hn]
theorem bfs_pre {N N' : bNT} (h : bPre N N') {n : Nat} (hn : n < N.length) : bfs N' n = bfs N n := by
  unfold bfs; rw [bPre_at h hn]
theorem bNo_iff {Vr : List (Option Nat)} {b x n : Nat} : bNo Vr b x = some n ↔ Vr[b + x]? = some (some n) := by
  unfold bNo
  cases e : Vr[b + x]? with
  | none => simp
  | some o => simp
theorem bNo_pre {Vr Vr' : List (Option Nat)} (h : bPre Vr Vr') {b x n : Nat} (k : bNo Vr b x = some n) : bNo Vr' b x = some n := bNo_iff.mpr (bPre_some h (bNo_iff.mp k))
theorem bRp_in {N : bNT} {bd : bBD} (hb : ∀ n m, bd n = some m → m < N.length) : ∀ (k x z : Nat), x < N.length → bt bd k x z → z < N.length
  | 0, _, _, hx, e => by rw [← show _ = _ from e]; exact hx
  | k + 1, _, _, _, ⟨m, h1, h2⟩ => bRp_in hb k m _ (hb _ m h1) h2
theorem bend_pre {N N' : bNT} {bd : bBD} (hN : bPre N N') (hp : ∀ n, bhd N n = some 1 → bfs N n < N.length) (hb : ∀ n m, bd n = some m → m < N.length) : ∀ (k n : Nat), n < N.length → bend N' bd k n = bend N bd k n
  | 0, _, _ => rfl
  | k + 1, n, hn => by
    unfold bend
    cases e : bd n with
    | some m => exact bend_pre hN hp hb k m (hb n m e)
    | none =>
      simp only [bhd_pre hN hn]
      by_cases c : bhd N n = some 1
      · rw [if_pos c, if_pos c, bfs_pre hN hn, bend_pre hN hp hb k _ (hp n c)]
      · rw [if_neg c, if_neg c]
theorem bDir_pre {N N' : bNT} (hN : bPre N N') {lo hi : Nat} (h1 : lo < N.length) (h2 : hi < N.length) : bDir N' lo hi = bDir N lo hi := by
  unfold bDir; rw [bhd_pre hN h1, bhd_pre hN h2]
theorem bClash_pre {N N' : bNT} {g : Nat} (hN : bPre N N') {lo hi : Nat} (h1 : lo < N.length) (h2 : hi < N.length) : bClash N' g lo hi ↔ bClash N g lo hi := by
  unfold bClash; rw [bhd_pre hN h1, bhd_pre hN h2]
theorem bDir_in {N : bNT} {lo hi : Nat} : (bDir N lo hi).2 = lo ∨ (bDir N lo hi).2 = hi := by
  unfold bDir
  split
  · exact Or.inr rfl
  · exact Or.inl rfl
theorem bUn_pre {N N' : bNT} {g : Nat} (hN : bPre N N') (hp : ∀ n, bhd N n = some 1 → bfs N n < N.length) : ∀ (k : Nat) (bd : bBD) (x y : Nat) (r : Bool × bBD × List (Nat × Nat)), (∀ n m, bd n = some m → m < N.length) → x < N.length → y < N.length → bUn N g k bd x y r → bUn N' g k bd x y r
  | 0, _, _, _, _, _, _, _, h => h.elim
  | k + 1, bd, x, y, r, hb, hx, hy, ⟨a, b, ha, hb1, h⟩ => by
    refine ⟨a, b, ha, hb1, ?_⟩
    obtain ⟨⟨ka, ha1⟩, -⟩ := ha
    obtain ⟨⟨kb, hb2⟩, -⟩ := hb1
    have la := bRp_in hb ka x a hx ha1
    have lb := bRp_in hb kb y b hy hb2
    have l1 : min a b < N.length := by omega
    have l2 : max a b < N.length := by omega
    rcases h with h | ⟨h1, h2, h3⟩ | ⟨h1, h2, r', h3, h4⟩
    · exact Or.inl h
    · exact Or.inr (Or.inl ⟨h1, (bClash_pre hN l1 l2).mpr h2, h3⟩)
    · refine Or.inr (Or.inr ⟨h1, fun q => h2 ((bClash_pre hN l1 l2).mp q), r', ?_, ?_⟩)
      · rw [bDir_pre hN l1 l2]; exact h3
      · rw [bDir_pre hN l1 l2, bhd_pre hN l1, bhd_pre hN l2, bfs_pre hN l1, bfs_pre hN l2]
        rcases h4 with ⟨c1, c2, h5⟩ | h5
        · refine Or.inl ⟨c1, c2, ?_⟩
          have c3 : bhd N (max a b) = some 1 := by
            obtain ⟨y', hy'⟩ := Option.ne_none_iff_exists'.mp c2
            by_cases q : (1 : Nat) = y'
            · rw [hy', ← q]
            · exact absurd ⟨1, y', c1, hy', Or.inl q⟩ h2
          refine bUn_pre hN hp k _ _ _ r' (fun n m hn => ?_) (hp _ c1) (hp _ c3) h5
          unfold bUp at hn
          split at hn
          · cases hn
            rcases bDir_in (N := N) (lo := min a b) (hi := max a b) with e | e <;> rw [e] <;> assumption
          · exact hb n m hn
        · exact Or.inr h5
/-! paths -/
theorem bPb_none {Ls : bLs} {Bi : List (Nat × Nat)} (k : Nat) : bPb Ls Bi k none = [] := by cases k <;> rfl
theorem bPb_some {Ls : bLs} {Bi : List (Nat × Nat)} {k l : Nat} {e : Option Nat × Nat × Nat × Option Nat} (h : Ls[l]? = some e) : bPb Ls Bi (k + 1) (some l) = (Bi.take e.2.2.1).drop e.2.1 ++ bPb Ls Bi k e.1 := by
  simp only [bPb, h]
def bLw (Ls : bLs) (nb : Nat) : Prop := ∀ (l : Nat) (e : Option Nat × Nat × Nat × Option Nat), Ls[l]? = some e → (∀ p, e.1 = some p → p < l) ∧ e.2.1 ≤ e.2.2.1 ∧ e.2.2.1 ≤ nb
theorem b_seg {T : Type} {A B : List T} (h : bPre A B) {i j : Nat} (hj : j ≤ A.length) : (B.take j).drop i = (A.take j).drop i := by
  obtain ⟨t, rfl⟩ := h
  rw [List.take_append_of_le_length hj]
theorem bPb_pre {Ls Ls' : bLs} {Bi Bi' : List (Nat × Nat)} (hL : bPre Ls Ls') (hB : bPre Bi Bi') (hw : bLw Ls Bi.length) : ∀ (k : Nat) (o : Option Nat), (∀ l, o = some l → l < Ls.length) → bPb Ls' Bi' k o = bPb Ls Bi k o
  | 0, _, _ => rfl
  | k + 1, none, _ => rfl
  | k + 1, some l, h => by
    have hl := h l rfl
    have e1 : Ls[l]? = some Ls[l] := List.getElem?_eq_getElem hl
    obtain ⟨w1, w2, w3⟩ := hw l _ e1
    rw [bPb_some e1, bPb_some (bPre_some hL e1), b_seg hB w3, bPb_pre hL hB hw k _ (fun p hp => Nat.lt_trans (w1 p hp) hl)]
theorem bPb_fuel {Ls : bLs} {Bi : List (Nat × Nat)} {nb : Nat} (hw : bLw Ls nb) : ∀ (k k' : Nat) (o : Option Nat), (∀ l, o = some l → l < k ∧ l < k') → bPb Ls Bi k o = bPb Ls Bi k' o
  | k, k', none, _ => by rw [bPb_none, bPb_none]
  | 0, _, some l, h => absurd (h l rfl).1 (by omega)
  | _ + 1, 0, some l, h => absurd (h l rfl).2 (by omega)
  | k + 1, k' + 1, some l, h => by
    have hl := h l rfl
    cases e1 : Ls[l]? with
    | none => simp only [bPb, e1]
    | some e =>
      rw [bPb_some e1, bPb_some e1, bPb_fuel hw k k' e.1 (fun p hp => by have := (hw l e e1).1 p hp; omega)]
theorem bPb_mem {Ls : bLs} {Bi : List (Nat × Nat)} : ∀ (k : Nat) (o : Option Nat) (e : Nat × Nat), e ∈ bPb Ls Bi k o → e ∈ Bi
  | 0, _, _, h => by cases h
  | k + 1, none, _, h => by cases h
  | k + 1, some l, x, h => by
    cases e1 : Ls[l]? with
    | none => simp only [bPb, e1] at h; cases h
    | some e =>
      rw [bPb_some e1] at h
      rcases List.mem_append.mp h with h | h
      · exact List.mem_of_mem_take (List.mem_of_mem_drop h)
      · exact bPb_mem k e.1 x h
/-! chains -/
theorem bCh_pre {Ce Ce' : List (Nat × Nat × Option Nat)} (h : bPre Ce Ce') : ∀ (cs : List Nat) (o : Option Nat), bCh Ce o cs → bCh Ce' o cs
  | [], _, e => e
  | _ :: cs, _, ⟨h1, e, h2, h3⟩ => ⟨h1, e, bPre_some h h2, bCh_pre h cs _ h3⟩
theorem bCh_uniq {Ce : List (Nat × Nat × Option Nat)} : ∀ (cs cs' : List Nat) (o : Option Nat), bCh Ce o cs → bCh Ce o cs' → cs = cs'
  | [], [], _, _, _ => rfl
  | [], _ :: _, _, h, ⟨h1, _⟩ => by rw [show _ = none from h] at h1; cases h1
  | _ :: _, [], _, ⟨h1, _⟩, h => by rw [show _ = none from h] at h1; cases h1
  | c :: cs, c' :: cs', o, ⟨h1, e, h2, h3⟩, ⟨k1, e', k2, k3⟩ => by
    rw [h1] at k1
    cases k1
    rw [h2] at k2
    cases k2
    rw [bCh_uniq cs cs' _ h3 k3]
theorem bCh_mem {Ce : List (Nat × Nat × Option Nat)} : ∀ (cs : List Nat) (o : Option Nat), bCh Ce o cs → ∀ c, c ∈ cs → ∃ e, Ce[c]? = some e
  | [], _, _, _, h => absurd h List.not_mem_nil
  | _ :: cs, _, ⟨_, e, h2, h3⟩, x, hx => by
    rcases List.mem_cons.mp hx with q | q
    · exact ⟨e, by rw [q]; exact h2⟩
    · exact bCh_mem cs _ h3 x q
theorem bCh_app {Ce : List (Nat × Nat × Option Nat)} : ∀ (A : List Nat) (cc : Nat) (B : List Nat) (o : Option Nat), bCh Ce o (A ++ cc :: B) → ∃ e, Ce[cc]? = some e ∧ bCh Ce e.2.2 B
  | [], _, _, _, ⟨_, e, h2, h3⟩ => ⟨e, h2, h3⟩
  | _ :: A, cc, B, _, ⟨_, _, _, h3⟩ => bCh_app A cc B _ h3
/-! what is bound -/
theorem bdOf_cons {a b : Nat} {X : List (Nat × Nat)} {n : Nat} : bdOf ((a, b) :: X) n = if a = n then some b else bdOf X n := by
  unfold bdOf
  by_cases c : a = n
  · rw [if_pos c, List.find?_cons_of_pos (by simp [c])]; rfl
  · rw [if_neg c, List.find?_cons_of_neg (by simp [c])]
theorem bdOf_mem : ∀ (X : List (Nat × Nat)) (n m : Nat), bdOf X n = some m → (n, m) ∈ X
  | [], _, _, h => by cases h
  | (a, b) :: X, n, m, h => by
    rw [bdOf_cons] at h
    by_cases c : a = n
    · rw [if_pos c] at h
      cases h
      rw [c]
      exact List.mem_cons_self
    · rw [if_neg c] at h
      exact List.mem_cons_of_mem _ (bdOf_mem X n m h)
theorem bdOf_app {pb : List (Nat × Nat)} : ∀ (rr : List (Nat × Nat)), (rr.map fun e => e.1).Nodup → (∀ e, e ∈ rr → bdOf pb e.1 = none) → ∀ n m, bdOf (rr ++ pb) n = some m ↔ bdOf pb n = some m ∨ (n, m) ∈ rr
  | [], _, _, n, m => by simp
  | (a, b) :: rr, hn, hd, n, m => by
    rw [List.map_cons] at hn
    obtain ⟨h1, h2⟩ := List.nodup_cons.mp hn
    rw [List.cons_append, bdOf_cons]
    by_cases c : a = n
    · rw [if_pos c]
      have h3 := hd (a, b) List.mem_cons_self
      have h3 : bdOf pb a = none := h3
      rw [c] at h3
      rw [h3]
      constructor
      · intro h
        cases h
        rw [c]
        exact Or.inr List.mem_cons_self
      · rintro (h | h)
        · cases h
        · rcases List.mem_cons.mp h with h | h
          · cases h; rfl
          · exact absurd (List.mem_map.mpr ⟨(n, m), h, c.symm⟩) h1
    · rw [if_neg c, bdOf_app rr h2 (fun e he => hd e (List.mem_cons_of_mem _ he)) n m]
      constructor
      · rintro (h | h)
        · exact Or.inl h
        · exact Or.inr (List.mem_cons_of_mem _ h)
      · rintro (h | h)
        · exact Or.inl h
        · rcases List.mem_cons.mp h with h | h
          · cases h; exact absurd rfl c
          · exact Or.inr h
/-! the cells ahead of one that is taken out, copied -/
theorem bWo_len {Ce : List (Nat × Nat × Option Nat)} {r : Option Nat} : ∀ (A : List Nat) (n : Nat), (bWo Ce r A n).length = A.length
  | [], _ => rfl
  | _ :: A, n => by simp [bWo, bWo_len A]
theorem bWo_at {Ce : List (Nat × Nat × Option Nat)} {r : Option Nat} : ∀ (A : List Nat) (n i : Nat) (a : Nat), A[i]? = some a → (bWo Ce r A n)[i]? = some ((Ce.getD a (0, 0, none)).1, (Ce.getD a (0, 0, none)).2.1, if i + 1 = A.length then r else some (n + i + 1))
  | [], _, _, _, h => by simp at h
  | x :: A, n, 0, a, h => by
    simp only [List.getElem?_cons_zero, Option.some.injEq] at h
    subst h
    cases A with
    | nil => simp [bWo]
    | cons y A => simp [bWo]
  | x :: A, n, i + 1, a, h => by
    have h : A[i]? = some a := by simpa using h
    have q := bWo_at (Ce := Ce) (r := r) A (n + 1) i a h
    simp only [bWo, List.getElem?_cons_succ, q, List.length_cons, Option.some.injEq, Prod.mk.injEq, true_and]
    by_cases c : i + 1 = A.length
    · rw [if_pos c, if_pos (by omega)]
    · rw [if_neg c, if_neg (by omega)]
      congr 1
      omega
theorem bWo_ch {Ce Ce1 : List (Nat × Nat × Option Nat)} {r : Option Nat} {A B : List Nat} (h1 : Ce1 = Ce ++ bWo Ce r A Ce.length) (hr : bCh Ce1 r B) : bCh Ce1 (if A = [] then r else some Ce.length) ((List.range A.length).map (fun i => Ce.length + i) ++ B) := by
  have go : ∀ (d i : Nat), i + d = A.length → bCh Ce1 (if d = 0 then r else some (Ce.length + i)) ((List.range' i d).map (fun i => Ce.length + i) ++ B) := by
    intro d
    induction d with
    | zero => intro i _; exact hr
    | succ d ih =>
      intro i hi
      have hlt : i < A.length := by omega
      have ea : A[i]? = some A[i] := List.getElem?_eq_getElem hlt
      have q := bWo_at (Ce := Ce) (r := r) A Ce.length i _ ea
      rw [List.range'_succ, List.map_cons, List.cons_append, if_neg (Nat.succ_ne_zero d)]
      have q0 : Ce1[Ce.length + i]? = some ((Ce.getD A[i] (0, 0, none)).1, (Ce.getD A[i] (0, 0, none)).2.1, if i + 1 = A.length then r else some (Ce.length + i + 1)) := by
        rw [h1, List.getElem?_append_right (by omega), Nat.add_sub_cancel_left]
        exact q
      refine ⟨rfl, _, q0, ?_⟩
      · have q2 := ih (i + 1) (by omega)
        by_cases c : i + 1 = A.length
        · have hd : d = 0 := by omega
          subst hd
          rw [if_pos c]
          exact q2
        · rw [if_neg c]
          rw [if_neg (show d ≠ 0 by omega)] at q2
          exact q2
  have q := go A.length 0 (by omega)
  rw [List.range_eq_range']
  cases A with
  | nil => exact q
  | cons a A =>
    rw [if_neg (by simp)] at q ⊢
    exact q
end BP
