/-! Own rows: WHAT A PROGRAM MEANS, without any machine: proof trees of ground atoms, denied atoms by stages, and what a search owes (a list of forests without repetition). Nothing of the bytecode here. -/
abbrev smG : Type := Nat × Nat
abbrev smL : Type := Nat × Nat × Nat × Nat × Nat × Nat
abbrev smI : Type := Nat × smL
abbrev smT : Type := Jvm.Cond
abbrev smA : Type := Nat × List smG
abbrev smV : Type := Nat → Nat → smG
/-- a program: the clauses of a predicate, the goals of a clause -/
abbrev smP : Type := (Nat → List Nat) × (Nat → List smL)
def smE : List smT → smT
  | [] => Jvm.Cond.count 0
  | t :: ts => Jvm.Cond.and t (smE ts)
def smN (c : Nat) (ks : List smT) : smT := Jvm.Cond.and (Jvm.Cond.count c) (smE ks)
theorem smE_inj : ∀ (a b : List smT), smE a = smE b → a = b
  | [], [], _ => rfl
  | [], _ :: _, h => by simp [smE] at h
  | _ :: _, [], h => by simp [smE] at h
  | x :: a, y :: b, h => by
    simp only [smE, Jvm.Cond.and.injEq] at h
    rw [h.1, smE_inj a b h.2]
theorem smN_inj {c d : Nat} {a b : List smT} (h : smN c a = smN d b) : c = d ∧ a = b := by
  simp only [smN, Jvm.Cond.and.injEq, Jvm.Cond.count.injEq] at h
  exact ⟨h.1, smE_inj _ _ h.2⟩
/-- the term of a constructor: 1 has one part, the others none -/
def smB (c : Nat) (y : smG) : smG := if c = 1 then (y.1 + 1, y.2) else (0, c)
def smv (g : smL) (k : Nat) : Nat := if k = 0 then g.2.2.2.1 else if k = 1 then g.2.2.2.2.1 else g.2.2.2.2.2
def smAt (g : smL) (r : Nat → smG) : smA := (g.2.1, (List.range g.2.2.1).map fun k => r (smv g k))
/-- an equation: a build (0), a same (1), or (else) a variable here and one of the instance 'subject' -/
def smEq (v : smV) (it : smI) : Prop :=
  if it.2.1 = 0 then v it.1 (smv it.2 0) = smB it.2.2.1 (v it.1 (smv it.2 1))
  else if it.2.1 = 1 then v it.1 (smv it.2 0) = v it.1 (smv it.2 1)
  else v it.1 (smv it.2 0) = v it.2.2.1 (smv it.2 1)
def smS (E : smA → smT → Prop) (K : smA → Prop) (v : smV) : List smI → List smT → Prop
  | [], F => F = []
  | it :: P, F =>
    if it.2.1 = 2 then ∃ t F', F = t :: F' ∧ E (smAt it.2 (v it.1)) t ∧ smS E K v P F'
    else if it.2.1 = 3 then K (smAt it.2 (v it.1)) ∧ smS E K v P F
    else smEq v it ∧ smS E K v P F
def smEV (pg : smP) (K : smA → Prop) : Nat → smA → smT → Prop
  | 0, _, _ => False
  | n + 1, a, t => ∃ (c : Nat) (ks : List smT) (v : smV), t = smN c ks ∧ c ∈ pg.1 a.1 ∧ (∀ k, k < a.2.length → v 0 k = a.2.getD k (0, 0)) ∧ smS (smEV pg K n) K v ((pg.2 c).map (fun g => (0, g))) ks
def smX (pg : smP) (K : smA → Prop) (a : smA) (t : smT) : Prop := ∃ n, smEV pg K n a t
theorem smS_c (E : smA → smT → Prop) (K : smA → Prop) (v : smV) (it : smI) (P : List smI) (F : List smT) : smS E K v (it :: P) F = if it.2.1 = 2 then ∃ t F', F = t :: F' ∧ E (smAt it.2 (v it.1)) t ∧ smS E K v P F' else if it.2.1 = 3 then K (smAt it.2 (v it.1)) ∧ smS E K v P F else smEq v it ∧ smS E K v P F := rfl
theorem smS_2 {E : smA → smT → Prop} {K : smA → Prop} {v : smV} {it : smI} {P : List smI} {F : List smT} (h : it.2.1 = 2) : smS E K v (it :: P) F ↔ ∃ t F', F = t :: F' ∧ E (smAt it.2 (v it.1)) t ∧ smS E K v P F' := by
  rw [smS_c, if_pos h]
theorem smS_n {E : smA → smT → Prop} {K : smA → Prop} {v : smV} {it : smI} {P : List smI} {F : List smT} (h : it.2.1 ≠ 2) : smS E K v (it :: P) F ↔ (if it.2.1 = 3 then K (smAt it.2 (v it.1)) else smEq v it) ∧ smS E K v P F := by
  rw [smS_c, if_neg h]
  by_cases c : it.2.1 = 3
  · rw [if_pos c, if_pos c]
  · rw [if_neg c, if_neg c]
theorem smS_mono {E E' : smA → smT → Prop} {K K' : smA → Prop} {v : smV} (hE : ∀ a t, E a t → E' a t) (hK : ∀ a, K a → K' a) : ∀ (P : List smI) (F : List smT), smS E K v P F → smS E' K' v P F
  | [], _, h => h
  | it :: P, F, h => by
    unfold smS at h ⊢
    split
    · rename_i h2
      rw [if_pos h2] at h
      obtain ⟨t, F', h3, h4, h5⟩ := h
      exact ⟨t, F', h3, hE _ _ h4, smS_mono hE hK P F' h5⟩
    · rename_i h2
      rw [if_neg h2] at h
      split
      · rename_i h3
        rw [if_pos h3] at h
        exact ⟨hK _ h.1, smS_mono hE hK P F h.2⟩
      · rename_i h3
        rw [if_neg h3] at h
        exact ⟨h.1, smS_mono hE hK P F h.2⟩
theorem smEV_mono {pg : smP} {K K' : smA → Prop} (hK : ∀ a, K a → K' a) : ∀ (n m : Nat), n ≤ m → ∀ a t, smEV pg K n a t → smEV pg K' m a t
  | 0, _, _, _, _, h => h.elim
  | n + 1, 0, h, _, _, _ => absurd h (by omega)
  | n + 1, m + 1, h, a, t, hh => by
    obtain ⟨c, ks, v, h1, h2, h3, h4⟩ := hh
    exact ⟨c, ks, v, h1, h2, h3, smS_mono (fun a t => smEV_mono hK n m (by omega) a t) hK _ _ h4⟩
theorem smX_mono {pg : smP} {K K' : smA → Prop} (hK : ∀ a, K a → K' a) {a : smA} {t : smT} (h : smX pg K a t) : smX pg K' a t := by
  obtain ⟨n, h⟩ := h
  exact ⟨n, smEV_mono hK n n (Nat.le_refl _) a t h⟩
/-- finitely many proofs have one bound -/
theorem smS_fin {pg : smP} {K : smA → Prop} {v : smV} : ∀ (P : List smI) (F : List smT), smS (smX pg K) K v P F → ∃ n, smS (smEV pg K n) K v P F
  | [], _, h => ⟨0, h⟩
  | it :: P, F, h => by
    unfold smS at h
    by_cases h2 : it.2.1 = 2
    · rw [if_pos h2] at h
      obtain ⟨t, F', h3, ⟨n1, h4⟩, h5⟩ := h
      obtain ⟨n2, h6⟩ := smS_fin P F' h5
      refine ⟨n1 + n2, ?_⟩
      unfold smS
      rw [if_pos h2]
      exact ⟨t, F', h3, smEV_mono (fun _ h => h) n1 (n1 + n2) (by omega) _ _ h4, smS_mono (fun a t => smEV_mono (fun _ h => h) n2 (n1 + n2) (by omega) a t) (fun _ h => h) _ _ h6⟩
    · rw [if_neg h2] at h
      by_cases h3 : it.2.1 = 3
      · rw [if_pos h3] at h
        obtain ⟨n, h6⟩ := smS_fin P F h.2
        refine ⟨n, ?_⟩
        unfold smS
        rw [if_neg h2, if_pos h3]
        exact ⟨h.1, h6⟩
      · rw [if_neg h3] at h
        obtain ⟨n, h6⟩ := smS_fin P F h.2
        refine ⟨n, ?_⟩
        unfold smS
        rw [if_neg h2, if_neg h3]
        exact ⟨h.1, h6⟩
/-- one step of a proof -/
theorem smX_iff {pg : smP} {K : smA → Prop} {a : smA} {t : smT} : smX pg K a t ↔ ∃ (c : Nat) (ks : List smT) (v : smV), t = smN c ks ∧ c ∈ pg.1 a.1 ∧ (∀ k, k < a.2.length → v 0 k = a.2.getD k (0, 0)) ∧ smS (smX pg K) K v ((pg.2 c).map (fun g => (0, g))) ks := by
  constructor
  · intro ⟨n, h⟩
    cases n with
    | zero => exact h.elim
    | succ n =>
      obtain ⟨c, ks, v, h1, h2, h3, h4⟩ := h
      exact ⟨c, ks, v, h1, h2, h3, smS_mono (fun a t h => ⟨n, h⟩) (fun _ h => h) _ _ h4⟩
  · intro ⟨c, ks, v, h1, h2, h3, h4⟩
    obtain ⟨n, h5⟩ := smS_fin _ _ h4
    exact ⟨n + 1, c, ks, v, h1, h2, h3, h5⟩
/-- how many of the items are calls -/
def smC : List smI → Nat
  | [] => 0
  | it :: P => (if it.2.1 = 2 then 1 else 0) + smC P
theorem smC_app : ∀ (P R : List smI), smC (P ++ R) = smC P + smC R
  | [], R => by simp [smC]
  | it :: P, R => by
    simp only [List.cons_append, smC, smC_app P R]
    omega
theorem smS_len {E : smA → smT → Prop} {K : smA → Prop} {v : smV} : ∀ (P : List smI) (F : List smT), smS E K v P F → F.length = smC P
  | [], F, h => by
    have h : F = [] := h
    rw [h]; rfl
  | it :: P, F, h => by
    unfold smS at h
    unfold smC
    by_cases h2 : it.2.1 = 2
    · rw [if_pos h2] at h ⊢
      obtain ⟨t, F', h3, h4, h5⟩ := h
      rw [h3, List.length_cons, smS_len P F' h5]
      omega
    · rw [if_neg h2] at h ⊢
      by_cases h3 : it.2.1 = 3
      · rw [if_pos h3] at h
        rw [smS_len P F h.2]
        omega
      · rw [if_neg h3] at h
        rw [smS_len P F h.2]
        omega
theorem smS_app {E : smA → smT → Prop} {K : smA → Prop} {v : smV} : ∀ (P R : List smI) (F : List smT), smS E K v (P ++ R) F ↔ ∃ F1 F2, F = F1 ++ F2 ∧ smS E K v P F1 ∧ smS E K v R F2
  | [], R, F => by
    constructor
    · intro h
      exact ⟨[], F, rfl, rfl, h⟩
    · intro ⟨F1, F2, h1, h2, h3⟩
      have h2 : F1 = [] := h2
      subst h2
      rw [h1]
      exact h3
  | it :: P, R, F => by
    have ih := smS_app (E := E) (K := K) (v := v) P R
    rw [List.cons_append]
    simp only [smS_c]
    by_cases h2 : it.2.1 = 2
    · simp only [if_pos h2]
      constructor
      · intro ⟨t, F', h3, h4, h5⟩
        obtain ⟨F1, F2, h6, h7, h8⟩ := (ih F').mp h5
        exact ⟨t :: F1, F2, by rw [h3, h6]; rfl, ⟨t, F1, rfl, h4, h7⟩, h8⟩
      · intro ⟨F1, F2, h3, ⟨t, F', h4, h5, h6⟩, h7⟩
        exact ⟨t, F' ++ F2, by rw [h3, h4]; rfl, h5, (ih _).mpr ⟨F', F2, rfl, h6, h7⟩⟩
    · simp only [if_neg h2]
      by_cases h3 : it.2.1 = 3
      · simp only [if_pos h3]
        constructor
        · intro ⟨h4, h5⟩
          obtain ⟨F1, F2, h6, h7, h8⟩ := (ih F).mp h5
          exact ⟨F1, F2, h6, ⟨h4, h7⟩, h8⟩
        · intro ⟨F1, F2, h4, ⟨h5, h6⟩, h7⟩
          exact ⟨h5, (ih F).mpr ⟨F1, F2, h4, h6, h7⟩⟩
      · simp only [if_neg h3]
        constructor
        · intro ⟨h4, h5⟩
          obtain ⟨F1, F2, h6, h7, h8⟩ := (ih F).mp h5
          exact ⟨F1, F2, h6, ⟨h4, h7⟩, h8⟩
        · intro ⟨F1, F2, h4, ⟨h5, h6⟩, h7⟩
          exact ⟨h5, (ih F).mpr ⟨F1, F2, h4, h6, h7⟩⟩
/-- the instances that an item speaks of -/
def smIn (it : smI) : List Nat := if it.2.1 ≤ 3 then [it.1] else [it.1, it.2.2.1]
theorem smS_ext {E : smA → smT → Prop} {K : smA → Prop} {v w : smV} : ∀ (P : List smI) (F : List smT), (∀ it ∈ P, ∀ i ∈ smIn it, v i = w i) → smS E K v P F → smS E K w P F
  | [], _, _, h => h
  | it :: P, F, hv, h => by
    have e0 : v it.1 = w it.1 := hv it List.mem_cons_self it.1 (by unfold smIn; split <;> simp)
    have hP : ∀ x ∈ P, ∀ i ∈ smIn x, v i = w i := fun x hx => hv x (List.mem_cons_of_mem _ hx)
    unfold smS at h ⊢
    by_cases h2 : it.2.1 = 2
    · rw [if_pos h2] at h ⊢
      obtain ⟨t, F', h3, h4, h5⟩ := h
      exact ⟨t, F', h3, by rw [← e0]; exact h4, smS_ext P F' hP h5⟩
    · rw [if_neg h2] at h ⊢
      by_cases h3 : it.2.1 = 3
      · rw [if_pos h3] at h ⊢
        exact ⟨by rw [← e0]; exact h.1, smS_ext P F hP h.2⟩
      · rw [if_neg h3] at h ⊢
        refine ⟨?_, smS_ext P F hP h.2⟩
        have h4 := h.1
        unfold smEq at h4 ⊢
        rw [← e0]
        by_cases h5 : it.2.1 = 0
        · rw [if_pos h5] at h4 ⊢; exact h4
        · rw [if_neg h5] at h4 ⊢
          by_cases h6 : it.2.1 = 1
          · rw [if_pos h6] at h4 ⊢; exact h4
          · rw [if_neg h6] at h4 ⊢
            rw [← hv it List.mem_cons_self it.2.2.1 (by unfold smIn; rw [if_neg (by omega)]; simp)]
            exact h4
/-- a body in one instance or in another -/
theorem smS_inst {E : smA → smT → Prop} {K : smA → Prop} {v w : smV} {i j : Nat} (e : v i = w j) : ∀ (b : List smL) (F : List smT), (∀ g ∈ b, g.1 ≤ 3) → smS E K v (b.map (fun g => (i, g))) F → smS E K w (b.map (fun g => (j, g))) F
  | [], _, _, h => h
  | g :: b, F, hb, h => by
    have hg := hb g List.mem_cons_self
    have hP : ∀ x ∈ b, x.1 ≤ 3 := fun x hx => hb x (List.mem_cons_of_mem _ hx)
    simp only [List.map_cons] at h ⊢
    unfold smS at h ⊢
    by_cases h2 : g.1 = 2
    · rw [if_pos h2] at h ⊢
      obtain ⟨t, F', h3, h4, h5⟩ := h
      exact ⟨t, F', h3, by rw [← e]; exact h4, smS_inst e b F' hP h5⟩
    · rw [if_neg h2] at h ⊢
      by_cases h3 : g.1 = 3
      · rw [if_pos h3] at h ⊢
        exact ⟨by rw [← e]; exact h.1, smS_inst e b F hP h.2⟩
      · rw [if_neg h3] at h ⊢
        refine ⟨?_, smS_inst e b F hP h.2⟩
        have h4 := h.1
        unfold smEq at h4 ⊢
        simp only at h4 ⊢
        rw [← e]
        by_cases h5 : g.1 = 0
        · rw [if_pos h5] at h4 ⊢; exact h4
        · rw [if_neg h5] at h4 ⊢
          by_cases h6 : g.1 = 1
          · rw [if_pos h6] at h4 ⊢; exact h4
          · omega
/-! denied atoms by stages: smY: it has a proof; smF: it has none -/
def smYF (pg : smP) : Nat → (smA → Prop) × (smA → Prop)
  | 0 => (fun _ => False, fun _ => False)
  | n + 1 => (fun a => ∃ t, smX pg (smYF pg n).2 a t, fun a => ∀ t, ¬ smX pg (fun a => ¬ (smYF pg n).1 a) a t)
def smY (pg : smP) (n : Nat) (a : smA) : Prop := (smYF pg n).1 a
def smF (pg : smP) (n : Nat) (a : smA) : Prop := (smYF pg n).2 a
theorem smYF_step {pg : smP} : ∀ n, (∀ a, smY pg n a → smY pg (n + 1) a) ∧ (∀ a, smF pg n a → smF pg (n + 1) a)
  | 0 => ⟨fun _ h => h.elim, fun _ h => h.elim⟩
  | n + 1 => by
    obtain ⟨h1, h2⟩ := smYF_step (pg := pg) n
    exact ⟨fun a ⟨t, h⟩ => ⟨t, smX_mono h2 h⟩, fun a h t ht => h t (smX_mono (fun b hb hb2 => hb (h1 b hb2)) ht)⟩
theorem smY_mono {pg : smP} {n m : Nat} (h : n ≤ m) {a : smA} (ha : smY pg n a) : smY pg m a := by
  induction m with
  | zero => rw [show n = 0 by omega] at ha; exact ha
  | succ m ih =>
    by_cases e : n = m + 1
    · rw [← e]; exact ha
    · exact (smYF_step m).1 a (ih (by omega))
theorem smF_mono {pg : smP} {n m : Nat} (h : n ≤ m) {a : smA} (ha : smF pg n a) : smF pg m a := by
  induction m with
  | zero => rw [show n = 0 by omega] at ha; exact ha
  | succ m ih =>
    by_cases e : n = m + 1
    · rw [← e]; exact ha
    · exact (smYF_step m).2 a (ih (by omega))
theorem smYF_no {pg : smP} : ∀ n a, smY pg n a → smF pg n a → False
  | 0, _, h, _ => h
  | n + 1, a, h, h2 => by
    obtain ⟨t, ht⟩ := h
    exact h2 t (smX_mono (fun b hb hb2 => smYF_no n b hb2 hb) ht)
/-! what a search owes: of the items P, under all assignments that Z allows: the forests of all proofs -/
def smOK (pg : smP) (n : Nat) (P : List smI) (Z : smV → Prop) (V : List (List smT)) : Prop :=
  V.Nodup ∧ (∀ F ∈ V, ∃ v, Z v ∧ smS (smX pg (smF pg n)) (smF pg n) v P F) ∧
    ∀ F v, Z v → smS (smX pg (fun a => ¬ smY pg n a)) (fun a => ¬ smY pg n a) v P F → F ∈ V
theorem smOK_mono {pg : smP} {n m : Nat} (h : n ≤ m) {P : List smI} {Z : smV → Prop} {V : List (List smT)} (k : smOK pg n P Z V) : smOK pg m P Z V := by
  refine ⟨k.1, fun F hF => ?_, fun F v hv hs => k.2.2 F v hv (smS_mono (fun a t ht => smX_mono (fun b hb hb2 => hb (smY_mono h hb2)) ht) (fun b hb hb2 => hb (smY_mono h hb2)) _ _ hs)⟩
  obtain ⟨v, h1, h2⟩ := k.2.1 F hF
  exact ⟨v, h1, smS_mono (fun a t ht => smX_mono (fun b => smF_mono h) ht) (fun b => smF_mono h) _ _ h2⟩
theorem sm_sub_len {T : Type} : ∀ (V W : List T), V.Nodup → (∀ x ∈ V, x ∈ W) → V.length ≤ W.length
  | [], _, _, _ => Nat.zero_le _
  | x :: V, W, hn, hs => by
    obtain ⟨W1, W2, rfl⟩ := List.append_of_mem (hs x List.mem_cons_self)
    have hx := (List.nodup_cons.mp hn).1
    have ih := sm_sub_len V (W1 ++ W2) (List.nodup_cons.mp hn).2 (fun y hy => by
      have h1 := hs y (List.mem_cons_of_mem _ hy)
      rcases List.mem_append.mp h1 with h | h
      · exact List.mem_append_left _ h
      · rcases List.mem_cons.mp h with h | h
        · exact absurd hy (by rw [h]; exact hx)
        · exact List.mem_append_right _ h)
    simp only [List.length_append, List.length_cons] at ih ⊢
    omega
/-- two searches of one thing find as many -/
theorem smOK_len {pg : smP} {n m : Nat} {P : List smI} {Z : smV → Prop} {V W : List (List smT)} (k : smOK pg n P Z V) (k2 : smOK pg m P Z W) : V.length = W.length := by
  have k := smOK_mono (Nat.le_max_left n m) k
  have k2 := smOK_mono (Nat.le_max_right n m) k2
  have sub : ∀ {V W : List (List smT)}, smOK pg (max n m) P Z V → smOK pg (max n m) P Z W → ∀ F ∈ V, F ∈ W := fun k k2 F hF => by
    obtain ⟨v, h1, h2⟩ := k.2.1 F hF
    exact k2.2.2 F v h1 (smS_mono (fun a t ht => smX_mono (fun b hb hb2 => smYF_no _ b hb2 hb) ht) (fun b hb hb2 => smYF_no _ b hb2 hb) _ _ h2)
  exact Nat.le_antisymm (sm_sub_len _ _ k.1 (sub k k2)) (sm_sub_len _ _ k2.1 (sub k2 k))
/-! one item of a list is taken -/
theorem smS_eq {E : smA → smT → Prop} {K : smA → Prop} {v : smV} {A B : List smI} {it : smI} {F : List smT} (h2 : it.2.1 ≠ 2) (h3 : it.2.1 ≠ 3) : smS E K v (A ++ it :: B) F ↔ smEq v it ∧ smS E K v (A ++ B) F := by
  rw [smS_app, smS_app]
  constructor
  · intro ⟨F1, F2, h4, h5, h6⟩
    unfold smS at h6
    rw [if_neg h2, if_neg h3] at h6
    exact ⟨h6.1, F1, F2, h4, h5, h6.2⟩
  · intro ⟨h7, F1, F2, h4, h5, h6⟩
    refine ⟨F1, F2, h4, h5, ?_⟩
    unfold smS
    rw [if_neg h2, if_neg h3]
    exact ⟨h7, h6⟩
theorem smS_den {E : smA → smT → Prop} {K : smA → Prop} {v : smV} {A B : List smI} {it : smI} {F : List smT} (h3 : it.2.1 = 3) : smS E K v (A ++ it :: B) F ↔ K (smAt it.2 (v it.1)) ∧ smS E K v (A ++ B) F := by
  have h2 : it.2.1 ≠ 2 := by omega
  rw [smS_app, smS_app]
  constructor
  · intro ⟨F1, F2, h4, h5, h6⟩
    unfold smS at h6
    rw [if_neg h2, if_pos h3] at h6
    exact ⟨h6.1, F1, F2, h4, h5, h6.2⟩
  · intro ⟨h7, F1, F2, h4, h5, h6⟩
    refine ⟨F1, F2, h4, h5, ?_⟩
    unfold smS
    rw [if_neg h2, if_pos h3]
    exact ⟨h7, h6⟩
theorem smS_call {E : smA → smT → Prop} {K : smA → Prop} {v : smV} {A B : List smI} {it : smI} {F : List smT} (h2 : it.2.1 = 2) : smS E K v (A ++ it :: B) F ↔ ∃ FA t FB, F = FA ++ t :: FB ∧ E (smAt it.2 (v it.1)) t ∧ smS E K v A FA ∧ smS E K v B FB := by
  rw [smS_app]
  constructor
  · intro ⟨F1, F2, h4, h5, h6⟩
    unfold smS at h6
    rw [if_pos h2] at h6
    obtain ⟨t, F', h7, h8, h9⟩ := h6
    exact ⟨F1, t, F', by rw [h4, h7], h8, h5, h9⟩
  · intro ⟨FA, t, FB, h4, h5, h6, h7⟩
    refine ⟨FA, t :: FB, h4, h6, ?_⟩
    unfold smS
    rw [if_pos h2]
    exact ⟨t, FB, rfl, h5, h7⟩
theorem smOK_congr {pg : smP} {n : Nat} {P P' : List smI} {Z Z' : smV → Prop} {V : List (List smT)} (hZ : ∀ v, Z v ↔ Z' v) (h : ∀ (E : smA → smT → Prop) (K : smA → Prop) (v : smV) (F : List smT), Z v → (smS E K v P F ↔ smS E K v P' F)) (k : smOK pg n P Z V) : smOK pg n P' Z' V := by
  refine ⟨k.1, fun F hF => ?_, fun F v hv hs => k.2.2 F v ((hZ v).mpr hv) ((h _ _ v F ((hZ v).mpr hv)).mpr hs)⟩
  obtain ⟨v, h1, h2⟩ := k.2.1 F hF
  exact ⟨v, (hZ v).mp h1, (h _ _ v F h1).mp h2⟩
/-- an equation becomes a bound on the assignments -/
theorem smOK_eq {pg : smP} {n : Nat} {A B : List smI} {it : smI} {Z : smV → Prop} {V : List (List smT)} (h2 : it.2.1 ≠ 2) (h3 : it.2.1 ≠ 3) : smOK pg n (A ++ B) (fun v => Z v ∧ smEq v it) V ↔ smOK pg n (A ++ it :: B) Z V := by
  constructor
  · intro k
    refine ⟨k.1, fun F hF => ?_, fun F v hv hs => ?_⟩
    · obtain ⟨v, h1, h4⟩ := k.2.1 F hF
      exact ⟨v, h1.1, (smS_eq h2 h3).mpr ⟨h1.2, h4⟩⟩
    · obtain ⟨h4, h5⟩ := (smS_eq h2 h3).mp hs
      exact k.2.2 F v ⟨hv, h4⟩ h5
  · intro k
    refine ⟨k.1, fun F hF => ?_, fun F v hv hs => ?_⟩
    · obtain ⟨v, h1, h4⟩ := k.2.1 F hF
      obtain ⟨h4, h5⟩ := (smS_eq h2 h3).mp h4
      exact ⟨v, ⟨h1, h4⟩, h5⟩
    · exact k.2.2 F v hv.1 ((smS_eq h2 h3).mpr ⟨hv.2, hs⟩)
theorem smOK_none {pg : smP} {n : Nat} {P : List smI} {Z : smV → Prop} (h : ∀ v F, Z v → ¬ smS (smX pg (fun a => ¬ smY pg n a)) (fun a => ¬ smY pg n a) v P F) : smOK pg n P Z [] :=
  ⟨List.nodup_nil, fun F hF => (nomatch hF), fun F v hv hs => (h v F hv hs).elim⟩
theorem smOK_eqNo {pg : smP} {n : Nat} {A B : List smI} {it : smI} {Z : smV → Prop} (h2 : it.2.1 ≠ 2) (h3 : it.2.1 ≠ 3) (h : ∀ v, Z v → ¬ smEq v it) : smOK pg n (A ++ it :: B) Z [] :=
  smOK_none fun v F hv hs => h v hv ((smS_eq h2 h3).mp hs).1
/-- a denied call that holds -/
theorem smOK_denF {pg : smP} {n : Nat} {A B : List smI} {it : smI} {a : smA} {Z : smV → Prop} {V : List (List smT)} (h3 : it.2.1 = 3) (ha : ∀ v, Z v → smAt it.2 (v it.1) = a) (hF : smF pg n a) (k : smOK pg n (A ++ B) Z V) : smOK pg n (A ++ it :: B) Z V := by
  refine ⟨k.1, fun F hf => ?_, fun F v hv hs => k.2.2 F v hv ((smS_den h3).mp hs).2⟩
  obtain ⟨v, h1, h2⟩ := k.2.1 F hf
  exact ⟨v, h1, (smS_den h3).mpr ⟨by rw [ha v h1]; exact hF, h2⟩⟩
/-- one that does not -/
theorem smOK_denY {pg : smP} {n : Nat} {A B : List smI} {it : smI} {a : smA} {Z : smV → Prop} (h3 : it.2.1 = 3) (ha : ∀ v, Z v → smAt it.2 (v it.1) = a) (hY : smY pg n a) : smOK pg n (A ++ it :: B) Z [] :=
  smOK_none fun v F hv hs => ((smS_den h3).mp hs).1 (by rw [ha v hv]; exact hY)
theorem smOK_nil {pg : smP} {n : Nat} {Z : smV → Prop} (h : ∃ v, Z v) : smOK pg n [] Z [[]] := by
  obtain ⟨v, h⟩ := h
  refine ⟨by simp, fun F hF => ⟨v, h, ?_⟩, fun F w hw hs => ?_⟩
  · rw [List.mem_singleton.mp hF]; exact rfl
  · have hs : F = [] := hs
    rw [hs]; exact List.mem_singleton.mpr rfl
/-- a call: the forests of a clause's list, and those of the list with the call -/
def smJ (a k c : Nat) (F : List smT) : List smT := F.take a ++ smN c ((F.drop a).take k) :: F.drop (a + k)
theorem smJ_app {a k c : Nat} {FA KS FB : List smT} (ha : FA.length = a) (hk : KS.length = k) : smJ a k c (FA ++ (KS ++ FB)) = FA ++ smN c KS :: FB := by
  subst ha; subst hk
  unfold smJ
  rw [List.take_left, List.drop_left, List.take_left, ← List.append_assoc, ← List.length_append, List.drop_left]
theorem sm_app_inj {T : Type} {A A' B B' : List T} (h : A ++ B = A' ++ B') (hl : A.length = A'.length) : A = A' ∧ B = B' := List.append_inj h hl
theorem sm_nodup_map {S T : Type} {f : S → T} {l : List S} (h : ∀ x ∈ l, ∀ y ∈ l, f x = f y → x = y) (hn : l.Nodup) : (l.map f).Nodup := by
  unfold List.Nodup
  rw [List.pairwise_map]
  exact List.Pairwise.imp_of_mem (fun hx hy hxy e => hxy (h _ hx _ hy e)) hn
theorem smOK_call {pg : smP} {n j : Nat} {A B : List smI} {it : smI} {Z : smV → Prop} (h2 : it.2.1 = 2) (hn : (pg.1 it.2.2.1).Nodup) (hb : ∀ c ∈ pg.1 it.2.2.1, ∀ g ∈ pg.2 c, g.1 ≤ 3)
    (hA : ∀ x ∈ A, j ∉ smIn x) (hB : ∀ x ∈ B, j ∉ smIn x) (hi : it.1 ≠ j) (hZ : ∀ v w : smV, (∀ i, i ≠ j → v i = w i) → Z v → Z w) {Vs : Nat → List (List smT)}
    (k : ∀ c ∈ pg.1 it.2.2.1, smOK pg n (A ++ ((pg.2 c).map (fun g => (j, g)) ++ B)) (fun v => Z v ∧ ∀ x, x < it.2.2.2.1 → v j x = v it.1 (smv it.2 x)) (Vs c)) :
    smOK pg n (A ++ it :: B) Z ((pg.1 it.2.2.1).flatMap fun c => (Vs c).map (smJ (smC A) (smC ((pg.2 c).map (fun g => (j, g)))) c)) := by
  have cut : ∀ c ∈ pg.1 it.2.2.1, ∀ F ∈ Vs c, ∃ v FA KS FB, F = FA ++ (KS ++ FB) ∧ FA.length = smC A ∧ KS.length = smC ((pg.2 c).map (fun g => (j, g))) ∧ (Z v ∧ ∀ x, x < it.2.2.2.1 → v j x = v it.1 (smv it.2 x)) ∧ smS (smX pg (smF pg n)) (smF pg n) v A FA ∧ smS (smX pg (smF pg n)) (smF pg n) v ((pg.2 c).map (fun g => (j, g))) KS ∧ smS (smX pg (smF pg n)) (smF pg n) v B FB := by
    intro c hc F hF
    obtain ⟨v, h1, h3⟩ := (k c hc).2.1 F hF
    obtain ⟨FA, F2, h4, h5, h6⟩ := (smS_app _ _ _).mp h3
    obtain ⟨KS, FB, h7, h8, h9⟩ := (smS_app _ _ _).mp h6
    exact ⟨v, FA, KS, FB, by rw [h4, h7], smS_len _ _ h5, smS_len _ _ h8, h1, h5, h8, h9⟩
  refine ⟨?_, fun F hF => ?_, fun F v hv hs => ?_⟩
  · refine List.pairwise_flatMap.mpr ⟨fun c hc => ?_, ?_⟩
    · refine sm_nodup_map (fun F hF F' hF' e => ?_) (k c hc).1
      obtain ⟨v, FA, KS, FB, h3, h4, h5, -⟩ := cut c hc F hF
      obtain ⟨v', FA', KS', FB', h3', h4', h5', -⟩ := cut c hc F' hF'
      rw [h3, h3', smJ_app h4 h5, smJ_app h4' h5'] at e
      obtain ⟨e1, e2⟩ := sm_app_inj e (by rw [h4, h4'])
      have e3 := List.cons.inj e2
      rw [h3, h3', e1, (smN_inj e3.1).2, e3.2]
    · refine List.Pairwise.imp_of_mem (fun {c d} hc hd hcd => ?_) hn
      intro F hF F' hF' e
      obtain ⟨F1, hF1, rfl⟩ := List.mem_map.mp hF
      obtain ⟨F2, hF2, rfl⟩ := List.mem_map.mp hF'
      obtain ⟨v, FA, KS, FB, h3, h4, h5, -⟩ := cut c hc F1 hF1
      obtain ⟨v', FA', KS', FB', h3', h4', h5', -⟩ := cut d hd F2 hF2
      rw [h3, h3', smJ_app h4 h5, smJ_app h4' h5'] at e
      obtain ⟨e1, e2⟩ := sm_app_inj e (by rw [h4, h4'])
      exact hcd (smN_inj (List.cons.inj e2).1).1
  · obtain ⟨c, hc, hF⟩ := List.mem_flatMap.mp hF
    obtain ⟨F1, hF1, rfl⟩ := List.mem_map.mp hF
    obtain ⟨v, FA, KS, FB, h3, h4, h5, ⟨h6, h7⟩, h8, h9, h10⟩ := cut c hc F1 hF1
    refine ⟨v, h6, ?_⟩
    rw [h3, smJ_app h4 h5]
    refine (smS_call h2).mpr ⟨FA, _, FB, rfl, smX_iff.mpr ⟨c, KS, fun _ => v j, rfl, hc, fun x hx => ?_, ?_⟩, h8, h10⟩
    · simp only [smAt, List.length_map, List.length_range] at hx
      simp only [smAt]
      rw [h7 x hx]
      simp [List.getD_eq_getElem?_getD, hx]
    · exact smS_inst (v := v) (w := fun _ => v j) rfl _ _ (hb c hc) h9
  · obtain ⟨FA, t, FB, h3, h4, h5, h6⟩ := (smS_call h2).mp hs
    obtain ⟨c, ks, v1, h7, h8, h9, h10⟩ := smX_iff.mp h4
    have hw : ∀ i, i ≠ j → v i = (fun x => if x = j then v1 0 else v x : smV) i := fun i hij => by simp [hij]
    have hin := (k c h8).2.2 (FA ++ (ks ++ FB)) (fun x => if x = j then v1 0 else v x) ⟨hZ v _ hw hv, fun x hx => ?_⟩ ?_
    · refine List.mem_flatMap.mpr ⟨c, h8, List.mem_map.mpr ⟨_, hin, ?_⟩⟩
      rw [h3, h7]
      refine smJ_app (smS_len _ _ h5) ?_
      rw [smS_len _ _ h10]
      clear h10
      induction pg.2 c with
      | nil => rfl
      | cons g b ih => simp only [List.map_cons, smC, ih]
    · have h11 := h9 x (by simp only [smAt, List.length_map, List.length_range]; exact hx)
      simp only [if_pos]
      rw [if_neg hi, h11]
      simp only [smAt]
      simp [List.getD_eq_getElem?_getD, hx]
    · refine (smS_app _ _ _).mpr ⟨FA, ks ++ FB, rfl, smS_ext A FA (fun x hx i hi2 => hw i (fun e => hA x hx (e ▸ hi2))) h5, (smS_app _ _ _).mpr ⟨ks, FB, rfl, smS_inst (v := v1) (by simp) _ _ (hb c h8) h10, smS_ext B FB (fun x hx i hi2 => hw i (fun e => hB x hx (e ▸ hi2))) h6⟩⟩
