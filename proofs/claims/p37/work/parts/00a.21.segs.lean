/-! Own rows: a search as lists of nodes, with denied calls as levels. A node: items and the assignments that are allowed. What follows goes backwards from a search's end: a state is good for k if what is left of it finds k answers. -/
abbrev smND : Type := List smI × (smV → Prop)
def smPf (pg : smP) (n : Nat) (nd : smND) : Prop := ∃ F v, nd.2 v ∧ smS (smX pg (smF pg n)) (smF pg n) v nd.1 F
def smSum (pg : smP) (n : Nat) : List smND → Nat → Prop
  | [], k => k = 0
  | nd :: ns, k => ∃ V k', smOK pg n nd.1 nd.2 V ∧ smSum pg n ns k' ∧ k = V.length + k'
def smNo (pg : smP) (n : Nat) (ns : List smND) : Prop := ∀ nd ∈ ns, smOK pg n nd.1 nd.2 []
def smYes (pg : smP) (n : Nat) (ns : List smND) : Prop := ∃ nd, nd ∈ ns ∧ smPf pg n nd
/-- the nodes of the innermost level; behind it, for each level: what goes on if its denied call holds, and the nodes of the next level outside -/
def smGood (pg : smP) : List smND → List (smND × List smND) → Nat → Prop
  | top, [], k => ∃ n, smSum pg n top k
  | top, (r, outer) :: st, k => ((∃ n, smYes pg n top) ∧ smGood pg outer st k) ∨ ((∃ n, smNo pg n top) ∧ smGood pg (r :: outer) st k)
theorem smPf_mono {pg : smP} {n m : Nat} (h : n ≤ m) {nd : smND} (k : smPf pg n nd) : smPf pg m nd := by
  obtain ⟨F, v, h1, h2⟩ := k
  exact ⟨F, v, h1, smS_mono (fun a t ht => smX_mono (fun b => smF_mono h) ht) (fun b => smF_mono h) _ _ h2⟩
theorem smSum_mono {pg : smP} {n m : Nat} (h : n ≤ m) : ∀ (ns : List smND) (k : Nat), smSum pg n ns k → smSum pg m ns k
  | [], _, e => e
  | _ :: ns, _, ⟨V, k', h1, h2, h3⟩ => ⟨V, k', smOK_mono h h1, smSum_mono h ns k' h2, h3⟩
theorem smNo_mono {pg : smP} {n m : Nat} (h : n ≤ m) {ns : List smND} (k : smNo pg n ns) : smNo pg m ns := fun nd hn => smOK_mono h (k nd hn)
theorem smYes_mono {pg : smP} {n m : Nat} (h : n ≤ m) {ns : List smND} (k : smYes pg n ns) : smYes pg m ns := by
  obtain ⟨nd, h1, h2⟩ := k
  exact ⟨nd, h1, smPf_mono h h2⟩
theorem smSum_app {pg : smP} {n : Nat} : ∀ (A B : List smND) (k : Nat), smSum pg n (A ++ B) k ↔ ∃ a b, smSum pg n A a ∧ smSum pg n B b ∧ k = a + b
  | [], B, k => by
    constructor
    · intro h
      exact ⟨0, k, rfl, h, by omega⟩
    · intro ⟨a, b, h1, h2, h3⟩
      have h1 : a = 0 := h1
      rw [h3, h1, Nat.zero_add]
      exact h2
  | nd :: A, B, k => by
    constructor
    · intro ⟨V, k', h1, h2, h3⟩
      obtain ⟨a, b, h4, h5, h6⟩ := (smSum_app A B k').mp h2
      exact ⟨V.length + a, b, ⟨V, a, h1, h4, rfl⟩, h5, by omega⟩
    · intro ⟨a, b, ⟨V, k', h1, h2, h3⟩, h4, h5⟩
      exact ⟨V, k' + b, h1, (smSum_app A B _).mpr ⟨k', b, h2, h4, rfl⟩, by omega⟩
theorem smSum_perm {pg : smP} {n : Nat} {A B : List smND} (h : A.Perm B) : ∀ k, smSum pg n A k → smSum pg n B k := by
  induction h with
  | nil => exact fun _ h => h
  | cons x _ ih => exact fun k ⟨V, k', h1, h2, h3⟩ => ⟨V, k', h1, ih k' h2, h3⟩
  | swap x y l => exact fun k ⟨V, k', h1, ⟨W, k2, h2, h3, h4⟩, h5⟩ => ⟨W, V.length + k2, h2, ⟨V, k2, h1, h3, rfl⟩, by omega⟩
  | trans _ _ ih1 ih2 => exact fun k h => ih2 k (ih1 k h)
theorem smSum_no {pg : smP} {n : Nat} : ∀ (ns : List smND), smNo pg n ns → smSum pg n ns 0
  | [], _ => rfl
  | nd :: ns, h => ⟨[], 0, h nd List.mem_cons_self, smSum_no ns fun x hx => h x (List.mem_cons_of_mem _ hx), rfl⟩
theorem smNo_perm {pg : smP} {n : Nat} {A B : List smND} (h : A.Perm B) (k : smNo pg n A) : smNo pg n B := fun nd hn => k nd (h.mem_iff.mpr hn)
theorem smYes_perm {pg : smP} {n : Nat} {A B : List smND} (h : A.Perm B) (k : smYes pg n A) : smYes pg n B := by
  obtain ⟨nd, h1, h2⟩ := k
  exact ⟨nd, h.mem_iff.mp h1, h2⟩
theorem smGood_perm {pg : smP} {A B : List smND} {st : List (smND × List smND)} {k : Nat} (h : A.Perm B) (g : smGood pg A st k) : smGood pg B st k := by
  cases st with
  | nil =>
    obtain ⟨n, g⟩ := g
    exact ⟨n, smSum_perm h k g⟩
  | cons s st =>
    rcases g with ⟨⟨n, g1⟩, g2⟩ | ⟨⟨n, g1⟩, g2⟩
    · exact Or.inl ⟨⟨n, smYes_perm h g1⟩, g2⟩
    · exact Or.inr ⟨⟨n, smNo_perm h g1⟩, g2⟩
/-- a node may be taken as these -/
def smRf (pg : smP) (nd : smND) (ms : List smND) : Prop := ∃ n0, ∀ n, n0 ≤ n → (∀ k, smSum pg n ms k → ∃ V, smOK pg n nd.1 nd.2 V ∧ V.length = k) ∧ (smYes pg n ms → smPf pg n nd)
theorem smGood_rf {pg : smP} {nd : smND} {ms B : List smND} {st : List (smND × List smND)} {k : Nat} (h : smRf pg nd ms) (g : smGood pg (ms ++ B) st k) : smGood pg (nd :: B) st k := by
  obtain ⟨n0, h⟩ := h
  cases st with
  | nil =>
    obtain ⟨n, g⟩ := g
    obtain ⟨a, b, h1, h2, h3⟩ := (smSum_app ms B k).mp (smSum_mono (Nat.le_max_left n n0) _ _ g)
    obtain ⟨V, h4, h5⟩ := (h (max n n0) (Nat.le_max_right _ _)).1 a h1
    exact ⟨max n n0, V, b, h4, h2, by omega⟩
  | cons s st =>
    rcases g with ⟨⟨n, g1⟩, g2⟩ | ⟨⟨n, g1⟩, g2⟩
    · obtain ⟨x, h1, h2⟩ := smYes_mono (Nat.le_max_left n n0) g1
      refine Or.inl ⟨⟨max n n0, ?_⟩, g2⟩
      rcases List.mem_append.mp h1 with h1 | h1
      · exact ⟨nd, List.mem_cons_self, (h (max n n0) (Nat.le_max_right _ _)).2 ⟨x, h1, h2⟩⟩
      · exact ⟨x, List.mem_cons_of_mem _ h1, h2⟩
    · have g1 := smNo_mono (Nat.le_max_left n n0) g1
      refine Or.inr ⟨⟨max n n0, fun x hx => ?_⟩, g2⟩
      rcases List.mem_cons.mp hx with e | hx
      · obtain ⟨V, h4, h5⟩ := (h (max n n0) (Nat.le_max_right _ _)).1 0 (smSum_no ms fun y hy => g1 y (List.mem_append_left _ hy))
        rw [e, ← List.eq_nil_of_length_eq_zero h5]
        exact h4
      · exact g1 x (List.mem_append_right _ hx)
theorem smRf_one {pg : smP} {nd m : smND} {ms : List smND} (h1 : smRf pg nd [m]) (h2 : smRf pg m ms) : smRf pg nd ms := by
  obtain ⟨a, h1⟩ := h1
  obtain ⟨b, h2⟩ := h2
  refine ⟨max a b, fun n hn => ?_⟩
  obtain ⟨q1, q2⟩ := h1 n (Nat.le_trans (Nat.le_max_left _ _) hn)
  obtain ⟨q3, q4⟩ := h2 n (Nat.le_trans (Nat.le_max_right _ _) hn)
  refine ⟨fun k hk => ?_, fun hy => q2 ⟨m, List.mem_singleton.mpr rfl, q4 hy⟩⟩
  obtain ⟨V, h3, h4⟩ := q3 k hk
  exact q1 k ⟨V, 0, h3, rfl, by omega⟩
theorem smRf_refl {pg : smP} (nd : smND) : smRf pg nd [nd] := by
  refine ⟨0, fun n _ => ⟨fun k ⟨V, k', h1, h2, h3⟩ => ⟨V, h1, ?_⟩, fun ⟨x, h1, h2⟩ => by rw [List.mem_singleton.mp h1] at h2; exact h2⟩⟩
  have h2 : k' = 0 := h2
  omega
theorem smRf_congr {pg : smP} {P P' : List smI} {Z Z' : smV → Prop} (hZ : ∀ v, Z v ↔ Z' v) (h : ∀ (E : smA → smT → Prop) (K : smA → Prop) (v : smV) (F : List smT), Z v → (smS E K v P F ↔ smS E K v P' F)) : smRf pg (P, Z) [(P', Z')] := by
  refine ⟨0, fun n _ => ⟨fun k ⟨V, k', h1, h2, h3⟩ => ⟨V, smOK_congr (fun v => (hZ v).symm) (fun E K v F hv => (h E K v F ((hZ v).mpr hv)).symm) h1, ?_⟩, fun ⟨x, h1, h2⟩ => ?_⟩⟩
  · have h2 : k' = 0 := h2
    omega
  · rw [List.mem_singleton.mp h1] at h2
    obtain ⟨F, v, h3, h4⟩ := h2
    exact ⟨F, v, (hZ v).mpr h3, (h _ _ v F ((hZ v).mpr h3)).mpr h4⟩
theorem smRf_eq {pg : smP} {A B : List smI} {it : smI} {Z : smV → Prop} (h2 : it.2.1 ≠ 2) (h3 : it.2.1 ≠ 3) : smRf pg (A ++ it :: B, Z) [(A ++ B, fun v => Z v ∧ smEq v it)] := by
  refine ⟨0, fun n _ => ⟨fun k ⟨V, k', h4, h5, h6⟩ => ⟨V, (smOK_eq h2 h3).mp h4, ?_⟩, fun ⟨x, h4, h5⟩ => ?_⟩⟩
  · have h5 : k' = 0 := h5
    omega
  · rw [List.mem_singleton.mp h4] at h5
    obtain ⟨F, v, h6, h7⟩ := h5
    exact ⟨F, v, h6.1, (smS_eq h2 h3).mpr ⟨h6.2, h7⟩⟩
theorem smRf_no {pg : smP} {A B : List smI} {it : smI} {Z : smV → Prop} (h2 : it.2.1 ≠ 2) (h3 : it.2.1 ≠ 3) (h : ∀ v, Z v → ¬ smEq v it) : smRf pg (A ++ it :: B, Z) [] :=
  ⟨0, fun n _ => ⟨fun k hk => ⟨[], smOK_eqNo h2 h3 h, (show k = 0 from hk).symm⟩, fun ⟨x, h4, _⟩ => absurd h4 List.not_mem_nil⟩⟩
/-- the other order of the items -/
theorem smS_perm {P P' : List smI} (h : P.Perm P') : ∃ φ ψ : List smT → List smT, (∀ (E : smA → smT → Prop) (K : smA → Prop) (v : smV) (F : List smT), smS E K v P' F → smS E K v P (φ F) ∧ ψ (φ F) = F) ∧ (∀ (E : smA → smT → Prop) (K : smA → Prop) (v : smV) (F : List smT), smS E K v P F → smS E K v P' (ψ F) ∧ φ (ψ F) = F) := by
  induction h with
  | nil => exact ⟨id, id, fun E K v F h => ⟨h, rfl⟩, fun E K v F h => ⟨h, rfl⟩⟩
  | cons x _ ih =>
    obtain ⟨φ, ψ, h1, h2⟩ := ih
    by_cases c2 : x.2.1 = 2
    · refine ⟨fun F => F.head?.toList ++ φ F.tail, fun F => F.head?.toList ++ ψ F.tail, fun E K v F h => ?_, fun E K v F h => ?_⟩
      · unfold smS at h ⊢
        rw [if_pos c2] at h ⊢
        obtain ⟨t, F', e, h3, h4⟩ := h
        subst e
        obtain ⟨h5, h6⟩ := h1 E K v F' h4
        exact ⟨⟨t, φ F', rfl, h3, h5⟩, by simp [h6]⟩
      · unfold smS at h ⊢
        rw [if_pos c2] at h ⊢
        obtain ⟨t, F', e, h3, h4⟩ := h
        subst e
        obtain ⟨h5, h6⟩ := h2 E K v F' h4
        exact ⟨⟨t, ψ F', rfl, h3, h5⟩, by simp [h6]⟩
    · refine ⟨φ, ψ, fun E K v F h => ?_, fun E K v F h => ?_⟩
      · unfold smS at h ⊢
        rw [if_neg c2] at h ⊢
        by_cases c3 : x.2.1 = 3
        · rw [if_pos c3] at h ⊢
          obtain ⟨h5, h6⟩ := h1 E K v F h.2
          exact ⟨⟨h.1, h5⟩, h6⟩
        · rw [if_neg c3] at h ⊢
          obtain ⟨h5, h6⟩ := h1 E K v F h.2
          exact ⟨⟨h.1, h5⟩, h6⟩
      · unfold smS at h ⊢
        rw [if_neg c2] at h ⊢
        by_cases c3 : x.2.1 = 3
        · rw [if_pos c3] at h ⊢
          obtain ⟨h5, h6⟩ := h2 E K v F h.2
          exact ⟨⟨h.1, h5⟩, h6⟩
        · rw [if_neg c3] at h ⊢
          obtain ⟨h5, h6⟩ := h2 E K v F h.2
          exact ⟨⟨h.1, h5⟩, h6⟩
  | swap x y l =>
    have sw : ∀ (x y : smI), ∃ φ : List smT → List smT, ∀ (E : smA → smT → Prop) (K : smA → Prop) (v : smV) (F : List smT), smS E K v (x :: y :: l) F → smS E K v (y :: x :: l) (φ F) ∧ ∀ φ' : List smT → List smT, (φ' = if x.2.1 = 2 ∧ y.2.1 = 2 then (fun F => F.tail.head?.toList ++ (F.head?.toList ++ F.tail.tail)) else id) → φ' (φ F) = F ∧ φ' = φ := by
      intro x y
      refine ⟨if x.2.1 = 2 ∧ y.2.1 = 2 then (fun F => F.tail.head?.toList ++ (F.head?.toList ++ F.tail.tail)) else id, fun E K v F h => ?_⟩
      by_cases cx : x.2.1 = 2
      · by_cases cy : y.2.1 = 2
        · rw [if_pos ⟨cx, cy⟩]
          obtain ⟨t, F', e, h3, h4⟩ := (smS_2 cx).mp h
          obtain ⟨t2, F2, e2, h5, h6⟩ := (smS_2 cy).mp h4
          subst e; subst e2
          exact ⟨(smS_2 cy).mpr ⟨t2, t :: F2, rfl, h5, (smS_2 cx).mpr ⟨t, F2, rfl, h3, h6⟩⟩, fun φ' e => by subst e; exact ⟨rfl, rfl⟩⟩
        · rw [if_neg (fun h => cy h.2)]
          refine ⟨?_, fun φ' e => by subst e; exact ⟨rfl, rfl⟩⟩
          obtain ⟨t, F', e, h3, h4⟩ := (smS_2 cx).mp h
          obtain ⟨h5, h6⟩ := (smS_n cy).mp h4
          exact (smS_n cy).mpr ⟨h5, (smS_2 cx).mpr ⟨t, F', e, h3, h6⟩⟩
      · rw [if_neg (fun h => cx h.1)]
        refine ⟨?_, fun φ' e => by subst e; exact ⟨rfl, rfl⟩⟩
        obtain ⟨h5, h6⟩ := (smS_n cx).mp h
        by_cases cy : y.2.1 = 2
        · obtain ⟨t, F', e, h3, h4⟩ := (smS_2 cy).mp h6
          exact (smS_2 cy).mpr ⟨t, F', e, h3, (smS_n cx).mpr ⟨h5, h4⟩⟩
        · obtain ⟨h7, h8⟩ := (smS_n cy).mp h6
          exact (smS_n cy).mpr ⟨h7, (smS_n cx).mpr ⟨h5, h8⟩⟩
    obtain ⟨φ, h1⟩ := sw x y
    obtain ⟨ψ, h2⟩ := sw y x
    refine ⟨φ, ψ, fun E K v F h => ?_, fun E K v F h => ?_⟩
    · obtain ⟨q1, q2⟩ := h1 E K v F h
      obtain ⟨q3, q4⟩ := h2 E K v (φ F) q1
      obtain ⟨q5, q6⟩ := q2 _ rfl
      obtain ⟨q7, q8⟩ := q4 _ rfl
      refine ⟨q1, ?_⟩
      rw [← q8]
      rw [show (if y.2.1 = 2 ∧ x.2.1 = 2 then (fun F => F.tail.head?.toList ++ (F.head?.toList ++ F.tail.tail)) else id : List smT → List smT) = if x.2.1 = 2 ∧ y.2.1 = 2 then (fun F => F.tail.head?.toList ++ (F.head?.toList ++ F.tail.tail)) else id from by simp only [And.comm]]
      exact q5
    · obtain ⟨q1, q2⟩ := h2 E K v F h
      obtain ⟨q3, q4⟩ := h1 E K v (ψ F) q1
      obtain ⟨q5, q6⟩ := q2 _ rfl
      obtain ⟨q7, q8⟩ := q4 _ rfl
      refine ⟨q1, ?_⟩
      rw [← q8]
      rw [show (if x.2.1 = 2 ∧ y.2.1 = 2 then (fun F => F.tail.head?.toList ++ (F.head?.toList ++ F.tail.tail)) else id : List smT → List smT) = if y.2.1 = 2 ∧ x.2.1 = 2 then (fun F => F.tail.head?.toList ++ (F.head?.toList ++ F.tail.tail)) else id from by simp only [And.comm]]
      exact q5
  | trans _ _ ih1 ih2 =>
    obtain ⟨φ, ψ, h1, h2⟩ := ih1
    obtain ⟨φ2, ψ2, h3, h4⟩ := ih2
    refine ⟨fun F => φ (φ2 F), fun F => ψ2 (ψ F), fun E K v F h => ?_, fun E K v F h => ?_⟩
    · obtain ⟨q1, q2⟩ := h3 E K v F h
      obtain ⟨q3, q4⟩ := h1 E K v _ q1
      exact ⟨q3, by show ψ2 (ψ (φ (φ2 F))) = F; rw [q4, q2]⟩
    · obtain ⟨q1, q2⟩ := h2 E K v F h
      obtain ⟨q3, q4⟩ := h4 E K v _ q1
      exact ⟨q3, by show φ (φ2 (ψ2 (ψ F))) = F; rw [q4, q2]⟩
theorem smRf_perm {pg : smP} {P P' : List smI} {Z : smV → Prop} (h : P.Perm P') : smRf pg (P, Z) [(P', Z)] := by
  obtain ⟨φ, ψ, h1, h2⟩ := smS_perm h
  refine ⟨0, fun n _ => ⟨fun k ⟨V, k', h3, h4, h5⟩ => ⟨V.map φ, ⟨?_, fun F hF => ?_, fun F v hv hs => ?_⟩, ?_⟩, fun ⟨x, h3, h4⟩ => ?_⟩⟩
  · refine sm_nodup_map (fun F hF F' hF' e => ?_) h3.1
    obtain ⟨v, -, q⟩ := h3.2.1 F hF
    obtain ⟨v', -, q'⟩ := h3.2.1 F' hF'
    rw [← (h1 _ _ v F q).2, e, (h1 _ _ v' F' q').2]
  · obtain ⟨F', hF', rfl⟩ := List.mem_map.mp hF
    obtain ⟨v, q0, q⟩ := h3.2.1 F' hF'
    exact ⟨v, q0, (h1 _ _ v F' q).1⟩
  · obtain ⟨q1, q2⟩ := h2 _ _ v F hs
    exact List.mem_map.mpr ⟨ψ F, h3.2.2 _ v hv q1, q2⟩
  · have h4 : k' = 0 := h4
    rw [List.length_map]
    omega
  · rw [List.mem_singleton.mp h3] at h4
    obtain ⟨F, v, q0, q⟩ := h4
    exact ⟨φ F, v, q0, (h1 _ _ v F q).1⟩
/-- a call by its clauses -/
theorem smS_into {pg : smP} {K : smA → Prop} {j c : Nat} {A B : List smI} {it : smI} {v : smV} {F : List smT} (h2 : it.2.1 = 2) (hc : c ∈ pg.1 it.2.2.1) (hb : ∀ g ∈ pg.2 c, g.1 ≤ 3) (ha : ∀ x, x < it.2.2.2.1 → v j x = v it.1 (smv it.2 x)) (h : smS (smX pg K) K v (A ++ ((pg.2 c).map (fun g => (j, g)) ++ B)) F) : ∃ F', smS (smX pg K) K v (A ++ it :: B) F' := by
  obtain ⟨FA, F2, h4, h5, h6⟩ := (smS_app _ _ _).mp h
  obtain ⟨KS, FB, h7, h8, h9⟩ := (smS_app _ _ _).mp h6
  refine ⟨FA ++ smN c KS :: FB, (smS_call h2).mpr ⟨FA, _, FB, rfl, smX_iff.mpr ⟨c, KS, fun _ => v j, rfl, hc, fun x hx => ?_, ?_⟩, h5, h9⟩⟩
  · simp only [smAt, List.length_map, List.length_range] at hx
    simp only [smAt]
    rw [ha x hx]
    simp [List.getD_eq_getElem?_getD, hx]
  · exact smS_inst (v := v) (w := fun _ => v j) rfl _ _ hb h8
theorem smSum_choose {pg : smP} {n : Nat} (f : Nat → smND) : ∀ (l : List Nat), l.Nodup → ∀ k, smSum pg n (l.map f) k → ∃ Vs : Nat → List (List smT), (∀ c ∈ l, smOK pg n (f c).1 (f c).2 (Vs c)) ∧ k = (l.map fun c => (Vs c).length).sum
  | [], _, k, h => ⟨fun _ => [], fun _ h => absurd h List.not_mem_nil, h⟩
  | c :: l, hn, k, ⟨V, k', h1, h2, h3⟩ => by
    obtain ⟨h4, h5⟩ := List.nodup_cons.mp hn
    obtain ⟨Vs, h6, h7⟩ := smSum_choose f l h5 k' h2
    refine ⟨fun x => if x = c then V else Vs x, fun x hx => ?_, ?_⟩
    · by_cases e : x = c
      · simp only [if_pos e]; rw [e]; exact h1
      · simp only [if_neg e]
        exact h6 x ((List.mem_cons.mp hx).resolve_left e)
    · have e1 : l.map (fun x => (if x = c then V else Vs x).length) = l.map (fun x => (Vs x).length) := List.map_congr_left (fun x hx => by rw [if_neg (show x ≠ c from fun e => h4 (by rw [← e]; exact hx))])
      rw [h3, h7, List.map_cons, List.sum_cons]
      show V.length + _ = (if c = c then V else Vs c).length + (l.map (fun x => (if x = c then V else Vs x).length)).sum
      rw [if_pos rfl, e1]
def smKid (pg : smP) (A B : List smI) (it : smI) (Z : smV → Prop) (j c : Nat) : smND := (A ++ ((pg.2 c).map (fun g => (j, g)) ++ B), fun v => Z v ∧ ∀ x, x < it.2.2.2.1 → v j x = v it.1 (smv it.2 x))
theorem smRf_call {pg : smP} {j : Nat} {A B : List smI} {it : smI} {Z : smV → Prop} (h2 : it.2.1 = 2) (hn : (pg.1 it.2.2.1).Nodup) (hb : ∀ c ∈ pg.1 it.2.2.1, ∀ g ∈ pg.2 c, g.1 ≤ 3)
    (hA : ∀ x ∈ A, j ∉ smIn x) (hB : ∀ x ∈ B, j ∉ smIn x) (hi : it.1 ≠ j) (hZ : ∀ v w : smV, (∀ i, i ≠ j → v i = w i) → Z v → Z w) : smRf pg (A ++ it :: B, Z) ((pg.1 it.2.2.1).map (smKid pg A B it Z j)) := by
  refine ⟨0, fun n _ => ⟨fun k hk => ?_, fun ⟨x, h3, F, v, h4, h5⟩ => ?_⟩⟩
  · obtain ⟨Vs, h3, h4⟩ := smSum_choose _ _ hn k hk
    refine ⟨_, smOK_call h2 hn hb hA hB hi hZ (Vs := Vs) (fun c hc => h3 c hc), ?_⟩
    rw [List.length_flatMap, h4]
    congr 1
    apply List.map_congr_left
    intro c _
    rw [List.length_map]
  · obtain ⟨c, hc, rfl⟩ := List.mem_map.mp h3
    obtain ⟨F', h6⟩ := smS_into h2 hc (hb c hc) h4.2 h5
    exact ⟨F', v, h4.1, h6⟩
/-- a denied call: a level of its own -/
theorem smGood_den {pg : smP} {A B : List smI} {it q : smI} {a : smA} {Z Zq : smV → Prop} {Bn : List smND} {st : List (smND × List smND)} {k : Nat} (h3 : it.2.1 = 3) (ha : ∀ v, Z v → smAt it.2 (v it.1) = a) (hq : q.2.1 = 2) (hqa : ∀ v, Zq v → smAt q.2 (v q.1) = a) (hzq : ∃ v, Zq v)
    (g : smGood pg [([q], Zq)] (((A ++ B, Z), Bn) :: st) k) : smGood pg ((A ++ it :: B, Z) :: Bn) st k := by
  rcases g with ⟨⟨n, x, hx, F, v, g1, g2⟩, g3⟩ | ⟨⟨n, g1⟩, g2⟩
  · rw [List.mem_singleton.mp hx] at g1 g2
    unfold smS at g2
    rw [if_pos hq] at g2
    obtain ⟨t, F', e, g4, g5⟩ := g2
    rw [hqa v g1] at g4
    have hY : smY pg (n + 1) a := ⟨t, g4⟩
    refine smGood_rf (ms := []) ⟨n + 1, fun m hm => ⟨fun k hk => ⟨[], smOK_denY h3 ha (smY_mono hm hY), (show k = 0 from hk).symm⟩, fun ⟨x, h4, _⟩ => absurd h4 List.not_mem_nil⟩⟩ g3
  · have hno : ∀ t, ¬ smX pg (fun b => ¬ smY pg n b) a t := fun t ht => by
      obtain ⟨v, hv⟩ := hzq
      refine absurd ((g1 _ (List.mem_singleton.mpr rfl)).2.2 [t] v hv ?_) List.not_mem_nil
      show smS _ _ v [q] [t]
      unfold smS
      rw [if_pos hq]
      exact ⟨t, [], rfl, by rw [hqa v hv]; exact ht, rfl⟩
    have hF : smF pg (n + 1) a := hno
    refine smGood_rf (ms := [(A ++ B, Z)]) ⟨n + 1, fun m hm => ⟨fun k ⟨V, k', h4, h5, h6⟩ => ⟨V, smOK_denF h3 ha (smF_mono hm hF) h4, ?_⟩, fun ⟨x, h4, F, v, h5, h6⟩ => ?_⟩⟩ g2
    · have h5 : k' = 0 := h5
      omega
    · rw [List.mem_singleton.mp h4] at h5 h6
      exact ⟨F, v, h5, (smS_den h3).mpr ⟨by rw [ha v h5]; exact smF_mono hm hF, h6⟩⟩
/-- an answer -/
theorem smGood_ans {pg : smP} {Z : smV → Prop} {B : List smND} {k : Nat} (hz : ∃ v, Z v) (g : smGood pg B [] k) : smGood pg (([], Z) :: B) [] (k + 1) := by
  obtain ⟨n, g⟩ := g
  exact ⟨n, [[]], k, smOK_nil hz, g, by simp [Nat.add_comm]⟩
/-- an answer of a denied call -/
theorem smGood_yes {pg : smP} {Z : smV → Prop} {B outer : List smND} {r : smND} {st : List (smND × List smND)} {k : Nat} (hz : ∃ v, Z v) (g : smGood pg outer st k) : smGood pg (([], Z) :: B) ((r, outer) :: st) k := by
  obtain ⟨v, hz⟩ := hz
  exact Or.inl ⟨⟨0, ([], Z), List.mem_cons_self, [], v, hz, rfl⟩, g⟩
theorem smGood_end {pg : smP} : smGood pg [] [] 0 := ⟨0, rfl⟩
/-- a denied call without an answer -/
theorem smGood_held {pg : smP} {outer : List smND} {r : smND} {st : List (smND × List smND)} {k : Nat} (g : smGood pg (r :: outer) st k) : smGood pg [] ((r, outer) :: st) k :=
  Or.inr ⟨⟨0, fun nd h => absurd h List.not_mem_nil⟩, g⟩
/-- two searches of one node find as many -/
theorem smGood_eq {pg : smP} {nd : smND} {k k' : Nat} (g : smGood pg [nd] [] k) (h : smGood pg [nd] [] k') : k = k' := by
  obtain ⟨n, V, a, g1, g2, g3⟩ := g
  obtain ⟨m, W, b, h1, h2, h3⟩ := h
  have g2 : a = 0 := g2
  have h2 : b = 0 := h2
  have := smOK_len g1 h1
  omega
