/-! Own rows: what cannot fail answers: what stands by. By hand; nothing of the bytecode. -/
section CNF
variable {C : mmC} {Gd : Nat × Nat → Prop}
/-- values are built of the constructors -/
def vlG (g : smG) : Prop := g.2 = 0 ∨ g.2 = 2
def vlI (V : mmV) : Prop := ∀ i x g, V i x = some g → vlG g
/-- goals from a place on cannot fail -/
def sfR (C : mmC) (pm : Nat × Nat) (c pl : Nat) : Prop := ∀ n e, pl ≤ n → (C.2.1.2 pm.2 c)[n]? = some e → mmNf C (mmKn C pm ((C.2.1.2 pm.2 c).take n)) e
/-- a frame whose callers cannot fail behind it -/
def sfF (C : mmC) (fr : List mmF) (cls : Nat → Option Nat) (j : Nat) : Prop := ∃ L : List Nat, j ∈ L ∧ ∀ x, x ∈ L → x ≤ j ∧ x < fr.length ∧ (mmf fr x).2.2.1 = false ∧ ∀ i, (mmf fr x).2.1.1 = some i → i < x ∧ i ∈ L ∧ ∃ c, cls i = some c ∧ sfR C (mmf fr i).1 c (mmf fr x).2.1.2.1
/-- a chosen clause that cannot fail behind its first goal -/
def sfW (C : mmC) (pm : Nat × Nat) (V : Nat → Option smG) (c pl : Nat) : Prop := pl = 0 ∧ ∃ e os v, C.2.1.2 pm.2 c = e :: os ∧ e.1.1 = 0 ∧ V (smv e.1 0) = some v ∧ v = smB e.1.2.1 (v.1 - 1, v.2) ∧ (e.1.2.1 = 1 → ¬ mmKn C pm [] (smv e.1 1)) ∧ sfR C pm c 1
def sfA (C : mmC) (S : mmS) : Prop := S.2.1.2.2.2 = false ∧ ∃ i c, S.2.1.1 = some i ∧ S.1.2.1 i = some c ∧ sfF C S.1.1 S.1.2.1 i ∧ (sfR C (mmf S.1.1 i).1 c S.2.1.2.1 ∨ sfW C (mmf S.1.1 i).1 (S.1.2.2.1 i) c S.2.1.2.1)
def sfE (C : mmC) (fr : List mmF) (cls : Nat → Option Nat) (e : Nat × Nat × Nat) : Prop := sfF C fr cls e.1 ∧ ∃ k c, e.2.1 ≤ k ∧ (C.1.1.1 (mmf fr e.1).1.1)[k]? = some c ∧ sfR C (mmf fr e.1).1 c 0
def sfH (C : mmC) (fr : List mmF) (cls : Nat → Option Nat) (ch : mmH) : Prop := ∃ e, e ∈ ch ∧ sfE C fr cls e
def sfS (C : mmC) (S : mmS) : Prop := 1 ≤ mmNa S ∨ sfA C S ∨ sfH C S.1.1 S.1.2.1 S.1.2.2.2.1
def sfX (C : mmC) : mmS ⊕ (Nat × mmS) → Prop
  | .inl S => sfS C S
  | .inr r => r.1 ≠ 0
theorem sfF_up {fr : List mmF} {cls : Nat → Option Nat} {j f k : Nat} (h : sfF C fr cls j) (hj : j ≤ f) : sfF C fr (mmUp cls f k) j := by
  obtain ⟨L, h1, h2⟩ := h
  refine ⟨L, h1, fun x hx => ?_⟩
  obtain ⟨a, b, c, d⟩ := h2 x hx
  refine ⟨a, b, c, fun i hi => ?_⟩
  obtain ⟨e, f', cc, g1, g2⟩ := d i hi
  refine ⟨e, f', cc, ?_, g2⟩
  unfold mmUp
  rw [if_neg (by omega)]
  exact g1
theorem sfF_app {fr : List mmF} {cls : Nat → Option Nat} {f : mmF} {j : Nat} (h : sfF C fr cls j) : sfF C (fr ++ [f]) cls j := by
  obtain ⟨L, h1, h2⟩ := h
  refine ⟨L, h1, fun x hx => ?_⟩
  obtain ⟨a, b, c, d⟩ := h2 x hx
  rw [mmf_lt b]
  refine ⟨a, by rw [List.length_append]; exact Nat.lt_add_right _ b, c, fun i hi => ?_⟩
  obtain ⟨e, f', cc, g1, g2⟩ := d i hi
  have hi' : i < fr.length := Nat.lt_trans e b
  rw [mmf_lt hi']
  exact ⟨e, f', cc, g1, g2⟩
theorem sfF_lt {fr : List mmF} {cls : Nat → Option Nat} {j : Nat} (h : sfF C fr cls j) : j < fr.length := by
  obtain ⟨L, a, b⟩ := h
  exact (b _ a).2.1
theorem sfF_call {fr : List mmF} {cls : Nat → Option Nat} {j i : Nat} (h : sfF C fr cls j) (hc : (mmf fr j).2.1.1 = some i) : i < j ∧ sfF C fr cls i ∧ ∃ c, cls i = some c ∧ sfR C (mmf fr i).1 c (mmf fr j).2.1.2.1 := by
  obtain ⟨L, h1, h2⟩ := h
  obtain ⟨-, -, -, d⟩ := h2 j h1
  obtain ⟨e, f, g⟩ := d i hc
  refine ⟨e, ⟨L.filter (fun x => decide (x ≤ i)), List.mem_filter.mpr ⟨f, decide_eq_true (Nat.le_refl i)⟩, fun x hx => ?_⟩, g⟩
  obtain ⟨m1, m2⟩ := List.mem_filter.mp hx
  have m3 : x ≤ i := of_decide_eq_true m2
  obtain ⟨-, b, cc, dd⟩ := h2 x m1
  refine ⟨m3, b, cc, fun y hy => ?_⟩
  obtain ⟨p1, p2, p3⟩ := dd y hy
  have m4 : y ≤ i := by omega
  exact ⟨p1, List.mem_filter.mpr ⟨p2, decide_eq_true m4⟩, p3⟩
theorem sfF_nd {fr : List mmF} {cls : Nat → Option Nat} {j : Nat} (h : sfF C fr cls j) : (mmf fr j).2.2.1 = false := by
  obtain ⟨L, a, b⟩ := h
  exact (b _ a).2.2.1
theorem sfF_anc {fr : List mmF} {G : mmGh} {cls : Nat → Option Nat} : ∀ (n j : Nat), j < n → mmCn C Gd fr G j → sfF C fr cls j → ∀ x, x ∈ G.2.1 j → (mmf fr x).2.2.1 = false := by
  intro n
  induction n with
  | zero => intro j hj; exact absurd hj (Nat.not_lt_zero j)
  | succ n ih =>
    intro j hj hc hs x hx
    cases hp : (mmf fr j).2.1.1 with
    | none =>
      obtain ⟨-, -, ⟨-, -, a, b, -⟩ | ⟨i, a, -⟩⟩ := hc.2 j hc.1
      · rw [a] at hx
        rw [List.mem_singleton.mp hx]
        exact b
      · rw [hp] at a; cases a
    | some i =>
      obtain ⟨k1, k2, k3⟩ := mmCn_caller hc hp
      obtain ⟨s1, s3, -⟩ := sfF_call hs hp
      rw [k3] at hx
      rcases List.mem_cons.mp hx with e | e
      · rw [e]; exact sfF_nd hs
      · exact ih i (by omega) k1 s3 x e
theorem sfF_new {fr : List mmF} {cls : Nat → Option Nat} {F : mmF} {i c pl : Nat} (h : sfF C fr cls i) (hc : cls i = some c) (hr : sfR C (mmf fr i).1 c pl) (hf : F.2.1.1 = some i ∧ F.2.1.2.1 = pl ∧ F.2.2.1 = false) : sfF C (fr ++ [F]) cls fr.length := by
  have hi := sfF_lt h
  obtain ⟨L, a, b⟩ := sfF_app (f := F) h
  refine ⟨fr.length :: L, List.mem_cons_self, fun x hx => ?_⟩
  rcases List.mem_cons.mp hx with e | e
  · rw [e, mmf_new]
    refine ⟨Nat.le_refl _, by rw [List.length_append]; exact Nat.lt_succ_self _, hf.2.2, fun y hy => ?_⟩
    rw [hf.1] at hy
    cases hy
    rw [mmf_lt hi, hf.2.1]
    exact ⟨hi, List.mem_cons_of_mem _ a, c, hc, hr⟩
  · obtain ⟨b1, b2, b3, b4⟩ := b x e
    refine ⟨by omega, b2, b3, fun y hy => ?_⟩
    obtain ⟨p1, p2, p3⟩ := b4 y hy
    exact ⟨p1, List.mem_cons_of_mem _ p2, p3⟩
theorem sfE_up {fr : List mmF} {cls : Nat → Option Nat} {e : Nat × Nat × Nat} {f k : Nat} (h : sfE C fr cls e) (hj : e.1 ≤ f) : sfE C fr (mmUp cls f k) e := ⟨sfF_up h.1 hj, h.2⟩
theorem sfE_app {fr : List mmF} {cls : Nat → Option Nat} {e : Nat × Nat × Nat} {f : mmF} (h : sfE C fr cls e) : sfE C (fr ++ [f]) cls e := by
  obtain ⟨h1, h2⟩ := h
  refine ⟨sfF_app h1, ?_⟩
  rw [mmf_lt (sfF_lt h1)]
  exact h2
/-! values -/
theorem vl_ag {V : mmV} {T : mmT} {i x : Nat} {o : Option smG} (h : vlI V) (ho : ∀ g, o = some g → vlG g) : vlI (mmAg V T i x o).2.1 := by
  unfold mmAg
  split
  · intro a b g hg
    simp only at hg
    split at hg
    · exact ho g hg
    · exact h a b g hg
  · exact h
theorem vl_hb {inp : Nat → Bool} {j i : Nat} {g : smL} : ∀ (ks : List Nat) (V : mmV) (T : mmT), vlI V → vlI (mmHb inp j i g ks V T).2.1 := by
  intro ks
  induction ks with
  | nil => intro V T h; exact h
  | cons k ks ih =>
    intro V T h
    unfold mmHb
    split
    · exact ih V T h
    · split
      · exact ih _ _ (vl_ag h (fun x hx => h j k x hx))
      · exact vl_ag h (fun x hx => h j k x hx)
theorem vl_un {V : mmV} {T : mmT} {t : Nat} (h : vlI V) : vlI (mmUn V T t) := by
  intro i x g hg
  unfold mmUn at hg
  split at hg
  · cases hg
  · exact h i x g hg
theorem vl_new {V : mmV} {j : Nat} {o : Nat → Option smG} (h : vlI V) (ho : ∀ k g, o k = some g → vlG g) : vlI (mmNew V j o) := by
  intro i x g hg
  unfold mmNew at hg
  split at hg
  · exact ho x g hg
  · exact h i x g hg
theorem vl_args {inp : Nat → Bool} {V : mmV} {i : Nat} {g : smL} (h : vlI V) : ∀ k x, mmArgs inp V i g k = some x → vlG x := by
  intro k x hx
  unfold mmArgs at hx
  split at hx
  · exact h _ _ _ hx
  · cases hx
theorem vl_B {c : Nat} {y : smG} (hc : c < 3) (hy : vlG y) : vlG (smB c y) := by
  unfold smB
  split
  · exact hy
  · show c = 0 ∨ c = 2
    omega
theorem vl_eq {V : mmV} {T : mmT} {tm : List smG} {i : Nat} {g : smL} {r : Bool × mmV × mmT × List smG} (h : vlI V) (hg : g.1 = 1 ∨ g.2.1 < 3) (hr : mmEq V T tm i g = some r) : vlI r.2.1 := by
  have hp : vlG ((V i (smv g 1)).getD (0, 0)) := by
    cases hv : V i (smv g 1) with
    | none => exact Or.inl rfl
    | some x => exact h _ _ _ hv
  unfold mmEq at hr
  split at hr
  · split at hr
    · cases hr
      exact vl_ag h (fun x hx => h _ _ _ hx)
    · cases hr
      exact vl_ag h (fun x hx => h _ _ _ hx)
  · rename_i hk
    have hb : vlG (smB g.2.1 ((V i (smv g 1)).getD (0, 0))) := vl_B (hg.resolve_left hk) hp
    split at hr
    · split at hr
      · cases hr
        exact vl_ag h (fun x hx => by cases hx; exact hb)
      · split at hr
        · cases hr
          exact vl_ag h (fun x hx => by cases hx; exact hb)
        · cases hr
    · rename_i y hy
      split at hr
      · split at hr
        · cases hr
          exact vl_ag h (fun x hx => by cases hx; exact (h _ _ _ hy : y.2 = 0 ∨ y.2 = 2))
        · cases hr
          exact h
      · cases hr
        exact h
theorem enter_V {j : Nat} {fr : List mmF} {cls : Nat → Option Nat} {V : mmV} {ch : mmH} {T : mmT} {cf : Option Nat × Nat × Option Nat × Bool} {tm : List smG} {nn : Nat × Nat × Nat × Nat} {nt : List (Nat × Nat)} : (mmEnter C j ((fr, cls, V, ch, T), cf, tm, nn, nt)).1.2.2.1 = V := by
  obtain ⟨cur, pl, den, fl⟩ := cf
  obtain ⟨na, ns, nc, dp⟩ := nn
  cases hf : mmFirst C V (mmf fr j).1 j with
  | none => rw [mmEnter_0 hf]
  | some c =>
    by_cases hs : C.2.2.1 (mmf fr j).1.1 (mmf fr j).1.2 = none ∧ 1 < (C.1.1.1 (mmf fr j).1.1).length
    · rw [mmEnter_1 hf hs]
    · rw [mmEnter_2 hf hs]
theorem smB_hd {v : smG} (h : vlG v) : v = smB (smHd v) (v.1 - 1, v.2) := by
  obtain ⟨a, b⟩ := v
  have h : b = 0 ∨ b = 2 := h
  unfold smB smHd
  by_cases c : a = 0
  · subst c
    simp only [if_true]
    rw [if_neg (by omega)]
  · simp only [if_neg c, if_true]
    have : a - 1 + 1 = a := by omega
    rw [this]
/-! turns that hold -/
theorem hb_true {inp : Nat → Bool} {j i : Nat} {g : smL} : ∀ (ks : List Nat) (V : mmV) (T : mmT), (∀ k, k ∈ ks → inp k = false → V i (smv g k) = none) → ks.Pairwise (fun k k' => inp k = false → inp k' = false → smv g k ≠ smv g k') → (mmHb inp j i g ks V T).1 = true := by
  intro ks
  induction ks with
  | nil => intro V T _ _; rfl
  | cons k ks ih =>
    intro V T h1 h2
    obtain ⟨h3, h4⟩ := List.pairwise_cons.mp h2
    unfold mmHb
    by_cases c : inp k = true
    · rw [if_pos c]
      exact ih V T (fun x hx => h1 x (List.mem_cons_of_mem _ hx)) h4
    · have c' : inp k = false := Bool.eq_false_iff.mpr c
      have e := h1 k List.mem_cons_self c'
      rw [if_neg c, if_pos (mmAg_true e)]
      refine ih _ _ (fun x hx hi => ?_) h4
      have e2 := h1 x (List.mem_cons_of_mem _ hx) hi
      have e3 := h3 x hx c' hi
      unfold mmAg
      rw [if_pos e]
      show (if i = i ∧ smv g x = smv g k then V j k else V i (smv g x)) = none
      rw [if_neg (fun q => e3 q.2.symm)]
      exact e2
theorem hb_free {inp : Nat → Bool} {j i : Nat} {g : smL} {V : mmV} {T : mmT} {K : Nat → Prop} (h : mmFree inp K g) (hv : ∀ x, V i x ≠ none ↔ K x) : (mmHb inp j i g (List.range g.2.2.1) V T).1 = true := by
  refine hb_true _ V T (fun k hk hi => ?_) ?_
  · have := (h k (List.mem_range.mp hk) hi).1
    cases q : V i (smv g k) with
    | none => rfl
    | some y => exact absurd ((hv _).mp (by rw [q]; exact fun z => nomatch z)) this
  · refine List.Pairwise.imp_of_mem ?_ List.pairwise_lt_range
    intro a b ha hb hab h1 h2
    exact (h b (List.mem_range.mp hb) h2).2 a hab h1
theorem eq_nf {V : mmV} {T : mmT} {tm : List smG} {i : Nat} {e : mmO} {r : Bool × mmV × mmT × List smG} {K : Nat → Prop} (hv : ∀ x, V i x ≠ none ↔ K x) (hk : e.1.1 ≠ 2) (h : mmNf C K e) (hr : mmEq V T tm i e.1 = some r) : r.1 = true := by
  have hno : ∀ x, ¬ K x → V i x = none := fun x hx => by
    cases q : V i x with
    | none => rfl
    | some y => exact absurd ((hv _).mp (by rw [q]; exact fun z => nomatch z)) hx
  rcases h with ⟨h1, h2⟩ | ⟨h1, h2⟩ | ⟨h1, -⟩
  · have e0 := hno _ h2
    unfold mmEq at hr
    rw [if_neg (by rw [h1]; decide), e0] at hr
    simp only at hr
    split at hr
    · cases hr; rfl
    · split at hr
      · cases hr; rfl
      · cases hr
  · unfold mmEq at hr
    rw [if_pos h1] at hr
    split at hr
    · rename_i q
      cases hr
      exact mmAg_true (hno _ (fun z => h2 ⟨(hv _).mp q, z⟩))
    · rename_i q
      cases hr
      refine mmAg_true ?_
      cases w : V i (smv e.1 0) with
      | none => rfl
      | some y => exact absurd (by rw [w]; exact fun z => nomatch z) q
  · exact absurd h1 hk
theorem eq_w {V : mmV} {T : mmT} {tm : List smG} {i : Nat} {g : smL} {r : Bool × mmV × mmT × List smG} {v : smG} (h0 : g.1 = 0) (h1 : V i (smv g 0) = some v) (h2 : v = smB g.2.1 (v.1 - 1, v.2)) (h3 : g.2.1 = 1 → V i (smv g 1) = none) (hr : mmEq V T tm i g = some r) : r.1 = true := by
  unfold mmEq at hr
  rw [if_neg (by rw [h0]; decide), h1] at hr
  simp only at hr
  rw [if_pos h2] at hr
  split at hr
  · rename_i q
    cases hr
    exact mmAg_true (h3 q)
  · cases hr; rfl
end CNF
