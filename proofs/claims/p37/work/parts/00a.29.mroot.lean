/-! Own rows: a question's node, and the machine's start. -/
section MR
variable {C : mmC} {Gd : Nat × Nat → Prop}
def smQ (p ar : Nat) : smL := (2, p, ar, 0, 1, 2)
def smQz (a : Nat) (o : Nat → Option smG) : smV → Prop := fun v => ∀ x w, o x = some w → v a x = w
theorem smQ_v {p ar k : Nat} (h : k < 3) : smv (smQ p ar) k = k := by
  rcases (show k = 0 ∨ k = 1 ∨ k = 2 by omega) with e | e | e <;> subst e <;> rfl
theorem smRf_proj {pg : smP} {P : List smI} {Z1 Z2 : smV → Prop} (h1 : ∀ v, Z1 v → Z2 v) (h2 : ∀ v, Z2 v → ∃ v', Z1 v' ∧ ∀ x, x ∈ P → ∀ i, i ∈ smIn x → v i = v' i) : smRf pg (P, Z1) [(P, Z2)] := by
  refine ⟨0, fun n _ => ⟨fun k ⟨W, k', h3, h4, h5⟩ => ⟨W, ⟨h3.1, fun F hF => ?_, fun F v hv hs => h3.2.2 F v (h1 v hv) hs⟩, ?_⟩, fun ⟨x, h3, F, v, h4, h5⟩ => ?_⟩⟩
  · obtain ⟨v, q1, q2⟩ := h3.2.1 F hF
    obtain ⟨v', q3, q4⟩ := h2 v q1
    exact ⟨v', q3, smS_ext P F q4 q2⟩
  · have h4 : k' = 0 := h4
    omega
  · rw [List.mem_singleton.mp h3] at h4 h5
    obtain ⟨v', q3, q4⟩ := h2 v h4
    exact ⟨F, v', q3, smS_ext P F q4 h5⟩
theorem smRf_name {pg : smP} {a b : Nat} {g : smL} {o : Nat → Option smG} (hg : g.1 ≤ 3) : smRf pg ([(a, g)], smQz a o) [([(b, g)], smQz b o)] := by
  have go : ∀ (E : smA → smT → Prop) (K : smA → Prop) (v : smV) (x y : Nat) (F : List smT), smS E K v [(x, g)] F → smS E K (fun _ => v x) [(y, g)] F := fun E K v x y F h =>
    smS_inst (v := v) (w := fun _ => v x) (i := x) (j := y) rfl [g] F (fun g' hg' => by rw [List.mem_singleton.mp hg']; exact hg) h
  refine ⟨0, fun n _ => ⟨fun k ⟨W, k', h3, h4, h5⟩ => ⟨W, ⟨h3.1, fun F hF => ?_, fun F v hv hs => ?_⟩, ?_⟩, fun ⟨x, h3, F, v, h4, h5⟩ => ?_⟩⟩
  · obtain ⟨v, q1, q2⟩ := h3.2.1 F hF
    exact ⟨fun _ => v b, fun x w hx => q1 x w hx, go _ _ v b a F q2⟩
  · exact h3.2.2 F (fun _ => v a) (fun x w hx => hv x w hx) (go _ _ v a b F hs)
  · have h4 : k' = 0 := h4
    omega
  · rw [List.mem_singleton.mp h3] at h4 h5
    exact ⟨F, fun _ => v b, fun x w hx => h4 x w hx, go _ _ v b a F h5⟩
theorem mm_root (hF : mmFa C Gd) {tm : List smG} {pm : Nat × Nat} {o : Nat → Option smG} (hg : Gd pm) (har : C.1.2 pm.1 ≤ 3) (ho : ∀ k, o k ≠ none ↔ C.2.1.1 pm.1 pm.2 k = true) :
    ∃ G top an, mmIn C Gd G top [] an (mmStart C tm pm o) ∧ mmNa (mmStart C tm pm o) = 0 ∧ ∀ k, smGood C.1.1 (mmNs C G top an (mmStart C tm pm o)) [] k → smGood C.1.1 [([(0, smQ pm.1 (C.1.2 pm.1))], smQz 0 o)] [] k := by
  have hck : mmCk C Gd [(pm, (none, 0, 1), false, none, 0)] (fun _ => [], fun _ => [0], fun _ => 0) 0 := ⟨by simp, hg, Or.inl ⟨rfl, rfl, rfl, rfl, rfl⟩⟩
  have hcn : mmCn C Gd [(pm, (none, 0, 1), false, none, 0)] (fun _ => [], fun _ => [0], fun _ => 0) 0 := ⟨List.mem_singleton.mpr rfl, fun i hi => by rw [List.mem_singleton.mp hi]; exact hck⟩
  have hdn : mmDn C [(pm, (none, 0, 1), false, none, 0)] (fun _ => [], fun _ => [0], fun _ => 0) (fun _ => none) (mmNew (fun _ _ => none) 0 o) 0 := fun j' hj' i hi => by
    rw [List.mem_singleton.mp hj'] at hi
    cases hi
  have hbs : mmBs [(pm, (none, 0, 1), false, none, 0)] (fun _ => [], fun _ => [0], fun _ => 0) (mmHd []) 0 := fun j hj => by
    rw [List.mem_singleton.mp hj]
    rfl
  obtain ⟨top', an', r1, r2, r3, r4⟩ := mm_enter hF (fr := [(pm, (none, 0, 1), false, none, 0)]) (G := (fun _ => [], fun _ => [0], fun _ => 0)) (cls := fun _ => none) (V := mmNew (fun _ _ => none) 0 o) (ch := []) (T := []) (cur := none) (den := none) (pl := 0) (j := 0) (na := 0) (ns := 0) (nc := 0) (dp := 0) (tm := tm) (nt := []) (top := []) (lv := [])
    ⟨rfl, fun c hc => absurd hc List.not_mem_nil, rfl⟩ (fun c hc => absurd hc List.not_mem_nil) (fun l hl => absurd hl List.not_mem_nil) List.Pairwise.nil (fun a ha => absurd ha List.not_mem_nil) hcn hdn hbs (fun x => by
      show mmNew (fun _ _ => none) 0 o 0 x ≠ none ↔ _
      simp only [mmNew, if_pos]
      exact ho x)
  refine ⟨_, top', an', r1, r2, fun k g => ?_⟩
  have g := r4 [] k g
  have g : smGood C.1.1 ([] ++ ((C.1.1.1 pm.1).map (fun c => mmNd C [(pm, (none, 0, 1), false, none, 0)] (fun _ => [], fun _ => [0], fun _ => 0) (mmNew (fun _ _ => none) 0 o) 0 c 0) ++ [])) [] k := g
  refine smGood_rf (B := []) (smRf_name (b := 1) (by simp [smQ])) ?_
  refine smGood_rf (B := []) (smRf_call (A := []) (B := []) (j := 0) (it := (1, smQ pm.1 (C.1.2 pm.1))) rfl (hF.1 _).1 (fun c hc g hg' => mmFa_bkind hF hg hc hg') (fun x hx => absurd hx List.not_mem_nil) (fun x hx => absurd hx List.not_mem_nil) (by simp) (fun v w hvw hv x u hu => by
    rw [← hvw 1 (by simp)]
    exact hv x u hu)) ?_
  refine smGood_kids (B := []) _ [] (fun c hc => ?_) g
  have hp : ([] ++ ((C.1.1.2 c).map (fun g => ((0 : Nat), g)) ++ [])).Perm (mmIt 0 (C.2.1.2 pm.2 c) ++ []) := by
    rw [List.nil_append]
    have e : mmIt 0 (C.2.1.2 pm.2 c) = ((C.2.1.2 pm.2 c).map (fun e => e.1)).map (fun g => (0, g)) := by simp [mmIt]
    rw [e]
    exact (((((hF.2.2 pm hg).1 c hc).1).map _).symm).append_right []
  have hnd : mmNd C [(pm, (none, 0, 1), false, none, 0)] (fun _ => [], fun _ => [0], fun _ => 0) (mmNew (fun _ _ => none) 0 o) 0 c 0 = (mmIt 0 (C.2.1.2 pm.2 c) ++ [], mmZ (mmNew (fun _ _ => none) 0 o) [0]) := rfl
  rw [hnd]
  refine smRf_one (smRf_perm hp) (smRf_proj (fun v hv => ?_) (fun v hv => ⟨fun _ => v 0, ⟨fun x w hx => ?_, fun x hx => ?_⟩, fun x hx i hi => ?_⟩))
  · obtain ⟨h1, h2⟩ := hv
    intro i hi x w hw
    rw [List.mem_singleton.mp hi] at hw ⊢
    have hw : o x = some w := by
      simp only [mmNew, if_pos] at hw
      exact hw
    have hx : x < C.1.2 pm.1 := hF.2.1 _ _ _ ((ho x).mp (by rw [hw]; simp))
    have h3 := h2 x hx
    have h3 : v 0 x = v 1 (smv (smQ pm.1 (C.1.2 pm.1)) x) := h3
    rw [smQ_v (by omega)] at h3
    rw [h3]
    exact h1 x w hw
  · show v 0 x = w
    refine hv 0 (List.mem_singleton.mpr rfl) x w ?_
    simp only [mmNew, if_pos]
    exact hx
  · show v 0 x = v 0 (smv (smQ pm.1 (C.1.2 pm.1)) x)
    have hx : x < C.1.2 pm.1 := hx
    rw [smQ_v (by omega)]
  · rw [List.append_nil] at hx
    rw [mmIt_in (fun e he => mmFa_kind hF hg hc he) hx hi]
end MR
