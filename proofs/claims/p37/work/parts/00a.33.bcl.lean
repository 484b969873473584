/-! Own rows: what is determined: in a good mode each list that is left over has a goal that can be resolved. -/
section BC
variable {C : mmC} {Gd : Nat × Nat → Prop}
/-- a set of variables (instance, variable) that is closed under what items and assignments tell -/
def bClosed (C : mmC) (Gd : Nat × Nat → Prop) (P : List smI) (Z : smV → Prop) (S : Nat → Nat → Prop) : Prop :=
  (∀ b x, (∀ v w, Z v → Z w → v b x = w b x) → S b x) ∧
  (∀ b x b' x', (∀ v w, Z v → Z w → v b x = w b x → v b' x' = w b' x') → S b x → S b' x') ∧
  ∀ it, it ∈ P →
    (it.2.1 = 0 → (it.2.2.1 ≠ 1 → S it.1 (smv it.2 0)) ∧ (S it.1 (smv it.2 0) → it.2.2.1 = 1 → S it.1 (smv it.2 1)) ∧ (S it.1 (smv it.2 1) → S it.1 (smv it.2 0))) ∧
    (it.2.1 = 1 → (S it.1 (smv it.2 0) ↔ S it.1 (smv it.2 1))) ∧
    (it.2.1 = 2 → ∀ m, Gd (it.2.2.1, m) → (∀ k, k < it.2.2.2.1 → C.2.1.1 it.2.2.1 m k = true → S it.1 (smv it.2 k)) → ∀ k, k < it.2.2.2.1 → S it.1 (smv it.2 k))
def bCl (C : mmC) (Gd : Nat × Nat → Prop) (P : List smI) (Z : smV → Prop) (b x : Nat) : Prop := ∀ S, bClosed C Gd P Z S → S b x
def bJ (C : mmC) (Gd : Nat × Nat → Prop) (P : List smI) (Z : smV → Prop) : Prop :=
  ∀ it, it ∈ P → (it.2.1 = 3 → (∃ m, Gd (it.2.2.1, m)) ∧ ∀ k, k < it.2.2.2.1 → bCl C Gd P Z it.1 (smv it.2 k)) ∧
    (it.2.1 = 2 → ∃ m, Gd (it.2.2.1, m) ∧ ∀ k, k < it.2.2.2.1 → C.2.1.1 it.2.2.1 m k = true → bCl C Gd P Z it.1 (smv it.2 k))
theorem bJ_sub {P P' : List smI} {Z Z' : smV → Prop} (hP : ∀ it, it ∈ P' → it ∈ P) (hc : ∀ S, bClosed C Gd P' Z' S → bClosed C Gd P Z S) (h : bJ C Gd P Z) : bJ C Gd P' Z' := fun it hit => by
  obtain ⟨h1, h2⟩ := h it (hP it hit)
  refine ⟨fun e => ?_, fun e => ?_⟩
  · obtain ⟨q1, q2⟩ := h1 e
    exact ⟨q1, fun k hk S hS => q2 k hk S (hc S hS)⟩
  · obtain ⟨m, q1, q2⟩ := h2 e
    exact ⟨m, q1, fun k hk hi S hS => q2 k hk hi S (hc S hS)⟩
theorem bClosed_z {P : List smI} {Z Z' : smV → Prop} {S : Nat → Nat → Prop} (hZ : ∀ v, Z' v → Z v) (h : bClosed C Gd P Z' S) : bClosed C Gd P Z S :=
  ⟨fun b x q => h.1 b x fun v w hv hw => q v w (hZ v hv) (hZ w hw), fun b x b' x' q => h.2.1 b x b' x' fun v w hv hw => q v w (hZ v hv) (hZ w hw), h.2.2⟩
theorem bJ_perm {P P' : List smI} {Z : smV → Prop} (hp : ∀ it, it ∈ P' ↔ it ∈ P) (h : bJ C Gd P Z) : bJ C Gd P' Z :=
  bJ_sub (fun it hit => (hp it).mp hit) (fun _ hS => ⟨hS.1, hS.2.1, fun it hit => hS.2.2 it ((hp it).mpr hit)⟩) h
/-- an equation is solved -/
theorem bJ_eq {P : List smI} {it : smI} {Z : smV → Prop} (h01 : it.2.1 = 0 ∨ it.2.1 = 1) (h : bJ C Gd (it :: P) Z) : bJ C Gd P (fun v => Z v ∧ smEq v it) := by
  refine bJ_sub (fun x hx => List.mem_cons_of_mem _ hx) (fun S hS => ?_) h
  have hz := bClosed_z (Z := Z) (fun v hv => hv.1) hS
  refine ⟨hz.1, hz.2.1, fun x hx => ?_⟩
  rcases List.mem_cons.mp hx with e | hx
  · rw [e]
    rcases h01 with h0 | h1
    · have hd : ∀ v, smEq v it → v it.1 (smv it.2 0) = smB it.2.2.1 (v it.1 (smv it.2 1)) := fun v hv => by
        unfold smEq at hv
        rw [if_pos h0] at hv
        exact hv
      refine ⟨fun _ => ⟨fun hne => hS.1 _ _ fun v w hv hw => ?_, fun hx hc => hS.2.1 _ _ _ _ (fun v w hv hw e => ?_) hx, fun hx => hS.2.1 _ _ _ _ (fun v w hv hw e => ?_) hx⟩, fun h => by omega, fun h => by omega⟩
      · rw [hd v hv.2, hd w hw.2]
        exact smB_other hne _ _
      · rw [hd v hv.2, hd w hw.2, hc] at e
        simp only [smB, if_pos] at e
        have q1 := congrArg Prod.fst e
        have q2 := congrArg Prod.snd e
        simp only at q1 q2
        exact Prod.ext (by omega) q2
      · rw [hd v hv.2, hd w hw.2, e]
    · have hd : ∀ v, smEq v it → v it.1 (smv it.2 0) = v it.1 (smv it.2 1) := fun v hv => by
        unfold smEq at hv
        rw [if_neg (by omega), if_pos h1] at hv
        exact hv
      refine ⟨fun h => by omega, fun _ => ⟨fun hx => hS.2.1 _ _ _ _ (fun v w hv hw e => ?_) hx, fun hx => hS.2.1 _ _ _ _ (fun v w hv hw e => ?_) hx⟩, fun h => by omega⟩
      · rw [← hd v hv.2, ← hd w hw.2, e]
      · rw [hd v hv.2, hd w hw.2, e]
  · exact hS.2.2 x hx
/-- a denied call is taken out -/
theorem bJ_den {P : List smI} {it : smI} {Z : smV → Prop} (h3 : it.2.1 = 3) (h : bJ C Gd (it :: P) Z) : bJ C Gd P Z := by
  refine bJ_sub (fun x hx => List.mem_cons_of_mem _ hx) (fun S hS => ⟨hS.1, hS.2.1, fun x hx => ?_⟩) h
  rcases List.mem_cons.mp hx with e | hx
  · rw [e]
    exact ⟨fun h => by omega, fun h => by omega, fun h => by omega⟩
  · exact hS.2.2 x hx
/-- a clause's goals, in the order of a good mode: from its inputs all that is in it is told -/
theorem bCl_body (hF : mmFa C Gd) {S : Nat → Nat → Prop} {P : List smI} {Z : smV → Prop} {pm : Nat × Nat} (hg : Gd pm) {c j : Nat} (hc : c ∈ C.1.1.1 pm.1) (hS : bClosed C Gd P Z S) (hP : ∀ g, g ∈ C.1.1.2 c → (j, g) ∈ P) (hin : ∀ k, C.2.1.1 pm.1 pm.2 k = true → S j k) :
    ∀ i, i ≤ (C.2.1.2 pm.2 c).length → ∀ x, mmKn C pm ((C.2.1.2 pm.2 c).take i) x → S j x := by
  obtain ⟨f1, f2, f3⟩ := (hF.2.2 pm hg).1 c hc
  intro i
  induction i with
  | zero =>
    intro _ x hx
    rw [List.take_zero, mmKn_nil] at hx
    exact hin x hx
  | succ i ih =>
    intro hi x hx
    have ih := ih (by omega)
    have he : (C.2.1.2 pm.2 c)[i]? = some ((C.2.1.2 pm.2 c)[i]'(by omega)) := List.getElem?_eq_getElem _
    generalize (C.2.1.2 pm.2 c)[i]'(by omega) = e at he
    rw [mmKn_succ he] at hx
    rcases hx with hx | ⟨k, hk, rfl⟩
    · exact ih x hx
    · have hm : (j, e.1) ∈ P := hP _ (f1.mem_iff.mp (List.mem_map.mpr ⟨e, List.mem_of_getElem? he, rfl⟩))
      obtain ⟨c0, c1, c2⟩ := hS.2.2 _ hm
      have c0 : e.1.1 = 0 → (e.1.2.1 ≠ 1 → S j (smv e.1 0)) ∧ (S j (smv e.1 0) → e.1.2.1 = 1 → S j (smv e.1 1)) ∧ (S j (smv e.1 1) → S j (smv e.1 0)) := c0
      have c1 : e.1.1 = 1 → (S j (smv e.1 0) ↔ S j (smv e.1 1)) := c1
      have c2 : e.1.1 = 2 → ∀ m, Gd (e.1.2.1, m) → (∀ k, k < e.1.2.2.1 → C.2.1.1 e.1.2.1 m k = true → S j (smv e.1 k)) → ∀ k, k < e.1.2.2.1 → S j (smv e.1 k) := c2
      rcases f2 i e he with ⟨h, -, h1, h2⟩ | ⟨h, h1, h2⟩ | ⟨h, m, h1, h2, h3, h4, h5⟩
      · obtain ⟨d1, d2, d3⟩ := c0 h
        by_cases q : e.1.2.1 = 1
        · rw [if_pos q] at h1
          have hx0 : S j (smv e.1 0) := h2.elim (fun h => ih _ h) (fun h => d3 (ih _ (h q)))
          rcases (show k = 0 ∨ k = 1 by omega) with e1 | e1
          · rw [e1]; exact hx0
          · rw [e1]; exact d2 hx0 q
        · rw [if_neg q] at h1
          rw [show k = 0 by omega]
          exact d1 q
      · have d := c1 h
        have hx0 : S j (smv e.1 0) := h2.elim (fun h => ih _ h) (fun h => d.mpr (ih _ h))
        rcases (show k = 0 ∨ k = 1 by omega) with e1 | e1
        · rw [e1]; exact hx0
        · rw [e1]; exact d.mp hx0
      · rcases h with h | h
        · exact c2 h m h2 (fun k hk hi => ih _ (h4 k hk hi)) k hk
        · exact ih _ (h5 h k hk)
/-- a call by a clause -/
theorem bJ_call (hF : mmFa C Gd) {P : List smI} {it : smI} {Z : smV → Prop} {j c : Nat} (h2 : it.2.1 = 2) (hcnt : it.2.2.2.1 = C.1.2 it.2.2.1) (hc : c ∈ C.1.1.1 it.2.2.1) (h : bJ C Gd (it :: P) Z) :
    bJ C Gd ((C.1.1.2 c).map (fun g => (j, g)) ++ P) (fun v => Z v ∧ ∀ x, x < it.2.2.2.1 → v j x = v it.1 (smv it.2 x)) := by
  obtain ⟨m, g1, g2⟩ := (h it List.mem_cons_self).2 h2
  have hfin : ∀ m, Gd (it.2.2.1, m) → ∀ k, k < C.1.2 it.2.2.1 → mmKn C (it.2.2.1, m) (C.2.1.2 m c) k := fun m hg => ((hF.2.2 _ hg).1 c hc).2.2
  have old : ∀ S, bClosed C Gd ((C.1.1.2 c).map (fun g => (j, g)) ++ P) (fun v => Z v ∧ ∀ x, x < it.2.2.2.1 → v j x = v it.1 (smv it.2 x)) S → bClosed C Gd (it :: P) Z S ∧ ∀ m, Gd (it.2.2.1, m) → (∀ k, k < it.2.2.2.1 → C.2.1.1 it.2.2.1 m k = true → S it.1 (smv it.2 k)) → ∀ i, i ≤ (C.2.1.2 m c).length → ∀ x, mmKn C (it.2.2.1, m) ((C.2.1.2 m c).take i) x → S j x := by
    intro S hS
    have hz := bClosed_z (Z := Z) (fun v hv => hv.1) hS
    have body : ∀ m, Gd (it.2.2.1, m) → (∀ k, k < it.2.2.2.1 → C.2.1.1 it.2.2.1 m k = true → S it.1 (smv it.2 k)) → ∀ i, i ≤ (C.2.1.2 m c).length → ∀ x, mmKn C (it.2.2.1, m) ((C.2.1.2 m c).take i) x → S j x := fun m hg hin =>
      bCl_body hF (pm := (it.2.2.1, m)) hg hc hS (fun g hg' => List.mem_append_left _ (List.mem_map.mpr ⟨g, hg', rfl⟩)) (fun k hk => by
        have hlt : k < it.2.2.2.1 := by rw [hcnt]; exact hF.2.1 _ _ _ hk
        exact hS.2.1 _ _ _ _ (fun v w hv hw e => by rw [hv.2 k hlt, hw.2 k hlt, e]) (hin k hlt hk))
    refine ⟨⟨hz.1, hz.2.1, fun x hx => ?_⟩, body⟩
    rcases List.mem_cons.mp hx with e | hx
    · rw [e]
      refine ⟨fun h => by omega, fun h => by omega, fun _ m hg hin k hk => ?_⟩
      have q := body m hg hin _ (Nat.le_refl _) k (by rw [List.take_length]; exact hfin m hg k (by rw [← hcnt]; exact hk))
      exact hS.2.1 _ _ _ _ (fun v w hv hw e => by rw [← hv.2 k hk, ← hw.2 k hk, e]) q
    · exact hS.2.2 x (List.mem_append_right _ hx)
  intro x hx
  rcases List.mem_append.mp hx with hx | hx
  · obtain ⟨g, hg, rfl⟩ := List.mem_map.mp hx
    obtain ⟨f1, f2, f3⟩ := (hF.2.2 _ g1).1 c hc
    obtain ⟨e, he, e1⟩ := List.mem_map.mp (f1.mem_iff.mpr hg)
    obtain ⟨i, hi⟩ := List.mem_iff_getElem?.mp he
    have hil : i ≤ (C.2.1.2 m c).length := by
      exact Nat.le_of_lt (List.getElem?_eq_some_iff.mp hi).1
    have hk := f2 i e hi
    have inS : ∀ S, bClosed C Gd ((C.1.1.2 c).map (fun g => (j, g)) ++ P) (fun v => Z v ∧ ∀ x, x < it.2.2.2.1 → v j x = v it.1 (smv it.2 x)) S → ∀ x, mmKn C (it.2.2.1, m) ((C.2.1.2 m c).take i) x → S j x := fun S hS =>
      (old S hS).2 m g1 (fun k hk hi => g2 k hk hi S (old S hS).1) i hil
    subst e1
    refine ⟨fun h3 => ?_, fun h2' => ?_⟩
    · have h3 : e.1.1 = 3 := h3
      rcases hk with ⟨h, -⟩ | ⟨h, -⟩ | ⟨-, m', q1, q2, q3, q4, q5⟩
      · omega
      · omega
      · exact ⟨⟨m', q2⟩, fun k hk S hS => inS S hS _ (q5 h3 k hk)⟩
    · have h2' : e.1.1 = 2 := h2'
      rcases hk with ⟨h, -⟩ | ⟨h, -⟩ | ⟨-, m', q1, q2, q3, q4, q5⟩
      · omega
      · omega
      · exact ⟨m', q2, fun k hk hi S hS => inS S hS _ (q4 k hk hi)⟩
  · obtain ⟨h3, h4⟩ := h x (List.mem_cons_of_mem _ hx)
    refine ⟨fun e => ?_, fun e => ?_⟩
    · obtain ⟨q1, q2⟩ := h3 e
      exact ⟨q1, fun k hk S hS => q2 k hk S (old S hS).1⟩
    · obtain ⟨m', q1, q2⟩ := h4 e
      exact ⟨m', q1, fun k hk hi S hS => q2 k hk hi S (old S hS).1⟩
/-- denied calls alone: their arguments are determined -/
theorem bJ_left {P : List smI} {Z : smV → Prop} (h : bJ C Gd P Z) (hk : ∀ it, it ∈ P → it.2.1 = 3) {it : smI} (hit : it ∈ P) {k : Nat} (hlt : k < it.2.2.2.1) : ∀ v w, Z v → Z w → v it.1 (smv it.2 k) = w it.1 (smv it.2 k) := by
  refine ((h it hit).1 (hk it hit)).2 k hlt (fun b x => ∀ v w, Z v → Z w → v b x = w b x) ⟨fun b x q => q, fun b x b' x' q hb v w hv hw => q v w hv hw (hb v w hv hw), fun x hx => ?_⟩
  have := hk x hx
  exact ⟨fun h => by omega, fun h => by omega, fun h => by omega⟩
/-- a question whose inputs are told -/
theorem bJ_ask {p ar j m : Nat} {Z : smV → Prop} (hg : Gd (p, m)) (har : ar ≤ 3) (hin : ∀ k, k < ar → C.2.1.1 p m k = true → ∀ v w, Z v → Z w → v j k = w j k) : bJ C Gd [(j, smQ p ar)] Z := by
  intro it hit
  rw [List.mem_singleton.mp hit]
  refine ⟨fun h => by simp [smQ] at h, fun _ => ⟨m, hg, fun k hk hi S hS => ?_⟩⟩
  have hk : k < ar := hk
  show S j (smv (smQ p ar) k)
  rw [smQ_v (by omega)]
  exact hS.1 _ _ (hin k hk hi)
end BC
