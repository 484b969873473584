/-! Own rows: a turn of the machine that takes a goal; the whole run. -/
section MG
variable {C : mmC} {Gd : Nat × Nat → Prop}
theorem smB_other {c : Nat} (h : c ≠ 1) (y z : smG) : smB c y = smB c z := by
  unfold smB
  rw [if_neg h, if_neg h]
theorem mmAg_true {V : mmV} {T : mmT} {i x : Nat} {o : Option smG} (h : V i x = none) : (mmAg V T i x o).1 = true := by
  unfold mmAg
  rw [if_pos h]
/-- a goal that is no call -/
theorem mmRf_eqg {pg : smP} {V : mmV} {T : mmT} {tm : List smG} {L : List Nat} {i : Nat} {e : mmO} {P : List smI} {r : Bool × mmV × mmT × List smG} (hi : i ∈ L) (hk : e.1.1 = 0 ∨ e.1.1 = 1)
    (h0 : e.1.1 = 0 → V i (smv e.1 0) = none → e.1.2.1 = 1 → V i (smv e.1 1) ≠ none) (h1 : e.1.1 = 1 → V i (smv e.1 0) = none → V i (smv e.1 1) ≠ none) (hr : mmEq V T tm i e.1 = some r) :
    smRf pg ((i, e.1) :: P, mmZ V L) (if r.1 = true then [(P, mmZ r.2.1 L)] else []) := by
  unfold mmEq at hr
  rcases hk with hk | hk
  · rw [if_neg (by omega)] at hr
    have hd : ∀ v, smEq v (i, e.1) ↔ v i (smv e.1 0) = smB e.1.2.1 (v i (smv e.1 1)) := fun v => by
      unfold smEq
      rw [if_pos hk]
    cases hx : V i (smv e.1 0) with
    | none =>
      rw [hx] at hr
      simp only at hr
      generalize hw : smB e.1.2.1 ((V i (smv e.1 1)).getD (0, 0)) = w at hr
      have q := mmRf_ag (pg := pg) (V := V) (T := T) (L := L) (i := i) (x := smv e.1 0) (w := w) (it := (i, e.1)) (P := P) hi (show e.1.1 ≠ 2 by omega) (show e.1.1 ≠ 3 by omega) (fun v hv => by
        rw [hd v]
        by_cases c1 : e.1.2.1 = 1
        · obtain ⟨y, hy⟩ := Option.ne_none_iff_exists'.mp (h0 hk hx c1)
          rw [hv i hi _ y hy, ← hw, hy, Option.getD_some]
        · rw [← hw, smB_other c1 _ ((V i (smv e.1 1)).getD (0, 0))])
      rw [mmAg_true hx, if_pos rfl] at q
      split at hr
      · cases hr; rw [if_pos rfl]; exact q
      · split at hr
        · cases hr; rw [if_pos rfl]; exact q
        · cases hr
    | some h =>
      rw [hx] at hr
      simp only at hr
      split at hr
      · rename_i hh
        split at hr
        · rename_i c1
          cases hr
          have q := mmRf_ag (pg := pg) (V := V) (T := T) (L := L) (i := i) (x := smv e.1 1) (w := (h.1 - 1, h.2)) (it := (i, e.1)) (P := P) hi (show e.1.1 ≠ 2 by omega) (show e.1.1 ≠ 3 by omega) (fun v hv => by
            rw [hd v, hv i hi _ h hx]
            rw [c1] at hh ⊢
            constructor
            · intro h3
              simp only [smB, if_pos] at h3
              rw [h3]
              simp
            · intro h3
              rw [h3]
              exact hh)
          exact q
        · rename_i c1
          cases hr
          rw [if_pos rfl]
          refine smRf_one (smRf_eq (A := []) (show e.1.1 ≠ 2 by omega) (show e.1.1 ≠ 3 by omega)) (smRf_congr (fun v => ?_) (fun _ _ _ _ _ => Iff.rfl))
          refine ⟨fun q => q.1, fun q => ⟨q, ?_⟩⟩
          rw [hd v, q i hi _ h hx, smB_other c1 _ (h.1 - 1, h.2)]
          exact hh
      · rename_i hh
        cases hr
        rw [if_neg (by simp)]
        refine smRf_no (A := []) (show e.1.1 ≠ 2 by omega) (show e.1.1 ≠ 3 by omega) fun v hv h3 => hh ?_
        rw [hd v, hv i hi _ h hx] at h3
        by_cases c1 : e.1.2.1 = 1
        · rw [h3, c1]
          simp [smB]
        · rw [← smB_other c1 (v i (smv e.1 1))]
          exact h3
  · rw [if_pos hk] at hr
    have hd : ∀ v, smEq v (i, e.1) ↔ v i (smv e.1 0) = v i (smv e.1 1) := fun v => by
      unfold smEq
      rw [if_neg (show ¬ e.1.1 = 0 by omega), if_pos hk]
    cases hx : V i (smv e.1 0) with
    | some w =>
      rw [hx] at hr
      rw [if_pos (by simp)] at hr
      cases hr
      exact mmRf_ag (pg := pg) (V := V) (T := T) (L := L) (i := i) (x := smv e.1 1) (w := w) (it := (i, e.1)) (P := P) hi (show e.1.1 ≠ 2 by omega) (show e.1.1 ≠ 3 by omega) (fun v hv => by
        rw [hd v, hv i hi _ w hx]
        exact eq_comm)
    | none =>
      obtain ⟨w, hy⟩ := Option.ne_none_iff_exists'.mp (h1 hk hx)
      rw [hx, hy] at hr
      rw [if_neg (by simp)] at hr
      cases hr
      exact mmRf_ag (pg := pg) (V := V) (T := T) (L := L) (i := i) (x := smv e.1 0) (w := w) (it := (i, e.1)) (P := P) hi (show e.1.1 ≠ 2 by omega) (show e.1.1 ≠ 3 by omega) (fun v hv => by
        rw [hd v, hv i hi _ w hy])
theorem mmEq_wr {V : mmV} {T : mmT} {tm : List smG} {i : Nat} {g : smL} {r : Bool × mmV × mmT × List smG} (hr : mmEq V T tm i g = some r) : mmWr i V T r.2.1 r.2.2.1 := by
  unfold mmEq at hr
  split at hr
  · split at hr
    · cases hr; exact mmAg_wr
    · cases hr; exact mmAg_wr
  · split at hr
    · split at hr
      · cases hr; exact mmAg_wr
      · split at hr
        · cases hr; exact mmAg_wr
        · cases hr
    · split at hr
      · split at hr
        · cases hr; exact mmAg_wr
        · cases hr; exact mmWr_refl
      · cases hr; exact mmWr_refl
theorem mmEq_dom {V : mmV} {T : mmT} {tm : List smG} {i : Nat} {e : mmO} {r : Bool × mmV × mmT × List smG} (hk : e.1.1 = 0 ∨ e.1.1 = 1) (hn : e.1.2.2.1 = if e.1.1 = 1 ∨ e.1.2.1 = 1 then 2 else 1)
    (h0 : e.1.1 = 0 → V i (smv e.1 0) = none → e.1.2.1 = 1 → V i (smv e.1 1) ≠ none) (h1 : e.1.1 = 1 → V i (smv e.1 0) = none → V i (smv e.1 1) ≠ none) (hr : mmEq V T tm i e.1 = some r) (ht : r.1 = true) :
    ∀ y, r.2.1 i y ≠ none ↔ V i y ≠ none ∨ ∃ k, k < e.1.2.2.1 ∧ smv e.1 k = y := by
  intro y
  have two : e.1.1 = 1 ∨ e.1.2.1 = 1 → ((∃ k, k < e.1.2.2.1 ∧ smv e.1 k = y) ↔ smv e.1 0 = y ∨ smv e.1 1 = y) := fun h => by
    rw [hn, if_pos h]
    constructor
    · rintro ⟨k, hk, q⟩
      rcases (show k = 0 ∨ k = 1 by omega) with e | e
      · exact Or.inl (by rw [← e]; exact q)
      · exact Or.inr (by rw [← e]; exact q)
    · rintro (q | q)
      · exact ⟨0, by omega, q⟩
      · exact ⟨1, by omega, q⟩
  have one : ¬ (e.1.1 = 1 ∨ e.1.2.1 = 1) → ((∃ k, k < e.1.2.2.1 ∧ smv e.1 k = y) ↔ smv e.1 0 = y) := fun h => by
    rw [hn, if_neg h]
    constructor
    · rintro ⟨k, hk, q⟩
      rw [show k = 0 by omega] at q
      exact q
    · intro q
      exact ⟨0, by omega, q⟩
  unfold mmEq at hr
  rcases hk with hk | hk
  · rw [if_neg (by omega)] at hr
    cases hx : V i (smv e.1 0) with
    | none =>
      rw [hx] at hr
      simp only at hr
      have go : r.2.1 = (mmAg V T i (smv e.1 0) (some (smB e.1.2.1 ((V i (smv e.1 1)).getD (0, 0))))).2.1 := by
        split at hr
        · cases hr; rfl
        · split at hr
          · cases hr; rfl
          · cases hr
      rw [go, mmAg_dom]
      by_cases c1 : e.1.2.1 = 1
      · rw [two (Or.inr c1)]
        constructor
        · rintro (q | q)
          · exact Or.inl q
          · exact Or.inr (Or.inl q.symm)
        · rintro (q | q | q)
          · exact Or.inl q
          · exact Or.inr q.symm
          · exact Or.inl (by rw [← q]; exact h0 hk hx c1)
      · rw [one (fun h => h.elim (by omega) c1)]
        exact ⟨fun q => q.imp id Eq.symm, fun q => q.imp id Eq.symm⟩
    | some h =>
      rw [hx] at hr
      simp only at hr
      split at hr
      · split at hr
        · rename_i c1
          cases hr
          rw [mmAg_dom, two (Or.inr c1)]
          constructor
          · rintro (q | q)
            · exact Or.inl q
            · exact Or.inr (Or.inr q.symm)
          · rintro (q | q | q)
            · exact Or.inl q
            · exact Or.inl (by rw [← q, hx]; simp)
            · exact Or.inr q.symm
        · rename_i c1
          cases hr
          rw [one (fun h => h.elim (by omega) c1)]
          exact ⟨Or.inl, fun q => q.elim id fun q => by show V i y ≠ none; rw [← q, hx]; simp⟩
      · cases hr
        cases ht
  · rw [if_pos hk] at hr
    rw [two (Or.inl hk)]
    split at hr
    · rename_i hx
      cases hr
      rw [mmAg_dom_some hx]
      constructor
      · rintro (q | q)
        · exact Or.inl q
        · exact Or.inr (Or.inr q.symm)
      · rintro (q | q | q)
        · exact Or.inl q
        · exact Or.inl (by rw [← q]; exact hx)
        · exact Or.inr q.symm
    · rename_i hx
      have hx2 : V i (smv e.1 0) = none := by
        cases h : V i (smv e.1 0) with
        | none => rfl
        | some w => exact absurd (by rw [h]; simp) hx
      cases hr
      rw [mmAg_dom_some (h1 hk hx2)]
      constructor
      · rintro (q | q)
        · exact Or.inl q
        · exact Or.inr (Or.inl q.symm)
      · rintro (q | q | q)
        · exact Or.inl q
        · exact Or.inr q.symm
        · exact Or.inl (by rw [← q]; exact h1 hk hx2)
/-! a frame more -/
def mmEx (fr : List mmF) (G : mmGh) (fr' : List mmF) (G' : mmGh) : Prop := fr.length ≤ fr'.length ∧ ∀ i, i < fr.length → mmf fr' i = mmf fr i ∧ G'.1 i = G.1 i ∧ G'.2.1 i = G.2.1 i ∧ G'.2.2 i = G.2.2 i
section EXT
variable {fr fr' : List mmF} {G G' : mmGh} {cls : Nat → Option Nat}
theorem mmEx_ck (h : mmEx fr G fr' G') {j : Nat} (k : mmCk C Gd fr G j) : mmCk C Gd fr' G' j := by
  obtain ⟨k1, k2, k3⟩ := k
  obtain ⟨e1, e2, e3, e4⟩ := h.2 j k1
  unfold mmCk
  rw [e1, e2, e3, e4]
  refine ⟨Nat.lt_of_lt_of_le k1 h.1, k2, k3.imp id ?_⟩
  rintro ⟨i, q1, q2, q3, q4, q5, q6, e, q7, q8, q9, q10, q11⟩
  obtain ⟨f1, f2, f3, f4⟩ := h.2 i (by omega)
  refine ⟨i, q1, q2, ?_, ?_, ?_, ?_, e, ?_, q8, q9, q10, ?_⟩
  · rw [f3]; exact q3
  · rw [f3]; exact q4
  · rw [f1]; exact q5
  · rw [f1]; exact q6
  · rw [f1]; exact q7
  · rw [f1, f2]; exact q11
theorem mmEx_cn (h : mmEx fr G fr' G') {j : Nat} (k : mmCn C Gd fr G j) : mmCn C Gd fr' G' j := by
  obtain ⟨-, -, e3, -⟩ := h.2 j (mmCn_lt k)
  unfold mmCn
  rw [e3]
  exact ⟨k.1, fun i hi => mmEx_ck h (k.2 i hi)⟩
theorem mmEx_dn (h : mmEx fr G fr' G') {V V' : mmV} (hV : ∀ i, i < fr.length → ∀ x, V' i x = V i x) {j : Nat} (k : mmCn C Gd fr G j) (d : mmDn C fr G cls V j) : mmDn C fr' G' cls V' j := by
  have hj := mmCn_lt k
  intro j' hj' i hi
  rw [(h.2 j hj).2.2.1] at hj'
  have hl : j' < fr.length := Nat.lt_of_le_of_lt (mmCn_le k hj') hj
  obtain ⟨e1, -, -, e4⟩ := h.2 j' hl
  rw [e1] at hi
  have q := (mmCn_caller (mmCn_mem j j (Nat.le_refl _) k j' hj').1 hi).2.1
  obtain ⟨f1, -, -, -⟩ := h.2 i (by omega)
  obtain ⟨d1, d2⟩ := d j' hj' i hi
  rw [e1, e4, f1]
  exact ⟨d1, fun x => by rw [hV i (by omega)]; exact d2 x⟩
theorem mmEx_co (h : mmEx fr G fr' G') {V V' : mmV} (hV : ∀ i, i < fr.length → ∀ x, V' i x = V i x) {T : mmT} {c : mmCG} (k : mmCo C Gd fr G cls V T c) : mmCo C Gd fr' G' cls V' T c := by
  obtain ⟨k1, k2, k3, k4, k5, k6, k7⟩ := k
  have hj := mmCn_lt k1
  obtain ⟨e1, -, e3, -⟩ := h.2 _ hj
  refine ⟨mmEx_cn h k1, mmEx_dn h (fun _ _ _ => rfl) k1 k2, by rw [e1]; exact k3, by rw [e1]; exact k4, k5, fun i hi x => ?_, fun x => by rw [e1]; exact k7 x⟩
  rw [e3] at hi
  rw [← k6 i hi x]
  unfold mmUn
  rw [hV i (Nat.lt_of_le_of_lt (mmCn_le k1 hi) hj)]
theorem mmEx_lo (h : mmEx fr G fr' G') {V V' : mmV} (hV : ∀ i, i < fr.length → ∀ x, V' i x = V i x) {T : mmT} {l : mmLG} (k : mmLo C Gd fr G cls V T l) : mmLo C Gd fr' G' cls V' T l := by
  obtain ⟨k1, k2, k3, ⟨a, k4, k5⟩, k6, k7⟩ := k
  have hj := mmCn_lt k1
  obtain ⟨q1, q2, -⟩ := mmCn_caller k1 k4
  obtain ⟨e1, -, -, -⟩ := h.2 _ hj
  obtain ⟨-, -, f3, -⟩ := h.2 a (by omega)
  refine ⟨mmEx_cn h k1, mmEx_dn h hV k1 k2, by rw [e1]; exact k3, ⟨a, by rw [e1]; exact k4, fun i hi x => ?_⟩, k6, k7⟩
  rw [f3] at hi
  have := mmCn_le q1 hi
  rw [hV i (by omega)]
  exact k5 i hi x
theorem mmEx_nd (h : mmEx fr G fr' G') {V : mmV} {i c b : Nat} (hi : i < fr.length) : mmNd C fr' G' V i c b = mmNd C fr G V i c b := by
  obtain ⟨e1, e2, e3, -⟩ := h.2 i hi
  unfold mmNd
  rw [e1, e2, e3]
theorem mmEx_cd (h : mmEx fr G fr' G') {c : mmCG} (hi : c.1.1 < fr.length) : mmCd C fr' G' c = mmCd C fr G c := by
  unfold mmCd
  rw [(h.2 _ hi).1]
  exact List.map_congr_left fun x _ => mmEx_nd h hi
theorem mmEx_cds (h : mmEx fr G fr' G') {cs : List mmCG} (hi : ∀ c, c ∈ cs → c.1.1 < fr.length) : cs.flatMap (mmCd C fr' G') = cs.flatMap (mmCd C fr G) := by
  induction cs with
  | nil => rfl
  | cons c cs ih =>
    rw [List.flatMap_cons, List.flatMap_cons, mmEx_cd h (hi c List.mem_cons_self), ih fun x hx => hi x (List.mem_cons_of_mem _ hx)]
theorem mmEx_bs (h : mmEx fr G fr' G') {i : Nat} (k : mmCn C Gd fr G i) {o : Option Nat} (b : mmBs fr G o i) : mmBs fr' G' o i := by
  have hi := mmCn_lt k
  have e3 := (h.2 i hi).2.2.1
  have go : ∀ x, x ∈ G.2.1 i → mmf fr' x = mmf fr x := fun x hx => (h.2 x (Nat.lt_of_le_of_lt (mmCn_le k hx) hi)).1
  cases o with
  | none =>
    intro x hx
    rw [e3] at hx
    rw [go x hx]
    exact b x hx
  | some d =>
    refine ⟨by rw [e3]; exact b.1, fun x hx hd => ?_⟩
    rw [e3] at hx
    rw [go x hx]
    exact b.2 x hx hd
theorem mmEx_lv (h : mmEx fr G fr' G') {V : mmV} {T : mmT} : ∀ (lv : List (mmLG × List mmCG)) (top : List mmCG) (ch : mmH) (den : Option Nat), (∀ c, c ∈ top ++ lv.flatMap (fun l => l.2) → mmCo C Gd fr G cls V T c) → (∀ l, l ∈ lv → mmLo C Gd fr G cls V T l.1) → mmLv fr G top lv ch den → mmLv fr' G' top lv ch den
  | [], top, ch, den, hco, _, ⟨h1, h2, h3⟩ => ⟨h1, fun c hc => mmEx_bs h (hco c (List.mem_append_left _ hc)).1 (h2 c hc), h3⟩
  | (l, outer) :: lv, top, ch, den, hco, hlo, ⟨h1, h2, h3, h4, ch', h5, h6, h7⟩ => by
    obtain ⟨b1, b2, b3, ⟨a, b4, b5⟩, b6, b7⟩ := hlo (l, outer) List.mem_cons_self
    have e1 := (h.2 _ (mmCn_lt b1)).1
    have b1 : mmCn C Gd fr G l.1 := b1
    refine ⟨h1, fun c hc => ⟨mmEx_bs h (hco c (List.mem_append_left _ hc)).1 (h2 c hc).1, (h2 c hc).2⟩, fun x hx => ?_, h4, ch', h5, ?_, ?_⟩
    · have e1 : mmf fr' l.1 = mmf fr l.1 := e1
      rw [e1] at hx
      exact mmEx_bs h (mmCn_caller b1 hx).1 (h3 x hx)
    · have e1 : mmf fr' l.1 = mmf fr l.1 := e1
      rw [e1]; exact h6
    · have e1 : mmf fr' l.1 = mmf fr l.1 := e1
      rw [e1]
      exact mmEx_lv h lv outer ch' _ (fun c hc => hco c (List.mem_append_right _ (by simpa using hc))) (fun x hx => hlo x (List.mem_cons_of_mem _ hx)) h7
theorem mmEx_st (h : mmEx fr G fr' G') {V : mmV} {T : mmT} {lv : List (mmLG × List mmCG)} (hco : ∀ c, c ∈ lv.flatMap (fun l => l.2) → mmCo C Gd fr G cls V T c) (hlo : ∀ l, l ∈ lv → mmLo C Gd fr G cls V T l.1) : mmSt C fr' G' lv = mmSt C fr G lv := by
  unfold mmSt
  apply List.map_congr_left
  intro l hl
  obtain ⟨b1, b2, b3, ⟨a, b4, b5⟩, b6, b7⟩ := hlo l hl
  obtain ⟨e1, -, -, e4⟩ := h.2 _ (mmCn_lt b1)
  obtain ⟨q1, q2, -⟩ := mmCn_caller b1 b4
  rw [e1, e4, b4, Option.getD_some, mmEx_nd h (mmCn_lt q1), mmEx_cds h fun c hc => mmCn_lt (hco c (List.mem_flatMap.mpr ⟨l, hl, hc⟩)).1]
end EXT
end MG
