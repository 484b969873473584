/-! Own rows: the machine's writes, chains and nodes. -/
section MW
variable {C : mmC} {Gd : Nat × Nat → Prop} {fr : List mmF} {G : mmGh} {cls : Nat → Option Nat}
theorem mmf_lt {fr : List mmF} {f : mmF} {i : Nat} (h : i < fr.length) : mmf (fr ++ [f]) i = mmf fr i := by
  unfold mmf
  simp [List.getD_eq_getElem?_getD, List.getElem?_append_left h]
theorem mmf_new {fr : List mmF} {f : mmF} : mmf (fr ++ [f]) fr.length = f := by
  unfold mmf
  simp [List.getD_eq_getElem?_getD]
/-! chains -/
theorem mmCn_caller {j a : Nat} (h : mmCn C Gd fr G j) (hc : (mmf fr j).2.1.1 = some a) : mmCn C Gd fr G a ∧ a < j ∧ G.2.1 j = j :: G.2.1 a := by
  obtain ⟨-, -, h1 | ⟨i, h1, h2, h3, h4, -⟩⟩ := h.2 j h.1
  · rw [h1.1] at hc; cases hc
  · rw [h1] at hc
    cases hc
    exact ⟨⟨h4, fun x hx => h.2 x (by rw [h3]; exact List.mem_cons_of_mem _ hx)⟩, h2, h3⟩
theorem mmL_le : ∀ (n j : Nat), j ≤ n → mmCn C Gd fr G j → ∀ i, i ∈ G.2.1 j → i ≤ j := by
  intro n
  induction n with
  | zero =>
    intro j hj h i hi
    obtain ⟨-, -, h1 | ⟨a, h1, h2, -⟩⟩ := h.2 j h.1
    · rw [h1.2.2.1] at hi
      exact Nat.le_of_eq (List.mem_singleton.mp hi)
    · omega
  | succ n ih =>
    intro j hj h i hi
    cases hc : (mmf fr j).2.1.1 with
    | none =>
      obtain ⟨-, -, h1 | ⟨a, h1, h2, -⟩⟩ := h.2 j h.1
      · rw [h1.2.2.1] at hi
        exact Nat.le_of_eq (List.mem_singleton.mp hi)
      · rw [h1] at hc; cases hc
    | some a =>
      obtain ⟨h1, h2, h3⟩ := mmCn_caller h hc
      rw [h3] at hi
      rcases List.mem_cons.mp hi with e | hi
      · omega
      · have := ih a (by omega) h1 i hi
        omega
theorem mmCn_le {j i : Nat} (h : mmCn C Gd fr G j) (hi : i ∈ G.2.1 j) : i ≤ j := mmL_le j j (Nat.le_refl _) h i hi
theorem mmCn_lt {j : Nat} (h : mmCn C Gd fr G j) : j < fr.length := (h.2 j h.1).1
theorem mmCn_mem : ∀ (n j : Nat), j ≤ n → mmCn C Gd fr G j → ∀ i, i ∈ G.2.1 j → mmCn C Gd fr G i ∧ ∀ x, x ∈ G.2.1 i → x ∈ G.2.1 j := by
  intro n
  induction n with
  | zero =>
    intro j hj h i hi
    have := mmCn_le h hi
    have e : i = j := by omega
    rw [e]
    exact ⟨h, fun x hx => hx⟩
  | succ n ih =>
    intro j hj h i hi
    cases hc : (mmf fr j).2.1.1 with
    | none =>
      obtain ⟨-, -, h1 | ⟨a, h1, h2, -⟩⟩ := h.2 j h.1
      · rw [h1.2.2.1] at hi
        rw [List.mem_singleton.mp hi]
        exact ⟨h, fun x hx => hx⟩
      · rw [h1] at hc; cases hc
    | some a =>
      obtain ⟨h1, h2, h3⟩ := mmCn_caller h hc
      rw [h3] at hi
      rcases List.mem_cons.mp hi with e | hi
      · rw [e]
        exact ⟨h, fun x hx => hx⟩
      · obtain ⟨h4, h5⟩ := ih a (by omega) h1 i hi
        exact ⟨h4, fun x hx => by rw [h3]; exact List.mem_cons_of_mem _ (h5 x hx)⟩
/-! writes -/
def mmWr (i : Nat) (V : mmV) (T : mmT) (V' : mmV) (T' : mmT) : Prop :=
  (∀ t, t ≤ T.length → ∀ j y, mmUn V' T' t j y = mmUn V T t j y) ∧ T.length ≤ T'.length ∧ (∀ j, j ≠ i → ∀ y, V' j y = V j y) ∧ ∀ tl, tl ≤ T.length → ∀ e, e ∈ T'.take (T'.length - tl) → e ∈ T.take (T.length - tl) ∨ e.1 = i
theorem mmWr_refl {i : Nat} {V : mmV} {T : mmT} : mmWr i V T V T := ⟨fun _ _ _ _ => rfl, Nat.le_refl _, fun _ _ _ => rfl, fun _ _ _ h => Or.inl h⟩
theorem mmWr_trans {i : Nat} {V V1 V2 : mmV} {T T1 T2 : mmT} (h : mmWr i V T V1 T1) (k : mmWr i V1 T1 V2 T2) : mmWr i V T V2 T2 := by
  refine ⟨fun t ht j y => ?_, Nat.le_trans h.2.1 k.2.1, fun j hj y => ?_, fun tl ht e he => ?_⟩
  · rw [k.1 t (Nat.le_trans ht h.2.1), h.1 t ht]
  · rw [k.2.2.1 j hj, h.2.2.1 j hj]
  · rcases k.2.2.2 tl (Nat.le_trans ht h.2.1) e he with q | q
    · exact h.2.2.2 tl ht e q
    · exact Or.inr q
theorem mm_take_cons {S : Type} (a : S) (T : List S) {t : Nat} (h : t ≤ T.length) : (a :: T).take ((a :: T).length - t) = a :: T.take (T.length - t) := by
  rw [List.length_cons, show T.length + 1 - t = (T.length - t) + 1 by omega, List.take_succ_cons]
theorem mmAg_wr {V : mmV} {T : mmT} {i x : Nat} {o : Option smG} : mmWr i V T (mmAg V T i x o).2.1 (mmAg V T i x o).2.2 := by
  unfold mmAg
  by_cases c : V i x = none
  · rw [if_pos c]
    refine ⟨fun t ht j y => ?_, Nat.le_succ _, fun j hj y => ?_, fun tl ht e he => ?_⟩
    · unfold mmUn
      rw [mm_take_cons _ _ ht]
      by_cases e : (j, y) = (i, x)
      · rw [if_pos (by rw [e]; exact List.mem_cons_self)]
        cases e
        rw [c]
        split <;> rfl
      · have e2 : ¬ (j = i ∧ y = x) := fun h => e (by rw [h.1, h.2])
        simp only [List.mem_cons, e, false_or, if_neg e2]
    · show (if j = i ∧ y = x then o else V j y) = V j y
      rw [if_neg (fun h => hj h.1)]
    · have he : e ∈ ((i, x) :: T).take (((i, x) :: T).length - tl) := he
      rw [mm_take_cons _ _ ht] at he
      rcases List.mem_cons.mp he with e1 | e1
      · exact Or.inr (by rw [e1])
      · exact Or.inl e1
  · rw [if_neg c]
    exact mmWr_refl
theorem mmHb_wr {inp : Nat → Bool} {j i : Nat} {g : smL} : ∀ (ks : List Nat) (V : mmV) (T : mmT), mmWr i V T (mmHb inp j i g ks V T).2.1 (mmHb inp j i g ks V T).2.2
  | [], _, _ => mmWr_refl
  | k :: ks, V, T => by
    unfold mmHb
    split
    · exact mmHb_wr ks V T
    · split
      · exact mmWr_trans mmAg_wr (mmHb_wr ks _ _)
      · exact mmAg_wr
theorem mmCo_wr {V V' : mmV} {T T' : mmT} {i : Nat} {c : mmCG} (hw : mmWr i V T V' T') (h : mmCo C Gd fr G cls V T c) : mmCo C Gd fr G cls V' T' c := by
  obtain ⟨h1, h2, h3, h4, h5, h6, h7⟩ := h
  exact ⟨h1, h2, h3, h4, Nat.le_trans h5 hw.2.1, fun a ha x => by rw [hw.1 _ h5]; exact h6 a ha x, h7⟩
theorem mmDn_wr {V V' : mmV} {T T' : mmT} {i j : Nat} (hw : mmWr i V T V' T') (hj : j ≤ i) (hn : mmCn C Gd fr G j) (h : mmDn C fr G cls V j) : mmDn C fr G cls V' j := by
  intro j' hj' a ha
  obtain ⟨h1, h2⟩ := h j' hj' a ha
  have h3 := (mmCn_caller (mmCn_mem j j (Nat.le_refl _) hn j' hj').1 ha).2.1
  have h4 := mmCn_le hn hj'
  refine ⟨h1, fun x => ?_⟩
  rw [hw.2.2.1 a (by omega)]
  exact h2 x
theorem mmLo_wr {V V' : mmV} {T T' : mmT} {i : Nat} {l : mmLG} (hw : mmWr i V T V' T') (hl : l.1 ≤ i) (h : mmLo C Gd fr G cls V T l) : mmLo C Gd fr G cls V' T' l := by
  obtain ⟨h1, h2, h3, ⟨a, h4, h5⟩, h6, h7⟩ := h
  refine ⟨h1, mmDn_wr hw hl h1 h2, h3, ⟨a, h4, fun b hb x => ?_⟩, Nat.le_trans h6 hw.2.1, fun e he => ?_⟩
  · obtain ⟨q1, q2, -⟩ := mmCn_caller h1 h4
    have := mmCn_le q1 hb
    rw [hw.2.2.1 b (by omega)]
    exact h5 b hb x
  · rcases hw.2.2.2 _ h6 e he with q | q
    · exact h7 e q
    · omega
/-! nodes and writes -/
theorem mmZ_congr {V V' : mmV} {L : List Nat} (h : ∀ i, i ∈ L → ∀ x, V i x = V' i x) : mmZ V L = mmZ V' L := by
  funext v
  refine propext ⟨fun q i hi x g hg => q i hi x g (by rw [h i hi x]; exact hg), fun q i hi x g hg => q i hi x g (by rw [← h i hi x]; exact hg)⟩
theorem mmZ_sat (V : mmV) (L : List Nat) : ∃ v, mmZ V L v := ⟨fun i x => (V i x).getD (0, 0), fun i _ x g hg => by simp only [hg, Option.getD_some]⟩
theorem mmRf_ag {pg : smP} {V : mmV} {T : mmT} {L : List Nat} {i x : Nat} {w : smG} {it : smI} {P : List smI} (hi : i ∈ L) (h2 : it.2.1 ≠ 2) (h3 : it.2.1 ≠ 3) (hz : ∀ v, mmZ V L v → (smEq v it ↔ v i x = w)) :
    smRf pg (it :: P, mmZ V L) (if (mmAg V T i x (some w)).1 = true then [(P, mmZ (mmAg V T i x (some w)).2.1 L)] else []) := by
  unfold mmAg
  by_cases c : V i x = none
  · rw [if_pos c, if_pos rfl]
    refine smRf_one (smRf_eq (A := []) h2 h3) (smRf_congr (fun v => ?_) (fun _ _ _ _ _ => Iff.rfl))
    constructor
    · intro ⟨q1, q2⟩ j hj y g hg
      have hg : (if j = i ∧ y = x then some w else V j y) = some g := hg
      split at hg
      · rename_i e
        cases hg
        rw [e.1, e.2]
        exact (hz v q1).mp q2
      · exact q1 j hj y g hg
    · intro q
      have q1 : mmZ V L v := fun j hj y g hg => q j hj y g (by
        show (if j = i ∧ y = x then some w else V j y) = some g
        rw [if_neg (fun e => by rw [e.1, e.2, c] at hg; cases hg)]
        exact hg)
      exact ⟨q1, (hz v q1).mpr (q i hi x w (by
        show (if i = i ∧ x = x then some w else V i x) = some w
        rw [if_pos ⟨rfl, rfl⟩]))⟩
  · rw [if_neg c]
    obtain ⟨g, hg⟩ := Option.ne_none_iff_exists'.mp c
    by_cases e : g = w
    · have e2 : decide (V i x = some w) = true := by rw [hg, e]; exact decide_eq_true rfl
      rw [if_pos e2]
      refine smRf_one (smRf_eq (A := []) h2 h3) (smRf_congr (fun v => ?_) (fun _ _ _ _ _ => Iff.rfl))
      exact ⟨fun q => q.1, fun q => ⟨q, (hz v q).mpr (by rw [← e]; exact q i hi x g hg)⟩⟩
    · have e2 : ¬ decide (V i x = some w) = true := fun h => e (by have h := of_decide_eq_true h; rw [hg] at h; exact Option.some.inj h)
      rw [if_neg e2]
      exact smRf_no (A := []) h2 h3 fun v q h => e (by rw [← q i hi x g hg]; exact (hz v q).mp h)
theorem mmAg_keep {V : mmV} {T : mmT} {i x j k : Nat} {o : Option smG} {w : smG} (h : V j k = some w) : (mmAg V T i x o).2.1 j k = some w := by
  unfold mmAg
  by_cases c : V i x = none
  · rw [if_pos c]
    show (if j = i ∧ k = x then o else V j k) = some w
    rw [if_neg (fun e => by rw [e.1, e.2, c] at h; cases h)]
    exact h
  · rw [if_neg c]; exact h
theorem mmRf_hb {pg : smP} {inp : Nat → Bool} {L : List Nat} {j i : Nat} {g : smL} {P : List smI} (hj : j ∈ L) (hi : i ∈ L) : ∀ (ks : List Nat) (V : mmV) (T : mmT), (∀ k, k ∈ ks → inp k = false → V j k ≠ none) →
    smRf pg (mmOut inp j i g ks ++ P, mmZ V L) (if (mmHb inp j i g ks V T).1 = true then [(P, mmZ (mmHb inp j i g ks V T).2.1 L)] else [])
  | [], V, T, _ => smRf_refl _
  | k :: ks, V, T, h => by
    unfold mmHb
    cases hk : inp k with
    | true =>
      have e : mmOut inp j i g (k :: ks) = mmOut inp j i g ks := by simp [mmOut, hk]
      rw [if_pos rfl, e]
      exact mmRf_hb hj hi ks V T fun x hx => h x (List.mem_cons_of_mem _ hx)
    | false =>
      have e : mmOut inp j i g (k :: ks) = (j, (4, i, 2, k, smv g k, 0)) :: mmOut inp j i g ks := by simp [mmOut, hk]
      rw [if_neg (show ¬ (false = true) from Bool.false_ne_true), e, List.cons_append]
      obtain ⟨w, hw⟩ := Option.ne_none_iff_exists'.mp (h k List.mem_cons_self hk)
      rw [hw]
      have q := mmRf_ag (pg := pg) (V := V) (T := T) (L := L) (i := i) (x := smv g k) (w := w) (it := (j, (4, i, 2, k, smv g k, 0))) (P := mmOut inp j i g ks ++ P) hi (by simp) (by simp) (fun v hv => by
        have e1 : v j k = w := hv j hj k w hw
        show v j k = v i (smv g k) ↔ _
        rw [e1]
        exact eq_comm)
      cases hb : (mmAg V T i (smv g k) (some w)).1 with
      | true =>
        rw [hb, if_pos rfl] at q
        rw [if_pos rfl]
        refine smRf_one q (mmRf_hb hj hi ks _ _ fun x hx hx2 => ?_)
        obtain ⟨u, hu⟩ := Option.ne_none_iff_exists'.mp (h x (List.mem_cons_of_mem _ hx) hx2)
        rw [mmAg_keep hu]
        simp
      | false =>
        rw [hb, if_neg (by simp)] at q
        simp only [hb, Bool.false_eq_true, if_false]
        exact q
/-- a frame that is left -/
theorem smRf_drop {pg : smP} {P : List smI} {V : mmV} {j : Nat} {L : List Nat} (hP : ∀ x, x ∈ P → j ∉ smIn x) (hj : j ∉ L) : smRf pg (P, mmZ V (j :: L)) [(P, mmZ V L)] := by
  have up : ∀ v, mmZ V L v → mmZ V (j :: L) (fun i => if i = j then (fun x => (V j x).getD (0, 0)) else v i) := fun v hv i hi x g hg => by
    by_cases e : i = j
    · subst e
      simp only [if_pos, hg, Option.getD_some]
    · simp only [if_neg e]
      exact hv i ((List.mem_cons.mp hi).resolve_left e) x g hg
  have ex : ∀ (v : smV), ∀ x, x ∈ P → ∀ i, i ∈ smIn x → v i = (fun i => if i = j then (fun x => (V j x).getD (0, 0)) else v i : smV) i := fun v x hx i hi => by
    have e : i ≠ j := fun e => hP x hx (e ▸ hi)
    simp only [if_neg e]
  refine ⟨0, fun n _ => ⟨fun k ⟨W, k', h1, h2, h3⟩ => ⟨W, ⟨h1.1, fun F hF => ?_, fun F v hv hs => ?_⟩, ?_⟩, fun ⟨x, h1, F, v, h2, h3⟩ => ?_⟩⟩
  · obtain ⟨v, q1, q2⟩ := h1.2.1 F hF
    exact ⟨_, up v q1, smS_ext P F (ex v) q2⟩
  · exact h1.2.2 F v (fun i hi => hv i (List.mem_cons_of_mem _ hi)) hs
  · have h2 : k' = 0 := h2
    omega
  · rw [List.mem_singleton.mp h1] at h2 h3
    exact ⟨F, _, up v h2, smS_ext P F (ex v) h3⟩
theorem mmIt_in {i : Nat} {os : List mmO} (h : ∀ e, e ∈ os → e.1.1 ≤ 3) {it : smI} (hi : it ∈ mmIt i os) {x : Nat} (hx : x ∈ smIn it) : x = i := by
  obtain ⟨e, he, rfl⟩ := List.mem_map.mp hi
  unfold smIn at hx
  rw [if_pos (h e he)] at hx
  exact List.mem_singleton.mp hx
theorem mmOut_in {inp : Nat → Bool} {j i : Nat} {g : smL} {ks : List Nat} {it : smI} (hi : it ∈ mmOut inp j i g ks) {x : Nat} (hx : x ∈ smIn it) : x = j ∨ x = i := by
  obtain ⟨k, hk, rfl⟩ := List.mem_map.mp hi
  unfold smIn at hx
  rw [if_neg (by simp)] at hx
  simpa using hx
theorem mmGo_kind {S : Nat → Prop} {e : mmO} (h : mmGo C Gd S e) : e.1.1 ≤ 3 := by
  rcases h with ⟨h, -⟩ | ⟨h, -⟩ | ⟨h | h, -⟩ <;> omega
theorem mmFa_kind (hF : mmFa C Gd) {pm : Nat × Nat} (hg : Gd pm) {c : Nat} (hc : c ∈ C.1.1.1 pm.1) {e : mmO} (he : e ∈ C.2.1.2 pm.2 c) : e.1.1 ≤ 3 := by
  obtain ⟨i, hi⟩ := List.mem_iff_getElem?.mp he
  exact mmGo_kind (((hF.2.2 pm hg).1 c hc).2.1 i e hi)
theorem mmFa_bkind (hF : mmFa C Gd) {pm : Nat × Nat} (hg : Gd pm) {c : Nat} (hc : c ∈ C.1.1.1 pm.1) {g : smL} (he : g ∈ C.1.1.2 c) : g.1 ≤ 3 := by
  obtain ⟨e, h1, h2⟩ := List.mem_map.mp ((((hF.2.2 pm hg).1 c hc).1).mem_iff.mpr he)
  rw [← h2]
  exact mmFa_kind hF hg hc h1
/-- what is left behind a frame speaks of the frames that are alive with it -/
theorem mmK_in (hF : mmFa C Gd) : ∀ (n j : Nat), j ≤ n → mmCn C Gd fr G j → ∀ it, it ∈ G.1 j → ∀ x, x ∈ smIn it → x ∈ G.2.1 j := by
  intro n
  induction n with
  | zero =>
    intro j hj h it hit x hx
    obtain ⟨-, -, h1 | ⟨a, h1, h2, -⟩⟩ := h.2 j h.1
    · rw [h1.2.1] at hit; cases hit
    · omega
  | succ n ih =>
    intro j hj h it hit x hx
    obtain ⟨-, -, h1 | ⟨a, h1, h2, h3, h4, h5, h6, e, h7, h8, h9, h10, h11⟩⟩ := h.2 j h.1
    · rw [h1.2.1] at hit; cases hit
    · have hn := (mmCn_caller h h1).1
      have hg := (hn.2 a hn.1).2.1
      rw [h11] at hit
      rcases List.mem_append.mp hit with q | q
      · rcases mmOut_in q hx with e | e
        · rw [e]; exact h.1
        · rw [e, h3]; exact List.mem_cons_of_mem _ h4
      · split at q
        · cases q
        · rcases List.mem_append.mp q with q | q
          · rw [mmIt_in (fun e he => mmFa_kind hF hg h5 (List.mem_of_mem_drop he)) q hx, h3]
            exact List.mem_cons_of_mem _ h4
          · rw [h3]
            exact List.mem_cons_of_mem _ (ih a (by omega) hn it q x hx)
end MW
