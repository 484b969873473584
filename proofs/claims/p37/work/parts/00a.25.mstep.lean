/-! Own rows: a turn of the machine keeps its invariant, and what is owed goes backwards over it. -/
section MS
variable {C : mmC} {Gd : Nat × Nat → Prop}
abbrev mmNa (S : mmS) : Nat := S.2.2.2.1.1
abbrev mmFr (S : mmS) : List mmF := S.1.1
/-- what a turn leaves: the invariant, and the way back -/
def mmNx (C : mmC) (Gd : Nat × Nat → Prop) (G : mmGh) (top : List mmCG) (lv : List (mmLG × List mmCG)) (an : Option (Nat × Nat)) (S S' : mmS) : Prop :=
  ∃ G' top' lv' an', mmIn C Gd G' top' lv' an' S' ∧ mmNa S ≤ mmNa S' ∧ ∀ k, smGood C.1.1 (mmNs C G' top' an' S') (mmSt C (mmFr S') G' lv') k → smGood C.1.1 (mmNs C G top an S) (mmSt C (mmFr S) G lv) (k + (mmNa S' - mmNa S))
theorem mmPw_tail {a : Nat × Nat × Nat} {ch : mmH} (h : mmPw (a :: ch)) : (∀ b, b ∈ ch → b.1 < a.1 ∧ b.2.2 ≤ a.2.2) ∧ mmPw ch := List.pairwise_cons.mp h
theorem mmLv_mem {fr : List mmF} {G : mmGh} : ∀ (lv : List (mmLG × List mmCG)) (top : List mmCG) (ch : mmH) (den : Option Nat), mmLv fr G top lv ch den → ch = (top ++ lv.flatMap (fun l => l.2)).map (fun c => c.1)
  | [], top, ch, den, h => by simpa using h.2.2
  | (l, outer) :: lv, top, ch, den, h => by
    obtain ⟨-, -, -, -, ch', h5, -, h6⟩ := h
    rw [h5, mmLv_mem lv outer ch' _ h6]
    simp
theorem mm_drop_take {S : Type} (T : List S) {t tl : Nat} (h1 : tl ≤ t) (h2 : t ≤ T.length) : T.take (T.length - tl) = T.take (T.length - t) ++ (T.drop (T.length - t)).take (t - tl) := by
  rw [show T.length - tl = (T.length - t) + (t - tl) by omega, List.take_add]
theorem mm_pop (hF : mmFa C Gd) {fr : List mmF} {cls : Nat → Option Nat} {V : mmV} {ch : mmH} {T : mmT} {cur den : Option Nat} {pl : Nat} {fl : Bool} {tm : List smG} {nn : Nat × Nat × Nat × Nat} {nt : List (Nat × Nat)} {G : mmGh} {top : List mmCG} {lv : List (mmLG × List mmCG)} {an : Option (Nat × Nat)}
    (hI : mmIn C Gd G top lv an ((fr, cls, V, ch, T), (cur, pl, den, fl), tm, nn, nt)) (hfl : fl = true) (htop : lv ≠ [] → top ≠ []) :
    match mmPop C ((fr, cls, V, ch, T), (cur, pl, den, fl), tm, nn, nt) with
    | .inl S' => mmNx C Gd G top lv an ((fr, cls, V, ch, T), (cur, pl, den, fl), tm, nn, nt) S'
    | .inr r => r.1 = 0 ∧ mmNa r.2 = nn.1 ∧ smGood C.1.1 (mmNs C G top an ((fr, cls, V, ch, T), (cur, pl, den, fl), tm, nn, nt)) (mmSt C fr G lv) 0 := by
  obtain ⟨hlv, hco, hlo, hpw, han, -⟩ := hI
  have han := han hfl
  subst han
  cases top with
  | nil =>
    have e : lv = [] := by
      cases lv with
      | nil => rfl
      | cons l lv => exact absurd rfl (htop (by simp))
    subst e
    have e2 : ch = [] := hlv.2.2
    subst e2
    exact ⟨rfl, rfl, smGood_end⟩
  | cons c0 top1 =>
    obtain ⟨⟨f, k, t⟩, gv⟩ := c0
    obtain ⟨ch', rfl⟩ : ∃ ch', ch = (f, k, t) :: ch' := by
      have := mmLv_mem lv _ ch den hlv
      exact ⟨_, this⟩
    obtain ⟨hp1, hp2⟩ := mmPw_tail hpw
    obtain ⟨c1, c2, c3, c4, c5, c6, c7⟩ := hco _ (List.mem_append_left _ List.mem_cons_self)
    have c1 : mmCn C Gd fr G f := c1
    have c2 : mmDn C fr G cls gv f := c2
    have c3 : k < (C.1.1.1 (mmf fr f).1.1).length := c3
    have c5 : t ≤ T.length := c5
    have c6 : ∀ i, i ∈ G.2.1 f → ∀ x, mmUn V T t i x = gv i x := c6
    have hbf : mmBs fr G (mmHd lv) f := by
      cases lv with
      | nil => exact hlv.2.1 _ List.mem_cons_self
      | cons l lv => exact (hlv.2.1 _ List.mem_cons_self).1
    have hle := mmLv_le lv _ _ _ f hlv hlo c1 hbf
    have hT : (T.drop (T.length - t)).length = t := by rw [List.length_drop]; omega
    -- what is taken back lies above every level
    have hback : ∀ l, l ∈ lv → ∀ e, e ∈ T.take (T.length - t) → l.1.1 ≤ e.1 := by
      cases lv with
      | nil => intro l hl; exact absurd hl List.not_mem_nil
      | cons l0 lv =>
        intro l hl e he
        have q1 : l0.1.2.1 ≤ t := (hlv.2.1 _ List.mem_cons_self).2
        obtain ⟨b1, b2, b3, ⟨a, b4, b5⟩, b6, b7⟩ := hlo l0 List.mem_cons_self
        have q2 : l0.1.1 ≤ e.1 := b7 e (by rw [mm_drop_take T q1 c5]; exact List.mem_append_left _ he)
        rcases List.mem_cons.mp hl with e1 | hl1
        · rw [e1]; exact q2
        · obtain ⟨-, -, h3, -, ch2, -, -, h4⟩ := hlv
          obtain ⟨q3, q4, q5⟩ := mmCn_caller b1 b4
          have := (mmLv_le lv _ ch2 _ a h4 (fun x hx => hlo x (List.mem_cons_of_mem _ hx)) q3 (h3 a b4) l hl1).1
          omega
    have htl : ∀ l, l ∈ lv → l.1.2.1 ≤ t := by
      have go : ∀ (lv : List (mmLG × List mmCG)) (top : List mmCG) (ch : mmH) (den : Option Nat) (b : Nat), mmLv fr G top lv ch den → (∀ l, l ∈ lv.head? → l.1.2.1 ≤ b) → ∀ l, l ∈ lv → l.1.2.1 ≤ b := by
        intro lv
        induction lv with
        | nil => intro _ _ _ _ _ _ l hl; exact absurd hl List.not_mem_nil
        | cons l0 lv ih =>
          intro top ch den b h hb l hl
          have q1 : l0.1.2.1 ≤ b := hb l0 rfl
          rcases List.mem_cons.mp hl with e1 | hl1
          · rw [e1]; exact q1
          · obtain ⟨-, -, -, h3, ch2, -, -, h4⟩ := h
            exact ih _ _ _ b h4 (fun l' hl' => Nat.le_trans (h3 l' hl') q1) l hl1
      refine go lv _ _ _ t hlv fun l hl => ?_
      cases lv with
      | nil => cases hl
      | cons l0 lv =>
        have e : l0 = l := Option.some.inj hl
        rw [← e]
        exact (hlv.2.1 _ List.mem_cons_self).2
    have hun : ∀ t', t' ≤ t → ∀ i x, mmUn (mmUn V T t) (T.drop (T.length - t)) t' i x = mmUn V T t' i x := by
      intro t' ht' i x
      unfold mmUn
      rw [hT, mm_drop_take T ht' c5]
      by_cases q1 : (i, x) ∈ T.take (T.length - t) <;> by_cases q2 : (i, x) ∈ (T.drop (T.length - t)).take (t - t') <;> simp [q1, q2]
    have hVl : ∀ l, l ∈ lv → ∀ i, i < l.1.1 → ∀ x, mmUn V T t i x = V i x := by
      intro l hl i hi x
      unfold mmUn
      rw [if_neg (fun h => by have := hback l hl _ h; simp at this; omega)]
    have hgd : Gd (mmf fr f).1 := (c1.2 f c1.1).2.1
    have hck : (C.1.1.1 (mmf fr f).1.1).getD k 0 ∈ C.1.1.1 (mmf fr f).1.1 := by
      rw [List.getD_eq_getElem?_getD, List.getElem?_eq_getElem c3]
      exact List.getElem_mem c3
    generalize hckd : (C.1.1.1 (mmf fr f).1.1).getD k 0 = ck at hck
    have hlo' : ∀ l, l ∈ lv → mmLo C Gd fr G (mmUp cls f ck) (mmUn V T t) (T.drop (T.length - t)) l.1 := by
      intro l hl
      refine mmLo_up (hle l hl).1 ?_
      obtain ⟨b1, b2, b3, ⟨a, b4, b5⟩, b6, b7⟩ := hlo l hl
      refine ⟨b1, ?_, b3, ⟨a, b4, fun i hi x => ?_⟩, by rw [hT]; exact htl l hl, fun e he => b7 e ?_⟩
      · intro j' hj' i hi
        obtain ⟨q1, q2⟩ := b2 j' hj' i hi
        have q3 := (mmCn_caller (mmCn_mem _ _ (Nat.le_refl _) b1 j' hj').1 hi).2.1
        have q4 := mmCn_le b1 hj'
        exact ⟨q1, fun x => by rw [hVl l hl i (by omega)]; exact q2 x⟩
      · obtain ⟨q1, q2, -⟩ := mmCn_caller b1 b4
        have q3 := mmCn_le q1 hi
        rw [hVl l hl i (by omega)]
        exact b5 i hi x
      · rw [hT] at he
        rw [mm_drop_take T (htl l hl) c5]
        exact List.mem_append_right _ he
    have hfl2 : ∀ c, c ∈ top1 ++ lv.flatMap (fun l => l.2) → mmCo C Gd fr G (mmUp cls f ck) (mmUn V T t) (T.drop (T.length - t)) c := by
      intro c hc
      have hm := mmLv_mem lv _ _ den hlv
      have hcm : c.1 ∈ ch' := by
        have e : ch' = (top1 ++ lv.flatMap (fun l => l.2)).map (fun c => c.1) := by
          simpa using hm
        rw [e]
        exact List.mem_map.mpr ⟨c, hc, rfl⟩
      obtain ⟨q1, q2⟩ := hp1 _ hcm
      have q1 : c.1.1 < f := q1
      have q2 : c.1.2.2 ≤ t := q2
      refine mmCo_up (Nat.le_of_lt q1) ?_
      obtain ⟨b1, b2, b3, b4, b5, b6, b7⟩ := hco c (List.mem_cons_of_mem _ hc)
      exact ⟨b1, b2, b3, b4, by rw [hT]; exact q2, fun i hi x => by rw [hun _ q2]; exact b6 i hi x, b7⟩
    have hcn : mmCo C Gd fr G (mmUp cls f ck) (mmUn V T t) (T.drop (T.length - t)) ((f, k + 1, t), gv) ∨ ¬ k + 1 < (C.1.1.1 (mmf fr f).1.1).length := by
      by_cases q : k + 1 < (C.1.1.1 (mmf fr f).1.1).length
      · exact Or.inl ⟨c1, mmDn_up c1 (Nat.le_refl _) c2, q, c4, by rw [hT]; exact Nat.le_refl _, fun i hi x => by rw [hun t (Nat.le_refl _)]; exact c6 i hi x, c7⟩
      · exact Or.inr q
    have hac : mmAc C Gd fr G (mmUp cls f ck) (mmUn V T t) f ck 0 := by
      refine ⟨c1, mmDn_up c1 (Nat.le_refl _) (mmDn_congr c1 (fun i hi x => (c6 i hi x).symm) c2), by simp [mmUp], hck, Nat.zero_le _, fun x => ?_⟩
      rw [List.take_zero, mmKn_nil, c6 f c1.1]
      exact c7 x
    have hnd : mmNd C fr G (mmUn V T t) f ck 0 = mmNd C fr G gv f ck 0 := by
      unfold mmNd
      rw [mmZ_congr c6]
    have hdrop : (C.1.1.1 (mmf fr f).1.1).drop k = ck :: (C.1.1.1 (mmf fr f).1.1).drop (k + 1) := by
      rw [List.drop_eq_getElem_cons c3, ← hckd, List.getD_eq_getElem?_getD, List.getElem?_eq_getElem c3]
      rfl
    unfold mmPop
    simp only [hckd]
    by_cases hk : k + 1 < (C.1.1.1 (mmf fr f).1.1).length
    · simp only [if_pos hk]
      refine ⟨G, ((f, k + 1, t), gv) :: top1, lv, some (f, ck), ⟨?_, ?_, hlo', ?_, (by intro h; cases h), fun _ => ⟨f, ck, rfl, rfl, hac, hbf⟩⟩, Nat.le_refl _, fun r g => ?_⟩
      · cases lv with
        | nil =>
          obtain ⟨h1, h2, h3⟩ := hlv
          refine ⟨h1, fun c hc => ?_, ?_⟩
          · rcases List.mem_cons.mp hc with e | hc
            · rw [e]; exact hbf
            · exact h2 c (List.mem_cons_of_mem _ hc)
          · rw [List.map_cons] at h3 ⊢
            rw [(List.cons.inj h3).2]
        | cons l lv =>
          obtain ⟨h1, h2, h3, h4, ch2, h5, h6⟩ := hlv
          refine ⟨h1, fun c hc => ?_, h3, h4, ch2, ?_, h6⟩
          · rcases List.mem_cons.mp hc with e | hc
            · rw [e]; exact h2 ((f, k, t), gv) List.mem_cons_self
            · exact h2 c (List.mem_cons_of_mem _ hc)
          · rw [List.map_cons, List.cons_append] at h5 ⊢
            rw [(List.cons.inj h5).2]
      · intro c hc
        rcases List.mem_cons.mp hc with e | hc
        · rw [e]; exact hcn.resolve_right (fun h => h hk)
        · exact hfl2 c hc
      · exact List.pairwise_cons.mpr ⟨fun b hb => hp1 b hb, hp2⟩
      · have g2 : smGood C.1.1 ([mmNd C fr G (mmUn V T t) f ck 0] ++ (((f, k + 1, t), gv) :: top1).flatMap (mmCd C fr G)) (mmSt C fr G lv) r := g
        show smGood C.1.1 ([] ++ (((f, k, t), gv) :: top1).flatMap (mmCd C fr G)) (mmSt C fr G lv) (r + (nn.1 - nn.1))
        rw [Nat.sub_self, Nat.add_zero]
        rw [hnd] at g2
        simp only [List.flatMap_cons, mmCd] at g2 ⊢
        rw [hdrop]
        simpa using g2
    · simp only [if_neg hk]
      have hnil : (C.1.1.1 (mmf fr f).1.1).drop (k + 1) = [] := List.drop_eq_nil_of_le (by omega)
      refine ⟨G, top1, lv, some (f, ck), ⟨?_, hfl2, hlo', hp2, (by intro h; cases h), fun _ => ⟨f, ck, rfl, rfl, hac, hbf⟩⟩, Nat.le_refl _, fun r g => ?_⟩
      · cases lv with
        | nil =>
          obtain ⟨h1, h2, h3⟩ := hlv
          refine ⟨h1, fun c hc => h2 c (List.mem_cons_of_mem _ hc), ?_⟩
          rw [List.map_cons] at h3
          exact (List.cons.inj h3).2
        | cons l lv =>
          obtain ⟨h1, h2, h3, h4, ch2, h5, h6⟩ := hlv
          refine ⟨h1, fun c hc => h2 c (List.mem_cons_of_mem _ hc), h3, h4, ch2, ?_, h6⟩
          rw [List.map_cons, List.cons_append] at h5
          exact (List.cons.inj h5).2
      · have g2 : smGood C.1.1 ([mmNd C fr G (mmUn V T t) f ck 0] ++ top1.flatMap (mmCd C fr G)) (mmSt C fr G lv) r := g
        show smGood C.1.1 ([] ++ (((f, k, t), gv) :: top1).flatMap (mmCd C fr G)) (mmSt C fr G lv) (r + (nn.1 - nn.1))
        rw [Nat.sub_self, Nat.add_zero]
        rw [hnd] at g2
        simp only [List.flatMap_cons, mmCd] at g2 ⊢
        rw [hdrop, hnil]
        simpa using g2
theorem mmKn_succ {pm : Nat × Nat} {os : List mmO} {b : Nat} {e : mmO} (h : os[b]? = some e) {x : Nat} : mmKn C pm (os.take (b + 1)) x ↔ mmKn C pm (os.take b) x ∨ ∃ k, k < e.1.2.2.1 ∧ smv e.1 k = x := by
  have e1 : os.take (b + 1) = os.take b ++ [e] := by rw [List.take_add_one, h]; rfl
  rw [e1]
  unfold mmKn
  constructor
  · rintro (h1 | ⟨e', he', h2⟩)
    · exact Or.inl (Or.inl h1)
    · rcases List.mem_append.mp he' with q | q
      · exact Or.inl (Or.inr ⟨e', q, h2⟩)
      · rw [List.mem_singleton.mp q] at h2
        exact Or.inr h2
  · rintro ((h1 | ⟨e', he', h2⟩) | h2)
    · exact Or.inl h1
    · exact Or.inr ⟨e', List.mem_append_left _ he', h2⟩
    · exact Or.inr ⟨e, List.mem_append_right _ (List.mem_singleton.mpr rfl), h2⟩
theorem mmNd_drop {fr : List mmF} {G : mmGh} {V : mmV} {i c b : Nat} {e : mmO} (h : (C.2.1.2 (mmf fr i).1.2 c)[b]? = some e) : mmNd C fr G V i c b = ((i, e.1) :: (mmIt i ((C.2.1.2 (mmf fr i).1.2 c).drop (b + 1)) ++ G.1 i), mmZ V (G.2.1 i)) := by
  obtain ⟨h1, h2⟩ := List.getElem?_eq_some_iff.mp h
  unfold mmNd
  rw [List.drop_eq_getElem_cons h1, h2]
  rfl
theorem mm_back (hF : mmFa C Gd) {fr : List mmF} {cls : Nat → Option Nat} {V : mmV} {ch : mmH} {T : mmT} {cur den : Option Nat} {pl : Nat} {fl : Bool} {tm : List smG} {nn : Nat × Nat × Nat × Nat} {nt : List (Nat × Nat)} {G : mmGh} {top : List mmCG} {lv : List (mmLG × List mmCG)} {an : Option (Nat × Nat)}
    (hI : mmIn C Gd G top lv an ((fr, cls, V, ch, T), (cur, pl, den, fl), tm, nn, nt)) (hfl : fl = true) :
    match mmBack C ((fr, cls, V, ch, T), (cur, pl, den, fl), tm, nn, nt) with
    | .inl S' => mmNx C Gd G top lv an ((fr, cls, V, ch, T), (cur, pl, den, fl), tm, nn, nt) S'
    | .inr r => r.1 = 0 ∧ mmNa r.2 = nn.1 ∧ smGood C.1.1 (mmNs C G top an ((fr, cls, V, ch, T), (cur, pl, den, fl), tm, nn, nt)) (mmSt C fr G lv) 0 := by
  have hI0 := hI
  obtain ⟨hlv, hco, hlo, hpw, han, -⟩ := hI
  unfold mmBack
  cases lv with
  | nil =>
    have e : den = none := hlv.1
    subst e
    exact mm_pop hF hI0 hfl (fun h => absurd rfl h)
  | cons l lv =>
    obtain ⟨⟨d, tl, gvr⟩, outer⟩ := l
    obtain ⟨h1, h2, h3, h4, ch', h5, h6, h7⟩ := hlv
    subst h1
    show match (if ch.length ≤ (mmf fr d).2.2.2.2 then _ else _ : mmS ⊕ (Nat × mmS)) with
      | .inl S' => _
      | .inr r => _
    by_cases hl : ch.length ≤ (mmf fr d).2.2.2.2
    · rw [if_pos hl]
      have h6 : ch'.length = (mmf fr d).2.2.2.2 := h6
      have e1 : top = [] := by
        rw [h5, List.length_append, List.length_map] at hl
        exact List.eq_nil_of_length_eq_zero (by omega)
      subst e1
      have e2 : ch = ch' := by simpa using h5
      subst e2
      have han := han hfl
      subst han
      obtain ⟨b1, b2, b3, ⟨a, b4, b5⟩, b6, b7⟩ := hlo _ List.mem_cons_self
      have b1 : mmCn C Gd fr G d := b1
      have b2 : mmDn C fr G cls V d := b2
      have b3 : (mmf fr d).2.2.1 = true := b3
      have b4 : (mmf fr d).2.1.1 = some a := b4
      have b5 : ∀ i, i ∈ G.2.1 a → ∀ x, V i x = gvr i x := b5
      obtain ⟨q1, q2, q3⟩ := mmCn_caller b1 b4
      obtain ⟨q4, q5⟩ := b2 d b1.1 a b4
      obtain ⟨-, -, ⟨w1, -⟩ | ⟨a', w1, w2, w3, w4, w5, w5b, e, w6, w7, w8, w9, -⟩⟩ := b1.2 d b1.1
      · rw [w1] at b4; cases b4
      rw [b4] at w1
      cases w1
      rw [if_pos b3] at w9
      have hgd : Gd (mmf fr a).1 := (q1.2 a q1.1).2.1
      have hgo := ((hF.2.2 _ hgd).1 _ w5).2.1 _ e w6
      have hall : ∀ k, k < e.1.2.2.1 → mmKn C (mmf fr a).1 ((C.2.1.2 (mmf fr a).1.2 (G.2.2 d)).take (mmf fr d).2.1.2.1) (smv e.1 k) := by
        rcases hgo with ⟨h, -⟩ | ⟨h, -⟩ | ⟨-, m, -, -, -, -, h⟩
        · omega
        · omega
        · exact h w9
      show mmNx C Gd G [] (((d, tl, gvr), outer) :: lv) none _ ((fr, cls, V, ch, T), ((mmf fr d).2.1.1, (mmf fr d).2.1.2.1 + 1, (mmf fr d).2.2.2.1, false), tm, nn, nt)
      refine ⟨G, outer, lv, some (a, G.2.2 d), ⟨h7, fun c hc => hco c ?_, fun x hx => hlo x (List.mem_cons_of_mem _ hx), hpw, (by intro h; cases h), fun _ => ⟨a, G.2.2 d, rfl, b4, ⟨q1, ?_, q4, w5, ?_, fun x => ?_⟩, h3 a b4⟩⟩, Nat.le_refl _, fun r g => ?_⟩
      · simpa using hc
      · intro j' hj' i hi
        exact b2 j' (by rw [q3]; exact List.mem_cons_of_mem _ hj') i hi
      · obtain ⟨q, -⟩ := List.getElem?_eq_some_iff.mp w6
        exact q
      · rw [mmKn_succ w6, q5 x]
        exact ⟨Or.inl, fun h => h.elim id fun ⟨k, hk, e⟩ => e ▸ hall k hk⟩
      · show smGood C.1.1 [] (mmSt C fr G (((d, tl, gvr), outer) :: lv)) (r + (nn.1 - nn.1))
        rw [Nat.sub_self, Nat.add_zero]
        refine smGood_held ?_
        have g2 : smGood C.1.1 ([mmNd C fr G V a (G.2.2 d) ((mmf fr d).2.1.2.1 + 1)] ++ outer.flatMap (mmCd C fr G)) (mmSt C fr G lv) r := g
        have e3 : mmNd C fr G V a (G.2.2 d) ((mmf fr d).2.1.2.1 + 1) = mmNd C fr G gvr ((mmf fr d).2.1.1.getD 0) (G.2.2 d) ((mmf fr d).2.1.2.1 + 1) := by
          rw [b4]
          unfold mmNd
          rw [mmZ_congr b5]
          rfl
        rw [e3] at g2
        exact g2
    · rw [if_neg hl]
      refine mm_pop hF hI0 hfl fun _ e => hl ?_
      rw [h5, e]
      simpa using Nat.le_of_eq h6
end MS
