/-! Own rows: a call of the machine: the clauses of a new frame. -/
section ME
variable {C : mmC} {Gd : Nat × Nat → Prop} {fr : List mmF} {G : mmGh} {cls : Nat → Option Nat}
theorem smRf_eqR {pg : smP} {A B : List smI} {it : smI} {Z : smV → Prop} (h2 : it.2.1 ≠ 2) (h3 : it.2.1 ≠ 3) : smRf pg (A ++ B, fun v => Z v ∧ smEq v it) [(A ++ it :: B, Z)] := by
  refine ⟨0, fun n _ => ⟨fun k ⟨V, k', h4, h5, h6⟩ => ⟨V, (smOK_eq h2 h3).mpr h4, ?_⟩, fun ⟨x, h4, h5⟩ => ?_⟩⟩
  · have h5 : k' = 0 := h5
    omega
  · rw [List.mem_singleton.mp h4] at h5
    obtain ⟨F, v, h6, h7⟩ := h5
    obtain ⟨h8, h9⟩ := (smS_eq h2 h3).mp h7
    exact ⟨F, v, ⟨h6, h8⟩, h9⟩
theorem mmRf_outs {pg : smP} {inp : Nat → Bool} {j i : Nat} {g : smL} {A B : List smI} : ∀ (ks : List Nat) (Z : smV → Prop), smRf pg (A ++ B, fun v => Z v ∧ ∀ k, k ∈ ks → inp k = false → v j k = v i (smv g k)) [(A ++ (mmOut inp j i g ks ++ B), Z)]
  | [], Z => smRf_congr (fun v => ⟨fun h => h.1, fun h => ⟨h, fun k hk => absurd hk List.not_mem_nil⟩⟩) (fun _ _ _ _ _ => Iff.rfl)
  | k :: ks, Z => by
    cases hk : inp k with
    | true =>
      have e : mmOut inp j i g (k :: ks) = mmOut inp j i g ks := by simp [mmOut, hk]
      rw [e]
      refine smRf_one (smRf_congr (fun v => ?_) (fun _ _ _ _ _ => Iff.rfl)) (mmRf_outs ks Z)
      constructor
      · intro ⟨h1, h2⟩
        exact ⟨h1, fun x hx => h2 x (List.mem_cons_of_mem _ hx)⟩
      · intro ⟨h1, h2⟩
        refine ⟨h1, fun x hx hi => ?_⟩
        rcases List.mem_cons.mp hx with e | hx
        · rw [e, hk] at hi; cases hi
        · exact h2 x hx hi
    | false =>
      have e : mmOut inp j i g (k :: ks) = (j, (4, i, 2, k, smv g k, 0)) :: mmOut inp j i g ks := by simp [mmOut, hk]
      rw [e, List.cons_append]
      refine smRf_one (smRf_congr (Z' := fun v => (Z v ∧ smEq v (j, (4, i, 2, k, smv g k, 0))) ∧ ∀ x, x ∈ ks → inp x = false → v j x = v i (smv g x)) (fun v => ?_) (fun _ _ _ _ _ => Iff.rfl)) (smRf_one (mmRf_outs ks _) (smRf_eqR (by simp) (by simp)))
      constructor
      · intro ⟨h1, h2⟩
        exact ⟨⟨h1, h2 k List.mem_cons_self hk⟩, fun x hx => h2 x (List.mem_cons_of_mem _ hx)⟩
      · intro ⟨⟨h1, h3⟩, h2⟩
        refine ⟨h1, fun x hx hi => ?_⟩
        rcases List.mem_cons.mp hx with e | hx
        · rw [e]; exact h3
        · exact h2 x hx hi
theorem mmRf_kid {i j kk m c : Nat} {g : smL} {B : List smI} {V : mmV} {L : List Nat} (hperm : ((C.2.1.2 m c).map (fun e => e.1)).Perm (C.1.1.2 c)) (hin : ∀ k, k < g.2.2.1 → C.2.1.1 g.2.1 m k = true → V i (smv g k) ≠ none) (hi : i ∈ L) (hj : j ∉ L) :
    smRf C.1.1 (smKid C.1.1 [] B (i, (kk, g.2)) (mmZ V L) j c) [(mmIt j (C.2.1.2 m c) ++ (mmOut (C.2.1.1 g.2.1 m) j i g (List.range g.2.2.1) ++ B), mmZ (mmNew V j (mmArgs (C.2.1.1 g.2.1 m) V i g)) (j :: L))] := by
  have hp : ([] ++ ((C.1.1.2 c).map (fun g => (j, g)) ++ B)).Perm (mmIt j (C.2.1.2 m c) ++ B) := by
    rw [List.nil_append]
    have e : mmIt j (C.2.1.2 m c) = ((C.2.1.2 m c).map (fun e => e.1)).map (fun g => (j, g)) := by simp [mmIt]
    rw [e]
    exact ((hperm.map _).symm).append_right B
  refine smRf_one (smRf_perm hp) (smRf_one (smRf_congr (Z' := fun v => (mmZ V L v ∧ ∀ k, k < g.2.2.1 → C.2.1.1 g.2.1 m k = true → v j k = v i (smv g k)) ∧ ∀ k, k ∈ List.range g.2.2.1 → C.2.1.1 g.2.1 m k = false → v j k = v i (smv g k)) (fun v => ?_) (fun _ _ _ _ _ => Iff.rfl)) (smRf_one (mmRf_outs _ _) (smRf_congr (fun v => ?_) (fun _ _ _ _ _ => Iff.rfl))))
  · constructor
    · intro ⟨h1, h2⟩
      exact ⟨⟨h1, fun k hk _ => h2 k hk⟩, fun k hk _ => h2 k (List.mem_range.mp hk)⟩
    · intro ⟨⟨h1, h2⟩, h3⟩
      refine ⟨h1, fun k hk => ?_⟩
      have hk : k < g.2.2.1 := hk
      show v j k = v i (smv g k)
      cases hb : C.2.1.1 g.2.1 m k with
      | true => exact h2 k hk hb
      | false => exact h3 k (List.mem_range.mpr hk) hb
  · constructor
    · intro ⟨h1, h2⟩ i' hi' x w hw
      by_cases e : i' = j
      · subst e
        simp only [mmNew, if_pos, mmArgs] at hw
        split at hw
        · rename_i h3
          rw [h2 x h3.1 h3.2]
          exact h1 i hi _ w hw
        · cases hw
      · simp only [mmNew, if_neg e] at hw
        exact h1 i' ((List.mem_cons.mp hi').resolve_left e) x w hw
    · intro h
      have h1 : mmZ V L v := fun i' hi' x w hw => h i' (List.mem_cons_of_mem _ hi') x w (by
        have e : i' ≠ j := fun e => hj (e ▸ hi')
        simp only [mmNew, if_neg e]
        exact hw)
      refine ⟨h1, fun k hk hb => ?_⟩
      obtain ⟨w, hw⟩ := Option.ne_none_iff_exists'.mp (hin k hk hb)
      rw [h1 i hi _ w hw]
      refine h j List.mem_cons_self k w ?_
      simp only [mmNew, if_pos, mmArgs]
      rw [if_pos ⟨hk, hb⟩]
      exact hw
theorem smGood_mid {pg : smP} {nd : smND} {ms A B : List smND} {st : List (smND × List smND)} {k : Nat} (h : smRf pg nd ms) (g : smGood pg (A ++ (ms ++ B)) st k) : smGood pg (A ++ nd :: B) st k := by
  have e1 : (A ++ (ms ++ B)).Perm (ms ++ (A ++ B)) := by
    rw [← List.append_assoc, ← List.append_assoc]
    exact (List.perm_append_comm).append_right B
  exact smGood_perm List.perm_middle.symm (smGood_rf h (smGood_perm e1 g))
theorem smGood_kids {pg : smP} {f h : Nat → smND} {B : List smND} {st : List (smND × List smND)} {k : Nat} : ∀ (l : List Nat) (A : List smND), (∀ c, c ∈ l → smRf pg (f c) [h c]) → smGood pg (A ++ (l.map h ++ B)) st k → smGood pg (A ++ (l.map f ++ B)) st k
  | [], _, _, g => g
  | c :: l, A, hr, g => by
    rw [List.map_cons, List.cons_append]
    refine smGood_mid (ms := [h c]) (hr c List.mem_cons_self) ?_
    have q := smGood_kids l (A ++ [h c]) (fun x hx => hr x (List.mem_cons_of_mem _ hx)) (by simpa using g)
    simpa using q
theorem smGood_none {pg : smP} {f : Nat → smND} {B : List smND} {st : List (smND × List smND)} {k : Nat} : ∀ (l : List Nat), (∀ c, c ∈ l → smRf pg (f c) []) → smGood pg B st k → smGood pg (l.map f ++ B) st k
  | [], _, g => g
  | c :: l, hr, g => by
    rw [List.map_cons, List.cons_append]
    exact smGood_rf (hr c List.mem_cons_self) (smGood_none l (fun x hx => hr x (List.mem_cons_of_mem _ hx)) g)
theorem smGood_only {pg : smP} {f : Nat → smND} {B : List smND} {st : List (smND × List smND)} {k c : Nat} {l : List Nat} (hn : l.Nodup) (hc : c ∈ l) (hr : ∀ x, x ∈ l → x ≠ c → smRf pg (f x) []) (g : smGood pg (f c :: B) st k) : smGood pg (l.map f ++ B) st k := by
  obtain ⟨l1, l2, rfl⟩ := List.append_of_mem hc
  obtain ⟨n1, n2, n3⟩ := List.nodup_append.mp hn
  have n4 := (List.nodup_cons.mp n2).1
  rw [List.map_append, List.append_assoc]
  refine smGood_none l1 (fun x hx => hr x (List.mem_append_left _ hx) (fun e => n3 x hx c List.mem_cons_self e)) ?_
  rw [List.map_cons, List.cons_append]
  have q : smGood pg (l2.map f ++ ([f c] ++ B)) st k := smGood_none l2 (fun x hx => hr x (List.mem_append_right _ (List.mem_cons_of_mem _ hx)) (fun e => n4 (e ▸ hx))) g
  refine smGood_perm ?_ q
  rw [← List.append_assoc, ← List.cons_append]
  exact (List.perm_append_comm (l₁ := l2.map f) (l₂ := [f c])).append_right B
/-! a frame's clause is set -/
theorem mmDn_up {V : mmV} {x j c : Nat} (hn : mmCn C Gd fr G x) (hx : x ≤ j) (h : mmDn C fr G cls V x) : mmDn C fr G (mmUp cls j c) V x := by
  intro j' hj' a ha
  obtain ⟨h1, h2⟩ := h j' hj' a ha
  have h3 := (mmCn_caller (mmCn_mem x x (Nat.le_refl _) hn j' hj').1 ha).2.1
  have h4 := mmCn_le hn hj'
  refine ⟨?_, h2⟩
  unfold mmUp
  rw [if_neg (by omega)]
  exact h1
theorem mmCo_up {V : mmV} {T : mmT} {ce : mmCG} {j c : Nat} (hx : ce.1.1 ≤ j) (h : mmCo C Gd fr G cls V T ce) : mmCo C Gd fr G (mmUp cls j c) V T ce :=
  ⟨h.1, mmDn_up h.1 hx h.2.1, h.2.2⟩
theorem mmLo_up {V : mmV} {T : mmT} {l : mmLG} {j c : Nat} (hx : l.1 ≤ j) (h : mmLo C Gd fr G cls V T l) : mmLo C Gd fr G (mmUp cls j c) V T l :=
  ⟨h.1, mmDn_up h.1 hx h.2.1, h.2.2⟩
theorem mmDn_congr {V V' : mmV} {j : Nat} (hn : mmCn C Gd fr G j) (e : ∀ i, i ∈ G.2.1 j → ∀ x, V i x = V' i x) (h : mmDn C fr G cls V j) : mmDn C fr G cls V' j := by
  intro j' hj' a ha
  obtain ⟨h1, h2⟩ := h j' hj' a ha
  obtain ⟨q1, q2⟩ := mmCn_mem j j (Nat.le_refl _) hn j' hj'
  obtain ⟨q3, q4, q5⟩ := mmCn_caller q1 ha
  have q6 : a ∈ G.2.1 j := q2 a (by rw [q5]; exact List.mem_cons_of_mem _ q3.1)
  exact ⟨h1, fun x => by rw [← e a q6]; exact h2 x⟩
/-- levels lie below a frame of theirs -/
theorem mmLv_le {V : mmV} {T : mmT} : ∀ (lv : List (mmLG × List mmCG)) (top : List mmCG) (ch : mmH) (den : Option Nat) (i : Nat), mmLv fr G top lv ch den → (∀ l, l ∈ lv → mmLo C Gd fr G cls V T l.1) → mmCn C Gd fr G i → mmBs fr G (mmHd lv) i → ∀ l, l ∈ lv → l.1.1 ≤ i ∧ l.1.1 ∈ G.2.1 i
  | [], _, _, _, _, _, _, _, _, _, hl => absurd hl List.not_mem_nil
  | (l0, outer) :: lv, top, ch, den, i, h, hlo, hi, hb, l, hl => by
    obtain ⟨-, -, h3, -, ch', -, -, h4⟩ := h
    have hb1 : l0.1 ∈ G.2.1 i := hb.1
    rcases List.mem_cons.mp hl with e | hl
    · rw [e]
      exact ⟨mmCn_le hi hb1, hb1⟩
    · obtain ⟨q1, -, -, ⟨a, q2, -⟩, -⟩ := hlo (l0, outer) List.mem_cons_self
      obtain ⟨q3, q4, q5⟩ := mmCn_caller q1 q2
      obtain ⟨q6, q7⟩ := mmLv_le lv outer ch' _ a h4 (fun x hx => hlo x (List.mem_cons_of_mem _ hx)) q3 (h3 a q2) l hl
      have := mmCn_le hi hb1
      have q4 : a < l0.1 := q4
      refine ⟨Nat.le_trans q6 (by omega), (mmCn_mem i i (Nat.le_refl _) hi _ hb1).2 _ ?_⟩
      show l.1.1 ∈ G.2.1 l0.1
      rw [q5]
      exact List.mem_cons_of_mem _ q7
theorem mmLv_push {top : List mmCG} {lv : List (mmLG × List mmCG)} {ch : mmH} {den : Option Nat} {c : mmCG} (h : mmLv fr G top lv ch den) (hb : mmBs fr G (mmHd lv) c.1.1) (ht : ∀ l, l ∈ lv.head? → l.1.2.1 ≤ c.1.2.2) : mmLv fr G (c :: top) lv (c.1 :: ch) den := by
  cases lv with
  | nil =>
    obtain ⟨h1, h2, h3⟩ := h
    refine ⟨h1, fun x hx => ?_, by rw [h3]; rfl⟩
    rcases List.mem_cons.mp hx with e | hx
    · rw [e]; exact hb
    · exact h2 x hx
  | cons l lv =>
    obtain ⟨h1, h2, h3, h4, ch', h5, h6⟩ := h
    refine ⟨h1, fun x hx => ?_, h3, h4, ch', by rw [h5]; rfl, h6⟩
    rcases List.mem_cons.mp hx with e | hx
    · rw [e]; exact ⟨hb, ht l rfl⟩
    · exact h2 x hx
theorem smHd_B (c : Nat) (y : smG) : smHd (smB c y) = c := by
  unfold smHd smB
  by_cases h : c = 1
  · rw [if_pos h]; simp [h]
  · rw [if_neg h]; simp
theorem mmUn_all {V : mmV} {T : mmT} : mmUn V T T.length = V := by
  funext i x
  simp [mmUn]
theorem mmKn_nil {pm : Nat × Nat} {x : Nat} : mmKn C pm [] x ↔ C.2.1.1 pm.1 pm.2 x = true := by
  unfold mmKn
  exact ⟨fun h => h.elim id fun ⟨e, he, _⟩ => absurd he List.not_mem_nil, Or.inl⟩
theorem mmEnter_0 {V : mmV} {ch : mmH} {T : mmT} {cur den : Option Nat} {pl j na ns nc dp : Nat} {fl : Bool} {tm : List smG} {nt : List (Nat × Nat)} (h : mmFirst C V (mmf fr j).1 j = none) : mmEnter C j ((fr, cls, V, ch, T), (cur, pl, den, fl), tm, (na, ns, nc, dp), nt) = ((fr, cls, V, ch, T), (cur, pl, den, true), tm, (na, ns, nc, max dp (mmf fr j).2.1.2.2), mmNote (mmNote nt 99 (mmf fr j).1.1 (mmf fr j).2.1.2.2) 102 (mmf fr j).1.1 (mmf fr j).2.1.2.2) := by
  unfold mmEnter
  simp only [h]
theorem mmEnter_1 {V : mmV} {ch : mmH} {T : mmT} {cur den : Option Nat} {pl j na ns nc dp c : Nat} {fl : Bool} {tm : List smG} {nt : List (Nat × Nat)} (h : mmFirst C V (mmf fr j).1 j = some c) (hs : C.2.2.1 (mmf fr j).1.1 (mmf fr j).1.2 = none ∧ 1 < (C.1.1.1 (mmf fr j).1.1).length) : mmEnter C j ((fr, cls, V, ch, T), (cur, pl, den, fl), tm, (na, ns, nc, dp), nt) = ((fr, mmUp cls j c, V, (j, 1, T.length) :: ch, T), (some j, 0, den, fl), tm, (na, ns, nc + 1, max dp (mmf fr j).2.1.2.2), mmNote nt 99 (mmf fr j).1.1 (mmf fr j).2.1.2.2) := by
  unfold mmEnter
  simp only [h]
  rw [if_pos hs]
theorem mmEnter_2 {V : mmV} {ch : mmH} {T : mmT} {cur den : Option Nat} {pl j na ns nc dp c : Nat} {fl : Bool} {tm : List smG} {nt : List (Nat × Nat)} (h : mmFirst C V (mmf fr j).1 j = some c) (hs : ¬ (C.2.2.1 (mmf fr j).1.1 (mmf fr j).1.2 = none ∧ 1 < (C.1.1.1 (mmf fr j).1.1).length)) : mmEnter C j ((fr, cls, V, ch, T), (cur, pl, den, fl), tm, (na, ns, nc, dp), nt) = ((fr, mmUp cls j c, V, ch, T), (some j, 0, den, fl), tm, (na, ns, nc, max dp (mmf fr j).2.1.2.2), mmNote nt 99 (mmf fr j).1.1 (mmf fr j).2.1.2.2) := by
  unfold mmEnter
  simp only [h]
  rw [if_neg hs]
theorem mm_enter (hF : mmFa C Gd) {V : mmV} {ch : mmH} {T : mmT} {cur den : Option Nat} {pl j na ns nc dp : Nat} {tm : List smG} {nt : List (Nat × Nat)} {top : List mmCG} {lv : List (mmLG × List mmCG)}
    (hlv : mmLv fr G top lv ch den) (hco : ∀ c, c ∈ top ++ lv.flatMap (fun l => l.2) → mmCo C Gd fr G cls V T c ∧ c.1.1 < j) (hlo : ∀ l, l ∈ lv → mmLo C Gd fr G cls V T l.1) (hpw : mmPw ch) (hch : ∀ a, a ∈ ch → a.1 < j ∧ a.2.2 ≤ T.length)
    (hj : mmCn C Gd fr G j) (hd : mmDn C fr G cls V j) (hb : mmBs fr G (mmHd lv) j) (hV : ∀ x, V j x ≠ none ↔ C.2.1.1 (mmf fr j).1.1 (mmf fr j).1.2 x = true) :
    ∃ top' an', mmIn C Gd G top' lv an' (mmEnter C j ((fr, cls, V, ch, T), (cur, pl, den, false), tm, (na, ns, nc, dp), nt)) ∧ (mmEnter C j ((fr, cls, V, ch, T), (cur, pl, den, false), tm, (na, ns, nc, dp), nt)).2.2.2.1.1 = na ∧ (mmEnter C j ((fr, cls, V, ch, T), (cur, pl, den, false), tm, (na, ns, nc, dp), nt)).1.1 = fr ∧
      ∀ st k, smGood C.1.1 (mmNs C G top' an' (mmEnter C j ((fr, cls, V, ch, T), (cur, pl, den, false), tm, (na, ns, nc, dp), nt))) st k → smGood C.1.1 ((C.1.1.1 (mmf fr j).1.1).map (fun c => mmNd C fr G V j c 0) ++ top.flatMap (mmCd C fr G)) st k := by
  have hgd : Gd (mmf fr j).1 := (hj.2 j hj.1).2.1
  have hlj : ∀ l, l ∈ lv → l.1.1 ≤ j := fun l hl => (mmLv_le lv top ch den j hlv hlo hj hb l hl).1
  have hup : ∀ c0, (∀ c, c ∈ top ++ lv.flatMap (fun l => l.2) → mmCo C Gd fr G (mmUp cls j c0) V T c) ∧ ∀ l, l ∈ lv → mmLo C Gd fr G (mmUp cls j c0) V T l.1 := fun c0 =>
    ⟨fun c hc => mmCo_up (Nat.le_of_lt (hco c hc).2) (hco c hc).1, fun l hl => mmLo_up (hlj l hl) (hlo l hl)⟩
  have hact : ∀ c0, c0 ∈ C.1.1.1 (mmf fr j).1.1 → mmAc C Gd fr G (mmUp cls j c0) V j c0 0 := fun c0 hc0 => by
    refine ⟨hj, mmDn_up hj (Nat.le_refl _) hd, ?_, hc0, Nat.zero_le _, fun x => ?_⟩
    · simp [mmUp]
    · rw [List.take_zero, mmKn_nil]; exact hV x
  cases hs : C.2.2.1 (mmf fr j).1.1 (mmf fr j).1.2 with
  | none =>
    have e0 : mmFirst C V (mmf fr j).1 j = (C.1.1.1 (mmf fr j).1.1).head? := by simp only [mmFirst, hs]
    cases hcl : C.1.1.1 (mmf fr j).1.1 with
    | nil =>
      rw [hcl] at e0
      rw [mmEnter_0 e0]
      exact ⟨top, none, ⟨hlv, fun c hc => (hco c hc).1, hlo, hpw, fun _ => rfl, fun h => by cases h⟩, rfl, rfl, fun st k g => g⟩
    | cons c cs =>
      rw [hcl] at e0
      have hc : c ∈ C.1.1.1 (mmf fr j).1.1 := by rw [hcl]; exact List.mem_cons_self
      have e0 : mmFirst C V (mmf fr j).1 j = some c := e0
      by_cases hl : 1 < (c :: cs).length
      · rw [mmEnter_1 e0 ⟨hs, by rw [hcl]; exact hl⟩]
        refine ⟨((j, 1, T.length), V) :: top, some (j, c), ⟨mmLv_push hlv hb (fun l hl => (hlo l (List.mem_of_mem_head? hl)).2.2.2.2.1), ?_, (hup c).2, ?_, (by intro h; cases h), fun _ => ⟨j, c, rfl, rfl, hact c hc, hb⟩⟩, rfl, rfl, fun st k g => ?_⟩
        · intro x hx
          rcases List.mem_cons.mp hx with e | hx
          · rw [e]
            refine ⟨hj, mmDn_up hj (Nat.le_refl _) hd, ?_, hs, Nat.le_refl _, fun i _ x => ?_, hV⟩
            · show 1 < (C.1.1.1 (mmf fr j).1.1).length
              rw [hcl]; exact hl
            · show mmUn V T T.length i x = V i x
              rw [mmUn_all]
          · exact (hup c).1 x hx
        · exact List.pairwise_cons.mpr ⟨fun a ha => hch a ha, hpw⟩
        · have e1 : mmCd C fr G ((j, 1, T.length), V) = cs.map fun cc => mmNd C fr G V j cc 0 := by
            simp only [mmCd, hcl, List.drop_succ_cons, List.drop_zero]
          simp only [mmNs, List.flatMap_cons, e1] at g
          simpa using g
      · have hcs : cs = [] := by
          cases cs with
          | nil => rfl
          | cons a b => simp at hl
        rw [mmEnter_2 e0 (fun h => hl (by rw [← hcl]; exact h.2))]
        refine ⟨top, some (j, c), ⟨hlv, (hup c).1, (hup c).2, hpw, (by intro h; cases h), fun _ => ⟨j, c, rfl, rfl, hact c hc, hb⟩⟩, rfl, rfl, fun st k g => ?_⟩
        rw [hcs]
        simpa [mmNs] using g
  | some s =>
    obtain ⟨f1, f2, f3⟩ := ((hF.2.2 _ hgd).2.1) s hs
    obtain ⟨w, hw⟩ := Option.ne_none_iff_exists'.mp ((hV s).mpr f1)
    have hno : ∀ c, c ∈ C.1.1.1 (mmf fr j).1.1 → ∀ e, (C.2.1.2 (mmf fr j).1.2 c).head? = some e → e.1.2.1 ≠ smHd w → smRf C.1.1 (mmNd C fr G V j c 0) [] := by
      intro c hc e he hne
      obtain ⟨e', os, q1, q2, q3⟩ := f2 c hc
      rw [q1] at he
      cases he
      have e1 : mmNd C fr G V j c 0 = ((j, e.1) :: (mmIt j os ++ G.1 j), mmZ V (G.2.1 j)) := by
        simp only [mmNd, q1, List.drop_zero, mmIt, List.map_cons, List.cons_append]
      rw [e1]
      refine smRf_no (A := []) (show e.1.1 ≠ 2 by omega) (show e.1.1 ≠ 3 by omega) fun v hv h => hne ?_
      have h : v j (smv e.1 0) = smB e.1.2.1 (v j (smv e.1 1)) := by
        unfold smEq at h
        rw [if_pos q2] at h
        exact h
      rw [q3, hv j hj.1 s w hw] at h
      rw [h, smHd_B]
    have e0 : mmFirst C V (mmf fr j).1 j = (C.1.1.1 (mmf fr j).1.1).find? (fun c => match (C.2.1.2 (mmf fr j).1.2 c).head? with
      | none => false
      | some e => e.1.2.1 == smHd w) := by
      unfold mmFirst
      simp only [hs, hw, Option.getD_some]
      rfl
    cases hfd : (C.1.1.1 (mmf fr j).1.1).find? (fun c => match (C.2.1.2 (mmf fr j).1.2 c).head? with
      | none => false
      | some e => e.1.2.1 == smHd w) with
    | none =>
      rw [hfd] at e0
      rw [mmEnter_0 e0]
      refine ⟨top, none, ⟨hlv, fun c hc => (hco c hc).1, hlo, hpw, fun _ => rfl, fun h => by cases h⟩, rfl, rfl, fun st k g => smGood_none _ (fun c hc => ?_) g⟩
      obtain ⟨e, os, q1, -⟩ := f2 c hc
      have q4 := List.find?_eq_none.mp hfd c hc
      rw [q1] at q4
      simp only [List.head?_cons, beq_iff_eq] at q4
      exact hno c hc e (by rw [q1]; rfl) q4
    | some c =>
      rw [hfd] at e0
      have hc := List.mem_of_find?_eq_some hfd
      obtain ⟨e, os, q1, -⟩ := f2 c hc
      have q4 := List.find?_some hfd
      rw [q1] at q4
      simp only [List.head?_cons, beq_iff_eq] at q4
      rw [mmEnter_2 e0 (fun h => by rw [hs] at h; cases h.1)]
      refine ⟨top, some (j, c), ⟨hlv, (hup c).1, (hup c).2, hpw, (by intro h; cases h), fun _ => ⟨j, c, rfl, rfl, hact c hc, hb⟩⟩, rfl, rfl, fun st k g => smGood_only (hF.1 _).1 hc (fun x hx hne => ?_) g⟩
      obtain ⟨e', os', q1', -⟩ := f2 x hx
      refine hno x hx e' (by rw [q1']; rfl) fun h => hne ?_
      exact f3 x c hx hc e' e (by rw [q1']; rfl) (by rw [q1]; rfl) (by rw [h, q4])
end ME
