/-! Own rows: BREADTH: what every state keeps of its own cells and rows, forward. By hand; nothing of the bytecode. -/
/-- the cells are sound over the variables -/
def cVo (C : mmC) (pv : Nat → Prop) (Vr : List (Option Nat)) (Ce : List (Nat × Nat × Option Nat)) : Prop := ∀ (c : Nat) (e : Nat × Nat × Option Nat), Ce[c]? = some e → (∃ gl, bG C e.1 = some gl ∧ gOkC C gl ∧ ∀ k, k < gl.2.2.1 → ∃ n, bNo Vr e.2.1 (smv gl k) = some n) ∧ (60 ≤ e.1 → pv (e.1 - 60))
def enG (C : mmC) (Ce : List (Nat × Nat × Option Nat)) (en : bEn) : Prop := ∀ cc, en.2.2.2.1 = some cc → ∃ e gl, Ce[cc]? = some e ∧ bG C e.1 = some gl ∧ gl.1 = 2 ∧ en.2.2.2.2 < (C.1.1.1 gl.2.1).length
def gIn (C : mmC) (pv : Nat → Prop) (S : bS) : Prop := cVo C pv S.1.2.1 S.1.2.2 ∧ (∀ en, en ∈ S.2.1.2.1.drop S.2.1.2.2 → enG C S.1.2.2 en) ∧ (∀ l, l ∈ S.2.2.2.1 → ∀ en, en ∈ (S.2.1.2.1.take l.2.1).drop l.1 → enG C S.1.2.2 en) ∧ lvB S.2.2.2.1 S.2.1.2.2 ∧ S.2.1.2.2 ≤ S.2.1.2.1.length
theorem cVo_pre {C : mmC} {pv : Nat → Prop} {Vr Vr' : List (Option Nat)} {Ce : List (Nat × Nat × Option Nat)} (h : cVo C pv Vr Ce) (hv : bPre Vr Vr') : cVo C pv Vr' Ce := fun c e he => by
  obtain ⟨⟨gl, a, b, k⟩, k2⟩ := h c e he
  exact ⟨⟨gl, a, b, fun i hi => by obtain ⟨n, hn⟩ := k i hi; exact ⟨n, bNo_pre hv hn⟩⟩, k2⟩
theorem cVo_app {C : mmC} {pv : Nat → Prop} {Vr : List (Option Nat)} {Ce t : List (Nat × Nat × Option Nat)} (h : cVo C pv Vr Ce) (ht : ∀ e, e ∈ t → (∃ gl, bG C e.1 = some gl ∧ gOkC C gl ∧ ∀ k, k < gl.2.2.1 → ∃ n, bNo Vr e.2.1 (smv gl k) = some n) ∧ (60 ≤ e.1 → pv (e.1 - 60))) : cVo C pv Vr (Ce ++ t) := fun c e he => by
  by_cases q : c < Ce.length
  · rw [List.getElem?_append_left q] at he
    exact h c e he
  · rw [List.getElem?_append_right (by omega)] at he
    exact ht e (List.mem_of_getElem? he)
theorem enG_pre {C : mmC} {Ce Ce' : List (Nat × Nat × Option Nat)} {en : bEn} (h : bPre Ce Ce') (k : enG C Ce en) : enG C Ce' en := fun cc hc => by
  obtain ⟨e, gl, a, b⟩ := k cc hc
  exact ⟨e, gl, bPre_some h a, b⟩
theorem bOc_ap {c base : Nat} : ∀ (k : Nat) (r : Option Nat) (Ce : List (Nat × Nat × Option Nat)), ∃ t, (bOc c base k r Ce).1 = Ce ++ t ∧ ∀ e, e ∈ t → ∃ i, i < k ∧ e.1 = c * 5 + i ∧ e.2.1 = base
  | 0, r, Ce => ⟨[], (List.append_nil _).symm, fun e h => absurd h List.not_mem_nil⟩
  | k + 1, r, Ce => by
    obtain ⟨t, h1, h2⟩ := bOc_ap k (some Ce.length) (Ce ++ [(c * 5 + k, base, r)]) (c := c) (base := base)
    refine ⟨(c * 5 + k, base, r) :: t, ?_, fun e he => ?_⟩
    · show (bOc c base k (some Ce.length) (Ce ++ [(c * 5 + k, base, r)])).1 = _
      rw [h1, List.append_assoc]
      rfl
    · rcases List.mem_cons.mp he with q | q
      · rw [q]
        exact ⟨k, Nat.lt_succ_self _, rfl, rfl⟩
      · obtain ⟨i, h3, h4⟩ := h2 e q
        exact ⟨i, by omega, h4⟩
theorem bWo_el {Ce : List (Nat × Nat × Option Nat)} {r : Option Nat} {A : List Nat} {n : Nat} {x : Nat × Nat × Option Nat} (h : x ∈ bWo Ce r A n) : ∃ a, a ∈ A ∧ x.1 = (Ce.getD a (0, 0, none)).1 ∧ x.2.1 = (Ce.getD a (0, 0, none)).2.1 := by
  obtain ⟨i, hi⟩ := List.getElem?_of_mem h
  have hl := (List.getElem?_eq_some_iff.mp hi).1
  rw [bWo_len] at hl
  obtain ⟨a, ha⟩ : ∃ a, A[i]? = some a := ⟨_, List.getElem?_eq_getElem hl⟩
  rw [bWo_at A n i a ha] at hi
  cases hi
  exact ⟨a, List.mem_of_getElem? ha, rfl, rfl⟩
theorem drop_in {T : Type} {l : List T} {i j : Nat} (h : i ≤ j) {x : T} (k : x ∈ l.drop j) : x ∈ l.drop i := by
  obtain ⟨n, hn⟩ := List.getElem?_of_mem k
  rw [List.getElem?_drop] at hn
  refine List.mem_of_getElem? (i := j + n - i) ?_
  rw [List.getElem?_drop, show i + (j + n - i) = j + n by omega]
  exact hn
theorem drop_ap {T : Type} {l t : List T} {n : Nat} (h : n ≤ l.length) {x : T} (k : x ∈ (l ++ t).drop n) : x ∈ l.drop n ∨ x ∈ t := by
  rw [List.drop_append_of_le_length h] at k
  exact List.mem_append.mp k
section BG4
variable {C : mmC} {pv : Nat → Prop} {tv : Nat → Nat → Bool} {g : Nat}
theorem gIn_take (hCC : bCC C tv) {S S1 : bS} {h : Option Nat} (hI : gIn C pv S) (ht : bTake C tv S h S1) : gIn C pv S1 := by
  obtain ⟨⟨N, Vr, Ce⟩, ⟨Ls, Ro, fr⟩, Bi, lv, ⟨tk, na⟩⟩ := S
  obtain ⟨i1, i3, i4, i5, i6⟩ := hI
  have i1 : cVo C pv Vr Ce := i1
  have i3 : ∀ en, en ∈ Ro.drop fr → enG C Ce en := i3
  have i4 : ∀ l, l ∈ lv → ∀ en, en ∈ (Ro.take l.2.1).drop l.1 → enG C Ce en := i4
  have i5 : lvB lv fr := i5
  obtain ⟨en, e1, e2⟩ := ht
  have e1 : Ro[fr]? = some en := e1
  have hfr := (List.getElem?_eq_some_iff.mp e1).1
  have hdr : Ro.drop fr = en :: Ro.drop (fr + 1) := drop_cons e1
  rcases e2 with ⟨c0, rfl, rfl⟩ | ⟨cc, e, gl, c, q1, q2, q3, q4, q5, rfl⟩
  · exact ⟨i1, fun x hx => i3 x (by rw [hdr]; exact List.mem_cons_of_mem _ hx), i4, lvB_le (Nat.le_succ _) i5, hfr⟩
  · obtain ⟨e', gl', q1', q2', q3', q4'⟩ := i3 en (by rw [hdr]; exact List.mem_cons_self) cc q1
    rw [q2] at q1'
    cases q1'
    rw [q3] at q2'
    cases q2'
    obtain ⟨⟨gl', b1, gok, gvar⟩, -⟩ := i1 cc e q2
    rw [q3] at b1
    cases b1
    have hcnt : gl.2.2.1 = C.1.2 gl.2.1 := gok.2.2.2.2 (by omega)
    obtain ⟨hc12, hlen5, hbody⟩ := hCC gl.2.1 c (List.mem_of_getElem? q4)
    obtain ⟨a1, a2⟩ := bOv_pre (tv := tv c) (cnt := gl.2.2.1) (arg := fun k => bNo Vr e.2.1 (smv gl k)) (List.range 8) N Vr
    obtain ⟨t, t1, t2⟩ := bOc_ap (c := c) (base := Vr.length) (C.1.1.2 c).length en.2.2.1 Ce
    have hpre : bPre Ce (bOc c Vr.length (C.1.1.2 c).length en.2.2.1 Ce).1 := by rw [t1]; exact bPre_app _ _
    refine ⟨?_, fun x hx => ?_, fun l hl x hx => ?_, ?_, ?_⟩
    · show cVo C pv (bOv (tv c) gl.2.2.1 (fun k => bNo Vr e.2.1 (smv gl k)) (List.range 8) N Vr).2 (bOc c Vr.length (C.1.1.2 c).length en.2.2.1 Ce).1
      rw [t1]
      refine cVo_app (cVo_pre i1 a2) (fun x hx => ?_)
      obtain ⟨i, hi, u1, u2⟩ := t2 x hx
      obtain ⟨gg, hgg⟩ : ∃ gg, (C.1.1.2 c)[i]? = some gg := ⟨_, List.getElem?_eq_getElem hi⟩
      obtain ⟨v1, v2⟩ := hbody gg (List.mem_of_getElem? hgg)
      refine ⟨⟨gg, by rw [u1, bG_cl hc12 (by omega)]; exact hgg, v1, fun k hk => ?_⟩, fun h6 => by omega⟩
      obtain ⟨w1, w2⟩ := v2 k hk
      obtain ⟨o, o1, o2, o3, -⟩ := bOv_at (tv := tv c) (cnt := gl.2.2.1) (arg := fun k => bNo Vr e.2.1 (smv gl k)) (List.range 8) N Vr (smv gg k) (smv gg k) (List.getElem?_range w1)
      have hbo : ∀ n, o = some n → bNo (bOv (tv c) gl.2.2.1 (fun k => bNo Vr e.2.1 (smv gl k)) (List.range 8) N Vr).2 x.2.1 (smv gg k) = some n := fun n hn => by
        rw [bNo_iff, u2, o1, hn]
      by_cases c8 : smv gg k < gl.2.2.1
      · obtain ⟨n, hn⟩ := gvar _ c8
        have o2 : o = bNo Vr e.2.1 (smv gl (smv gg k)) := o2 c8
        exact ⟨n, hbo n (by rw [o2]; exact hn)⟩
      · obtain ⟨n, hn⟩ := o3 c8 (w2 (by omega))
        exact ⟨n, hbo n hn⟩
    · have hx : x ∈ (Ro.set fr (en.1, en.2.1, en.2.2.1, en.2.2.2.1, en.2.2.2.2 + 1)).drop (if en.2.2.2.2 + 1 < (C.1.1.1 gl.2.1).length then fr else fr + 1) := hx
      refine enG_pre hpre ?_
      by_cases c9 : en.2.2.2.2 + 1 < (C.1.1.1 gl.2.1).length
      · rw [if_pos c9, drop_cons (List.getElem?_set_self hfr), drop_set (Nat.lt_succ_self _)] at hx
        rcases List.mem_cons.mp hx with q | q
        · rw [q]
          intro cc' hcc'
          have hcc' : en.2.2.2.1 = some cc' := hcc'
          rw [q1] at hcc'
          cases hcc'
          exact ⟨e, gl, q2, q3, q3', c9⟩
        · exact i3 x (by rw [hdr]; exact List.mem_cons_of_mem _ q)
      · rw [if_neg c9, drop_set (Nat.lt_succ_self _)] at hx
        exact i3 x (by rw [hdr]; exact List.mem_cons_of_mem _ hx)
    · have hl : l ∈ lv := hl
      have hx : x ∈ ((Ro.set fr (en.1, en.2.1, en.2.2.1, en.2.2.2.1, en.2.2.2.2 + 1)).take l.2.1).drop l.1 := hx
      rw [take_set (lvB_mem i5 l hl)] at hx
      exact enG_pre hpre (i4 l hl x hx)
    · show lvB lv (if en.2.2.2.2 + 1 < (C.1.1.1 gl.2.1).length then fr else fr + 1)
      exact lvB_le (by split <;> omega) i5
    · show (if en.2.2.2.2 + 1 < (C.1.1.1 gl.2.1).length then fr else fr + 1) ≤ (Ro.set fr _).length
      rw [List.length_set]
      split <;> omega
theorem gIn_res (hA3 : ∀ p, C.1.2 p ≤ 3) (hpv : ∀ n gl, bG C n = some gl → gl.1 = 3 → pv gl.2.1) {S S1 : bS} {l h : Nat} (hI : gIn C pv S) (ht : bRes C g l h S S1) : gIn C pv S1 := by
  obtain ⟨⟨N, Vr, Ce⟩, ⟨Ls, Ro, fr⟩, Bi, lv, ⟨tk, na⟩⟩ := S
  obtain ⟨i1, i3, i4, i5, i6⟩ := hI
  have i1 : cVo C pv Vr Ce := i1
  have i3 : ∀ en, en ∈ Ro.drop fr → enG C Ce en := i3
  have i4 : ∀ l, l ∈ lv → ∀ en, en ∈ (Ro.take l.2.1).drop l.1 → enG C Ce en := i4
  have i5 : lvB lv fr := i5
  have i6 : fr ≤ Ro.length := i6
  obtain ⟨cs, hch, ⟨-, rfl⟩ | ⟨A, cc, B, e, gl, hcs, -, -, he, hgl, Ce1, r, hCe1, -, hk⟩⟩ := ht
  · exact ⟨i1, i3, i4, i5, i6⟩
  have hch : bCh Ce (some h) cs := hch
  have he : Ce[cc]? = some e := he
  have hc1 : bPre Ce Ce1 := by rw [hCe1]; exact bPre_app _ _
  have j1 : cVo C pv Vr Ce1 := by
    rw [hCe1]
    refine cVo_app i1 (fun x hx => ?_)
    obtain ⟨a, ha, u1, u2⟩ := bWo_el hx
    obtain ⟨ea, hea⟩ := bCh_mem cs _ hch a (by rw [hcs]; exact List.mem_append_left _ ha)
    rw [List.getD_eq_getElem?_getD, hea] at u1 u2
    have u1 : x.1 = ea.1 := u1
    have u2 : x.2.1 = ea.2.1 := u2
    rw [u1, u2]
    exact i1 a ea hea
  have hap : ∀ (Ce2 : List (Nat × Nat × Option Nat)) (x : bEn), bPre Ce Ce2 → enG C Ce2 x → (∀ en, en ∈ (Ro ++ [x]).drop fr → enG C Ce2 en) ∧ (∀ l, l ∈ lv → ∀ en, en ∈ ((Ro ++ [x]).take l.2.1).drop l.1 → enG C Ce2 en) := fun Ce2 x h2 hx => by
    refine ⟨fun en hen => ?_, fun q hq en hen => ?_⟩
    · rcases drop_ap i6 hen with k | k
      · exact enG_pre h2 (i3 en k)
      · rw [List.mem_singleton.mp k]
        exact hx
    · have := lvB_mem i5 q hq
      rw [List.take_append_of_le_length (by omega)] at hen
      exact enG_pre h2 (i4 q hq en hen)
  have hno : ∀ (Ce2 : List (Nat × Nat × Option Nat)) (q : Option Nat) (ij : Nat × Nat) (o : Option Nat), enG C Ce2 (q, ij, o, none, 0) := fun Ce2 q ij o cc hc => by cases hc
  rcases hk with ⟨k2, rfl⟩ | ⟨k3, rfl⟩ | ⟨-, x, y, N1, k, rr, hx, hy, -, ⟨-, -, rfl⟩ | ⟨-, rfl⟩⟩
  · by_cases cE : C.1.1.1 gl.2.1 = []
    · have e0 : (if C.1.1.1 gl.2.1 = [] then Ro else Ro ++ [(some l, (0, 0), r, some cc, 0)]) = Ro := if_pos cE
      rw [e0]
      exact ⟨j1, fun en hen => enG_pre hc1 (i3 en hen), fun q hq en hen => enG_pre hc1 (i4 q hq en hen), i5, i6⟩
    · have e0 : (if C.1.1.1 gl.2.1 = [] then Ro else Ro ++ [(some l, (0, 0), r, some cc, 0)]) = Ro ++ [(some l, (0, 0), r, some cc, 0)] := if_neg cE
      rw [e0]
      obtain ⟨p1, p2⟩ := hap Ce1 (some l, (0, 0), r, some cc, 0) hc1 (fun c' hc' => by
        cases hc'
        exact ⟨e, gl, bPre_some hc1 he, hgl, k2, List.length_pos_iff.mpr cE⟩)
      exact ⟨j1, p1, p2, i5, by show fr ≤ (Ro ++ [_]).length; rw [List.length_append]; omega⟩
  · obtain ⟨⟨gl', b1, gok, gvar⟩, -⟩ := i1 cc e he
    rw [hgl] at b1
    cases b1
    have hcnt : gl.2.2.1 = C.1.2 gl.2.1 := gok.2.2.2.2 (by omega)
    have h2 : bPre Ce (Ce1 ++ [(60 + gl.2.1, Vr.length, none)]) := bPre_trans hc1 (bPre_app _ _)
    refine ⟨?_, fun en hen => ?_, fun q hq en hen => ?_, ?_, ?_⟩
    · show cVo C pv (Vr ++ (List.range gl.2.2.1).map (fun k => bNo Vr e.2.1 (smv gl k))) (Ce1 ++ [(60 + gl.2.1, Vr.length, none)])
      refine cVo_app (cVo_pre j1 (bPre_app _ _)) (fun x hx => ?_)
      rw [List.mem_singleton.mp hx]
      refine ⟨⟨smQ gl.2.1 (C.1.2 gl.2.1), ?_, ⟨?_, hA3 _, fun h => ?_, fun h => ?_, fun _ => rfl⟩, fun k hk => ?_⟩, fun _ => ?_⟩
      · show bG C (60 + gl.2.1) = _
        unfold bG
        rw [if_pos (by omega), show 60 + gl.2.1 - 60 = gl.2.1 by omega]
      · show 2 ≤ 3
        decide
      · cases h
      · cases h
      · have hk : k < C.1.2 gl.2.1 := hk
        have h3 := hA3 gl.2.1
        have ek : smv (smQ gl.2.1 (C.1.2 gl.2.1)) k = k := by
          have : k = 0 ∨ k = 1 ∨ k = 2 := by omega
          rcases this with e | e | e <;> rw [e] <;> rfl
        rw [ek]
        obtain ⟨n, hn⟩ := gvar k (by omega)
        refine ⟨n, ?_⟩
        show bNo (Vr ++ (List.range gl.2.2.1).map (fun k => bNo Vr e.2.1 (smv gl k))) Vr.length k = some n
        unfold bNo
        rw [List.getElem?_append_right (by omega), show Vr.length + k - Vr.length = k by omega, List.getElem?_map, List.getElem?_range (by omega)]
        exact hn
      · show pv (60 + gl.2.1 - 60)
        rw [show 60 + gl.2.1 - 60 = gl.2.1 by omega]
        exact hpv _ gl hgl k3
    · have hen : en ∈ (Ro ++ [(some l, (0, 0), some Ce1.length, none, 0)]).drop Ro.length := hen
      rw [List.drop_left] at hen
      rw [List.mem_singleton.mp hen]
      exact hno _ _ _ _
    · have hen : en ∈ ((Ro ++ [(some l, (0, 0), some Ce1.length, none, 0)]).take q.2.1).drop q.1 := hen
      have hq : q ∈ (fr, Ro.length, l, r) :: lv := hq
      rcases List.mem_cons.mp hq with k | k
      · rw [k] at hen
        have hen : en ∈ ((Ro ++ [(some l, (0, 0), some Ce1.length, none, 0)]).take Ro.length).drop fr := hen
        rw [List.take_left] at hen
        exact enG_pre h2 (i3 en hen)
      · have := lvB_mem i5 q k
        rw [List.take_append_of_le_length (by omega)] at hen
        exact enG_pre h2 (i4 q k en hen)
    · show lvB ((fr, Ro.length, l, r) :: lv) Ro.length
      exact ⟨i6, Nat.le_refl _, i5⟩
    · show Ro.length ≤ (Ro ++ [_]).length
      rw [List.length_append]
      omega
  · obtain ⟨p1, p2⟩ := hap Ce1 (some l, (Bi.length, Bi.length + rr.2.2.length), r, none, 0) hc1 (hno _ _ _ _)
    exact ⟨j1, p1, p2, i5, by show fr ≤ (Ro ++ [_]).length; rw [List.length_append]; omega⟩
  · exact ⟨j1, fun en hen => enG_pre hc1 (i3 en hen), fun q hq en hen => enG_pre hc1 (i4 q hq en hen), i5, i6⟩
theorem gIn_turn (hCC : bCC C tv) (hA3 : ∀ p, C.1.2 p ≤ 3) (hpv : ∀ n gl, bG C n = some gl → gl.1 = 3 → pv gl.2.1) {S S' : bS} (hS : gIn C pv S) (ht : bTurn C tv g S (.inl S')) : gIn C pv S' := by
  obtain ⟨⟨N, Vr, Ce⟩, ⟨Ls, Ro, fr⟩, Bi, lv, ⟨tk, na⟩⟩ := S
  have pop : ∀ (Vr : List (Option Nat)) (Ce : List (Nat × Nat × Option Nat)) (N1 : bNT) (Ls : bLs) (Ro : List bEn) (fr : Nat) (Bi : List (Nat × Nat)) (l : Nat × Nat × Nat × Option Nat) (lv' : bLv) (tn : Nat × Nat) (t : List bEn), gIn C pv ((N1, Vr, Ce), (Ls, Ro, fr), Bi, l :: lv', tn) → (∀ x, x ∈ t → enG C Ce x) → gIn C pv ((N1, Vr, Ce), (Ls, Ro.take l.2.1 ++ t, l.1), Bi, lv', tn) := by
    intro Vr Ce N1 Ls Ro fr Bi l lv' tn t ⟨i1, i3, i4, i5, i6⟩ hx
    have i4 : ∀ q, q ∈ l :: lv' → ∀ en, en ∈ (Ro.take q.2.1).drop q.1 → enG C Ce en := i4
    have i5 : l.1 ≤ l.2.1 ∧ l.2.1 ≤ fr ∧ lvB lv' l.1 := i5
    have i6 : fr ≤ Ro.length := i6
    have hl : (Ro.take l.2.1).length = l.2.1 := by rw [List.length_take]; omega
    refine ⟨i1, fun en hen => ?_, fun q hq en hen => ?_, i5.2.2, ?_⟩
    · rcases drop_ap (show l.1 ≤ (Ro.take l.2.1).length by omega) hen with k | k
      · exact i4 l List.mem_cons_self en k
      · exact hx en k
    · have hen : en ∈ ((Ro.take l.2.1 ++ t).take q.2.1).drop q.1 := hen
      have := lvB_mem i5.2.2 q hq
      rw [List.take_append_of_le_length (by omega), List.take_take, show min q.2.1 l.2.1 = q.2.1 by omega] at hen
      exact i4 q (List.mem_cons_of_mem _ hq) en hen
    · show l.1 ≤ (Ro.take l.2.1 ++ t).length
      rw [List.length_append]
      omega
  rcases ht with ⟨-, ⟨-, h⟩ | ⟨l, lv', rfl, h⟩⟩ | ⟨-, -, h⟩ | ⟨h1, -, h, S1, hT, ⟨-, ⟨-, h⟩ | ⟨l, lv', rfl, h⟩⟩ | ⟨c, S2, rfl, h, hr⟩⟩
  · cases h
  · cases h
    exact pop Vr Ce N Ls Ro fr Bi l lv' (tk, na) [(some l.2.2.1, (0, 0), l.2.2.2, none, 0)] hS (fun x hx => by rw [List.mem_singleton.mp hx]; intro cc hc; cases hc)
  · cases h
  · have h2 := gIn_take hCC hS hT
    obtain ⟨⟨N1, Vr1, Ce1⟩, ⟨Ls1, Ro1, fr1⟩, Bi1, lv1, ⟨tk1, na1⟩⟩ := S1
    have elv : lv1 = lv := by
      obtain ⟨en, -, ⟨-, -, q⟩ | ⟨cc, e, gl, c, -, -, -, -, -, q⟩⟩ := hT <;> cases q <;> rfl
    cases h
    rw [← elv]
    exact ⟨h2.1, h2.2.1, h2.2.2.1, h2.2.2.2.1, h2.2.2.2.2⟩
  · have h2 := gIn_take hCC hS hT
    obtain ⟨⟨N1, Vr1, Ce1⟩, ⟨Ls1, Ro1, fr1⟩, Bi1, lv1, ⟨tk1, na1⟩⟩ := S1
    have elv : lv1 = l :: lv' := by
      obtain ⟨en, -, ⟨-, -, q⟩ | ⟨cc, e, gl, c, -, -, -, -, -, q⟩⟩ := hT <;> cases q <;> rfl
    subst elv
    cases h
    have q := pop Vr1 Ce1 N1 Ls1 Ro1 fr1 Bi1 l lv' (tk + 1, na) [] ⟨h2.1, h2.2.1, h2.2.2.1, h2.2.2.2.1, h2.2.2.2.2⟩ (fun x hx => absurd hx List.not_mem_nil)
    rw [List.append_nil] at q
    exact q
  · cases h
    exact gIn_res hA3 hpv (gIn_take hCC hS hT) hr
end BG4
