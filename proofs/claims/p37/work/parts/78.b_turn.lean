/-! Own rows: BREADTH: a list is taken off; a turn; a run. By hand; nothing of the bytecode. -/
theorem bOv_c {tv : Nat → Bool} {cnt x : Nat} {arg : Nat → Option Nat} {xs : List Nat} {N : bNT} {Vr : List (Option Nat)} : bOv tv cnt arg (x :: xs) N Vr = if x < cnt then bOv tv cnt arg xs N (Vr ++ [arg x]) else if tv x = true then bOv tv cnt arg xs (N ++ [(none, 0)]) (Vr ++ [some N.length]) else bOv tv cnt arg xs N (Vr ++ [none]) := rfl
theorem bOv_pre {tv : Nat → Bool} {cnt : Nat} {arg : Nat → Option Nat} : ∀ (xs : List Nat) (N : bNT) (Vr : List (Option Nat)), bPre N (bOv tv cnt arg xs N Vr).1 ∧ bPre Vr (bOv tv cnt arg xs N Vr).2
  | [], N, Vr => ⟨bPre_refl _, bPre_refl _⟩
  | x :: xs, N, Vr => by
    rw [bOv_c]
    split
    · obtain ⟨a, b⟩ := bOv_pre xs N (Vr ++ [arg x]) (tv := tv) (cnt := cnt) (arg := arg)
      exact ⟨a, bPre_trans (bPre_app _ _) b⟩
    · split
      · obtain ⟨a, b⟩ := bOv_pre xs (N ++ [(none, 0)]) (Vr ++ [some N.length]) (tv := tv) (cnt := cnt) (arg := arg)
        exact ⟨bPre_trans (bPre_app _ _) a, bPre_trans (bPre_app _ _) b⟩
      · obtain ⟨a, b⟩ := bOv_pre xs N (Vr ++ [none]) (tv := tv) (cnt := cnt) (arg := arg)
        exact ⟨a, bPre_trans (bPre_app _ _) b⟩
theorem bOv_at {tv : Nat → Bool} {cnt : Nat} {arg : Nat → Option Nat} : ∀ (xs : List Nat) (N : bNT) (Vr : List (Option Nat)) (i x : Nat), xs[i]? = some x → ∃ o, (bOv tv cnt arg xs N Vr).2[Vr.length + i]? = some o ∧ (x < cnt → o = arg x) ∧ (¬ x < cnt → tv x = true → ∃ n, o = some n) ∧ (¬ x < cnt → ∀ n, o = some n → N.length ≤ n ∧ (bOv tv cnt arg xs N Vr).1[n]? = some (none, 0))
  | [], _, _, _, _, h => by cases h
  | x0 :: xs, N, Vr, 0, x, h => by
    have e : x0 = x := by simpa using h
    subst e
    rw [bOv_c]
    by_cases c : x0 < cnt
    · rw [if_pos c]
      have hp := (bOv_pre xs N (Vr ++ [arg x0]) (tv := tv) (cnt := cnt) (arg := arg)).2
      exact ⟨arg x0, bPre_some hp (by simp), fun _ => rfl, fun q => absurd c q, fun q => absurd c q⟩
    · rw [if_neg c]
      by_cases c2 : tv x0 = true
      · rw [if_pos c2]
        have hp := bOv_pre xs (N ++ [(none, 0)]) (Vr ++ [some N.length]) (tv := tv) (cnt := cnt) (arg := arg)
        exact ⟨some N.length, bPre_some hp.2 (by simp), fun q => absurd q c, fun _ _ => ⟨_, rfl⟩, fun _ n hn => by cases hn; exact ⟨Nat.le_refl _, bPre_some hp.1 (by simp)⟩⟩
      · rw [if_neg c2]
        have hp := (bOv_pre xs N (Vr ++ [none]) (tv := tv) (cnt := cnt) (arg := arg)).2
        exact ⟨none, bPre_some hp (by simp), fun q => absurd q c, fun _ q => absurd q c2, fun _ n hn => by cases hn⟩
  | x0 :: xs, N, Vr, i + 1, x, h => by
    have h : xs[i]? = some x := by simpa using h
    rw [bOv_c]
    split
    · have := bOv_at xs N (Vr ++ [arg x0]) i x h (tv := tv) (cnt := cnt) (arg := arg)
      rw [List.length_append, List.length_singleton, show Vr.length + 1 + i = Vr.length + (i + 1) by omega] at this
      exact this
    · split
      · obtain ⟨o, a1, a2, a3, a4⟩ := bOv_at xs (N ++ [(none, 0)]) (Vr ++ [some N.length]) i x h (tv := tv) (cnt := cnt) (arg := arg)
        rw [List.length_append, List.length_singleton, show Vr.length + 1 + i = Vr.length + (i + 1) by omega] at a1
        refine ⟨o, a1, a2, a3, fun q n hn => ?_⟩
        obtain ⟨b1, b2⟩ := a4 q n hn
        rw [List.length_append] at b1
        exact ⟨by omega, b2⟩
      · have := bOv_at xs N (Vr ++ [none]) i x h (tv := tv) (cnt := cnt) (arg := arg)
        rw [List.length_append, List.length_singleton, show Vr.length + 1 + i = Vr.length + (i + 1) by omega] at this
        exact this
theorem bOv_inj {tv : Nat → Bool} {cnt : Nat} {arg : Nat → Option Nat} : ∀ (xs : List Nat) (N : bNT) (Vr : List (Option Nat)) (i j x y n m : Nat), i < j → xs[i]? = some x → xs[j]? = some y → ¬ x < cnt → ¬ y < cnt → (bOv tv cnt arg xs N Vr).2[Vr.length + i]? = some (some n) → (bOv tv cnt arg xs N Vr).2[Vr.length + j]? = some (some m) → n < m
  | [], _, _, _, _, _, _, _, _, _, h, _, _, _, _, _ => by cases h
  | x0 :: xs, N, Vr, 0, j + 1, x, y, n, m, _, h1, h2, h3, h4, h5, h6 => by
    have e : x0 = x := by simpa using h1
    subst e
    have h2 : xs[j]? = some y := by simpa using h2
    rw [bOv_c, if_neg h3] at h5 h6
    by_cases c2 : tv x0 = true
    · rw [if_pos c2] at h5 h6
      have hp := bOv_pre xs (N ++ [(none, 0)]) (Vr ++ [some N.length]) (tv := tv) (cnt := cnt) (arg := arg)
      have e1 := bPre_some hp.2 (i := Vr.length) (x := some N.length) (by simp)
      rw [Nat.add_zero, e1] at h5
      cases h5
      obtain ⟨o, a1, -, -, a4⟩ := bOv_at xs (N ++ [(none, 0)]) (Vr ++ [some N.length]) j y h2 (tv := tv) (cnt := cnt) (arg := arg)
      rw [List.length_append, List.length_singleton, show Vr.length + 1 + j = Vr.length + (j + 1) by omega, h6] at a1
      cases a1
      have := (a4 h4 m rfl).1
      rw [List.length_append, List.length_singleton] at this
      omega
    · rw [if_neg c2] at h5
      have hp := (bOv_pre xs N (Vr ++ [none]) (tv := tv) (cnt := cnt) (arg := arg)).2
      have e1 := bPre_some hp (i := Vr.length) (x := none) (by simp)
      rw [Nat.add_zero, e1] at h5
      cases h5
  | x0 :: xs, N, Vr, i + 1, j + 1, x, y, n, m, hij, h1, h2, h3, h4, h5, h6 => by
    have h1 : xs[i]? = some x := by simpa using h1
    have h2 : xs[j]? = some y := by simpa using h2
    rw [bOv_c] at h5 h6
    split at h5
    · rename_i c
      rw [if_pos c] at h6
      rw [show Vr.length + (i + 1) = (Vr ++ [arg x0]).length + i by simp; omega] at h5
      rw [show Vr.length + (j + 1) = (Vr ++ [arg x0]).length + j by simp; omega] at h6
      exact bOv_inj xs N _ i j x y n m (by omega) h1 h2 h3 h4 h5 h6
    · rename_i c
      rw [if_neg c] at h6
      split at h5
      · rename_i c2
        rw [if_pos c2] at h6
        rw [show Vr.length + (i + 1) = (Vr ++ [some N.length]).length + i by simp; omega] at h5
        rw [show Vr.length + (j + 1) = (Vr ++ [some N.length]).length + j by simp; omega] at h6
        exact bOv_inj xs _ _ i j x y n m (by omega) h1 h2 h3 h4 h5 h6
      · rename_i c2
        rw [if_neg c2] at h6
        rw [show Vr.length + (i + 1) = (Vr ++ [none]).length + i by simp; omega] at h5
        rw [show Vr.length + (j + 1) = (Vr ++ [none]).length + j by simp; omega] at h6
        exact bOv_inj xs N _ i j x y n m (by omega) h1 h2 h3 h4 h5 h6
theorem bOc_ch {c base : Nat} : ∀ (k : Nat) (r : Option Nat) (Ce : List (Nat × Nat × Option Nat)) (cs : List Nat), bCh Ce r cs → ∃ ds : List Nat, bCh (bOc c base k r Ce).1 (bOc c base k r Ce).2 (ds ++ cs) ∧ ds.length = k ∧ ∀ i d, ds[i]? = some d → ∃ n, (bOc c base k r Ce).1[d]? = some (c * 5 + i, base, n)
  | 0, r, Ce, cs, h => ⟨[], h, rfl, fun i d hd => by cases hd⟩
  | k + 1, r, Ce, cs, h => by
    have h1 : bCh (Ce ++ [(c * 5 + k, base, r)]) (some Ce.length) (Ce.length :: cs) := ⟨rfl, (c * 5 + k, base, r), by simp, bCh_pre (bPre_app _ _) _ _ h⟩
    obtain ⟨ds, a1, a2, a3⟩ := bOc_ch k (some Ce.length) (Ce ++ [(c * 5 + k, base, r)]) (Ce.length :: cs) h1 (c := c) (base := base)
    refine ⟨ds ++ [Ce.length], by rw [List.append_assoc]; exact a1, by simp [a2], fun i d hd => ?_⟩
    by_cases ci : i < ds.length
    · rw [List.getElem?_append_left ci] at hd
      exact a3 i d hd
    · rw [List.getElem?_append_right (by omega)] at hd
      have hl := (List.getElem?_eq_some_iff.mp hd).1
      have e0 : i - ds.length = 0 := by simpa using hl
      rw [e0] at hd
      have e1 : d = Ce.length := by simpa using hd.symm
      subst e1
      have e2 : i = k := by omega
      subst e2
      exact ⟨r, bPre_some (bOc_pre i (some Ce.length) _) (by simp)⟩
/-- what is asked of the program's clauses -/
def bCC (C : mmC) (tv : Nat → Nat → Bool) : Prop := ∀ p c, c ∈ C.1.1.1 p → c < 12 ∧ (C.1.1.2 c).length ≤ 5 ∧ ∀ gg, gg ∈ C.1.1.2 c → gOkC C gg ∧ ∀ k, k < gg.2.2.1 → smv gg k < 8 ∧ (C.1.2 p ≤ smv gg k → tv c (smv gg k) = true)
theorem bG_cl {C : mmC} {c i : Nat} (hc : c < 12) (hi : i < 5) : bG C (c * 5 + i) = (C.1.1.2 c)[i]? := by
  unfold bG
  rw [if_neg (by omega), show (c * 5 + i) / 5 = c by omega, show (c * 5 + i) % 5 = i by omega]
theorem take_set {T : Type} {l : List T} {i n : Nat} {x : T} (h : n ≤ i) : (l.set i x).take n = l.take n := by
  apply List.ext_getElem?
  intro j
  by_cases c : j < n
  · rw [List.getElem?_take_of_lt c, List.getElem?_take_of_lt c, List.getElem?_set_ne (by omega)]
  · rw [List.getElem?_eq_none (by simp; omega), List.getElem?_eq_none (by simp; omega)]
theorem drop_set {T : Type} {l : List T} {i n : Nat} {x : T} (h : i < n) : (l.set i x).drop n = l.drop n := by
  apply List.ext_getElem?
  intro j
  rw [List.getElem?_drop, List.getElem?_drop, List.getElem?_set_ne (by omega)]
section BT
variable {C : mmC} {Gd : Nat × Nat → Prop} {tv : Nat → Nat → Bool} {g : Nat} {F : bTS}
theorem bdL_new {l : Nat} {p : Option Nat} {i j : Nat} {h0 : Option Nat} (hw : tW g F) (h : F.2.1[l]? = some (p, i, j, h0)) (hp : ∀ q, p = some q → q < 149) : bdL F l = bdOf ((F.2.2.take j).drop i ++ bPb F.2.1 F.2.2 150 p) := by
  unfold bdL
  rw [bPb_some h, bPb_fuel hw.2.2.2.2 149 150 p (fun q hq => ⟨hp q hq, by have := hp q hq; omega⟩)]
theorem b_take (hF : mmFa C Gd) (hCC : bCC C tv) (hwF : tW g F) {S S1 : bS} {h : Option Nat} (hI : bIn C Gd g F S) (hfr : S.2.1.2.2 < S.2.1.2.1.length) (htk : S.2.2.2.2.1 < 150) (ht : bTake C tv S h S1) (hp1 : tPre (tS S1) F) :
    bIn C Gd g F S1 ∧ S1.2.2.2.1 = S.2.2.2.1 ∧ S1.2.2.2.2.2 = S.2.2.2.2.2 ∧ S1.2.1.1.length = S.2.1.1.length + 1 ∧ ∃ cs, bCh S1.1.2.2 h cs ∧ ndOk C Gd g (tS S1) F (bdL F S.2.1.1.length) cs ∧
      ∀ k, smGood C.1.1 ((cs.map (bIt C F.1.2.2), bZ F.1.1 F.1.2.1 (bdL F S.2.1.1.length)) :: roNd C F (S1.2.1.2.1.drop S1.2.1.2.2)) (lvNd C F S1.2.1.2.1 S1.2.2.2.1) k → smGood C.1.1 (roNd C F (S.2.1.2.1.drop S.2.1.2.2)) (lvNd C F S.2.1.2.1 S.2.2.2.1) k := by
  obtain ⟨r1, r2, r3⟩ := sIn_take hI.2.1 ht
  obtain ⟨⟨N, Vr, Ce⟩, ⟨Ls, Ro, fr⟩, Bi, lv, ⟨tk, na⟩⟩ := S
  obtain ⟨i1, i2, i3, i4, i5, i6⟩ := hI
  have hw : tW g ((N, Vr, Ce), Ls, Bi) := i2.1
  have i1 : tPre ((N, Vr, Ce), Ls, Bi) F := i1
  have i5 : lvB lv fr := i5
  have i3 : ∀ en, en ∈ Ro.drop fr → enOk C Gd g ((N, Vr, Ce), Ls, Bi) F en := i3
  have i2l : Ls.length = tk := i2.2.2.2
  have htk : tk < 150 := htk
  have hfr : fr < Ro.length := hfr
  obtain ⟨en, e1, e2⟩ := ht
  have e1 : Ro[fr]? = some en := e1
  have hen := i2.2.1 en (List.mem_of_getElem? e1)
  have hpar : ∀ q, en.1 = some q → q < 149 := fun q hq => by have h1 : q < Ls.length := hen.1 q hq; omega
  have hdr : Ro.drop fr = en :: Ro.drop (fr + 1) := drop_cons e1
  have hok := i3 en (by rw [hdr]; exact List.mem_cons_self)
  rcases e2 with ⟨c0, rfl, rfl⟩ | ⟨cc, e, gl, c, q1, q2, q3, q4, q5, rfl⟩
  · have hp1 : tPre ((N, Vr, Ce), Ls ++ [(en.1, en.2.1.1, en.2.1.2, en.2.2.1)], Bi) F := hp1
    have hlF : F.2.1[Ls.length]? = some (en.1, en.2.1.1, en.2.1.2, en.2.2.1) := bPre_some hp1.2.2.2.1 (by simp)
    have ebd : bdL F Ls.length = bdE F en := bdL_new hwF hlF hpar
    obtain ⟨cs, k1, ⟨-, k2⟩ | ⟨cc, k2, -⟩⟩ := hok
    · refine ⟨⟨hp1, r1, fun x hx => enOk_pre r2 (i3 x (by rw [hdr]; exact List.mem_cons_of_mem _ hx)), fun q hq => ?_, lvB_le (Nat.le_succ _) i5, hfr⟩, rfl, rfl, r3, cs, k1, ?_, fun k gk => ?_⟩
      · obtain ⟨j1, cs3, j2, j3⟩ := i4 q hq
        exact ⟨fun x hx => enOk_pre r2 (j1 x hx), cs3, j2, ndOk_pre r2 j3⟩
      · show ndOk C Gd g _ F (bdL F Ls.length) cs
        rw [ebd]
        exact ndOk_pre r2 k2
      · have gk : smGood C.1.1 ((cs.map (bIt C F.1.2.2), bZ F.1.1 F.1.2.1 (bdL F Ls.length)) :: roNd C F (Ro.drop (fr + 1))) (lvNd C F Ro lv) k := gk
        show smGood C.1.1 (roNd C F (Ro.drop fr)) (lvNd C F Ro lv) k
        rw [hdr]
        show smGood C.1.1 (roNd C F ([en] ++ Ro.drop (fr + 1))) (lvNd C F Ro lv) k
        rw [roNd_app, roNd_one, enNd_n c0 (bCh_pre i1.2.2.1 _ _ k1), ← ebd]
        exact gk
    · rw [c0] at k2; cases k2
  · obtain ⟨cs, k1, ⟨k2, -⟩ | ⟨cc', k2, k3, k4, k5⟩⟩ := hok
    · rw [q1] at k2; cases k2
    · rw [q1] at k2
      cases k2
      have eit := bIt_eq (C := C) i1.2.2.1 q2 q3
      have eit : bIt C F.1.2.2 cc = (2 * e.2.1, gl) := eit
      rw [eit] at k4 k5
      have k4 : gl.1 = 2 := k4
      obtain ⟨n1, n2, n3, n4⟩ := k3
      obtain ⟨e', gl', q1', q2', gok, gvar⟩ := n3 cc List.mem_cons_self
      have q1' : Ce[cc]? = some e' := q1'
      rw [q2] at q1'
      cases q1'
      rw [q3] at q2'
      cases q2'
      have gvar : ∀ k, k < gl.2.2.1 → ∃ n, bNo Vr e.2.1 (smv gl k) = some n := gvar
      have hcnt : gl.2.2.1 = C.1.2 gl.2.1 := gok.2.2.2.2 (by omega)
      have hcm : c ∈ C.1.1.1 gl.2.1 := List.mem_of_getElem? q4
      obtain ⟨hc12, hlen5, hbody⟩ := hCC gl.2.1 c hcm
      rw [List.map_cons, eit] at n4
      -- the tables behind
      obtain ⟨R, hR⟩ : ∃ R, R = bOv (tv c) gl.2.2.1 (fun k => bNo Vr e.2.1 (smv gl k)) (List.range 8) N Vr := ⟨_, rfl⟩
      obtain ⟨O, hO⟩ : ∃ O, O = bOc c Vr.length (C.1.1.2 c).length en.2.2.1 Ce := ⟨_, rfl⟩
      rw [← hR, ← hO] at r1 r2 r3 hp1 ⊢
      rw [← hO] at q5
      have hp1 : tPre ((R.1, R.2, O.1), Ls ++ [(en.1, en.2.1.1, en.2.1.2, h)], Bi) F := hp1
      have r2 : tPre ((N, Vr, Ce), Ls, Bi) ((R.1, R.2, O.1), Ls ++ [(en.1, en.2.1.1, en.2.1.2, h)], Bi) := r2
      have hlF : F.2.1[Ls.length]? = some (en.1, en.2.1.1, en.2.1.2, h) := bPre_some hp1.2.2.2.1 (by simp)
      have ebd : bdL F Ls.length = bdE F en := bdL_new hwF hlF hpar
      obtain ⟨ds, d1, d2, d3⟩ := bOc_ch (c := c) (base := Vr.length) (C.1.1.2 c).length en.2.2.1 Ce cs k1
      rw [← hO] at d1 d3
      have hat : ∀ x, x < 8 → ∃ o, R.2[Vr.length + x]? = some o ∧ (x < gl.2.2.1 → o = bNo Vr e.2.1 (smv gl x)) ∧ (¬ x < gl.2.2.1 → tv c x = true → ∃ n, o = some n) ∧ (¬ x < gl.2.2.1 → ∀ n, o = some n → N.length ≤ n ∧ R.1[n]? = some (none, 0)) := fun x hx => by
        have := bOv_at (tv := tv c) (cnt := gl.2.2.1) (arg := fun k => bNo Vr e.2.1 (smv gl k)) (List.range 8) N Vr x x (List.getElem?_range hx)
        rw [← hR] at this
        exact this
      have hbo : ∀ x o, x < 8 → R.2[Vr.length + x]? = some o → bNo R.2 Vr.length x = o := fun x o hx ho => by
        unfold bNo
        rw [ho]
        rfl
      have hboF : ∀ x o, x < 8 → R.2[Vr.length + x]? = some o → bNo F.1.2.1 Vr.length x = o := fun x o hx ho => by
        unfold bNo
        rw [bPre_some hp1.2.1 ho]
        rfl
      -- cells of the clause
      have dcell : ∀ (i d : Nat), ds[i]? = some d → ∃ gg n, (C.1.1.2 c)[i]? = some gg ∧ O.1[d]? = some (c * 5 + i, Vr.length, n) ∧ bG C (c * 5 + i) = some gg := fun i d hd => by
        obtain ⟨n, hn⟩ := d3 i d hd
        have hi := (List.getElem?_eq_some_iff.mp hd).1
        obtain ⟨gg, hgg⟩ : ∃ gg, (C.1.1.2 c)[i]? = some gg := ⟨_, List.getElem?_eq_getElem (by omega)⟩
        exact ⟨gg, n, hgg, hn, by rw [bG_cl hc12 (by omega)]; exact hgg⟩
      have hdsM : ds.map (bIt C F.1.2.2) = (C.1.1.2 c).map (fun gg => (2 * Vr.length, gg)) := by
        apply List.ext_getElem?
        intro i
        rw [List.getElem?_map, List.getElem?_map]
        cases hd : ds[i]? with
        | none =>
          have := List.getElem?_eq_none_iff.mp hd
          rw [List.getElem?_eq_none (by omega)]
          rfl
        | some d =>
          obtain ⟨gg, n, g1, g2, g3⟩ := dcell i d hd
          rw [g1]
          show some (bIt C F.1.2.2 d) = some (2 * Vr.length, gg)
          rw [bIt_eq hp1.2.2.1 g2 g3]
      have hvars : ∀ gg, gg ∈ C.1.1.2 c → ∀ k, k < gg.2.2.1 → ∃ n, bNo R.2 Vr.length (smv gg k) = some n ∧ bNo F.1.2.1 Vr.length (smv gg k) = some n := fun gg hgg k hk => by
        obtain ⟨v8, vt⟩ := (hbody gg hgg).2 k hk
        obtain ⟨o, o1, o2, o3, -⟩ := hat _ v8
        by_cases cx : smv gg k < gl.2.2.1
        · obtain ⟨n, hn⟩ := gvar _ cx
          have eo := o2 cx
          rw [hn] at eo
          exact ⟨n, by rw [hbo _ _ v8 o1, eo], by rw [hboF _ _ v8 o1, eo]⟩
        · obtain ⟨n, hn⟩ := o3 cx (vt (by omega))
          exact ⟨n, by rw [hbo _ _ v8 o1, hn], by rw [hboF _ _ v8 o1, hn]⟩
      have hdok : ∀ d, d ∈ ds → cOk C ((R.1, R.2, O.1), Ls ++ [(en.1, en.2.1.1, en.2.1.2, h)], Bi) d := fun d hd => by
        obtain ⟨i, hi⟩ := List.mem_iff_getElem?.mp hd
        obtain ⟨gg, n, g1, g2, g3⟩ := dcell i d hi
        have hgg := List.mem_of_getElem? g1
        exact ⟨_, gg, g2, g3, (hbody gg hgg).1, fun k hk => by
          obtain ⟨n, hn, -⟩ := hvars gg hgg k hk
          exact ⟨n, hn⟩⟩
      have hvalZ : ∀ v, bZ F.1.1 F.1.2.1 (bdE F en) v → ∀ x, x < gl.2.2.1 → v (2 * Vr.length) x = v (2 * e.2.1) (smv gl x) := fun v ⟨ν, z1, z2, z3⟩ x hx => by
        have hx8 : x < 8 := by have := gok.2.1; omega
        obtain ⟨o, o1, o2, -, -⟩ := hat x hx8
        obtain ⟨n, hn⟩ := gvar x hx
        have eo := o2 hx
        rw [hn] at eo
        rw [z3 _ _ n (by rw [hboF _ _ hx8 o1, eo]), z3 _ _ n (bNo_pre i1.2.1 hn)]
      have hJ := bJ_call hF (j := 2 * Vr.length) k4 hcnt hcm n4
      have eZ : (fun v => bZ F.1.1 F.1.2.1 (bdE F en) v ∧ ∀ x, x < gl.2.2.1 → v (2 * Vr.length) x = v (2 * e.2.1) (smv gl x)) = bZ F.1.1 F.1.2.1 (bdE F en) := funext fun v => propext ⟨fun q => q.1, fun q => ⟨q, hvalZ v q⟩⟩
      have hJ : bJ C Gd ((C.1.1.2 c).map (fun gg => (2 * Vr.length, gg)) ++ cs.map (bIt C F.1.2.2)) (fun v => bZ F.1.1 F.1.2.1 (bdE F en) v ∧ ∀ x, x < gl.2.2.1 → v (2 * Vr.length) x = v (2 * e.2.1) (smv gl x)) := hJ
      rw [eZ] at hJ
      have hlFN := bPre_len i1.1
      have hrf : smRf C.1.1 (smKid C.1.1 [] (cs.map (bIt C F.1.2.2)) (2 * e.2.1, gl) (bZ F.1.1 F.1.2.1 (bdE F en)) 1 c) [((C.1.1.2 c).map (fun gg => (2 * Vr.length, gg)) ++ cs.map (bIt C F.1.2.2), bZ F.1.1 F.1.2.1 (bdE F en))] := by
        refine bz_open (n0 := N.length) n1 n2 hwF.2.2.1 (fun x hx => ?_) (fun x n hx hx8 hn => ?_) (fun x x' n hx hx' hx8 hx8' hn hn' => ?_) (fun gg hgg => ?_) (fun it hit => ?_)
        · have hx8 : x < 8 := by have := gok.2.1; omega
          obtain ⟨o, o1, o2, -, -⟩ := hat x hx8
          obtain ⟨n, hn⟩ := gvar x hx
          have eo := o2 hx
          rw [hn] at eo
          exact ⟨n, bNo_pre i1.2.1 hn, by rw [hboF _ _ hx8 o1, eo], bNo_lt hw hn⟩
        · obtain ⟨o, o1, -, -, o4⟩ := hat x hx8
          rw [hboF _ _ hx8 o1] at hn
          obtain ⟨p1, p2⟩ := o4 (by omega) n hn
          refine ⟨p1, ?_⟩
          unfold bhd
          rw [bPre_some hp1.1 p2]
          rfl
        · obtain ⟨o, o1, -⟩ := hat x hx8
          obtain ⟨o', o1', -⟩ := hat x' hx8'
          rw [hboF _ _ hx8 o1] at hn
          rw [hboF _ _ hx8' o1'] at hn'
          subst hn hn'
          rw [hR] at o1 o1'
          rcases Nat.lt_trichotomy x x' with q | q | q
          · have := bOv_inj _ _ _ x x' x x' n n q (List.getElem?_range hx8) (List.getElem?_range hx8') (by omega) (by omega) o1 o1'
            omega
          · exact q
          · have := bOv_inj _ _ _ x' x x' x n n q (List.getElem?_range hx8') (List.getElem?_range hx8) (by omega) (by omega) o1' o1
            omega
        · have hg1 := (hbody gg hgg).1
          rw [nvc_eq hg1]
          refine ⟨hg1.1, fun k hk => ⟨((hbody gg hgg).2 k hk).1, ?_⟩⟩
          obtain ⟨n, -, hn⟩ := hvars gg hgg k hk
          exact ⟨n, hn⟩
        · obtain ⟨z, hz, rfl⟩ := List.mem_map.mp hit
          obtain ⟨ez, gz, z1, z2, z3, z4⟩ := n3 z (List.mem_cons_of_mem _ hz)
          rw [bIt_eq i1.2.2.1 z1 z2]
          show gz.1 ≤ 3 ∧ _
          rw [nvc_eq z3]
          refine ⟨z3.1, fun k hk => ?_⟩
          obtain ⟨n, hn⟩ := z4 k hk
          exact ⟨ez.2.1, n, rfl, bNo_pre i1.2.1 hn, bNo_lt hw hn⟩
      -- the row behind
      obtain ⟨en', hen'⟩ : ∃ x : bEn, x = (en.1, en.2.1, en.2.2.1, en.2.2.2.1, en.2.2.2.2 + 1) := ⟨_, rfl⟩
      rw [← hen'] at r1 ⊢
      have ebd' : bdE F en' = bdE F en := by rw [hen']; rfl
      have hrest : enNd C F en = smKid C.1.1 [] (cs.map (bIt C F.1.2.2)) (2 * e.2.1, gl) (bZ F.1.1 F.1.2.1 (bdE F en)) 1 c :: ((C.1.1.1 gl.2.1).drop (en.2.2.2.2 + 1)).map (smKid C.1.1 [] (cs.map (bIt C F.1.2.2)) (2 * e.2.1, gl) (bZ F.1.1 F.1.2.1 (bdE F en)) 1) := by
        rw [enNd_s q1 (bCh_pre i1.2.2.1 _ _ k1), eit]
        show List.map _ (List.drop en.2.2.2.2 (C.1.1.1 gl.2.1)) = _
        rw [drop_cons q4, List.map_cons]
      have hnew : enNd C F en' = ((C.1.1.1 gl.2.1).drop (en.2.2.2.2 + 1)).map (smKid C.1.1 [] (cs.map (bIt C F.1.2.2)) (2 * e.2.1, gl) (bZ F.1.1 F.1.2.1 (bdE F en)) 1) := by
        have k1' : bCh F.1.2.2 en'.2.2.1 cs := by rw [hen']; exact bCh_pre i1.2.2.1 _ _ k1
        rw [enNd_s (cc := cc) (by rw [hen']; exact q1) k1', eit, ebd', hen']
      have hd : (Ro.set fr en').drop fr = en' :: Ro.drop (fr + 1) := by rw [drop_cons (xs := Ro.set fr en') (q := fr) (y := en') (by rw [List.getElem?_set_self hfr]), drop_set (Nat.lt_succ_self _)]
      have hro : roNd C F (Ro.drop fr) = smKid C.1.1 [] (cs.map (bIt C F.1.2.2)) (2 * e.2.1, gl) (bZ F.1.1 F.1.2.1 (bdE F en)) 1 c :: roNd C F ((Ro.set fr en').drop (if en.2.2.2.2 + 1 < (C.1.1.1 gl.2.1).length then fr else fr + 1)) := by
        rw [hdr]
        show roNd C F ([en] ++ Ro.drop (fr + 1)) = _
        rw [roNd_app, roNd_one, hrest]
        by_cases cl : en.2.2.2.2 + 1 < (C.1.1.1 gl.2.1).length
        · rw [if_pos cl, hd]
          show _ = _ :: roNd C F ([en'] ++ Ro.drop (fr + 1))
          rw [roNd_app, roNd_one, hnew]
          rfl
        · rw [if_neg cl, drop_set (Nat.lt_succ_self _), List.drop_eq_nil_of_le (by omega : (C.1.1.1 gl.2.1).length ≤ en.2.2.2.2 + 1)]
          rfl
      have hlvN : lvNd C F (Ro.set fr en') lv = lvNd C F Ro lv := by
        unfold lvNd
        refine List.map_congr_left fun q hq => ?_
        rw [take_set (lvB_mem i5 q hq)]
      refine ⟨⟨hp1, r1, fun x hx => ?_, fun q hq => ?_, ?_, ?_⟩, rfl, rfl, r3, ds ++ cs, ?_, ?_, fun k gk => ?_⟩
      · have hx : x ∈ (Ro.set fr en').drop (if en.2.2.2.2 + 1 < (C.1.1.1 gl.2.1).length then fr else fr + 1) := hx
        by_cases cl : en.2.2.2.2 + 1 < (C.1.1.1 gl.2.1).length
        · rw [if_pos cl, hd] at hx
          rcases List.mem_cons.mp hx with q | q
          · rw [q]
            refine ⟨cs, by rw [hen']; exact bCh_pre r2.2.2.1 _ _ k1, Or.inr ⟨cc, by rw [hen']; exact q1, ?_, by rw [eit]; exact k4, by rw [eit, hen']; exact cl⟩⟩
            rw [ebd']
            refine ndOk_pre r2 ⟨n1, n2, n3, ?_⟩
            rw [List.map_cons, eit]
            exact n4
          · exact enOk_pre r2 (i3 x (by rw [hdr]; exact List.mem_cons_of_mem _ q))
        · rw [if_neg cl, drop_set (Nat.lt_succ_self _)] at hx
          exact enOk_pre r2 (i3 x (by rw [hdr]; exact List.mem_cons_of_mem _ hx))
      · obtain ⟨j1, cs3, j2, j3⟩ := i4 q hq
        refine ⟨fun x hx => ?_, cs3, bCh_pre r2.2.2.1 _ _ j2, ndOk_pre r2 j3⟩
        have hx : x ∈ ((Ro.set fr en').take q.2.1).drop q.1 := hx
        rw [take_set (lvB_mem i5 q hq)] at hx
        exact enOk_pre r2 (j1 x hx)
      · show lvB lv (if en.2.2.2.2 + 1 < (C.1.1.1 gl.2.1).length then fr else fr + 1)
        split
        · exact i5
        · exact lvB_le (Nat.le_succ _) i5
      · show (if en.2.2.2.2 + 1 < (C.1.1.1 gl.2.1).length then fr else fr + 1) ≤ (Ro.set fr en').length
        rw [List.length_set]
        split
        · exact Nat.le_of_lt hfr
        · exact hfr
      · rw [q5]
        exact d1
      · show ndOk C Gd g ((R.1, R.2, O.1), Ls ++ [(en.1, en.2.1.1, en.2.1.2, h)], Bi) F (bdL F Ls.length) (ds ++ cs)
        rw [ebd]
        refine ⟨n1, fun n m hnm => ⟨Nat.lt_of_lt_of_le (n2 n m hnm).1 (bPre_len r2.1), Nat.lt_of_lt_of_le (n2 n m hnm).2 (bPre_len r2.1)⟩, fun d hd => ?_, ?_⟩
        · rcases List.mem_append.mp hd with q | q
          · exact hdok d q
          · exact cOk_pre r2 (n3 d (List.mem_cons_of_mem _ q))
        · rw [List.map_append, hdsM]
          exact hJ
      · have gk : smGood C.1.1 (((ds ++ cs).map (bIt C F.1.2.2), bZ F.1.1 F.1.2.1 (bdL F Ls.length)) :: roNd C F ((Ro.set fr en').drop (if en.2.2.2.2 + 1 < (C.1.1.1 gl.2.1).length then fr else fr + 1))) (lvNd C F (Ro.set fr en') lv) k := gk
        show smGood C.1.1 (roNd C F (Ro.drop fr)) (lvNd C F Ro lv) k
        rw [hlvN, List.map_append, hdsM, ebd] at gk
        rw [hro]
        exact smGood_rf hrf gk
end BT
