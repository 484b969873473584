/-! Own rows: BREADTH: a turn, as a step of the search. By hand; nothing of the bytecode. -/
section BTN
variable {C : mmC} {Gd : Nat × Nat → Prop} {tv : Nat → Nat → Bool} {g : Nat} {F : bTS}
theorem lvNd_take {Ro : List bEn} {n : Nat} {lv : bLv} (h : ∀ l, l ∈ lv → l.2.1 ≤ n) : lvNd C F (Ro.take n) lv = lvNd C F Ro lv := by
  unfold lvNd
  refine List.map_congr_left fun l hl => ?_
  rw [List.take_take, Nat.min_eq_left (h l hl)]
theorem lvNd_c {Ro : List bEn} {l : Nat × Nat × Nat × Option Nat} {lv : bLv} {cs : List Nat} (h : bCh F.1.2.2 l.2.2.2 cs) : lvNd C F Ro (l :: lv) = ((cs.map (bIt C F.1.2.2), bZ F.1.1 F.1.2.1 (bdL F l.2.2.1)), roNd C F ((Ro.take l.2.1).drop l.1)) :: lvNd C F Ro lv := by
  show (((chO F.1.2.2 l.2.2.2).map (bIt C F.1.2.2), bZ F.1.1 F.1.2.1 (bdL F l.2.2.1)), roNd C F ((Ro.take l.2.1).drop l.1)) :: lvNd C F Ro lv = _
  rw [chO_eq h]
theorem bdE_w {q : Nat} {r : Option Nat} : bdE F (some q, (0, 0), r, none, 0) = bdL F q := by
  unfold bdE bdL
  show bdOf ((F.2.2.take 0).drop 0 ++ _) = _
  rw [List.take_zero, List.drop_nil, List.nil_append]
theorem bCh_none {Ce : List (Nat × Nat × Option Nat)} {cs : List Nat} (h : bCh Ce none cs) : cs = [] := by
  cases cs with
  | nil => rfl
  | cons c cs => cases h.1
theorem b_turn (hF : mmFa C Gd) (hA3 : ∀ p, C.1.2 p ≤ 3) (hCC : bCC C tv) (hFb : bF F.1.1 g) (hwF : tW g F) {S S' : bS} (hI : bIn C Gd g F S) (ht : bTurn C tv g S (.inl S')) (hp' : tPre (tS S') F) :
    bIn C Gd g F S' ∧ S.2.2.2.2.2 ≤ S'.2.2.2.2.2 ∧ ∀ k, smGood C.1.1 (roNd C F (S'.2.1.2.1.drop S'.2.1.2.2)) (lvNd C F S'.2.1.2.1 S'.2.2.2.1) k → smGood C.1.1 (roNd C F (S.2.1.2.1.drop S.2.1.2.2)) (lvNd C F S.2.1.2.1 S.2.2.2.1) (k + (S'.2.2.2.2.2 - S.2.2.2.2.2)) := by
  have hs' := (sIn_turn hI.2.1 ht).1
  obtain ⟨⟨N, Vr, Ce⟩, ⟨Ls, Ro, fr⟩, Bi, lv, ⟨tk, na⟩⟩ := S
  obtain ⟨i1, i2, i3, i4, i5, i6⟩ := id hI
  have i1 : tPre ((N, Vr, Ce), Ls, Bi) F := i1
  have i3 : ∀ en, en ∈ Ro.drop fr → enOk C Gd g ((N, Vr, Ce), Ls, Bi) F en := i3
  have i4 : ∀ l, l ∈ lv → (∀ en, en ∈ (Ro.take l.2.1).drop l.1 → enOk C Gd g ((N, Vr, Ce), Ls, Bi) F en) ∧ ∃ cs, bCh Ce l.2.2.2 cs ∧ ndOk C Gd g ((N, Vr, Ce), Ls, Bi) F (bdL F l.2.2.1) cs := i4
  have i5 : lvB lv fr := i5
  have i6 : fr ≤ Ro.length := i6
  rcases ht with ⟨he, ⟨-, q⟩ | ⟨l, lv', rfl, q⟩⟩ | ⟨-, -, q⟩ | ⟨hfr, htk, h, S1, hk, hr⟩
  · cases q
  · cases q
    obtain ⟨j1, j2, j3⟩ := i5
    obtain ⟨k1, cs, k2, k3⟩ := i4 l List.mem_cons_self
    have hlen : (Ro.take l.2.1).length = l.2.1 := by rw [List.length_take]; omega
    have hdr : (Ro.take l.2.1 ++ [((some l.2.2.1, (0, 0), l.2.2.2, none, 0) : bEn)]).drop l.1 = (Ro.take l.2.1).drop l.1 ++ [(some l.2.2.1, (0, 0), l.2.2.2, none, 0)] := List.drop_append_of_le_length (by omega)
    have hlv : ∀ q, q ∈ lv' → q.2.1 ≤ l.2.1 := fun q hq => by have := lvB_mem j3 q hq; omega
    have hsub : ∀ n, n ≤ l.2.1 → (Ro.take l.2.1 ++ [((some l.2.2.1, (0, 0), l.2.2.2, none, 0) : bEn)]).take n = Ro.take n := fun n hn => by
      rw [List.take_append_of_le_length (by omega), List.take_take, Nat.min_eq_left hn]
    refine ⟨⟨i1, hs', fun en hen => ?_, fun q hq => ?_, j3, ?_⟩, Nat.le_refl _, fun k gk => ?_⟩
    · have hen : en ∈ (Ro.take l.2.1 ++ [((some l.2.2.1, (0, 0), l.2.2.2, none, 0) : bEn)]).drop l.1 := hen
      rw [hdr] at hen
      rcases List.mem_append.mp hen with q | q
      · exact k1 en q
      · rw [List.mem_singleton.mp q]
        exact ⟨cs, k2, Or.inl ⟨rfl, by rw [bdE_w]; exact k3⟩⟩
    · obtain ⟨a1, a2⟩ := i4 q (List.mem_cons_of_mem _ hq)
      refine ⟨fun en hen => a1 en ?_, a2⟩
      have hen : en ∈ ((Ro.take l.2.1 ++ [((some l.2.2.1, (0, 0), l.2.2.2, none, 0) : bEn)]).take q.2.1).drop q.1 := hen
      rw [hsub _ (hlv q hq)] at hen
      exact hen
    · show l.1 ≤ (Ro.take l.2.1 ++ [_]).length
      rw [List.length_append, hlen]
      omega
    · have gk : smGood C.1.1 (roNd C F ((Ro.take l.2.1 ++ [((some l.2.2.1, (0, 0), l.2.2.2, none, 0) : bEn)]).drop l.1)) (lvNd C F (Ro.take l.2.1 ++ [((some l.2.2.1, (0, 0), l.2.2.2, none, 0) : bEn)]) lv') k := gk
      show smGood C.1.1 (roNd C F (Ro.drop fr)) (lvNd C F Ro (l :: lv')) (k + (na - na))
      have e1 : enNd C F (some l.2.2.1, (0, 0), l.2.2.2, none, 0) = [(cs.map (bIt C F.1.2.2), bZ F.1.1 F.1.2.1 (bdL F l.2.2.1))] := by
        have e2 := enNd_n (C := C) (F := F) (en := (some l.2.2.1, (0, 0), l.2.2.2, none, 0)) rfl (cs := cs) (bCh_pre i1.2.2.1 _ _ k2)
        rw [bdE_w] at e2
        exact e2
      rw [hdr, roNd_app, roNd_one, e1, lvNd_app (fun q hq => by rw [hlen]; exact hlv q hq), lvNd_take hlv] at gk
      rw [List.drop_eq_nil_of_le he, lvNd_c (bCh_pre i1.2.2.1 _ _ k2), Nat.sub_self, Nat.add_zero]
      exact smGood_held (smGood_perm List.perm_append_comm gk)
  · cases q
  · obtain ⟨-, -, t3⟩ := sIn_take hI.2.1 hk
    have hp1 : tPre (tS S1) F := by
      rcases hr with ⟨-, ⟨-, q⟩ | ⟨l, lv', rfl, q⟩⟩ | ⟨c, S2, -, q, hres⟩
      · cases q; exact hp'
      · cases q; exact hp'
      · cases q
        exact tPre_tr (sIn_res (sIn_take hI.2.1 hk).1 (by rw [t3]; exact Nat.lt_succ_self _) hres).2 hp'
    obtain ⟨b1, b2, b3, b4, cs, b5, b6, b7⟩ := b_take hF hCC hwF hI hfr htk hk hp1
    obtain ⟨⟨N1, Vr1, Ce1⟩, ⟨Ls1, Ro1, fr1⟩, Bi1, lv1, ⟨tk1, na1⟩⟩ := S1
    have b2 : lv1 = lv := b2
    have b3 : na1 = na := b3
    subst b2 b3
    rcases hr with ⟨rfl, ⟨rfl, q⟩ | ⟨l, lv', rfl, q⟩⟩ | ⟨c, S2, rfl, q, hres⟩
    · cases q
      have ecs := bCh_none b5
      subst ecs
      obtain ⟨c1, c2, c3, c4, c5, c6⟩ := b1
      refine ⟨⟨c1, hs', c3, c4, c5, c6⟩, Nat.le_succ _, fun k gk => ?_⟩
      show smGood C.1.1 (roNd C F (Ro.drop fr)) (lvNd C F Ro []) (k + (na1 + 1 - na1))
      rw [show na1 + 1 - na1 = 1 by omega]
      exact b7 (k + 1) (smGood_ans (bZ_sat b6.1) gk)
    · cases q
      have ecs := bCh_none b5
      subst ecs
      obtain ⟨c1, c2, c3, c4, ⟨j1, j2, j3⟩, c6⟩ := b1
      have c6 : fr1 ≤ Ro1.length := c6
      have j2 : l.2.1 ≤ fr1 := j2
      have hlv : ∀ q, q ∈ lv' → q.2.1 ≤ l.2.1 := fun q hq => by have := lvB_mem j3 q hq; omega
      obtain ⟨k1, cs2, k2, k3⟩ := c4 l List.mem_cons_self
      refine ⟨⟨c1, hs', k1, fun q hq => ?_, j3, ?_⟩, Nat.le_refl _, fun k gk => ?_⟩
      · obtain ⟨a1, a2⟩ := c4 q (List.mem_cons_of_mem _ hq)
        refine ⟨fun en hen => a1 en ?_, a2⟩
        have hen : en ∈ ((Ro1.take l.2.1).take q.2.1).drop q.1 := hen
        rw [List.take_take, Nat.min_eq_left (hlv q hq)] at hen
        exact hen
      · show l.1 ≤ (Ro1.take l.2.1).length
        rw [List.length_take]
        omega
      · have gk : smGood C.1.1 (roNd C F ((Ro1.take l.2.1).drop l.1)) (lvNd C F (Ro1.take l.2.1) lv') k := gk
        rw [lvNd_take hlv] at gk
        show smGood C.1.1 (roNd C F (Ro.drop fr)) (lvNd C F Ro (l :: lv')) (k + (na1 - na1))
        rw [Nat.sub_self, Nat.add_zero]
        refine b7 k ?_
        show smGood C.1.1 (_ :: _) (lvNd C F Ro1 (l :: lv')) k
        rw [lvNd_c (bCh_pre c1.2.2.1 _ _ k2)]
        exact smGood_yes (bZ_sat b6.1) gk
    · cases q
      have hlt : Ls.length < Ls1.length := by
        have : Ls1.length = Ls.length + 1 := b4
        omega
      obtain ⟨d1, d2, d3⟩ := b_res hF hA3 hFb b1 hlt b5 b6 hres hp'
      refine ⟨d1, ?_, fun k gk => ?_⟩
      · show na1 ≤ S'.2.2.2.2.2
        rw [d2]
        exact Nat.le_refl _
      · have e : S'.2.2.2.2.2 - na1 = 0 := by
          rw [d2]
          exact Nat.sub_self _
        show smGood C.1.1 (roNd C F (Ro.drop fr)) (lvNd C F Ro lv1) (k + (S'.2.2.2.2.2 - na1))
        rw [e, Nat.add_zero]
        exact b7 k (d3 k gk)
/-- the last turn: nothing is left -/
theorem b_last {S : bS} {m : Nat} (ht : bTurn C tv g S (.inr (some m))) : m = S.2.2.2.2.2 ∧ smGood C.1.1 (roNd C F (S.2.1.2.1.drop S.2.1.2.2)) (lvNd C F S.2.1.2.1 S.2.2.2.1) 0 := by
  obtain ⟨⟨N, Vr, Ce⟩, ⟨Ls, Ro, fr⟩, Bi, lv, ⟨tk, na⟩⟩ := S
  rcases ht with ⟨he, ⟨rfl, q⟩ | ⟨l, lv', rfl, q⟩⟩ | ⟨-, -, q⟩ | ⟨hfr, htk, h, S1, hk, ⟨-, ⟨-, q⟩ | ⟨l, lv', -, q⟩⟩ | ⟨c, S2, -, q, hres⟩⟩
  · cases q
    refine ⟨rfl, ?_⟩
    show smGood C.1.1 (roNd C F (Ro.drop fr)) (lvNd C F Ro []) 0
    rw [List.drop_eq_nil_of_le he]
    exact smGood_end
  · cases q
  · cases q
  · cases q
  · cases q
  · cases q
end BTN
