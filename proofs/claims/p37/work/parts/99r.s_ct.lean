/-! Own rows: breadth's count, told by the pure run. By hand (printed by wip/p37/m_bct2.py). -/
section SCT
variable {G : zG} {d : Nat} {w : zW} {b1 b2 g rd : Nat} {R : pgR} {rs : Option Nat} {br pg t nd va ce li ro bi le wk : Nat} {N : bNT} {Vr : List (Option Nat)} {Ce : List (Nat × Nat × Option Nat)} {Ls : bLs} {Ro : List bEn} {fr tk na : Nat} {Bi : List (Nat × Nat)} {lv : bLv} {tc tn th tz : Nat} {ty : Int} {TN TH : List (List Int)} {TS : List Int} {pv : Nat → Prop} {n0 : Nat} {rp : Nat} {PQ : zV → zW → Prop}
theorem ed_row {l0 : Nat × Nat × Nat × Option Nat} {lv' : bLv} : (l0 :: lv').reverse.map rwV = lv'.reverse.map rwV ++ [[(l0.1 : Int), (l0.2.1 : Int), (l0.2.2.1 : Int), oI l0.2.2.2]] := by
  rw [List.reverse_cons, List.map_append]
  rfl
theorem ed_cut {lv' : bLv} {r : List Int} : tcut (lv'.reverse.map rwV ++ [r]) ((lv'.reverse.map rwV).length : Int) = lv'.reverse.map rwV := by
  unfold tcut
  rw [if_pos (by omega), Int.toNat_natCast, List.take_left]
theorem ed_take {e0 : Nat} : tcut (Ro.map rwE) (e0 : Int) = (Ro.take e0).map rwE := by
  unfold tcut
  rw [if_pos (by omega), Int.toNat_natCast, List.map_take]
theorem s_endDenied1 {l0 : Nat × Nat × Nat × Option Nat} {lv' : bLv} (hW : bsW w b1 b2 ((br, pg, t), (nd, va, ce, li), (ro, bi, le, wk)) g rs rd ((N, Vr, Ce), (Ls, Ro, fr), Bi, (l0 :: lv'), (tk, na))) (hG1 : b1 + 1800000 ≤ 30 * G.2.2.2.2.1) (hG2 : b2 + 3700000 ≤ G.2.2.2.2.2) (hlv : lv'.length < 900) (hl0 : l0.2.1 < 3000) : zM G zm_X0_endDenied (d + 4) [zR br, zI 1] w (zVoid fun w' => bsW w' b1 b2 ((br, pg, t), (nd, va, ce, li), (ro, bi, le, wk)) g rs rd ((N, Vr, Ce), (Ls, (Ro.take l0.2.1 ++ [(some l0.2.2.1, (0, 0), l0.2.2.2, none, 0)]), l0.1), Bi, lv', (tk, na)) ∧ zFr TB w w') := by
  obtain ⟨cN, cV, cC, cL, cR, cB, cE, cW, NN, WW, hB, hN, hBi⟩ := id hW
  rw [ed_row] at hB
  refine zM_mono (c_X0_endDenied_1 (G := G) (d := d) hB hG1 hG2 (by rw [List.length_map, List.length_reverse]; exact hlv) hl0) (fun oo w' q => ?_)
  obtain ⟨q1, hB9, hF9⟩ := q
  rw [ed_cut, ed_take] at hB9
  have e3 : ts (ts (ts ((Ro.take l0.2.1).map rwE ++ [trow 6 (l0.2.2.1 : Int) 0 0]) (((Ro.take l0.2.1).map rwE).length : Int) 3 (oI l0.2.2.2)) (((Ro.take l0.2.1).map rwE).length : Int) 4 (-1)) (((Ro.take l0.2.1).map rwE).length : Int) 5 0 = (Ro.take l0.2.1 ++ [(some l0.2.2.1, (0, 0), l0.2.2.2, none, 0)]).map rwE := by
    have a0 : ts ((Ro.take l0.2.1).map rwE ++ [trow 6 (l0.2.2.1 : Int) 0 0]) (((Ro.take l0.2.1).map rwE).length : Int) 3 (oI l0.2.2.2) = (Ro.take l0.2.1).map rwE ++ [(trow 6 (l0.2.2.1 : Int) 0 0).set 3 (oI l0.2.2.2)] := ts_last (j := 3)
    have a1 : ts ((Ro.take l0.2.1).map rwE ++ [(trow 6 (l0.2.2.1 : Int) 0 0).set 3 (oI l0.2.2.2)]) (((Ro.take l0.2.1).map rwE).length : Int) 4 (-1) = (Ro.take l0.2.1).map rwE ++ [((trow 6 (l0.2.2.1 : Int) 0 0).set 3 (oI l0.2.2.2)).set 4 (-1)] := ts_last (j := 4)
    have a2 : ts ((Ro.take l0.2.1).map rwE ++ [((trow 6 (l0.2.2.1 : Int) 0 0).set 3 (oI l0.2.2.2)).set 4 (-1)]) (((Ro.take l0.2.1).map rwE).length : Int) 5 0 = (Ro.take l0.2.1).map rwE ++ [(((trow 6 (l0.2.2.1 : Int) 0 0).set 3 (oI l0.2.2.2)).set 4 (-1)).set 5 0] := ts_last (j := 5)
    rw [a0, a1, a2, List.map_append]
    rfl
  rw [e3] at hB9
  exact ⟨q1, ⟨_, _, _, _, _, _, _, _, _, _, hB9, hN, hBi⟩, hF9⟩
theorem s_endDenied0 {l0 : Nat × Nat × Nat × Option Nat} {lv' : bLv} (hW : bsW w b1 b2 ((br, pg, t), (nd, va, ce, li), (ro, bi, le, wk)) g rs rd ((N, Vr, Ce), (Ls, Ro, fr), Bi, (l0 :: lv'), (tk, na))) (hG1 : b1 + 1800000 ≤ 30 * G.2.2.2.2.1) (hG2 : b2 + 3700000 ≤ G.2.2.2.2.2) (hlv : lv'.length < 900) (hl0 : l0.2.1 < 3000) : zM G zm_X0_endDenied (d + 4) [zR br, zI 0] w (zVoid fun w' => bsW w' b1 b2 ((br, pg, t), (nd, va, ce, li), (ro, bi, le, wk)) g rs rd ((N, Vr, Ce), (Ls, (Ro.take l0.2.1), l0.1), Bi, lv', (tk, na)) ∧ zFr TB w w') := by
  obtain ⟨cN, cV, cC, cL, cR, cB, cE, cW, NN, WW, hB, hN, hBi⟩ := id hW
  rw [ed_row] at hB
  refine zM_mono (c_X0_endDenied_0 (G := G) (d := d) hB hG1 hG2 (by rw [List.length_map, List.length_reverse]; exact hlv) hl0) (fun oo w' q => ?_)
  obtain ⟨q1, hB9, hF9⟩ := q
  rw [ed_cut, ed_take] at hB9
  exact ⟨q1, ⟨_, _, _, _, _, _, _, _, _, _, hB9, hN, hBi⟩, hF9⟩
theorem s_cloop (hG1 : b1 + 1800000 ≤ 30 * G.2.2.2.2.1) (hG2 : b2 + 3700000 ≤ G.2.2.2.2.2) (hT : tmW w t tc tn th tz ty C3 TN TH TS) (hP : pgW w pg R) (hQ : pgQ w R) (hK : bkF R) (hL : bkL R) (hpv : ∀ q, pv q → ∃ y, pgP R q = some y) (hpd : ∀ n gl, bG (pgC R) n = some gl → gl.1 = 3 → pv gl.2.1) (hp5 : ∀ q, pv q → q < 1000) (hCC : bCC (pgC R) (tvR R)) (hA3 : ∀ p, (pgC R).1.2 p ≤ 3) (hA : ∀ n gl, bG (pgC R) n = some gl → gl.2.2.1 ≤ 3) (hn0 : n0 ≤ 203) :
    ∀ (m q : Nat) (rs : Option Nat) (rd : Nat) (S : bS) (o4 : Option zV) (w1 : zW), 2 * (150 - S.2.2.2.2.1) + S.2.2.2.1.length + 1 ≤ m → q + m < 800000 → cInv (pgC R) pv g n0 S → S.2.2.2.2.1 ≤ 150 → S.2.2.2.2.2 ≤ q → (∀ l, rs = some l → l < S.2.1.1.length) → rd ≤ 2 * S.2.2.2.2.1 → bsW w1 b1 b2 ((br, pg, t), (nd, va, ce, li), (ro, bi, le, wk)) g rs rd S → zFr TB w w1 →
      (∀ (n : Nat) (F : bTS) (mm : Option Nat) (w2 : zW) (rs2 : Option Nat) (rd2 : Nat) (S2 : bS), bRunF (pgC R) (tvR R) g n S F mm → bsW w2 b1 b2 ((br, pg, t), (nd, va, ce, li), (ro, bi, le, wk)) g rs2 rd2 S2 → zFr TB w w2 → PQ (zI (oI mm)) w2) →
      zX G zm_X0_count (d + 7) [zR br, zR rp] w (zVal PQ) 25 [some (zR br), some (zR rp), some (zI ((S.2.2.2.2.2 : Nat) : Int)), some (zI ((q : Nat) : Int)), o4] [] w1 := by
  intro m
  induction m with
  | zero =>
    intro q rs rd S o4 w1 hm
    omega
  | succ m ih =>
    intro q rs rd S o4 w1 hm hq hI htk hnq hrs hrd hW hF K
    obtain ⟨⟨N, Vr, Ce⟩, ⟨Ls, Ro, fr⟩, Bi, lv, ⟨tk, na⟩⟩ := S
    obtain ⟨i1, i2, i3, i4, i5, i6⟩ := id hI
    have hm : 2 * (150 - tk) + lv.length + 1 ≤ m + 1 := hm
    have htk : tk ≤ 150 := htk
    have hnq : na ≤ q := hnq
    have hrs : ∀ l, rs = some l → l < Ls.length := hrs
    have hrd : rd ≤ 2 * tk := hrd
    have z1 : Ro.length + lv.length + 0 ≤ 1 + 2 * tk := i3.1
    have z2 : N.length + 0 ≤ n0 + 9 * tk := i3.2.1
    have z3 : Vr.length + 0 ≤ 3 + 11 * tk := i3.2.2
    have z4 : 2 * Ce.length ≤ 2 + pqz tk := i4.2
    have z5 : pqz tk ≤ 115350 := Nat.le_trans (pqz_le htk) (by decide +kernel)
    have hLl : Ls.length = tk := i1.1.2.2.2
    have hlB : lvB lv fr := i2.2.2.2.1
    have hfR : fr ≤ Ro.length := i2.2.2.2.2
    obtain ⟨cN, cV, cC, cL, cR, cB, cE, cW, NN, WW, hB, hN, hBi⟩ := id hW
    have next : ∀ (S' : bS) (q' : Nat) (rs' : Option Nat) (rd' : Nat) (o4 : Option zV) (w2 : zW), bTurn (pgC R) (tvR R) g ((N, Vr, Ce), (Ls, Ro, fr), Bi, lv, (tk, na)) (.inl S') → q' = q + 1 → 2 * (150 - S'.2.2.2.2.1) + S'.2.2.2.1.length + 1 ≤ m → S'.2.2.2.2.1 ≤ 150 → S'.2.2.2.2.2 ≤ q' → (∀ l, rs' = some l → l < S'.2.1.1.length) → rd' ≤ 2 * S'.2.2.2.2.1 → bsW w2 b1 b2 ((br, pg, t), (nd, va, ce, li), (ro, bi, le, wk)) g rs' rd' S' → zFr TB w w2 → zX G zm_X0_count (d + 7) [zR br, zR rp] w (zVal PQ) 25 [some (zR br), some (zR rp), some (zI ((S'.2.2.2.2.2 : Nat) : Int)), some (zI ((q' : Nat) : Int)), o4] [] w2 := fun S' q' rs' rd' o4 w2 ht hq' hm' htk' hnq' hrs' hrd' hW' hF' =>
      ih q' rs' rd' S' o4 w2 hm' (by omega) (cInv_turn hCC hA3 hA hpd hI ht) htk' hnq' hrs' hrd' hW' hF' (fun n F mm w3 rs2 rd2 S2 hr hW3 hF3 => K (n + 1) F mm w3 rs2 rd2 S2 (Or.inr ⟨S', ht, hr⟩) hW3 hF3)
    by_cases hle : Ro.length ≤ fr
    · cases lv with
      | nil =>
        exact ct_a hB (by omega) (by rw [List.length_map]; omega) rfl (K 1 _ (some na) w1 rs rd _ (Or.inl ⟨Or.inl ⟨hle, Or.inl ⟨rfl, rfl⟩⟩, rfl⟩) hW hF)
      | cons l0 lv' =>
        rw [List.length_cons] at hm z1
        have hl0 : l0.2.1 < 3000 := by have := hlB.2.1; omega
        refine ct_b (P1 := fun w2 => bsW w2 b1 b2 ((br, pg, t), (nd, va, ce, li), (ro, bi, le, wk)) g rs rd ((N, Vr, Ce), (Ls, (Ro.take l0.2.1 ++ [(some l0.2.2.1, (0, 0), l0.2.2.2, none, 0)]), l0.1), Bi, lv', (tk, na)) ∧ zFr TB w1 w2) hB (by omega) (by rw [List.length_map]; omega) (by rw [List.length_map, List.length_reverse, List.length_cons]; omega) (s_endDenied1 (G := G) (d := d + 2) hW hG1 hG2 (by omega) hl0) (fun w2 hq2 => ?_)
        obtain ⟨hW2, hF2⟩ := hq2
        exact next ((N, Vr, Ce), (Ls, Ro.take l0.2.1 ++ [(some l0.2.2.1, (0, 0), l0.2.2.2, none, 0)], l0.1), Bi, lv', (tk, na)) (q + 1) rs rd _ w2 (Or.inl ⟨hle, Or.inr ⟨l0, lv', rfl, rfl⟩⟩) rfl (by show 2 * (150 - tk) + lv'.length + 1 ≤ m; omega) htk (by show na ≤ q + 1; omega) hrs hrd hW2 (zFr_tr hF hF2)
    have hlt : fr < Ro.length := by omega
    by_cases h150 : 150 ≤ tk
    · exact ct_c hB (by omega) (by rw [List.length_map]; omega) (by omega) (K 1 _ none w1 rs rd _ (Or.inl ⟨Or.inr (Or.inl ⟨hlt, h150, rfl⟩), rfl⟩) hW hF)
    have htk2 : tk < 150 := by omega
    have hto := s_takeOff (G := G) (d := d + 1) (pv := pv) hW hG1 hG2 (pgW_TB hP hF) (pgQ_TB hQ hF) hK hL i2 hpv i1.1.1.2.2.2.2 hrs hlt (by omega) (by omega) (by omega) (by omega) (by omega) (by omega)
    refine ct_d (l := Ls.length) (P1 := fun w2 => ∃ (h : Option Nat) (S' : bS), bTake (pgC R) (tvR R) ((N, Vr, Ce), (Ls, Ro, fr), Bi, lv, (tk, na)) h S' ∧ bsW w2 b1 b2 ((br, pg, t), (nd, va, ce, li), (ro, bi, le, wk)) g rs rd S' ∧ zFr TB w1 w2) hB (by omega) (by rw [List.length_map]; omega) (by omega) hto (fun w2 hq2 => ?_)
    obtain ⟨h, S1, hT1, hW2, hF2⟩ := hq2
    have hF12 := zFr_tr hF hF2
    obtain ⟨⟨p, i, j, x1⟩, x2, x3, x4⟩ := bTake_x hT1
    have f1 := fIn_take i1 (by show Ls.length < 150; omega) hT1
    have g1 := gIn_take hCC i2 hT1
    have d1 := hd3_take i5 hT1
    have s1 := zSp_take i3 hT1
    obtain ⟨c1, c2, c3⟩ := zCl_take (fun p c hc => (hCC p c hc).2.1) i4.1 hT1
    obtain ⟨⟨N1, Vr1, Ce1⟩, ⟨Ls1, Ro1, fr1⟩, Bi1, lv1, ⟨tk1, na1⟩⟩ := S1
    have v1 : Ls1 = Ls ++ [(p, i, j, h)] := x1
    have v2 : Bi1 = Bi := x2
    have v3 : lv1 = lv := x3
    have v4 : tk1 = tk + 1 ∧ na = na1 := by
      have q : (tk1, na1) = (tk + 1, na) := x4
      exact ⟨congrArg Prod.fst q, (congrArg Prod.snd q).symm⟩
    clear x1 x2 x3 x4
    obtain ⟨v4, v5⟩ := v4
    subst v1
    subst v2
    subst v3
    subst v4
    subst v5
    have hle1 : (Ls ++ [(p, i, j, h)])[Ls.length]? = some (p, i, j, h) := by simp
    have hcell : tg ((Ls ++ [(p, i, j, h)]).map rwL) (Ls.length : Int) 3 = oI h := (rwL_at hle1).2.2.2
    have hLl1 : (Ls ++ [(p, i, j, h)]).length = Ls.length + 1 := by rw [List.length_append]; rfl
    have hrs1 : ∀ l, rs = some l → l < (Ls ++ [(p, i, j, h)]).length := fun l hl => by have : l < Ls.length := hrs l hl; omega
    obtain ⟨cN2, cV2, cC2, cL2, cR2, cB2, cE2, cW2, NN2, WW2, hB2, hN2, hBi2⟩ := id hW2
    have y1 : Ro1.length + lv1.length + 2 ≤ 1 + 2 * (tk + 1) := s1.1
    have y2 : N1.length + 1 ≤ n0 + 9 * (tk + 1) := s1.2.1
    have y3 : Vr1.length + 3 ≤ 3 + 11 * (tk + 1) := s1.2.2
    have y4 : Ce1.length ≤ Ce.length + 5 := c3
    cases h with
    | none =>
      cases lv1 with
      | nil =>
        refine ct_f hB2 (by omega) (by omega) hcell rfl ?_
        refine next ((N1, Vr1, Ce1), (Ls ++ [(p, i, j, none)], Ro1, fr1), Bi1, [], (tk + 1, na + 1)) (q + 1) rs rd _ w2 (Or.inr (Or.inr ⟨hlt, htk2, none, _, hT1, Or.inl ⟨rfl, Or.inl ⟨rfl, rfl⟩⟩⟩)) rfl ?_ (by show tk + 1 ≤ 150; omega) (by show na + 1 ≤ q + 1; omega) hrs1 (by show rd ≤ 2 * (tk + 1); omega) hW2 hF12
        show 2 * (150 - (tk + 1)) + 0 + 1 ≤ m
        have hm : 2 * (150 - tk) + 0 + 1 ≤ m + 1 := hm
        omega
      | cons l0 lv' =>
        have hm : 2 * (150 - tk) + (l0 :: lv').length + 1 ≤ m + 1 := hm
        rw [List.length_cons] at hm y1
        have hlB1 : lvB (l0 :: lv') fr1 := g1.2.2.2.1
        have hfR1 : fr1 ≤ Ro1.length := g1.2.2.2.2
        have hl0 : l0.2.1 < 3000 := by have := hlB1.2.1; omega
        refine ct_g (P1 := fun w3 => bsW w3 b1 b2 ((br, pg, t), (nd, va, ce, li), (ro, bi, le, wk)) g rs rd ((N1, Vr1, Ce1), ((Ls ++ [(p, i, j, none)]), (Ro1.take l0.2.1), l0.1), Bi1, lv', ((tk + 1), na)) ∧ zFr TB w2 w3) hB2 (by omega) hcell (by rw [List.length_map, List.length_reverse, List.length_cons]; omega) (s_endDenied0 (G := G) (d := d + 2) hW2 hG1 hG2 (by omega) hl0) (fun w3 hq3 => ?_)
        obtain ⟨hW3, hF3⟩ := hq3
        refine next ((N1, Vr1, Ce1), (Ls ++ [(p, i, j, none)], Ro1.take l0.2.1, l0.1), Bi1, lv', (tk + 1, na)) (q + 1) rs rd _ w3 (Or.inr (Or.inr ⟨hlt, htk2, none, _, hT1, Or.inl ⟨rfl, Or.inr ⟨l0, lv', rfl, rfl⟩⟩⟩)) rfl ?_ (by show tk + 1 ≤ 150; omega) (by show na ≤ q + 1; omega) hrs1 (by show rd ≤ 2 * (tk + 1); omega) hW3 (zFr_tr hF12 hF3)
        show 2 * (150 - (tk + 1)) + lv'.length + 1 ≤ m
        omega
    | some c =>
      obtain ⟨cs, hch, hcl⟩ := c2
      have hcl : cs.length ≤ 1 + 5 * tk + 5 := hcl
      have hmul : tk * (n0 + 1351) ≤ 149 * 1554 := Nat.mul_le_mul (by omega) (by omega)
      have i6 : Bi1.length ≤ tk * (n0 + 1351) := i6
      have hre := s_resolve (G := G) (d := d) (pv := pv) hW2 hG1 hG2 (tmW_TB hT hF12) (pgW_TB hP hF12) (pgQ_TB hQ hF12) hK f1 g1 hpv hpd hp5 d1 hrs1 hle1 rfl hch (by omega) (by omega) (by omega) (by omega) (by omega) (by omega) (by omega) (by omega)
      refine ct_e (P1 := fun w3 => ∃ (rd' : Nat) (S' : bS), rd ≤ rd' ∧ rd' ≤ rd + 2 ∧ bRes (pgC R) g Ls.length c ((N1, Vr1, Ce1), (Ls ++ [(p, i, j, some c)], Ro1, fr1), Bi1, lv1, (tk + 1, na)) S' ∧ bsW w3 b1 b2 ((br, pg, t), (nd, va, ce, li), (ro, bi, le, wk)) g (some Ls.length) rd' S' ∧ zFr TB w2 w3) hB2 (by omega) hcell oI_ne hre (fun w3 hq3 => ?_)
      obtain ⟨rd', S2, r1, r2, hR2, hW3, hF3⟩ := hq3
      obtain ⟨u1, u2, u3⟩ := bRes_x hR2
      have u3 : S2.2.2.2.1.length ≤ lv1.length + 1 := u3
      have e5 : S2.2.2.2.2.1 = tk + 1 := by rw [u2]
      have e6 : S2.2.2.2.2.2 = na := by rw [u2]
      have q9 := next S2 (q + 1) (some Ls.length) rd' (some (zI (Ls.length : Int))) w3 (Or.inr (Or.inr ⟨hlt, htk2, some c, _, hT1, Or.inr ⟨c, S2, rfl, rfl, hR2⟩⟩)) rfl (by rw [e5]; omega) (by rw [e5]; omega) (by rw [e6]; omega) (fun l hl => by cases hl; rw [u1]; show Ls.length < (Ls ++ [(p, i, j, some c)]).length; omega) (by rw [e5]; omega) hW3 (zFr_tr hF12 hF3)
      rw [e6] at q9
      exact q9
end SCT
