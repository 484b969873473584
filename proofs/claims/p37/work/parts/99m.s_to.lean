/-! Own rows: breadth takes a list off the row, told by the pure state. By hand (printed by wip/p37/m_bto2.py). -/
/-- the clauses of the predicates are the program's -/
def bkL (R : pgR) : Prop := ∀ y, y ∈ R.2.2.1.1 → (R.2.2.2.1 y).2.2.2.2.length ≤ 12 ∧ ∀ a, a ∈ (R.2.2.2.1 y).2.2.2.2 → ∃ c, pgCl R c = some a
def tvR (R : pgR) (c k : Nat) : Bool := match pgCl R c with
  | none => false
  | some a => decide (tg (R.2.2.2.2.2.1 a).2.2.1 (k : Int) 0 ≠ -1)
theorem tvR_eq {R : pgR} {c a k : Nat} (h : pgCl R c = some a) : tvR R c k = true ↔ tg (R.2.2.2.2.2.1 a).2.2.1 (k : Int) 0 ≠ -1 := by
  unfold tvR
  rw [h]
  exact decide_eq_true_iff
section STG
variable {G : zG} {d : Nat} {w : zW} {b1 b2 : Nat} {R : pgR} {br pg t nd va ce li ro bi le wk : Nat} {Ce : List (Nat × Nat × Option Nat)}
theorem s_goalAny (hP : pgW w pg R) (hQ : pgQ w R) (hK : bkF R) {c : Nat} {e : Nat × Nat × Option Nat} {gl : smL} (he : Ce[c]? = some e) (hg : bG (pgC R) e.1 = some gl) (h60 : e.1 < 60 ∨ ∃ y, pgP R (e.1 - 60) = some y) : ∃ x r, goW w x r ∧ gOk r ∧ gL r = gl ∧ ∀ (w1 : zW) (cN cV cC cL cR cB cE cW : Nat) (NN VV LL RR BB EE WW : List (List Int)) (gc fr tk rs rd : Int), bbW w1 b1 b2 ((br, pg, t), (nd, va, ce, li), (ro, bi, le, wk)) (((cN, NN), (cV, VV), (cC, (Ce.map rwC)), (cL, LL)), ((cR, RR), (cB, BB), (cE, EE), (cW, WW)), (gc, fr, tk, rs, rd)) → pgW w1 pg R → zM G zm_X0_goalOf (d + 4) [zR br, zI (c : Int)] w1 (zRet (some (zR x)) w1) := by
  have e0 : tg (Ce.map rwC) (c : Int) 0 = (e.1 : Int) := tg_map (j := 0) he
  unfold bG at hg
  by_cases c6 : 60 ≤ e.1
  · rw [if_pos c6] at hg
    rcases h60 with h | ⟨y, hy⟩
    · omega
    · obtain ⟨h1, h2⟩ := hK.1 _ y hy
      obtain ⟨v, h3, h4⟩ := hQ y (List.mem_of_getElem? hy)
      refine ⟨_, _, h3, gOk_q h1 h4, ?_, fun w1 cN cV cC cL cR cB cE cW NN VV LL RR BB EE WW gc fr tk rs rd hB hP1 => c_X0_goalOf_q hB hP1 e0 c6 (by omega) hy⟩
      rw [gL_q h1]
      have e2 : (pgC R).1.2 (e.1 - 60) = (R.2.2.2.1 y).2.1.length := by
        show (match pgP R (e.1 - 60) with | none => 0 | some y => (R.2.2.2.1 y).2.1.length) = _
        rw [hy]
      rw [e2] at hg
      exact Option.some.inj hg
  · rw [if_neg c6] at hg
    have hg : (match pgCl R (e.1 / 5) with | none => ([] : List smL) | some a => (R.2.2.2.2.2.1 a).2.2.2.1.2.map (fun x => gL (R.2.2.2.2.2.2 x)))[e.1 % 5]? = some gl := hg
    cases ha : pgCl R (e.1 / 5) with
    | none => rw [ha] at hg; cases hg
    | some a =>
      rw [ha] at hg
      have hg : ((R.2.2.2.2.2.1 a).2.2.2.1.2.map (fun x => gL (R.2.2.2.2.2.2 x)))[e.1 % 5]? = some gl := hg
      rw [List.getElem?_map] at hg
      cases hx : (R.2.2.2.2.2.1 a).2.2.2.1.2[e.1 % 5]? with
      | none => rw [hx] at hg; cases hg
      | some x =>
        rw [hx] at hg
        obtain ⟨-, -, -, h4⟩ := hK.2 _ a ha
        have hm := List.mem_of_getElem? hx
        exact ⟨x, _, (hP.2.2.2.2.2.2 a (List.mem_of_getElem? ha)).2 x hm, h4 x hm, Option.some.inj hg, fun w1 cN cV cC cL cR cB cE cW NN VV LL RR BB EE WW gc fr tk rs rd hB hP1 => c_X0_goalOf_c hB hP1 e0 (by omega) ha hx⟩
end STG
section STO
variable {G : zG} {d : Nat} {w : zW} {b1 b2 g rd : Nat} {R : pgR} {rs : Option Nat} {br pg t nd va ce li ro bi le wk : Nat} {N : bNT} {Vr : List (Option Nat)} {Ce : List (Nat × Nat × Option Nat)} {Ls : bLs} {Ro : List bEn} {fr tk na : Nat} {Bi : List (Nat × Nat)} {lv : bLv} {pv : Nat → Prop}
theorem s_takeOff (hW : bsW w b1 b2 ((br, pg, t), (nd, va, ce, li), (ro, bi, le, wk)) g rs rd ((N, Vr, Ce), (Ls, Ro, fr), Bi, lv, (tk, na))) (hG1 : b1 + 1800000 ≤ 30 * G.2.2.2.2.1) (hG2 : b2 + 3700000 ≤ G.2.2.2.2.2) (hP : pgW w pg R) (hQ : pgQ w R) (hK : bkF R) (hL : bkL R) (hGI : gIn (pgC R) pv ((N, Vr, Ce), (Ls, Ro, fr), Bi, lv, (tk, na))) (hpv : ∀ q, pv q → ∃ y, pgP R q = some y) (hlw : bLw Ls Bi.length) (hrs : ∀ q, rs = some q → q < Ls.length) (hfr : fr < Ro.length) (hfr5 : fr < 90000) (htk : tk < 90000) (hlL : Ls.length < 400) (hN3 : N.length < 3880) (hlV : Vr.length < 5000) (hlC : Ce.length < 113000) :
    zM G zm_X0_takeOff (d + 5) [zR br] w (zVal fun o w' => o = zI (Ls.length : Int) ∧ ∃ (h : Option Nat) (S' : bS), bTake (pgC R) (tvR R) ((N, Vr, Ce), (Ls, Ro, fr), Bi, lv, (tk, na)) h S' ∧ bsW w' b1 b2 ((br, pg, t), (nd, va, ce, li), (ro, bi, le, wk)) g rs rd S' ∧ zFr TB w w') := by
  obtain ⟨cN, cV, cC, cL, cR, cB, cE, cW, NN, WW, hB, hN, hBi⟩ := id hW
  obtain ⟨en, hen⟩ : ∃ en, Ro[fr]? = some en := ⟨_, List.getElem?_eq_getElem hfr⟩
  have r0 : tg (Ro.map rwE) (fr : Int) 0 = oI en.1 := tg_map (j := 0) hen
  have r1 : tg (Ro.map rwE) (fr : Int) 1 = (en.2.1.1 : Int) := tg_map (j := 1) hen
  have r2 : tg (Ro.map rwE) (fr : Int) 2 = (en.2.1.2 : Int) := tg_map (j := 2) hen
  have r3 : tg (Ro.map rwE) (fr : Int) 3 = oI en.2.2.1 := tg_map (j := 3) hen
  have r4 : tg (Ro.map rwE) (fr : Int) 4 = oI en.2.2.2.1 := tg_map (j := 4) hen
  have r5 : tg (Ro.map rwE) (fr : Int) 5 = (en.2.2.2.2 : Int) := tg_map (j := 5) hen
  have eL : ts (Ls.map rwL ++ [trow 4 (oI en.1) (en.2.1.1 : Int) (en.2.1.2 : Int)]) ((Ls.map rwL).length : Int) 3 (oI en.2.2.1) = (Ls ++ [(en.1, en.2.1.1, en.2.1.2, en.2.2.1)]).map rwL := by
    have e1 : ts (Ls.map rwL ++ [trow 4 (oI en.1) (en.2.1.1 : Int) (en.2.1.2 : Int)]) ((Ls.map rwL).length : Int) 3 (oI en.2.2.1) = Ls.map rwL ++ [(trow 4 (oI en.1) (en.2.1.1 : Int) (en.2.1.2 : Int)).set 3 (oI en.2.2.1)] := ts_last (j := 3)
    rw [e1, List.map_append]
    rfl
  have ebd : ∀ h : Option Nat, bPb (Ls ++ [(en.1, en.2.1.1, en.2.1.2, h)]) Bi 150 rs = bPb Ls Bi 150 rs := fun h => bPb_pre (bPre_app _ _) (bPre_refl _) hlw 150 rs hrs
  have hLl : (Ls.map rwL).length = Ls.length := List.length_map _
  have mk1 : ∀ (w1 : zW) (h : Option Nat) (f : Nat) (cL1 : Nat), bbW w1 b1 b2 ((br, pg, t), (nd, va, ce, li), (ro, bi, le, wk)) (((cN, NN), (cV, (Vr.map (fun o => [oI o]))), (cC, (Ce.map rwC)), (cL1, ((Ls ++ [(en.1, en.2.1.1, en.2.1.2, h)]).map rwL))), ((cR, (Ro.map rwE)), (cB, (Bi.map rwB)), (cE, (lv.reverse.map rwV)), (cW, WW)), ((g : Int), (f : Int), ((tk : Int) + 1), (oI rs), (rd : Int))) → bsW w1 b1 b2 ((br, pg, t), (nd, va, ce, li), (ro, bi, le, wk)) g rs rd ((N, Vr, Ce), ((Ls ++ [(en.1, en.2.1.1, en.2.1.2, h)]), Ro, f), Bi, lv, ((tk + 1), na)) := fun w1 h f cL1 hb => ⟨_, _, _, _, _, _, _, _, _, _, hb, by rw [ebd]; exact hN, hBi⟩
  cases hc : en.2.2.2.1 with
  | none =>
    rw [hc] at r4
    have q := to_n (G := G) (d := d) (PQ := fun o w' => o = zI (Ls.length : Int) ∧ ∃ (h : Option Nat) (S' : bS), bTake (pgC R) (tvR R) ((N, Vr, Ce), (Ls, Ro, fr), Bi, lv, (tk, na)) h S' ∧ bsW w' b1 b2 ((br, pg, t), (nd, va, ce, li), (ro, bi, le, wk)) g rs rd S' ∧ zFr TB w w') hB hG1 hG2 (by omega) (by omega) (by rw [hLl]; exact hlL) r4 r0 r1 r2 r3 (fun w1 hB1 hF1 => by
      rw [eL] at hB1
      exact s_goalNone (G := G) (d := d) (mk1 w1 _ fr _ hB1) (pgW_TB hP hF1)) (fun w1 hB1 hF1 => by
      rw [eL] at hB1
      rw [hLl]
      exact ⟨rfl, en.2.2.1, _, ⟨en, hen, Or.inl ⟨hc, rfl, rfl⟩⟩, mk1 w1 _ (fr + 1) _ hB1, hF1⟩)
    exact q
  | some cc =>
    rw [hc] at r4
    obtain ⟨i1, i3, i4, i5, i6⟩ := id hGI
    have i1 : cVo (pgC R) pv Vr Ce := i1
    obtain ⟨e, gl, he, hgl, hk2, hpl⟩ := i3 en (by
      show en ∈ Ro.drop fr
      rw [drop_cons hen]
      exact List.mem_cons_self) cc hc
    have he : Ce[cc]? = some e := he
    obtain ⟨⟨gl', hgl', hgok, hvar⟩, h6⟩ := i1 cc e he
    rw [hgl] at hgl'
    cases hgl'
    have h60 : e.1 < 60 ∨ ∃ y, pgP R (e.1 - 60) = some y := by
      by_cases c6 : e.1 < 60
      · exact Or.inl c6
      · exact Or.inr (hpv _ (h6 (by omega)))
    obtain ⟨x, r, hg, ho, hgr, hgoA⟩ := s_goalAny (G := G) (d := d) (b1 := b1) (b2 := b2) (br := br) (t := t) (nd := nd) (va := va) (ce := ce) (li := li) (ro := ro) (bi := bi) (le := le) (wk := wk) hP hQ hK he hgl h60
    subst hgr
    obtain ⟨g1, g2, g3, g4, g5⟩ := go_1 ho
    have hs := g5 (by omega)
    have eC : (pgC R).1.1.1 (gL r).2.1 = (match pgP R (gL r).2.1 with | none => [] | some y => (R.2.2.2.1 y).2.2.2.2.map (fun a => (R.2.2.2.2.2.1 a).1.1.toNat)) := rfl
    cases hp : pgP R (gL r).2.1 with
    | none =>
      rw [hp] at eC
      rw [eC] at hpl
      exact absurd hpl (Nat.not_lt_zero _)
    | some y =>
    rw [hp] at eC
    have eC : (pgC R).1.1.1 (gL r).2.1 = (R.2.2.2.1 y).2.2.2.2.map (fun a => (R.2.2.2.2.2.1 a).1.1.toNat) := eC
    have hn : lAt R.2.2.1.1 r.2.1 = some y := by
      rw [hs]
      exact lAt_in (by omega) (by rw [Int.toNat_natCast]; exact hp)
    have hy : y ∈ R.2.2.1.1 := List.mem_of_getElem? hp
    have hlen : ((pgC R).1.1.1 (gL r).2.1).length = (R.2.2.2.1 y).2.2.2.2.length := by rw [eC, List.length_map]
    have hplt : en.2.2.2.2 < (R.2.2.2.1 y).2.2.2.2.length := by rw [← hlen]; exact hpl
    obtain ⟨a, hca⟩ : ∃ a, (R.2.2.2.1 y).2.2.2.2[en.2.2.2.2]? = some a := ⟨_, List.getElem?_eq_getElem hplt⟩
    have h12 := (hL y hy).1
    obtain ⟨c, hcl⟩ := (hL y hy).2 a (List.mem_of_getElem? hca)
    obtain ⟨hc12, hGl, hnu, -⟩ := hK.2 c a hcl
    have hcm : ∀ z, z ∈ (R.2.2.2.1 y).2.2.2.2 → z ∈ R.2.2.1.2.2 := fun z hz => by
      obtain ⟨c', hc'⟩ := (hL y hy).2 z hz
      exact List.mem_of_getElem? hc'
    have hca2 : lAt (R.2.2.2.1 y).2.2.2.2 (en.2.2.2.2 : Int) = some a := lAt_in (by omega) (by rw [Int.toNat_natCast]; exact hca)
    have hcP : ((pgC R).1.1.1 (gL r).2.1)[en.2.2.2.2]? = some c := by
      rw [eC, List.getElem?_map, hca]
      show some ((R.2.2.2.2.2.1 a).1.1.toNat) = some c
      rw [hnu]
      rfl
    have hCc : ((pgC R).1.1.2 c).length = (R.2.2.2.2.2.1 a).2.2.2.1.2.length := by
      have q : (pgC R).1.1.2 c = (match pgCl R c with | none => [] | some a => (R.2.2.2.2.2.1 a).2.2.2.1.2.map fun g => gL (R.2.2.2.2.2.2 g)) := rfl
      rw [q, hcl]
      exact List.length_map _
    have hbs1 : tg (Ce.map rwC) (oI (some cc)) 1 = (e.2.1 : Int) := tg_map (j := 1) he
    obtain ⟨OV, hOV⟩ : ∃ OV, OV = bOv (tvR R c) (gL r).2.2.1 (fun k => bNo Vr e.2.1 (smv (gL r) k)) (List.range 8) N Vr := ⟨_, rfl⟩
    obtain ⟨OC, hOC⟩ : ∃ OC, OC = bOc c Vr.length (R.2.2.2.2.2.1 a).2.2.2.1.2.length en.2.2.1 Ce := ⟨_, rfl⟩
    refine to_a (R := R) (P1 := fun w2 => bsW w2 b1 b2 ((br, pg, t), (nd, va, ce, li), (ro, bi, le, wk)) g rs rd ((OV.1, OV.2, OC.1), ((Ls ++ [(en.1, en.2.1.1, en.2.1.2, en.2.2.1)]), Ro, fr), Bi, lv, ((tk + 1), na)) ∧ zFr TB w w2) (v0 := oI OC.2) hB hG1 hG2 (by omega) (by omega) (by rw [hLl]; exact hlL) r4 r0 r1 r2 r3 r5 hP hg hn hy hcm hca2 hbs1 (fun w1 hB1 hF1 => ?_) (fun w1 hB1 hF1 => ?_) (fun w2 hq2 => ?_)
    · rw [eL] at hB1
      exact hgoA w1 _ _ _ _ _ _ _ _ _ _ _ _ _ _ _ _ _ _ _ _ hB1 (pgW_TB hP hF1)
    · rw [eL] at hB1
      have q := s_openClause (G := G) (d := d) (tv := tvR R c) (mk1 w1 en.2.2.1 fr _ hB1) hG1 hG2 (goW_TB hg hF1) ho ((pgW_TB hP hF1).2.2.2.2.2.2 a (hcm a (List.mem_of_getElem? hca))).1 hnu hc12 hGl hN3 hlV hlC hvar (fun k hk => tvR_eq hcl) (ro0 := en.2.2.1)
      rw [← hOV, ← hOC] at q
      refine zM_mono q (fun oo w2 q => ?_)
      obtain ⟨v, q1, q2, q3, q4⟩ := q
      exact ⟨v, q1, q2, q3, zFr_tr hF1 q4⟩
    · obtain ⟨hW2, hF2⟩ := hq2
      obtain ⟨c1, c2, c3, c4, c5, c6, c7, c8, NN2, WW2, hB2, hN2, hBi2⟩ := id hW2
      rw [ebd] at hN2
      have eL2 : ts ((Ls ++ [(en.1, en.2.1.1, en.2.1.2, en.2.2.1)]).map rwL) ((Ls.map rwL).length : Int) 3 (oI OC.2) = (Ls ++ [(en.1, en.2.1.1, en.2.1.2, OC.2)]).map rwL := by
        rw [List.map_append]
        have e1 : ts (Ls.map rwL ++ [rwL (en.1, en.2.1.1, en.2.1.2, en.2.2.1)]) ((Ls.map rwL).length : Int) 3 (oI OC.2) = Ls.map rwL ++ [(rwL (en.1, en.2.1.1, en.2.1.2, en.2.2.1)).set 3 (oI OC.2)] := ts_last (j := 3)
        rw [List.map_append]
        exact e1
      have eR2 : ts (Ro.map rwE) (fr : Int) 5 ((en.2.2.2.2 : Int) + 1) = (Ro.set fr (en.1, en.2.1, en.2.2.1, en.2.2.2.1, en.2.2.2.2 + 1)).map rwE := by
        have e1 : ts (Ro.map rwE) (fr : Int) 5 ((en.2.2.2.2 : Int) + 1) = (Ro.map rwE).set fr (((Ro.map rwE).getD fr []).set 5 ((en.2.2.2.2 : Int) + 1)) := ts_in (j := 5)
        rw [e1, List.map_set, List.getD_eq_getElem?_getD, List.getElem?_map, hen]
        rfl
      have fin : ∀ (w3 : zW) (f : Nat) (cc1 : Nat × Nat × Nat × Nat × Nat × Nat × Nat × Nat), f = (if en.2.2.2.2 + 1 < ((pgC R).1.1.1 (gL r).2.1).length then fr else fr + 1) → bbW w3 b1 b2 ((br, pg, t), (nd, va, ce, li), (ro, bi, le, wk)) (((cc1.1, NN2), (cc1.2.1, (OV.2.map (fun o => [oI o]))), (cc1.2.2.1, (OC.1.map rwC)), (cc1.2.2.2.1, ((Ls ++ [(en.1, en.2.1.1, en.2.1.2, OC.2)]).map rwL))), ((cc1.2.2.2.2.1, ((Ro.set fr (en.1, en.2.1, en.2.2.1, en.2.2.2.1, en.2.2.2.2 + 1)).map rwE)), (cc1.2.2.2.2.2.1, (Bi.map rwB)), (cc1.2.2.2.2.2.2.1, (lv.reverse.map rwV)), (cc1.2.2.2.2.2.2.2, WW2)), ((g : Int), (f : Int), ((tk + 1 : Nat) : Int), (oI rs), (rd : Int))) → zFr TB w2 w3 → (zI ((Ls.map rwL).length : Int) = zI (Ls.length : Int) ∧ ∃ (h : Option Nat) (S' : bS), bTake (pgC R) (tvR R) ((N, Vr, Ce), (Ls, Ro, fr), Bi, lv, (tk, na)) h S' ∧ bsW w3 b1 b2 ((br, pg, t), (nd, va, ce, li), (ro, bi, le, wk)) g rs rd S' ∧ zFr TB w w3) := fun w3 f cc1 hf hB3 hF3 => by
        refine ⟨by rw [hLl], OC.2, _, ⟨en, hen, Or.inr ⟨cc, e, gL r, c, hc, he, hgl, hcP, by rw [hCc, ← hOC], rfl⟩⟩, ?_, zFr_tr hF2 hF3⟩
        rw [hCc, ← hOC, ← hOV, ← hf]
        exact ⟨_, _, _, _, _, _, _, _, _, _, hB3, by rw [ebd]; exact hN2, hBi2⟩
      by_cases hlt : en.2.2.2.2 + 1 < (R.2.2.2.1 y).2.2.2.2.length
      · refine to_b (R := R) (li0 := (Ls.map rwL).length) hB2 (by omega) (by omega) (pgW_TB hP hF2) hy (by omega) (fun w3 hB3 hF3 => ?_)
        rw [eL2, eR2] at hB3
        exact fin w3 fr (c1, c2, c3, c4, c5, c6, c7, c8) (by rw [hlen, if_pos hlt]) hB3 hF3
      · refine to_c (R := R) (li0 := (Ls.map rwL).length) hB2 (by omega) (by omega) (pgW_TB hP hF2) hy (by omega) (fun w3 hB3 hF3 => ?_)
        rw [eL2, eR2] at hB3
        exact fin w3 (fr + 1) (c1, c2, c3, c4, c5, c6, c7, c8) (by rw [hlen, if_neg hlt]) hB3 hF3
end STO
