/-! Own rows: breadth opens a clause, told by the pure state. By hand (printed by wip/p37/m_boc2.py). -/
section SOC
variable {G : zG} {d : Nat} {w : zW} {b1 b2 g rd : Nat} {R : pgR} {rs : Option Nat} {br pg t nd va ce li ro bi le wk : Nat} {N : bNT} {Vr : List (Option Nat)} {Ce : List (Nat × Nat × Option Nat)} {Ls : bLs} {Ro : List bEn} {fr tk na : Nat} {Bi : List (Nat × Nat)} {lv : bLv} {a x bs c : Nat} {r : goR} {tv : Nat → Bool} {ro0 : Option Nat}
theorem s_openClause (hW : bsW w b1 b2 ((br, pg, t), (nd, va, ce, li), (ro, bi, le, wk)) g rs rd ((N, Vr, Ce), (Ls, Ro, fr), Bi, lv, (tk, na))) (hG1 : b1 + 1800000 ≤ 30 * G.2.2.2.2.1) (hG2 : b2 + 3700000 ≤ G.2.2.2.2.2) (hg : goW w x r) (ho : gOk r) (ha : clV w a (R.2.2.2.2.2.1 a)) (hnu : (R.2.2.2.2.2.1 a).1.1 = (c : Int)) (hc12 : c < 12) (hGl : (R.2.2.2.2.2.1 a).2.2.2.1.2.length ≤ 5) (hN3 : N.length < 3880) (hlV : Vr.length < 5000) (hlC : Ce.length < 113000) (hv : ∀ k, k < (gL r).2.2.1 → ∃ n, bNo Vr bs (smv (gL r) k) = some n) (htv : ∀ k, k < 8 → (tv k = true ↔ tg (R.2.2.2.2.2.1 a).2.2.1 (k : Int) 0 ≠ -1)) :
    zM G zm_X0_openClause (d + 4) [zR br, zR a, zR x, zI (bs : Int), zI (oI ro0)] w (zVal fun o w' => o = zI (oI (bOc c Vr.length (R.2.2.2.2.2.1 a).2.2.2.1.2.length ro0 Ce).2) ∧ bsW w' b1 b2 ((br, pg, t), (nd, va, ce, li), (ro, bi, le, wk)) g rs rd (((bOv tv (gL r).2.2.1 (fun k => bNo Vr bs (smv (gL r) k)) (List.range 8) N Vr).1, (bOv tv (gL r).2.2.1 (fun k => bNo Vr bs (smv (gL r) k)) (List.range 8) N Vr).2, (bOc c Vr.length (R.2.2.2.2.2.1 a).2.2.2.1.2.length ro0 Ce).1), (Ls, Ro, fr), Bi, lv, (tk, na)) ∧ zFr TB w w') := by
  obtain ⟨cN, cV, cC, cL, cR, cB, cE, cW, NN, WW, hB, hN, hBi⟩ := id hW
  obtain ⟨g1, g2, g3, g4, g5⟩ := go_1 ho
  have hx : w.1 x = some (3, 0, [zI r.1, zI r.2.1, zI (((gL r).2.2.1 : Nat) : Int), zR r.2.2.2.1]) := by rw [← g3]; exact hg.1
  have haT : ∀ w1, zFr TB w w1 → clV w1 a (R.2.2.2.2.2.1 a) := fun w1 f => by
    obtain ⟨h1, ⟨h2, h3⟩, h4, ⟨h5, h6⟩, ⟨h7, h8⟩, ⟨h9, h10⟩, ⟨h11, h12⟩, ⟨h13, h14⟩⟩ := ha
    exact ⟨f _ _ h1 (by simp), ⟨f _ _ h2 (by simp), h3⟩, f _ _ h4 (by simp), ⟨f _ _ h5 (by simp), h6⟩, ⟨f _ _ h7 (by simp), h8⟩, ⟨f _ _ h9 (by simp), h10⟩, ⟨f _ _ h11 (by simp), h12⟩, ⟨f _ _ h13 (by simp), h14⟩⟩
  -- the goals
  have goals : ∀ (j : Nat) (ro1 : Option Nat) (Ce1 : List (Nat × Nat × Option Nat)) (w1 : zW), bOc c Vr.length j ro1 Ce1 = (bOc c Vr.length (R.2.2.2.2.2.1 a).2.2.2.1.2.length ro0 Ce) → Ce1.length + j ≤ Ce.length + 5 → j ≤ 5 → bsW w1 b1 b2 ((br, pg, t), (nd, va, ce, li), (ro, bi, le, wk)) g rs rd (((bOv tv (gL r).2.2.1 (fun k => bNo Vr bs (smv (gL r) k)) (List.range 8) N Vr).1, (bOv tv (gL r).2.2.1 (fun k => bNo Vr bs (smv (gL r) k)) (List.range 8) N Vr).2, Ce1), (Ls, Ro, fr), Bi, lv, (tk, na)) → zFr TB w w1 → zX G zm_X0_openClause (d + 4) [zR br, zR a, zR x, zI (bs : Int), zI (oI ro0)] w (zVal fun o w' => o = zI (oI (bOc c Vr.length (R.2.2.2.2.2.1 a).2.2.2.1.2.length ro0 Ce).2) ∧ bsW w' b1 b2 ((br, pg, t), (nd, va, ce, li), (ro, bi, le, wk)) g rs rd (((bOv tv (gL r).2.2.1 (fun k => bNo Vr bs (smv (gL r) k)) (List.range 8) N Vr).1, (bOv tv (gL r).2.2.1 (fun k => bNo Vr bs (smv (gL r) k)) (List.range 8) N Vr).2, (bOc c Vr.length (R.2.2.2.2.2.1 a).2.2.2.1.2.length ro0 Ce).1), (Ls, Ro, fr), Bi, lv, (tk, na)) ∧ zFr TB w w') 90 [some (zR br), some (zR a), some (zR x), some (zI (bs : Int)), some (zI (oI ro0)), some (zI ((Vr.map (fun o => [oI o])).length : Int)), some (zI (oI ro1)), some (zI (((j : Nat) : Int) - 1))] [] w1 := by
    intro j
    induction j with
    | zero =>
      intro ro1 Ce1 w1 hE hl hj hW1 hF1
      obtain ⟨_, _, _, _, _, _, _, _, NN1, _, hB1, -, -⟩ := id hW1
      refine oc_end hB1 ?_
      rw [← hE]
      exact ⟨rfl, hW1, hF1⟩
    | succ j ih =>
      intro ro1 Ce1 w1 hE hl hj hW1 hF1
      obtain ⟨_, _, _, _, _, _, _, _, NN1, _, hB1, hN1, hBi1⟩ := id hW1
      refine oc_goal (R := R) (c := c) hB1 hG1 hG2 (haT w1 hF1) hnu hc12 (by omega) (by rw [List.length_map]; omega) (fun w2 hB2 hF2 => ?_)
      have e1 : Ce1.map rwC ++ [trow 3 ((c * 5 + j : Nat) : Int) ((Vr.map (fun o => [oI o])).length : Int) (oI ro1)] = (Ce1 ++ [(c * 5 + j, Vr.length, ro1)]).map rwC := by
        rw [List.map_append, List.length_map]
        rfl
      rw [e1] at hB2
      have q := ih (some Ce1.length) (Ce1 ++ [(c * 5 + j, Vr.length, ro1)]) w2 hE (by rw [List.length_append, List.length_singleton]; omega) (by omega) ⟨_, _, _, _, _, _, _, _, _, _, hB2, hN1, hBi1⟩ (zFr_tr hF1 hF2)
      rw [List.length_map (as := Ce1)]
      exact q
  -- the variables
  have vars : ∀ (j q : Nat) (N1 : bNT) (X : List (Option Nat)) (o7 : Option zV) (w1 : zW), q + j = 8 → bOv tv (gL r).2.2.1 (fun k => bNo Vr bs (smv (gL r) k)) ((List.range 8).drop q) N1 (Vr ++ X) = (bOv tv (gL r).2.2.1 (fun k => bNo Vr bs (smv (gL r) k)) (List.range 8) N Vr) → X.length = q → N1.length ≤ N.length + q → bsW w1 b1 b2 ((br, pg, t), (nd, va, ce, li), (ro, bi, le, wk)) g rs rd ((N1, (Vr ++ X), Ce), (Ls, Ro, fr), Bi, lv, (tk, na)) → zFr TB w w1 → zX G zm_X0_openClause (d + 4) [zR br, zR a, zR x, zI (bs : Int), zI (oI ro0)] w (zVal fun o w' => o = zI (oI (bOc c Vr.length (R.2.2.2.2.2.1 a).2.2.2.1.2.length ro0 Ce).2) ∧ bsW w' b1 b2 ((br, pg, t), (nd, va, ce, li), (ro, bi, le, wk)) g rs rd (((bOv tv (gL r).2.2.1 (fun k => bNo Vr bs (smv (gL r) k)) (List.range 8) N Vr).1, (bOv tv (gL r).2.2.1 (fun k => bNo Vr bs (smv (gL r) k)) (List.range 8) N Vr).2, (bOc c Vr.length (R.2.2.2.2.2.1 a).2.2.2.1.2.length ro0 Ce).1), (Ls, Ro, fr), Bi, lv, (tk, na)) ∧ zFr TB w w') 12 [some (zR br), some (zR a), some (zR x), some (zI (bs : Int)), some (zI (oI ro0)), some (zI ((Vr.map (fun o => [oI o])).length : Int)), some (zI ((q : Nat) : Int)), o7] [] w1 := by
    intro j
    induction j with
    | zero =>
      intro q N1 X o7 w1 hq hE hX hl hW1 hF1
      have eq : q = 8 := by omega
      subst eq
      have hE : (N1, Vr ++ X) = (bOv tv (gL r).2.2.1 (fun k => bNo Vr bs (smv (gL r) k)) (List.range 8) N Vr) := hE
      obtain ⟨_, _, _, _, _, _, _, _, NN1, _, hB1, -, -⟩ := id hW1
      have e1 : N1 = (bOv tv (gL r).2.2.1 (fun k => bNo Vr bs (smv (gL r) k)) (List.range 8) N Vr).1 := congrArg Prod.fst hE
      have e2 : Vr ++ X = (bOv tv (gL r).2.2.1 (fun k => bNo Vr bs (smv (gL r) k)) (List.range 8) N Vr).2 := congrArg Prod.snd hE
      rw [e1, e2] at hW1
      exact oc_mid hB1 (haT w1 hF1) (by omega) (goals _ ro0 Ce w1 rfl (by omega) hGl hW1 hF1)
    | succ j ih =>
      intro q N1 X o7 w1 hq hE hX hl hW1 hF1
      have hq8 : q < 8 := by omega
      rw [drop_cons (List.getElem?_range hq8), bOv_c] at hE
      obtain ⟨_, _, _, _, _, _, _, _, NN1, _, hB1, hN1, hBi1⟩ := id hW1
      have hx1 := hF1 _ _ hx (by simp)
      have ext : ∀ o : Option Nat, (Vr ++ X).map (fun o => [oI o]) ++ [trow 1 (oI o) (-1) (-1)] = (Vr ++ (X ++ [o])).map (fun o => [oI o]) := fun o => by
        rw [← List.append_assoc, List.map_append (l₂ := [o])]
        rfl
      have hlv : ((Vr ++ X).map (fun o => [oI o])).length < 6000 := by rw [List.length_map, List.length_append]; omega
      by_cases c1 : q < (gL r).2.2.1
      · rw [if_pos c1] at hE
        obtain ⟨n, hn⟩ := hv q c1
        have hbs : bs < 1000000 := by
          have := (List.getElem?_eq_some_iff.mp (bNo_iff.mp hn)).1
          omega
        have hno := c_node (G := G) (d := d + 2) hB1 (goW_TB hg hF1) ho hbs (k := q) (by omega)
        rw [bNo_pre (bPre_app _ _) hn, ← hn] at hno
        refine oc_arg hB1 hG1 hG2 hx1 hno hq8 c1 g4 hlv (fun o7 w2 hB2 hF2 => ?_)
        rw [ext] at hB2
        exact ih (q + 1) N1 (X ++ [bNo Vr bs (smv (gL r) q)]) o7 w2 (by omega) (by rw [← List.append_assoc]; exact hE) (by rw [List.length_append, hX]; rfl) (by omega) ⟨_, _, _, _, _, _, _, _, _, _, hB2, hN1, hBi1⟩ (zFr_tr hF1 hF2)
      · rw [if_neg c1] at hE
        by_cases c2 : tv q = true
        · rw [if_pos c2] at hE
          refine oc_new hB1 hG1 hG2 hx1 (haT w1 hF1) ((htv q hq8).mp c2) hq8 (by omega) g4 hlv (by rw [hN1.1]; omega) (fun o7 w2 hB2 hF2 => ?_)
          have e3 : (NN1.length : Int) = oI (some N1.length) := by rw [hN1.1]; rfl
          rw [e3, ext] at hB2
          refine ih (q + 1) (N1 ++ [(none, 0)]) (X ++ [some N1.length]) o7 w2 (by omega) (by rw [← List.append_assoc]; exact hE) (by rw [List.length_append, hX]; rfl) (by rw [List.length_append, List.length_singleton]; omega) ⟨_, _, _, _, _, _, _, _, _, _, hB2, ndR_new hN1 (by omega) (bdOf_no fun e he q => ?_), fun e he => by have := hBi1 e he; rw [List.length_append]; omega⟩ (zFr_tr hF1 hF2)
          have := (hBi1 e (bPb_mem _ _ _ he)).1
          omega
        · rw [if_neg c2] at hE
          have hty : tg (R.2.2.2.2.2.1 a).2.2.1 (q : Int) 0 = -1 := Classical.byContradiction fun h => c2 ((htv q hq8).mpr h)
          refine oc_non hB1 hG1 hG2 hx1 (haT w1 hF1) hty hq8 (by omega) g4 hlv (fun o7 w2 hB2 hF2 => ?_)
          have e3 := ext none
          rw [show oI none = -1 from rfl] at e3
          rw [e3] at hB2
          exact ih (q + 1) N1 (X ++ [none]) o7 w2 (by omega) (by rw [← List.append_assoc]; exact hE) (by rw [List.length_append, hX]; rfl) (by omega) ⟨_, _, _, _, _, _, _, _, _, _, hB2, hN1, hBi1⟩ (zFr_tr hF1 hF2)
  exact oc_start hB (vars 8 0 N [] none w rfl (by rw [List.append_nil]; rfl) rfl (by omega) (by rw [List.append_nil]; exact hW) zFr_re)
end SOC
