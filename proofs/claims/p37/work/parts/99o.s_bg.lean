/-! Own rows: breadth begins, told by the pure state. By hand (printed by wip/p37/m_bbeg2.py). -/
/-- the terms as nodes -/
def tN (TN : List (List Int)) : bNT := (List.range TN.length).map fun (n : Nat) => (some (tg TN (n : Int) 0).toNat, (tg TN (n : Int) 1).toNat)
/-- the question's variables -/
def bgR (inp : Nat → Option Nat) : List Nat → bNT → List (Option Nat) → bNT × List (Option Nat)
  | [], N, Vr => (N, Vr)
  | k :: ks, N, Vr => match inp k with
    | some v => bgR inp ks N (Vr ++ [some v])
    | none => bgR inp ks (N ++ [(none, 0)]) (Vr ++ [some N.length])
section SBG
variable {G : zG} {d : Nat} {w : zW} {b1 b2 y tt0 ms cs qq p : Nat} {br pg t nd va ce li ro bi le wk : Nat} {cN cV cC cL cR cB cE cW : Nat} {NN VV CC LL RR BB EE WW : List (List Int)} {gc fr tk rs rd : Int} {tc tn th tz : Nat} {ty : Int} {TN TH : List (List Int)} {TS : List Int} {rp ri ra rn : Nat} {mo : Option Nat} {IN AN NT : List (List Int)} {sc cc dc en bk bc : Int} {TY : List (List Int)} {inp : Nat → Option Nat}
theorem s_bbegin (hB : bbW w b1 b2 ((br, pg, t), (nd, va, ce, li), (ro, bi, le, wk)) (((cN, NN), (cV, VV), (cC, CC), (cL, LL)), ((cR, RR), (cB, BB), (cE, EE), (cW, WW)), (gc, fr, tk, rs, rd))) (hG1 : b1 + 1800000 ≤ 30 * G.2.2.2.2.1) (hG2 : b2 + 3700000 ≤ G.2.2.2.2.2) (hT : tmW w t tc tn th tz ty C3 TN TH TS) (hTN : ∀ n, n < TN.length → 0 ≤ tg TN (n : Int) 0 ∧ 0 ≤ tg TN (n : Int) 1) (hTl : TN.length ≤ 200) (hy : w.1 y = some (6, 0, [zI (p : Int), zR tt0, zR ms, zR cs, zR qq])) (hty : w.1 tt0 = some (134, y, tTb 1 3 TY) ∧ tOk 1 TY) (hR : rpW w rp ri ra rn mo IN AN NT sc cc dc en bk bc) (hp : p < 1000) (hTY : TY.length ≤ 3) (hin : ∀ k, k < TY.length → tg IN (k : Int) 0 = oI (inp k)) :
    zM G zm_X0_begin (d + 5) [zR br, zR y, zR rp] w (zVoid fun w' => bsW w' b1 b2 ((br, pg, t), (nd, va, ce, li), (ro, bi, le, wk)) TN.length none 0 (((bgR inp (List.range TY.length) (tN TN) []).1, (bgR inp (List.range TY.length) (tN TN) []).2, [(60 + p, 0, none)]), ([], [(none, (0, 0), some 0, none, 0)], 0), [], [], (0, 0)) ∧ zFr TB w w') := by
  have ebd : bdOf (bPb ([] : bLs) ([] : List (Nat × Nat)) 150 none) = fun _ => none := by
    rw [bPb_none]
    rfl
  have hno : ∀ e : Nat × Nat, e ∈ ([] : List (Nat × Nat)) → False := fun e h => by cases h
  have vars : ∀ (j q : Nat) (cN cV : Nat) (N1 : bNT) (NN1 : List (List Int)) (X : List (Option Nat)) (o4 : Option zV) (w1 : zW), q + j = TY.length → bgR inp ((List.range TY.length).drop q) N1 X = bgR inp (List.range TY.length) (tN TN) [] → X.length = q → N1.length ≤ 200 + q → bbW w1 b1 b2 ((br, pg, t), (nd, va, ce, li), (ro, bi, le, wk)) (((cN, NN1), (cV, (X.map (fun o => [oI o]))), (cC, ([] : List (List Int))), (cL, ([] : List (List Int)))), ((cR, ([] : List (List Int))), (cB, ([] : List (List Int))), (cE, ([] : List (List Int))), (cW, WW)), ((TN.length : Int), 0, 0, (-1), 0)) → ndR NN1 N1 (fun _ => none) 3 → zFr TB w w1 → zX G zm_X0_begin (d + 5) [zR br, zR y, zR rp] w (zVoid fun w' => bsW w' b1 b2 ((br, pg, t), (nd, va, ce, li), (ro, bi, le, wk)) TN.length none 0 (((bgR inp (List.range TY.length) (tN TN) []).1, (bgR inp (List.range TY.length) (tN TN) []).2, [(60 + p, 0, none)]), ([], [(none, (0, 0), some 0, none, 0)], 0), [], [], (0, 0)) ∧ zFr TB w w') 142 [some (zR br), some (zR y), some (zR rp), some (zI ((q : Nat) : Int)), o4] [] w1 := by
    intro j
    induction j with
    | zero =>
      intro q cN cV N1 NN1 X o4 w1 hq hE hX hl hB1 hN1 hF1
      have eq : q = TY.length := by omega
      subst eq
      have e0 : (List.range TY.length).drop TY.length = [] := List.drop_eq_nil_of_le (by rw [List.length_range]; exact Nat.le_refl _)
      rw [e0] at hE
      have e1 : N1 = (bgR inp (List.range TY.length) (tN TN) []).1 := congrArg Prod.fst hE
      have e2 : X = (bgR inp (List.range TY.length) (tN TN) []).2 := congrArg Prod.snd hE
      refine bg_2 hB1 hG1 hG2 (hF1 _ _ hy (by simp)) ⟨hF1 _ _ hty.1 (by simp), hty.2⟩ (by decide) (by decide) (by omega) (fun w2 hB2 hF2 => ⟨?_, zFr_tr hF1 hF2⟩)
      have e3 : ([] : List (List Int)) ++ [trow 3 (60 + (p : Int)) 0 (-1)] = [((60 + p, 0, none) : Nat × Nat × Option Nat)].map rwC := by
        show [trow 3 (60 + (p : Int)) 0 (-1)] = [rwC ((60 + p, 0, none) : Nat × Nat × Option Nat)]
        unfold rwC
        rw [show ((60 + p : Nat) : Int) = 60 + (p : Int) by omega]
        rfl
      have e4 : ts (ts (ts (([] : List (List Int)) ++ [trow 6 (-1) 0 0]) (([] : List (List Int)).length : Int) 3 (([] : List (List Int)).length : Int)) (([] : List (List Int)).length : Int) 4 (-1)) (([] : List (List Int)).length : Int) 5 0 = [((none, (0, 0), some 0, none, 0) : bEn)].map rwE := by decide
      rw [e3, e4] at hB2
      rw [← e1, ← e2]
      exact ⟨_, _, _, _, _, _, _, _, _, _, hB2, by rw [ebd]; exact hN1, fun e he => (hno e he).elim⟩
    | succ j ih =>
      intro q cN cV N1 NN1 X o4 w1 hq hE hX hl hB1 hN1 hF1
      have hq3 : q < TY.length := by omega
      rw [drop_cons (List.getElem?_range hq3)] at hE
      have hy1 := hF1 _ _ hy (by simp)
      have hty1 : w1.1 tt0 = some (134, y, tTb 1 3 TY) ∧ tOk 1 TY := ⟨hF1 _ _ hty.1 (by simp), hty.2⟩
      have hR1 := rpW_TB hR hF1
      have ext : ∀ o : Option Nat, X.map (fun o => [oI o]) ++ [trow 1 (oI o) (-1) (-1)] = (X ++ [o]).map (fun o => [oI o]) := fun o => by
        rw [List.map_append (l₂ := [o])]
        rfl
      have hlv : (X.map (fun o => [oI o])).length < 6000 := by rw [List.length_map]; omega
      have hi := hin q hq3
      cases hv : inp q with
      | some v =>
        rw [hv] at hi
        have hE : bgR inp ((List.range TY.length).drop (q + 1)) N1 (X ++ [some v]) = bgR inp (List.range TY.length) (tN TN) [] := by
          rw [← hE]
          show _ = (match inp q with | some v => bgR inp ((List.range TY.length).drop (q + 1)) N1 (X ++ [some v]) | none => bgR inp ((List.range TY.length).drop (q + 1)) (N1 ++ [(none, 0)]) (X ++ [some N1.length]))
          rw [hv]
        refine bg_g hB1 hG1 hG2 hy1 hty1 hR1 hq3 hTY hlv (by rw [hi]; exact oI_ne) (fun o4 w2 hB2 hF2 => ?_)
        rw [hi, ext] at hB2
        exact ih (q + 1) _ _ N1 NN1 (X ++ [some v]) o4 w2 (by omega) hE (by rw [List.length_append, hX]; rfl) (by omega) hB2 hN1 (zFr_tr hF1 hF2)
      | none =>
        rw [hv] at hi
        have hE : bgR inp ((List.range TY.length).drop (q + 1)) (N1 ++ [(none, 0)]) (X ++ [some N1.length]) = bgR inp (List.range TY.length) (tN TN) [] := by
          rw [← hE]
          show _ = (match inp q with | some v => bgR inp ((List.range TY.length).drop (q + 1)) N1 (X ++ [some v]) | none => bgR inp ((List.range TY.length).drop (q + 1)) (N1 ++ [(none, 0)]) (X ++ [some N1.length]))
          rw [hv]
        refine bg_u hB1 hG1 hG2 hy1 hty1 hR1 hq3 hTY hlv (by rw [hN1.1]; omega) hi (fun o4 w2 hB2 hF2 => ?_)
        have e3 : (NN1.length : Int) = oI (some N1.length) := by rw [hN1.1]; rfl
        rw [e3, ext] at hB2
        exact ih (q + 1) _ _ (N1 ++ [(none, 0)]) _ (X ++ [some N1.length]) o4 w2 (by omega) hE (by rw [List.length_append, hX]; rfl) (by rw [List.length_append, List.length_singleton]; omega) hB2 (ndR_new hN1 (by decide) rfl) (zFr_tr hF1 hF2)
  have hNl : (tN TN).length = TN.length := by unfold tN; rw [List.length_map, List.length_range]
  have terms : ∀ (j q cN : Nat) (NN1 : List (List Int)) (w1 : zW), q + j = TN.length → bbW w1 b1 b2 ((br, pg, t), (nd, va, ce, li), (ro, bi, le, wk)) (((cN, NN1), (cV, ([] : List (List Int))), (cC, ([] : List (List Int))), (cL, ([] : List (List Int)))), ((cR, ([] : List (List Int))), (cB, ([] : List (List Int))), (cE, ([] : List (List Int))), (cW, WW)), (gc, 0, 0, (-1), 0)) → ndR NN1 ((tN TN).take q) (fun _ => none) 3 → zFr TB w w1 → zX G zm_X0_begin (d + 5) [zR br, zR y, zR rp] w (zVoid fun w' => bsW w' b1 b2 ((br, pg, t), (nd, va, ce, li), (ro, bi, le, wk)) TN.length none 0 (((bgR inp (List.range TY.length) (tN TN) []).1, (bgR inp (List.range TY.length) (tN TN) []).2, [(60 + p, 0, none)]), ([], [(none, (0, 0), some 0, none, 0)], 0), [], [], (0, 0)) ∧ zFr TB w w') 78 [some (zR br), some (zR y), some (zR rp), some (zI ((q : Nat) : Int)), none] [] w1 := by
    intro j
    induction j with
    | zero =>
      intro q cN NN1 w1 hq hB1 hN1 hF1
      have eq : q = TN.length := by omega
      subst eq
      rw [← hNl, List.take_length] at hN1
      refine bg_1 hB1 (tmW_TB hT hF1) (fun w2 hB2 hF2 => ?_)
      rw [hN1.1, hNl] at hB2
      exact vars TY.length 0 _ cV (tN TN) NN1 [] none w2 (by omega) rfl rfl (by omega) hB2 hN1 (zFr_tr hF1 hF2)
    | succ j ih =>
      intro q cN NN1 w1 hq hB1 hN1 hF1
      have hqT : q < TN.length := by omega
      have htl : ((tN TN).take q).length = q := by rw [List.length_take]; omega
      obtain ⟨h1, h2⟩ := hTN q hqT
      refine bg_t hB1 hG1 hG2 (tmW_TB hT hF1) hqT hTl (by rw [hN1.1]; omega) (fun w2 hB2 hF2 => ?_)
      have e5 : (tN TN)[q]? = some (some (tg TN (q : Int) 0).toNat, (tg TN (q : Int) 1).toNat) := by
        unfold tN
        rw [List.getElem?_map, List.getElem?_range hqT]
        rfl
      have e6 : (tN TN).take (q + 1) = (tN TN).take q ++ [(some (tg TN (q : Int) 0).toNat, (tg TN (q : Int) 1).toNat)] := by
        rw [List.take_add_one, e5]
        rfl
      have e7 : tg TN (q : Int) 0 = oI (some (tg TN (q : Int) 0).toNat) := (Int.toNat_of_nonneg h1).symm
      have e8 : tmPt TN (q : Int) 0 = tg TN (q : Int) 1 := rfl
      rw [e8] at hB2
      refine ih (q + 1) _ _ w2 (by omega) hB2 ?_ (zFr_tr hF1 hF2)
      rw [e6]
      have q9 := ndR_newg (hd := some (tg TN (q : Int) 0).toNat) (f := (tg TN (q : Int) 1).toNat) (fs := tg TN (q : Int) 1) (sc := tmPt TN (q : Int) 1) hN1 (by decide) rfl (fun _ => (Int.toNat_of_nonneg h2).symm)
      rw [← e7] at q9
      exact q9
  exact bg_0 hB (fun w1 hB1 hF1 => terms TN.length 0 cN [] w1 (by omega) hB1 ⟨rfl, fun n x hx => by cases hx⟩ hF1)
end SBG
