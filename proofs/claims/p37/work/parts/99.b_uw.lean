/-! Own rows: breadth's unify, whole. By hand (printed by wip/p37/m_buw.py). -/
section BUW
variable {G : zG} {d : Nat} {w w0 : zW} {b1 b2 g rd x0 y0 : Nat} {br pg t nd va ce li ro bi le wk : Nat} {cN cV cC cL cR cB cE cW : Nat} {NN VV CC LL RR BB EE WW : List (List Int)} {fr tk rs : Int} {tc tn th tz : Nat} {ty : Int} {TN TH : List (List Int)} {TS : List Int} {N : bNT} {bd : bBD} {mk : Nat → Int} {PQ : zV → zW → Prop}
theorem un_loop (hg : bNg N g) (hcc : ∀ n c, bhd N n = some c → c < 3) (hN : N.length ≤ 4000) (hG1 : b1 + 1800000 ≤ 30 * G.2.2.2.2.1) (hG2 : b2 + 3700000 ≤ G.2.2.2.2.2) :
    ∀ (m x y q cB1 cW1 : Nat) (L : List Nat) (bd1 : bBD) (NN1 BB1 : List (List Int)) (o4 o5 o6 : Option zV) (w1 : zW), bWk N g bd1 → x < N.length → y < N.length → L.Nodup → (∀ a, a ∈ L → a < N.length ∧ bd1 a ≠ none) → L.length + m = N.length + 1 → BB1.length + m < 234500 → q + m ≤ 800000 →
      tmW w1 t tc tn th tz ty C3 TN TH TS → bbW w1 b1 b2 ((br, pg, t), (nd, va, ce, li), (ro, bi, le, wk)) (((cN, NN1), (cV, VV), (cC, CC), (cL, LL)), ((cR, RR), (cB1, BB1), (cE, EE), (cW1, [[(x : Int), (y : Int), -1]])), ((g : Int), fr, tk, rs, (rd : Int))) → ndM NN1 N bd1 mk → zFr TB w w1 →
      (∀ (k cB2 cW2 : Nat) (r : Bool × bBD × List (Nat × Nat)) (NN2 WW2 : List (List Int)) (w2 : zW), bUn N g k bd1 x y r → bbW w2 b1 b2 ((br, pg, t), (nd, va, ce, li), (ro, bi, le, wk)) (((cN, NN2), (cV, VV), (cC, CC), (cL, LL)), ((cR, RR), (cB2, (BB1 ++ r.2.2.map rwB)), (cE, EE), (cW2, WW2)), ((g : Int), fr, tk, rs, (rd : Int))) → ndM NN2 N r.2.1 mk → zFr TB w w2 → PQ (zI (if r.1 = true then 1 else 0)) w2) →
      zX G zm_X0_unify (d + 4) [zR br, zI (x0 : Int), zI (y0 : Int)] w0 (zVal PQ) 21 [some (zR br), some (zI (x0 : Int)), some (zI (y0 : Int)), some (zI ((q : Nat) : Int)), o4, o5, o6] [] w1 := by
  intro m
  induction m with
  | zero =>
    intro x y q cB1 cW1 L bd1 NN1 BB1 o4 o5 o6 w1 hk hx hy hL hLa hLl
    have := nd_le N.length L hL (fun a ha => (hLa a ha).1)
    omega
  | succ m ih =>
    intro x y q cB1 cW1 L bd1 NN1 BB1 o4 o5 o6 w1 hk hx hy hL hLa hLl hBl hq hT hB hM hF K
    obtain ⟨a, ha⟩ := hk.1 x
    obtain ⟨b, hb⟩ := hk.1 y
    have la := bRp_lt hk hx ha
    have lb := bRp_lt hk hy hb
    by_cases hab : a = b
    · refine un_eq hB hG1 hG2 hT hM hk hN (by omega) hx hy ha hb hab (fun o4 o5 o6 w2 hB2 hF2 => ?_)
      refine un_end hB2 (by omega) ?_
      have q := K 1 cB1 cW1 (true, bd1, []) NN1 [] w2 ⟨a, b, ha, hb, Or.inl ⟨hab, rfl⟩⟩ (by rw [show BB1 ++ List.map rwB (true, bd1, ([] : List (Nat × Nat))).2.2 = BB1 from List.append_nil _]; exact hB2) hM (zFr_tr hF hF2)
      rw [if_pos rfl] at q
      exact q
    have emm : (min a b = a ∧ max a b = b) ∨ (min a b = b ∧ max a b = a) := by omega
    have hlo : bd1 (min a b) = none := by rcases emm with ⟨e1, -⟩ | ⟨e1, -⟩ <;> rw [e1] <;> first | exact ha.2 | exact hb.2
    have hhi : bd1 (max a b) = none := by rcases emm with ⟨-, e1⟩ | ⟨-, e1⟩ <;> rw [e1] <;> first | exact ha.2 | exact hb.2
    by_cases hc : bClash N g (min a b) (max a b)
    · refine un_no hB hG1 hG2 hT hM hk hN (by omega) hx hy ha hb hab (by omega) hc (fun w2 hB2 hF2 => ?_)
      have q := K 1 cB1 cW1 (false, bd1, []) NN1 [] w2 ⟨a, b, ha, hb, Or.inr (Or.inl ⟨hab, hc, rfl⟩)⟩ (by rw [show BB1 ++ List.map rwB (false, bd1, ([] : List (Nat × Nat))).2.2 = BB1 from List.append_nil _]; exact hB2) hM (zFr_tr hF hF2)
      rw [if_neg (show ¬ false = true by decide)] at q
      exact q
    refine un_jn hB hG1 hG2 hT hM hk hN (by omega) hx hy ha hb hab (by omega) hcc hc (fun cB2 cW2 o4 o5 o6 w2 hB2 hF2 => ?_)
    obtain ⟨D, hD⟩ : ∃ D, D = bDir N (min a b) (max a b) := ⟨_, rfl⟩
    rw [← hD] at hB2
    have hM2 : ndM (ts NN1 (D.1 : Int) 3 (D.2 : Int)) N (bUp bd1 D.1 D.2) mk := ndM_b hM D.1 (some D.2)
    have hDn : bd1 D.1 = none ∧ D.1 < N.length := by
      rcases bDir_or (N := N) (lo := min a b) (hi := max a b) with ⟨e, -⟩ | ⟨e, -⟩ <;> rw [hD, e]
      · exact ⟨hlo, by omega⟩
      · exact ⟨hhi, by omega⟩
    by_cases hP : bhd N (min a b) = some 1 ∧ bhd N (max a b) ≠ none
    · rw [if_pos hP, List.nil_append] at hB2
      have h1 : bhd N (max a b) = some 1 := by
        obtain ⟨c, hc1⟩ := Option.ne_none_iff_exists'.mp hP.2
        rw [hc1]
        refine congrArg some ?_
        exact Classical.byContradiction fun q => hc ⟨1, c, hP.1, hc1, Or.inl (fun q1 => q q1.symm)⟩
      have hk2 : bWk N g (bUp bd1 D.1 D.2) := by rw [hD]; exact (bUp_wk hg hk hlo hhi (by omega) (by omega) (by omega) hc).1
      refine ih (bfs N (min a b)) (bfs N (max a b)) (q + 1) cB2 cW2 (D.1 :: L) (bUp bd1 D.1 D.2) _ (BB1 ++ [[(D.1 : Int), (D.2 : Int)]]) o4 o5 o6 w2 hk2 (hg.2 _ (by omega) hP.1) (hg.2 _ (by omega) h1) (List.nodup_cons.mpr ⟨fun h => (hLa _ h).2 hDn.1, hL⟩) (fun e he => ?_) (by rw [List.length_cons]; omega) (by rw [List.length_append, List.length_singleton]; omega) (by omega) (tmW_TB hT hF2) hB2 hM2 (zFr_tr hF hF2) (fun k cB3 cW3 r NN3 WW3 w3 hU hB3 hM3 hF3 => ?_)
      · rcases List.mem_cons.mp he with q | q
        · rw [q]
          exact ⟨hDn.2, by unfold bUp; rw [if_pos rfl]; simp⟩
        · refine ⟨(hLa e q).1, ?_⟩
          obtain ⟨v, hv⟩ := Option.ne_none_iff_exists'.mp (hLa e q).2
          rw [bUp_old hDn.1 e v hv]
          simp
      · refine K (k + 1) cB3 cW3 (r.1, r.2.1, D :: r.2.2) NN3 WW3 w3 ⟨a, b, ha, hb, Or.inr (Or.inr ⟨hab, hc, r, by rw [hD], Or.inl ⟨hP.1, hP.2, by rw [← hD]; exact hU⟩⟩)⟩ ?_ hM3 hF3
        rw [show BB1 ++ List.map rwB (r.1, r.2.1, D :: r.2.2).2.2 = BB1 ++ [[(D.1 : Int), (D.2 : Int)]] ++ List.map rwB r.2.2 by rw [List.append_assoc]; rfl]
        exact hB3
    · rw [if_neg hP, List.append_nil] at hB2
      refine un_end hB2 (by omega) ?_
      have q := K 1 cB2 cW2 (true, bUp bd1 D.1 D.2, [D]) _ [] w2 ⟨a, b, ha, hb, Or.inr (Or.inr ⟨hab, hc, (true, bUp bd1 D.1 D.2, []), by rw [hD], Or.inr ⟨hP, by rw [hD]⟩⟩)⟩ hB2 hM2 (zFr_tr hF hF2)
      rw [if_pos rfl] at q
      exact q
theorem c_unify (hB : bbW w b1 b2 ((br, pg, t), (nd, va, ce, li), (ro, bi, le, wk)) (((cN, NN), (cV, VV), (cC, CC), (cL, LL)), ((cR, RR), (cB, BB), (cE, EE), (cW, WW)), ((g : Int), fr, tk, rs, (rd : Int)))) (hT : tmW w t tc tn th tz ty C3 TN TH TS) (hM : ndM NN N bd mk) (hk : bWk N g bd) (hg : bNg N g) (hcc : ∀ n c, bhd N n = some c → c < 3) (hN : N.length ≤ 4000) (hG1 : b1 + 1800000 ≤ 30 * G.2.2.2.2.1) (hG2 : b2 + 3700000 ≤ G.2.2.2.2.2) (hBl : BB.length + N.length < 234499) (hx : x0 < N.length) (hy : y0 < N.length) :
    zM G zm_X0_unify (d + 4) [zR br, zI (x0 : Int), zI (y0 : Int)] w (zVal fun o w' => ∃ (k cB' cW' : Nat) (r : Bool × bBD × List (Nat × Nat)) (NN' WW' : List (List Int)), bUn N g k bd x0 y0 r ∧ o = zI (if r.1 = true then 1 else 0) ∧ bbW w' b1 b2 ((br, pg, t), (nd, va, ce, li), (ro, bi, le, wk)) (((cN, NN'), (cV, VV), (cC, CC), (cL, LL)), ((cR, RR), (cB', (BB ++ r.2.2.map rwB)), (cE, EE), (cW', WW')), ((g : Int), fr, tk, rs, (rd : Int))) ∧ ndM NN' N r.2.1 mk ∧ zFr TB w w') := by
  refine un_start hB hG1 hG2 (fun w1 hB1 hF1 => ?_)
  exact un_loop hg hcc hN hG1 hG2 (N.length + 1) x0 y0 0 cB _ [] bd NN BB none none none w1 hk hx hy List.nodup_nil (fun a ha => absurd ha List.not_mem_nil) (by show 0 + (N.length + 1) = N.length + 1; omega) (by omega) (by omega) (tmW_TB hT hF1) hB1 hM hF1 (fun k cB2 cW2 r NN2 WW2 w2 hU hB2 hM2 hF2 => ⟨k, cB2, cW2, r, NN2, WW2, hU, rfl, hB2, hM2, hF2⟩)
end BUW
