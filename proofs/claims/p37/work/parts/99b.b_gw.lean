/-! Own rows: breadth's isGround, whole. By hand (printed by wip/p37/m_bgw.py). -/
section BGW
variable {G : zG} {d : Nat} {w w0 : zW} {b1 b2 g rd : Nat} {br pg t nd va ce li ro bi le wk : Nat} {cN cV cC cL cR cB cE cW : Nat} {NN VV CC LL RR BB EE WW : List (List Int)} {fr tk rs : Int} {tc tn th tz : Nat} {ty : Int} {TN TH : List (List Int)} {TS : List Int} {N : bNT} {bd : bBD} {mk : Nat → Int} {Vr : List (Option Nat)} {y bs : Nat} {r : goR}
theorem c_node (hB : bbW w b1 b2 ((br, pg, t), (nd, va, ce, li), (ro, bi, le, wk)) (((cN, NN), (cV, (Vr.map (fun o => [oI o]))), (cC, CC), (cL, LL)), ((cR, RR), (cB, BB), (cE, EE), (cW, WW)), ((g : Int), fr, tk, rs, (rd : Int)))) (hg : goW w y r) (ho : gOk r) (hbs : bs < 1000000) {k : Nat} (hk : k < 3) : zM G zm_X0_nodeOf (d + 1) [zR br, zR y, zI (bs : Int), zI (k : Int)] w (zRet (some (zI (oI (bNo Vr bs (smv (gL r) k))))) w) := by
  obtain ⟨h1, h2, h3, -⟩ := hg
  obtain ⟨e1, e2⟩ := go_v ho hk
  have q := c_X0_nodeOf (G := G) (d := d) hB h1 h2 h3 (bs : Int) (k : Int) (by omega) (by omega)
  rw [e1, tg_no] at q
  exact q
theorem mkX_tr {mk1 mk2 : Nat → Int} (h : mkX N bd rd mk mk1) (k : mkX N bd rd mk1 mk2) : mkX N bd rd mk mk2 := fun m hm => by
  rcases k m hm with a | a
  · rw [a]
    exact h m hm
  · exact Or.inr a
theorem mkX_in {mk1 : Nat → Int} (h : mkX N bd rd mk mk1) (hI : ∀ m, m < N.length → -1 ≤ mk m ∧ (mk m < 3 * (rd : Int) ∨ okM N bd rd (mk m) m)) : ∀ m, m < N.length → -1 ≤ mk1 m ∧ (mk1 m < 3 * (rd : Int) ∨ okM N bd rd (mk1 m) m) := fun m hm => by
  rcases h m hm with a | a
  · rw [a]
    exact hI m hm
  · exact ⟨by rcases a with ⟨a, -⟩ | ⟨a, -⟩ <;> omega, Or.inr a⟩
theorem mkI_bd {mk1 : Nat → Int} (hI : ∀ m, m < N.length → -1 ≤ mk1 m ∧ (mk1 m < 3 * (rd : Int) ∨ okM N bd rd (mk1 m) m)) : ∀ m, m < N.length → -1 ≤ mk1 m ∧ mk1 m < 3 * (rd : Int) + 3 := fun m hm => by
  obtain ⟨a, b⟩ := hI m hm
  refine ⟨a, ?_⟩
  rcases b with b | ⟨b, -⟩ | ⟨b, -⟩ <;> omega
theorem c_ground (hB : bbW w b1 b2 ((br, pg, t), (nd, va, ce, li), (ro, bi, le, wk)) (((cN, NN), (cV, (Vr.map (fun o => [oI o]))), (cC, CC), (cL, LL)), ((cR, RR), (cB, BB), (cE, EE), (cW, WW)), ((g : Int), fr, tk, rs, (rd : Int)))) (hG1 : b1 + 1800000 ≤ 30 * G.2.2.2.2.1) (hG2 : b2 + 3700000 ≤ G.2.2.2.2.2) (hT : tmW w t tc tn th tz ty C3 TN TH TS) (hM : ndM NN N bd mk) (hk : bWk N g bd) (hgt : ∀ n, n < g → bhd N n ≠ none) (hp : ∀ n, bhd N n = some 1 → bfs N n < n) (hcc : ∀ n c, bhd N n = some c → c < 3) (hN : N.length ≤ 4000) (hrd : rd < 900000) (hI : ∀ m, m < N.length → -1 ≤ mk m ∧ (mk m < 3 * (rd : Int) ∨ okM N bd rd (mk m) m)) (hg : goW w y r) (ho : gOk r) (hVr : Vr.length < 1000000) (hv : ∀ k, k < (gL r).2.2.1 → ∃ n, bNo Vr bs (smv (gL r) k) = some n ∧ n < N.length) (hfin : ∀ n, bFin N bd n) :
    zM G zm_X0_isGround (d + 4) [zR br, zR y, zI (bs : Int)] w (zVal fun o w' => ((o = zI 1 ∧ bGr N Vr bd bs (gL r)) ∨ (o = zI 0 ∧ ¬ bGr N Vr bd bs (gL r))) ∧ (∃ (cW' : Nat) (NN' WW' : List (List Int)) (mk' : Nat → Int), bbW w' b1 b2 ((br, pg, t), (nd, va, ce, li), (ro, bi, le, wk)) (((cN, NN'), (cV, (Vr.map (fun o => [oI o]))), (cC, CC), (cL, LL)), ((cR, RR), (cB, BB), (cE, EE), (cW', WW')), ((g : Int), fr, tk, rs, (rd : Int))) ∧ ndM NN' N bd mk' ∧ mkX N bd rd mk mk') ∧ zFr TB w w') := by
  have hc3 : r.2.2.1 = ((gL r).2.2.1 : Int) ∧ (gL r).2.2.1 ≤ 3 := by
    have h := ho.2.2.1
    have e : (gL r).2.2.1 = r.2.2.1.toNat := rfl
    rw [e]
    omega
  have hy : w.1 y = some (3, 0, [zI r.1, zI r.2.1, zI (((gL r).2.2.1 : Nat) : Int), zR r.2.2.2.1]) := by rw [← hc3.1]; exact hg.1
  have hterm := gnd_lt hk hgt hp
  have loop : ∀ (j q cW1 : Nat) (NN1 WW1 : List (List Int)) (mk1 : Nat → Int) (o4 : Option zV) (w1 : zW), q + j = (gL r).2.2.1 → (∀ k, k < q → ∃ n, bNo Vr bs (smv (gL r) k) = some n ∧ gnd N bd n) → bbW w1 b1 b2 ((br, pg, t), (nd, va, ce, li), (ro, bi, le, wk)) (((cN, NN1), (cV, (Vr.map (fun o => [oI o]))), (cC, CC), (cL, LL)), ((cR, RR), (cB, BB), (cE, EE), (cW1, WW1)), ((g : Int), fr, tk, rs, (rd : Int))) → ndM NN1 N bd mk1 → mkX N bd rd mk mk1 → zFr TB w w1 → zX G zm_X0_isGround (d + 4) [zR br, zR y, zI (bs : Int)] w (zVal fun o w' => ((o = zI 1 ∧ bGr N Vr bd bs (gL r)) ∨ (o = zI 0 ∧ ¬ bGr N Vr bd bs (gL r))) ∧ (∃ (cW' : Nat) (NN' WW' : List (List Int)) (mk' : Nat → Int), bbW w' b1 b2 ((br, pg, t), (nd, va, ce, li), (ro, bi, le, wk)) (((cN, NN'), (cV, (Vr.map (fun o => [oI o]))), (cC, CC), (cL, LL)), ((cR, RR), (cB, BB), (cE, EE), (cW', WW')), ((g : Int), fr, tk, rs, (rd : Int))) ∧ ndM NN' N bd mk' ∧ mkX N bd rd mk mk') ∧ zFr TB w w') 2 [some (zR br), some (zR y), some (zI (bs : Int)), some (zI ((q : Nat) : Int)), o4] [] w1 := by
    intro j
    induction j with
    | zero =>
      intro q cW1 NN1 WW1 mk1 o4 w1 hq hgq hB1 hM1 hX1 hF1
      have eq : q = (gL r).2.2.1 := by omega
      rw [eq]
      exact ig_end (hF1 _ _ hy (by simp)) ⟨Or.inl ⟨rfl, fun k hk => by obtain ⟨n, a, b⟩ := hgq k (by omega); exact ⟨n, a, b⟩⟩, ⟨cW1, NN1, WW1, mk1, hB1, hM1, hX1⟩, hF1⟩
    | succ j ih =>
      intro q cW1 NN1 WW1 mk1 o4 w1 hq hgq hB1 hM1 hX1 hF1
      have hI1 := mkX_in hX1 hI
      obtain ⟨x, hx1, hx⟩ := hv q (by omega)
      obtain ⟨z, hz⟩ := hk.1 x
      have hzN := bRp_lt hk hx hz
      obtain ⟨⟨kz, hzt⟩, hz0⟩ := id hz
      obtain ⟨gt1, gt2⟩ := gnd_t (N := N) hzt
      have hbs : bs < 1000000 := by
        have := (List.getElem?_eq_some_iff.mp (bNo_iff.mp hx1)).1
        omega
      have hno : zM G zm_X0_nodeOf (d + 3) [zR br, zR y, zI (bs : Int), zI (q : Int)] w1 (zRet (some (zI (x : Int))) w1) := by
        have q1 := c_node (G := G) (d := d + 2) hB1 (goW_TB hg hF1) ho hbs (k := q) (by omega)
        rw [hx1] at q1
        exact q1
      have yes : gnd N bd z → ∀ k, k < q + 1 → ∃ n, bNo Vr bs (smv (gL r) k) = some n ∧ gnd N bd n := fun hgz k hk1 => by
        by_cases c : k < q
        · exact hgq k c
        · have e : k = q := by omega
          rw [e]
          exact ⟨x, hx1, gt1.mpr hgz⟩
      have no : unk N bd z → ¬ bGr N Vr bd bs (gL r) := fun hu hgr => by
        obtain ⟨n, a, b⟩ := hgr q (by omega)
        rw [hx1] at a
        cases a
        exact gnd_unk (gt1.mp b) hu
      have hy1 := hF1 _ _ hy (by simp)
      have hbd1 := mkI_bd hI1 z hzN
      have on : gnd N bd z → mkV g rd mk1 z = 1 → zX G zm_X0_isGround (d + 4) [zR br, zR y, zI (bs : Int)] w (zVal fun o w' => ((o = zI 1 ∧ bGr N Vr bd bs (gL r)) ∨ (o = zI 0 ∧ ¬ bGr N Vr bd bs (gL r))) ∧ (∃ (cW' : Nat) (NN' WW' : List (List Int)) (mk' : Nat → Int), bbW w' b1 b2 ((br, pg, t), (nd, va, ce, li), (ro, bi, le, wk)) (((cN, NN'), (cV, (Vr.map (fun o => [oI o]))), (cC, CC), (cL, LL)), ((cR, RR), (cB, BB), (cE, EE), (cW', WW')), ((g : Int), fr, tk, rs, (rd : Int))) ∧ ndM NN' N bd mk' ∧ mkX N bd rd mk mk') ∧ zFr TB w w') 2 [some (zR br), some (zR y), some (zI (bs : Int)), some (zI ((q : Nat) : Int)), o4] [] w1 := fun hgz hmv =>
        ig_g hB1 hG1 hG2 (tmW_TB hT hF1) hM1 hk hgt hp hcc hN hrd hy1 (by omega) (by omega) hno hx hz hbd1 hmv (fun o4 => ih (q + 1) cW1 NN1 WW1 mk1 o4 w1 (by omega) (yes hgz) hB1 hM1 hX1 hF1)
      by_cases cg : z < g
      · exact on (hterm z cg) (by unfold mkV; rw [if_pos cg])
      rcases (hI1 z hzN).2 with a | a
      · have hmv : mkV g rd mk1 z = -1 := by
          unfold mkV
          rw [if_neg cg]
          have := (hI1 z hzN).1
          omega
        rcases fin_or (hfin z) with hgz | huz
        · exact ig_sg hB1 hG1 hG2 (tmW_TB hT hF1) hM1 hk hgt hp hcc hN hrd hy1 (by omega) (by omega) hno hx hz hbd1 hmv cg (hfin z) hI1 hgz (fun cW2 NN2 WW2 mk2 o4 w2 hB2 hM2 hX2 hF2 => ih (q + 1) cW2 NN2 WW2 mk2 o4 w2 (by omega) (yes hgz) hB2 hM2 (mkX_tr hX1 hX2) (zFr_tr hF1 hF2))
        · exact ig_su hB1 hG1 hG2 (tmW_TB hT hF1) hM1 hk hgt hp hcc hN hrd hy1 (by omega) (by omega) hno hx hz hbd1 hmv cg (hfin z) hI1 huz (fun cW2 NN2 WW2 mk2 o4 w2 hB2 hM2 hX2 hF2 => ⟨Or.inr ⟨rfl, no huz⟩, ⟨cW2, NN2, WW2, mk2, hB2, hM2, mkX_tr hX1 hX2⟩, zFr_tr hF1 hF2⟩)
      · rcases a with ⟨a1, a2⟩ | ⟨a1, a2⟩
        · exact on a2 (by unfold mkV; rw [if_neg cg, a1]; omega)
        · exact ig_u hB1 hG1 hG2 (tmW_TB hT hF1) hM1 hk hgt hp hcc hN hrd hy1 (by omega) (by omega) hno hx hz hbd1 (by unfold mkV; rw [if_neg cg, a1]; omega) ⟨Or.inr ⟨rfl, no a2⟩, ⟨cW1, NN1, WW1, mk1, hB1, hM1, hX1⟩, hF1⟩
  exact ig_start (loop (gL r).2.2.1 0 cW NN WW mk none w (by omega) (fun k hk0 => absurd hk0 (Nat.not_lt_zero _)) hB hM mkX_re zFr_re)
end BGW
