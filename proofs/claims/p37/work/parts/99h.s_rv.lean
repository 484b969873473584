/-! Own rows: breadth's resolve, told by the pure state. By hand (printed by wip/p37/m_brs3.py). -/
theorem ndR_newg {NN : List (List Int)} {N : bNT} {bd : bBD} {mb : Int} {hd : Option Nat} {f : Nat} {fs sc : Int} (h : ndR NN N bd mb) (hm : 0 ≤ mb) (hb : bd N.length = none) (hf : hd = some 1 → fs = (f : Int)) : ndR (NN ++ [trow 5 (oI hd) fs sc]) (N ++ [(hd, f)]) bd mb := by
  obtain ⟨mk, h1, h2⟩ := ndM_of h
  refine ndR_of (ndM_new h1 hb hf) (fun n hn => ?_)
  show -1 ≤ (if n = N.length then -1 else mk n) ∧ (if n = N.length then -1 else mk n) < mb
  rw [List.length_append, List.length_singleton] at hn
  by_cases c : n = N.length
  · rw [if_pos c]; omega
  · rw [if_neg c]; exact h2 n (by omega)
section SRV
variable {G : zG} {d : Nat} {w : zW} {b1 b2 g rd : Nat} {R : pgR} {rs : Option Nat} {br pg t nd va ce li ro bi le wk : Nat} {N : bNT} {Vr : List (Option Nat)} {Ce : List (Nat × Nat × Option Nat)} {Ls : bLs} {Ro : List bEn} {fr tk na : Nat} {Bi : List (Nat × Nat)} {lv : bLv} {tc tn th tz : Nat} {ty : Int} {TN TH : List (List Int)} {TS : List Int} {w0 : zW} {l c x bs : Nat} {r : goR} {ro0 : Option Nat} {PV : zW → Prop} {o5 o6 o7 o8 : Option zV} {e : Nat × Nat × Option Nat}
theorem s_rs (hW : bsW w b1 b2 ((br, pg, t), (nd, va, ce, li), (ro, bi, le, wk)) g rs rd ((N, Vr, Ce), (Ls, Ro, fr), Bi, lv, (tk, na))) (hG1 : b1 + 1800000 ≤ 30 * G.2.2.2.2.1) (hG2 : b2 + 3700000 ≤ G.2.2.2.2.2) (hg : goW w x r) (ho : gOk r) (hk : (gL r).1 ≤ 1) (hc0 : (gL r).1 = 0 → (gL r).2.1 < 3 ∧ (gL r).2.2.1 = if (gL r).2.1 = 1 then 2 else 1) (hc1 : (gL r).1 = 1 → (gL r).2.2.1 = 2) (hbs : bs < 1000000) (hN3 : N.length < 3900) (hv : ∀ k, k < (gL r).2.2.1 → ∃ n, bNo Vr bs (smv (gL r) k) = some n) :
    ∃ (y : Nat) (N1 : bNT), (((gL r).1 = 1 ∧ bNo Vr bs (smv (gL r) 1) = some y ∧ N1 = N) ∨ ((gL r).1 = 0 ∧ y = N.length ∧ N1 = N ++ [(some (gL r).2.1, if (gL r).2.1 = 1 then (bNo Vr bs (smv (gL r) 1)).getD 0 else 0)])) ∧
      zM G zm_X0_rightSide (d + 3) [zR br, zR x, zI (bs : Int)] w (zVal fun o w' => o = zI (y : Int) ∧ bsW w' b1 b2 ((br, pg, t), (nd, va, ce, li), (ro, bi, le, wk)) g rs rd ((N1, Vr, Ce), (Ls, Ro, fr), Bi, lv, (tk, na)) ∧ zFr TB w w') := by
  obtain ⟨cN, cV, cC, cL, cR, cB, cE, cW, NN, WW, hB, hN, hBi⟩ := id hW
  obtain ⟨g1, g2, g3, g4, g5⟩ := go_1 ho
  obtain ⟨hx, hxv, hxl, -⟩ := id hg
  have e1 : zVa r.2.2.2.2 1 = ((smv (gL r) 1 : Nat) : Int) := (go_v ho (k := 1) (by decide)).1
  have hz := ho.2.2.2.2 1
  have hbi : (bdOf (bPb Ls Bi 150 rs)) N.length = none := bdOf_no fun e he q => by
    have := (hBi e (bPb_mem _ _ _ he)).1
    omega
  have hNl : NN.length < 3900 := by rw [hN.1]; exact hN3
  by_cases h1 : (gL r).1 = 1
  · have hr1 : r.1 = 1 := by omega
    have hr2 : r.2.2.1 = 2 := by rw [g3, hc1 h1]; rfl
    obtain ⟨y, hy⟩ := hv 1 (by rw [hc1 h1]; decide)
    refine ⟨y, N, Or.inl ⟨h1, hy, rfl⟩, ?_⟩
    have q := c_X0_rightSide_same (G := G) (d := d) hB hG1 hG2 hNl (by rw [← hr1, ← hr2]; exact hx) hxv hxl (bs : Int) (by omega) hz
    rw [e1, tg_no, hy] at q
    exact zM_mono q (fun oo w' q => ⟨_, q.1, rfl, by rw [q.2]; exact hW, by rw [q.2]; exact zFr_re⟩)
  · have h0 : (gL r).1 = 0 := by omega
    have hr0 : r.1 = 0 := by omega
    obtain ⟨hs3, hcn⟩ := hc0 h0
    have hsu := g5 (by omega)
    refine ⟨N.length, _, Or.inr ⟨h0, rfl, rfl⟩, ?_⟩
    by_cases hs : (gL r).2.1 = 1
    · rw [if_pos hs] at hcn ⊢
      have hr2 : r.2.2.1 = 2 := by rw [g3, hcn]; rfl
      obtain ⟨y, hy⟩ := hv 1 (by rw [hcn]; decide)
      have q := c_X0_rightSide_part (G := G) (d := d) hB hG1 hG2 hNl (by rw [← hr0, ← hr2]; exact hx) hxv hxl (bs : Int) (by omega) hz
      rw [e1, tg_no, hy, hN.1] at q
      rw [hy]
      refine zM_mono q (fun oo w' q => ?_)
      obtain ⟨v, q1, q2, hB2, hF2⟩ := q
      refine ⟨v, q1, q2, ⟨_, _, _, _, _, _, _, _, _, _, hB2, ?_, fun e he => by have := hBi e he; rw [List.length_append]; omega⟩, hF2⟩
      rw [hsu]
      exact ndR_newg (hd := some (gL r).2.1) hN (by omega) hbi (fun _ => rfl)
    · rw [if_neg hs] at hcn ⊢
      have hr2 : r.2.2.1 = 1 := by rw [g3, hcn]; rfl
      have q := c_X0_rightSide_bare (G := G) (d := d) hB hG1 hG2 hNl (by rw [← hr0, ← hr2]; exact hx) hxv hxl (bs : Int) (by omega) hz
      rw [hN.1] at q
      refine zM_mono q (fun oo w' q => ?_)
      obtain ⟨v, q1, q2, hB2, hF2⟩ := q
      refine ⟨v, q1, q2, ⟨_, _, _, _, _, _, _, _, _, _, hB2, ?_, fun e he => by have := hBi e he; rw [List.length_append]; omega⟩, hF2⟩
      rw [hsu]
      exact ndR_newg (hd := some (gL r).2.1) hN (by omega) hbi (fun q => absurd (Option.some.inj q) hs)
theorem rs_eq (hW : bsW w b1 b2 ((br, pg, t), (nd, va, ce, li), (ro, bi, le, wk)) g (some l) rd ((N, Vr, Ce), (Ls, Ro, fr), Bi, lv, (tk, na))) (hG1 : b1 + 1800000 ≤ 30 * G.2.2.2.2.1) (hG2 : b2 + 3700000 ≤ G.2.2.2.2.2) (hT : tmW w t tc tn th tz ty C3 TN TH TS) (hg : goW w x r) (ho : gOk r) (he : Ce[c]? = some e) (hk : (gL r).1 ≤ 1) (hgok : gOkC (pgC R) (gL r)) (hlV : Vr.length < 5000) (hv : ∀ k, k < (gL r).2.2.1 → ∃ n, bNo Vr e.2.1 (smv (gL r) k) = some n) (hw : tW g ((N, Vr, Ce), Ls, Bi)) (hlo : lOk N g (bPb Ls Bi 150 (some l))) (hcc : ∀ n c, bhd N n = some c → c < 3) (hl : l < Ls.length) (hN3 : N.length < 3800) (hBl : Bi.length + N.length < 234400) (hlR : Ro.length < 3000) (hrd : rd < 800000)
    (k : ∀ (w' : zW) (rd' : Nat) (S' : bS), rd ≤ rd' → rd' ≤ rd + 1 → eqOut g l e.2.1 (gL r) ro0 ((N, Vr, Ce), (Ls, Ro, fr), Bi, lv, (tk, na)) S' → bsW w' b1 b2 ((br, pg, t), (nd, va, ce, li), (ro, bi, le, wk)) g (some l) rd' S' → zFr TB w w' → PV w') : zX G zm_X0_resolve (d + 6) [zR br, zI (l : Int)] w0 (zVoid PV) 46 [some (zR br), some (zI (l : Int)), some (zI (c : Int)), some (zR x), some (zI (oI ro0)), o5, o6, o7, o8] [] w := by
  obtain ⟨g1, g2, g3, g4, g5⟩ := go_1 ho
  have hcnt : 1 ≤ (gL r).2.2.1 := by
    by_cases h1 : (gL r).1 = 1
    · rw [hgok.2.2.2.1 h1]; decide
    · rw [(hgok.2.2.1 (by omega)).2]
      split <;> decide
  obtain ⟨x0, hx0⟩ := hv 0 (by omega)
  have hbs : e.2.1 < 1000000 := by
    have := (List.getElem?_eq_some_iff.mp (bNo_iff.mp hx0)).1
    omega
  have hx0N : x0 < N.length := hw.2.2.2.1 _ x0 (bNo_iff.mp hx0)
  obtain ⟨y0, N1, hyN, hrs⟩ := s_rs (G := G) (d := d + 2) hW hG1 hG2 hg ho hk hgok.2.2.1 hgok.2.2.2.1 hbs (by omega) hv
  obtain ⟨cN, cV, cC, cL, cR, cB, cE, cW, NN, WW, hB, hN, hBi⟩ := id hW
  -- the nodes behind
  have hN1 : tW g ((N1, Vr, Ce), Ls, Bi) ∧ bPre N N1 ∧ y0 < N1.length ∧ N1.length ≤ N.length + 1 ∧ ∀ n c, bhd N1 n = some c → c < 3 := by
    rcases hyN with ⟨-, h2, rfl⟩ | ⟨h1, rfl, rfl⟩
    · exact ⟨hw, bPre_refl _, hw.2.2.2.1 _ y0 (bNo_iff.mp h2), by omega, hcc⟩
    · refine ⟨tW_node hw (fun q => ?_), bPre_app _ _, by rw [List.length_append, List.length_singleton]; omega, by rw [List.length_append, List.length_singleton]; exact Nat.le_refl _, fun n c hn => ?_⟩
      · have q : (gL r).2.1 = 1 := by simpa using q
        show (if (gL r).2.1 = 1 then (bNo Vr e.2.1 (smv (gL r) 1)).getD 0 else 0) < N.length
        rw [if_pos q]
        cases hb : bNo Vr e.2.1 (smv (gL r) 1) with
        | none => show 0 < N.length; omega
        | some n => exact hw.2.2.2.1 _ n (bNo_iff.mp hb)
      · rw [bhd_new] at hn
        by_cases c1 : n < N.length
        · rw [if_pos c1] at hn
          exact hcc n c hn
        · rw [if_neg c1] at hn
          by_cases c2 : n = N.length
          · rw [if_pos c2] at hn
            have hn : some (gL r).2.1 = some c := hn
            cases hn
            exact (hgok.2.2.1 h1).1
          · rw [if_neg c2] at hn
            cases hn
  obtain ⟨hw1, hpre, hy1, hNl1, hcc1⟩ := hN1
  obtain ⟨t1, t2, t3, t4, t5⟩ := id hw1
  have t1 : ∀ n, n < g → bhd N1 n ≠ none := t1
  have t3 : ∀ n, bhd N1 n = some 1 → bfs N1 n < n := t3
  have hbWF : bWF N1 g (bdOf (bPb Ls Bi 150 (some l))) := bWF_pre hpre t3 hlo.1
  have hng : bNg N1 g := ⟨t1, fun n hn hh => by have := t3 n hh; omega⟩
  have hx1N : x0 < N1.length := Nat.lt_of_lt_of_le hx0N (bPre_len hpre)
  have hno := c_node (G := G) (d := d + 4) hB hg ho hbs (k := 0) (by decide)
  rw [hx0] at hno
  have hc1 : tg (Ce.map rwC) (c : Int) 1 = (e.2.1 : Int) := tg_map (j := 1) he
  refine rv_u hB hg hc1 (by omega) hno hrs (fun w4 hq4 => ?_)
  obtain ⟨hW4, hF4⟩ := hq4
  obtain ⟨mk, hM4⟩ := bsW_M hW4
  obtain ⟨cN4, cV4, cC4, cL4, cR4, cB4, cE4, cW4, NN4, WW4, hB4, hm4, hb4, hBi4⟩ := hM4
  have hu := c_unify (G := G) (d := d + 1) hB4 (tmW_TB hT hF4) hm4 hbWF.1 hng hcc1 (by omega) hG1 hG2 (by rw [List.length_map]; omega) hx1N hy1
  have facts : ∀ (k : Nat) (rr : Bool × bBD × List (Nat × Nat)), bUn N1 g k (bdOf (bPb Ls Bi 150 (some l))) x0 y0 rr → bWk N1 g rr.2.1 ∧ bDnS rr.2.2 rr.2.1 = (bdOf (bPb Ls Bi 150 (some l))) ∧ (∀ e, e ∈ rr.2.2 → e.1 < N1.length ∧ e.2 < N1.length) ∧ rr.2.2.length ≤ N1.length := fun k rr hU => by
    obtain ⟨u1, u2, u3, u4, -⟩ := bun_ok hng k _ x0 y0 rr hU hbWF.1 hx1N hy1
    have ends : ∀ e, e ∈ rr.2.2 → e.1 < N1.length ∧ e.2 < N1.length := fun e he => (u1.2.2 e.1 e.2 ((u2 e.1 e.2).mpr (Or.inr he))).2
    refine ⟨u1, bDn_back u2 u3, ends, ?_⟩
    have := nd_le N1.length (rr.2.2.map fun e => e.1) u4 (fun a ha => by
      obtain ⟨e, he, rfl⟩ := List.mem_map.mp ha
      exact (ends e he).1)
    rwa [List.length_map] at this
  refine rv_n (P0 := fun w5 => ∃ (k cB' cW' : Nat) (rr : Bool × bBD × List (Nat × Nat)) (NN' WW' : List (List Int)), bUn N1 g k (bdOf (bPb Ls Bi 150 (some l))) x0 y0 rr ∧ rr.1 = false ∧ bbW w5 b1 b2 ((br, pg, t), (nd, va, ce, li), (ro, bi, le, wk)) (((cN4, NN'), (cV4, (Vr.map (fun o => [oI o]))), (cC4, (Ce.map rwC)), (cL4, (Ls.map rwL))), ((cR4, (Ro.map rwE)), (cB', (Bi.map rwB ++ rr.2.2.map rwB)), (cE4, (lv.reverse.map rwV)), (cW', WW')), ((g : Int), (fr : Int), (tk : Int), (oI (some l)), (rd : Int))) ∧ ndM NN' N1 rr.2.1 mk ∧ zFr TB w4 w5) (P1 := fun w5 => ∃ (k cB' cW' : Nat) (rr : Bool × bBD × List (Nat × Nat)) (NN' WW' : List (List Int)), bUn N1 g k (bdOf (bPb Ls Bi 150 (some l))) x0 y0 rr ∧ rr.1 = true ∧ bbW w5 b1 b2 ((br, pg, t), (nd, va, ce, li), (ro, bi, le, wk)) (((cN4, NN'), (cV4, (Vr.map (fun o => [oI o]))), (cC4, (Ce.map rwC)), (cL4, (Ls.map rwL))), ((cR4, (Ro.map rwE)), (cB', (Bi.map rwB ++ rr.2.2.map rwB)), (cE4, (lv.reverse.map rwV)), (cW', WW')), ((g : Int), (fr : Int), (tk : Int), (oI (some l)), (rd : Int))) ∧ ndM NN' N1 rr.2.1 mk ∧ zFr TB w4 w5) hB4 (zM_mono hu (fun oo w5 q => ?_)) (fun w5 hq5 => ?_) (fun w5 hq5 => ?_)
  · obtain ⟨v, q1, k1, cB', cW', rr, NN', WW', q2, q3, q4, q5, q6⟩ := q
    refine ⟨v, q1, ?_⟩
    by_cases hr : rr.1 = true
    · exact Or.inr ⟨by rw [q3, if_pos hr], k1, cB', cW', rr, NN', WW', q2, hr, q4, q5, q6⟩
    · exact Or.inl ⟨by rw [q3, if_neg hr], k1, cB', cW', rr, NN', WW', q2, by simpa using hr, q4, q5, q6⟩
  · obtain ⟨k1, cB', cW', rr, NN', WW', hU, hr, hB5, hM5, hF5⟩ := hq5
    obtain ⟨f1, f2, f3, f4⟩ := facts k1 rr hU
    rw [← List.map_append] at hB5
    refine rs_end (na := na) (rr := rr.2.2) (rd5 := rd) hB5 hM5 hb4 f2 hBi4 hG1 hG2 (by omega) 0 (Or.inl ⟨rfl, fun w' hW' hF' => ?_⟩)
    exact k w' rd _ (Nat.le_refl _) (Nat.le_succ _) ⟨x0, y0, N1, k1, rr, hx0, hyN, hU, Or.inr ⟨(fun q => by rw [hr] at q; cases q.1), rfl⟩⟩ hW' (zFr_tr hF4 (zFr_tr hF5 hF'))
  · obtain ⟨k1, cB', cW', rr, NN', WW', hU, hr, hB5, hM5, hF5⟩ := hq5
    obtain ⟨f1, f2, f3, f4⟩ := facts k1 rr hU
    rw [← List.map_append] at hB5
    have hT5 := tmW_TB hT (zFr_tr hF4 hF5)
    by_cases hf : bFin N1 rr.2.1 x0
    · have hfi := c_fin_t (G := G) (d := d + 1) hB5 hG1 hG2 hT5 hM5 f1 t1 t3 hcc1 (by omega) (by omega) hx1N hf hb4
      refine rv_f1 hB5 hfi (fun w6 hq6 => ?_)
      obtain ⟨⟨cW6, NN6, WW6, mk6, hB6, hM6, hb6⟩, hF6⟩ := hq6
      refine rs_end (na := na) (rr := rr.2.2) (rd5 := rd + 1) hB6 hM6 hb6 f2 hBi4 hG1 hG2 (by omega) 1 (Or.inr ⟨rfl, hlR, t5, hl, f3, fun w' hW' hF' => ?_⟩)
      exact k w' (rd + 1) _ (Nat.le_succ _) (Nat.le_refl _) ⟨x0, y0, N1, k1, rr, hx0, hyN, hU, Or.inl ⟨hr, hf, rfl⟩⟩ hW' (zFr_tr hF4 (zFr_tr hF5 (zFr_tr hF6 hF')))
    · have hfi := c_fin_f (G := G) (d := d + 1) hB5 hG1 hG2 hT5 hM5 f1 t1 t3 hcc1 (by omega) (by omega) hx1N hf hb4
      refine rv_f0 hB5 hfi (fun w6 hq6 => ?_)
      obtain ⟨⟨cW6, NN6, WW6, mk6, hB6, hM6, hb6⟩, hF6⟩ := hq6
      refine rs_end (na := na) (rr := rr.2.2) (rd5 := rd + 1) hB6 hM6 hb6 f2 hBi4 hG1 hG2 (by omega) 0 (Or.inl ⟨rfl, fun w' hW' hF' => ?_⟩)
      exact k w' (rd + 1) _ (Nat.le_succ _) (Nat.le_refl _) ⟨x0, y0, N1, k1, rr, hx0, hyN, hU, Or.inr ⟨fun q => hf q.2, rfl⟩⟩ hW' (zFr_tr hF4 (zFr_tr hF5 (zFr_tr hF6 hF')))
end SRV
