/-! Own rows: breadth resolves a goal, told by the pure state. By hand (printed by wip/p37/m_brs2.py). -/
theorem bDnS_ks : ∀ (rr : List (Nat × Nat)) (bd : bBD) (n : Nat), bDnS rr bd n = if n ∈ rr.map (fun e => e.1) then none else bd n
  | [], bd, n => by rw [if_neg (by simp)]; rfl
  | e :: rr, bd, n => by
    show bDnS rr (fun x => if x = e.1 then none else bd x) n = _
    rw [bDnS_ks rr _ n]
    by_cases c : n ∈ rr.map (fun e => e.1)
    · rw [if_pos c, if_pos (by rw [List.map_cons]; exact List.mem_cons_of_mem _ c)]
    · rw [if_neg c]
      by_cases c1 : n = e.1
      · rw [if_pos c1, if_pos (by rw [List.map_cons, c1]; exact List.mem_cons_self)]
      · rw [if_neg c1, if_neg (by rw [List.map_cons, List.mem_cons]; exact fun q => q.elim c1 c)]
theorem bDn_back {rr : List (Nat × Nat)} {bd bd' : bBD} (h : ∀ n m, bd' n = some m ↔ bd n = some m ∨ (n, m) ∈ rr) (hn : ∀ e, e ∈ rr → bd e.1 = none) : bDnS rr bd' = bd := by
  funext n
  rw [bDnS_ks]
  by_cases c : n ∈ rr.map (fun e => e.1)
  · rw [if_pos c]
    obtain ⟨e, he, rfl⟩ := List.mem_map.mp c
    exact (hn e he).symm
  · rw [if_neg c]
    cases q : bd' n with
    | none => cases q2 : bd n with
      | none => rfl
      | some m => rw [(h n m).mpr (Or.inl q2)] at q; cases q
    | some m => rcases (h n m).mp q with k | k
                · exact k.symm
                · exact absurd (List.mem_map.mpr ⟨(n, m), k, rfl⟩) c
/-- an equation, resolved -/
def eqOut (g l bs : Nat) (gl : smL) (ro0 : Option Nat) : bS → bS → Prop
  | ((N, Vr, Ce), (Ls, Ro, fr), Bi, lv, tn), S' => ∃ x y N1 k rr, bNo Vr bs (smv gl 0) = some x ∧
      ((gl.1 = 1 ∧ bNo Vr bs (smv gl 1) = some y ∧ N1 = N) ∨ (gl.1 = 0 ∧ y = N.length ∧ N1 = N ++ [(some gl.2.1, if gl.2.1 = 1 then (bNo Vr bs (smv gl 1)).getD 0 else 0)])) ∧
      bUn N1 g k (bdOf (bPb Ls Bi 150 (some l))) x y rr ∧
      ((rr.1 = true ∧ bFin N1 rr.2.1 x ∧ S' = ((N1, Vr, Ce), (Ls, Ro ++ [(some l, (Bi.length, Bi.length + rr.2.2.length), ro0, none, 0)], fr), Bi ++ rr.2.2, lv, tn)) ∨
       (¬ (rr.1 = true ∧ bFin N1 rr.2.1 x) ∧ S' = ((N1, Vr, Ce), (Ls, Ro, fr), Bi, lv, tn)))
section SRE
variable {G : zG} {d : Nat} {w : zW} {b1 b2 g rd : Nat} {R : pgR} {rs : Option Nat} {br pg t nd va ce li ro bi le wk : Nat} {N : bNT} {Vr : List (Option Nat)} {Ce : List (Nat × Nat × Option Nat)} {Ls : bLs} {Ro : List bEn} {fr tk na : Nat} {Bi : List (Nat × Nat)} {lv : bLv} {tc tn th tz : Nat} {ty : Int} {TN TH : List (List Int)} {TS : List Int} {w0 : zW} {l c x bs : Nat} {r : goR} {ro0 : Option Nat} {PV : zW → Prop} {o5 o6 o7 o8 : Option zV} {e : Nat × Nat × Option Nat}
theorem go_1 (ho : gOk r) : (gL r).1 = r.1.toNat ∧ (0 ≤ r.1 ∧ r.1 ≤ 3) ∧ r.2.2.1 = ((gL r).2.2.1 : Int) ∧ (gL r).2.2.1 ≤ 3 ∧ (r.1 ≠ 1 → r.2.1 = ((gL r).2.1 : Int)) := by
  refine ⟨rfl, ho.1, ?_, ?_, fun h => ?_⟩
  · have h := ho.2.2.1
    have e : (gL r).2.2.1 = r.2.2.1.toNat := rfl
    rw [e]; omega
  · have h := ho.2.2.1
    have e : (gL r).2.2.1 = r.2.2.1.toNat := rfl
    rw [e]; omega
  · have h := ho.2.1 h
    have e : (gL r).2.1 = r.2.1.toNat := rfl
    rw [e]; omega
theorem rs_call (hW : bsW w b1 b2 ((br, pg, t), (nd, va, ce, li), (ro, bi, le, wk)) g (some l) rd ((N, Vr, Ce), (Ls, Ro, fr), Bi, lv, (tk, na))) (hG1 : b1 + 1800000 ≤ 30 * G.2.2.2.2.1) (hG2 : b2 + 3700000 ≤ G.2.2.2.2.2) (hP : pgW w pg R) (hg : goW w x r) (ho : gOk r) (he : Ce[c]? = some e) (hk : (gL r).1 = 2) (hlR : Ro.length < 3000) (k : ∀ w', bsW w' b1 b2 ((br, pg, t), (nd, va, ce, li), (ro, bi, le, wk)) g (some l) rd ((N, Vr, Ce), (Ls, (if (pgC R).1.1.1 (gL r).2.1 = [] then Ro else Ro ++ [(some l, (0, 0), ro0, some c, 0)]), fr), Bi, lv, (tk, na)) → zFr TB w w' → PV w') : zX G zm_X0_resolve (d + 6) [zR br, zI (l : Int)] w0 (zVoid PV) 46 [some (zR br), some (zI (l : Int)), some (zI (c : Int)), some (zR x), some (zI (oI ro0)), o5, o6, o7, o8] [] w := by
  obtain ⟨cN, cV, cC, cL, cR, cB, cE, cW, NN, WW, hB, hN, hBi⟩ := id hW
  obtain ⟨g1, g2, g3, g4, g5⟩ := go_1 ho
  have hr : r.1 = 2 := by omega
  have hs := g5 (by omega)
  have hc1 : tg (Ce.map rwC) (c : Int) 1 = (e.2.1 : Int) := tg_map (j := 1) he
  have eC : (pgC R).1.1.1 (gL r).2.1 = (match pgP R (gL r).2.1 with | none => [] | some y => (R.2.2.2.1 y).2.2.2.2.map (fun a => (R.2.2.2.2.2.1 a).1.1.toNat)) := rfl
  cases hp : pgP R (gL r).2.1 with
  | none =>
    rw [hp] at eC
    rw [if_pos eC] at k
    refine rv_c0 hB hg hc1 hP hr ?_ (k w hW zFr_re)
    rw [hs]
    unfold lAt
    rw [if_pos (by omega), Int.toNat_natCast]
    exact hp
  | some y =>
    rw [hp] at eC
    have eC : (pgC R).1.1.1 (gL r).2.1 = (R.2.2.2.1 y).2.2.2.2.map (fun a => (R.2.2.2.2.2.1 a).1.1.toNat) := eC
    have hn : lAt R.2.2.1.1 r.2.1 = some y := by
      rw [hs]
      exact lAt_in (by omega) (by rw [Int.toNat_natCast]; exact hp)
    have hy : y ∈ R.2.2.1.1 := List.mem_of_getElem? hp
    by_cases h0 : (R.2.2.2.1 y).2.2.2.2.length = 0
    · have e0 : (pgC R).1.1.1 (gL r).2.1 = [] := by rw [eC, List.length_eq_zero_iff.mp h0]; rfl
      rw [if_pos e0] at k
      exact rv_c1 hB hg hc1 hP hr hn hy h0 (k w hW zFr_re)
    · have e0 : ¬ (pgC R).1.1.1 (gL r).2.1 = [] := fun q => h0 (by rw [eC] at q; rw [← List.length_map (fun a => (R.2.2.2.2.2.1 a).1.1.toNat), q]; rfl)
      rw [if_neg e0] at k
      refine rv_c2 hB hg hc1 hP hr hn hy (by omega) (zM_mono (s_addToRow (G := G) (d := d + 2) hW hG1 hG2 hlR (some l) 0 0 ro0 (some c)) (fun oo w' q => ?_))
      obtain ⟨q1, q2, q3⟩ := q
      exact ⟨q1, k w' q2 q3⟩
theorem rs_den (hW : bsW w b1 b2 ((br, pg, t), (nd, va, ce, li), (ro, bi, le, wk)) g (some l) rd ((N, Vr, Ce), (Ls, Ro, fr), Bi, lv, (tk, na))) (hG1 : b1 + 1800000 ≤ 30 * G.2.2.2.2.1) (hG2 : b2 + 3700000 ≤ G.2.2.2.2.2) (hg : goW w x r) (ho : gOk r) (he : Ce[c]? = some e) (hk : (gL r).1 = 3) (hlv : lv.length < 400) (hlR : Ro.length < 3000) (hlV : Vr.length < 5000) (hlC : Ce.length < 114000) (hsu : (gL r).2.1 < 1000) (hv : ∀ k, k < (gL r).2.2.1 → ∃ n, bNo Vr e.2.1 (smv (gL r) k) = some n) (k : ∀ w', bsW w' b1 b2 ((br, pg, t), (nd, va, ce, li), (ro, bi, le, wk)) g (some l) rd ((N, (Vr ++ (List.range (gL r).2.2.1).map (fun k => bNo Vr e.2.1 (smv (gL r) k))), (Ce ++ [(60 + (gL r).2.1, Vr.length, none)])), (Ls, (Ro ++ [(some l, (0, 0), some Ce.length, none, 0)]), Ro.length), Bi, ((fr, Ro.length, l, ro0) :: lv), (tk, na)) → zFr TB w w' → PV w') : zX G zm_X0_resolve (d + 6) [zR br, zI (l : Int)] w0 (zVoid PV) 46 [some (zR br), some (zI (l : Int)), some (zI (c : Int)), some (zR x), some (zI (oI ro0)), o5, o6, o7, o8] [] w := by
  obtain ⟨cN, cV, cC, cL, cR, cB, cE, cW, NN, WW, hB, hN, hBi⟩ := id hW
  obtain ⟨g1, g2, g3, g4, g5⟩ := go_1 ho
  have hc1 : tg (Ce.map rwC) (c : Int) 1 = (e.2.1 : Int) := tg_map (j := 1) he
  refine rv_d hB hg hc1 (by omega) (zM_mono (s_beginDenied (G := G) (d := d) hW hG1 hG2 hg ho hlv hlR hlV hlC hsu (by omega) hv l ro0) (fun oo w' q => ?_))
  obtain ⟨q1, q2, q3⟩ := q
  exact ⟨q1, k w' q2 q3⟩
/-- behind the unification -/
theorem rs_end {N1 : bNT} {rr : List (Nat × Nat)} {bd : bBD} {mk : Nat → Int} {cN cV cC cL cR cB cE cW : Nat} {NN WW : List (List Int)} {rd5 : Nat} {x1 : Int} (hB : bbW w b1 b2 ((br, pg, t), (nd, va, ce, li), (ro, bi, le, wk)) (((cN, NN), (cV, (Vr.map (fun o => [oI o]))), (cC, (Ce.map rwC)), (cL, (Ls.map rwL))), ((cR, (Ro.map rwE)), (cB, ((Bi ++ rr).map rwB)), (cE, (lv.reverse.map rwV)), (cW, WW)), ((g : Int), (fr : Int), (tk : Int), (oI (some l)), (rd5 : Int)))) (hM : ndM NN N1 bd mk) (hmk : ∀ m, m < N1.length → -1 ≤ mk m ∧ mk m < 3 * (rd5 : Int) + 3) (hback : bDnS rr bd = (bdOf (bPb Ls Bi 150 (some l)))) (hBi : ∀ e, e ∈ Bi → e.1 < N1.length ∧ e.2 < N1.length) (hG1 : b1 + 1800000 ≤ 30 * G.2.2.2.2.1) (hG2 : b2 + 3700000 ≤ G.2.2.2.2.2) (hlB : Bi.length + rr.length < 1000000) (v : Int)
    (k : (v = 0 ∧ ∀ w', bsW w' b1 b2 ((br, pg, t), (nd, va, ce, li), (ro, bi, le, wk)) g (some l) rd5 ((N1, Vr, Ce), (Ls, Ro, fr), Bi, lv, (tk, na)) → zFr TB w w' → PV w') ∨ (v = 1 ∧ Ro.length < 3000 ∧ bLw Ls Bi.length ∧ l < Ls.length ∧ (∀ e, e ∈ rr → e.1 < N1.length ∧ e.2 < N1.length) ∧ ∀ w', bsW w' b1 b2 ((br, pg, t), (nd, va, ce, li), (ro, bi, le, wk)) g (some l) rd5 ((N1, Vr, Ce), (Ls, (Ro ++ [(some l, (Bi.length, Bi.length + rr.length), ro0, none, 0)]), fr), (Bi ++ rr), lv, (tk, na)) → zFr TB w w' → PV w')) :
    zX G zm_X0_resolve (d + 6) [zR br, zI (l : Int)] w0 (zVoid PV) 176 [some (zR br), some (zI (l : Int)), some (zI (c : Int)), some (zR x), some (zI (oI ro0)), some (zI (bs : Int)), some (zI (((Bi.map rwB).length : Nat) : Int)), some (zI x1), some (zI v)] [] w := by
  have hlen : ((Bi ++ rr).map rwB).length = Bi.length + rr.length := by rw [List.length_map, List.length_append]
  have hlen0 : (Bi.map rwB).length = Bi.length := List.length_map _
  have hbi := c_X0_bind_false (G := G) (d := d + 4) hB (i0 := (Bi.map rwB).length) (k := rr.length) (n := ((Bi ++ rr).map rwB).length) (by omega) (by omega)
  rw [hlen0] at hbi
  have hN2 := bnd_off (Bi := Bi ++ rr) rr.length Bi.length NN bd (by rw [List.length_append]; exact Nat.le_refl _) (ndR_of hM hmk)
  have eseg : ((Bi ++ rr).take (Bi.length + rr.length)).drop Bi.length = rr := by
    rw [← List.length_append, List.take_length, List.drop_left]
  rw [eseg, hback] at hN2
  refine rv_b (e8 := v) hB (by rw [hlen0]; exact hbi) (fun w1 hq => ?_)
  obtain ⟨hB1, hF1⟩ := hq
  rcases k with ⟨rfl, k⟩ | ⟨rfl, hlR, hlw, hl, hrr, k⟩
  · refine rv_z hB1 (fun w2 hB2 hF2 => k w2 ?_ (zFr_tr hF1 hF2))
    have ec : tcut ((Bi ++ rr).map rwB) (((Bi.map rwB).length : Nat) : Int) = Bi.map rwB := by
      unfold tcut
      rw [if_pos (by omega), Int.toNat_natCast, List.map_append, List.take_left]
    rw [ec] at hB2
    exact ⟨_, _, _, _, _, _, _, _, _, _, hB2, hN2, hBi⟩
  · have ebd : bdOf (bPb Ls (Bi ++ rr) 150 (some l)) = (bdOf (bPb Ls Bi 150 (some l))) := by rw [bPb_pre (bPre_refl Ls) (bPre_app Bi rr) hlw 150 (some l) (fun q hq => by cases hq; exact hl)]
    have hW1 : bsW w1 b1 b2 ((br, pg, t), (nd, va, ce, li), (ro, bi, le, wk)) g (some l) rd5 ((N1, Vr, Ce), (Ls, Ro, fr), (Bi ++ rr), lv, (tk, na)) := ⟨_, _, _, _, _, _, _, _, _, _, hB1, by rw [ebd]; exact hN2, fun e he => by
      rcases List.mem_append.mp he with q | q
      · exact hBi e q
      · exact hrr e q⟩
    have ha := s_addToRow (G := G) (d := d + 2) hW1 hG1 hG2 hlR (some l) Bi.length (Bi.length + rr.length) ro0 none
    refine rv_y hB1 (zM_mono (by rw [hlen, hlen0]; exact ha) (fun oo w' q => ?_))
    obtain ⟨q1, q2, q3⟩ := q
    exact ⟨q1, k w' q2 (zFr_tr hF1 q3)⟩
end SRE
