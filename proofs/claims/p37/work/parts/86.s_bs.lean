/-! Own rows: breadth in the world stands for the pure state; its small methods told so. By hand (printed by wip/p37/m_bs.py). -/
def bsW (w : zW) (b1 b2 : Nat) (K : bbK) (g : Nat) (rs : Option Nat) (rd : Nat) : bS → Prop
  | ((N, Vr, Ce), (Ls, Ro, fr), Bi, lv, (tk, na)) => ∃ (cN cV cC cL cR cB cE cW : Nat) (NN WW : List (List Int)), bbW w b1 b2 K (((cN, NN), (cV, Vr.map (fun o => [oI o])), (cC, Ce.map rwC), (cL, Ls.map rwL)), ((cR, Ro.map rwE), (cB, Bi.map rwB), (cE, lv.reverse.map rwV), (cW, WW)), ((g : Int), (fr : Int), (tk : Int), oI rs, (rd : Int))) ∧ ndR NN N (bdOf (bPb Ls Bi 150 rs)) (3 * (rd : Int) + 3) ∧ ∀ e, e ∈ Bi → e.1 < N.length ∧ e.2 < N.length
/-- what breadth asks of the program's records -/
def bkF (R : pgR) : Prop := (∀ p y, pgP R p = some y → (R.2.2.2.1 y).1.1 = (p : Int) ∧ p < 5) ∧ ∀ c a, pgCl R c = some a → c < 12 ∧ (R.2.2.2.2.2.1 a).2.2.2.1.2.length ≤ 5 ∧ (R.2.2.2.2.2.1 a).1.1 = (c : Int) ∧ ∀ x, x ∈ (R.2.2.2.2.2.1 a).2.2.2.1.2 → gOk (R.2.2.2.2.2.2 x)
/-- the questions of the predicates -/
def pgQ (w : zW) (R : pgR) : Prop := ∀ y, y ∈ R.2.2.1.1 → ∃ v, goW w (R.2.2.2.1 y).1.2.2.2.2 (2, (R.2.2.2.1 y).1.1, ((R.2.2.2.1 y).2.1.length : Int), v, [0, 1, 2]) ∧ (R.2.2.2.1 y).2.1.length ≤ 3
theorem pgQ_TB {w w' : zW} {R : pgR} (h : pgQ w R) (f : zFr TB w w') : pgQ w' R := fun y hy => by
  obtain ⟨v, ⟨h1, h2, h3⟩, h4⟩ := h y hy
  exact ⟨v, ⟨f _ _ h1 (by simp), f _ _ h2 (by simp), h3⟩, h4⟩
theorem goW_TB {w w' : zW} {x : Nat} {r : goR} (h : goW w x r) (f : zFr TB w w') : goW w' x r := ⟨f _ _ h.1 (by simp), f _ _ h.2.1 (by simp), h.2.2⟩
theorem ndR_new {NN : List (List Int)} {N : bNT} {bd : bBD} {mb : Int} (h : ndR NN N bd mb) (hm : 0 ≤ mb) (hb : bd N.length = none) : ndR (NN ++ [trow 5 (-1) (-1) (-1)]) (N ++ [(none, 0)]) bd mb := by
  refine ⟨by rw [List.length_append, List.length_append, h.1]; rfl, fun n x hx => ?_⟩
  by_cases c : n < N.length
  · rw [List.getElem?_append_left c] at hx
    obtain ⟨fs, sc, mk, h1, h2⟩ := h.2 n x hx
    exact ⟨fs, sc, mk, by rw [List.getElem?_append_left (by rw [h.1]; exact c)]; exact h1, h2⟩
  · have hl := (List.getElem?_eq_some_iff.mp hx).1
    rw [List.length_append, List.length_singleton] at hl
    have e : n = N.length := by omega
    subst e
    rw [List.getElem?_append_right (Nat.le_refl _), Nat.sub_self] at hx
    have e1 : x = (none, 0) := by simpa using hx.symm
    subst e1
    refine ⟨-1, -1, -1, ?_, (fun q => by cases q), Int.le_refl _, by omega⟩
    rw [List.getElem?_append_right (by rw [h.1]; exact Nat.le_refl _), h.1, Nat.sub_self, hb]
    rfl
theorem tg_no {Vr : List (Option Nat)} {b x : Nat} : tg (Vr.map (fun o => [oI o])) ((b : Int) + (x : Int)) 0 = oI (bNo Vr b x) := by
  rw [show (b : Int) + (x : Int) = ((b + x : Nat) : Int) by simp]
  unfold bNo
  cases h : Vr[b + x]? with
  | none =>
    unfold tg
    rw [if_pos ⟨by omega, by omega⟩, Int.toNat_natCast, List.getElem?_map, h]
    rfl
  | some o =>
    rw [show (0 : Int) = ((0 : Nat) : Int) from rfl, tg_map h]
    rfl
theorem gL_q {R : pgR} {y p v : Nat} (h : (R.2.2.2.1 y).1.1 = (p : Int)) : gL (2, (R.2.2.2.1 y).1.1, ((R.2.2.2.1 y).2.1.length : Int), v, [0, 1, 2]) = smQ p (R.2.2.2.1 y).2.1.length := by
  unfold gL smQ
  rw [h]
  rfl
theorem gOk_q {R : pgR} {y p v : Nat} (h : (R.2.2.2.1 y).1.1 = (p : Int)) (h3 : (R.2.2.2.1 y).2.1.length ≤ 3) : gOk (2, (R.2.2.2.1 y).1.1, ((R.2.2.2.1 y).2.1.length : Int), v, [0, 1, 2]) := by
  refine ⟨⟨(by show (0 : Int) ≤ 2; decide), (by show (2 : Int) ≤ 3; decide)⟩, (fun _ => by show 0 ≤ (R.2.2.2.1 y).1.1; omega), ⟨(by show (0 : Int) ≤ ((R.2.2.2.1 y).2.1.length : Int); omega), (by show ((R.2.2.2.1 y).2.1.length : Int) ≤ 3; omega)⟩, rfl, fun k => ?_⟩
  show 0 ≤ zVa [0, 1, 2] k ∧ zVa [0, 1, 2] k < 8
  unfold zVa
  split
  · rename_i hk
    have h2 : k.toNat = 0 ∨ k.toNat = 1 ∨ k.toNat = 2 := by
      have : ([0, 1, 2] : List Int).length = 3 := rfl
      omega
    rcases h2 with e | e | e <;> rw [e] <;> decide
  · decide
section SBS
variable {G : zG} {d : Nat} {w : zW} {b1 b2 g rd : Nat} {R : pgR} {rs : Option Nat} {br pg t nd va ce li ro bi le wk : Nat} {N : bNT} {Vr : List (Option Nat)} {Ce : List (Nat × Nat × Option Nat)} {Ls : bLs} {Ro : List bEn} {fr tk na : Nat} {Bi : List (Nat × Nat)} {lv : bLv}
theorem s_newUnknown (hW : bsW w b1 b2 ((br, pg, t), (nd, va, ce, li), (ro, bi, le, wk)) g rs rd ((N, Vr, Ce), (Ls, Ro, fr), Bi, lv, (tk, na))) (hG1 : b1 + 1800000 ≤ 30 * G.2.2.2.2.1) (hG2 : b2 + 3700000 ≤ G.2.2.2.2.2) (hl : N.length < 3900) : zM G zm_X0_newUnknown (d + 3) [zR br] w (zVal fun o w' => o = zI (N.length : Int) ∧ bsW w' b1 b2 ((br, pg, t), (nd, va, ce, li), (ro, bi, le, wk)) g rs rd (((N ++ [(none, 0)]), Vr, Ce), (Ls, Ro, fr), Bi, lv, (tk, na)) ∧ zFr TB w w') := by
  obtain ⟨cN, cV, cC, cL, cR, cB, cE, cW, NN, WW, hB, hN, hBi⟩ := id hW
  refine zM_mono (c_X0_newUnknown hB hG1 hG2 (by rw [hN.1]; exact hl)) (fun oo w' q => ?_)
  obtain ⟨v, e1, e2, hB9, hF9⟩ := q
  rw [hN.1] at e2
  have hno : bdOf (bPb Ls Bi 150 rs) N.length = none := bdOf_no fun e he q => by
    have := (hBi e (bPb_mem _ _ _ he)).1
    omega
  exact ⟨v, e1, e2, ⟨_, _, _, _, _, _, _, _, _, _, hB9, ndR_new hN (by omega) hno, fun e he => by have := hBi e he; rw [List.length_append]; omega⟩, hF9⟩
theorem s_addToRow (hW : bsW w b1 b2 ((br, pg, t), (nd, va, ce, li), (ro, bi, le, wk)) g rs rd ((N, Vr, Ce), (Ls, Ro, fr), Bi, lv, (tk, na))) (hG1 : b1 + 1800000 ≤ 30 * G.2.2.2.2.1) (hG2 : b2 + 3700000 ≤ G.2.2.2.2.2) (hl : Ro.length < 3000) (p0 : Option Nat) (i j : Nat) (c k : Option Nat) : zM G zm_X0_addToRow (d + 3) [zR br, zI (oI p0), zI (i : Int), zI (j : Int), zI (oI c), zI (oI k)] w (zVoid fun w' => bsW w' b1 b2 ((br, pg, t), (nd, va, ce, li), (ro, bi, le, wk)) g rs rd ((N, Vr, Ce), (Ls, (Ro ++ [(p0, (i, j), c, k, 0)]), fr), Bi, lv, (tk, na)) ∧ zFr TB w w') := by
  obtain ⟨cN, cV, cC, cL, cR, cB, cE, cW, NN, WW, hB, hN, hBi⟩ := id hW
  refine zM_mono (c_X0_addToRow hB hG1 hG2 (by rw [List.length_map]; exact hl) _ _ _ _ _) (fun oo w' q => ?_)
  obtain ⟨e1, hB9, hF9⟩ := q
  have e3 : ts (ts (ts (Ro.map rwE ++ [trow 6 (oI p0) (i : Int) (j : Int)]) ((Ro.map rwE).length : Int) 3 (oI c)) ((Ro.map rwE).length : Int) 4 (oI k)) ((Ro.map rwE).length : Int) 5 0 = (Ro ++ [(p0, (i, j), c, k, 0)]).map rwE := by
    have a0 : ts (Ro.map rwE ++ [trow 6 (oI p0) (i : Int) (j : Int)]) ((Ro.map rwE).length : Int) 3 (oI c) = Ro.map rwE ++ [(trow 6 (oI p0) (i : Int) (j : Int)).set 3 (oI c)] := ts_last (j := 3)
    have a1 : ts (Ro.map rwE ++ [(trow 6 (oI p0) (i : Int) (j : Int)).set 3 (oI c)]) ((Ro.map rwE).length : Int) 4 (oI k) = Ro.map rwE ++ [((trow 6 (oI p0) (i : Int) (j : Int)).set 3 (oI c)).set 4 (oI k)] := ts_last (j := 4)
    have a2 : ts (Ro.map rwE ++ [((trow 6 (oI p0) (i : Int) (j : Int)).set 3 (oI c)).set 4 (oI k)]) ((Ro.map rwE).length : Int) 5 0 = Ro.map rwE ++ [(((trow 6 (oI p0) (i : Int) (j : Int)).set 3 (oI c)).set 4 (oI k)).set 5 0] := ts_last (j := 5)
    rw [a0, a1, a2, List.map_append]
    rfl
  rw [e3] at hB9
  exact ⟨e1, ⟨_, _, _, _, _, _, _, _, _, _, hB9, hN, hBi⟩, hF9⟩
theorem s_nodeOf (hW : bsW w b1 b2 ((br, pg, t), (nd, va, ce, li), (ro, bi, le, wk)) g rs rd ((N, Vr, Ce), (Ls, Ro, fr), Bi, lv, (tk, na))) {x : Nat} {r : goR} (hg : goW w x r) (ho : gOk r) {b k : Nat} (hb : b < 1000000) (hk : k < 3) : zM G zm_X0_nodeOf (d + 1) [zR br, zR x, zI (b : Int), zI (k : Int)] w (zRet (some (zI (oI (bNo Vr b (smv (gL r) k))))) w) := by
  obtain ⟨cN, cV, cC, cL, cR, cB, cE, cW, NN, WW, hB, hN, hBi⟩ := id hW
  obtain ⟨h1, h2, h3, -⟩ := hg
  obtain ⟨e1, e2⟩ := go_v ho hk
  have q := c_X0_nodeOf (G := G) (d := d) hB h1 h2 h3 (b : Int) (k : Int) (by omega) (by omega)
  rw [e1, tg_no] at q
  exact q
theorem s_goalNone (hW : bsW w b1 b2 ((br, pg, t), (nd, va, ce, li), (ro, bi, le, wk)) g rs rd ((N, Vr, Ce), (Ls, Ro, fr), Bi, lv, (tk, na))) (hP : pgW w pg R) : zM G zm_X0_goalOf (d + 4) [zR br, zI (oI none)] w (zRet (some zN) w) := by
  obtain ⟨cN, cV, cC, cL, cR, cB, cE, cW, NN, WW, hB, hN, hBi⟩ := id hW
  exact c_X0_goalOf_n hB hP (tg_neg (by decide))
theorem s_goalOf (hW : bsW w b1 b2 ((br, pg, t), (nd, va, ce, li), (ro, bi, le, wk)) g rs rd ((N, Vr, Ce), (Ls, Ro, fr), Bi, lv, (tk, na))) (hP : pgW w pg R) (hQ : pgQ w R) (hK : bkF R) {c : Nat} {e : Nat × Nat × Option Nat} {gl : smL} (he : Ce[c]? = some e) (hg : bG (pgC R) e.1 = some gl) (h60 : e.1 < 60 ∨ ∃ y, pgP R (e.1 - 60) = some y) : ∃ x r, goW w x r ∧ gOk r ∧ gL r = gl ∧ zM G zm_X0_goalOf (d + 4) [zR br, zI (c : Int)] w (zRet (some (zR x)) w) := by
  obtain ⟨cN, cV, cC, cL, cR, cB, cE, cW, NN, WW, hB, hN, hBi⟩ := id hW
  have e0 : tg (Ce.map rwC) (c : Int) 0 = (e.1 : Int) := tg_map (j := 0) he
  unfold bG at hg
  by_cases c6 : 60 ≤ e.1
  · rw [if_pos c6] at hg
    rcases h60 with h | ⟨y, hy⟩
    · omega
    · obtain ⟨h1, h2⟩ := hK.1 _ y hy
      obtain ⟨v, h3, h4⟩ := hQ y (List.mem_of_getElem? hy)
      refine ⟨_, _, h3, gOk_q h1 h4, ?_, c_X0_goalOf_q hB hP e0 c6 (by omega) hy⟩
      rw [gL_q h1]
      have e2 : (pgC R).1.2 (e.1 - 60) = (R.2.2.2.1 y).2.1.length := by
        show (match pgP R (e.1 - 60) with | none => 0 | some y => (R.2.2.2.1 y).2.1.length) = _
        rw [hy]
      rw [e2] at hg
      exact Option.some.inj hg
  · rw [if_neg c6] at hg
    have hg : (match pgCl R (e.1 / 5) with | none => ([] : List smL) | some a => (R.2.2.2.2.2.1 a).2.2.2.1.2.map (fun x => gL (R.2.2.2.2.2.2 x)))[e.1 % 5]? = some gl := hg
    cases ha : pgCl R (e.1 / 5) with
    | none => rw [ha] at hg; cases hg
    | some a =>
      rw [ha] at hg
      have hg : ((R.2.2.2.2.2.1 a).2.2.2.1.2.map (fun x => gL (R.2.2.2.2.2.2 x)))[e.1 % 5]? = some gl := hg
      rw [List.getElem?_map] at hg
      cases hx : (R.2.2.2.2.2.1 a).2.2.2.1.2[e.1 % 5]? with
      | none => rw [hx] at hg; cases hg
      | some x =>
        rw [hx] at hg
        obtain ⟨-, -, -, h4⟩ := hK.2 _ a ha
        have hm := List.mem_of_getElem? hx
        exact ⟨x, _, (hP.2.2.2.2.2.2 a (List.mem_of_getElem? ha)).2 x hm, h4 x hm, Option.some.inj hg, c_X0_goalOf_c hB hP e0 (by omega) ha hx⟩
theorem s_restore (hW : bsW w b1 b2 ((br, pg, t), (nd, va, ce, li), (ro, bi, le, wk)) g rs rd ((N, Vr, Ce), (Ls, Ro, fr), Bi, lv, (tk, na))) (hw : bLw Ls Bi.length) (hb : Bi.length < 1000000) (hrs : ∀ q, rs = some q → q < Ls.length) {l : Nat} (hl : l < Ls.length) (hn : ((bPb Ls Bi 150 (some l)).map fun e => e.1).Nodup) (hrd : rd < 1000000) : zM G zm_X0_restore (d + 3) [zR br, zI (l : Int)] w (zVoid fun w' => (∃ (cN cV cC cL cR cB cE cW : Nat) (NN WW : List (List Int)), bbW w' b1 b2 ((br, pg, t), (nd, va, ce, li), (ro, bi, le, wk)) (((cN, NN), (cV, Vr.map (fun o => [oI o])), (cC, Ce.map rwC), (cL, Ls.map rwL)), ((cR, Ro.map rwE), (cB, Bi.map rwB), (cE, lv.reverse.map rwV), (cW, WW)), ((g : Int), (fr : Int), (tk : Int), oI (some l), ((rd + 1 : Nat) : Int))) ∧ ndR NN N (bdOf (bPb Ls Bi 150 (some l))) (3 * ((rd + 1 : Nat) : Int))) ∧ zFr TB w w') := by
  obtain ⟨cN, cV, cC, cL, cR, cB, cE, cW, NN, WW, hB, hN, hBi⟩ := id hW
  refine zM_mono (c_X0_restore hB (bpT_ok hw hb 150 rs hrs) (bpT_ok hw hb 150 (some l) (fun q hq => by cases hq; exact hl)) (by omega)) (fun oo w' q => ?_)
  obtain ⟨e1, hB9, hF9⟩ := q
  have h9 := nd_restore hw hrs hl hn hN
  rw [show (3 : Int) * (rd : Int) + 3 = 3 * ((rd + 1 : Nat) : Int) by omega] at h9
  exact ⟨e1, ⟨_, _, _, _, _, _, _, _, _, _, hB9, h9⟩, hF9⟩
end SBS
