/-! Own rows: breadth's count of a question: the machine's count, if it is told. By hand (printed by wip/p37/m_bcn.py). -/
section SCN
variable {G : zG} {d : Nat} {w : zW} {b1 b2 : Nat} {R : pgR} {br pg t nd va ce li ro bi le wk : Nat} {cN cV cC cL cR cB cE cW : Nat} {NN VV CC LL RR BB EE WW : List (List Int)} {gc fr tk rs rd : Int} {tc tn th tz : Nat} {ty : Int} {TN TH : List (List Int)} {TS : List Int} {rp ri ra rn : Nat} {IN AN NT : List (List Int)} {sc cc dc en bk bc : Int} {pv : Nat → Prop} {Gd : Nat × Nat → Prop} {tm : List smG} {inp : Nat → Option Nat} {y md p mi : Nat}
theorem s_count (hB : bbW w b1 b2 ((br, pg, t), (nd, va, ce, li), (ro, bi, le, wk)) (((cN, NN), (cV, VV), (cC, CC), (cL, LL)), ((cR, RR), (cB, BB), (cE, EE), (cW, WW)), (gc, fr, tk, rs, rd))) (hG1 : b1 + 1800000 ≤ 30 * G.2.2.2.2.1) (hG2 : b2 + 3700000 ≤ G.2.2.2.2.2) (hT : tmW w t tc tn th tz ty C3 TN TH TS) (htm : tmR TN TH TS tm) (h0 : 0 < TN.length) (hP : pgW w pg R) (hQ : pgQ w R) (hK : bkF R) (hL : bkL R) (hF : mmFa (pgC R) Gd) (hpv : ∀ q, pv q → ∃ y, pgP R q = some y) (hpd : ∀ n gl, bG (pgC R) n = some gl → gl.1 = 3 → pv gl.2.1) (hp5 : ∀ q, pv q → q < 1000) (hCC : bCC (pgC R) (tvR R)) (hA3 : ∀ p, (pgC R).1.2 p ≤ 3) (hA : ∀ n gl, bG (pgC R) n = some gl → gl.2.2.1 ≤ 3) (hR : rpW w rp ri ra rn (some md) IN AN NT sc cc dc en bk bc) (hmd : moW w md (R.2.2.2.2.1 md)) (hmy : (R.2.2.2.2.1 md).1 = y) (hy : pgP R p = some y) (hpp : pv p) (hin : ∀ k, k < (pgC R).1.2 p → tg IN (k : Int) 0 = oI (inp k)) (hin2 : ∀ k v, inp k = some v → v < TN.length) (hgd : Gd (p, mi)) (ho : ∀ k, inV tm inp k ≠ none ↔ (pgC R).2.1.1 p mi k = true) :
    zM G zm_X0_count (d + 7) [zR br, zR rp] w (zVal fun o w' => ∃ mm : Option Nat, o = zI (oI mm) ∧ (∀ m, mm = some m → ∀ (tm0 : List smG) (n' : Nat) (r : Nat × mmS), mmRun (pgC R) n' (mmStart (pgC R) tm0 (p, mi) (inV tm inp)) = some r → r.1 = 0 → mmNa r.2 = m) ∧ (∃ rec, bbW w' b1 b2 ((br, pg, t), (nd, va, ce, li), (ro, bi, le, wk)) rec) ∧ zFr TB w w') := by
  have hym : y ∈ R.2.2.1.1 := List.mem_of_getElem? hy
  have hPr : prW w y (R.2.2.2.1 y) := (hP.2.2.2.2.1 y hym).1
  have hn : (R.2.2.2.1 y).1.1 = (p : Int) := (hK.1 p y hy).1
  have har : (pgC R).1.2 p = (R.2.2.2.1 y).2.1.length := by
    show (match pgP R p with | none => 0 | some y => (R.2.2.2.1 y).2.1.length) = _
    rw [hy]
  have hy6 := hPr.1
  rw [hn] at hy6
  have hlen : TN.length ≤ 200 := by rw [htm.2.1]; exact htm.2.2.2.1
  have hTN : ∀ n, n < TN.length → 0 ≤ tg TN (n : Int) 0 ∧ 0 ≤ tg TN (n : Int) 1 := fun n hn => by
    obtain ⟨g, hg⟩ := st_ex htm hn
    obtain ⟨-, ⟨f, nx, q1, -⟩, -⟩ := htm.2.2.2.2.2 n g hg
    have e0 : tg TN (n : Int) 0 = (smHd g : Int) := tg_at (j := 0) q1
    have e1 : tg TN (n : Int) 1 = (f : Int) := tg_at (j := 1) q1
    rw [e0, e1]
    omega
  have hbg := s_bbegin (G := G) (d := d + 1) (inp := inp) hB hG1 hG2 hT hTN hlen hy6 hPr.2.1 hR (hp5 p hpp) (by rw [← har]; exact hA3 p) (fun k hk => hin k (by rw [har]; exact hk))
  rw [← har] at hbg
  have hmd2 : w.1 md = some (5, 0, [zR y, zI (R.2.2.2.2.1 md).2.1, zI (R.2.2.2.2.1 md).2.2.1, zI (R.2.2.2.2.1 md).2.2.2.1, zI (R.2.2.2.2.1 md).2.2.2.2.1, zI (R.2.2.2.2.1 md).2.2.2.2.2.1, zI (R.2.2.2.2.1 md).2.2.2.2.2.2.1, zI (R.2.2.2.2.1 md).2.2.2.2.2.2.2.1, zI (R.2.2.2.2.1 md).2.2.2.2.2.2.2.2]) := by rw [← hmy]; exact hmd
  refine ct_1 hB hR hmd2 hbg (fun w1 hq => ?_)
  obtain ⟨hW1, hF1⟩ := hq
  have hw0 := st_tW (inp := inp) (ar := (pgC R).1.2 p) htm h0 hin2 (Ce := [(60 + p, 0, none)])
  exact s_cloop (G := G) (d := d) (pv := pv) (n0 := TN.length + 3) hG1 hG2 hT hP hQ hK hL hpv hpd hp5 hCC hA3 hA (by omega) 301 0 none 0 (((bgR inp (List.range ((pgC R).1.2 p)) (tN TN) []).1, (bgR inp (List.range ((pgC R).1.2 p)) (tN TN) []).2, [(60 + p, 0, none)]), ([], [(none, (0, 0), some 0, none, 0)], 0), [], [], (0, 0)) none w1 (Nat.le_refl _) (by decide) (st_inv htm h0 hin2 (hA3 p) hpp) (Nat.zero_le _) (Nat.le_refl _) (fun l hl => by cases hl) (Nat.zero_le _) hW1 hF1 (fun n F mm w2 rs2 rd2 S2 hr hW2 hF2 => ⟨mm, rfl, fun m hm tm0 n' r hrun hr0 => by
    subst hm
    exact b_same hF hA3 hCC hgd ho hw0 (fun ν hs n hn => st_val htm hs n hn) (st_inj htm) (st_V htm hin2) (st_Vi htm hin2) hr hrun hr0, by
    obtain ⟨⟨N, Vr, Ce⟩, ⟨Ls, Ro, fr⟩, Bi, lv, ⟨tk, na⟩⟩ := S2
    obtain ⟨cN, cV, cC, cL, cR, cB, cE, cW, NN, WW, hB2, -, -⟩ := hW2
    exact ⟨_, hB2⟩, hF2⟩)
end SCN
