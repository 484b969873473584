/-! Own rows: breadth's firstToResolve, told by the pure state. By hand (printed by wip/p37/m_bft2.py). -/
def bsM (w : zW) (b1 b2 : Nat) (K : bbK) (g : Nat) (rs : Option Nat) (rd : Nat) (mk : Nat → Int) : bS → Prop
  | ((N, Vr, Ce), (Ls, Ro, fr), Bi, lv, (tk, na)) => ∃ (cN cV cC cL cR cB cE cW : Nat) (NN WW : List (List Int)), bbW w b1 b2 K (((cN, NN), (cV, Vr.map (fun o => [oI o])), (cC, Ce.map rwC), (cL, Ls.map rwL)), ((cR, Ro.map rwE), (cB, Bi.map rwB), (cE, lv.reverse.map rwV), (cW, WW)), ((g : Int), (fr : Int), (tk : Int), oI rs, (rd : Int))) ∧ ndM NN N (bdOf (bPb Ls Bi 150 rs)) mk ∧ (∀ n, n < N.length → -1 ≤ mk n ∧ mk n < 3 * (rd : Int) + 3) ∧ ∀ e, e ∈ Bi → e.1 < N.length ∧ e.2 < N.length
section SFT
variable {G : zG} {d : Nat} {w : zW} {b1 b2 g rd : Nat} {R : pgR} {rs : Option Nat} {br pg t nd va ce li ro bi le wk : Nat} {N : bNT} {Vr : List (Option Nat)} {Ce : List (Nat × Nat × Option Nat)} {Ls : bLs} {Ro : List bEn} {fr tk na : Nat} {Bi : List (Nat × Nat)} {lv : bLv} {tc tn th tz : Nat} {ty : Int} {TN TH : List (List Int)} {TS : List Int} {mk : Nat → Int} {pv : Nat → Prop}
theorem bsM_W (h : bsM w b1 b2 ((br, pg, t), (nd, va, ce, li), (ro, bi, le, wk)) g rs rd mk ((N, Vr, Ce), (Ls, Ro, fr), Bi, lv, (tk, na))) : bsW w b1 b2 ((br, pg, t), (nd, va, ce, li), (ro, bi, le, wk)) g rs rd ((N, Vr, Ce), (Ls, Ro, fr), Bi, lv, (tk, na)) := by
  obtain ⟨cN, cV, cC, cL, cR, cB, cE, cW, NN, WW, hB, hN, hm, hBi⟩ := h
  exact ⟨cN, cV, cC, cL, cR, cB, cE, cW, NN, WW, hB, ndR_of hN hm, hBi⟩
theorem bsW_M (h : bsW w b1 b2 ((br, pg, t), (nd, va, ce, li), (ro, bi, le, wk)) g rs rd ((N, Vr, Ce), (Ls, Ro, fr), Bi, lv, (tk, na))) : ∃ mk, bsM w b1 b2 ((br, pg, t), (nd, va, ce, li), (ro, bi, le, wk)) g rs rd mk ((N, Vr, Ce), (Ls, Ro, fr), Bi, lv, (tk, na)) := by
  obtain ⟨cN, cV, cC, cL, cR, cB, cE, cW, NN, WW, hB, hN, hBi⟩ := h
  obtain ⟨mk, h1, h2⟩ := ndM_of hN
  exact ⟨mk, cN, cV, cC, cL, cR, cB, cE, cW, NN, WW, hB, h1, h2, hBi⟩
theorem s_first (hW : bsM w b1 b2 ((br, pg, t), (nd, va, ce, li), (ro, bi, le, wk)) g rs rd mk ((N, Vr, Ce), (Ls, Ro, fr), Bi, lv, (tk, na))) (hG1 : b1 + 1800000 ≤ 30 * G.2.2.2.2.1) (hG2 : b2 + 3700000 ≤ G.2.2.2.2.2) (hP : pgW w pg R) (hQ : pgQ w R) (hK : bkF R) (hT : tmW w t tc tn th tz ty C3 TN TH TS) (hk : bWk N g (bdOf (bPb Ls Bi 150 rs))) (hgt : ∀ n, n < g → bhd N n ≠ none) (hp : ∀ n, bhd N n = some 1 → bfs N n < n) (hcc : ∀ n c, bhd N n = some c → c < 3) (hN : N.length ≤ 4000) (hfin : ∀ n, bFin N (bdOf (bPb Ls Bi 150 rs)) n) (hrd : rd < 900000) (hI : ∀ m, m < N.length → -1 ≤ mk m ∧ (mk m < 3 * (rd : Int) ∨ okM N (bdOf (bPb Ls Bi 150 rs)) rd (mk m) m)) (hVr : Vr.length < 1000000) (hV : ∀ (i n : Nat), Vr[i]? = some (some n) → n < N.length) (hcV : cVo (pgC R) pv Vr Ce) (hpv : ∀ q, pv q → ∃ y, pgP R q = some y) {h0 : Nat} {cs : List Nat} (hch : bCh Ce (some h0) cs) (hcl : cs.length < 800000) :
    zM G zm_X0_firstToResolve (d + 5) [zR br, zI (h0 : Int)] w (zVal fun o w' => ((o = zI (-1) ∧ ∀ c, c ∈ cs → ¬ bOk (pgC R) N Vr Ce (bdOf (bPb Ls Bi 150 rs)) c) ∨ ∃ (A : List Nat) (cc : Nat) (B : List Nat), o = zI (cc : Int) ∧ cs = A ++ cc :: B ∧ (∀ c, c ∈ A → ¬ bOk (pgC R) N Vr Ce (bdOf (bPb Ls Bi 150 rs)) c) ∧ bOk (pgC R) N Vr Ce (bdOf (bPb Ls Bi 150 rs)) cc) ∧ bsW w' b1 b2 ((br, pg, t), (nd, va, ce, li), (ro, bi, le, wk)) g rs rd ((N, Vr, Ce), (Ls, Ro, fr), Bi, lv, (tk, na)) ∧ zFr TB w w') := by
  obtain ⟨cN, cV, cC, cL, cR, cB, cE, cW, NN, WW, hB, hM, hm, hBi⟩ := id hW
  have loop : ∀ (cs2 A : List Nat) (oc : Option Nat) (q cW1 : Nat) (NN1 WW1 : List (List Int)) (mk1 : Nat → Int) (o4 : Option zV) (w1 : zW), cs = A ++ cs2 → (∀ c, c ∈ A → ¬ bOk (pgC R) N Vr Ce (bdOf (bPb Ls Bi 150 rs)) c) → bCh Ce oc cs2 → q + cs2.length < 900000 → bbW w1 b1 b2 ((br, pg, t), (nd, va, ce, li), (ro, bi, le, wk)) (((cN, NN1), (cV, (Vr.map (fun o => [oI o]))), (cC, (Ce.map rwC)), (cL, (Ls.map rwL))), ((cR, (Ro.map rwE)), (cB, (Bi.map rwB)), (cE, (lv.reverse.map rwV)), (cW1, WW1)), ((g : Int), (fr : Int), (tk : Int), (oI rs), (rd : Int))) → ndM NN1 N (bdOf (bPb Ls Bi 150 rs)) mk1 → mkX N (bdOf (bPb Ls Bi 150 rs)) rd mk mk1 → zFr TB w w1 → zX G zm_X0_firstToResolve (d + 5) [zR br, zI (h0 : Int)] w (zVal fun o w' => ((o = zI (-1) ∧ ∀ c, c ∈ cs → ¬ bOk (pgC R) N Vr Ce (bdOf (bPb Ls Bi 150 rs)) c) ∨ ∃ (A : List Nat) (cc : Nat) (B : List Nat), o = zI (cc : Int) ∧ cs = A ++ cc :: B ∧ (∀ c, c ∈ A → ¬ bOk (pgC R) N Vr Ce (bdOf (bPb Ls Bi 150 rs)) c) ∧ bOk (pgC R) N Vr Ce (bdOf (bPb Ls Bi 150 rs)) cc) ∧ bsW w' b1 b2 ((br, pg, t), (nd, va, ce, li), (ro, bi, le, wk)) g rs rd ((N, Vr, Ce), (Ls, Ro, fr), Bi, lv, (tk, na)) ∧ zFr TB w w') 4 [some (zR br), some (zI (h0 : Int)), some (zI (oI oc)), some (zI ((q : Nat) : Int)), o4] [] w1 := by
    intro cs2
    induction cs2 with
    | nil =>
      intro A oc q cW1 NN1 WW1 mk1 o4 w1 hA hno hco hq hB1 hM1 hX1 hF1
      have hco : oc = none := hco
      subst hco
      exact ft_end (by omega) ⟨Or.inl ⟨rfl, fun c hc => hno c (by rw [hA, List.append_nil] at hc; exact hc)⟩, ⟨_, _, _, _, _, _, _, _, _, _, hB1, ndR_of hM1 (mkI_bd (mkX_in hX1 hI)), hBi⟩, hF1⟩
    | cons c cs3 ih =>
      intro A oc q cW1 NN1 WW1 mk1 o4 w1 hA hno hco hq hB1 hM1 hX1 hF1
      obtain ⟨eoc, e, he, hco3⟩ := hco
      subst eoc
      have hI1 := mkX_in hX1 hI
      have hq2 : q < 900000 := by omega
      obtain ⟨⟨gl, hgl, hgok, hvar⟩, h6⟩ := hcV c e he
      have hW1 : bsW w1 b1 b2 ((br, pg, t), (nd, va, ce, li), (ro, bi, le, wk)) g rs rd ((N, Vr, Ce), (Ls, Ro, fr), Bi, lv, (tk, na)) := ⟨_, _, _, _, _, _, _, _, _, _, hB1, ndR_of hM1 (mkI_bd hI1), hBi⟩
      obtain ⟨x, r, hg, ho, hgr, hgo⟩ := s_goalOf (G := G) (d := d) hW1 (pgW_TB hP hF1) (pgQ_TB hQ hF1) hK he hgl (by
        by_cases c6 : e.1 < 60
        · exact Or.inl c6
        · exact Or.inr (hpv _ (h6 (by omega))))
      have hg1 : gl.1 = r.1.toNat := by rw [← hgr]; rfl
      have hr1 := ho.1
      have fin : bOk (pgC R) N Vr Ce (bdOf (bPb Ls Bi 150 rs)) c → ((zI (c : Int) = zI (-1) ∧ ∀ c, c ∈ cs → ¬ bOk (pgC R) N Vr Ce (bdOf (bPb Ls Bi 150 rs)) c) ∨ ∃ (A : List Nat) (cc : Nat) (B : List Nat), zI (c : Int) = zI (cc : Int) ∧ cs = A ++ cc :: B ∧ (∀ c, c ∈ A → ¬ bOk (pgC R) N Vr Ce (bdOf (bPb Ls Bi 150 rs)) c) ∧ bOk (pgC R) N Vr Ce (bdOf (bPb Ls Bi 150 rs)) cc) := fun hok => Or.inr ⟨A, c, cs3, rfl, hA, hno, hok⟩
      by_cases hk3 : r.1 = 3
      · have hgi := c_ground (G := G) (d := d) hB1 hG1 hG2 (tmW_TB hT hF1) hM1 hk hgt hp hcc hN hrd hI1 hg ho hVr (bs := e.2.1) (fun k hk0 => by
          rw [hgr] at hk0 ⊢
          obtain ⟨n, hn⟩ := hvar k hk0
          exact ⟨n, hn, hV _ n (bNo_iff.mp hn)⟩) hfin
        rw [hgr] at hgi
        by_cases hgd : bGr N Vr (bdOf (bPb Ls Bi 150 rs)) e.2.1 gl
        · refine ft_yes (N := N) (bd := (bdOf (bPb Ls Bi 150 rs))) (mk := mk1) hB1 hgo hg he hq2 hk3 (zM_mono hgi (fun oo w' q => ?_)) (fun cW2 NN2 WW2 mk2 w2 hB2 hM2 hX2 hF2 => ?_)
          · obtain ⟨v, e1, ⟨e2, -⟩ | ⟨-, e2⟩, e3, e4⟩ := q
            · exact ⟨v, e1, e2, e3, e4⟩
            · exact absurd hgd e2
          · exact ⟨fin ⟨e, gl, he, hgl, Or.inr hgd⟩, ⟨_, _, _, _, _, _, _, _, _, _, hB2, ndR_of hM2 (mkI_bd (mkX_in hX2 hI1)), hBi⟩, zFr_tr hF1 hF2⟩
        · refine ft_no (N := N) (bd := (bdOf (bPb Ls Bi 150 rs))) (mk := mk1) hB1 hgo hg he hq2 hk3 (zM_mono hgi (fun oo w' q => ?_)) (fun cW2 NN2 WW2 mk2 w2 hB2 hM2 hX2 hF2 o4 => ?_)
          · obtain ⟨v, e1, ⟨-, e2⟩ | ⟨e2, -⟩, e3, e4⟩ := q
            · exact absurd e2 hgd
            · exact ⟨v, e1, e2, e3, e4⟩
          · refine ih (A ++ [c]) e.2.2 (q + 1) cW2 NN2 WW2 mk2 o4 w2 (by rw [hA]; simp) (fun a ha => ?_) hco3 (by rw [List.length_cons] at hq; omega) hB2 hM2 (mkX_tr hX1 hX2) (zFr_tr hF1 hF2)
            rcases List.mem_append.mp ha with k | k
            · exact hno a k
            · rw [List.mem_singleton.mp k]
              rintro ⟨e', g', u1, u2, u3⟩
              rw [he] at u1
              cases u1
              rw [hgl] at u2
              cases u2
              exact u3.elim (fun q => q (by rw [hg1, hk3]; rfl)) hgd
      · exact ft_take hB1 hgo hg he hq2 hk3 ⟨fin ⟨e, gl, he, hgl, Or.inl (by rw [hg1]; omega)⟩, hW1, hF1⟩
  exact ft_start (loop cs [] (some h0) 0 cW NN WW mk none w rfl (fun a ha => absurd ha List.not_mem_nil) hch (by omega) hB hM mkX_re zFr_re)
end SFT
