/-! Own rows: breadth resolves a list, told by the pure state. By hand (printed by wip/p37/m_brs4.py). -/
theorem first_or {p : Nat → Prop} : ∀ cs : List Nat, (∀ c, c ∈ cs → ¬ p c) ∨ ∃ (A : List Nat) (cc : Nat) (B : List Nat), cs = A ++ cc :: B ∧ (∀ c, c ∈ A → ¬ p c) ∧ p cc
  | [] => Or.inl fun c h => absurd h List.not_mem_nil
  | c :: cs => by
    by_cases h : p c
    · exact Or.inr ⟨[], c, cs, rfl, fun c h => absurd h List.not_mem_nil, h⟩
    · rcases first_or (p := p) cs with k | ⟨A, cc, B, k1, k2, k3⟩
      · refine Or.inl fun a ha => ?_
        rcases List.mem_cons.mp ha with q | q
        · rw [q]; exact h
        · exact k a q
      · refine Or.inr ⟨c :: A, cc, B, by rw [k1]; rfl, fun a ha => ?_, k3⟩
        rcases List.mem_cons.mp ha with q | q
        · rw [q]; exact h
        · exact k2 a q
theorem first_uq {p : Nat → Prop} : ∀ (A A' : List Nat) (cc cc' : Nat) (B B' : List Nat), A ++ cc :: B = A' ++ cc' :: B' → (∀ c, c ∈ A → ¬ p c) → p cc → (∀ c, c ∈ A' → ¬ p c) → p cc' → cc = cc'
  | [], [], cc, cc', B, B', h, _, _, _, _ => by
    have h : cc :: B = cc' :: B' := h
    exact (List.cons.inj h).1
  | [], a :: A', cc, cc', B, B', h, _, h2, h3, _ => by
    have h : cc :: B = a :: (A' ++ cc' :: B') := h
    have := (List.cons.inj h).1
    rw [this] at h2
    exact absurd h2 (h3 a List.mem_cons_self)
  | a :: A, [], cc, cc', B, B', h, h1, _, _, h4 => by
    have h : a :: (A ++ cc :: B) = cc' :: B' := h
    have := (List.cons.inj h).1
    rw [← this] at h4
    exact absurd h4 (h1 a List.mem_cons_self)
  | a :: A, a' :: A', cc, cc', B, B', h, h1, h2, h3, h4 => by
    have h : a :: (A ++ cc :: B) = a' :: (A' ++ cc' :: B') := h
    exact first_uq A A' cc cc' B B' (List.cons.inj h).2 (fun c hc => h1 c (List.mem_cons_of_mem _ hc)) h2 (fun c hc => h3 c (List.mem_cons_of_mem _ hc)) h4
section SRZ
variable {G : zG} {d : Nat} {w : zW} {b1 b2 g rd : Nat} {R : pgR} {rs : Option Nat} {br pg t nd va ce li ro bi le wk : Nat} {N : bNT} {Vr : List (Option Nat)} {Ce : List (Nat × Nat × Option Nat)} {Ls : bLs} {Ro : List bEn} {fr tk na : Nat} {Bi : List (Nat × Nat)} {lv : bLv} {tc tn th tz : Nat} {ty : Int} {TN TH : List (List Int)} {TS : List Int} {pv : Nat → Prop} {l h : Nat}
theorem s_resolve (hW : bsW w b1 b2 ((br, pg, t), (nd, va, ce, li), (ro, bi, le, wk)) g rs rd ((N, Vr, Ce), (Ls, Ro, fr), Bi, lv, (tk, na))) (hG1 : b1 + 1800000 ≤ 30 * G.2.2.2.2.1) (hG2 : b2 + 3700000 ≤ G.2.2.2.2.2) (hT : tmW w t tc tn th tz ty C3 TN TH TS) (hP : pgW w pg R) (hQ : pgQ w R) (hK : bkF R) (hI : fIn g ((N, Vr, Ce), (Ls, Ro, fr), Bi, lv, (tk, na))) (hGI : gIn (pgC R) pv ((N, Vr, Ce), (Ls, Ro, fr), Bi, lv, (tk, na))) (hpv : ∀ q, pv q → ∃ y, pgP R q = some y) (hpd : ∀ n gl, bG (pgC R) n = some gl → gl.1 = 3 → pv gl.2.1) (hp5 : ∀ q, pv q → q < 1000) (hcc : ∀ n c, bhd N n = some c → c < 3) (hrs : ∀ q, rs = some q → q < Ls.length) {e0 : Option Nat × Nat × Nat × Option Nat} (hle : Ls[l]? = some e0) (hlh : e0.2.2.2 = some h) {cs : List Nat} (hch : bCh Ce (some h) cs) (hcl : cs.length ≤ 900) (hN3 : N.length < 3800) (hlV : Vr.length < 5000) (hlC : Ce.length < 112000) (hlR : Ro.length < 3000) (hlv : lv.length < 400) (hBl : Bi.length + N.length < 234400) (hrd : rd < 700000) :
    zM G zm_X0_resolve (d + 6) [zR br, zI (l : Int)] w (zVoid fun w' => ∃ (rd' : Nat) (S' : bS), rd ≤ rd' ∧ rd' ≤ rd + 2 ∧ bRes (pgC R) g l h ((N, Vr, Ce), (Ls, Ro, fr), Bi, lv, (tk, na)) S' ∧ bsW w' b1 b2 ((br, pg, t), (nd, va, ce, li), (ro, bi, le, wk)) g (some l) rd' S' ∧ zFr TB w w') := by
  have hl : l < Ls.length := (List.getElem?_eq_some_iff.mp hle).1
  have hw : tW g ((N, Vr, Ce), Ls, Bi) := hI.1.1
  obtain ⟨t1, t2, t3, t4, t5⟩ := id hw
  have t1 : ∀ n, n < g → bhd N n ≠ none := t1
  have t3 : ∀ n, bhd N n = some 1 → bfs N n < n := t3
  have hlo : lOk N g (bPb Ls Bi 150 (some l)) := hI.2.2.1 l hl
  have hcV : cVo (pgC R) pv Vr Ce := hGI.1
  have hl3 : tg (Ls.map rwL) (l : Int) 3 = (h : Int) := by
    rw [(rwL_at hle).2.2.2, hlh]
    rfl
  obtain ⟨cN, cV, cC, cL, cR, cB, cE, cW, NN, WW, hB, hN, hBi⟩ := id hW
  have hre := s_restore (G := G) (d := d + 2) hW t5 (by omega) hrs hl hlo.2 (by omega)
  refine rv_1 (P1 := fun w1 => (∃ mk, bsM w1 b1 b2 ((br, pg, t), (nd, va, ce, li), (ro, bi, le, wk)) g (some l) (rd + 1) mk ((N, Vr, Ce), (Ls, Ro, fr), Bi, lv, (tk, na)) ∧ ∀ m, m < N.length → -1 ≤ mk m ∧ (mk m < 3 * ((rd + 1 : Nat) : Int) ∨ okM N (bdOf (bPb Ls Bi 150 (some l))) (rd + 1) (mk m) m)) ∧ zFr TB w w1) hB (zM_mono hre (fun oo w1 q => ?_)) (fun w1 hq1 => ?_)
  · obtain ⟨q1, ⟨c1, c2, c3, c4, c5, c6, c7, c8, NN1, WW1, hB1, hN1⟩, hF1⟩ := q
    obtain ⟨mk, m1, m2⟩ := ndM_of hN1
    exact ⟨q1, ⟨mk, ⟨c1, c2, c3, c4, c5, c6, c7, c8, NN1, WW1, hB1, m1, fun n hn => by have := m2 n hn; omega, hBi⟩, fun m hm => ⟨(m2 m hm).1, Or.inl (m2 m hm).2⟩⟩, hF1⟩
  obtain ⟨⟨mk, hM1, hmk⟩, hF1⟩ := hq1
  obtain ⟨c1, c2, c3, c4, c5, c6, c7, c8, NN1, WW1, hB1, -, -, -⟩ := id hM1
  have hft := s_first (G := G) (d := d) hM1 hG1 hG2 (pgW_TB hP hF1) (pgQ_TB hQ hF1) hK (tmW_TB hT hF1) hlo.1.1 t1 t3 hcc (by omega) hlo.1.2.2 (by omega) hmk (by omega) t4 hcV hpv hch (by omega)
  rcases first_or (p := fun c => bOk (pgC R) N Vr Ce (bdOf (bPb Ls Bi 150 (some l))) c) cs with hno | ⟨A, cc, B, hcs, hA, hok⟩
  · -- nothing can be resolved
    refine rv_2 (P1 := fun w2 => bsW w2 b1 b2 ((br, pg, t), (nd, va, ce, li), (ro, bi, le, wk)) g (some l) (rd + 1) ((N, Vr, Ce), (Ls, Ro, fr), Bi, lv, (tk, na)) ∧ zFr TB w1 w2) (cc := -1) hB1 hl3 (zM_mono hft (fun oo w2 q => ?_)) (fun w2 hq2 => ?_)
    · obtain ⟨v, q1, ⟨q2, -⟩ | ⟨A, cc, B, -, q3, -, q5⟩, q6, q7⟩ := q
      · exact ⟨v, q1, q2, q6, q7⟩
      · exact absurd q5 (hno cc (by rw [q3]; simp))
    · obtain ⟨hW2, hF2⟩ := hq2
      obtain ⟨_, _, _, _, _, _, _, _, _, _, hB2, -, -⟩ := id hW2
      exact rv_3 hB2 (s_goalNone (G := G) (d := d + 1) hW2 (pgW_TB hP (zFr_tr hF1 hF2))) ⟨rd + 1, _, Nat.le_succ _, by omega, ⟨cs, hch, Or.inl ⟨hno, rfl⟩⟩, hW2, zFr_tr hF1 hF2⟩
  refine rv_2 (P1 := fun w2 => bsW w2 b1 b2 ((br, pg, t), (nd, va, ce, li), (ro, bi, le, wk)) g (some l) (rd + 1) ((N, Vr, Ce), (Ls, Ro, fr), Bi, lv, (tk, na)) ∧ zFr TB w1 w2) (cc := (cc : Int)) hB1 hl3 (zM_mono hft (fun oo w2 q => ?_)) (fun w2 hq2 => ?_)
  · obtain ⟨v, q1, ⟨-, q2⟩ | ⟨A', cc', B', q2, q3, q4, q5⟩, q6, q7⟩ := q
    · exact absurd hok (q2 cc (by rw [hcs]; simp))
    · have e1 := first_uq (p := fun c => bOk (pgC R) N Vr Ce (bdOf (bPb Ls Bi 150 (some l))) c) A A' cc cc' B B' (by rw [← hcs, q3]) hA hok q4 q5
      exact ⟨v, q1, by rw [q2, e1], q6, q7⟩
  obtain ⟨hW2, hF2⟩ := hq2
  have hF12 := zFr_tr hF1 hF2
  obtain ⟨_, _, _, _, _, _, _, _, NN2, _, hB2, hN2, -⟩ := id hW2
  obtain ⟨e, gl, he, hgl, -⟩ := id hok
  obtain ⟨⟨gl', hgl', hgok, hvar⟩, h6⟩ := hcV cc e he
  rw [hgl] at hgl'
  cases hgl'
  obtain ⟨x, r, hg, ho, hgr, hgo⟩ := s_goalOf (G := G) (d := d + 1) hW2 (pgW_TB hP hF12) (pgQ_TB hQ hF12) hK he hgl (by
    by_cases c6 : e.1 < 60
    · exact Or.inl c6
    · exact Or.inr (hpv _ (h6 (by omega))))
  subst hgr
  have hlenA : A.length ≤ 900 := by
    have : cs.length = A.length + (B.length + 1) := by rw [hcs]; simp
    omega
  have hwo := c_X0_without (G := G) (d := d + 2) hB2 hG1 hG2 (h := h) (cc := cc) (A := A) (B := B) (e := e) (by rw [← hcs]; exact hch) he (fun a ha q => hA a ha (by rw [q]; exact hok)) (by omega) (by omega)
  obtain ⟨Ce1, hCe1⟩ : ∃ Ce1, Ce1 = Ce ++ bWo Ce e.2.2 A Ce.length := ⟨_, rfl⟩
  obtain ⟨ro0, hro0⟩ : ∃ ro0, ro0 = if A = [] then e.2.2 else some Ce.length := ⟨_, rfl⟩
  rw [← hCe1, ← hro0] at hwo
  have hCl : Ce1.length = Ce.length + A.length := by rw [hCe1, List.length_append, bWo_len]
  refine rv_4 (P1 := fun w3 => bsW w3 b1 b2 ((br, pg, t), (nd, va, ce, li), (ro, bi, le, wk)) g (some l) (rd + 1) ((N, Vr, Ce1), (Ls, Ro, fr), Bi, lv, (tk, na)) ∧ zFr TB w2 w3) (r0 := oI ro0) hB2 hgo hl3 (zM_mono hwo (fun oo w3 q => ?_)) (fun w3 hq3 => ?_)
  · obtain ⟨v, q1, q2, ⟨cC', hB3⟩, hF3⟩ := q
    exact ⟨v, q1, q2, ⟨_, _, _, _, _, _, _, _, _, _, hB3, hN2, hBi⟩, hF3⟩
  obtain ⟨hW3, hF3⟩ := hq3
  have hF13 := zFr_tr hF12 hF3
  have he1 : Ce1[cc]? = some e := by rw [hCe1]; exact bPre_some (bPre_app _ _) he
  have hg3 := goW_TB hg hF3
  have mk_ : ∀ S', ((((gL r).1 = 2 ∧ S' = ((N, Vr, Ce1), (Ls, if (pgC R).1.1.1 (gL r).2.1 = [] then Ro else Ro ++ [(some l, (0, 0), ro0, some cc, 0)], fr), Bi, lv, (tk, na))) ∨ ((gL r).1 = 3 ∧ S' = ((N, Vr ++ (List.range (gL r).2.2.1).map (fun k => bNo Vr e.2.1 (smv (gL r) k)), Ce1 ++ [(60 + (gL r).2.1, Vr.length, none)]), (Ls, Ro ++ [(some l, (0, 0), some Ce1.length, none, 0)], Ro.length), Bi, (fr, Ro.length, l, ro0) :: lv, (tk, na))) ∨ ((gL r).1 ≤ 1 ∧ eqOut g l e.2.1 (gL r) ro0 ((N, Vr, Ce1), (Ls, Ro, fr), Bi, lv, (tk, na)) S'))) → bRes (pgC R) g l h ((N, Vr, Ce), (Ls, Ro, fr), Bi, lv, (tk, na)) S' := fun S' hS => ⟨cs, hch, Or.inr ⟨A, cc, B, e, gL r, hcs, hA, hok, he, hgl, Ce1, ro0, hCe1, hro0, hS⟩⟩
  by_cases h2 : (gL r).1 = 2
  · exact rs_call hW3 hG1 hG2 (pgW_TB hP hF13) hg3 ho he1 h2 hlR (fun w' hW' hF' => ⟨rd + 1, _, Nat.le_succ _, by omega, mk_ _ (Or.inl ⟨h2, rfl⟩), hW', zFr_tr hF13 hF'⟩)
  by_cases h3 : (gL r).1 = 3
  · exact rs_den hW3 hG1 hG2 hg3 ho he1 h3 hlv hlR hlV (by omega) (hp5 _ (hpd _ _ hgl h3)) hvar (fun w' hW' hF' => ⟨rd + 1, _, Nat.le_succ _, by omega, mk_ _ (Or.inr (Or.inl ⟨h3, rfl⟩)), hW', zFr_tr hF13 hF'⟩)
  have h4 : (gL r).1 ≤ 1 := by have := hgok.1; omega
  exact rs_eq hW3 hG1 hG2 (tmW_TB hT hF13) hg3 ho he1 h4 hgok hlV hvar (tW_ce hw) hlo hcc hl hN3 hBl hlR (by omega) (fun w' rd' S' r1 r2 hE hW' hF' => ⟨rd', S', by omega, by omega, mk_ _ (Or.inr (Or.inr ⟨h4, hE⟩)), hW', zFr_tr hF13 hF'⟩)
end SRZ
