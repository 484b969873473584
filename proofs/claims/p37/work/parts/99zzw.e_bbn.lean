/-! Own rows: answersByBreadth, counted, at the level of the object. By hand. -/
theorem rpL_pt {w1 : zW} {la sp spi spa spn : Nat} {g f : List zV} {Sp : whL} (h : rpL w1 sp spi spa spn Sp) (hla : w1.1 la = some (8, 0, g)) (hn : sp ≠ la) : rpL (zput w1 la (8, 0, f)) sp spi spa spn Sp := by
  obtain ⟨mo, ⟨I, A, N⟩, ⟨sc, cc, dc, en, bk, bc⟩⟩ := Sp
  obtain ⟨h0, ⟨h1, o1⟩, ⟨h2, o2⟩, ⟨h3, o3⟩⟩ := h
  exact ⟨zput_to hn h0, ⟨zput_tg hla h1 (by simp), o1⟩, ⟨zput_tg hla h2 (by simp), o2⟩, ⟨zput_tg hla h3 (by simp), o3⟩⟩
theorem oI_r {mm : Option Nat} : (oI mm = -1 ∧ mm = none) ∨ ∃ n : Nat, mm = some n ∧ oI mm = (n : Int) := by
  cases mm with
  | none => exact Or.inl ⟨rfl, rfl⟩
  | some n => exact Or.inr ⟨n, rfl, rfl⟩
section BBN
variable {G : zG} {d : Nat} {w : zW} {o k1 k2 : Nat} {ty : Int} {C : List (List Int)} {tm : List smG} {R : pgR} {comp asked sum : Int} {mo : Option Nat} {I An Nt : List (List Int)} {sc cc dc en bk bc : Int}
/-- what a count tells -/
def bbQ (S : whS) (r : Int ⊕ Nat) (S' : whS) : Prop := ∃ b : Int, S' = (S.1, S.2.1, S.2.2.1, S.2.2.2.1, (S.2.2.2.2.1, S.2.2.2.2.2.1, (S.2.2.2.2.2.2.1, S.2.2.2.2.2.2.2.1, S.2.2.2.2.2.2.2.2.1, S.2.2.2.2.2.2.2.2.2.1, 1, b))) ∧ (b = -1 ∨ 0 ≤ b) ∧ (S.2.2.2.2.2.2.2.2.2.1 = 101 → b = -1 ∨ b = (S.2.2.2.2.2.1.2.1.length : Int)) ∧ r = if b = -1 then .inr 3 else .inl b
theorem w_bbn (h : whW w o k1 k2 ((ty, C), tm, R, (comp, asked, sum), (mo, (I, An, Nt), (sc, cc, dc, en, bk, bc)))) (hst0 : G.1.stackTraces = false) (hk1 : k1 + 6000000 ≤ 60 * G.2.2.2.2.1) (hk2 : k2 + 6830000 ≤ G.2.2.2.2.2) (hC : C = C3) (hI : lwT R) (hcp : cpF R) (ha : asked ≠ 0) (hbk : bk = 0) (h0 : 0 < tm.length) {p m : Nat} (hq : qsF R (mo, (I, An, Nt), (sc, cc, dc, en, bk, bc)) p m) (hb : bdF R tm (mo, (I, An, Nt), (sc, cc, dc, en, bk, bc)) p m) : zM G zm_X11_answersByBreadth (d + 8) [zR o] w (fwQ w o (k1 + 120) (k2 + 10) (bbQ ((ty, C), tm, R, (comp, asked, sum), (mo, (I, An, Nt), (sc, cc, dc, en, bk, bc))))) := by
  obtain ⟨A, T, Sp, M, B, hW, r1, r2⟩ := id h
  obtain ⟨⟨t, tc, tn, th, tz⟩, pg, ⟨mc, fa, ca, ta⟩, ⟨⟨la, lai, laa, lan⟩, ⟨sp, spi, spa, spn⟩⟩, br, ⟨nd, va, ce, li⟩, ⟨ro, bi, le, wk⟩⟩ := A
  obtain ⟨N, H, Sz⟩ := T
  obtain ⟨⟨⟨cN, NN⟩, ⟨cV, VV⟩, ⟨cC, CC⟩, ⟨cL, LL⟩⟩, ⟨⟨cR, RR⟩, ⟨cB, BB⟩, ⟨cE, EE⟩, ⟨cW, WW⟩⟩, ⟨gc, fr, tk, rs, rd⟩⟩ := B
  obtain ⟨ho, hls, ⟨hT, htm⟩, ⟨hPg, hQ⟩, hLa, hSp, hM, hBa⟩ := id hW
  obtain ⟨md, emo, hm, hg, -⟩ := hq
  have emo : mo = some md := emo
  obtain ⟨tm0, inp, n, r, b1, b2, b3, b4, b5, b6⟩ := hb
  subst hC
  subst emo
  have hNl := htm.2.1
  have hPF := hI.1.1
  have hMb := maV_b hM
  obtain ⟨y, hy, hym, hmdm, hmy, har3, hbits⟩ := pgMo_in hPF hm
  have hmd : moW w md (R.2.2.2.2.1 md) := hPg.2.2.2.2.2.1 md hmdm
  obtain ⟨z0, z1, z2, z3, z4⟩ := id hBa
  have r1' : 60 * w.2.1 ≤ k1 + mPot1 M + 2 * (cN + cV + cC + cL + cR + cB + cE + cW) := r1
  have r2' : w.2.2 ≤ k2 + mPot2 M + 2 * (cN + cV + cC + cL + cR + cB + cE + cW) := r2
  have hbb : bbW w ((k1 + mPot1 M + 1) / 2) (k2 + mPot2 M) ((br, pg, t), (nd, va, ce, li), (ro, bi, le, wk)) (((cN, NN), (cV, VV), (cC, CC), (cL, LL)), ((cR, RR), (cB, BB), (cE, EE), (cW, WW)), (gc, fr, tk, rs, rd)) := ⟨z0, z1, z2, z3, z4, by omega, by omega⟩
  have hcnt := s_count (G := G) (d := d) (pv := fun q => ∃ y, pgP R q = some y) (inp := inp) (mi := m) hbb (by omega) (by omega) hT htm (by omega) hPg hQ (pF_bkF hPF) (pF_bkL hPF) hcp.2.1 (fun q hq => hq) (pF_pd hPF) (fun q hq => by
    obtain ⟨y', hy'⟩ := hq
    have := (hPF.1 q y' hy').2.1
    omega) (pF_CC hPF) (pF_A3 hPF) (pF_A hPF) hLa hmd hmy hy ⟨y, hy⟩ b4 (fun k v q => by rw [hNl]; exact b5 k v q) (Gd := gdR R) ⟨md, hm, hg⟩ b6
  have key := f_bb_new (G := G) (d := d) (P := fun n1 w1 => ∃ mm : Option Nat, n1 = oI mm ∧ (∀ m', mm = some m' → r.1 = 0 → mmNa r.2 = m') ∧ ∃ rec, bbW w1 ((k1 + mPot1 M + 1) / 2) (k2 + mPot2 M) ((br, pg, t), (nd, va, ce, li), (ro, bi, le, wk)) rec) ho ha hLa hbk z0 (zM_any hcnt (fun out w1 q => by
    obtain ⟨v, e1, mm, e2, e3, e4, e5⟩ := q
    exact ⟨v, e1, oI mm, e2, e5, mm, rfl, fun m' hm' h0 => e3 m' hm' tm0 n r b1 h0, e4⟩)) (fun n1 w1 q => by
    obtain ⟨mm, -, -, rec, hbb1⟩ := q
    obtain ⟨⟨⟨cN', NN'⟩, ⟨cV', VV'⟩, ⟨cC', CC'⟩, ⟨cL', LL'⟩⟩, ⟨⟨cR', RR'⟩, ⟨cB', BB'⟩, ⟨cE', EE'⟩, ⟨cW', WW'⟩⟩, ⟨gc', fr', tk', rs', rd'⟩⟩ := rec
    obtain ⟨-, -, -, -, ⟨⟨u1, u2, u3, u4⟩, u5, u6, u7, u8⟩, v1, v2⟩ := hbb1
    omega) hst0
  refine zM_any key (fun out w2 q => ?_)
  obtain ⟨n1, w1, f1, ⟨mm, e1, e2, rec, hbb1⟩, q⟩ := q
  obtain ⟨⟨⟨cN', NN'⟩, ⟨cV', VV'⟩, ⟨cC', CC'⟩, ⟨cL', LL'⟩⟩, ⟨⟨cR', RR'⟩, ⟨cB', BB'⟩, ⟨cE', EE'⟩, ⟨cW', WW'⟩⟩, ⟨gc', fr', tk', rs', rd'⟩⟩ := rec
  obtain ⟨w0, u1, u2, u3, u4, v1, v2⟩ := hbb1
  obtain ⟨wz, hwz⟩ : ∃ wz, wz = zput w1 la (8, 0, [zP (some md), zR lai, zR laa, zR lan, zI sc, zI cc, zI dc, zI en, zI 1, zI n1]) := ⟨_, rfl⟩
  rw [← hwz] at q
  have hLa1 := rpL_fr f1 (by decide) hLa
  have hla1 := hLa1.1
  have fz : zFr [8] w1 wz := by
    rw [hwz]
    exact zFr_put hla1 (by simp)
  have hsl : sp ≠ la := fun e => hls e.symm
  have hLz : rpL wz la lai laa lan (some md, (I, An, Nt), (sc, cc, dc, en, 1, n1)) := by
    obtain ⟨g0, ⟨g1, o1⟩, ⟨g2, o2⟩, ⟨g3, o3⟩⟩ := hLa1
    exact ⟨by rw [hwz]; exact zput_at, ⟨fz _ _ g1 (by simp), o1⟩, ⟨fz _ _ g2 (by simp), o2⟩, ⟨fz _ _ g3 (by simp), o3⟩⟩
  have hSz : rpL wz sp spi spa spn Sp := by
    rw [hwz]
    exact rpL_pt (rpL_fr f1 (by decide) hSp) hla1 hsl
  have hPz : whP wz o ((t, tc, tn, th, tz), pg, (mc, fa, ca, ta), ((la, lai, laa, lan), (sp, spi, spa, spn)), br, (nd, va, ce, li), (ro, bi, le, wk)) ((ty, C3), tm, R, (comp, asked, sum), (some md, (I, An, Nt), (sc, cc, dc, en, 1, n1))) (N, H, Sz) Sp M (((cN', NN'), (cV', VV'), (cC', CC'), (cL', LL')), ((cR', RR'), (cB', BB'), (cE', EE'), (cW', WW')), (gc', fr', tk', rs', rd')) :=
    ⟨fz _ _ (f1 _ _ ho (by simp)) (by simp), hls, ⟨tmW_fT fz (by decide) (tmW_fT f1 (by decide) hT), htm⟩, ⟨pgW_fr fz (by decide) (pgW_fr f1 (by decide) hPg), pgQ_fr fz (by decide) (pgQ_fr f1 (by decide) hQ)⟩, hLz, hSz, maV_fr fz (by decide) (maV_fr f1 (by decide) hM), baW_fr fz (by decide) ⟨w0, u1, u2, u3, u4⟩⟩
  have sz : zSc w wz := zSc_tr (zSc_fr f1 (by decide)) (zSc_fr fz (by decide))
  have ez : wz.2 = w1.2 := by rw [hwz]; rfl
  have hn1 : n1 = -1 ∨ 0 ≤ n1 := by
    rcases oI_r (mm := mm) with ⟨e, -⟩ | ⟨x, -, e⟩ <;> rw [e1, e]
    · exact Or.inl rfl
    · exact Or.inr (Int.natCast_nonneg x)
  have hn2 : en = 101 → n1 = -1 ∨ n1 = (An.length : Int) := fun he => by
    rcases oI_r (mm := mm) with ⟨e, -⟩ | ⟨x, ex, e⟩
    · rw [e1, e]
      exact Or.inl rfl
    · right
      rw [e1, e]
      have k1 := e2 x ex (b2 he)
      have b3 : mmNa r.2 = An.length := b3
      omega
  refine ⟨if n1 = -1 then .inr 3 else .inl n1, ((ty, C3), tm, R, (comp, asked, sum), (some md, (I, An, Nt), (sc, cc, dc, en, 1, n1))), ⟨n1, rfl, hn1, hn2, rfl⟩, ?_⟩
  rcases q with ⟨c1, c2, c3⟩ | ⟨c1, c2, c3, c4, c5, c6, c7⟩
  · rw [if_neg c1]
    refine ⟨⟨⟨_, (N, H, Sz), Sp, M, _, (by rw [c3]; exact hPz), ?_, ?_⟩, by rw [c3]; exact sz⟩, c2⟩
    · rw [c3, ez]
      show 60 * w1.2.1 ≤ k1 + 120 + mPot1 M + 2 * (cN' + cV' + cC' + cL' + cR' + cB' + cE' + cW')
      omega
    · rw [c3, ez]
      show w1.2.2 ≤ k2 + 10 + mPot2 M + 2 * (cN' + cV' + cC' + cL' + cR' + cB' + cE' + cW')
      omega
  · rw [if_pos c1]
    obtain ⟨m2, s1, s2⟩ := w2
    have c3 : m2 = wz.1 := c3
    subst c3
    refine ⟨⟨⟨_, (N, H, Sz), Sp, M, _, whP_w1 hPz, ?_, ?_⟩, fun a ob x1 x2 => sz a ob x1 x2⟩, by decide, c2⟩
    · show 60 * s1 ≤ k1 + 120 + mPot1 M + 2 * (cN' + cV' + cC' + cL' + cR' + cB' + cE' + cW')
      have c5 : s1 ≤ w1.2.1 + 1 := c5
      omega
    · show s2 ≤ k2 + 10 + mPot2 M + 2 * (cN' + cV' + cC' + cL' + cR' + cB' + cE' + cW')
      have c7 : s2 ≤ w1.2.2 + 6 := c7
      omega
end BBN
