/-! Own rows: what a change in one part of the object leaves of the others. By hand. -/
/-- the tags of all but the program's -/
abbrev TX : List Nat := [0, 2, 4, 8, 10, 11, 104, 120, 130, 131, 132, 135, 136, 137, 138, 139, 140, 141, 142, 143, 144, 145, 146, 147, 166]
section FR
variable {T : List Nat} {w w' : zW}
theorem zFr_kp {o oo : Nat} {fs : List zV} (f : zKp o w w') (ho : w.1 o = some (11, oo, fs)) : zFr [11] w w' := fun a ob h hn => f a ob (fun e => hn (by rw [e, ho] at h; cases h; exact List.mem_cons_self)) h
theorem tmW_fT (f : zFr T w w') (hT : ∀ x, x ∈ [10, 120, 130, 131, 132] → x ∉ T) {t tc tn th tz : Nat} {ty : Int} {C N H : List (List Int)} {S : List Int} (h : tmW w t tc tn th tz ty C N H S) : tmW w' t tc tn th tz ty C N H S := by
  obtain ⟨h0, ⟨h1, o1⟩, ⟨h2, o2⟩, ⟨h3, o3⟩, h4, h5⟩ := h
  exact ⟨f _ _ h0 (hT _ (by simp)), ⟨f _ _ h1 (hT _ (by simp)), o1⟩, ⟨f _ _ h2 (hT _ (by simp)), o2⟩, ⟨f _ _ h3 (hT _ (by simp)), o3⟩, f _ _ h4 (hT _ (by simp)), h5⟩
theorem rpL_fr (f : zFr T w w') (hT : ∀ x, x ∈ [8, 135, 136, 137] → x ∉ T) {r ti ta tn : Nat} {La : whL} (h : rpL w r ti ta tn La) : rpL w' r ti ta tn La := by
  obtain ⟨mo, ⟨I, A, N⟩, ⟨sc, cc, dc, en, bk, bc⟩⟩ := La
  obtain ⟨h0, ⟨h1, o1⟩, ⟨h2, o2⟩, ⟨h3, o3⟩⟩ := h
  exact ⟨f _ _ h0 (hT _ (by simp)), ⟨f _ _ h1 (hT _ (by simp)), o1⟩, ⟨f _ _ h2 (hT _ (by simp)), o2⟩, ⟨f _ _ h3 (hT _ (by simp)), o3⟩⟩
theorem maV_fr (f : zFr T w w') (hT : ∀ x, x ∈ [2, 4, 104, 138, 139, 166] → x ∉ T) {mc fa ca ta t : Nat} {M : maR} (h : maV w mc fa ca ta t M) : maV w' mc fa ca ta t M := by
  obtain ⟨⟨r0, cap, Fs, fm⟩, ⟨cc, CH⟩, ⟨ct, TR⟩, ⟨us, cu, pl, de⟩, ⟨fl, ov, fu⟩⟩ := M
  obtain ⟨⟨h0, h1, ⟨h2, o2⟩, ⟨h3, o3⟩, h4, h5⟩, h6⟩ := h
  refine ⟨⟨f _ _ h0 (hT _ (by simp)), f _ _ h1 (hT _ (by simp)), ⟨f _ _ h2 (hT _ (by simp)), o2⟩, ⟨f _ _ h3 (hT _ (by simp)), o3⟩, fun i y hy => ?_, h5⟩, h6⟩
  obtain ⟨a1, a2, a3⟩ := h4 i y hy
  exact ⟨f _ _ a1 (hT _ (by simp)), f _ _ a2 (hT _ (by simp)), a3⟩
theorem baW_fr (f : zFr T w w') (hT : ∀ x, x ∈ [0, 140, 141, 142, 143, 144, 145, 146, 147] → x ∉ T) {K : bbK} {B : bbR} (h : baW w K B) : baW w' K B := by
  obtain ⟨⟨br, pg, t⟩, ⟨nd, va, ce, li⟩, ⟨ro, bi, le, wk⟩⟩ := K
  obtain ⟨⟨⟨cN, NN⟩, ⟨cV, VV⟩, ⟨cC, CC⟩, ⟨cL, LL⟩⟩, ⟨⟨cR, RR⟩, ⟨cB, BB⟩, ⟨cE, EE⟩, ⟨cW, WW⟩⟩, ⟨gc, fr, tk, rs, rd⟩⟩ := B
  obtain ⟨h0, ⟨⟨a1, b1⟩, ⟨a2, b2⟩, ⟨a3, b3⟩, ⟨a4, b4⟩⟩, ⟨⟨a5, b5⟩, ⟨a6, b6⟩, ⟨a7, b7⟩, ⟨a8, b8⟩⟩, h3⟩ := h
  exact ⟨f _ _ h0 (hT _ (by simp)), ⟨⟨f _ _ a1 (hT _ (by simp)), b1⟩, ⟨f _ _ a2 (hT _ (by simp)), b2⟩, ⟨f _ _ a3 (hT _ (by simp)), b3⟩, ⟨f _ _ a4 (hT _ (by simp)), b4⟩⟩, ⟨⟨f _ _ a5 (hT _ (by simp)), b5⟩, ⟨f _ _ a6 (hT _ (by simp)), b6⟩, ⟨f _ _ a7 (hT _ (by simp)), b7⟩, ⟨f _ _ a8 (hT _ (by simp)), b8⟩⟩, h3⟩
theorem pgQ_fr (f : zFr T w w') (hT : ∀ x, x ∈ [3, 100] → x ∉ T) {R : pgR} (h : pgQ w R) : pgQ w' R := fun y hy => by
  obtain ⟨v, ⟨h1, h2, h3⟩, h4⟩ := h y hy
  exact ⟨v, ⟨f _ _ h1 (hT _ (by simp)), f _ _ h2 (hT _ (by simp)), h3⟩, h4⟩
theorem pgW_fr (f : zFr T w w') (hT : ∀ x, x ∈ [1, 3, 5, 6, 7, 100, 101, 102, 103, 125, 126, 133, 134, 160, 161, 162, 163, 164, 165] → x ∉ T) {pg : Nat} {R : pgR} (h : pgW w pg R) : pgW w' pg R := by
  obtain ⟨hpg, hps, hms, hcs, hPr, hMo, hCl⟩ := h
  refine ⟨f _ _ hpg (hT _ (by simp)), f _ _ hps (hT _ (by simp)), f _ _ hms (hT _ (by simp)), f _ _ hcs (hT _ (by simp)), fun z hz => ?_, fun z hz => f _ _ (hMo z hz) (hT _ (by simp)), fun z hz => ?_⟩
  · obtain ⟨⟨a1, ⟨a2, a3⟩, a4, a5⟩, b⟩ := hPr z hz
    exact ⟨⟨f _ _ a1 (hT _ (by simp)), ⟨f _ _ a2 (hT _ (by simp)), a3⟩, f _ _ a4 (hT _ (by simp)), f _ _ a5 (hT _ (by simp))⟩, b⟩
  · obtain ⟨⟨a0, ⟨a1, a2⟩, a3, ⟨a4, a5⟩, ⟨a6, a7⟩, ⟨a8, a9⟩, ⟨a10, a11⟩, ⟨a12, a13⟩⟩, b⟩ := hCl z hz
    refine ⟨⟨f _ _ a0 (hT _ (by simp)), ⟨f _ _ a1 (hT _ (by simp)), a2⟩, f _ _ a3 (hT _ (by simp)), ⟨f _ _ a4 (hT _ (by simp)), a5⟩, ⟨f _ _ a6 (hT _ (by simp)), a7⟩, ⟨f _ _ a8 (hT _ (by simp)), a9⟩, ⟨f _ _ a10 (hT _ (by simp)), a11⟩, ⟨f _ _ a12 (hT _ (by simp)), a13⟩⟩, fun x hx => ?_⟩
    obtain ⟨g1, g2, g3⟩ := b x hx
    exact ⟨f _ _ g1 (hT _ (by simp)), f _ _ g2 (hT _ (by simp)), g3⟩
theorem nin_le {L L' : List Nat} (h : ∀ x, x ∈ L → x ∉ T) (k : ∀ x, x ∈ L' → x ∈ L) : ∀ x, x ∈ L' → x ∉ T := fun x hx => h x (k x hx)
/-- the program has changed -/
theorem whP_pg {o : Nat} {A : whA} {N0 : List (List Int) × List (List Int) × List Int} {Sp : whL} {M : maR} {B : bbR} {tt : Int × List (List Int)} {tm : List smG} {R R' : pgR} {fl : Int × Int × Int} {La : whL} (f : zFr T w w') (hT : ∀ x, x ∈ TX → x ∉ T) (h : whP w o A (tt, tm, R, fl, La) N0 Sp M B) (hP : pgW w' A.2.1 R') (hQ : pgQ w' R') : whP w' o A (tt, tm, R', fl, La) N0 Sp M B := by
  obtain ⟨⟨t, tc, tn, th, tz⟩, pg, ⟨mc, fa, ca, ta⟩, ⟨⟨la, lai, laa, lan⟩, ⟨sp, spi, spa, spn⟩⟩, br, ⟨nd, va, ce, li⟩, ⟨ro, bi, le, wk⟩⟩ := A
  obtain ⟨ty, C⟩ := tt
  obtain ⟨comp, asked, sum⟩ := fl
  obtain ⟨N, H, Sz⟩ := N0
  obtain ⟨h1, h2, ⟨h3, h4⟩, -, h5, h6, h7, h8⟩ := h
  exact ⟨f _ _ h1 (hT _ (by simp)), h2, ⟨tmW_fT f (nin_le hT (by simp)) h3, h4⟩, ⟨hP, hQ⟩, rpL_fr f (nin_le hT (by simp)) h5, rpL_fr f (nin_le hT (by simp)) h6, maV_fr f (nin_le hT (by simp)) h7, baW_fr f (nin_le hT (by simp)) h8⟩
/-- the flags have changed -/
theorem whP_ob {o t tc tn th tz pg mc fa ca ta la lai laa lan sp spi spa spn br nd va ce li ro bi le wk : Nat} {N0 : List (List Int) × List (List Int) × List Int} {Sp : whL} {M : maR} {B : bbR} {tt : Int × List (List Int)} {tm : List smG} {R : pgR} {fl : Int × Int × Int} {c1 c2 c3 : Int} {La : whL} (f : zFr [11] w w') (h : whP w o ((t, tc, tn, th, tz), pg, (mc, fa, ca, ta), ((la, lai, laa, lan), (sp, spi, spa, spn)), br, (nd, va, ce, li), (ro, bi, le, wk)) (tt, tm, R, fl, La) N0 Sp M B) (ho : w'.1 o = some (11, 0, [zR t, zR pg, zR mc, zR br, zR la, zR sp, zI c1, zI c2, zJ c3])) : whP w' o ((t, tc, tn, th, tz), pg, (mc, fa, ca, ta), ((la, lai, laa, lan), (sp, spi, spa, spn)), br, (nd, va, ce, li), (ro, bi, le, wk)) (tt, tm, R, (c1, c2, c3), La) N0 Sp M B := by
  obtain ⟨ty, C⟩ := tt
  obtain ⟨comp, asked, sum⟩ := fl
  obtain ⟨N, H, Sz⟩ := N0
  obtain ⟨h1, h2, ⟨h3, h4⟩, ⟨h9, h10⟩, h5, h6, h7, h8⟩ := h
  exact ⟨ho, h2, ⟨tmW_fT f (by decide) h3, h4⟩, ⟨pgW_fr f (by decide) h9, pgQ_fr f (by decide) h10⟩, rpL_fr f (by decide) h5, rpL_fr f (by decide) h6, maV_fr f (by decide) h7, baW_fr f (by decide) h8⟩
/-- the terms have changed -/
theorem whP_tm {o t tc tn th tz pg mc fa ca ta la lai laa lan sp spi spa spn br nd va ce li ro bi le wk : Nat} {N0 : List (List Int) × List (List Int) × List Int} {N H : List (List Int)} {Sz : List Int} {Sp : whL} {M : maR} {B : bbR} {tt : Int × List (List Int)} {ty : Int} {C : List (List Int)} {tm tm' : List smG} {R : pgR} {fl : Int × Int × Int} {La : whL} (f : zFr [10, 120, 130, 131, 132] w w') (h : whP w o ((t, tc, tn, th, tz), pg, (mc, fa, ca, ta), ((la, lai, laa, lan), (sp, spi, spa, spn)), br, (nd, va, ce, li), (ro, bi, le, wk)) (tt, tm, R, fl, La) N0 Sp M B) (hW : tmW w' t tc tn th tz ty C N H Sz) (hR : tmR N H Sz tm') : whP w' o ((t, tc, tn, th, tz), pg, (mc, fa, ca, ta), ((la, lai, laa, lan), (sp, spi, spa, spn)), br, (nd, va, ce, li), (ro, bi, le, wk)) ((ty, C), tm', R, fl, La) (N, H, Sz) Sp M B := by
  obtain ⟨ty0, C0⟩ := tt
  obtain ⟨comp, asked, sum⟩ := fl
  obtain ⟨N0, H0, Sz0⟩ := N0
  obtain ⟨h1, h2, -, ⟨h9, h10⟩, h5, h6, h7, h8⟩ := h
  exact ⟨f _ _ h1 (by simp), h2, ⟨hW, hR⟩, ⟨pgW_fr f (by decide) h9, pgQ_fr f (by decide) h10⟩, rpL_fr f (by decide) h5, rpL_fr f (by decide) h6, maV_fr f (by decide) h7, baW_fr f (by decide) h8⟩
end FR
/-- what a contract asks holds of its world -/
theorem zM_ok {G : zG} {M : zMd} {d : Nat} {av : List zV} {w : zW} {Q : zQ} (k : zOk w → zM G M d av w Q) : zM G M d av w Q := by
  intro hf p e ha hc hk s m args below hb hap hP hK
  refine k (fun a ob hab => ?_) hf p e ha hc hk s m args below hb hap hP hK
  have h1 := (hP.2.1.2.2.2.2 a ob hab).2
  rw [hP.2.1.1] at h1
  exact h1
