/-! Own rows: ask at the level of the object. By hand. -/
/-- what a report's beginning leaves -/
abbrev rpP (sp a : Nat) (ob : zO) : Prop := ob.1 ∉ [8, 135, 136, 137] ∨ (ob.1 = 8 ∧ a ≠ sp) ∨ (ob.1 ≠ 8 ∧ ob.2.1 ≠ sp)
def rpF (sp : Nat) (w w' : zW) : Prop := ∀ a ob, w.1 a = some ob → rpP sp a ob → w'.1 a = some ob
theorem rpF_fr {sp : Nat} {w w' : zW} (f : rpF sp w w') : zFr [8, 135, 136, 137] w w' := fun a ob ha hn => f a ob ha (Or.inl hn)
section BG
variable {w : zW} {sp spi spa spn : Nat} {g1 g2 g3 g4 f1 f2 f3 f4 : List zV}
theorem bg_w (h0 : w.1 sp = some (8, 0, g1)) (h1 : w.1 spi = some (135, sp, g2)) (h2 : w.1 spa = some (136, sp, g3)) (h3 : w.1 spn = some (137, sp, g4)) (w1 : zW) (hw1 : w1 = zput (zput (zput (zput w sp (8, 0, f1)) spi (135, sp, f2)) spa (136, sp, f3)) spn (137, sp, f4)) : rpF sp w w1 ∧ (w1.1 sp = some (8, 0, f1) ∧ w1.1 spi = some (135, sp, f2) ∧ w1.1 spa = some (136, sp, f3) ∧ w1.1 spn = some (137, sp, f4)) ∧ w1.2 = w.2 := by
  subst hw1
  have a1 := zput_tg (ob := (8, 0, f1)) h0 h1 (by simp)
  have a2 := zput_tg (ob := (8, 0, f1)) h0 h2 (by simp)
  have a3 := zput_tg (ob := (8, 0, f1)) h0 h3 (by simp)
  have a0 : (zput w sp (8, 0, f1)).1 sp = some (8, 0, f1) := zput_at
  have b0 := zput_tg (ob := (135, sp, f2)) a1 a0 (by simp)
  have b2 := zput_tg (ob := (135, sp, f2)) a1 a2 (by simp)
  have b3 := zput_tg (ob := (135, sp, f2)) a1 a3 (by simp)
  have b1 : (zput (zput w sp (8, 0, f1)) spi (135, sp, f2)).1 spi = some (135, sp, f2) := zput_at
  have c0 := zput_tg (ob := (136, sp, f3)) b2 b0 (by simp)
  have c1 := zput_tg (ob := (136, sp, f3)) b2 b1 (by simp)
  have c3 := zput_tg (ob := (136, sp, f3)) b2 b3 (by simp)
  have c2 : (zput (zput (zput w sp (8, 0, f1)) spi (135, sp, f2)) spa (136, sp, f3)).1 spa = some (136, sp, f3) := zput_at
  have d0 := zput_tg (ob := (137, sp, f4)) c3 c0 (by simp)
  have d1 := zput_tg (ob := (137, sp, f4)) c3 c1 (by simp)
  have d2 := zput_tg (ob := (137, sp, f4)) c3 c2 (by simp)
  refine ⟨fun a ob ha hc => ?_, ⟨d0, d1, d2, zput_at⟩, rfl⟩
  have n0 : a ≠ sp := fun e => by
    rw [e, h0] at ha
    cases ha
    rcases hc with k | k | k
    · exact k (by simp)
    · exact k.2 e
    · exact k.1 rfl
  have n1 : a ≠ spi := fun e => by
    rw [e, h1] at ha
    cases ha
    rcases hc with k | k | k
    · exact k (by simp)
    · exact absurd k.1 (by show ¬ (135 = 8); decide)
    · exact k.2 rfl
  have n2 : a ≠ spa := fun e => by
    rw [e, h2] at ha
    cases ha
    rcases hc with k | k | k
    · exact k (by simp)
    · exact absurd k.1 (by show ¬ (136 = 8); decide)
    · exact k.2 rfl
  have n3 : a ≠ spn := fun e => by
    rw [e, h3] at ha
    cases ha
    rcases hc with k | k | k
    · exact k (by simp)
    · exact absurd k.1 (by show ¬ (137 = 8); decide)
    · exact k.2 rfl
  exact zput_to n3 (zput_to n2 (zput_to n1 (zput_to n0 ha)))
end BG
theorem rpL_rp {w w' : zW} {sp la lai laa lan : Nat} {La : whL} (f : rpF sp w w') (hn : la ≠ sp) (h : rpL w la lai laa lan La) : rpL w' la lai laa lan La := by
  obtain ⟨mo, ⟨I, A, N⟩, ⟨sc, cc, dc, en, bk, bc⟩⟩ := La
  obtain ⟨h0, ⟨h1, o1⟩, ⟨h2, o2⟩, ⟨h3, o3⟩⟩ := h
  exact ⟨f _ _ h0 (Or.inr (Or.inl ⟨rfl, hn⟩)), ⟨f _ _ h1 (Or.inr (Or.inr ⟨by show ¬ (135 = 8); decide, hn⟩)), o1⟩, ⟨f _ _ h2 (Or.inr (Or.inr ⟨by show ¬ (136 = 8); decide, hn⟩)), o2⟩, ⟨f _ _ h3 (Or.inr (Or.inr ⟨by show ¬ (137 = 8); decide, hn⟩)), o3⟩⟩
theorem rpL_mc {w w' : zW} {sp la lai laa lan : Nat} {La : whL} (f : mcF sp w w') (hn : la ≠ sp) (h : rpL w la lai laa lan La) : rpL w' la lai laa lan La := by
  obtain ⟨mo, ⟨I, A, N⟩, ⟨sc, cc, dc, en, bk, bc⟩⟩ := La
  obtain ⟨h0, ⟨h1, o1⟩, ⟨h2, o2⟩, ⟨h3, o3⟩⟩ := h
  exact ⟨f _ _ h0 (Or.inr (Or.inl ⟨rfl, hn⟩)), ⟨f _ _ h1 (Or.inl (by simp)), o1⟩, ⟨f _ _ h2 (Or.inr (Or.inr ⟨Or.inl rfl, hn⟩)), o2⟩, ⟨f _ _ h3 (Or.inr (Or.inr ⟨Or.inr rfl, hn⟩)), o3⟩⟩
/-- what a question tells -/
def askQ (S : whS) (p m : Nat) (r : Int ⊕ Nat) (S' : whS) : Prop := (∃ (n : Nat) (tm' : List smG) (La' : whL), r = .inl (n : Int) ∧ S.2.2.2.1.1 ≠ 0 ∧ S' = (S.1, tm', S.2.2.1, (S.2.2.2.1.1, S.2.2.2.1.2.1 + 1, S.2.2.2.1.2.2 + La'.2.2.1), La') ∧ (∃ t, tm' = S.2.1 ++ t) ∧ tm'.length ≤ 200 ∧ qsF S.2.2.1 La' p m ∧ bdF S.2.2.1 tm' La' p m ∧ La'.2.1.2.1.length = n ∧ La'.2.2.2.2.2.2.1 = 0) ∨ (∃ i, i < 5 ∧ r = .inr i ∧ S' = S)
section ASK
variable {G : zG} {d : Nat} {w : zW} {o k1 k2 : Nat} {ty : Int} {C : List (List Int)} {tm : List smG} {R : pgR} {comp asked sum : Int} {La : whL}
theorem ask_x {S : whS} {p m i : Nat} (h : whW w o k1 k2 S) (hi : i < 5) : ∀ out w', zXw i w out w' → fwQ w o (k1 + 60) (k2 + 6) (askQ S p m) out w' := fun out w' q => ⟨.inr i, S, Or.inr ⟨i, hi, rfl, rfl⟩, ⟨whW_x (i := i) h ⟨rfl, q.2⟩, zSc_eq q.2.1⟩, hi, q.1⟩
theorem w_ask (h : whW w o k1 k2 ((ty, C), tm, R, (comp, asked, sum), La)) (hst0 : G.1.stackTraces = false) (hk1 : k1 + 6000000 ≤ 60 * G.2.2.2.2.1) (hk2 : k2 + 6830000 ≤ G.2.2.2.2.2) (hC : C = C3) (hI : lwT R) (hcp : comp ≠ 0 → cpF R) (ha0 : 0 ≤ asked ∧ asked < 1000) (hs0 : 0 ≤ sum ∧ sum < 1000000) (p m : Nat) (f s : Int) (hf : 0 ≤ f ∧ f < (tm.length : Int)) (hs : 0 ≤ s ∧ s < (tm.length : Int)) : zM G zm_X11_ask (d + 10) [zR o, zI (p : Int), zI (m : Int), zI f, zI s, zI 0] w (fwQ w o (k1 + 60) (k2 + 6) (askQ ((ty, C), tm, R, (comp, asked, sum), La) p m)) := by
  have hr := whW_room h hk1 hk2
  obtain ⟨A, T, Sp, M, B, hW, r1, r2⟩ := id h
  obtain ⟨⟨t, tc, tn, th, tz⟩, pg, ⟨mc, fa, ca, ta⟩, ⟨⟨la, lai, laa, lan⟩, ⟨sp, spi, spa, spn⟩⟩, br, ⟨nd, va, ce, li⟩, ⟨ro, bi, le, wk⟩⟩ := A
  obtain ⟨N, H, Sz⟩ := T
  obtain ⟨mo9, ⟨I9, A9, N9⟩, ⟨sc9, cc9, dc9, en9, bk9, bc9⟩⟩ := Sp
  obtain ⟨⟨r0, cap, Fs, fm⟩, ⟨cc, CH⟩, ⟨ct, TR⟩, ⟨us, cu, pl, de⟩, ⟨fl, ov, fu⟩⟩ := M
  obtain ⟨ho, hls, ⟨hT, htm⟩, ⟨hPg, hQ⟩, hLa, hSp, hM, hBa⟩ := id hW
  have hsl : sp ≠ la := fun e => hls e.symm
  have hbB := baW_b hBa
  subst hC
  have hNl := htm.2.1
  have hPF := hI.1.1
  cases hm : pgMo R p m with
  | none => exact zM_any (f_ak_x0 (d := d) ho hPg (p : Int) (m : Int) f s 0 (by rw [mdAt_pm]; exact hm) hst0 (by omega) (by omega)) (ask_x h (by decide))
  | some md =>
    have hmA : mdAt R (p : Int) (m : Int) = some md := by rw [mdAt_pm]; exact hm
    obtain ⟨y, hy, hym, hmdm, hmy, har3, hbits⟩ := pgMo_in hPF hm
    have hmd : moW w md (R.2.2.2.2.1 md) := hPg.2.2.2.2.2.1 md hmdm
    have hpr : prW w (R.2.2.2.2.1 md).1 (R.2.2.2.1 y) := by rw [hmy]; exact (hPg.2.2.2.2.1 y hym).1
    have hpk : ∀ k : Int, 0 ≤ pk k f s 0 ∧ pk k f s 0 < (tm.length : Int) := fun k => by
      unfold pk
      split
      · exact hf
      · split
        · exact hs
        · omega
    have hai := f_ai (G := G) (d := d + 6) ho hT hmd hpr f s 0 ⟨Or.inr (zB_nz.mpr (by rw [hNl]; exact hpk 0)), Or.inr (zB_nz.mpr (by rw [hNl]; exact hpk 1)), Or.inr (zB_nz.mpr (by rw [hNl]; exact hpk 2))⟩
    have hpt := (pr_0 hI.1 hym).2
    have htyk : ∀ v : Nat, v < 8 → zand (zshr (R.2.2.2.2.1 md).2.2.1 (v : Int)) 1 = 1 → tg C3 (tg N (pk (v : Int) f s 0) 0) 0 = tg (R.2.2.2.1 y).2.1 (v : Int) 0 := fun v hv c => by
      rw [hd_0 htm (hpk (v : Int)), hpt v, if_pos (hbits v (by omega) ((bt_bI hv).mp c))]
    have hty : (zB (0 ≤ (0 : Int) ∧ (0 : Int) < 3 ∧ zand (zshr (R.2.2.2.2.1 md).2.2.1 (0 : Int)) 1 = 1) = 0 ∨ tg C3 (tg N (pk 0 f s 0) 0) 0 = tg (R.2.2.2.1 y).2.1 0 0) ∧ (zB (0 ≤ (1 : Int) ∧ (1 : Int) < 3 ∧ zand (zshr (R.2.2.2.2.1 md).2.2.1 (1 : Int)) 1 = 1) = 0 ∨ tg C3 (tg N (pk 1 f s 0) 0) 0 = tg (R.2.2.2.1 y).2.1 1 0) ∧ (zB (0 ≤ (2 : Int) ∧ (2 : Int) < 3 ∧ zand (zshr (R.2.2.2.2.1 md).2.2.1 (2 : Int)) 1 = 1) = 0 ∨ tg C3 (tg N (pk 2 f s 0) 0) 0 = tg (R.2.2.2.1 y).2.1 2 0) := by
      refine ⟨?_, ?_, ?_⟩
      · by_cases c : zand (zshr (R.2.2.2.2.1 md).2.2.1 (0 : Int)) 1 = 1
        · exact Or.inr (htyk 0 (by decide) c)
        · exact Or.inl (zB_f (fun q => c q.2.2))
      · by_cases c : zand (zshr (R.2.2.2.2.1 md).2.2.1 (1 : Int)) 1 = 1
        · exact Or.inr (htyk 1 (by decide) c)
        · exact Or.inl (zB_f (fun q => c q.2.2))
      · by_cases c : zand (zshr (R.2.2.2.2.1 md).2.2.1 (2 : Int)) 1 = 1
        · exact Or.inr (htyk 2 (by decide) c)
        · exact Or.inl (zB_f (fun q => c q.2.2))
    by_cases hft : (¬ zB (0 ≤ (0 : Int) ∧ (0 : Int) < 3 ∧ zand (zshr (R.2.2.2.2.1 md).2.2.1 (0 : Int)) 1 = 1) = 0 ∨ pk 0 f s 0 = 0) ∧ (¬ zB (0 ≤ (1 : Int) ∧ (1 : Int) < 3 ∧ zand (zshr (R.2.2.2.2.1 md).2.2.1 (1 : Int)) 1 = 1) = 0 ∨ pk 1 f s 0 = 0) ∧ (¬ zB (0 ≤ (2 : Int) ∧ (2 : Int) < 3 ∧ zand (zshr (R.2.2.2.2.1 md).2.2.1 (2 : Int)) 1 = 1) = 0 ∨ pk 2 f s 0 = 0)
    · have hdf := f_df_t (G := G) (d := d + 6) ho hT hmd hpr f s 0 hty hft
      by_cases hc : comp = 0
      · exact zM_any (f_ak_x2 (d := d) ho hPg (p : Int) (m : Int) f s 0 hmA hmd hai hdf hc hst0 (by omega) (by omega)) (ask_x h (by decide))
      · obtain ⟨Iq, hIq⟩ : ∃ Iq, Iq = [[rpIn (R.2.2.2.2.1 md).2.2.1 f s 0 0], [rpIn (R.2.2.2.2.1 md).2.2.1 f s 0 1], [rpIn (R.2.2.2.2.1 md).2.2.1 f s 0 2]] := ⟨_, rfl⟩
        have okIq : tOk 1 Iq := by
          rw [hIq]
          exact ⟨by decide, fun x hx => by
            simp only [List.mem_cons, List.not_mem_nil, or_false] at hx
            rcases hx with e | e | e <;> rw [e] <;> rfl⟩
        obtain ⟨w1, hw1⟩ : ∃ w1, w1 = zput (zput (zput (zput w sp (8, 0, [zR md, zR spi, zR spa, zR spn, zI 0, zI 0, zI 0, zI 101, zI 0, zI (-1)])) spi (135, sp, tTb 1 3 Iq)) spa (136, sp, tTb 3 150 [])) spn (137, sp, tTb 2 160 []) := ⟨_, rfl⟩
        obtain ⟨fA, ⟨x1, x2, x3, x4⟩, eA⟩ := bg_w hSp.1 hSp.2.1.1 hSp.2.2.1.1 hSp.2.2.2.1 w1 hw1
        have hbg := c_X8_begin (G := G) (d := d + 6) hmd hSp f s 0
        rw [← hIq, ← hw1] at hbg
        have f8 := rpF_fr fA
        have ho1 := f8 _ _ ho (by simp)
        have hPg1 := pgW_fr f8 (by decide) hPg
        have hQ1 := pgQ_fr f8 (by decide) hQ
        have hT1 := tmW_fT f8 (by decide) hT
        have hM1 := maV_fr f8 (by decide) hM
        have hBa1 := baW_fr f8 (by decide) hBa
        have hLa1 := rpL_rp fA hls hLa
        have hmd1 : moW w1 md (R.2.2.2.2.1 md) := hPg1.2.2.2.2.2.1 md hmdm
        have hSp1 : rpL w1 sp spi spa spn (some md, (Iq, [], []), (0, 0, 0, 101, 0, -1)) := ⟨x1, ⟨x2, okIq⟩, ⟨x3, tOk_nil (by decide)⟩, ⟨x4, tOk_nil (by decide)⟩⟩
        have sA : zSc w w1 := zSc_fr f8 (by decide)
        have hW1 : whW w1 o k1 k2 ((ty, C3), tm, R, (comp, asked, sum), La) := ⟨((t, tc, tn, th, tz), pg, (mc, fa, ca, ta), ((la, lai, laa, lan), (sp, spi, spa, spn)), br, (nd, va, ce, li), (ro, bi, le, wk)), (N, H, Sz), (some md, (Iq, [], []), (0, 0, 0, 101, 0, -1)), ((r0, cap, Fs, fm), (cc, CH), (ct, TR), (us, cu, pl, de), (fl, ov, fu)), B, ⟨ho1, hls, ⟨hT1, htm⟩, ⟨hPg1, hQ1⟩, hLa1, hSp1, hM1, hBa1⟩, by rw [eA]; exact r1, by rw [eA]; exact r2⟩
        have hr1 := whW_room hW1 hk1 hk2
        by_cases hg : (R.2.2.2.2.1 md).2.2.2.2.2.1 = 0
        · refine zM_any (f_ak_x3 (d := d) ho hPg (p : Int) (m : Int) f s 0 hmA hmd hai hdf hc hSp.1 hbg ho1 hmd1 hg hst0 (by omega) (by omega)) (fun out w' q => ?_)
          exact ⟨.inr 3, _, Or.inr ⟨3, by decide, rfl, rfl⟩, ⟨whW_x (i := 3) hW1 ⟨rfl, q.2⟩, zSc_tr sA (zSc_eq q.2.1)⟩, by decide, q.1⟩
        · have hcpR := hcp hc
          obtain ⟨hM1a, hM1b⟩ := id hM1
          obtain ⟨y1, y2, y3, y4, y5, y6, y7⟩ := hM1a
          have hl := ip_lt (ins := (R.2.2.2.2.1 md).2.2.1) hf hs (show 0 ≤ (0 : Int) ∧ (0 : Int) < (tm.length : Int) by omega)
          have hoi := ip_in (R := R) hl hm rfl
          have hvl : ∀ k g, inV tm (ipF (R.2.2.2.2.1 md).2.2.1 f s 0) k = some g → vlG g := fun k g q => by
            unfold inV at q
            cases hv : ipF (R.2.2.2.2.1 md).2.2.1 f s 0 k with
            | none => rw [hv] at q; cases q
            | some v =>
              rw [hv] at q
              exact (htm.2.2.2.2.2 v g q).1
          have r1' : 60 * w.2.1 ≤ k1 + (180 * Fs.length + cc + ct) + 2 * bPot B := r1
          have r2' : w.2.2 ≤ k2 + (1000 * Fs.length + 2 * cc + 2 * ct) + 2 * bPot B := r2
          have hmcB : mcB w1 (k1 + 2 * bPot B) (k2 + 2 * bPot B) r0 ((mc, fa, ca, ta), (t, tc, tn, th, tz), (sp, spi, spa, spn), (ty, C3), (some md, Iq, 0, -1)) (((cap, Fs), fm), (cc, CH), (ct, TR), (us, cu, pl, de), (fl, ov, fu), (N, H, Sz), ([], [], 0, 0, 0, 101)) := ⟨y1, y2, y3, y4, y5, hT1, hSp1, y6, y7, by rw [eA]; omega, by rw [eA]; omega⟩
          have hrun := s_run (G := G) (d := d) hPg1 hcpR.2.2.1 rfl hcpR.2.1 (pC_o5 hI.1.2.1) (pC_12 hPF) (pF_A3 hPF) hmcB htm (by omega) (by omega) hM1b (p := p) (m := m) (md0 := md) ⟨md, hm, hg⟩ hm (o := inV tm (ipF (R.2.2.2.2.1 md).2.2.1 f s 0)) (fun k hk => by rw [hIq]; exact ip_tv hf.1 hs.1 (Int.le_refl 0) hl k hk) (fun k hk => by unfold inV ipF; rw [if_neg (fun q => by omega)]; rfl) hoi
          obtain ⟨K, hK⟩ : ∃ K : mcK, K = ((mc, fa, ca, ta), (t, tc, tn, th, tz), (sp, spi, spa, spn), (ty, C3), (some md, Iq, 0, -1)) := ⟨_, rfl⟩
          rw [← hK] at hrun
          refine f_ak_A (G := G) (d := d) (P1 := fun w2 => ∃ (n : Nat) (r : Nat × mmS) (Fs2 : List Nat) (p' : Nat), mmRun (pgC R) n (mmStart (pgC R) tm (p, m) (inV tm (ipF (R.2.2.2.2.1 md).2.2.1 f s 0))) = some r ∧ Fs2.length ≤ 320 ∧ (r.1 = 0 ∨ r.1 = 1) ∧ msW w2 (k1 + 2 * bPot B) (k2 + 2 * bPot B) K R Fs2 (1, 0, if r.1 = 0 then 101 else 108) (msPl r.2 p') ∧ mcF sp w1 w2) (P0 := fun w2 => (∃ M' : mcR, mcW w2 (k1 + 2 * bPot B) (k2 + 2 * bPot B) K M' ∧ M'.1.1.2.length ≤ 320 ∧ tmR M'.2.2.2.2.2.1.1 M'.2.2.2.2.2.1.2.1 M'.2.2.2.2.2.1.2.2 tm) ∧ mcF sp w1 w2) ho hPg (p : Int) (m : Int) f s 0 hmA hmd hai hdf hc hSp.1 hbg ho1 hmd1 hg y1 (zM_any hrun (fun out w2 q => ?_)) (fun w2 q => ?_) (fun w2 q => ?_)
          · obtain ⟨v, e1, ⟨n, r, Fs2, p', q1, q2, q3⟩, q4⟩ := q
            rcases q3 with ⟨a, b, c⟩ | ⟨a, b, c⟩
            · exact ⟨v, e1, Or.inl ⟨b, n, r, Fs2, p', q1, q2, a, c, q4⟩⟩
            · exact ⟨v, e1, Or.inr ⟨b, c, q4⟩⟩
          · obtain ⟨n, r, Fs2, p', q1, q2, q3, q4, q5⟩ := q
            obtain ⟨hnv, hF2, hF1, hpre⟩ := qs_mk hcpR hm hg hoi hvl q1
            obtain ⟨k, ⟨⟨fr2, cls2, V2, ch2, T2⟩, ⟨cur2, pl2, den2, fl2⟩, tm2, ⟨na2, ns2, nc2, dp2⟩, nt2⟩⟩ := r
            obtain ⟨cap2, fm2, cc2, CH2, ct2, TR2, us2, cu2, pl3, de2, fl3, N2, H2, Sz2, A2, Nt2, sc2, nc3, dp3, hM2, hS2⟩ := q4
            obtain ⟨-, -, -, -, htm2, ⟨hA2, hsc2, hnc2, hdp2, hNt2⟩⟩ := hS2
            obtain ⟨en2, hen2⟩ : ∃ en2 : Int, en2 = (if k = 0 then 101 else 108) := ⟨_, rfl⟩
            rw [hK] at hM2
            obtain ⟨z1, z2, z3, z4, z5, z6, z7, z8, z9, z10, z11⟩ := hM2
            obtain ⟨-, v1, v2, v3, v4⟩ := hnv
            have v1 : na2 ≤ 50 := v1
            have v2 : ns2 ≤ 300 := v2
            have v3 : 1 ≤ dp2 ∧ dp2 ≤ 30 := v3
            have v4 : ntO p nt2 := v4
            obtain ⟨tt, htt⟩ := hpre
            have htt : tm2 = tm ++ tt := htt
            have fT := mcF_fr q5
            have ho2 := fT _ _ ho1 (by simp)
            have z7 : rpW w2 sp spi spa spn (some md) Iq A2 Nt2 sc2 nc3 dp3 en2 0 (-1) := by
              rw [hen2]
              exact z7
            refine f_ak_B1 (G := G) (d := d) (p : Int) (m : Int) f s 0 ho2 z7 ha0 hs0 (by omega) ?_
            obtain ⟨w', hw'⟩ : ∃ w', w' = zput w2 o (11, 0, [zR t, zR pg, zR mc, zR br, zR sp, zR la, zI comp, zI (asked + 1), zJ (sum + sc2)]) := ⟨_, rfl⟩
            rw [← hw']
            have f11 : zFr [11] w2 w' := by
              rw [hw']
              exact zFr_put ho2 (by simp)
            have hlen2 : tm2.length ≤ 200 := htm2.2.2.2.1
            have hen : en2 = 101 → k = 0 := fun q => by
              rw [hen2] at q
              by_cases e : k = 0
              · exact e
              · rw [if_neg e] at q
                exact absurd q (by decide)
            have hq : qsF R (some md, (Iq, A2, Nt2), (sc2, nc3, dp3, en2, 0, -1)) p m := by
              refine ⟨md, rfl, hm, hg, ?_, fun q => ?_, fun q q' => ?_, ?_, ?_, ?_, nt2, hNt2, v4⟩
              · show A2.length ≤ 50
                omega
              · have := hF2 q
                have this : na2 ≤ 1 := this
                show A2.length ≤ 1
                omega
              · have := hF1 (hen q) q'
                have this : 1 ≤ na2 := this
                show 1 ≤ A2.length
                omega
              · show 0 ≤ sc2 ∧ sc2 ≤ 300
                omega
              · show 1 ≤ dp3 ∧ dp3 ≤ 30
                omega
              · show en2 = 101 ∨ en2 = 108
                rw [hen2]
                split
                · exact Or.inl rfl
                · exact Or.inr rfl
            have hb : bdF R tm2 (some md, (Iq, A2, Nt2), (sc2, nc3, dp3, en2, 0, -1)) p m := by
              refine ⟨tm, ipF (R.2.2.2.2.1 md).2.2.1 f s 0, n, (k, ((fr2, cls2, V2, ch2, T2), (cur2, pl2, den2, fl2), tm2, (na2, ns2, nc2, dp2), nt2)), ?_, hen, hA2.symm, fun j hj => ?_, fun j v hv => ?_, ?_⟩
              · rw [htt, inV_app hl]
                rw [htt] at q1
                exact q1
              · show tg Iq (j : Int) 0 = _
                rw [hIq]
                have h3 := pF_A3 hPF p
                exact ip_row hf.1 hs.1 (Int.le_refl 0) (by omega)
              · rw [htt, List.length_append]
                have := hl j v hv
                omega
              · rw [htt, inV_app hl]
                exact hoi
            refine ⟨.inl (A2.length : Int), ((ty, C3), tm2, R, (comp, asked + 1, sum + sc2), (some md, (Iq, A2, Nt2), (sc2, nc3, dp3, en2, 0, -1))), Or.inl ⟨A2.length, tm2, (some md, (Iq, A2, Nt2), (sc2, nc3, dp3, en2, 0, -1)), rfl, hc, rfl, ⟨tt, htt⟩, hlen2, hq, hb, rfl, rfl⟩, ⟨⟨((t, tc, tn, th, tz), pg, (mc, fa, ca, ta), ((sp, spi, spa, spn), (la, lai, laa, lan)), br, (nd, va, ce, li), (ro, bi, le, wk)), (N2, H2, Sz2), La, ((sp, cap2, Fs2, fm2), (cc2, CH2), (ct2, TR2), (us2, cu2, pl3, de2), (fl3, 1, 0)), B, ⟨by rw [hw']; exact zput_at, hsl, ⟨tmW_fT f11 (by decide) z6, htm2⟩, ⟨pgW_fr f11 (by decide) (pgW_fr fT (by decide) hPg1), pgQ_fr f11 (by decide) (pgQ_fr fT (by decide) hQ1)⟩, rpL_fr f11 (by decide) (La := (some md, (Iq, A2, Nt2), (sc2, nc3, dp3, en2, 0, -1))) z7, rpL_fr f11 (by decide) (rpL_mc q5 hls hLa1), maV_fr f11 (by decide) ⟨⟨z1, z2, z3, z4, z5, z8, z9⟩, q2⟩, baW_fr f11 (by decide) (baW_fr fT (by decide) hBa1)⟩, ?_, ?_⟩, zSc_tr sA (zSc_tr (zSc_fr fT (by decide)) (zSc_fr f11 (by decide)))⟩, rfl⟩
            · rw [hw']
              show 60 * w2.2.1 ≤ k1 + 60 + (180 * Fs2.length + cc2 + ct2) + 2 * bPot B
              omega
            · rw [hw']
              show w2.2.2 ≤ k2 + 6 + (1000 * Fs2.length + 2 * cc2 + 2 * ct2) + 2 * bPot B
              omega
          · obtain ⟨⟨M', q1, q2, q3⟩, q5⟩ := q
            obtain ⟨⟨⟨cap2, Fs2⟩, fm2⟩, ⟨cc2, CH2⟩, ⟨ct2, TR2⟩, ⟨us2, cu2, pl3, de2⟩, ⟨fl3, ov2, fu2⟩, ⟨N2, H2, Sz2⟩, ⟨A2, Nt2, sc2, nc3, dp3, en2⟩⟩ := M'
            rw [hK] at q1
            obtain ⟨z1, z2, z3, z4, z5, z6, z7, z8, z9, z10, z11⟩ := q1
            have fT := mcF_fr q5
            have ho2 := fT _ _ ho1 (by simp)
            have hW2 : whW w2 o k1 k2 ((ty, C3), tm, R, (comp, asked, sum), La) := by
              refine ⟨((t, tc, tn, th, tz), pg, (mc, fa, ca, ta), ((la, lai, laa, lan), (sp, spi, spa, spn)), br, (nd, va, ce, li), (ro, bi, le, wk)), (N2, H2, Sz2), (some md, (Iq, A2, Nt2), (sc2, nc3, dp3, en2, 0, -1)), ((sp, cap2, Fs2, fm2), (cc2, CH2), (ct2, TR2), (us2, cu2, pl3, de2), (fl3, ov2, fu2)), B, ⟨ho2, hls, ⟨z6, q3⟩, ⟨pgW_fr fT (by decide) hPg1, pgQ_fr fT (by decide) hQ1⟩, rpL_mc q5 hls hLa1, z7, ⟨⟨z1, z2, z3, z4, z5, z8, z9⟩, q2⟩, baW_fr fT (by decide) hBa1⟩, ?_, ?_⟩
              · show 60 * w2.2.1 ≤ k1 + (180 * Fs2.length + cc2 + ct2) + 2 * bPot B
                omega
              · show w2.2.2 ≤ k2 + (1000 * Fs2.length + 2 * cc2 + 2 * ct2) + 2 * bPot B
                omega
            have hr2 := whW_room hW2 hk1 hk2
            refine f_ak_B0 (G := G) (d := d) (p : Int) (m : Int) f s 0 hst0 (by omega) (by omega) (fun w3 q => ?_)
            exact ⟨.inr 3, _, Or.inr ⟨3, by decide, rfl, rfl⟩, ⟨whW_x (i := 3) hW2 q, zSc_tr sA (zSc_tr (zSc_fr fT (by decide)) (zSc_eq q.2.1))⟩, by decide, rfl⟩
    · exact zM_any (f_ak_x1 (d := d) ho hPg (p : Int) (m : Int) f s 0 hmA hmd hai (f_df_f (d := d + 6) ho hT hmd hpr f s 0 hty hft) hst0 (by omega) (by omega)) (ask_x h (by decide))
end ASK
