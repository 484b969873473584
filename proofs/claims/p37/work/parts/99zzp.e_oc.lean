/-! Own rows: open and compile at the level of the object. By hand. -/
/-- a program and what the compiler makes of it -/
def anR (R R' : pgR) : Prop := pgI R' ∧ cpF R' ∧ pgSa R R' ∧ (∀ c, (R'.2.2.2.2.2.1 c).2.2.1 = (R.2.2.2.2.2.1 c).2.2.1) ∧ ∀ y, y ∈ R'.2.2.1.2.1 → moG (R'.2.2.2.2.1 y) = 0 ∨ moG (R'.2.2.2.2.1 y) = 1
theorem anW_R {pg : Nat} {w : zW} {R : pgR} (h : pgI R) (hP : pgW w pg R) (w' : zW) (R' : pgR) (hw' : w' = (anW C3 R.2.2.1.2.1 w R).1) (hR' : R' = (anW C3 R.2.2.1.2.1 w R).2) : anR R R' ∧ pgW w' pg R' ∧ zFr T5 w w' ∧ w'.2 = w.2 := by
  obtain ⟨d1, d2, d3, d4, d5, d6, d7⟩ := anW_I h hP w' R' hw' hR'
  obtain ⟨hF, hO, hN, hL, hA, hnd, hms, -⟩ := id h
  have hcl : ∀ c, c ∈ R.2.2.1.2.2 → clAr (R.2.2.2.2.2.1 c) := fun c hc => clV_len (hP.2.2.2.2.2.2 c hc).1
  have hM := pF_M2 hF hcl hms hN
  obtain ⟨-, -, a3, -⟩ := anW_ok (C := C3) (w := w) (R := R) rfl hnd hN hM R' hR'
  refine ⟨⟨d1, d2, d3, fun c => (a3 c).1.2.2.1, fun y hy => ?_⟩, d5, d6, d7⟩
  have hy : y ∈ R.2.2.1.2.1 := by
    rw [d3.1] at hy
    exact hy
  obtain ⟨Ms, hMs⟩ : ∃ Ms, Ms = R.2.2.1.2.1 := ⟨_, rfl⟩
  rw [← hMs] at hR' hy hnd
  obtain ⟨w1, hw1⟩ : ∃ w1, w1 = (an1 Ms w R).1 := ⟨_, rfl⟩
  obtain ⟨R1, hR1⟩ : ∃ R1, R1 = (an1 Ms w R).2 := ⟨_, rfl⟩
  obtain ⟨w2, hw2⟩ : ∃ w2, w2 = (sf2 Ms (Ms.length + 1) true w1 R1).1 := ⟨_, rfl⟩
  obtain ⟨R2, hR2⟩ : ∃ R2, R2 = (sf2 Ms (Ms.length + 1) true w1 R1).2 := ⟨_, rfl⟩
  have hR3 : R' = (sf3 C3 Ms (2 * Ms.length + 1) true w2 R2).2 := by rw [hR', hw2, hR2, hw1, hR1]; rfl
  obtain ⟨-, -, -, -, -, a6⟩ := an1_ok Ms w R hnd (fun y hy => by rw [← hMs]; exact hy) hN hM
  rw [← hR1] at a6
  obtain ⟨b1, -⟩ := sf2_ok (Ms := Ms) (Ms.length + 1) w1 R1 (Nat.lt_succ_of_le (List.length_filter_le _ _))
  rw [← hR2] at b1
  have hf2 : flI Ms R2 := fun y hy => by
    obtain ⟨lost, e, -⟩ := a6 y hy
    rcases b1.2 y with k | k <;> rw [k, e] <;> exact ⟨Or.inl rfl, Or.inl rfl⟩
  have l1 := List.length_filter_le (fun y => decide (moF1 (R2.2.2.2.2.1 y) = 0)) Ms
  have l2 := List.length_filter_le (fun y => decide (moF2 (R2.2.2.2.2.1 y) = 0)) Ms
  obtain ⟨c1, -, -⟩ := sf3_ok (C := C3) (Ms := Ms) (2 * Ms.length + 1) w2 R2 hf2 (by omega)
  rw [← hR3] at c1
  obtain ⟨f, v, e⟩ := c1.2 y
  rw [e]
  show moG (R2.2.2.2.2.1 y) = 0 ∨ moG (R2.2.2.2.2.1 y) = 1
  obtain ⟨lost, k1, -⟩ := a6 y hy
  rcases b1.2 y with k | k
  · rw [k, k1]
    show (if lost = 0 then (1 : Int) else 0) = 0 ∨ (if lost = 0 then (1 : Int) else 0) = 1
    split
    · exact Or.inr rfl
    · exact Or.inl rfl
  · rw [k]
    exact Or.inl rfl
section OC
variable {G : zG} {d : Nat} {w : zW} {o k1 k2 : Nat} {ty : Int} {C : List (List Int)} {tm : List smG} {R : pgR} {comp asked sum : Int} {La : whL}
theorem w_op (h : whW w o k1 k2 ((ty, C), tm, R, (comp, asked, sum), La)) (hst0 : G.1.stackTraces = false) (hr : w.2.1 + 100 ≤ G.2.2.2.2.1 ∧ w.2.2 + 1000 ≤ G.2.2.2.2.2) : zM G zm_X11_open (d + 5) [zR o] w (fwQ w o (k1 + 60) (k2 + 6) (fun r S' => (comp ≠ 0 ∧ r = .inl asked ∧ S' = ((ty, C), tm, R, (0, 0, 0), La)) ∨ (comp = 0 ∧ r = .inr 2 ∧ S' = ((ty, C), tm, R, (comp, asked, sum), La)))) := by
  obtain ⟨A, T, Sp, M, B, hW, h1, h2⟩ := id h
  obtain ⟨⟨t, tc, tn, th, tz⟩, pg, ⟨mc, fa, ca, ta⟩, ⟨⟨la, lai, laa, lan⟩, ⟨sp, spi, spa, spn⟩⟩, br, ⟨nd, va, ce, li⟩, ⟨ro, bi, le, wk⟩⟩ := A
  obtain ⟨N, H, Sz⟩ := T
  obtain ⟨ho, -⟩ := id hW
  by_cases hc : comp = 0
  · refine zM_any (f_op_x2 ho hc hst0 (by omega) (by omega)) (fun out w' q => ?_)
    exact ⟨.inr 2, _, Or.inr ⟨hc, rfl, rfl⟩, ⟨whW_x (i := 2) h ⟨rfl, q.2⟩, zSc_eq q.2.1⟩, by decide, q.1⟩
  · refine zM_any (f_op_ok (d := d + 4) ho hc) (fun out w' q => ?_)
    have f : zFr [11] w w' := by
      rw [q.2]
      exact zFr_put ho (by simp)
    refine ⟨.inl asked, _, Or.inl ⟨hc, rfl, rfl⟩, ⟨⟨_, (N, H, Sz), Sp, M, B, whP_ob f hW (by rw [q.2]; exact zput_at), ?_, ?_⟩, zSc_fr f (by decide)⟩, q.1⟩
    · rw [q.2]
      show 60 * w.2.1 ≤ _
      omega
    · rw [q.2]
      show w.2.2 ≤ _
      omega
theorem w_cm (h : whW w o k1 k2 ((ty, C), tm, R, (comp, asked, sum), La)) (hst0 : G.1.stackTraces = false) (hr : w.2.1 + 100 ≤ G.2.2.2.2.1 ∧ w.2.2 + 1000 ≤ G.2.2.2.2.2) (hC : C = C3) (hI : pgI R) : zM G zm_X11_compile (d + 11) [zR o] w (fwQ w o (k1 + 60) (k2 + 6) (fun r S' => (comp = 0 ∧ ∃ (R' : pgR) (n : Nat), r = .inl (n : Int) ∧ S' = ((ty, C), tm, R', (1, asked, sum), La) ∧ anR R R') ∨ (comp ≠ 0 ∧ r = .inr 2 ∧ S' = ((ty, C), tm, R, (comp, asked, sum), La)))) := by
  obtain ⟨A, T, Sp, M, B, hW, h1, h2⟩ := id h
  obtain ⟨⟨t, tc, tn, th, tz⟩, pg, ⟨mc, fa, ca, ta⟩, ⟨⟨la, lai, laa, lan⟩, ⟨sp, spi, spa, spn⟩⟩, br, ⟨nd, va, ce, li⟩, ⟨ro, bi, le, wk⟩⟩ := A
  obtain ⟨N, H, Sz⟩ := T
  obtain ⟨ho, -, ⟨hT, htm⟩, ⟨hPg, hQ⟩, -⟩ := id hW
  by_cases hc : comp = 0
  · subst hC
    obtain ⟨w1, hw1⟩ : ∃ w1, w1 = (anW C3 R.2.2.1.2.1 w R).1 := ⟨_, rfl⟩
    obtain ⟨R', hR'⟩ : ∃ R', R' = (anW C3 R.2.2.1.2.1 w R).2 := ⟨_, rfl⟩
    obtain ⟨hAR, hP1, f1, e1⟩ := anW_R hI hPg w1 R' hw1 hR'
    obtain ⟨hF, hO, hN, hL, hA, hnd, hms, ⟨a1, a2, a3, a4, a5⟩⟩ := id hI
    have hlen : R.2.2.1.2.1.length < 1000 := by
      have := a1.2
      have := a2.2
      omega
    have ho1 := f1 _ _ ho (by simp)
    have hlen' : R'.2.2.1.2.1.length < 1000 := by
      rw [hAR.2.2.1.1]
      exact hlen
    have hQ1 : pgQ w1 R' := by
      have q := pgQ_fr f1 (by decide) hQ
      unfold pgQ at q ⊢
      rw [hAR.2.2.1.1, hAR.2.2.1.2.1]
      exact q
    have key := f_cm_d (G := G) (d := d) (w1 := w1) (fc := (fcN R' R'.2.2.1.2.1 : Int)) ho hPg hc (by rw [hw1]; exact c_X7_analyse hPg hO hN hL rfl hlen hT (by decide)) ho1 (f1 _ _ hPg.1 (by simp)) (fun w2 hw2 => by
      have q := pgW_fr (zFr_put (T := [11]) (y := (11, 0, [zR t, zR pg, zR mc, zR br, zR la, zR sp, zI 1, zI asked, zJ sum])) ho1 (by simp)) (by decide) hP1
      rw [← hw2] at q
      exact c_X7_faultCount (d := d + 7) q hlen')
    refine zM_any key (fun out w' q => ?_)
    have f : zFr [11] w1 w' := by
      rw [q.2]
      exact zFr_put ho1 (by simp)
    refine ⟨.inl (fcN R' R'.2.2.1.2.1 : Int), _, Or.inl ⟨hc, R', _, rfl, rfl, hAR⟩, ⟨⟨_, (N, H, Sz), Sp, M, B, whP_ob f (whP_pg f1 (by decide) hW hP1 hQ1) (by rw [q.2]; exact zput_at), ?_, ?_⟩, zSc_tr (zSc_fr f1 (by decide)) (zSc_fr f (by decide))⟩, q.1⟩
    · rw [q.2]
      show 60 * w1.2.1 ≤ _
      rw [e1]
      omega
    · rw [q.2]
      show w1.2.2 ≤ _
      rw [e1]
      omega
  · refine zM_any (f_cp_x2 (d := d + 7) ho hc hst0 (by omega) (by omega)) (fun out w' q => ?_)
    exact ⟨.inr 2, _, Or.inr ⟨hc, rfl, rfl⟩, ⟨whW_x (i := 2) h ⟨rfl, q.2⟩, zSc_eq q.2.1⟩, by decide, q.1⟩
end OC
