/-! Own rows: what stands when the compiler is done. By hand; nothing of the bytecode. -/
theorem gK_sa {R R' : pgR} (h : gK R R') : pgSa R R' := ⟨h.1.1, h.1.2.1, by rw [show R'.2.2.2.2.2.2 = R.2.2.2.2.2.2 from congrArg Prod.snd h.1.2.2], fun y => by rcases h.2 y with e | e <;> rw [e]; rfl⟩
theorem fK_sa {R R' : pgR} (h : fK R R') : pgSa R R' := ⟨h.1.1, h.1.2.1, by rw [show R'.2.2.2.2.2.2 = R.2.2.2.2.2.2 from congrArg Prod.snd h.1.2.2], fun y => by obtain ⟨f, v, e⟩ := h.2 y; rw [e]; rfl⟩
theorem cbP_fK {R R' : pgR} (h : fK R R') {r : clR} {m : Int} : ∀ (n q : Nat), cbP R' r m n q = cbP R r m n q
  | 0, _ => rfl
  | n + 1, q => by
    cases hc : chA r m (q : Int) with
    | none => rw [cbP_n hc, cbP_n hc, cbP_fK h n]
    | some x =>
      rw [cbP_s hc, cbP_s hc, cbP_fK h n]
      obtain ⟨f, v, e⟩ := h.2 x
      rw [e]
      rfl
theorem badM_fK {R R' : pgR} (h : fK R R') (y : Nat) : badM R' y = badM R y := by
  obtain ⟨f, v, e⟩ := h.2 y
  have hc : R'.2.2.2.2.2.1 = R.2.2.2.2.2.1 := congrArg Prod.fst h.1.2.2
  unfold badM
  rw [h.1.2.1, e]
  show (R.2.2.2.1 (R.2.2.2.2.1 y).1).2.2.2.2.any (cbC R' (R.2.2.2.2.1 y).2.1) = _
  congr 1
  funext c
  unfold cbC
  rw [hc, cbP_fK h]
/-- what is so of a good mode -/
def moOK (C : List (List Int)) (R : pgR) (y : Nat) : Prop :=
  (∀ c, c ∈ (R.2.2.2.1 (R.2.2.2.2.1 y).1).2.2.2.2 → ordWh R (R.2.2.2.2.1 y).2.1.toNat (R.2.2.2.2.1 y).2.2.1 (R.2.2.2.1 (R.2.2.2.2.1 y).1).2.1.length c) ∧
  (R.2.2.2.2.1 y).2.2.2.2.2.2.2.2 = fsS R (R.2.2.2.2.1 y).2.2.1 (R.2.2.2.2.1 y).2.1 (R.2.2.2.1 (R.2.2.2.2.1 y).1).2.2.2.2 (-1) 0 ∧
  badM R y = false ∧
  (moF1 (R.2.2.2.2.1 y) = 0 → cmfI R C (R.2.2.2.2.1 y).1 (R.2.2.2.2.1 y).2.2.2.2.2.2.2.2 (R.2.2.2.2.1 y).2.1 = 0) ∧
  (moF2 (R.2.2.2.2.1 y) = 0 → cmrI R (R.2.2.2.2.1 y).1 (R.2.2.2.2.1 y).2.2.2.2.2.2.2.2 (R.2.2.2.2.1 y).2.1 = 0)
theorem anW_ok {C : List (List Int)} {Ms : List Nat} {w : zW} {R : pgR} (hMs : R.2.2.1.2.1 = Ms) (hnd : Ms.Nodup) (hN : pgN R) (hM : pgM2 R) (R' : pgR) (hR' : R' = (anW C Ms w R).2) :
    pgSa R R' ∧ (∀ y, (R'.2.2.2.2.1 y).1 = (R.2.2.2.2.1 y).1 ∧ (R'.2.2.2.2.1 y).2.1 = (R.2.2.2.2.1 y).2.1) ∧ (∀ c, clKp (R.2.2.2.2.2.1 c) (R'.2.2.2.2.2.1 c) ∧ (clAr (R.2.2.2.2.2.1 c) → clAr (R'.2.2.2.2.2.1 c))) ∧ flI Ms R' ∧ ∀ y, y ∈ Ms → moG (R'.2.2.2.2.1 y) ≠ 0 → moOK C R' y := by
  obtain ⟨w1, hw1⟩ : ∃ w1, w1 = (an1 Ms w R).1 := ⟨_, rfl⟩
  obtain ⟨R1, hR1⟩ : ∃ R1, R1 = (an1 Ms w R).2 := ⟨_, rfl⟩
  obtain ⟨w2, hw2⟩ : ∃ w2, w2 = (sf2 Ms (Ms.length + 1) true w1 R1).1 := ⟨_, rfl⟩
  obtain ⟨R2, hR2⟩ : ∃ R2, R2 = (sf2 Ms (Ms.length + 1) true w1 R1).2 := ⟨_, rfl⟩
  have hR3 : R' = (sf3 C Ms (2 * Ms.length + 1) true w2 R2).2 := by rw [hR', hw2, hR2, hw1, hR1]; rfl
  obtain ⟨a1, a2, a3, -, -, a6⟩ := an1_ok Ms w R hnd (fun y hy => by rw [hMs]; exact hy) hN hM
  rw [← hR1] at a1 a2 a3 a6
  obtain ⟨b1, b2⟩ := sf2_ok (Ms := Ms) (Ms.length + 1) w1 R1 (Nat.lt_succ_of_le (List.length_filter_le _ _))
  rw [← hR2] at b1 b2
  have hf2 : flI Ms R2 := fun y hy => by
    obtain ⟨lost, e, -⟩ := a6 y hy
    rcases b1.2 y with k | k <;> rw [k, e] <;> exact ⟨Or.inl rfl, Or.inl rfl⟩
  have l1 := List.length_filter_le (fun y => decide (moF1 (R2.2.2.2.2.1 y) = 0)) Ms
  have l2 := List.length_filter_le (fun y => decide (moF2 (R2.2.2.2.2.1 y) = 0)) Ms
  obtain ⟨c1, c2, c3⟩ := sf3_ok (C := C) (Ms := Ms) (2 * Ms.length + 1) w2 R2 hf2 (by omega)
  rw [← hR3] at c1 c2 c3
  have s12 := gK_sa b1
  have s23 := fK_sa c1
  have s13 := pgSa_tr s12 s23
  have hcl2 : R2.2.2.2.2.2.1 = R1.2.2.2.2.2.1 := congrArg Prod.fst b1.1.2.2
  have hcl3 : R'.2.2.2.2.2.1 = R2.2.2.2.2.2.1 := congrArg Prod.fst c1.1.2.2
  have mo3 : ∀ y, (R'.2.2.2.2.1 y).1 = (R1.2.2.2.2.1 y).1 ∧ (R'.2.2.2.2.1 y).2.1 = (R1.2.2.2.2.1 y).2.1 ∧ (R'.2.2.2.2.1 y).2.2.1 = (R1.2.2.2.2.1 y).2.2.1 ∧ (R'.2.2.2.2.1 y).2.2.2.2.2.2.2.2 = (R1.2.2.2.2.1 y).2.2.2.2.2.2.2.2 := fun y => by
    obtain ⟨f, v, e⟩ := c1.2 y
    rcases b1.2 y with k | k <;> rw [e, k] <;> exact ⟨rfl, rfl, rfl, rfl⟩
  refine ⟨pgSa_tr a1 s13, fun y => ⟨(mo3 y).1.trans (a2 y).1, (mo3 y).2.1.trans (a2 y).2⟩, fun c => by rw [hcl3, hcl2]; exact a3 c, c2, fun y hy hg => ?_⟩
  obtain ⟨m1, m2, m3, m4⟩ := mo3 y
  obtain ⟨f, v, e⟩ := c1.2 y
  have hg2 : moG (R2.2.2.2.2.1 y) ≠ 0 := by rw [e] at hg; exact hg
  have e2 := gK_g b1 hg2
  obtain ⟨lost, k1, k2⟩ := a6 y hy
  have hl0 : lost = 0 := by
    rw [e2, k1] at hg2
    have hg2 : (if lost = 0 then (1 : Int) else 0) ≠ 0 := hg2
    exact Classical.byContradiction fun q => hg2 (if_neg q)
  obtain ⟨x1, x2⟩ := a2 y
  have x3 := a1.2.2.2 y
  have hpr : R'.2.2.2.1 = R.2.2.2.1 := (pgSa_tr a1 s13).2.1
  obtain ⟨nn1, nn2, -⟩ := hN y (by rw [hMs]; exact hy)
  obtain ⟨m, hmm⟩ : ∃ m : Nat, (R.2.2.2.2.1 y).2.1 = (m : Int) := ⟨(R.2.2.2.2.1 y).2.1.toNat, by omega⟩
  refine ⟨fun c hc => ?_, ?_, ?_, fun h => ?_, fun h => ?_⟩
  · rw [m1, x1, hpr] at hc
    rw [m1, m2, m3, x1, x2, x3, hpr]
    exact ordWh_eq s13 (by rw [hcl3, hcl2]) (k2 hl0 c hc)
  · rw [m1, m2, m3, m4, x1, x2, x3, hpr, k1]
    show fsS R1 (R.2.2.2.2.1 y).2.2.1 (R.2.2.2.2.1 y).2.1 (R.2.2.2.1 (R.2.2.2.2.1 y).1).2.2.2.2 (-1) 0 = _
    rw [hmm, fsS_q (R := R1) (R' := R') s13.2.2.1 (by omega) _ _ _ (fun c _ => by rw [hcl3, hcl2]; exact clEq_re)]
  · rw [badM_fK c1]
    have q := b2 y hy
    cases hb : badM R2 y with
    | false => rfl
    | true => exact absurd ⟨hg2, hb⟩ q
  · exact ((ffV_ok (c2 y hy).1).2.2 ((c3 y hy).1.trans h) hg).2
  · exact ((ffV_ok (c2 y hy).2).2.2 ((c3 y hy).2.trans h) hg).2
