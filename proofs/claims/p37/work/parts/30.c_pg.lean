/-! Own rows: the PROGRAM in the world; modes chosen, goals put in order. Walked by program (wip/p37/m_pg.py). -/
/-- a goal: kind, subject, count, the array, its numbers -/
abbrev goR : Type := Int × Int × Int × Nat × List Int
/-- a mode: predicate, number, inputs, promise, lost, good, fails, repeats, switch -/
abbrev moR : Type := Nat × Int × Int × Int × Int × Int × Int × Int × Int
/-- a predicate: number, types, modes, clauses, question; the types; modes; clauses -/
abbrev prR : Type := (Int × Nat × Nat × Nat × Nat) × List (List Int) × (Nat × List Nat) × (Nat × List Nat)
/-- a clause: number, predicate; its arrays; types; goals; lengths, numbers, known; goals and modes in order -/
abbrev clR : Type := (Int × Nat) × (Nat × Nat × Nat × Nat × Nat × Nat × Nat) × List (List Int) × (Nat × List Nat) × (List Int × List Int × List Int) × (List (Option Nat) × List (Option Nat))
def goW (w : zW) (y : Nat) (r : goR) : Prop := w.1 y = some (3, 0, [zI r.1, zI r.2.1, zI r.2.2.1, zR r.2.2.2.1]) ∧ w.1 r.2.2.2.1 = some (100, y, r.2.2.2.2.map Sum.inl) ∧ r.2.2.2.2.length < 100 ∧ (0 ≤ r.2.2.1 ∧ r.2.2.1 ≤ 3) ∧ (0 ≤ r.1 ∧ r.1 ≤ 3)
abbrev moF (r : moR) : List zV := [zR r.1, zI r.2.1, zI r.2.2.1, zI r.2.2.2.1, zI r.2.2.2.2.1, zI r.2.2.2.2.2.1, zI r.2.2.2.2.2.2.1, zI r.2.2.2.2.2.2.2.1, zI r.2.2.2.2.2.2.2.2]
def moW (w : zW) (y : Nat) (r : moR) : Prop := w.1 y = some (5, 0, moF r)
def prW (w : zW) (y : Nat) (r : prR) : Prop := w.1 y = some (6, 0, [zI r.1.1, zR r.1.2.1, zR r.1.2.2.1, zR r.1.2.2.2.1, zR r.1.2.2.2.2]) ∧ (w.1 r.1.2.1 = some (134, y, tTb 1 3 r.2.1) ∧ tOk 1 r.2.1) ∧ w.1 r.1.2.2.1 = some (163, y, zLs r.2.2.1.1 r.2.2.1.2) ∧ w.1 r.1.2.2.2.1 = some (164, y, zLs r.2.2.2.1 r.2.2.2.2)
def clV (w : zW) (y : Nat) (r : clR) : Prop := clW w y r.1.1 r.1.2 r.2.1.1 r.2.1.2.1 r.2.1.2.2.1 r.2.1.2.2.2.1 r.2.1.2.2.2.2.1 r.2.1.2.2.2.2.2.1 r.2.1.2.2.2.2.2.2 r.2.2.1 r.2.2.2.1.1 r.2.2.2.1.2 r.2.2.2.2.1.1 r.2.2.2.2.1.2.1 r.2.2.2.2.1.2.2 r.2.2.2.2.2.1 r.2.2.2.2.2.2
/-- a program: the lists' addresses, their rooms, their elements; what each element holds -/
abbrev pgR : Type := (Nat × Nat × Nat) × (Nat × Nat × Nat) × (List Nat × List Nat × List Nat) × (Nat → prR) × (Nat → moR) × (Nat → clR) × (Nat → goR)
def pgW (w : zW) (pg : Nat) (R : pgR) : Prop :=
  w.1 pg = some (7, 0, [zR R.1.1, zR R.1.2.1, zR R.1.2.2]) ∧ w.1 R.1.1 = some (160, pg, zLs R.2.1.1 R.2.2.1.1) ∧ w.1 R.1.2.1 = some (161, pg, zLs R.2.1.2.1 R.2.2.1.2.1) ∧ w.1 R.1.2.2 = some (162, pg, zLs R.2.1.2.2 R.2.2.1.2.2) ∧
  (∀ y ∈ R.2.2.1.1, prW w y (R.2.2.2.1 y) ∧ (∀ m ∈ (R.2.2.2.1 y).2.2.1.2, m ∈ R.2.2.1.2.1) ∧ (∀ c ∈ (R.2.2.2.1 y).2.2.2.2, c ∈ R.2.2.1.2.2) ∧ (R.2.2.2.1 y).2.2.1.2.length < 1000) ∧
  (∀ y ∈ R.2.2.1.2.1, moW w y (R.2.2.2.2.1 y)) ∧
  (∀ y ∈ R.2.2.1.2.2, clV w y (R.2.2.2.2.2.1 y) ∧ ∀ g ∈ (R.2.2.2.2.2.1 y).2.2.2.1.2, goW w g (R.2.2.2.2.2.2 g))
/-- the mode that is chosen for a goal -/
def chM (R : pgR) (g : goR) (kn : Int) : Option Nat :=
  if g.1 = 2 ∨ g.1 = 3 then match lAt R.2.2.1.1 g.2.1 with
    | none => none
    | some y => (R.2.2.2.1 y).2.2.1.2.find? (fun m => aiK g.2.2.2.2 (R.2.2.2.2.1 m).2.2.1 kn g.2.2.1.toNat 0)
  else none
theorem chM_n {R : pgR} {g : goR} {kn : Int} (h : ¬ (g.1 = 2 ∨ g.1 = 3)) : chM R g kn = none := if_neg h
theorem chM_0 {R : pgR} {g : goR} {kn : Int} (h : lAt R.2.2.1.1 g.2.1 = none) : chM R g kn = none := by
  unfold chM
  split
  · rw [h]
  · rfl
theorem chM_1 {R : pgR} {g : goR} {kn : Int} {y : Nat} (h0 : g.1 = 2 ∨ g.1 = 3) (h : lAt R.2.2.1.1 g.2.1 = some y) : chM R g kn = (R.2.2.2.1 y).2.2.1.2.find? (fun m => aiK g.2.2.2.2 (R.2.2.2.2.1 m).2.2.1 kn g.2.2.1.toNat 0) := by
  unfold chM
  rw [if_pos h0, h]
theorem drop_cons {T : Type} {xs : List T} {q : Nat} {y : T} (h : xs[q]? = some y) : xs.drop q = y :: xs.drop (q + 1) := by
  obtain ⟨h1, h2⟩ := List.getElem?_eq_some_iff.mp h
  rw [List.drop_eq_getElem_cons h1, h2]
section CPG
variable {G : zG} {d : Nat} {w : zW} {pg : Nat} {R : pgR}
theorem c_X7_chooseMode (hP : pgW w pg R) {g : Nat} {gr : goR} (hG : goW w g gr) (kn : Int) : zM G zm_X7_chooseMode (d + 5) [zR pg, zR g, zI kn] w (zRet (some (zP (chM R gr kn))) w) := by
  refine zx_ent (by decide +kernel) rfl (Nat.le_of_ble_eq_true rfl) ?_
  refine zx_L (L1 := [some (zR pg), some (zR g), some (zI kn), none, none, none, none]) rfl ?_
  obtain ⟨hpg, hps, hms, hcs, hPr, hMo, hCl⟩ := hP
  obtain ⟨hg, hv, hx, hgn, hgk⟩ := hG
  have helP : ∀ y ∈ R.2.2.1.1, ∃ a b, w.1 y = some ((6, a, b) : zO) := fun y hy => ⟨_, _, (hPr y hy).1.1⟩
  by_cases hc : gr.1 = 2 ∨ gr.1 = 3
  · cases hy : lAt R.2.2.1.1 gr.2.1 with
    | none =>
      rw [chM_0 hy]
      refine zx_aload_n (i := 1) dX7_chooseMode_0 rfl rfl ?_
      refine zx_iv (b := g) (As := []) (st := []) (v := (some (zI (zB (gr.1 = 2 ∨ gr.1 = 3))))) (w1 := w) dX7_chooseMode_1 zc_X7_162 hg rfl rfl rfl (Nat.le_of_ble_eq_true rfl) rfl (c_X3_isCalling hg) ?_
      refine zx_st (st1 := [zI (zB (gr.1 = 2 ∨ gr.1 = 3))]) rfl ?_
      refine zx_if_eq (tgt := 18) dX7_chooseMode_4 (by decide) (fun h4 => absurd h4 (by rw [zB_t hc]; decide)) (fun h4 => ?_)
      refine zx_aload_n (i := 0) dX7_chooseMode_7 rfl rfl ?_
      refine zx_aload_n (i := 1) dX7_chooseMode_8 rfl rfl ?_
      refine zx_getfield dX7_chooseMode_9 zf_X7_165 hg rfl ?_
      refine zx_iv (b := pg) (As := [zI gr.2.1]) (st := []) (v := (some (zN))) (w1 := w) dX7_chooseMode_12 zc_X7_36 hpg rfl rfl rfl (Nat.le_of_ble_eq_true rfl) rfl (by have q := c_X7_predicateAt (G := G) (d := d + 1) hpg hps helP gr.2.1; rw [hy] at q; exact q) ?_
      refine zx_st (st1 := [zN]) rfl ?_
      refine zx_goto (tgt := 19) dX7_chooseMode_15 (by decide) ?_
      refine zx_astore_n (i := 3) dX7_chooseMode_19 rfl (by decide) rfl ?_
      refine zx_L (L1 := [some (zR pg), some (zR g), some (zI kn), some (zN), none, none, none]) rfl ?_
      refine zx_aload_n (i := 3) dX7_chooseMode_20 rfl rfl ?_
      refine zx_ifnonnull (tgt := 28) dX7_chooseMode_21 (by decide) (fun h => absurd rfl h) (fun _ => ?_)
      refine zx_pc (pc1 := 24) rfl ?_
      refine zx_iconst (v := 0) dX7_chooseMode_24 rfl (z32_lit (by decide) (by decide)) ?_
      refine zx_goto (tgt := 32) dX7_chooseMode_25 (by decide) ?_
      refine zx_istore (i := 4) dX7_chooseMode_32 (by decide) rfl ?_
      refine zx_L (L1 := [some (zR pg), some (zR g), some (zI kn), some (zN), some (zI 0), none, none]) rfl ?_
      refine zx_iconst (v := 0) dX7_chooseMode_34 rfl (z32_lit (by decide) (by decide)) ?_
      refine zx_istore (i := 5) dX7_chooseMode_35 (by decide) rfl ?_
      refine zx_L (L1 := [some (zR pg), some (zR g), some (zI kn), some (zN), some (zI 0), some (zI 0), none]) rfl ?_
      refine zx_iload (i := 5) dX7_chooseMode_37 rfl ?_
      refine zx_iload (i := 4) dX7_chooseMode_39 rfl ?_
      refine zx_icmp_ge (tgt := 76) dX7_chooseMode_41 (by decide) (fun h41 => ?_) (fun h41 => absurd (by decide) h41)
      refine zx_null dX7_chooseMode_76 ?_
      refine zx_areturn dX7_chooseMode_77 rfl (Or.inl ⟨_, rfl⟩) ?_
      exact zr_v rfl rfl
    | some y =>
      rw [chM_1 hc hy]
      obtain ⟨⟨hpy, htt, hml, hcl⟩, hsm, hsc, hlen⟩ := hPr y (lAt_mem hy)
      have helM : ∀ z ∈ (R.2.2.2.1 y).2.2.1.2, ∃ a b, w.1 z = some ((5, a, b) : zO) := fun z hz => ⟨_, _, hMo z (hsm z hz)⟩
      have loop : ∀ (n q : Nat) (o6 : Option zV), q + n = (R.2.2.2.1 y).2.2.1.2.length → zX G zm_X7_chooseMode (d + 5) [zR pg, zR g, zI kn] w (zRet (some (zP ((((R.2.2.2.1 y).2.2.1.2).drop q).find? (fun m => aiK gr.2.2.2.2 (R.2.2.2.2.1 m).2.2.1 kn gr.2.2.1.toNat 0)))) w) 37 [some (zR pg), some (zR g), some (zI kn), some (zR y), some (zI ((R.2.2.2.1 y).2.2.1.2.length : Int)), some (zI (q : Int)), o6] [] w := by
        intro n
        induction n with
        | zero =>
          intro q o6 hq
          rw [List.drop_eq_nil_of_le (by omega)]
          refine zx_iload (i := 5) dX7_chooseMode_37 rfl ?_
          refine zx_iload (i := 4) dX7_chooseMode_39 rfl ?_
          refine zx_icmp_ge (tgt := 76) dX7_chooseMode_41 (by decide) (fun h41 => ?_) (fun h41 => absurd (by omega) h41)
          refine zx_null dX7_chooseMode_76 ?_
          refine zx_areturn dX7_chooseMode_77 rfl (Or.inl ⟨_, rfl⟩) ?_
          exact zr_v rfl rfl
        | succ n ih =>
          intro q o6 hq
          obtain ⟨m, hm⟩ : ∃ m, (R.2.2.2.1 y).2.2.1.2[q]? = some m := ⟨_, List.getElem?_eq_getElem (by omega)⟩
          have hmm : w.1 m = some (5, 0, moF (R.2.2.2.2.1 m)) := hMo m (hsm m (List.mem_of_getElem? hm))
          rw [drop_cons hm]
          by_cases ha : aiK gr.2.2.2.2 (R.2.2.2.2.1 m).2.2.1 kn gr.2.2.1.toNat 0 = true
          · rw [List.find?_cons_of_pos (p := (fun m => aiK gr.2.2.2.2 (R.2.2.2.2.1 m).2.2.1 kn gr.2.2.1.toNat 0)) ha]
            refine zx_iload (i := 5) dX7_chooseMode_37 rfl ?_
            refine zx_iload (i := 4) dX7_chooseMode_39 rfl ?_
            refine zx_icmp_ge (tgt := 76) dX7_chooseMode_41 (by decide) (fun h41 => absurd h41 (by omega)) (fun h41 => ?_)
            refine zx_aload_n (i := 3) dX7_chooseMode_44 rfl rfl ?_
            refine zx_iload (i := 5) dX7_chooseMode_45 rfl ?_
            refine zx_iv (b := y) (As := [zI (q : Int)]) (st := []) (v := (some (zR m))) (w1 := w) dX7_chooseMode_47 zc_X7_40 hpy rfl rfl rfl (Nat.le_of_ble_eq_true rfl) rfl (by have h := c_X6_modeAt (G := G) (d := d + 1) hpy hml helM (q : Int); rw [lAt_in (by omega) (by rw [Int.toNat_natCast]; exact hm)] at h; exact h) ?_
            refine zx_st (st1 := [zR m]) rfl ?_
            refine zx_astore (i := 6) dX7_chooseMode_50 (by decide) rfl ?_
            refine zx_L (L1 := [some (zR pg), some (zR g), some (zI kn), some (zR y), some (zI ((R.2.2.2.1 y).2.2.1.2.length : Int)), some (zI (q : Int)), some (zR m)]) rfl ?_
            refine zx_aload (i := 6) dX7_chooseMode_52 rfl ?_
            refine zx_ifnull (tgt := 70) dX7_chooseMode_54 (by decide) (fun h => by cases h) (fun _ => ?_)
            refine zx_aload_n (i := 1) dX7_chooseMode_57 rfl rfl ?_
            refine zx_aload (i := 6) dX7_chooseMode_58 rfl ?_
            refine zx_pc (pc1 := 60) rfl ?_
            refine zx_iload_n (i := 2) dX7_chooseMode_60 rfl rfl ?_
            refine zx_is (As := [zR g, zR m, zI kn]) (st := []) (v := (some (zI (zB (aiK gr.2.2.2.2 (R.2.2.2.2.1 m).2.2.1 kn gr.2.2.1.toNat 0 = true))))) (w1 := w) dX7_chooseMode_61 zc_X7_171 rfl (Nat.le_of_ble_eq_true rfl) rfl (c_X7_areInputsKnown hg hv hx hgn hmm kn) ?_
            refine zx_st (st1 := [zI (zB (aiK gr.2.2.2.2 (R.2.2.2.2.1 m).2.2.1 kn gr.2.2.1.toNat 0 = true))]) rfl ?_
            refine zx_if_eq (tgt := 70) dX7_chooseMode_64 (by decide) (fun h64 => absurd h64 (by rw [zB_t ha]; decide)) (fun h64 => ?_)
            refine zx_aload (i := 6) dX7_chooseMode_67 rfl ?_
            refine zx_areturn dX7_chooseMode_69 rfl (Or.inl ⟨_, rfl⟩) ?_
            exact zr_v rfl rfl
          · rw [List.find?_cons_of_neg (p := (fun m => aiK gr.2.2.2.2 (R.2.2.2.2.1 m).2.2.1 kn gr.2.2.1.toNat 0)) ha]
            refine zx_iload (i := 5) dX7_chooseMode_37 rfl ?_
            refine zx_iload (i := 4) dX7_chooseMode_39 rfl ?_
            refine zx_icmp_ge (tgt := 76) dX7_chooseMode_41 (by decide) (fun h41 => absurd h41 (by omega)) (fun h41 => ?_)
            refine zx_aload_n (i := 3) dX7_chooseMode_44 rfl rfl ?_
            refine zx_iload (i := 5) dX7_chooseMode_45 rfl ?_
            refine zx_iv (b := y) (As := [zI (q : Int)]) (st := []) (v := (some (zR m))) (w1 := w) dX7_chooseMode_47 zc_X7_40 hpy rfl rfl rfl (Nat.le_of_ble_eq_true rfl) rfl (by have h := c_X6_modeAt (G := G) (d := d + 1) hpy hml helM (q : Int); rw [lAt_in (by omega) (by rw [Int.toNat_natCast]; exact hm)] at h; exact h) ?_
            refine zx_st (st1 := [zR m]) rfl ?_
            refine zx_astore (i := 6) dX7_chooseMode_50 (by decide) rfl ?_
            refine zx_L (L1 := [some (zR pg), some (zR g), some (zI kn), some (zR y), some (zI ((R.2.2.2.1 y).2.2.1.2.length : Int)), some (zI (q : Int)), some (zR m)]) rfl ?_
            refine zx_aload (i := 6) dX7_chooseMode_52 rfl ?_
            refine zx_ifnull (tgt := 70) dX7_chooseMode_54 (by decide) (fun h => by cases h) (fun _ => ?_)
            refine zx_aload_n (i := 1) dX7_chooseMode_57 rfl rfl ?_
            refine zx_aload (i := 6) dX7_chooseMode_58 rfl ?_
            refine zx_pc (pc1 := 60) rfl ?_
            refine zx_iload_n (i := 2) dX7_chooseMode_60 rfl rfl ?_
            refine zx_is (As := [zR g, zR m, zI kn]) (st := []) (v := (some (zI (zB (aiK gr.2.2.2.2 (R.2.2.2.2.1 m).2.2.1 kn gr.2.2.1.toNat 0 = true))))) (w1 := w) dX7_chooseMode_61 zc_X7_171 rfl (Nat.le_of_ble_eq_true rfl) rfl (c_X7_areInputsKnown hg hv hx hgn hmm kn) ?_
            refine zx_st (st1 := [zI (zB (aiK gr.2.2.2.2 (R.2.2.2.2.1 m).2.2.1 kn gr.2.2.1.toNat 0 = true))]) rfl ?_
            refine zx_if_eq (tgt := 70) dX7_chooseMode_64 (by decide) (fun h64 => ?_) (fun h64 => absurd (zB_f ha) h64)
            refine zx_iinc (i := 5) (v := ((q + 1 : Nat) : Int)) dX7_chooseMode_70 rfl (zw_eq (by omega) (by omega) (by omega)) (by decide) rfl ?_
            refine zx_L (L1 := [some (zR pg), some (zR g), some (zI kn), some (zR y), some (zI ((R.2.2.2.1 y).2.2.1.2.length : Int)), some (zI ((q + 1 : Nat) : Int)), some (zR m)]) rfl ?_
            refine zx_goto (tgt := 37) dX7_chooseMode_73 (by decide) ?_
            exact ih (q + 1) _ (by omega)
      have h0 := loop (R.2.2.2.1 y).2.2.1.2.length 0 none (by omega)
      rw [List.drop_zero] at h0
      refine zx_aload_n (i := 1) dX7_chooseMode_0 rfl rfl ?_
      refine zx_iv (b := g) (As := []) (st := []) (v := (some (zI (zB (gr.1 = 2 ∨ gr.1 = 3))))) (w1 := w) dX7_chooseMode_1 zc_X7_162 hg rfl rfl rfl (Nat.le_of_ble_eq_true rfl) rfl (c_X3_isCalling hg) ?_
      refine zx_st (st1 := [zI (zB (gr.1 = 2 ∨ gr.1 = 3))]) rfl ?_
      refine zx_if_eq (tgt := 18) dX7_chooseMode_4 (by decide) (fun h4 => absurd h4 (by rw [zB_t hc]; decide)) (fun h4 => ?_)
      refine zx_aload_n (i := 0) dX7_chooseMode_7 rfl rfl ?_
      refine zx_aload_n (i := 1) dX7_chooseMode_8 rfl rfl ?_
      refine zx_getfield dX7_chooseMode_9 zf_X7_165 hg rfl ?_
      refine zx_iv (b := pg) (As := [zI gr.2.1]) (st := []) (v := (some (zR y))) (w1 := w) dX7_chooseMode_12 zc_X7_36 hpg rfl rfl rfl (Nat.le_of_ble_eq_true rfl) rfl (by have q := c_X7_predicateAt (G := G) (d := d + 1) hpg hps helP gr.2.1; rw [hy] at q; exact q) ?_
      refine zx_st (st1 := [zR y]) rfl ?_
      refine zx_goto (tgt := 19) dX7_chooseMode_15 (by decide) ?_
      refine zx_astore_n (i := 3) dX7_chooseMode_19 rfl (by decide) rfl ?_
      refine zx_L (L1 := [some (zR pg), some (zR g), some (zI kn), some (zR y), none, none, none]) rfl ?_
      refine zx_aload_n (i := 3) dX7_chooseMode_20 rfl rfl ?_
      refine zx_ifnonnull (tgt := 28) dX7_chooseMode_21 (by decide) (fun _ => ?_) (fun h => by cases h)
      refine zx_pc (pc1 := 28) rfl ?_
      refine zx_aload_n (i := 3) dX7_chooseMode_28 rfl rfl ?_
      refine zx_iv (b := y) (As := []) (st := []) (v := (some (zI ((R.2.2.2.1 y).2.2.1.2.length : Int)))) (w1 := w) dX7_chooseMode_29 zc_X7_168 hpy rfl rfl rfl (Nat.le_of_ble_eq_true rfl) rfl (c_X6_modeCount hpy hml) ?_
      refine zx_st (st1 := [zI ((R.2.2.2.1 y).2.2.1.2.length : Int)]) rfl ?_
      refine zx_istore (i := 4) dX7_chooseMode_32 (by decide) rfl ?_
      refine zx_L (L1 := [some (zR pg), some (zR g), some (zI kn), some (zR y), some (zI ((R.2.2.2.1 y).2.2.1.2.length : Int)), none, none]) rfl ?_
      refine zx_iconst (v := 0) dX7_chooseMode_34 rfl (z32_lit (by decide) (by decide)) ?_
      refine zx_istore (i := 5) dX7_chooseMode_35 (by decide) rfl ?_
      refine zx_L (L1 := [some (zR pg), some (zR g), some (zI kn), some (zR y), some (zI ((R.2.2.2.1 y).2.2.1.2.length : Int)), some (zI 0), none]) rfl ?_
      exact h0
  · rw [chM_n hc]
    refine zx_aload_n (i := 1) dX7_chooseMode_0 rfl rfl ?_
    refine zx_iv (b := g) (As := []) (st := []) (v := (some (zI (zB (gr.1 = 2 ∨ gr.1 = 3))))) (w1 := w) dX7_chooseMode_1 zc_X7_162 hg rfl rfl rfl (Nat.le_of_ble_eq_true rfl) rfl (c_X3_isCalling hg) ?_
    refine zx_st (st1 := [zI (zB (gr.1 = 2 ∨ gr.1 = 3))]) rfl ?_
    refine zx_if_eq (tgt := 18) dX7_chooseMode_4 (by decide) (fun h4 => ?_) (fun h4 => absurd (zB_f hc) h4)
    refine zx_null dX7_chooseMode_18 ?_
    refine zx_astore_n (i := 3) dX7_chooseMode_19 rfl (by decide) rfl ?_
    refine zx_L (L1 := [some (zR pg), some (zR g), some (zI kn), some (zN), none, none, none]) rfl ?_
    refine zx_aload_n (i := 3) dX7_chooseMode_20 rfl rfl ?_
    refine zx_ifnonnull (tgt := 28) dX7_chooseMode_21 (by decide) (fun h => absurd rfl h) (fun _ => ?_)
    refine zx_iconst (v := 0) dX7_chooseMode_24 rfl (z32_lit (by decide) (by decide)) ?_
    refine zx_goto (tgt := 32) dX7_chooseMode_25 (by decide) ?_
    refine zx_istore (i := 4) dX7_chooseMode_32 (by decide) rfl ?_
    refine zx_L (L1 := [some (zR pg), some (zR g), some (zI kn), some (zN), some (zI 0), none, none]) rfl ?_
    refine zx_iconst (v := 0) dX7_chooseMode_34 rfl (z32_lit (by decide) (by decide)) ?_
    refine zx_pc (pc1 := 35) rfl ?_
    refine zx_istore (i := 5) dX7_chooseMode_35 (by decide) rfl ?_
    refine zx_L (L1 := [some (zR pg), some (zR g), some (zI kn), some (zN), some (zI 0), some (zI 0), none]) rfl ?_
    refine zx_iload (i := 5) dX7_chooseMode_37 rfl ?_
    refine zx_iload (i := 4) dX7_chooseMode_39 rfl ?_
    refine zx_icmp_ge (tgt := 76) dX7_chooseMode_41 (by decide) (fun h41 => ?_) (fun h41 => absurd (by decide) h41)
    refine zx_null dX7_chooseMode_76 ?_
    refine zx_areturn dX7_chooseMode_77 rfl (Or.inl ⟨_, rfl⟩) ?_
    exact zr_v rfl rfl
end CPG
