/-! Own rows: the compiler's looks at ORDERS. Walked by program (wip/p37/m_found.py). -/
def odA (r : clR) (m q : Int) : Option Nat := if 0 ≤ csl r.2.2.2.2.1.1 m q then r.2.2.2.2.2.1.getD (csl r.2.2.2.2.1.1 m q).toNat none else none
def chA (r : clR) (m q : Int) : Option Nat := if 0 ≤ csl r.2.2.2.2.1.1 m q then r.2.2.2.2.2.2.getD (csl r.2.2.2.2.1.1 m q).toNat none else none
def knA (r : clR) (m q : Int) : Int := if 0 ≤ csl r.2.2.2.2.1.1 m q then r.2.2.2.2.1.2.2.getD (csl r.2.2.2.2.1.1 m q).toNat 0 else 0
/-- what stands in orders: goals of the clause, modes of the program; lengths -/
def pgO (R : pgR) : Prop := ∀ c ∈ R.2.2.1.2.2, (∀ g, some g ∈ (R.2.2.2.2.2.1 c).2.2.2.2.2.1 → g ∈ (R.2.2.2.2.2.1 c).2.2.2.1.2) ∧ (∀ x, some x ∈ (R.2.2.2.2.2.1 c).2.2.2.2.2.2 → x ∈ R.2.2.1.2.1) ∧ ∀ x ∈ (R.2.2.2.2.2.1 c).2.2.2.2.1.1, 0 ≤ x ∧ x ≤ 5
theorem getD_mem {os : List (Option Nat)} {i y : Nat} (h : os.getD i none = some y) : some y ∈ os := by
  rw [List.getD_eq_getElem?_getD] at h
  cases e : os[i]? with
  | none => rw [e] at h; cases h
  | some o => rw [e] at h; cases h; exact List.mem_of_getElem? e
theorem odA_mem {r : clR} {m q : Int} {y : Nat} (h : odA r m q = some y) : some y ∈ r.2.2.2.2.2.1 := by
  unfold odA at h
  split at h
  · exact getD_mem h
  · cases h
theorem chA_mem {r : clR} {m q : Int} {y : Nat} (h : chA r m q = some y) : some y ∈ r.2.2.2.2.2.2 := by
  unfold chA at h
  split at h
  · exact getD_mem h
  · cases h
theorem cln_le {LE : List Int} {m : Int} (h : ∀ x ∈ LE, 0 ≤ x ∧ x ≤ 5) : 0 ≤ cln LE m ∧ cln LE m ≤ 5 := by
  unfold cln
  split
  · rw [List.getD_eq_getElem?_getD]
    cases e : LE[m.toNat]? with
    | none => simp
    | some x => exact h x (List.mem_of_getElem? e)
  · simp
/-- a mode that isn't good is chosen at a place of an order -/
def cbP (R : pgR) (r : clR) (m : Int) : Nat → Nat → Bool
  | 0, _ => false
  | n + 1, q => (match chA r m (q : Int) with | some x => decide ((R.2.2.2.2.1 x).2.2.2.2.2.1 = 0) | none => false) || cbP R r m n (q + 1)
theorem cbP_n {R : pgR} {r : clR} {m : Int} {n q : Nat} (h : chA r m (q : Int) = none) : cbP R r m (n + 1) q = cbP R r m n (q + 1) := by
  show ((match chA r m (q : Int) with | some x => decide ((R.2.2.2.2.1 x).2.2.2.2.2.1 = 0) | none => false) || cbP R r m n (q + 1)) = _
  rw [h]; rfl
theorem cbP_s {R : pgR} {r : clR} {m : Int} {n q x : Nat} (h : chA r m (q : Int) = some x) : cbP R r m (n + 1) q = (decide ((R.2.2.2.2.1 x).2.2.2.2.2.1 = 0) || cbP R r m n (q + 1)) := by
  show ((match chA r m (q : Int) with | some x => decide ((R.2.2.2.2.1 x).2.2.2.2.2.1 = 0) | none => false) || cbP R r m n (q + 1)) = _
  rw [h]
def cbC (R : pgR) (m : Int) (c : Nat) : Bool := cbP R (R.2.2.2.2.2.1 c) m (cln (R.2.2.2.2.2.1 c).2.2.2.2.1.1 m).toNat 0
/-- a call that can repeat stands at a place of an order -/
def crP (R : pgR) (r : clR) (m : Int) : Nat → Nat → Bool
  | 0, _ => false
  | n + 1, q => (match odA r m (q : Int), chA r m (q : Int) with | some g, some x => decide ((R.2.2.2.2.2.2 g).1 = 2 ∧ (R.2.2.2.2.1 x).2.2.2.2.2.2.2.1 ≠ 0) | _, _ => false) || crP R r m n (q + 1)
theorem crP_n {R : pgR} {r : clR} {m : Int} {n q : Nat} (h : odA r m (q : Int) = none) : crP R r m (n + 1) q = crP R r m n (q + 1) := by
  show ((match odA r m (q : Int), chA r m (q : Int) with | some g, some x => decide ((R.2.2.2.2.2.2 g).1 = 2 ∧ (R.2.2.2.2.1 x).2.2.2.2.2.2.2.1 ≠ 0) | _, _ => false) || crP R r m n (q + 1)) = _
  rw [h]; rfl
theorem crP_o {R : pgR} {r : clR} {m : Int} {n q g : Nat} (h0 : odA r m (q : Int) = some g) (h : chA r m (q : Int) = none) : crP R r m (n + 1) q = crP R r m n (q + 1) := by
  show ((match odA r m (q : Int), chA r m (q : Int) with | some g, some x => decide ((R.2.2.2.2.2.2 g).1 = 2 ∧ (R.2.2.2.2.1 x).2.2.2.2.2.2.2.1 ≠ 0) | _, _ => false) || crP R r m n (q + 1)) = _
  rw [h0, h]; rfl
theorem crP_s {R : pgR} {r : clR} {m : Int} {n q g x : Nat} (h0 : odA r m (q : Int) = some g) (h : chA r m (q : Int) = some x) : crP R r m (n + 1) q = (decide ((R.2.2.2.2.2.2 g).1 = 2 ∧ (R.2.2.2.2.1 x).2.2.2.2.2.2.2.1 ≠ 0) || crP R r m n (q + 1)) := by
  show ((match odA r m (q : Int), chA r m (q : Int) with | some g, some x => decide ((R.2.2.2.2.2.2 g).1 = 2 ∧ (R.2.2.2.2.1 x).2.2.2.2.2.2.2.1 ≠ 0) | _, _ => false) || crP R r m n (q + 1)) = _
  rw [h0, h]
def crC (R : pgR) (m : Int) (c : Nat) : Bool := crP R (R.2.2.2.2.2.1 c) m (cln (R.2.2.2.2.2.1 c).2.2.2.2.1.1 m).toNat 0
section CFOUND
variable {G : zG} {d : Nat} {w : zW} {pg : Nat} {R : pgR}
theorem c_X7_choosesBad (hP : pgW w pg R) (hO : pgO R) {md pr m : Nat} {CL : List Nat} {ins pm lo gd cf cr sw : Int} (hm : md ∈ R.2.2.1.2.1) (hmr : R.2.2.2.2.1 md = (pr, (m : Int), ins, pm, lo, gd, cf, cr, sw)) (hpr : pr ∈ R.2.2.1.1) (hCL : (R.2.2.2.1 pr).2.2.2.2 = CL) (hlen : CL.length < 1000) : zM G zm_X7_choosesBad (d + 5) [zR md] w (zRet (some (zI (zB ((CL).any (cbC R (m : Int)) = true)))) w) := by
  refine zx_ent (by decide +kernel) rfl (Nat.le_of_ble_eq_true rfl) ?_
  obtain ⟨-, -, -, -, hPr, hMo, hCl⟩ := id hP
  have hmd := hMo md hm
  unfold moW at hmd
  rw [hmr] at hmd
  obtain ⟨⟨hpy, htt, hml, hcl⟩, -, hsub, -⟩ := hPr pr hpr
  rw [hCL] at hsub
  have helC : ∀ y ∈ (R.2.2.2.1 pr).2.2.2.2, ∃ a b, w.1 y = some ((1, a, b) : zO) := by
    rw [hCL]
    exact fun y hy => ⟨_, _, (hCl y (hsub y hy)).1.1⟩
  have loop : ∀ (n i : Nat) (o2 o3 o4 o5 : Option zV), i + n = CL.length → zX G zm_X7_choosesBad (d + 5) [zR md] w (zRet (some (zI (zB ((CL.drop i).any (cbC R (m : Int)) = true)))) w) 2 [some (zR md), some (zI (i : Int)), o2, o3, o4, o5] [] w := by
    intro n
    induction n with
    | zero =>
      intro i o2 o3 o4 o5 hi
      rw [List.drop_eq_nil_of_le (by omega)]
      refine zx_iload_n (i := 1) dX7_choosesBad_2 rfl rfl ?_
      refine zx_aload_n (i := 0) dX7_choosesBad_3 rfl rfl ?_
      refine zx_getfield dX7_choosesBad_4 zf_X7_102 hmd rfl ?_
      refine zx_iv (b := pr) (As := []) (st := [zI (i : Int)]) (v := (some (zI (CL.length : Int)))) (w1 := w) dX7_choosesBad_7 zc_X7_106 hpy rfl rfl rfl (Nat.le_of_ble_eq_true rfl) rfl (by have h := c_X6_clauseCount (G := G) (d := d + 3) hpy hcl; rw [hCL] at h; exact h) ?_
      refine zx_st (st1 := [zI (CL.length : Int), zI (i : Int)]) rfl ?_
      refine zx_icmp_ge (tgt := 87) dX7_choosesBad_10 (by decide) (fun h10 => ?_) (fun h10 => absurd (by omega) h10)
      refine zx_iconst (v := 0) dX7_choosesBad_87 rfl (z32_lit (by decide) (by decide)) ?_
      refine zx_zret dX7_choosesBad_88 rfl (by first | exact Or.inl rfl | exact Or.inr rfl | exact zB_or | assumption) ?_
      exact zr_f (by simp)
    | succ n ih =>
      intro i o2 o3 o4 o5 hi
      obtain ⟨c, hci⟩ : ∃ c, CL[i]? = some c := ⟨_, List.getElem?_eq_getElem (by omega)⟩
      have hcs : c ∈ R.2.2.1.2.2 := hsub c (List.mem_of_getElem? hci)
      have hC := (hCl c hcs).1
      obtain ⟨-, hO2, hO3⟩ := hO c hcs
      have hpl := cln_le (m := (m : Int)) hO3
      rw [drop_cons hci, List.any_cons]
      have inner : ∀ (n2 q : Nat) (o5 : Option zV), ((cln (R.2.2.2.2.2.1 c).2.2.2.2.1.1 (m : Int)) - (q : Int)).toNat = n2 → zX G zm_X7_choosesBad (d + 5) [zR md] w (zRet (some (zI (zB ((cbP R (R.2.2.2.2.2.1 c) (m : Int) n2 q || (CL.drop (i + 1)).any (cbC R (m : Int))) = true)))) w) 42 [some (zR md), some (zI (i : Int)), some (zR c), some (zI (cln (R.2.2.2.2.2.1 c).2.2.2.2.1.1 (m : Int))), some (zI (q : Int)), o5] [] w := by
        intro n2
        induction n2 with
        | zero =>
          intro q o5 hq
          refine zx_iload (i := 4) dX7_choosesBad_42 rfl ?_
          refine zx_iload_n (i := 3) dX7_choosesBad_44 rfl rfl ?_
          refine zx_icmp_ge (tgt := 81) dX7_choosesBad_45 (by decide) (fun h45 => ?_) (fun h45 => absurd (by omega) h45)
          refine zx_iinc (i := 1) (v := ((i + 1 : Nat) : Int)) dX7_choosesBad_81 rfl (zw_eq (by omega) (by omega) (by omega)) (by decide) rfl ?_
          refine zx_L (L1 := [some (zR md), some (zI ((i + 1 : Nat) : Int)), some (zR c), some (zI (cln (R.2.2.2.2.2.1 c).2.2.2.2.1.1 (m : Int))), some (zI (q : Int)), o5]) rfl ?_
          refine zx_goto (tgt := 2) dX7_choosesBad_84 (by decide) ?_
          exact ih (i + 1) _ _ _ _ (by omega)
        | succ n2 ihn =>
          intro q o5 hq
          cases hch : chA (R.2.2.2.2.2.1 c) (m : Int) (q : Int) with
          | none =>
            rw [cbP_n hch]
            refine zx_iload (i := 4) dX7_choosesBad_42 rfl ?_
            refine zx_iload_n (i := 3) dX7_choosesBad_44 rfl rfl ?_
            refine zx_icmp_ge (tgt := 81) dX7_choosesBad_45 (by decide) (fun h45 => absurd h45 (by omega)) (fun h45 => ?_)
            refine zx_aload_n (i := 2) dX7_choosesBad_48 rfl rfl ?_
            refine zx_aload_n (i := 0) dX7_choosesBad_49 rfl rfl ?_
            refine zx_getfield dX7_choosesBad_50 zf_X7_57 hmd rfl ?_
            refine zx_iload (i := 4) dX7_choosesBad_53 rfl ?_
            refine zx_iv (b := c) (As := [zI (m : Int), zI (q : Int)]) (st := []) (v := (some (zN))) (w1 := w) dX7_choosesBad_55 zc_X7_191 hC.1 rfl rfl rfl (Nat.le_of_ble_eq_true rfl) rfl (by have h := c_X1_chosenIn (G := G) (d := d + 3) hC (m : Int) (q : Int); rw [show (if 0 ≤ csl (R.2.2.2.2.2.1 c).2.2.2.2.1.1 (m : Int) (q : Int) then (R.2.2.2.2.2.1 c).2.2.2.2.2.2.getD (csl (R.2.2.2.2.2.1 c).2.2.2.2.1.1 (m : Int) (q : Int)).toNat none else none) = _ from hch] at h; exact h) ?_
            refine zx_st (st1 := [zN]) rfl ?_
            refine zx_astore (i := 5) dX7_choosesBad_58 (by decide) rfl ?_
            refine zx_L (L1 := [some (zR md), some (zI (i : Int)), some (zR c), some (zI (cln (R.2.2.2.2.2.1 c).2.2.2.2.1.1 (m : Int))), some (zI (q : Int)), some (zN)]) rfl ?_
            refine zx_aload (i := 5) dX7_choosesBad_60 rfl ?_
            refine zx_ifnull (tgt := 75) dX7_choosesBad_62 (by decide) (fun _ => ?_) (fun h => absurd rfl h)
            refine zx_pc (pc1 := 75) rfl ?_
            refine zx_iinc (i := 4) (v := ((q + 1 : Nat) : Int)) dX7_choosesBad_75 rfl (zw_eq (by omega) (by omega) (by omega)) (by decide) rfl ?_
            refine zx_L (L1 := [some (zR md), some (zI (i : Int)), some (zR c), some (zI (cln (R.2.2.2.2.2.1 c).2.2.2.2.1.1 (m : Int))), some (zI ((q + 1 : Nat) : Int)), some (zN)]) rfl ?_
            refine zx_goto (tgt := 42) dX7_choosesBad_78 (by decide) ?_
            exact ihn (q + 1) _ (by omega)
          | some x =>
            have hx := hMo x (hO2 x (chA_mem hch))
            by_cases hg : (R.2.2.2.2.1 x).2.2.2.2.2.1 = 0
            · rw [cbP_s hch, show decide ((R.2.2.2.2.1 x).2.2.2.2.2.1 = 0) = true from decide_eq_true hg]
              refine zx_iload (i := 4) dX7_choosesBad_42 rfl ?_
              refine zx_iload_n (i := 3) dX7_choosesBad_44 rfl rfl ?_
              refine zx_icmp_ge (tgt := 81) dX7_choosesBad_45 (by decide) (fun h45 => absurd h45 (by omega)) (fun h45 => ?_)
              refine zx_aload_n (i := 2) dX7_choosesBad_48 rfl rfl ?_
              refine zx_aload_n (i := 0) dX7_choosesBad_49 rfl rfl ?_
              refine zx_getfield dX7_choosesBad_50 zf_X7_57 hmd rfl ?_
              refine zx_iload (i := 4) dX7_choosesBad_53 rfl ?_
              refine zx_iv (b := c) (As := [zI (m : Int), zI (q : Int)]) (st := []) (v := (some (zR x))) (w1 := w) dX7_choosesBad_55 zc_X7_191 hC.1 rfl rfl rfl (Nat.le_of_ble_eq_true rfl) rfl (by have h := c_X1_chosenIn (G := G) (d := d + 3) hC (m : Int) (q : Int); rw [show (if 0 ≤ csl (R.2.2.2.2.2.1 c).2.2.2.2.1.1 (m : Int) (q : Int) then (R.2.2.2.2.2.1 c).2.2.2.2.2.2.getD (csl (R.2.2.2.2.2.1 c).2.2.2.2.1.1 (m : Int) (q : Int)).toNat none else none) = _ from hch] at h; exact h) ?_
              refine zx_st (st1 := [zR x]) rfl ?_
              refine zx_astore (i := 5) dX7_choosesBad_58 (by decide) rfl ?_
              refine zx_L (L1 := [some (zR md), some (zI (i : Int)), some (zR c), some (zI (cln (R.2.2.2.2.2.1 c).2.2.2.2.1.1 (m : Int))), some (zI (q : Int)), some (zR x)]) rfl ?_
              refine zx_aload (i := 5) dX7_choosesBad_60 rfl ?_
              refine zx_ifnull (tgt := 75) dX7_choosesBad_62 (by decide) (fun h => by cases h) (fun _ => ?_)
              refine zx_pc (pc1 := 65) rfl ?_
              refine zx_aload (i := 5) dX7_choosesBad_65 rfl ?_
              refine zx_getfield dX7_choosesBad_67 zf_X7_70 hx rfl ?_
              refine zx_if_ne (tgt := 75) dX7_choosesBad_70 (by decide) (fun h70 => absurd h70 (not_not_intro hg)) (fun h70 => ?_)
              refine zx_iconst (v := 1) dX7_choosesBad_73 rfl (z32_lit (by decide) (by decide)) ?_
              refine zx_zret dX7_choosesBad_74 rfl (by first | exact Or.inl rfl | exact Or.inr rfl | exact zB_or | assumption) ?_
              exact zr_t rfl
            · rw [cbP_s hch, show decide ((R.2.2.2.2.1 x).2.2.2.2.2.1 = 0) = false from decide_eq_false hg, Bool.false_or]
              refine zx_iload (i := 4) dX7_choosesBad_42 rfl ?_
              refine zx_iload_n (i := 3) dX7_choosesBad_44 rfl rfl ?_
              refine zx_icmp_ge (tgt := 81) dX7_choosesBad_45 (by decide) (fun h45 => absurd h45 (by omega)) (fun h45 => ?_)
              refine zx_aload_n (i := 2) dX7_choosesBad_48 rfl rfl ?_
              refine zx_aload_n (i := 0) dX7_choosesBad_49 rfl rfl ?_
              refine zx_getfield dX7_choosesBad_50 zf_X7_57 hmd rfl ?_
              refine zx_iload (i := 4) dX7_choosesBad_53 rfl ?_
              refine zx_iv (b := c) (As := [zI (m : Int), zI (q : Int)]) (st := []) (v := (some (zR x))) (w1 := w) dX7_choosesBad_55 zc_X7_191 hC.1 rfl rfl rfl (Nat.le_of_ble_eq_true rfl) rfl (by have h := c_X1_chosenIn (G := G) (d := d + 3) hC (m : Int) (q : Int); rw [show (if 0 ≤ csl (R.2.2.2.2.2.1 c).2.2.2.2.1.1 (m : Int) (q : Int) then (R.2.2.2.2.2.1 c).2.2.2.2.2.2.getD (csl (R.2.2.2.2.2.1 c).2.2.2.2.1.1 (m : Int) (q : Int)).toNat none else none) = _ from hch] at h; exact h) ?_
              refine zx_st (st1 := [zR x]) rfl ?_
              refine zx_astore (i := 5) dX7_choosesBad_58 (by decide) rfl ?_
              refine zx_L (L1 := [some (zR md), some (zI (i : Int)), some (zR c), some (zI (cln (R.2.2.2.2.2.1 c).2.2.2.2.1.1 (m : Int))), some (zI (q : Int)), some (zR x)]) rfl ?_
              refine zx_aload (i := 5) dX7_choosesBad_60 rfl ?_
              refine zx_ifnull (tgt := 75) dX7_choosesBad_62 (by decide) (fun h => by cases h) (fun _ => ?_)
              refine zx_pc (pc1 := 65) rfl ?_
              refine zx_aload (i := 5) dX7_choosesBad_65 rfl ?_
              refine zx_getfield dX7_choosesBad_67 zf_X7_70 hx rfl ?_
              refine zx_if_ne (tgt := 75) dX7_choosesBad_70 (by decide) (fun h70 => ?_) (fun h70 => absurd (hg) h70)
              refine zx_iinc (i := 4) (v := ((q + 1 : Nat) : Int)) dX7_choosesBad_75 rfl (zw_eq (by omega) (by omega) (by omega)) (by decide) rfl ?_
              refine zx_L (L1 := [some (zR md), some (zI (i : Int)), some (zR c), some (zI (cln (R.2.2.2.2.2.1 c).2.2.2.2.1.1 (m : Int))), some (zI ((q + 1 : Nat) : Int)), some (zR x)]) rfl ?_
              refine zx_goto (tgt := 42) dX7_choosesBad_78 (by decide) ?_
              exact ihn (q + 1) _ (by omega)
      show zX G zm_X7_choosesBad (d + 5) [zR md] w (zRet (some (zI (zB ((cbP R (R.2.2.2.2.2.1 c) (m : Int) (cln (R.2.2.2.2.2.1 c).2.2.2.2.1.1 (m : Int)).toNat 0 || (CL.drop (i + 1)).any (cbC R (m : Int))) = true)))) w) 2 _ [] w
      refine zx_iload_n (i := 1) dX7_choosesBad_2 rfl rfl ?_
      refine zx_aload_n (i := 0) dX7_choosesBad_3 rfl rfl ?_
      refine zx_getfield dX7_choosesBad_4 zf_X7_102 hmd rfl ?_
      refine zx_iv (b := pr) (As := []) (st := [zI (i : Int)]) (v := (some (zI (CL.length : Int)))) (w1 := w) dX7_choosesBad_7 zc_X7_106 hpy rfl rfl rfl (Nat.le_of_ble_eq_true rfl) rfl (by have h := c_X6_clauseCount (G := G) (d := d + 3) hpy hcl; rw [hCL] at h; exact h) ?_
      refine zx_st (st1 := [zI (CL.length : Int), zI (i : Int)]) rfl ?_
      refine zx_icmp_ge (tgt := 87) dX7_choosesBad_10 (by decide) (fun h10 => absurd h10 (by omega)) (fun h10 => ?_)
      refine zx_aload_n (i := 0) dX7_choosesBad_13 rfl rfl ?_
      refine zx_getfield dX7_choosesBad_14 zf_X7_102 hmd rfl ?_
      refine zx_iload_n (i := 1) dX7_choosesBad_17 rfl rfl ?_
      refine zx_iv (b := pr) (As := [zI (i : Int)]) (st := []) (v := (some (zR c))) (w1 := w) dX7_choosesBad_18 zc_X7_109 hpy rfl rfl rfl (Nat.le_of_ble_eq_true rfl) rfl (by have h := c_X6_clauseAt (G := G) (d := d + 1) hpy hcl helC (i : Int); rw [hCL, lAt_in (by omega) (by rw [Int.toNat_natCast]; exact hci)] at h; exact h) ?_
      refine zx_st (st1 := [zR c]) rfl ?_
      refine zx_astore_n (i := 2) dX7_choosesBad_21 rfl (by decide) rfl ?_
      refine zx_L (L1 := [some (zR md), some (zI (i : Int)), some (zR c), o3, o4, o5]) rfl ?_
      refine zx_aload_n (i := 2) dX7_choosesBad_22 rfl rfl ?_
      refine zx_pc (pc1 := 23) rfl ?_
      refine zx_ifnonnull (tgt := 30) dX7_choosesBad_23 (by decide) (fun _ => ?_) (fun h => by cases h)
      refine zx_aload_n (i := 2) dX7_choosesBad_30 rfl rfl ?_
      refine zx_aload_n (i := 0) dX7_choosesBad_31 rfl rfl ?_
      refine zx_getfield dX7_choosesBad_32 zf_X7_57 hmd rfl ?_
      refine zx_iv (b := c) (As := [zI (m : Int)]) (st := []) (v := (some (zI (cln (R.2.2.2.2.2.1 c).2.2.2.2.1.1 (m : Int))))) (w1 := w) dX7_choosesBad_35 zc_X7_188 hC.1 rfl rfl rfl (Nat.le_of_ble_eq_true rfl) rfl (c_X1_placeCount hC (m : Int)) ?_
      refine zx_st (st1 := [zI (cln (R.2.2.2.2.2.1 c).2.2.2.2.1.1 (m : Int))]) rfl ?_
      refine zx_istore_n (i := 3) dX7_choosesBad_38 rfl (by decide) rfl ?_
      refine zx_L (L1 := [some (zR md), some (zI (i : Int)), some (zR c), some (zI (cln (R.2.2.2.2.2.1 c).2.2.2.2.1.1 (m : Int))), o4, o5]) rfl ?_
      refine zx_iconst (v := 0) dX7_choosesBad_39 rfl (z32_lit (by decide) (by decide)) ?_
      refine zx_istore (i := 4) dX7_choosesBad_40 (by decide) rfl ?_
      refine zx_L (L1 := [some (zR md), some (zI (i : Int)), some (zR c), some (zI (cln (R.2.2.2.2.2.1 c).2.2.2.2.1.1 (m : Int))), some (zI 0), o5]) rfl ?_
      exact inner _ 0 _ (by omega)
  have h0 := loop CL.length 0 none none none none (by omega)
  rw [List.drop_zero] at h0
  refine zx_L (L1 := [some (zR md), none, none, none, none, none]) rfl ?_
  refine zx_iconst (v := 0) dX7_choosesBad_0 rfl (z32_lit (by decide) (by decide)) ?_
  refine zx_istore_n (i := 1) dX7_choosesBad_1 rfl (by decide) rfl ?_
  refine zx_L (L1 := [some (zR md), some (zI 0), none, none, none, none]) rfl ?_
  exact h0
theorem c_X7_canClauseRepeat (hP : pgW w pg R) (hO : pgO R) {md pr m c : Nat} {ins pm lo gd cf cr sw : Int} (hm : md ∈ R.2.2.1.2.1) (hmr : R.2.2.2.2.1 md = (pr, (m : Int), ins, pm, lo, gd, cf, cr, sw)) (hcs : c ∈ R.2.2.1.2.2) : zM G zm_X7_canClauseRepeat (d + 5) [zR c, zR md] w (zRet (some (zI (zB (crC R (m : Int) c = true)))) w) := by
  refine zx_ent (by decide +kernel) rfl (Nat.le_of_ble_eq_true rfl) ?_
  obtain ⟨-, -, -, -, hPr, hMo, hCl⟩ := id hP
  have hmd := hMo md hm
  unfold moW at hmd
  rw [hmr] at hmd
  obtain ⟨hC, hgo⟩ := hCl c hcs
  obtain ⟨hO1, hO2, hO3⟩ := hO c hcs
  have hpl := cln_le (m := (m : Int)) hO3
  have loop : ∀ (n q : Nat) (o4 o5 : Option zV), ((cln (R.2.2.2.2.2.1 c).2.2.2.2.1.1 (m : Int)) - (q : Int)).toNat = n → zX G zm_X7_canClauseRepeat (d + 5) [zR c, zR md] w (zRet (some (zI (zB (crP R (R.2.2.2.2.2.1 c) (m : Int) n q = true)))) w) 19 [some (zR c), some (zR md), some (zI (cln (R.2.2.2.2.2.1 c).2.2.2.2.1.1 (m : Int))), some (zI (q : Int)), o4, o5] [] w := by
    intro n
    induction n with
    | zero =>
      intro q o4 o5 hq
      refine zx_iload_n (i := 3) dX7_canClauseRepeat_19 rfl rfl ?_
      refine zx_iload_n (i := 2) dX7_canClauseRepeat_20 rfl rfl ?_
      refine zx_icmp_ge (tgt := 81) dX7_canClauseRepeat_21 (by decide) (fun h21 => ?_) (fun h21 => absurd (by omega) h21)
      refine zx_iconst (v := 0) dX7_canClauseRepeat_81 rfl (z32_lit (by decide) (by decide)) ?_
      refine zx_zret dX7_canClauseRepeat_82 rfl (by first | exact Or.inl rfl | exact Or.inr rfl | exact zB_or | assumption) ?_
      exact zr_f (by simp [crP])
    | succ n ih =>
      intro q o4 o5 hq
      cases hod : odA (R.2.2.2.2.2.1 c) (m : Int) (q : Int) with
      | none =>
        rw [crP_n hod]
        cases hch : chA (R.2.2.2.2.2.1 c) (m : Int) (q : Int) with
        | none =>
          refine zx_iload_n (i := 3) dX7_canClauseRepeat_19 rfl rfl ?_
          refine zx_iload_n (i := 2) dX7_canClauseRepeat_20 rfl rfl ?_
          refine zx_icmp_ge (tgt := 81) dX7_canClauseRepeat_21 (by decide) (fun h21 => absurd h21 (by omega)) (fun h21 => ?_)
          refine zx_aload_n (i := 0) dX7_canClauseRepeat_24 rfl rfl ?_
          refine zx_aload_n (i := 1) dX7_canClauseRepeat_25 rfl rfl ?_
          refine zx_getfield dX7_canClauseRepeat_26 zf_X7_57 hmd rfl ?_
          refine zx_iload_n (i := 3) dX7_canClauseRepeat_29 rfl rfl ?_
          refine zx_iv (b := c) (As := [zI (m : Int), zI (q : Int)]) (st := []) (v := (some (zN))) (w1 := w) dX7_canClauseRepeat_30 zc_X7_181 hC.1 rfl rfl rfl (Nat.le_of_ble_eq_true rfl) rfl (by have h := c_X1_goalIn (G := G) (d := d + 3) hC (m : Int) (q : Int); rw [show (if 0 ≤ csl (R.2.2.2.2.2.1 c).2.2.2.2.1.1 (m : Int) (q : Int) then (R.2.2.2.2.2.1 c).2.2.2.2.2.1.getD (csl (R.2.2.2.2.2.1 c).2.2.2.2.1.1 (m : Int) (q : Int)).toNat none else none) = _ from hod] at h; exact h) ?_
          refine zx_st (st1 := [zN]) rfl ?_
          refine zx_astore (i := 4) dX7_canClauseRepeat_33 (by decide) rfl ?_
          refine zx_L (L1 := [some (zR c), some (zR md), some (zI (cln (R.2.2.2.2.2.1 c).2.2.2.2.1.1 (m : Int))), some (zI (q : Int)), some (zN), o5]) rfl ?_
          refine zx_aload_n (i := 0) dX7_canClauseRepeat_35 rfl rfl ?_
          refine zx_aload_n (i := 1) dX7_canClauseRepeat_36 rfl rfl ?_
          refine zx_pc (pc1 := 37) rfl ?_
          refine zx_getfield dX7_canClauseRepeat_37 zf_X7_57 hmd rfl ?_
          refine zx_iload_n (i := 3) dX7_canClauseRepeat_40 rfl rfl ?_
          refine zx_iv (b := c) (As := [zI (m : Int), zI (q : Int)]) (st := []) (v := (some (zN))) (w1 := w) dX7_canClauseRepeat_41 zc_X7_191 hC.1 rfl rfl rfl (Nat.le_of_ble_eq_true rfl) rfl (by have h := c_X1_chosenIn (G := G) (d := d + 3) hC (m : Int) (q : Int); rw [show (if 0 ≤ csl (R.2.2.2.2.2.1 c).2.2.2.2.1.1 (m : Int) (q : Int) then (R.2.2.2.2.2.1 c).2.2.2.2.2.2.getD (csl (R.2.2.2.2.2.1 c).2.2.2.2.1.1 (m : Int) (q : Int)).toNat none else none) = _ from hch] at h; exact h) ?_
          refine zx_st (st1 := [zN]) rfl ?_
          refine zx_astore (i := 5) dX7_canClauseRepeat_44 (by decide) rfl ?_
          refine zx_L (L1 := [some (zR c), some (zR md), some (zI (cln (R.2.2.2.2.2.1 c).2.2.2.2.1.1 (m : Int))), some (zI (q : Int)), some (zN), some (zN)]) rfl ?_
          refine zx_aload (i := 4) dX7_canClauseRepeat_46 rfl ?_
          refine zx_ifnull (tgt := 75) dX7_canClauseRepeat_48 (by decide) (fun _ => ?_) (fun h => absurd rfl h)
          refine zx_iinc (i := 3) (v := ((q + 1 : Nat) : Int)) dX7_canClauseRepeat_75 rfl (zw_eq (by omega) (by omega) (by omega)) (by decide) rfl ?_
          refine zx_L (L1 := [some (zR c), some (zR md), some (zI (cln (R.2.2.2.2.2.1 c).2.2.2.2.1.1 (m : Int))), some (zI ((q + 1 : Nat) : Int)), some (zN), some (zN)]) rfl ?_
          refine zx_goto (tgt := 19) dX7_canClauseRepeat_78 (by decide) ?_
          exact ih (q + 1) _ _ (by omega)
        | some x =>
          refine zx_iload_n (i := 3) dX7_canClauseRepeat_19 rfl rfl ?_
          refine zx_iload_n (i := 2) dX7_canClauseRepeat_20 rfl rfl ?_
          refine zx_icmp_ge (tgt := 81) dX7_canClauseRepeat_21 (by decide) (fun h21 => absurd h21 (by omega)) (fun h21 => ?_)
          refine zx_aload_n (i := 0) dX7_canClauseRepeat_24 rfl rfl ?_
          refine zx_aload_n (i := 1) dX7_canClauseRepeat_25 rfl rfl ?_
          refine zx_getfield dX7_canClauseRepeat_26 zf_X7_57 hmd rfl ?_
          refine zx_iload_n (i := 3) dX7_canClauseRepeat_29 rfl rfl ?_
          refine zx_iv (b := c) (As := [zI (m : Int), zI (q : Int)]) (st := []) (v := (some (zN))) (w1 := w) dX7_canClauseRepeat_30 zc_X7_181 hC.1 rfl rfl rfl (Nat.le_of_ble_eq_true rfl) rfl (by have h := c_X1_goalIn (G := G) (d := d + 3) hC (m : Int) (q : Int); rw [show (if 0 ≤ csl (R.2.2.2.2.2.1 c).2.2.2.2.1.1 (m : Int) (q : Int) then (R.2.2.2.2.2.1 c).2.2.2.2.2.1.getD (csl (R.2.2.2.2.2.1 c).2.2.2.2.1.1 (m : Int) (q : Int)).toNat none else none) = _ from hod] at h; exact h) ?_
          refine zx_st (st1 := [zN]) rfl ?_
          refine zx_astore (i := 4) dX7_canClauseRepeat_33 (by decide) rfl ?_
          refine zx_L (L1 := [some (zR c), some (zR md), some (zI (cln (R.2.2.2.2.2.1 c).2.2.2.2.1.1 (m : Int))), some (zI (q : Int)), some (zN), o5]) rfl ?_
          refine zx_aload_n (i := 0) dX7_canClauseRepeat_35 rfl rfl ?_
          refine zx_aload_n (i := 1) dX7_canClauseRepeat_36 rfl rfl ?_
          refine zx_pc (pc1 := 37) rfl ?_
          refine zx_getfield dX7_canClauseRepeat_37 zf_X7_57 hmd rfl ?_
          refine zx_iload_n (i := 3) dX7_canClauseRepeat_40 rfl rfl ?_
          refine zx_iv (b := c) (As := [zI (m : Int), zI (q : Int)]) (st := []) (v := (some (zR x))) (w1 := w) dX7_canClauseRepeat_41 zc_X7_191 hC.1 rfl rfl rfl (Nat.le_of_ble_eq_true rfl) rfl (by have h := c_X1_chosenIn (G := G) (d := d + 3) hC (m : Int) (q : Int); rw [show (if 0 ≤ csl (R.2.2.2.2.2.1 c).2.2.2.2.1.1 (m : Int) (q : Int) then (R.2.2.2.2.2.1 c).2.2.2.2.2.2.getD (csl (R.2.2.2.2.2.1 c).2.2.2.2.1.1 (m : Int) (q : Int)).toNat none else none) = _ from hch] at h; exact h) ?_
          refine zx_st (st1 := [zR x]) rfl ?_
          refine zx_astore (i := 5) dX7_canClauseRepeat_44 (by decide) rfl ?_
          refine zx_L (L1 := [some (zR c), some (zR md), some (zI (cln (R.2.2.2.2.2.1 c).2.2.2.2.1.1 (m : Int))), some (zI (q : Int)), some (zN), some (zR x)]) rfl ?_
          refine zx_aload (i := 4) dX7_canClauseRepeat_46 rfl ?_
          refine zx_ifnull (tgt := 75) dX7_canClauseRepeat_48 (by decide) (fun _ => ?_) (fun h => absurd rfl h)
          refine zx_iinc (i := 3) (v := ((q + 1 : Nat) : Int)) dX7_canClauseRepeat_75 rfl (zw_eq (by omega) (by omega) (by omega)) (by decide) rfl ?_
          refine zx_L (L1 := [some (zR c), some (zR md), some (zI (cln (R.2.2.2.2.2.1 c).2.2.2.2.1.1 (m : Int))), some (zI ((q + 1 : Nat) : Int)), some (zN), some (zR x)]) rfl ?_
          refine zx_goto (tgt := 19) dX7_canClauseRepeat_78 (by decide) ?_
          exact ih (q + 1) _ _ (by omega)
      | some g =>
        have hg := hgo g (hO1 g (odA_mem hod))
        cases hch : chA (R.2.2.2.2.2.1 c) (m : Int) (q : Int) with
        | none =>
          rw [crP_o hod hch]
          by_cases hk : (R.2.2.2.2.2.2 g).1 = 2
          · refine zx_iload_n (i := 3) dX7_canClauseRepeat_19 rfl rfl ?_
            refine zx_iload_n (i := 2) dX7_canClauseRepeat_20 rfl rfl ?_
            refine zx_icmp_ge (tgt := 81) dX7_canClauseRepeat_21 (by decide) (fun h21 => absurd h21 (by omega)) (fun h21 => ?_)
            refine zx_aload_n (i := 0) dX7_canClauseRepeat_24 rfl rfl ?_
            refine zx_aload_n (i := 1) dX7_canClauseRepeat_25 rfl rfl ?_
            refine zx_getfield dX7_canClauseRepeat_26 zf_X7_57 hmd rfl ?_
            refine zx_iload_n (i := 3) dX7_canClauseRepeat_29 rfl rfl ?_
            refine zx_iv (b := c) (As := [zI (m : Int), zI (q : Int)]) (st := []) (v := (some (zR g))) (w1 := w) dX7_canClauseRepeat_30 zc_X7_181 hC.1 rfl rfl rfl (Nat.le_of_ble_eq_true rfl) rfl (by have h := c_X1_goalIn (G := G) (d := d + 3) hC (m : Int) (q : Int); rw [show (if 0 ≤ csl (R.2.2.2.2.2.1 c).2.2.2.2.1.1 (m : Int) (q : Int) then (R.2.2.2.2.2.1 c).2.2.2.2.2.1.getD (csl (R.2.2.2.2.2.1 c).2.2.2.2.1.1 (m : Int) (q : Int)).toNat none else none) = _ from hod] at h; exact h) ?_
            refine zx_st (st1 := [zR g]) rfl ?_
            refine zx_astore (i := 4) dX7_canClauseRepeat_33 (by decide) rfl ?_
            refine zx_L (L1 := [some (zR c), some (zR md), some (zI (cln (R.2.2.2.2.2.1 c).2.2.2.2.1.1 (m : Int))), some (zI (q : Int)), some (zR g), o5]) rfl ?_
            refine zx_aload_n (i := 0) dX7_canClauseRepeat_35 rfl rfl ?_
            refine zx_aload_n (i := 1) dX7_canClauseRepeat_36 rfl rfl ?_
            refine zx_pc (pc1 := 37) rfl ?_
            refine zx_getfield dX7_canClauseRepeat_37 zf_X7_57 hmd rfl ?_
            refine zx_iload_n (i := 3) dX7_canClauseRepeat_40 rfl rfl ?_
            refine zx_iv (b := c) (As := [zI (m : Int), zI (q : Int)]) (st := []) (v := (some (zN))) (w1 := w) dX7_canClauseRepeat_41 zc_X7_191 hC.1 rfl rfl rfl (Nat.le_of_ble_eq_true rfl) rfl (by have h := c_X1_chosenIn (G := G) (d := d + 3) hC (m : Int) (q : Int); rw [show (if 0 ≤ csl (R.2.2.2.2.2.1 c).2.2.2.2.1.1 (m : Int) (q : Int) then (R.2.2.2.2.2.1 c).2.2.2.2.2.2.getD (csl (R.2.2.2.2.2.1 c).2.2.2.2.1.1 (m : Int) (q : Int)).toNat none else none) = _ from hch] at h; exact h) ?_
            refine zx_st (st1 := [zN]) rfl ?_
            refine zx_astore (i := 5) dX7_canClauseRepeat_44 (by decide) rfl ?_
            refine zx_L (L1 := [some (zR c), some (zR md), some (zI (cln (R.2.2.2.2.2.1 c).2.2.2.2.1.1 (m : Int))), some (zI (q : Int)), some (zR g), some (zN)]) rfl ?_
            refine zx_aload (i := 4) dX7_canClauseRepeat_46 rfl ?_
            refine zx_ifnull (tgt := 75) dX7_canClauseRepeat_48 (by decide) (fun h => by cases h) (fun _ => ?_)
            refine zx_aload (i := 4) dX7_canClauseRepeat_51 rfl ?_
            refine zx_getfield dX7_canClauseRepeat_53 zf_X7_159 hg.1 rfl ?_
            refine zx_iconst (v := 2) dX7_canClauseRepeat_56 rfl (z32_lit (by decide) (by decide)) ?_
            refine zx_icmp_ne (tgt := 75) dX7_canClauseRepeat_57 (by decide) (fun h57 => absurd h57 (not_not_intro hk)) (fun h57 => ?_)
            refine zx_aload (i := 5) dX7_canClauseRepeat_60 rfl ?_
            refine zx_ifnull (tgt := 75) dX7_canClauseRepeat_62 (by decide) (fun _ => ?_) (fun h => absurd rfl h)
            refine zx_pc (pc1 := 75) rfl ?_
            refine zx_iinc (i := 3) (v := ((q + 1 : Nat) : Int)) dX7_canClauseRepeat_75 rfl (zw_eq (by omega) (by omega) (by omega)) (by decide) rfl ?_
            refine zx_L (L1 := [some (zR c), some (zR md), some (zI (cln (R.2.2.2.2.2.1 c).2.2.2.2.1.1 (m : Int))), some (zI ((q + 1 : Nat) : Int)), some (zR g), some (zN)]) rfl ?_
            refine zx_goto (tgt := 19) dX7_canClauseRepeat_78 (by decide) ?_
            exact ih (q + 1) _ _ (by omega)
          · refine zx_iload_n (i := 3) dX7_canClauseRepeat_19 rfl rfl ?_
            refine zx_iload_n (i := 2) dX7_canClauseRepeat_20 rfl rfl ?_
            refine zx_icmp_ge (tgt := 81) dX7_canClauseRepeat_21 (by decide) (fun h21 => absurd h21 (by omega)) (fun h21 => ?_)
            refine zx_aload_n (i := 0) dX7_canClauseRepeat_24 rfl rfl ?_
            refine zx_aload_n (i := 1) dX7_canClauseRepeat_25 rfl rfl ?_
            refine zx_getfield dX7_canClauseRepeat_26 zf_X7_57 hmd rfl ?_
            refine zx_iload_n (i := 3) dX7_canClauseRepeat_29 rfl rfl ?_
            refine zx_iv (b := c) (As := [zI (m : Int), zI (q : Int)]) (st := []) (v := (some (zR g))) (w1 := w) dX7_canClauseRepeat_30 zc_X7_181 hC.1 rfl rfl rfl (Nat.le_of_ble_eq_true rfl) rfl (by have h := c_X1_goalIn (G := G) (d := d + 3) hC (m : Int) (q : Int); rw [show (if 0 ≤ csl (R.2.2.2.2.2.1 c).2.2.2.2.1.1 (m : Int) (q : Int) then (R.2.2.2.2.2.1 c).2.2.2.2.2.1.getD (csl (R.2.2.2.2.2.1 c).2.2.2.2.1.1 (m : Int) (q : Int)).toNat none else none) = _ from hod] at h; exact h) ?_
            refine zx_st (st1 := [zR g]) rfl ?_
            refine zx_astore (i := 4) dX7_canClauseRepeat_33 (by decide) rfl ?_
            refine zx_L (L1 := [some (zR c), some (zR md), some (zI (cln (R.2.2.2.2.2.1 c).2.2.2.2.1.1 (m : Int))), some (zI (q : Int)), some (zR g), o5]) rfl ?_
            refine zx_aload_n (i := 0) dX7_canClauseRepeat_35 rfl rfl ?_
            refine zx_aload_n (i := 1) dX7_canClauseRepeat_36 rfl rfl ?_
            refine zx_pc (pc1 := 37) rfl ?_
            refine zx_getfield dX7_canClauseRepeat_37 zf_X7_57 hmd rfl ?_
            refine zx_iload_n (i := 3) dX7_canClauseRepeat_40 rfl rfl ?_
            refine zx_iv (b := c) (As := [zI (m : Int), zI (q : Int)]) (st := []) (v := (some (zN))) (w1 := w) dX7_canClauseRepeat_41 zc_X7_191 hC.1 rfl rfl rfl (Nat.le_of_ble_eq_true rfl) rfl (by have h := c_X1_chosenIn (G := G) (d := d + 3) hC (m : Int) (q : Int); rw [show (if 0 ≤ csl (R.2.2.2.2.2.1 c).2.2.2.2.1.1 (m : Int) (q : Int) then (R.2.2.2.2.2.1 c).2.2.2.2.2.2.getD (csl (R.2.2.2.2.2.1 c).2.2.2.2.1.1 (m : Int) (q : Int)).toNat none else none) = _ from hch] at h; exact h) ?_
            refine zx_st (st1 := [zN]) rfl ?_
            refine zx_astore (i := 5) dX7_canClauseRepeat_44 (by decide) rfl ?_
            refine zx_L (L1 := [some (zR c), some (zR md), some (zI (cln (R.2.2.2.2.2.1 c).2.2.2.2.1.1 (m : Int))), some (zI (q : Int)), some (zR g), some (zN)]) rfl ?_
            refine zx_aload (i := 4) dX7_canClauseRepeat_46 rfl ?_
            refine zx_ifnull (tgt := 75) dX7_canClauseRepeat_48 (by decide) (fun h => by cases h) (fun _ => ?_)
            refine zx_aload (i := 4) dX7_canClauseRepeat_51 rfl ?_
            refine zx_getfield dX7_canClauseRepeat_53 zf_X7_159 hg.1 rfl ?_
            refine zx_iconst (v := 2) dX7_canClauseRepeat_56 rfl (z32_lit (by decide) (by decide)) ?_
            refine zx_icmp_ne (tgt := 75) dX7_canClauseRepeat_57 (by decide) (fun h57 => ?_) (fun h57 => absurd (hk) h57)
            refine zx_iinc (i := 3) (v := ((q + 1 : Nat) : Int)) dX7_canClauseRepeat_75 rfl (zw_eq (by omega) (by omega) (by omega)) (by decide) rfl ?_
            refine zx_L (L1 := [some (zR c), some (zR md), some (zI (cln (R.2.2.2.2.2.1 c).2.2.2.2.1.1 (m : Int))), some (zI ((q + 1 : Nat) : Int)), some (zR g), some (zN)]) rfl ?_
            refine zx_goto (tgt := 19) dX7_canClauseRepeat_78 (by decide) ?_
            exact ih (q + 1) _ _ (by omega)
        | some x =>
          have hx := hMo x (hO2 x (chA_mem hch))
          rw [crP_s hod hch]
          by_cases hk : (R.2.2.2.2.2.2 g).1 = 2
          · by_cases hr : (R.2.2.2.2.1 x).2.2.2.2.2.2.2.1 = 0
            · rw [show decide ((R.2.2.2.2.2.2 g).1 = 2 ∧ (R.2.2.2.2.1 x).2.2.2.2.2.2.2.1 ≠ 0) = false from decide_eq_false (fun h => h.2 hr), Bool.false_or]
              refine zx_iload_n (i := 3) dX7_canClauseRepeat_19 rfl rfl ?_
              refine zx_iload_n (i := 2) dX7_canClauseRepeat_20 rfl rfl ?_
              refine zx_icmp_ge (tgt := 81) dX7_canClauseRepeat_21 (by decide) (fun h21 => absurd h21 (by omega)) (fun h21 => ?_)
              refine zx_aload_n (i := 0) dX7_canClauseRepeat_24 rfl rfl ?_
              refine zx_aload_n (i := 1) dX7_canClauseRepeat_25 rfl rfl ?_
              refine zx_getfield dX7_canClauseRepeat_26 zf_X7_57 hmd rfl ?_
              refine zx_iload_n (i := 3) dX7_canClauseRepeat_29 rfl rfl ?_
              refine zx_iv (b := c) (As := [zI (m : Int), zI (q : Int)]) (st := []) (v := (some (zR g))) (w1 := w) dX7_canClauseRepeat_30 zc_X7_181 hC.1 rfl rfl rfl (Nat.le_of_ble_eq_true rfl) rfl (by have h := c_X1_goalIn (G := G) (d := d + 3) hC (m : Int) (q : Int); rw [show (if 0 ≤ csl (R.2.2.2.2.2.1 c).2.2.2.2.1.1 (m : Int) (q : Int) then (R.2.2.2.2.2.1 c).2.2.2.2.2.1.getD (csl (R.2.2.2.2.2.1 c).2.2.2.2.1.1 (m : Int) (q : Int)).toNat none else none) = _ from hod] at h; exact h) ?_
              refine zx_st (st1 := [zR g]) rfl ?_
              refine zx_astore (i := 4) dX7_canClauseRepeat_33 (by decide) rfl ?_
              refine zx_L (L1 := [some (zR c), some (zR md), some (zI (cln (R.2.2.2.2.2.1 c).2.2.2.2.1.1 (m : Int))), some (zI (q : Int)), some (zR g), o5]) rfl ?_
              refine zx_aload_n (i := 0) dX7_canClauseRepeat_35 rfl rfl ?_
              refine zx_aload_n (i := 1) dX7_canClauseRepeat_36 rfl rfl ?_
              refine zx_pc (pc1 := 37) rfl ?_
              refine zx_getfield dX7_canClauseRepeat_37 zf_X7_57 hmd rfl ?_
              refine zx_iload_n (i := 3) dX7_canClauseRepeat_40 rfl rfl ?_
              refine zx_iv (b := c) (As := [zI (m : Int), zI (q : Int)]) (st := []) (v := (some (zR x))) (w1 := w) dX7_canClauseRepeat_41 zc_X7_191 hC.1 rfl rfl rfl (Nat.le_of_ble_eq_true rfl) rfl (by have h := c_X1_chosenIn (G := G) (d := d + 3) hC (m : Int) (q : Int); rw [show (if 0 ≤ csl (R.2.2.2.2.2.1 c).2.2.2.2.1.1 (m : Int) (q : Int) then (R.2.2.2.2.2.1 c).2.2.2.2.2.2.getD (csl (R.2.2.2.2.2.1 c).2.2.2.2.1.1 (m : Int) (q : Int)).toNat none else none) = _ from hch] at h; exact h) ?_
              refine zx_st (st1 := [zR x]) rfl ?_
              refine zx_astore (i := 5) dX7_canClauseRepeat_44 (by decide) rfl ?_
              refine zx_L (L1 := [some (zR c), some (zR md), some (zI (cln (R.2.2.2.2.2.1 c).2.2.2.2.1.1 (m : Int))), some (zI (q : Int)), some (zR g), some (zR x)]) rfl ?_
              refine zx_aload (i := 4) dX7_canClauseRepeat_46 rfl ?_
              refine zx_ifnull (tgt := 75) dX7_canClauseRepeat_48 (by decide) (fun h => by cases h) (fun _ => ?_)
              refine zx_aload (i := 4) dX7_canClauseRepeat_51 rfl ?_
              refine zx_getfield dX7_canClauseRepeat_53 zf_X7_159 hg.1 rfl ?_
              refine zx_iconst (v := 2) dX7_canClauseRepeat_56 rfl (z32_lit (by decide) (by decide)) ?_
              refine zx_icmp_ne (tgt := 75) dX7_canClauseRepeat_57 (by decide) (fun h57 => absurd h57 (not_not_intro hk)) (fun h57 => ?_)
              refine zx_aload (i := 5) dX7_canClauseRepeat_60 rfl ?_
              refine zx_ifnull (tgt := 75) dX7_canClauseRepeat_62 (by decide) (fun h => by cases h) (fun _ => ?_)
              refine zx_pc (pc1 := 65) rfl ?_
              refine zx_aload (i := 5) dX7_canClauseRepeat_65 rfl ?_
              refine zx_getfield dX7_canClauseRepeat_67 zf_X7_74 hx rfl ?_
              refine zx_if_eq (tgt := 75) dX7_canClauseRepeat_70 (by decide) (fun h70 => ?_) (fun h70 => absurd (hr) h70)
              refine zx_iinc (i := 3) (v := ((q + 1 : Nat) : Int)) dX7_canClauseRepeat_75 rfl (zw_eq (by omega) (by omega) (by omega)) (by decide) rfl ?_
              refine zx_L (L1 := [some (zR c), some (zR md), some (zI (cln (R.2.2.2.2.2.1 c).2.2.2.2.1.1 (m : Int))), some (zI ((q + 1 : Nat) : Int)), some (zR g), some (zR x)]) rfl ?_
              refine zx_goto (tgt := 19) dX7_canClauseRepeat_78 (by decide) ?_
              exact ih (q + 1) _ _ (by omega)
            · rw [show decide ((R.2.2.2.2.2.2 g).1 = 2 ∧ (R.2.2.2.2.1 x).2.2.2.2.2.2.2.1 ≠ 0) = true from decide_eq_true ⟨hk, hr⟩]
              refine zx_iload_n (i := 3) dX7_canClauseRepeat_19 rfl rfl ?_
              refine zx_iload_n (i := 2) dX7_canClauseRepeat_20 rfl rfl ?_
              refine zx_icmp_ge (tgt := 81) dX7_canClauseRepeat_21 (by decide) (fun h21 => absurd h21 (by omega)) (fun h21 => ?_)
              refine zx_aload_n (i := 0) dX7_canClauseRepeat_24 rfl rfl ?_
              refine zx_aload_n (i := 1) dX7_canClauseRepeat_25 rfl rfl ?_
              refine zx_getfield dX7_canClauseRepeat_26 zf_X7_57 hmd rfl ?_
              refine zx_iload_n (i := 3) dX7_canClauseRepeat_29 rfl rfl ?_
              refine zx_iv (b := c) (As := [zI (m : Int), zI (q : Int)]) (st := []) (v := (some (zR g))) (w1 := w) dX7_canClauseRepeat_30 zc_X7_181 hC.1 rfl rfl rfl (Nat.le_of_ble_eq_true rfl) rfl (by have h := c_X1_goalIn (G := G) (d := d + 3) hC (m : Int) (q : Int); rw [show (if 0 ≤ csl (R.2.2.2.2.2.1 c).2.2.2.2.1.1 (m : Int) (q : Int) then (R.2.2.2.2.2.1 c).2.2.2.2.2.1.getD (csl (R.2.2.2.2.2.1 c).2.2.2.2.1.1 (m : Int) (q : Int)).toNat none else none) = _ from hod] at h; exact h) ?_
              refine zx_st (st1 := [zR g]) rfl ?_
              refine zx_astore (i := 4) dX7_canClauseRepeat_33 (by decide) rfl ?_
              refine zx_L (L1 := [some (zR c), some (zR md), some (zI (cln (R.2.2.2.2.2.1 c).2.2.2.2.1.1 (m : Int))), some (zI (q : Int)), some (zR g), o5]) rfl ?_
              refine zx_aload_n (i := 0) dX7_canClauseRepeat_35 rfl rfl ?_
              refine zx_aload_n (i := 1) dX7_canClauseRepeat_36 rfl rfl ?_
              refine zx_pc (pc1 := 37) rfl ?_
              refine zx_getfield dX7_canClauseRepeat_37 zf_X7_57 hmd rfl ?_
              refine zx_iload_n (i := 3) dX7_canClauseRepeat_40 rfl rfl ?_
              refine zx_iv (b := c) (As := [zI (m : Int), zI (q : Int)]) (st := []) (v := (some (zR x))) (w1 := w) dX7_canClauseRepeat_41 zc_X7_191 hC.1 rfl rfl rfl (Nat.le_of_ble_eq_true rfl) rfl (by have h := c_X1_chosenIn (G := G) (d := d + 3) hC (m : Int) (q : Int); rw [show (if 0 ≤ csl (R.2.2.2.2.2.1 c).2.2.2.2.1.1 (m : Int) (q : Int) then (R.2.2.2.2.2.1 c).2.2.2.2.2.2.getD (csl (R.2.2.2.2.2.1 c).2.2.2.2.1.1 (m : Int) (q : Int)).toNat none else none) = _ from hch] at h; exact h) ?_
              refine zx_st (st1 := [zR x]) rfl ?_
              refine zx_astore (i := 5) dX7_canClauseRepeat_44 (by decide) rfl ?_
              refine zx_L (L1 := [some (zR c), some (zR md), some (zI (cln (R.2.2.2.2.2.1 c).2.2.2.2.1.1 (m : Int))), some (zI (q : Int)), some (zR g), some (zR x)]) rfl ?_
              refine zx_aload (i := 4) dX7_canClauseRepeat_46 rfl ?_
              refine zx_ifnull (tgt := 75) dX7_canClauseRepeat_48 (by decide) (fun h => by cases h) (fun _ => ?_)
              refine zx_aload (i := 4) dX7_canClauseRepeat_51 rfl ?_
              refine zx_getfield dX7_canClauseRepeat_53 zf_X7_159 hg.1 rfl ?_
              refine zx_iconst (v := 2) dX7_canClauseRepeat_56 rfl (z32_lit (by decide) (by decide)) ?_
              refine zx_icmp_ne (tgt := 75) dX7_canClauseRepeat_57 (by decide) (fun h57 => absurd h57 (not_not_intro hk)) (fun h57 => ?_)
              refine zx_aload (i := 5) dX7_canClauseRepeat_60 rfl ?_
              refine zx_ifnull (tgt := 75) dX7_canClauseRepeat_62 (by decide) (fun h => by cases h) (fun _ => ?_)
              refine zx_pc (pc1 := 65) rfl ?_
              refine zx_aload (i := 5) dX7_canClauseRepeat_65 rfl ?_
              refine zx_getfield dX7_canClauseRepeat_67 zf_X7_74 hx rfl ?_
              refine zx_if_eq (tgt := 75) dX7_canClauseRepeat_70 (by decide) (fun h70 => absurd h70 (hr)) (fun h70 => ?_)
              refine zx_iconst (v := 1) dX7_canClauseRepeat_73 rfl (z32_lit (by decide) (by decide)) ?_
              refine zx_zret dX7_canClauseRepeat_74 rfl (by first | exact Or.inl rfl | exact Or.inr rfl | exact zB_or | assumption) ?_
              exact zr_t rfl
          · rw [show decide ((R.2.2.2.2.2.2 g).1 = 2 ∧ (R.2.2.2.2.1 x).2.2.2.2.2.2.2.1 ≠ 0) = false from decide_eq_false (fun h => hk h.1), Bool.false_or]
            refine zx_iload_n (i := 3) dX7_canClauseRepeat_19 rfl rfl ?_
            refine zx_iload_n (i := 2) dX7_canClauseRepeat_20 rfl rfl ?_
            refine zx_icmp_ge (tgt := 81) dX7_canClauseRepeat_21 (by decide) (fun h21 => absurd h21 (by omega)) (fun h21 => ?_)
            refine zx_aload_n (i := 0) dX7_canClauseRepeat_24 rfl rfl ?_
            refine zx_aload_n (i := 1) dX7_canClauseRepeat_25 rfl rfl ?_
            refine zx_getfield dX7_canClauseRepeat_26 zf_X7_57 hmd rfl ?_
            refine zx_iload_n (i := 3) dX7_canClauseRepeat_29 rfl rfl ?_
            refine zx_iv (b := c) (As := [zI (m : Int), zI (q : Int)]) (st := []) (v := (some (zR g))) (w1 := w) dX7_canClauseRepeat_30 zc_X7_181 hC.1 rfl rfl rfl (Nat.le_of_ble_eq_true rfl) rfl (by have h := c_X1_goalIn (G := G) (d := d + 3) hC (m : Int) (q : Int); rw [show (if 0 ≤ csl (R.2.2.2.2.2.1 c).2.2.2.2.1.1 (m : Int) (q : Int) then (R.2.2.2.2.2.1 c).2.2.2.2.2.1.getD (csl (R.2.2.2.2.2.1 c).2.2.2.2.1.1 (m : Int) (q : Int)).toNat none else none) = _ from hod] at h; exact h) ?_
            refine zx_st (st1 := [zR g]) rfl ?_
            refine zx_astore (i := 4) dX7_canClauseRepeat_33 (by decide) rfl ?_
            refine zx_L (L1 := [some (zR c), some (zR md), some (zI (cln (R.2.2.2.2.2.1 c).2.2.2.2.1.1 (m : Int))), some (zI (q : Int)), some (zR g), o5]) rfl ?_
            refine zx_aload_n (i := 0) dX7_canClauseRepeat_35 rfl rfl ?_
            refine zx_aload_n (i := 1) dX7_canClauseRepeat_36 rfl rfl ?_
            refine zx_pc (pc1 := 37) rfl ?_
            refine zx_getfield dX7_canClauseRepeat_37 zf_X7_57 hmd rfl ?_
            refine zx_iload_n (i := 3) dX7_canClauseRepeat_40 rfl rfl ?_
            refine zx_iv (b := c) (As := [zI (m : Int), zI (q : Int)]) (st := []) (v := (some (zR x))) (w1 := w) dX7_canClauseRepeat_41 zc_X7_191 hC.1 rfl rfl rfl (Nat.le_of_ble_eq_true rfl) rfl (by have h := c_X1_chosenIn (G := G) (d := d + 3) hC (m : Int) (q : Int); rw [show (if 0 ≤ csl (R.2.2.2.2.2.1 c).2.2.2.2.1.1 (m : Int) (q : Int) then (R.2.2.2.2.2.1 c).2.2.2.2.2.2.getD (csl (R.2.2.2.2.2.1 c).2.2.2.2.1.1 (m : Int) (q : Int)).toNat none else none) = _ from hch] at h; exact h) ?_
            refine zx_st (st1 := [zR x]) rfl ?_
            refine zx_astore (i := 5) dX7_canClauseRepeat_44 (by decide) rfl ?_
            refine zx_L (L1 := [some (zR c), some (zR md), some (zI (cln (R.2.2.2.2.2.1 c).2.2.2.2.1.1 (m : Int))), some (zI (q : Int)), some (zR g), some (zR x)]) rfl ?_
            refine zx_aload (i := 4) dX7_canClauseRepeat_46 rfl ?_
            refine zx_ifnull (tgt := 75) dX7_canClauseRepeat_48 (by decide) (fun h => by cases h) (fun _ => ?_)
            refine zx_aload (i := 4) dX7_canClauseRepeat_51 rfl ?_
            refine zx_getfield dX7_canClauseRepeat_53 zf_X7_159 hg.1 rfl ?_
            refine zx_iconst (v := 2) dX7_canClauseRepeat_56 rfl (z32_lit (by decide) (by decide)) ?_
            refine zx_icmp_ne (tgt := 75) dX7_canClauseRepeat_57 (by decide) (fun h57 => ?_) (fun h57 => absurd (hk) h57)
            refine zx_iinc (i := 3) (v := ((q + 1 : Nat) : Int)) dX7_canClauseRepeat_75 rfl (zw_eq (by omega) (by omega) (by omega)) (by decide) rfl ?_
            refine zx_L (L1 := [some (zR c), some (zR md), some (zI (cln (R.2.2.2.2.2.1 c).2.2.2.2.1.1 (m : Int))), some (zI ((q + 1 : Nat) : Int)), some (zR g), some (zR x)]) rfl ?_
            refine zx_goto (tgt := 19) dX7_canClauseRepeat_78 (by decide) ?_
            exact ih (q + 1) _ _ (by omega)
  refine zx_L (L1 := [some (zR c), some (zR md), none, none, none, none]) rfl ?_
  refine zx_aload_n (i := 0) dX7_canClauseRepeat_0 rfl rfl ?_
  refine zx_ifnonnull (tgt := 8) dX7_canClauseRepeat_1 (by decide) (fun _ => ?_) (fun h => by cases h)
  refine zx_aload_n (i := 0) dX7_canClauseRepeat_8 rfl rfl ?_
  refine zx_aload_n (i := 1) dX7_canClauseRepeat_9 rfl rfl ?_
  refine zx_getfield dX7_canClauseRepeat_10 zf_X7_57 hmd rfl ?_
  refine zx_iv (b := c) (As := [zI (m : Int)]) (st := []) (v := (some (zI (cln (R.2.2.2.2.2.1 c).2.2.2.2.1.1 (m : Int))))) (w1 := w) dX7_canClauseRepeat_13 zc_X7_188 hC.1 rfl rfl rfl (Nat.le_of_ble_eq_true rfl) rfl (c_X1_placeCount hC (m : Int)) ?_
  refine zx_st (st1 := [zI (cln (R.2.2.2.2.2.1 c).2.2.2.2.1.1 (m : Int))]) rfl ?_
  refine zx_istore_n (i := 2) dX7_canClauseRepeat_16 rfl (by decide) rfl ?_
  refine zx_L (L1 := [some (zR c), some (zR md), some (zI (cln (R.2.2.2.2.2.1 c).2.2.2.2.1.1 (m : Int))), none, none, none]) rfl ?_
  refine zx_iconst (v := 0) dX7_canClauseRepeat_17 rfl (z32_lit (by decide) (by decide)) ?_
  refine zx_istore_n (i := 3) dX7_canClauseRepeat_18 rfl (by decide) rfl ?_
  refine zx_L (L1 := [some (zR c), some (zR md), some (zI (cln (R.2.2.2.2.2.1 c).2.2.2.2.1.1 (m : Int))), some (zI 0), none, none]) rfl ?_
  exact loop _ 0 none none (by omega)
end CFOUND
