/-! Own rows: putInOrder. Walked by program (wip/p37/m_pio.py). -/
theorem ordS_sm {R : pgR} {m : Nat} {Gs : List Nat} {r0 : clR} : ∀ {n q : Nat} {tk kn : Int} {r : clR}, clSm r0 r → clSm r0 (ordS R m Gs n q tk kn r).2.2
  | 0, _, _, _, _, h => h
  | n + 1, q, tk, kn, r, h => by
    cases hl : lAt Gs (ngN R Gs tk kn Gs.length 0) with
    | none => rw [ordS_n hl]; exact h
    | some g => rw [ordS_y hl]; exact ordS_sm (clSm_take h)
theorem ordO_sm {w : zW} {R : pgR} {m c : Nat} {ins : Int} (h : clV w c (R.2.2.2.2.2.1 c)) : clSm (R.2.2.2.2.2.1 c) (ordO R m c ins).2.2 := ordS_sm (clSm_c h)
/-- all clauses of a predicate put in order for a mode -/
def pioS (m : Nat) (ins : Int) (pr : Nat) : List Nat → Bool → zW → pgR → Bool × zW × pgR
  | [], b, w, R => (b, w, R)
  | c :: cs, b, w, R => pioS m ins pr cs (b && decide (orV (R.2.2.2.1 pr).2.1 (ordO R m c ins) ≠ 0)) (clPut w c (ordO R m c ins).2.2) (pgSetC R c (ordO R m c ins).2.2)
theorem pioS_c {m : Nat} {ins : Int} {pr c : Nat} {cs : List Nat} {b : Bool} {w : zW} {R : pgR} : pioS m ins pr (c :: cs) b w R = pioS m ins pr cs (b && decide (orV (R.2.2.2.1 pr).2.1 (ordO R m c ins) ≠ 0)) (clPut w c (ordO R m c ins).2.2) (pgSetC R c (ordO R m c ins).2.2) := rfl
theorem pioS_pg {m : Nat} {ins : Int} {pr pg : Nat} : ∀ {cs : List Nat} {b : Bool} {w : zW} {R : pgR}, pgW w pg R → (∀ c ∈ cs, c ∈ R.2.2.1.2.2) → pgW (pioS m ins pr cs b w R).2.1 pg (pioS m ins pr cs b w R).2.2
  | [], _, _, _, h, _ => h
  | c :: cs, b, w, R, h, hs => by
    rw [pioS_c]
    have hc := hs c List.mem_cons_self
    exact pioS_pg (pgW_clPut h hc (ordO_sm (h.2.2.2.2.2.2 c hc).1)) (fun x hx => hs x (List.mem_cons_of_mem _ hx))
section CPIO
variable {G : zG} {d : Nat} {w : zW} {pg : Nat} {R : pgR}
theorem gl_set {R : pgR} {c y : Nat} {r : clR} (h : clSm (R.2.2.2.2.2.1 c) r) : ((pgSetC R c r).2.2.2.2.2.1 y).2.2.2.1.2 = (R.2.2.2.2.2.1 y).2.2.2.1.2 := by
  show (if y = c then r else R.2.2.2.2.2.1 y).2.2.2.1.2 = _
  by_cases e : y = c
  · rw [if_pos e, h.2.2.2.1, e]
  · rw [if_neg e]
theorem c_X7_putInOrder (hP : pgW w pg R) {md pr m : Nat} {CL : List Nat} {ins pm lo gd cf cr sw : Int} (hm : md ∈ R.2.2.1.2.1) (hmr : R.2.2.2.2.1 md = (pr, (m : Int), ins, pm, lo, gd, cf, cr, sw)) (hpr : pr ∈ R.2.2.1.1) (hm2 : m < 2) (hCL0 : (R.2.2.2.1 pr).2.2.2.2 = CL) (hGl : ∀ c ∈ CL, (R.2.2.2.2.2.1 c).2.2.2.1.2.length ≤ 5) (hlen : CL.length < 1000) : zM G zm_X7_putInOrder (d + 9) [zR pg, zR md] w (zRet (some (zI (zB ((pioS m ins pr CL true w R).1 = true)))) (pioS m ins pr CL true w R).2.1) := by
  refine zx_ent (by decide +kernel) rfl (Nat.le_of_ble_eq_true rfl) ?_
  have loop : ∀ (n q : Nat) (b : Bool) (o4 : Option zV) (w1 : zW) (R1 : pgR), q + n = CL.length → pgW w1 pg R1 → md ∈ R1.2.2.1.2.1 → R1.2.2.2.2.1 md = (pr, (m : Int), ins, pm, lo, gd, cf, cr, sw) → pr ∈ R1.2.2.1.1 → (R1.2.2.2.1 pr).2.2.2.2 = CL → (∀ c ∈ CL, c ∈ R1.2.2.1.2.2) → (∀ c ∈ CL, (R1.2.2.2.2.2.1 c).2.2.2.1.2.length ≤ 5) → zX G zm_X7_putInOrder (d + 9) [zR pg, zR md] w (zRet (some (zI (zB ((pioS m ins pr (CL.drop q) b w1 R1).1 = true)))) (pioS m ins pr (CL.drop q) b w1 R1).2.1) 4 [some (zR pg), some (zR md), some (zI (zB (b = true))), some (zI (q : Int)), o4] [] w1 := by
    intro n
    induction n with
    | zero =>
      intro q b o4 w1 R1 hq hP1 hm1 hmr1 hpr1 hCL hsub hGl1
      obtain ⟨hpg1, -, -, -, hPr1, hMo1, hCl1⟩ := id hP1
      obtain ⟨⟨hpy1, htt1, hml1, hcl1⟩, -⟩ := hPr1 pr hpr1
      have hmd1 := hMo1 md hm1
      unfold moW at hmd1
      rw [hmr1] at hmd1
      rw [List.drop_eq_nil_of_le (by omega)]
      refine zx_iload_n (i := 3) dX7_putInOrder_4 rfl rfl ?_
      refine zx_aload_n (i := 1) dX7_putInOrder_5 rfl rfl ?_
      refine zx_getfield dX7_putInOrder_6 zf_X7_102 hmd1 rfl ?_
      refine zx_iv (b := pr) (As := []) (st := [zI (q : Int)]) (v := (some (zI (CL.length : Int)))) (w1 := w1) dX7_putInOrder_9 zc_X7_106 hpy1 rfl rfl rfl (Nat.le_of_ble_eq_true rfl) rfl (by have h := c_X6_clauseCount (G := G) (d := d + 7) hpy1 hcl1; rw [hCL] at h; exact h) ?_
      refine zx_st (st1 := [zI (CL.length : Int), zI (q : Int)]) rfl ?_
      refine zx_icmp_ge (tgt := 48) dX7_putInOrder_12 (by decide) (fun h12 => ?_) (fun h12 => absurd (by omega) h12)
      refine zx_iload_n (i := 2) dX7_putInOrder_48 rfl rfl ?_
      refine zx_zret dX7_putInOrder_49 rfl (by first | exact Or.inl rfl | exact Or.inr rfl | exact zB_or | assumption) ?_
      exact zr_v rfl rfl
    | succ n ih =>
      intro q b o4 w1 R1 hq hP1 hm1 hmr1 hpr1 hCL hsub hGl1
      obtain ⟨hpg1, -, -, -, hPr1, hMo1, hCl1⟩ := id hP1
      obtain ⟨⟨hpy1, htt1, hml1, hcl1⟩, -⟩ := hPr1 pr hpr1
      have hmd1 := hMo1 md hm1
      unfold moW at hmd1
      rw [hmr1] at hmd1
      obtain ⟨c, hcq⟩ : ∃ c, CL[q]? = some c := ⟨_, List.getElem?_eq_getElem (by omega)⟩
      have hcs : c ∈ R1.2.2.1.2.2 := hsub c (List.mem_of_getElem? hcq)
      have hcm := hcs
      have hC1 := (hCl1 c hcs).1
      have hsm1 : clSm (R1.2.2.2.2.2.1 c) (ordO R1 m c ins).2.2 := ordO_sm hC1
      have helC : ∀ y ∈ (R1.2.2.2.1 pr).2.2.2.2, ∃ a b, w1.1 y = some ((1, a, b) : zO) := by
        rw [hCL]
        exact fun y hy => ⟨_, _, (hCl1 y (hsub y hy)).1.1⟩
      rw [drop_cons hcq, pioS_c]
      by_cases hO : orV (R1.2.2.2.1 pr).2.1 (ordO R1 m c ins) = 0
      · rw [show (b && decide (orV (R1.2.2.2.1 pr).2.1 (ordO R1 m c ins) ≠ 0)) = false by rw [hO]; simp]
        refine zx_iload_n (i := 3) dX7_putInOrder_4 rfl rfl ?_
        refine zx_aload_n (i := 1) dX7_putInOrder_5 rfl rfl ?_
        refine zx_getfield dX7_putInOrder_6 zf_X7_102 hmd1 rfl ?_
        refine zx_iv (b := pr) (As := []) (st := [zI (q : Int)]) (v := (some (zI (CL.length : Int)))) (w1 := w1) dX7_putInOrder_9 zc_X7_106 hpy1 rfl rfl rfl (Nat.le_of_ble_eq_true rfl) rfl (by have h := c_X6_clauseCount (G := G) (d := d + 7) hpy1 hcl1; rw [hCL] at h; exact h) ?_
        refine zx_st (st1 := [zI (CL.length : Int), zI (q : Int)]) rfl ?_
        refine zx_icmp_ge (tgt := 48) dX7_putInOrder_12 (by decide) (fun h12 => absurd h12 (by omega)) (fun h12 => ?_)
        refine zx_aload_n (i := 1) dX7_putInOrder_15 rfl rfl ?_
        refine zx_getfield dX7_putInOrder_16 zf_X7_102 hmd1 rfl ?_
        refine zx_iload_n (i := 3) dX7_putInOrder_19 rfl rfl ?_
        refine zx_iv (b := pr) (As := [zI (q : Int)]) (st := []) (v := (some (zR c))) (w1 := w1) dX7_putInOrder_20 zc_X7_109 hpy1 rfl rfl rfl (Nat.le_of_ble_eq_true rfl) rfl (by have h := c_X6_clauseAt (G := G) (d := d + 5) hpy1 hcl1 helC (q : Int); rw [hCL, lAt_in (by omega) (by rw [Int.toNat_natCast]; exact hcq)] at h; exact h) ?_
        refine zx_st (st1 := [zR c]) rfl ?_
        refine zx_astore (i := 4) dX7_putInOrder_23 (by decide) rfl ?_
        refine zx_L (L1 := [some (zR pg), some (zR md), some (zI (zB (b = true))), some (zI (q : Int)), some (zR c)]) rfl ?_
        refine zx_aload (i := 4) dX7_putInOrder_25 rfl ?_
        refine zx_pc (pc1 := 27) rfl ?_
        refine zx_ifnull (tgt := 42) dX7_putInOrder_27 (by decide) (fun h => by cases h) (fun _ => ?_)
        refine zx_aload_n (i := 0) dX7_putInOrder_30 rfl rfl ?_
        refine zx_aload (i := 4) dX7_putInOrder_31 rfl ?_
        refine zx_aload_n (i := 1) dX7_putInOrder_33 rfl rfl ?_
        obtain ⟨w_1, hw_2⟩ : ∃ ww, ww = clPut w1 c (ordO R1 m c ins).2.2 := ⟨_, rfl⟩
        refine zx_iv (b := pg) (As := [zR c, zR md]) (st := []) (v := (some (zI (orV (R1.2.2.2.1 pr).2.1 (ordO R1 m c ins))))) (w1 := w_1) dX7_putInOrder_34 zc_X7_113 hpg1 rfl rfl rfl (Nat.le_of_ble_eq_true rfl) rfl (by rw [hw_2]; exact c_X7_putClause (d := d) hP1 hcm hm1 hmr1 hpr1 hm2 (hGl1 c (List.mem_of_getElem? hcq))) ?_
        refine zx_st (st1 := [zI (orV (R1.2.2.2.1 pr).2.1 (ordO R1 m c ins))]) rfl ?_
        refine zx_if_ne (tgt := 42) dX7_putInOrder_37 (by decide) (fun h37 => absurd h37 (not_not_intro hO)) (fun h37 => ?_)
        refine zx_iconst (v := 0) dX7_putInOrder_40 rfl (z32_lit (by decide) (by decide)) ?_
        refine zx_istore_n (i := 2) dX7_putInOrder_41 rfl (by decide) rfl ?_
        refine zx_L (L1 := [some (zR pg), some (zR md), some (zI 0), some (zI (q : Int)), some (zR c)]) rfl ?_
        refine zx_iinc (i := 3) (v := ((q + 1 : Nat) : Int)) dX7_putInOrder_42 rfl (zw_eq (by omega) (by omega) (by omega)) (by decide) rfl ?_
        refine zx_L (L1 := [some (zR pg), some (zR md), some (zI 0), some (zI ((q + 1 : Nat) : Int)), some (zR c)]) rfl ?_
        refine zx_goto (tgt := 4) dX7_putInOrder_45 (by decide) ?_
        rw [hw_2]
        exact ih (q + 1) false _ _ (pgSetC R1 c (ordO R1 m c ins).2.2) (by omega) (pgW_clPut hP1 hcs hsm1) hm1 hmr1 hpr1 hCL hsub (fun y hy => by rw [gl_set hsm1]; exact hGl1 y hy)
      · rw [show (b && decide (orV (R1.2.2.2.1 pr).2.1 (ordO R1 m c ins) ≠ 0)) = b by simp [hO]]
        refine zx_iload_n (i := 3) dX7_putInOrder_4 rfl rfl ?_
        refine zx_aload_n (i := 1) dX7_putInOrder_5 rfl rfl ?_
        refine zx_getfield dX7_putInOrder_6 zf_X7_102 hmd1 rfl ?_
        refine zx_iv (b := pr) (As := []) (st := [zI (q : Int)]) (v := (some (zI (CL.length : Int)))) (w1 := w1) dX7_putInOrder_9 zc_X7_106 hpy1 rfl rfl rfl (Nat.le_of_ble_eq_true rfl) rfl (by have h := c_X6_clauseCount (G := G) (d := d + 7) hpy1 hcl1; rw [hCL] at h; exact h) ?_
        refine zx_st (st1 := [zI (CL.length : Int), zI (q : Int)]) rfl ?_
        refine zx_icmp_ge (tgt := 48) dX7_putInOrder_12 (by decide) (fun h12 => absurd h12 (by omega)) (fun h12 => ?_)
        refine zx_aload_n (i := 1) dX7_putInOrder_15 rfl rfl ?_
        refine zx_getfield dX7_putInOrder_16 zf_X7_102 hmd1 rfl ?_
        refine zx_iload_n (i := 3) dX7_putInOrder_19 rfl rfl ?_
        refine zx_iv (b := pr) (As := [zI (q : Int)]) (st := []) (v := (some (zR c))) (w1 := w1) dX7_putInOrder_20 zc_X7_109 hpy1 rfl rfl rfl (Nat.le_of_ble_eq_true rfl) rfl (by have h := c_X6_clauseAt (G := G) (d := d + 5) hpy1 hcl1 helC (q : Int); rw [hCL, lAt_in (by omega) (by rw [Int.toNat_natCast]; exact hcq)] at h; exact h) ?_
        refine zx_st (st1 := [zR c]) rfl ?_
        refine zx_astore (i := 4) dX7_putInOrder_23 (by decide) rfl ?_
        refine zx_L (L1 := [some (zR pg), some (zR md), some (zI (zB (b = true))), some (zI (q : Int)), some (zR c)]) rfl ?_
        refine zx_aload (i := 4) dX7_putInOrder_25 rfl ?_
        refine zx_pc (pc1 := 27) rfl ?_
        refine zx_ifnull (tgt := 42) dX7_putInOrder_27 (by decide) (fun h => by cases h) (fun _ => ?_)
        refine zx_aload_n (i := 0) dX7_putInOrder_30 rfl rfl ?_
        refine zx_aload (i := 4) dX7_putInOrder_31 rfl ?_
        refine zx_aload_n (i := 1) dX7_putInOrder_33 rfl rfl ?_
        obtain ⟨w_1, hw_2⟩ : ∃ ww, ww = clPut w1 c (ordO R1 m c ins).2.2 := ⟨_, rfl⟩
        refine zx_iv (b := pg) (As := [zR c, zR md]) (st := []) (v := (some (zI (orV (R1.2.2.2.1 pr).2.1 (ordO R1 m c ins))))) (w1 := w_1) dX7_putInOrder_34 zc_X7_113 hpg1 rfl rfl rfl (Nat.le_of_ble_eq_true rfl) rfl (by rw [hw_2]; exact c_X7_putClause (d := d) hP1 hcm hm1 hmr1 hpr1 hm2 (hGl1 c (List.mem_of_getElem? hcq))) ?_
        refine zx_st (st1 := [zI (orV (R1.2.2.2.1 pr).2.1 (ordO R1 m c ins))]) rfl ?_
        refine zx_if_ne (tgt := 42) dX7_putInOrder_37 (by decide) (fun h37 => ?_) (fun h37 => absurd (hO) h37)
        refine zx_iinc (i := 3) (v := ((q + 1 : Nat) : Int)) dX7_putInOrder_42 rfl (zw_eq (by omega) (by omega) (by omega)) (by decide) rfl ?_
        refine zx_L (L1 := [some (zR pg), some (zR md), some (zI (zB (b = true))), some (zI ((q + 1 : Nat) : Int)), some (zR c)]) rfl ?_
        refine zx_goto (tgt := 4) dX7_putInOrder_45 (by decide) ?_
        rw [hw_2]
        exact ih (q + 1) b _ _ (pgSetC R1 c (ordO R1 m c ins).2.2) (by omega) (pgW_clPut hP1 hcs hsm1) hm1 hmr1 hpr1 hCL hsub (fun y hy => by rw [gl_set hsm1]; exact hGl1 y hy)
  have h0 := loop CL.length 0 true none w R (by omega) hP hm hmr hpr hCL0 (fun y hy => (hP.2.2.2.2.1 pr hpr).2.2.1 y (by rw [hCL0]; exact hy)) hGl
  rw [List.drop_zero] at h0
  refine zx_L (L1 := [some (zR pg), some (zR md), none, none, none]) rfl ?_
  refine zx_iconst (v := 1) dX7_putInOrder_0 rfl (z32_lit (by decide) (by decide)) ?_
  refine zx_istore_n (i := 2) dX7_putInOrder_1 rfl (by decide) rfl ?_
  refine zx_L (L1 := [some (zR pg), some (zR md), some (zI 1), none, none]) rfl ?_
  refine zx_iconst (v := 0) dX7_putInOrder_2 rfl (z32_lit (by decide) (by decide)) ?_
  refine zx_istore_n (i := 3) dX7_putInOrder_3 rfl (by decide) rfl ?_
  refine zx_L (L1 := [some (zR pg), some (zR md), some (zI 1), some (zI 0), none]) rfl ?_
  exact h0
end CPIO
