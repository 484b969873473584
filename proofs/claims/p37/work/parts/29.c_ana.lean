/-! Own rows: the compiler's looks at GOALS and MODES. Walked by program (wip/p37/m_ana.py). -/
abbrev isIn (ins q : Int) : Prop := 0 ≤ q ∧ q < 3 ∧ zand (zshr ins q) 1 = 1
abbrev bt1 (kn v : Int) : Prop := zand (zshr kn v) 1 = 1
def aiK (xs : List Int) (ins kn : Int) : Nat → Nat → Bool
  | 0, _ => true
  | n + 1, q => (! decide (isIn ins (q : Int)) || ! decide (zand (zshr kn (zVa xs (q : Int))) 1 = 0)) && aiK xs ins kn n (q + 1)
theorem aiK_s {xs : List Int} {ins kn : Int} {n q : Nat} : aiK xs ins kn (n + 1) q = ((! decide (isIn ins (q : Int)) || ! decide (zand (zshr kn (zVa xs (q : Int))) 1 = 0)) && aiK xs ins kn n (q + 1)) := rfl
def clG (xs : List Int) (P : Nat → Bool) : Nat → Nat → Int → Bool
  | 0, _, _ => false
  | n + 1, q, sn => if P q then clG xs P n (q + 1) sn else decide (bt1 sn (zVa xs (q : Int))) || clG xs P n (q + 1) (zor sn (zshl 1 (zVa xs (q : Int))))
theorem clG_p {xs : List Int} {P : Nat → Bool} {n q : Nat} {sn : Int} (h : P q = true) : clG xs P (n + 1) q sn = clG xs P n (q + 1) sn := if_pos h
theorem clG_n {xs : List Int} {P : Nat → Bool} {n q : Nat} {sn : Int} (h : ¬ P q = true) : clG xs P (n + 1) q sn = (decide (bt1 sn (zVa xs (q : Int))) || clG xs P n (q + 1) (zor sn (zshl 1 (zVa xs (q : Int))))) := if_neg h
section CANA
variable {G : zG} {d : Nat} {w : zW}
theorem c_X7_areInputsKnown {g va og ov : Nat} {gk su gn : Int} {xs : List Int} (hg : w.1 g = some (3, og, [zI gk, zI su, zI gn, zR va])) (hv : w.1 va = some (100, ov, xs.map Sum.inl)) (hx : xs.length < 100) (hgn : 0 ≤ gn ∧ gn ≤ 3) {m om mpr : Nat} {mnu ins pm lo gd cf cr sw : Int} (hm : w.1 m = some (5, om, [zR mpr, zI mnu, zI ins, zI pm, zI lo, zI gd, zI cf, zI cr, zI sw])) (kn : Int) : zM G zm_X7_areInputsKnown (d + 1) [zR g, zR m, zI kn] w (zRet (some (zI (zB (aiK xs ins kn gn.toNat 0 = true)))) w) := by
  refine zx_ent (by decide +kernel) rfl (Nat.le_of_ble_eq_true rfl) ?_
  have loop : ∀ n q : Nat, (q : Int) + n = gn → zX G zm_X7_areInputsKnown (d + 1) [zR g, zR m, zI kn] w (zRet (some (zI (zB (aiK xs ins kn n q = true)))) w) 2 [some (zR g), some (zR m), some (zI kn), some (zI (q : Int))] [] w := by
    intro n
    induction n with
    | zero =>
      intro q hq
      refine zx_iload_n (i := 3) dX7_areInputsKnown_2 rfl rfl ?_
      refine zx_aload_n (i := 0) dX7_areInputsKnown_3 rfl rfl ?_
      refine zx_getfield dX7_areInputsKnown_4 zf_X7_174 hg rfl ?_
      refine zx_icmp_ge (tgt := 38) dX7_areInputsKnown_7 (by decide) (fun h7 => ?_) (fun h7 => absurd (by omega) h7)
      refine zx_iconst (v := 1) dX7_areInputsKnown_38 rfl (z32_lit (by decide) (by decide)) ?_
      refine zx_zret dX7_areInputsKnown_39 rfl (by first | exact Or.inl rfl | exact Or.inr rfl | exact zB_or | assumption) ?_
      exact zr_t rfl
    | succ n ih =>
      intro q hq
      by_cases h1 : isIn ins (q : Int)
      · by_cases h2 : zand (zshr kn (zVa xs (q : Int))) 1 = 0
        · refine zx_iload_n (i := 3) dX7_areInputsKnown_2 rfl rfl ?_
          refine zx_aload_n (i := 0) dX7_areInputsKnown_3 rfl rfl ?_
          refine zx_getfield dX7_areInputsKnown_4 zf_X7_174 hg rfl ?_
          refine zx_icmp_ge (tgt := 38) dX7_areInputsKnown_7 (by decide) (fun h7 => absurd h7 (by omega)) (fun h7 => ?_)
          refine zx_aload_n (i := 1) dX7_areInputsKnown_10 rfl rfl ?_
          refine zx_iload_n (i := 3) dX7_areInputsKnown_11 rfl rfl ?_
          refine zx_iv (b := m) (As := [zI (q : Int)]) (st := []) (v := (some (zI (zB (isIn ins (q : Int)))))) (w1 := w) dX7_areInputsKnown_12 zc_X7_177 hm rfl rfl rfl (Nat.le_of_ble_eq_true rfl) rfl (c_X5_isInput hm (q : Int)) ?_
          refine zx_st (st1 := [zI (zB (isIn ins (q : Int)))]) rfl ?_
          refine zx_if_eq (tgt := 32) dX7_areInputsKnown_15 (by decide) (fun h15 => absurd h15 (by rw [zB_t h1]; decide)) (fun h15 => ?_)
          refine zx_iload_n (i := 2) dX7_areInputsKnown_18 rfl rfl ?_
          refine zx_aload_n (i := 0) dX7_areInputsKnown_19 rfl rfl ?_
          refine zx_iload_n (i := 3) dX7_areInputsKnown_20 rfl rfl ?_
          refine zx_pc (pc1 := 21) rfl ?_
          refine zx_iv (b := g) (As := [zI (q : Int)]) (st := [zI kn]) (v := (some (zI (zVa xs (q : Int))))) (w1 := w) dX7_areInputsKnown_21 zc_X7_156 hg rfl rfl rfl (Nat.le_of_ble_eq_true rfl) rfl (c_X3_variableAt hg hv hx (q : Int)) ?_
          refine zx_st (st1 := [zI (zVa xs (q : Int)), zI kn]) rfl ?_
          refine zx_ishr (v := zshr kn (zVa xs (q : Int))) dX7_areInputsKnown_24 rfl ?_
          refine zx_iconst (v := 1) dX7_areInputsKnown_25 rfl (z32_lit (by decide) (by decide)) ?_
          refine zx_iand (v := zand (zshr kn (zVa xs (q : Int))) 1) dX7_areInputsKnown_26 rfl ?_
          refine zx_if_ne (tgt := 32) dX7_areInputsKnown_27 (by decide) (fun h27 => absurd h27 (not_not_intro h2)) (fun h27 => ?_)
          refine zx_iconst (v := 0) dX7_areInputsKnown_30 rfl (z32_lit (by decide) (by decide)) ?_
          refine zx_zret dX7_areInputsKnown_31 rfl (by first | exact Or.inl rfl | exact Or.inr rfl | exact zB_or | assumption) ?_
          exact zr_f (by rw [aiK_s]; simp [h1, h2])
        · refine zx_iload_n (i := 3) dX7_areInputsKnown_2 rfl rfl ?_
          refine zx_aload_n (i := 0) dX7_areInputsKnown_3 rfl rfl ?_
          refine zx_getfield dX7_areInputsKnown_4 zf_X7_174 hg rfl ?_
          refine zx_icmp_ge (tgt := 38) dX7_areInputsKnown_7 (by decide) (fun h7 => absurd h7 (by omega)) (fun h7 => ?_)
          refine zx_aload_n (i := 1) dX7_areInputsKnown_10 rfl rfl ?_
          refine zx_iload_n (i := 3) dX7_areInputsKnown_11 rfl rfl ?_
          refine zx_iv (b := m) (As := [zI (q : Int)]) (st := []) (v := (some (zI (zB (isIn ins (q : Int)))))) (w1 := w) dX7_areInputsKnown_12 zc_X7_177 hm rfl rfl rfl (Nat.le_of_ble_eq_true rfl) rfl (c_X5_isInput hm (q : Int)) ?_
          refine zx_st (st1 := [zI (zB (isIn ins (q : Int)))]) rfl ?_
          refine zx_if_eq (tgt := 32) dX7_areInputsKnown_15 (by decide) (fun h15 => absurd h15 (by rw [zB_t h1]; decide)) (fun h15 => ?_)
          refine zx_iload_n (i := 2) dX7_areInputsKnown_18 rfl rfl ?_
          refine zx_aload_n (i := 0) dX7_areInputsKnown_19 rfl rfl ?_
          refine zx_iload_n (i := 3) dX7_areInputsKnown_20 rfl rfl ?_
          refine zx_pc (pc1 := 21) rfl ?_
          refine zx_iv (b := g) (As := [zI (q : Int)]) (st := [zI kn]) (v := (some (zI (zVa xs (q : Int))))) (w1 := w) dX7_areInputsKnown_21 zc_X7_156 hg rfl rfl rfl (Nat.le_of_ble_eq_true rfl) rfl (c_X3_variableAt hg hv hx (q : Int)) ?_
          refine zx_st (st1 := [zI (zVa xs (q : Int)), zI kn]) rfl ?_
          refine zx_ishr (v := zshr kn (zVa xs (q : Int))) dX7_areInputsKnown_24 rfl ?_
          refine zx_iconst (v := 1) dX7_areInputsKnown_25 rfl (z32_lit (by decide) (by decide)) ?_
          refine zx_iand (v := zand (zshr kn (zVa xs (q : Int))) 1) dX7_areInputsKnown_26 rfl ?_
          refine zx_if_ne (tgt := 32) dX7_areInputsKnown_27 (by decide) (fun h27 => ?_) (fun h27 => absurd (h2) h27)
          refine zx_iinc (i := 3) (v := ((q + 1 : Nat) : Int)) dX7_areInputsKnown_32 rfl (zw_eq (by omega) (by omega) (by omega)) (by decide) rfl ?_
          refine zx_L (L1 := [some (zR g), some (zR m), some (zI kn), some (zI ((q + 1 : Nat) : Int))]) rfl ?_
          refine zx_goto (tgt := 2) dX7_areInputsKnown_35 (by decide) ?_
          have e3 : aiK xs ins kn (n + 1) q = aiK xs ins kn n (q + 1) := by rw [aiK_s]; simp [h2]
          rw [e3]
          exact ih (q + 1) (by omega)
      · refine zx_iload_n (i := 3) dX7_areInputsKnown_2 rfl rfl ?_
        refine zx_aload_n (i := 0) dX7_areInputsKnown_3 rfl rfl ?_
        refine zx_getfield dX7_areInputsKnown_4 zf_X7_174 hg rfl ?_
        refine zx_icmp_ge (tgt := 38) dX7_areInputsKnown_7 (by decide) (fun h7 => absurd h7 (by omega)) (fun h7 => ?_)
        refine zx_aload_n (i := 1) dX7_areInputsKnown_10 rfl rfl ?_
        refine zx_iload_n (i := 3) dX7_areInputsKnown_11 rfl rfl ?_
        refine zx_iv (b := m) (As := [zI (q : Int)]) (st := []) (v := (some (zI (zB (isIn ins (q : Int)))))) (w1 := w) dX7_areInputsKnown_12 zc_X7_177 hm rfl rfl rfl (Nat.le_of_ble_eq_true rfl) rfl (c_X5_isInput hm (q : Int)) ?_
        refine zx_st (st1 := [zI (zB (isIn ins (q : Int)))]) rfl ?_
        refine zx_if_eq (tgt := 32) dX7_areInputsKnown_15 (by decide) (fun h15 => ?_) (fun h15 => absurd (zB_f h1) h15)
        refine zx_iinc (i := 3) (v := ((q + 1 : Nat) : Int)) dX7_areInputsKnown_32 rfl (zw_eq (by omega) (by omega) (by omega)) (by decide) rfl ?_
        refine zx_L (L1 := [some (zR g), some (zR m), some (zI kn), some (zI ((q + 1 : Nat) : Int))]) rfl ?_
        refine zx_goto (tgt := 2) dX7_areInputsKnown_35 (by decide) ?_
        have e3 : aiK xs ins kn (n + 1) q = aiK xs ins kn n (q + 1) := by rw [aiK_s]; simp [h1]
        rw [e3]
        exact ih (q + 1) (by omega)
  refine zx_L (L1 := [some (zR g), some (zR m), some (zI kn), none]) rfl ?_
  refine zx_iconst (v := 0) dX7_areInputsKnown_0 rfl (z32_lit (by decide) (by decide)) ?_
  refine zx_istore_n (i := 3) dX7_areInputsKnown_1 rfl (by decide) rfl ?_
  refine zx_L (L1 := [some (zR g), some (zR m), some (zI kn), some (zI 0)]) rfl ?_
  exact loop gn.toNat 0 (by omega)
theorem c_X7_clashes0 {g va og ov : Nat} {gk su gn : Int} {xs : List Int} (hg : w.1 g = some (3, og, [zI gk, zI su, zI gn, zR va])) (hv : w.1 va = some (100, ov, xs.map Sum.inl)) (hx : xs.length < 100) (hgn : 0 ≤ gn ∧ gn ≤ 3)  (kn : Int) : zM G zm_X7_clashes (d + 1) [zR g, zN, zI kn] w (zRet (some (zI (zB (clG xs (fun _ => false) (gn - 1).toNat 1 kn = true)))) w) := by
  refine zx_ent (by decide +kernel) rfl (Nat.le_of_ble_eq_true rfl) ?_
  have loop : ∀ (n q : Nat) (sn : Int), (gn - (q : Int)).toNat = n → zX G zm_X7_clashes (d + 1) [zR g, zN, zI kn] w (zRet (some (zI (zB (clG xs (fun _ => false) n q sn = true)))) w) 13 [some (zR g), some (zN), some (zI kn), some (zI sn), some (zI (q : Int))] [] w := by
    intro n
    induction n with
    | zero =>
      intro q sn hq
      refine zx_iload (i := 4) dX7_clashes_13 rfl ?_
      refine zx_aload_n (i := 0) dX7_clashes_15 rfl rfl ?_
      refine zx_getfield dX7_clashes_16 zf_X7_174 hg rfl ?_
      refine zx_icmp_ge (tgt := 68) dX7_clashes_19 (by decide) (fun h19 => ?_) (fun h19 => absurd (by omega) h19)
      refine zx_iconst (v := 0) dX7_clashes_68 rfl (z32_lit (by decide) (by decide)) ?_
      refine zx_zret dX7_clashes_69 rfl (by first | exact Or.inl rfl | exact Or.inr rfl | exact zB_or | assumption) ?_
      exact zr_f (by simp [clG])
    | succ n ih =>
      intro q sn hq
      by_cases h2 : zand (zshr sn (zVa xs (q : Int))) 1 = 1
      · refine zx_iload (i := 4) dX7_clashes_13 rfl ?_
        refine zx_aload_n (i := 0) dX7_clashes_15 rfl rfl ?_
        refine zx_getfield dX7_clashes_16 zf_X7_174 hg rfl ?_
        refine zx_icmp_ge (tgt := 68) dX7_clashes_19 (by decide) (fun h19 => absurd h19 (by omega)) (fun h19 => ?_)
        refine zx_aload_n (i := 1) dX7_clashes_22 rfl rfl ?_
        refine zx_ifnull (tgt := 35) dX7_clashes_23 (by decide) (fun _ => ?_) (fun h => absurd rfl h)
        refine zx_iload_n (i := 3) dX7_clashes_35 rfl rfl ?_
        refine zx_aload_n (i := 0) dX7_clashes_36 rfl rfl ?_
        refine zx_iload (i := 4) dX7_clashes_37 rfl ?_
        refine zx_iv (b := g) (As := [zI (q : Int)]) (st := [zI sn]) (v := (some (zI (zVa xs (q : Int))))) (w1 := w) dX7_clashes_39 zc_X7_156 hg rfl rfl rfl (Nat.le_of_ble_eq_true rfl) rfl (c_X3_variableAt hg hv hx (q : Int)) ?_
        refine zx_st (st1 := [zI (zVa xs (q : Int)), zI sn]) rfl ?_
        refine zx_ishr (v := zshr sn (zVa xs (q : Int))) dX7_clashes_42 rfl ?_
        refine zx_pc (pc1 := 43) rfl ?_
        refine zx_iconst (v := 1) dX7_clashes_43 rfl (z32_lit (by decide) (by decide)) ?_
        refine zx_iand (v := zand (zshr sn (zVa xs (q : Int))) 1) dX7_clashes_44 rfl ?_
        refine zx_iconst (v := 1) dX7_clashes_45 rfl (z32_lit (by decide) (by decide)) ?_
        refine zx_icmp_ne (tgt := 51) dX7_clashes_46 (by decide) (fun h46 => absurd h46 (not_not_intro h2)) (fun h46 => ?_)
        refine zx_iconst (v := 1) dX7_clashes_49 rfl (z32_lit (by decide) (by decide)) ?_
        refine zx_zret dX7_clashes_50 rfl (by first | exact Or.inl rfl | exact Or.inr rfl | exact zB_or | assumption) ?_
        exact zr_t (by rw [clG_n (by simp)]; rw [show decide (bt1 sn (zVa xs (q : Int))) = true from decide_eq_true h2]; rfl)
      · refine zx_iload (i := 4) dX7_clashes_13 rfl ?_
        refine zx_aload_n (i := 0) dX7_clashes_15 rfl rfl ?_
        refine zx_getfield dX7_clashes_16 zf_X7_174 hg rfl ?_
        refine zx_icmp_ge (tgt := 68) dX7_clashes_19 (by decide) (fun h19 => absurd h19 (by omega)) (fun h19 => ?_)
        refine zx_aload_n (i := 1) dX7_clashes_22 rfl rfl ?_
        refine zx_ifnull (tgt := 35) dX7_clashes_23 (by decide) (fun _ => ?_) (fun h => absurd rfl h)
        refine zx_iload_n (i := 3) dX7_clashes_35 rfl rfl ?_
        refine zx_aload_n (i := 0) dX7_clashes_36 rfl rfl ?_
        refine zx_iload (i := 4) dX7_clashes_37 rfl ?_
        refine zx_iv (b := g) (As := [zI (q : Int)]) (st := [zI sn]) (v := (some (zI (zVa xs (q : Int))))) (w1 := w) dX7_clashes_39 zc_X7_156 hg rfl rfl rfl (Nat.le_of_ble_eq_true rfl) rfl (c_X3_variableAt hg hv hx (q : Int)) ?_
        refine zx_st (st1 := [zI (zVa xs (q : Int)), zI sn]) rfl ?_
        refine zx_ishr (v := zshr sn (zVa xs (q : Int))) dX7_clashes_42 rfl ?_
        refine zx_pc (pc1 := 43) rfl ?_
        refine zx_iconst (v := 1) dX7_clashes_43 rfl (z32_lit (by decide) (by decide)) ?_
        refine zx_iand (v := zand (zshr sn (zVa xs (q : Int))) 1) dX7_clashes_44 rfl ?_
        refine zx_iconst (v := 1) dX7_clashes_45 rfl (z32_lit (by decide) (by decide)) ?_
        refine zx_icmp_ne (tgt := 51) dX7_clashes_46 (by decide) (fun h46 => ?_) (fun h46 => absurd (h2) h46)
        refine zx_iload_n (i := 3) dX7_clashes_51 rfl rfl ?_
        refine zx_iconst (v := 1) dX7_clashes_52 rfl (z32_lit (by decide) (by decide)) ?_
        refine zx_aload_n (i := 0) dX7_clashes_53 rfl rfl ?_
        refine zx_iload (i := 4) dX7_clashes_54 rfl ?_
        refine zx_iv (b := g) (As := [zI (q : Int)]) (st := [zI 1, zI sn]) (v := (some (zI (zVa xs (q : Int))))) (w1 := w) dX7_clashes_56 zc_X7_156 hg rfl rfl rfl (Nat.le_of_ble_eq_true rfl) rfl (c_X3_variableAt hg hv hx (q : Int)) ?_
        refine zx_st (st1 := [zI (zVa xs (q : Int)), zI 1, zI sn]) rfl ?_
        refine zx_ishl (v := zshl 1 (zVa xs (q : Int))) dX7_clashes_59 rfl ?_
        refine zx_ior (v := zor sn (zshl 1 (zVa xs (q : Int)))) dX7_clashes_60 rfl ?_
        refine zx_istore_n (i := 3) dX7_clashes_61 rfl (by decide) rfl ?_
        refine zx_L (L1 := [some (zR g), some (zN), some (zI kn), some (zI (zor sn (zshl 1 (zVa xs (q : Int))))), some (zI (q : Int))]) rfl ?_
        refine zx_pc (pc1 := 62) rfl ?_
        refine zx_iinc (i := 4) (v := ((q + 1 : Nat) : Int)) dX7_clashes_62 rfl (zw_eq (by omega) (by omega) (by omega)) (by decide) rfl ?_
        refine zx_L (L1 := [some (zR g), some (zN), some (zI kn), some (zI (zor sn (zshl 1 (zVa xs (q : Int))))), some (zI ((q + 1 : Nat) : Int))]) rfl ?_
        refine zx_goto (tgt := 13) dX7_clashes_65 (by decide) ?_
        have e3 : clG xs (fun _ => false) (n + 1) q sn = clG xs (fun _ => false) n (q + 1) (zor sn (zshl 1 (zVa xs (q : Int)))) := by rw [clG_n (by simp)]; simp [h2]
        rw [e3]
        exact ih (q + 1) _ (by omega)
  refine zx_L (L1 := [some (zR g), some (zN), some (zI kn), none, none]) rfl ?_
  refine zx_iload_n (i := 2) dX7_clashes_0 rfl rfl ?_
  refine zx_istore_n (i := 3) dX7_clashes_1 rfl (by decide) rfl ?_
  refine zx_L (L1 := [some (zR g), some (zN), some (zI kn), some (zI kn), none]) rfl ?_
  refine zx_aload_n (i := 1) dX7_clashes_2 rfl rfl ?_
  refine zx_ifnonnull (tgt := 10) dX7_clashes_3 (by decide) (fun h => absurd rfl h) (fun _ => ?_)
  refine zx_iconst (v := 1) dX7_clashes_6 rfl (z32_lit (by decide) (by decide)) ?_
  refine zx_goto (tgt := 11) dX7_clashes_7 (by decide) ?_
  refine zx_istore (i := 4) dX7_clashes_11 (by decide) rfl ?_
  refine zx_L (L1 := [some (zR g), some (zN), some (zI kn), some (zI kn), some (zI 1)]) rfl ?_
  exact loop _ 1 kn rfl
theorem c_X7_clashes1 {g va og ov : Nat} {gk su gn : Int} {xs : List Int} (hg : w.1 g = some (3, og, [zI gk, zI su, zI gn, zR va])) (hv : w.1 va = some (100, ov, xs.map Sum.inl)) (hx : xs.length < 100) (hgn : 0 ≤ gn ∧ gn ≤ 3) {m om mpr : Nat} {mnu ins pm lo gd cf cr sw : Int} (hm : w.1 m = some (5, om, [zR mpr, zI mnu, zI ins, zI pm, zI lo, zI gd, zI cf, zI cr, zI sw])) (kn : Int) : zM G zm_X7_clashes (d + 1) [zR g, zR m, zI kn] w (zRet (some (zI (zB (clG xs (fun q => decide (isIn ins (q : Int))) (gn - 0).toNat 0 kn = true)))) w) := by
  refine zx_ent (by decide +kernel) rfl (Nat.le_of_ble_eq_true rfl) ?_
  have loop : ∀ (n q : Nat) (sn : Int), (gn - (q : Int)).toNat = n → zX G zm_X7_clashes (d + 1) [zR g, zR m, zI kn] w (zRet (some (zI (zB (clG xs (fun q => decide (isIn ins (q : Int))) n q sn = true)))) w) 13 [some (zR g), some (zR m), some (zI kn), some (zI sn), some (zI (q : Int))] [] w := by
    intro n
    induction n with
    | zero =>
      intro q sn hq
      refine zx_iload (i := 4) dX7_clashes_13 rfl ?_
      refine zx_aload_n (i := 0) dX7_clashes_15 rfl rfl ?_
      refine zx_getfield dX7_clashes_16 zf_X7_174 hg rfl ?_
      refine zx_icmp_ge (tgt := 68) dX7_clashes_19 (by decide) (fun h19 => ?_) (fun h19 => absurd (by omega) h19)
      refine zx_iconst (v := 0) dX7_clashes_68 rfl (z32_lit (by decide) (by decide)) ?_
      refine zx_zret dX7_clashes_69 rfl (by first | exact Or.inl rfl | exact Or.inr rfl | exact zB_or | assumption) ?_
      exact zr_f (by simp [clG])
    | succ n ih =>
      intro q sn hq
      by_cases h1 : isIn ins (q : Int)
      · refine zx_iload (i := 4) dX7_clashes_13 rfl ?_
        refine zx_aload_n (i := 0) dX7_clashes_15 rfl rfl ?_
        refine zx_getfield dX7_clashes_16 zf_X7_174 hg rfl ?_
        refine zx_icmp_ge (tgt := 68) dX7_clashes_19 (by decide) (fun h19 => absurd h19 (by omega)) (fun h19 => ?_)
        refine zx_aload_n (i := 1) dX7_clashes_22 rfl rfl ?_
        refine zx_ifnull (tgt := 35) dX7_clashes_23 (by decide) (fun h => by cases h) (fun _ => ?_)
        refine zx_aload_n (i := 1) dX7_clashes_26 rfl rfl ?_
        refine zx_iload (i := 4) dX7_clashes_27 rfl ?_
        refine zx_iv (b := m) (As := [zI (q : Int)]) (st := []) (v := (some (zI (zB (isIn ins (q : Int)))))) (w1 := w) dX7_clashes_29 zc_X7_177 hm rfl rfl rfl (Nat.le_of_ble_eq_true rfl) rfl (c_X5_isInput hm (q : Int)) ?_
        refine zx_st (st1 := [zI (zB (isIn ins (q : Int)))]) rfl ?_
        refine zx_if_ne (tgt := 62) dX7_clashes_32 (by decide) (fun h32 => ?_) (fun h32 => absurd (by rw [zB_t h1]; decide) h32)
        refine zx_iinc (i := 4) (v := ((q + 1 : Nat) : Int)) dX7_clashes_62 rfl (zw_eq (by omega) (by omega) (by omega)) (by decide) rfl ?_
        refine zx_L (L1 := [some (zR g), some (zR m), some (zI kn), some (zI sn), some (zI ((q + 1 : Nat) : Int))]) rfl ?_
        refine zx_pc (pc1 := 65) rfl ?_
        refine zx_goto (tgt := 13) dX7_clashes_65 (by decide) ?_
        rw [clG_p (by simp [h1])]
        exact ih (q + 1) _ (by omega)
      · by_cases h2 : zand (zshr sn (zVa xs (q : Int))) 1 = 1
        · refine zx_iload (i := 4) dX7_clashes_13 rfl ?_
          refine zx_aload_n (i := 0) dX7_clashes_15 rfl rfl ?_
          refine zx_getfield dX7_clashes_16 zf_X7_174 hg rfl ?_
          refine zx_icmp_ge (tgt := 68) dX7_clashes_19 (by decide) (fun h19 => absurd h19 (by omega)) (fun h19 => ?_)
          refine zx_aload_n (i := 1) dX7_clashes_22 rfl rfl ?_
          refine zx_ifnull (tgt := 35) dX7_clashes_23 (by decide) (fun h => by cases h) (fun _ => ?_)
          refine zx_aload_n (i := 1) dX7_clashes_26 rfl rfl ?_
          refine zx_iload (i := 4) dX7_clashes_27 rfl ?_
          refine zx_iv (b := m) (As := [zI (q : Int)]) (st := []) (v := (some (zI (zB (isIn ins (q : Int)))))) (w1 := w) dX7_clashes_29 zc_X7_177 hm rfl rfl rfl (Nat.le_of_ble_eq_true rfl) rfl (c_X5_isInput hm (q : Int)) ?_
          refine zx_st (st1 := [zI (zB (isIn ins (q : Int)))]) rfl ?_
          refine zx_if_ne (tgt := 62) dX7_clashes_32 (by decide) (fun h32 => absurd h32 (not_not_intro (zB_f h1))) (fun h32 => ?_)
          refine zx_iload_n (i := 3) dX7_clashes_35 rfl rfl ?_
          refine zx_pc (pc1 := 36) rfl ?_
          refine zx_aload_n (i := 0) dX7_clashes_36 rfl rfl ?_
          refine zx_iload (i := 4) dX7_clashes_37 rfl ?_
          refine zx_iv (b := g) (As := [zI (q : Int)]) (st := [zI sn]) (v := (some (zI (zVa xs (q : Int))))) (w1 := w) dX7_clashes_39 zc_X7_156 hg rfl rfl rfl (Nat.le_of_ble_eq_true rfl) rfl (c_X3_variableAt hg hv hx (q : Int)) ?_
          refine zx_st (st1 := [zI (zVa xs (q : Int)), zI sn]) rfl ?_
          refine zx_ishr (v := zshr sn (zVa xs (q : Int))) dX7_clashes_42 rfl ?_
          refine zx_iconst (v := 1) dX7_clashes_43 rfl (z32_lit (by decide) (by decide)) ?_
          refine zx_iand (v := zand (zshr sn (zVa xs (q : Int))) 1) dX7_clashes_44 rfl ?_
          refine zx_iconst (v := 1) dX7_clashes_45 rfl (z32_lit (by decide) (by decide)) ?_
          refine zx_icmp_ne (tgt := 51) dX7_clashes_46 (by decide) (fun h46 => absurd h46 (not_not_intro h2)) (fun h46 => ?_)
          refine zx_iconst (v := 1) dX7_clashes_49 rfl (z32_lit (by decide) (by decide)) ?_
          refine zx_zret dX7_clashes_50 rfl (by first | exact Or.inl rfl | exact Or.inr rfl | exact zB_or | assumption) ?_
          exact zr_t (by rw [clG_n (by simp [h1])]; rw [show decide (bt1 sn (zVa xs (q : Int))) = true from decide_eq_true h2]; rfl)
        · refine zx_iload (i := 4) dX7_clashes_13 rfl ?_
          refine zx_aload_n (i := 0) dX7_clashes_15 rfl rfl ?_
          refine zx_getfield dX7_clashes_16 zf_X7_174 hg rfl ?_
          refine zx_icmp_ge (tgt := 68) dX7_clashes_19 (by decide) (fun h19 => absurd h19 (by omega)) (fun h19 => ?_)
          refine zx_aload_n (i := 1) dX7_clashes_22 rfl rfl ?_
          refine zx_ifnull (tgt := 35) dX7_clashes_23 (by decide) (fun h => by cases h) (fun _ => ?_)
          refine zx_aload_n (i := 1) dX7_clashes_26 rfl rfl ?_
          refine zx_iload (i := 4) dX7_clashes_27 rfl ?_
          refine zx_iv (b := m) (As := [zI (q : Int)]) (st := []) (v := (some (zI (zB (isIn ins (q : Int)))))) (w1 := w) dX7_clashes_29 zc_X7_177 hm rfl rfl rfl (Nat.le_of_ble_eq_true rfl) rfl (c_X5_isInput hm (q : Int)) ?_
          refine zx_st (st1 := [zI (zB (isIn ins (q : Int)))]) rfl ?_
          refine zx_if_ne (tgt := 62) dX7_clashes_32 (by decide) (fun h32 => absurd h32 (not_not_intro (zB_f h1))) (fun h32 => ?_)
          refine zx_iload_n (i := 3) dX7_clashes_35 rfl rfl ?_
          refine zx_pc (pc1 := 36) rfl ?_
          refine zx_aload_n (i := 0) dX7_clashes_36 rfl rfl ?_
          refine zx_iload (i := 4) dX7_clashes_37 rfl ?_
          refine zx_iv (b := g) (As := [zI (q : Int)]) (st := [zI sn]) (v := (some (zI (zVa xs (q : Int))))) (w1 := w) dX7_clashes_39 zc_X7_156 hg rfl rfl rfl (Nat.le_of_ble_eq_true rfl) rfl (c_X3_variableAt hg hv hx (q : Int)) ?_
          refine zx_st (st1 := [zI (zVa xs (q : Int)), zI sn]) rfl ?_
          refine zx_ishr (v := zshr sn (zVa xs (q : Int))) dX7_clashes_42 rfl ?_
          refine zx_iconst (v := 1) dX7_clashes_43 rfl (z32_lit (by decide) (by decide)) ?_
          refine zx_iand (v := zand (zshr sn (zVa xs (q : Int))) 1) dX7_clashes_44 rfl ?_
          refine zx_iconst (v := 1) dX7_clashes_45 rfl (z32_lit (by decide) (by decide)) ?_
          refine zx_icmp_ne (tgt := 51) dX7_clashes_46 (by decide) (fun h46 => ?_) (fun h46 => absurd (h2) h46)
          refine zx_iload_n (i := 3) dX7_clashes_51 rfl rfl ?_
          refine zx_iconst (v := 1) dX7_clashes_52 rfl (z32_lit (by decide) (by decide)) ?_
          refine zx_aload_n (i := 0) dX7_clashes_53 rfl rfl ?_
          refine zx_iload (i := 4) dX7_clashes_54 rfl ?_
          refine zx_pc (pc1 := 56) rfl ?_
          refine zx_iv (b := g) (As := [zI (q : Int)]) (st := [zI 1, zI sn]) (v := (some (zI (zVa xs (q : Int))))) (w1 := w) dX7_clashes_56 zc_X7_156 hg rfl rfl rfl (Nat.le_of_ble_eq_true rfl) rfl (c_X3_variableAt hg hv hx (q : Int)) ?_
          refine zx_st (st1 := [zI (zVa xs (q : Int)), zI 1, zI sn]) rfl ?_
          refine zx_ishl (v := zshl 1 (zVa xs (q : Int))) dX7_clashes_59 rfl ?_
          refine zx_ior (v := zor sn (zshl 1 (zVa xs (q : Int)))) dX7_clashes_60 rfl ?_
          refine zx_istore_n (i := 3) dX7_clashes_61 rfl (by decide) rfl ?_
          refine zx_L (L1 := [some (zR g), some (zR m), some (zI kn), some (zI (zor sn (zshl 1 (zVa xs (q : Int))))), some (zI (q : Int))]) rfl ?_
          refine zx_iinc (i := 4) (v := ((q + 1 : Nat) : Int)) dX7_clashes_62 rfl (zw_eq (by omega) (by omega) (by omega)) (by decide) rfl ?_
          refine zx_L (L1 := [some (zR g), some (zR m), some (zI kn), some (zI (zor sn (zshl 1 (zVa xs (q : Int))))), some (zI ((q + 1 : Nat) : Int))]) rfl ?_
          refine zx_goto (tgt := 13) dX7_clashes_65 (by decide) ?_
          have e3 : clG xs (fun q => decide (isIn ins (q : Int))) (n + 1) q sn = clG xs (fun q => decide (isIn ins (q : Int))) n (q + 1) (zor sn (zshl 1 (zVa xs (q : Int)))) := by rw [clG_n (by simp [h1])]; simp [h2]
          rw [e3]
          exact ih (q + 1) _ (by omega)
  refine zx_L (L1 := [some (zR g), some (zR m), some (zI kn), none, none]) rfl ?_
  refine zx_iload_n (i := 2) dX7_clashes_0 rfl rfl ?_
  refine zx_istore_n (i := 3) dX7_clashes_1 rfl (by decide) rfl ?_
  refine zx_L (L1 := [some (zR g), some (zR m), some (zI kn), some (zI kn), none]) rfl ?_
  refine zx_aload_n (i := 1) dX7_clashes_2 rfl rfl ?_
  refine zx_ifnonnull (tgt := 10) dX7_clashes_3 (by decide) (fun _ => ?_) (fun h => by cases h)
  refine zx_iconst (v := 0) dX7_clashes_10 rfl (z32_lit (by decide) (by decide)) ?_
  refine zx_istore (i := 4) dX7_clashes_11 (by decide) rfl ?_
  refine zx_L (L1 := [some (zR g), some (zR m), some (zI kn), some (zI kn), some (zI 0)]) rfl ?_
  exact loop _ 0 kn rfl
theorem c_X7_canBeTaken0 {g va og ov : Nat} {su gn : Int} {xs : List Int} (hg : w.1 g = some (3, og, [zI 0, zI su, zI gn, zR va])) (hv : w.1 va = some (100, ov, xs.map Sum.inl)) (hx : xs.length < 100) (hgn : 0 ≤ gn ∧ gn ≤ 3) (ch : Option Nat) (kn : Int) : zM G zm_X7_canBeTaken (d + 2) [zR g, zP ch, zI kn] w (zRet (some (zI (zB (bt1 kn (zVa xs 0) ∨ zand (vSt xs (gn - 1).toNat 0 1) (zxor kn (-1)) = 0)))) w) := by
  refine zx_ent (by decide +kernel) rfl (Nat.le_of_ble_eq_true rfl) ?_
  refine zx_L (L1 := [some (zR g), some (zP ch), some (zI kn), none]) rfl ?_
  refine zx_iload_n (i := 2) dX7_canBeTaken_0 rfl rfl ?_
  refine zx_aload_n (i := 0) dX7_canBeTaken_1 rfl rfl ?_
  refine zx_iconst (v := 0) dX7_canBeTaken_2 rfl (z32_lit (by decide) (by decide)) ?_
  refine zx_iv (b := g) (As := [zI 0]) (st := [zI kn]) (v := (some (zI (zVa xs 0)))) (w1 := w) dX7_canBeTaken_3 zc_X7_156 hg rfl rfl rfl (Nat.le_of_ble_eq_true rfl) rfl (c_X3_variableAt hg hv hx 0) ?_
  refine zx_st (st1 := [zI (zVa xs 0), zI kn]) rfl ?_
  refine zx_ishr (v := zshr kn (zVa xs 0)) dX7_canBeTaken_6 rfl ?_
  refine zx_iconst (v := 1) dX7_canBeTaken_7 rfl (z32_lit (by decide) (by decide)) ?_
  refine zx_iand (v := zand (zshr kn (zVa xs 0)) 1) dX7_canBeTaken_8 rfl ?_
  refine zx_iconst (v := 1) dX7_canBeTaken_9 rfl (z32_lit (by decide) (by decide)) ?_
  refine zx_icmp_ne (tgt := 17) dX7_canBeTaken_10 (by decide) (fun h10 => ?_) (fun h10 => ?_)
  · refine zx_iconst (v := 0) dX7_canBeTaken_17 rfl (z32_lit (by decide) (by decide)) ?_
    refine zx_istore_n (i := 3) dX7_canBeTaken_18 rfl (by decide) rfl ?_
    refine zx_L (L1 := [some (zR g), some (zP ch), some (zI kn), some (zI 0)]) rfl ?_
    refine zx_pc (pc1 := 19) rfl ?_
    refine zx_aload_n (i := 0) dX7_canBeTaken_19 rfl rfl ?_
    refine zx_getfield dX7_canBeTaken_20 zf_X7_159 hg rfl ?_
    refine zx_tableIn (off := 25) (tgt := 48) dX7_canBeTaken_23 (by decide) (by decide) rfl (by decide) ?_
    refine zx_iload_n (i := 3) dX7_canBeTaken_48 rfl rfl ?_
    refine zx_if_ne (tgt := 64) dX7_canBeTaken_49 (by decide) (fun h49 => absurd h49 (by decide)) (fun h49 => ?_)
    refine zx_aload_n (i := 0) dX7_canBeTaken_52 rfl rfl ?_
    refine zx_iconst (v := 1) dX7_canBeTaken_53 rfl (z32_lit (by decide) (by decide)) ?_
    refine zx_iv (b := g) (As := [zI 1]) (st := []) (v := (some (zI (vSt xs (gn - 1).toNat 0 1)))) (w1 := w) dX7_canBeTaken_54 zc_X7_143 hg rfl rfl rfl (Nat.le_of_ble_eq_true rfl) rfl (c_X3_variableSet hg hv hx 1 (by decide) (by omega)) ?_
    refine zx_st (st1 := [zI (vSt xs (gn - 1).toNat 0 1)]) rfl ?_
    refine zx_iload_n (i := 2) dX7_canBeTaken_57 rfl rfl ?_
    refine zx_iconst (v := -1) dX7_canBeTaken_58 rfl (z32_lit (by decide) (by decide)) ?_
    refine zx_ixor (v := zxor kn (-1)) dX7_canBeTaken_59 rfl ?_
    refine zx_iand (v := zand (vSt xs (gn - 1).toNat 0 1) (zxor kn (-1))) dX7_canBeTaken_60 rfl ?_
    refine zx_pc (pc1 := 61) rfl ?_
    refine zx_if_ne (tgt := 68) dX7_canBeTaken_61 (by decide) (fun h61 => ?_) (fun h61 => ?_)
    · refine zx_iconst (v := 0) dX7_canBeTaken_68 rfl (z32_lit (by decide) (by decide)) ?_
      refine zx_zret dX7_canBeTaken_69 rfl (by first | exact Or.inl rfl | exact Or.inr rfl | exact zB_or | assumption) ?_
      exact zr_f (by omega)
    · refine zx_iconst (v := 1) dX7_canBeTaken_64 rfl (z32_lit (by decide) (by decide)) ?_
      refine zx_goto (tgt := 69) dX7_canBeTaken_65 (by decide) ?_
      refine zx_zret dX7_canBeTaken_69 rfl (by first | exact Or.inl rfl | exact Or.inr rfl | exact zB_or | assumption) ?_
      exact zr_t (by omega)
  · refine zx_iconst (v := 1) dX7_canBeTaken_13 rfl (z32_lit (by decide) (by decide)) ?_
    refine zx_goto (tgt := 18) dX7_canBeTaken_14 (by decide) ?_
    refine zx_pc (pc1 := 18) rfl ?_
    refine zx_istore_n (i := 3) dX7_canBeTaken_18 rfl (by decide) rfl ?_
    refine zx_L (L1 := [some (zR g), some (zP ch), some (zI kn), some (zI 1)]) rfl ?_
    refine zx_aload_n (i := 0) dX7_canBeTaken_19 rfl rfl ?_
    refine zx_getfield dX7_canBeTaken_20 zf_X7_159 hg rfl ?_
    refine zx_tableIn (off := 25) (tgt := 48) dX7_canBeTaken_23 (by decide) (by decide) rfl (by decide) ?_
    refine zx_iload_n (i := 3) dX7_canBeTaken_48 rfl rfl ?_
    refine zx_if_ne (tgt := 64) dX7_canBeTaken_49 (by decide) (fun h49 => ?_) (fun h49 => absurd (by decide) h49)
    refine zx_iconst (v := 1) dX7_canBeTaken_64 rfl (z32_lit (by decide) (by decide)) ?_
    refine zx_goto (tgt := 69) dX7_canBeTaken_65 (by decide) ?_
    refine zx_zret dX7_canBeTaken_69 rfl (by first | exact Or.inl rfl | exact Or.inr rfl | exact zB_or | assumption) ?_
    exact zr_t (by omega)
theorem c_X7_canBeTaken1 {g va og ov : Nat} {su gn : Int} {xs : List Int} (hg : w.1 g = some (3, og, [zI 1, zI su, zI gn, zR va])) (hv : w.1 va = some (100, ov, xs.map Sum.inl)) (hx : xs.length < 100) (hgn : 0 ≤ gn ∧ gn ≤ 3) (ch : Option Nat) (kn : Int) : zM G zm_X7_canBeTaken (d + 2) [zR g, zP ch, zI kn] w (zRet (some (zI (zB (bt1 kn (zVa xs 0) ∨ bt1 kn (zVa xs 1))))) w) := by
  refine zx_ent (by decide +kernel) rfl (Nat.le_of_ble_eq_true rfl) ?_
  refine zx_L (L1 := [some (zR g), some (zP ch), some (zI kn), none]) rfl ?_
  refine zx_iload_n (i := 2) dX7_canBeTaken_0 rfl rfl ?_
  refine zx_aload_n (i := 0) dX7_canBeTaken_1 rfl rfl ?_
  refine zx_iconst (v := 0) dX7_canBeTaken_2 rfl (z32_lit (by decide) (by decide)) ?_
  refine zx_iv (b := g) (As := [zI 0]) (st := [zI kn]) (v := (some (zI (zVa xs 0)))) (w1 := w) dX7_canBeTaken_3 zc_X7_156 hg rfl rfl rfl (Nat.le_of_ble_eq_true rfl) rfl (c_X3_variableAt hg hv hx 0) ?_
  refine zx_st (st1 := [zI (zVa xs 0), zI kn]) rfl ?_
  refine zx_ishr (v := zshr kn (zVa xs 0)) dX7_canBeTaken_6 rfl ?_
  refine zx_iconst (v := 1) dX7_canBeTaken_7 rfl (z32_lit (by decide) (by decide)) ?_
  refine zx_iand (v := zand (zshr kn (zVa xs 0)) 1) dX7_canBeTaken_8 rfl ?_
  refine zx_iconst (v := 1) dX7_canBeTaken_9 rfl (z32_lit (by decide) (by decide)) ?_
  refine zx_icmp_ne (tgt := 17) dX7_canBeTaken_10 (by decide) (fun h10 => ?_) (fun h10 => ?_)
  · refine zx_iconst (v := 0) dX7_canBeTaken_17 rfl (z32_lit (by decide) (by decide)) ?_
    refine zx_istore_n (i := 3) dX7_canBeTaken_18 rfl (by decide) rfl ?_
    refine zx_L (L1 := [some (zR g), some (zP ch), some (zI kn), some (zI 0)]) rfl ?_
    refine zx_pc (pc1 := 19) rfl ?_
    refine zx_aload_n (i := 0) dX7_canBeTaken_19 rfl rfl ?_
    refine zx_getfield dX7_canBeTaken_20 zf_X7_159 hg rfl ?_
    refine zx_tableIn (off := 47) (tgt := 70) dX7_canBeTaken_23 (by decide) (by decide) rfl (by decide) ?_
    refine zx_iload_n (i := 3) dX7_canBeTaken_70 rfl rfl ?_
    refine zx_if_ne (tgt := 87) dX7_canBeTaken_71 (by decide) (fun h71 => absurd h71 (by decide)) (fun h71 => ?_)
    refine zx_iload_n (i := 2) dX7_canBeTaken_74 rfl rfl ?_
    refine zx_aload_n (i := 0) dX7_canBeTaken_75 rfl rfl ?_
    refine zx_iconst (v := 1) dX7_canBeTaken_76 rfl (z32_lit (by decide) (by decide)) ?_
    refine zx_iv (b := g) (As := [zI 1]) (st := [zI kn]) (v := (some (zI (zVa xs 1)))) (w1 := w) dX7_canBeTaken_77 zc_X7_156 hg rfl rfl rfl (Nat.le_of_ble_eq_true rfl) rfl (c_X3_variableAt hg hv hx 1) ?_
    refine zx_st (st1 := [zI (zVa xs 1), zI kn]) rfl ?_
    refine zx_ishr (v := zshr kn (zVa xs 1)) dX7_canBeTaken_80 rfl ?_
    refine zx_iconst (v := 1) dX7_canBeTaken_81 rfl (z32_lit (by decide) (by decide)) ?_
    refine zx_iand (v := zand (zshr kn (zVa xs 1)) 1) dX7_canBeTaken_82 rfl ?_
    refine zx_pc (pc1 := 83) rfl ?_
    refine zx_iconst (v := 1) dX7_canBeTaken_83 rfl (z32_lit (by decide) (by decide)) ?_
    refine zx_icmp_ne (tgt := 91) dX7_canBeTaken_84 (by decide) (fun h84 => ?_) (fun h84 => ?_)
    · refine zx_iconst (v := 0) dX7_canBeTaken_91 rfl (z32_lit (by decide) (by decide)) ?_
      refine zx_zret dX7_canBeTaken_92 rfl (by first | exact Or.inl rfl | exact Or.inr rfl | exact zB_or | assumption) ?_
      exact zr_f (by omega)
    · refine zx_iconst (v := 1) dX7_canBeTaken_87 rfl (z32_lit (by decide) (by decide)) ?_
      refine zx_goto (tgt := 92) dX7_canBeTaken_88 (by decide) ?_
      refine zx_zret dX7_canBeTaken_92 rfl (by first | exact Or.inl rfl | exact Or.inr rfl | exact zB_or | assumption) ?_
      exact zr_t (by omega)
  · refine zx_iconst (v := 1) dX7_canBeTaken_13 rfl (z32_lit (by decide) (by decide)) ?_
    refine zx_goto (tgt := 18) dX7_canBeTaken_14 (by decide) ?_
    refine zx_pc (pc1 := 18) rfl ?_
    refine zx_istore_n (i := 3) dX7_canBeTaken_18 rfl (by decide) rfl ?_
    refine zx_L (L1 := [some (zR g), some (zP ch), some (zI kn), some (zI 1)]) rfl ?_
    refine zx_aload_n (i := 0) dX7_canBeTaken_19 rfl rfl ?_
    refine zx_getfield dX7_canBeTaken_20 zf_X7_159 hg rfl ?_
    refine zx_tableIn (off := 47) (tgt := 70) dX7_canBeTaken_23 (by decide) (by decide) rfl (by decide) ?_
    refine zx_iload_n (i := 3) dX7_canBeTaken_70 rfl rfl ?_
    refine zx_if_ne (tgt := 87) dX7_canBeTaken_71 (by decide) (fun h71 => ?_) (fun h71 => absurd (by decide) h71)
    refine zx_iconst (v := 1) dX7_canBeTaken_87 rfl (z32_lit (by decide) (by decide)) ?_
    refine zx_goto (tgt := 92) dX7_canBeTaken_88 (by decide) ?_
    refine zx_zret dX7_canBeTaken_92 rfl (by first | exact Or.inl rfl | exact Or.inr rfl | exact zB_or | assumption) ?_
    exact zr_t (by omega)
theorem c_X7_canBeTaken2n {g va og ov : Nat} {su gn : Int} {xs : List Int} (hg : w.1 g = some (3, og, [zI 2, zI su, zI gn, zR va])) (hv : w.1 va = some (100, ov, xs.map Sum.inl)) (hx : xs.length < 100) (hgn : 0 ≤ gn ∧ gn ≤ 3) (kn : Int) : zM G zm_X7_canBeTaken (d + 2) [zR g, zN, zI kn] w (zRet (some (zI (0))) w) := by
  refine zx_ent (by decide +kernel) rfl (Nat.le_of_ble_eq_true rfl) ?_
  refine zx_L (L1 := [some (zR g), some (zN), some (zI kn), none]) rfl ?_
  refine zx_iload_n (i := 2) dX7_canBeTaken_0 rfl rfl ?_
  refine zx_aload_n (i := 0) dX7_canBeTaken_1 rfl rfl ?_
  refine zx_iconst (v := 0) dX7_canBeTaken_2 rfl (z32_lit (by decide) (by decide)) ?_
  refine zx_iv (b := g) (As := [zI 0]) (st := [zI kn]) (v := (some (zI (zVa xs 0)))) (w1 := w) dX7_canBeTaken_3 zc_X7_156 hg rfl rfl rfl (Nat.le_of_ble_eq_true rfl) rfl (c_X3_variableAt hg hv hx 0) ?_
  refine zx_st (st1 := [zI (zVa xs 0), zI kn]) rfl ?_
  refine zx_ishr (v := zshr kn (zVa xs 0)) dX7_canBeTaken_6 rfl ?_
  refine zx_iconst (v := 1) dX7_canBeTaken_7 rfl (z32_lit (by decide) (by decide)) ?_
  refine zx_iand (v := zand (zshr kn (zVa xs 0)) 1) dX7_canBeTaken_8 rfl ?_
  refine zx_iconst (v := 1) dX7_canBeTaken_9 rfl (z32_lit (by decide) (by decide)) ?_
  refine zx_icmp_ne (tgt := 17) dX7_canBeTaken_10 (by decide) (fun h10 => ?_) (fun h10 => ?_)
  · refine zx_iconst (v := 0) dX7_canBeTaken_17 rfl (z32_lit (by decide) (by decide)) ?_
    refine zx_istore_n (i := 3) dX7_canBeTaken_18 rfl (by decide) rfl ?_
    refine zx_L (L1 := [some (zR g), some (zN), some (zI kn), some (zI 0)]) rfl ?_
    refine zx_pc (pc1 := 19) rfl ?_
    refine zx_aload_n (i := 0) dX7_canBeTaken_19 rfl rfl ?_
    refine zx_getfield dX7_canBeTaken_20 zf_X7_159 hg rfl ?_
    refine zx_tableIn (off := 70) (tgt := 93) dX7_canBeTaken_23 (by decide) (by decide) rfl (by decide) ?_
    refine zx_aload_n (i := 1) dX7_canBeTaken_93 rfl rfl ?_
    refine zx_ifnull (tgt := 101) dX7_canBeTaken_94 (by decide) (fun _ => ?_) (fun h => absurd rfl h)
    refine zx_iconst (v := 0) dX7_canBeTaken_101 rfl (z32_lit (by decide) (by decide)) ?_
    refine zx_zret dX7_canBeTaken_102 rfl (by first | exact Or.inl rfl | exact Or.inr rfl | exact zB_or | assumption) ?_
    exact zr_i rfl
  · refine zx_iconst (v := 1) dX7_canBeTaken_13 rfl (z32_lit (by decide) (by decide)) ?_
    refine zx_goto (tgt := 18) dX7_canBeTaken_14 (by decide) ?_
    refine zx_pc (pc1 := 18) rfl ?_
    refine zx_istore_n (i := 3) dX7_canBeTaken_18 rfl (by decide) rfl ?_
    refine zx_L (L1 := [some (zR g), some (zN), some (zI kn), some (zI 1)]) rfl ?_
    refine zx_aload_n (i := 0) dX7_canBeTaken_19 rfl rfl ?_
    refine zx_getfield dX7_canBeTaken_20 zf_X7_159 hg rfl ?_
    refine zx_tableIn (off := 70) (tgt := 93) dX7_canBeTaken_23 (by decide) (by decide) rfl (by decide) ?_
    refine zx_aload_n (i := 1) dX7_canBeTaken_93 rfl rfl ?_
    refine zx_ifnull (tgt := 101) dX7_canBeTaken_94 (by decide) (fun _ => ?_) (fun h => absurd rfl h)
    refine zx_iconst (v := 0) dX7_canBeTaken_101 rfl (z32_lit (by decide) (by decide)) ?_
    refine zx_zret dX7_canBeTaken_102 rfl (by first | exact Or.inl rfl | exact Or.inr rfl | exact zB_or | assumption) ?_
    exact zr_i rfl
theorem c_X7_canBeTaken2s {g va og ov : Nat} {su gn : Int} {xs : List Int} (hg : w.1 g = some (3, og, [zI 2, zI su, zI gn, zR va])) (hv : w.1 va = some (100, ov, xs.map Sum.inl)) (hx : xs.length < 100) (hgn : 0 ≤ gn ∧ gn ≤ 3) {m : Nat} (kn : Int) : zM G zm_X7_canBeTaken (d + 2) [zR g, zR m, zI kn] w (zRet (some (zI (1))) w) := by
  refine zx_ent (by decide +kernel) rfl (Nat.le_of_ble_eq_true rfl) ?_
  refine zx_L (L1 := [some (zR g), some (zR m), some (zI kn), none]) rfl ?_
  refine zx_iload_n (i := 2) dX7_canBeTaken_0 rfl rfl ?_
  refine zx_aload_n (i := 0) dX7_canBeTaken_1 rfl rfl ?_
  refine zx_iconst (v := 0) dX7_canBeTaken_2 rfl (z32_lit (by decide) (by decide)) ?_
  refine zx_iv (b := g) (As := [zI 0]) (st := [zI kn]) (v := (some (zI (zVa xs 0)))) (w1 := w) dX7_canBeTaken_3 zc_X7_156 hg rfl rfl rfl (Nat.le_of_ble_eq_true rfl) rfl (c_X3_variableAt hg hv hx 0) ?_
  refine zx_st (st1 := [zI (zVa xs 0), zI kn]) rfl ?_
  refine zx_ishr (v := zshr kn (zVa xs 0)) dX7_canBeTaken_6 rfl ?_
  refine zx_iconst (v := 1) dX7_canBeTaken_7 rfl (z32_lit (by decide) (by decide)) ?_
  refine zx_iand (v := zand (zshr kn (zVa xs 0)) 1) dX7_canBeTaken_8 rfl ?_
  refine zx_iconst (v := 1) dX7_canBeTaken_9 rfl (z32_lit (by decide) (by decide)) ?_
  refine zx_icmp_ne (tgt := 17) dX7_canBeTaken_10 (by decide) (fun h10 => ?_) (fun h10 => ?_)
  · refine zx_iconst (v := 0) dX7_canBeTaken_17 rfl (z32_lit (by decide) (by decide)) ?_
    refine zx_istore_n (i := 3) dX7_canBeTaken_18 rfl (by decide) rfl ?_
    refine zx_L (L1 := [some (zR g), some (zR m), some (zI kn), some (zI 0)]) rfl ?_
    refine zx_pc (pc1 := 19) rfl ?_
    refine zx_aload_n (i := 0) dX7_canBeTaken_19 rfl rfl ?_
    refine zx_getfield dX7_canBeTaken_20 zf_X7_159 hg rfl ?_
    refine zx_tableIn (off := 70) (tgt := 93) dX7_canBeTaken_23 (by decide) (by decide) rfl (by decide) ?_
    refine zx_aload_n (i := 1) dX7_canBeTaken_93 rfl rfl ?_
    refine zx_ifnull (tgt := 101) dX7_canBeTaken_94 (by decide) (fun h => by cases h) (fun _ => ?_)
    refine zx_iconst (v := 1) dX7_canBeTaken_97 rfl (z32_lit (by decide) (by decide)) ?_
    refine zx_goto (tgt := 102) dX7_canBeTaken_98 (by decide) ?_
    refine zx_zret dX7_canBeTaken_102 rfl (by first | exact Or.inl rfl | exact Or.inr rfl | exact zB_or | assumption) ?_
    exact zr_i rfl
  · refine zx_iconst (v := 1) dX7_canBeTaken_13 rfl (z32_lit (by decide) (by decide)) ?_
    refine zx_goto (tgt := 18) dX7_canBeTaken_14 (by decide) ?_
    refine zx_pc (pc1 := 18) rfl ?_
    refine zx_istore_n (i := 3) dX7_canBeTaken_18 rfl (by decide) rfl ?_
    refine zx_L (L1 := [some (zR g), some (zR m), some (zI kn), some (zI 1)]) rfl ?_
    refine zx_aload_n (i := 0) dX7_canBeTaken_19 rfl rfl ?_
    refine zx_getfield dX7_canBeTaken_20 zf_X7_159 hg rfl ?_
    refine zx_tableIn (off := 70) (tgt := 93) dX7_canBeTaken_23 (by decide) (by decide) rfl (by decide) ?_
    refine zx_aload_n (i := 1) dX7_canBeTaken_93 rfl rfl ?_
    refine zx_ifnull (tgt := 101) dX7_canBeTaken_94 (by decide) (fun h => by cases h) (fun _ => ?_)
    refine zx_iconst (v := 1) dX7_canBeTaken_97 rfl (z32_lit (by decide) (by decide)) ?_
    refine zx_goto (tgt := 102) dX7_canBeTaken_98 (by decide) ?_
    refine zx_zret dX7_canBeTaken_102 rfl (by first | exact Or.inl rfl | exact Or.inr rfl | exact zB_or | assumption) ?_
    exact zr_i rfl
theorem c_X7_canBeTaken3n {g va og ov : Nat} {su gn : Int} {xs : List Int} (hg : w.1 g = some (3, og, [zI 3, zI su, zI gn, zR va])) (hv : w.1 va = some (100, ov, xs.map Sum.inl)) (hx : xs.length < 100) (hgn : 0 ≤ gn ∧ gn ≤ 3) (kn : Int) : zM G zm_X7_canBeTaken (d + 2) [zR g, zN, zI kn] w (zRet (some (zI (0))) w) := by
  refine zx_ent (by decide +kernel) rfl (Nat.le_of_ble_eq_true rfl) ?_
  refine zx_L (L1 := [some (zR g), some (zN), some (zI kn), none]) rfl ?_
  refine zx_iload_n (i := 2) dX7_canBeTaken_0 rfl rfl ?_
  refine zx_aload_n (i := 0) dX7_canBeTaken_1 rfl rfl ?_
  refine zx_iconst (v := 0) dX7_canBeTaken_2 rfl (z32_lit (by decide) (by decide)) ?_
  refine zx_iv (b := g) (As := [zI 0]) (st := [zI kn]) (v := (some (zI (zVa xs 0)))) (w1 := w) dX7_canBeTaken_3 zc_X7_156 hg rfl rfl rfl (Nat.le_of_ble_eq_true rfl) rfl (c_X3_variableAt hg hv hx 0) ?_
  refine zx_st (st1 := [zI (zVa xs 0), zI kn]) rfl ?_
  refine zx_ishr (v := zshr kn (zVa xs 0)) dX7_canBeTaken_6 rfl ?_
  refine zx_iconst (v := 1) dX7_canBeTaken_7 rfl (z32_lit (by decide) (by decide)) ?_
  refine zx_iand (v := zand (zshr kn (zVa xs 0)) 1) dX7_canBeTaken_8 rfl ?_
  refine zx_iconst (v := 1) dX7_canBeTaken_9 rfl (z32_lit (by decide) (by decide)) ?_
  refine zx_icmp_ne (tgt := 17) dX7_canBeTaken_10 (by decide) (fun h10 => ?_) (fun h10 => ?_)
  · refine zx_iconst (v := 0) dX7_canBeTaken_17 rfl (z32_lit (by decide) (by decide)) ?_
    refine zx_istore_n (i := 3) dX7_canBeTaken_18 rfl (by decide) rfl ?_
    refine zx_L (L1 := [some (zR g), some (zN), some (zI kn), some (zI 0)]) rfl ?_
    refine zx_pc (pc1 := 19) rfl ?_
    refine zx_aload_n (i := 0) dX7_canBeTaken_19 rfl rfl ?_
    refine zx_getfield dX7_canBeTaken_20 zf_X7_159 hg rfl ?_
    refine zx_tableOut (tgt := 103) dX7_canBeTaken_23 (by decide) (by decide) ?_
    refine zx_aload_n (i := 1) dX7_canBeTaken_103 rfl rfl ?_
    refine zx_ifnull (tgt := 123) dX7_canBeTaken_104 (by decide) (fun _ => ?_) (fun h => absurd rfl h)
    refine zx_iconst (v := 0) dX7_canBeTaken_123 rfl (z32_lit (by decide) (by decide)) ?_
    refine zx_zret dX7_canBeTaken_124 rfl (by first | exact Or.inl rfl | exact Or.inr rfl | exact zB_or | assumption) ?_
    exact zr_i rfl
  · refine zx_iconst (v := 1) dX7_canBeTaken_13 rfl (z32_lit (by decide) (by decide)) ?_
    refine zx_goto (tgt := 18) dX7_canBeTaken_14 (by decide) ?_
    refine zx_pc (pc1 := 18) rfl ?_
    refine zx_istore_n (i := 3) dX7_canBeTaken_18 rfl (by decide) rfl ?_
    refine zx_L (L1 := [some (zR g), some (zN), some (zI kn), some (zI 1)]) rfl ?_
    refine zx_aload_n (i := 0) dX7_canBeTaken_19 rfl rfl ?_
    refine zx_getfield dX7_canBeTaken_20 zf_X7_159 hg rfl ?_
    refine zx_tableOut (tgt := 103) dX7_canBeTaken_23 (by decide) (by decide) ?_
    refine zx_aload_n (i := 1) dX7_canBeTaken_103 rfl rfl ?_
    refine zx_ifnull (tgt := 123) dX7_canBeTaken_104 (by decide) (fun _ => ?_) (fun h => absurd rfl h)
    refine zx_iconst (v := 0) dX7_canBeTaken_123 rfl (z32_lit (by decide) (by decide)) ?_
    refine zx_zret dX7_canBeTaken_124 rfl (by first | exact Or.inl rfl | exact Or.inr rfl | exact zB_or | assumption) ?_
    exact zr_i rfl
theorem c_X7_canBeTaken3s {g va og ov : Nat} {su gn : Int} {xs : List Int} (hg : w.1 g = some (3, og, [zI 3, zI su, zI gn, zR va])) (hv : w.1 va = some (100, ov, xs.map Sum.inl)) (hx : xs.length < 100) (hgn : 0 ≤ gn ∧ gn ≤ 3) {m : Nat} (kn : Int) : zM G zm_X7_canBeTaken (d + 2) [zR g, zR m, zI kn] w (zRet (some (zI (zB (zand (vSt xs (gn - 0).toNat 0 0) (zxor kn (-1)) = 0)))) w) := by
  refine zx_ent (by decide +kernel) rfl (Nat.le_of_ble_eq_true rfl) ?_
  refine zx_L (L1 := [some (zR g), some (zR m), some (zI kn), none]) rfl ?_
  refine zx_iload_n (i := 2) dX7_canBeTaken_0 rfl rfl ?_
  refine zx_aload_n (i := 0) dX7_canBeTaken_1 rfl rfl ?_
  refine zx_iconst (v := 0) dX7_canBeTaken_2 rfl (z32_lit (by decide) (by decide)) ?_
  refine zx_iv (b := g) (As := [zI 0]) (st := [zI kn]) (v := (some (zI (zVa xs 0)))) (w1 := w) dX7_canBeTaken_3 zc_X7_156 hg rfl rfl rfl (Nat.le_of_ble_eq_true rfl) rfl (c_X3_variableAt hg hv hx 0) ?_
  refine zx_st (st1 := [zI (zVa xs 0), zI kn]) rfl ?_
  refine zx_ishr (v := zshr kn (zVa xs 0)) dX7_canBeTaken_6 rfl ?_
  refine zx_iconst (v := 1) dX7_canBeTaken_7 rfl (z32_lit (by decide) (by decide)) ?_
  refine zx_iand (v := zand (zshr kn (zVa xs 0)) 1) dX7_canBeTaken_8 rfl ?_
  refine zx_iconst (v := 1) dX7_canBeTaken_9 rfl (z32_lit (by decide) (by decide)) ?_
  refine zx_icmp_ne (tgt := 17) dX7_canBeTaken_10 (by decide) (fun h10 => ?_) (fun h10 => ?_)
  · refine zx_iconst (v := 0) dX7_canBeTaken_17 rfl (z32_lit (by decide) (by decide)) ?_
    refine zx_istore_n (i := 3) dX7_canBeTaken_18 rfl (by decide) rfl ?_
    refine zx_L (L1 := [some (zR g), some (zR m), some (zI kn), some (zI 0)]) rfl ?_
    refine zx_pc (pc1 := 19) rfl ?_
    refine zx_aload_n (i := 0) dX7_canBeTaken_19 rfl rfl ?_
    refine zx_getfield dX7_canBeTaken_20 zf_X7_159 hg rfl ?_
    refine zx_tableOut (tgt := 103) dX7_canBeTaken_23 (by decide) (by decide) ?_
    refine zx_aload_n (i := 1) dX7_canBeTaken_103 rfl rfl ?_
    refine zx_ifnull (tgt := 123) dX7_canBeTaken_104 (by decide) (fun h => by cases h) (fun _ => ?_)
    refine zx_aload_n (i := 0) dX7_canBeTaken_107 rfl rfl ?_
    refine zx_iconst (v := 0) dX7_canBeTaken_108 rfl (z32_lit (by decide) (by decide)) ?_
    refine zx_iv (b := g) (As := [zI 0]) (st := []) (v := (some (zI (vSt xs (gn - 0).toNat 0 0)))) (w1 := w) dX7_canBeTaken_109 zc_X7_143 hg rfl rfl rfl (Nat.le_of_ble_eq_true rfl) rfl (c_X3_variableSet hg hv hx 0 (by decide) (by omega)) ?_
    refine zx_st (st1 := [zI (vSt xs (gn - 0).toNat 0 0)]) rfl ?_
    refine zx_iload_n (i := 2) dX7_canBeTaken_112 rfl rfl ?_
    refine zx_iconst (v := -1) dX7_canBeTaken_113 rfl (z32_lit (by decide) (by decide)) ?_
    refine zx_ixor (v := zxor kn (-1)) dX7_canBeTaken_114 rfl ?_
    refine zx_iand (v := zand (vSt xs (gn - 0).toNat 0 0) (zxor kn (-1))) dX7_canBeTaken_115 rfl ?_
    refine zx_pc (pc1 := 116) rfl ?_
    refine zx_if_ne (tgt := 123) dX7_canBeTaken_116 (by decide) (fun h116 => ?_) (fun h116 => ?_)
    · refine zx_iconst (v := 0) dX7_canBeTaken_123 rfl (z32_lit (by decide) (by decide)) ?_
      refine zx_zret dX7_canBeTaken_124 rfl (by first | exact Or.inl rfl | exact Or.inr rfl | exact zB_or | assumption) ?_
      exact zr_f (by omega)
    · refine zx_iconst (v := 1) dX7_canBeTaken_119 rfl (z32_lit (by decide) (by decide)) ?_
      refine zx_goto (tgt := 124) dX7_canBeTaken_120 (by decide) ?_
      refine zx_zret dX7_canBeTaken_124 rfl (by first | exact Or.inl rfl | exact Or.inr rfl | exact zB_or | assumption) ?_
      exact zr_t (by omega)
  · refine zx_iconst (v := 1) dX7_canBeTaken_13 rfl (z32_lit (by decide) (by decide)) ?_
    refine zx_goto (tgt := 18) dX7_canBeTaken_14 (by decide) ?_
    refine zx_pc (pc1 := 18) rfl ?_
    refine zx_istore_n (i := 3) dX7_canBeTaken_18 rfl (by decide) rfl ?_
    refine zx_L (L1 := [some (zR g), some (zR m), some (zI kn), some (zI 1)]) rfl ?_
    refine zx_aload_n (i := 0) dX7_canBeTaken_19 rfl rfl ?_
    refine zx_getfield dX7_canBeTaken_20 zf_X7_159 hg rfl ?_
    refine zx_tableOut (tgt := 103) dX7_canBeTaken_23 (by decide) (by decide) ?_
    refine zx_aload_n (i := 1) dX7_canBeTaken_103 rfl rfl ?_
    refine zx_ifnull (tgt := 123) dX7_canBeTaken_104 (by decide) (fun h => by cases h) (fun _ => ?_)
    refine zx_aload_n (i := 0) dX7_canBeTaken_107 rfl rfl ?_
    refine zx_iconst (v := 0) dX7_canBeTaken_108 rfl (z32_lit (by decide) (by decide)) ?_
    refine zx_iv (b := g) (As := [zI 0]) (st := []) (v := (some (zI (vSt xs (gn - 0).toNat 0 0)))) (w1 := w) dX7_canBeTaken_109 zc_X7_143 hg rfl rfl rfl (Nat.le_of_ble_eq_true rfl) rfl (c_X3_variableSet hg hv hx 0 (by decide) (by omega)) ?_
    refine zx_st (st1 := [zI (vSt xs (gn - 0).toNat 0 0)]) rfl ?_
    refine zx_iload_n (i := 2) dX7_canBeTaken_112 rfl rfl ?_
    refine zx_iconst (v := -1) dX7_canBeTaken_113 rfl (z32_lit (by decide) (by decide)) ?_
    refine zx_ixor (v := zxor kn (-1)) dX7_canBeTaken_114 rfl ?_
    refine zx_pc (pc1 := 115) rfl ?_
    refine zx_iand (v := zand (vSt xs (gn - 0).toNat 0 0) (zxor kn (-1))) dX7_canBeTaken_115 rfl ?_
    refine zx_if_ne (tgt := 123) dX7_canBeTaken_116 (by decide) (fun h116 => ?_) (fun h116 => ?_)
    · refine zx_iconst (v := 0) dX7_canBeTaken_123 rfl (z32_lit (by decide) (by decide)) ?_
      refine zx_zret dX7_canBeTaken_124 rfl (by first | exact Or.inl rfl | exact Or.inr rfl | exact zB_or | assumption) ?_
      exact zr_f (by omega)
    · refine zx_iconst (v := 1) dX7_canBeTaken_119 rfl (z32_lit (by decide) (by decide)) ?_
      refine zx_goto (tgt := 124) dX7_canBeTaken_120 (by decide) ?_
      refine zx_zret dX7_canBeTaken_124 rfl (by first | exact Or.inl rfl | exact Or.inr rfl | exact zB_or | assumption) ?_
      exact zr_t (by omega)
theorem c_X7_canGoalFail0 {g va og ov : Nat} {su gn : Int} {xs : List Int} (hg : w.1 g = some (3, og, [zI 0, zI su, zI gn, zR va])) (hv : w.1 va = some (100, ov, xs.map Sum.inl)) (hx : xs.length < 100) (hgn : 0 ≤ gn ∧ gn ≤ 3) (ch : Option Nat) (kn : Int) : zM G zm_X7_canGoalFail (d + 2) [zR g, zP ch, zI kn] w (zRet (some (zI (zB (bt1 kn (zVa xs 0))))) w) := by
  refine zx_ent (by decide +kernel) rfl (Nat.le_of_ble_eq_true rfl) ?_
  refine zx_L (L1 := [some (zR g), some (zP ch), some (zI kn), none]) rfl ?_
  refine zx_iload_n (i := 2) dX7_canGoalFail_0 rfl rfl ?_
  refine zx_aload_n (i := 0) dX7_canGoalFail_1 rfl rfl ?_
  refine zx_iconst (v := 0) dX7_canGoalFail_2 rfl (z32_lit (by decide) (by decide)) ?_
  refine zx_iv (b := g) (As := [zI 0]) (st := [zI kn]) (v := (some (zI (zVa xs 0)))) (w1 := w) dX7_canGoalFail_3 zc_X7_156 hg rfl rfl rfl (Nat.le_of_ble_eq_true rfl) rfl (c_X3_variableAt hg hv hx 0) ?_
  refine zx_st (st1 := [zI (zVa xs 0), zI kn]) rfl ?_
  refine zx_ishr (v := zshr kn (zVa xs 0)) dX7_canGoalFail_6 rfl ?_
  refine zx_iconst (v := 1) dX7_canGoalFail_7 rfl (z32_lit (by decide) (by decide)) ?_
  refine zx_iand (v := zand (zshr kn (zVa xs 0)) 1) dX7_canGoalFail_8 rfl ?_
  refine zx_iconst (v := 1) dX7_canGoalFail_9 rfl (z32_lit (by decide) (by decide)) ?_
  refine zx_icmp_ne (tgt := 17) dX7_canGoalFail_10 (by decide) (fun h10 => ?_) (fun h10 => ?_)
  · refine zx_iconst (v := 0) dX7_canGoalFail_17 rfl (z32_lit (by decide) (by decide)) ?_
    refine zx_istore_n (i := 3) dX7_canGoalFail_18 rfl (by decide) rfl ?_
    refine zx_L (L1 := [some (zR g), some (zP ch), some (zI kn), some (zI 0)]) rfl ?_
    refine zx_pc (pc1 := 19) rfl ?_
    refine zx_aload_n (i := 0) dX7_canGoalFail_19 rfl rfl ?_
    refine zx_getfield dX7_canGoalFail_20 zf_X7_159 hg rfl ?_
    refine zx_tableIn (off := 25) (tgt := 48) dX7_canGoalFail_23 (by decide) (by decide) rfl (by decide) ?_
    refine zx_iload_n (i := 3) dX7_canGoalFail_48 rfl rfl ?_
    refine zx_zret dX7_canGoalFail_49 rfl (by first | exact Or.inl rfl | exact Or.inr rfl | exact zB_or | assumption) ?_
    exact zr_f (by omega)
  · refine zx_iconst (v := 1) dX7_canGoalFail_13 rfl (z32_lit (by decide) (by decide)) ?_
    refine zx_goto (tgt := 18) dX7_canGoalFail_14 (by decide) ?_
    refine zx_pc (pc1 := 18) rfl ?_
    refine zx_istore_n (i := 3) dX7_canGoalFail_18 rfl (by decide) rfl ?_
    refine zx_L (L1 := [some (zR g), some (zP ch), some (zI kn), some (zI 1)]) rfl ?_
    refine zx_aload_n (i := 0) dX7_canGoalFail_19 rfl rfl ?_
    refine zx_getfield dX7_canGoalFail_20 zf_X7_159 hg rfl ?_
    refine zx_tableIn (off := 25) (tgt := 48) dX7_canGoalFail_23 (by decide) (by decide) rfl (by decide) ?_
    refine zx_iload_n (i := 3) dX7_canGoalFail_48 rfl rfl ?_
    refine zx_zret dX7_canGoalFail_49 rfl (by first | exact Or.inl rfl | exact Or.inr rfl | exact zB_or | assumption) ?_
    exact zr_t (by omega)
theorem c_X7_canGoalFail1 {g va og ov : Nat} {su gn : Int} {xs : List Int} (hg : w.1 g = some (3, og, [zI 1, zI su, zI gn, zR va])) (hv : w.1 va = some (100, ov, xs.map Sum.inl)) (hx : xs.length < 100) (hgn : 0 ≤ gn ∧ gn ≤ 3) (ch : Option Nat) (kn : Int) : zM G zm_X7_canGoalFail (d + 2) [zR g, zP ch, zI kn] w (zRet (some (zI (zB (bt1 kn (zVa xs 0) ∧ bt1 kn (zVa xs 1))))) w) := by
  refine zx_ent (by decide +kernel) rfl (Nat.le_of_ble_eq_true rfl) ?_
  refine zx_L (L1 := [some (zR g), some (zP ch), some (zI kn), none]) rfl ?_
  refine zx_iload_n (i := 2) dX7_canGoalFail_0 rfl rfl ?_
  refine zx_aload_n (i := 0) dX7_canGoalFail_1 rfl rfl ?_
  refine zx_iconst (v := 0) dX7_canGoalFail_2 rfl (z32_lit (by decide) (by decide)) ?_
  refine zx_iv (b := g) (As := [zI 0]) (st := [zI kn]) (v := (some (zI (zVa xs 0)))) (w1 := w) dX7_canGoalFail_3 zc_X7_156 hg rfl rfl rfl (Nat.le_of_ble_eq_true rfl) rfl (c_X3_variableAt hg hv hx 0) ?_
  refine zx_st (st1 := [zI (zVa xs 0), zI kn]) rfl ?_
  refine zx_ishr (v := zshr kn (zVa xs 0)) dX7_canGoalFail_6 rfl ?_
  refine zx_iconst (v := 1) dX7_canGoalFail_7 rfl (z32_lit (by decide) (by decide)) ?_
  refine zx_iand (v := zand (zshr kn (zVa xs 0)) 1) dX7_canGoalFail_8 rfl ?_
  refine zx_iconst (v := 1) dX7_canGoalFail_9 rfl (z32_lit (by decide) (by decide)) ?_
  refine zx_icmp_ne (tgt := 17) dX7_canGoalFail_10 (by decide) (fun h10 => ?_) (fun h10 => ?_)
  · refine zx_iconst (v := 0) dX7_canGoalFail_17 rfl (z32_lit (by decide) (by decide)) ?_
    refine zx_istore_n (i := 3) dX7_canGoalFail_18 rfl (by decide) rfl ?_
    refine zx_L (L1 := [some (zR g), some (zP ch), some (zI kn), some (zI 0)]) rfl ?_
    refine zx_pc (pc1 := 19) rfl ?_
    refine zx_aload_n (i := 0) dX7_canGoalFail_19 rfl rfl ?_
    refine zx_getfield dX7_canGoalFail_20 zf_X7_159 hg rfl ?_
    refine zx_tableIn (off := 27) (tgt := 50) dX7_canGoalFail_23 (by decide) (by decide) rfl (by decide) ?_
    refine zx_iload_n (i := 3) dX7_canGoalFail_50 rfl rfl ?_
    refine zx_if_eq (tgt := 71) dX7_canGoalFail_51 (by decide) (fun h51 => ?_) (fun h51 => absurd (by decide) h51)
    refine zx_iconst (v := 0) dX7_canGoalFail_71 rfl (z32_lit (by decide) (by decide)) ?_
    refine zx_zret dX7_canGoalFail_72 rfl (by first | exact Or.inl rfl | exact Or.inr rfl | exact zB_or | assumption) ?_
    exact zr_f (by omega)
  · refine zx_iconst (v := 1) dX7_canGoalFail_13 rfl (z32_lit (by decide) (by decide)) ?_
    refine zx_goto (tgt := 18) dX7_canGoalFail_14 (by decide) ?_
    refine zx_pc (pc1 := 18) rfl ?_
    refine zx_istore_n (i := 3) dX7_canGoalFail_18 rfl (by decide) rfl ?_
    refine zx_L (L1 := [some (zR g), some (zP ch), some (zI kn), some (zI 1)]) rfl ?_
    refine zx_aload_n (i := 0) dX7_canGoalFail_19 rfl rfl ?_
    refine zx_getfield dX7_canGoalFail_20 zf_X7_159 hg rfl ?_
    refine zx_tableIn (off := 27) (tgt := 50) dX7_canGoalFail_23 (by decide) (by decide) rfl (by decide) ?_
    refine zx_iload_n (i := 3) dX7_canGoalFail_50 rfl rfl ?_
    refine zx_if_eq (tgt := 71) dX7_canGoalFail_51 (by decide) (fun h51 => absurd h51 (by decide)) (fun h51 => ?_)
    refine zx_iload_n (i := 2) dX7_canGoalFail_54 rfl rfl ?_
    refine zx_aload_n (i := 0) dX7_canGoalFail_55 rfl rfl ?_
    refine zx_iconst (v := 1) dX7_canGoalFail_56 rfl (z32_lit (by decide) (by decide)) ?_
    refine zx_iv (b := g) (As := [zI 1]) (st := [zI kn]) (v := (some (zI (zVa xs 1)))) (w1 := w) dX7_canGoalFail_57 zc_X7_156 hg rfl rfl rfl (Nat.le_of_ble_eq_true rfl) rfl (c_X3_variableAt hg hv hx 1) ?_
    refine zx_st (st1 := [zI (zVa xs 1), zI kn]) rfl ?_
    refine zx_ishr (v := zshr kn (zVa xs 1)) dX7_canGoalFail_60 rfl ?_
    refine zx_iconst (v := 1) dX7_canGoalFail_61 rfl (z32_lit (by decide) (by decide)) ?_
    refine zx_pc (pc1 := 62) rfl ?_
    refine zx_iand (v := zand (zshr kn (zVa xs 1)) 1) dX7_canGoalFail_62 rfl ?_
    refine zx_iconst (v := 1) dX7_canGoalFail_63 rfl (z32_lit (by decide) (by decide)) ?_
    refine zx_icmp_ne (tgt := 71) dX7_canGoalFail_64 (by decide) (fun h64 => ?_) (fun h64 => ?_)
    · refine zx_iconst (v := 0) dX7_canGoalFail_71 rfl (z32_lit (by decide) (by decide)) ?_
      refine zx_zret dX7_canGoalFail_72 rfl (by first | exact Or.inl rfl | exact Or.inr rfl | exact zB_or | assumption) ?_
      exact zr_f (by omega)
    · refine zx_iconst (v := 1) dX7_canGoalFail_67 rfl (z32_lit (by decide) (by decide)) ?_
      refine zx_goto (tgt := 72) dX7_canGoalFail_68 (by decide) ?_
      refine zx_zret dX7_canGoalFail_72 rfl (by first | exact Or.inl rfl | exact Or.inr rfl | exact zB_or | assumption) ?_
      exact zr_t (by omega)
theorem c_X7_canGoalFail3 {g va og ov : Nat} {su gn : Int} {xs : List Int} (hg : w.1 g = some (3, og, [zI 3, zI su, zI gn, zR va])) (hv : w.1 va = some (100, ov, xs.map Sum.inl)) (hx : xs.length < 100) (hgn : 0 ≤ gn ∧ gn ≤ 3) (ch : Option Nat) (kn : Int) : zM G zm_X7_canGoalFail (d + 2) [zR g, zP ch, zI kn] w (zRet (some (zI (1))) w) := by
  refine zx_ent (by decide +kernel) rfl (Nat.le_of_ble_eq_true rfl) ?_
  refine zx_L (L1 := [some (zR g), some (zP ch), some (zI kn), none]) rfl ?_
  refine zx_iload_n (i := 2) dX7_canGoalFail_0 rfl rfl ?_
  refine zx_aload_n (i := 0) dX7_canGoalFail_1 rfl rfl ?_
  refine zx_iconst (v := 0) dX7_canGoalFail_2 rfl (z32_lit (by decide) (by decide)) ?_
  refine zx_iv (b := g) (As := [zI 0]) (st := [zI kn]) (v := (some (zI (zVa xs 0)))) (w1 := w) dX7_canGoalFail_3 zc_X7_156 hg rfl rfl rfl (Nat.le_of_ble_eq_true rfl) rfl (c_X3_variableAt hg hv hx 0) ?_
  refine zx_st (st1 := [zI (zVa xs 0), zI kn]) rfl ?_
  refine zx_ishr (v := zshr kn (zVa xs 0)) dX7_canGoalFail_6 rfl ?_
  refine zx_iconst (v := 1) dX7_canGoalFail_7 rfl (z32_lit (by decide) (by decide)) ?_
  refine zx_iand (v := zand (zshr kn (zVa xs 0)) 1) dX7_canGoalFail_8 rfl ?_
  refine zx_iconst (v := 1) dX7_canGoalFail_9 rfl (z32_lit (by decide) (by decide)) ?_
  refine zx_icmp_ne (tgt := 17) dX7_canGoalFail_10 (by decide) (fun h10 => ?_) (fun h10 => ?_)
  · refine zx_iconst (v := 0) dX7_canGoalFail_17 rfl (z32_lit (by decide) (by decide)) ?_
    refine zx_istore_n (i := 3) dX7_canGoalFail_18 rfl (by decide) rfl ?_
    refine zx_L (L1 := [some (zR g), some (zP ch), some (zI kn), some (zI 0)]) rfl ?_
    refine zx_pc (pc1 := 19) rfl ?_
    refine zx_aload_n (i := 0) dX7_canGoalFail_19 rfl rfl ?_
    refine zx_getfield dX7_canGoalFail_20 zf_X7_159 hg rfl ?_
    refine zx_tableOut (tgt := 99) dX7_canGoalFail_23 (by decide) (by decide) ?_
    refine zx_iconst (v := 1) dX7_canGoalFail_99 rfl (z32_lit (by decide) (by decide)) ?_
    refine zx_zret dX7_canGoalFail_100 rfl (by first | exact Or.inl rfl | exact Or.inr rfl | exact zB_or | assumption) ?_
    exact zr_i rfl
  · refine zx_iconst (v := 1) dX7_canGoalFail_13 rfl (z32_lit (by decide) (by decide)) ?_
    refine zx_goto (tgt := 18) dX7_canGoalFail_14 (by decide) ?_
    refine zx_pc (pc1 := 18) rfl ?_
    refine zx_istore_n (i := 3) dX7_canGoalFail_18 rfl (by decide) rfl ?_
    refine zx_L (L1 := [some (zR g), some (zP ch), some (zI kn), some (zI 1)]) rfl ?_
    refine zx_aload_n (i := 0) dX7_canGoalFail_19 rfl rfl ?_
    refine zx_getfield dX7_canGoalFail_20 zf_X7_159 hg rfl ?_
    refine zx_tableOut (tgt := 99) dX7_canGoalFail_23 (by decide) (by decide) ?_
    refine zx_iconst (v := 1) dX7_canGoalFail_99 rfl (z32_lit (by decide) (by decide)) ?_
    refine zx_zret dX7_canGoalFail_100 rfl (by first | exact Or.inl rfl | exact Or.inr rfl | exact zB_or | assumption) ?_
    exact zr_i rfl
theorem c_X7_canGoalFail2 {g va og ov : Nat} {su gn : Int} {xs : List Int} (hg : w.1 g = some (3, og, [zI 2, zI su, zI gn, zR va])) (hv : w.1 va = some (100, ov, xs.map Sum.inl)) (hx : xs.length < 100) (hgn : 0 ≤ gn ∧ gn ≤ 3) {m om mpr : Nat} {mnu ins pm lo gd cf cr sw : Int} (hm : w.1 m = some (5, om, [zR mpr, zI mnu, zI ins, zI pm, zI lo, zI gd, zI cf, zI cr, zI sw])) (kn : Int) : zM G zm_X7_canGoalFail (d + 3) [zR g, zR m, zI kn] w (zRet (some (zI (zB (cf ≠ 0 ∨ clG xs (fun q => decide (isIn ins (q : Int))) (gn - 0).toNat 0 kn = true)))) w) := by
  refine zx_ent (by decide +kernel) rfl (Nat.le_of_ble_eq_true rfl) ?_
  refine zx_L (L1 := [some (zR g), some (zR m), some (zI kn), none]) rfl ?_
  refine zx_iload_n (i := 2) dX7_canGoalFail_0 rfl rfl ?_
  refine zx_aload_n (i := 0) dX7_canGoalFail_1 rfl rfl ?_
  refine zx_iconst (v := 0) dX7_canGoalFail_2 rfl (z32_lit (by decide) (by decide)) ?_
  refine zx_iv (b := g) (As := [zI 0]) (st := [zI kn]) (v := (some (zI (zVa xs 0)))) (w1 := w) dX7_canGoalFail_3 zc_X7_156 hg rfl rfl rfl (Nat.le_of_ble_eq_true rfl) rfl (c_X3_variableAt hg hv hx 0) ?_
  refine zx_st (st1 := [zI (zVa xs 0), zI kn]) rfl ?_
  refine zx_ishr (v := zshr kn (zVa xs 0)) dX7_canGoalFail_6 rfl ?_
  refine zx_iconst (v := 1) dX7_canGoalFail_7 rfl (z32_lit (by decide) (by decide)) ?_
  refine zx_iand (v := zand (zshr kn (zVa xs 0)) 1) dX7_canGoalFail_8 rfl ?_
  refine zx_iconst (v := 1) dX7_canGoalFail_9 rfl (z32_lit (by decide) (by decide)) ?_
  refine zx_icmp_ne (tgt := 17) dX7_canGoalFail_10 (by decide) (fun h10 => ?_) (fun h10 => ?_)
  · refine zx_iconst (v := 0) dX7_canGoalFail_17 rfl (z32_lit (by decide) (by decide)) ?_
    refine zx_istore_n (i := 3) dX7_canGoalFail_18 rfl (by decide) rfl ?_
    refine zx_L (L1 := [some (zR g), some (zR m), some (zI kn), some (zI 0)]) rfl ?_
    refine zx_pc (pc1 := 19) rfl ?_
    refine zx_aload_n (i := 0) dX7_canGoalFail_19 rfl rfl ?_
    refine zx_getfield dX7_canGoalFail_20 zf_X7_159 hg rfl ?_
    refine zx_tableIn (off := 50) (tgt := 73) dX7_canGoalFail_23 (by decide) (by decide) rfl (by decide) ?_
    refine zx_aload_n (i := 1) dX7_canGoalFail_73 rfl rfl ?_
    refine zx_ifnull (tgt := 97) dX7_canGoalFail_74 (by decide) (fun h => by cases h) (fun _ => ?_)
    refine zx_aload_n (i := 1) dX7_canGoalFail_77 rfl rfl ?_
    refine zx_getfield dX7_canGoalFail_78 zf_X7_84 hm rfl ?_
    refine zx_if_ne (tgt := 93) dX7_canGoalFail_81 (by decide) (fun h81 => ?_) (fun h81 => ?_)
    · refine zx_iconst (v := 1) dX7_canGoalFail_93 rfl (z32_lit (by decide) (by decide)) ?_
      refine zx_goto (tgt := 98) dX7_canGoalFail_94 (by decide) ?_
      refine zx_zret dX7_canGoalFail_98 rfl (by first | exact Or.inl rfl | exact Or.inr rfl | exact zB_or | assumption) ?_
      exact zr_t (by first | exact Or.inl h81 | exact Or.inr (zB_nz.mp h90))
    · refine zx_aload_n (i := 0) dX7_canGoalFail_84 rfl rfl ?_
      refine zx_aload_n (i := 1) dX7_canGoalFail_85 rfl rfl ?_
      refine zx_iload_n (i := 2) dX7_canGoalFail_86 rfl rfl ?_
      refine zx_is (As := [zR g, zR m, zI kn]) (st := []) (v := (some (zI (zB (clG xs (fun q => decide (isIn ins (q : Int))) (gn - 0).toNat 0 kn = true))))) (w1 := w) dX7_canGoalFail_87 zc_X7_226 rfl (Nat.le_of_ble_eq_true rfl) rfl (c_X7_clashes1 hg hv hx hgn hm kn) ?_
      refine zx_st (st1 := [zI (zB (clG xs (fun q => decide (isIn ins (q : Int))) (gn - 0).toNat 0 kn = true))]) rfl ?_
      refine zx_pc (pc1 := 90) rfl ?_
      refine zx_if_eq (tgt := 97) dX7_canGoalFail_90 (by decide) (fun h90 => ?_) (fun h90 => ?_)
      · refine zx_iconst (v := 0) dX7_canGoalFail_97 rfl (z32_lit (by decide) (by decide)) ?_
        refine zx_zret dX7_canGoalFail_98 rfl (by first | exact Or.inl rfl | exact Or.inr rfl | exact zB_or | assumption) ?_
        exact zr_f (fun hq => by rcases hq with hq | hq; exact h81 hq; exact absurd hq (zB_zero.mp h90))
      · refine zx_iconst (v := 1) dX7_canGoalFail_93 rfl (z32_lit (by decide) (by decide)) ?_
        refine zx_goto (tgt := 98) dX7_canGoalFail_94 (by decide) ?_
        refine zx_zret dX7_canGoalFail_98 rfl (by first | exact Or.inl rfl | exact Or.inr rfl | exact zB_or | assumption) ?_
        exact zr_t (by first | exact Or.inl h81 | exact Or.inr (zB_nz.mp h90))
  · refine zx_iconst (v := 1) dX7_canGoalFail_13 rfl (z32_lit (by decide) (by decide)) ?_
    refine zx_goto (tgt := 18) dX7_canGoalFail_14 (by decide) ?_
    refine zx_pc (pc1 := 18) rfl ?_
    refine zx_istore_n (i := 3) dX7_canGoalFail_18 rfl (by decide) rfl ?_
    refine zx_L (L1 := [some (zR g), some (zR m), some (zI kn), some (zI 1)]) rfl ?_
    refine zx_aload_n (i := 0) dX7_canGoalFail_19 rfl rfl ?_
    refine zx_getfield dX7_canGoalFail_20 zf_X7_159 hg rfl ?_
    refine zx_tableIn (off := 50) (tgt := 73) dX7_canGoalFail_23 (by decide) (by decide) rfl (by decide) ?_
    refine zx_aload_n (i := 1) dX7_canGoalFail_73 rfl rfl ?_
    refine zx_ifnull (tgt := 97) dX7_canGoalFail_74 (by decide) (fun h => by cases h) (fun _ => ?_)
    refine zx_aload_n (i := 1) dX7_canGoalFail_77 rfl rfl ?_
    refine zx_getfield dX7_canGoalFail_78 zf_X7_84 hm rfl ?_
    refine zx_if_ne (tgt := 93) dX7_canGoalFail_81 (by decide) (fun h81 => ?_) (fun h81 => ?_)
    · refine zx_iconst (v := 1) dX7_canGoalFail_93 rfl (z32_lit (by decide) (by decide)) ?_
      refine zx_goto (tgt := 98) dX7_canGoalFail_94 (by decide) ?_
      refine zx_zret dX7_canGoalFail_98 rfl (by first | exact Or.inl rfl | exact Or.inr rfl | exact zB_or | assumption) ?_
      exact zr_t (by first | exact Or.inl h81 | exact Or.inr (zB_nz.mp h90))
    · refine zx_aload_n (i := 0) dX7_canGoalFail_84 rfl rfl ?_
      refine zx_aload_n (i := 1) dX7_canGoalFail_85 rfl rfl ?_
      refine zx_iload_n (i := 2) dX7_canGoalFail_86 rfl rfl ?_
      refine zx_pc (pc1 := 87) rfl ?_
      refine zx_is (As := [zR g, zR m, zI kn]) (st := []) (v := (some (zI (zB (clG xs (fun q => decide (isIn ins (q : Int))) (gn - 0).toNat 0 kn = true))))) (w1 := w) dX7_canGoalFail_87 zc_X7_226 rfl (Nat.le_of_ble_eq_true rfl) rfl (c_X7_clashes1 hg hv hx hgn hm kn) ?_
      refine zx_st (st1 := [zI (zB (clG xs (fun q => decide (isIn ins (q : Int))) (gn - 0).toNat 0 kn = true))]) rfl ?_
      refine zx_if_eq (tgt := 97) dX7_canGoalFail_90 (by decide) (fun h90 => ?_) (fun h90 => ?_)
      · refine zx_iconst (v := 0) dX7_canGoalFail_97 rfl (z32_lit (by decide) (by decide)) ?_
        refine zx_zret dX7_canGoalFail_98 rfl (by first | exact Or.inl rfl | exact Or.inr rfl | exact zB_or | assumption) ?_
        exact zr_f (fun hq => by rcases hq with hq | hq; exact h81 hq; exact absurd hq (zB_zero.mp h90))
      · refine zx_iconst (v := 1) dX7_canGoalFail_93 rfl (z32_lit (by decide) (by decide)) ?_
        refine zx_goto (tgt := 98) dX7_canGoalFail_94 (by decide) ?_
        refine zx_zret dX7_canGoalFail_98 rfl (by first | exact Or.inl rfl | exact Or.inr rfl | exact zB_or | assumption) ?_
        exact zr_t (by first | exact Or.inl h81 | exact Or.inr (zB_nz.mp h90))
end CANA
