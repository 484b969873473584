/-! Own rows: goals, modes, frames: their methods tell one outcome each. Walked by program (wip/p37/m_leaf.py). -/
section CLEAF
variable {G : zG} {d : Nat} {w : zW}
abbrev zGo (k s n x : Nat) (va : Nat) : List zV := [zI k, zI s, zI n, zR va]
theorem c_X3_isCalling {g og : Nat} {k s n : Int} {va : Nat} (hg : w.1 g = some (3, og, [zI k, zI s, zI n, zR va])) : zM G zm_X3_isCalling d [zR g] w (zRet (some (zI (zB (k = 2 ∨ k = 3)))) w) := by
  refine zx_ent (by decide +kernel) rfl (Nat.le_of_ble_eq_true rfl) ?_
  refine zx_L (L1 := [some (zR g)]) rfl ?_
  refine zx_aload_n (i := 0) dX3_isCalling_0 rfl rfl ?_
  refine zx_getfield dX3_isCalling_1 zf_X3_9 hg rfl ?_
  refine zx_iconst (v := 2) dX3_isCalling_4 rfl (z32_lit (by decide) (by decide)) ?_
  refine zx_icmp_eq (tgt := 16) dX3_isCalling_5 (by decide) (fun h5 => ?_) (fun h5 => ?_)
  · refine zx_iconst (v := 1) dX3_isCalling_16 rfl (z32_lit (by decide) (by decide)) ?_
    refine zx_goto (tgt := 21) dX3_isCalling_17 (by decide) ?_
    refine zx_zret dX3_isCalling_21 rfl (by first | exact Or.inl rfl | exact Or.inr rfl | exact zB_or | assumption) ?_
    first | exact zr_t (by omega) | exact zr_f (by omega)
  · refine zx_aload_n (i := 0) dX3_isCalling_8 rfl rfl ?_
    refine zx_getfield dX3_isCalling_9 zf_X3_9 hg rfl ?_
    refine zx_iconst (v := 3) dX3_isCalling_12 rfl (z32_lit (by decide) (by decide)) ?_
    refine zx_icmp_ne (tgt := 20) dX3_isCalling_13 (by decide) (fun h13 => ?_) (fun h13 => ?_)
    · refine zx_iconst (v := 0) dX3_isCalling_20 rfl (z32_lit (by decide) (by decide)) ?_
      refine zx_zret dX3_isCalling_21 rfl (by first | exact Or.inl rfl | exact Or.inr rfl | exact zB_or | assumption) ?_
      first | exact zr_t (by omega) | exact zr_f (by omega)
    · refine zx_iconst (v := 1) dX3_isCalling_16 rfl (z32_lit (by decide) (by decide)) ?_
      refine zx_goto (tgt := 21) dX3_isCalling_17 (by decide) ?_
      refine zx_zret dX3_isCalling_21 rfl (by first | exact Or.inl rfl | exact Or.inr rfl | exact zB_or | assumption) ?_
      first | exact zr_t (by omega) | exact zr_f (by omega)
def zVa (xs : List Int) (i : Int) : Int := if 0 ≤ i ∧ i.toNat < xs.length then xs.getD i.toNat 0 else 0
theorem c_X3_variableAt {g og : Nat} {k s n : Int} {va ov : Nat} {xs : List Int} (hg : w.1 g = some (3, og, [zI k, zI s, zI n, zR va])) (hv : w.1 va = some (100, ov, xs.map Sum.inl)) (hx : xs.length < 100) (i : Int) : zM G zm_X3_variableAt d [zR g, zI i] w (zRet (some (zI (zVa xs i))) w) := by
  refine zx_ent (by decide +kernel) rfl (Nat.le_of_ble_eq_true rfl) ?_
  refine zx_L (L1 := [some (zR g), some (zI i)]) rfl ?_
  refine zx_iload_n (i := 1) dX3_variableAt_0 rfl rfl ?_
  refine zx_if_lt (tgt := 22) dX3_variableAt_1 (by decide) (fun h1 => ?_) (fun h1 => ?_)
  · refine zx_iconst (v := 0) dX3_variableAt_22 rfl (z32_lit (by decide) (by decide)) ?_
    refine zx_iret dX3_variableAt_23 rfl ?_
    exact zr_i (by unfold zVa; first | rw [if_pos (by omega)] | rw [if_neg (by omega)])
  · refine zx_iload_n (i := 1) dX3_variableAt_4 rfl rfl ?_
    refine zx_aload_n (i := 0) dX3_variableAt_5 rfl rfl ?_
    refine zx_getfield dX3_variableAt_6 zf_X3_21 hg rfl ?_
    refine zx_alen (n := xs.length) dX3_variableAt_9 hv (by decide) (by simp) (by omega) ?_
    refine zx_icmp_ge (tgt := 22) dX3_variableAt_10 (by decide) (fun h10 => ?_) (fun h10 => ?_)
    · refine zx_iconst (v := 0) dX3_variableAt_22 rfl (z32_lit (by decide) (by decide)) ?_
      refine zx_iret dX3_variableAt_23 rfl ?_
      exact zr_i (by unfold zVa; first | rw [if_pos (by omega)] | rw [if_neg (by omega)])
    · refine zx_aload_n (i := 0) dX3_variableAt_13 rfl rfl ?_
      refine zx_getfield dX3_variableAt_14 zf_X3_21 hg rfl ?_
      refine zx_iload_n (i := 1) dX3_variableAt_17 rfl rfl ?_
      refine zx_iaload (v := zI (xs.getD i.toNat 0)) dX3_variableAt_18 hv (by decide) (by omega) (by rw [List.getElem?_map, List.getElem?_eq_getElem (show i.toNat < xs.length by omega)]; simp [List.getD_eq_getElem?_getD, List.getElem?_eq_getElem (show i.toNat < xs.length by omega)]) ?_
      refine zx_pc (pc1 := 19) rfl ?_
      refine zx_goto (tgt := 23) dX3_variableAt_19 (by decide) ?_
      refine zx_iret dX3_variableAt_23 rfl ?_
      exact zr_i (by unfold zVa; first | rw [if_pos (by omega)] | rw [if_neg (by omega)])
def zIn (inputs i : Int) : Prop := 0 ≤ i ∧ i < 3 ∧ zand (zshr inputs i) 1 = 1
theorem zIn_dec (inputs i : Int) : (if 0 ≤ i ∧ i < 3 ∧ zand (zshr inputs i) 1 = 1 then (1 : Int) else 0) = (if 0 ≤ i ∧ i < 3 ∧ zand (zshr inputs i) 1 = 1 then 1 else 0) := rfl
theorem c_X5_isInput {m om pr : Nat} {nu ins pm lo gd cf cr sw : Int} (hm : w.1 m = some (5, om, [zR pr, zI nu, zI ins, zI pm, zI lo, zI gd, zI cf, zI cr, zI sw])) (i : Int) : zM G zm_X5_isInput d [zR m, zI i] w (zRet (some (zI (zB (0 ≤ i ∧ i < 3 ∧ zand (zshr ins i) 1 = 1)))) w) := by
  refine zx_ent (by decide +kernel) rfl (Nat.le_of_ble_eq_true rfl) ?_
  refine zx_L (L1 := [some (zR m), some (zI i)]) rfl ?_
  refine zx_iload_n (i := 1) dX5_isInput_0 rfl rfl ?_
  refine zx_if_lt (tgt := 25) dX5_isInput_1 (by decide) (fun h1 => ?_) (fun h1 => ?_)
  · refine zx_iconst (v := 0) dX5_isInput_25 rfl (z32_lit (by decide) (by decide)) ?_
    refine zx_zret dX5_isInput_26 rfl (by first | exact Or.inl rfl | exact Or.inr rfl | exact zB_or | assumption) ?_
    first | exact zr_t (by omega) | exact zr_f (by omega)
  · refine zx_iload_n (i := 1) dX5_isInput_4 rfl rfl ?_
    refine zx_iconst (v := 3) dX5_isInput_5 rfl (z32_lit (by decide) (by decide)) ?_
    refine zx_icmp_ge (tgt := 25) dX5_isInput_6 (by decide) (fun h6 => ?_) (fun h6 => ?_)
    · refine zx_iconst (v := 0) dX5_isInput_25 rfl (z32_lit (by decide) (by decide)) ?_
      refine zx_zret dX5_isInput_26 rfl (by first | exact Or.inl rfl | exact Or.inr rfl | exact zB_or | assumption) ?_
      first | exact zr_t (by omega) | exact zr_f (by omega)
    · refine zx_aload_n (i := 0) dX5_isInput_9 rfl rfl ?_
      refine zx_getfield dX5_isInput_10 zf_X5_19 hm rfl ?_
      refine zx_iload_n (i := 1) dX5_isInput_13 rfl rfl ?_
      refine zx_ishr (v := zshr ins i) dX5_isInput_14 rfl ?_
      refine zx_iconst (v := 1) dX5_isInput_15 rfl (z32_lit (by decide) (by decide)) ?_
      refine zx_iand (v := zand (zshr ins i) 1) dX5_isInput_16 rfl ?_
      refine zx_pc (pc1 := 17) rfl ?_
      refine zx_iconst (v := 1) dX5_isInput_17 rfl (z32_lit (by decide) (by decide)) ?_
      refine zx_icmp_ne (tgt := 25) dX5_isInput_18 (by decide) (fun h18 => ?_) (fun h18 => ?_)
      · refine zx_iconst (v := 0) dX5_isInput_25 rfl (z32_lit (by decide) (by decide)) ?_
        refine zx_zret dX5_isInput_26 rfl (by first | exact Or.inl rfl | exact Or.inr rfl | exact zB_or | assumption) ?_
        first | exact zr_t (by omega) | exact zr_f (by omega)
      · refine zx_iconst (v := 1) dX5_isInput_21 rfl (z32_lit (by decide) (by decide)) ?_
        refine zx_goto (tgt := 26) dX5_isInput_22 (by decide) ?_
        refine zx_zret dX5_isInput_26 rfl (by first | exact Or.inl rfl | exact Or.inr rfl | exact zB_or | assumption) ?_
        first | exact zr_t (by omega) | exact zr_f (by omega)
theorem c_X5_foundSign {m om pr : Nat} {nu ins pm lo gd cf cr sw : Int} (hm : w.1 m = some (5, om, [zR pr, zI nu, zI ins, zI pm, zI lo, zI gd, zI cf, zI cr, zI sw])) : zM G zm_X5_foundSign d [zR m] w (zRet (some (zI (if cr = 0 then (if cf = 0 then 100 else 115) else (if cf = 0 then 109 else 110)))) w) := by
  refine zx_ent (by decide +kernel) rfl (Nat.le_of_ble_eq_true rfl) ?_
  refine zx_L (L1 := [some (zR m)]) rfl ?_
  refine zx_aload_n (i := 0) dX5_foundSign_0 rfl rfl ?_
  refine zx_getfield dX5_foundSign_1 zf_X5_29 hm rfl ?_
  refine zx_if_eq (tgt := 22) dX5_foundSign_4 (by decide) (fun h4 => ?_) (fun h4 => ?_)
  · refine zx_aload_n (i := 0) dX5_foundSign_22 rfl rfl ?_
    refine zx_getfield dX5_foundSign_23 zf_X5_33 hm rfl ?_
    refine zx_if_eq (tgt := 34) dX5_foundSign_26 (by decide) (fun h26 => ?_) (fun h26 => ?_)
    · refine zx_bipush (v := 100) dX5_foundSign_34 (by decide +kernel) (z32_lit (by decide) (by decide)) ?_
      refine zx_cret dX5_foundSign_36 rfl (by first | decide | omega | assumption) ?_
      exact zr_i (by simp [*])
    · refine zx_bipush (v := 115) dX5_foundSign_29 (by decide +kernel) (z32_lit (by decide) (by decide)) ?_
      refine zx_goto (tgt := 36) dX5_foundSign_31 (by decide) ?_
      refine zx_cret dX5_foundSign_36 rfl (by first | decide | omega | assumption) ?_
      exact zr_i (by simp [*])
  · refine zx_aload_n (i := 0) dX5_foundSign_7 rfl rfl ?_
    refine zx_getfield dX5_foundSign_8 zf_X5_33 hm rfl ?_
    refine zx_if_eq (tgt := 19) dX5_foundSign_11 (by decide) (fun h11 => ?_) (fun h11 => ?_)
    · refine zx_bipush (v := 109) dX5_foundSign_19 (by decide +kernel) (z32_lit (by decide) (by decide)) ?_
      refine zx_cret dX5_foundSign_21 rfl (by first | decide | omega | assumption) ?_
      exact zr_i (by simp [*])
    · refine zx_bipush (v := 110) dX5_foundSign_14 (by decide +kernel) (z32_lit (by decide) (by decide)) ?_
      refine zx_goto (tgt := 21) dX5_foundSign_16 (by decide) ?_
      refine zx_cret dX5_foundSign_21 rfl (by first | decide | omega | assumption) ?_
      exact zr_i (by simp [*])
theorem c_X5_isBroken {m om pr : Nat} {nu ins pm lo gd cf cr sw : Int} (hm : w.1 m = some (5, om, [zR pr, zI nu, zI ins, zI pm, zI lo, zI gd, zI cf, zI cr, zI sw])) : zM G zm_X5_isBroken d [zR m] w (zRet (some (zI (zB ((cf ≠ 0 ∧ (pm = 100 ∨ pm = 109)) ∨ (cr ≠ 0 ∧ (pm = 100 ∨ pm = 115)))))) w) := by
  refine zx_ent (by decide +kernel) rfl (Nat.le_of_ble_eq_true rfl) ?_
  refine zx_L (L1 := [some (zR m), none, none]) rfl ?_
  refine zx_aload_n (i := 0) dX5_isBroken_0 rfl rfl ?_
  refine zx_getfield dX5_isBroken_1 zf_X5_33 hm rfl ?_
  refine zx_if_eq (tgt := 29) dX5_isBroken_4 (by decide) (fun h4 => ?_) (fun h4 => ?_)
  · refine zx_iconst (v := 0) dX5_isBroken_29 rfl (z32_lit (by decide) (by decide)) ?_
    refine zx_istore_n (i := 1) dX5_isBroken_30 rfl (by decide) rfl ?_
    refine zx_L (L1 := [some (zR m), some (zI 0), none]) rfl ?_
    refine zx_aload_n (i := 0) dX5_isBroken_31 rfl rfl ?_
    refine zx_getfield dX5_isBroken_32 zf_X5_29 hm rfl ?_
    refine zx_if_eq (tgt := 60) dX5_isBroken_35 (by decide) (fun h35 => ?_) (fun h35 => ?_)
    · refine zx_iconst (v := 0) dX5_isBroken_60 rfl (z32_lit (by decide) (by decide)) ?_
      refine zx_istore_n (i := 2) dX5_isBroken_61 rfl (by decide) rfl ?_
      refine zx_L (L1 := [some (zR m), some (zI 0), some (zI 0)]) rfl ?_
      refine zx_iload_n (i := 1) dX5_isBroken_62 rfl rfl ?_
      refine zx_pc (pc1 := 63) rfl ?_
      refine zx_if_ne (tgt := 70) dX5_isBroken_63 (by decide) (fun h63 => absurd h63 (by decide)) (fun h63 => ?_)
      refine zx_iload_n (i := 2) dX5_isBroken_66 rfl rfl ?_
      refine zx_if_eq (tgt := 74) dX5_isBroken_67 (by decide) (fun h67 => ?_) (fun h67 => absurd (by decide) h67)
      refine zx_iconst (v := 0) dX5_isBroken_74 rfl (z32_lit (by decide) (by decide)) ?_
      refine zx_zret dX5_isBroken_75 rfl (by first | exact Or.inl rfl | exact Or.inr rfl | exact zB_or | assumption) ?_
      first | exact zr_t (by omega) | exact zr_f (by omega)
    · refine zx_aload_n (i := 0) dX5_isBroken_38 rfl rfl ?_
      refine zx_getfield dX5_isBroken_39 zf_X5_22 hm rfl ?_
      refine zx_bipush (v := 100) dX5_isBroken_42 (by decide +kernel) (z32_lit (by decide) (by decide)) ?_
      refine zx_pc (pc1 := 44) rfl ?_
      refine zx_icmp_eq (tgt := 56) dX5_isBroken_44 (by decide) (fun h44 => ?_) (fun h44 => ?_)
      · refine zx_iconst (v := 1) dX5_isBroken_56 rfl (z32_lit (by decide) (by decide)) ?_
        refine zx_goto (tgt := 61) dX5_isBroken_57 (by decide) ?_
        refine zx_istore_n (i := 2) dX5_isBroken_61 rfl (by decide) rfl ?_
        refine zx_L (L1 := [some (zR m), some (zI 0), some (zI 1)]) rfl ?_
        refine zx_iload_n (i := 1) dX5_isBroken_62 rfl rfl ?_
        refine zx_if_ne (tgt := 70) dX5_isBroken_63 (by decide) (fun h63 => absurd h63 (by decide)) (fun h63 => ?_)
        refine zx_iload_n (i := 2) dX5_isBroken_66 rfl rfl ?_
        refine zx_if_eq (tgt := 74) dX5_isBroken_67 (by decide) (fun h67 => absurd h67 (by decide)) (fun h67 => ?_)
        refine zx_iconst (v := 1) dX5_isBroken_70 rfl (z32_lit (by decide) (by decide)) ?_
        refine zx_goto (tgt := 75) dX5_isBroken_71 (by decide) ?_
        refine zx_zret dX5_isBroken_75 rfl (by first | exact Or.inl rfl | exact Or.inr rfl | exact zB_or | assumption) ?_
        first | exact zr_t (by omega) | exact zr_f (by omega)
      · refine zx_aload_n (i := 0) dX5_isBroken_47 rfl rfl ?_
        refine zx_getfield dX5_isBroken_48 zf_X5_22 hm rfl ?_
        refine zx_bipush (v := 115) dX5_isBroken_51 (by decide +kernel) (z32_lit (by decide) (by decide)) ?_
        refine zx_icmp_ne (tgt := 60) dX5_isBroken_53 (by decide) (fun h53 => ?_) (fun h53 => ?_)
        · refine zx_iconst (v := 0) dX5_isBroken_60 rfl (z32_lit (by decide) (by decide)) ?_
          refine zx_istore_n (i := 2) dX5_isBroken_61 rfl (by decide) rfl ?_
          refine zx_L (L1 := [some (zR m), some (zI 0), some (zI 0)]) rfl ?_
          refine zx_iload_n (i := 1) dX5_isBroken_62 rfl rfl ?_
          refine zx_if_ne (tgt := 70) dX5_isBroken_63 (by decide) (fun h63 => absurd h63 (by decide)) (fun h63 => ?_)
          refine zx_iload_n (i := 2) dX5_isBroken_66 rfl rfl ?_
          refine zx_if_eq (tgt := 74) dX5_isBroken_67 (by decide) (fun h67 => ?_) (fun h67 => absurd (by decide) h67)
          refine zx_iconst (v := 0) dX5_isBroken_74 rfl (z32_lit (by decide) (by decide)) ?_
          refine zx_pc (pc1 := 75) rfl ?_
          refine zx_zret dX5_isBroken_75 rfl (by first | exact Or.inl rfl | exact Or.inr rfl | exact zB_or | assumption) ?_
          first | exact zr_t (by omega) | exact zr_f (by omega)
        · refine zx_iconst (v := 1) dX5_isBroken_56 rfl (z32_lit (by decide) (by decide)) ?_
          refine zx_goto (tgt := 61) dX5_isBroken_57 (by decide) ?_
          refine zx_istore_n (i := 2) dX5_isBroken_61 rfl (by decide) rfl ?_
          refine zx_L (L1 := [some (zR m), some (zI 0), some (zI 1)]) rfl ?_
          refine zx_iload_n (i := 1) dX5_isBroken_62 rfl rfl ?_
          refine zx_if_ne (tgt := 70) dX5_isBroken_63 (by decide) (fun h63 => absurd h63 (by decide)) (fun h63 => ?_)
          refine zx_iload_n (i := 2) dX5_isBroken_66 rfl rfl ?_
          refine zx_if_eq (tgt := 74) dX5_isBroken_67 (by decide) (fun h67 => absurd h67 (by decide)) (fun h67 => ?_)
          refine zx_pc (pc1 := 70) rfl ?_
          refine zx_iconst (v := 1) dX5_isBroken_70 rfl (z32_lit (by decide) (by decide)) ?_
          refine zx_goto (tgt := 75) dX5_isBroken_71 (by decide) ?_
          refine zx_zret dX5_isBroken_75 rfl (by first | exact Or.inl rfl | exact Or.inr rfl | exact zB_or | assumption) ?_
          first | exact zr_t (by omega) | exact zr_f (by omega)
  · refine zx_aload_n (i := 0) dX5_isBroken_7 rfl rfl ?_
    refine zx_getfield dX5_isBroken_8 zf_X5_22 hm rfl ?_
    refine zx_bipush (v := 100) dX5_isBroken_11 (by decide +kernel) (z32_lit (by decide) (by decide)) ?_
    refine zx_icmp_eq (tgt := 25) dX5_isBroken_13 (by decide) (fun h13 => ?_) (fun h13 => ?_)
    · refine zx_iconst (v := 1) dX5_isBroken_25 rfl (z32_lit (by decide) (by decide)) ?_
      refine zx_goto (tgt := 30) dX5_isBroken_26 (by decide) ?_
      refine zx_istore_n (i := 1) dX5_isBroken_30 rfl (by decide) rfl ?_
      refine zx_L (L1 := [some (zR m), some (zI 1), none]) rfl ?_
      refine zx_aload_n (i := 0) dX5_isBroken_31 rfl rfl ?_
      refine zx_pc (pc1 := 32) rfl ?_
      refine zx_getfield dX5_isBroken_32 zf_X5_29 hm rfl ?_
      refine zx_if_eq (tgt := 60) dX5_isBroken_35 (by decide) (fun h35 => ?_) (fun h35 => ?_)
      · refine zx_iconst (v := 0) dX5_isBroken_60 rfl (z32_lit (by decide) (by decide)) ?_
        refine zx_istore_n (i := 2) dX5_isBroken_61 rfl (by decide) rfl ?_
        refine zx_L (L1 := [some (zR m), some (zI 1), some (zI 0)]) rfl ?_
        refine zx_iload_n (i := 1) dX5_isBroken_62 rfl rfl ?_
        refine zx_if_ne (tgt := 70) dX5_isBroken_63 (by decide) (fun h63 => ?_) (fun h63 => absurd (by decide) h63)
        refine zx_iconst (v := 1) dX5_isBroken_70 rfl (z32_lit (by decide) (by decide)) ?_
        refine zx_goto (tgt := 75) dX5_isBroken_71 (by decide) ?_
        refine zx_zret dX5_isBroken_75 rfl (by first | exact Or.inl rfl | exact Or.inr rfl | exact zB_or | assumption) ?_
        first | exact zr_t (by omega) | exact zr_f (by omega)
      · refine zx_aload_n (i := 0) dX5_isBroken_38 rfl rfl ?_
        refine zx_getfield dX5_isBroken_39 zf_X5_22 hm rfl ?_
        refine zx_bipush (v := 100) dX5_isBroken_42 (by decide +kernel) (z32_lit (by decide) (by decide)) ?_
        refine zx_icmp_eq (tgt := 56) dX5_isBroken_44 (by decide) (fun h44 => ?_) (fun h44 => ?_)
        · refine zx_iconst (v := 1) dX5_isBroken_56 rfl (z32_lit (by decide) (by decide)) ?_
          refine zx_goto (tgt := 61) dX5_isBroken_57 (by decide) ?_
          refine zx_istore_n (i := 2) dX5_isBroken_61 rfl (by decide) rfl ?_
          refine zx_L (L1 := [some (zR m), some (zI 1), some (zI 1)]) rfl ?_
          refine zx_iload_n (i := 1) dX5_isBroken_62 rfl rfl ?_
          refine zx_if_ne (tgt := 70) dX5_isBroken_63 (by decide) (fun h63 => ?_) (fun h63 => absurd (by decide) h63)
          refine zx_iconst (v := 1) dX5_isBroken_70 rfl (z32_lit (by decide) (by decide)) ?_
          refine zx_pc (pc1 := 71) rfl ?_
          refine zx_goto (tgt := 75) dX5_isBroken_71 (by decide) ?_
          refine zx_zret dX5_isBroken_75 rfl (by first | exact Or.inl rfl | exact Or.inr rfl | exact zB_or | assumption) ?_
          first | exact zr_t (by omega) | exact zr_f (by omega)
        · refine zx_aload_n (i := 0) dX5_isBroken_47 rfl rfl ?_
          refine zx_getfield dX5_isBroken_48 zf_X5_22 hm rfl ?_
          refine zx_bipush (v := 115) dX5_isBroken_51 (by decide +kernel) (z32_lit (by decide) (by decide)) ?_
          refine zx_icmp_ne (tgt := 60) dX5_isBroken_53 (by decide) (fun h53 => ?_) (fun h53 => ?_)
          · refine zx_iconst (v := 0) dX5_isBroken_60 rfl (z32_lit (by decide) (by decide)) ?_
            refine zx_istore_n (i := 2) dX5_isBroken_61 rfl (by decide) rfl ?_
            refine zx_L (L1 := [some (zR m), some (zI 1), some (zI 0)]) rfl ?_
            refine zx_pc (pc1 := 62) rfl ?_
            refine zx_iload_n (i := 1) dX5_isBroken_62 rfl rfl ?_
            refine zx_if_ne (tgt := 70) dX5_isBroken_63 (by decide) (fun h63 => ?_) (fun h63 => absurd (by decide) h63)
            refine zx_iconst (v := 1) dX5_isBroken_70 rfl (z32_lit (by decide) (by decide)) ?_
            refine zx_goto (tgt := 75) dX5_isBroken_71 (by decide) ?_
            refine zx_zret dX5_isBroken_75 rfl (by first | exact Or.inl rfl | exact Or.inr rfl | exact zB_or | assumption) ?_
            first | exact zr_t (by omega) | exact zr_f (by omega)
          · refine zx_iconst (v := 1) dX5_isBroken_56 rfl (z32_lit (by decide) (by decide)) ?_
            refine zx_goto (tgt := 61) dX5_isBroken_57 (by decide) ?_
            refine zx_pc (pc1 := 61) rfl ?_
            refine zx_istore_n (i := 2) dX5_isBroken_61 rfl (by decide) rfl ?_
            refine zx_L (L1 := [some (zR m), some (zI 1), some (zI 1)]) rfl ?_
            refine zx_iload_n (i := 1) dX5_isBroken_62 rfl rfl ?_
            refine zx_if_ne (tgt := 70) dX5_isBroken_63 (by decide) (fun h63 => ?_) (fun h63 => absurd (by decide) h63)
            refine zx_iconst (v := 1) dX5_isBroken_70 rfl (z32_lit (by decide) (by decide)) ?_
            refine zx_goto (tgt := 75) dX5_isBroken_71 (by decide) ?_
            refine zx_zret dX5_isBroken_75 rfl (by first | exact Or.inl rfl | exact Or.inr rfl | exact zB_or | assumption) ?_
            first | exact zr_t (by omega) | exact zr_f (by omega)
    · refine zx_aload_n (i := 0) dX5_isBroken_16 rfl rfl ?_
      refine zx_getfield dX5_isBroken_17 zf_X5_22 hm rfl ?_
      refine zx_bipush (v := 109) dX5_isBroken_20 (by decide +kernel) (z32_lit (by decide) (by decide)) ?_
      refine zx_icmp_ne (tgt := 29) dX5_isBroken_22 (by decide) (fun h22 => ?_) (fun h22 => ?_)
      · refine zx_pc (pc1 := 29) rfl ?_
        refine zx_iconst (v := 0) dX5_isBroken_29 rfl (z32_lit (by decide) (by decide)) ?_
        refine zx_istore_n (i := 1) dX5_isBroken_30 rfl (by decide) rfl ?_
        refine zx_L (L1 := [some (zR m), some (zI 0), none]) rfl ?_
        refine zx_aload_n (i := 0) dX5_isBroken_31 rfl rfl ?_
        refine zx_getfield dX5_isBroken_32 zf_X5_29 hm rfl ?_
        refine zx_if_eq (tgt := 60) dX5_isBroken_35 (by decide) (fun h35 => ?_) (fun h35 => ?_)
        · refine zx_iconst (v := 0) dX5_isBroken_60 rfl (z32_lit (by decide) (by decide)) ?_
          refine zx_istore_n (i := 2) dX5_isBroken_61 rfl (by decide) rfl ?_
          refine zx_L (L1 := [some (zR m), some (zI 0), some (zI 0)]) rfl ?_
          refine zx_iload_n (i := 1) dX5_isBroken_62 rfl rfl ?_
          refine zx_if_ne (tgt := 70) dX5_isBroken_63 (by decide) (fun h63 => absurd h63 (by decide)) (fun h63 => ?_)
          refine zx_iload_n (i := 2) dX5_isBroken_66 rfl rfl ?_
          refine zx_if_eq (tgt := 74) dX5_isBroken_67 (by decide) (fun h67 => ?_) (fun h67 => absurd (by decide) h67)
          refine zx_iconst (v := 0) dX5_isBroken_74 rfl (z32_lit (by decide) (by decide)) ?_
          refine zx_pc (pc1 := 75) rfl ?_
          refine zx_zret dX5_isBroken_75 rfl (by first | exact Or.inl rfl | exact Or.inr rfl | exact zB_or | assumption) ?_
          first | exact zr_t (by omega) | exact zr_f (by omega)
        · refine zx_aload_n (i := 0) dX5_isBroken_38 rfl rfl ?_
          refine zx_getfield dX5_isBroken_39 zf_X5_22 hm rfl ?_
          refine zx_bipush (v := 100) dX5_isBroken_42 (by decide +kernel) (z32_lit (by decide) (by decide)) ?_
          refine zx_icmp_eq (tgt := 56) dX5_isBroken_44 (by decide) (fun h44 => ?_) (fun h44 => ?_)
          · refine zx_iconst (v := 1) dX5_isBroken_56 rfl (z32_lit (by decide) (by decide)) ?_
            refine zx_goto (tgt := 61) dX5_isBroken_57 (by decide) ?_
            refine zx_istore_n (i := 2) dX5_isBroken_61 rfl (by decide) rfl ?_
            refine zx_L (L1 := [some (zR m), some (zI 0), some (zI 1)]) rfl ?_
            refine zx_pc (pc1 := 62) rfl ?_
            refine zx_iload_n (i := 1) dX5_isBroken_62 rfl rfl ?_
            refine zx_if_ne (tgt := 70) dX5_isBroken_63 (by decide) (fun h63 => absurd h63 (by decide)) (fun h63 => ?_)
            refine zx_iload_n (i := 2) dX5_isBroken_66 rfl rfl ?_
            refine zx_if_eq (tgt := 74) dX5_isBroken_67 (by decide) (fun h67 => absurd h67 (by decide)) (fun h67 => ?_)
            refine zx_iconst (v := 1) dX5_isBroken_70 rfl (z32_lit (by decide) (by decide)) ?_
            refine zx_goto (tgt := 75) dX5_isBroken_71 (by decide) ?_
            refine zx_zret dX5_isBroken_75 rfl (by first | exact Or.inl rfl | exact Or.inr rfl | exact zB_or | assumption) ?_
            first | exact zr_t (by omega) | exact zr_f (by omega)
          · refine zx_aload_n (i := 0) dX5_isBroken_47 rfl rfl ?_
            refine zx_getfield dX5_isBroken_48 zf_X5_22 hm rfl ?_
            refine zx_bipush (v := 115) dX5_isBroken_51 (by decide +kernel) (z32_lit (by decide) (by decide)) ?_
            refine zx_pc (pc1 := 53) rfl ?_
            refine zx_icmp_ne (tgt := 60) dX5_isBroken_53 (by decide) (fun h53 => ?_) (fun h53 => ?_)
            · refine zx_iconst (v := 0) dX5_isBroken_60 rfl (z32_lit (by decide) (by decide)) ?_
              refine zx_istore_n (i := 2) dX5_isBroken_61 rfl (by decide) rfl ?_
              refine zx_L (L1 := [some (zR m), some (zI 0), some (zI 0)]) rfl ?_
              refine zx_iload_n (i := 1) dX5_isBroken_62 rfl rfl ?_
              refine zx_if_ne (tgt := 70) dX5_isBroken_63 (by decide) (fun h63 => absurd h63 (by decide)) (fun h63 => ?_)
              refine zx_iload_n (i := 2) dX5_isBroken_66 rfl rfl ?_
              refine zx_if_eq (tgt := 74) dX5_isBroken_67 (by decide) (fun h67 => ?_) (fun h67 => absurd (by decide) h67)
              refine zx_iconst (v := 0) dX5_isBroken_74 rfl (z32_lit (by decide) (by decide)) ?_
              refine zx_zret dX5_isBroken_75 rfl (by first | exact Or.inl rfl | exact Or.inr rfl | exact zB_or | assumption) ?_
              first | exact zr_t (by omega) | exact zr_f (by omega)
            · refine zx_iconst (v := 1) dX5_isBroken_56 rfl (z32_lit (by decide) (by decide)) ?_
              refine zx_goto (tgt := 61) dX5_isBroken_57 (by decide) ?_
              refine zx_istore_n (i := 2) dX5_isBroken_61 rfl (by decide) rfl ?_
              refine zx_L (L1 := [some (zR m), some (zI 0), some (zI 1)]) rfl ?_
              refine zx_iload_n (i := 1) dX5_isBroken_62 rfl rfl ?_
              refine zx_if_ne (tgt := 70) dX5_isBroken_63 (by decide) (fun h63 => absurd h63 (by decide)) (fun h63 => ?_)
              refine zx_iload_n (i := 2) dX5_isBroken_66 rfl rfl ?_
              refine zx_if_eq (tgt := 74) dX5_isBroken_67 (by decide) (fun h67 => absurd h67 (by decide)) (fun h67 => ?_)
              refine zx_iconst (v := 1) dX5_isBroken_70 rfl (z32_lit (by decide) (by decide)) ?_
              refine zx_goto (tgt := 75) dX5_isBroken_71 (by decide) ?_
              refine zx_zret dX5_isBroken_75 rfl (by first | exact Or.inl rfl | exact Or.inr rfl | exact zB_or | assumption) ?_
              first | exact zr_t (by omega) | exact zr_f (by omega)
      · refine zx_pc (pc1 := 25) rfl ?_
        refine zx_iconst (v := 1) dX5_isBroken_25 rfl (z32_lit (by decide) (by decide)) ?_
        refine zx_goto (tgt := 30) dX5_isBroken_26 (by decide) ?_
        refine zx_istore_n (i := 1) dX5_isBroken_30 rfl (by decide) rfl ?_
        refine zx_L (L1 := [some (zR m), some (zI 1), none]) rfl ?_
        refine zx_aload_n (i := 0) dX5_isBroken_31 rfl rfl ?_
        refine zx_getfield dX5_isBroken_32 zf_X5_29 hm rfl ?_
        refine zx_if_eq (tgt := 60) dX5_isBroken_35 (by decide) (fun h35 => ?_) (fun h35 => ?_)
        · refine zx_iconst (v := 0) dX5_isBroken_60 rfl (z32_lit (by decide) (by decide)) ?_
          refine zx_istore_n (i := 2) dX5_isBroken_61 rfl (by decide) rfl ?_
          refine zx_L (L1 := [some (zR m), some (zI 1), some (zI 0)]) rfl ?_
          refine zx_iload_n (i := 1) dX5_isBroken_62 rfl rfl ?_
          refine zx_if_ne (tgt := 70) dX5_isBroken_63 (by decide) (fun h63 => ?_) (fun h63 => absurd (by decide) h63)
          refine zx_iconst (v := 1) dX5_isBroken_70 rfl (z32_lit (by decide) (by decide)) ?_
          refine zx_goto (tgt := 75) dX5_isBroken_71 (by decide) ?_
          refine zx_pc (pc1 := 75) rfl ?_
          refine zx_zret dX5_isBroken_75 rfl (by first | exact Or.inl rfl | exact Or.inr rfl | exact zB_or | assumption) ?_
          first | exact zr_t (by omega) | exact zr_f (by omega)
        · refine zx_aload_n (i := 0) dX5_isBroken_38 rfl rfl ?_
          refine zx_getfield dX5_isBroken_39 zf_X5_22 hm rfl ?_
          refine zx_bipush (v := 100) dX5_isBroken_42 (by decide +kernel) (z32_lit (by decide) (by decide)) ?_
          refine zx_icmp_eq (tgt := 56) dX5_isBroken_44 (by decide) (fun h44 => ?_) (fun h44 => ?_)
          · refine zx_iconst (v := 1) dX5_isBroken_56 rfl (z32_lit (by decide) (by decide)) ?_
            refine zx_goto (tgt := 61) dX5_isBroken_57 (by decide) ?_
            refine zx_pc (pc1 := 61) rfl ?_
            refine zx_istore_n (i := 2) dX5_isBroken_61 rfl (by decide) rfl ?_
            refine zx_L (L1 := [some (zR m), some (zI 1), some (zI 1)]) rfl ?_
            refine zx_iload_n (i := 1) dX5_isBroken_62 rfl rfl ?_
            refine zx_if_ne (tgt := 70) dX5_isBroken_63 (by decide) (fun h63 => ?_) (fun h63 => absurd (by decide) h63)
            refine zx_iconst (v := 1) dX5_isBroken_70 rfl (z32_lit (by decide) (by decide)) ?_
            refine zx_goto (tgt := 75) dX5_isBroken_71 (by decide) ?_
            refine zx_zret dX5_isBroken_75 rfl (by first | exact Or.inl rfl | exact Or.inr rfl | exact zB_or | assumption) ?_
            first | exact zr_t (by omega) | exact zr_f (by omega)
          · refine zx_aload_n (i := 0) dX5_isBroken_47 rfl rfl ?_
            refine zx_getfield dX5_isBroken_48 zf_X5_22 hm rfl ?_
            refine zx_pc (pc1 := 51) rfl ?_
            refine zx_bipush (v := 115) dX5_isBroken_51 (by decide +kernel) (z32_lit (by decide) (by decide)) ?_
            refine zx_icmp_ne (tgt := 60) dX5_isBroken_53 (by decide) (fun h53 => ?_) (fun h53 => ?_)
            · refine zx_iconst (v := 0) dX5_isBroken_60 rfl (z32_lit (by decide) (by decide)) ?_
              refine zx_istore_n (i := 2) dX5_isBroken_61 rfl (by decide) rfl ?_
              refine zx_L (L1 := [some (zR m), some (zI 1), some (zI 0)]) rfl ?_
              refine zx_iload_n (i := 1) dX5_isBroken_62 rfl rfl ?_
              refine zx_if_ne (tgt := 70) dX5_isBroken_63 (by decide) (fun h63 => ?_) (fun h63 => absurd (by decide) h63)
              refine zx_iconst (v := 1) dX5_isBroken_70 rfl (z32_lit (by decide) (by decide)) ?_
              refine zx_goto (tgt := 75) dX5_isBroken_71 (by decide) ?_
              refine zx_zret dX5_isBroken_75 rfl (by first | exact Or.inl rfl | exact Or.inr rfl | exact zB_or | assumption) ?_
              first | exact zr_t (by omega) | exact zr_f (by omega)
            · refine zx_iconst (v := 1) dX5_isBroken_56 rfl (z32_lit (by decide) (by decide)) ?_
              refine zx_goto (tgt := 61) dX5_isBroken_57 (by decide) ?_
              refine zx_istore_n (i := 2) dX5_isBroken_61 rfl (by decide) rfl ?_
              refine zx_L (L1 := [some (zR m), some (zI 1), some (zI 1)]) rfl ?_
              refine zx_iload_n (i := 1) dX5_isBroken_62 rfl rfl ?_
              refine zx_if_ne (tgt := 70) dX5_isBroken_63 (by decide) (fun h63 => ?_) (fun h63 => absurd (by decide) h63)
              refine zx_iconst (v := 1) dX5_isBroken_70 rfl (z32_lit (by decide) (by decide)) ?_
              refine zx_goto (tgt := 75) dX5_isBroken_71 (by decide) ?_
              refine zx_zret dX5_isBroken_75 rfl (by first | exact Or.inl rfl | exact Or.inr rfl | exact zB_or | assumption) ?_
              first | exact zr_t (by omega) | exact zr_f (by omega)
theorem c_X5_faultSign {m om pr : Nat} {nu ins pm lo gd cf cr sw : Int} (hm : w.1 m = some (5, om, [zR pr, zI nu, zI ins, zI pm, zI lo, zI gd, zI cf, zI cr, zI sw])) : zM G zm_X5_faultSign (d + 1) [zR m] w (zRet (some (zI (if lo ≠ 0 then 111 else if gd ≠ 0 ∧ ((cf ≠ 0 ∧ (pm = 100 ∨ pm = 109)) ∨ (cr ≠ 0 ∧ (pm = 100 ∨ pm = 115))) then 112 else 45))) w) := by
  refine zx_ent (by decide +kernel) rfl (Nat.le_of_ble_eq_true rfl) ?_
  refine zx_L (L1 := [some (zR m)]) rfl ?_
  refine zx_aload_n (i := 0) dX5_faultSign_0 rfl rfl ?_
  refine zx_getfield dX5_faultSign_1 zf_X5_36 hm rfl ?_
  refine zx_if_eq (tgt := 10) dX5_faultSign_4 (by decide) (fun h4 => ?_) (fun h4 => ?_)
  · refine zx_aload_n (i := 0) dX5_faultSign_10 rfl rfl ?_
    refine zx_getfield dX5_faultSign_11 zf_X5_39 hm rfl ?_
    refine zx_if_eq (tgt := 29) dX5_faultSign_14 (by decide) (fun h14 => ?_) (fun h14 => ?_)
    · refine zx_bipush (v := 45) dX5_faultSign_29 (by decide +kernel) (z32_lit (by decide) (by decide)) ?_
      refine zx_cret dX5_faultSign_31 rfl (by first | decide | omega | assumption) ?_
      exact zr_i (by simp only [ne_eq, zB_zero, zB_one] at *; simp_all)
    · refine zx_aload_n (i := 0) dX5_faultSign_17 rfl rfl ?_
      refine zx_iv (b := m) (As := []) (st := []) (v := (some (zI (zB ((cf ≠ 0 ∧ (pm = 100 ∨ pm = 109)) ∨ (cr ≠ 0 ∧ (pm = 100 ∨ pm = 115))))))) (w1 := w) dX5_faultSign_18 zc_X5_42 hm rfl rfl rfl (by decide) rfl (c_X5_isBroken hm) ?_
      refine zx_st (st1 := [zI (zB ((cf ≠ 0 ∧ (pm = 100 ∨ pm = 109)) ∨ (cr ≠ 0 ∧ (pm = 100 ∨ pm = 115))))]) rfl ?_
      refine zx_if_eq (tgt := 29) dX5_faultSign_21 (by decide) (fun h21 => ?_) (fun h21 => ?_)
      · refine zx_bipush (v := 45) dX5_faultSign_29 (by decide +kernel) (z32_lit (by decide) (by decide)) ?_
        refine zx_cret dX5_faultSign_31 rfl (by first | decide | omega | assumption) ?_
        exact zr_i (by simp only [ne_eq, zB_zero, zB_one] at *; simp_all)
      · refine zx_bipush (v := 112) dX5_faultSign_24 (by decide +kernel) (z32_lit (by decide) (by decide)) ?_
        refine zx_goto (tgt := 31) dX5_faultSign_26 (by decide) ?_
        refine zx_pc (pc1 := 31) rfl ?_
        refine zx_cret dX5_faultSign_31 rfl (by first | decide | omega | assumption) ?_
        exact zr_i (by simp only [ne_eq, zB_zero, zB_one] at *; simp_all)
  · refine zx_bipush (v := 111) dX5_faultSign_7 (by decide +kernel) (z32_lit (by decide) (by decide)) ?_
    refine zx_cret dX5_faultSign_9 rfl (by first | decide | omega | assumption) ?_
    exact zr_i (by simp only [ne_eq, zB_zero, zB_one] at *; simp_all)
def zVl (xs : List Int) (i : Int) : Int := if 0 ≤ i ∧ i.toNat < xs.length then xs.getD i.toNat 0 else -1
theorem c_X2_valueOf {f of va ov : Nat} {nu bt dp dn cb : Int} {mo ca cl od : Option Nat} {xs : List Int} (hf : w.1 f = some (2, of, [zI nu, zR va, Sum.inr (Sum.inl mo), Sum.inr (Sum.inl ca), zI bt, zI dp, Sum.inr (Sum.inl cl), zI dn, Sum.inr (Sum.inl od), zI cb])) (hv : w.1 va = some (104, ov, xs.map Sum.inl)) (hx : xs.length < 100) (i : Int) : zM G zm_X2_valueOf d [zR f, zI i] w (zRet (some (zI (zVl xs i))) w) := by
  refine zx_ent (by decide +kernel) rfl (Nat.le_of_ble_eq_true rfl) ?_
  refine zx_L (L1 := [some (zR f), some (zI i)]) rfl ?_
  refine zx_iload_n (i := 1) dX2_valueOf_0 rfl rfl ?_
  refine zx_if_lt (tgt := 22) dX2_valueOf_1 (by decide) (fun h1 => ?_) (fun h1 => ?_)
  · refine zx_iconst (v := -1) dX2_valueOf_22 rfl (z32_lit (by decide) (by decide)) ?_
    refine zx_iret dX2_valueOf_23 rfl ?_
    exact zr_i (by unfold zVl; first | rw [if_pos (by omega)] | rw [if_neg (by omega)])
  · refine zx_iload_n (i := 1) dX2_valueOf_4 rfl rfl ?_
    refine zx_aload_n (i := 0) dX2_valueOf_5 rfl rfl ?_
    refine zx_getfield dX2_valueOf_6 zf_X2_19 hf rfl ?_
    refine zx_alen (n := xs.length) dX2_valueOf_9 hv (by decide) (by simp) (by omega) ?_
    refine zx_icmp_ge (tgt := 22) dX2_valueOf_10 (by decide) (fun h10 => ?_) (fun h10 => ?_)
    · refine zx_iconst (v := -1) dX2_valueOf_22 rfl (z32_lit (by decide) (by decide)) ?_
      refine zx_iret dX2_valueOf_23 rfl ?_
      exact zr_i (by unfold zVl; first | rw [if_pos (by omega)] | rw [if_neg (by omega)])
    · refine zx_aload_n (i := 0) dX2_valueOf_13 rfl rfl ?_
      refine zx_getfield dX2_valueOf_14 zf_X2_19 hf rfl ?_
      refine zx_iload_n (i := 1) dX2_valueOf_17 rfl rfl ?_
      refine zx_iaload (v := zI (xs.getD i.toNat 0)) dX2_valueOf_18 hv (by decide) (by omega) (by rw [List.getElem?_map, List.getElem?_eq_getElem (show i.toNat < xs.length by omega)]; simp [List.getD_eq_getElem?_getD, List.getElem?_eq_getElem (show i.toNat < xs.length by omega)]) ?_
      refine zx_pc (pc1 := 19) rfl ?_
      refine zx_goto (tgt := 23) dX2_valueOf_19 (by decide) ?_
      refine zx_iret dX2_valueOf_23 rfl ?_
      exact zr_i (by unfold zVl; first | rw [if_pos (by omega)] | rw [if_neg (by omega)])
def zVs (xs : List Int) (i v : Int) : List Int := if 0 ≤ i ∧ i.toNat < xs.length then xs.set i.toNat v else xs
theorem c_X2_setValue {f of va ov : Nat} {nu bt dp dn cb : Int} {mo ca cl od : Option Nat} {xs : List Int} (hf : w.1 f = some (2, of, [zI nu, zR va, Sum.inr (Sum.inl mo), Sum.inr (Sum.inl ca), zI bt, zI dp, Sum.inr (Sum.inl cl), zI dn, Sum.inr (Sum.inl od), zI cb])) (hv : w.1 va = some (104, ov, xs.map Sum.inl)) (hx : xs.length < 100) (i v : Int) : zM G zm_X2_setValue d [zR f, zI i, zI v] w (zRet none (zput w va (104, ov, (zVs xs i v).map Sum.inl))) := by
  refine zx_ent (by decide +kernel) rfl (Nat.le_of_ble_eq_true rfl) ?_
  refine zx_L (L1 := [some (zR f), some (zI i), some (zI v)]) rfl ?_
  refine zx_iload_n (i := 1) dX2_setValue_0 rfl rfl ?_
  refine zx_if_lt (tgt := 20) dX2_setValue_1 (by decide) (fun h1 => ?_) (fun h1 => ?_)
  · refine zx_return dX2_setValue_20 rfl ?_
    exact zr_n (by unfold zVs; first | (rw [if_pos (by omega)]; assumption) | (rw [if_neg (by omega)]; exact (zput_id hv).symm))
  · refine zx_iload_n (i := 1) dX2_setValue_4 rfl rfl ?_
    refine zx_aload_n (i := 0) dX2_setValue_5 rfl rfl ?_
    refine zx_getfield dX2_setValue_6 zf_X2_19 hf rfl ?_
    refine zx_alen (n := xs.length) dX2_setValue_9 hv (by decide) (by simp) (by omega) ?_
    refine zx_icmp_ge (tgt := 20) dX2_setValue_10 (by decide) (fun h10 => ?_) (fun h10 => ?_)
    · refine zx_return dX2_setValue_20 rfl ?_
      exact zr_n (by unfold zVs; first | (rw [if_pos (by omega)]; assumption) | (rw [if_neg (by omega)]; exact (zput_id hv).symm))
    · refine zx_aload_n (i := 0) dX2_setValue_13 rfl rfl ?_
      refine zx_getfield dX2_setValue_14 zf_X2_19 hf rfl ?_
      refine zx_iload_n (i := 1) dX2_setValue_17 rfl rfl ?_
      refine zx_iload_n (i := 2) dX2_setValue_18 rfl rfl ?_
      refine zx_pc (pc1 := 19) rfl ?_
      obtain ⟨w_1, hw_2⟩ : ∃ x, x = zput w va (104, ov, (xs.set i.toNat v).map Sum.inl) := ⟨_, rfl⟩
      refine zx_ias (w1 := w_1) dX2_setValue_19 hv (by decide) (by omega) (by simp; omega) (by rw [hw_2, List.map_set]) ?_
      have h_3 : w_1.1 va = some (104, ov, (xs.set i.toNat v).map Sum.inl) := by rw [hw_2]; exact zput_at
      refine zx_return dX2_setValue_20 rfl ?_
      exact zr_n (by unfold zVs; first | (rw [if_pos (by omega)]; assumption) | (rw [if_neg (by omega)]; exact (zput_id hv).symm))
end CLEAF
