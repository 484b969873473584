/-! Own rows: the face: a goal is added. Walked by program (wip/p37/m_face5.py). -/
section CFACE5
variable {G : zG} {d : Nat} {w w1 : zW} {o t pg mc br la sp : Nat} {comp asked sum n : Int} {c : Nat} {nu : Int} {pr ty gs le ns od ch kn cap : Nat} {Tc : List (List Int)} {Gs : List Nat} {LE NS KN : List Int} {OD CH : List (Option Nat)} {g va og ov : Nat} {gk gu gn : Int} {xs : List Int}
theorem f_av (x y z : Int) (hx : 0 ≤ x ∧ x < 8) (hy : 0 ≤ y ∧ y < 8) (hz : 0 ≤ z ∧ z < 8) : zM G zm_X11_areVariables d [zI x, zI y, zI z] w (zRet (some (zI 1)) w) := by
  refine zx_ent (by decide +kernel) rfl (Nat.le_of_ble_eq_true rfl) ?_
  refine zx_L (L1 := [some (zI x), some (zI y), some (zI z)]) rfl ?_
  refine zx_iload_n (i := 0) dX11_areVariables_0 rfl rfl ?_
  refine zx_if_lt (tgt := 34) dX11_areVariables_1 (by decide) (fun h1 => ?_) (fun h1 => ?_)
  · refine zx_iconst (v := 0) dX11_areVariables_34 rfl (z32_lit (by decide) (by decide)) ?_
    refine zx_zret dX11_areVariables_35 rfl (by first | exact Or.inl rfl | exact Or.inr rfl | exact zB_or | assumption) ?_
    exfalso
    omega
  · refine zx_iload_n (i := 0) dX11_areVariables_4 rfl rfl ?_
    refine zx_bipush (v := 8) dX11_areVariables_5 (by decide +kernel) (z32_lit (by decide) (by decide)) ?_
    refine zx_icmp_ge (tgt := 34) dX11_areVariables_7 (by decide) (fun h7 => ?_) (fun h7 => ?_)
    · refine zx_iconst (v := 0) dX11_areVariables_34 rfl (z32_lit (by decide) (by decide)) ?_
      refine zx_zret dX11_areVariables_35 rfl (by first | exact Or.inl rfl | exact Or.inr rfl | exact zB_or | assumption) ?_
      exfalso
      omega
    · refine zx_iload_n (i := 1) dX11_areVariables_10 rfl rfl ?_
      refine zx_if_lt (tgt := 34) dX11_areVariables_11 (by decide) (fun h11 => ?_) (fun h11 => ?_)
      · refine zx_iconst (v := 0) dX11_areVariables_34 rfl (z32_lit (by decide) (by decide)) ?_
        refine zx_zret dX11_areVariables_35 rfl (by first | exact Or.inl rfl | exact Or.inr rfl | exact zB_or | assumption) ?_
        exfalso
        omega
      · refine zx_iload_n (i := 1) dX11_areVariables_14 rfl rfl ?_
        refine zx_bipush (v := 8) dX11_areVariables_15 (by decide +kernel) (z32_lit (by decide) (by decide)) ?_
        refine zx_icmp_ge (tgt := 34) dX11_areVariables_17 (by decide) (fun h17 => ?_) (fun h17 => ?_)
        · refine zx_iconst (v := 0) dX11_areVariables_34 rfl (z32_lit (by decide) (by decide)) ?_
          refine zx_pc (pc1 := 35) rfl ?_
          refine zx_zret dX11_areVariables_35 rfl (by first | exact Or.inl rfl | exact Or.inr rfl | exact zB_or | assumption) ?_
          exfalso
          omega
        · refine zx_iload_n (i := 2) dX11_areVariables_20 rfl rfl ?_
          refine zx_pc (pc1 := 21) rfl ?_
          refine zx_if_lt (tgt := 34) dX11_areVariables_21 (by decide) (fun h21 => ?_) (fun h21 => ?_)
          · refine zx_iconst (v := 0) dX11_areVariables_34 rfl (z32_lit (by decide) (by decide)) ?_
            refine zx_zret dX11_areVariables_35 rfl (by first | exact Or.inl rfl | exact Or.inr rfl | exact zB_or | assumption) ?_
            exfalso
            omega
          · refine zx_iload_n (i := 2) dX11_areVariables_24 rfl rfl ?_
            refine zx_bipush (v := 8) dX11_areVariables_25 (by decide +kernel) (z32_lit (by decide) (by decide)) ?_
            refine zx_icmp_ge (tgt := 34) dX11_areVariables_27 (by decide) (fun h27 => ?_) (fun h27 => ?_)
            · refine zx_iconst (v := 0) dX11_areVariables_34 rfl (z32_lit (by decide) (by decide)) ?_
              refine zx_zret dX11_areVariables_35 rfl (by first | exact Or.inl rfl | exact Or.inr rfl | exact zB_or | assumption) ?_
              exfalso
              omega
            · refine zx_iconst (v := 1) dX11_areVariables_30 rfl (z32_lit (by decide) (by decide)) ?_
              refine zx_goto (tgt := 35) dX11_areVariables_31 (by decide) ?_
              refine zx_zret dX11_areVariables_35 rfl (by first | exact Or.inl rfl | exact Or.inr rfl | exact zB_or | assumption) ?_
              exact zr_v rfl rfl
theorem f_ag_ok (ho : w.1 o = some (11, 0, [zR t, zR pg, zR mc, zR br, zR la, zR sp, zI comp, zI asked, zJ sum])) (hC : clW w c nu pr ty gs le ns od ch kn Tc cap Gs LE NS KN OD CH) (hg : w.1 g = some (3, og, [zI gk, zI gu, zI gn, zR va])) (hv : w.1 va = some (100, ov, xs.map Sum.inl)) (hx : xs.length < 100) (hgn : 0 ≤ gn ∧ gn ≤ 3) (a0 b0 e0 : Int) (hb : gBare xs gn) (ht : tkOut Tc xs a0 b0 e0 gn.toNat 0 = true) (hl : Gs.length < 5) (hc : comp = 0) (hN : zM G zm_X1_newGoal (d + 6) [zR c, zR g, zI a0, zI b0, zI e0] w (zRet (some (zI n)) w1)) (hst0 : G.1.stackTraces = false) (r1 : w.2.1 + 1 ≤ G.2.2.2.2.1) (r2 : w.2.2 + 6 ≤ G.2.2.2.2.2) : zM G zm_X11_addGoal (d + 7) [zR o, zR c, zR g, zI a0, zI b0, zI e0] w (zRet (some (zI n)) w1) := by
  refine zx_ent (by decide +kernel) rfl (Nat.le_of_ble_eq_true rfl) ?_
  refine zx_L (L1 := [some (zR o), some (zR c), some (zR g), some (zI a0), some (zI b0), some (zI e0)]) rfl ?_
  obtain ⟨c0, -, c3, -⟩ := id hC
  refine zx_aload_n (i := 2) dX11_addGoal_0 rfl rfl ?_
  refine zx_iv (b := g) (As := []) (st := []) (v := (some (zI (zB (gBare xs gn))))) (w1 := w) dX11_addGoal_1 zc_X11_324 hg rfl rfl rfl (Nat.le_of_ble_eq_true rfl) rfl (c_X3_isBare hg hv hx hgn) ?_
  refine zx_st (st1 := [zI (zB (gBare xs gn))]) rfl ?_
  refine zx_if_eq (tgt := 20) dX11_addGoal_4 (by decide) (fun h4 => absurd h4 ((zB_nz.mpr hb))) (fun h4 => ?_)
  refine zx_aload_n (i := 1) dX11_addGoal_7 rfl rfl ?_
  refine zx_aload_n (i := 2) dX11_addGoal_8 rfl rfl ?_
  refine zx_iload_n (i := 3) dX11_addGoal_9 rfl rfl ?_
  refine zx_iload (i := 4) dX11_addGoal_10 rfl ?_
  refine zx_iload (i := 5) dX11_addGoal_12 rfl ?_
  refine zx_iv (b := c) (As := [zR g, zI a0, zI b0, zI e0]) (st := []) (v := (some (zI (zB (tkOut Tc xs a0 b0 e0 gn.toNat 0 = true))))) (w1 := w) dX11_addGoal_14 zc_X11_328 c0 rfl rfl rfl (Nat.le_of_ble_eq_true rfl) rfl (c_X1_takesTypes hC hg hv hx hgn a0 b0 e0) ?_
  refine zx_st (st1 := [zI (zB (tkOut Tc xs a0 b0 e0 gn.toNat 0 = true))]) rfl ?_
  refine zx_if_ne (tgt := 28) dX11_addGoal_17 (by decide) (fun h17 => ?_) (fun h17 => absurd ((zB_nz.mpr ht)) h17)
  refine zx_aload_n (i := 1) dX11_addGoal_28 rfl rfl ?_
  refine zx_pc (pc1 := 29) rfl ?_
  refine zx_iv (b := c) (As := []) (st := []) (v := (some (zI (Gs.length : Int)))) (w1 := w) dX11_addGoal_29 zc_X11_332 c0 rfl rfl rfl (Nat.le_of_ble_eq_true rfl) rfl (c_X1_goalCount c0 c3) ?_
  refine zx_st (st1 := [zI (Gs.length : Int)]) rfl ?_
  refine zx_iconst (v := 5) dX11_addGoal_32 rfl (z32_lit (by decide) (by decide)) ?_
  refine zx_icmp_ge (tgt := 43) dX11_addGoal_33 (by decide) (fun h33 => ?_) (fun h33 => ?_)
  · refine zx_thrown zt_X11_67_69 dX11_addGoal_43 dX11_addGoal_46 dX11_addGoal_47 dX11_addGoal_50 rfl hst0 (Nat.le_of_ble_eq_true rfl) (by omega) (by omega) (fun z t z1 z2 z3 z4 => ?_)
    exfalso
    omega
  · refine zx_aload_n (i := 0) dX11_addGoal_36 rfl rfl ?_
    refine zx_getfield dX11_addGoal_37 zf_X11_51 ho rfl ?_
    refine zx_if_eq (tgt := 51) dX11_addGoal_40 (by decide) (fun h40 => ?_) (fun h40 => ?_)
    · refine zx_aload_n (i := 1) dX11_addGoal_51 rfl rfl ?_
      refine zx_aload_n (i := 2) dX11_addGoal_52 rfl rfl ?_
      refine zx_iload_n (i := 3) dX11_addGoal_53 rfl rfl ?_
      refine zx_iload (i := 4) dX11_addGoal_54 rfl ?_
      refine zx_iload (i := 5) dX11_addGoal_56 rfl ?_
      refine zx_iv (b := c) (As := [zR g, zI a0, zI b0, zI e0]) (st := []) (v := some (zI n)) (w1 := w1) dX11_addGoal_58 zc_X11_335 c0 rfl rfl rfl (Nat.le_of_ble_eq_true rfl) rfl hN ?_
      refine zx_st (st1 := [zI n]) rfl ?_
      refine zx_pc (pc1 := 61) rfl ?_
      refine zx_iret dX11_addGoal_61 rfl ?_
      exact zr_v rfl rfl
    · refine zx_thrown zt_X11_67_69 dX11_addGoal_43 dX11_addGoal_46 dX11_addGoal_47 dX11_addGoal_50 rfl hst0 (Nat.le_of_ble_eq_true rfl) (by omega) (by omega) (fun z t z1 z2 z3 z4 => ?_)
      exfalso
      omega
theorem f_ag_x2 (ho : w.1 o = some (11, 0, [zR t, zR pg, zR mc, zR br, zR la, zR sp, zI comp, zI asked, zJ sum])) (hC : clW w c nu pr ty gs le ns od ch kn Tc cap Gs LE NS KN OD CH) (hg : w.1 g = some (3, og, [zI gk, zI gu, zI gn, zR va])) (hv : w.1 va = some (100, ov, xs.map Sum.inl)) (hx : xs.length < 100) (hgn : 0 ≤ gn ∧ gn ≤ 3) (a0 b0 e0 : Int) (hb : gBare xs gn) (ht : tkOut Tc xs a0 b0 e0 gn.toNat 0 = true) (hl : 5 ≤ Gs.length ∨ comp ≠ 0) (hst0 : G.1.stackTraces = false) (r1 : w.2.1 + 1 ≤ G.2.2.2.2.1) (r2 : w.2.2 + 6 ≤ G.2.2.2.2.2) : zM G zm_X11_addGoal (d + 7) [zR o, zR c, zR g, zI a0, zI b0, zI e0] w (zXw 2 w) := by
  refine zx_ent (by decide +kernel) rfl (Nat.le_of_ble_eq_true rfl) ?_
  refine zx_L (L1 := [some (zR o), some (zR c), some (zR g), some (zI a0), some (zI b0), some (zI e0)]) rfl ?_
  obtain ⟨c0, -, c3, -⟩ := id hC
  refine zx_aload_n (i := 2) dX11_addGoal_0 rfl rfl ?_
  refine zx_iv (b := g) (As := []) (st := []) (v := (some (zI (zB (gBare xs gn))))) (w1 := w) dX11_addGoal_1 zc_X11_324 hg rfl rfl rfl (Nat.le_of_ble_eq_true rfl) rfl (c_X3_isBare hg hv hx hgn) ?_
  refine zx_st (st1 := [zI (zB (gBare xs gn))]) rfl ?_
  refine zx_if_eq (tgt := 20) dX11_addGoal_4 (by decide) (fun h4 => absurd h4 ((zB_nz.mpr hb))) (fun h4 => ?_)
  refine zx_aload_n (i := 1) dX11_addGoal_7 rfl rfl ?_
  refine zx_aload_n (i := 2) dX11_addGoal_8 rfl rfl ?_
  refine zx_iload_n (i := 3) dX11_addGoal_9 rfl rfl ?_
  refine zx_iload (i := 4) dX11_addGoal_10 rfl ?_
  refine zx_iload (i := 5) dX11_addGoal_12 rfl ?_
  refine zx_iv (b := c) (As := [zR g, zI a0, zI b0, zI e0]) (st := []) (v := (some (zI (zB (tkOut Tc xs a0 b0 e0 gn.toNat 0 = true))))) (w1 := w) dX11_addGoal_14 zc_X11_328 c0 rfl rfl rfl (Nat.le_of_ble_eq_true rfl) rfl (c_X1_takesTypes hC hg hv hx hgn a0 b0 e0) ?_
  refine zx_st (st1 := [zI (zB (tkOut Tc xs a0 b0 e0 gn.toNat 0 = true))]) rfl ?_
  refine zx_if_ne (tgt := 28) dX11_addGoal_17 (by decide) (fun h17 => ?_) (fun h17 => absurd ((zB_nz.mpr ht)) h17)
  refine zx_aload_n (i := 1) dX11_addGoal_28 rfl rfl ?_
  refine zx_pc (pc1 := 29) rfl ?_
  refine zx_iv (b := c) (As := []) (st := []) (v := (some (zI (Gs.length : Int)))) (w1 := w) dX11_addGoal_29 zc_X11_332 c0 rfl rfl rfl (Nat.le_of_ble_eq_true rfl) rfl (c_X1_goalCount c0 c3) ?_
  refine zx_st (st1 := [zI (Gs.length : Int)]) rfl ?_
  refine zx_iconst (v := 5) dX11_addGoal_32 rfl (z32_lit (by decide) (by decide)) ?_
  refine zx_icmp_ge (tgt := 43) dX11_addGoal_33 (by decide) (fun h33 => ?_) (fun h33 => ?_)
  · refine zx_thrown zt_X11_67_69 dX11_addGoal_43 dX11_addGoal_46 dX11_addGoal_47 dX11_addGoal_50 rfl hst0 (Nat.le_of_ble_eq_true rfl) (by omega) (by omega) (fun z t z1 z2 z3 z4 => ?_)
    exact ⟨rfl, rfl, z1, z2, z3, z4⟩
  · refine zx_aload_n (i := 0) dX11_addGoal_36 rfl rfl ?_
    refine zx_getfield dX11_addGoal_37 zf_X11_51 ho rfl ?_
    refine zx_if_eq (tgt := 51) dX11_addGoal_40 (by decide) (fun h40 => ?_) (fun h40 => ?_)
    · refine zx_aload_n (i := 1) dX11_addGoal_51 rfl rfl ?_
      refine zx_aload_n (i := 2) dX11_addGoal_52 rfl rfl ?_
      refine zx_iload_n (i := 3) dX11_addGoal_53 rfl rfl ?_
      refine zx_iload (i := 4) dX11_addGoal_54 rfl ?_
      refine zx_iload (i := 5) dX11_addGoal_56 rfl ?_
      exfalso
      omega
    · refine zx_thrown zt_X11_67_69 dX11_addGoal_43 dX11_addGoal_46 dX11_addGoal_47 dX11_addGoal_50 rfl hst0 (Nat.le_of_ble_eq_true rfl) (by omega) (by omega) (fun z t z1 z2 z3 z4 => ?_)
      exact ⟨rfl, rfl, z1, z2, z3, z4⟩
theorem f_ag_x1b (ho : w.1 o = some (11, 0, [zR t, zR pg, zR mc, zR br, zR la, zR sp, zI comp, zI asked, zJ sum])) (hC : clW w c nu pr ty gs le ns od ch kn Tc cap Gs LE NS KN OD CH) (hg : w.1 g = some (3, og, [zI gk, zI gu, zI gn, zR va])) (hv : w.1 va = some (100, ov, xs.map Sum.inl)) (hx : xs.length < 100) (hgn : 0 ≤ gn ∧ gn ≤ 3) (a0 b0 e0 : Int) (hb : ¬ gBare xs gn) (hst0 : G.1.stackTraces = false) (r1 : w.2.1 + 1 ≤ G.2.2.2.2.1) (r2 : w.2.2 + 6 ≤ G.2.2.2.2.2) : zM G zm_X11_addGoal (d + 7) [zR o, zR c, zR g, zI a0, zI b0, zI e0] w (zXw 1 w) := by
  refine zx_ent (by decide +kernel) rfl (Nat.le_of_ble_eq_true rfl) ?_
  refine zx_L (L1 := [some (zR o), some (zR c), some (zR g), some (zI a0), some (zI b0), some (zI e0)]) rfl ?_
  obtain ⟨c0, -, c3, -⟩ := id hC
  refine zx_aload_n (i := 2) dX11_addGoal_0 rfl rfl ?_
  refine zx_iv (b := g) (As := []) (st := []) (v := (some (zI (zB (gBare xs gn))))) (w1 := w) dX11_addGoal_1 zc_X11_324 hg rfl rfl rfl (Nat.le_of_ble_eq_true rfl) rfl (c_X3_isBare hg hv hx hgn) ?_
  refine zx_st (st1 := [zI (zB (gBare xs gn))]) rfl ?_
  refine zx_if_eq (tgt := 20) dX11_addGoal_4 (by decide) (fun h4 => ?_) (fun h4 => absurd ((zB_f hb)) h4)
  refine zx_thrown zt_X11_83_85 dX11_addGoal_20 dX11_addGoal_23 dX11_addGoal_24 dX11_addGoal_27 rfl hst0 (Nat.le_of_ble_eq_true rfl) (by omega) (by omega) (fun z t z1 z2 z3 z4 => ?_)
  exact ⟨rfl, rfl, z1, z2, z3, z4⟩
theorem f_ag_x1t (ho : w.1 o = some (11, 0, [zR t, zR pg, zR mc, zR br, zR la, zR sp, zI comp, zI asked, zJ sum])) (hC : clW w c nu pr ty gs le ns od ch kn Tc cap Gs LE NS KN OD CH) (hg : w.1 g = some (3, og, [zI gk, zI gu, zI gn, zR va])) (hv : w.1 va = some (100, ov, xs.map Sum.inl)) (hx : xs.length < 100) (hgn : 0 ≤ gn ∧ gn ≤ 3) (a0 b0 e0 : Int) (hb : gBare xs gn) (ht : ¬ (tkOut Tc xs a0 b0 e0 gn.toNat 0 = true)) (hst0 : G.1.stackTraces = false) (r1 : w.2.1 + 1 ≤ G.2.2.2.2.1) (r2 : w.2.2 + 6 ≤ G.2.2.2.2.2) : zM G zm_X11_addGoal (d + 7) [zR o, zR c, zR g, zI a0, zI b0, zI e0] w (zXw 1 w) := by
  refine zx_ent (by decide +kernel) rfl (Nat.le_of_ble_eq_true rfl) ?_
  refine zx_L (L1 := [some (zR o), some (zR c), some (zR g), some (zI a0), some (zI b0), some (zI e0)]) rfl ?_
  obtain ⟨c0, -, c3, -⟩ := id hC
  refine zx_aload_n (i := 2) dX11_addGoal_0 rfl rfl ?_
  refine zx_iv (b := g) (As := []) (st := []) (v := (some (zI (zB (gBare xs gn))))) (w1 := w) dX11_addGoal_1 zc_X11_324 hg rfl rfl rfl (Nat.le_of_ble_eq_true rfl) rfl (c_X3_isBare hg hv hx hgn) ?_
  refine zx_st (st1 := [zI (zB (gBare xs gn))]) rfl ?_
  refine zx_if_eq (tgt := 20) dX11_addGoal_4 (by decide) (fun h4 => absurd h4 ((zB_nz.mpr hb))) (fun h4 => ?_)
  refine zx_aload_n (i := 1) dX11_addGoal_7 rfl rfl ?_
  refine zx_aload_n (i := 2) dX11_addGoal_8 rfl rfl ?_
  refine zx_iload_n (i := 3) dX11_addGoal_9 rfl rfl ?_
  refine zx_iload (i := 4) dX11_addGoal_10 rfl ?_
  refine zx_iload (i := 5) dX11_addGoal_12 rfl ?_
  refine zx_iv (b := c) (As := [zR g, zI a0, zI b0, zI e0]) (st := []) (v := (some (zI (zB (tkOut Tc xs a0 b0 e0 gn.toNat 0 = true))))) (w1 := w) dX11_addGoal_14 zc_X11_328 c0 rfl rfl rfl (Nat.le_of_ble_eq_true rfl) rfl (c_X1_takesTypes hC hg hv hx hgn a0 b0 e0) ?_
  refine zx_st (st1 := [zI (zB (tkOut Tc xs a0 b0 e0 gn.toNat 0 = true))]) rfl ?_
  refine zx_if_ne (tgt := 28) dX11_addGoal_17 (by decide) (fun h17 => absurd h17 ((not_not_intro (zB_f ht)))) (fun h17 => ?_)
  refine zx_thrown zt_X11_83_85 dX11_addGoal_20 dX11_addGoal_23 dX11_addGoal_24 dX11_addGoal_27 rfl hst0 (Nat.le_of_ble_eq_true rfl) (by omega) (by omega) (fun z t z1 z2 z3 z4 => ?_)
  exact ⟨rfl, rfl, z1, z2, z3, z4⟩
end CFACE5
