/-! Own rows: the face: modes, clauses, compile. Walked by program (wip/p37/m_face4.py). -/
section CFACE4
variable {G : zG} {d : Nat} {w : zW} {o t pg mc br la sp : Nat} {comp asked sum : Int}
theorem f_pr (q : Int) (hq : q = 100 ∨ q = 115 ∨ q = 109 ∨ q = 110) : zM G zm_X11_isPromise d [zI q] w (zRet (some (zI 1)) w) := by
  refine zx_ent (by decide +kernel) rfl (Nat.le_of_ble_eq_true rfl) ?_
  refine zx_L (L1 := [some (zI q)]) rfl ?_
  refine zx_iload_n (i := 0) dX11_isPromise_0 rfl rfl ?_
  refine zx_bipush (v := 100) dX11_isPromise_1 (by decide +kernel) (z32_lit (by decide) (by decide)) ?_
  refine zx_icmp_eq (tgt := 24) dX11_isPromise_3 (by decide) (fun h3 => ?_) (fun h3 => ?_)
  · refine zx_iconst (v := 1) dX11_isPromise_24 rfl (z32_lit (by decide) (by decide)) ?_
    refine zx_goto (tgt := 29) dX11_isPromise_25 (by decide) ?_
    refine zx_zret dX11_isPromise_29 rfl (by first | exact Or.inl rfl | exact Or.inr rfl | exact zB_or | assumption) ?_
    exact zr_v rfl rfl
  · refine zx_iload_n (i := 0) dX11_isPromise_6 rfl rfl ?_
    refine zx_bipush (v := 115) dX11_isPromise_7 (by decide +kernel) (z32_lit (by decide) (by decide)) ?_
    refine zx_icmp_eq (tgt := 24) dX11_isPromise_9 (by decide) (fun h9 => ?_) (fun h9 => ?_)
    · refine zx_iconst (v := 1) dX11_isPromise_24 rfl (z32_lit (by decide) (by decide)) ?_
      refine zx_goto (tgt := 29) dX11_isPromise_25 (by decide) ?_
      refine zx_zret dX11_isPromise_29 rfl (by first | exact Or.inl rfl | exact Or.inr rfl | exact zB_or | assumption) ?_
      exact zr_v rfl rfl
    · refine zx_iload_n (i := 0) dX11_isPromise_12 rfl rfl ?_
      refine zx_bipush (v := 109) dX11_isPromise_13 (by decide +kernel) (z32_lit (by decide) (by decide)) ?_
      refine zx_icmp_eq (tgt := 24) dX11_isPromise_15 (by decide) (fun h15 => ?_) (fun h15 => ?_)
      · refine zx_iconst (v := 1) dX11_isPromise_24 rfl (z32_lit (by decide) (by decide)) ?_
        refine zx_goto (tgt := 29) dX11_isPromise_25 (by decide) ?_
        refine zx_pc (pc1 := 29) rfl ?_
        refine zx_zret dX11_isPromise_29 rfl (by first | exact Or.inl rfl | exact Or.inr rfl | exact zB_or | assumption) ?_
        exact zr_v rfl rfl
      · refine zx_iload_n (i := 0) dX11_isPromise_18 rfl rfl ?_
        refine zx_bipush (v := 110) dX11_isPromise_19 (by decide +kernel) (z32_lit (by decide) (by decide)) ?_
        refine zx_pc (pc1 := 21) rfl ?_
        refine zx_icmp_ne (tgt := 28) dX11_isPromise_21 (by decide) (fun h21 => ?_) (fun h21 => ?_)
        · refine zx_iconst (v := 0) dX11_isPromise_28 rfl (z32_lit (by decide) (by decide)) ?_
          refine zx_zret dX11_isPromise_29 rfl (by first | exact Or.inl rfl | exact Or.inr rfl | exact zB_or | assumption) ?_
          exfalso
          omega
        · refine zx_iconst (v := 1) dX11_isPromise_24 rfl (z32_lit (by decide) (by decide)) ?_
          refine zx_goto (tgt := 29) dX11_isPromise_25 (by decide) ?_
          refine zx_zret dX11_isPromise_29 rfl (by first | exact Or.inl rfl | exact Or.inr rfl | exact zB_or | assumption) ?_
          exact zr_v rfl rfl
theorem f_am_ok {R : pgR} {y : Nat} {P : zV → zW → Prop} (ho : w.1 o = some (11, 0, [zR t, zR pg, zR mc, zR br, zR la, zR sp, zI comp, zI asked, zJ sum])) (hP : pgW w pg R) (i : Int) (hy : lAt R.2.2.1.1 i = some y) (ins q : Int) (hq : q = 100 ∨ q = 115 ∨ q = 109 ∨ q = 110) (hz : zand ins (zxor (zw (zshl 1 ((R.2.2.2.1 y).2.1.length : Int) - 1)) (-1)) = 0) (hl : (R.2.2.2.1 y).2.2.1.2.length < 2) (hc : comp = 0) (hN : zM G zm_X7_newMode (d + 6) [zR pg, zR y, zI ins, zI q] w (zVal fun v w2 => ∃ n : Int, v = zI n ∧ P v w2)) (hst0 : G.1.stackTraces = false) (r1 : w.2.1 + 1 ≤ G.2.2.2.2.1) (r2 : w.2.2 + 6 ≤ G.2.2.2.2.2) : zM G zm_X11_addMode (d + 7) [zR o, zI i, zI ins, zI q] w (zVal P) := by
  refine zx_ent (by decide +kernel) rfl (Nat.le_of_ble_eq_true rfl) ?_
  refine zx_L (L1 := [some (zR o), some (zI i), some (zI ins), some (zI q), none]) rfl ?_
  have helP : ∀ y ∈ R.2.2.1.1, ∃ a b, w.1 y = some ((6, a, b) : zO) := fun y hy => ⟨_, _, (hP.2.2.2.2.1 y hy).1.1⟩
  have hpy := (hP.2.2.2.2.1 y (lAt_mem hy)).1
  refine zx_aload_n (i := 0) dX11_addMode_0 rfl rfl ?_
  refine zx_getfield dX11_addMode_1 zf_X11_19 ho rfl ?_
  refine zx_iload_n (i := 1) dX11_addMode_4 rfl rfl ?_
  refine zx_iv (b := pg) (As := [zI i]) (st := []) (v := (some (zR y))) (w1 := w) dX11_addMode_5 zc_X11_134 hP.1 rfl rfl rfl (Nat.le_of_ble_eq_true rfl) rfl (by have q := c_X7_predicateAt (G := G) (d := d + 3) hP.1 hP.2.1 helP i; rw [hy] at q; exact q) ?_
  refine zx_st (st1 := [zR y]) rfl ?_
  refine zx_astore (i := 4) dX11_addMode_8 (by decide) rfl ?_
  refine zx_L (L1 := [some (zR o), some (zI i), some (zI ins), some (zI q), some (zR y)]) rfl ?_
  refine zx_aload (i := 4) dX11_addMode_10 rfl ?_
  refine zx_ifnonnull (tgt := 23) dX11_addMode_12 (by decide) (fun _ => ?_) (fun h => by cases h)
  refine zx_iload_n (i := 2) dX11_addMode_23 rfl rfl ?_
  refine zx_aload (i := 4) dX11_addMode_24 rfl ?_
  refine zx_iv (b := y) (As := []) (st := [zI ins]) (v := (some (zI (zw (zshl 1 ((R.2.2.2.1 y).2.1.length : Int) - 1))))) (w1 := w) dX11_addMode_26 zc_X11_138 hpy.1 rfl rfl rfl (Nat.le_of_ble_eq_true rfl) rfl (c_X6_argumentSet hpy.1 hpy.2.1.1 hpy.2.1.2) ?_
  refine zx_st (st1 := [zI (zw (zshl 1 ((R.2.2.2.1 y).2.1.length : Int) - 1)), zI ins]) rfl ?_
  refine zx_iconst (v := -1) dX11_addMode_29 rfl (z32_lit (by decide) (by decide)) ?_
  refine zx_pc (pc1 := 30) rfl ?_
  refine zx_ixor (v := zxor (zw (zshl 1 ((R.2.2.2.1 y).2.1.length : Int) - 1)) (-1)) dX11_addMode_30 rfl ?_
  refine zx_iand (v := zand ins (zxor (zw (zshl 1 ((R.2.2.2.1 y).2.1.length : Int) - 1)) (-1))) dX11_addMode_31 rfl ?_
  refine zx_if_ne (tgt := 42) dX11_addMode_32 (by decide) (fun h32 => absurd h32 ((not_not_intro hz))) (fun h32 => ?_)
  refine zx_iload_n (i := 3) dX11_addMode_35 rfl rfl ?_
  refine zx_is (As := [zI q]) (st := []) (v := (some (zI 1))) (w1 := w) dX11_addMode_36 zc_X11_143 rfl (Nat.le_of_ble_eq_true rfl) rfl (f_pr q hq) ?_
  refine zx_st (st1 := [zI 1]) rfl ?_
  refine zx_if_ne (tgt := 50) dX11_addMode_39 (by decide) (fun h39 => ?_) (fun h39 => absurd (by decide) h39)
  refine zx_aload (i := 4) dX11_addMode_50 rfl ?_
  refine zx_iv (b := y) (As := []) (st := []) (v := (some (zI ((R.2.2.2.1 y).2.2.1.2.length : Int)))) (w1 := w) dX11_addMode_52 zc_X11_147 hpy.1 rfl rfl rfl (Nat.le_of_ble_eq_true rfl) rfl (c_X6_modeCount hpy.1 hpy.2.2.1) ?_
  refine zx_st (st1 := [zI ((R.2.2.2.1 y).2.2.1.2.length : Int)]) rfl ?_
  refine zx_iconst (v := 2) dX11_addMode_55 rfl (z32_lit (by decide) (by decide)) ?_
  refine zx_icmp_ge (tgt := 66) dX11_addMode_56 (by decide) (fun h56 => ?_) (fun h56 => ?_)
  · refine zx_thrown zt_X11_67_69 dX11_addMode_66 dX11_addMode_69 dX11_addMode_70 dX11_addMode_73 rfl hst0 (Nat.le_of_ble_eq_true rfl) (by omega) (by omega) (fun z t z1 z2 z3 z4 => ?_)
    exfalso
    omega
  · refine zx_aload_n (i := 0) dX11_addMode_59 rfl rfl ?_
    refine zx_getfield dX11_addMode_60 zf_X11_51 ho rfl ?_
    refine zx_pc (pc1 := 63) rfl ?_
    refine zx_if_eq (tgt := 74) dX11_addMode_63 (by decide) (fun h63 => ?_) (fun h63 => ?_)
    · refine zx_aload_n (i := 0) dX11_addMode_74 rfl rfl ?_
      refine zx_getfield dX11_addMode_75 zf_X11_19 ho rfl ?_
      refine zx_aload (i := 4) dX11_addMode_78 rfl ?_
      refine zx_iload_n (i := 2) dX11_addMode_80 rfl rfl ?_
      refine zx_iload_n (i := 3) dX11_addMode_81 rfl rfl ?_
      refine zx_ivV (b := pg) (As := [zR y, zI ins, zI q]) (st := []) dX11_addMode_82 zc_X11_150 hP.1 rfl rfl rfl (Nat.le_of_ble_eq_true rfl) rfl hN (fun v1 w1 hq1 => ?_)
      obtain ⟨n1, rfl, hq1⟩ := hq1
      refine zx_iret dX11_addMode_85 rfl ?_
      exact ⟨_, rfl, hq1⟩
    · refine zx_thrown zt_X11_67_69 dX11_addMode_66 dX11_addMode_69 dX11_addMode_70 dX11_addMode_73 rfl hst0 (Nat.le_of_ble_eq_true rfl) (by omega) (by omega) (fun z t z1 z2 z3 z4 => ?_)
      exfalso
      omega
theorem f_am_x1 {R : pgR} {y : Nat} {P : zV → zW → Prop} (ho : w.1 o = some (11, 0, [zR t, zR pg, zR mc, zR br, zR la, zR sp, zI comp, zI asked, zJ sum])) (hP : pgW w pg R) (i : Int) (hy : lAt R.2.2.1.1 i = some y) (ins q : Int) (hq : q = 100 ∨ q = 115 ∨ q = 109 ∨ q = 110) (hz : zand ins (zxor (zw (zshl 1 ((R.2.2.2.1 y).2.1.length : Int) - 1)) (-1)) ≠ 0) (hst0 : G.1.stackTraces = false) (r1 : w.2.1 + 1 ≤ G.2.2.2.2.1) (r2 : w.2.2 + 6 ≤ G.2.2.2.2.2) : zM G zm_X11_addMode (d + 7) [zR o, zI i, zI ins, zI q] w (zXw 1 w) := by
  refine zx_ent (by decide +kernel) rfl (Nat.le_of_ble_eq_true rfl) ?_
  refine zx_L (L1 := [some (zR o), some (zI i), some (zI ins), some (zI q), none]) rfl ?_
  have helP : ∀ y ∈ R.2.2.1.1, ∃ a b, w.1 y = some ((6, a, b) : zO) := fun y hy => ⟨_, _, (hP.2.2.2.2.1 y hy).1.1⟩
  have hpy := (hP.2.2.2.2.1 y (lAt_mem hy)).1
  refine zx_aload_n (i := 0) dX11_addMode_0 rfl rfl ?_
  refine zx_getfield dX11_addMode_1 zf_X11_19 ho rfl ?_
  refine zx_iload_n (i := 1) dX11_addMode_4 rfl rfl ?_
  refine zx_iv (b := pg) (As := [zI i]) (st := []) (v := (some (zR y))) (w1 := w) dX11_addMode_5 zc_X11_134 hP.1 rfl rfl rfl (Nat.le_of_ble_eq_true rfl) rfl (by have q := c_X7_predicateAt (G := G) (d := d + 3) hP.1 hP.2.1 helP i; rw [hy] at q; exact q) ?_
  refine zx_st (st1 := [zR y]) rfl ?_
  refine zx_astore (i := 4) dX11_addMode_8 (by decide) rfl ?_
  refine zx_L (L1 := [some (zR o), some (zI i), some (zI ins), some (zI q), some (zR y)]) rfl ?_
  refine zx_aload (i := 4) dX11_addMode_10 rfl ?_
  refine zx_ifnonnull (tgt := 23) dX11_addMode_12 (by decide) (fun _ => ?_) (fun h => by cases h)
  refine zx_iload_n (i := 2) dX11_addMode_23 rfl rfl ?_
  refine zx_aload (i := 4) dX11_addMode_24 rfl ?_
  refine zx_iv (b := y) (As := []) (st := [zI ins]) (v := (some (zI (zw (zshl 1 ((R.2.2.2.1 y).2.1.length : Int) - 1))))) (w1 := w) dX11_addMode_26 zc_X11_138 hpy.1 rfl rfl rfl (Nat.le_of_ble_eq_true rfl) rfl (c_X6_argumentSet hpy.1 hpy.2.1.1 hpy.2.1.2) ?_
  refine zx_st (st1 := [zI (zw (zshl 1 ((R.2.2.2.1 y).2.1.length : Int) - 1)), zI ins]) rfl ?_
  refine zx_iconst (v := -1) dX11_addMode_29 rfl (z32_lit (by decide) (by decide)) ?_
  refine zx_pc (pc1 := 30) rfl ?_
  refine zx_ixor (v := zxor (zw (zshl 1 ((R.2.2.2.1 y).2.1.length : Int) - 1)) (-1)) dX11_addMode_30 rfl ?_
  refine zx_iand (v := zand ins (zxor (zw (zshl 1 ((R.2.2.2.1 y).2.1.length : Int) - 1)) (-1))) dX11_addMode_31 rfl ?_
  refine zx_if_ne (tgt := 42) dX11_addMode_32 (by decide) (fun h32 => ?_) (fun h32 => absurd (hz) h32)
  refine zx_thrown zt_X11_83_85 dX11_addMode_42 dX11_addMode_45 dX11_addMode_46 dX11_addMode_49 rfl hst0 (Nat.le_of_ble_eq_true rfl) (by omega) (by omega) (fun z t z1 z2 z3 z4 => ?_)
  exact ⟨rfl, rfl, z1, z2, z3, z4⟩
theorem f_am_x2 {R : pgR} {y : Nat} {P : zV → zW → Prop} (ho : w.1 o = some (11, 0, [zR t, zR pg, zR mc, zR br, zR la, zR sp, zI comp, zI asked, zJ sum])) (hP : pgW w pg R) (i : Int) (hy : lAt R.2.2.1.1 i = some y) (ins q : Int) (hq : q = 100 ∨ q = 115 ∨ q = 109 ∨ q = 110) (hz : zand ins (zxor (zw (zshl 1 ((R.2.2.2.1 y).2.1.length : Int) - 1)) (-1)) = 0) (hl : 2 ≤ (R.2.2.2.1 y).2.2.1.2.length ∨ comp ≠ 0) (hst0 : G.1.stackTraces = false) (r1 : w.2.1 + 1 ≤ G.2.2.2.2.1) (r2 : w.2.2 + 6 ≤ G.2.2.2.2.2) : zM G zm_X11_addMode (d + 7) [zR o, zI i, zI ins, zI q] w (zXw 2 w) := by
  refine zx_ent (by decide +kernel) rfl (Nat.le_of_ble_eq_true rfl) ?_
  refine zx_L (L1 := [some (zR o), some (zI i), some (zI ins), some (zI q), none]) rfl ?_
  have helP : ∀ y ∈ R.2.2.1.1, ∃ a b, w.1 y = some ((6, a, b) : zO) := fun y hy => ⟨_, _, (hP.2.2.2.2.1 y hy).1.1⟩
  have hpy := (hP.2.2.2.2.1 y (lAt_mem hy)).1
  refine zx_aload_n (i := 0) dX11_addMode_0 rfl rfl ?_
  refine zx_getfield dX11_addMode_1 zf_X11_19 ho rfl ?_
  refine zx_iload_n (i := 1) dX11_addMode_4 rfl rfl ?_
  refine zx_iv (b := pg) (As := [zI i]) (st := []) (v := (some (zR y))) (w1 := w) dX11_addMode_5 zc_X11_134 hP.1 rfl rfl rfl (Nat.le_of_ble_eq_true rfl) rfl (by have q := c_X7_predicateAt (G := G) (d := d + 3) hP.1 hP.2.1 helP i; rw [hy] at q; exact q) ?_
  refine zx_st (st1 := [zR y]) rfl ?_
  refine zx_astore (i := 4) dX11_addMode_8 (by decide) rfl ?_
  refine zx_L (L1 := [some (zR o), some (zI i), some (zI ins), some (zI q), some (zR y)]) rfl ?_
  refine zx_aload (i := 4) dX11_addMode_10 rfl ?_
  refine zx_ifnonnull (tgt := 23) dX11_addMode_12 (by decide) (fun _ => ?_) (fun h => by cases h)
  refine zx_iload_n (i := 2) dX11_addMode_23 rfl rfl ?_
  refine zx_aload (i := 4) dX11_addMode_24 rfl ?_
  refine zx_iv (b := y) (As := []) (st := [zI ins]) (v := (some (zI (zw (zshl 1 ((R.2.2.2.1 y).2.1.length : Int) - 1))))) (w1 := w) dX11_addMode_26 zc_X11_138 hpy.1 rfl rfl rfl (Nat.le_of_ble_eq_true rfl) rfl (c_X6_argumentSet hpy.1 hpy.2.1.1 hpy.2.1.2) ?_
  refine zx_st (st1 := [zI (zw (zshl 1 ((R.2.2.2.1 y).2.1.length : Int) - 1)), zI ins]) rfl ?_
  refine zx_iconst (v := -1) dX11_addMode_29 rfl (z32_lit (by decide) (by decide)) ?_
  refine zx_pc (pc1 := 30) rfl ?_
  refine zx_ixor (v := zxor (zw (zshl 1 ((R.2.2.2.1 y).2.1.length : Int) - 1)) (-1)) dX11_addMode_30 rfl ?_
  refine zx_iand (v := zand ins (zxor (zw (zshl 1 ((R.2.2.2.1 y).2.1.length : Int) - 1)) (-1))) dX11_addMode_31 rfl ?_
  refine zx_if_ne (tgt := 42) dX11_addMode_32 (by decide) (fun h32 => absurd h32 ((not_not_intro hz))) (fun h32 => ?_)
  refine zx_iload_n (i := 3) dX11_addMode_35 rfl rfl ?_
  refine zx_is (As := [zI q]) (st := []) (v := (some (zI 1))) (w1 := w) dX11_addMode_36 zc_X11_143 rfl (Nat.le_of_ble_eq_true rfl) rfl (f_pr q hq) ?_
  refine zx_st (st1 := [zI 1]) rfl ?_
  refine zx_if_ne (tgt := 50) dX11_addMode_39 (by decide) (fun h39 => ?_) (fun h39 => absurd (by decide) h39)
  refine zx_aload (i := 4) dX11_addMode_50 rfl ?_
  refine zx_iv (b := y) (As := []) (st := []) (v := (some (zI ((R.2.2.2.1 y).2.2.1.2.length : Int)))) (w1 := w) dX11_addMode_52 zc_X11_147 hpy.1 rfl rfl rfl (Nat.le_of_ble_eq_true rfl) rfl (c_X6_modeCount hpy.1 hpy.2.2.1) ?_
  refine zx_st (st1 := [zI ((R.2.2.2.1 y).2.2.1.2.length : Int)]) rfl ?_
  refine zx_iconst (v := 2) dX11_addMode_55 rfl (z32_lit (by decide) (by decide)) ?_
  refine zx_icmp_ge (tgt := 66) dX11_addMode_56 (by decide) (fun h56 => ?_) (fun h56 => ?_)
  · refine zx_thrown zt_X11_67_69 dX11_addMode_66 dX11_addMode_69 dX11_addMode_70 dX11_addMode_73 rfl hst0 (Nat.le_of_ble_eq_true rfl) (by omega) (by omega) (fun z t z1 z2 z3 z4 => ?_)
    exact ⟨rfl, rfl, z1, z2, z3, z4⟩
  · refine zx_aload_n (i := 0) dX11_addMode_59 rfl rfl ?_
    refine zx_getfield dX11_addMode_60 zf_X11_51 ho rfl ?_
    refine zx_pc (pc1 := 63) rfl ?_
    refine zx_if_eq (tgt := 74) dX11_addMode_63 (by decide) (fun h63 => ?_) (fun h63 => ?_)
    · refine zx_aload_n (i := 0) dX11_addMode_74 rfl rfl ?_
      refine zx_getfield dX11_addMode_75 zf_X11_19 ho rfl ?_
      refine zx_aload (i := 4) dX11_addMode_78 rfl ?_
      refine zx_iload_n (i := 2) dX11_addMode_80 rfl rfl ?_
      refine zx_iload_n (i := 3) dX11_addMode_81 rfl rfl ?_
      exfalso
      omega
    · refine zx_thrown zt_X11_67_69 dX11_addMode_66 dX11_addMode_69 dX11_addMode_70 dX11_addMode_73 rfl hst0 (Nat.le_of_ble_eq_true rfl) (by omega) (by omega) (fun z t z1 z2 z3 z4 => ?_)
      exact ⟨rfl, rfl, z1, z2, z3, z4⟩
theorem f_al_ok {R : pgR} {y : Nat} {P : zV → zW → Prop} (ho : w.1 o = some (11, 0, [zR t, zR pg, zR mc, zR br, zR la, zR sp, zI comp, zI asked, zJ sum])) (hP : pgW w pg R) (i : Int) (hy : lAt R.2.2.1.1 i = some y) (hl : R.2.2.1.2.2.length < 12) (hc : comp = 0) (hN : zM G zm_X7_newClause (d + 6) [zR pg, zR y] w (zVal fun v w2 => ∃ n : Int, v = zI n ∧ P v w2)) (hst0 : G.1.stackTraces = false) (r1 : w.2.1 + 1 ≤ G.2.2.2.2.1) (r2 : w.2.2 + 6 ≤ G.2.2.2.2.2) : zM G zm_X11_addClause (d + 7) [zR o, zI i] w (zVal P) := by
  refine zx_ent (by decide +kernel) rfl (Nat.le_of_ble_eq_true rfl) ?_
  refine zx_L (L1 := [some (zR o), some (zI i), none]) rfl ?_
  have helP : ∀ y ∈ R.2.2.1.1, ∃ a b, w.1 y = some ((6, a, b) : zO) := fun y hy => ⟨_, _, (hP.2.2.2.2.1 y hy).1.1⟩
  have hpy := (hP.2.2.2.2.1 y (lAt_mem hy)).1
  refine zx_aload_n (i := 0) dX11_addClause_0 rfl rfl ?_
  refine zx_getfield dX11_addClause_1 zf_X11_19 ho rfl ?_
  refine zx_iload_n (i := 1) dX11_addClause_4 rfl rfl ?_
  refine zx_iv (b := pg) (As := [zI i]) (st := []) (v := (some (zR y))) (w1 := w) dX11_addClause_5 zc_X11_134 hP.1 rfl rfl rfl (Nat.le_of_ble_eq_true rfl) rfl (by have q := c_X7_predicateAt (G := G) (d := d + 3) hP.1 hP.2.1 helP i; rw [hy] at q; exact q) ?_
  refine zx_st (st1 := [zR y]) rfl ?_
  refine zx_astore_n (i := 2) dX11_addClause_8 rfl (by decide) rfl ?_
  refine zx_L (L1 := [some (zR o), some (zI i), some (zR y)]) rfl ?_
  refine zx_aload_n (i := 2) dX11_addClause_9 rfl rfl ?_
  refine zx_ifnonnull (tgt := 21) dX11_addClause_10 (by decide) (fun _ => ?_) (fun h => by cases h)
  refine zx_aload_n (i := 0) dX11_addClause_21 rfl rfl ?_
  refine zx_getfield dX11_addClause_22 zf_X11_19 ho rfl ?_
  refine zx_iv (b := pg) (As := []) (st := []) (v := (some (zI (R.2.2.1.2.2.length : Int)))) (w1 := w) dX11_addClause_25 zc_X11_154 hP.1 rfl rfl rfl (Nat.le_of_ble_eq_true rfl) rfl (c_X7_clauseCount hP.1 hP.2.2.2.1) ?_
  refine zx_st (st1 := [zI (R.2.2.1.2.2.length : Int)]) rfl ?_
  refine zx_bipush (v := 12) dX11_addClause_28 (by decide +kernel) (z32_lit (by decide) (by decide)) ?_
  refine zx_pc (pc1 := 30) rfl ?_
  refine zx_icmp_ge (tgt := 40) dX11_addClause_30 (by decide) (fun h30 => ?_) (fun h30 => ?_)
  · refine zx_thrown zt_X11_67_69 dX11_addClause_40 dX11_addClause_43 dX11_addClause_44 dX11_addClause_47 rfl hst0 (Nat.le_of_ble_eq_true rfl) (by omega) (by omega) (fun z t z1 z2 z3 z4 => ?_)
    exfalso
    omega
  · refine zx_aload_n (i := 0) dX11_addClause_33 rfl rfl ?_
    refine zx_getfield dX11_addClause_34 zf_X11_51 ho rfl ?_
    refine zx_if_eq (tgt := 48) dX11_addClause_37 (by decide) (fun h37 => ?_) (fun h37 => ?_)
    · refine zx_aload_n (i := 0) dX11_addClause_48 rfl rfl ?_
      refine zx_getfield dX11_addClause_49 zf_X11_19 ho rfl ?_
      refine zx_aload_n (i := 2) dX11_addClause_52 rfl rfl ?_
      refine zx_ivV (b := pg) (As := [zR y]) (st := []) dX11_addClause_53 zc_X11_157 hP.1 rfl rfl rfl (Nat.le_of_ble_eq_true rfl) rfl hN (fun v1 w1 hq1 => ?_)
      obtain ⟨n1, rfl, hq1⟩ := hq1
      refine zx_iret dX11_addClause_56 rfl ?_
      exact ⟨_, rfl, hq1⟩
    · refine zx_thrown zt_X11_67_69 dX11_addClause_40 dX11_addClause_43 dX11_addClause_44 dX11_addClause_47 rfl hst0 (Nat.le_of_ble_eq_true rfl) (by omega) (by omega) (fun z t z1 z2 z3 z4 => ?_)
      exfalso
      omega
theorem f_al_x2 {R : pgR} {y : Nat} {P : zV → zW → Prop} (ho : w.1 o = some (11, 0, [zR t, zR pg, zR mc, zR br, zR la, zR sp, zI comp, zI asked, zJ sum])) (hP : pgW w pg R) (i : Int) (hy : lAt R.2.2.1.1 i = some y) (hl : 12 ≤ R.2.2.1.2.2.length ∨ comp ≠ 0) (hst0 : G.1.stackTraces = false) (r1 : w.2.1 + 1 ≤ G.2.2.2.2.1) (r2 : w.2.2 + 6 ≤ G.2.2.2.2.2) : zM G zm_X11_addClause (d + 7) [zR o, zI i] w (zXw 2 w) := by
  refine zx_ent (by decide +kernel) rfl (Nat.le_of_ble_eq_true rfl) ?_
  refine zx_L (L1 := [some (zR o), some (zI i), none]) rfl ?_
  have helP : ∀ y ∈ R.2.2.1.1, ∃ a b, w.1 y = some ((6, a, b) : zO) := fun y hy => ⟨_, _, (hP.2.2.2.2.1 y hy).1.1⟩
  have hpy := (hP.2.2.2.2.1 y (lAt_mem hy)).1
  refine zx_aload_n (i := 0) dX11_addClause_0 rfl rfl ?_
  refine zx_getfield dX11_addClause_1 zf_X11_19 ho rfl ?_
  refine zx_iload_n (i := 1) dX11_addClause_4 rfl rfl ?_
  refine zx_iv (b := pg) (As := [zI i]) (st := []) (v := (some (zR y))) (w1 := w) dX11_addClause_5 zc_X11_134 hP.1 rfl rfl rfl (Nat.le_of_ble_eq_true rfl) rfl (by have q := c_X7_predicateAt (G := G) (d := d + 3) hP.1 hP.2.1 helP i; rw [hy] at q; exact q) ?_
  refine zx_st (st1 := [zR y]) rfl ?_
  refine zx_astore_n (i := 2) dX11_addClause_8 rfl (by decide) rfl ?_
  refine zx_L (L1 := [some (zR o), some (zI i), some (zR y)]) rfl ?_
  refine zx_aload_n (i := 2) dX11_addClause_9 rfl rfl ?_
  refine zx_ifnonnull (tgt := 21) dX11_addClause_10 (by decide) (fun _ => ?_) (fun h => by cases h)
  refine zx_aload_n (i := 0) dX11_addClause_21 rfl rfl ?_
  refine zx_getfield dX11_addClause_22 zf_X11_19 ho rfl ?_
  refine zx_iv (b := pg) (As := []) (st := []) (v := (some (zI (R.2.2.1.2.2.length : Int)))) (w1 := w) dX11_addClause_25 zc_X11_154 hP.1 rfl rfl rfl (Nat.le_of_ble_eq_true rfl) rfl (c_X7_clauseCount hP.1 hP.2.2.2.1) ?_
  refine zx_st (st1 := [zI (R.2.2.1.2.2.length : Int)]) rfl ?_
  refine zx_bipush (v := 12) dX11_addClause_28 (by decide +kernel) (z32_lit (by decide) (by decide)) ?_
  refine zx_pc (pc1 := 30) rfl ?_
  refine zx_icmp_ge (tgt := 40) dX11_addClause_30 (by decide) (fun h30 => ?_) (fun h30 => ?_)
  · refine zx_thrown zt_X11_67_69 dX11_addClause_40 dX11_addClause_43 dX11_addClause_44 dX11_addClause_47 rfl hst0 (Nat.le_of_ble_eq_true rfl) (by omega) (by omega) (fun z t z1 z2 z3 z4 => ?_)
    exact ⟨rfl, rfl, z1, z2, z3, z4⟩
  · refine zx_aload_n (i := 0) dX11_addClause_33 rfl rfl ?_
    refine zx_getfield dX11_addClause_34 zf_X11_51 ho rfl ?_
    refine zx_if_eq (tgt := 48) dX11_addClause_37 (by decide) (fun h37 => ?_) (fun h37 => ?_)
    · refine zx_aload_n (i := 0) dX11_addClause_48 rfl rfl ?_
      refine zx_getfield dX11_addClause_49 zf_X11_19 ho rfl ?_
      refine zx_aload_n (i := 2) dX11_addClause_52 rfl rfl ?_
      exfalso
      omega
    · refine zx_thrown zt_X11_67_69 dX11_addClause_40 dX11_addClause_43 dX11_addClause_44 dX11_addClause_47 rfl hst0 (Nat.le_of_ble_eq_true rfl) (by omega) (by omega) (fun z t z1 z2 z3 z4 => ?_)
      exact ⟨rfl, rfl, z1, z2, z3, z4⟩
theorem f_am_x0 {R : pgR} (ho : w.1 o = some (11, 0, [zR t, zR pg, zR mc, zR br, zR la, zR sp, zI comp, zI asked, zJ sum])) (hP : pgW w pg R) (i : Int) (hy : lAt R.2.2.1.1 i = none) (ins q : Int) (hst0 : G.1.stackTraces = false) (r1 : w.2.1 + 1 ≤ G.2.2.2.2.1) (r2 : w.2.2 + 6 ≤ G.2.2.2.2.2) : zM G zm_X11_addMode (d + 7) [zR o, zI i, zI ins, zI q] w (zXw 0 w) := by
  refine zx_ent (by decide +kernel) rfl (Nat.le_of_ble_eq_true rfl) ?_
  refine zx_L (L1 := [some (zR o), some (zI i), some (zI ins), some (zI q), none]) rfl ?_
  have helP : ∀ y ∈ R.2.2.1.1, ∃ a b, w.1 y = some ((6, a, b) : zO) := fun y hy => ⟨_, _, (hP.2.2.2.2.1 y hy).1.1⟩
  refine zx_aload_n (i := 0) dX11_addMode_0 rfl rfl ?_
  refine zx_getfield dX11_addMode_1 zf_X11_19 ho rfl ?_
  refine zx_iload_n (i := 1) dX11_addMode_4 rfl rfl ?_
  refine zx_iv (b := pg) (As := [zI i]) (st := []) (v := (some (zN))) (w1 := w) dX11_addMode_5 zc_X11_134 hP.1 rfl rfl rfl (Nat.le_of_ble_eq_true rfl) rfl (by have q := c_X7_predicateAt (G := G) (d := d + 3) hP.1 hP.2.1 helP i; rw [hy] at q; exact q) ?_
  refine zx_st (st1 := [zN]) rfl ?_
  refine zx_astore (i := 4) dX11_addMode_8 (by decide) rfl ?_
  refine zx_L (L1 := [some (zR o), some (zI i), some (zI ins), some (zI q), some (zN)]) rfl ?_
  refine zx_aload (i := 4) dX11_addMode_10 rfl ?_
  refine zx_ifnonnull (tgt := 23) dX11_addMode_12 (by decide) (fun h => absurd rfl h) (fun _ => ?_)
  refine zx_thrown zt_X11_80_82 dX11_addMode_15 dX11_addMode_18 dX11_addMode_19 dX11_addMode_22 rfl hst0 (Nat.le_of_ble_eq_true rfl) (by omega) (by omega) (fun z t z1 z2 z3 z4 => ?_)
  exact ⟨rfl, rfl, z1, z2, z3, z4⟩
theorem f_al_x0 {R : pgR} (ho : w.1 o = some (11, 0, [zR t, zR pg, zR mc, zR br, zR la, zR sp, zI comp, zI asked, zJ sum])) (hP : pgW w pg R) (i : Int) (hy : lAt R.2.2.1.1 i = none) (hst0 : G.1.stackTraces = false) (r1 : w.2.1 + 1 ≤ G.2.2.2.2.1) (r2 : w.2.2 + 6 ≤ G.2.2.2.2.2) : zM G zm_X11_addClause (d + 7) [zR o, zI i] w (zXw 0 w) := by
  refine zx_ent (by decide +kernel) rfl (Nat.le_of_ble_eq_true rfl) ?_
  refine zx_L (L1 := [some (zR o), some (zI i), none]) rfl ?_
  have helP : ∀ y ∈ R.2.2.1.1, ∃ a b, w.1 y = some ((6, a, b) : zO) := fun y hy => ⟨_, _, (hP.2.2.2.2.1 y hy).1.1⟩
  refine zx_aload_n (i := 0) dX11_addClause_0 rfl rfl ?_
  refine zx_getfield dX11_addClause_1 zf_X11_19 ho rfl ?_
  refine zx_iload_n (i := 1) dX11_addClause_4 rfl rfl ?_
  refine zx_iv (b := pg) (As := [zI i]) (st := []) (v := (some (zN))) (w1 := w) dX11_addClause_5 zc_X11_134 hP.1 rfl rfl rfl (Nat.le_of_ble_eq_true rfl) rfl (by have q := c_X7_predicateAt (G := G) (d := d + 3) hP.1 hP.2.1 helP i; rw [hy] at q; exact q) ?_
  refine zx_st (st1 := [zN]) rfl ?_
  refine zx_astore_n (i := 2) dX11_addClause_8 rfl (by decide) rfl ?_
  refine zx_L (L1 := [some (zR o), some (zI i), some (zN)]) rfl ?_
  refine zx_aload_n (i := 2) dX11_addClause_9 rfl rfl ?_
  refine zx_ifnonnull (tgt := 21) dX11_addClause_10 (by decide) (fun h => absurd rfl h) (fun _ => ?_)
  refine zx_thrown zt_X11_80_82 dX11_addClause_13 dX11_addClause_16 dX11_addClause_17 dX11_addClause_20 rfl hst0 (Nat.le_of_ble_eq_true rfl) (by omega) (by omega) (fun z t z1 z2 z3 z4 => ?_)
  exact ⟨rfl, rfl, z1, z2, z3, z4⟩
theorem f_cm_d {R : pgR} {w1 : zW} {fc : Int} (ho : w.1 o = some (11, 0, [zR t, zR pg, zR mc, zR br, zR la, zR sp, zI comp, zI asked, zJ sum])) (hP : pgW w pg R) (hc : comp = 0) (hA : zM G zm_X7_analyse (d + 10) [zR pg, zR t] w (zRet none w1)) (ho1 : w1.1 o = some (11, 0, [zR t, zR pg, zR mc, zR br, zR la, zR sp, zI comp, zI asked, zJ sum])) (hp1 : w1.1 pg = some (7, 0, [zR R.1.1, zR R.1.2.1, zR R.1.2.2])) (hFc : ∀ w2, w2 = zput w1 o (11, 0, [zR t, zR pg, zR mc, zR br, zR la, zR sp, zI 1, zI asked, zJ sum]) → zM G zm_X7_faultCount (d + 10) [zR pg] w2 (zRet (some (zI fc)) w2)) : zM G zm_X11_compile (d + 11) [zR o] w (zRet (some (zI fc)) (zput w1 o (11, 0, [zR t, zR pg, zR mc, zR br, zR la, zR sp, zI 1, zI asked, zJ sum]))) := by
  refine zx_ent (by decide +kernel) rfl (Nat.le_of_ble_eq_true rfl) ?_
  refine zx_L (L1 := [some (zR o)]) rfl ?_
  refine zx_aload_n (i := 0) dX11_compile_0 rfl rfl ?_
  refine zx_getfield dX11_compile_1 zf_X11_51 ho rfl ?_
  refine zx_if_eq (tgt := 15) dX11_compile_4 (by decide) (fun h4 => ?_) (fun h4 => absurd (hc) h4)
  refine zx_aload_n (i := 0) dX11_compile_15 rfl rfl ?_
  refine zx_getfield dX11_compile_16 zf_X11_19 ho rfl ?_
  refine zx_aload_n (i := 0) dX11_compile_19 rfl rfl ?_
  refine zx_getfield dX11_compile_20 zf_X11_10 ho rfl ?_
  refine zx_iv (b := pg) (As := [zR t]) (st := []) (v := none) (w1 := w1) dX11_compile_23 zc_X11_192 hP.1 rfl rfl rfl (Nat.le_of_ble_eq_true rfl) rfl hA ?_
  refine zx_st (st1 := []) rfl ?_
  refine zx_aload_n (i := 0) dX11_compile_26 rfl rfl ?_
  refine zx_iconst (v := 1) dX11_compile_27 rfl (z32_lit (by decide) (by decide)) ?_
  obtain ⟨w_1, hw_2⟩ : ∃ ww, ww = zput w1 o (11, 0, [zR t, zR pg, zR mc, zR br, zR la, zR sp, zI 1, zI asked, zJ sum]) := ⟨_, rfl⟩
  refine zx_put (w1 := w_1) dX11_compile_28 zf_X11_51 ho1 (Nat.le_of_ble_eq_true rfl) (zFt_bool (by first | exact Or.inl rfl | exact Or.inr rfl | exact zB_or | assumption)) (fun h => by cases h) hw_2.symm ?_
  have h_3 : w_1.1 o = some (11, 0, [zR t, zR pg, zR mc, zR br, zR la, zR sp, zI 1, zI asked, zJ sum]) := by rw [hw_2]; exact zput_at
  refine zx_pc (pc1 := 31) rfl ?_
  refine zx_aload_n (i := 0) dX11_compile_31 rfl rfl ?_
  refine zx_getfield dX11_compile_32 zf_X11_19 h_3 rfl ?_
  have h_4 : w_1.1 pg = some (7, 0, [zR R.1.1, zR R.1.2.1, zR R.1.2.2]) := by
    rw [hw_2]; exact zput_tg ho1 hp1 (by simp)
  refine zx_iv (b := pg) (As := []) (st := []) (v := (some (zI fc))) (w1 := w_1) dX11_compile_35 zc_X11_196 h_4 rfl rfl rfl (Nat.le_of_ble_eq_true rfl) rfl (hFc _ hw_2) ?_
  refine zx_st (st1 := [zI fc]) rfl ?_
  refine zx_iret dX11_compile_38 rfl ?_
  exact zr_v rfl (by rw [hw_2])
end CFACE4
