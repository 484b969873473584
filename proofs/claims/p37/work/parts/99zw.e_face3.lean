/-! Own rows: the face's calls that build, but for goals. Walked by program (wip/p37/m_face3.py). -/
section CFACE3
variable {G : zG} {d : Nat} {w : zW} {o t pg mc br la sp : Nat} {comp asked sum : Int}
theorem f_tn_t {tc tn th tz : Nat} {ty : Int} {C N H : List (List Int)} {S : List Int} (ho : w.1 o = some (11, 0, [zR t, zR pg, zR mc, zR br, zR la, zR sp, zI comp, zI asked, zJ sum])) (hT : tmW w t tc tn th tz ty C N H S) (i : Int) (hi0 : i = -1 ∨ (0 ≤ i ∧ i < ty)) : zM G zm_X11_isTypeOrNone (d + 1) [zR o, zI i] w (zRet (some (zI 1)) w) := by
  refine zx_ent (by decide +kernel) rfl (Nat.le_of_ble_eq_true rfl) ?_
  refine zx_L (L1 := [some (zR o), some (zI i)]) rfl ?_
  refine zx_iload_n (i := 1) dX11_isTypeOrNone_0 rfl rfl ?_
  refine zx_iconst (v := -1) dX11_isTypeOrNone_1 rfl (z32_lit (by decide) (by decide)) ?_
  refine zx_icmp_eq (tgt := 16) dX11_isTypeOrNone_2 (by decide) (fun h2 => ?_) (fun h2 => ?_)
  · refine zx_iconst (v := 1) dX11_isTypeOrNone_16 rfl (z32_lit (by decide) (by decide)) ?_
    refine zx_goto (tgt := 21) dX11_isTypeOrNone_17 (by decide) ?_
    refine zx_zret dX11_isTypeOrNone_21 rfl (by first | exact Or.inl rfl | exact Or.inr rfl | exact zB_or | assumption) ?_
    exact zr_v rfl rfl
  · refine zx_aload_n (i := 0) dX11_isTypeOrNone_5 rfl rfl ?_
    refine zx_getfield dX11_isTypeOrNone_6 zf_X11_10 ho rfl ?_
    refine zx_iload_n (i := 1) dX11_isTypeOrNone_9 rfl rfl ?_
    refine zx_iv (b := t) (As := [zI i]) (st := []) (v := (some (zI (zB (0 ≤ i ∧ i < ty))))) (w1 := w) dX11_isTypeOrNone_10 zc_X11_73 hT.1 rfl rfl rfl (Nat.le_of_ble_eq_true rfl) rfl (c_X10_hasType hT i) ?_
    refine zx_st (st1 := [zI (zB (0 ≤ i ∧ i < ty))]) rfl ?_
    refine zx_if_eq (tgt := 20) dX11_isTypeOrNone_13 (by decide) (fun h13 => ?_) (fun h13 => ?_)
    · refine zx_iconst (v := 0) dX11_isTypeOrNone_20 rfl (z32_lit (by decide) (by decide)) ?_
      refine zx_zret dX11_isTypeOrNone_21 rfl (by first | exact Or.inl rfl | exact Or.inr rfl | exact zB_or | assumption) ?_
      exact absurd (zB_zero.mp h13) (not_not_intro (by omega))
    · refine zx_iconst (v := 1) dX11_isTypeOrNone_16 rfl (z32_lit (by decide) (by decide)) ?_
      refine zx_goto (tgt := 21) dX11_isTypeOrNone_17 (by decide) ?_
      refine zx_zret dX11_isTypeOrNone_21 rfl (by first | exact Or.inl rfl | exact Or.inr rfl | exact zB_or | assumption) ?_
      exact zr_v rfl rfl
theorem f_at_ok {tc tn th tz : Nat} {ty : Int} {C N H : List (List Int)} {S : List Int} (ho : w.1 o = some (11, 0, [zR t, zR pg, zR mc, zR br, zR la, zR sp, zI comp, zI asked, zJ sum])) (hT : tmW w t tc tn th tz ty C N H S) (ht : 0 ≤ ty ∧ ty < 3) (hc : comp = 0) (hst0 : G.1.stackTraces = false) (r1 : w.2.1 + 1 ≤ G.2.2.2.2.1) (r2 : w.2.2 + 6 ≤ G.2.2.2.2.2) : zM G zm_X11_addType (d + 3) [zR o] w (zRet (some (zI ty)) (zput w t (10, 0, [zI (ty + 1), zR tc, zR tn, zR th, zR tz]))) := by
  refine zx_ent (by decide +kernel) rfl (Nat.le_of_ble_eq_true rfl) ?_
  refine zx_L (L1 := [some (zR o)]) rfl ?_
  refine zx_aload_n (i := 0) dX11_addType_0 rfl rfl ?_
  refine zx_getfield dX11_addType_1 zf_X11_10 ho rfl ?_
  refine zx_iv (b := t) (As := []) (st := []) (v := (some (zI ty))) (w1 := w) dX11_addType_4 zc_X11_63 hT.1 rfl rfl rfl (Nat.le_of_ble_eq_true rfl) rfl (c_X10_typeCount hT) ?_
  refine zx_st (st1 := [zI ty]) rfl ?_
  refine zx_iconst (v := 3) dX11_addType_7 rfl (z32_lit (by decide) (by decide)) ?_
  refine zx_icmp_ge (tgt := 18) dX11_addType_8 (by decide) (fun h8 => ?_) (fun h8 => ?_)
  · refine zx_thrown zt_X11_67_69 dX11_addType_18 dX11_addType_21 dX11_addType_22 dX11_addType_25 rfl hst0 (Nat.le_of_ble_eq_true rfl) (by omega) (by omega) (fun z t z1 z2 z3 z4 => ?_)
    exfalso
    omega
  · refine zx_aload_n (i := 0) dX11_addType_11 rfl rfl ?_
    refine zx_getfield dX11_addType_12 zf_X11_51 ho rfl ?_
    refine zx_if_eq (tgt := 26) dX11_addType_15 (by decide) (fun h15 => ?_) (fun h15 => ?_)
    · refine zx_aload_n (i := 0) dX11_addType_26 rfl rfl ?_
      refine zx_getfield dX11_addType_27 zf_X11_10 ho rfl ?_
      obtain ⟨w1, hw1⟩ : ∃ ww, ww = zput w t (10, 0, [zI (ty + 1), zR tc, zR tn, zR th, zR tz]) := ⟨_, rfl⟩
      refine zx_iv (b := t) (As := []) (st := []) (v := (some (zI ty))) (w1 := w1) dX11_addType_30 zc_X11_70 hT.1 rfl rfl rfl (Nat.le_of_ble_eq_true rfl) rfl (by rw [hw1]; exact (c_X10_newType hT (by omega) (by omega))) ?_
      refine zx_st (st1 := [zI ty]) rfl ?_
      refine zx_pc (pc1 := 33) rfl ?_
      refine zx_iret dX11_addType_33 rfl ?_
      exact zr_v rfl hw1
    · refine zx_thrown zt_X11_67_69 dX11_addType_18 dX11_addType_21 dX11_addType_22 dX11_addType_25 rfl hst0 (Nat.le_of_ble_eq_true rfl) (by omega) (by omega) (fun z t z1 z2 z3 z4 => ?_)
      exfalso
      omega
theorem f_ac_ok {tc tn th tz : Nat} {ty : Int} {C N H : List (List Int)} {S : List Int} (ho : w.1 o = some (11, 0, [zR t, zR pg, zR mc, zR br, zR la, zR sp, zI comp, zI asked, zJ sum])) (hT : tmW w t tc tn th tz ty C N H S) (c f s : Int) (hcc : 0 ≤ c ∧ c < ty) (hf : f = -1 ∨ (0 ≤ f ∧ f < ty)) (hs : s = -1 ∨ (0 ≤ s ∧ s < ty)) (hfs : f = -1 → s = -1) (hl : C.length < 10) (hc : comp = 0) (hst0 : G.1.stackTraces = false) (r1 : w.2.1 + 1 ≤ G.2.2.2.2.1) (r2 : w.2.2 + 6 ≤ G.2.2.2.2.2) : zM G zm_X11_addConstructor (d + 4) [zR o, zI c, zI f, zI s] w (zRet (some (zI (C.length : Int))) (zput w tc (130, t, tTb 3 30 (C ++ [trow 3 c f s])))) := by
  refine zx_ent (by decide +kernel) rfl (Nat.le_of_ble_eq_true rfl) ?_
  refine zx_L (L1 := [some (zR o), some (zI c), some (zI f), some (zI s)]) rfl ?_
  refine zx_aload_n (i := 0) dX11_addConstructor_0 rfl rfl ?_
  refine zx_getfield dX11_addConstructor_1 zf_X11_10 ho rfl ?_
  refine zx_iload_n (i := 1) dX11_addConstructor_4 rfl rfl ?_
  refine zx_iv (b := t) (As := [zI c]) (st := []) (v := (some (zI (zB (0 ≤ c ∧ c < ty))))) (w1 := w) dX11_addConstructor_5 zc_X11_73 hT.1 rfl rfl rfl (Nat.le_of_ble_eq_true rfl) rfl (c_X10_hasType hT c) ?_
  refine zx_st (st1 := [zI (zB (0 ≤ c ∧ c < ty))]) rfl ?_
  refine zx_if_eq (tgt := 27) dX11_addConstructor_8 (by decide) (fun h8 => absurd h8 ((zB_nz.mpr hcc))) (fun h8 => ?_)
  refine zx_aload_n (i := 0) dX11_addConstructor_11 rfl rfl ?_
  refine zx_iload_n (i := 2) dX11_addConstructor_12 rfl rfl ?_
  refine zx_iv (b := o) (As := [zI f]) (st := []) (v := (some (zI 1))) (w1 := w) dX11_addConstructor_13 zc_X11_77 ho rfl rfl rfl (Nat.le_of_ble_eq_true rfl) rfl (f_tn_t ho hT f (by omega)) ?_
  refine zx_st (st1 := [zI 1]) rfl ?_
  refine zx_if_eq (tgt := 27) dX11_addConstructor_16 (by decide) (fun h16 => absurd h16 (by decide)) (fun h16 => ?_)
  refine zx_aload_n (i := 0) dX11_addConstructor_19 rfl rfl ?_
  refine zx_iload_n (i := 3) dX11_addConstructor_20 rfl rfl ?_
  refine zx_pc (pc1 := 21) rfl ?_
  refine zx_iv (b := o) (As := [zI s]) (st := []) (v := (some (zI 1))) (w1 := w) dX11_addConstructor_21 zc_X11_77 ho rfl rfl rfl (Nat.le_of_ble_eq_true rfl) rfl (f_tn_t ho hT s (by omega)) ?_
  refine zx_st (st1 := [zI 1]) rfl ?_
  refine zx_if_ne (tgt := 35) dX11_addConstructor_24 (by decide) (fun h24 => ?_) (fun h24 => absurd (by decide) h24)
  refine zx_iload_n (i := 2) dX11_addConstructor_35 rfl rfl ?_
  refine zx_iconst (v := -1) dX11_addConstructor_36 rfl (z32_lit (by decide) (by decide)) ?_
  refine zx_icmp_ne (tgt := 53) dX11_addConstructor_37 (by decide) (fun h37 => ?_) (fun h37 => ?_)
  · refine zx_aload_n (i := 0) dX11_addConstructor_53 rfl rfl ?_
    refine zx_getfield dX11_addConstructor_54 zf_X11_10 ho rfl ?_
    refine zx_iv (b := t) (As := []) (st := []) (v := (some (zI (C.length : Int)))) (w1 := w) dX11_addConstructor_57 zc_X11_86 hT.1 rfl rfl rfl (Nat.le_of_ble_eq_true rfl) rfl (c_X10_constructorCount hT) ?_
    refine zx_st (st1 := [zI (C.length : Int)]) rfl ?_
    refine zx_bipush (v := 10) dX11_addConstructor_60 (by decide +kernel) (z32_lit (by decide) (by decide)) ?_
    refine zx_icmp_ge (tgt := 72) dX11_addConstructor_62 (by decide) (fun h62 => ?_) (fun h62 => ?_)
    · refine zx_thrown zt_X11_67_69 dX11_addConstructor_72 dX11_addConstructor_75 dX11_addConstructor_76 dX11_addConstructor_79 rfl hst0 (Nat.le_of_ble_eq_true rfl) (by omega) (by omega) (fun z t z1 z2 z3 z4 => ?_)
      exfalso
      omega
    · refine zx_aload_n (i := 0) dX11_addConstructor_65 rfl rfl ?_
      refine zx_getfield dX11_addConstructor_66 zf_X11_51 ho rfl ?_
      refine zx_pc (pc1 := 69) rfl ?_
      refine zx_if_eq (tgt := 80) dX11_addConstructor_69 (by decide) (fun h69 => ?_) (fun h69 => ?_)
      · refine zx_aload_n (i := 0) dX11_addConstructor_80 rfl rfl ?_
        refine zx_getfield dX11_addConstructor_81 zf_X11_10 ho rfl ?_
        refine zx_iload_n (i := 1) dX11_addConstructor_84 rfl rfl ?_
        refine zx_iload_n (i := 2) dX11_addConstructor_85 rfl rfl ?_
        refine zx_iload_n (i := 3) dX11_addConstructor_86 rfl rfl ?_
        obtain ⟨w1, hw1⟩ : ∃ ww, ww = zput w tc (130, t, tTb 3 30 (C ++ [trow 3 c f s])) := ⟨_, rfl⟩
        refine zx_iv (b := t) (As := [zI c, zI f, zI s]) (st := []) (v := (some (zI (C.length : Int)))) (w1 := w1) dX11_addConstructor_87 zc_X11_89 hT.1 rfl rfl rfl (Nat.le_of_ble_eq_true rfl) rfl (by rw [hw1]; exact (c_X10_newConstructor hT (by omega) c f s)) ?_
        refine zx_st (st1 := [zI (C.length : Int)]) rfl ?_
        refine zx_iret dX11_addConstructor_90 rfl ?_
        exact zr_v rfl hw1
      · refine zx_thrown zt_X11_67_69 dX11_addConstructor_72 dX11_addConstructor_75 dX11_addConstructor_76 dX11_addConstructor_79 rfl hst0 (Nat.le_of_ble_eq_true rfl) (by omega) (by omega) (fun z t z1 z2 z3 z4 => ?_)
        exfalso
        omega
  · refine zx_iload_n (i := 3) dX11_addConstructor_40 rfl rfl ?_
    refine zx_iconst (v := -1) dX11_addConstructor_41 rfl (z32_lit (by decide) (by decide)) ?_
    refine zx_icmp_eq (tgt := 53) dX11_addConstructor_42 (by decide) (fun h42 => ?_) (fun h42 => ?_)
    · refine zx_aload_n (i := 0) dX11_addConstructor_53 rfl rfl ?_
      refine zx_getfield dX11_addConstructor_54 zf_X11_10 ho rfl ?_
      refine zx_iv (b := t) (As := []) (st := []) (v := (some (zI (C.length : Int)))) (w1 := w) dX11_addConstructor_57 zc_X11_86 hT.1 rfl rfl rfl (Nat.le_of_ble_eq_true rfl) rfl (c_X10_constructorCount hT) ?_
      refine zx_st (st1 := [zI (C.length : Int)]) rfl ?_
      refine zx_bipush (v := 10) dX11_addConstructor_60 (by decide +kernel) (z32_lit (by decide) (by decide)) ?_
      refine zx_pc (pc1 := 62) rfl ?_
      refine zx_icmp_ge (tgt := 72) dX11_addConstructor_62 (by decide) (fun h62 => ?_) (fun h62 => ?_)
      · refine zx_thrown zt_X11_67_69 dX11_addConstructor_72 dX11_addConstructor_75 dX11_addConstructor_76 dX11_addConstructor_79 rfl hst0 (Nat.le_of_ble_eq_true rfl) (by omega) (by omega) (fun z t z1 z2 z3 z4 => ?_)
        exfalso
        omega
      · refine zx_aload_n (i := 0) dX11_addConstructor_65 rfl rfl ?_
        refine zx_getfield dX11_addConstructor_66 zf_X11_51 ho rfl ?_
        refine zx_if_eq (tgt := 80) dX11_addConstructor_69 (by decide) (fun h69 => ?_) (fun h69 => ?_)
        · refine zx_aload_n (i := 0) dX11_addConstructor_80 rfl rfl ?_
          refine zx_getfield dX11_addConstructor_81 zf_X11_10 ho rfl ?_
          refine zx_iload_n (i := 1) dX11_addConstructor_84 rfl rfl ?_
          refine zx_iload_n (i := 2) dX11_addConstructor_85 rfl rfl ?_
          refine zx_iload_n (i := 3) dX11_addConstructor_86 rfl rfl ?_
          obtain ⟨w1, hw1⟩ : ∃ ww, ww = zput w tc (130, t, tTb 3 30 (C ++ [trow 3 c f s])) := ⟨_, rfl⟩
          refine zx_iv (b := t) (As := [zI c, zI f, zI s]) (st := []) (v := (some (zI (C.length : Int)))) (w1 := w1) dX11_addConstructor_87 zc_X11_89 hT.1 rfl rfl rfl (Nat.le_of_ble_eq_true rfl) rfl (by rw [hw1]; exact (c_X10_newConstructor hT (by omega) c f s)) ?_
          refine zx_st (st1 := [zI (C.length : Int)]) rfl ?_
          refine zx_iret dX11_addConstructor_90 rfl ?_
          exact zr_v rfl hw1
        · refine zx_thrown zt_X11_67_69 dX11_addConstructor_72 dX11_addConstructor_75 dX11_addConstructor_76 dX11_addConstructor_79 rfl hst0 (Nat.le_of_ble_eq_true rfl) (by omega) (by omega) (fun z t z1 z2 z3 z4 => ?_)
          exfalso
          omega
    · refine zx_thrown zt_X11_83_85 dX11_addConstructor_45 dX11_addConstructor_48 dX11_addConstructor_49 dX11_addConstructor_52 rfl hst0 (Nat.le_of_ble_eq_true rfl) (by omega) (by omega) (fun z t z1 z2 z3 z4 => ?_)
      exfalso
      omega
theorem f_tm_new {tc tn th tz : Nat} {ty : Int} {C N H : List (List Int)} {S : List Int} (ho : w.1 o = some (11, 0, [zR t, zR pg, zR mc, zR br, zR la, zR sp, zI comp, zI asked, zJ sum])) (hT : tmW w t tc tn th tz ty C N H S) (c f s : Int) (hc : 0 ≤ c ∧ c < (C.length : Int)) (hp : (tmPc C c < 1 ∨ (0 ≤ f ∧ f < (N.length : Int))) ∧ (tmPc C c < 2 ∨ (0 ≤ s ∧ s < (N.length : Int)))) (hf : tmFp C N c 0 f ∧ tmFp C N c 1 s) (hfd : tmFind N H c f s = -1) (hl : N.length < 200) (hst0 : G.1.stackTraces = false) (r1 : w.2.1 + 1 ≤ G.2.2.2.2.1) (r2 : w.2.2 + 6 ≤ G.2.2.2.2.2) : zM G zm_X11_term (d + 4) [zR o, zI c, zI f, zI s] w (zRet (some (zI (N.length : Int))) (zput (zput (zput w tn (131, t, tTb 4 800 (N ++ [[c, f, s, tg H (tmCh c f s) 0]]))) th (132, t, tTb 1 64 (ts H (tmCh c f s) 0 (N.length : Int)))) tz (120, t, (S.set N.length (tmNs C S c f s)).map zJ))) := by
  refine zx_ent (by decide +kernel) rfl (Nat.le_of_ble_eq_true rfl) ?_
  refine zx_L (L1 := [some (zR o), some (zI c), some (zI f), some (zI s), none]) rfl ?_
  refine zx_aload_n (i := 0) dX11_term_0 rfl rfl ?_
  refine zx_getfield dX11_term_1 zf_X11_10 ho rfl ?_
  refine zx_iload_n (i := 1) dX11_term_4 rfl rfl ?_
  refine zx_iv (b := t) (As := [zI c]) (st := []) (v := (some (zI (zB (0 ≤ c ∧ c < (C.length : Int)))))) (w1 := w) dX11_term_5 zc_X11_93 hT.1 rfl rfl rfl (Nat.le_of_ble_eq_true rfl) rfl (c_X10_hasConstructor hT c) ?_
  refine zx_st (st1 := [zI (zB (0 ≤ c ∧ c < (C.length : Int)))]) rfl ?_
  refine zx_if_eq (tgt := 24) dX11_term_8 (by decide) (fun h8 => absurd h8 ((zB_nz.mpr hc))) (fun h8 => ?_)
  refine zx_aload_n (i := 0) dX11_term_11 rfl rfl ?_
  refine zx_getfield dX11_term_12 zf_X11_10 ho rfl ?_
  refine zx_iload_n (i := 1) dX11_term_15 rfl rfl ?_
  refine zx_iload_n (i := 2) dX11_term_16 rfl rfl ?_
  refine zx_iload_n (i := 3) dX11_term_17 rfl rfl ?_
  refine zx_iv (b := t) (As := [zI c, zI f, zI s]) (st := []) (v := (some (zI (zB ((tmPc C c < 1 ∨ (0 ≤ f ∧ f < (N.length : Int))) ∧ (tmPc C c < 2 ∨ (0 ≤ s ∧ s < (N.length : Int)))))))) (w1 := w) dX11_term_18 zc_X11_96 hT.1 rfl rfl rfl (Nat.le_of_ble_eq_true rfl) rfl (c_X10_hasParts hT c f s) ?_
  refine zx_st (st1 := [zI (zB ((tmPc C c < 1 ∨ (0 ≤ f ∧ f < (N.length : Int))) ∧ (tmPc C c < 2 ∨ (0 ≤ s ∧ s < (N.length : Int)))))]) rfl ?_
  refine zx_pc (pc1 := 21) rfl ?_
  refine zx_if_ne (tgt := 32) dX11_term_21 (by decide) (fun h21 => ?_) (fun h21 => absurd ((zB_nz.mpr hp)) h21)
  refine zx_aload_n (i := 0) dX11_term_32 rfl rfl ?_
  refine zx_getfield dX11_term_33 zf_X11_10 ho rfl ?_
  refine zx_iload_n (i := 1) dX11_term_36 rfl rfl ?_
  refine zx_iload_n (i := 2) dX11_term_37 rfl rfl ?_
  refine zx_iload_n (i := 3) dX11_term_38 rfl rfl ?_
  refine zx_iv (b := t) (As := [zI c, zI f, zI s]) (st := []) (v := (some (zI (zB (tmFp C N c 0 f ∧ tmFp C N c 1 s))))) (w1 := w) dX11_term_39 zc_X11_100 hT.1 rfl rfl rfl (Nat.le_of_ble_eq_true rfl) rfl (c_X10_fits hT c f s) ?_
  refine zx_st (st1 := [zI (zB (tmFp C N c 0 f ∧ tmFp C N c 1 s))]) rfl ?_
  refine zx_if_ne (tgt := 53) dX11_term_42 (by decide) (fun h42 => ?_) (fun h42 => absurd ((zB_nz.mpr hf)) h42)
  refine zx_aload_n (i := 0) dX11_term_53 rfl rfl ?_
  refine zx_getfield dX11_term_54 zf_X11_10 ho rfl ?_
  refine zx_iload_n (i := 1) dX11_term_57 rfl rfl ?_
  refine zx_iload_n (i := 2) dX11_term_58 rfl rfl ?_
  refine zx_pc (pc1 := 59) rfl ?_
  refine zx_iload_n (i := 3) dX11_term_59 rfl rfl ?_
  obtain ⟨w1, hw1⟩ : ∃ ww, ww = zput (zput (zput w tn (131, t, tTb 4 800 (N ++ [[c, f, s, tg H (tmCh c f s) 0]]))) th (132, t, tTb 1 64 (ts H (tmCh c f s) 0 (N.length : Int)))) tz (120, t, (S.set N.length (tmNs C S c f s)).map zJ) := ⟨_, rfl⟩
  refine zx_iv (b := t) (As := [zI c, zI f, zI s]) (st := []) (v := (some (zI (N.length : Int)))) (w1 := w1) dX11_term_60 zc_X11_103 hT.1 rfl rfl rfl (Nat.le_of_ble_eq_true rfl) rfl (by rw [hw1]; exact (c_X10_makeNew hT c f s hfd hl)) ?_
  refine zx_st (st1 := [zI (N.length : Int)]) rfl ?_
  refine zx_istore (i := 4) dX11_term_63 (by decide) rfl ?_
  refine zx_L (L1 := [some (zR o), some (zI c), some (zI f), some (zI s), some (zI (N.length : Int))]) rfl ?_
  refine zx_iload (i := 4) dX11_term_65 rfl ?_
  refine zx_iconst (v := -1) dX11_term_67 rfl (z32_lit (by decide) (by decide)) ?_
  refine zx_icmp_ne (tgt := 79) dX11_term_68 (by decide) (fun h68 => ?_) (fun h68 => ?_)
  · refine zx_iload (i := 4) dX11_term_79 rfl ?_
    refine zx_iret dX11_term_81 rfl ?_
    exact zr_v rfl hw1
  · refine zx_thrown zt_X11_67_69 dX11_term_71 dX11_term_74 dX11_term_75 dX11_term_78 rfl hst0 (Nat.le_of_ble_eq_true rfl) (by omega) (by omega) (fun z t z1 z2 z3 z4 => ?_)
    exfalso
    omega
theorem f_op_ok (ho : w.1 o = some (11, 0, [zR t, zR pg, zR mc, zR br, zR la, zR sp, zI comp, zI asked, zJ sum])) (hc : comp ≠ 0) : zM G zm_X11_open (d + 1) [zR o] w (zRet (some (zI asked)) (zput w o (11, 0, [zR t, zR pg, zR mc, zR br, zR la, zR sp, zI 0, zI 0, zJ 0]))) := by
  refine zx_ent (by decide +kernel) rfl (Nat.le_of_ble_eq_true rfl) ?_
  refine zx_L (L1 := [some (zR o), none]) rfl ?_
  refine zx_aload_n (i := 0) dX11_open_0 rfl rfl ?_
  refine zx_iv (b := o) (As := []) (st := []) (v := none) (w1 := w) dX11_open_1 zc_X11_199 ho rfl rfl rfl (Nat.le_of_ble_eq_true rfl) rfl (f_ru_ok ho hc) ?_
  refine zx_st (st1 := []) rfl ?_
  refine zx_aload_n (i := 0) dX11_open_4 rfl rfl ?_
  refine zx_getfield dX11_open_5 zf_X11_55 ho rfl ?_
  refine zx_istore_n (i := 1) dX11_open_8 rfl (by decide) rfl ?_
  refine zx_L (L1 := [some (zR o), some (zI asked)]) rfl ?_
  refine zx_aload_n (i := 0) dX11_open_9 rfl rfl ?_
  refine zx_iconst (v := 0) dX11_open_10 rfl (z32_lit (by decide) (by decide)) ?_
  obtain ⟨w_1, hw_2⟩ : ∃ ww, ww = zput w o (11, 0, [zR t, zR pg, zR mc, zR br, zR la, zR sp, zI 0, zI asked, zJ sum]) := ⟨_, rfl⟩
  refine zx_put (w1 := w_1) dX11_open_11 zf_X11_51 ho (Nat.le_of_ble_eq_true rfl) (zFt_bool (by first | exact Or.inl rfl | exact Or.inr rfl | exact zB_or | assumption)) (fun h => by cases h) hw_2.symm ?_
  have h_3 : w_1.1 o = some (11, 0, [zR t, zR pg, zR mc, zR br, zR la, zR sp, zI 0, zI asked, zJ sum]) := by rw [hw_2]; exact zput_at
  refine zx_aload_n (i := 0) dX11_open_14 rfl rfl ?_
  refine zx_iconst (v := 0) dX11_open_15 rfl (z32_lit (by decide) (by decide)) ?_
  obtain ⟨w_4, hw_5⟩ : ∃ ww, ww = zput w_1 o (11, 0, [zR t, zR pg, zR mc, zR br, zR la, zR sp, zI 0, zI 0, zJ sum]) := ⟨_, rfl⟩
  refine zx_put (w1 := w_4) dX11_open_16 zf_X11_55 h_3 (Nat.le_of_ble_eq_true rfl) (zFt_int _) (fun h => by cases h) hw_5.symm ?_
  have h_6 : w_4.1 o = some (11, 0, [zR t, zR pg, zR mc, zR br, zR la, zR sp, zI 0, zI 0, zJ sum]) := by rw [hw_5]; exact zput_at
  refine zx_pc (pc1 := 19) rfl ?_
  refine zx_aload_n (i := 0) dX11_open_19 rfl rfl ?_
  refine zx_lconst (v := 0) dX11_open_20 (by decide +kernel) ⟨by decide, by decide⟩ ?_
  obtain ⟨w_7, hw_8⟩ : ∃ ww, ww = zput w_4 o (11, 0, [zR t, zR pg, zR mc, zR br, zR la, zR sp, zI 0, zI 0, zJ 0]) := ⟨_, rfl⟩
  refine zx_put (w1 := w_7) dX11_open_21 zf_X11_59 h_6 (Nat.le_of_ble_eq_true rfl) (zFt_long _) (fun h => by cases h) hw_8.symm ?_
  have h_9 : w_7.1 o = some (11, 0, [zR t, zR pg, zR mc, zR br, zR la, zR sp, zI 0, zI 0, zJ 0]) := by rw [hw_8]; exact zput_at
  refine zx_iload_n (i := 1) dX11_open_24 rfl rfl ?_
  refine zx_iret dX11_open_25 rfl ?_
  exact zr_v rfl (by rw [hw_8, hw_5, hw_2]; simp only [zput_put])
theorem f_op_x2 (ho : w.1 o = some (11, 0, [zR t, zR pg, zR mc, zR br, zR la, zR sp, zI comp, zI asked, zJ sum])) (hc : comp = 0) (hst0 : G.1.stackTraces = false) (r1 : w.2.1 + 1 ≤ G.2.2.2.2.1) (r2 : w.2.2 + 6 ≤ G.2.2.2.2.2) : zM G zm_X11_open (d + 5) [zR o] w (zXw 2 w) := by
  refine zx_ent (by decide +kernel) rfl (Nat.le_of_ble_eq_true rfl) ?_
  refine zx_L (L1 := [some (zR o), none]) rfl ?_
  refine zx_aload_n (i := 0) dX11_open_0 rfl rfl ?_
  exact zx_ivT (b := o) (As := []) (st := []) dX11_open_1 zc_X11_199 ho rfl rfl rfl (Nat.le_of_ble_eq_true rfl) rfl (f_ru_x ho hc hst0 r1 r2) (fun _ q => q)
theorem f_cp_x2 (ho : w.1 o = some (11, 0, [zR t, zR pg, zR mc, zR br, zR la, zR sp, zI comp, zI asked, zJ sum])) (hc : comp ≠ 0) (hst0 : G.1.stackTraces = false) (r1 : w.2.1 + 1 ≤ G.2.2.2.2.1) (r2 : w.2.2 + 6 ≤ G.2.2.2.2.2) : zM G zm_X11_compile (d + 4) [zR o] w (zXw 2 w) := by
  refine zx_ent (by decide +kernel) rfl (Nat.le_of_ble_eq_true rfl) ?_
  refine zx_L (L1 := [some (zR o)]) rfl ?_
  refine zx_aload_n (i := 0) dX11_compile_0 rfl rfl ?_
  refine zx_getfield dX11_compile_1 zf_X11_51 ho rfl ?_
  refine zx_if_eq (tgt := 15) dX11_compile_4 (by decide) (fun h4 => absurd h4 (hc)) (fun h4 => ?_)
  refine zx_thrown zt_X11_67_69 dX11_compile_7 dX11_compile_10 dX11_compile_11 dX11_compile_14 rfl hst0 (Nat.le_of_ble_eq_true rfl) (by omega) (by omega) (fun z t z1 z2 z3 z4 => ?_)
  exact ⟨rfl, rfl, z1, z2, z3, z4⟩
theorem f_ap_ok {tc tn th tz : Nat} {ty : Int} {C N H : List (List Int)} {S : List Int} {R : pgR} {P : zV → zW → Prop} (ho : w.1 o = some (11, 0, [zR t, zR pg, zR mc, zR br, zR la, zR sp, zI comp, zI asked, zJ sum])) (hT : tmW w t tc tn th tz ty C N H S) (hP : pgW w pg R) (f s u : Int) (hf : f = -1 ∨ (0 ≤ f ∧ f < ty)) (hs : s = -1 ∨ (0 ≤ s ∧ s < ty)) (hu : u = -1 ∨ (0 ≤ u ∧ u < ty)) (hfs : (f = -1 → s = -1) ∧ (s = -1 → u = -1)) (hl : R.2.2.1.1.length < 5) (hc : comp = 0) (hN : zM G zm_X7_newPredicate (d + 6) [zR pg, zI f, zI s, zI u] w (zVal fun v w2 => ∃ n : Int, v = zI n ∧ P v w2)) (hst0 : G.1.stackTraces = false) (r1 : w.2.1 + 1 ≤ G.2.2.2.2.1) (r2 : w.2.2 + 6 ≤ G.2.2.2.2.2) : zM G zm_X11_addPredicate (d + 7) [zR o, zI f, zI s, zI u] w (zVal P) := by
  refine zx_ent (by decide +kernel) rfl (Nat.le_of_ble_eq_true rfl) ?_
  refine zx_L (L1 := [some (zR o), some (zI f), some (zI s), some (zI u)]) rfl ?_
  refine zx_aload_n (i := 0) dX11_addPredicate_0 rfl rfl ?_
  refine zx_iload_n (i := 1) dX11_addPredicate_1 rfl rfl ?_
  refine zx_iv (b := o) (As := [zI f]) (st := []) (v := (some (zI 1))) (w1 := w) dX11_addPredicate_2 zc_X11_77 ho rfl rfl rfl (Nat.le_of_ble_eq_true rfl) rfl (f_tn_t ho hT f (by omega)) ?_
  refine zx_st (st1 := [zI 1]) rfl ?_
  refine zx_if_eq (tgt := 24) dX11_addPredicate_5 (by decide) (fun h5 => absurd h5 (by decide)) (fun h5 => ?_)
  refine zx_aload_n (i := 0) dX11_addPredicate_8 rfl rfl ?_
  refine zx_iload_n (i := 2) dX11_addPredicate_9 rfl rfl ?_
  refine zx_iv (b := o) (As := [zI s]) (st := []) (v := (some (zI 1))) (w1 := w) dX11_addPredicate_10 zc_X11_77 ho rfl rfl rfl (Nat.le_of_ble_eq_true rfl) rfl (f_tn_t ho hT s (by omega)) ?_
  refine zx_st (st1 := [zI 1]) rfl ?_
  refine zx_if_eq (tgt := 24) dX11_addPredicate_13 (by decide) (fun h13 => absurd h13 (by decide)) (fun h13 => ?_)
  refine zx_aload_n (i := 0) dX11_addPredicate_16 rfl rfl ?_
  refine zx_iload_n (i := 3) dX11_addPredicate_17 rfl rfl ?_
  refine zx_iv (b := o) (As := [zI u]) (st := []) (v := (some (zI 1))) (w1 := w) dX11_addPredicate_18 zc_X11_77 ho rfl rfl rfl (Nat.le_of_ble_eq_true rfl) rfl (f_tn_t ho hT u (by omega)) ?_
  refine zx_st (st1 := [zI 1]) rfl ?_
  refine zx_pc (pc1 := 21) rfl ?_
  refine zx_if_ne (tgt := 32) dX11_addPredicate_21 (by decide) (fun h21 => ?_) (fun h21 => absurd (by decide) h21)
  refine zx_iload_n (i := 1) dX11_addPredicate_32 rfl rfl ?_
  refine zx_iconst (v := -1) dX11_addPredicate_33 rfl (z32_lit (by decide) (by decide)) ?_
  refine zx_icmp_ne (tgt := 42) dX11_addPredicate_34 (by decide) (fun h34 => ?_) (fun h34 => ?_)
  · refine zx_iload_n (i := 2) dX11_addPredicate_42 rfl rfl ?_
    refine zx_iconst (v := -1) dX11_addPredicate_43 rfl (z32_lit (by decide) (by decide)) ?_
    refine zx_icmp_ne (tgt := 60) dX11_addPredicate_44 (by decide) (fun h44 => ?_) (fun h44 => ?_)
    · refine zx_aload_n (i := 0) dX11_addPredicate_60 rfl rfl ?_
      refine zx_getfield dX11_addPredicate_61 zf_X11_19 ho rfl ?_
      refine zx_iv (b := pg) (As := []) (st := []) (v := (some (zI (R.2.2.1.1.length : Int)))) (w1 := w) dX11_addPredicate_64 zc_X11_128 hP.1 rfl rfl rfl (Nat.le_of_ble_eq_true rfl) rfl (c_X7_predicateCount hP.1 hP.2.1) ?_
      refine zx_st (st1 := [zI (R.2.2.1.1.length : Int)]) rfl ?_
      refine zx_iconst (v := 5) dX11_addPredicate_67 rfl (z32_lit (by decide) (by decide)) ?_
      refine zx_icmp_ge (tgt := 78) dX11_addPredicate_68 (by decide) (fun h68 => ?_) (fun h68 => ?_)
      · refine zx_pc (pc1 := 78) rfl ?_
        refine zx_thrown zt_X11_67_69 dX11_addPredicate_78 dX11_addPredicate_81 dX11_addPredicate_82 dX11_addPredicate_85 rfl hst0 (Nat.le_of_ble_eq_true rfl) (by omega) (by omega) (fun z t z1 z2 z3 z4 => ?_)
        exfalso
        omega
      · refine zx_pc (pc1 := 71) rfl ?_
        refine zx_aload_n (i := 0) dX11_addPredicate_71 rfl rfl ?_
        refine zx_getfield dX11_addPredicate_72 zf_X11_51 ho rfl ?_
        refine zx_if_eq (tgt := 86) dX11_addPredicate_75 (by decide) (fun h75 => ?_) (fun h75 => ?_)
        · refine zx_aload_n (i := 0) dX11_addPredicate_86 rfl rfl ?_
          refine zx_getfield dX11_addPredicate_87 zf_X11_19 ho rfl ?_
          refine zx_iload_n (i := 1) dX11_addPredicate_90 rfl rfl ?_
          refine zx_iload_n (i := 2) dX11_addPredicate_91 rfl rfl ?_
          refine zx_iload_n (i := 3) dX11_addPredicate_92 rfl rfl ?_
          refine zx_ivV (b := pg) (As := [zI f, zI s, zI u]) (st := []) dX11_addPredicate_93 zc_X11_131 hP.1 rfl rfl rfl (Nat.le_of_ble_eq_true rfl) rfl hN (fun v1 w1 hq1 => ?_)
          obtain ⟨n1, rfl, hq1⟩ := hq1
          refine zx_iret dX11_addPredicate_96 rfl ?_
          exact ⟨_, rfl, hq1⟩
        · refine zx_thrown zt_X11_67_69 dX11_addPredicate_78 dX11_addPredicate_81 dX11_addPredicate_82 dX11_addPredicate_85 rfl hst0 (Nat.le_of_ble_eq_true rfl) (by omega) (by omega) (fun z t z1 z2 z3 z4 => ?_)
          exfalso
          omega
    · refine zx_iload_n (i := 3) dX11_addPredicate_47 rfl rfl ?_
      refine zx_iconst (v := -1) dX11_addPredicate_48 rfl (z32_lit (by decide) (by decide)) ?_
      refine zx_icmp_eq (tgt := 60) dX11_addPredicate_49 (by decide) (fun h49 => ?_) (fun h49 => ?_)
      · refine zx_aload_n (i := 0) dX11_addPredicate_60 rfl rfl ?_
        refine zx_getfield dX11_addPredicate_61 zf_X11_19 ho rfl ?_
        refine zx_pc (pc1 := 64) rfl ?_
        refine zx_iv (b := pg) (As := []) (st := []) (v := (some (zI (R.2.2.1.1.length : Int)))) (w1 := w) dX11_addPredicate_64 zc_X11_128 hP.1 rfl rfl rfl (Nat.le_of_ble_eq_true rfl) rfl (c_X7_predicateCount hP.1 hP.2.1) ?_
        refine zx_st (st1 := [zI (R.2.2.1.1.length : Int)]) rfl ?_
        refine zx_iconst (v := 5) dX11_addPredicate_67 rfl (z32_lit (by decide) (by decide)) ?_
        refine zx_icmp_ge (tgt := 78) dX11_addPredicate_68 (by decide) (fun h68 => ?_) (fun h68 => ?_)
        · refine zx_thrown zt_X11_67_69 dX11_addPredicate_78 dX11_addPredicate_81 dX11_addPredicate_82 dX11_addPredicate_85 rfl hst0 (Nat.le_of_ble_eq_true rfl) (by omega) (by omega) (fun z t z1 z2 z3 z4 => ?_)
          exfalso
          omega
        · refine zx_aload_n (i := 0) dX11_addPredicate_71 rfl rfl ?_
          refine zx_getfield dX11_addPredicate_72 zf_X11_51 ho rfl ?_
          refine zx_if_eq (tgt := 86) dX11_addPredicate_75 (by decide) (fun h75 => ?_) (fun h75 => ?_)
          · refine zx_aload_n (i := 0) dX11_addPredicate_86 rfl rfl ?_
            refine zx_getfield dX11_addPredicate_87 zf_X11_19 ho rfl ?_
            refine zx_iload_n (i := 1) dX11_addPredicate_90 rfl rfl ?_
            refine zx_iload_n (i := 2) dX11_addPredicate_91 rfl rfl ?_
            refine zx_iload_n (i := 3) dX11_addPredicate_92 rfl rfl ?_
            refine zx_ivV (b := pg) (As := [zI f, zI s, zI u]) (st := []) dX11_addPredicate_93 zc_X11_131 hP.1 rfl rfl rfl (Nat.le_of_ble_eq_true rfl) rfl hN (fun v1 w1 hq1 => ?_)
            refine zx_pc (pc1 := 96) rfl ?_
            obtain ⟨n1, rfl, hq1⟩ := hq1
            refine zx_iret dX11_addPredicate_96 rfl ?_
            exact ⟨_, rfl, hq1⟩
          · refine zx_thrown zt_X11_67_69 dX11_addPredicate_78 dX11_addPredicate_81 dX11_addPredicate_82 dX11_addPredicate_85 rfl hst0 (Nat.le_of_ble_eq_true rfl) (by omega) (by omega) (fun z t z1 z2 z3 z4 => ?_)
            exfalso
            omega
      · refine zx_thrown zt_X11_83_85 dX11_addPredicate_52 dX11_addPredicate_55 dX11_addPredicate_56 dX11_addPredicate_59 rfl hst0 (Nat.le_of_ble_eq_true rfl) (by omega) (by omega) (fun z t z1 z2 z3 z4 => ?_)
        exfalso
        omega
  · refine zx_iload_n (i := 2) dX11_addPredicate_37 rfl rfl ?_
    refine zx_iconst (v := -1) dX11_addPredicate_38 rfl (z32_lit (by decide) (by decide)) ?_
    refine zx_icmp_ne (tgt := 52) dX11_addPredicate_39 (by decide) (fun h39 => ?_) (fun h39 => ?_)
    · refine zx_thrown zt_X11_83_85 dX11_addPredicate_52 dX11_addPredicate_55 dX11_addPredicate_56 dX11_addPredicate_59 rfl hst0 (Nat.le_of_ble_eq_true rfl) (by omega) (by omega) (fun z t z1 z2 z3 z4 => ?_)
      exfalso
      omega
    · refine zx_iload_n (i := 2) dX11_addPredicate_42 rfl rfl ?_
      refine zx_iconst (v := -1) dX11_addPredicate_43 rfl (z32_lit (by decide) (by decide)) ?_
      refine zx_icmp_ne (tgt := 60) dX11_addPredicate_44 (by decide) (fun h44 => ?_) (fun h44 => ?_)
      · refine zx_aload_n (i := 0) dX11_addPredicate_60 rfl rfl ?_
        refine zx_getfield dX11_addPredicate_61 zf_X11_19 ho rfl ?_
        refine zx_pc (pc1 := 64) rfl ?_
        refine zx_iv (b := pg) (As := []) (st := []) (v := (some (zI (R.2.2.1.1.length : Int)))) (w1 := w) dX11_addPredicate_64 zc_X11_128 hP.1 rfl rfl rfl (Nat.le_of_ble_eq_true rfl) rfl (c_X7_predicateCount hP.1 hP.2.1) ?_
        refine zx_st (st1 := [zI (R.2.2.1.1.length : Int)]) rfl ?_
        refine zx_iconst (v := 5) dX11_addPredicate_67 rfl (z32_lit (by decide) (by decide)) ?_
        refine zx_icmp_ge (tgt := 78) dX11_addPredicate_68 (by decide) (fun h68 => ?_) (fun h68 => ?_)
        · refine zx_thrown zt_X11_67_69 dX11_addPredicate_78 dX11_addPredicate_81 dX11_addPredicate_82 dX11_addPredicate_85 rfl hst0 (Nat.le_of_ble_eq_true rfl) (by omega) (by omega) (fun z t z1 z2 z3 z4 => ?_)
          exfalso
          omega
        · refine zx_aload_n (i := 0) dX11_addPredicate_71 rfl rfl ?_
          refine zx_getfield dX11_addPredicate_72 zf_X11_51 ho rfl ?_
          refine zx_if_eq (tgt := 86) dX11_addPredicate_75 (by decide) (fun h75 => ?_) (fun h75 => ?_)
          · refine zx_aload_n (i := 0) dX11_addPredicate_86 rfl rfl ?_
            refine zx_getfield dX11_addPredicate_87 zf_X11_19 ho rfl ?_
            refine zx_iload_n (i := 1) dX11_addPredicate_90 rfl rfl ?_
            refine zx_iload_n (i := 2) dX11_addPredicate_91 rfl rfl ?_
            refine zx_iload_n (i := 3) dX11_addPredicate_92 rfl rfl ?_
            refine zx_ivV (b := pg) (As := [zI f, zI s, zI u]) (st := []) dX11_addPredicate_93 zc_X11_131 hP.1 rfl rfl rfl (Nat.le_of_ble_eq_true rfl) rfl hN (fun v1 w1 hq1 => ?_)
            refine zx_pc (pc1 := 96) rfl ?_
            obtain ⟨n1, rfl, hq1⟩ := hq1
            refine zx_iret dX11_addPredicate_96 rfl ?_
            exact ⟨_, rfl, hq1⟩
          · refine zx_thrown zt_X11_67_69 dX11_addPredicate_78 dX11_addPredicate_81 dX11_addPredicate_82 dX11_addPredicate_85 rfl hst0 (Nat.le_of_ble_eq_true rfl) (by omega) (by omega) (fun z t z1 z2 z3 z4 => ?_)
            exfalso
            omega
      · refine zx_iload_n (i := 3) dX11_addPredicate_47 rfl rfl ?_
        refine zx_iconst (v := -1) dX11_addPredicate_48 rfl (z32_lit (by decide) (by decide)) ?_
        refine zx_pc (pc1 := 49) rfl ?_
        refine zx_icmp_eq (tgt := 60) dX11_addPredicate_49 (by decide) (fun h49 => ?_) (fun h49 => ?_)
        · refine zx_aload_n (i := 0) dX11_addPredicate_60 rfl rfl ?_
          refine zx_getfield dX11_addPredicate_61 zf_X11_19 ho rfl ?_
          refine zx_iv (b := pg) (As := []) (st := []) (v := (some (zI (R.2.2.1.1.length : Int)))) (w1 := w) dX11_addPredicate_64 zc_X11_128 hP.1 rfl rfl rfl (Nat.le_of_ble_eq_true rfl) rfl (c_X7_predicateCount hP.1 hP.2.1) ?_
          refine zx_st (st1 := [zI (R.2.2.1.1.length : Int)]) rfl ?_
          refine zx_iconst (v := 5) dX11_addPredicate_67 rfl (z32_lit (by decide) (by decide)) ?_
          refine zx_icmp_ge (tgt := 78) dX11_addPredicate_68 (by decide) (fun h68 => ?_) (fun h68 => ?_)
          · refine zx_thrown zt_X11_67_69 dX11_addPredicate_78 dX11_addPredicate_81 dX11_addPredicate_82 dX11_addPredicate_85 rfl hst0 (Nat.le_of_ble_eq_true rfl) (by omega) (by omega) (fun z t z1 z2 z3 z4 => ?_)
            exfalso
            omega
          · refine zx_aload_n (i := 0) dX11_addPredicate_71 rfl rfl ?_
            refine zx_getfield dX11_addPredicate_72 zf_X11_51 ho rfl ?_
            refine zx_if_eq (tgt := 86) dX11_addPredicate_75 (by decide) (fun h75 => ?_) (fun h75 => ?_)
            · refine zx_aload_n (i := 0) dX11_addPredicate_86 rfl rfl ?_
              refine zx_getfield dX11_addPredicate_87 zf_X11_19 ho rfl ?_
              refine zx_iload_n (i := 1) dX11_addPredicate_90 rfl rfl ?_
              refine zx_pc (pc1 := 91) rfl ?_
              refine zx_iload_n (i := 2) dX11_addPredicate_91 rfl rfl ?_
              refine zx_iload_n (i := 3) dX11_addPredicate_92 rfl rfl ?_
              refine zx_ivV (b := pg) (As := [zI f, zI s, zI u]) (st := []) dX11_addPredicate_93 zc_X11_131 hP.1 rfl rfl rfl (Nat.le_of_ble_eq_true rfl) rfl hN (fun v1 w1 hq1 => ?_)
              obtain ⟨n1, rfl, hq1⟩ := hq1
              refine zx_iret dX11_addPredicate_96 rfl ?_
              exact ⟨_, rfl, hq1⟩
            · refine zx_thrown zt_X11_67_69 dX11_addPredicate_78 dX11_addPredicate_81 dX11_addPredicate_82 dX11_addPredicate_85 rfl hst0 (Nat.le_of_ble_eq_true rfl) (by omega) (by omega) (fun z t z1 z2 z3 z4 => ?_)
              exfalso
              omega
        · refine zx_thrown zt_X11_83_85 dX11_addPredicate_52 dX11_addPredicate_55 dX11_addPredicate_56 dX11_addPredicate_59 rfl hst0 (Nat.le_of_ble_eq_true rfl) (by omega) (by omega) (fun z t z1 z2 z3 z4 => ?_)
          exfalso
          omega
theorem f_ap_x1 {tc tn th tz : Nat} {ty : Int} {C N H : List (List Int)} {S : List Int} {R : pgR} {P : zV → zW → Prop} (ho : w.1 o = some (11, 0, [zR t, zR pg, zR mc, zR br, zR la, zR sp, zI comp, zI asked, zJ sum])) (hT : tmW w t tc tn th tz ty C N H S) (hP : pgW w pg R) (f s u : Int) (hf : f = -1 ∨ (0 ≤ f ∧ f < ty)) (hs : s = -1 ∨ (0 ≤ s ∧ s < ty)) (hu : u = -1 ∨ (0 ≤ u ∧ u < ty)) (hfs : (f = -1 ∧ s ≠ -1) ∨ (s = -1 ∧ u ≠ -1)) (hst0 : G.1.stackTraces = false) (r1 : w.2.1 + 1 ≤ G.2.2.2.2.1) (r2 : w.2.2 + 6 ≤ G.2.2.2.2.2) : zM G zm_X11_addPredicate (d + 7) [zR o, zI f, zI s, zI u] w (zXw 1 w) := by
  refine zx_ent (by decide +kernel) rfl (Nat.le_of_ble_eq_true rfl) ?_
  refine zx_L (L1 := [some (zR o), some (zI f), some (zI s), some (zI u)]) rfl ?_
  refine zx_aload_n (i := 0) dX11_addPredicate_0 rfl rfl ?_
  refine zx_iload_n (i := 1) dX11_addPredicate_1 rfl rfl ?_
  refine zx_iv (b := o) (As := [zI f]) (st := []) (v := (some (zI 1))) (w1 := w) dX11_addPredicate_2 zc_X11_77 ho rfl rfl rfl (Nat.le_of_ble_eq_true rfl) rfl (f_tn_t ho hT f (by omega)) ?_
  refine zx_st (st1 := [zI 1]) rfl ?_
  refine zx_if_eq (tgt := 24) dX11_addPredicate_5 (by decide) (fun h5 => absurd h5 (by decide)) (fun h5 => ?_)
  refine zx_aload_n (i := 0) dX11_addPredicate_8 rfl rfl ?_
  refine zx_iload_n (i := 2) dX11_addPredicate_9 rfl rfl ?_
  refine zx_iv (b := o) (As := [zI s]) (st := []) (v := (some (zI 1))) (w1 := w) dX11_addPredicate_10 zc_X11_77 ho rfl rfl rfl (Nat.le_of_ble_eq_true rfl) rfl (f_tn_t ho hT s (by omega)) ?_
  refine zx_st (st1 := [zI 1]) rfl ?_
  refine zx_if_eq (tgt := 24) dX11_addPredicate_13 (by decide) (fun h13 => absurd h13 (by decide)) (fun h13 => ?_)
  refine zx_aload_n (i := 0) dX11_addPredicate_16 rfl rfl ?_
  refine zx_iload_n (i := 3) dX11_addPredicate_17 rfl rfl ?_
  refine zx_iv (b := o) (As := [zI u]) (st := []) (v := (some (zI 1))) (w1 := w) dX11_addPredicate_18 zc_X11_77 ho rfl rfl rfl (Nat.le_of_ble_eq_true rfl) rfl (f_tn_t ho hT u (by omega)) ?_
  refine zx_st (st1 := [zI 1]) rfl ?_
  refine zx_pc (pc1 := 21) rfl ?_
  refine zx_if_ne (tgt := 32) dX11_addPredicate_21 (by decide) (fun h21 => ?_) (fun h21 => absurd (by decide) h21)
  refine zx_iload_n (i := 1) dX11_addPredicate_32 rfl rfl ?_
  refine zx_iconst (v := -1) dX11_addPredicate_33 rfl (z32_lit (by decide) (by decide)) ?_
  refine zx_icmp_ne (tgt := 42) dX11_addPredicate_34 (by decide) (fun h34 => ?_) (fun h34 => ?_)
  · refine zx_iload_n (i := 2) dX11_addPredicate_42 rfl rfl ?_
    refine zx_iconst (v := -1) dX11_addPredicate_43 rfl (z32_lit (by decide) (by decide)) ?_
    refine zx_icmp_ne (tgt := 60) dX11_addPredicate_44 (by decide) (fun h44 => ?_) (fun h44 => ?_)
    · refine zx_aload_n (i := 0) dX11_addPredicate_60 rfl rfl ?_
      refine zx_getfield dX11_addPredicate_61 zf_X11_19 ho rfl ?_
      refine zx_iv (b := pg) (As := []) (st := []) (v := (some (zI (R.2.2.1.1.length : Int)))) (w1 := w) dX11_addPredicate_64 zc_X11_128 hP.1 rfl rfl rfl (Nat.le_of_ble_eq_true rfl) rfl (c_X7_predicateCount hP.1 hP.2.1) ?_
      refine zx_st (st1 := [zI (R.2.2.1.1.length : Int)]) rfl ?_
      refine zx_iconst (v := 5) dX11_addPredicate_67 rfl (z32_lit (by decide) (by decide)) ?_
      refine zx_icmp_ge (tgt := 78) dX11_addPredicate_68 (by decide) (fun h68 => ?_) (fun h68 => ?_)
      · refine zx_pc (pc1 := 78) rfl ?_
        refine zx_thrown zt_X11_67_69 dX11_addPredicate_78 dX11_addPredicate_81 dX11_addPredicate_82 dX11_addPredicate_85 rfl hst0 (Nat.le_of_ble_eq_true rfl) (by omega) (by omega) (fun z t z1 z2 z3 z4 => ?_)
        exfalso
        omega
      · refine zx_pc (pc1 := 71) rfl ?_
        refine zx_aload_n (i := 0) dX11_addPredicate_71 rfl rfl ?_
        refine zx_getfield dX11_addPredicate_72 zf_X11_51 ho rfl ?_
        refine zx_if_eq (tgt := 86) dX11_addPredicate_75 (by decide) (fun h75 => ?_) (fun h75 => ?_)
        · refine zx_aload_n (i := 0) dX11_addPredicate_86 rfl rfl ?_
          refine zx_getfield dX11_addPredicate_87 zf_X11_19 ho rfl ?_
          refine zx_iload_n (i := 1) dX11_addPredicate_90 rfl rfl ?_
          refine zx_iload_n (i := 2) dX11_addPredicate_91 rfl rfl ?_
          refine zx_iload_n (i := 3) dX11_addPredicate_92 rfl rfl ?_
          exfalso
          omega
        · refine zx_thrown zt_X11_67_69 dX11_addPredicate_78 dX11_addPredicate_81 dX11_addPredicate_82 dX11_addPredicate_85 rfl hst0 (Nat.le_of_ble_eq_true rfl) (by omega) (by omega) (fun z t z1 z2 z3 z4 => ?_)
          exfalso
          omega
    · refine zx_iload_n (i := 3) dX11_addPredicate_47 rfl rfl ?_
      refine zx_iconst (v := -1) dX11_addPredicate_48 rfl (z32_lit (by decide) (by decide)) ?_
      refine zx_icmp_eq (tgt := 60) dX11_addPredicate_49 (by decide) (fun h49 => ?_) (fun h49 => ?_)
      · refine zx_aload_n (i := 0) dX11_addPredicate_60 rfl rfl ?_
        refine zx_getfield dX11_addPredicate_61 zf_X11_19 ho rfl ?_
        refine zx_pc (pc1 := 64) rfl ?_
        refine zx_iv (b := pg) (As := []) (st := []) (v := (some (zI (R.2.2.1.1.length : Int)))) (w1 := w) dX11_addPredicate_64 zc_X11_128 hP.1 rfl rfl rfl (Nat.le_of_ble_eq_true rfl) rfl (c_X7_predicateCount hP.1 hP.2.1) ?_
        refine zx_st (st1 := [zI (R.2.2.1.1.length : Int)]) rfl ?_
        refine zx_iconst (v := 5) dX11_addPredicate_67 rfl (z32_lit (by decide) (by decide)) ?_
        refine zx_icmp_ge (tgt := 78) dX11_addPredicate_68 (by decide) (fun h68 => ?_) (fun h68 => ?_)
        · refine zx_thrown zt_X11_67_69 dX11_addPredicate_78 dX11_addPredicate_81 dX11_addPredicate_82 dX11_addPredicate_85 rfl hst0 (Nat.le_of_ble_eq_true rfl) (by omega) (by omega) (fun z t z1 z2 z3 z4 => ?_)
          exfalso
          omega
        · refine zx_aload_n (i := 0) dX11_addPredicate_71 rfl rfl ?_
          refine zx_getfield dX11_addPredicate_72 zf_X11_51 ho rfl ?_
          refine zx_if_eq (tgt := 86) dX11_addPredicate_75 (by decide) (fun h75 => ?_) (fun h75 => ?_)
          · refine zx_aload_n (i := 0) dX11_addPredicate_86 rfl rfl ?_
            refine zx_getfield dX11_addPredicate_87 zf_X11_19 ho rfl ?_
            refine zx_iload_n (i := 1) dX11_addPredicate_90 rfl rfl ?_
            refine zx_iload_n (i := 2) dX11_addPredicate_91 rfl rfl ?_
            refine zx_iload_n (i := 3) dX11_addPredicate_92 rfl rfl ?_
            exfalso
            omega
          · refine zx_thrown zt_X11_67_69 dX11_addPredicate_78 dX11_addPredicate_81 dX11_addPredicate_82 dX11_addPredicate_85 rfl hst0 (Nat.le_of_ble_eq_true rfl) (by omega) (by omega) (fun z t z1 z2 z3 z4 => ?_)
            exfalso
            omega
      · refine zx_thrown zt_X11_83_85 dX11_addPredicate_52 dX11_addPredicate_55 dX11_addPredicate_56 dX11_addPredicate_59 rfl hst0 (Nat.le_of_ble_eq_true rfl) (by omega) (by omega) (fun z t z1 z2 z3 z4 => ?_)
        exact ⟨rfl, rfl, z1, z2, z3, z4⟩
  · refine zx_iload_n (i := 2) dX11_addPredicate_37 rfl rfl ?_
    refine zx_iconst (v := -1) dX11_addPredicate_38 rfl (z32_lit (by decide) (by decide)) ?_
    refine zx_icmp_ne (tgt := 52) dX11_addPredicate_39 (by decide) (fun h39 => ?_) (fun h39 => ?_)
    · refine zx_thrown zt_X11_83_85 dX11_addPredicate_52 dX11_addPredicate_55 dX11_addPredicate_56 dX11_addPredicate_59 rfl hst0 (Nat.le_of_ble_eq_true rfl) (by omega) (by omega) (fun z t z1 z2 z3 z4 => ?_)
      exact ⟨rfl, rfl, z1, z2, z3, z4⟩
    · refine zx_iload_n (i := 2) dX11_addPredicate_42 rfl rfl ?_
      refine zx_iconst (v := -1) dX11_addPredicate_43 rfl (z32_lit (by decide) (by decide)) ?_
      refine zx_icmp_ne (tgt := 60) dX11_addPredicate_44 (by decide) (fun h44 => ?_) (fun h44 => ?_)
      · refine zx_aload_n (i := 0) dX11_addPredicate_60 rfl rfl ?_
        refine zx_getfield dX11_addPredicate_61 zf_X11_19 ho rfl ?_
        refine zx_pc (pc1 := 64) rfl ?_
        refine zx_iv (b := pg) (As := []) (st := []) (v := (some (zI (R.2.2.1.1.length : Int)))) (w1 := w) dX11_addPredicate_64 zc_X11_128 hP.1 rfl rfl rfl (Nat.le_of_ble_eq_true rfl) rfl (c_X7_predicateCount hP.1 hP.2.1) ?_
        refine zx_st (st1 := [zI (R.2.2.1.1.length : Int)]) rfl ?_
        refine zx_iconst (v := 5) dX11_addPredicate_67 rfl (z32_lit (by decide) (by decide)) ?_
        refine zx_icmp_ge (tgt := 78) dX11_addPredicate_68 (by decide) (fun h68 => ?_) (fun h68 => ?_)
        · refine zx_thrown zt_X11_67_69 dX11_addPredicate_78 dX11_addPredicate_81 dX11_addPredicate_82 dX11_addPredicate_85 rfl hst0 (Nat.le_of_ble_eq_true rfl) (by omega) (by omega) (fun z t z1 z2 z3 z4 => ?_)
          exfalso
          omega
        · refine zx_aload_n (i := 0) dX11_addPredicate_71 rfl rfl ?_
          refine zx_getfield dX11_addPredicate_72 zf_X11_51 ho rfl ?_
          refine zx_if_eq (tgt := 86) dX11_addPredicate_75 (by decide) (fun h75 => ?_) (fun h75 => ?_)
          · refine zx_aload_n (i := 0) dX11_addPredicate_86 rfl rfl ?_
            refine zx_getfield dX11_addPredicate_87 zf_X11_19 ho rfl ?_
            refine zx_iload_n (i := 1) dX11_addPredicate_90 rfl rfl ?_
            refine zx_iload_n (i := 2) dX11_addPredicate_91 rfl rfl ?_
            refine zx_iload_n (i := 3) dX11_addPredicate_92 rfl rfl ?_
            exfalso
            omega
          · refine zx_thrown zt_X11_67_69 dX11_addPredicate_78 dX11_addPredicate_81 dX11_addPredicate_82 dX11_addPredicate_85 rfl hst0 (Nat.le_of_ble_eq_true rfl) (by omega) (by omega) (fun z t z1 z2 z3 z4 => ?_)
            exfalso
            omega
      · refine zx_iload_n (i := 3) dX11_addPredicate_47 rfl rfl ?_
        refine zx_iconst (v := -1) dX11_addPredicate_48 rfl (z32_lit (by decide) (by decide)) ?_
        refine zx_pc (pc1 := 49) rfl ?_
        refine zx_icmp_eq (tgt := 60) dX11_addPredicate_49 (by decide) (fun h49 => ?_) (fun h49 => ?_)
        · refine zx_aload_n (i := 0) dX11_addPredicate_60 rfl rfl ?_
          refine zx_getfield dX11_addPredicate_61 zf_X11_19 ho rfl ?_
          refine zx_iv (b := pg) (As := []) (st := []) (v := (some (zI (R.2.2.1.1.length : Int)))) (w1 := w) dX11_addPredicate_64 zc_X11_128 hP.1 rfl rfl rfl (Nat.le_of_ble_eq_true rfl) rfl (c_X7_predicateCount hP.1 hP.2.1) ?_
          refine zx_st (st1 := [zI (R.2.2.1.1.length : Int)]) rfl ?_
          refine zx_iconst (v := 5) dX11_addPredicate_67 rfl (z32_lit (by decide) (by decide)) ?_
          refine zx_icmp_ge (tgt := 78) dX11_addPredicate_68 (by decide) (fun h68 => ?_) (fun h68 => ?_)
          · refine zx_thrown zt_X11_67_69 dX11_addPredicate_78 dX11_addPredicate_81 dX11_addPredicate_82 dX11_addPredicate_85 rfl hst0 (Nat.le_of_ble_eq_true rfl) (by omega) (by omega) (fun z t z1 z2 z3 z4 => ?_)
            exfalso
            omega
          · refine zx_aload_n (i := 0) dX11_addPredicate_71 rfl rfl ?_
            refine zx_getfield dX11_addPredicate_72 zf_X11_51 ho rfl ?_
            refine zx_if_eq (tgt := 86) dX11_addPredicate_75 (by decide) (fun h75 => ?_) (fun h75 => ?_)
            · refine zx_aload_n (i := 0) dX11_addPredicate_86 rfl rfl ?_
              refine zx_getfield dX11_addPredicate_87 zf_X11_19 ho rfl ?_
              refine zx_iload_n (i := 1) dX11_addPredicate_90 rfl rfl ?_
              refine zx_pc (pc1 := 91) rfl ?_
              refine zx_iload_n (i := 2) dX11_addPredicate_91 rfl rfl ?_
              refine zx_iload_n (i := 3) dX11_addPredicate_92 rfl rfl ?_
              exfalso
              omega
            · refine zx_thrown zt_X11_67_69 dX11_addPredicate_78 dX11_addPredicate_81 dX11_addPredicate_82 dX11_addPredicate_85 rfl hst0 (Nat.le_of_ble_eq_true rfl) (by omega) (by omega) (fun z t z1 z2 z3 z4 => ?_)
              exfalso
              omega
        · refine zx_thrown zt_X11_83_85 dX11_addPredicate_52 dX11_addPredicate_55 dX11_addPredicate_56 dX11_addPredicate_59 rfl hst0 (Nat.le_of_ble_eq_true rfl) (by omega) (by omega) (fun z t z1 z2 z3 z4 => ?_)
          exact ⟨rfl, rfl, z1, z2, z3, z4⟩
theorem f_ap_x2 {tc tn th tz : Nat} {ty : Int} {C N H : List (List Int)} {S : List Int} {R : pgR} {P : zV → zW → Prop} (ho : w.1 o = some (11, 0, [zR t, zR pg, zR mc, zR br, zR la, zR sp, zI comp, zI asked, zJ sum])) (hT : tmW w t tc tn th tz ty C N H S) (hP : pgW w pg R) (f s u : Int) (hf : f = -1 ∨ (0 ≤ f ∧ f < ty)) (hs : s = -1 ∨ (0 ≤ s ∧ s < ty)) (hu : u = -1 ∨ (0 ≤ u ∧ u < ty)) (hfs : (f = -1 → s = -1) ∧ (s = -1 → u = -1)) (hl : 5 ≤ R.2.2.1.1.length ∨ comp ≠ 0) (hst0 : G.1.stackTraces = false) (r1 : w.2.1 + 1 ≤ G.2.2.2.2.1) (r2 : w.2.2 + 6 ≤ G.2.2.2.2.2) : zM G zm_X11_addPredicate (d + 7) [zR o, zI f, zI s, zI u] w (zXw 2 w) := by
  refine zx_ent (by decide +kernel) rfl (Nat.le_of_ble_eq_true rfl) ?_
  refine zx_L (L1 := [some (zR o), some (zI f), some (zI s), some (zI u)]) rfl ?_
  refine zx_aload_n (i := 0) dX11_addPredicate_0 rfl rfl ?_
  refine zx_iload_n (i := 1) dX11_addPredicate_1 rfl rfl ?_
  refine zx_iv (b := o) (As := [zI f]) (st := []) (v := (some (zI 1))) (w1 := w) dX11_addPredicate_2 zc_X11_77 ho rfl rfl rfl (Nat.le_of_ble_eq_true rfl) rfl (f_tn_t ho hT f (by omega)) ?_
  refine zx_st (st1 := [zI 1]) rfl ?_
  refine zx_if_eq (tgt := 24) dX11_addPredicate_5 (by decide) (fun h5 => absurd h5 (by decide)) (fun h5 => ?_)
  refine zx_aload_n (i := 0) dX11_addPredicate_8 rfl rfl ?_
  refine zx_iload_n (i := 2) dX11_addPredicate_9 rfl rfl ?_
  refine zx_iv (b := o) (As := [zI s]) (st := []) (v := (some (zI 1))) (w1 := w) dX11_addPredicate_10 zc_X11_77 ho rfl rfl rfl (Nat.le_of_ble_eq_true rfl) rfl (f_tn_t ho hT s (by omega)) ?_
  refine zx_st (st1 := [zI 1]) rfl ?_
  refine zx_if_eq (tgt := 24) dX11_addPredicate_13 (by decide) (fun h13 => absurd h13 (by decide)) (fun h13 => ?_)
  refine zx_aload_n (i := 0) dX11_addPredicate_16 rfl rfl ?_
  refine zx_iload_n (i := 3) dX11_addPredicate_17 rfl rfl ?_
  refine zx_iv (b := o) (As := [zI u]) (st := []) (v := (some (zI 1))) (w1 := w) dX11_addPredicate_18 zc_X11_77 ho rfl rfl rfl (Nat.le_of_ble_eq_true rfl) rfl (f_tn_t ho hT u (by omega)) ?_
  refine zx_st (st1 := [zI 1]) rfl ?_
  refine zx_pc (pc1 := 21) rfl ?_
  refine zx_if_ne (tgt := 32) dX11_addPredicate_21 (by decide) (fun h21 => ?_) (fun h21 => absurd (by decide) h21)
  refine zx_iload_n (i := 1) dX11_addPredicate_32 rfl rfl ?_
  refine zx_iconst (v := -1) dX11_addPredicate_33 rfl (z32_lit (by decide) (by decide)) ?_
  refine zx_icmp_ne (tgt := 42) dX11_addPredicate_34 (by decide) (fun h34 => ?_) (fun h34 => ?_)
  · refine zx_iload_n (i := 2) dX11_addPredicate_42 rfl rfl ?_
    refine zx_iconst (v := -1) dX11_addPredicate_43 rfl (z32_lit (by decide) (by decide)) ?_
    refine zx_icmp_ne (tgt := 60) dX11_addPredicate_44 (by decide) (fun h44 => ?_) (fun h44 => ?_)
    · refine zx_aload_n (i := 0) dX11_addPredicate_60 rfl rfl ?_
      refine zx_getfield dX11_addPredicate_61 zf_X11_19 ho rfl ?_
      refine zx_iv (b := pg) (As := []) (st := []) (v := (some (zI (R.2.2.1.1.length : Int)))) (w1 := w) dX11_addPredicate_64 zc_X11_128 hP.1 rfl rfl rfl (Nat.le_of_ble_eq_true rfl) rfl (c_X7_predicateCount hP.1 hP.2.1) ?_
      refine zx_st (st1 := [zI (R.2.2.1.1.length : Int)]) rfl ?_
      refine zx_iconst (v := 5) dX11_addPredicate_67 rfl (z32_lit (by decide) (by decide)) ?_
      refine zx_icmp_ge (tgt := 78) dX11_addPredicate_68 (by decide) (fun h68 => ?_) (fun h68 => ?_)
      · refine zx_pc (pc1 := 78) rfl ?_
        refine zx_thrown zt_X11_67_69 dX11_addPredicate_78 dX11_addPredicate_81 dX11_addPredicate_82 dX11_addPredicate_85 rfl hst0 (Nat.le_of_ble_eq_true rfl) (by omega) (by omega) (fun z t z1 z2 z3 z4 => ?_)
        exact ⟨rfl, rfl, z1, z2, z3, z4⟩
      · refine zx_pc (pc1 := 71) rfl ?_
        refine zx_aload_n (i := 0) dX11_addPredicate_71 rfl rfl ?_
        refine zx_getfield dX11_addPredicate_72 zf_X11_51 ho rfl ?_
        refine zx_if_eq (tgt := 86) dX11_addPredicate_75 (by decide) (fun h75 => ?_) (fun h75 => ?_)
        · refine zx_aload_n (i := 0) dX11_addPredicate_86 rfl rfl ?_
          refine zx_getfield dX11_addPredicate_87 zf_X11_19 ho rfl ?_
          refine zx_iload_n (i := 1) dX11_addPredicate_90 rfl rfl ?_
          refine zx_iload_n (i := 2) dX11_addPredicate_91 rfl rfl ?_
          refine zx_iload_n (i := 3) dX11_addPredicate_92 rfl rfl ?_
          exfalso
          omega
        · refine zx_thrown zt_X11_67_69 dX11_addPredicate_78 dX11_addPredicate_81 dX11_addPredicate_82 dX11_addPredicate_85 rfl hst0 (Nat.le_of_ble_eq_true rfl) (by omega) (by omega) (fun z t z1 z2 z3 z4 => ?_)
          exact ⟨rfl, rfl, z1, z2, z3, z4⟩
    · refine zx_iload_n (i := 3) dX11_addPredicate_47 rfl rfl ?_
      refine zx_iconst (v := -1) dX11_addPredicate_48 rfl (z32_lit (by decide) (by decide)) ?_
      refine zx_icmp_eq (tgt := 60) dX11_addPredicate_49 (by decide) (fun h49 => ?_) (fun h49 => ?_)
      · refine zx_aload_n (i := 0) dX11_addPredicate_60 rfl rfl ?_
        refine zx_getfield dX11_addPredicate_61 zf_X11_19 ho rfl ?_
        refine zx_pc (pc1 := 64) rfl ?_
        refine zx_iv (b := pg) (As := []) (st := []) (v := (some (zI (R.2.2.1.1.length : Int)))) (w1 := w) dX11_addPredicate_64 zc_X11_128 hP.1 rfl rfl rfl (Nat.le_of_ble_eq_true rfl) rfl (c_X7_predicateCount hP.1 hP.2.1) ?_
        refine zx_st (st1 := [zI (R.2.2.1.1.length : Int)]) rfl ?_
        refine zx_iconst (v := 5) dX11_addPredicate_67 rfl (z32_lit (by decide) (by decide)) ?_
        refine zx_icmp_ge (tgt := 78) dX11_addPredicate_68 (by decide) (fun h68 => ?_) (fun h68 => ?_)
        · refine zx_thrown zt_X11_67_69 dX11_addPredicate_78 dX11_addPredicate_81 dX11_addPredicate_82 dX11_addPredicate_85 rfl hst0 (Nat.le_of_ble_eq_true rfl) (by omega) (by omega) (fun z t z1 z2 z3 z4 => ?_)
          exact ⟨rfl, rfl, z1, z2, z3, z4⟩
        · refine zx_aload_n (i := 0) dX11_addPredicate_71 rfl rfl ?_
          refine zx_getfield dX11_addPredicate_72 zf_X11_51 ho rfl ?_
          refine zx_if_eq (tgt := 86) dX11_addPredicate_75 (by decide) (fun h75 => ?_) (fun h75 => ?_)
          · refine zx_aload_n (i := 0) dX11_addPredicate_86 rfl rfl ?_
            refine zx_getfield dX11_addPredicate_87 zf_X11_19 ho rfl ?_
            refine zx_iload_n (i := 1) dX11_addPredicate_90 rfl rfl ?_
            refine zx_iload_n (i := 2) dX11_addPredicate_91 rfl rfl ?_
            refine zx_iload_n (i := 3) dX11_addPredicate_92 rfl rfl ?_
            exfalso
            omega
          · refine zx_thrown zt_X11_67_69 dX11_addPredicate_78 dX11_addPredicate_81 dX11_addPredicate_82 dX11_addPredicate_85 rfl hst0 (Nat.le_of_ble_eq_true rfl) (by omega) (by omega) (fun z t z1 z2 z3 z4 => ?_)
            exact ⟨rfl, rfl, z1, z2, z3, z4⟩
      · refine zx_thrown zt_X11_83_85 dX11_addPredicate_52 dX11_addPredicate_55 dX11_addPredicate_56 dX11_addPredicate_59 rfl hst0 (Nat.le_of_ble_eq_true rfl) (by omega) (by omega) (fun z t z1 z2 z3 z4 => ?_)
        exfalso
        omega
  · refine zx_iload_n (i := 2) dX11_addPredicate_37 rfl rfl ?_
    refine zx_iconst (v := -1) dX11_addPredicate_38 rfl (z32_lit (by decide) (by decide)) ?_
    refine zx_icmp_ne (tgt := 52) dX11_addPredicate_39 (by decide) (fun h39 => ?_) (fun h39 => ?_)
    · refine zx_thrown zt_X11_83_85 dX11_addPredicate_52 dX11_addPredicate_55 dX11_addPredicate_56 dX11_addPredicate_59 rfl hst0 (Nat.le_of_ble_eq_true rfl) (by omega) (by omega) (fun z t z1 z2 z3 z4 => ?_)
      exfalso
      omega
    · refine zx_iload_n (i := 2) dX11_addPredicate_42 rfl rfl ?_
      refine zx_iconst (v := -1) dX11_addPredicate_43 rfl (z32_lit (by decide) (by decide)) ?_
      refine zx_icmp_ne (tgt := 60) dX11_addPredicate_44 (by decide) (fun h44 => ?_) (fun h44 => ?_)
      · refine zx_aload_n (i := 0) dX11_addPredicate_60 rfl rfl ?_
        refine zx_getfield dX11_addPredicate_61 zf_X11_19 ho rfl ?_
        refine zx_pc (pc1 := 64) rfl ?_
        refine zx_iv (b := pg) (As := []) (st := []) (v := (some (zI (R.2.2.1.1.length : Int)))) (w1 := w) dX11_addPredicate_64 zc_X11_128 hP.1 rfl rfl rfl (Nat.le_of_ble_eq_true rfl) rfl (c_X7_predicateCount hP.1 hP.2.1) ?_
        refine zx_st (st1 := [zI (R.2.2.1.1.length : Int)]) rfl ?_
        refine zx_iconst (v := 5) dX11_addPredicate_67 rfl (z32_lit (by decide) (by decide)) ?_
        refine zx_icmp_ge (tgt := 78) dX11_addPredicate_68 (by decide) (fun h68 => ?_) (fun h68 => ?_)
        · refine zx_thrown zt_X11_67_69 dX11_addPredicate_78 dX11_addPredicate_81 dX11_addPredicate_82 dX11_addPredicate_85 rfl hst0 (Nat.le_of_ble_eq_true rfl) (by omega) (by omega) (fun z t z1 z2 z3 z4 => ?_)
          exact ⟨rfl, rfl, z1, z2, z3, z4⟩
        · refine zx_aload_n (i := 0) dX11_addPredicate_71 rfl rfl ?_
          refine zx_getfield dX11_addPredicate_72 zf_X11_51 ho rfl ?_
          refine zx_if_eq (tgt := 86) dX11_addPredicate_75 (by decide) (fun h75 => ?_) (fun h75 => ?_)
          · refine zx_aload_n (i := 0) dX11_addPredicate_86 rfl rfl ?_
            refine zx_getfield dX11_addPredicate_87 zf_X11_19 ho rfl ?_
            refine zx_iload_n (i := 1) dX11_addPredicate_90 rfl rfl ?_
            refine zx_iload_n (i := 2) dX11_addPredicate_91 rfl rfl ?_
            refine zx_iload_n (i := 3) dX11_addPredicate_92 rfl rfl ?_
            exfalso
            omega
          · refine zx_thrown zt_X11_67_69 dX11_addPredicate_78 dX11_addPredicate_81 dX11_addPredicate_82 dX11_addPredicate_85 rfl hst0 (Nat.le_of_ble_eq_true rfl) (by omega) (by omega) (fun z t z1 z2 z3 z4 => ?_)
            exact ⟨rfl, rfl, z1, z2, z3, z4⟩
      · refine zx_iload_n (i := 3) dX11_addPredicate_47 rfl rfl ?_
        refine zx_iconst (v := -1) dX11_addPredicate_48 rfl (z32_lit (by decide) (by decide)) ?_
        refine zx_pc (pc1 := 49) rfl ?_
        refine zx_icmp_eq (tgt := 60) dX11_addPredicate_49 (by decide) (fun h49 => ?_) (fun h49 => ?_)
        · refine zx_aload_n (i := 0) dX11_addPredicate_60 rfl rfl ?_
          refine zx_getfield dX11_addPredicate_61 zf_X11_19 ho rfl ?_
          refine zx_iv (b := pg) (As := []) (st := []) (v := (some (zI (R.2.2.1.1.length : Int)))) (w1 := w) dX11_addPredicate_64 zc_X11_128 hP.1 rfl rfl rfl (Nat.le_of_ble_eq_true rfl) rfl (c_X7_predicateCount hP.1 hP.2.1) ?_
          refine zx_st (st1 := [zI (R.2.2.1.1.length : Int)]) rfl ?_
          refine zx_iconst (v := 5) dX11_addPredicate_67 rfl (z32_lit (by decide) (by decide)) ?_
          refine zx_icmp_ge (tgt := 78) dX11_addPredicate_68 (by decide) (fun h68 => ?_) (fun h68 => ?_)
          · refine zx_thrown zt_X11_67_69 dX11_addPredicate_78 dX11_addPredicate_81 dX11_addPredicate_82 dX11_addPredicate_85 rfl hst0 (Nat.le_of_ble_eq_true rfl) (by omega) (by omega) (fun z t z1 z2 z3 z4 => ?_)
            exact ⟨rfl, rfl, z1, z2, z3, z4⟩
          · refine zx_aload_n (i := 0) dX11_addPredicate_71 rfl rfl ?_
            refine zx_getfield dX11_addPredicate_72 zf_X11_51 ho rfl ?_
            refine zx_if_eq (tgt := 86) dX11_addPredicate_75 (by decide) (fun h75 => ?_) (fun h75 => ?_)
            · refine zx_aload_n (i := 0) dX11_addPredicate_86 rfl rfl ?_
              refine zx_getfield dX11_addPredicate_87 zf_X11_19 ho rfl ?_
              refine zx_iload_n (i := 1) dX11_addPredicate_90 rfl rfl ?_
              refine zx_pc (pc1 := 91) rfl ?_
              refine zx_iload_n (i := 2) dX11_addPredicate_91 rfl rfl ?_
              refine zx_iload_n (i := 3) dX11_addPredicate_92 rfl rfl ?_
              exfalso
              omega
            · refine zx_thrown zt_X11_67_69 dX11_addPredicate_78 dX11_addPredicate_81 dX11_addPredicate_82 dX11_addPredicate_85 rfl hst0 (Nat.le_of_ble_eq_true rfl) (by omega) (by omega) (fun z t z1 z2 z3 z4 => ?_)
              exact ⟨rfl, rfl, z1, z2, z3, z4⟩
        · refine zx_thrown zt_X11_83_85 dX11_addPredicate_52 dX11_addPredicate_55 dX11_addPredicate_56 dX11_addPredicate_59 rfl hst0 (Nat.le_of_ble_eq_true rfl) (by omega) (by omega) (fun z t z1 z2 z3 z4 => ?_)
          exfalso
          omega
end CFACE3
