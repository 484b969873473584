/-! Own rows: the face: a question's inputs. Walked by program (wip/p37/m_face8.py). -/
section CFACE8
variable {G : zG} {d : Nat} {w : zW} {o t pg mc br la sp : Nat} {comp asked sum : Int}
theorem f_ai {tc tn th tz : Nat} {ty : Int} {C N H : List (List Int)} {S : List Int} {md : Nat} {mr : moR} {yr : prR} (ho : w.1 o = some (11, 0, [zR t, zR pg, zR mc, zR br, zR la, zR sp, zI comp, zI asked, zJ sum])) (hT : tmW w t tc tn th tz ty C N H S) (hmd : moW w md mr) (hpr : prW w mr.1 yr) (f s u : Int) (hall : (zB (0 ≤ (0 : Int) ∧ (0 : Int) < 3 ∧ zand (zshr mr.2.2.1 (0 : Int)) 1 = 1) = 0 ∨ ¬ zB (0 ≤ pk 0 f s u ∧ pk 0 f s u < (N.length : Int)) = 0) ∧ (zB (0 ≤ (1 : Int) ∧ (1 : Int) < 3 ∧ zand (zshr mr.2.2.1 (1 : Int)) 1 = 1) = 0 ∨ ¬ zB (0 ≤ pk 1 f s u ∧ pk 1 f s u < (N.length : Int)) = 0) ∧ (zB (0 ≤ (2 : Int) ∧ (2 : Int) < 3 ∧ zand (zshr mr.2.2.1 (2 : Int)) 1 = 1) = 0 ∨ ¬ zB (0 ≤ pk 2 f s u ∧ pk 2 f s u < (N.length : Int)) = 0)) : zM G zm_X11_areInputsThere (d + 3) [zR o, zR md, zI f, zI s, zI u] w (zRet (some (zI 1)) w) := by
  refine zx_ent (by decide +kernel) rfl (Nat.le_of_ble_eq_true rfl) ?_
  refine zx_L (L1 := [some (zR o), some (zR md), some (zI f), some (zI s), some (zI u), none]) rfl ?_
  refine zx_iconst (v := 0) dX11_areInputsThere_0 rfl (z32_lit (by decide) (by decide)) ?_
  refine zx_istore (i := 5) dX11_areInputsThere_1 (by decide) rfl ?_
  refine zx_L (L1 := [some (zR o), some (zR md), some (zI f), some (zI s), some (zI u), some (zI 0)]) rfl ?_
  refine zx_iload (i := 5) dX11_areInputsThere_3 rfl ?_
  refine zx_iconst (v := 3) dX11_areInputsThere_5 rfl (z32_lit (by decide) (by decide)) ?_
  refine zx_icmp_ge (tgt := 45) dX11_areInputsThere_6 (by decide) (fun h6 => absurd h6 (by decide)) (fun h6 => ?_)
  refine zx_aload_n (i := 1) dX11_areInputsThere_9 rfl rfl ?_
  refine zx_iload (i := 5) dX11_areInputsThere_10 rfl ?_
  refine zx_iv (b := md) (As := [zI 0]) (st := []) (v := (some (zI (zB (0 ≤ (0 : Int) ∧ (0 : Int) < 3 ∧ zand (zshr mr.2.2.1 (0 : Int)) 1 = 1))))) (w1 := w) dX11_areInputsThere_12 zc_X11_339 hmd rfl rfl rfl (Nat.le_of_ble_eq_true rfl) rfl (c_X5_isInput hmd 0) ?_
  refine zx_st (st1 := [zI (zB (0 ≤ (0 : Int) ∧ (0 : Int) < 3 ∧ zand (zshr mr.2.2.1 (0 : Int)) 1 = 1))]) rfl ?_
  refine zx_if_eq (tgt := 39) dX11_areInputsThere_15 (by decide) (fun h15 => ?_) (fun h15 => ?_)
  · refine zx_iinc (i := 5) (v := 1) dX11_areInputsThere_39 rfl (by decide +kernel) (by decide) rfl ?_
    refine zx_L (L1 := [some (zR o), some (zR md), some (zI f), some (zI s), some (zI u), some (zI 1)]) rfl ?_
    refine zx_goto (tgt := 3) dX11_areInputsThere_42 (by decide) ?_
    refine zx_pc (pc1 := 3) rfl ?_
    refine zx_iload (i := 5) dX11_areInputsThere_3 rfl ?_
    refine zx_iconst (v := 3) dX11_areInputsThere_5 rfl (z32_lit (by decide) (by decide)) ?_
    refine zx_icmp_ge (tgt := 45) dX11_areInputsThere_6 (by decide) (fun h6 => absurd h6 (by decide)) (fun h6 => ?_)
    refine zx_aload_n (i := 1) dX11_areInputsThere_9 rfl rfl ?_
    refine zx_iload (i := 5) dX11_areInputsThere_10 rfl ?_
    refine zx_iv (b := md) (As := [zI 1]) (st := []) (v := (some (zI (zB (0 ≤ (1 : Int) ∧ (1 : Int) < 3 ∧ zand (zshr mr.2.2.1 (1 : Int)) 1 = 1))))) (w1 := w) dX11_areInputsThere_12 zc_X11_339 hmd rfl rfl rfl (Nat.le_of_ble_eq_true rfl) rfl (c_X5_isInput hmd 1) ?_
    refine zx_st (st1 := [zI (zB (0 ≤ (1 : Int) ∧ (1 : Int) < 3 ∧ zand (zshr mr.2.2.1 (1 : Int)) 1 = 1))]) rfl ?_
    refine zx_if_eq (tgt := 39) dX11_areInputsThere_15 (by decide) (fun h15_1 => ?_) (fun h15_1 => ?_)
    · refine zx_iinc (i := 5) (v := 2) dX11_areInputsThere_39 rfl (by decide +kernel) (by decide) rfl ?_
      refine zx_L (L1 := [some (zR o), some (zR md), some (zI f), some (zI s), some (zI u), some (zI 2)]) rfl ?_
      refine zx_goto (tgt := 3) dX11_areInputsThere_42 (by decide) ?_
      refine zx_iload (i := 5) dX11_areInputsThere_3 rfl ?_
      refine zx_iconst (v := 3) dX11_areInputsThere_5 rfl (z32_lit (by decide) (by decide)) ?_
      refine zx_icmp_ge (tgt := 45) dX11_areInputsThere_6 (by decide) (fun h6 => absurd h6 (by decide)) (fun h6 => ?_)
      refine zx_pc (pc1 := 9) rfl ?_
      refine zx_aload_n (i := 1) dX11_areInputsThere_9 rfl rfl ?_
      refine zx_iload (i := 5) dX11_areInputsThere_10 rfl ?_
      refine zx_iv (b := md) (As := [zI 2]) (st := []) (v := (some (zI (zB (0 ≤ (2 : Int) ∧ (2 : Int) < 3 ∧ zand (zshr mr.2.2.1 (2 : Int)) 1 = 1))))) (w1 := w) dX11_areInputsThere_12 zc_X11_339 hmd rfl rfl rfl (Nat.le_of_ble_eq_true rfl) rfl (c_X5_isInput hmd 2) ?_
      refine zx_st (st1 := [zI (zB (0 ≤ (2 : Int) ∧ (2 : Int) < 3 ∧ zand (zshr mr.2.2.1 (2 : Int)) 1 = 1))]) rfl ?_
      refine zx_if_eq (tgt := 39) dX11_areInputsThere_15 (by decide) (fun h15_2 => ?_) (fun h15_2 => ?_)
      · refine zx_iinc (i := 5) (v := 3) dX11_areInputsThere_39 rfl (by decide +kernel) (by decide) rfl ?_
        refine zx_L (L1 := [some (zR o), some (zR md), some (zI f), some (zI s), some (zI u), some (zI 3)]) rfl ?_
        refine zx_goto (tgt := 3) dX11_areInputsThere_42 (by decide) ?_
        refine zx_iload (i := 5) dX11_areInputsThere_3 rfl ?_
        refine zx_iconst (v := 3) dX11_areInputsThere_5 rfl (z32_lit (by decide) (by decide)) ?_
        refine zx_icmp_ge (tgt := 45) dX11_areInputsThere_6 (by decide) (fun h6 => ?_) (fun h6 => absurd (by decide) h6)
        refine zx_iconst (v := 1) dX11_areInputsThere_45 rfl (z32_lit (by decide) (by decide)) ?_
        refine zx_zret dX11_areInputsThere_46 rfl (by first | exact Or.inl rfl | exact Or.inr rfl | exact zB_or | assumption) ?_
        exact zr_v rfl rfl
      · refine zx_aload_n (i := 0) dX11_areInputsThere_18 rfl rfl ?_
        refine zx_getfield dX11_areInputsThere_19 zf_X11_10 ho rfl ?_
        refine zx_iload (i := 5) dX11_areInputsThere_22 rfl ?_
        refine zx_iload_n (i := 2) dX11_areInputsThere_24 rfl rfl ?_
        refine zx_iload_n (i := 3) dX11_areInputsThere_25 rfl rfl ?_
        refine zx_iload (i := 4) dX11_areInputsThere_26 rfl ?_
        refine zx_is (As := [zI 2, zI f, zI s, zI u]) (st := [zR t]) (v := (some (zI (pk 2 f s u)))) (w1 := w) dX11_areInputsThere_28 zc_X11_342 rfl (Nat.le_of_ble_eq_true rfl) rfl (c_X11_pick 2 f s u) ?_
        refine zx_st (st1 := [zI (pk 2 f s u), zR t]) rfl ?_
        refine zx_iv (b := t) (As := [zI (pk 2 f s u)]) (st := []) (v := (some (zI (zB (0 ≤ (pk 2 f s u) ∧ (pk 2 f s u) < (N.length : Int)))))) (w1 := w) dX11_areInputsThere_31 zc_X11_346 hT.1 rfl rfl rfl (Nat.le_of_ble_eq_true rfl) rfl (c_X10_hasTerm hT (pk 2 f s u)) ?_
        refine zx_st (st1 := [zI (zB (0 ≤ (pk 2 f s u) ∧ (pk 2 f s u) < (N.length : Int)))]) rfl ?_
        refine zx_pc (pc1 := 34) rfl ?_
        refine zx_if_ne (tgt := 39) dX11_areInputsThere_34 (by decide) (fun h34 => ?_) (fun h34 => ?_)
        · refine zx_iinc (i := 5) (v := 3) dX11_areInputsThere_39 rfl (by decide +kernel) (by decide) rfl ?_
          refine zx_L (L1 := [some (zR o), some (zR md), some (zI f), some (zI s), some (zI u), some (zI 3)]) rfl ?_
          refine zx_goto (tgt := 3) dX11_areInputsThere_42 (by decide) ?_
          refine zx_iload (i := 5) dX11_areInputsThere_3 rfl ?_
          refine zx_iconst (v := 3) dX11_areInputsThere_5 rfl (z32_lit (by decide) (by decide)) ?_
          refine zx_icmp_ge (tgt := 45) dX11_areInputsThere_6 (by decide) (fun h6 => ?_) (fun h6 => absurd (by decide) h6)
          refine zx_iconst (v := 1) dX11_areInputsThere_45 rfl (z32_lit (by decide) (by decide)) ?_
          refine zx_zret dX11_areInputsThere_46 rfl (by first | exact Or.inl rfl | exact Or.inr rfl | exact zB_or | assumption) ?_
          exact zr_v rfl rfl
        · refine zx_iconst (v := 0) dX11_areInputsThere_37 rfl (z32_lit (by decide) (by decide)) ?_
          refine zx_zret dX11_areInputsThere_38 rfl (by first | exact Or.inl rfl | exact Or.inr rfl | exact zB_or | assumption) ?_
          exfalso
          omega
    · refine zx_aload_n (i := 0) dX11_areInputsThere_18 rfl rfl ?_
      refine zx_getfield dX11_areInputsThere_19 zf_X11_10 ho rfl ?_
      refine zx_iload (i := 5) dX11_areInputsThere_22 rfl ?_
      refine zx_iload_n (i := 2) dX11_areInputsThere_24 rfl rfl ?_
      refine zx_iload_n (i := 3) dX11_areInputsThere_25 rfl rfl ?_
      refine zx_pc (pc1 := 26) rfl ?_
      refine zx_iload (i := 4) dX11_areInputsThere_26 rfl ?_
      refine zx_is (As := [zI 1, zI f, zI s, zI u]) (st := [zR t]) (v := (some (zI (pk 1 f s u)))) (w1 := w) dX11_areInputsThere_28 zc_X11_342 rfl (Nat.le_of_ble_eq_true rfl) rfl (c_X11_pick 1 f s u) ?_
      refine zx_st (st1 := [zI (pk 1 f s u), zR t]) rfl ?_
      refine zx_iv (b := t) (As := [zI (pk 1 f s u)]) (st := []) (v := (some (zI (zB (0 ≤ (pk 1 f s u) ∧ (pk 1 f s u) < (N.length : Int)))))) (w1 := w) dX11_areInputsThere_31 zc_X11_346 hT.1 rfl rfl rfl (Nat.le_of_ble_eq_true rfl) rfl (c_X10_hasTerm hT (pk 1 f s u)) ?_
      refine zx_st (st1 := [zI (zB (0 ≤ (pk 1 f s u) ∧ (pk 1 f s u) < (N.length : Int)))]) rfl ?_
      refine zx_if_ne (tgt := 39) dX11_areInputsThere_34 (by decide) (fun h34 => ?_) (fun h34 => ?_)
      · refine zx_iinc (i := 5) (v := 2) dX11_areInputsThere_39 rfl (by decide +kernel) (by decide) rfl ?_
        refine zx_L (L1 := [some (zR o), some (zR md), some (zI f), some (zI s), some (zI u), some (zI 2)]) rfl ?_
        refine zx_goto (tgt := 3) dX11_areInputsThere_42 (by decide) ?_
        refine zx_iload (i := 5) dX11_areInputsThere_3 rfl ?_
        refine zx_iconst (v := 3) dX11_areInputsThere_5 rfl (z32_lit (by decide) (by decide)) ?_
        refine zx_icmp_ge (tgt := 45) dX11_areInputsThere_6 (by decide) (fun h6 => absurd h6 (by decide)) (fun h6 => ?_)
        refine zx_aload_n (i := 1) dX11_areInputsThere_9 rfl rfl ?_
        refine zx_iload (i := 5) dX11_areInputsThere_10 rfl ?_
        refine zx_iv (b := md) (As := [zI 2]) (st := []) (v := (some (zI (zB (0 ≤ (2 : Int) ∧ (2 : Int) < 3 ∧ zand (zshr mr.2.2.1 (2 : Int)) 1 = 1))))) (w1 := w) dX11_areInputsThere_12 zc_X11_339 hmd rfl rfl rfl (Nat.le_of_ble_eq_true rfl) rfl (c_X5_isInput hmd 2) ?_
        refine zx_st (st1 := [zI (zB (0 ≤ (2 : Int) ∧ (2 : Int) < 3 ∧ zand (zshr mr.2.2.1 (2 : Int)) 1 = 1))]) rfl ?_
        refine zx_pc (pc1 := 15) rfl ?_
        refine zx_if_eq (tgt := 39) dX11_areInputsThere_15 (by decide) (fun h15_3 => ?_) (fun h15_3 => ?_)
        · refine zx_iinc (i := 5) (v := 3) dX11_areInputsThere_39 rfl (by decide +kernel) (by decide) rfl ?_
          refine zx_L (L1 := [some (zR o), some (zR md), some (zI f), some (zI s), some (zI u), some (zI 3)]) rfl ?_
          refine zx_goto (tgt := 3) dX11_areInputsThere_42 (by decide) ?_
          refine zx_iload (i := 5) dX11_areInputsThere_3 rfl ?_
          refine zx_iconst (v := 3) dX11_areInputsThere_5 rfl (z32_lit (by decide) (by decide)) ?_
          refine zx_icmp_ge (tgt := 45) dX11_areInputsThere_6 (by decide) (fun h6 => ?_) (fun h6 => absurd (by decide) h6)
          refine zx_iconst (v := 1) dX11_areInputsThere_45 rfl (z32_lit (by decide) (by decide)) ?_
          refine zx_zret dX11_areInputsThere_46 rfl (by first | exact Or.inl rfl | exact Or.inr rfl | exact zB_or | assumption) ?_
          exact zr_v rfl rfl
        · refine zx_aload_n (i := 0) dX11_areInputsThere_18 rfl rfl ?_
          refine zx_getfield dX11_areInputsThere_19 zf_X11_10 ho rfl ?_
          refine zx_iload (i := 5) dX11_areInputsThere_22 rfl ?_
          refine zx_iload_n (i := 2) dX11_areInputsThere_24 rfl rfl ?_
          refine zx_iload_n (i := 3) dX11_areInputsThere_25 rfl rfl ?_
          refine zx_iload (i := 4) dX11_areInputsThere_26 rfl ?_
          refine zx_is (As := [zI 2, zI f, zI s, zI u]) (st := [zR t]) (v := (some (zI (pk 2 f s u)))) (w1 := w) dX11_areInputsThere_28 zc_X11_342 rfl (Nat.le_of_ble_eq_true rfl) rfl (c_X11_pick 2 f s u) ?_
          refine zx_st (st1 := [zI (pk 2 f s u), zR t]) rfl ?_
          refine zx_iv (b := t) (As := [zI (pk 2 f s u)]) (st := []) (v := (some (zI (zB (0 ≤ (pk 2 f s u) ∧ (pk 2 f s u) < (N.length : Int)))))) (w1 := w) dX11_areInputsThere_31 zc_X11_346 hT.1 rfl rfl rfl (Nat.le_of_ble_eq_true rfl) rfl (c_X10_hasTerm hT (pk 2 f s u)) ?_
          refine zx_st (st1 := [zI (zB (0 ≤ (pk 2 f s u) ∧ (pk 2 f s u) < (N.length : Int)))]) rfl ?_
          refine zx_if_ne (tgt := 39) dX11_areInputsThere_34 (by decide) (fun h34_4 => ?_) (fun h34_4 => ?_)
          · refine zx_iinc (i := 5) (v := 3) dX11_areInputsThere_39 rfl (by decide +kernel) (by decide) rfl ?_
            refine zx_L (L1 := [some (zR o), some (zR md), some (zI f), some (zI s), some (zI u), some (zI 3)]) rfl ?_
            refine zx_goto (tgt := 3) dX11_areInputsThere_42 (by decide) ?_
            refine zx_pc (pc1 := 3) rfl ?_
            refine zx_iload (i := 5) dX11_areInputsThere_3 rfl ?_
            refine zx_iconst (v := 3) dX11_areInputsThere_5 rfl (z32_lit (by decide) (by decide)) ?_
            refine zx_icmp_ge (tgt := 45) dX11_areInputsThere_6 (by decide) (fun h6 => ?_) (fun h6 => absurd (by decide) h6)
            refine zx_iconst (v := 1) dX11_areInputsThere_45 rfl (z32_lit (by decide) (by decide)) ?_
            refine zx_zret dX11_areInputsThere_46 rfl (by first | exact Or.inl rfl | exact Or.inr rfl | exact zB_or | assumption) ?_
            exact zr_v rfl rfl
          · refine zx_iconst (v := 0) dX11_areInputsThere_37 rfl (z32_lit (by decide) (by decide)) ?_
            refine zx_zret dX11_areInputsThere_38 rfl (by first | exact Or.inl rfl | exact Or.inr rfl | exact zB_or | assumption) ?_
            exfalso
            omega
      · refine zx_iconst (v := 0) dX11_areInputsThere_37 rfl (z32_lit (by decide) (by decide)) ?_
        refine zx_zret dX11_areInputsThere_38 rfl (by first | exact Or.inl rfl | exact Or.inr rfl | exact zB_or | assumption) ?_
        exfalso
        omega
  · refine zx_aload_n (i := 0) dX11_areInputsThere_18 rfl rfl ?_
    refine zx_getfield dX11_areInputsThere_19 zf_X11_10 ho rfl ?_
    refine zx_pc (pc1 := 22) rfl ?_
    refine zx_iload (i := 5) dX11_areInputsThere_22 rfl ?_
    refine zx_iload_n (i := 2) dX11_areInputsThere_24 rfl rfl ?_
    refine zx_iload_n (i := 3) dX11_areInputsThere_25 rfl rfl ?_
    refine zx_iload (i := 4) dX11_areInputsThere_26 rfl ?_
    refine zx_is (As := [zI 0, zI f, zI s, zI u]) (st := [zR t]) (v := (some (zI (pk 0 f s u)))) (w1 := w) dX11_areInputsThere_28 zc_X11_342 rfl (Nat.le_of_ble_eq_true rfl) rfl (c_X11_pick 0 f s u) ?_
    refine zx_st (st1 := [zI (pk 0 f s u), zR t]) rfl ?_
    refine zx_iv (b := t) (As := [zI (pk 0 f s u)]) (st := []) (v := (some (zI (zB (0 ≤ (pk 0 f s u) ∧ (pk 0 f s u) < (N.length : Int)))))) (w1 := w) dX11_areInputsThere_31 zc_X11_346 hT.1 rfl rfl rfl (Nat.le_of_ble_eq_true rfl) rfl (c_X10_hasTerm hT (pk 0 f s u)) ?_
    refine zx_st (st1 := [zI (zB (0 ≤ (pk 0 f s u) ∧ (pk 0 f s u) < (N.length : Int)))]) rfl ?_
    refine zx_if_ne (tgt := 39) dX11_areInputsThere_34 (by decide) (fun h34 => ?_) (fun h34 => ?_)
    · refine zx_iinc (i := 5) (v := 1) dX11_areInputsThere_39 rfl (by decide +kernel) (by decide) rfl ?_
      refine zx_L (L1 := [some (zR o), some (zR md), some (zI f), some (zI s), some (zI u), some (zI 1)]) rfl ?_
      refine zx_goto (tgt := 3) dX11_areInputsThere_42 (by decide) ?_
      refine zx_iload (i := 5) dX11_areInputsThere_3 rfl ?_
      refine zx_iconst (v := 3) dX11_areInputsThere_5 rfl (z32_lit (by decide) (by decide)) ?_
      refine zx_icmp_ge (tgt := 45) dX11_areInputsThere_6 (by decide) (fun h6 => absurd h6 (by decide)) (fun h6 => ?_)
      refine zx_pc (pc1 := 9) rfl ?_
      refine zx_aload_n (i := 1) dX11_areInputsThere_9 rfl rfl ?_
      refine zx_iload (i := 5) dX11_areInputsThere_10 rfl ?_
      refine zx_iv (b := md) (As := [zI 1]) (st := []) (v := (some (zI (zB (0 ≤ (1 : Int) ∧ (1 : Int) < 3 ∧ zand (zshr mr.2.2.1 (1 : Int)) 1 = 1))))) (w1 := w) dX11_areInputsThere_12 zc_X11_339 hmd rfl rfl rfl (Nat.le_of_ble_eq_true rfl) rfl (c_X5_isInput hmd 1) ?_
      refine zx_st (st1 := [zI (zB (0 ≤ (1 : Int) ∧ (1 : Int) < 3 ∧ zand (zshr mr.2.2.1 (1 : Int)) 1 = 1))]) rfl ?_
      refine zx_if_eq (tgt := 39) dX11_areInputsThere_15 (by decide) (fun h15_5 => ?_) (fun h15_5 => ?_)
      · refine zx_iinc (i := 5) (v := 2) dX11_areInputsThere_39 rfl (by decide +kernel) (by decide) rfl ?_
        refine zx_L (L1 := [some (zR o), some (zR md), some (zI f), some (zI s), some (zI u), some (zI 2)]) rfl ?_
        refine zx_goto (tgt := 3) dX11_areInputsThere_42 (by decide) ?_
        refine zx_iload (i := 5) dX11_areInputsThere_3 rfl ?_
        refine zx_iconst (v := 3) dX11_areInputsThere_5 rfl (z32_lit (by decide) (by decide)) ?_
        refine zx_icmp_ge (tgt := 45) dX11_areInputsThere_6 (by decide) (fun h6 => absurd h6 (by decide)) (fun h6 => ?_)
        refine zx_aload_n (i := 1) dX11_areInputsThere_9 rfl rfl ?_
        refine zx_iload (i := 5) dX11_areInputsThere_10 rfl ?_
        refine zx_iv (b := md) (As := [zI 2]) (st := []) (v := (some (zI (zB (0 ≤ (2 : Int) ∧ (2 : Int) < 3 ∧ zand (zshr mr.2.2.1 (2 : Int)) 1 = 1))))) (w1 := w) dX11_areInputsThere_12 zc_X11_339 hmd rfl rfl rfl (Nat.le_of_ble_eq_true rfl) rfl (c_X5_isInput hmd 2) ?_
        refine zx_st (st1 := [zI (zB (0 ≤ (2 : Int) ∧ (2 : Int) < 3 ∧ zand (zshr mr.2.2.1 (2 : Int)) 1 = 1))]) rfl ?_
        refine zx_pc (pc1 := 15) rfl ?_
        refine zx_if_eq (tgt := 39) dX11_areInputsThere_15 (by decide) (fun h15_6 => ?_) (fun h15_6 => ?_)
        · refine zx_iinc (i := 5) (v := 3) dX11_areInputsThere_39 rfl (by decide +kernel) (by decide) rfl ?_
          refine zx_L (L1 := [some (zR o), some (zR md), some (zI f), some (zI s), some (zI u), some (zI 3)]) rfl ?_
          refine zx_goto (tgt := 3) dX11_areInputsThere_42 (by decide) ?_
          refine zx_iload (i := 5) dX11_areInputsThere_3 rfl ?_
          refine zx_iconst (v := 3) dX11_areInputsThere_5 rfl (z32_lit (by decide) (by decide)) ?_
          refine zx_icmp_ge (tgt := 45) dX11_areInputsThere_6 (by decide) (fun h6 => ?_) (fun h6 => absurd (by decide) h6)
          refine zx_iconst (v := 1) dX11_areInputsThere_45 rfl (z32_lit (by decide) (by decide)) ?_
          refine zx_zret dX11_areInputsThere_46 rfl (by first | exact Or.inl rfl | exact Or.inr rfl | exact zB_or | assumption) ?_
          exact zr_v rfl rfl
        · refine zx_aload_n (i := 0) dX11_areInputsThere_18 rfl rfl ?_
          refine zx_getfield dX11_areInputsThere_19 zf_X11_10 ho rfl ?_
          refine zx_iload (i := 5) dX11_areInputsThere_22 rfl ?_
          refine zx_iload_n (i := 2) dX11_areInputsThere_24 rfl rfl ?_
          refine zx_iload_n (i := 3) dX11_areInputsThere_25 rfl rfl ?_
          refine zx_iload (i := 4) dX11_areInputsThere_26 rfl ?_
          refine zx_is (As := [zI 2, zI f, zI s, zI u]) (st := [zR t]) (v := (some (zI (pk 2 f s u)))) (w1 := w) dX11_areInputsThere_28 zc_X11_342 rfl (Nat.le_of_ble_eq_true rfl) rfl (c_X11_pick 2 f s u) ?_
          refine zx_st (st1 := [zI (pk 2 f s u), zR t]) rfl ?_
          refine zx_iv (b := t) (As := [zI (pk 2 f s u)]) (st := []) (v := (some (zI (zB (0 ≤ (pk 2 f s u) ∧ (pk 2 f s u) < (N.length : Int)))))) (w1 := w) dX11_areInputsThere_31 zc_X11_346 hT.1 rfl rfl rfl (Nat.le_of_ble_eq_true rfl) rfl (c_X10_hasTerm hT (pk 2 f s u)) ?_
          refine zx_st (st1 := [zI (zB (0 ≤ (pk 2 f s u) ∧ (pk 2 f s u) < (N.length : Int)))]) rfl ?_
          refine zx_if_ne (tgt := 39) dX11_areInputsThere_34 (by decide) (fun h34_7 => ?_) (fun h34_7 => ?_)
          · refine zx_iinc (i := 5) (v := 3) dX11_areInputsThere_39 rfl (by decide +kernel) (by decide) rfl ?_
            refine zx_L (L1 := [some (zR o), some (zR md), some (zI f), some (zI s), some (zI u), some (zI 3)]) rfl ?_
            refine zx_goto (tgt := 3) dX11_areInputsThere_42 (by decide) ?_
            refine zx_pc (pc1 := 3) rfl ?_
            refine zx_iload (i := 5) dX11_areInputsThere_3 rfl ?_
            refine zx_iconst (v := 3) dX11_areInputsThere_5 rfl (z32_lit (by decide) (by decide)) ?_
            refine zx_icmp_ge (tgt := 45) dX11_areInputsThere_6 (by decide) (fun h6 => ?_) (fun h6 => absurd (by decide) h6)
            refine zx_iconst (v := 1) dX11_areInputsThere_45 rfl (z32_lit (by decide) (by decide)) ?_
            refine zx_zret dX11_areInputsThere_46 rfl (by first | exact Or.inl rfl | exact Or.inr rfl | exact zB_or | assumption) ?_
            exact zr_v rfl rfl
          · refine zx_iconst (v := 0) dX11_areInputsThere_37 rfl (z32_lit (by decide) (by decide)) ?_
            refine zx_zret dX11_areInputsThere_38 rfl (by first | exact Or.inl rfl | exact Or.inr rfl | exact zB_or | assumption) ?_
            exfalso
            omega
      · refine zx_aload_n (i := 0) dX11_areInputsThere_18 rfl rfl ?_
        refine zx_getfield dX11_areInputsThere_19 zf_X11_10 ho rfl ?_
        refine zx_iload (i := 5) dX11_areInputsThere_22 rfl ?_
        refine zx_iload_n (i := 2) dX11_areInputsThere_24 rfl rfl ?_
        refine zx_iload_n (i := 3) dX11_areInputsThere_25 rfl rfl ?_
        refine zx_iload (i := 4) dX11_areInputsThere_26 rfl ?_
        refine zx_is (As := [zI 1, zI f, zI s, zI u]) (st := [zR t]) (v := (some (zI (pk 1 f s u)))) (w1 := w) dX11_areInputsThere_28 zc_X11_342 rfl (Nat.le_of_ble_eq_true rfl) rfl (c_X11_pick 1 f s u) ?_
        refine zx_st (st1 := [zI (pk 1 f s u), zR t]) rfl ?_
        refine zx_iv (b := t) (As := [zI (pk 1 f s u)]) (st := []) (v := (some (zI (zB (0 ≤ (pk 1 f s u) ∧ (pk 1 f s u) < (N.length : Int)))))) (w1 := w) dX11_areInputsThere_31 zc_X11_346 hT.1 rfl rfl rfl (Nat.le_of_ble_eq_true rfl) rfl (c_X10_hasTerm hT (pk 1 f s u)) ?_
        refine zx_st (st1 := [zI (zB (0 ≤ (pk 1 f s u) ∧ (pk 1 f s u) < (N.length : Int)))]) rfl ?_
        refine zx_pc (pc1 := 34) rfl ?_
        refine zx_if_ne (tgt := 39) dX11_areInputsThere_34 (by decide) (fun h34_8 => ?_) (fun h34_8 => ?_)
        · refine zx_iinc (i := 5) (v := 2) dX11_areInputsThere_39 rfl (by decide +kernel) (by decide) rfl ?_
          refine zx_L (L1 := [some (zR o), some (zR md), some (zI f), some (zI s), some (zI u), some (zI 2)]) rfl ?_
          refine zx_goto (tgt := 3) dX11_areInputsThere_42 (by decide) ?_
          refine zx_iload (i := 5) dX11_areInputsThere_3 rfl ?_
          refine zx_iconst (v := 3) dX11_areInputsThere_5 rfl (z32_lit (by decide) (by decide)) ?_
          refine zx_icmp_ge (tgt := 45) dX11_areInputsThere_6 (by decide) (fun h6 => absurd h6 (by decide)) (fun h6 => ?_)
          refine zx_aload_n (i := 1) dX11_areInputsThere_9 rfl rfl ?_
          refine zx_iload (i := 5) dX11_areInputsThere_10 rfl ?_
          refine zx_iv (b := md) (As := [zI 2]) (st := []) (v := (some (zI (zB (0 ≤ (2 : Int) ∧ (2 : Int) < 3 ∧ zand (zshr mr.2.2.1 (2 : Int)) 1 = 1))))) (w1 := w) dX11_areInputsThere_12 zc_X11_339 hmd rfl rfl rfl (Nat.le_of_ble_eq_true rfl) rfl (c_X5_isInput hmd 2) ?_
          refine zx_st (st1 := [zI (zB (0 ≤ (2 : Int) ∧ (2 : Int) < 3 ∧ zand (zshr mr.2.2.1 (2 : Int)) 1 = 1))]) rfl ?_
          refine zx_if_eq (tgt := 39) dX11_areInputsThere_15 (by decide) (fun h15_9 => ?_) (fun h15_9 => ?_)
          · refine zx_iinc (i := 5) (v := 3) dX11_areInputsThere_39 rfl (by decide +kernel) (by decide) rfl ?_
            refine zx_L (L1 := [some (zR o), some (zR md), some (zI f), some (zI s), some (zI u), some (zI 3)]) rfl ?_
            refine zx_goto (tgt := 3) dX11_areInputsThere_42 (by decide) ?_
            refine zx_pc (pc1 := 3) rfl ?_
            refine zx_iload (i := 5) dX11_areInputsThere_3 rfl ?_
            refine zx_iconst (v := 3) dX11_areInputsThere_5 rfl (z32_lit (by decide) (by decide)) ?_
            refine zx_icmp_ge (tgt := 45) dX11_areInputsThere_6 (by decide) (fun h6 => ?_) (fun h6 => absurd (by decide) h6)
            refine zx_iconst (v := 1) dX11_areInputsThere_45 rfl (z32_lit (by decide) (by decide)) ?_
            refine zx_zret dX11_areInputsThere_46 rfl (by first | exact Or.inl rfl | exact Or.inr rfl | exact zB_or | assumption) ?_
            exact zr_v rfl rfl
          · refine zx_aload_n (i := 0) dX11_areInputsThere_18 rfl rfl ?_
            refine zx_getfield dX11_areInputsThere_19 zf_X11_10 ho rfl ?_
            refine zx_pc (pc1 := 22) rfl ?_
            refine zx_iload (i := 5) dX11_areInputsThere_22 rfl ?_
            refine zx_iload_n (i := 2) dX11_areInputsThere_24 rfl rfl ?_
            refine zx_iload_n (i := 3) dX11_areInputsThere_25 rfl rfl ?_
            refine zx_iload (i := 4) dX11_areInputsThere_26 rfl ?_
            refine zx_is (As := [zI 2, zI f, zI s, zI u]) (st := [zR t]) (v := (some (zI (pk 2 f s u)))) (w1 := w) dX11_areInputsThere_28 zc_X11_342 rfl (Nat.le_of_ble_eq_true rfl) rfl (c_X11_pick 2 f s u) ?_
            refine zx_st (st1 := [zI (pk 2 f s u), zR t]) rfl ?_
            refine zx_iv (b := t) (As := [zI (pk 2 f s u)]) (st := []) (v := (some (zI (zB (0 ≤ (pk 2 f s u) ∧ (pk 2 f s u) < (N.length : Int)))))) (w1 := w) dX11_areInputsThere_31 zc_X11_346 hT.1 rfl rfl rfl (Nat.le_of_ble_eq_true rfl) rfl (c_X10_hasTerm hT (pk 2 f s u)) ?_
            refine zx_st (st1 := [zI (zB (0 ≤ (pk 2 f s u) ∧ (pk 2 f s u) < (N.length : Int)))]) rfl ?_
            refine zx_if_ne (tgt := 39) dX11_areInputsThere_34 (by decide) (fun h34_10 => ?_) (fun h34_10 => ?_)
            · refine zx_iinc (i := 5) (v := 3) dX11_areInputsThere_39 rfl (by decide +kernel) (by decide) rfl ?_
              refine zx_L (L1 := [some (zR o), some (zR md), some (zI f), some (zI s), some (zI u), some (zI 3)]) rfl ?_
              refine zx_goto (tgt := 3) dX11_areInputsThere_42 (by decide) ?_
              refine zx_iload (i := 5) dX11_areInputsThere_3 rfl ?_
              refine zx_iconst (v := 3) dX11_areInputsThere_5 rfl (z32_lit (by decide) (by decide)) ?_
              refine zx_icmp_ge (tgt := 45) dX11_areInputsThere_6 (by decide) (fun h6 => ?_) (fun h6 => absurd (by decide) h6)
              refine zx_pc (pc1 := 45) rfl ?_
              refine zx_iconst (v := 1) dX11_areInputsThere_45 rfl (z32_lit (by decide) (by decide)) ?_
              refine zx_zret dX11_areInputsThere_46 rfl (by first | exact Or.inl rfl | exact Or.inr rfl | exact zB_or | assumption) ?_
              exact zr_v rfl rfl
            · refine zx_iconst (v := 0) dX11_areInputsThere_37 rfl (z32_lit (by decide) (by decide)) ?_
              refine zx_zret dX11_areInputsThere_38 rfl (by first | exact Or.inl rfl | exact Or.inr rfl | exact zB_or | assumption) ?_
              exfalso
              omega
        · refine zx_iconst (v := 0) dX11_areInputsThere_37 rfl (z32_lit (by decide) (by decide)) ?_
          refine zx_zret dX11_areInputsThere_38 rfl (by first | exact Or.inl rfl | exact Or.inr rfl | exact zB_or | assumption) ?_
          exfalso
          omega
    · refine zx_iconst (v := 0) dX11_areInputsThere_37 rfl (z32_lit (by decide) (by decide)) ?_
      refine zx_zret dX11_areInputsThere_38 rfl (by first | exact Or.inl rfl | exact Or.inr rfl | exact zB_or | assumption) ?_
      exfalso
      omega
theorem f_df_t {tc tn th tz : Nat} {ty : Int} {C N H : List (List Int)} {S : List Int} {md : Nat} {mr : moR} {yr : prR} (ho : w.1 o = some (11, 0, [zR t, zR pg, zR mc, zR br, zR la, zR sp, zI comp, zI asked, zJ sum])) (hT : tmW w t tc tn th tz ty C N H S) (hmd : moW w md mr) (hpr : prW w mr.1 yr) (f s u : Int) (hty : (zB (0 ≤ (0 : Int) ∧ (0 : Int) < 3 ∧ zand (zshr mr.2.2.1 (0 : Int)) 1 = 1) = 0 ∨ tg C (tg N (pk 0 f s u) 0) 0 = tg yr.2.1 0 0) ∧ (zB (0 ≤ (1 : Int) ∧ (1 : Int) < 3 ∧ zand (zshr mr.2.2.1 (1 : Int)) 1 = 1) = 0 ∨ tg C (tg N (pk 1 f s u) 0) 0 = tg yr.2.1 1 0) ∧ (zB (0 ≤ (2 : Int) ∧ (2 : Int) < 3 ∧ zand (zshr mr.2.2.1 (2 : Int)) 1 = 1) = 0 ∨ tg C (tg N (pk 2 f s u) 0) 0 = tg yr.2.1 2 0)) (hft : (¬ zB (0 ≤ (0 : Int) ∧ (0 : Int) < 3 ∧ zand (zshr mr.2.2.1 (0 : Int)) 1 = 1) = 0 ∨ pk 0 f s u = 0) ∧ (¬ zB (0 ≤ (1 : Int) ∧ (1 : Int) < 3 ∧ zand (zshr mr.2.2.1 (1 : Int)) 1 = 1) = 0 ∨ pk 1 f s u = 0) ∧ (¬ zB (0 ≤ (2 : Int) ∧ (2 : Int) < 3 ∧ zand (zshr mr.2.2.1 (2 : Int)) 1 = 1) = 0 ∨ pk 2 f s u = 0)) : zM G zm_X11_doInputsFit (d + 3) [zR o, zR md, zI f, zI s, zI u] w (zRet (some (zI 1)) w) := by
  refine zx_ent (by decide +kernel) rfl (Nat.le_of_ble_eq_true rfl) ?_
  refine zx_L (L1 := [some (zR o), some (zR md), some (zI f), some (zI s), some (zI u), none, none, none]) rfl ?_
  refine zx_iconst (v := 0) dX11_doInputsFit_0 rfl (z32_lit (by decide) (by decide)) ?_
  refine zx_istore (i := 5) dX11_doInputsFit_1 (by decide) rfl ?_
  refine zx_L (L1 := [some (zR o), some (zR md), some (zI f), some (zI s), some (zI u), some (zI 0), none, none]) rfl ?_
  refine zx_iload (i := 5) dX11_doInputsFit_3 rfl ?_
  refine zx_iconst (v := 3) dX11_doInputsFit_5 rfl (z32_lit (by decide) (by decide)) ?_
  refine zx_icmp_ge (tgt := 90) dX11_doInputsFit_6 (by decide) (fun h6 => absurd h6 (by decide)) (fun h6 => ?_)
  refine zx_iload (i := 5) dX11_doInputsFit_9 rfl ?_
  refine zx_iload_n (i := 2) dX11_doInputsFit_11 rfl rfl ?_
  refine zx_iload_n (i := 3) dX11_doInputsFit_12 rfl rfl ?_
  refine zx_iload (i := 4) dX11_doInputsFit_13 rfl ?_
  refine zx_is (As := [zI 0, zI f, zI s, zI u]) (st := []) (v := (some (zI (pk 0 f s u)))) (w1 := w) dX11_doInputsFit_15 zc_X11_342 rfl (Nat.le_of_ble_eq_true rfl) rfl (c_X11_pick 0 f s u) ?_
  refine zx_st (st1 := [zI (pk 0 f s u)]) rfl ?_
  refine zx_istore (i := 6) dX11_doInputsFit_18 (by decide) rfl ?_
  refine zx_L (L1 := [some (zR o), some (zR md), some (zI f), some (zI s), some (zI u), some (zI 0), some (zI (pk 0 f s u)), none]) rfl ?_
  refine zx_pc (pc1 := 20) rfl ?_
  refine zx_aload_n (i := 1) dX11_doInputsFit_20 rfl rfl ?_
  refine zx_iload (i := 5) dX11_doInputsFit_21 rfl ?_
  refine zx_iv (b := md) (As := [zI 0]) (st := []) (v := (some (zI (zB (0 ≤ (0 : Int) ∧ (0 : Int) < 3 ∧ zand (zshr mr.2.2.1 (0 : Int)) 1 = 1))))) (w1 := w) dX11_doInputsFit_23 zc_X11_339 hmd rfl rfl rfl (Nat.le_of_ble_eq_true rfl) rfl (c_X5_isInput hmd 0) ?_
  refine zx_st (st1 := [zI (zB (0 ≤ (0 : Int) ∧ (0 : Int) < 3 ∧ zand (zshr mr.2.2.1 (0 : Int)) 1 = 1))]) rfl ?_
  refine zx_if_eq (tgt := 65) dX11_doInputsFit_26 (by decide) (fun h26 => ?_) (fun h26 => ?_)
  · refine zx_iload (i := 6) dX11_doInputsFit_65 rfl ?_
    refine zx_if_ne (tgt := 74) dX11_doInputsFit_67 (by decide) (fun h67 => ?_) (fun h67 => ?_)
    · refine zx_iconst (v := 0) dX11_doInputsFit_74 rfl (z32_lit (by decide) (by decide)) ?_
      refine zx_istore (i := 7) dX11_doInputsFit_75 (by decide) rfl ?_
      refine zx_L (L1 := [some (zR o), some (zR md), some (zI f), some (zI s), some (zI u), some (zI 0), some (zI (pk 0 f s u)), some (zI 0)]) rfl ?_
      refine zx_iload (i := 7) dX11_doInputsFit_77 rfl ?_
      refine zx_if_ne (tgt := 84) dX11_doInputsFit_79 (by decide) (fun h79 => absurd h79 (by decide)) (fun h79 => ?_)
      refine zx_iconst (v := 0) dX11_doInputsFit_82 rfl (z32_lit (by decide) (by decide)) ?_
      refine zx_zret dX11_doInputsFit_83 rfl (by first | exact Or.inl rfl | exact Or.inr rfl | exact zB_or | assumption) ?_
      exfalso
      omega
    · refine zx_iconst (v := 1) dX11_doInputsFit_70 rfl (z32_lit (by decide) (by decide)) ?_
      refine zx_goto (tgt := 75) dX11_doInputsFit_71 (by decide) ?_
      refine zx_istore (i := 7) dX11_doInputsFit_75 (by decide) rfl ?_
      refine zx_L (L1 := [some (zR o), some (zR md), some (zI f), some (zI s), some (zI u), some (zI 0), some (zI (pk 0 f s u)), some (zI 1)]) rfl ?_
      refine zx_iload (i := 7) dX11_doInputsFit_77 rfl ?_
      refine zx_if_ne (tgt := 84) dX11_doInputsFit_79 (by decide) (fun h79 => ?_) (fun h79 => absurd (by decide) h79)
      refine zx_iinc (i := 5) (v := 1) dX11_doInputsFit_84 rfl (by decide +kernel) (by decide) rfl ?_
      refine zx_L (L1 := [some (zR o), some (zR md), some (zI f), some (zI s), some (zI u), some (zI 1), some (zI (pk 0 f s u)), some (zI 1)]) rfl ?_
      refine zx_pc (pc1 := 87) rfl ?_
      refine zx_goto (tgt := 3) dX11_doInputsFit_87 (by decide) ?_
      refine zx_iload (i := 5) dX11_doInputsFit_3 rfl ?_
      refine zx_iconst (v := 3) dX11_doInputsFit_5 rfl (z32_lit (by decide) (by decide)) ?_
      refine zx_icmp_ge (tgt := 90) dX11_doInputsFit_6 (by decide) (fun h6 => absurd h6 (by decide)) (fun h6 => ?_)
      refine zx_iload (i := 5) dX11_doInputsFit_9 rfl ?_
      refine zx_iload_n (i := 2) dX11_doInputsFit_11 rfl rfl ?_
      refine zx_iload_n (i := 3) dX11_doInputsFit_12 rfl rfl ?_
      refine zx_iload (i := 4) dX11_doInputsFit_13 rfl ?_
      refine zx_is (As := [zI 1, zI f, zI s, zI u]) (st := []) (v := (some (zI (pk 1 f s u)))) (w1 := w) dX11_doInputsFit_15 zc_X11_342 rfl (Nat.le_of_ble_eq_true rfl) rfl (c_X11_pick 1 f s u) ?_
      refine zx_st (st1 := [zI (pk 1 f s u)]) rfl ?_
      refine zx_istore (i := 6) dX11_doInputsFit_18 (by decide) rfl ?_
      refine zx_L (L1 := [some (zR o), some (zR md), some (zI f), some (zI s), some (zI u), some (zI 1), some (zI (pk 1 f s u)), some (zI 1)]) rfl ?_
      refine zx_aload_n (i := 1) dX11_doInputsFit_20 rfl rfl ?_
      refine zx_iload (i := 5) dX11_doInputsFit_21 rfl ?_
      refine zx_pc (pc1 := 23) rfl ?_
      refine zx_iv (b := md) (As := [zI 1]) (st := []) (v := (some (zI (zB (0 ≤ (1 : Int) ∧ (1 : Int) < 3 ∧ zand (zshr mr.2.2.1 (1 : Int)) 1 = 1))))) (w1 := w) dX11_doInputsFit_23 zc_X11_339 hmd rfl rfl rfl (Nat.le_of_ble_eq_true rfl) rfl (c_X5_isInput hmd 1) ?_
      refine zx_st (st1 := [zI (zB (0 ≤ (1 : Int) ∧ (1 : Int) < 3 ∧ zand (zshr mr.2.2.1 (1 : Int)) 1 = 1))]) rfl ?_
      refine zx_if_eq (tgt := 65) dX11_doInputsFit_26 (by decide) (fun h26_1 => ?_) (fun h26_1 => ?_)
      · refine zx_iload (i := 6) dX11_doInputsFit_65 rfl ?_
        refine zx_if_ne (tgt := 74) dX11_doInputsFit_67 (by decide) (fun h67_2 => ?_) (fun h67_2 => ?_)
        · refine zx_iconst (v := 0) dX11_doInputsFit_74 rfl (z32_lit (by decide) (by decide)) ?_
          refine zx_istore (i := 7) dX11_doInputsFit_75 (by decide) rfl ?_
          refine zx_L (L1 := [some (zR o), some (zR md), some (zI f), some (zI s), some (zI u), some (zI 1), some (zI (pk 1 f s u)), some (zI 0)]) rfl ?_
          refine zx_iload (i := 7) dX11_doInputsFit_77 rfl ?_
          refine zx_if_ne (tgt := 84) dX11_doInputsFit_79 (by decide) (fun h79 => absurd h79 (by decide)) (fun h79 => ?_)
          refine zx_iconst (v := 0) dX11_doInputsFit_82 rfl (z32_lit (by decide) (by decide)) ?_
          refine zx_zret dX11_doInputsFit_83 rfl (by first | exact Or.inl rfl | exact Or.inr rfl | exact zB_or | assumption) ?_
          exfalso
          omega
        · refine zx_iconst (v := 1) dX11_doInputsFit_70 rfl (z32_lit (by decide) (by decide)) ?_
          refine zx_goto (tgt := 75) dX11_doInputsFit_71 (by decide) ?_
          refine zx_istore (i := 7) dX11_doInputsFit_75 (by decide) rfl ?_
          refine zx_L (L1 := [some (zR o), some (zR md), some (zI f), some (zI s), some (zI u), some (zI 1), some (zI (pk 1 f s u)), some (zI 1)]) rfl ?_
          refine zx_iload (i := 7) dX11_doInputsFit_77 rfl ?_
          refine zx_if_ne (tgt := 84) dX11_doInputsFit_79 (by decide) (fun h79 => ?_) (fun h79 => absurd (by decide) h79)
          refine zx_iinc (i := 5) (v := 2) dX11_doInputsFit_84 rfl (by decide +kernel) (by decide) rfl ?_
          refine zx_L (L1 := [some (zR o), some (zR md), some (zI f), some (zI s), some (zI u), some (zI 2), some (zI (pk 1 f s u)), some (zI 1)]) rfl ?_
          refine zx_goto (tgt := 3) dX11_doInputsFit_87 (by decide) ?_
          refine zx_iload (i := 5) dX11_doInputsFit_3 rfl ?_
          refine zx_pc (pc1 := 5) rfl ?_
          refine zx_iconst (v := 3) dX11_doInputsFit_5 rfl (z32_lit (by decide) (by decide)) ?_
          refine zx_icmp_ge (tgt := 90) dX11_doInputsFit_6 (by decide) (fun h6 => absurd h6 (by decide)) (fun h6 => ?_)
          refine zx_iload (i := 5) dX11_doInputsFit_9 rfl ?_
          refine zx_iload_n (i := 2) dX11_doInputsFit_11 rfl rfl ?_
          refine zx_iload_n (i := 3) dX11_doInputsFit_12 rfl rfl ?_
          refine zx_iload (i := 4) dX11_doInputsFit_13 rfl ?_
          refine zx_is (As := [zI 2, zI f, zI s, zI u]) (st := []) (v := (some (zI (pk 2 f s u)))) (w1 := w) dX11_doInputsFit_15 zc_X11_342 rfl (Nat.le_of_ble_eq_true rfl) rfl (c_X11_pick 2 f s u) ?_
          refine zx_st (st1 := [zI (pk 2 f s u)]) rfl ?_
          refine zx_istore (i := 6) dX11_doInputsFit_18 (by decide) rfl ?_
          refine zx_L (L1 := [some (zR o), some (zR md), some (zI f), some (zI s), some (zI u), some (zI 2), some (zI (pk 2 f s u)), some (zI 1)]) rfl ?_
          refine zx_aload_n (i := 1) dX11_doInputsFit_20 rfl rfl ?_
          refine zx_iload (i := 5) dX11_doInputsFit_21 rfl ?_
          refine zx_iv (b := md) (As := [zI 2]) (st := []) (v := (some (zI (zB (0 ≤ (2 : Int) ∧ (2 : Int) < 3 ∧ zand (zshr mr.2.2.1 (2 : Int)) 1 = 1))))) (w1 := w) dX11_doInputsFit_23 zc_X11_339 hmd rfl rfl rfl (Nat.le_of_ble_eq_true rfl) rfl (c_X5_isInput hmd 2) ?_
          refine zx_st (st1 := [zI (zB (0 ≤ (2 : Int) ∧ (2 : Int) < 3 ∧ zand (zshr mr.2.2.1 (2 : Int)) 1 = 1))]) rfl ?_
          refine zx_if_eq (tgt := 65) dX11_doInputsFit_26 (by decide) (fun h26_3 => ?_) (fun h26_3 => ?_)
          · refine zx_pc (pc1 := 65) rfl ?_
            refine zx_iload (i := 6) dX11_doInputsFit_65 rfl ?_
            refine zx_if_ne (tgt := 74) dX11_doInputsFit_67 (by decide) (fun h67_4 => ?_) (fun h67_4 => ?_)
            · refine zx_iconst (v := 0) dX11_doInputsFit_74 rfl (z32_lit (by decide) (by decide)) ?_
              refine zx_istore (i := 7) dX11_doInputsFit_75 (by decide) rfl ?_
              refine zx_L (L1 := [some (zR o), some (zR md), some (zI f), some (zI s), some (zI u), some (zI 2), some (zI (pk 2 f s u)), some (zI 0)]) rfl ?_
              refine zx_iload (i := 7) dX11_doInputsFit_77 rfl ?_
              refine zx_if_ne (tgt := 84) dX11_doInputsFit_79 (by decide) (fun h79 => absurd h79 (by decide)) (fun h79 => ?_)
              refine zx_iconst (v := 0) dX11_doInputsFit_82 rfl (z32_lit (by decide) (by decide)) ?_
              refine zx_zret dX11_doInputsFit_83 rfl (by first | exact Or.inl rfl | exact Or.inr rfl | exact zB_or | assumption) ?_
              exfalso
              omega
            · refine zx_iconst (v := 1) dX11_doInputsFit_70 rfl (z32_lit (by decide) (by decide)) ?_
              refine zx_goto (tgt := 75) dX11_doInputsFit_71 (by decide) ?_
              refine zx_istore (i := 7) dX11_doInputsFit_75 (by decide) rfl ?_
              refine zx_L (L1 := [some (zR o), some (zR md), some (zI f), some (zI s), some (zI u), some (zI 2), some (zI (pk 2 f s u)), some (zI 1)]) rfl ?_
              refine zx_iload (i := 7) dX11_doInputsFit_77 rfl ?_
              refine zx_if_ne (tgt := 84) dX11_doInputsFit_79 (by decide) (fun h79 => ?_) (fun h79 => absurd (by decide) h79)
              refine zx_iinc (i := 5) (v := 3) dX11_doInputsFit_84 rfl (by decide +kernel) (by decide) rfl ?_
              refine zx_L (L1 := [some (zR o), some (zR md), some (zI f), some (zI s), some (zI u), some (zI 3), some (zI (pk 2 f s u)), some (zI 1)]) rfl ?_
              refine zx_goto (tgt := 3) dX11_doInputsFit_87 (by decide) ?_
              refine zx_iload (i := 5) dX11_doInputsFit_3 rfl ?_
              refine zx_iconst (v := 3) dX11_doInputsFit_5 rfl (z32_lit (by decide) (by decide)) ?_
              refine zx_icmp_ge (tgt := 90) dX11_doInputsFit_6 (by decide) (fun h6 => ?_) (fun h6 => absurd (by decide) h6)
              refine zx_pc (pc1 := 90) rfl ?_
              refine zx_iconst (v := 1) dX11_doInputsFit_90 rfl (z32_lit (by decide) (by decide)) ?_
              refine zx_zret dX11_doInputsFit_91 rfl (by first | exact Or.inl rfl | exact Or.inr rfl | exact zB_or | assumption) ?_
              exact zr_v rfl rfl
          · refine zx_pc (pc1 := 29) rfl ?_
            refine zx_aload_n (i := 0) dX11_doInputsFit_29 rfl rfl ?_
            refine zx_getfield dX11_doInputsFit_30 zf_X11_10 ho rfl ?_
            refine zx_aload_n (i := 0) dX11_doInputsFit_33 rfl rfl ?_
            refine zx_getfield dX11_doInputsFit_34 zf_X11_10 ho rfl ?_
            refine zx_iload (i := 6) dX11_doInputsFit_37 rfl ?_
            refine zx_iv (b := t) (As := [zI (pk 2 f s u)]) (st := [zR t]) (v := (some (zI (tg N (pk 2 f s u) 0)))) (w1 := w) dX11_doInputsFit_39 zc_X11_110 hT.1 rfl rfl rfl (Nat.le_of_ble_eq_true rfl) rfl (c_X10_headOf hT (pk 2 f s u)) ?_
            refine zx_st (st1 := [zI (tg N (pk 2 f s u) 0), zR t]) rfl ?_
            refine zx_iv (b := t) (As := [zI (tg N (pk 2 f s u) 0)]) (st := []) (v := (some (zI (tg C (tg N (pk 2 f s u) 0) 0)))) (w1 := w) dX11_doInputsFit_42 zc_X11_173 hT.1 rfl rfl rfl (Nat.le_of_ble_eq_true rfl) rfl (c_X10_typeOfHead hT (tg N (pk 2 f s u) 0)) ?_
            refine zx_st (st1 := [zI (tg C (tg N (pk 2 f s u) 0) 0)]) rfl ?_
            refine zx_aload_n (i := 1) dX11_doInputsFit_45 rfl rfl ?_
            refine zx_getfield dX11_doInputsFit_46 zf_X11_349 hmd rfl ?_
            refine zx_iload (i := 5) dX11_doInputsFit_49 rfl ?_
            refine zx_iv (b := mr.1) (As := [zI 2]) (st := [zI (tg C (tg N (pk 2 f s u) 0) 0)]) (v := (some (zI (tg yr.2.1 2 0)))) (w1 := w) dX11_doInputsFit_51 zc_X11_191 hpr.1 rfl rfl rfl (Nat.le_of_ble_eq_true rfl) rfl (c_X6_typeAt hpr.1 hpr.2.1.1 hpr.2.1.2 2) ?_
            refine zx_st (st1 := [zI (tg yr.2.1 2 0), zI (tg C (tg N (pk 2 f s u) 0) 0)]) rfl ?_
            refine zx_icmp_ne (tgt := 61) dX11_doInputsFit_54 (by decide) (fun h54 => ?_) (fun h54 => ?_)
            · refine zx_pc (pc1 := 61) rfl ?_
              refine zx_iconst (v := 0) dX11_doInputsFit_61 rfl (z32_lit (by decide) (by decide)) ?_
              refine zx_goto (tgt := 75) dX11_doInputsFit_62 (by decide) ?_
              refine zx_istore (i := 7) dX11_doInputsFit_75 (by decide) rfl ?_
              refine zx_L (L1 := [some (zR o), some (zR md), some (zI f), some (zI s), some (zI u), some (zI 2), some (zI (pk 2 f s u)), some (zI 0)]) rfl ?_
              refine zx_iload (i := 7) dX11_doInputsFit_77 rfl ?_
              refine zx_if_ne (tgt := 84) dX11_doInputsFit_79 (by decide) (fun h79 => absurd h79 (by decide)) (fun h79 => ?_)
              refine zx_iconst (v := 0) dX11_doInputsFit_82 rfl (z32_lit (by decide) (by decide)) ?_
              refine zx_zret dX11_doInputsFit_83 rfl (by first | exact Or.inl rfl | exact Or.inr rfl | exact zB_or | assumption) ?_
              exfalso
              omega
            · refine zx_pc (pc1 := 57) rfl ?_
              refine zx_iconst (v := 1) dX11_doInputsFit_57 rfl (z32_lit (by decide) (by decide)) ?_
              refine zx_goto (tgt := 75) dX11_doInputsFit_58 (by decide) ?_
              refine zx_istore (i := 7) dX11_doInputsFit_75 (by decide) rfl ?_
              refine zx_L (L1 := [some (zR o), some (zR md), some (zI f), some (zI s), some (zI u), some (zI 2), some (zI (pk 2 f s u)), some (zI 1)]) rfl ?_
              refine zx_iload (i := 7) dX11_doInputsFit_77 rfl ?_
              refine zx_if_ne (tgt := 84) dX11_doInputsFit_79 (by decide) (fun h79 => ?_) (fun h79 => absurd (by decide) h79)
              refine zx_iinc (i := 5) (v := 3) dX11_doInputsFit_84 rfl (by decide +kernel) (by decide) rfl ?_
              refine zx_L (L1 := [some (zR o), some (zR md), some (zI f), some (zI s), some (zI u), some (zI 3), some (zI (pk 2 f s u)), some (zI 1)]) rfl ?_
              refine zx_goto (tgt := 3) dX11_doInputsFit_87 (by decide) ?_
              refine zx_iload (i := 5) dX11_doInputsFit_3 rfl ?_
              refine zx_iconst (v := 3) dX11_doInputsFit_5 rfl (z32_lit (by decide) (by decide)) ?_
              refine zx_icmp_ge (tgt := 90) dX11_doInputsFit_6 (by decide) (fun h6 => ?_) (fun h6 => absurd (by decide) h6)
              refine zx_iconst (v := 1) dX11_doInputsFit_90 rfl (z32_lit (by decide) (by decide)) ?_
              refine zx_zret dX11_doInputsFit_91 rfl (by first | exact Or.inl rfl | exact Or.inr rfl | exact zB_or | assumption) ?_
              exact zr_v rfl rfl
      · refine zx_aload_n (i := 0) dX11_doInputsFit_29 rfl rfl ?_
        refine zx_getfield dX11_doInputsFit_30 zf_X11_10 ho rfl ?_
        refine zx_aload_n (i := 0) dX11_doInputsFit_33 rfl rfl ?_
        refine zx_getfield dX11_doInputsFit_34 zf_X11_10 ho rfl ?_
        refine zx_iload (i := 6) dX11_doInputsFit_37 rfl ?_
        refine zx_iv (b := t) (As := [zI (pk 1 f s u)]) (st := [zR t]) (v := (some (zI (tg N (pk 1 f s u) 0)))) (w1 := w) dX11_doInputsFit_39 zc_X11_110 hT.1 rfl rfl rfl (Nat.le_of_ble_eq_true rfl) rfl (c_X10_headOf hT (pk 1 f s u)) ?_
        refine zx_st (st1 := [zI (tg N (pk 1 f s u) 0), zR t]) rfl ?_
        refine zx_iv (b := t) (As := [zI (tg N (pk 1 f s u) 0)]) (st := []) (v := (some (zI (tg C (tg N (pk 1 f s u) 0) 0)))) (w1 := w) dX11_doInputsFit_42 zc_X11_173 hT.1 rfl rfl rfl (Nat.le_of_ble_eq_true rfl) rfl (c_X10_typeOfHead hT (tg N (pk 1 f s u) 0)) ?_
        refine zx_st (st1 := [zI (tg C (tg N (pk 1 f s u) 0) 0)]) rfl ?_
        refine zx_aload_n (i := 1) dX11_doInputsFit_45 rfl rfl ?_
        refine zx_getfield dX11_doInputsFit_46 zf_X11_349 hmd rfl ?_
        refine zx_iload (i := 5) dX11_doInputsFit_49 rfl ?_
        refine zx_pc (pc1 := 51) rfl ?_
        refine zx_iv (b := mr.1) (As := [zI 1]) (st := [zI (tg C (tg N (pk 1 f s u) 0) 0)]) (v := (some (zI (tg yr.2.1 1 0)))) (w1 := w) dX11_doInputsFit_51 zc_X11_191 hpr.1 rfl rfl rfl (Nat.le_of_ble_eq_true rfl) rfl (c_X6_typeAt hpr.1 hpr.2.1.1 hpr.2.1.2 1) ?_
        refine zx_st (st1 := [zI (tg yr.2.1 1 0), zI (tg C (tg N (pk 1 f s u) 0) 0)]) rfl ?_
        refine zx_icmp_ne (tgt := 61) dX11_doInputsFit_54 (by decide) (fun h54 => ?_) (fun h54 => ?_)
        · refine zx_iconst (v := 0) dX11_doInputsFit_61 rfl (z32_lit (by decide) (by decide)) ?_
          refine zx_goto (tgt := 75) dX11_doInputsFit_62 (by decide) ?_
          refine zx_istore (i := 7) dX11_doInputsFit_75 (by decide) rfl ?_
          refine zx_L (L1 := [some (zR o), some (zR md), some (zI f), some (zI s), some (zI u), some (zI 1), some (zI (pk 1 f s u)), some (zI 0)]) rfl ?_
          refine zx_iload (i := 7) dX11_doInputsFit_77 rfl ?_
          refine zx_if_ne (tgt := 84) dX11_doInputsFit_79 (by decide) (fun h79 => absurd h79 (by decide)) (fun h79 => ?_)
          refine zx_iconst (v := 0) dX11_doInputsFit_82 rfl (z32_lit (by decide) (by decide)) ?_
          refine zx_zret dX11_doInputsFit_83 rfl (by first | exact Or.inl rfl | exact Or.inr rfl | exact zB_or | assumption) ?_
          exfalso
          omega
        · refine zx_iconst (v := 1) dX11_doInputsFit_57 rfl (z32_lit (by decide) (by decide)) ?_
          refine zx_goto (tgt := 75) dX11_doInputsFit_58 (by decide) ?_
          refine zx_istore (i := 7) dX11_doInputsFit_75 (by decide) rfl ?_
          refine zx_L (L1 := [some (zR o), some (zR md), some (zI f), some (zI s), some (zI u), some (zI 1), some (zI (pk 1 f s u)), some (zI 1)]) rfl ?_
          refine zx_iload (i := 7) dX11_doInputsFit_77 rfl ?_
          refine zx_if_ne (tgt := 84) dX11_doInputsFit_79 (by decide) (fun h79 => ?_) (fun h79 => absurd (by decide) h79)
          refine zx_iinc (i := 5) (v := 2) dX11_doInputsFit_84 rfl (by decide +kernel) (by decide) rfl ?_
          refine zx_L (L1 := [some (zR o), some (zR md), some (zI f), some (zI s), some (zI u), some (zI 2), some (zI (pk 1 f s u)), some (zI 1)]) rfl ?_
          refine zx_goto (tgt := 3) dX11_doInputsFit_87 (by decide) ?_
          refine zx_iload (i := 5) dX11_doInputsFit_3 rfl ?_
          refine zx_iconst (v := 3) dX11_doInputsFit_5 rfl (z32_lit (by decide) (by decide)) ?_
          refine zx_icmp_ge (tgt := 90) dX11_doInputsFit_6 (by decide) (fun h6 => absurd h6 (by decide)) (fun h6 => ?_)
          refine zx_pc (pc1 := 9) rfl ?_
          refine zx_iload (i := 5) dX11_doInputsFit_9 rfl ?_
          refine zx_iload_n (i := 2) dX11_doInputsFit_11 rfl rfl ?_
          refine zx_iload_n (i := 3) dX11_doInputsFit_12 rfl rfl ?_
          refine zx_iload (i := 4) dX11_doInputsFit_13 rfl ?_
          refine zx_is (As := [zI 2, zI f, zI s, zI u]) (st := []) (v := (some (zI (pk 2 f s u)))) (w1 := w) dX11_doInputsFit_15 zc_X11_342 rfl (Nat.le_of_ble_eq_true rfl) rfl (c_X11_pick 2 f s u) ?_
          refine zx_st (st1 := [zI (pk 2 f s u)]) rfl ?_
          refine zx_istore (i := 6) dX11_doInputsFit_18 (by decide) rfl ?_
          refine zx_L (L1 := [some (zR o), some (zR md), some (zI f), some (zI s), some (zI u), some (zI 2), some (zI (pk 2 f s u)), some (zI 1)]) rfl ?_
          refine zx_aload_n (i := 1) dX11_doInputsFit_20 rfl rfl ?_
          refine zx_iload (i := 5) dX11_doInputsFit_21 rfl ?_
          refine zx_iv (b := md) (As := [zI 2]) (st := []) (v := (some (zI (zB (0 ≤ (2 : Int) ∧ (2 : Int) < 3 ∧ zand (zshr mr.2.2.1 (2 : Int)) 1 = 1))))) (w1 := w) dX11_doInputsFit_23 zc_X11_339 hmd rfl rfl rfl (Nat.le_of_ble_eq_true rfl) rfl (c_X5_isInput hmd 2) ?_
          refine zx_st (st1 := [zI (zB (0 ≤ (2 : Int) ∧ (2 : Int) < 3 ∧ zand (zshr mr.2.2.1 (2 : Int)) 1 = 1))]) rfl ?_
          refine zx_if_eq (tgt := 65) dX11_doInputsFit_26 (by decide) (fun h26_5 => ?_) (fun h26_5 => ?_)
          · refine zx_iload (i := 6) dX11_doInputsFit_65 rfl ?_
            refine zx_if_ne (tgt := 74) dX11_doInputsFit_67 (by decide) (fun h67_6 => ?_) (fun h67_6 => ?_)
            · refine zx_pc (pc1 := 74) rfl ?_
              refine zx_iconst (v := 0) dX11_doInputsFit_74 rfl (z32_lit (by decide) (by decide)) ?_
              refine zx_istore (i := 7) dX11_doInputsFit_75 (by decide) rfl ?_
              refine zx_L (L1 := [some (zR o), some (zR md), some (zI f), some (zI s), some (zI u), some (zI 2), some (zI (pk 2 f s u)), some (zI 0)]) rfl ?_
              refine zx_iload (i := 7) dX11_doInputsFit_77 rfl ?_
              refine zx_if_ne (tgt := 84) dX11_doInputsFit_79 (by decide) (fun h79 => absurd h79 (by decide)) (fun h79 => ?_)
              refine zx_iconst (v := 0) dX11_doInputsFit_82 rfl (z32_lit (by decide) (by decide)) ?_
              refine zx_zret dX11_doInputsFit_83 rfl (by first | exact Or.inl rfl | exact Or.inr rfl | exact zB_or | assumption) ?_
              exfalso
              omega
            · refine zx_pc (pc1 := 70) rfl ?_
              refine zx_iconst (v := 1) dX11_doInputsFit_70 rfl (z32_lit (by decide) (by decide)) ?_
              refine zx_goto (tgt := 75) dX11_doInputsFit_71 (by decide) ?_
              refine zx_istore (i := 7) dX11_doInputsFit_75 (by decide) rfl ?_
              refine zx_L (L1 := [some (zR o), some (zR md), some (zI f), some (zI s), some (zI u), some (zI 2), some (zI (pk 2 f s u)), some (zI 1)]) rfl ?_
              refine zx_iload (i := 7) dX11_doInputsFit_77 rfl ?_
              refine zx_if_ne (tgt := 84) dX11_doInputsFit_79 (by decide) (fun h79 => ?_) (fun h79 => absurd (by decide) h79)
              refine zx_iinc (i := 5) (v := 3) dX11_doInputsFit_84 rfl (by decide +kernel) (by decide) rfl ?_
              refine zx_L (L1 := [some (zR o), some (zR md), some (zI f), some (zI s), some (zI u), some (zI 3), some (zI (pk 2 f s u)), some (zI 1)]) rfl ?_
              refine zx_goto (tgt := 3) dX11_doInputsFit_87 (by decide) ?_
              refine zx_iload (i := 5) dX11_doInputsFit_3 rfl ?_
              refine zx_iconst (v := 3) dX11_doInputsFit_5 rfl (z32_lit (by decide) (by decide)) ?_
              refine zx_icmp_ge (tgt := 90) dX11_doInputsFit_6 (by decide) (fun h6 => ?_) (fun h6 => absurd (by decide) h6)
              refine zx_iconst (v := 1) dX11_doInputsFit_90 rfl (z32_lit (by decide) (by decide)) ?_
              refine zx_zret dX11_doInputsFit_91 rfl (by first | exact Or.inl rfl | exact Or.inr rfl | exact zB_or | assumption) ?_
              exact zr_v rfl rfl
          · refine zx_aload_n (i := 0) dX11_doInputsFit_29 rfl rfl ?_
            refine zx_getfield dX11_doInputsFit_30 zf_X11_10 ho rfl ?_
            refine zx_pc (pc1 := 33) rfl ?_
            refine zx_aload_n (i := 0) dX11_doInputsFit_33 rfl rfl ?_
            refine zx_getfield dX11_doInputsFit_34 zf_X11_10 ho rfl ?_
            refine zx_iload (i := 6) dX11_doInputsFit_37 rfl ?_
            refine zx_iv (b := t) (As := [zI (pk 2 f s u)]) (st := [zR t]) (v := (some (zI (tg N (pk 2 f s u) 0)))) (w1 := w) dX11_doInputsFit_39 zc_X11_110 hT.1 rfl rfl rfl (Nat.le_of_ble_eq_true rfl) rfl (c_X10_headOf hT (pk 2 f s u)) ?_
            refine zx_st (st1 := [zI (tg N (pk 2 f s u) 0), zR t]) rfl ?_
            refine zx_iv (b := t) (As := [zI (tg N (pk 2 f s u) 0)]) (st := []) (v := (some (zI (tg C (tg N (pk 2 f s u) 0) 0)))) (w1 := w) dX11_doInputsFit_42 zc_X11_173 hT.1 rfl rfl rfl (Nat.le_of_ble_eq_true rfl) rfl (c_X10_typeOfHead hT (tg N (pk 2 f s u) 0)) ?_
            refine zx_st (st1 := [zI (tg C (tg N (pk 2 f s u) 0) 0)]) rfl ?_
            refine zx_aload_n (i := 1) dX11_doInputsFit_45 rfl rfl ?_
            refine zx_getfield dX11_doInputsFit_46 zf_X11_349 hmd rfl ?_
            refine zx_iload (i := 5) dX11_doInputsFit_49 rfl ?_
            refine zx_iv (b := mr.1) (As := [zI 2]) (st := [zI (tg C (tg N (pk 2 f s u) 0) 0)]) (v := (some (zI (tg yr.2.1 2 0)))) (w1 := w) dX11_doInputsFit_51 zc_X11_191 hpr.1 rfl rfl rfl (Nat.le_of_ble_eq_true rfl) rfl (c_X6_typeAt hpr.1 hpr.2.1.1 hpr.2.1.2 2) ?_
            refine zx_st (st1 := [zI (tg yr.2.1 2 0), zI (tg C (tg N (pk 2 f s u) 0) 0)]) rfl ?_
            refine zx_icmp_ne (tgt := 61) dX11_doInputsFit_54 (by decide) (fun h54_7 => ?_) (fun h54_7 => ?_)
            · refine zx_iconst (v := 0) dX11_doInputsFit_61 rfl (z32_lit (by decide) (by decide)) ?_
              refine zx_goto (tgt := 75) dX11_doInputsFit_62 (by decide) ?_
              refine zx_pc (pc1 := 75) rfl ?_
              refine zx_istore (i := 7) dX11_doInputsFit_75 (by decide) rfl ?_
              refine zx_L (L1 := [some (zR o), some (zR md), some (zI f), some (zI s), some (zI u), some (zI 2), some (zI (pk 2 f s u)), some (zI 0)]) rfl ?_
              refine zx_iload (i := 7) dX11_doInputsFit_77 rfl ?_
              refine zx_if_ne (tgt := 84) dX11_doInputsFit_79 (by decide) (fun h79 => absurd h79 (by decide)) (fun h79 => ?_)
              refine zx_iconst (v := 0) dX11_doInputsFit_82 rfl (z32_lit (by decide) (by decide)) ?_
              refine zx_zret dX11_doInputsFit_83 rfl (by first | exact Or.inl rfl | exact Or.inr rfl | exact zB_or | assumption) ?_
              exfalso
              omega
            · refine zx_iconst (v := 1) dX11_doInputsFit_57 rfl (z32_lit (by decide) (by decide)) ?_
              refine zx_goto (tgt := 75) dX11_doInputsFit_58 (by decide) ?_
              refine zx_pc (pc1 := 75) rfl ?_
              refine zx_istore (i := 7) dX11_doInputsFit_75 (by decide) rfl ?_
              refine zx_L (L1 := [some (zR o), some (zR md), some (zI f), some (zI s), some (zI u), some (zI 2), some (zI (pk 2 f s u)), some (zI 1)]) rfl ?_
              refine zx_iload (i := 7) dX11_doInputsFit_77 rfl ?_
              refine zx_if_ne (tgt := 84) dX11_doInputsFit_79 (by decide) (fun h79 => ?_) (fun h79 => absurd (by decide) h79)
              refine zx_iinc (i := 5) (v := 3) dX11_doInputsFit_84 rfl (by decide +kernel) (by decide) rfl ?_
              refine zx_L (L1 := [some (zR o), some (zR md), some (zI f), some (zI s), some (zI u), some (zI 3), some (zI (pk 2 f s u)), some (zI 1)]) rfl ?_
              refine zx_goto (tgt := 3) dX11_doInputsFit_87 (by decide) ?_
              refine zx_iload (i := 5) dX11_doInputsFit_3 rfl ?_
              refine zx_iconst (v := 3) dX11_doInputsFit_5 rfl (z32_lit (by decide) (by decide)) ?_
              refine zx_icmp_ge (tgt := 90) dX11_doInputsFit_6 (by decide) (fun h6 => ?_) (fun h6 => absurd (by decide) h6)
              refine zx_iconst (v := 1) dX11_doInputsFit_90 rfl (z32_lit (by decide) (by decide)) ?_
              refine zx_zret dX11_doInputsFit_91 rfl (by first | exact Or.inl rfl | exact Or.inr rfl | exact zB_or | assumption) ?_
              exact zr_v rfl rfl
  · refine zx_aload_n (i := 0) dX11_doInputsFit_29 rfl rfl ?_
    refine zx_getfield dX11_doInputsFit_30 zf_X11_10 ho rfl ?_
    refine zx_aload_n (i := 0) dX11_doInputsFit_33 rfl rfl ?_
    refine zx_getfield dX11_doInputsFit_34 zf_X11_10 ho rfl ?_
    refine zx_iload (i := 6) dX11_doInputsFit_37 rfl ?_
    refine zx_iv (b := t) (As := [zI (pk 0 f s u)]) (st := [zR t]) (v := (some (zI (tg N (pk 0 f s u) 0)))) (w1 := w) dX11_doInputsFit_39 zc_X11_110 hT.1 rfl rfl rfl (Nat.le_of_ble_eq_true rfl) rfl (c_X10_headOf hT (pk 0 f s u)) ?_
    refine zx_st (st1 := [zI (tg N (pk 0 f s u) 0), zR t]) rfl ?_
    refine zx_iv (b := t) (As := [zI (tg N (pk 0 f s u) 0)]) (st := []) (v := (some (zI (tg C (tg N (pk 0 f s u) 0) 0)))) (w1 := w) dX11_doInputsFit_42 zc_X11_173 hT.1 rfl rfl rfl (Nat.le_of_ble_eq_true rfl) rfl (c_X10_typeOfHead hT (tg N (pk 0 f s u) 0)) ?_
    refine zx_st (st1 := [zI (tg C (tg N (pk 0 f s u) 0) 0)]) rfl ?_
    refine zx_aload_n (i := 1) dX11_doInputsFit_45 rfl rfl ?_
    refine zx_pc (pc1 := 46) rfl ?_
    refine zx_getfield dX11_doInputsFit_46 zf_X11_349 hmd rfl ?_
    refine zx_iload (i := 5) dX11_doInputsFit_49 rfl ?_
    refine zx_iv (b := mr.1) (As := [zI 0]) (st := [zI (tg C (tg N (pk 0 f s u) 0) 0)]) (v := (some (zI (tg yr.2.1 0 0)))) (w1 := w) dX11_doInputsFit_51 zc_X11_191 hpr.1 rfl rfl rfl (Nat.le_of_ble_eq_true rfl) rfl (c_X6_typeAt hpr.1 hpr.2.1.1 hpr.2.1.2 0) ?_
    refine zx_st (st1 := [zI (tg yr.2.1 0 0), zI (tg C (tg N (pk 0 f s u) 0) 0)]) rfl ?_
    refine zx_icmp_ne (tgt := 61) dX11_doInputsFit_54 (by decide) (fun h54 => ?_) (fun h54 => ?_)
    · refine zx_iconst (v := 0) dX11_doInputsFit_61 rfl (z32_lit (by decide) (by decide)) ?_
      refine zx_goto (tgt := 75) dX11_doInputsFit_62 (by decide) ?_
      refine zx_istore (i := 7) dX11_doInputsFit_75 (by decide) rfl ?_
      refine zx_L (L1 := [some (zR o), some (zR md), some (zI f), some (zI s), some (zI u), some (zI 0), some (zI (pk 0 f s u)), some (zI 0)]) rfl ?_
      refine zx_iload (i := 7) dX11_doInputsFit_77 rfl ?_
      refine zx_if_ne (tgt := 84) dX11_doInputsFit_79 (by decide) (fun h79 => absurd h79 (by decide)) (fun h79 => ?_)
      refine zx_iconst (v := 0) dX11_doInputsFit_82 rfl (z32_lit (by decide) (by decide)) ?_
      refine zx_zret dX11_doInputsFit_83 rfl (by first | exact Or.inl rfl | exact Or.inr rfl | exact zB_or | assumption) ?_
      exfalso
      omega
    · refine zx_iconst (v := 1) dX11_doInputsFit_57 rfl (z32_lit (by decide) (by decide)) ?_
      refine zx_goto (tgt := 75) dX11_doInputsFit_58 (by decide) ?_
      refine zx_istore (i := 7) dX11_doInputsFit_75 (by decide) rfl ?_
      refine zx_L (L1 := [some (zR o), some (zR md), some (zI f), some (zI s), some (zI u), some (zI 0), some (zI (pk 0 f s u)), some (zI 1)]) rfl ?_
      refine zx_iload (i := 7) dX11_doInputsFit_77 rfl ?_
      refine zx_if_ne (tgt := 84) dX11_doInputsFit_79 (by decide) (fun h79 => ?_) (fun h79 => absurd (by decide) h79)
      refine zx_iinc (i := 5) (v := 1) dX11_doInputsFit_84 rfl (by decide +kernel) (by decide) rfl ?_
      refine zx_L (L1 := [some (zR o), some (zR md), some (zI f), some (zI s), some (zI u), some (zI 1), some (zI (pk 0 f s u)), some (zI 1)]) rfl ?_
      refine zx_goto (tgt := 3) dX11_doInputsFit_87 (by decide) ?_
      refine zx_iload (i := 5) dX11_doInputsFit_3 rfl ?_
      refine zx_pc (pc1 := 5) rfl ?_
      refine zx_iconst (v := 3) dX11_doInputsFit_5 rfl (z32_lit (by decide) (by decide)) ?_
      refine zx_icmp_ge (tgt := 90) dX11_doInputsFit_6 (by decide) (fun h6 => absurd h6 (by decide)) (fun h6 => ?_)
      refine zx_iload (i := 5) dX11_doInputsFit_9 rfl ?_
      refine zx_iload_n (i := 2) dX11_doInputsFit_11 rfl rfl ?_
      refine zx_iload_n (i := 3) dX11_doInputsFit_12 rfl rfl ?_
      refine zx_iload (i := 4) dX11_doInputsFit_13 rfl ?_
      refine zx_is (As := [zI 1, zI f, zI s, zI u]) (st := []) (v := (some (zI (pk 1 f s u)))) (w1 := w) dX11_doInputsFit_15 zc_X11_342 rfl (Nat.le_of_ble_eq_true rfl) rfl (c_X11_pick 1 f s u) ?_
      refine zx_st (st1 := [zI (pk 1 f s u)]) rfl ?_
      refine zx_istore (i := 6) dX11_doInputsFit_18 (by decide) rfl ?_
      refine zx_L (L1 := [some (zR o), some (zR md), some (zI f), some (zI s), some (zI u), some (zI 1), some (zI (pk 1 f s u)), some (zI 1)]) rfl ?_
      refine zx_aload_n (i := 1) dX11_doInputsFit_20 rfl rfl ?_
      refine zx_iload (i := 5) dX11_doInputsFit_21 rfl ?_
      refine zx_iv (b := md) (As := [zI 1]) (st := []) (v := (some (zI (zB (0 ≤ (1 : Int) ∧ (1 : Int) < 3 ∧ zand (zshr mr.2.2.1 (1 : Int)) 1 = 1))))) (w1 := w) dX11_doInputsFit_23 zc_X11_339 hmd rfl rfl rfl (Nat.le_of_ble_eq_true rfl) rfl (c_X5_isInput hmd 1) ?_
      refine zx_st (st1 := [zI (zB (0 ≤ (1 : Int) ∧ (1 : Int) < 3 ∧ zand (zshr mr.2.2.1 (1 : Int)) 1 = 1))]) rfl ?_
      refine zx_if_eq (tgt := 65) dX11_doInputsFit_26 (by decide) (fun h26_8 => ?_) (fun h26_8 => ?_)
      · refine zx_pc (pc1 := 65) rfl ?_
        refine zx_iload (i := 6) dX11_doInputsFit_65 rfl ?_
        refine zx_if_ne (tgt := 74) dX11_doInputsFit_67 (by decide) (fun h67 => ?_) (fun h67 => ?_)
        · refine zx_iconst (v := 0) dX11_doInputsFit_74 rfl (z32_lit (by decide) (by decide)) ?_
          refine zx_istore (i := 7) dX11_doInputsFit_75 (by decide) rfl ?_
          refine zx_L (L1 := [some (zR o), some (zR md), some (zI f), some (zI s), some (zI u), some (zI 1), some (zI (pk 1 f s u)), some (zI 0)]) rfl ?_
          refine zx_iload (i := 7) dX11_doInputsFit_77 rfl ?_
          refine zx_if_ne (tgt := 84) dX11_doInputsFit_79 (by decide) (fun h79 => absurd h79 (by decide)) (fun h79 => ?_)
          refine zx_iconst (v := 0) dX11_doInputsFit_82 rfl (z32_lit (by decide) (by decide)) ?_
          refine zx_zret dX11_doInputsFit_83 rfl (by first | exact Or.inl rfl | exact Or.inr rfl | exact zB_or | assumption) ?_
          exfalso
          omega
        · refine zx_iconst (v := 1) dX11_doInputsFit_70 rfl (z32_lit (by decide) (by decide)) ?_
          refine zx_goto (tgt := 75) dX11_doInputsFit_71 (by decide) ?_
          refine zx_istore (i := 7) dX11_doInputsFit_75 (by decide) rfl ?_
          refine zx_L (L1 := [some (zR o), some (zR md), some (zI f), some (zI s), some (zI u), some (zI 1), some (zI (pk 1 f s u)), some (zI 1)]) rfl ?_
          refine zx_iload (i := 7) dX11_doInputsFit_77 rfl ?_
          refine zx_if_ne (tgt := 84) dX11_doInputsFit_79 (by decide) (fun h79 => ?_) (fun h79 => absurd (by decide) h79)
          refine zx_iinc (i := 5) (v := 2) dX11_doInputsFit_84 rfl (by decide +kernel) (by decide) rfl ?_
          refine zx_L (L1 := [some (zR o), some (zR md), some (zI f), some (zI s), some (zI u), some (zI 2), some (zI (pk 1 f s u)), some (zI 1)]) rfl ?_
          refine zx_goto (tgt := 3) dX11_doInputsFit_87 (by decide) ?_
          refine zx_iload (i := 5) dX11_doInputsFit_3 rfl ?_
          refine zx_iconst (v := 3) dX11_doInputsFit_5 rfl (z32_lit (by decide) (by decide)) ?_
          refine zx_icmp_ge (tgt := 90) dX11_doInputsFit_6 (by decide) (fun h6 => absurd h6 (by decide)) (fun h6 => ?_)
          refine zx_pc (pc1 := 9) rfl ?_
          refine zx_iload (i := 5) dX11_doInputsFit_9 rfl ?_
          refine zx_iload_n (i := 2) dX11_doInputsFit_11 rfl rfl ?_
          refine zx_iload_n (i := 3) dX11_doInputsFit_12 rfl rfl ?_
          refine zx_iload (i := 4) dX11_doInputsFit_13 rfl ?_
          refine zx_is (As := [zI 2, zI f, zI s, zI u]) (st := []) (v := (some (zI (pk 2 f s u)))) (w1 := w) dX11_doInputsFit_15 zc_X11_342 rfl (Nat.le_of_ble_eq_true rfl) rfl (c_X11_pick 2 f s u) ?_
          refine zx_st (st1 := [zI (pk 2 f s u)]) rfl ?_
          refine zx_istore (i := 6) dX11_doInputsFit_18 (by decide) rfl ?_
          refine zx_L (L1 := [some (zR o), some (zR md), some (zI f), some (zI s), some (zI u), some (zI 2), some (zI (pk 2 f s u)), some (zI 1)]) rfl ?_
          refine zx_aload_n (i := 1) dX11_doInputsFit_20 rfl rfl ?_
          refine zx_iload (i := 5) dX11_doInputsFit_21 rfl ?_
          refine zx_iv (b := md) (As := [zI 2]) (st := []) (v := (some (zI (zB (0 ≤ (2 : Int) ∧ (2 : Int) < 3 ∧ zand (zshr mr.2.2.1 (2 : Int)) 1 = 1))))) (w1 := w) dX11_doInputsFit_23 zc_X11_339 hmd rfl rfl rfl (Nat.le_of_ble_eq_true rfl) rfl (c_X5_isInput hmd 2) ?_
          refine zx_st (st1 := [zI (zB (0 ≤ (2 : Int) ∧ (2 : Int) < 3 ∧ zand (zshr mr.2.2.1 (2 : Int)) 1 = 1))]) rfl ?_
          refine zx_if_eq (tgt := 65) dX11_doInputsFit_26 (by decide) (fun h26_9 => ?_) (fun h26_9 => ?_)
          · refine zx_iload (i := 6) dX11_doInputsFit_65 rfl ?_
            refine zx_if_ne (tgt := 74) dX11_doInputsFit_67 (by decide) (fun h67_10 => ?_) (fun h67_10 => ?_)
            · refine zx_pc (pc1 := 74) rfl ?_
              refine zx_iconst (v := 0) dX11_doInputsFit_74 rfl (z32_lit (by decide) (by decide)) ?_
              refine zx_istore (i := 7) dX11_doInputsFit_75 (by decide) rfl ?_
              refine zx_L (L1 := [some (zR o), some (zR md), some (zI f), some (zI s), some (zI u), some (zI 2), some (zI (pk 2 f s u)), some (zI 0)]) rfl ?_
              refine zx_iload (i := 7) dX11_doInputsFit_77 rfl ?_
              refine zx_if_ne (tgt := 84) dX11_doInputsFit_79 (by decide) (fun h79 => absurd h79 (by decide)) (fun h79 => ?_)
              refine zx_iconst (v := 0) dX11_doInputsFit_82 rfl (z32_lit (by decide) (by decide)) ?_
              refine zx_zret dX11_doInputsFit_83 rfl (by first | exact Or.inl rfl | exact Or.inr rfl | exact zB_or | assumption) ?_
              exfalso
              omega
            · refine zx_pc (pc1 := 70) rfl ?_
              refine zx_iconst (v := 1) dX11_doInputsFit_70 rfl (z32_lit (by decide) (by decide)) ?_
              refine zx_goto (tgt := 75) dX11_doInputsFit_71 (by decide) ?_
              refine zx_istore (i := 7) dX11_doInputsFit_75 (by decide) rfl ?_
              refine zx_L (L1 := [some (zR o), some (zR md), some (zI f), some (zI s), some (zI u), some (zI 2), some (zI (pk 2 f s u)), some (zI 1)]) rfl ?_
              refine zx_iload (i := 7) dX11_doInputsFit_77 rfl ?_
              refine zx_if_ne (tgt := 84) dX11_doInputsFit_79 (by decide) (fun h79 => ?_) (fun h79 => absurd (by decide) h79)
              refine zx_iinc (i := 5) (v := 3) dX11_doInputsFit_84 rfl (by decide +kernel) (by decide) rfl ?_
              refine zx_L (L1 := [some (zR o), some (zR md), some (zI f), some (zI s), some (zI u), some (zI 3), some (zI (pk 2 f s u)), some (zI 1)]) rfl ?_
              refine zx_goto (tgt := 3) dX11_doInputsFit_87 (by decide) ?_
              refine zx_iload (i := 5) dX11_doInputsFit_3 rfl ?_
              refine zx_iconst (v := 3) dX11_doInputsFit_5 rfl (z32_lit (by decide) (by decide)) ?_
              refine zx_icmp_ge (tgt := 90) dX11_doInputsFit_6 (by decide) (fun h6 => ?_) (fun h6 => absurd (by decide) h6)
              refine zx_iconst (v := 1) dX11_doInputsFit_90 rfl (z32_lit (by decide) (by decide)) ?_
              refine zx_zret dX11_doInputsFit_91 rfl (by first | exact Or.inl rfl | exact Or.inr rfl | exact zB_or | assumption) ?_
              exact zr_v rfl rfl
          · refine zx_aload_n (i := 0) dX11_doInputsFit_29 rfl rfl ?_
            refine zx_getfield dX11_doInputsFit_30 zf_X11_10 ho rfl ?_
            refine zx_pc (pc1 := 33) rfl ?_
            refine zx_aload_n (i := 0) dX11_doInputsFit_33 rfl rfl ?_
            refine zx_getfield dX11_doInputsFit_34 zf_X11_10 ho rfl ?_
            refine zx_iload (i := 6) dX11_doInputsFit_37 rfl ?_
            refine zx_iv (b := t) (As := [zI (pk 2 f s u)]) (st := [zR t]) (v := (some (zI (tg N (pk 2 f s u) 0)))) (w1 := w) dX11_doInputsFit_39 zc_X11_110 hT.1 rfl rfl rfl (Nat.le_of_ble_eq_true rfl) rfl (c_X10_headOf hT (pk 2 f s u)) ?_
            refine zx_st (st1 := [zI (tg N (pk 2 f s u) 0), zR t]) rfl ?_
            refine zx_iv (b := t) (As := [zI (tg N (pk 2 f s u) 0)]) (st := []) (v := (some (zI (tg C (tg N (pk 2 f s u) 0) 0)))) (w1 := w) dX11_doInputsFit_42 zc_X11_173 hT.1 rfl rfl rfl (Nat.le_of_ble_eq_true rfl) rfl (c_X10_typeOfHead hT (tg N (pk 2 f s u) 0)) ?_
            refine zx_st (st1 := [zI (tg C (tg N (pk 2 f s u) 0) 0)]) rfl ?_
            refine zx_aload_n (i := 1) dX11_doInputsFit_45 rfl rfl ?_
            refine zx_getfield dX11_doInputsFit_46 zf_X11_349 hmd rfl ?_
            refine zx_iload (i := 5) dX11_doInputsFit_49 rfl ?_
            refine zx_iv (b := mr.1) (As := [zI 2]) (st := [zI (tg C (tg N (pk 2 f s u) 0) 0)]) (v := (some (zI (tg yr.2.1 2 0)))) (w1 := w) dX11_doInputsFit_51 zc_X11_191 hpr.1 rfl rfl rfl (Nat.le_of_ble_eq_true rfl) rfl (c_X6_typeAt hpr.1 hpr.2.1.1 hpr.2.1.2 2) ?_
            refine zx_st (st1 := [zI (tg yr.2.1 2 0), zI (tg C (tg N (pk 2 f s u) 0) 0)]) rfl ?_
            refine zx_icmp_ne (tgt := 61) dX11_doInputsFit_54 (by decide) (fun h54_11 => ?_) (fun h54_11 => ?_)
            · refine zx_iconst (v := 0) dX11_doInputsFit_61 rfl (z32_lit (by decide) (by decide)) ?_
              refine zx_goto (tgt := 75) dX11_doInputsFit_62 (by decide) ?_
              refine zx_pc (pc1 := 75) rfl ?_
              refine zx_istore (i := 7) dX11_doInputsFit_75 (by decide) rfl ?_
              refine zx_L (L1 := [some (zR o), some (zR md), some (zI f), some (zI s), some (zI u), some (zI 2), some (zI (pk 2 f s u)), some (zI 0)]) rfl ?_
              refine zx_iload (i := 7) dX11_doInputsFit_77 rfl ?_
              refine zx_if_ne (tgt := 84) dX11_doInputsFit_79 (by decide) (fun h79 => absurd h79 (by decide)) (fun h79 => ?_)
              refine zx_iconst (v := 0) dX11_doInputsFit_82 rfl (z32_lit (by decide) (by decide)) ?_
              refine zx_zret dX11_doInputsFit_83 rfl (by first | exact Or.inl rfl | exact Or.inr rfl | exact zB_or | assumption) ?_
              exfalso
              omega
            · refine zx_iconst (v := 1) dX11_doInputsFit_57 rfl (z32_lit (by decide) (by decide)) ?_
              refine zx_goto (tgt := 75) dX11_doInputsFit_58 (by decide) ?_
              refine zx_pc (pc1 := 75) rfl ?_
              refine zx_istore (i := 7) dX11_doInputsFit_75 (by decide) rfl ?_
              refine zx_L (L1 := [some (zR o), some (zR md), some (zI f), some (zI s), some (zI u), some (zI 2), some (zI (pk 2 f s u)), some (zI 1)]) rfl ?_
              refine zx_iload (i := 7) dX11_doInputsFit_77 rfl ?_
              refine zx_if_ne (tgt := 84) dX11_doInputsFit_79 (by decide) (fun h79 => ?_) (fun h79 => absurd (by decide) h79)
              refine zx_iinc (i := 5) (v := 3) dX11_doInputsFit_84 rfl (by decide +kernel) (by decide) rfl ?_
              refine zx_L (L1 := [some (zR o), some (zR md), some (zI f), some (zI s), some (zI u), some (zI 3), some (zI (pk 2 f s u)), some (zI 1)]) rfl ?_
              refine zx_goto (tgt := 3) dX11_doInputsFit_87 (by decide) ?_
              refine zx_iload (i := 5) dX11_doInputsFit_3 rfl ?_
              refine zx_iconst (v := 3) dX11_doInputsFit_5 rfl (z32_lit (by decide) (by decide)) ?_
              refine zx_icmp_ge (tgt := 90) dX11_doInputsFit_6 (by decide) (fun h6 => ?_) (fun h6 => absurd (by decide) h6)
              refine zx_iconst (v := 1) dX11_doInputsFit_90 rfl (z32_lit (by decide) (by decide)) ?_
              refine zx_zret dX11_doInputsFit_91 rfl (by first | exact Or.inl rfl | exact Or.inr rfl | exact zB_or | assumption) ?_
              exact zr_v rfl rfl
      · refine zx_pc (pc1 := 29) rfl ?_
        refine zx_aload_n (i := 0) dX11_doInputsFit_29 rfl rfl ?_
        refine zx_getfield dX11_doInputsFit_30 zf_X11_10 ho rfl ?_
        refine zx_aload_n (i := 0) dX11_doInputsFit_33 rfl rfl ?_
        refine zx_getfield dX11_doInputsFit_34 zf_X11_10 ho rfl ?_
        refine zx_iload (i := 6) dX11_doInputsFit_37 rfl ?_
        refine zx_iv (b := t) (As := [zI (pk 1 f s u)]) (st := [zR t]) (v := (some (zI (tg N (pk 1 f s u) 0)))) (w1 := w) dX11_doInputsFit_39 zc_X11_110 hT.1 rfl rfl rfl (Nat.le_of_ble_eq_true rfl) rfl (c_X10_headOf hT (pk 1 f s u)) ?_
        refine zx_st (st1 := [zI (tg N (pk 1 f s u) 0), zR t]) rfl ?_
        refine zx_iv (b := t) (As := [zI (tg N (pk 1 f s u) 0)]) (st := []) (v := (some (zI (tg C (tg N (pk 1 f s u) 0) 0)))) (w1 := w) dX11_doInputsFit_42 zc_X11_173 hT.1 rfl rfl rfl (Nat.le_of_ble_eq_true rfl) rfl (c_X10_typeOfHead hT (tg N (pk 1 f s u) 0)) ?_
        refine zx_st (st1 := [zI (tg C (tg N (pk 1 f s u) 0) 0)]) rfl ?_
        refine zx_aload_n (i := 1) dX11_doInputsFit_45 rfl rfl ?_
        refine zx_getfield dX11_doInputsFit_46 zf_X11_349 hmd rfl ?_
        refine zx_iload (i := 5) dX11_doInputsFit_49 rfl ?_
        refine zx_iv (b := mr.1) (As := [zI 1]) (st := [zI (tg C (tg N (pk 1 f s u) 0) 0)]) (v := (some (zI (tg yr.2.1 1 0)))) (w1 := w) dX11_doInputsFit_51 zc_X11_191 hpr.1 rfl rfl rfl (Nat.le_of_ble_eq_true rfl) rfl (c_X6_typeAt hpr.1 hpr.2.1.1 hpr.2.1.2 1) ?_
        refine zx_st (st1 := [zI (tg yr.2.1 1 0), zI (tg C (tg N (pk 1 f s u) 0) 0)]) rfl ?_
        refine zx_icmp_ne (tgt := 61) dX11_doInputsFit_54 (by decide) (fun h54_12 => ?_) (fun h54_12 => ?_)
        · refine zx_pc (pc1 := 61) rfl ?_
          refine zx_iconst (v := 0) dX11_doInputsFit_61 rfl (z32_lit (by decide) (by decide)) ?_
          refine zx_goto (tgt := 75) dX11_doInputsFit_62 (by decide) ?_
          refine zx_istore (i := 7) dX11_doInputsFit_75 (by decide) rfl ?_
          refine zx_L (L1 := [some (zR o), some (zR md), some (zI f), some (zI s), some (zI u), some (zI 1), some (zI (pk 1 f s u)), some (zI 0)]) rfl ?_
          refine zx_iload (i := 7) dX11_doInputsFit_77 rfl ?_
          refine zx_if_ne (tgt := 84) dX11_doInputsFit_79 (by decide) (fun h79 => absurd h79 (by decide)) (fun h79 => ?_)
          refine zx_iconst (v := 0) dX11_doInputsFit_82 rfl (z32_lit (by decide) (by decide)) ?_
          refine zx_zret dX11_doInputsFit_83 rfl (by first | exact Or.inl rfl | exact Or.inr rfl | exact zB_or | assumption) ?_
          exfalso
          omega
        · refine zx_pc (pc1 := 57) rfl ?_
          refine zx_iconst (v := 1) dX11_doInputsFit_57 rfl (z32_lit (by decide) (by decide)) ?_
          refine zx_goto (tgt := 75) dX11_doInputsFit_58 (by decide) ?_
          refine zx_istore (i := 7) dX11_doInputsFit_75 (by decide) rfl ?_
          refine zx_L (L1 := [some (zR o), some (zR md), some (zI f), some (zI s), some (zI u), some (zI 1), some (zI (pk 1 f s u)), some (zI 1)]) rfl ?_
          refine zx_iload (i := 7) dX11_doInputsFit_77 rfl ?_
          refine zx_if_ne (tgt := 84) dX11_doInputsFit_79 (by decide) (fun h79 => ?_) (fun h79 => absurd (by decide) h79)
          refine zx_iinc (i := 5) (v := 2) dX11_doInputsFit_84 rfl (by decide +kernel) (by decide) rfl ?_
          refine zx_L (L1 := [some (zR o), some (zR md), some (zI f), some (zI s), some (zI u), some (zI 2), some (zI (pk 1 f s u)), some (zI 1)]) rfl ?_
          refine zx_goto (tgt := 3) dX11_doInputsFit_87 (by decide) ?_
          refine zx_iload (i := 5) dX11_doInputsFit_3 rfl ?_
          refine zx_iconst (v := 3) dX11_doInputsFit_5 rfl (z32_lit (by decide) (by decide)) ?_
          refine zx_icmp_ge (tgt := 90) dX11_doInputsFit_6 (by decide) (fun h6 => absurd h6 (by decide)) (fun h6 => ?_)
          refine zx_iload (i := 5) dX11_doInputsFit_9 rfl ?_
          refine zx_iload_n (i := 2) dX11_doInputsFit_11 rfl rfl ?_
          refine zx_pc (pc1 := 12) rfl ?_
          refine zx_iload_n (i := 3) dX11_doInputsFit_12 rfl rfl ?_
          refine zx_iload (i := 4) dX11_doInputsFit_13 rfl ?_
          refine zx_is (As := [zI 2, zI f, zI s, zI u]) (st := []) (v := (some (zI (pk 2 f s u)))) (w1 := w) dX11_doInputsFit_15 zc_X11_342 rfl (Nat.le_of_ble_eq_true rfl) rfl (c_X11_pick 2 f s u) ?_
          refine zx_st (st1 := [zI (pk 2 f s u)]) rfl ?_
          refine zx_istore (i := 6) dX11_doInputsFit_18 (by decide) rfl ?_
          refine zx_L (L1 := [some (zR o), some (zR md), some (zI f), some (zI s), some (zI u), some (zI 2), some (zI (pk 2 f s u)), some (zI 1)]) rfl ?_
          refine zx_aload_n (i := 1) dX11_doInputsFit_20 rfl rfl ?_
          refine zx_iload (i := 5) dX11_doInputsFit_21 rfl ?_
          refine zx_iv (b := md) (As := [zI 2]) (st := []) (v := (some (zI (zB (0 ≤ (2 : Int) ∧ (2 : Int) < 3 ∧ zand (zshr mr.2.2.1 (2 : Int)) 1 = 1))))) (w1 := w) dX11_doInputsFit_23 zc_X11_339 hmd rfl rfl rfl (Nat.le_of_ble_eq_true rfl) rfl (c_X5_isInput hmd 2) ?_
          refine zx_st (st1 := [zI (zB (0 ≤ (2 : Int) ∧ (2 : Int) < 3 ∧ zand (zshr mr.2.2.1 (2 : Int)) 1 = 1))]) rfl ?_
          refine zx_if_eq (tgt := 65) dX11_doInputsFit_26 (by decide) (fun h26_13 => ?_) (fun h26_13 => ?_)
          · refine zx_iload (i := 6) dX11_doInputsFit_65 rfl ?_
            refine zx_if_ne (tgt := 74) dX11_doInputsFit_67 (by decide) (fun h67 => ?_) (fun h67 => ?_)
            · refine zx_iconst (v := 0) dX11_doInputsFit_74 rfl (z32_lit (by decide) (by decide)) ?_
              refine zx_istore (i := 7) dX11_doInputsFit_75 (by decide) rfl ?_
              refine zx_L (L1 := [some (zR o), some (zR md), some (zI f), some (zI s), some (zI u), some (zI 2), some (zI (pk 2 f s u)), some (zI 0)]) rfl ?_
              refine zx_pc (pc1 := 77) rfl ?_
              refine zx_iload (i := 7) dX11_doInputsFit_77 rfl ?_
              refine zx_if_ne (tgt := 84) dX11_doInputsFit_79 (by decide) (fun h79 => absurd h79 (by decide)) (fun h79 => ?_)
              refine zx_iconst (v := 0) dX11_doInputsFit_82 rfl (z32_lit (by decide) (by decide)) ?_
              refine zx_zret dX11_doInputsFit_83 rfl (by first | exact Or.inl rfl | exact Or.inr rfl | exact zB_or | assumption) ?_
              exfalso
              omega
            · refine zx_iconst (v := 1) dX11_doInputsFit_70 rfl (z32_lit (by decide) (by decide)) ?_
              refine zx_goto (tgt := 75) dX11_doInputsFit_71 (by decide) ?_
              refine zx_pc (pc1 := 75) rfl ?_
              refine zx_istore (i := 7) dX11_doInputsFit_75 (by decide) rfl ?_
              refine zx_L (L1 := [some (zR o), some (zR md), some (zI f), some (zI s), some (zI u), some (zI 2), some (zI (pk 2 f s u)), some (zI 1)]) rfl ?_
              refine zx_iload (i := 7) dX11_doInputsFit_77 rfl ?_
              refine zx_if_ne (tgt := 84) dX11_doInputsFit_79 (by decide) (fun h79 => ?_) (fun h79 => absurd (by decide) h79)
              refine zx_iinc (i := 5) (v := 3) dX11_doInputsFit_84 rfl (by decide +kernel) (by decide) rfl ?_
              refine zx_L (L1 := [some (zR o), some (zR md), some (zI f), some (zI s), some (zI u), some (zI 3), some (zI (pk 2 f s u)), some (zI 1)]) rfl ?_
              refine zx_goto (tgt := 3) dX11_doInputsFit_87 (by decide) ?_
              refine zx_iload (i := 5) dX11_doInputsFit_3 rfl ?_
              refine zx_iconst (v := 3) dX11_doInputsFit_5 rfl (z32_lit (by decide) (by decide)) ?_
              refine zx_icmp_ge (tgt := 90) dX11_doInputsFit_6 (by decide) (fun h6 => ?_) (fun h6 => absurd (by decide) h6)
              refine zx_iconst (v := 1) dX11_doInputsFit_90 rfl (z32_lit (by decide) (by decide)) ?_
              refine zx_zret dX11_doInputsFit_91 rfl (by first | exact Or.inl rfl | exact Or.inr rfl | exact zB_or | assumption) ?_
              exact zr_v rfl rfl
          · refine zx_aload_n (i := 0) dX11_doInputsFit_29 rfl rfl ?_
            refine zx_getfield dX11_doInputsFit_30 zf_X11_10 ho rfl ?_
            refine zx_aload_n (i := 0) dX11_doInputsFit_33 rfl rfl ?_
            refine zx_getfield dX11_doInputsFit_34 zf_X11_10 ho rfl ?_
            refine zx_pc (pc1 := 37) rfl ?_
            refine zx_iload (i := 6) dX11_doInputsFit_37 rfl ?_
            refine zx_iv (b := t) (As := [zI (pk 2 f s u)]) (st := [zR t]) (v := (some (zI (tg N (pk 2 f s u) 0)))) (w1 := w) dX11_doInputsFit_39 zc_X11_110 hT.1 rfl rfl rfl (Nat.le_of_ble_eq_true rfl) rfl (c_X10_headOf hT (pk 2 f s u)) ?_
            refine zx_st (st1 := [zI (tg N (pk 2 f s u) 0), zR t]) rfl ?_
            refine zx_iv (b := t) (As := [zI (tg N (pk 2 f s u) 0)]) (st := []) (v := (some (zI (tg C (tg N (pk 2 f s u) 0) 0)))) (w1 := w) dX11_doInputsFit_42 zc_X11_173 hT.1 rfl rfl rfl (Nat.le_of_ble_eq_true rfl) rfl (c_X10_typeOfHead hT (tg N (pk 2 f s u) 0)) ?_
            refine zx_st (st1 := [zI (tg C (tg N (pk 2 f s u) 0) 0)]) rfl ?_
            refine zx_aload_n (i := 1) dX11_doInputsFit_45 rfl rfl ?_
            refine zx_getfield dX11_doInputsFit_46 zf_X11_349 hmd rfl ?_
            refine zx_iload (i := 5) dX11_doInputsFit_49 rfl ?_
            refine zx_iv (b := mr.1) (As := [zI 2]) (st := [zI (tg C (tg N (pk 2 f s u) 0) 0)]) (v := (some (zI (tg yr.2.1 2 0)))) (w1 := w) dX11_doInputsFit_51 zc_X11_191 hpr.1 rfl rfl rfl (Nat.le_of_ble_eq_true rfl) rfl (c_X6_typeAt hpr.1 hpr.2.1.1 hpr.2.1.2 2) ?_
            refine zx_st (st1 := [zI (tg yr.2.1 2 0), zI (tg C (tg N (pk 2 f s u) 0) 0)]) rfl ?_
            refine zx_icmp_ne (tgt := 61) dX11_doInputsFit_54 (by decide) (fun h54_14 => ?_) (fun h54_14 => ?_)
            · refine zx_iconst (v := 0) dX11_doInputsFit_61 rfl (z32_lit (by decide) (by decide)) ?_
              refine zx_goto (tgt := 75) dX11_doInputsFit_62 (by decide) ?_
              refine zx_istore (i := 7) dX11_doInputsFit_75 (by decide) rfl ?_
              refine zx_L (L1 := [some (zR o), some (zR md), some (zI f), some (zI s), some (zI u), some (zI 2), some (zI (pk 2 f s u)), some (zI 0)]) rfl ?_
              refine zx_iload (i := 7) dX11_doInputsFit_77 rfl ?_
              refine zx_pc (pc1 := 79) rfl ?_
              refine zx_if_ne (tgt := 84) dX11_doInputsFit_79 (by decide) (fun h79 => absurd h79 (by decide)) (fun h79 => ?_)
              refine zx_iconst (v := 0) dX11_doInputsFit_82 rfl (z32_lit (by decide) (by decide)) ?_
              refine zx_zret dX11_doInputsFit_83 rfl (by first | exact Or.inl rfl | exact Or.inr rfl | exact zB_or | assumption) ?_
              exfalso
              omega
            · refine zx_iconst (v := 1) dX11_doInputsFit_57 rfl (z32_lit (by decide) (by decide)) ?_
              refine zx_goto (tgt := 75) dX11_doInputsFit_58 (by decide) ?_
              refine zx_istore (i := 7) dX11_doInputsFit_75 (by decide) rfl ?_
              refine zx_L (L1 := [some (zR o), some (zR md), some (zI f), some (zI s), some (zI u), some (zI 2), some (zI (pk 2 f s u)), some (zI 1)]) rfl ?_
              refine zx_iload (i := 7) dX11_doInputsFit_77 rfl ?_
              refine zx_pc (pc1 := 79) rfl ?_
              refine zx_if_ne (tgt := 84) dX11_doInputsFit_79 (by decide) (fun h79 => ?_) (fun h79 => absurd (by decide) h79)
              refine zx_iinc (i := 5) (v := 3) dX11_doInputsFit_84 rfl (by decide +kernel) (by decide) rfl ?_
              refine zx_L (L1 := [some (zR o), some (zR md), some (zI f), some (zI s), some (zI u), some (zI 3), some (zI (pk 2 f s u)), some (zI 1)]) rfl ?_
              refine zx_goto (tgt := 3) dX11_doInputsFit_87 (by decide) ?_
              refine zx_iload (i := 5) dX11_doInputsFit_3 rfl ?_
              refine zx_iconst (v := 3) dX11_doInputsFit_5 rfl (z32_lit (by decide) (by decide)) ?_
              refine zx_icmp_ge (tgt := 90) dX11_doInputsFit_6 (by decide) (fun h6 => ?_) (fun h6 => absurd (by decide) h6)
              refine zx_iconst (v := 1) dX11_doInputsFit_90 rfl (z32_lit (by decide) (by decide)) ?_
              refine zx_zret dX11_doInputsFit_91 rfl (by first | exact Or.inl rfl | exact Or.inr rfl | exact zB_or | assumption) ?_
              exact zr_v rfl rfl
theorem f_df_f {tc tn th tz : Nat} {ty : Int} {C N H : List (List Int)} {S : List Int} {md : Nat} {mr : moR} {yr : prR} (ho : w.1 o = some (11, 0, [zR t, zR pg, zR mc, zR br, zR la, zR sp, zI comp, zI asked, zJ sum])) (hT : tmW w t tc tn th tz ty C N H S) (hmd : moW w md mr) (hpr : prW w mr.1 yr) (f s u : Int) (hty : (zB (0 ≤ (0 : Int) ∧ (0 : Int) < 3 ∧ zand (zshr mr.2.2.1 (0 : Int)) 1 = 1) = 0 ∨ tg C (tg N (pk 0 f s u) 0) 0 = tg yr.2.1 0 0) ∧ (zB (0 ≤ (1 : Int) ∧ (1 : Int) < 3 ∧ zand (zshr mr.2.2.1 (1 : Int)) 1 = 1) = 0 ∨ tg C (tg N (pk 1 f s u) 0) 0 = tg yr.2.1 1 0) ∧ (zB (0 ≤ (2 : Int) ∧ (2 : Int) < 3 ∧ zand (zshr mr.2.2.1 (2 : Int)) 1 = 1) = 0 ∨ tg C (tg N (pk 2 f s u) 0) 0 = tg yr.2.1 2 0)) (hft : ¬ ((¬ zB (0 ≤ (0 : Int) ∧ (0 : Int) < 3 ∧ zand (zshr mr.2.2.1 (0 : Int)) 1 = 1) = 0 ∨ pk 0 f s u = 0) ∧ (¬ zB (0 ≤ (1 : Int) ∧ (1 : Int) < 3 ∧ zand (zshr mr.2.2.1 (1 : Int)) 1 = 1) = 0 ∨ pk 1 f s u = 0) ∧ (¬ zB (0 ≤ (2 : Int) ∧ (2 : Int) < 3 ∧ zand (zshr mr.2.2.1 (2 : Int)) 1 = 1) = 0 ∨ pk 2 f s u = 0))) : zM G zm_X11_doInputsFit (d + 3) [zR o, zR md, zI f, zI s, zI u] w (zRet (some (zI 0)) w) := by
  refine zx_ent (by decide +kernel) rfl (Nat.le_of_ble_eq_true rfl) ?_
  refine zx_L (L1 := [some (zR o), some (zR md), some (zI f), some (zI s), some (zI u), none, none, none]) rfl ?_
  refine zx_iconst (v := 0) dX11_doInputsFit_0 rfl (z32_lit (by decide) (by decide)) ?_
  refine zx_istore (i := 5) dX11_doInputsFit_1 (by decide) rfl ?_
  refine zx_L (L1 := [some (zR o), some (zR md), some (zI f), some (zI s), some (zI u), some (zI 0), none, none]) rfl ?_
  refine zx_iload (i := 5) dX11_doInputsFit_3 rfl ?_
  refine zx_iconst (v := 3) dX11_doInputsFit_5 rfl (z32_lit (by decide) (by decide)) ?_
  refine zx_icmp_ge (tgt := 90) dX11_doInputsFit_6 (by decide) (fun h6 => absurd h6 (by decide)) (fun h6 => ?_)
  refine zx_iload (i := 5) dX11_doInputsFit_9 rfl ?_
  refine zx_iload_n (i := 2) dX11_doInputsFit_11 rfl rfl ?_
  refine zx_iload_n (i := 3) dX11_doInputsFit_12 rfl rfl ?_
  refine zx_iload (i := 4) dX11_doInputsFit_13 rfl ?_
  refine zx_is (As := [zI 0, zI f, zI s, zI u]) (st := []) (v := (some (zI (pk 0 f s u)))) (w1 := w) dX11_doInputsFit_15 zc_X11_342 rfl (Nat.le_of_ble_eq_true rfl) rfl (c_X11_pick 0 f s u) ?_
  refine zx_st (st1 := [zI (pk 0 f s u)]) rfl ?_
  refine zx_istore (i := 6) dX11_doInputsFit_18 (by decide) rfl ?_
  refine zx_L (L1 := [some (zR o), some (zR md), some (zI f), some (zI s), some (zI u), some (zI 0), some (zI (pk 0 f s u)), none]) rfl ?_
  refine zx_pc (pc1 := 20) rfl ?_
  refine zx_aload_n (i := 1) dX11_doInputsFit_20 rfl rfl ?_
  refine zx_iload (i := 5) dX11_doInputsFit_21 rfl ?_
  refine zx_iv (b := md) (As := [zI 0]) (st := []) (v := (some (zI (zB (0 ≤ (0 : Int) ∧ (0 : Int) < 3 ∧ zand (zshr mr.2.2.1 (0 : Int)) 1 = 1))))) (w1 := w) dX11_doInputsFit_23 zc_X11_339 hmd rfl rfl rfl (Nat.le_of_ble_eq_true rfl) rfl (c_X5_isInput hmd 0) ?_
  refine zx_st (st1 := [zI (zB (0 ≤ (0 : Int) ∧ (0 : Int) < 3 ∧ zand (zshr mr.2.2.1 (0 : Int)) 1 = 1))]) rfl ?_
  refine zx_if_eq (tgt := 65) dX11_doInputsFit_26 (by decide) (fun h26 => ?_) (fun h26 => ?_)
  · refine zx_iload (i := 6) dX11_doInputsFit_65 rfl ?_
    refine zx_if_ne (tgt := 74) dX11_doInputsFit_67 (by decide) (fun h67 => ?_) (fun h67 => ?_)
    · refine zx_iconst (v := 0) dX11_doInputsFit_74 rfl (z32_lit (by decide) (by decide)) ?_
      refine zx_istore (i := 7) dX11_doInputsFit_75 (by decide) rfl ?_
      refine zx_L (L1 := [some (zR o), some (zR md), some (zI f), some (zI s), some (zI u), some (zI 0), some (zI (pk 0 f s u)), some (zI 0)]) rfl ?_
      refine zx_iload (i := 7) dX11_doInputsFit_77 rfl ?_
      refine zx_if_ne (tgt := 84) dX11_doInputsFit_79 (by decide) (fun h79 => absurd h79 (by decide)) (fun h79 => ?_)
      refine zx_iconst (v := 0) dX11_doInputsFit_82 rfl (z32_lit (by decide) (by decide)) ?_
      refine zx_zret dX11_doInputsFit_83 rfl (by first | exact Or.inl rfl | exact Or.inr rfl | exact zB_or | assumption) ?_
      exact zr_v rfl rfl
    · refine zx_iconst (v := 1) dX11_doInputsFit_70 rfl (z32_lit (by decide) (by decide)) ?_
      refine zx_goto (tgt := 75) dX11_doInputsFit_71 (by decide) ?_
      refine zx_istore (i := 7) dX11_doInputsFit_75 (by decide) rfl ?_
      refine zx_L (L1 := [some (zR o), some (zR md), some (zI f), some (zI s), some (zI u), some (zI 0), some (zI (pk 0 f s u)), some (zI 1)]) rfl ?_
      refine zx_iload (i := 7) dX11_doInputsFit_77 rfl ?_
      refine zx_if_ne (tgt := 84) dX11_doInputsFit_79 (by decide) (fun h79 => ?_) (fun h79 => absurd (by decide) h79)
      refine zx_iinc (i := 5) (v := 1) dX11_doInputsFit_84 rfl (by decide +kernel) (by decide) rfl ?_
      refine zx_L (L1 := [some (zR o), some (zR md), some (zI f), some (zI s), some (zI u), some (zI 1), some (zI (pk 0 f s u)), some (zI 1)]) rfl ?_
      refine zx_pc (pc1 := 87) rfl ?_
      refine zx_goto (tgt := 3) dX11_doInputsFit_87 (by decide) ?_
      refine zx_iload (i := 5) dX11_doInputsFit_3 rfl ?_
      refine zx_iconst (v := 3) dX11_doInputsFit_5 rfl (z32_lit (by decide) (by decide)) ?_
      refine zx_icmp_ge (tgt := 90) dX11_doInputsFit_6 (by decide) (fun h6 => absurd h6 (by decide)) (fun h6 => ?_)
      refine zx_iload (i := 5) dX11_doInputsFit_9 rfl ?_
      refine zx_iload_n (i := 2) dX11_doInputsFit_11 rfl rfl ?_
      refine zx_iload_n (i := 3) dX11_doInputsFit_12 rfl rfl ?_
      refine zx_iload (i := 4) dX11_doInputsFit_13 rfl ?_
      refine zx_is (As := [zI 1, zI f, zI s, zI u]) (st := []) (v := (some (zI (pk 1 f s u)))) (w1 := w) dX11_doInputsFit_15 zc_X11_342 rfl (Nat.le_of_ble_eq_true rfl) rfl (c_X11_pick 1 f s u) ?_
      refine zx_st (st1 := [zI (pk 1 f s u)]) rfl ?_
      refine zx_istore (i := 6) dX11_doInputsFit_18 (by decide) rfl ?_
      refine zx_L (L1 := [some (zR o), some (zR md), some (zI f), some (zI s), some (zI u), some (zI 1), some (zI (pk 1 f s u)), some (zI 1)]) rfl ?_
      refine zx_aload_n (i := 1) dX11_doInputsFit_20 rfl rfl ?_
      refine zx_iload (i := 5) dX11_doInputsFit_21 rfl ?_
      refine zx_pc (pc1 := 23) rfl ?_
      refine zx_iv (b := md) (As := [zI 1]) (st := []) (v := (some (zI (zB (0 ≤ (1 : Int) ∧ (1 : Int) < 3 ∧ zand (zshr mr.2.2.1 (1 : Int)) 1 = 1))))) (w1 := w) dX11_doInputsFit_23 zc_X11_339 hmd rfl rfl rfl (Nat.le_of_ble_eq_true rfl) rfl (c_X5_isInput hmd 1) ?_
      refine zx_st (st1 := [zI (zB (0 ≤ (1 : Int) ∧ (1 : Int) < 3 ∧ zand (zshr mr.2.2.1 (1 : Int)) 1 = 1))]) rfl ?_
      refine zx_if_eq (tgt := 65) dX11_doInputsFit_26 (by decide) (fun h26_1 => ?_) (fun h26_1 => ?_)
      · refine zx_iload (i := 6) dX11_doInputsFit_65 rfl ?_
        refine zx_if_ne (tgt := 74) dX11_doInputsFit_67 (by decide) (fun h67_2 => ?_) (fun h67_2 => ?_)
        · refine zx_iconst (v := 0) dX11_doInputsFit_74 rfl (z32_lit (by decide) (by decide)) ?_
          refine zx_istore (i := 7) dX11_doInputsFit_75 (by decide) rfl ?_
          refine zx_L (L1 := [some (zR o), some (zR md), some (zI f), some (zI s), some (zI u), some (zI 1), some (zI (pk 1 f s u)), some (zI 0)]) rfl ?_
          refine zx_iload (i := 7) dX11_doInputsFit_77 rfl ?_
          refine zx_if_ne (tgt := 84) dX11_doInputsFit_79 (by decide) (fun h79 => absurd h79 (by decide)) (fun h79 => ?_)
          refine zx_iconst (v := 0) dX11_doInputsFit_82 rfl (z32_lit (by decide) (by decide)) ?_
          refine zx_zret dX11_doInputsFit_83 rfl (by first | exact Or.inl rfl | exact Or.inr rfl | exact zB_or | assumption) ?_
          exact zr_v rfl rfl
        · refine zx_iconst (v := 1) dX11_doInputsFit_70 rfl (z32_lit (by decide) (by decide)) ?_
          refine zx_goto (tgt := 75) dX11_doInputsFit_71 (by decide) ?_
          refine zx_istore (i := 7) dX11_doInputsFit_75 (by decide) rfl ?_
          refine zx_L (L1 := [some (zR o), some (zR md), some (zI f), some (zI s), some (zI u), some (zI 1), some (zI (pk 1 f s u)), some (zI 1)]) rfl ?_
          refine zx_iload (i := 7) dX11_doInputsFit_77 rfl ?_
          refine zx_if_ne (tgt := 84) dX11_doInputsFit_79 (by decide) (fun h79 => ?_) (fun h79 => absurd (by decide) h79)
          refine zx_iinc (i := 5) (v := 2) dX11_doInputsFit_84 rfl (by decide +kernel) (by decide) rfl ?_
          refine zx_L (L1 := [some (zR o), some (zR md), some (zI f), some (zI s), some (zI u), some (zI 2), some (zI (pk 1 f s u)), some (zI 1)]) rfl ?_
          refine zx_goto (tgt := 3) dX11_doInputsFit_87 (by decide) ?_
          refine zx_iload (i := 5) dX11_doInputsFit_3 rfl ?_
          refine zx_pc (pc1 := 5) rfl ?_
          refine zx_iconst (v := 3) dX11_doInputsFit_5 rfl (z32_lit (by decide) (by decide)) ?_
          refine zx_icmp_ge (tgt := 90) dX11_doInputsFit_6 (by decide) (fun h6 => absurd h6 (by decide)) (fun h6 => ?_)
          refine zx_iload (i := 5) dX11_doInputsFit_9 rfl ?_
          refine zx_iload_n (i := 2) dX11_doInputsFit_11 rfl rfl ?_
          refine zx_iload_n (i := 3) dX11_doInputsFit_12 rfl rfl ?_
          refine zx_iload (i := 4) dX11_doInputsFit_13 rfl ?_
          refine zx_is (As := [zI 2, zI f, zI s, zI u]) (st := []) (v := (some (zI (pk 2 f s u)))) (w1 := w) dX11_doInputsFit_15 zc_X11_342 rfl (Nat.le_of_ble_eq_true rfl) rfl (c_X11_pick 2 f s u) ?_
          refine zx_st (st1 := [zI (pk 2 f s u)]) rfl ?_
          refine zx_istore (i := 6) dX11_doInputsFit_18 (by decide) rfl ?_
          refine zx_L (L1 := [some (zR o), some (zR md), some (zI f), some (zI s), some (zI u), some (zI 2), some (zI (pk 2 f s u)), some (zI 1)]) rfl ?_
          refine zx_aload_n (i := 1) dX11_doInputsFit_20 rfl rfl ?_
          refine zx_iload (i := 5) dX11_doInputsFit_21 rfl ?_
          refine zx_iv (b := md) (As := [zI 2]) (st := []) (v := (some (zI (zB (0 ≤ (2 : Int) ∧ (2 : Int) < 3 ∧ zand (zshr mr.2.2.1 (2 : Int)) 1 = 1))))) (w1 := w) dX11_doInputsFit_23 zc_X11_339 hmd rfl rfl rfl (Nat.le_of_ble_eq_true rfl) rfl (c_X5_isInput hmd 2) ?_
          refine zx_st (st1 := [zI (zB (0 ≤ (2 : Int) ∧ (2 : Int) < 3 ∧ zand (zshr mr.2.2.1 (2 : Int)) 1 = 1))]) rfl ?_
          refine zx_if_eq (tgt := 65) dX11_doInputsFit_26 (by decide) (fun h26_3 => ?_) (fun h26_3 => ?_)
          · refine zx_pc (pc1 := 65) rfl ?_
            refine zx_iload (i := 6) dX11_doInputsFit_65 rfl ?_
            refine zx_if_ne (tgt := 74) dX11_doInputsFit_67 (by decide) (fun h67_4 => ?_) (fun h67_4 => ?_)
            · refine zx_iconst (v := 0) dX11_doInputsFit_74 rfl (z32_lit (by decide) (by decide)) ?_
              refine zx_istore (i := 7) dX11_doInputsFit_75 (by decide) rfl ?_
              refine zx_L (L1 := [some (zR o), some (zR md), some (zI f), some (zI s), some (zI u), some (zI 2), some (zI (pk 2 f s u)), some (zI 0)]) rfl ?_
              refine zx_iload (i := 7) dX11_doInputsFit_77 rfl ?_
              refine zx_if_ne (tgt := 84) dX11_doInputsFit_79 (by decide) (fun h79 => absurd h79 (by decide)) (fun h79 => ?_)
              refine zx_iconst (v := 0) dX11_doInputsFit_82 rfl (z32_lit (by decide) (by decide)) ?_
              refine zx_zret dX11_doInputsFit_83 rfl (by first | exact Or.inl rfl | exact Or.inr rfl | exact zB_or | assumption) ?_
              exact zr_v rfl rfl
            · refine zx_iconst (v := 1) dX11_doInputsFit_70 rfl (z32_lit (by decide) (by decide)) ?_
              refine zx_goto (tgt := 75) dX11_doInputsFit_71 (by decide) ?_
              refine zx_istore (i := 7) dX11_doInputsFit_75 (by decide) rfl ?_
              refine zx_L (L1 := [some (zR o), some (zR md), some (zI f), some (zI s), some (zI u), some (zI 2), some (zI (pk 2 f s u)), some (zI 1)]) rfl ?_
              refine zx_iload (i := 7) dX11_doInputsFit_77 rfl ?_
              refine zx_if_ne (tgt := 84) dX11_doInputsFit_79 (by decide) (fun h79 => ?_) (fun h79 => absurd (by decide) h79)
              refine zx_iinc (i := 5) (v := 3) dX11_doInputsFit_84 rfl (by decide +kernel) (by decide) rfl ?_
              refine zx_L (L1 := [some (zR o), some (zR md), some (zI f), some (zI s), some (zI u), some (zI 3), some (zI (pk 2 f s u)), some (zI 1)]) rfl ?_
              refine zx_goto (tgt := 3) dX11_doInputsFit_87 (by decide) ?_
              refine zx_iload (i := 5) dX11_doInputsFit_3 rfl ?_
              refine zx_iconst (v := 3) dX11_doInputsFit_5 rfl (z32_lit (by decide) (by decide)) ?_
              refine zx_icmp_ge (tgt := 90) dX11_doInputsFit_6 (by decide) (fun h6 => ?_) (fun h6 => absurd (by decide) h6)
              refine zx_pc (pc1 := 90) rfl ?_
              refine zx_iconst (v := 1) dX11_doInputsFit_90 rfl (z32_lit (by decide) (by decide)) ?_
              refine zx_zret dX11_doInputsFit_91 rfl (by first | exact Or.inl rfl | exact Or.inr rfl | exact zB_or | assumption) ?_
              exfalso
              omega
          · refine zx_pc (pc1 := 29) rfl ?_
            refine zx_aload_n (i := 0) dX11_doInputsFit_29 rfl rfl ?_
            refine zx_getfield dX11_doInputsFit_30 zf_X11_10 ho rfl ?_
            refine zx_aload_n (i := 0) dX11_doInputsFit_33 rfl rfl ?_
            refine zx_getfield dX11_doInputsFit_34 zf_X11_10 ho rfl ?_
            refine zx_iload (i := 6) dX11_doInputsFit_37 rfl ?_
            refine zx_iv (b := t) (As := [zI (pk 2 f s u)]) (st := [zR t]) (v := (some (zI (tg N (pk 2 f s u) 0)))) (w1 := w) dX11_doInputsFit_39 zc_X11_110 hT.1 rfl rfl rfl (Nat.le_of_ble_eq_true rfl) rfl (c_X10_headOf hT (pk 2 f s u)) ?_
            refine zx_st (st1 := [zI (tg N (pk 2 f s u) 0), zR t]) rfl ?_
            refine zx_iv (b := t) (As := [zI (tg N (pk 2 f s u) 0)]) (st := []) (v := (some (zI (tg C (tg N (pk 2 f s u) 0) 0)))) (w1 := w) dX11_doInputsFit_42 zc_X11_173 hT.1 rfl rfl rfl (Nat.le_of_ble_eq_true rfl) rfl (c_X10_typeOfHead hT (tg N (pk 2 f s u) 0)) ?_
            refine zx_st (st1 := [zI (tg C (tg N (pk 2 f s u) 0) 0)]) rfl ?_
            refine zx_aload_n (i := 1) dX11_doInputsFit_45 rfl rfl ?_
            refine zx_getfield dX11_doInputsFit_46 zf_X11_349 hmd rfl ?_
            refine zx_iload (i := 5) dX11_doInputsFit_49 rfl ?_
            refine zx_iv (b := mr.1) (As := [zI 2]) (st := [zI (tg C (tg N (pk 2 f s u) 0) 0)]) (v := (some (zI (tg yr.2.1 2 0)))) (w1 := w) dX11_doInputsFit_51 zc_X11_191 hpr.1 rfl rfl rfl (Nat.le_of_ble_eq_true rfl) rfl (c_X6_typeAt hpr.1 hpr.2.1.1 hpr.2.1.2 2) ?_
            refine zx_st (st1 := [zI (tg yr.2.1 2 0), zI (tg C (tg N (pk 2 f s u) 0) 0)]) rfl ?_
            refine zx_icmp_ne (tgt := 61) dX11_doInputsFit_54 (by decide) (fun h54 => ?_) (fun h54 => ?_)
            · refine zx_pc (pc1 := 61) rfl ?_
              refine zx_iconst (v := 0) dX11_doInputsFit_61 rfl (z32_lit (by decide) (by decide)) ?_
              refine zx_goto (tgt := 75) dX11_doInputsFit_62 (by decide) ?_
              refine zx_istore (i := 7) dX11_doInputsFit_75 (by decide) rfl ?_
              refine zx_L (L1 := [some (zR o), some (zR md), some (zI f), some (zI s), some (zI u), some (zI 2), some (zI (pk 2 f s u)), some (zI 0)]) rfl ?_
              refine zx_iload (i := 7) dX11_doInputsFit_77 rfl ?_
              refine zx_if_ne (tgt := 84) dX11_doInputsFit_79 (by decide) (fun h79 => absurd h79 (by decide)) (fun h79 => ?_)
              refine zx_iconst (v := 0) dX11_doInputsFit_82 rfl (z32_lit (by decide) (by decide)) ?_
              refine zx_zret dX11_doInputsFit_83 rfl (by first | exact Or.inl rfl | exact Or.inr rfl | exact zB_or | assumption) ?_
              exact zr_v rfl rfl
            · refine zx_pc (pc1 := 57) rfl ?_
              refine zx_iconst (v := 1) dX11_doInputsFit_57 rfl (z32_lit (by decide) (by decide)) ?_
              refine zx_goto (tgt := 75) dX11_doInputsFit_58 (by decide) ?_
              refine zx_istore (i := 7) dX11_doInputsFit_75 (by decide) rfl ?_
              refine zx_L (L1 := [some (zR o), some (zR md), some (zI f), some (zI s), some (zI u), some (zI 2), some (zI (pk 2 f s u)), some (zI 1)]) rfl ?_
              refine zx_iload (i := 7) dX11_doInputsFit_77 rfl ?_
              refine zx_if_ne (tgt := 84) dX11_doInputsFit_79 (by decide) (fun h79 => ?_) (fun h79 => absurd (by decide) h79)
              refine zx_iinc (i := 5) (v := 3) dX11_doInputsFit_84 rfl (by decide +kernel) (by decide) rfl ?_
              refine zx_L (L1 := [some (zR o), some (zR md), some (zI f), some (zI s), some (zI u), some (zI 3), some (zI (pk 2 f s u)), some (zI 1)]) rfl ?_
              refine zx_goto (tgt := 3) dX11_doInputsFit_87 (by decide) ?_
              refine zx_iload (i := 5) dX11_doInputsFit_3 rfl ?_
              refine zx_iconst (v := 3) dX11_doInputsFit_5 rfl (z32_lit (by decide) (by decide)) ?_
              refine zx_icmp_ge (tgt := 90) dX11_doInputsFit_6 (by decide) (fun h6 => ?_) (fun h6 => absurd (by decide) h6)
              refine zx_iconst (v := 1) dX11_doInputsFit_90 rfl (z32_lit (by decide) (by decide)) ?_
              refine zx_zret dX11_doInputsFit_91 rfl (by first | exact Or.inl rfl | exact Or.inr rfl | exact zB_or | assumption) ?_
              exfalso
              omega
      · refine zx_aload_n (i := 0) dX11_doInputsFit_29 rfl rfl ?_
        refine zx_getfield dX11_doInputsFit_30 zf_X11_10 ho rfl ?_
        refine zx_aload_n (i := 0) dX11_doInputsFit_33 rfl rfl ?_
        refine zx_getfield dX11_doInputsFit_34 zf_X11_10 ho rfl ?_
        refine zx_iload (i := 6) dX11_doInputsFit_37 rfl ?_
        refine zx_iv (b := t) (As := [zI (pk 1 f s u)]) (st := [zR t]) (v := (some (zI (tg N (pk 1 f s u) 0)))) (w1 := w) dX11_doInputsFit_39 zc_X11_110 hT.1 rfl rfl rfl (Nat.le_of_ble_eq_true rfl) rfl (c_X10_headOf hT (pk 1 f s u)) ?_
        refine zx_st (st1 := [zI (tg N (pk 1 f s u) 0), zR t]) rfl ?_
        refine zx_iv (b := t) (As := [zI (tg N (pk 1 f s u) 0)]) (st := []) (v := (some (zI (tg C (tg N (pk 1 f s u) 0) 0)))) (w1 := w) dX11_doInputsFit_42 zc_X11_173 hT.1 rfl rfl rfl (Nat.le_of_ble_eq_true rfl) rfl (c_X10_typeOfHead hT (tg N (pk 1 f s u) 0)) ?_
        refine zx_st (st1 := [zI (tg C (tg N (pk 1 f s u) 0) 0)]) rfl ?_
        refine zx_aload_n (i := 1) dX11_doInputsFit_45 rfl rfl ?_
        refine zx_getfield dX11_doInputsFit_46 zf_X11_349 hmd rfl ?_
        refine zx_iload (i := 5) dX11_doInputsFit_49 rfl ?_
        refine zx_pc (pc1 := 51) rfl ?_
        refine zx_iv (b := mr.1) (As := [zI 1]) (st := [zI (tg C (tg N (pk 1 f s u) 0) 0)]) (v := (some (zI (tg yr.2.1 1 0)))) (w1 := w) dX11_doInputsFit_51 zc_X11_191 hpr.1 rfl rfl rfl (Nat.le_of_ble_eq_true rfl) rfl (c_X6_typeAt hpr.1 hpr.2.1.1 hpr.2.1.2 1) ?_
        refine zx_st (st1 := [zI (tg yr.2.1 1 0), zI (tg C (tg N (pk 1 f s u) 0) 0)]) rfl ?_
        refine zx_icmp_ne (tgt := 61) dX11_doInputsFit_54 (by decide) (fun h54 => ?_) (fun h54 => ?_)
        · refine zx_iconst (v := 0) dX11_doInputsFit_61 rfl (z32_lit (by decide) (by decide)) ?_
          refine zx_goto (tgt := 75) dX11_doInputsFit_62 (by decide) ?_
          refine zx_istore (i := 7) dX11_doInputsFit_75 (by decide) rfl ?_
          refine zx_L (L1 := [some (zR o), some (zR md), some (zI f), some (zI s), some (zI u), some (zI 1), some (zI (pk 1 f s u)), some (zI 0)]) rfl ?_
          refine zx_iload (i := 7) dX11_doInputsFit_77 rfl ?_
          refine zx_if_ne (tgt := 84) dX11_doInputsFit_79 (by decide) (fun h79 => absurd h79 (by decide)) (fun h79 => ?_)
          refine zx_iconst (v := 0) dX11_doInputsFit_82 rfl (z32_lit (by decide) (by decide)) ?_
          refine zx_zret dX11_doInputsFit_83 rfl (by first | exact Or.inl rfl | exact Or.inr rfl | exact zB_or | assumption) ?_
          exact zr_v rfl rfl
        · refine zx_iconst (v := 1) dX11_doInputsFit_57 rfl (z32_lit (by decide) (by decide)) ?_
          refine zx_goto (tgt := 75) dX11_doInputsFit_58 (by decide) ?_
          refine zx_istore (i := 7) dX11_doInputsFit_75 (by decide) rfl ?_
          refine zx_L (L1 := [some (zR o), some (zR md), some (zI f), some (zI s), some (zI u), some (zI 1), some (zI (pk 1 f s u)), some (zI 1)]) rfl ?_
          refine zx_iload (i := 7) dX11_doInputsFit_77 rfl ?_
          refine zx_if_ne (tgt := 84) dX11_doInputsFit_79 (by decide) (fun h79 => ?_) (fun h79 => absurd (by decide) h79)
          refine zx_iinc (i := 5) (v := 2) dX11_doInputsFit_84 rfl (by decide +kernel) (by decide) rfl ?_
          refine zx_L (L1 := [some (zR o), some (zR md), some (zI f), some (zI s), some (zI u), some (zI 2), some (zI (pk 1 f s u)), some (zI 1)]) rfl ?_
          refine zx_goto (tgt := 3) dX11_doInputsFit_87 (by decide) ?_
          refine zx_iload (i := 5) dX11_doInputsFit_3 rfl ?_
          refine zx_iconst (v := 3) dX11_doInputsFit_5 rfl (z32_lit (by decide) (by decide)) ?_
          refine zx_icmp_ge (tgt := 90) dX11_doInputsFit_6 (by decide) (fun h6 => absurd h6 (by decide)) (fun h6 => ?_)
          refine zx_pc (pc1 := 9) rfl ?_
          refine zx_iload (i := 5) dX11_doInputsFit_9 rfl ?_
          refine zx_iload_n (i := 2) dX11_doInputsFit_11 rfl rfl ?_
          refine zx_iload_n (i := 3) dX11_doInputsFit_12 rfl rfl ?_
          refine zx_iload (i := 4) dX11_doInputsFit_13 rfl ?_
          refine zx_is (As := [zI 2, zI f, zI s, zI u]) (st := []) (v := (some (zI (pk 2 f s u)))) (w1 := w) dX11_doInputsFit_15 zc_X11_342 rfl (Nat.le_of_ble_eq_true rfl) rfl (c_X11_pick 2 f s u) ?_
          refine zx_st (st1 := [zI (pk 2 f s u)]) rfl ?_
          refine zx_istore (i := 6) dX11_doInputsFit_18 (by decide) rfl ?_
          refine zx_L (L1 := [some (zR o), some (zR md), some (zI f), some (zI s), some (zI u), some (zI 2), some (zI (pk 2 f s u)), some (zI 1)]) rfl ?_
          refine zx_aload_n (i := 1) dX11_doInputsFit_20 rfl rfl ?_
          refine zx_iload (i := 5) dX11_doInputsFit_21 rfl ?_
          refine zx_iv (b := md) (As := [zI 2]) (st := []) (v := (some (zI (zB (0 ≤ (2 : Int) ∧ (2 : Int) < 3 ∧ zand (zshr mr.2.2.1 (2 : Int)) 1 = 1))))) (w1 := w) dX11_doInputsFit_23 zc_X11_339 hmd rfl rfl rfl (Nat.le_of_ble_eq_true rfl) rfl (c_X5_isInput hmd 2) ?_
          refine zx_st (st1 := [zI (zB (0 ≤ (2 : Int) ∧ (2 : Int) < 3 ∧ zand (zshr mr.2.2.1 (2 : Int)) 1 = 1))]) rfl ?_
          refine zx_if_eq (tgt := 65) dX11_doInputsFit_26 (by decide) (fun h26_5 => ?_) (fun h26_5 => ?_)
          · refine zx_iload (i := 6) dX11_doInputsFit_65 rfl ?_
            refine zx_if_ne (tgt := 74) dX11_doInputsFit_67 (by decide) (fun h67_6 => ?_) (fun h67_6 => ?_)
            · refine zx_pc (pc1 := 74) rfl ?_
              refine zx_iconst (v := 0) dX11_doInputsFit_74 rfl (z32_lit (by decide) (by decide)) ?_
              refine zx_istore (i := 7) dX11_doInputsFit_75 (by decide) rfl ?_
              refine zx_L (L1 := [some (zR o), some (zR md), some (zI f), some (zI s), some (zI u), some (zI 2), some (zI (pk 2 f s u)), some (zI 0)]) rfl ?_
              refine zx_iload (i := 7) dX11_doInputsFit_77 rfl ?_
              refine zx_if_ne (tgt := 84) dX11_doInputsFit_79 (by decide) (fun h79 => absurd h79 (by decide)) (fun h79 => ?_)
              refine zx_iconst (v := 0) dX11_doInputsFit_82 rfl (z32_lit (by decide) (by decide)) ?_
              refine zx_zret dX11_doInputsFit_83 rfl (by first | exact Or.inl rfl | exact Or.inr rfl | exact zB_or | assumption) ?_
              exact zr_v rfl rfl
            · refine zx_pc (pc1 := 70) rfl ?_
              refine zx_iconst (v := 1) dX11_doInputsFit_70 rfl (z32_lit (by decide) (by decide)) ?_
              refine zx_goto (tgt := 75) dX11_doInputsFit_71 (by decide) ?_
              refine zx_istore (i := 7) dX11_doInputsFit_75 (by decide) rfl ?_
              refine zx_L (L1 := [some (zR o), some (zR md), some (zI f), some (zI s), some (zI u), some (zI 2), some (zI (pk 2 f s u)), some (zI 1)]) rfl ?_
              refine zx_iload (i := 7) dX11_doInputsFit_77 rfl ?_
              refine zx_if_ne (tgt := 84) dX11_doInputsFit_79 (by decide) (fun h79 => ?_) (fun h79 => absurd (by decide) h79)
              refine zx_iinc (i := 5) (v := 3) dX11_doInputsFit_84 rfl (by decide +kernel) (by decide) rfl ?_
              refine zx_L (L1 := [some (zR o), some (zR md), some (zI f), some (zI s), some (zI u), some (zI 3), some (zI (pk 2 f s u)), some (zI 1)]) rfl ?_
              refine zx_goto (tgt := 3) dX11_doInputsFit_87 (by decide) ?_
              refine zx_iload (i := 5) dX11_doInputsFit_3 rfl ?_
              refine zx_iconst (v := 3) dX11_doInputsFit_5 rfl (z32_lit (by decide) (by decide)) ?_
              refine zx_icmp_ge (tgt := 90) dX11_doInputsFit_6 (by decide) (fun h6 => ?_) (fun h6 => absurd (by decide) h6)
              refine zx_iconst (v := 1) dX11_doInputsFit_90 rfl (z32_lit (by decide) (by decide)) ?_
              refine zx_zret dX11_doInputsFit_91 rfl (by first | exact Or.inl rfl | exact Or.inr rfl | exact zB_or | assumption) ?_
              exfalso
              omega
          · refine zx_aload_n (i := 0) dX11_doInputsFit_29 rfl rfl ?_
            refine zx_getfield dX11_doInputsFit_30 zf_X11_10 ho rfl ?_
            refine zx_pc (pc1 := 33) rfl ?_
            refine zx_aload_n (i := 0) dX11_doInputsFit_33 rfl rfl ?_
            refine zx_getfield dX11_doInputsFit_34 zf_X11_10 ho rfl ?_
            refine zx_iload (i := 6) dX11_doInputsFit_37 rfl ?_
            refine zx_iv (b := t) (As := [zI (pk 2 f s u)]) (st := [zR t]) (v := (some (zI (tg N (pk 2 f s u) 0)))) (w1 := w) dX11_doInputsFit_39 zc_X11_110 hT.1 rfl rfl rfl (Nat.le_of_ble_eq_true rfl) rfl (c_X10_headOf hT (pk 2 f s u)) ?_
            refine zx_st (st1 := [zI (tg N (pk 2 f s u) 0), zR t]) rfl ?_
            refine zx_iv (b := t) (As := [zI (tg N (pk 2 f s u) 0)]) (st := []) (v := (some (zI (tg C (tg N (pk 2 f s u) 0) 0)))) (w1 := w) dX11_doInputsFit_42 zc_X11_173 hT.1 rfl rfl rfl (Nat.le_of_ble_eq_true rfl) rfl (c_X10_typeOfHead hT (tg N (pk 2 f s u) 0)) ?_
            refine zx_st (st1 := [zI (tg C (tg N (pk 2 f s u) 0) 0)]) rfl ?_
            refine zx_aload_n (i := 1) dX11_doInputsFit_45 rfl rfl ?_
            refine zx_getfield dX11_doInputsFit_46 zf_X11_349 hmd rfl ?_
            refine zx_iload (i := 5) dX11_doInputsFit_49 rfl ?_
            refine zx_iv (b := mr.1) (As := [zI 2]) (st := [zI (tg C (tg N (pk 2 f s u) 0) 0)]) (v := (some (zI (tg yr.2.1 2 0)))) (w1 := w) dX11_doInputsFit_51 zc_X11_191 hpr.1 rfl rfl rfl (Nat.le_of_ble_eq_true rfl) rfl (c_X6_typeAt hpr.1 hpr.2.1.1 hpr.2.1.2 2) ?_
            refine zx_st (st1 := [zI (tg yr.2.1 2 0), zI (tg C (tg N (pk 2 f s u) 0) 0)]) rfl ?_
            refine zx_icmp_ne (tgt := 61) dX11_doInputsFit_54 (by decide) (fun h54_7 => ?_) (fun h54_7 => ?_)
            · refine zx_iconst (v := 0) dX11_doInputsFit_61 rfl (z32_lit (by decide) (by decide)) ?_
              refine zx_goto (tgt := 75) dX11_doInputsFit_62 (by decide) ?_
              refine zx_pc (pc1 := 75) rfl ?_
              refine zx_istore (i := 7) dX11_doInputsFit_75 (by decide) rfl ?_
              refine zx_L (L1 := [some (zR o), some (zR md), some (zI f), some (zI s), some (zI u), some (zI 2), some (zI (pk 2 f s u)), some (zI 0)]) rfl ?_
              refine zx_iload (i := 7) dX11_doInputsFit_77 rfl ?_
              refine zx_if_ne (tgt := 84) dX11_doInputsFit_79 (by decide) (fun h79 => absurd h79 (by decide)) (fun h79 => ?_)
              refine zx_iconst (v := 0) dX11_doInputsFit_82 rfl (z32_lit (by decide) (by decide)) ?_
              refine zx_zret dX11_doInputsFit_83 rfl (by first | exact Or.inl rfl | exact Or.inr rfl | exact zB_or | assumption) ?_
              exact zr_v rfl rfl
            · refine zx_iconst (v := 1) dX11_doInputsFit_57 rfl (z32_lit (by decide) (by decide)) ?_
              refine zx_goto (tgt := 75) dX11_doInputsFit_58 (by decide) ?_
              refine zx_pc (pc1 := 75) rfl ?_
              refine zx_istore (i := 7) dX11_doInputsFit_75 (by decide) rfl ?_
              refine zx_L (L1 := [some (zR o), some (zR md), some (zI f), some (zI s), some (zI u), some (zI 2), some (zI (pk 2 f s u)), some (zI 1)]) rfl ?_
              refine zx_iload (i := 7) dX11_doInputsFit_77 rfl ?_
              refine zx_if_ne (tgt := 84) dX11_doInputsFit_79 (by decide) (fun h79 => ?_) (fun h79 => absurd (by decide) h79)
              refine zx_iinc (i := 5) (v := 3) dX11_doInputsFit_84 rfl (by decide +kernel) (by decide) rfl ?_
              refine zx_L (L1 := [some (zR o), some (zR md), some (zI f), some (zI s), some (zI u), some (zI 3), some (zI (pk 2 f s u)), some (zI 1)]) rfl ?_
              refine zx_goto (tgt := 3) dX11_doInputsFit_87 (by decide) ?_
              refine zx_iload (i := 5) dX11_doInputsFit_3 rfl ?_
              refine zx_iconst (v := 3) dX11_doInputsFit_5 rfl (z32_lit (by decide) (by decide)) ?_
              refine zx_icmp_ge (tgt := 90) dX11_doInputsFit_6 (by decide) (fun h6 => ?_) (fun h6 => absurd (by decide) h6)
              refine zx_iconst (v := 1) dX11_doInputsFit_90 rfl (z32_lit (by decide) (by decide)) ?_
              refine zx_zret dX11_doInputsFit_91 rfl (by first | exact Or.inl rfl | exact Or.inr rfl | exact zB_or | assumption) ?_
              exfalso
              omega
  · refine zx_aload_n (i := 0) dX11_doInputsFit_29 rfl rfl ?_
    refine zx_getfield dX11_doInputsFit_30 zf_X11_10 ho rfl ?_
    refine zx_aload_n (i := 0) dX11_doInputsFit_33 rfl rfl ?_
    refine zx_getfield dX11_doInputsFit_34 zf_X11_10 ho rfl ?_
    refine zx_iload (i := 6) dX11_doInputsFit_37 rfl ?_
    refine zx_iv (b := t) (As := [zI (pk 0 f s u)]) (st := [zR t]) (v := (some (zI (tg N (pk 0 f s u) 0)))) (w1 := w) dX11_doInputsFit_39 zc_X11_110 hT.1 rfl rfl rfl (Nat.le_of_ble_eq_true rfl) rfl (c_X10_headOf hT (pk 0 f s u)) ?_
    refine zx_st (st1 := [zI (tg N (pk 0 f s u) 0), zR t]) rfl ?_
    refine zx_iv (b := t) (As := [zI (tg N (pk 0 f s u) 0)]) (st := []) (v := (some (zI (tg C (tg N (pk 0 f s u) 0) 0)))) (w1 := w) dX11_doInputsFit_42 zc_X11_173 hT.1 rfl rfl rfl (Nat.le_of_ble_eq_true rfl) rfl (c_X10_typeOfHead hT (tg N (pk 0 f s u) 0)) ?_
    refine zx_st (st1 := [zI (tg C (tg N (pk 0 f s u) 0) 0)]) rfl ?_
    refine zx_aload_n (i := 1) dX11_doInputsFit_45 rfl rfl ?_
    refine zx_pc (pc1 := 46) rfl ?_
    refine zx_getfield dX11_doInputsFit_46 zf_X11_349 hmd rfl ?_
    refine zx_iload (i := 5) dX11_doInputsFit_49 rfl ?_
    refine zx_iv (b := mr.1) (As := [zI 0]) (st := [zI (tg C (tg N (pk 0 f s u) 0) 0)]) (v := (some (zI (tg yr.2.1 0 0)))) (w1 := w) dX11_doInputsFit_51 zc_X11_191 hpr.1 rfl rfl rfl (Nat.le_of_ble_eq_true rfl) rfl (c_X6_typeAt hpr.1 hpr.2.1.1 hpr.2.1.2 0) ?_
    refine zx_st (st1 := [zI (tg yr.2.1 0 0), zI (tg C (tg N (pk 0 f s u) 0) 0)]) rfl ?_
    refine zx_icmp_ne (tgt := 61) dX11_doInputsFit_54 (by decide) (fun h54 => ?_) (fun h54 => ?_)
    · refine zx_iconst (v := 0) dX11_doInputsFit_61 rfl (z32_lit (by decide) (by decide)) ?_
      refine zx_goto (tgt := 75) dX11_doInputsFit_62 (by decide) ?_
      refine zx_istore (i := 7) dX11_doInputsFit_75 (by decide) rfl ?_
      refine zx_L (L1 := [some (zR o), some (zR md), some (zI f), some (zI s), some (zI u), some (zI 0), some (zI (pk 0 f s u)), some (zI 0)]) rfl ?_
      refine zx_iload (i := 7) dX11_doInputsFit_77 rfl ?_
      refine zx_if_ne (tgt := 84) dX11_doInputsFit_79 (by decide) (fun h79 => absurd h79 (by decide)) (fun h79 => ?_)
      refine zx_iconst (v := 0) dX11_doInputsFit_82 rfl (z32_lit (by decide) (by decide)) ?_
      refine zx_zret dX11_doInputsFit_83 rfl (by first | exact Or.inl rfl | exact Or.inr rfl | exact zB_or | assumption) ?_
      exact zr_v rfl rfl
    · refine zx_iconst (v := 1) dX11_doInputsFit_57 rfl (z32_lit (by decide) (by decide)) ?_
      refine zx_goto (tgt := 75) dX11_doInputsFit_58 (by decide) ?_
      refine zx_istore (i := 7) dX11_doInputsFit_75 (by decide) rfl ?_
      refine zx_L (L1 := [some (zR o), some (zR md), some (zI f), some (zI s), some (zI u), some (zI 0), some (zI (pk 0 f s u)), some (zI 1)]) rfl ?_
      refine zx_iload (i := 7) dX11_doInputsFit_77 rfl ?_
      refine zx_if_ne (tgt := 84) dX11_doInputsFit_79 (by decide) (fun h79 => ?_) (fun h79 => absurd (by decide) h79)
      refine zx_iinc (i := 5) (v := 1) dX11_doInputsFit_84 rfl (by decide +kernel) (by decide) rfl ?_
      refine zx_L (L1 := [some (zR o), some (zR md), some (zI f), some (zI s), some (zI u), some (zI 1), some (zI (pk 0 f s u)), some (zI 1)]) rfl ?_
      refine zx_goto (tgt := 3) dX11_doInputsFit_87 (by decide) ?_
      refine zx_iload (i := 5) dX11_doInputsFit_3 rfl ?_
      refine zx_pc (pc1 := 5) rfl ?_
      refine zx_iconst (v := 3) dX11_doInputsFit_5 rfl (z32_lit (by decide) (by decide)) ?_
      refine zx_icmp_ge (tgt := 90) dX11_doInputsFit_6 (by decide) (fun h6 => absurd h6 (by decide)) (fun h6 => ?_)
      refine zx_iload (i := 5) dX11_doInputsFit_9 rfl ?_
      refine zx_iload_n (i := 2) dX11_doInputsFit_11 rfl rfl ?_
      refine zx_iload_n (i := 3) dX11_doInputsFit_12 rfl rfl ?_
      refine zx_iload (i := 4) dX11_doInputsFit_13 rfl ?_
      refine zx_is (As := [zI 1, zI f, zI s, zI u]) (st := []) (v := (some (zI (pk 1 f s u)))) (w1 := w) dX11_doInputsFit_15 zc_X11_342 rfl (Nat.le_of_ble_eq_true rfl) rfl (c_X11_pick 1 f s u) ?_
      refine zx_st (st1 := [zI (pk 1 f s u)]) rfl ?_
      refine zx_istore (i := 6) dX11_doInputsFit_18 (by decide) rfl ?_
      refine zx_L (L1 := [some (zR o), some (zR md), some (zI f), some (zI s), some (zI u), some (zI 1), some (zI (pk 1 f s u)), some (zI 1)]) rfl ?_
      refine zx_aload_n (i := 1) dX11_doInputsFit_20 rfl rfl ?_
      refine zx_iload (i := 5) dX11_doInputsFit_21 rfl ?_
      refine zx_iv (b := md) (As := [zI 1]) (st := []) (v := (some (zI (zB (0 ≤ (1 : Int) ∧ (1 : Int) < 3 ∧ zand (zshr mr.2.2.1 (1 : Int)) 1 = 1))))) (w1 := w) dX11_doInputsFit_23 zc_X11_339 hmd rfl rfl rfl (Nat.le_of_ble_eq_true rfl) rfl (c_X5_isInput hmd 1) ?_
      refine zx_st (st1 := [zI (zB (0 ≤ (1 : Int) ∧ (1 : Int) < 3 ∧ zand (zshr mr.2.2.1 (1 : Int)) 1 = 1))]) rfl ?_
      refine zx_if_eq (tgt := 65) dX11_doInputsFit_26 (by decide) (fun h26_8 => ?_) (fun h26_8 => ?_)
      · refine zx_pc (pc1 := 65) rfl ?_
        refine zx_iload (i := 6) dX11_doInputsFit_65 rfl ?_
        refine zx_if_ne (tgt := 74) dX11_doInputsFit_67 (by decide) (fun h67 => ?_) (fun h67 => ?_)
        · refine zx_iconst (v := 0) dX11_doInputsFit_74 rfl (z32_lit (by decide) (by decide)) ?_
          refine zx_istore (i := 7) dX11_doInputsFit_75 (by decide) rfl ?_
          refine zx_L (L1 := [some (zR o), some (zR md), some (zI f), some (zI s), some (zI u), some (zI 1), some (zI (pk 1 f s u)), some (zI 0)]) rfl ?_
          refine zx_iload (i := 7) dX11_doInputsFit_77 rfl ?_
          refine zx_if_ne (tgt := 84) dX11_doInputsFit_79 (by decide) (fun h79 => absurd h79 (by decide)) (fun h79 => ?_)
          refine zx_iconst (v := 0) dX11_doInputsFit_82 rfl (z32_lit (by decide) (by decide)) ?_
          refine zx_zret dX11_doInputsFit_83 rfl (by first | exact Or.inl rfl | exact Or.inr rfl | exact zB_or | assumption) ?_
          exact zr_v rfl rfl
        · refine zx_iconst (v := 1) dX11_doInputsFit_70 rfl (z32_lit (by decide) (by decide)) ?_
          refine zx_goto (tgt := 75) dX11_doInputsFit_71 (by decide) ?_
          refine zx_istore (i := 7) dX11_doInputsFit_75 (by decide) rfl ?_
          refine zx_L (L1 := [some (zR o), some (zR md), some (zI f), some (zI s), some (zI u), some (zI 1), some (zI (pk 1 f s u)), some (zI 1)]) rfl ?_
          refine zx_iload (i := 7) dX11_doInputsFit_77 rfl ?_
          refine zx_if_ne (tgt := 84) dX11_doInputsFit_79 (by decide) (fun h79 => ?_) (fun h79 => absurd (by decide) h79)
          refine zx_iinc (i := 5) (v := 2) dX11_doInputsFit_84 rfl (by decide +kernel) (by decide) rfl ?_
          refine zx_L (L1 := [some (zR o), some (zR md), some (zI f), some (zI s), some (zI u), some (zI 2), some (zI (pk 1 f s u)), some (zI 1)]) rfl ?_
          refine zx_goto (tgt := 3) dX11_doInputsFit_87 (by decide) ?_
          refine zx_iload (i := 5) dX11_doInputsFit_3 rfl ?_
          refine zx_iconst (v := 3) dX11_doInputsFit_5 rfl (z32_lit (by decide) (by decide)) ?_
          refine zx_icmp_ge (tgt := 90) dX11_doInputsFit_6 (by decide) (fun h6 => absurd h6 (by decide)) (fun h6 => ?_)
          refine zx_pc (pc1 := 9) rfl ?_
          refine zx_iload (i := 5) dX11_doInputsFit_9 rfl ?_
          refine zx_iload_n (i := 2) dX11_doInputsFit_11 rfl rfl ?_
          refine zx_iload_n (i := 3) dX11_doInputsFit_12 rfl rfl ?_
          refine zx_iload (i := 4) dX11_doInputsFit_13 rfl ?_
          refine zx_is (As := [zI 2, zI f, zI s, zI u]) (st := []) (v := (some (zI (pk 2 f s u)))) (w1 := w) dX11_doInputsFit_15 zc_X11_342 rfl (Nat.le_of_ble_eq_true rfl) rfl (c_X11_pick 2 f s u) ?_
          refine zx_st (st1 := [zI (pk 2 f s u)]) rfl ?_
          refine zx_istore (i := 6) dX11_doInputsFit_18 (by decide) rfl ?_
          refine zx_L (L1 := [some (zR o), some (zR md), some (zI f), some (zI s), some (zI u), some (zI 2), some (zI (pk 2 f s u)), some (zI 1)]) rfl ?_
          refine zx_aload_n (i := 1) dX11_doInputsFit_20 rfl rfl ?_
          refine zx_iload (i := 5) dX11_doInputsFit_21 rfl ?_
          refine zx_iv (b := md) (As := [zI 2]) (st := []) (v := (some (zI (zB (0 ≤ (2 : Int) ∧ (2 : Int) < 3 ∧ zand (zshr mr.2.2.1 (2 : Int)) 1 = 1))))) (w1 := w) dX11_doInputsFit_23 zc_X11_339 hmd rfl rfl rfl (Nat.le_of_ble_eq_true rfl) rfl (c_X5_isInput hmd 2) ?_
          refine zx_st (st1 := [zI (zB (0 ≤ (2 : Int) ∧ (2 : Int) < 3 ∧ zand (zshr mr.2.2.1 (2 : Int)) 1 = 1))]) rfl ?_
          refine zx_if_eq (tgt := 65) dX11_doInputsFit_26 (by decide) (fun h26_9 => ?_) (fun h26_9 => ?_)
          · refine zx_iload (i := 6) dX11_doInputsFit_65 rfl ?_
            refine zx_if_ne (tgt := 74) dX11_doInputsFit_67 (by decide) (fun h67_10 => ?_) (fun h67_10 => ?_)
            · refine zx_pc (pc1 := 74) rfl ?_
              refine zx_iconst (v := 0) dX11_doInputsFit_74 rfl (z32_lit (by decide) (by decide)) ?_
              refine zx_istore (i := 7) dX11_doInputsFit_75 (by decide) rfl ?_
              refine zx_L (L1 := [some (zR o), some (zR md), some (zI f), some (zI s), some (zI u), some (zI 2), some (zI (pk 2 f s u)), some (zI 0)]) rfl ?_
              refine zx_iload (i := 7) dX11_doInputsFit_77 rfl ?_
              refine zx_if_ne (tgt := 84) dX11_doInputsFit_79 (by decide) (fun h79 => absurd h79 (by decide)) (fun h79 => ?_)
              refine zx_iconst (v := 0) dX11_doInputsFit_82 rfl (z32_lit (by decide) (by decide)) ?_
              refine zx_zret dX11_doInputsFit_83 rfl (by first | exact Or.inl rfl | exact Or.inr rfl | exact zB_or | assumption) ?_
              exact zr_v rfl rfl
            · refine zx_pc (pc1 := 70) rfl ?_
              refine zx_iconst (v := 1) dX11_doInputsFit_70 rfl (z32_lit (by decide) (by decide)) ?_
              refine zx_goto (tgt := 75) dX11_doInputsFit_71 (by decide) ?_
              refine zx_istore (i := 7) dX11_doInputsFit_75 (by decide) rfl ?_
              refine zx_L (L1 := [some (zR o), some (zR md), some (zI f), some (zI s), some (zI u), some (zI 2), some (zI (pk 2 f s u)), some (zI 1)]) rfl ?_
              refine zx_iload (i := 7) dX11_doInputsFit_77 rfl ?_
              refine zx_if_ne (tgt := 84) dX11_doInputsFit_79 (by decide) (fun h79 => ?_) (fun h79 => absurd (by decide) h79)
              refine zx_iinc (i := 5) (v := 3) dX11_doInputsFit_84 rfl (by decide +kernel) (by decide) rfl ?_
              refine zx_L (L1 := [some (zR o), some (zR md), some (zI f), some (zI s), some (zI u), some (zI 3), some (zI (pk 2 f s u)), some (zI 1)]) rfl ?_
              refine zx_goto (tgt := 3) dX11_doInputsFit_87 (by decide) ?_
              refine zx_iload (i := 5) dX11_doInputsFit_3 rfl ?_
              refine zx_iconst (v := 3) dX11_doInputsFit_5 rfl (z32_lit (by decide) (by decide)) ?_
              refine zx_icmp_ge (tgt := 90) dX11_doInputsFit_6 (by decide) (fun h6 => ?_) (fun h6 => absurd (by decide) h6)
              refine zx_iconst (v := 1) dX11_doInputsFit_90 rfl (z32_lit (by decide) (by decide)) ?_
              refine zx_zret dX11_doInputsFit_91 rfl (by first | exact Or.inl rfl | exact Or.inr rfl | exact zB_or | assumption) ?_
              exfalso
              omega
          · refine zx_aload_n (i := 0) dX11_doInputsFit_29 rfl rfl ?_
            refine zx_getfield dX11_doInputsFit_30 zf_X11_10 ho rfl ?_
            refine zx_pc (pc1 := 33) rfl ?_
            refine zx_aload_n (i := 0) dX11_doInputsFit_33 rfl rfl ?_
            refine zx_getfield dX11_doInputsFit_34 zf_X11_10 ho rfl ?_
            refine zx_iload (i := 6) dX11_doInputsFit_37 rfl ?_
            refine zx_iv (b := t) (As := [zI (pk 2 f s u)]) (st := [zR t]) (v := (some (zI (tg N (pk 2 f s u) 0)))) (w1 := w) dX11_doInputsFit_39 zc_X11_110 hT.1 rfl rfl rfl (Nat.le_of_ble_eq_true rfl) rfl (c_X10_headOf hT (pk 2 f s u)) ?_
            refine zx_st (st1 := [zI (tg N (pk 2 f s u) 0), zR t]) rfl ?_
            refine zx_iv (b := t) (As := [zI (tg N (pk 2 f s u) 0)]) (st := []) (v := (some (zI (tg C (tg N (pk 2 f s u) 0) 0)))) (w1 := w) dX11_doInputsFit_42 zc_X11_173 hT.1 rfl rfl rfl (Nat.le_of_ble_eq_true rfl) rfl (c_X10_typeOfHead hT (tg N (pk 2 f s u) 0)) ?_
            refine zx_st (st1 := [zI (tg C (tg N (pk 2 f s u) 0) 0)]) rfl ?_
            refine zx_aload_n (i := 1) dX11_doInputsFit_45 rfl rfl ?_
            refine zx_getfield dX11_doInputsFit_46 zf_X11_349 hmd rfl ?_
            refine zx_iload (i := 5) dX11_doInputsFit_49 rfl ?_
            refine zx_iv (b := mr.1) (As := [zI 2]) (st := [zI (tg C (tg N (pk 2 f s u) 0) 0)]) (v := (some (zI (tg yr.2.1 2 0)))) (w1 := w) dX11_doInputsFit_51 zc_X11_191 hpr.1 rfl rfl rfl (Nat.le_of_ble_eq_true rfl) rfl (c_X6_typeAt hpr.1 hpr.2.1.1 hpr.2.1.2 2) ?_
            refine zx_st (st1 := [zI (tg yr.2.1 2 0), zI (tg C (tg N (pk 2 f s u) 0) 0)]) rfl ?_
            refine zx_icmp_ne (tgt := 61) dX11_doInputsFit_54 (by decide) (fun h54_11 => ?_) (fun h54_11 => ?_)
            · refine zx_iconst (v := 0) dX11_doInputsFit_61 rfl (z32_lit (by decide) (by decide)) ?_
              refine zx_goto (tgt := 75) dX11_doInputsFit_62 (by decide) ?_
              refine zx_pc (pc1 := 75) rfl ?_
              refine zx_istore (i := 7) dX11_doInputsFit_75 (by decide) rfl ?_
              refine zx_L (L1 := [some (zR o), some (zR md), some (zI f), some (zI s), some (zI u), some (zI 2), some (zI (pk 2 f s u)), some (zI 0)]) rfl ?_
              refine zx_iload (i := 7) dX11_doInputsFit_77 rfl ?_
              refine zx_if_ne (tgt := 84) dX11_doInputsFit_79 (by decide) (fun h79 => absurd h79 (by decide)) (fun h79 => ?_)
              refine zx_iconst (v := 0) dX11_doInputsFit_82 rfl (z32_lit (by decide) (by decide)) ?_
              refine zx_zret dX11_doInputsFit_83 rfl (by first | exact Or.inl rfl | exact Or.inr rfl | exact zB_or | assumption) ?_
              exact zr_v rfl rfl
            · refine zx_iconst (v := 1) dX11_doInputsFit_57 rfl (z32_lit (by decide) (by decide)) ?_
              refine zx_goto (tgt := 75) dX11_doInputsFit_58 (by decide) ?_
              refine zx_pc (pc1 := 75) rfl ?_
              refine zx_istore (i := 7) dX11_doInputsFit_75 (by decide) rfl ?_
              refine zx_L (L1 := [some (zR o), some (zR md), some (zI f), some (zI s), some (zI u), some (zI 2), some (zI (pk 2 f s u)), some (zI 1)]) rfl ?_
              refine zx_iload (i := 7) dX11_doInputsFit_77 rfl ?_
              refine zx_if_ne (tgt := 84) dX11_doInputsFit_79 (by decide) (fun h79 => ?_) (fun h79 => absurd (by decide) h79)
              refine zx_iinc (i := 5) (v := 3) dX11_doInputsFit_84 rfl (by decide +kernel) (by decide) rfl ?_
              refine zx_L (L1 := [some (zR o), some (zR md), some (zI f), some (zI s), some (zI u), some (zI 3), some (zI (pk 2 f s u)), some (zI 1)]) rfl ?_
              refine zx_goto (tgt := 3) dX11_doInputsFit_87 (by decide) ?_
              refine zx_iload (i := 5) dX11_doInputsFit_3 rfl ?_
              refine zx_iconst (v := 3) dX11_doInputsFit_5 rfl (z32_lit (by decide) (by decide)) ?_
              refine zx_icmp_ge (tgt := 90) dX11_doInputsFit_6 (by decide) (fun h6 => ?_) (fun h6 => absurd (by decide) h6)
              refine zx_iconst (v := 1) dX11_doInputsFit_90 rfl (z32_lit (by decide) (by decide)) ?_
              refine zx_zret dX11_doInputsFit_91 rfl (by first | exact Or.inl rfl | exact Or.inr rfl | exact zB_or | assumption) ?_
              exfalso
              omega
      · refine zx_pc (pc1 := 29) rfl ?_
        refine zx_aload_n (i := 0) dX11_doInputsFit_29 rfl rfl ?_
        refine zx_getfield dX11_doInputsFit_30 zf_X11_10 ho rfl ?_
        refine zx_aload_n (i := 0) dX11_doInputsFit_33 rfl rfl ?_
        refine zx_getfield dX11_doInputsFit_34 zf_X11_10 ho rfl ?_
        refine zx_iload (i := 6) dX11_doInputsFit_37 rfl ?_
        refine zx_iv (b := t) (As := [zI (pk 1 f s u)]) (st := [zR t]) (v := (some (zI (tg N (pk 1 f s u) 0)))) (w1 := w) dX11_doInputsFit_39 zc_X11_110 hT.1 rfl rfl rfl (Nat.le_of_ble_eq_true rfl) rfl (c_X10_headOf hT (pk 1 f s u)) ?_
        refine zx_st (st1 := [zI (tg N (pk 1 f s u) 0), zR t]) rfl ?_
        refine zx_iv (b := t) (As := [zI (tg N (pk 1 f s u) 0)]) (st := []) (v := (some (zI (tg C (tg N (pk 1 f s u) 0) 0)))) (w1 := w) dX11_doInputsFit_42 zc_X11_173 hT.1 rfl rfl rfl (Nat.le_of_ble_eq_true rfl) rfl (c_X10_typeOfHead hT (tg N (pk 1 f s u) 0)) ?_
        refine zx_st (st1 := [zI (tg C (tg N (pk 1 f s u) 0) 0)]) rfl ?_
        refine zx_aload_n (i := 1) dX11_doInputsFit_45 rfl rfl ?_
        refine zx_getfield dX11_doInputsFit_46 zf_X11_349 hmd rfl ?_
        refine zx_iload (i := 5) dX11_doInputsFit_49 rfl ?_
        refine zx_iv (b := mr.1) (As := [zI 1]) (st := [zI (tg C (tg N (pk 1 f s u) 0) 0)]) (v := (some (zI (tg yr.2.1 1 0)))) (w1 := w) dX11_doInputsFit_51 zc_X11_191 hpr.1 rfl rfl rfl (Nat.le_of_ble_eq_true rfl) rfl (c_X6_typeAt hpr.1 hpr.2.1.1 hpr.2.1.2 1) ?_
        refine zx_st (st1 := [zI (tg yr.2.1 1 0), zI (tg C (tg N (pk 1 f s u) 0) 0)]) rfl ?_
        refine zx_icmp_ne (tgt := 61) dX11_doInputsFit_54 (by decide) (fun h54_12 => ?_) (fun h54_12 => ?_)
        · refine zx_pc (pc1 := 61) rfl ?_
          refine zx_iconst (v := 0) dX11_doInputsFit_61 rfl (z32_lit (by decide) (by decide)) ?_
          refine zx_goto (tgt := 75) dX11_doInputsFit_62 (by decide) ?_
          refine zx_istore (i := 7) dX11_doInputsFit_75 (by decide) rfl ?_
          refine zx_L (L1 := [some (zR o), some (zR md), some (zI f), some (zI s), some (zI u), some (zI 1), some (zI (pk 1 f s u)), some (zI 0)]) rfl ?_
          refine zx_iload (i := 7) dX11_doInputsFit_77 rfl ?_
          refine zx_if_ne (tgt := 84) dX11_doInputsFit_79 (by decide) (fun h79 => absurd h79 (by decide)) (fun h79 => ?_)
          refine zx_iconst (v := 0) dX11_doInputsFit_82 rfl (z32_lit (by decide) (by decide)) ?_
          refine zx_zret dX11_doInputsFit_83 rfl (by first | exact Or.inl rfl | exact Or.inr rfl | exact zB_or | assumption) ?_
          exact zr_v rfl rfl
        · refine zx_pc (pc1 := 57) rfl ?_
          refine zx_iconst (v := 1) dX11_doInputsFit_57 rfl (z32_lit (by decide) (by decide)) ?_
          refine zx_goto (tgt := 75) dX11_doInputsFit_58 (by decide) ?_
          refine zx_istore (i := 7) dX11_doInputsFit_75 (by decide) rfl ?_
          refine zx_L (L1 := [some (zR o), some (zR md), some (zI f), some (zI s), some (zI u), some (zI 1), some (zI (pk 1 f s u)), some (zI 1)]) rfl ?_
          refine zx_iload (i := 7) dX11_doInputsFit_77 rfl ?_
          refine zx_if_ne (tgt := 84) dX11_doInputsFit_79 (by decide) (fun h79 => ?_) (fun h79 => absurd (by decide) h79)
          refine zx_iinc (i := 5) (v := 2) dX11_doInputsFit_84 rfl (by decide +kernel) (by decide) rfl ?_
          refine zx_L (L1 := [some (zR o), some (zR md), some (zI f), some (zI s), some (zI u), some (zI 2), some (zI (pk 1 f s u)), some (zI 1)]) rfl ?_
          refine zx_goto (tgt := 3) dX11_doInputsFit_87 (by decide) ?_
          refine zx_iload (i := 5) dX11_doInputsFit_3 rfl ?_
          refine zx_iconst (v := 3) dX11_doInputsFit_5 rfl (z32_lit (by decide) (by decide)) ?_
          refine zx_icmp_ge (tgt := 90) dX11_doInputsFit_6 (by decide) (fun h6 => absurd h6 (by decide)) (fun h6 => ?_)
          refine zx_iload (i := 5) dX11_doInputsFit_9 rfl ?_
          refine zx_iload_n (i := 2) dX11_doInputsFit_11 rfl rfl ?_
          refine zx_pc (pc1 := 12) rfl ?_
          refine zx_iload_n (i := 3) dX11_doInputsFit_12 rfl rfl ?_
          refine zx_iload (i := 4) dX11_doInputsFit_13 rfl ?_
          refine zx_is (As := [zI 2, zI f, zI s, zI u]) (st := []) (v := (some (zI (pk 2 f s u)))) (w1 := w) dX11_doInputsFit_15 zc_X11_342 rfl (Nat.le_of_ble_eq_true rfl) rfl (c_X11_pick 2 f s u) ?_
          refine zx_st (st1 := [zI (pk 2 f s u)]) rfl ?_
          refine zx_istore (i := 6) dX11_doInputsFit_18 (by decide) rfl ?_
          refine zx_L (L1 := [some (zR o), some (zR md), some (zI f), some (zI s), some (zI u), some (zI 2), some (zI (pk 2 f s u)), some (zI 1)]) rfl ?_
          refine zx_aload_n (i := 1) dX11_doInputsFit_20 rfl rfl ?_
          refine zx_iload (i := 5) dX11_doInputsFit_21 rfl ?_
          refine zx_iv (b := md) (As := [zI 2]) (st := []) (v := (some (zI (zB (0 ≤ (2 : Int) ∧ (2 : Int) < 3 ∧ zand (zshr mr.2.2.1 (2 : Int)) 1 = 1))))) (w1 := w) dX11_doInputsFit_23 zc_X11_339 hmd rfl rfl rfl (Nat.le_of_ble_eq_true rfl) rfl (c_X5_isInput hmd 2) ?_
          refine zx_st (st1 := [zI (zB (0 ≤ (2 : Int) ∧ (2 : Int) < 3 ∧ zand (zshr mr.2.2.1 (2 : Int)) 1 = 1))]) rfl ?_
          refine zx_if_eq (tgt := 65) dX11_doInputsFit_26 (by decide) (fun h26_13 => ?_) (fun h26_13 => ?_)
          · refine zx_iload (i := 6) dX11_doInputsFit_65 rfl ?_
            refine zx_if_ne (tgt := 74) dX11_doInputsFit_67 (by decide) (fun h67 => ?_) (fun h67 => ?_)
            · refine zx_iconst (v := 0) dX11_doInputsFit_74 rfl (z32_lit (by decide) (by decide)) ?_
              refine zx_istore (i := 7) dX11_doInputsFit_75 (by decide) rfl ?_
              refine zx_L (L1 := [some (zR o), some (zR md), some (zI f), some (zI s), some (zI u), some (zI 2), some (zI (pk 2 f s u)), some (zI 0)]) rfl ?_
              refine zx_pc (pc1 := 77) rfl ?_
              refine zx_iload (i := 7) dX11_doInputsFit_77 rfl ?_
              refine zx_if_ne (tgt := 84) dX11_doInputsFit_79 (by decide) (fun h79 => absurd h79 (by decide)) (fun h79 => ?_)
              refine zx_iconst (v := 0) dX11_doInputsFit_82 rfl (z32_lit (by decide) (by decide)) ?_
              refine zx_zret dX11_doInputsFit_83 rfl (by first | exact Or.inl rfl | exact Or.inr rfl | exact zB_or | assumption) ?_
              exact zr_v rfl rfl
            · refine zx_iconst (v := 1) dX11_doInputsFit_70 rfl (z32_lit (by decide) (by decide)) ?_
              refine zx_goto (tgt := 75) dX11_doInputsFit_71 (by decide) ?_
              refine zx_pc (pc1 := 75) rfl ?_
              refine zx_istore (i := 7) dX11_doInputsFit_75 (by decide) rfl ?_
              refine zx_L (L1 := [some (zR o), some (zR md), some (zI f), some (zI s), some (zI u), some (zI 2), some (zI (pk 2 f s u)), some (zI 1)]) rfl ?_
              refine zx_iload (i := 7) dX11_doInputsFit_77 rfl ?_
              refine zx_if_ne (tgt := 84) dX11_doInputsFit_79 (by decide) (fun h79 => ?_) (fun h79 => absurd (by decide) h79)
              refine zx_iinc (i := 5) (v := 3) dX11_doInputsFit_84 rfl (by decide +kernel) (by decide) rfl ?_
              refine zx_L (L1 := [some (zR o), some (zR md), some (zI f), some (zI s), some (zI u), some (zI 3), some (zI (pk 2 f s u)), some (zI 1)]) rfl ?_
              refine zx_goto (tgt := 3) dX11_doInputsFit_87 (by decide) ?_
              refine zx_iload (i := 5) dX11_doInputsFit_3 rfl ?_
              refine zx_iconst (v := 3) dX11_doInputsFit_5 rfl (z32_lit (by decide) (by decide)) ?_
              refine zx_icmp_ge (tgt := 90) dX11_doInputsFit_6 (by decide) (fun h6 => ?_) (fun h6 => absurd (by decide) h6)
              refine zx_iconst (v := 1) dX11_doInputsFit_90 rfl (z32_lit (by decide) (by decide)) ?_
              refine zx_zret dX11_doInputsFit_91 rfl (by first | exact Or.inl rfl | exact Or.inr rfl | exact zB_or | assumption) ?_
              exfalso
              omega
          · refine zx_aload_n (i := 0) dX11_doInputsFit_29 rfl rfl ?_
            refine zx_getfield dX11_doInputsFit_30 zf_X11_10 ho rfl ?_
            refine zx_aload_n (i := 0) dX11_doInputsFit_33 rfl rfl ?_
            refine zx_getfield dX11_doInputsFit_34 zf_X11_10 ho rfl ?_
            refine zx_pc (pc1 := 37) rfl ?_
            refine zx_iload (i := 6) dX11_doInputsFit_37 rfl ?_
            refine zx_iv (b := t) (As := [zI (pk 2 f s u)]) (st := [zR t]) (v := (some (zI (tg N (pk 2 f s u) 0)))) (w1 := w) dX11_doInputsFit_39 zc_X11_110 hT.1 rfl rfl rfl (Nat.le_of_ble_eq_true rfl) rfl (c_X10_headOf hT (pk 2 f s u)) ?_
            refine zx_st (st1 := [zI (tg N (pk 2 f s u) 0), zR t]) rfl ?_
            refine zx_iv (b := t) (As := [zI (tg N (pk 2 f s u) 0)]) (st := []) (v := (some (zI (tg C (tg N (pk 2 f s u) 0) 0)))) (w1 := w) dX11_doInputsFit_42 zc_X11_173 hT.1 rfl rfl rfl (Nat.le_of_ble_eq_true rfl) rfl (c_X10_typeOfHead hT (tg N (pk 2 f s u) 0)) ?_
            refine zx_st (st1 := [zI (tg C (tg N (pk 2 f s u) 0) 0)]) rfl ?_
            refine zx_aload_n (i := 1) dX11_doInputsFit_45 rfl rfl ?_
            refine zx_getfield dX11_doInputsFit_46 zf_X11_349 hmd rfl ?_
            refine zx_iload (i := 5) dX11_doInputsFit_49 rfl ?_
            refine zx_iv (b := mr.1) (As := [zI 2]) (st := [zI (tg C (tg N (pk 2 f s u) 0) 0)]) (v := (some (zI (tg yr.2.1 2 0)))) (w1 := w) dX11_doInputsFit_51 zc_X11_191 hpr.1 rfl rfl rfl (Nat.le_of_ble_eq_true rfl) rfl (c_X6_typeAt hpr.1 hpr.2.1.1 hpr.2.1.2 2) ?_
            refine zx_st (st1 := [zI (tg yr.2.1 2 0), zI (tg C (tg N (pk 2 f s u) 0) 0)]) rfl ?_
            refine zx_icmp_ne (tgt := 61) dX11_doInputsFit_54 (by decide) (fun h54_14 => ?_) (fun h54_14 => ?_)
            · refine zx_iconst (v := 0) dX11_doInputsFit_61 rfl (z32_lit (by decide) (by decide)) ?_
              refine zx_goto (tgt := 75) dX11_doInputsFit_62 (by decide) ?_
              refine zx_istore (i := 7) dX11_doInputsFit_75 (by decide) rfl ?_
              refine zx_L (L1 := [some (zR o), some (zR md), some (zI f), some (zI s), some (zI u), some (zI 2), some (zI (pk 2 f s u)), some (zI 0)]) rfl ?_
              refine zx_iload (i := 7) dX11_doInputsFit_77 rfl ?_
              refine zx_pc (pc1 := 79) rfl ?_
              refine zx_if_ne (tgt := 84) dX11_doInputsFit_79 (by decide) (fun h79 => absurd h79 (by decide)) (fun h79 => ?_)
              refine zx_iconst (v := 0) dX11_doInputsFit_82 rfl (z32_lit (by decide) (by decide)) ?_
              refine zx_zret dX11_doInputsFit_83 rfl (by first | exact Or.inl rfl | exact Or.inr rfl | exact zB_or | assumption) ?_
              exact zr_v rfl rfl
            · refine zx_iconst (v := 1) dX11_doInputsFit_57 rfl (z32_lit (by decide) (by decide)) ?_
              refine zx_goto (tgt := 75) dX11_doInputsFit_58 (by decide) ?_
              refine zx_istore (i := 7) dX11_doInputsFit_75 (by decide) rfl ?_
              refine zx_L (L1 := [some (zR o), some (zR md), some (zI f), some (zI s), some (zI u), some (zI 2), some (zI (pk 2 f s u)), some (zI 1)]) rfl ?_
              refine zx_iload (i := 7) dX11_doInputsFit_77 rfl ?_
              refine zx_pc (pc1 := 79) rfl ?_
              refine zx_if_ne (tgt := 84) dX11_doInputsFit_79 (by decide) (fun h79 => ?_) (fun h79 => absurd (by decide) h79)
              refine zx_iinc (i := 5) (v := 3) dX11_doInputsFit_84 rfl (by decide +kernel) (by decide) rfl ?_
              refine zx_L (L1 := [some (zR o), some (zR md), some (zI f), some (zI s), some (zI u), some (zI 3), some (zI (pk 2 f s u)), some (zI 1)]) rfl ?_
              refine zx_goto (tgt := 3) dX11_doInputsFit_87 (by decide) ?_
              refine zx_iload (i := 5) dX11_doInputsFit_3 rfl ?_
              refine zx_iconst (v := 3) dX11_doInputsFit_5 rfl (z32_lit (by decide) (by decide)) ?_
              refine zx_icmp_ge (tgt := 90) dX11_doInputsFit_6 (by decide) (fun h6 => ?_) (fun h6 => absurd (by decide) h6)
              refine zx_iconst (v := 1) dX11_doInputsFit_90 rfl (z32_lit (by decide) (by decide)) ?_
              refine zx_zret dX11_doInputsFit_91 rfl (by first | exact Or.inl rfl | exact Or.inr rfl | exact zB_or | assumption) ?_
              exfalso
              omega
end CFACE8
