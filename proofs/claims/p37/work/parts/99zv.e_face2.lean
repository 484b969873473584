/-! Own rows: the face's calls about answers, terms, types. Walked by program (wip/p37/m_face2.py). -/
section CFACE2
variable {G : zG} {d : Nat} {w : zW} {o t pg mc br la sp : Nat} {comp asked sum : Int}
theorem f_aa_ok {li lj ln : Nat} {md : Nat} {mr : moR} {yr : prR} {I A N : List (List Int)} {sc cc dc en bk bc : Int} (ho : w.1 o = some (11, 0, [zR t, zR pg, zR mc, zR br, zR la, zR sp, zI comp, zI asked, zJ sum])) (ha : asked ≠ 0) (hmd : moW w md mr) (hpr : prW w mr.1 yr) (hL : rpW w la li lj ln (some md) I A N sc cc dc en bk bc) (i j : Int) (hi0 : 0 ≤ i ∧ i < (A.length : Int)) (hj0 : 0 ≤ j ∧ j < (yr.2.1.length : Int)) : zM G zm_X11_answerAt (d + 3) [zR o, zI i, zI j] w (zRet (some (zI (tg A i j))) w) := by
  refine zx_ent (by decide +kernel) rfl (Nat.le_of_ble_eq_true rfl) ?_
  refine zx_L (L1 := [some (zR o), some (zI i), some (zI j)]) rfl ?_
  obtain ⟨h0, ⟨hi, okI⟩, ⟨hla, okA⟩, ⟨hn, okN⟩⟩ := id hL
  refine zx_aload_n (i := 0) dX11_answerAt_0 rfl rfl ?_
  refine zx_iv (b := o) (As := []) (st := []) (v := none) (w1 := w) dX11_answerAt_1 zc_X11_264 ho rfl rfl rfl (Nat.le_of_ble_eq_true rfl) rfl (f_rq_ok ho ha) ?_
  refine zx_st (st1 := []) rfl ?_
  refine zx_aload_n (i := 0) dX11_answerAt_4 rfl rfl ?_
  refine zx_getfield dX11_answerAt_5 zf_X11_26 ho rfl ?_
  refine zx_iload_n (i := 1) dX11_answerAt_8 rfl rfl ?_
  refine zx_iv (b := la) (As := [zI i]) (st := []) (v := (some (zI (zB (0 ≤ i ∧ i < (A.length : Int)))))) (w1 := w) dX11_answerAt_9 zc_X11_271 h0 rfl rfl rfl (Nat.le_of_ble_eq_true rfl) rfl (c_X8_hasAnswer hL i) ?_
  refine zx_st (st1 := [zI (zB (0 ≤ i ∧ i < (A.length : Int)))]) rfl ?_
  refine zx_if_eq (tgt := 26) dX11_answerAt_12 (by decide) (fun h12 => absurd h12 ((zB_nz.mpr hi0))) (fun h12 => ?_)
  refine zx_aload_n (i := 0) dX11_answerAt_15 rfl rfl ?_
  refine zx_getfield dX11_answerAt_16 zf_X11_26 ho rfl ?_
  refine zx_iload_n (i := 2) dX11_answerAt_19 rfl rfl ?_
  refine zx_iv (b := la) (As := [zI j]) (st := []) (v := (some (zI (zB (0 ≤ j ∧ j < (yr.2.1.length : Int)))))) (w1 := w) dX11_answerAt_20 zc_X11_274 h0 rfl rfl rfl (Nat.le_of_ble_eq_true rfl) rfl (c_X8_hasArgument hmd hpr.1 hpr.2.1.1 hpr.2.1.2 hL j) ?_
  refine zx_st (st1 := [zI (zB (0 ≤ j ∧ j < (yr.2.1.length : Int)))]) rfl ?_
  refine zx_pc (pc1 := 23) rfl ?_
  refine zx_if_ne (tgt := 34) dX11_answerAt_23 (by decide) (fun h23 => ?_) (fun h23 => absurd ((zB_nz.mpr hj0)) h23)
  refine zx_aload_n (i := 0) dX11_answerAt_34 rfl rfl ?_
  refine zx_getfield dX11_answerAt_35 zf_X11_26 ho rfl ?_
  refine zx_iload_n (i := 1) dX11_answerAt_38 rfl rfl ?_
  refine zx_iload_n (i := 2) dX11_answerAt_39 rfl rfl ?_
  refine zx_iv (b := la) (As := [zI i, zI j]) (st := []) (v := (some (zI (tg A i j)))) (w1 := w) dX11_answerAt_40 zc_X11_277 h0 rfl rfl rfl (Nat.le_of_ble_eq_true rfl) rfl (c_X8_answerPart hL i j) ?_
  refine zx_st (st1 := [zI (tg A i j)]) rfl ?_
  refine zx_iret dX11_answerAt_43 rfl ?_
  exact zr_v rfl rfl
theorem f_aa_x0 {li lj ln : Nat} {mo : Option Nat} {I A N : List (List Int)} {sc cc dc en bk bc : Int} (ho : w.1 o = some (11, 0, [zR t, zR pg, zR mc, zR br, zR la, zR sp, zI comp, zI asked, zJ sum])) (ha : asked ≠ 0) (hL : rpW w la li lj ln mo I A N sc cc dc en bk bc) (i j : Int) (hi0 : ¬ (0 ≤ i ∧ i < (A.length : Int))) (hst0 : G.1.stackTraces = false) (r1 : w.2.1 + 1 ≤ G.2.2.2.2.1) (r2 : w.2.2 + 6 ≤ G.2.2.2.2.2) : zM G zm_X11_answerAt (d + 3) [zR o, zI i, zI j] w (zXw 0 w) := by
  refine zx_ent (by decide +kernel) rfl (Nat.le_of_ble_eq_true rfl) ?_
  refine zx_L (L1 := [some (zR o), some (zI i), some (zI j)]) rfl ?_
  obtain ⟨h0, ⟨hi, okI⟩, ⟨hla, okA⟩, ⟨hn, okN⟩⟩ := id hL
  refine zx_aload_n (i := 0) dX11_answerAt_0 rfl rfl ?_
  refine zx_iv (b := o) (As := []) (st := []) (v := none) (w1 := w) dX11_answerAt_1 zc_X11_264 ho rfl rfl rfl (Nat.le_of_ble_eq_true rfl) rfl (f_rq_ok ho ha) ?_
  refine zx_st (st1 := []) rfl ?_
  refine zx_aload_n (i := 0) dX11_answerAt_4 rfl rfl ?_
  refine zx_getfield dX11_answerAt_5 zf_X11_26 ho rfl ?_
  refine zx_iload_n (i := 1) dX11_answerAt_8 rfl rfl ?_
  refine zx_iv (b := la) (As := [zI i]) (st := []) (v := (some (zI (zB (0 ≤ i ∧ i < (A.length : Int)))))) (w1 := w) dX11_answerAt_9 zc_X11_271 h0 rfl rfl rfl (Nat.le_of_ble_eq_true rfl) rfl (c_X8_hasAnswer hL i) ?_
  refine zx_st (st1 := [zI (zB (0 ≤ i ∧ i < (A.length : Int)))]) rfl ?_
  refine zx_if_eq (tgt := 26) dX11_answerAt_12 (by decide) (fun h12 => ?_) (fun h12 => absurd ((zB_f hi0)) h12)
  refine zx_thrown zt_X11_80_82 dX11_answerAt_26 dX11_answerAt_29 dX11_answerAt_30 dX11_answerAt_33 rfl hst0 (Nat.le_of_ble_eq_true rfl) (by omega) (by omega) (fun z t z1 z2 z3 z4 => ?_)
  exact ⟨rfl, rfl, z1, z2, z3, z4⟩
theorem f_aa_x0j {li lj ln : Nat} {md : Nat} {mr : moR} {yr : prR} {I A N : List (List Int)} {sc cc dc en bk bc : Int} (ho : w.1 o = some (11, 0, [zR t, zR pg, zR mc, zR br, zR la, zR sp, zI comp, zI asked, zJ sum])) (ha : asked ≠ 0) (hmd : moW w md mr) (hpr : prW w mr.1 yr) (hL : rpW w la li lj ln (some md) I A N sc cc dc en bk bc) (i j : Int) (hi0 : 0 ≤ i ∧ i < (A.length : Int)) (hj0 : ¬ (0 ≤ j ∧ j < (yr.2.1.length : Int))) (hst0 : G.1.stackTraces = false) (r1 : w.2.1 + 1 ≤ G.2.2.2.2.1) (r2 : w.2.2 + 6 ≤ G.2.2.2.2.2) : zM G zm_X11_answerAt (d + 3) [zR o, zI i, zI j] w (zXw 0 w) := by
  refine zx_ent (by decide +kernel) rfl (Nat.le_of_ble_eq_true rfl) ?_
  refine zx_L (L1 := [some (zR o), some (zI i), some (zI j)]) rfl ?_
  obtain ⟨h0, ⟨hi, okI⟩, ⟨hla, okA⟩, ⟨hn, okN⟩⟩ := id hL
  refine zx_aload_n (i := 0) dX11_answerAt_0 rfl rfl ?_
  refine zx_iv (b := o) (As := []) (st := []) (v := none) (w1 := w) dX11_answerAt_1 zc_X11_264 ho rfl rfl rfl (Nat.le_of_ble_eq_true rfl) rfl (f_rq_ok ho ha) ?_
  refine zx_st (st1 := []) rfl ?_
  refine zx_aload_n (i := 0) dX11_answerAt_4 rfl rfl ?_
  refine zx_getfield dX11_answerAt_5 zf_X11_26 ho rfl ?_
  refine zx_iload_n (i := 1) dX11_answerAt_8 rfl rfl ?_
  refine zx_iv (b := la) (As := [zI i]) (st := []) (v := (some (zI (zB (0 ≤ i ∧ i < (A.length : Int)))))) (w1 := w) dX11_answerAt_9 zc_X11_271 h0 rfl rfl rfl (Nat.le_of_ble_eq_true rfl) rfl (c_X8_hasAnswer hL i) ?_
  refine zx_st (st1 := [zI (zB (0 ≤ i ∧ i < (A.length : Int)))]) rfl ?_
  refine zx_if_eq (tgt := 26) dX11_answerAt_12 (by decide) (fun h12 => absurd h12 ((zB_nz.mpr hi0))) (fun h12 => ?_)
  refine zx_aload_n (i := 0) dX11_answerAt_15 rfl rfl ?_
  refine zx_getfield dX11_answerAt_16 zf_X11_26 ho rfl ?_
  refine zx_iload_n (i := 2) dX11_answerAt_19 rfl rfl ?_
  refine zx_iv (b := la) (As := [zI j]) (st := []) (v := (some (zI (zB (0 ≤ j ∧ j < (yr.2.1.length : Int)))))) (w1 := w) dX11_answerAt_20 zc_X11_274 h0 rfl rfl rfl (Nat.le_of_ble_eq_true rfl) rfl (c_X8_hasArgument hmd hpr.1 hpr.2.1.1 hpr.2.1.2 hL j) ?_
  refine zx_st (st1 := [zI (zB (0 ≤ j ∧ j < (yr.2.1.length : Int)))]) rfl ?_
  refine zx_pc (pc1 := 23) rfl ?_
  refine zx_if_ne (tgt := 34) dX11_answerAt_23 (by decide) (fun h23 => absurd h23 ((not_not_intro (zB_f hj0)))) (fun h23 => ?_)
  refine zx_thrown zt_X11_80_82 dX11_answerAt_26 dX11_answerAt_29 dX11_answerAt_30 dX11_answerAt_33 rfl hst0 (Nat.le_of_ble_eq_true rfl) (by omega) (by omega) (fun z t z1 z2 z3 z4 => ?_)
  exact ⟨rfl, rfl, z1, z2, z3, z4⟩
theorem f_aa_x4 (ho : w.1 o = some (11, 0, [zR t, zR pg, zR mc, zR br, zR la, zR sp, zI comp, zI asked, zJ sum])) (ha : asked = 0) (i j : Int) (hst0 : G.1.stackTraces = false) (r1 : w.2.1 + 1 ≤ G.2.2.2.2.1) (r2 : w.2.2 + 6 ≤ G.2.2.2.2.2) : zM G zm_X11_answerAt (d + 5) [zR o, zI i, zI j] w (zXw 4 w) := by
  refine zx_ent (by decide +kernel) rfl (Nat.le_of_ble_eq_true rfl) ?_
  refine zx_L (L1 := [some (zR o), some (zI i), some (zI j)]) rfl ?_
  refine zx_aload_n (i := 0) dX11_answerAt_0 rfl rfl ?_
  exact zx_ivT (b := o) (As := []) (st := []) dX11_answerAt_1 zc_X11_264 ho rfl rfl rfl (Nat.le_of_ble_eq_true rfl) rfl (f_rq_x ho ha hst0 r1 r2) (fun _ q => q)
theorem f_mu_ok {li lj ln : Nat} {mo : Option Nat} {I A N : List (List Int)} {sc cc dc en bk bc : Int} (ho : w.1 o = some (11, 0, [zR t, zR pg, zR mc, zR br, zR la, zR sp, zI comp, zI asked, zJ sum])) (ha : asked ≠ 0) (hL : rpW w la li lj ln mo I A N sc cc dc en bk bc) (hA : A.length < 1000) (i : Int) (hi0 : 0 ≤ i ∧ i < (A.length : Int)) : zM G zm_X11_multiplicity (d + 3) [zR o, zI i] w (zRet (some (zI (rpLike A i A.length))) w) := by
  refine zx_ent (by decide +kernel) rfl (Nat.le_of_ble_eq_true rfl) ?_
  refine zx_L (L1 := [some (zR o), some (zI i)]) rfl ?_
  obtain ⟨h0, ⟨hi, okI⟩, ⟨hla, okA⟩, ⟨hn, okN⟩⟩ := id hL
  refine zx_aload_n (i := 0) dX11_multiplicity_0 rfl rfl ?_
  refine zx_iv (b := o) (As := []) (st := []) (v := none) (w1 := w) dX11_multiplicity_1 zc_X11_264 ho rfl rfl rfl (Nat.le_of_ble_eq_true rfl) rfl (f_rq_ok ho ha) ?_
  refine zx_st (st1 := []) rfl ?_
  refine zx_aload_n (i := 0) dX11_multiplicity_4 rfl rfl ?_
  refine zx_getfield dX11_multiplicity_5 zf_X11_26 ho rfl ?_
  refine zx_iload_n (i := 1) dX11_multiplicity_8 rfl rfl ?_
  refine zx_iv (b := la) (As := [zI i]) (st := []) (v := (some (zI (zB (0 ≤ i ∧ i < (A.length : Int)))))) (w1 := w) dX11_multiplicity_9 zc_X11_271 h0 rfl rfl rfl (Nat.le_of_ble_eq_true rfl) rfl (c_X8_hasAnswer hL i) ?_
  refine zx_st (st1 := [zI (zB (0 ≤ i ∧ i < (A.length : Int)))]) rfl ?_
  refine zx_if_ne (tgt := 23) dX11_multiplicity_12 (by decide) (fun h12 => ?_) (fun h12 => absurd ((zB_nz.mpr hi0)) h12)
  refine zx_aload_n (i := 0) dX11_multiplicity_23 rfl rfl ?_
  refine zx_getfield dX11_multiplicity_24 zf_X11_26 ho rfl ?_
  refine zx_iload_n (i := 1) dX11_multiplicity_27 rfl rfl ?_
  refine zx_iv (b := la) (As := [zI i]) (st := []) (v := (some (zI (rpLike A i A.length)))) (w1 := w) dX11_multiplicity_28 zc_X11_280 h0 rfl rfl rfl (Nat.le_of_ble_eq_true rfl) rfl (c_X8_countLike hL hA i) ?_
  refine zx_st (st1 := [zI (rpLike A i A.length)]) rfl ?_
  refine zx_pc (pc1 := 31) rfl ?_
  refine zx_iret dX11_multiplicity_31 rfl ?_
  exact zr_v rfl rfl
theorem f_mu_x0 {li lj ln : Nat} {mo : Option Nat} {I A N : List (List Int)} {sc cc dc en bk bc : Int} (ho : w.1 o = some (11, 0, [zR t, zR pg, zR mc, zR br, zR la, zR sp, zI comp, zI asked, zJ sum])) (ha : asked ≠ 0) (hL : rpW w la li lj ln mo I A N sc cc dc en bk bc) (i : Int) (hi0 : ¬ (0 ≤ i ∧ i < (A.length : Int))) (hst0 : G.1.stackTraces = false) (r1 : w.2.1 + 1 ≤ G.2.2.2.2.1) (r2 : w.2.2 + 6 ≤ G.2.2.2.2.2) : zM G zm_X11_multiplicity (d + 3) [zR o, zI i] w (zXw 0 w) := by
  refine zx_ent (by decide +kernel) rfl (Nat.le_of_ble_eq_true rfl) ?_
  refine zx_L (L1 := [some (zR o), some (zI i)]) rfl ?_
  obtain ⟨h0, ⟨hi, okI⟩, ⟨hla, okA⟩, ⟨hn, okN⟩⟩ := id hL
  refine zx_aload_n (i := 0) dX11_multiplicity_0 rfl rfl ?_
  refine zx_iv (b := o) (As := []) (st := []) (v := none) (w1 := w) dX11_multiplicity_1 zc_X11_264 ho rfl rfl rfl (Nat.le_of_ble_eq_true rfl) rfl (f_rq_ok ho ha) ?_
  refine zx_st (st1 := []) rfl ?_
  refine zx_aload_n (i := 0) dX11_multiplicity_4 rfl rfl ?_
  refine zx_getfield dX11_multiplicity_5 zf_X11_26 ho rfl ?_
  refine zx_iload_n (i := 1) dX11_multiplicity_8 rfl rfl ?_
  refine zx_iv (b := la) (As := [zI i]) (st := []) (v := (some (zI (zB (0 ≤ i ∧ i < (A.length : Int)))))) (w1 := w) dX11_multiplicity_9 zc_X11_271 h0 rfl rfl rfl (Nat.le_of_ble_eq_true rfl) rfl (c_X8_hasAnswer hL i) ?_
  refine zx_st (st1 := [zI (zB (0 ≤ i ∧ i < (A.length : Int)))]) rfl ?_
  refine zx_if_ne (tgt := 23) dX11_multiplicity_12 (by decide) (fun h12 => absurd h12 ((not_not_intro (zB_f hi0)))) (fun h12 => ?_)
  refine zx_thrown zt_X11_80_82 dX11_multiplicity_15 dX11_multiplicity_18 dX11_multiplicity_19 dX11_multiplicity_22 rfl hst0 (Nat.le_of_ble_eq_true rfl) (by omega) (by omega) (fun z t z1 z2 z3 z4 => ?_)
  exact ⟨rfl, rfl, z1, z2, z3, z4⟩
theorem f_mu_x4 (ho : w.1 o = some (11, 0, [zR t, zR pg, zR mc, zR br, zR la, zR sp, zI comp, zI asked, zJ sum])) (ha : asked = 0) (i : Int) (hst0 : G.1.stackTraces = false) (r1 : w.2.1 + 1 ≤ G.2.2.2.2.1) (r2 : w.2.2 + 6 ≤ G.2.2.2.2.2) : zM G zm_X11_multiplicity (d + 5) [zR o, zI i] w (zXw 4 w) := by
  refine zx_ent (by decide +kernel) rfl (Nat.le_of_ble_eq_true rfl) ?_
  refine zx_L (L1 := [some (zR o), some (zI i)]) rfl ?_
  refine zx_aload_n (i := 0) dX11_multiplicity_0 rfl rfl ?_
  exact zx_ivT (b := o) (As := []) (st := []) dX11_multiplicity_1 zc_X11_264 ho rfl rfl rfl (Nat.le_of_ble_eq_true rfl) rfl (f_rq_x ho ha hst0 r1 r2) (fun _ q => q)
theorem f_te {tc tn th tz : Nat} {ty : Int} {C N H : List (List Int)} {S : List Int} (ho : w.1 o = some (11, 0, [zR t, zR pg, zR mc, zR br, zR la, zR sp, zI comp, zI asked, zJ sum])) (hT : tmW w t tc tn th tz ty C N H S) : zM G zm_X11_terms (d + 2) [zR o] w (zRet (some (zI (N.length : Int))) w) := by
  refine zx_ent (by decide +kernel) rfl (Nat.le_of_ble_eq_true rfl) ?_
  refine zx_L (L1 := [some (zR o)]) rfl ?_
  refine zx_aload_n (i := 0) dX11_terms_0 rfl rfl ?_
  refine zx_getfield dX11_terms_1 zf_X11_10 ho rfl ?_
  refine zx_iv (b := t) (As := []) (st := []) (v := (some (zI (N.length : Int)))) (w1 := w) dX11_terms_4 zc_X11_312 hT.1 rfl rfl rfl (Nat.le_of_ble_eq_true rfl) rfl (c_X10_termCount hT) ?_
  refine zx_st (st1 := [zI (N.length : Int)]) rfl ?_
  refine zx_iret dX11_terms_7 rfl ?_
  exact zr_v rfl rfl
theorem f_mt_ok {tc tn th tz : Nat} {ty : Int} {C N H : List (List Int)} {S : List Int} (ho : w.1 o = some (11, 0, [zR t, zR pg, zR mc, zR br, zR la, zR sp, zI comp, zI asked, zJ sum])) (hT : tmW w t tc tn th tz ty C N H S) (x : Int) (hx : 0 ≤ x ∧ x < (N.length : Int)) : zM G zm_X11_refuseMissingTerm (d + 2) [zR o, zI x] w (zRet none w) := by
  refine zx_ent (by decide +kernel) rfl (Nat.le_of_ble_eq_true rfl) ?_
  refine zx_L (L1 := [some (zR o), some (zI x)]) rfl ?_
  refine zx_aload_n (i := 0) dX11_refuseMissingTerm_0 rfl rfl ?_
  refine zx_getfield dX11_refuseMissingTerm_1 zf_X11_10 ho rfl ?_
  refine zx_iload_n (i := 1) dX11_refuseMissingTerm_4 rfl rfl ?_
  refine zx_iv (b := t) (As := [zI x]) (st := []) (v := (some (zI (zB (0 ≤ x ∧ x < (N.length : Int)))))) (w1 := w) dX11_refuseMissingTerm_5 zc_X11_346 hT.1 rfl rfl rfl (Nat.le_of_ble_eq_true rfl) rfl (c_X10_hasTerm hT x) ?_
  refine zx_st (st1 := [zI (zB (0 ≤ x ∧ x < (N.length : Int)))]) rfl ?_
  refine zx_if_ne (tgt := 19) dX11_refuseMissingTerm_8 (by decide) (fun h8 => ?_) (fun h8 => absurd ((zB_nz.mpr hx)) h8)
  refine zx_return dX11_refuseMissingTerm_19 rfl ?_
  exact zr_n rfl
theorem f_mt_x0 {tc tn th tz : Nat} {ty : Int} {C N H : List (List Int)} {S : List Int} (ho : w.1 o = some (11, 0, [zR t, zR pg, zR mc, zR br, zR la, zR sp, zI comp, zI asked, zJ sum])) (hT : tmW w t tc tn th tz ty C N H S) (x : Int) (hx : ¬ (0 ≤ x ∧ x < (N.length : Int))) (hst0 : G.1.stackTraces = false) (r1 : w.2.1 + 1 ≤ G.2.2.2.2.1) (r2 : w.2.2 + 6 ≤ G.2.2.2.2.2) : zM G zm_X11_refuseMissingTerm (d + 4) [zR o, zI x] w (zXw 0 w) := by
  refine zx_ent (by decide +kernel) rfl (Nat.le_of_ble_eq_true rfl) ?_
  refine zx_L (L1 := [some (zR o), some (zI x)]) rfl ?_
  refine zx_aload_n (i := 0) dX11_refuseMissingTerm_0 rfl rfl ?_
  refine zx_getfield dX11_refuseMissingTerm_1 zf_X11_10 ho rfl ?_
  refine zx_iload_n (i := 1) dX11_refuseMissingTerm_4 rfl rfl ?_
  refine zx_iv (b := t) (As := [zI x]) (st := []) (v := (some (zI (zB (0 ≤ x ∧ x < (N.length : Int)))))) (w1 := w) dX11_refuseMissingTerm_5 zc_X11_346 hT.1 rfl rfl rfl (Nat.le_of_ble_eq_true rfl) rfl (c_X10_hasTerm hT x) ?_
  refine zx_st (st1 := [zI (zB (0 ≤ x ∧ x < (N.length : Int)))]) rfl ?_
  refine zx_if_ne (tgt := 19) dX11_refuseMissingTerm_8 (by decide) (fun h8 => absurd h8 ((not_not_intro (zB_f hx)))) (fun h8 => ?_)
  refine zx_thrown zt_X11_80_82 dX11_refuseMissingTerm_11 dX11_refuseMissingTerm_14 dX11_refuseMissingTerm_15 dX11_refuseMissingTerm_18 rfl hst0 (Nat.le_of_ble_eq_true rfl) (by omega) (by omega) (fun z t z1 z2 z3 z4 => ?_)
  exact ⟨rfl, rfl, z1, z2, z3, z4⟩
theorem f_co_x0 {tc tn th tz : Nat} {ty : Int} {C N H : List (List Int)} {S : List Int} (ho : w.1 o = some (11, 0, [zR t, zR pg, zR mc, zR br, zR la, zR sp, zI comp, zI asked, zJ sum])) (hT : tmW w t tc tn th tz ty C N H S) (x : Int) (hx : ¬ (0 ≤ x ∧ x < (N.length : Int))) (hst0 : G.1.stackTraces = false) (r1 : w.2.1 + 1 ≤ G.2.2.2.2.1) (r2 : w.2.2 + 6 ≤ G.2.2.2.2.2) : zM G zm_X11_constructorOf (d + 5) [zR o, zI x] w (zXw 0 w) := by
  refine zx_ent (by decide +kernel) rfl (Nat.le_of_ble_eq_true rfl) ?_
  refine zx_L (L1 := [some (zR o), some (zI x)]) rfl ?_
  refine zx_aload_n (i := 0) dX11_constructorOf_0 rfl rfl ?_
  refine zx_iload_n (i := 1) dX11_constructorOf_1 rfl rfl ?_
  exact zx_ivT (b := o) (As := [zI x]) (st := []) dX11_constructorOf_2 zc_X11_106 ho rfl rfl rfl (Nat.le_of_ble_eq_true rfl) rfl (f_mt_x0 ho hT x hx hst0 r1 r2) (fun _ q => q)
theorem f_po_ok {tc tn th tz : Nat} {ty : Int} {C N H : List (List Int)} {S : List Int} (ho : w.1 o = some (11, 0, [zR t, zR pg, zR mc, zR br, zR la, zR sp, zI comp, zI asked, zJ sum])) (hT : tmW w t tc tn th tz ty C N H S) (x i : Int) (hx : 0 ≤ x ∧ x < (N.length : Int)) (hi0 : 0 ≤ i ∧ i < tmPc C (tg N x 0)) (hst0 : G.1.stackTraces = false) (r1 : w.2.1 + 1 ≤ G.2.2.2.2.1) (r2 : w.2.2 + 6 ≤ G.2.2.2.2.2) : zM G zm_X11_partOf (d + 3) [zR o, zI x, zI i] w (zRet (some (zI (tmPt N x i))) w) := by
  refine zx_ent (by decide +kernel) rfl (Nat.le_of_ble_eq_true rfl) ?_
  refine zx_L (L1 := [some (zR o), some (zI x), some (zI i)]) rfl ?_
  refine zx_aload_n (i := 0) dX11_partOf_0 rfl rfl ?_
  refine zx_iload_n (i := 1) dX11_partOf_1 rfl rfl ?_
  refine zx_iv (b := o) (As := [zI x]) (st := []) (v := none) (w1 := w) dX11_partOf_2 zc_X11_106 ho rfl rfl rfl (Nat.le_of_ble_eq_true rfl) rfl (f_mt_ok ho hT x hx) ?_
  refine zx_st (st1 := []) rfl ?_
  refine zx_iload_n (i := 2) dX11_partOf_5 rfl rfl ?_
  refine zx_if_lt (tgt := 28) dX11_partOf_6 (by decide) (fun h6 => ?_) (fun h6 => ?_)
  · refine zx_thrown zt_X11_117_119 dX11_partOf_28 dX11_partOf_31 dX11_partOf_32 dX11_partOf_35 rfl hst0 (Nat.le_of_ble_eq_true rfl) (by omega) (by omega) (fun z t z1 z2 z3 z4 => ?_)
    exfalso
    omega
  · refine zx_iload_n (i := 2) dX11_partOf_9 rfl rfl ?_
    refine zx_aload_n (i := 0) dX11_partOf_10 rfl rfl ?_
    refine zx_getfield dX11_partOf_11 zf_X11_10 ho rfl ?_
    refine zx_aload_n (i := 0) dX11_partOf_14 rfl rfl ?_
    refine zx_getfield dX11_partOf_15 zf_X11_10 ho rfl ?_
    refine zx_iload_n (i := 1) dX11_partOf_18 rfl rfl ?_
    refine zx_pc (pc1 := 19) rfl ?_
    refine zx_iv (b := t) (As := [zI x]) (st := [zR t, zI i]) (v := (some (zI (tg N x 0)))) (w1 := w) dX11_partOf_19 zc_X11_110 hT.1 rfl rfl rfl (Nat.le_of_ble_eq_true rfl) rfl (c_X10_headOf hT x) ?_
    refine zx_st (st1 := [zI (tg N x 0), zR t, zI i]) rfl ?_
    refine zx_iv (b := t) (As := [zI (tg N x 0)]) (st := [zI i]) (v := (some (zI (tmPc C (tg N x 0))))) (w1 := w) dX11_partOf_22 zc_X11_114 hT.1 rfl rfl rfl (Nat.le_of_ble_eq_true rfl) rfl (c_X10_partCount hT _) ?_
    refine zx_st (st1 := [zI (tmPc C (tg N x 0)), zI i]) rfl ?_
    refine zx_icmp_lt (tgt := 36) dX11_partOf_25 (by decide) (fun h25 => ?_) (fun h25 => ?_)
    · refine zx_aload_n (i := 0) dX11_partOf_36 rfl rfl ?_
      refine zx_getfield dX11_partOf_37 zf_X11_10 ho rfl ?_
      refine zx_iload_n (i := 1) dX11_partOf_40 rfl rfl ?_
      refine zx_iload_n (i := 2) dX11_partOf_41 rfl rfl ?_
      refine zx_iv (b := t) (As := [zI x, zI i]) (st := []) (v := (some (zI (tmPt N x i)))) (w1 := w) dX11_partOf_42 zc_X11_120 hT.1 rfl rfl rfl (Nat.le_of_ble_eq_true rfl) rfl (c_X10_part hT x i) ?_
      refine zx_st (st1 := [zI (tmPt N x i)]) rfl ?_
      refine zx_iret dX11_partOf_45 rfl ?_
      exact zr_v rfl rfl
    · refine zx_thrown zt_X11_117_119 dX11_partOf_28 dX11_partOf_31 dX11_partOf_32 dX11_partOf_35 rfl hst0 (Nat.le_of_ble_eq_true rfl) (by omega) (by omega) (fun z t z1 z2 z3 z4 => ?_)
      exfalso
      omega
theorem f_sz_ok {tc tn th tz : Nat} {ty : Int} {C N H : List (List Int)} {S : List Int} (ho : w.1 o = some (11, 0, [zR t, zR pg, zR mc, zR br, zR la, zR sp, zI comp, zI asked, zJ sum])) (hT : tmW w t tc tn th tz ty C N H S) (x : Int) (hx : 0 ≤ x ∧ x < (N.length : Int)) : zM G zm_X11_sizeOf (d + 3) [zR o, zI x] w (zRet (some (zJ (tmSz S x))) w) := by
  refine zx_ent (by decide +kernel) rfl (Nat.le_of_ble_eq_true rfl) ?_
  refine zx_L (L1 := [some (zR o), some (zI x)]) rfl ?_
  refine zx_aload_n (i := 0) dX11_sizeOf_0 rfl rfl ?_
  refine zx_iload_n (i := 1) dX11_sizeOf_1 rfl rfl ?_
  refine zx_iv (b := o) (As := [zI x]) (st := []) (v := none) (w1 := w) dX11_sizeOf_2 zc_X11_106 ho rfl rfl rfl (Nat.le_of_ble_eq_true rfl) rfl (f_mt_ok ho hT x hx) ?_
  refine zx_st (st1 := []) rfl ?_
  refine zx_aload_n (i := 0) dX11_sizeOf_5 rfl rfl ?_
  refine zx_getfield dX11_sizeOf_6 zf_X11_10 ho rfl ?_
  refine zx_iload_n (i := 1) dX11_sizeOf_9 rfl rfl ?_
  refine zx_iv (b := t) (As := [zI x]) (st := []) (v := (some (zJ (tmSz S x)))) (w1 := w) dX11_sizeOf_10 zc_X11_124 hT.1 rfl rfl rfl (Nat.le_of_ble_eq_true rfl) rfl (c_X10_size hT x) ?_
  refine zx_st (st1 := [zJ (tmSz S x)]) rfl ?_
  refine zx_lreturn dX11_sizeOf_13 rfl ?_
  exact zr_v rfl rfl
theorem f_tm_old {tc tn th tz : Nat} {ty : Int} {C N H : List (List Int)} {S : List Int} (ho : w.1 o = some (11, 0, [zR t, zR pg, zR mc, zR br, zR la, zR sp, zI comp, zI asked, zJ sum])) (hT : tmW w t tc tn th tz ty C N H S) (c f s : Int) (hc : 0 ≤ c ∧ c < (C.length : Int)) (hp : (tmPc C c < 1 ∨ (0 ≤ f ∧ f < (N.length : Int))) ∧ (tmPc C c < 2 ∨ (0 ≤ s ∧ s < (N.length : Int)))) (hf : tmFp C N c 0 f ∧ tmFp C N c 1 s) {n : Int} (hfd : tmFind N H c f s = n) (hn : 0 ≤ n) (hst0 : G.1.stackTraces = false) (r1 : w.2.1 + 1 ≤ G.2.2.2.2.1) (r2 : w.2.2 + 6 ≤ G.2.2.2.2.2) : zM G zm_X11_term (d + 4) [zR o, zI c, zI f, zI s] w (zRet (some (zI n)) w) := by
  refine zx_ent (by decide +kernel) rfl (Nat.le_of_ble_eq_true rfl) ?_
  refine zx_L (L1 := [some (zR o), some (zI c), some (zI f), some (zI s), none]) rfl ?_
  refine zx_aload_n (i := 0) dX11_term_0 rfl rfl ?_
  refine zx_getfield dX11_term_1 zf_X11_10 ho rfl ?_
  refine zx_iload_n (i := 1) dX11_term_4 rfl rfl ?_
  refine zx_iv (b := t) (As := [zI c]) (st := []) (v := (some (zI (zB (0 ≤ c ∧ c < (C.length : Int)))))) (w1 := w) dX11_term_5 zc_X11_93 hT.1 rfl rfl rfl (Nat.le_of_ble_eq_true rfl) rfl (c_X10_hasConstructor hT c) ?_
  refine zx_st (st1 := [zI (zB (0 ≤ c ∧ c < (C.length : Int)))]) rfl ?_
  refine zx_if_eq (tgt := 24) dX11_term_8 (by decide) (fun h8 => absurd h8 ((zB_nz.mpr hc))) (fun h8 => ?_)
  refine zx_aload_n (i := 0) dX11_term_11 rfl rfl ?_
  refine zx_getfield dX11_term_12 zf_X11_10 ho rfl ?_
  refine zx_iload_n (i := 1) dX11_term_15 rfl rfl ?_
  refine zx_iload_n (i := 2) dX11_term_16 rfl rfl ?_
  refine zx_iload_n (i := 3) dX11_term_17 rfl rfl ?_
  refine zx_iv (b := t) (As := [zI c, zI f, zI s]) (st := []) (v := (some (zI (zB ((tmPc C c < 1 ∨ (0 ≤ f ∧ f < (N.length : Int))) ∧ (tmPc C c < 2 ∨ (0 ≤ s ∧ s < (N.length : Int)))))))) (w1 := w) dX11_term_18 zc_X11_96 hT.1 rfl rfl rfl (Nat.le_of_ble_eq_true rfl) rfl (c_X10_hasParts hT c f s) ?_
  refine zx_st (st1 := [zI (zB ((tmPc C c < 1 ∨ (0 ≤ f ∧ f < (N.length : Int))) ∧ (tmPc C c < 2 ∨ (0 ≤ s ∧ s < (N.length : Int)))))]) rfl ?_
  refine zx_pc (pc1 := 21) rfl ?_
  refine zx_if_ne (tgt := 32) dX11_term_21 (by decide) (fun h21 => ?_) (fun h21 => absurd ((zB_nz.mpr hp)) h21)
  refine zx_aload_n (i := 0) dX11_term_32 rfl rfl ?_
  refine zx_getfield dX11_term_33 zf_X11_10 ho rfl ?_
  refine zx_iload_n (i := 1) dX11_term_36 rfl rfl ?_
  refine zx_iload_n (i := 2) dX11_term_37 rfl rfl ?_
  refine zx_iload_n (i := 3) dX11_term_38 rfl rfl ?_
  refine zx_iv (b := t) (As := [zI c, zI f, zI s]) (st := []) (v := (some (zI (zB (tmFp C N c 0 f ∧ tmFp C N c 1 s))))) (w1 := w) dX11_term_39 zc_X11_100 hT.1 rfl rfl rfl (Nat.le_of_ble_eq_true rfl) rfl (c_X10_fits hT c f s) ?_
  refine zx_st (st1 := [zI (zB (tmFp C N c 0 f ∧ tmFp C N c 1 s))]) rfl ?_
  refine zx_if_ne (tgt := 53) dX11_term_42 (by decide) (fun h42 => ?_) (fun h42 => absurd ((zB_nz.mpr hf)) h42)
  refine zx_aload_n (i := 0) dX11_term_53 rfl rfl ?_
  refine zx_getfield dX11_term_54 zf_X11_10 ho rfl ?_
  refine zx_iload_n (i := 1) dX11_term_57 rfl rfl ?_
  refine zx_iload_n (i := 2) dX11_term_58 rfl rfl ?_
  refine zx_pc (pc1 := 59) rfl ?_
  refine zx_iload_n (i := 3) dX11_term_59 rfl rfl ?_
  refine zx_iv (b := t) (As := [zI c, zI f, zI s]) (st := []) (v := (some (zI n))) (w1 := w) dX11_term_60 zc_X11_103 hT.1 rfl rfl rfl (Nat.le_of_ble_eq_true rfl) rfl (by have q := c_X10_makeOld (G := G) (d := d) hT c f s (Or.inl (by omega)); rw [hfd] at q; exact q) ?_
  refine zx_st (st1 := [zI n]) rfl ?_
  refine zx_istore (i := 4) dX11_term_63 (by decide) rfl ?_
  refine zx_L (L1 := [some (zR o), some (zI c), some (zI f), some (zI s), some (zI n)]) rfl ?_
  refine zx_iload (i := 4) dX11_term_65 rfl ?_
  refine zx_iconst (v := -1) dX11_term_67 rfl (z32_lit (by decide) (by decide)) ?_
  refine zx_icmp_ne (tgt := 79) dX11_term_68 (by decide) (fun h68 => ?_) (fun h68 => ?_)
  · refine zx_iload (i := 4) dX11_term_79 rfl ?_
    refine zx_iret dX11_term_81 rfl ?_
    exact zr_v rfl rfl
  · refine zx_thrown zt_X11_67_69 dX11_term_71 dX11_term_74 dX11_term_75 dX11_term_78 rfl hst0 (Nat.le_of_ble_eq_true rfl) (by omega) (by omega) (fun z t z1 z2 z3 z4 => ?_)
    exfalso
    omega
theorem f_tm_x2 {tc tn th tz : Nat} {ty : Int} {C N H : List (List Int)} {S : List Int} (ho : w.1 o = some (11, 0, [zR t, zR pg, zR mc, zR br, zR la, zR sp, zI comp, zI asked, zJ sum])) (hT : tmW w t tc tn th tz ty C N H S) (c f s : Int) (hc : 0 ≤ c ∧ c < (C.length : Int)) (hp : (tmPc C c < 1 ∨ (0 ≤ f ∧ f < (N.length : Int))) ∧ (tmPc C c < 2 ∨ (0 ≤ s ∧ s < (N.length : Int)))) (hf : tmFp C N c 0 f ∧ tmFp C N c 1 s) (hfd : tmFind N H c f s = -1) (hl : 200 ≤ N.length) (hst0 : G.1.stackTraces = false) (r1 : w.2.1 + 1 ≤ G.2.2.2.2.1) (r2 : w.2.2 + 6 ≤ G.2.2.2.2.2) : zM G zm_X11_term (d + 4) [zR o, zI c, zI f, zI s] w (zXw 2 w) := by
  refine zx_ent (by decide +kernel) rfl (Nat.le_of_ble_eq_true rfl) ?_
  refine zx_L (L1 := [some (zR o), some (zI c), some (zI f), some (zI s), none]) rfl ?_
  refine zx_aload_n (i := 0) dX11_term_0 rfl rfl ?_
  refine zx_getfield dX11_term_1 zf_X11_10 ho rfl ?_
  refine zx_iload_n (i := 1) dX11_term_4 rfl rfl ?_
  refine zx_iv (b := t) (As := [zI c]) (st := []) (v := (some (zI (zB (0 ≤ c ∧ c < (C.length : Int)))))) (w1 := w) dX11_term_5 zc_X11_93 hT.1 rfl rfl rfl (Nat.le_of_ble_eq_true rfl) rfl (c_X10_hasConstructor hT c) ?_
  refine zx_st (st1 := [zI (zB (0 ≤ c ∧ c < (C.length : Int)))]) rfl ?_
  refine zx_if_eq (tgt := 24) dX11_term_8 (by decide) (fun h8 => absurd h8 ((zB_nz.mpr hc))) (fun h8 => ?_)
  refine zx_aload_n (i := 0) dX11_term_11 rfl rfl ?_
  refine zx_getfield dX11_term_12 zf_X11_10 ho rfl ?_
  refine zx_iload_n (i := 1) dX11_term_15 rfl rfl ?_
  refine zx_iload_n (i := 2) dX11_term_16 rfl rfl ?_
  refine zx_iload_n (i := 3) dX11_term_17 rfl rfl ?_
  refine zx_iv (b := t) (As := [zI c, zI f, zI s]) (st := []) (v := (some (zI (zB ((tmPc C c < 1 ∨ (0 ≤ f ∧ f < (N.length : Int))) ∧ (tmPc C c < 2 ∨ (0 ≤ s ∧ s < (N.length : Int)))))))) (w1 := w) dX11_term_18 zc_X11_96 hT.1 rfl rfl rfl (Nat.le_of_ble_eq_true rfl) rfl (c_X10_hasParts hT c f s) ?_
  refine zx_st (st1 := [zI (zB ((tmPc C c < 1 ∨ (0 ≤ f ∧ f < (N.length : Int))) ∧ (tmPc C c < 2 ∨ (0 ≤ s ∧ s < (N.length : Int)))))]) rfl ?_
  refine zx_pc (pc1 := 21) rfl ?_
  refine zx_if_ne (tgt := 32) dX11_term_21 (by decide) (fun h21 => ?_) (fun h21 => absurd ((zB_nz.mpr hp)) h21)
  refine zx_aload_n (i := 0) dX11_term_32 rfl rfl ?_
  refine zx_getfield dX11_term_33 zf_X11_10 ho rfl ?_
  refine zx_iload_n (i := 1) dX11_term_36 rfl rfl ?_
  refine zx_iload_n (i := 2) dX11_term_37 rfl rfl ?_
  refine zx_iload_n (i := 3) dX11_term_38 rfl rfl ?_
  refine zx_iv (b := t) (As := [zI c, zI f, zI s]) (st := []) (v := (some (zI (zB (tmFp C N c 0 f ∧ tmFp C N c 1 s))))) (w1 := w) dX11_term_39 zc_X11_100 hT.1 rfl rfl rfl (Nat.le_of_ble_eq_true rfl) rfl (c_X10_fits hT c f s) ?_
  refine zx_st (st1 := [zI (zB (tmFp C N c 0 f ∧ tmFp C N c 1 s))]) rfl ?_
  refine zx_if_ne (tgt := 53) dX11_term_42 (by decide) (fun h42 => ?_) (fun h42 => absurd ((zB_nz.mpr hf)) h42)
  refine zx_aload_n (i := 0) dX11_term_53 rfl rfl ?_
  refine zx_getfield dX11_term_54 zf_X11_10 ho rfl ?_
  refine zx_iload_n (i := 1) dX11_term_57 rfl rfl ?_
  refine zx_iload_n (i := 2) dX11_term_58 rfl rfl ?_
  refine zx_pc (pc1 := 59) rfl ?_
  refine zx_iload_n (i := 3) dX11_term_59 rfl rfl ?_
  refine zx_iv (b := t) (As := [zI c, zI f, zI s]) (st := []) (v := (some (zI (-1)))) (w1 := w) dX11_term_60 zc_X11_103 hT.1 rfl rfl rfl (Nat.le_of_ble_eq_true rfl) rfl (by have q := c_X10_makeOld (G := G) (d := d) hT c f s (Or.inr hl); rw [hfd] at q; exact q) ?_
  refine zx_st (st1 := [zI (-1)]) rfl ?_
  refine zx_istore (i := 4) dX11_term_63 (by decide) rfl ?_
  refine zx_L (L1 := [some (zR o), some (zI c), some (zI f), some (zI s), some (zI (-1))]) rfl ?_
  refine zx_iload (i := 4) dX11_term_65 rfl ?_
  refine zx_iconst (v := -1) dX11_term_67 rfl (z32_lit (by decide) (by decide)) ?_
  refine zx_icmp_ne (tgt := 79) dX11_term_68 (by decide) (fun h68 => absurd h68 (by decide)) (fun h68 => ?_)
  refine zx_thrown zt_X11_67_69 dX11_term_71 dX11_term_74 dX11_term_75 dX11_term_78 rfl hst0 (Nat.le_of_ble_eq_true rfl) (by omega) (by omega) (fun z t z1 z2 z3 z4 => ?_)
  exact ⟨rfl, rfl, z1, z2, z3, z4⟩
end CFACE2
