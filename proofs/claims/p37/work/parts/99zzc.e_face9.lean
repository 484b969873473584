/-! Own rows: the face: ask. Walked by program (wip/p37/m_face9.py). -/
section CFACE9
variable {G : zG} {d : Nat} {w w1 : zW} {o t pg mc br la sp : Nat} {comp asked sum : Int} {R : pgR} {md : Nat} {mr : moR} {Q : zQ}
theorem f_ak_x0 (ho : w.1 o = some (11, 0, [zR t, zR pg, zR mc, zR br, zR la, zR sp, zI comp, zI asked, zJ sum])) (hP : pgW w pg R) (i j f s u : Int) (hm : mdAt R i j = none) (hst0 : G.1.stackTraces = false) (r1 : w.2.1 + 1 ≤ G.2.2.2.2.1) (r2 : w.2.2 + 6 ≤ G.2.2.2.2.2) : zM G zm_X11_ask (d + 10) [zR o, zI i, zI j, zI f, zI s, zI u] w (zXw 0 w) := by
  refine zx_ent (by decide +kernel) rfl (Nat.le_of_ble_eq_true rfl) ?_
  refine zx_L (L1 := [some (zR o), some (zI i), some (zI j), some (zI f), some (zI s), some (zI u), none, none]) rfl ?_
  refine zx_aload_n (i := 0) dX11_ask_0 rfl rfl ?_
  refine zx_getfield dX11_ask_1 zf_X11_19 ho rfl ?_
  refine zx_iload_n (i := 1) dX11_ask_4 rfl rfl ?_
  refine zx_iload_n (i := 2) dX11_ask_5 rfl rfl ?_
  refine zx_iv (b := pg) (As := [zI i, zI j]) (st := []) (v := (some (zN))) (w1 := w) dX11_ask_6 zc_X11_237 hP.1 rfl rfl rfl (Nat.le_of_ble_eq_true rfl) rfl (by have q := c_X7_modeAt (G := G) (d := d + 5) hP i j; rw [hm] at q; exact q) ?_
  refine zx_st (st1 := [zN]) rfl ?_
  refine zx_astore (i := 6) dX11_ask_9 (by decide) rfl ?_
  refine zx_L (L1 := [some (zR o), some (zI i), some (zI j), some (zI f), some (zI s), some (zI u), some (zN), none]) rfl ?_
  refine zx_aload (i := 6) dX11_ask_11 rfl ?_
  refine zx_ifnull (tgt := 30) dX11_ask_13 (by decide) (fun _ => ?_) (fun h => absurd rfl h)
  refine zx_thrown zt_X11_80_82 dX11_ask_30 dX11_ask_33 dX11_ask_34 dX11_ask_37 rfl hst0 (Nat.le_of_ble_eq_true rfl) (by omega) (by omega) (fun z t z1 z2 z3 z4 => ?_)
  exact ⟨rfl, rfl, z1, z2, z3, z4⟩
theorem f_ak_x1 (ho : w.1 o = some (11, 0, [zR t, zR pg, zR mc, zR br, zR la, zR sp, zI comp, zI asked, zJ sum])) (hP : pgW w pg R) (i j f s u : Int) (hm : mdAt R i j = some md) (hmd : moW w md mr) (hai : zM G zm_X11_areInputsThere (d + 9) [zR o, zR md, zI f, zI s, zI u] w (zRet (some (zI 1)) w)) (hdf : zM G zm_X11_doInputsFit (d + 9) [zR o, zR md, zI f, zI s, zI u] w (zRet (some (zI 0)) w)) (hst0 : G.1.stackTraces = false) (r1 : w.2.1 + 1 ≤ G.2.2.2.2.1) (r2 : w.2.2 + 6 ≤ G.2.2.2.2.2) : zM G zm_X11_ask (d + 10) [zR o, zI i, zI j, zI f, zI s, zI u] w (zXw 1 w) := by
  refine zx_ent (by decide +kernel) rfl (Nat.le_of_ble_eq_true rfl) ?_
  refine zx_L (L1 := [some (zR o), some (zI i), some (zI j), some (zI f), some (zI s), some (zI u), none, none]) rfl ?_
  refine zx_aload_n (i := 0) dX11_ask_0 rfl rfl ?_
  refine zx_getfield dX11_ask_1 zf_X11_19 ho rfl ?_
  refine zx_iload_n (i := 1) dX11_ask_4 rfl rfl ?_
  refine zx_iload_n (i := 2) dX11_ask_5 rfl rfl ?_
  refine zx_iv (b := pg) (As := [zI i, zI j]) (st := []) (v := (some (zR md))) (w1 := w) dX11_ask_6 zc_X11_237 hP.1 rfl rfl rfl (Nat.le_of_ble_eq_true rfl) rfl (by have q := c_X7_modeAt (G := G) (d := d + 5) hP i j; rw [hm] at q; exact q) ?_
  refine zx_st (st1 := [zR md]) rfl ?_
  refine zx_astore (i := 6) dX11_ask_9 (by decide) rfl ?_
  refine zx_L (L1 := [some (zR o), some (zI i), some (zI j), some (zI f), some (zI s), some (zI u), some (zR md), none]) rfl ?_
  refine zx_aload (i := 6) dX11_ask_11 rfl ?_
  refine zx_ifnull (tgt := 30) dX11_ask_13 (by decide) (fun h => by cases h) (fun _ => ?_)
  refine zx_aload_n (i := 0) dX11_ask_16 rfl rfl ?_
  refine zx_aload (i := 6) dX11_ask_17 rfl ?_
  refine zx_iload_n (i := 3) dX11_ask_19 rfl rfl ?_
  refine zx_pc (pc1 := 20) rfl ?_
  refine zx_iload (i := 4) dX11_ask_20 rfl ?_
  refine zx_iload (i := 5) dX11_ask_22 rfl ?_
  refine zx_iv (b := o) (As := [zR md, zI f, zI s, zI u]) (st := []) (v := (some (zI 1))) (w1 := w) dX11_ask_24 zc_X11_240 ho rfl rfl rfl (Nat.le_of_ble_eq_true rfl) rfl hai ?_
  refine zx_st (st1 := [zI 1]) rfl ?_
  refine zx_if_ne (tgt := 38) dX11_ask_27 (by decide) (fun h27 => ?_) (fun h27 => absurd (by decide) h27)
  refine zx_aload_n (i := 0) dX11_ask_38 rfl rfl ?_
  refine zx_aload (i := 6) dX11_ask_39 rfl ?_
  refine zx_iload_n (i := 3) dX11_ask_41 rfl rfl ?_
  refine zx_iload (i := 4) dX11_ask_42 rfl ?_
  refine zx_iload (i := 5) dX11_ask_44 rfl ?_
  refine zx_iv (b := o) (As := [zR md, zI f, zI s, zI u]) (st := []) (v := (some (zI 0))) (w1 := w) dX11_ask_46 zc_X11_244 ho rfl rfl rfl (Nat.le_of_ble_eq_true rfl) rfl hdf ?_
  refine zx_st (st1 := [zI 0]) rfl ?_
  refine zx_if_ne (tgt := 60) dX11_ask_49 (by decide) (fun h49 => absurd h49 (by decide)) (fun h49 => ?_)
  refine zx_thrown zt_X11_83_85 dX11_ask_52 dX11_ask_55 dX11_ask_56 dX11_ask_59 rfl hst0 (Nat.le_of_ble_eq_true rfl) (by omega) (by omega) (fun z t z1 z2 z3 z4 => ?_)
  exact ⟨rfl, rfl, z1, z2, z3, z4⟩
theorem f_ak_x2 (ho : w.1 o = some (11, 0, [zR t, zR pg, zR mc, zR br, zR la, zR sp, zI comp, zI asked, zJ sum])) (hP : pgW w pg R) (i j f s u : Int) (hm : mdAt R i j = some md) (hmd : moW w md mr) (hai : zM G zm_X11_areInputsThere (d + 9) [zR o, zR md, zI f, zI s, zI u] w (zRet (some (zI 1)) w)) (hdf : zM G zm_X11_doInputsFit (d + 9) [zR o, zR md, zI f, zI s, zI u] w (zRet (some (zI 1)) w)) (hc : comp = 0) (hst0 : G.1.stackTraces = false) (r1 : w.2.1 + 1 ≤ G.2.2.2.2.1) (r2 : w.2.2 + 6 ≤ G.2.2.2.2.2) : zM G zm_X11_ask (d + 10) [zR o, zI i, zI j, zI f, zI s, zI u] w (zXw 2 w) := by
  refine zx_ent (by decide +kernel) rfl (Nat.le_of_ble_eq_true rfl) ?_
  refine zx_L (L1 := [some (zR o), some (zI i), some (zI j), some (zI f), some (zI s), some (zI u), none, none]) rfl ?_
  refine zx_aload_n (i := 0) dX11_ask_0 rfl rfl ?_
  refine zx_getfield dX11_ask_1 zf_X11_19 ho rfl ?_
  refine zx_iload_n (i := 1) dX11_ask_4 rfl rfl ?_
  refine zx_iload_n (i := 2) dX11_ask_5 rfl rfl ?_
  refine zx_iv (b := pg) (As := [zI i, zI j]) (st := []) (v := (some (zR md))) (w1 := w) dX11_ask_6 zc_X11_237 hP.1 rfl rfl rfl (Nat.le_of_ble_eq_true rfl) rfl (by have q := c_X7_modeAt (G := G) (d := d + 5) hP i j; rw [hm] at q; exact q) ?_
  refine zx_st (st1 := [zR md]) rfl ?_
  refine zx_astore (i := 6) dX11_ask_9 (by decide) rfl ?_
  refine zx_L (L1 := [some (zR o), some (zI i), some (zI j), some (zI f), some (zI s), some (zI u), some (zR md), none]) rfl ?_
  refine zx_aload (i := 6) dX11_ask_11 rfl ?_
  refine zx_ifnull (tgt := 30) dX11_ask_13 (by decide) (fun h => by cases h) (fun _ => ?_)
  refine zx_aload_n (i := 0) dX11_ask_16 rfl rfl ?_
  refine zx_aload (i := 6) dX11_ask_17 rfl ?_
  refine zx_iload_n (i := 3) dX11_ask_19 rfl rfl ?_
  refine zx_pc (pc1 := 20) rfl ?_
  refine zx_iload (i := 4) dX11_ask_20 rfl ?_
  refine zx_iload (i := 5) dX11_ask_22 rfl ?_
  refine zx_iv (b := o) (As := [zR md, zI f, zI s, zI u]) (st := []) (v := (some (zI 1))) (w1 := w) dX11_ask_24 zc_X11_240 ho rfl rfl rfl (Nat.le_of_ble_eq_true rfl) rfl hai ?_
  refine zx_st (st1 := [zI 1]) rfl ?_
  refine zx_if_ne (tgt := 38) dX11_ask_27 (by decide) (fun h27 => ?_) (fun h27 => absurd (by decide) h27)
  refine zx_aload_n (i := 0) dX11_ask_38 rfl rfl ?_
  refine zx_aload (i := 6) dX11_ask_39 rfl ?_
  refine zx_iload_n (i := 3) dX11_ask_41 rfl rfl ?_
  refine zx_iload (i := 4) dX11_ask_42 rfl ?_
  refine zx_iload (i := 5) dX11_ask_44 rfl ?_
  refine zx_iv (b := o) (As := [zR md, zI f, zI s, zI u]) (st := []) (v := (some (zI 1))) (w1 := w) dX11_ask_46 zc_X11_244 ho rfl rfl rfl (Nat.le_of_ble_eq_true rfl) rfl hdf ?_
  refine zx_st (st1 := [zI 1]) rfl ?_
  refine zx_if_ne (tgt := 60) dX11_ask_49 (by decide) (fun h49 => ?_) (fun h49 => absurd (by decide) h49)
  refine zx_aload_n (i := 0) dX11_ask_60 rfl rfl ?_
  refine zx_pc (pc1 := 61) rfl ?_
  exact zx_ivT (b := o) (As := []) (st := []) dX11_ask_61 zc_X11_199 ho rfl rfl rfl (Nat.le_of_ble_eq_true rfl) rfl (f_ru_x ho hc hst0 r1 r2) (fun _ q => q)
theorem f_ak_x3 (ho : w.1 o = some (11, 0, [zR t, zR pg, zR mc, zR br, zR la, zR sp, zI comp, zI asked, zJ sum])) (hP : pgW w pg R) (i j f s u : Int) (hm : mdAt R i j = some md) (hmd : moW w md mr) (hai : zM G zm_X11_areInputsThere (d + 9) [zR o, zR md, zI f, zI s, zI u] w (zRet (some (zI 1)) w)) (hdf : zM G zm_X11_doInputsFit (d + 9) [zR o, zR md, zI f, zI s, zI u] w (zRet (some (zI 1)) w)) (hc : comp ≠ 0) {sf : List zV} (hsp : w.1 sp = some (8, 0, sf)) (hbg : zM G zm_X8_begin (d + 9) [zR sp, zR md, zI f, zI s, zI u] w (zRet none w1)) (ho1 : w1.1 o = some (11, 0, [zR t, zR pg, zR mc, zR br, zR la, zR sp, zI comp, zI asked, zJ sum])) (hmd1 : moW w1 md mr) (hg : mr.2.2.2.2.2.1 = 0) (hst0 : G.1.stackTraces = false) (r1 : w1.2.1 + 1 ≤ G.2.2.2.2.1) (r2 : w1.2.2 + 6 ≤ G.2.2.2.2.2) : zM G zm_X11_ask (d + 10) [zR o, zI i, zI j, zI f, zI s, zI u] w (zXw 3 w1) := by
  refine zx_ent (by decide +kernel) rfl (Nat.le_of_ble_eq_true rfl) ?_
  refine zx_L (L1 := [some (zR o), some (zI i), some (zI j), some (zI f), some (zI s), some (zI u), none, none]) rfl ?_
  refine zx_aload_n (i := 0) dX11_ask_0 rfl rfl ?_
  refine zx_getfield dX11_ask_1 zf_X11_19 ho rfl ?_
  refine zx_iload_n (i := 1) dX11_ask_4 rfl rfl ?_
  refine zx_iload_n (i := 2) dX11_ask_5 rfl rfl ?_
  refine zx_iv (b := pg) (As := [zI i, zI j]) (st := []) (v := (some (zR md))) (w1 := w) dX11_ask_6 zc_X11_237 hP.1 rfl rfl rfl (Nat.le_of_ble_eq_true rfl) rfl (by have q := c_X7_modeAt (G := G) (d := d + 5) hP i j; rw [hm] at q; exact q) ?_
  refine zx_st (st1 := [zR md]) rfl ?_
  refine zx_astore (i := 6) dX11_ask_9 (by decide) rfl ?_
  refine zx_L (L1 := [some (zR o), some (zI i), some (zI j), some (zI f), some (zI s), some (zI u), some (zR md), none]) rfl ?_
  refine zx_aload (i := 6) dX11_ask_11 rfl ?_
  refine zx_ifnull (tgt := 30) dX11_ask_13 (by decide) (fun h => by cases h) (fun _ => ?_)
  refine zx_aload_n (i := 0) dX11_ask_16 rfl rfl ?_
  refine zx_aload (i := 6) dX11_ask_17 rfl ?_
  refine zx_iload_n (i := 3) dX11_ask_19 rfl rfl ?_
  refine zx_pc (pc1 := 20) rfl ?_
  refine zx_iload (i := 4) dX11_ask_20 rfl ?_
  refine zx_iload (i := 5) dX11_ask_22 rfl ?_
  refine zx_iv (b := o) (As := [zR md, zI f, zI s, zI u]) (st := []) (v := (some (zI 1))) (w1 := w) dX11_ask_24 zc_X11_240 ho rfl rfl rfl (Nat.le_of_ble_eq_true rfl) rfl hai ?_
  refine zx_st (st1 := [zI 1]) rfl ?_
  refine zx_if_ne (tgt := 38) dX11_ask_27 (by decide) (fun h27 => ?_) (fun h27 => absurd (by decide) h27)
  refine zx_aload_n (i := 0) dX11_ask_38 rfl rfl ?_
  refine zx_aload (i := 6) dX11_ask_39 rfl ?_
  refine zx_iload_n (i := 3) dX11_ask_41 rfl rfl ?_
  refine zx_iload (i := 4) dX11_ask_42 rfl ?_
  refine zx_iload (i := 5) dX11_ask_44 rfl ?_
  refine zx_iv (b := o) (As := [zR md, zI f, zI s, zI u]) (st := []) (v := (some (zI 1))) (w1 := w) dX11_ask_46 zc_X11_244 ho rfl rfl rfl (Nat.le_of_ble_eq_true rfl) rfl hdf ?_
  refine zx_st (st1 := [zI 1]) rfl ?_
  refine zx_if_ne (tgt := 60) dX11_ask_49 (by decide) (fun h49 => ?_) (fun h49 => absurd (by decide) h49)
  refine zx_aload_n (i := 0) dX11_ask_60 rfl rfl ?_
  refine zx_pc (pc1 := 61) rfl ?_
  refine zx_iv (b := o) (As := []) (st := []) (v := none) (w1 := w) dX11_ask_61 zc_X11_199 ho rfl rfl rfl (Nat.le_of_ble_eq_true rfl) rfl (f_ru_ok ho hc) ?_
  refine zx_st (st1 := []) rfl ?_
  refine zx_aload_n (i := 0) dX11_ask_64 rfl rfl ?_
  refine zx_getfield dX11_ask_65 zf_X11_30 ho rfl ?_
  refine zx_aload (i := 6) dX11_ask_68 rfl ?_
  refine zx_iload_n (i := 3) dX11_ask_70 rfl rfl ?_
  refine zx_iload (i := 4) dX11_ask_71 rfl ?_
  refine zx_iload (i := 5) dX11_ask_73 rfl ?_
  refine zx_iv (b := sp) (As := [zR md, zI f, zI s, zI u]) (st := []) (v := none) (w1 := w1) dX11_ask_75 zc_X11_247 hsp rfl rfl rfl (Nat.le_of_ble_eq_true rfl) rfl hbg ?_
  refine zx_st (st1 := []) rfl ?_
  refine zx_aload (i := 6) dX11_ask_78 rfl ?_
  refine zx_getfield dX11_ask_80 zf_X11_212 hmd1 rfl ?_
  refine zx_if_eq (tgt := 102) dX11_ask_83 (by decide) (fun h83 => ?_) (fun h83 => absurd (hg) h83)
  refine zx_thrown zt_X11_255_257 dX11_ask_102 dX11_ask_105 dX11_ask_106 dX11_ask_109 rfl hst0 (Nat.le_of_ble_eq_true rfl) (by omega) (by omega) (fun z t z1 z2 z3 z4 => ?_)
  exact ⟨rfl, rfl, z1, z2, z3, z4⟩
theorem f_ak_A (ho : w.1 o = some (11, 0, [zR t, zR pg, zR mc, zR br, zR la, zR sp, zI comp, zI asked, zJ sum])) (hP : pgW w pg R) (i j f s u : Int) (hm : mdAt R i j = some md) (hmd : moW w md mr) (hai : zM G zm_X11_areInputsThere (d + 9) [zR o, zR md, zI f, zI s, zI u] w (zRet (some (zI 1)) w)) (hdf : zM G zm_X11_doInputsFit (d + 9) [zR o, zR md, zI f, zI s, zI u] w (zRet (some (zI 1)) w)) (hc : comp ≠ 0) {sf : List zV} (hsp : w.1 sp = some (8, 0, sf)) (hbg : zM G zm_X8_begin (d + 9) [zR sp, zR md, zI f, zI s, zI u] w (zRet none w1)) (ho1 : w1.1 o = some (11, 0, [zR t, zR pg, zR mc, zR br, zR la, zR sp, zI comp, zI asked, zJ sum])) (hmd1 : moW w1 md mr) (hg : mr.2.2.2.2.2.1 ≠ 0) {mf : List zV} (hmc1 : w1.1 mc = some (4, 0, mf)) {P1 P0 : zW → Prop} (hrn : zM G zm_X4_run (d + 9) [zR mc, zR md, zR sp] w1 (zVal fun v w2 => (v = zI 1 ∧ P1 w2) ∨ (v = zI 0 ∧ P0 w2))) (k1 : ∀ w2, P1 w2 → zX G zm_X11_ask (d + 10) [zR o, zI i, zI j, zI f, zI s, zI u] w Q 99 [some (zR o), some (zI i), some (zI j), some (zI f), some (zI s), some (zI u), some (zR md), none] [zI 1] w2) (k0 : ∀ w2, P0 w2 → zX G zm_X11_ask (d + 10) [zR o, zI i, zI j, zI f, zI s, zI u] w Q 99 [some (zR o), some (zI i), some (zI j), some (zI f), some (zI s), some (zI u), some (zR md), none] [zI 0] w2) : zM G zm_X11_ask (d + 10) [zR o, zI i, zI j, zI f, zI s, zI u] w (Q) := by
  refine zx_ent (by decide +kernel) rfl (Nat.le_of_ble_eq_true rfl) ?_
  refine zx_L (L1 := [some (zR o), some (zI i), some (zI j), some (zI f), some (zI s), some (zI u), none, none]) rfl ?_
  refine zx_aload_n (i := 0) dX11_ask_0 rfl rfl ?_
  refine zx_getfield dX11_ask_1 zf_X11_19 ho rfl ?_
  refine zx_iload_n (i := 1) dX11_ask_4 rfl rfl ?_
  refine zx_iload_n (i := 2) dX11_ask_5 rfl rfl ?_
  refine zx_iv (b := pg) (As := [zI i, zI j]) (st := []) (v := (some (zR md))) (w1 := w) dX11_ask_6 zc_X11_237 hP.1 rfl rfl rfl (Nat.le_of_ble_eq_true rfl) rfl (by have q := c_X7_modeAt (G := G) (d := d + 5) hP i j; rw [hm] at q; exact q) ?_
  refine zx_st (st1 := [zR md]) rfl ?_
  refine zx_astore (i := 6) dX11_ask_9 (by decide) rfl ?_
  refine zx_L (L1 := [some (zR o), some (zI i), some (zI j), some (zI f), some (zI s), some (zI u), some (zR md), none]) rfl ?_
  refine zx_aload (i := 6) dX11_ask_11 rfl ?_
  refine zx_ifnull (tgt := 30) dX11_ask_13 (by decide) (fun h => by cases h) (fun _ => ?_)
  refine zx_aload_n (i := 0) dX11_ask_16 rfl rfl ?_
  refine zx_aload (i := 6) dX11_ask_17 rfl ?_
  refine zx_iload_n (i := 3) dX11_ask_19 rfl rfl ?_
  refine zx_pc (pc1 := 20) rfl ?_
  refine zx_iload (i := 4) dX11_ask_20 rfl ?_
  refine zx_iload (i := 5) dX11_ask_22 rfl ?_
  refine zx_iv (b := o) (As := [zR md, zI f, zI s, zI u]) (st := []) (v := (some (zI 1))) (w1 := w) dX11_ask_24 zc_X11_240 ho rfl rfl rfl (Nat.le_of_ble_eq_true rfl) rfl hai ?_
  refine zx_st (st1 := [zI 1]) rfl ?_
  refine zx_if_ne (tgt := 38) dX11_ask_27 (by decide) (fun h27 => ?_) (fun h27 => absurd (by decide) h27)
  refine zx_aload_n (i := 0) dX11_ask_38 rfl rfl ?_
  refine zx_aload (i := 6) dX11_ask_39 rfl ?_
  refine zx_iload_n (i := 3) dX11_ask_41 rfl rfl ?_
  refine zx_iload (i := 4) dX11_ask_42 rfl ?_
  refine zx_iload (i := 5) dX11_ask_44 rfl ?_
  refine zx_iv (b := o) (As := [zR md, zI f, zI s, zI u]) (st := []) (v := (some (zI 1))) (w1 := w) dX11_ask_46 zc_X11_244 ho rfl rfl rfl (Nat.le_of_ble_eq_true rfl) rfl hdf ?_
  refine zx_st (st1 := [zI 1]) rfl ?_
  refine zx_if_ne (tgt := 60) dX11_ask_49 (by decide) (fun h49 => ?_) (fun h49 => absurd (by decide) h49)
  refine zx_aload_n (i := 0) dX11_ask_60 rfl rfl ?_
  refine zx_pc (pc1 := 61) rfl ?_
  refine zx_iv (b := o) (As := []) (st := []) (v := none) (w1 := w) dX11_ask_61 zc_X11_199 ho rfl rfl rfl (Nat.le_of_ble_eq_true rfl) rfl (f_ru_ok ho hc) ?_
  refine zx_st (st1 := []) rfl ?_
  refine zx_aload_n (i := 0) dX11_ask_64 rfl rfl ?_
  refine zx_getfield dX11_ask_65 zf_X11_30 ho rfl ?_
  refine zx_aload (i := 6) dX11_ask_68 rfl ?_
  refine zx_iload_n (i := 3) dX11_ask_70 rfl rfl ?_
  refine zx_iload (i := 4) dX11_ask_71 rfl ?_
  refine zx_iload (i := 5) dX11_ask_73 rfl ?_
  refine zx_iv (b := sp) (As := [zR md, zI f, zI s, zI u]) (st := []) (v := none) (w1 := w1) dX11_ask_75 zc_X11_247 hsp rfl rfl rfl (Nat.le_of_ble_eq_true rfl) rfl hbg ?_
  refine zx_st (st1 := []) rfl ?_
  refine zx_aload (i := 6) dX11_ask_78 rfl ?_
  refine zx_getfield dX11_ask_80 zf_X11_212 hmd1 rfl ?_
  refine zx_if_eq (tgt := 102) dX11_ask_83 (by decide) (fun h83 => absurd h83 (hg)) (fun h83 => ?_)
  refine zx_aload_n (i := 0) dX11_ask_86 rfl rfl ?_
  refine zx_pc (pc1 := 87) rfl ?_
  refine zx_getfield dX11_ask_87 zf_X11_38 ho1 rfl ?_
  refine zx_aload (i := 6) dX11_ask_90 rfl ?_
  refine zx_aload_n (i := 0) dX11_ask_92 rfl rfl ?_
  refine zx_getfield dX11_ask_93 zf_X11_30 ho1 rfl ?_
  refine zx_ivV (b := mc) (As := [zR md, zR sp]) (st := []) dX11_ask_96 zc_X11_251 hmc1 rfl rfl rfl (Nat.le_of_ble_eq_true rfl) rfl hrn (fun v2 w2 hq2 => ?_)
  rcases hq2 with ⟨rfl, hq⟩ | ⟨rfl, hq⟩
  · exact k1 w2 hq
  · exact k0 w2 hq
theorem f_ak_B0 {w2 : zW} (i j f s u : Int) (hst0 : G.1.stackTraces = false) (r1 : w2.2.1 + 1 ≤ G.2.2.2.2.1) (r2 : w2.2.2 + 6 ≤ G.2.2.2.2.2) (k : ∀ w3, zXw 3 w2 (.inr 3) w3 → Q (.inr 3) w3) : zX G zm_X11_ask (d + 10) [zR o, zI i, zI j, zI f, zI s, zI u] w Q 99 [some (zR o), some (zI i), some (zI j), some (zI f), some (zI s), some (zI u), some (zR md), none] [zI 0] w2 := by
  refine zx_if_ne (tgt := 110) dX11_ask_99 (by decide) (fun h99 => absurd h99 (by decide)) (fun h99 => ?_)
  refine zx_thrown zt_X11_255_257 dX11_ask_102 dX11_ask_105 dX11_ask_106 dX11_ask_109 rfl hst0 (Nat.le_of_ble_eq_true rfl) (by omega) (by omega) (fun z t z1 z2 z3 z4 => ?_)
  exact k _ ⟨rfl, rfl, z1, z2, z3, z4⟩
theorem f_ak_B1 {w2 : zW} (i j f s u : Int) {li lj ln : Nat} {mo : Option Nat} {I A N : List (List Int)} {sc cc dc en bk bc : Int} (ho2 : w2.1 o = some (11, 0, [zR t, zR pg, zR mc, zR br, zR la, zR sp, zI comp, zI asked, zJ sum])) (hL : rpW w2 sp li lj ln mo I A N sc cc dc en bk bc) (ha0 : 0 ≤ asked ∧ asked < 1000) (hs0 : 0 ≤ sum ∧ sum < 1000000) (hsc : 0 ≤ sc ∧ sc ≤ 300) (k : Q (.inl (some (zI (A.length : Int)))) (zput w2 o (11, 0, [zR t, zR pg, zR mc, zR br, zR sp, zR la, zI comp, zI (asked + 1), zJ (sum + sc)]))) : zX G zm_X11_ask (d + 10) [zR o, zI i, zI j, zI f, zI s, zI u] w Q 99 [some (zR o), some (zI i), some (zI j), some (zI f), some (zI s), some (zI u), some (zR md), none] [zI 1] w2 := by
  refine zx_if_ne (tgt := 110) dX11_ask_99 (by decide) (fun h99 => ?_) (fun h99 => absurd (by decide) h99)
  refine zx_aload_n (i := 0) dX11_ask_110 rfl rfl ?_
  refine zx_getfield dX11_ask_111 zf_X11_26 ho2 rfl ?_
  refine zx_astore (i := 7) dX11_ask_114 (by decide) rfl ?_
  refine zx_L (L1 := [some (zR o), some (zI i), some (zI j), some (zI f), some (zI s), some (zI u), some (zR md), some (zR la)]) rfl ?_
  refine zx_aload_n (i := 0) dX11_ask_116 rfl rfl ?_
  refine zx_aload_n (i := 0) dX11_ask_117 rfl rfl ?_
  refine zx_getfield dX11_ask_118 zf_X11_30 ho2 rfl ?_
  obtain ⟨w_1, hw_2⟩ : ∃ ww, ww = zput w2 o (11, 0, [zR t, zR pg, zR mc, zR br, zR sp, zR sp, zI comp, zI asked, zJ sum]) := ⟨_, rfl⟩
  refine zx_put (w1 := w_1) dX11_ask_121 zf_X11_26 ho2 (Nat.le_of_ble_eq_true rfl) (zFt_obj _ _) (fun h => by cases h) hw_2.symm ?_
  have q_3 : w_1.2.1 = w2.2.1 ∧ w_1.2.2 = w2.2.2 := by rw [hw_2]; exact ⟨rfl, rfl⟩
  have h_4 : w_1.1 o = some (11, 0, [zR t, zR pg, zR mc, zR br, zR sp, zR sp, zI comp, zI asked, zJ sum]) := by rw [hw_2]; exact zput_at
  refine zx_aload_n (i := 0) dX11_ask_124 rfl rfl ?_
  refine zx_aload (i := 7) dX11_ask_125 rfl ?_
  obtain ⟨w_5, hw_6⟩ : ∃ ww, ww = zput w_1 o (11, 0, [zR t, zR pg, zR mc, zR br, zR sp, zR la, zI comp, zI asked, zJ sum]) := ⟨_, rfl⟩
  refine zx_put (w1 := w_5) dX11_ask_127 zf_X11_30 h_4 (Nat.le_of_ble_eq_true rfl) (zFt_obj _ _) (fun h => by cases h) hw_6.symm ?_
  have q_7 : w_5.2.1 = w_1.2.1 ∧ w_5.2.2 = w_1.2.2 := by rw [hw_6]; exact ⟨rfl, rfl⟩
  have h_8 : w_5.1 o = some (11, 0, [zR t, zR pg, zR mc, zR br, zR sp, zR la, zI comp, zI asked, zJ sum]) := by rw [hw_6]; exact zput_at
  refine zx_pc (pc1 := 130) rfl ?_
  refine zx_aload_n (i := 0) dX11_ask_130 rfl rfl ?_
  refine zx_dup dX11_ask_131 (fun a h => by cases h) ?_
  refine zx_getfield dX11_ask_132 zf_X11_55 h_8 rfl ?_
  refine zx_iconst (v := 1) dX11_ask_135 rfl (z32_lit (by decide) (by decide)) ?_
  refine zx_iadd (v := (asked + 1)) dX11_ask_136 (zw_eq rfl (by omega) (by omega)) ?_
  obtain ⟨w_9, hw_10⟩ : ∃ ww, ww = zput w_5 o (11, 0, [zR t, zR pg, zR mc, zR br, zR sp, zR la, zI comp, zI (asked + 1), zJ sum]) := ⟨_, rfl⟩
  refine zx_put (w1 := w_9) dX11_ask_137 zf_X11_55 h_8 (Nat.le_of_ble_eq_true rfl) (zFt_int _) (fun h => by cases h) hw_10.symm ?_
  have q_11 : w_9.2.1 = w_5.2.1 ∧ w_9.2.2 = w_5.2.2 := by rw [hw_10]; exact ⟨rfl, rfl⟩
  have h_12 : w_9.1 o = some (11, 0, [zR t, zR pg, zR mc, zR br, zR sp, zR la, zI comp, zI (asked + 1), zJ sum]) := by rw [hw_10]; exact zput_at
  refine zx_aload_n (i := 0) dX11_ask_140 rfl rfl ?_
  refine zx_dup dX11_ask_141 (fun a h => by cases h) ?_
  refine zx_getfield dX11_ask_142 zf_X11_59 h_12 rfl ?_
  refine zx_aload_n (i := 0) dX11_ask_145 rfl rfl ?_
  refine zx_getfield dX11_ask_146 zf_X11_26 h_12 rfl ?_
  have h_13 : w_1.1 sp = some (8, 0, [zP mo, zR li, zR lj, zR ln, zI sc, zI cc, zI dc, zI en, zI bk, zI bc]) := by
    rw [hw_2]; exact zput_tg ho2 hL.1 (by simp)
  have h_14 : w_5.1 sp = some (8, 0, [zP mo, zR li, zR lj, zR ln, zI sc, zI cc, zI dc, zI en, zI bk, zI bc]) := by
    rw [hw_6]; exact zput_tg h_4 h_13 (by simp)
  have h_15 : w_9.1 sp = some (8, 0, [zP mo, zR li, zR lj, zR ln, zI sc, zI cc, zI dc, zI en, zI bk, zI bc]) := by
    rw [hw_10]; exact zput_tg h_8 h_14 (by simp)
  refine zx_getfield dX11_ask_149 zf_X11_258 h_15 rfl ?_
  refine zx_pc (pc1 := 152) rfl ?_
  refine zx_i2l dX11_ask_152 ?_
  refine zx_ladd (v := (sum + sc)) dX11_ask_153 (zwl_id ⟨by omega, by omega⟩) ?_
  obtain ⟨w_16, hw_17⟩ : ∃ ww, ww = zput w_9 o (11, 0, [zR t, zR pg, zR mc, zR br, zR sp, zR la, zI comp, zI (asked + 1), zJ (sum + sc)]) := ⟨_, rfl⟩
  refine zx_put (w1 := w_16) dX11_ask_154 zf_X11_59 h_12 (Nat.le_of_ble_eq_true rfl) (zFt_long _) (fun h => by cases h) hw_17.symm ?_
  have q_18 : w_16.2.1 = w_9.2.1 ∧ w_16.2.2 = w_9.2.2 := by rw [hw_17]; exact ⟨rfl, rfl⟩
  have h_19 : w_16.1 o = some (11, 0, [zR t, zR pg, zR mc, zR br, zR sp, zR la, zI comp, zI (asked + 1), zJ (sum + sc)]) := by rw [hw_17]; exact zput_at
  refine zx_aload_n (i := 0) dX11_ask_157 rfl rfl ?_
  refine zx_getfield dX11_ask_158 zf_X11_26 h_19 rfl ?_
  have hL3 : rpW w_16 sp li lj ln mo I A N sc cc dc en bk bc := by
    have hk : zKp o w2 w_16 := fun b ob hb h => by
      rw [hw_17, hw_10, hw_6, hw_2]
      exact zput_to hb (zput_to hb (zput_to hb (zput_to hb h)))
    exact rpW_kp hk ho2 hL
  have h_20 : w_16.1 sp = some (8, 0, [zP mo, zR li, zR lj, zR ln, zI sc, zI cc, zI dc, zI en, zI bk, zI bc]) := by
    rw [hw_17]; exact zput_tg h_12 h_15 (by simp)
  refine zx_iv (b := sp) (As := []) (st := []) (v := (some (zI (A.length : Int)))) (w1 := w_16) dX11_ask_161 zc_X11_261 h_20 rfl rfl rfl (Nat.le_of_ble_eq_true rfl) rfl (c_X8_answerCount hL3) ?_
  refine zx_st (st1 := [zI (A.length : Int)]) rfl ?_
  refine zx_iret dX11_ask_164 rfl ?_
  rw [hw_17, hw_10, hw_6, hw_2]
  simp only [zput_put]
  exact k
end CFACE9
