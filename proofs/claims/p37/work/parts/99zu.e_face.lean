/-! Own rows: the face's small calls. Walked by program (wip/p37/m_face.py). -/
/-- it throws, and nothing else has changed -/
def zXw (i : Nat) (w : zW) : zQ := fun o w' => o = .inr i ∧ w'.1 = w.1 ∧ w.2.1 ≤ w'.2.1 ∧ w'.2.1 ≤ w.2.1 + 1 ∧ w.2.2 ≤ w'.2.2 ∧ w'.2.2 ≤ w.2.2 + 6
section CFACE
section IVT
variable {G : zG} {M : zMd} {d : Nat} {av : List zV} {w0 : zW} {Q : zQ} {pc : Nat} {L : List (Option zV)} {st : List zV} {w : zW}
theorem zx_ivT {idx n d' b i : Nat} {ob : zO} {q : vw_C} {M' : zMd} {As : List zV} (hd : decode M.2.1 pc = .ok (.invokevirtual idx, 3)) (hc : zCV M.1.cls idx M' n) (hb : w.1 b = some ob) (hq : vwCl[zcls ob.1]? = some q) (hq1 : q.1 = M'.1.cls) (hn : As.length = n) (hst : st.length ≤ 4) (hh : M.2.2.2.2 = [])
    (hM : zM G M' d' (zR b :: As) w (zXw i w)) (k : ∀ w', zXw i w (.inr i) w' → Q (.inr i) w') : zX G M (d' + 1) av w0 Q pc L (As.reverse ++ zR b :: st) w :=
  zx_invokevirtual hd hc hb hq hq1 hn hst hh hM (fun v' w' q => by cases q.1) (fun j w' q => by have e := q.1; cases e; exact k w' q)
end IVT
variable {G : zG} {d : Nat} {w : zW} {o t pg mc br la sp : Nat} {comp asked sum : Int}
theorem f_ru_ok (ho : w.1 o = some (11, 0, [zR t, zR pg, zR mc, zR br, zR la, zR sp, zI comp, zI asked, zJ sum])) (hc : comp ≠ 0) : zM G zm_X11_refuseUncompiled (d + 0) [zR o] w (zRet none w) := by
  refine zx_ent (by decide +kernel) rfl (Nat.le_of_ble_eq_true rfl) ?_
  refine zx_L (L1 := [some (zR o)]) rfl ?_
  refine zx_aload_n (i := 0) dX11_refuseUncompiled_0 rfl rfl ?_
  refine zx_getfield dX11_refuseUncompiled_1 zf_X11_51 ho rfl ?_
  refine zx_if_ne (tgt := 15) dX11_refuseUncompiled_4 (by decide) (fun h4 => ?_) (fun h4 => absurd (hc) h4)
  refine zx_return dX11_refuseUncompiled_15 rfl ?_
  exact zr_n rfl
theorem f_ru_x (ho : w.1 o = some (11, 0, [zR t, zR pg, zR mc, zR br, zR la, zR sp, zI comp, zI asked, zJ sum])) (hc : comp = 0) (hst0 : G.1.stackTraces = false) (r1 : w.2.1 + 1 ≤ G.2.2.2.2.1) (r2 : w.2.2 + 6 ≤ G.2.2.2.2.2) : zM G zm_X11_refuseUncompiled (d + 4) [zR o] w (zXw 2 w) := by
  refine zx_ent (by decide +kernel) rfl (Nat.le_of_ble_eq_true rfl) ?_
  refine zx_L (L1 := [some (zR o)]) rfl ?_
  refine zx_aload_n (i := 0) dX11_refuseUncompiled_0 rfl rfl ?_
  refine zx_getfield dX11_refuseUncompiled_1 zf_X11_51 ho rfl ?_
  refine zx_if_ne (tgt := 15) dX11_refuseUncompiled_4 (by decide) (fun h4 => absurd h4 (not_not_intro hc)) (fun h4 => ?_)
  refine zx_thrown zt_X11_67_69 dX11_refuseUncompiled_7 dX11_refuseUncompiled_10 dX11_refuseUncompiled_11 dX11_refuseUncompiled_14 rfl hst0 (Nat.le_of_ble_eq_true rfl) (by omega) (by omega) (fun z t z1 z2 z3 z4 => ?_)
  exact ⟨rfl, rfl, z1, z2, z3, z4⟩
theorem f_rq_ok (ho : w.1 o = some (11, 0, [zR t, zR pg, zR mc, zR br, zR la, zR sp, zI comp, zI asked, zJ sum])) (ha : asked ≠ 0) : zM G zm_X11_refuseUnasked (d + 0) [zR o] w (zRet none w) := by
  refine zx_ent (by decide +kernel) rfl (Nat.le_of_ble_eq_true rfl) ?_
  refine zx_L (L1 := [some (zR o)]) rfl ?_
  refine zx_aload_n (i := 0) dX11_refuseUnasked_0 rfl rfl ?_
  refine zx_getfield dX11_refuseUnasked_1 zf_X11_55 ho rfl ?_
  refine zx_if_ne (tgt := 15) dX11_refuseUnasked_4 (by decide) (fun h4 => ?_) (fun h4 => absurd (ha) h4)
  refine zx_return dX11_refuseUnasked_15 rfl ?_
  exact zr_n rfl
theorem f_rq_x (ho : w.1 o = some (11, 0, [zR t, zR pg, zR mc, zR br, zR la, zR sp, zI comp, zI asked, zJ sum])) (ha : asked = 0) (hst0 : G.1.stackTraces = false) (r1 : w.2.1 + 1 ≤ G.2.2.2.2.1) (r2 : w.2.2 + 6 ≤ G.2.2.2.2.2) : zM G zm_X11_refuseUnasked (d + 4) [zR o] w (zXw 4 w) := by
  refine zx_ent (by decide +kernel) rfl (Nat.le_of_ble_eq_true rfl) ?_
  refine zx_L (L1 := [some (zR o)]) rfl ?_
  refine zx_aload_n (i := 0) dX11_refuseUnasked_0 rfl rfl ?_
  refine zx_getfield dX11_refuseUnasked_1 zf_X11_55 ho rfl ?_
  refine zx_if_ne (tgt := 15) dX11_refuseUnasked_4 (by decide) (fun h4 => absurd h4 (not_not_intro ha)) (fun h4 => ?_)
  refine zx_thrown zt_X11_117_119 dX11_refuseUnasked_7 dX11_refuseUnasked_10 dX11_refuseUnasked_11 dX11_refuseUnasked_14 rfl hst0 (Nat.le_of_ble_eq_true rfl) (by omega) (by omega) (fun z t z1 z2 z3 z4 => ?_)
  exact ⟨rfl, rfl, z1, z2, z3, z4⟩
theorem f_st_ok {li lj ln : Nat} {mo : Option Nat} {I A N : List (List Int)} {sc cc dc en bk bc : Int} (ho : w.1 o = some (11, 0, [zR t, zR pg, zR mc, zR br, zR la, zR sp, zI comp, zI asked, zJ sum])) (ha : asked ≠ 0) (hL : rpW w la li lj ln mo I A N sc cc dc en bk bc) : zM G zm_X11_steps (d + 1) [zR o] w (zRet (some (zI sc)) w) := by
  refine zx_ent (by decide +kernel) rfl (Nat.le_of_ble_eq_true rfl) ?_
  refine zx_L (L1 := [some (zR o)]) rfl ?_
  obtain ⟨h0, ⟨hi, okI⟩, ⟨hla, okA⟩, ⟨hn, okN⟩⟩ := id hL
  refine zx_aload_n (i := 0) dX11_steps_0 rfl rfl ?_
  refine zx_iv (b := o) (As := []) (st := []) (v := none) (w1 := w) dX11_steps_1 zc_X11_264 ho rfl rfl rfl (Nat.le_of_ble_eq_true rfl) rfl (f_rq_ok ho ha) ?_
  refine zx_st (st1 := []) rfl ?_
  refine zx_aload_n (i := 0) dX11_steps_4 rfl rfl ?_
  refine zx_getfield dX11_steps_5 zf_X11_26 ho rfl ?_
  refine zx_getfield dX11_steps_8 zf_X11_258 h0 rfl ?_
  refine zx_iret dX11_steps_11 rfl ?_
  exact zr_v rfl rfl
theorem f_cp_ok {li lj ln : Nat} {mo : Option Nat} {I A N : List (List Int)} {sc cc dc en bk bc : Int} (ho : w.1 o = some (11, 0, [zR t, zR pg, zR mc, zR br, zR la, zR sp, zI comp, zI asked, zJ sum])) (ha : asked ≠ 0) (hL : rpW w la li lj ln mo I A N sc cc dc en bk bc) : zM G zm_X11_choicePoints (d + 1) [zR o] w (zRet (some (zI cc)) w) := by
  refine zx_ent (by decide +kernel) rfl (Nat.le_of_ble_eq_true rfl) ?_
  refine zx_L (L1 := [some (zR o)]) rfl ?_
  obtain ⟨h0, ⟨hi, okI⟩, ⟨hla, okA⟩, ⟨hn, okN⟩⟩ := id hL
  refine zx_aload_n (i := 0) dX11_choicePoints_0 rfl rfl ?_
  refine zx_iv (b := o) (As := []) (st := []) (v := none) (w1 := w) dX11_choicePoints_1 zc_X11_264 ho rfl rfl rfl (Nat.le_of_ble_eq_true rfl) rfl (f_rq_ok ho ha) ?_
  refine zx_st (st1 := []) rfl ?_
  refine zx_aload_n (i := 0) dX11_choicePoints_4 rfl rfl ?_
  refine zx_getfield dX11_choicePoints_5 zf_X11_26 ho rfl ?_
  refine zx_getfield dX11_choicePoints_8 zf_X11_293 h0 rfl ?_
  refine zx_iret dX11_choicePoints_11 rfl ?_
  exact zr_v rfl rfl
theorem f_dp_ok {li lj ln : Nat} {mo : Option Nat} {I A N : List (List Int)} {sc cc dc en bk bc : Int} (ho : w.1 o = some (11, 0, [zR t, zR pg, zR mc, zR br, zR la, zR sp, zI comp, zI asked, zJ sum])) (ha : asked ≠ 0) (hL : rpW w la li lj ln mo I A N sc cc dc en bk bc) : zM G zm_X11_deepest (d + 1) [zR o] w (zRet (some (zI dc)) w) := by
  refine zx_ent (by decide +kernel) rfl (Nat.le_of_ble_eq_true rfl) ?_
  refine zx_L (L1 := [some (zR o)]) rfl ?_
  obtain ⟨h0, ⟨hi, okI⟩, ⟨hla, okA⟩, ⟨hn, okN⟩⟩ := id hL
  refine zx_aload_n (i := 0) dX11_deepest_0 rfl rfl ?_
  refine zx_iv (b := o) (As := []) (st := []) (v := none) (w1 := w) dX11_deepest_1 zc_X11_264 ho rfl rfl rfl (Nat.le_of_ble_eq_true rfl) rfl (f_rq_ok ho ha) ?_
  refine zx_st (st1 := []) rfl ?_
  refine zx_aload_n (i := 0) dX11_deepest_4 rfl rfl ?_
  refine zx_getfield dX11_deepest_5 zf_X11_26 ho rfl ?_
  refine zx_getfield dX11_deepest_8 zf_X11_296 h0 rfl ?_
  refine zx_iret dX11_deepest_11 rfl ?_
  exact zr_v rfl rfl
theorem f_en_ok {li lj ln : Nat} {mo : Option Nat} {I A N : List (List Int)} {sc cc dc en bk bc : Int} (ho : w.1 o = some (11, 0, [zR t, zR pg, zR mc, zR br, zR la, zR sp, zI comp, zI asked, zJ sum])) (ha : asked ≠ 0) (hL : rpW w la li lj ln mo I A N sc cc dc en bk bc) (he : 0 ≤ en ∧ en < 65536) : zM G zm_X11_ending (d + 1) [zR o] w (zRet (some (zI en)) w) := by
  refine zx_ent (by decide +kernel) rfl (Nat.le_of_ble_eq_true rfl) ?_
  refine zx_L (L1 := [some (zR o)]) rfl ?_
  obtain ⟨h0, ⟨hi, okI⟩, ⟨hla, okA⟩, ⟨hn, okN⟩⟩ := id hL
  refine zx_aload_n (i := 0) dX11_ending_0 rfl rfl ?_
  refine zx_iv (b := o) (As := []) (st := []) (v := none) (w1 := w) dX11_ending_1 zc_X11_264 ho rfl rfl rfl (Nat.le_of_ble_eq_true rfl) rfl (f_rq_ok ho ha) ?_
  refine zx_st (st1 := []) rfl ?_
  refine zx_aload_n (i := 0) dX11_ending_4 rfl rfl ?_
  refine zx_getfield dX11_ending_5 zf_X11_26 ho rfl ?_
  refine zx_getfield dX11_ending_8 zf_X11_267 h0 rfl ?_
  refine zx_cret dX11_ending_11 rfl he ?_
  exact zr_v rfl rfl
theorem f_rc_ok {li lj ln : Nat} {mo : Option Nat} {I A N : List (List Int)} {sc cc dc en bk bc : Int} (ho : w.1 o = some (11, 0, [zR t, zR pg, zR mc, zR br, zR la, zR sp, zI comp, zI asked, zJ sum])) (ha : asked ≠ 0) (hL : rpW w la li lj ln mo I A N sc cc dc en bk bc) : zM G zm_X11_recorded (d + 2) [zR o] w (zRet (some (zI (N.length : Int))) w) := by
  refine zx_ent (by decide +kernel) rfl (Nat.le_of_ble_eq_true rfl) ?_
  refine zx_L (L1 := [some (zR o)]) rfl ?_
  obtain ⟨h0, ⟨hi, okI⟩, ⟨hla, okA⟩, ⟨hn, okN⟩⟩ := id hL
  refine zx_aload_n (i := 0) dX11_recorded_0 rfl rfl ?_
  refine zx_iv (b := o) (As := []) (st := []) (v := none) (w1 := w) dX11_recorded_1 zc_X11_264 ho rfl rfl rfl (Nat.le_of_ble_eq_true rfl) rfl (f_rq_ok ho ha) ?_
  refine zx_st (st1 := []) rfl ?_
  refine zx_aload_n (i := 0) dX11_recorded_4 rfl rfl ?_
  refine zx_getfield dX11_recorded_5 zf_X11_26 ho rfl ?_
  refine zx_iv (b := la) (As := []) (st := []) (v := (some (zI (N.length : Int)))) (w1 := w) dX11_recorded_8 zc_X11_299 h0 rfl rfl rfl (Nat.le_of_ble_eq_true rfl) rfl (c_X8_noteCount hL) ?_
  refine zx_st (st1 := [zI (N.length : Int)]) rfl ?_
  refine zx_iret dX11_recorded_11 rfl ?_
  exact zr_v rfl rfl
theorem f_st_x (ho : w.1 o = some (11, 0, [zR t, zR pg, zR mc, zR br, zR la, zR sp, zI comp, zI asked, zJ sum])) (ha : asked = 0) (hst0 : G.1.stackTraces = false) (r1 : w.2.1 + 1 ≤ G.2.2.2.2.1) (r2 : w.2.2 + 6 ≤ G.2.2.2.2.2) : zM G zm_X11_steps (d + 5) [zR o] w (zXw 4 w) := by
  refine zx_ent (by decide +kernel) rfl (Nat.le_of_ble_eq_true rfl) ?_
  refine zx_L (L1 := [some (zR o)]) rfl ?_
  refine zx_aload_n (i := 0) dX11_steps_0 rfl rfl ?_
  exact zx_ivT (b := o) (As := []) (st := []) dX11_steps_1 zc_X11_264 ho rfl rfl rfl (Nat.le_of_ble_eq_true rfl) rfl (f_rq_x ho ha hst0 r1 r2) (fun _ q => q)
theorem f_cp_x (ho : w.1 o = some (11, 0, [zR t, zR pg, zR mc, zR br, zR la, zR sp, zI comp, zI asked, zJ sum])) (ha : asked = 0) (hst0 : G.1.stackTraces = false) (r1 : w.2.1 + 1 ≤ G.2.2.2.2.1) (r2 : w.2.2 + 6 ≤ G.2.2.2.2.2) : zM G zm_X11_choicePoints (d + 5) [zR o] w (zXw 4 w) := by
  refine zx_ent (by decide +kernel) rfl (Nat.le_of_ble_eq_true rfl) ?_
  refine zx_L (L1 := [some (zR o)]) rfl ?_
  refine zx_aload_n (i := 0) dX11_choicePoints_0 rfl rfl ?_
  exact zx_ivT (b := o) (As := []) (st := []) dX11_choicePoints_1 zc_X11_264 ho rfl rfl rfl (Nat.le_of_ble_eq_true rfl) rfl (f_rq_x ho ha hst0 r1 r2) (fun _ q => q)
theorem f_dp_x (ho : w.1 o = some (11, 0, [zR t, zR pg, zR mc, zR br, zR la, zR sp, zI comp, zI asked, zJ sum])) (ha : asked = 0) (hst0 : G.1.stackTraces = false) (r1 : w.2.1 + 1 ≤ G.2.2.2.2.1) (r2 : w.2.2 + 6 ≤ G.2.2.2.2.2) : zM G zm_X11_deepest (d + 5) [zR o] w (zXw 4 w) := by
  refine zx_ent (by decide +kernel) rfl (Nat.le_of_ble_eq_true rfl) ?_
  refine zx_L (L1 := [some (zR o)]) rfl ?_
  refine zx_aload_n (i := 0) dX11_deepest_0 rfl rfl ?_
  exact zx_ivT (b := o) (As := []) (st := []) dX11_deepest_1 zc_X11_264 ho rfl rfl rfl (Nat.le_of_ble_eq_true rfl) rfl (f_rq_x ho ha hst0 r1 r2) (fun _ q => q)
theorem f_en_x (ho : w.1 o = some (11, 0, [zR t, zR pg, zR mc, zR br, zR la, zR sp, zI comp, zI asked, zJ sum])) (ha : asked = 0) (hst0 : G.1.stackTraces = false) (r1 : w.2.1 + 1 ≤ G.2.2.2.2.1) (r2 : w.2.2 + 6 ≤ G.2.2.2.2.2) : zM G zm_X11_ending (d + 5) [zR o] w (zXw 4 w) := by
  refine zx_ent (by decide +kernel) rfl (Nat.le_of_ble_eq_true rfl) ?_
  refine zx_L (L1 := [some (zR o)]) rfl ?_
  refine zx_aload_n (i := 0) dX11_ending_0 rfl rfl ?_
  exact zx_ivT (b := o) (As := []) (st := []) dX11_ending_1 zc_X11_264 ho rfl rfl rfl (Nat.le_of_ble_eq_true rfl) rfl (f_rq_x ho ha hst0 r1 r2) (fun _ q => q)
theorem f_rc_x (ho : w.1 o = some (11, 0, [zR t, zR pg, zR mc, zR br, zR la, zR sp, zI comp, zI asked, zJ sum])) (ha : asked = 0) (hst0 : G.1.stackTraces = false) (r1 : w.2.1 + 1 ≤ G.2.2.2.2.1) (r2 : w.2.2 + 6 ≤ G.2.2.2.2.2) : zM G zm_X11_recorded (d + 5) [zR o] w (zXw 4 w) := by
  refine zx_ent (by decide +kernel) rfl (Nat.le_of_ble_eq_true rfl) ?_
  refine zx_L (L1 := [some (zR o)]) rfl ?_
  refine zx_aload_n (i := 0) dX11_recorded_0 rfl rfl ?_
  exact zx_ivT (b := o) (As := []) (st := []) dX11_recorded_1 zc_X11_264 ho rfl rfl rfl (Nat.le_of_ble_eq_true rfl) rfl (f_rq_x ho ha hst0 r1 r2) (fun _ q => q)
theorem f_rm_ok {li lj ln : Nat} {mo : Option Nat} {I A N : List (List Int)} {sc cc dc en bk bc : Int} (ho : w.1 o = some (11, 0, [zR t, zR pg, zR mc, zR br, zR la, zR sp, zI comp, zI asked, zJ sum])) (ha : asked ≠ 0) (hL : rpW w la li lj ln mo I A N sc cc dc en bk bc) (i : Int) (hi0 : 0 ≤ i ∧ i < (N.length : Int)) (hst0 : G.1.stackTraces = false) (r1 : w.2.1 + 1 ≤ G.2.2.2.2.1) (r2 : w.2.2 + 6 ≤ G.2.2.2.2.2) : zM G zm_X11_refuseMissingNote (d + 4) [zR o, zI i] w (zRet none w) := by
  refine zx_ent (by decide +kernel) rfl (Nat.le_of_ble_eq_true rfl) ?_
  refine zx_L (L1 := [some (zR o), some (zI i)]) rfl ?_
  obtain ⟨h0, ⟨hi, okI⟩, ⟨hla, okA⟩, ⟨hn, okN⟩⟩ := id hL
  refine zx_aload_n (i := 0) dX11_refuseMissingNote_0 rfl rfl ?_
  refine zx_iv (b := o) (As := []) (st := []) (v := none) (w1 := w) dX11_refuseMissingNote_1 zc_X11_264 ho rfl rfl rfl (Nat.le_of_ble_eq_true rfl) rfl (f_rq_ok ho ha) ?_
  refine zx_st (st1 := []) rfl ?_
  refine zx_iload_n (i := 1) dX11_refuseMissingNote_4 rfl rfl ?_
  refine zx_if_lt (tgt := 19) dX11_refuseMissingNote_5 (by decide) (fun h5 => ?_) (fun h5 => ?_)
  · refine zx_thrown zt_X11_80_82 dX11_refuseMissingNote_19 dX11_refuseMissingNote_22 dX11_refuseMissingNote_23 dX11_refuseMissingNote_26 rfl hst0 (Nat.le_of_ble_eq_true rfl) (by omega) (by omega) (fun z t z1 z2 z3 z4 => ?_)
    exfalso
    omega
  · refine zx_iload_n (i := 1) dX11_refuseMissingNote_8 rfl rfl ?_
    refine zx_aload_n (i := 0) dX11_refuseMissingNote_9 rfl rfl ?_
    refine zx_getfield dX11_refuseMissingNote_10 zf_X11_26 ho rfl ?_
    refine zx_iv (b := la) (As := []) (st := [zI i]) (v := (some (zI (N.length : Int)))) (w1 := w) dX11_refuseMissingNote_13 zc_X11_299 h0 rfl rfl rfl (Nat.le_of_ble_eq_true rfl) rfl (c_X8_noteCount hL) ?_
    refine zx_st (st1 := [zI (N.length : Int), zI i]) rfl ?_
    refine zx_icmp_lt (tgt := 27) dX11_refuseMissingNote_16 (by decide) (fun h16 => ?_) (fun h16 => ?_)
    · refine zx_return dX11_refuseMissingNote_27 rfl ?_
      exact zr_n rfl
    · refine zx_thrown zt_X11_80_82 dX11_refuseMissingNote_19 dX11_refuseMissingNote_22 dX11_refuseMissingNote_23 dX11_refuseMissingNote_26 rfl hst0 (Nat.le_of_ble_eq_true rfl) (by omega) (by omega) (fun z t z1 z2 z3 z4 => ?_)
      exfalso
      omega
theorem f_rm_x0 {li lj ln : Nat} {mo : Option Nat} {I A N : List (List Int)} {sc cc dc en bk bc : Int} (ho : w.1 o = some (11, 0, [zR t, zR pg, zR mc, zR br, zR la, zR sp, zI comp, zI asked, zJ sum])) (ha : asked ≠ 0) (hL : rpW w la li lj ln mo I A N sc cc dc en bk bc) (i : Int) (hi0 : i < 0 ∨ (N.length : Int) ≤ i) (hst0 : G.1.stackTraces = false) (r1 : w.2.1 + 1 ≤ G.2.2.2.2.1) (r2 : w.2.2 + 6 ≤ G.2.2.2.2.2) : zM G zm_X11_refuseMissingNote (d + 4) [zR o, zI i] w (zXw 0 w) := by
  refine zx_ent (by decide +kernel) rfl (Nat.le_of_ble_eq_true rfl) ?_
  refine zx_L (L1 := [some (zR o), some (zI i)]) rfl ?_
  obtain ⟨h0, ⟨hi, okI⟩, ⟨hla, okA⟩, ⟨hn, okN⟩⟩ := id hL
  refine zx_aload_n (i := 0) dX11_refuseMissingNote_0 rfl rfl ?_
  refine zx_iv (b := o) (As := []) (st := []) (v := none) (w1 := w) dX11_refuseMissingNote_1 zc_X11_264 ho rfl rfl rfl (Nat.le_of_ble_eq_true rfl) rfl (f_rq_ok ho ha) ?_
  refine zx_st (st1 := []) rfl ?_
  refine zx_iload_n (i := 1) dX11_refuseMissingNote_4 rfl rfl ?_
  refine zx_if_lt (tgt := 19) dX11_refuseMissingNote_5 (by decide) (fun h5 => ?_) (fun h5 => ?_)
  · refine zx_thrown zt_X11_80_82 dX11_refuseMissingNote_19 dX11_refuseMissingNote_22 dX11_refuseMissingNote_23 dX11_refuseMissingNote_26 rfl hst0 (Nat.le_of_ble_eq_true rfl) (by omega) (by omega) (fun z t z1 z2 z3 z4 => ?_)
    exact ⟨rfl, rfl, z1, z2, z3, z4⟩
  · refine zx_iload_n (i := 1) dX11_refuseMissingNote_8 rfl rfl ?_
    refine zx_aload_n (i := 0) dX11_refuseMissingNote_9 rfl rfl ?_
    refine zx_getfield dX11_refuseMissingNote_10 zf_X11_26 ho rfl ?_
    refine zx_iv (b := la) (As := []) (st := [zI i]) (v := (some (zI (N.length : Int)))) (w1 := w) dX11_refuseMissingNote_13 zc_X11_299 h0 rfl rfl rfl (Nat.le_of_ble_eq_true rfl) rfl (c_X8_noteCount hL) ?_
    refine zx_st (st1 := [zI (N.length : Int), zI i]) rfl ?_
    refine zx_icmp_lt (tgt := 27) dX11_refuseMissingNote_16 (by decide) (fun h16 => ?_) (fun h16 => ?_)
    · refine zx_return dX11_refuseMissingNote_27 rfl ?_
      exfalso
      omega
    · refine zx_thrown zt_X11_80_82 dX11_refuseMissingNote_19 dX11_refuseMissingNote_22 dX11_refuseMissingNote_23 dX11_refuseMissingNote_26 rfl hst0 (Nat.le_of_ble_eq_true rfl) (by omega) (by omega) (fun z t z1 z2 z3 z4 => ?_)
      exact ⟨rfl, rfl, z1, z2, z3, z4⟩
theorem f_rm_x4 (ho : w.1 o = some (11, 0, [zR t, zR pg, zR mc, zR br, zR la, zR sp, zI comp, zI asked, zJ sum])) (ha : asked = 0) (i : Int) (hst0 : G.1.stackTraces = false) (r1 : w.2.1 + 1 ≤ G.2.2.2.2.1) (r2 : w.2.2 + 6 ≤ G.2.2.2.2.2) : zM G zm_X11_refuseMissingNote (d + 5) [zR o, zI i] w (zXw 4 w) := by
  refine zx_ent (by decide +kernel) rfl (Nat.le_of_ble_eq_true rfl) ?_
  refine zx_L (L1 := [some (zR o), some (zI i)]) rfl ?_
  refine zx_aload_n (i := 0) dX11_refuseMissingNote_0 rfl rfl ?_
  exact zx_ivT (b := o) (As := []) (st := []) dX11_refuseMissingNote_1 zc_X11_264 ho rfl rfl rfl (Nat.le_of_ble_eq_true rfl) rfl (f_rq_x ho ha hst0 r1 r2) (fun _ q => q)
theorem f_ra_ok {li lj ln : Nat} {mo : Option Nat} {I A N : List (List Int)} {sc cc dc en bk bc : Int} (ho : w.1 o = some (11, 0, [zR t, zR pg, zR mc, zR br, zR la, zR sp, zI comp, zI asked, zJ sum])) (ha : asked ≠ 0) (hL : rpW w la li lj ln mo I A N sc cc dc en bk bc) (i : Int) (hi0 : 0 ≤ i ∧ i < (N.length : Int)) (hc : 0 ≤ tg N i 0 ∧ tg N i 0 < 65536) (hst0 : G.1.stackTraces = false) (r1 : w.2.1 + 1 ≤ G.2.2.2.2.1) (r2 : w.2.2 + 6 ≤ G.2.2.2.2.2) : zM G zm_X11_recordAt (d + 5) [zR o, zI i] w (zRet (some (zI (tg N i 0))) w) := by
  refine zx_ent (by decide +kernel) rfl (Nat.le_of_ble_eq_true rfl) ?_
  refine zx_L (L1 := [some (zR o), some (zI i)]) rfl ?_
  obtain ⟨h0, ⟨hi, okI⟩, ⟨hla, okA⟩, ⟨hn, okN⟩⟩ := id hL
  refine zx_aload_n (i := 0) dX11_recordAt_0 rfl rfl ?_
  refine zx_iload_n (i := 1) dX11_recordAt_1 rfl rfl ?_
  refine zx_iv (b := o) (As := [zI i]) (st := []) (v := none) (w1 := w) dX11_recordAt_2 zc_X11_302 ho rfl rfl rfl (Nat.le_of_ble_eq_true rfl) rfl (f_rm_ok ho ha hL i hi0 hst0 r1 r2) ?_
  refine zx_st (st1 := []) rfl ?_
  refine zx_aload_n (i := 0) dX11_recordAt_5 rfl rfl ?_
  refine zx_getfield dX11_recordAt_6 zf_X11_26 ho rfl ?_
  refine zx_iload_n (i := 1) dX11_recordAt_9 rfl rfl ?_
  refine zx_iv (b := la) (As := [zI i]) (st := []) (v := (some (zI (tg N i 0)))) (w1 := w) dX11_recordAt_10 zc_X11_305 h0 rfl rfl rfl (Nat.le_of_ble_eq_true rfl) rfl (c_X8_noteSign hL i hc) ?_
  refine zx_st (st1 := [zI (tg N i 0)]) rfl ?_
  refine zx_cret dX11_recordAt_13 rfl hc ?_
  exact zr_v rfl rfl
theorem f_wa_ok {li lj ln : Nat} {mo : Option Nat} {I A N : List (List Int)} {sc cc dc en bk bc : Int} (ho : w.1 o = some (11, 0, [zR t, zR pg, zR mc, zR br, zR la, zR sp, zI comp, zI asked, zJ sum])) (ha : asked ≠ 0) (hL : rpW w la li lj ln mo I A N sc cc dc en bk bc) (i : Int) (hi0 : 0 ≤ i ∧ i < (N.length : Int)) (hst0 : G.1.stackTraces = false) (r1 : w.2.1 + 1 ≤ G.2.2.2.2.1) (r2 : w.2.2 + 6 ≤ G.2.2.2.2.2) : zM G zm_X11_whereAt (d + 5) [zR o, zI i] w (zRet (some (zI (tg N i 1))) w) := by
  refine zx_ent (by decide +kernel) rfl (Nat.le_of_ble_eq_true rfl) ?_
  refine zx_L (L1 := [some (zR o), some (zI i)]) rfl ?_
  obtain ⟨h0, ⟨hi, okI⟩, ⟨hla, okA⟩, ⟨hn, okN⟩⟩ := id hL
  refine zx_aload_n (i := 0) dX11_whereAt_0 rfl rfl ?_
  refine zx_iload_n (i := 1) dX11_whereAt_1 rfl rfl ?_
  refine zx_iv (b := o) (As := [zI i]) (st := []) (v := none) (w1 := w) dX11_whereAt_2 zc_X11_302 ho rfl rfl rfl (Nat.le_of_ble_eq_true rfl) rfl (f_rm_ok ho ha hL i hi0 hst0 r1 r2) ?_
  refine zx_st (st1 := []) rfl ?_
  refine zx_aload_n (i := 0) dX11_whereAt_5 rfl rfl ?_
  refine zx_getfield dX11_whereAt_6 zf_X11_26 ho rfl ?_
  refine zx_iload_n (i := 1) dX11_whereAt_9 rfl rfl ?_
  refine zx_iv (b := la) (As := [zI i]) (st := []) (v := (some (zI (tg N i 1)))) (w1 := w) dX11_whereAt_10 zc_X11_309 h0 rfl rfl rfl (Nat.le_of_ble_eq_true rfl) rfl (c_X8_notePlace hL i) ?_
  refine zx_st (st1 := [zI (tg N i 1)]) rfl ?_
  refine zx_iret dX11_whereAt_13 rfl ?_
  exact zr_v rfl rfl
theorem f_ra_x0 {li lj ln : Nat} {mo : Option Nat} {I A N : List (List Int)} {sc cc dc en bk bc : Int} (ho : w.1 o = some (11, 0, [zR t, zR pg, zR mc, zR br, zR la, zR sp, zI comp, zI asked, zJ sum])) (ha : asked ≠ 0) (hL : rpW w la li lj ln mo I A N sc cc dc en bk bc) (i : Int) (hi0 : i < 0 ∨ (N.length : Int) ≤ i) (hst0 : G.1.stackTraces = false) (r1 : w.2.1 + 1 ≤ G.2.2.2.2.1) (r2 : w.2.2 + 6 ≤ G.2.2.2.2.2) : zM G zm_X11_recordAt (d + 5) [zR o, zI i] w (zXw 0 w) := by
  refine zx_ent (by decide +kernel) rfl (Nat.le_of_ble_eq_true rfl) ?_
  refine zx_L (L1 := [some (zR o), some (zI i)]) rfl ?_
  obtain ⟨h0, ⟨hi, okI⟩, ⟨hla, okA⟩, ⟨hn, okN⟩⟩ := id hL
  refine zx_aload_n (i := 0) dX11_recordAt_0 rfl rfl ?_
  refine zx_iload_n (i := 1) dX11_recordAt_1 rfl rfl ?_
  exact zx_ivT (b := o) (As := [zI i]) (st := []) dX11_recordAt_2 zc_X11_302 ho rfl rfl rfl (Nat.le_of_ble_eq_true rfl) rfl (f_rm_x0 ho ha hL i hi0 hst0 r1 r2) (fun _ q => q)
theorem f_ra_x4 (ho : w.1 o = some (11, 0, [zR t, zR pg, zR mc, zR br, zR la, zR sp, zI comp, zI asked, zJ sum])) (ha : asked = 0) (i : Int) (hst0 : G.1.stackTraces = false) (r1 : w.2.1 + 1 ≤ G.2.2.2.2.1) (r2 : w.2.2 + 6 ≤ G.2.2.2.2.2) : zM G zm_X11_recordAt (d + 6) [zR o, zI i] w (zXw 4 w) := by
  refine zx_ent (by decide +kernel) rfl (Nat.le_of_ble_eq_true rfl) ?_
  refine zx_L (L1 := [some (zR o), some (zI i)]) rfl ?_
  refine zx_aload_n (i := 0) dX11_recordAt_0 rfl rfl ?_
  refine zx_iload_n (i := 1) dX11_recordAt_1 rfl rfl ?_
  exact zx_ivT (b := o) (As := [zI i]) (st := []) dX11_recordAt_2 zc_X11_302 ho rfl rfl rfl (Nat.le_of_ble_eq_true rfl) rfl (f_rm_x4 ho ha i hst0 r1 r2) (fun _ q => q)
theorem f_wa_x0 {li lj ln : Nat} {mo : Option Nat} {I A N : List (List Int)} {sc cc dc en bk bc : Int} (ho : w.1 o = some (11, 0, [zR t, zR pg, zR mc, zR br, zR la, zR sp, zI comp, zI asked, zJ sum])) (ha : asked ≠ 0) (hL : rpW w la li lj ln mo I A N sc cc dc en bk bc) (i : Int) (hi0 : i < 0 ∨ (N.length : Int) ≤ i) (hst0 : G.1.stackTraces = false) (r1 : w.2.1 + 1 ≤ G.2.2.2.2.1) (r2 : w.2.2 + 6 ≤ G.2.2.2.2.2) : zM G zm_X11_whereAt (d + 5) [zR o, zI i] w (zXw 0 w) := by
  refine zx_ent (by decide +kernel) rfl (Nat.le_of_ble_eq_true rfl) ?_
  refine zx_L (L1 := [some (zR o), some (zI i)]) rfl ?_
  obtain ⟨h0, ⟨hi, okI⟩, ⟨hla, okA⟩, ⟨hn, okN⟩⟩ := id hL
  refine zx_aload_n (i := 0) dX11_whereAt_0 rfl rfl ?_
  refine zx_iload_n (i := 1) dX11_whereAt_1 rfl rfl ?_
  exact zx_ivT (b := o) (As := [zI i]) (st := []) dX11_whereAt_2 zc_X11_302 ho rfl rfl rfl (Nat.le_of_ble_eq_true rfl) rfl (f_rm_x0 ho ha hL i hi0 hst0 r1 r2) (fun _ q => q)
theorem f_wa_x4 (ho : w.1 o = some (11, 0, [zR t, zR pg, zR mc, zR br, zR la, zR sp, zI comp, zI asked, zJ sum])) (ha : asked = 0) (i : Int) (hst0 : G.1.stackTraces = false) (r1 : w.2.1 + 1 ≤ G.2.2.2.2.1) (r2 : w.2.2 + 6 ≤ G.2.2.2.2.2) : zM G zm_X11_whereAt (d + 6) [zR o, zI i] w (zXw 4 w) := by
  refine zx_ent (by decide +kernel) rfl (Nat.le_of_ble_eq_true rfl) ?_
  refine zx_L (L1 := [some (zR o), some (zI i)]) rfl ?_
  refine zx_aload_n (i := 0) dX11_whereAt_0 rfl rfl ?_
  refine zx_iload_n (i := 1) dX11_whereAt_1 rfl rfl ?_
  exact zx_ivT (b := o) (As := [zI i]) (st := []) dX11_whereAt_2 zc_X11_302 ho rfl rfl rfl (Nat.le_of_ble_eq_true rfl) rfl (f_rm_x4 ho ha i hst0 r1 r2) (fun _ q => q)
theorem f_cm_ok (ho : w.1 o = some (11, 0, [zR t, zR pg, zR mc, zR br, zR la, zR sp, zI comp, zI asked, zJ sum])) {R : pgR} (hP : pgW w pg R) (i j : Int) {md : Nat} {mr : moR} (hm : mdAt R i j = some md) (hmd : moW w md mr) (hc : comp ≠ 0) (hst0 : G.1.stackTraces = false) (r1 : w.2.1 + 1 ≤ G.2.2.2.2.1) (r2 : w.2.2 + 6 ≤ G.2.2.2.2.2) : zM G zm_X11_compiledMode (d + 5) [zR o, zI i, zI j] w (zRet (some (zR md)) w) := by
  refine zx_ent (by decide +kernel) rfl (Nat.le_of_ble_eq_true rfl) ?_
  refine zx_L (L1 := [some (zR o), some (zI i), some (zI j), none]) rfl ?_
  refine zx_aload_n (i := 0) dX11_compiledMode_0 rfl rfl ?_
  refine zx_getfield dX11_compiledMode_1 zf_X11_19 ho rfl ?_
  refine zx_iload_n (i := 1) dX11_compiledMode_4 rfl rfl ?_
  refine zx_iload_n (i := 2) dX11_compiledMode_5 rfl rfl ?_
  refine zx_iv (b := pg) (As := [zI i, zI j]) (st := []) (v := (some (zR md))) (w1 := w) dX11_compiledMode_6 zc_X11_237 hP.1 rfl rfl rfl (Nat.le_of_ble_eq_true rfl) rfl (by have q := c_X7_modeAt (G := G) (d := d) hP i j; rw [hm] at q; exact q) ?_
  refine zx_st (st1 := [zR md]) rfl ?_
  refine zx_astore_n (i := 3) dX11_compiledMode_9 rfl (by decide) rfl ?_
  refine zx_L (L1 := [some (zR o), some (zI i), some (zI j), some (zR md)]) rfl ?_
  refine zx_aload_n (i := 3) dX11_compiledMode_10 rfl rfl ?_
  refine zx_ifnonnull (tgt := 22) dX11_compiledMode_11 (by decide) (fun _ => ?_) (fun h => by cases h)
  refine zx_aload_n (i := 0) dX11_compiledMode_22 rfl rfl ?_
  refine zx_iv (b := o) (As := []) (st := []) (v := none) (w1 := w) dX11_compiledMode_23 zc_X11_199 ho rfl rfl rfl (Nat.le_of_ble_eq_true rfl) rfl (f_ru_ok ho hc) ?_
  refine zx_st (st1 := []) rfl ?_
  refine zx_aload_n (i := 3) dX11_compiledMode_26 rfl rfl ?_
  refine zx_pc (pc1 := 27) rfl ?_
  refine zx_areturn dX11_compiledMode_27 rfl (Or.inl ⟨_, rfl⟩) ?_
  exact zr_v rfl rfl
theorem f_cm_x2 (ho : w.1 o = some (11, 0, [zR t, zR pg, zR mc, zR br, zR la, zR sp, zI comp, zI asked, zJ sum])) {R : pgR} (hP : pgW w pg R) (i j : Int) {md : Nat} {mr : moR} (hm : mdAt R i j = some md) (hmd : moW w md mr) (hc : comp = 0) (hst0 : G.1.stackTraces = false) (r1 : w.2.1 + 1 ≤ G.2.2.2.2.1) (r2 : w.2.2 + 6 ≤ G.2.2.2.2.2) : zM G zm_X11_compiledMode (d + 5) [zR o, zI i, zI j] w (zXw 2 w) := by
  refine zx_ent (by decide +kernel) rfl (Nat.le_of_ble_eq_true rfl) ?_
  refine zx_L (L1 := [some (zR o), some (zI i), some (zI j), none]) rfl ?_
  refine zx_aload_n (i := 0) dX11_compiledMode_0 rfl rfl ?_
  refine zx_getfield dX11_compiledMode_1 zf_X11_19 ho rfl ?_
  refine zx_iload_n (i := 1) dX11_compiledMode_4 rfl rfl ?_
  refine zx_iload_n (i := 2) dX11_compiledMode_5 rfl rfl ?_
  refine zx_iv (b := pg) (As := [zI i, zI j]) (st := []) (v := (some (zR md))) (w1 := w) dX11_compiledMode_6 zc_X11_237 hP.1 rfl rfl rfl (Nat.le_of_ble_eq_true rfl) rfl (by have q := c_X7_modeAt (G := G) (d := d) hP i j; rw [hm] at q; exact q) ?_
  refine zx_st (st1 := [zR md]) rfl ?_
  refine zx_astore_n (i := 3) dX11_compiledMode_9 rfl (by decide) rfl ?_
  refine zx_L (L1 := [some (zR o), some (zI i), some (zI j), some (zR md)]) rfl ?_
  refine zx_aload_n (i := 3) dX11_compiledMode_10 rfl rfl ?_
  refine zx_ifnonnull (tgt := 22) dX11_compiledMode_11 (by decide) (fun _ => ?_) (fun h => by cases h)
  refine zx_aload_n (i := 0) dX11_compiledMode_22 rfl rfl ?_
  exact zx_ivT (b := o) (As := []) (st := []) dX11_compiledMode_23 zc_X11_199 ho rfl rfl rfl (Nat.le_of_ble_eq_true rfl) rfl (f_ru_x ho hc hst0 r1 r2) (fun _ q => q)
theorem f_cm_x0 (ho : w.1 o = some (11, 0, [zR t, zR pg, zR mc, zR br, zR la, zR sp, zI comp, zI asked, zJ sum])) {R : pgR} (hP : pgW w pg R) (i j : Int) (hm : mdAt R i j = none) (hst0 : G.1.stackTraces = false) (r1 : w.2.1 + 1 ≤ G.2.2.2.2.1) (r2 : w.2.2 + 6 ≤ G.2.2.2.2.2) : zM G zm_X11_compiledMode (d + 5) [zR o, zI i, zI j] w (zXw 0 w) := by
  refine zx_ent (by decide +kernel) rfl (Nat.le_of_ble_eq_true rfl) ?_
  refine zx_L (L1 := [some (zR o), some (zI i), some (zI j), none]) rfl ?_
  refine zx_aload_n (i := 0) dX11_compiledMode_0 rfl rfl ?_
  refine zx_getfield dX11_compiledMode_1 zf_X11_19 ho rfl ?_
  refine zx_iload_n (i := 1) dX11_compiledMode_4 rfl rfl ?_
  refine zx_iload_n (i := 2) dX11_compiledMode_5 rfl rfl ?_
  refine zx_iv (b := pg) (As := [zI i, zI j]) (st := []) (v := (some (zN))) (w1 := w) dX11_compiledMode_6 zc_X11_237 hP.1 rfl rfl rfl (Nat.le_of_ble_eq_true rfl) rfl (by have q := c_X7_modeAt (G := G) (d := d) hP i j; rw [hm] at q; exact q) ?_
  refine zx_st (st1 := [zN]) rfl ?_
  refine zx_astore_n (i := 3) dX11_compiledMode_9 rfl (by decide) rfl ?_
  refine zx_L (L1 := [some (zR o), some (zI i), some (zI j), some (zN)]) rfl ?_
  refine zx_aload_n (i := 3) dX11_compiledMode_10 rfl rfl ?_
  refine zx_ifnonnull (tgt := 22) dX11_compiledMode_11 (by decide) (fun h => absurd rfl h) (fun _ => ?_)
  refine zx_thrown zt_X11_80_82 dX11_compiledMode_14 dX11_compiledMode_17 dX11_compiledMode_18 dX11_compiledMode_21 rfl hst0 (Nat.le_of_ble_eq_true rfl) (by omega) (by omega) (fun z t z1 z2 z3 z4 => ?_)
  exact ⟨rfl, rfl, z1, z2, z3, z4⟩
theorem f_fa_ok (ho : w.1 o = some (11, 0, [zR t, zR pg, zR mc, zR br, zR la, zR sp, zI comp, zI asked, zJ sum])) {R : pgR} (hP : pgW w pg R) (i j : Int) {md : Nat} {mr : moR} (hm : mdAt R i j = some md) (hmd : moW w md mr) (hc : comp ≠ 0) (hst0 : G.1.stackTraces = false) (r1 : w.2.1 + 1 ≤ G.2.2.2.2.1) (r2 : w.2.2 + 6 ≤ G.2.2.2.2.2) : zM G zm_X11_fault (d + 6) [zR o, zI i, zI j] w (zRet (some (zI (if mr.2.2.2.2.1 ≠ 0 then 111 else if mr.2.2.2.2.2.1 ≠ 0 ∧ ((mr.2.2.2.2.2.2.1 ≠ 0 ∧ (mr.2.2.2.1 = 100 ∨ mr.2.2.2.1 = 109)) ∨ (mr.2.2.2.2.2.2.2.1 ≠ 0 ∧ (mr.2.2.2.1 = 100 ∨ mr.2.2.2.1 = 115))) then 112 else 45))) w) := by
  refine zx_ent (by decide +kernel) rfl (Nat.le_of_ble_eq_true rfl) ?_
  refine zx_L (L1 := [some (zR o), some (zI i), some (zI j)]) rfl ?_
  refine zx_aload_n (i := 0) dX11_fault_0 rfl rfl ?_
  refine zx_iload_n (i := 1) dX11_fault_1 rfl rfl ?_
  refine zx_iload_n (i := 2) dX11_fault_2 rfl rfl ?_
  refine zx_iv (b := o) (As := [zI i, zI j]) (st := []) (v := (some (zR md))) (w1 := w) dX11_fault_3 zc_X11_202 ho rfl rfl rfl (Nat.le_of_ble_eq_true rfl) rfl (f_cm_ok ho hP i j hm hmd hc hst0 r1 r2) ?_
  refine zx_st (st1 := [zR md]) rfl ?_
  refine zx_iv (b := md) (As := []) (st := []) (v := (some (zI (if mr.2.2.2.2.1 ≠ 0 then 111 else if mr.2.2.2.2.2.1 ≠ 0 ∧ ((mr.2.2.2.2.2.2.1 ≠ 0 ∧ (mr.2.2.2.1 = 100 ∨ mr.2.2.2.1 = 109)) ∨ (mr.2.2.2.2.2.2.2.1 ≠ 0 ∧ (mr.2.2.2.1 = 100 ∨ mr.2.2.2.1 = 115))) then 112 else 45)))) (w1 := w) dX11_fault_6 zc_X11_206 hmd rfl rfl rfl (Nat.le_of_ble_eq_true rfl) rfl (c_X5_faultSign hmd) ?_
  refine zx_st (st1 := [zI (if mr.2.2.2.2.1 ≠ 0 then 111 else if mr.2.2.2.2.2.1 ≠ 0 ∧ ((mr.2.2.2.2.2.2.1 ≠ 0 ∧ (mr.2.2.2.1 = 100 ∨ mr.2.2.2.1 = 109)) ∨ (mr.2.2.2.2.2.2.2.1 ≠ 0 ∧ (mr.2.2.2.1 = 100 ∨ mr.2.2.2.1 = 115))) then 112 else 45)]) rfl ?_
  refine zx_cret dX11_fault_9 rfl (by split <;> first | omega | (split <;> omega)) ?_
  exact zr_v rfl rfl
theorem f_ig_ok (ho : w.1 o = some (11, 0, [zR t, zR pg, zR mc, zR br, zR la, zR sp, zI comp, zI asked, zJ sum])) {R : pgR} (hP : pgW w pg R) (i j : Int) {md : Nat} {mr : moR} (hm : mdAt R i j = some md) (hmd : moW w md mr) (hc : comp ≠ 0) (hg : mr.2.2.2.2.2.1 = 0 ∨ mr.2.2.2.2.2.1 = 1) (hst0 : G.1.stackTraces = false) (r1 : w.2.1 + 1 ≤ G.2.2.2.2.1) (r2 : w.2.2 + 6 ≤ G.2.2.2.2.2) : zM G zm_X11_isGood (d + 6) [zR o, zI i, zI j] w (zRet (some (zI mr.2.2.2.2.2.1)) w) := by
  refine zx_ent (by decide +kernel) rfl (Nat.le_of_ble_eq_true rfl) ?_
  refine zx_L (L1 := [some (zR o), some (zI i), some (zI j)]) rfl ?_
  refine zx_aload_n (i := 0) dX11_isGood_0 rfl rfl ?_
  refine zx_iload_n (i := 1) dX11_isGood_1 rfl rfl ?_
  refine zx_iload_n (i := 2) dX11_isGood_2 rfl rfl ?_
  refine zx_iv (b := o) (As := [zI i, zI j]) (st := []) (v := (some (zR md))) (w1 := w) dX11_isGood_3 zc_X11_202 ho rfl rfl rfl (Nat.le_of_ble_eq_true rfl) rfl (f_cm_ok ho hP i j hm hmd hc hst0 r1 r2) ?_
  refine zx_st (st1 := [zR md]) rfl ?_
  refine zx_getfield dX11_isGood_6 zf_X11_212 hmd rfl ?_
  refine zx_zret dX11_isGood_9 rfl (by first | exact Or.inl rfl | exact Or.inr rfl | exact zB_or | assumption) ?_
  exact zr_v rfl rfl
theorem f_fa_x2 (ho : w.1 o = some (11, 0, [zR t, zR pg, zR mc, zR br, zR la, zR sp, zI comp, zI asked, zJ sum])) {R : pgR} (hP : pgW w pg R) (i j : Int) {md : Nat} {mr : moR} (hm : mdAt R i j = some md) (hmd : moW w md mr) (hc : comp = 0) (hst0 : G.1.stackTraces = false) (r1 : w.2.1 + 1 ≤ G.2.2.2.2.1) (r2 : w.2.2 + 6 ≤ G.2.2.2.2.2) : zM G zm_X11_fault (d + 6) [zR o, zI i, zI j] w (zXw 2 w) := by
  refine zx_ent (by decide +kernel) rfl (Nat.le_of_ble_eq_true rfl) ?_
  refine zx_L (L1 := [some (zR o), some (zI i), some (zI j)]) rfl ?_
  refine zx_aload_n (i := 0) dX11_fault_0 rfl rfl ?_
  refine zx_iload_n (i := 1) dX11_fault_1 rfl rfl ?_
  refine zx_iload_n (i := 2) dX11_fault_2 rfl rfl ?_
  exact zx_ivT (b := o) (As := [zI i, zI j]) (st := []) dX11_fault_3 zc_X11_202 ho rfl rfl rfl (Nat.le_of_ble_eq_true rfl) rfl (f_cm_x2 ho hP i j hm hmd hc hst0 r1 r2) (fun _ q => q)
theorem f_fa_x0 (ho : w.1 o = some (11, 0, [zR t, zR pg, zR mc, zR br, zR la, zR sp, zI comp, zI asked, zJ sum])) {R : pgR} (hP : pgW w pg R) (i j : Int) (hm : mdAt R i j = none) (hst0 : G.1.stackTraces = false) (r1 : w.2.1 + 1 ≤ G.2.2.2.2.1) (r2 : w.2.2 + 6 ≤ G.2.2.2.2.2) : zM G zm_X11_fault (d + 6) [zR o, zI i, zI j] w (zXw 0 w) := by
  refine zx_ent (by decide +kernel) rfl (Nat.le_of_ble_eq_true rfl) ?_
  refine zx_L (L1 := [some (zR o), some (zI i), some (zI j)]) rfl ?_
  refine zx_aload_n (i := 0) dX11_fault_0 rfl rfl ?_
  refine zx_iload_n (i := 1) dX11_fault_1 rfl rfl ?_
  refine zx_iload_n (i := 2) dX11_fault_2 rfl rfl ?_
  exact zx_ivT (b := o) (As := [zI i, zI j]) (st := []) dX11_fault_3 zc_X11_202 ho rfl rfl rfl (Nat.le_of_ble_eq_true rfl) rfl (f_cm_x0 ho hP i j hm hst0 r1 r2) (fun _ q => q)
theorem f_ig_x2 (ho : w.1 o = some (11, 0, [zR t, zR pg, zR mc, zR br, zR la, zR sp, zI comp, zI asked, zJ sum])) {R : pgR} (hP : pgW w pg R) (i j : Int) {md : Nat} {mr : moR} (hm : mdAt R i j = some md) (hmd : moW w md mr) (hc : comp = 0) (hst0 : G.1.stackTraces = false) (r1 : w.2.1 + 1 ≤ G.2.2.2.2.1) (r2 : w.2.2 + 6 ≤ G.2.2.2.2.2) : zM G zm_X11_isGood (d + 6) [zR o, zI i, zI j] w (zXw 2 w) := by
  refine zx_ent (by decide +kernel) rfl (Nat.le_of_ble_eq_true rfl) ?_
  refine zx_L (L1 := [some (zR o), some (zI i), some (zI j)]) rfl ?_
  refine zx_aload_n (i := 0) dX11_isGood_0 rfl rfl ?_
  refine zx_iload_n (i := 1) dX11_isGood_1 rfl rfl ?_
  refine zx_iload_n (i := 2) dX11_isGood_2 rfl rfl ?_
  exact zx_ivT (b := o) (As := [zI i, zI j]) (st := []) dX11_isGood_3 zc_X11_202 ho rfl rfl rfl (Nat.le_of_ble_eq_true rfl) rfl (f_cm_x2 ho hP i j hm hmd hc hst0 r1 r2) (fun _ q => q)
theorem f_ig_x0 (ho : w.1 o = some (11, 0, [zR t, zR pg, zR mc, zR br, zR la, zR sp, zI comp, zI asked, zJ sum])) {R : pgR} (hP : pgW w pg R) (i j : Int) (hm : mdAt R i j = none) (hst0 : G.1.stackTraces = false) (r1 : w.2.1 + 1 ≤ G.2.2.2.2.1) (r2 : w.2.2 + 6 ≤ G.2.2.2.2.2) : zM G zm_X11_isGood (d + 6) [zR o, zI i, zI j] w (zXw 0 w) := by
  refine zx_ent (by decide +kernel) rfl (Nat.le_of_ble_eq_true rfl) ?_
  refine zx_L (L1 := [some (zR o), some (zI i), some (zI j)]) rfl ?_
  refine zx_aload_n (i := 0) dX11_isGood_0 rfl rfl ?_
  refine zx_iload_n (i := 1) dX11_isGood_1 rfl rfl ?_
  refine zx_iload_n (i := 2) dX11_isGood_2 rfl rfl ?_
  exact zx_ivT (b := o) (As := [zI i, zI j]) (st := []) dX11_isGood_3 zc_X11_202 ho rfl rfl rfl (Nat.le_of_ble_eq_true rfl) rfl (f_cm_x0 ho hP i j hm hst0 r1 r2) (fun _ q => q)
theorem f_fo_x2 (ho : w.1 o = some (11, 0, [zR t, zR pg, zR mc, zR br, zR la, zR sp, zI comp, zI asked, zJ sum])) {R : pgR} (hP : pgW w pg R) (i j : Int) {md : Nat} {mr : moR} (hm : mdAt R i j = some md) (hmd : moW w md mr) (hc : comp = 0) (hst0 : G.1.stackTraces = false) (r1 : w.2.1 + 1 ≤ G.2.2.2.2.1) (r2 : w.2.2 + 6 ≤ G.2.2.2.2.2) : zM G zm_X11_found (d + 6) [zR o, zI i, zI j] w (zXw 2 w) := by
  refine zx_ent (by decide +kernel) rfl (Nat.le_of_ble_eq_true rfl) ?_
  refine zx_L (L1 := [some (zR o), some (zI i), some (zI j), none]) rfl ?_
  refine zx_aload_n (i := 0) dX11_found_0 rfl rfl ?_
  refine zx_iload_n (i := 1) dX11_found_1 rfl rfl ?_
  refine zx_iload_n (i := 2) dX11_found_2 rfl rfl ?_
  exact zx_ivT (b := o) (As := [zI i, zI j]) (st := []) dX11_found_3 zc_X11_202 ho rfl rfl rfl (Nat.le_of_ble_eq_true rfl) rfl (f_cm_x2 ho hP i j hm hmd hc hst0 r1 r2) (fun _ q => q)
theorem f_fo_x0 (ho : w.1 o = some (11, 0, [zR t, zR pg, zR mc, zR br, zR la, zR sp, zI comp, zI asked, zJ sum])) {R : pgR} (hP : pgW w pg R) (i j : Int) (hm : mdAt R i j = none) (hst0 : G.1.stackTraces = false) (r1 : w.2.1 + 1 ≤ G.2.2.2.2.1) (r2 : w.2.2 + 6 ≤ G.2.2.2.2.2) : zM G zm_X11_found (d + 6) [zR o, zI i, zI j] w (zXw 0 w) := by
  refine zx_ent (by decide +kernel) rfl (Nat.le_of_ble_eq_true rfl) ?_
  refine zx_L (L1 := [some (zR o), some (zI i), some (zI j), none]) rfl ?_
  refine zx_aload_n (i := 0) dX11_found_0 rfl rfl ?_
  refine zx_iload_n (i := 1) dX11_found_1 rfl rfl ?_
  refine zx_iload_n (i := 2) dX11_found_2 rfl rfl ?_
  exact zx_ivT (b := o) (As := [zI i, zI j]) (st := []) dX11_found_3 zc_X11_202 ho rfl rfl rfl (Nat.le_of_ble_eq_true rfl) rfl (f_cm_x0 ho hP i j hm hst0 r1 r2) (fun _ q => q)
theorem f_sw_x2 (ho : w.1 o = some (11, 0, [zR t, zR pg, zR mc, zR br, zR la, zR sp, zI comp, zI asked, zJ sum])) {R : pgR} (hP : pgW w pg R) (i j : Int) {md : Nat} {mr : moR} (hm : mdAt R i j = some md) (hmd : moW w md mr) (hc : comp = 0) (hst0 : G.1.stackTraces = false) (r1 : w.2.1 + 1 ≤ G.2.2.2.2.1) (r2 : w.2.2 + 6 ≤ G.2.2.2.2.2) : zM G zm_X11_switchOf (d + 6) [zR o, zI i, zI j] w (zXw 2 w) := by
  refine zx_ent (by decide +kernel) rfl (Nat.le_of_ble_eq_true rfl) ?_
  refine zx_L (L1 := [some (zR o), some (zI i), some (zI j), none]) rfl ?_
  refine zx_aload_n (i := 0) dX11_switchOf_0 rfl rfl ?_
  refine zx_iload_n (i := 1) dX11_switchOf_1 rfl rfl ?_
  refine zx_iload_n (i := 2) dX11_switchOf_2 rfl rfl ?_
  exact zx_ivT (b := o) (As := [zI i, zI j]) (st := []) dX11_switchOf_3 zc_X11_202 ho rfl rfl rfl (Nat.le_of_ble_eq_true rfl) rfl (f_cm_x2 ho hP i j hm hmd hc hst0 r1 r2) (fun _ q => q)
theorem f_sw_x0 (ho : w.1 o = some (11, 0, [zR t, zR pg, zR mc, zR br, zR la, zR sp, zI comp, zI asked, zJ sum])) {R : pgR} (hP : pgW w pg R) (i j : Int) (hm : mdAt R i j = none) (hst0 : G.1.stackTraces = false) (r1 : w.2.1 + 1 ≤ G.2.2.2.2.1) (r2 : w.2.2 + 6 ≤ G.2.2.2.2.2) : zM G zm_X11_switchOf (d + 6) [zR o, zI i, zI j] w (zXw 0 w) := by
  refine zx_ent (by decide +kernel) rfl (Nat.le_of_ble_eq_true rfl) ?_
  refine zx_L (L1 := [some (zR o), some (zI i), some (zI j), none]) rfl ?_
  refine zx_aload_n (i := 0) dX11_switchOf_0 rfl rfl ?_
  refine zx_iload_n (i := 1) dX11_switchOf_1 rfl rfl ?_
  refine zx_iload_n (i := 2) dX11_switchOf_2 rfl rfl ?_
  exact zx_ivT (b := o) (As := [zI i, zI j]) (st := []) dX11_switchOf_3 zc_X11_202 ho rfl rfl rfl (Nat.le_of_ble_eq_true rfl) rfl (f_cm_x0 ho hP i j hm hst0 r1 r2) (fun _ q => q)
theorem f_fo_ok (ho : w.1 o = some (11, 0, [zR t, zR pg, zR mc, zR br, zR la, zR sp, zI comp, zI asked, zJ sum])) {R : pgR} (hP : pgW w pg R) (i j : Int) {md : Nat} {mr : moR} (hm : mdAt R i j = some md) (hmd : moW w md mr) (hc : comp ≠ 0) (hg : mr.2.2.2.2.2.1 ≠ 0) (hst0 : G.1.stackTraces = false) (r1 : w.2.1 + 1 ≤ G.2.2.2.2.1) (r2 : w.2.2 + 6 ≤ G.2.2.2.2.2) : zM G zm_X11_found (d + 6) [zR o, zI i, zI j] w (zRet (some (zI (if mr.2.2.2.2.2.2.2.1 = 0 then (if mr.2.2.2.2.2.2.1 = 0 then 100 else 115) else (if mr.2.2.2.2.2.2.1 = 0 then 109 else 110)))) w) := by
  refine zx_ent (by decide +kernel) rfl (Nat.le_of_ble_eq_true rfl) ?_
  refine zx_L (L1 := [some (zR o), some (zI i), some (zI j), none]) rfl ?_
  refine zx_aload_n (i := 0) dX11_found_0 rfl rfl ?_
  refine zx_iload_n (i := 1) dX11_found_1 rfl rfl ?_
  refine zx_iload_n (i := 2) dX11_found_2 rfl rfl ?_
  refine zx_iv (b := o) (As := [zI i, zI j]) (st := []) (v := (some (zR md))) (w1 := w) dX11_found_3 zc_X11_202 ho rfl rfl rfl (Nat.le_of_ble_eq_true rfl) rfl (f_cm_ok ho hP i j hm hmd hc hst0 r1 r2) ?_
  refine zx_st (st1 := [zR md]) rfl ?_
  refine zx_astore_n (i := 3) dX11_found_6 rfl (by decide) rfl ?_
  refine zx_L (L1 := [some (zR o), some (zI i), some (zI j), some (zR md)]) rfl ?_
  refine zx_aload_n (i := 3) dX11_found_7 rfl rfl ?_
  refine zx_getfield dX11_found_8 zf_X11_212 hmd rfl ?_
  refine zx_if_ne (tgt := 22) dX11_found_11 (by decide) (fun h11 => ?_) (fun h11 => ?_)
  · refine zx_aload_n (i := 3) dX11_found_22 rfl rfl ?_
    refine zx_iv (b := md) (As := []) (st := []) (v := (some (zI (if mr.2.2.2.2.2.2.2.1 = 0 then (if mr.2.2.2.2.2.2.1 = 0 then 100 else 115) else (if mr.2.2.2.2.2.2.1 = 0 then 109 else 110))))) (w1 := w) dX11_found_23 zc_X11_215 hmd rfl rfl rfl (Nat.le_of_ble_eq_true rfl) rfl (c_X5_foundSign hmd) ?_
    refine zx_st (st1 := [zI (if mr.2.2.2.2.2.2.2.1 = 0 then (if mr.2.2.2.2.2.2.1 = 0 then 100 else 115) else (if mr.2.2.2.2.2.2.1 = 0 then 109 else 110))]) rfl ?_
    refine zx_cret dX11_found_26 rfl (by split <;> split <;> omega) ?_
    exact zr_v rfl rfl
  · refine zx_thrown zt_X11_117_119 dX11_found_14 dX11_found_17 dX11_found_18 dX11_found_21 rfl hst0 (Nat.le_of_ble_eq_true rfl) (by omega) (by omega) (fun z t z1 z2 z3 z4 => ?_)
    exact absurd (by omega) hg
theorem f_fo_x4 (ho : w.1 o = some (11, 0, [zR t, zR pg, zR mc, zR br, zR la, zR sp, zI comp, zI asked, zJ sum])) {R : pgR} (hP : pgW w pg R) (i j : Int) {md : Nat} {mr : moR} (hm : mdAt R i j = some md) (hmd : moW w md mr) (hc : comp ≠ 0) (hg : mr.2.2.2.2.2.1 = 0) (hst0 : G.1.stackTraces = false) (r1 : w.2.1 + 1 ≤ G.2.2.2.2.1) (r2 : w.2.2 + 6 ≤ G.2.2.2.2.2) : zM G zm_X11_found (d + 6) [zR o, zI i, zI j] w (zXw 4 w) := by
  refine zx_ent (by decide +kernel) rfl (Nat.le_of_ble_eq_true rfl) ?_
  refine zx_L (L1 := [some (zR o), some (zI i), some (zI j), none]) rfl ?_
  refine zx_aload_n (i := 0) dX11_found_0 rfl rfl ?_
  refine zx_iload_n (i := 1) dX11_found_1 rfl rfl ?_
  refine zx_iload_n (i := 2) dX11_found_2 rfl rfl ?_
  refine zx_iv (b := o) (As := [zI i, zI j]) (st := []) (v := (some (zR md))) (w1 := w) dX11_found_3 zc_X11_202 ho rfl rfl rfl (Nat.le_of_ble_eq_true rfl) rfl (f_cm_ok ho hP i j hm hmd hc hst0 r1 r2) ?_
  refine zx_st (st1 := [zR md]) rfl ?_
  refine zx_astore_n (i := 3) dX11_found_6 rfl (by decide) rfl ?_
  refine zx_L (L1 := [some (zR o), some (zI i), some (zI j), some (zR md)]) rfl ?_
  refine zx_aload_n (i := 3) dX11_found_7 rfl rfl ?_
  refine zx_getfield dX11_found_8 zf_X11_212 hmd rfl ?_
  refine zx_if_ne (tgt := 22) dX11_found_11 (by decide) (fun h11 => ?_) (fun h11 => ?_)
  · refine zx_aload_n (i := 3) dX11_found_22 rfl rfl ?_
    refine zx_iv (b := md) (As := []) (st := []) (v := (some (zI (if mr.2.2.2.2.2.2.2.1 = 0 then (if mr.2.2.2.2.2.2.1 = 0 then 100 else 115) else (if mr.2.2.2.2.2.2.1 = 0 then 109 else 110))))) (w1 := w) dX11_found_23 zc_X11_215 hmd rfl rfl rfl (Nat.le_of_ble_eq_true rfl) rfl (c_X5_foundSign hmd) ?_
    refine zx_st (st1 := [zI (if mr.2.2.2.2.2.2.2.1 = 0 then (if mr.2.2.2.2.2.2.1 = 0 then 100 else 115) else (if mr.2.2.2.2.2.2.1 = 0 then 109 else 110))]) rfl ?_
    refine zx_cret dX11_found_26 rfl (by split <;> split <;> omega) ?_
    exfalso
    omega
  · refine zx_thrown zt_X11_117_119 dX11_found_14 dX11_found_17 dX11_found_18 dX11_found_21 rfl hst0 (Nat.le_of_ble_eq_true rfl) (by omega) (by omega) (fun z t z1 z2 z3 z4 => ?_)
    exact ⟨rfl, rfl, z1, z2, z3, z4⟩
theorem f_sw_ok (ho : w.1 o = some (11, 0, [zR t, zR pg, zR mc, zR br, zR la, zR sp, zI comp, zI asked, zJ sum])) {R : pgR} (hP : pgW w pg R) (i j : Int) {md : Nat} {mr : moR} (hm : mdAt R i j = some md) (hmd : moW w md mr) (hc : comp ≠ 0) (hl : mr.2.2.2.2.1 = 0) (hs : mr.2.2.2.2.2.2.2.2 ≠ -1) (hst0 : G.1.stackTraces = false) (r1 : w.2.1 + 1 ≤ G.2.2.2.2.1) (r2 : w.2.2 + 6 ≤ G.2.2.2.2.2) : zM G zm_X11_switchOf (d + 6) [zR o, zI i, zI j] w (zRet (some (zI mr.2.2.2.2.2.2.2.2)) w) := by
  refine zx_ent (by decide +kernel) rfl (Nat.le_of_ble_eq_true rfl) ?_
  refine zx_L (L1 := [some (zR o), some (zI i), some (zI j), none]) rfl ?_
  refine zx_aload_n (i := 0) dX11_switchOf_0 rfl rfl ?_
  refine zx_iload_n (i := 1) dX11_switchOf_1 rfl rfl ?_
  refine zx_iload_n (i := 2) dX11_switchOf_2 rfl rfl ?_
  refine zx_iv (b := o) (As := [zI i, zI j]) (st := []) (v := (some (zR md))) (w1 := w) dX11_switchOf_3 zc_X11_202 ho rfl rfl rfl (Nat.le_of_ble_eq_true rfl) rfl (f_cm_ok ho hP i j hm hmd hc hst0 r1 r2) ?_
  refine zx_st (st1 := [zR md]) rfl ?_
  refine zx_astore_n (i := 3) dX11_switchOf_6 rfl (by decide) rfl ?_
  refine zx_L (L1 := [some (zR o), some (zI i), some (zI j), some (zR md)]) rfl ?_
  refine zx_aload_n (i := 3) dX11_switchOf_7 rfl rfl ?_
  refine zx_getfield dX11_switchOf_8 zf_X11_218 hmd rfl ?_
  refine zx_if_ne (tgt := 22) dX11_switchOf_11 (by decide) (fun h11 => ?_) (fun h11 => ?_)
  · refine zx_thrown zt_X11_117_119 dX11_switchOf_22 dX11_switchOf_25 dX11_switchOf_26 dX11_switchOf_29 rfl hst0 (Nat.le_of_ble_eq_true rfl) (by omega) (by omega) (fun z t z1 z2 z3 z4 => ?_)
    exfalso
    omega
  · refine zx_aload_n (i := 3) dX11_switchOf_14 rfl rfl ?_
    refine zx_getfield dX11_switchOf_15 zf_X11_221 hmd rfl ?_
    refine zx_iconst (v := -1) dX11_switchOf_18 rfl (z32_lit (by decide) (by decide)) ?_
    refine zx_pc (pc1 := 19) rfl ?_
    refine zx_icmp_ne (tgt := 30) dX11_switchOf_19 (by decide) (fun h19 => ?_) (fun h19 => ?_)
    · refine zx_aload_n (i := 3) dX11_switchOf_30 rfl rfl ?_
      refine zx_getfield dX11_switchOf_31 zf_X11_221 hmd rfl ?_
      refine zx_iret dX11_switchOf_34 rfl ?_
      exact zr_v rfl rfl
    · refine zx_thrown zt_X11_117_119 dX11_switchOf_22 dX11_switchOf_25 dX11_switchOf_26 dX11_switchOf_29 rfl hst0 (Nat.le_of_ble_eq_true rfl) (by omega) (by omega) (fun z t z1 z2 z3 z4 => ?_)
      exfalso
      omega
theorem f_sw_x4 (ho : w.1 o = some (11, 0, [zR t, zR pg, zR mc, zR br, zR la, zR sp, zI comp, zI asked, zJ sum])) {R : pgR} (hP : pgW w pg R) (i j : Int) {md : Nat} {mr : moR} (hm : mdAt R i j = some md) (hmd : moW w md mr) (hc : comp ≠ 0) (hl : mr.2.2.2.2.1 ≠ 0 ∨ mr.2.2.2.2.2.2.2.2 = -1) (hst0 : G.1.stackTraces = false) (r1 : w.2.1 + 1 ≤ G.2.2.2.2.1) (r2 : w.2.2 + 6 ≤ G.2.2.2.2.2) : zM G zm_X11_switchOf (d + 6) [zR o, zI i, zI j] w (zXw 4 w) := by
  refine zx_ent (by decide +kernel) rfl (Nat.le_of_ble_eq_true rfl) ?_
  refine zx_L (L1 := [some (zR o), some (zI i), some (zI j), none]) rfl ?_
  refine zx_aload_n (i := 0) dX11_switchOf_0 rfl rfl ?_
  refine zx_iload_n (i := 1) dX11_switchOf_1 rfl rfl ?_
  refine zx_iload_n (i := 2) dX11_switchOf_2 rfl rfl ?_
  refine zx_iv (b := o) (As := [zI i, zI j]) (st := []) (v := (some (zR md))) (w1 := w) dX11_switchOf_3 zc_X11_202 ho rfl rfl rfl (Nat.le_of_ble_eq_true rfl) rfl (f_cm_ok ho hP i j hm hmd hc hst0 r1 r2) ?_
  refine zx_st (st1 := [zR md]) rfl ?_
  refine zx_astore_n (i := 3) dX11_switchOf_6 rfl (by decide) rfl ?_
  refine zx_L (L1 := [some (zR o), some (zI i), some (zI j), some (zR md)]) rfl ?_
  refine zx_aload_n (i := 3) dX11_switchOf_7 rfl rfl ?_
  refine zx_getfield dX11_switchOf_8 zf_X11_218 hmd rfl ?_
  refine zx_if_ne (tgt := 22) dX11_switchOf_11 (by decide) (fun h11 => ?_) (fun h11 => ?_)
  · refine zx_thrown zt_X11_117_119 dX11_switchOf_22 dX11_switchOf_25 dX11_switchOf_26 dX11_switchOf_29 rfl hst0 (Nat.le_of_ble_eq_true rfl) (by omega) (by omega) (fun z t z1 z2 z3 z4 => ?_)
    exact ⟨rfl, rfl, z1, z2, z3, z4⟩
  · refine zx_aload_n (i := 3) dX11_switchOf_14 rfl rfl ?_
    refine zx_getfield dX11_switchOf_15 zf_X11_221 hmd rfl ?_
    refine zx_iconst (v := -1) dX11_switchOf_18 rfl (z32_lit (by decide) (by decide)) ?_
    refine zx_pc (pc1 := 19) rfl ?_
    refine zx_icmp_ne (tgt := 30) dX11_switchOf_19 (by decide) (fun h19 => ?_) (fun h19 => ?_)
    · refine zx_aload_n (i := 3) dX11_switchOf_30 rfl rfl ?_
      refine zx_getfield dX11_switchOf_31 zf_X11_221 hmd rfl ?_
      refine zx_iret dX11_switchOf_34 rfl ?_
      exfalso
      omega
    · refine zx_thrown zt_X11_117_119 dX11_switchOf_22 dX11_switchOf_25 dX11_switchOf_26 dX11_switchOf_29 rfl hst0 (Nat.le_of_ble_eq_true rfl) (by omega) (by omega) (fun z t z1 z2 z3 z4 => ?_)
      exact ⟨rfl, rfl, z1, z2, z3, z4⟩
end CFACE
