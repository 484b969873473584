/-! Own rows: the face: answersByBreadth. Walked by program (wip/p37/m_face7.py). -/
section CFACE7
variable {G : zG} {d : Nat} {w : zW} {o t pg mc br la sp : Nat} {comp asked sum : Int}
theorem f_bb_x4 (ho : w.1 o = some (11, 0, [zR t, zR pg, zR mc, zR br, zR la, zR sp, zI comp, zI asked, zJ sum])) (ha : asked = 0) (hst0 : G.1.stackTraces = false) (r1 : w.2.1 + 1 ≤ G.2.2.2.2.1) (r2 : w.2.2 + 6 ≤ G.2.2.2.2.2) : zM G zm_X11_answersByBreadth (d + 5) [zR o] w (zXw 4 w) := by
  refine zx_ent (by decide +kernel) rfl (Nat.le_of_ble_eq_true rfl) ?_
  refine zx_L (L1 := [some (zR o)]) rfl ?_
  refine zx_aload_n (i := 0) dX11_answersByBreadth_0 rfl rfl ?_
  exact zx_ivT (b := o) (As := []) (st := []) dX11_answersByBreadth_1 zc_X11_264 ho rfl rfl rfl (Nat.le_of_ble_eq_true rfl) rfl (f_rq_x ho ha hst0 r1 r2) (fun _ q => q)
theorem f_bb_ok {li lj ln : Nat} {mo : Option Nat} {I A N : List (List Int)} {sc cc dc en bk bc : Int} (ho : w.1 o = some (11, 0, [zR t, zR pg, zR mc, zR br, zR la, zR sp, zI comp, zI asked, zJ sum])) (ha : asked ≠ 0) (hL : rpW w la li lj ln mo I A N sc cc dc en bk bc) (hb : bk ≠ 0) (hbc : bc ≠ -1) (hst0 : G.1.stackTraces = false) (r1 : w.2.1 + 1 ≤ G.2.2.2.2.1) (r2 : w.2.2 + 6 ≤ G.2.2.2.2.2) : zM G zm_X11_answersByBreadth (d + 5) [zR o] w (zRet (some (zI bc)) w) := by
  refine zx_ent (by decide +kernel) rfl (Nat.le_of_ble_eq_true rfl) ?_
  refine zx_L (L1 := [some (zR o)]) rfl ?_
  obtain ⟨h0, ⟨hi, okI⟩, ⟨hla, okA⟩, ⟨hn, okN⟩⟩ := id hL
  refine zx_aload_n (i := 0) dX11_answersByBreadth_0 rfl rfl ?_
  refine zx_iv (b := o) (As := []) (st := []) (v := none) (w1 := w) dX11_answersByBreadth_1 zc_X11_264 ho rfl rfl rfl (Nat.le_of_ble_eq_true rfl) rfl (f_rq_ok ho ha) ?_
  refine zx_st (st1 := []) rfl ?_
  refine zx_aload_n (i := 0) dX11_answersByBreadth_4 rfl rfl ?_
  refine zx_getfield dX11_answersByBreadth_5 zf_X11_26 ho rfl ?_
  refine zx_getfield dX11_answersByBreadth_8 zf_X11_283 h0 rfl ?_
  refine zx_if_ne (tgt := 40) dX11_answersByBreadth_11 (by decide) (fun h11 => ?_) (fun h11 => absurd (hb) h11)
  refine zx_aload_n (i := 0) dX11_answersByBreadth_40 rfl rfl ?_
  refine zx_getfield dX11_answersByBreadth_41 zf_X11_26 ho rfl ?_
  refine zx_getfield dX11_answersByBreadth_44 zf_X11_290 h0 rfl ?_
  refine zx_iconst (v := -1) dX11_answersByBreadth_47 rfl (z32_lit (by decide) (by decide)) ?_
  refine zx_icmp_ne (tgt := 59) dX11_answersByBreadth_48 (by decide) (fun h48 => ?_) (fun h48 => ?_)
  · refine zx_pc (pc1 := 59) rfl ?_
    refine zx_aload_n (i := 0) dX11_answersByBreadth_59 rfl rfl ?_
    refine zx_getfield dX11_answersByBreadth_60 zf_X11_26 ho rfl ?_
    refine zx_getfield dX11_answersByBreadth_63 zf_X11_290 h0 rfl ?_
    refine zx_iret dX11_answersByBreadth_66 rfl ?_
    exact zr_v rfl rfl
  · refine zx_pc (pc1 := 51) rfl ?_
    refine zx_thrown zt_X11_255_257 dX11_answersByBreadth_51 dX11_answersByBreadth_54 dX11_answersByBreadth_55 dX11_answersByBreadth_58 rfl hst0 (Nat.le_of_ble_eq_true rfl) (by omega) (by omega) (fun z t z1 z2 z3 z4 => ?_)
    exfalso
    omega
theorem f_bb_x3 {li lj ln : Nat} {mo : Option Nat} {I A N : List (List Int)} {sc cc dc en bk bc : Int} (ho : w.1 o = some (11, 0, [zR t, zR pg, zR mc, zR br, zR la, zR sp, zI comp, zI asked, zJ sum])) (ha : asked ≠ 0) (hL : rpW w la li lj ln mo I A N sc cc dc en bk bc) (hb : bk ≠ 0) (hbc : bc = -1) (hst0 : G.1.stackTraces = false) (r1 : w.2.1 + 1 ≤ G.2.2.2.2.1) (r2 : w.2.2 + 6 ≤ G.2.2.2.2.2) : zM G zm_X11_answersByBreadth (d + 5) [zR o] w (zXw 3 w) := by
  refine zx_ent (by decide +kernel) rfl (Nat.le_of_ble_eq_true rfl) ?_
  refine zx_L (L1 := [some (zR o)]) rfl ?_
  obtain ⟨h0, ⟨hi, okI⟩, ⟨hla, okA⟩, ⟨hn, okN⟩⟩ := id hL
  refine zx_aload_n (i := 0) dX11_answersByBreadth_0 rfl rfl ?_
  refine zx_iv (b := o) (As := []) (st := []) (v := none) (w1 := w) dX11_answersByBreadth_1 zc_X11_264 ho rfl rfl rfl (Nat.le_of_ble_eq_true rfl) rfl (f_rq_ok ho ha) ?_
  refine zx_st (st1 := []) rfl ?_
  refine zx_aload_n (i := 0) dX11_answersByBreadth_4 rfl rfl ?_
  refine zx_getfield dX11_answersByBreadth_5 zf_X11_26 ho rfl ?_
  refine zx_getfield dX11_answersByBreadth_8 zf_X11_283 h0 rfl ?_
  refine zx_if_ne (tgt := 40) dX11_answersByBreadth_11 (by decide) (fun h11 => ?_) (fun h11 => absurd (hb) h11)
  refine zx_aload_n (i := 0) dX11_answersByBreadth_40 rfl rfl ?_
  refine zx_getfield dX11_answersByBreadth_41 zf_X11_26 ho rfl ?_
  refine zx_getfield dX11_answersByBreadth_44 zf_X11_290 h0 rfl ?_
  refine zx_iconst (v := -1) dX11_answersByBreadth_47 rfl (z32_lit (by decide) (by decide)) ?_
  refine zx_icmp_ne (tgt := 59) dX11_answersByBreadth_48 (by decide) (fun h48 => ?_) (fun h48 => ?_)
  · refine zx_pc (pc1 := 59) rfl ?_
    refine zx_aload_n (i := 0) dX11_answersByBreadth_59 rfl rfl ?_
    refine zx_getfield dX11_answersByBreadth_60 zf_X11_26 ho rfl ?_
    refine zx_getfield dX11_answersByBreadth_63 zf_X11_290 h0 rfl ?_
    refine zx_iret dX11_answersByBreadth_66 rfl ?_
    exfalso
    omega
  · refine zx_pc (pc1 := 51) rfl ?_
    refine zx_thrown zt_X11_255_257 dX11_answersByBreadth_51 dX11_answersByBreadth_54 dX11_answersByBreadth_55 dX11_answersByBreadth_58 rfl hst0 (Nat.le_of_ble_eq_true rfl) (by omega) (by omega) (fun z t z1 z2 z3 z4 => ?_)
    exact ⟨rfl, rfl, z1, z2, z3, z4⟩
theorem f_bb_new {li lj ln : Nat} {mo : Option Nat} {I A N : List (List Int)} {sc cc dc en bk bc : Int} (ho : w.1 o = some (11, 0, [zR t, zR pg, zR mc, zR br, zR la, zR sp, zI comp, zI asked, zJ sum])) (ha : asked ≠ 0) (hL : rpW w la li lj ln mo I A N sc cc dc en bk bc) (hb : bk = 0) {bfs : List zV} (hbr : w.1 br = some (0, 0, bfs)) {P : Int → zW → Prop} (hN : zM G zm_X0_count (d + 7) [zR br, zR la] w (zVal fun v w1 => ∃ n1 : Int, v = zI n1 ∧ zFr TB w w1 ∧ P n1 w1)) (hroom : ∀ n1 w1, P n1 w1 → w1.2.1 + 1 ≤ G.2.2.2.2.1 ∧ w1.2.2 + 6 ≤ G.2.2.2.2.2) (hst0 : G.1.stackTraces = false) : zM G zm_X11_answersByBreadth (d + 8) [zR o] w (fun out w2 => ∃ n1 w1, zFr TB w w1 ∧ P n1 w1 ∧ ((n1 ≠ -1 ∧ out = .inl (some (zI n1)) ∧ w2 = (zput w1 la (8, 0, [zP mo, zR li, zR lj, zR ln, zI sc, zI cc, zI dc, zI en, zI 1, zI n1]))) ∨ (n1 = -1 ∧ out = .inr 3 ∧ w2.1 = (zput w1 la (8, 0, [zP mo, zR li, zR lj, zR ln, zI sc, zI cc, zI dc, zI en, zI 1, zI n1])).1 ∧ w1.2.1 ≤ w2.2.1 ∧ w2.2.1 ≤ w1.2.1 + 1 ∧ w1.2.2 ≤ w2.2.2 ∧ w2.2.2 ≤ w1.2.2 + 6))) := by
  refine zx_ent (by decide +kernel) rfl (Nat.le_of_ble_eq_true rfl) ?_
  refine zx_L (L1 := [some (zR o)]) rfl ?_
  obtain ⟨h0, ⟨hi, okI⟩, ⟨hla, okA⟩, ⟨hn, okN⟩⟩ := id hL
  refine zx_aload_n (i := 0) dX11_answersByBreadth_0 rfl rfl ?_
  refine zx_iv (b := o) (As := []) (st := []) (v := none) (w1 := w) dX11_answersByBreadth_1 zc_X11_264 ho rfl rfl rfl (Nat.le_of_ble_eq_true rfl) rfl (f_rq_ok ho ha) ?_
  refine zx_st (st1 := []) rfl ?_
  refine zx_aload_n (i := 0) dX11_answersByBreadth_4 rfl rfl ?_
  refine zx_getfield dX11_answersByBreadth_5 zf_X11_26 ho rfl ?_
  refine zx_getfield dX11_answersByBreadth_8 zf_X11_283 h0 rfl ?_
  refine zx_if_ne (tgt := 40) dX11_answersByBreadth_11 (by decide) (fun h11 => absurd h11 ((not_not_intro hb))) (fun h11 => ?_)
  refine zx_aload_n (i := 0) dX11_answersByBreadth_14 rfl rfl ?_
  refine zx_getfield dX11_answersByBreadth_15 zf_X11_26 ho rfl ?_
  refine zx_aload_n (i := 0) dX11_answersByBreadth_18 rfl rfl ?_
  refine zx_getfield dX11_answersByBreadth_19 zf_X11_47 ho rfl ?_
  refine zx_aload_n (i := 0) dX11_answersByBreadth_22 rfl rfl ?_
  refine zx_pc (pc1 := 23) rfl ?_
  refine zx_getfield dX11_answersByBreadth_23 zf_X11_26 ho rfl ?_
  refine zx_ivV (b := br) (As := [zR la]) (st := [zR la]) dX11_answersByBreadth_26 zc_X11_286 hbr rfl rfl rfl (Nat.le_of_ble_eq_true rfl) rfl hN (fun v1 w1 hq1 => ?_)
  obtain ⟨n1, ev1, hF1, hP1⟩ := hq1
  subst ev1
  obtain ⟨r1, r2⟩ := hroom n1 w1 hP1
  have ho1 := hF1 _ _ ho (by simp)
  have hl1 := hF1 _ _ h0 (by simp)
  have hb1 := hF1 o _ ho (by simp)
  refine zx_st (st1 := [zI n1, zR la]) rfl ?_
  obtain ⟨w_1, hw_2⟩ : ∃ ww, ww = zput w1 la (8, 0, [zP mo, zR li, zR lj, zR ln, zI sc, zI cc, zI dc, zI en, zI bk, zI n1]) := ⟨_, rfl⟩
  refine zx_put (w1 := w_1) dX11_answersByBreadth_29 zf_X11_290 hl1 (Nat.le_of_ble_eq_true rfl) (zFt_int _) (fun h => by cases h) hw_2.symm ?_
  have q_3 : w_1.2.1 = w1.2.1 ∧ w_1.2.2 = w1.2.2 := by rw [hw_2]; exact ⟨rfl, rfl⟩
  have h_4 : w_1.1 la = some (8, 0, [zP mo, zR li, zR lj, zR ln, zI sc, zI cc, zI dc, zI en, zI bk, zI n1]) := by rw [hw_2]; exact zput_at
  refine zx_aload_n (i := 0) dX11_answersByBreadth_32 rfl rfl ?_
  have h_5 : w_1.1 o = some (11, 0, [zR t, zR pg, zR mc, zR br, zR la, zR sp, zI comp, zI asked, zJ sum]) := by
    rw [hw_2]; exact zput_tg hl1 ho1 (by simp)
  refine zx_getfield dX11_answersByBreadth_33 zf_X11_26 h_5 rfl ?_
  refine zx_iconst (v := 1) dX11_answersByBreadth_36 rfl (z32_lit (by decide) (by decide)) ?_
  obtain ⟨w_6, hw_7⟩ : ∃ ww, ww = zput w_1 la (8, 0, [zP mo, zR li, zR lj, zR ln, zI sc, zI cc, zI dc, zI en, zI 1, zI n1]) := ⟨_, rfl⟩
  refine zx_put (w1 := w_6) dX11_answersByBreadth_37 zf_X11_283 h_4 (Nat.le_of_ble_eq_true rfl) (zFt_bool (by first | exact Or.inl rfl | exact Or.inr rfl | exact zB_or | assumption)) (fun h => by cases h) hw_7.symm ?_
  have q_8 : w_6.2.1 = w_1.2.1 ∧ w_6.2.2 = w_1.2.2 := by rw [hw_7]; exact ⟨rfl, rfl⟩
  have h_9 : w_6.1 la = some (8, 0, [zP mo, zR li, zR lj, zR ln, zI sc, zI cc, zI dc, zI en, zI 1, zI n1]) := by rw [hw_7]; exact zput_at
  refine zx_aload_n (i := 0) dX11_answersByBreadth_40 rfl rfl ?_
  have h_10 : w_6.1 o = some (11, 0, [zR t, zR pg, zR mc, zR br, zR la, zR sp, zI comp, zI asked, zJ sum]) := by
    rw [hw_7]; exact zput_tg h_4 h_5 (by simp)
  refine zx_getfield dX11_answersByBreadth_41 zf_X11_26 h_10 rfl ?_
  refine zx_getfield dX11_answersByBreadth_44 zf_X11_290 h_9 rfl ?_
  refine zx_iconst (v := -1) dX11_answersByBreadth_47 rfl (z32_lit (by decide) (by decide)) ?_
  refine zx_icmp_ne (tgt := 59) dX11_answersByBreadth_48 (by decide) (fun h48 => ?_) (fun h48 => ?_)
  · refine zx_pc (pc1 := 59) rfl ?_
    refine zx_aload_n (i := 0) dX11_answersByBreadth_59 rfl rfl ?_
    refine zx_getfield dX11_answersByBreadth_60 zf_X11_26 h_10 rfl ?_
    refine zx_getfield dX11_answersByBreadth_63 zf_X11_290 h_9 rfl ?_
    refine zx_iret dX11_answersByBreadth_66 rfl ?_
    exact ⟨n1, w1, hF1, hP1, Or.inl ⟨by omega, rfl, by rw [hw_7, hw_2]; simp only [zput_put]⟩⟩
  · refine zx_pc (pc1 := 51) rfl ?_
    refine zx_thrown zt_X11_255_257 dX11_answersByBreadth_51 dX11_answersByBreadth_54 dX11_answersByBreadth_55 dX11_answersByBreadth_58 rfl hst0 (Nat.le_of_ble_eq_true rfl) (by omega) (by omega) (fun z t z1 z2 z3 z4 => ?_)
    exact ⟨n1, w1, hF1, hP1, Or.inr ⟨by omega, rfl, by rw [hw_7, hw_2]; simp only [zput_put], by rw [hw_7, hw_2] at z1 z2 z3 z4; exact ⟨z1, z2, z3, z4⟩⟩⟩
end CFACE7
