/-! Own rows: the machine's newFrame. Walked by program (wip/p37/m_mnew.py). -/
theorem zn_X4_61 : zNI "ModedMill$Machine" 61 2 10 [zI 0, zN, zN, zN, zI 0, zI 0, zN, zI 0, zN, zI 0] := ⟨RX2, TX2, tyX2, rfl, by decide, zu_X2, tyX2_ok, zin 7 37 rfl rfl, zin 7 38 rfl rfl, zin 1 37 rfl rfl, fun j hj => by rcases (show j = 0 ∨ j = 1 ∨ j = 2 ∨ j = 3 ∨ j = 4 ∨ j = 5 ∨ j = 6 ∨ j = 7 ∨ j = 8 ∨ j = 9 by omega) with rfl | rfl | rfl | rfl | rfl | rfl | rfl | rfl | rfl | rfl <;> rfl, zfit_all (by decide)⟩
section MNEW
variable {G : zG} {d : Nat} {w : zW} {b1 b2 : Nat} {mc fa ca ta t tc tn th tz rp ri ra rn : Nat} {ty bk bc : Int} {C I : List (List Int)} {mo : Option Nat} {cap cc ct : Nat} {Fs : List Nat} {fm : Nat → fmR} {CH TR N H A Nt : List (List Int)} {Sz : List Int} {us pl fl ov fu sc nc dp en : Int} {cu de : Option Nat}
theorem c_X4_newFrame0  {k : Nat} (hM : mcW w b1 b2 ((mc, fa, ca, ta), (t, tc, tn, th, tz), (rp, ri, ra, rn), (ty, C), (mo, I, bk, bc)) (((cap, Fs), fm), (cc, CH), (ct, TR), ((k : Int), cu, pl, de), (fl, ov, fu), (N, H, Sz), (A, Nt, sc, nc, dp, en))) (hG1 : b1 + 1500000 ≤ 60 * G.2.2.2.2.1) (hG2 : b2 + 3150000 ≤ G.2.2.2.2.2) (hF3 : Fs.length ≤ 320) (hkl0 : k < 310) (hkl : k ≤ Fs.length) (md0 : Nat) : zM G zm_X4_newFrame (d + 6) [zR mc, zR md0, zN] w (zVal fun v w' => ∃ y va cap' Fs', v = zR y ∧ y = y ∧ Fs'[k]? = some y ∧ (∀ (i z : Nat), Fs[i]? = some z → Fs'[i]? = some z) ∧ Fs'.length ≤ max Fs.length (k + 1) ∧ mcW w' b1 b2 ((mc, fa, ca, ta), (t, tc, tn, th, tz), (rp, ri, ra, rn), (ty, C), (mo, I, bk, bc)) (((cap', Fs'), fmUp fm y ((va, md0), (none, pl, 1), (none, 0, none, 0), List.replicate 8 (-1))), (cc, CH), (ct, TR), ((k : Int) + 1, cu, pl, de), (fl, ov, fu), (N, H, Sz), (A, Nt, sc, nc, dp, en)) ∧ mcF rp w w') := by
  refine zx_ent (by decide +kernel) rfl (Nat.le_of_ble_eq_true rfl) ?_
  refine zx_ok (fun ok0 => ?_)
  refine zx_L (L1 := [some (zR mc), some (zR md0), some (zN), none]) rfl ?_
  obtain ⟨hmc, hfa, ⟨hca, okC⟩, ⟨hta, okT⟩, hFr, ⟨ht0, ⟨htc, okTC⟩, ⟨htn, okN⟩, ⟨hth, okH⟩, htz, hSz⟩, ⟨hrp, ⟨hri, okI⟩, ⟨hra, okA⟩, ⟨hrn, okNt⟩⟩, hcap, hcct, hrm1, hrm2⟩ := id hM
  by_cases hlt : k < Fs.length
  · obtain ⟨y, hk⟩ : ∃ y, Fs[k]? = some y := ⟨_, List.getElem?_eq_getElem hlt⟩
    have hget : Fs[((k : Int)).toNat]? = some y := by rw [Int.toNat_natCast]; exact hk
    obtain ⟨⟨⟨va, md⟩, ⟨fca, fbt, fdp⟩, ⟨fcl, fdn, fod, fcb⟩, xs⟩, efm⟩ : ∃ r, fm y = r := ⟨_, rfl⟩
    obtain ⟨hfy, hva, hx⟩ := hFr k y hk
    rw [efm] at hfy hva hx
    have hx : xs.length = 8 := hx
    refine zx_aload_n (i := 0) dX4_newFrame_0 rfl rfl ?_
    refine zx_getfield dX4_newFrame_1 zf_X4_110 hmc rfl ?_
    refine zx_if_lt (tgt := 21) dX4_newFrame_4 (by decide) (fun h4 => absurd h4 (by omega)) (fun h4 => ?_)
    refine zx_aload_n (i := 0) dX4_newFrame_7 rfl rfl ?_
    refine zx_getfield dX4_newFrame_8 zf_X4_110 hmc rfl ?_
    refine zx_aload_n (i := 0) dX4_newFrame_11 rfl rfl ?_
    refine zx_getfield dX4_newFrame_12 zf_X4_22 hmc rfl ?_
    refine zx_iv (b := fa) (As := []) (st := [zI (k : Int)]) (v := (some (zI (Fs.length : Int)))) (w1 := w) dX4_newFrame_15 zc_X4_131 hfa (z_cls12 (by decide)) rfl rfl (Nat.le_of_ble_eq_true rfl) rfl (c_list_size hfa (by decide)) ?_
    refine zx_st (st1 := [zI (Fs.length : Int), zI (k : Int)]) rfl ?_
    refine zx_icmp_lt (tgt := 52) dX4_newFrame_18 (by decide) (fun h18 => ?_) (fun h18 => absurd (by omega) h18)
    refine zx_aload_n (i := 0) dX4_newFrame_52 rfl rfl ?_
    refine zx_getfield dX4_newFrame_53 zf_X4_22 hmc rfl ?_
    refine zx_pc (pc1 := 56) rfl ?_
    refine zx_aload_n (i := 0) dX4_newFrame_56 rfl rfl ?_
    refine zx_getfield dX4_newFrame_57 zf_X4_110 hmc rfl ?_
    refine zx_iv (b := fa) (As := [zI (k : Int)]) (st := []) (v := (some (zR y))) (w1 := w) dX4_newFrame_60 zc_X4_141 hfa (z_cls12 (by decide)) rfl rfl (Nat.le_of_ble_eq_true rfl) rfl (c_list_get hfa (by decide) (by omega) hget) ?_
    refine zx_st (st1 := [zR y]) rfl ?_
    refine zx_castR dX4_newFrame_63 hfy rfl zl_X4_61 ?_
    refine zx_astore_n (i := 3) dX4_newFrame_66 rfl (by decide) rfl ?_
    refine zx_L (L1 := [some (zR mc), some (zR md0), some (zN), some (zR y)]) rfl ?_
    refine zx_aload_n (i := 0) dX4_newFrame_67 rfl rfl ?_
    refine zx_dup dX4_newFrame_68 (fun a h => by cases h) ?_
    refine zx_getfield dX4_newFrame_69 zf_X4_110 hmc rfl ?_
    refine zx_iconst (v := 1) dX4_newFrame_72 rfl (z32_lit (by decide) (by decide)) ?_
    refine zx_iadd (v := (k : Int) + 1) dX4_newFrame_73 (zw_id ⟨by omega, by omega⟩) ?_
    obtain ⟨w_1, hw_2⟩ : ∃ ww, ww = zput w mc (4, 0, [zR t, zR fa, zR ca, zR ta, zR rp, zI ((k : Int) + 1), zP cu, zI pl, zP de, zI fl, zI ov, zI fu]) := ⟨_, rfl⟩
    refine zx_put (w1 := w_1) dX4_newFrame_74 zf_X4_110 hmc (Nat.le_of_ble_eq_true rfl) (zFt_int _) (fun h => by cases h) hw_2.symm ?_
    have q_3 : w_1.2.1 = w.2.1 ∧ w_1.2.2 = w.2.2 := by rw [hw_2]; exact ⟨rfl, rfl⟩
    have h_4 : w_1.1 mc = some (4, 0, [zR t, zR fa, zR ca, zR ta, zR rp, zI ((k : Int) + 1), zP cu, zI pl, zP de, zI fl, zI ov, zI fu]) := by rw [hw_2]; exact zput_at
    refine zx_aload_n (i := 3) dX4_newFrame_77 rfl rfl ?_
    refine zx_pc (pc1 := 78) rfl ?_
    refine zx_aload_n (i := 1) dX4_newFrame_78 rfl rfl ?_
    refine zx_aload_n (i := 2) dX4_newFrame_79 rfl rfl ?_
    refine zx_aload_n (i := 0) dX4_newFrame_80 rfl rfl ?_
    refine zx_getfield dX4_newFrame_81 zf_X4_69 h_4 rfl ?_
    have h_5 : w_1.1 y = some (2, 0, [zI (k : Int), zR va, zR md, zP fca, zI fbt, zI fdp, zP fcl, zI fdn, zP fod, zI fcb]) := by
      rw [hw_2]; exact zput_tg hmc hfy (by simp)
    have h_6 : w_1.1 va = some (104, y, xs.map Sum.inl) := by
      rw [hw_2]; exact zput_tg hmc hva (by simp)
    obtain ⟨w_7, hw_8⟩ : ∃ ww, ww = zput w_1 va (104, y, (List.replicate 8 (-1 : Int)).map Sum.inl) := ⟨_, rfl⟩
    have q_9 : w_7.2.1 = w_1.2.1 ∧ w_7.2.2 = w_1.2.2 := by rw [hw_8]; exact ⟨rfl, rfl⟩
    have h_10 : w_7.1 va = some (104, y, (List.replicate 8 (-1 : Int)).map Sum.inl) := by rw [hw_8]; exact zput_at
    have h_11 : w_7.1 y = some (2, 0, [zI (k : Int), zR va, zR md, zP fca, zI fbt, zI fdp, zP fcl, zI fdn, zP fod, zI fcb]) := by
      rw [hw_8]; exact zput_tg h_6 h_5 (by simp)
    obtain ⟨w_12, hw_13⟩ : ∃ ww, ww = zput w_7 y (2, 0, [zI (k : Int), zR va, zR md0, zN, zI pl, zI (1), zN, zI 0, zN, zI 0]) := ⟨_, rfl⟩
    have q_14 : w_12.2.1 = w_7.2.1 ∧ w_12.2.2 = w_7.2.2 := by rw [hw_13]; exact ⟨rfl, rfl⟩
    have h_15 : w_12.1 y = some (2, 0, [zI (k : Int), zR va, zR md0, zN, zI pl, zI (1), zN, zI 0, zN, zI 0]) := by rw [hw_13]; exact zput_at
    refine zx_iv (b := y) (As := [zR md0, zN, zI pl]) (st := []) (v := none) (w1 := w_12) dX4_newFrame_84 zc_X4_145 h_5 rfl rfl rfl (Nat.le_of_ble_eq_true rfl) rfl (by rw [hw_13]; rw [hw_8]; exact (c_X2_begin0 h_5 h_6 hx md0 pl)) ?_
    refine zx_st (st1 := []) rfl ?_
    refine zx_aload_n (i := 3) dX4_newFrame_87 rfl rfl ?_
    refine zx_areturn dX4_newFrame_88 rfl (Or.inl ⟨_, rfl⟩) ?_
    have hfaL : zFa [mc, va, y] w w_12 := (zFa_put (zFa_put (zFa_put zFa_re (by simp) hw_2) (by simp) hw_8) (by simp) hw_13)
    have h_16 : w_12.1 va = some (104, y, (List.replicate 8 (-1 : Int)).map Sum.inl) := by
      rw [hw_13]; exact zput_tg h_11 h_10 (by simp)
    have hfry : fmW w_12 y (k : Int) ((va, md0), (none, pl, 1), (none, 0, none, 0), List.replicate 8 (-1)) := ⟨h_15, h_16, by first | exact List.length_replicate | assumption | (unfold zVs; split <;> simp [hx]) | simp [hx]⟩
    have hFr2 := fm_keep1 hFr hk hfaL (zLc hmc (by simp) (zLc hva (by simp) (zLc hfy (by simp) zLn))) hfry
    have hmcF : mcF rp w w_12 := mcF_fa hfaL (zLc hmc (by simp [mcP]) (zLc hva (by simp [mcP]) (zLc hfy (by simp [mcP]) zLn)))
    refine ⟨_, rfl, y, va, cap, Fs, rfl, rfl, hk, fun _ _ h => h, by omega, ?_, ?_⟩
    have h_17 : w_7.1 mc = some (4, 0, [zR t, zR fa, zR ca, zR ta, zR rp, zI ((k : Int) + 1), zP cu, zI pl, zP de, zI fl, zI ov, zI fu]) := by
      rw [hw_8]; exact zput_tg h_6 h_4 (by simp)
    have h_18 : w_12.1 mc = some (4, 0, [zR t, zR fa, zR ca, zR ta, zR rp, zI ((k : Int) + 1), zP cu, zI pl, zP de, zI fl, zI ov, zI fu]) := by
      rw [hw_13]; exact zput_tg h_11 h_17 (by simp)
    have h_19 : w_1.1 fa = some (166, mc, zLs cap Fs) := by
      rw [hw_2]; exact zput_tg hmc hfa (by simp)
    have h_20 : w_7.1 fa = some (166, mc, zLs cap Fs) := by
      rw [hw_8]; exact zput_tg h_6 h_19 (by simp)
    have h_21 : w_12.1 fa = some (166, mc, zLs cap Fs) := by
      rw [hw_13]; exact zput_tg h_11 h_20 (by simp)
    have h_22 : w_1.1 ca = some (138, mc, tTb 3 cc CH) := by
      rw [hw_2]; exact zput_tg hmc hca (by simp)
    have h_23 : w_7.1 ca = some (138, mc, tTb 3 cc CH) := by
      rw [hw_8]; exact zput_tg h_6 h_22 (by simp)
    have h_24 : w_12.1 ca = some (138, mc, tTb 3 cc CH) := by
      rw [hw_13]; exact zput_tg h_11 h_23 (by simp)
    have h_25 : w_1.1 ta = some (139, mc, tTb 2 ct TR) := by
      rw [hw_2]; exact zput_tg hmc hta (by simp)
    have h_26 : w_7.1 ta = some (139, mc, tTb 2 ct TR) := by
      rw [hw_8]; exact zput_tg h_6 h_25 (by simp)
    have h_27 : w_12.1 ta = some (139, mc, tTb 2 ct TR) := by
      rw [hw_13]; exact zput_tg h_11 h_26 (by simp)
    have h_28 : w_1.1 t = some (10, 0, [zI ty, zR tc, zR tn, zR th, zR tz]) := by
      rw [hw_2]; exact zput_tg hmc ht0 (by simp)
    have h_29 : w_7.1 t = some (10, 0, [zI ty, zR tc, zR tn, zR th, zR tz]) := by
      rw [hw_8]; exact zput_tg h_6 h_28 (by simp)
    have h_30 : w_12.1 t = some (10, 0, [zI ty, zR tc, zR tn, zR th, zR tz]) := by
      rw [hw_13]; exact zput_tg h_11 h_29 (by simp)
    have h_31 : w_1.1 tc = some (130, t, tTb 3 30 C) := by
      rw [hw_2]; exact zput_tg hmc htc (by simp)
    have h_32 : w_7.1 tc = some (130, t, tTb 3 30 C) := by
      rw [hw_8]; exact zput_tg h_6 h_31 (by simp)
    have h_33 : w_12.1 tc = some (130, t, tTb 3 30 C) := by
      rw [hw_13]; exact zput_tg h_11 h_32 (by simp)
    have h_34 : w_1.1 tn = some (131, t, tTb 4 800 N) := by
      rw [hw_2]; exact zput_tg hmc htn (by simp)
    have h_35 : w_7.1 tn = some (131, t, tTb 4 800 N) := by
      rw [hw_8]; exact zput_tg h_6 h_34 (by simp)
    have h_36 : w_12.1 tn = some (131, t, tTb 4 800 N) := by
      rw [hw_13]; exact zput_tg h_11 h_35 (by simp)
    have h_37 : w_1.1 th = some (132, t, tTb 1 64 H) := by
      rw [hw_2]; exact zput_tg hmc hth (by simp)
    have h_38 : w_7.1 th = some (132, t, tTb 1 64 H) := by
      rw [hw_8]; exact zput_tg h_6 h_37 (by simp)
    have h_39 : w_12.1 th = some (132, t, tTb 1 64 H) := by
      rw [hw_13]; exact zput_tg h_11 h_38 (by simp)
    have h_40 : w_1.1 tz = some (120, t, Sz.map zJ) := by
      rw [hw_2]; exact zput_tg hmc htz (by simp)
    have h_41 : w_7.1 tz = some (120, t, Sz.map zJ) := by
      rw [hw_8]; exact zput_tg h_6 h_40 (by simp)
    have h_42 : w_12.1 tz = some (120, t, Sz.map zJ) := by
      rw [hw_13]; exact zput_tg h_11 h_41 (by simp)
    have h_43 : w_1.1 rp = some (8, 0, [zP mo, zR ri, zR ra, zR rn, zI sc, zI nc, zI dp, zI en, zI bk, zI bc]) := by
      rw [hw_2]; exact zput_tg hmc hrp (by simp)
    have h_44 : w_7.1 rp = some (8, 0, [zP mo, zR ri, zR ra, zR rn, zI sc, zI nc, zI dp, zI en, zI bk, zI bc]) := by
      rw [hw_8]; exact zput_tg h_6 h_43 (by simp)
    have h_45 : w_12.1 rp = some (8, 0, [zP mo, zR ri, zR ra, zR rn, zI sc, zI nc, zI dp, zI en, zI bk, zI bc]) := by
      rw [hw_13]; exact zput_tg h_11 h_44 (by simp)
    have h_46 : w_1.1 ri = some (135, rp, tTb 1 3 I) := by
      rw [hw_2]; exact zput_tg hmc hri (by simp)
    have h_47 : w_7.1 ri = some (135, rp, tTb 1 3 I) := by
      rw [hw_8]; exact zput_tg h_6 h_46 (by simp)
    have h_48 : w_12.1 ri = some (135, rp, tTb 1 3 I) := by
      rw [hw_13]; exact zput_tg h_11 h_47 (by simp)
    have h_49 : w_1.1 ra = some (136, rp, tTb 3 150 A) := by
      rw [hw_2]; exact zput_tg hmc hra (by simp)
    have h_50 : w_7.1 ra = some (136, rp, tTb 3 150 A) := by
      rw [hw_8]; exact zput_tg h_6 h_49 (by simp)
    have h_51 : w_12.1 ra = some (136, rp, tTb 3 150 A) := by
      rw [hw_13]; exact zput_tg h_11 h_50 (by simp)
    have h_52 : w_1.1 rn = some (137, rp, tTb 2 160 Nt) := by
      rw [hw_2]; exact zput_tg hmc hrn (by simp)
    have h_53 : w_7.1 rn = some (137, rp, tTb 2 160 Nt) := by
      rw [hw_8]; exact zput_tg h_6 h_52 (by simp)
    have h_54 : w_12.1 rn = some (137, rp, tTb 2 160 Nt) := by
      rw [hw_13]; exact zput_tg h_11 h_53 (by simp)
    · exact ⟨h_18, h_21, ⟨h_24, okC⟩, ⟨h_27, okT⟩, hFr2, ⟨h_30, ⟨h_33, okTC⟩, ⟨h_36, okN⟩, ⟨h_39, okH⟩, h_42, hSz⟩, ⟨h_45, ⟨h_48, okI⟩, ⟨h_51, okA⟩, ⟨h_54, okNt⟩⟩, hcap, ⟨by omega, by omega, by omega, by omega⟩, by omega, by omega⟩
    · exact hmcF
  · have ek : k = Fs.length := by omega
    subst ek
    have hol0 := ok0
    refine zx_aload_n (i := 0) dX4_newFrame_0 rfl rfl ?_
    refine zx_getfield dX4_newFrame_1 zf_X4_110 hmc rfl ?_
    refine zx_if_lt (tgt := 21) dX4_newFrame_4 (by decide) (fun h4 => absurd h4 (by omega)) (fun h4 => ?_)
    refine zx_aload_n (i := 0) dX4_newFrame_7 rfl rfl ?_
    refine zx_getfield dX4_newFrame_8 zf_X4_110 hmc rfl ?_
    refine zx_aload_n (i := 0) dX4_newFrame_11 rfl rfl ?_
    refine zx_getfield dX4_newFrame_12 zf_X4_22 hmc rfl ?_
    refine zx_iv (b := fa) (As := []) (st := [zI (Fs.length : Int)]) (v := (some (zI (Fs.length : Int)))) (w1 := w) dX4_newFrame_15 zc_X4_131 hfa (z_cls12 (by decide)) rfl rfl (Nat.le_of_ble_eq_true rfl) rfl (c_list_size hfa (by decide)) ?_
    refine zx_st (st1 := [zI (Fs.length : Int), zI (Fs.length : Int)]) rfl ?_
    refine zx_icmp_lt (tgt := 52) dX4_newFrame_18 (by decide) (fun h18 => absurd h18 (by omega)) (fun h18 => ?_)
    refine zx_aload_n (i := 0) dX4_newFrame_21 rfl rfl ?_
    refine zx_aload_n (i := 0) dX4_newFrame_22 rfl rfl ?_
    refine zx_pc (pc1 := 23) rfl ?_
    refine zx_getfield dX4_newFrame_23 zf_X4_22 hmc rfl ?_
    refine zx_iv (b := fa) (As := []) (st := [zR mc]) (v := (some (zI (Fs.length : Int)))) (w1 := w) dX4_newFrame_26 zc_X4_131 hfa (z_cls12 (by decide)) rfl rfl (Nat.le_of_ble_eq_true rfl) rfl (c_list_size hfa (by decide)) ?_
    refine zx_st (st1 := [zI (Fs.length : Int), zR mc]) rfl ?_
    obtain ⟨w_1, hw_2⟩ : ∃ ww, ww = zput w mc (4, 0, [zR t, zR fa, zR ca, zR ta, zR rp, zI (Fs.length : Int), zP cu, zI pl, zP de, zI fl, zI ov, zI fu]) := ⟨_, rfl⟩
    refine zx_put (w1 := w_1) dX4_newFrame_29 zf_X4_110 hmc (Nat.le_of_ble_eq_true rfl) (zFt_int _) (fun h => by cases h) hw_2.symm ?_
    have q_3 : w_1.2.1 = w.2.1 ∧ w_1.2.2 = w.2.2 := by rw [hw_2]; exact ⟨rfl, rfl⟩
    have h_4 : w_1.1 mc = some (4, 0, [zR t, zR fa, zR ca, zR ta, zR rp, zI (Fs.length : Int), zP cu, zI pl, zP de, zI fl, zI ov, zI fu]) := by rw [hw_2]; exact zput_at
    refine zx_aload_n (i := 0) dX4_newFrame_32 rfl rfl ?_
    refine zx_getfield dX4_newFrame_33 zf_X4_22 h_4 rfl ?_
    refine zx_ok (fun ok_5 => ?_)
    refine zx_new dX4_newFrame_36 zn_X4_61 (by omega) (by omega) ?_
    obtain ⟨w_6, hw_7⟩ : ∃ ww, ww = znew w_1 (2, 0, [zI 0, zN, zN, zN, zI 0, zI 0, zN, zI 0, zN, zI 0]) 10 := ⟨_, rfl⟩
    obtain ⟨a_8, ha_9⟩ : ∃ ww, ww = w_1.2.1 := ⟨_, rfl⟩
    rw [← hw_7, ← ha_9]
    have q_10 : w_6.2.1 = w_1.2.1 + 1 ∧ w_6.2.2 = w_1.2.2 + 10 := by rw [hw_7]; exact ⟨rfl, rfl⟩
    have h_11 : w_6.1 a_8 = some (2, 0, [zI 0, zN, zN, zN, zI 0, zI 0, zN, zI 0, zN, zI 0]) := by rw [hw_7, ha_9]; exact znew_at
    refine zx_dup dX4_newFrame_39 (fun a h => by cases h) ?_
    refine zx_aload_n (i := 0) dX4_newFrame_40 rfl rfl ?_
    have h_12 : w_6.1 mc = some (4, 0, [zR t, zR fa, zR ca, zR ta, zR rp, zI (Fs.length : Int), zP cu, zI pl, zP de, zI fl, zI ov, zI fu]) := by
      rw [hw_7]; exact znew_to (ok_5 _ _ h_4) h_4
    refine zx_getfield dX4_newFrame_41 zf_X4_110 h_12 rfl ?_
    refine zx_aload_n (i := 1) dX4_newFrame_44 rfl rfl ?_
    refine zx_ok (fun ok_13 => ?_)
    obtain ⟨w_14, hw_15⟩ : ∃ ww, ww = znew w_6 (104, a_8, (List.replicate 8 (0 : Int)).map Sum.inl) 8 := ⟨_, rfl⟩
    obtain ⟨a_16, ha_17⟩ : ∃ ww, ww = w_6.2.1 := ⟨_, rfl⟩
    have q_18 : w_14.2.1 = w_6.2.1 + 1 ∧ w_14.2.2 = w_6.2.2 + 8 := by rw [hw_15]; exact ⟨rfl, rfl⟩
    have h_19 : w_14.1 a_16 = some (104, a_8, (List.replicate 8 (0 : Int)).map Sum.inl) := by rw [hw_15, ha_17]; exact znew_at
    have h_20 : w_14.1 a_8 = some (2, 0, [zI 0, zN, zN, zN, zI 0, zI 0, zN, zI 0, zN, zI 0]) := by
      rw [hw_15]; exact znew_to (ok_13 _ _ h_11) h_11
    obtain ⟨w_21, hw_22⟩ : ∃ ww, ww = zput w_14 a_8 (2, 0, [zI (Fs.length : Int), zR a_16, zR md0, zN, zI 0, zI 0, zN, zI 0, zN, zI 0]) := ⟨_, rfl⟩
    have q_23 : w_21.2.1 = w_14.2.1 ∧ w_21.2.2 = w_14.2.2 := by rw [hw_22]; exact ⟨rfl, rfl⟩
    have h_24 : w_21.1 a_8 = some (2, 0, [zI (Fs.length : Int), zR a_16, zR md0, zN, zI 0, zI 0, zN, zI 0, zN, zI 0]) := by rw [hw_22]; exact zput_at
    refine zx_ic (b := a_8) (As := [zI (Fs.length : Int), zR md0]) (st := [zR a_8, zR fa]) (w1 := w_21) dX4_newFrame_45 zc_X4_134 rfl (Nat.le_of_ble_eq_true rfl) rfl (by rw [hw_22]; (try rw [ha_17]); rw [hw_15]; exact (c_X2_init h_11 (by omega) (by omega) (Fs.length : Int) (some md0))) ?_
    have hely : lEl w_21 a_8 := lEl2 h_24
    have hels : ∀ z ∈ Fs, lEl w_21 z := fun z hz => by
      obtain ⟨j, hj⟩ := List.mem_iff_getElem?.mp hz
      have h := (hFr j z hj).1
      have hlt := ok0 _ _ h
      exact lEl2 ((show zFa [mc] w w_21 from (zFa_putN (zFa_new (zFa_new (zFa_put zFa_re (by simp) hw_2) ok_5 hw_7) ok_13 hw_15) (fun ob h => by have := ok0 _ _ h; omega) hw_22)) z _ h (by simp only [List.mem_singleton]; intro e; rw [e, hmc] at h; cases h))
    have h_25 : w_1.1 fa = some (166, mc, zLs cap Fs) := by
      rw [hw_2]; exact zput_tg hmc hfa (by simp)
    have h_26 : w_6.1 fa = some (166, mc, zLs cap Fs) := by
      rw [hw_7]; exact znew_to (ok_5 _ _ h_25) h_25
    have h_27 : w_14.1 fa = some (166, mc, zLs cap Fs) := by
      rw [hw_15]; exact znew_to (ok_13 _ _ h_26) h_26
    have h_28 : w_21.1 fa = some (166, mc, zLs cap Fs) := by
      rw [hw_22]; exact zput_tg h_20 h_27 (by simp)
    refine zx_ok (fun ok_29 => ?_)
    obtain ⟨w_30, hw_31⟩ : ∃ ww, ww = lAw w_21 fa 166 mc cap Fs a_8 := ⟨_, rfl⟩
    have h_32 : w_30.1 fa = some (166, mc, zLs (lCap cap Fs) (Fs ++ [a_8])) := by rw [hw_31]; exact lAw_at
    refine zx_iv (b := fa) (As := [zR a_8]) (st := []) (v := (some (zI 1))) (w1 := w_30) dX4_newFrame_48 zc_X4_137 h_28 (z_cls12 (by decide)) rfl rfl (Nat.le_of_ble_eq_true rfl) rfl (by rw [hw_31]; exact (c_list_add h_28 (by decide) hcap.1 hcap.2.1 (by omega) hely hels (Or.inr ⟨by omega, by omega⟩))) ?_
    have hlz := lAw_sz (w := w_21) (a := fa) (t := 166) (ow := mc) (cap := cap) (y := a_8) (ys := Fs)
    rw [← hw_31] at hlz
    have hget : (Fs ++ [a_8])[((Fs.length : Int)).toNat]? = some a_8 := by rw [Int.toNat_natCast]; simp
    refine zx_st (st1 := [zI 1]) rfl ?_
    refine zx_pc (pc1 := 51) rfl ?_
    refine zx_pop dX4_newFrame_51 (fun a h => by cases h) ?_
    refine zx_aload_n (i := 0) dX4_newFrame_52 rfl rfl ?_
    have h_33 : w_14.1 mc = some (4, 0, [zR t, zR fa, zR ca, zR ta, zR rp, zI (Fs.length : Int), zP cu, zI pl, zP de, zI fl, zI ov, zI fu]) := by
      rw [hw_15]; exact znew_to (ok_13 _ _ h_12) h_12
    have h_34 : w_21.1 mc = some (4, 0, [zR t, zR fa, zR ca, zR ta, zR rp, zI (Fs.length : Int), zP cu, zI pl, zP de, zI fl, zI ov, zI fu]) := by
      rw [hw_22]; exact zput_tg h_20 h_33 (by simp)
    have h_35 : w_30.1 mc = some (4, 0, [zR t, zR fa, zR ca, zR ta, zR rp, zI (Fs.length : Int), zP cu, zI pl, zP de, zI fl, zI ov, zI fu]) := by
      rw [hw_31]; exact (lAw_to ok_29 (zne_tg h_28 h_34 (by simp)) h_34)
    refine zx_getfield dX4_newFrame_53 zf_X4_22 h_35 rfl ?_
    refine zx_aload_n (i := 0) dX4_newFrame_56 rfl rfl ?_
    refine zx_getfield dX4_newFrame_57 zf_X4_110 h_35 rfl ?_
    refine zx_iv (b := fa) (As := [zI (Fs.length : Int)]) (st := []) (v := (some (zR a_8))) (w1 := w_30) dX4_newFrame_60 zc_X4_141 h_32 (z_cls12 (by decide)) rfl rfl (Nat.le_of_ble_eq_true rfl) rfl (c_list_get h_32 (by decide) (by omega) hget) ?_
    refine zx_st (st1 := [zR a_8]) rfl ?_
    have h_36 : w_30.1 a_8 = some (2, 0, [zI (Fs.length : Int), zR a_16, zR md0, zN, zI 0, zI 0, zN, zI 0, zN, zI 0]) := by
      rw [hw_31]; exact (lAw_to ok_29 (zne_tg h_28 h_24 (by simp)) h_24)
    refine zx_castR dX4_newFrame_63 h_36 rfl zl_X4_61 ?_
    refine zx_astore_n (i := 3) dX4_newFrame_66 rfl (by decide) rfl ?_
    refine zx_L (L1 := [some (zR mc), some (zR md0), some (zN), some (zR a_8)]) rfl ?_
    refine zx_aload_n (i := 0) dX4_newFrame_67 rfl rfl ?_
    refine zx_dup dX4_newFrame_68 (fun a h => by cases h) ?_
    refine zx_getfield dX4_newFrame_69 zf_X4_110 h_35 rfl ?_
    refine zx_iconst (v := 1) dX4_newFrame_72 rfl (z32_lit (by decide) (by decide)) ?_
    refine zx_pc (pc1 := 73) rfl ?_
    refine zx_iadd (v := (Fs.length : Int) + 1) dX4_newFrame_73 (zw_id ⟨by omega, by omega⟩) ?_
    obtain ⟨w_37, hw_38⟩ : ∃ ww, ww = zput w_30 mc (4, 0, [zR t, zR fa, zR ca, zR ta, zR rp, zI ((Fs.length : Int) + 1), zP cu, zI pl, zP de, zI fl, zI ov, zI fu]) := ⟨_, rfl⟩
    refine zx_put (w1 := w_37) dX4_newFrame_74 zf_X4_110 h_35 (Nat.le_of_ble_eq_true rfl) (zFt_int _) (fun h => by cases h) hw_38.symm ?_
    have q_39 : w_37.2.1 = w_30.2.1 ∧ w_37.2.2 = w_30.2.2 := by rw [hw_38]; exact ⟨rfl, rfl⟩
    have h_40 : w_37.1 mc = some (4, 0, [zR t, zR fa, zR ca, zR ta, zR rp, zI ((Fs.length : Int) + 1), zP cu, zI pl, zP de, zI fl, zI ov, zI fu]) := by rw [hw_38]; exact zput_at
    refine zx_aload_n (i := 3) dX4_newFrame_77 rfl rfl ?_
    refine zx_aload_n (i := 1) dX4_newFrame_78 rfl rfl ?_
    refine zx_aload_n (i := 2) dX4_newFrame_79 rfl rfl ?_
    refine zx_aload_n (i := 0) dX4_newFrame_80 rfl rfl ?_
    refine zx_getfield dX4_newFrame_81 zf_X4_69 h_40 rfl ?_
    have h_41 : w_37.1 a_8 = some (2, 0, [zI (Fs.length : Int), zR a_16, zR md0, zN, zI 0, zI 0, zN, zI 0, zN, zI 0]) := by
      rw [hw_38]; exact zput_tg h_35 h_36 (by simp)
    have h_42 : w_21.1 a_16 = some (104, a_8, (List.replicate 8 (0 : Int)).map Sum.inl) := by
      rw [hw_22]; exact zput_tg h_20 h_19 (by simp)
    have h_43 : w_30.1 a_16 = some (104, a_8, (List.replicate 8 (0 : Int)).map Sum.inl) := by
      rw [hw_31]; exact (lAw_to ok_29 (zne_tg h_28 h_42 (by simp)) h_42)
    have h_44 : w_37.1 a_16 = some (104, a_8, (List.replicate 8 (0 : Int)).map Sum.inl) := by
      rw [hw_38]; exact zput_tg h_35 h_43 (by simp)
    obtain ⟨w_45, hw_46⟩ : ∃ ww, ww = zput w_37 a_16 (104, a_8, (List.replicate 8 (-1 : Int)).map Sum.inl) := ⟨_, rfl⟩
    have q_47 : w_45.2.1 = w_37.2.1 ∧ w_45.2.2 = w_37.2.2 := by rw [hw_46]; exact ⟨rfl, rfl⟩
    have h_48 : w_45.1 a_16 = some (104, a_8, (List.replicate 8 (-1 : Int)).map Sum.inl) := by rw [hw_46]; exact zput_at
    have h_49 : w_45.1 a_8 = some (2, 0, [zI (Fs.length : Int), zR a_16, zR md0, zN, zI 0, zI 0, zN, zI 0, zN, zI 0]) := by
      rw [hw_46]; exact zput_tg h_44 h_41 (by simp)
    obtain ⟨w_50, hw_51⟩ : ∃ ww, ww = zput w_45 a_8 (2, 0, [zI (Fs.length : Int), zR a_16, zR md0, zN, zI pl, zI (1), zN, zI 0, zN, zI 0]) := ⟨_, rfl⟩
    have q_52 : w_50.2.1 = w_45.2.1 ∧ w_50.2.2 = w_45.2.2 := by rw [hw_51]; exact ⟨rfl, rfl⟩
    have h_53 : w_50.1 a_8 = some (2, 0, [zI (Fs.length : Int), zR a_16, zR md0, zN, zI pl, zI (1), zN, zI 0, zN, zI 0]) := by rw [hw_51]; exact zput_at
    refine zx_iv (b := a_8) (As := [zR md0, zN, zI pl]) (st := []) (v := none) (w1 := w_50) dX4_newFrame_84 zc_X4_145 h_41 rfl rfl rfl (Nat.le_of_ble_eq_true rfl) rfl (by rw [hw_51]; rw [hw_46]; exact (c_X2_begin0 h_41 h_44 (List.length_replicate (n := 8) (a := (0 : Int))) md0 pl)) ?_
    refine zx_st (st1 := []) rfl ?_
    refine zx_aload_n (i := 3) dX4_newFrame_87 rfl rfl ?_
    refine zx_areturn dX4_newFrame_88 rfl (Or.inl ⟨_, rfl⟩) ?_
    have hfaL : zFa [mc, fa] w w_50 := (zFa_putN (zFa_putN (zFa_put (zFa_law (zFa_putN (zFa_new (zFa_new (zFa_put zFa_re (by simp) hw_2) ok_5 hw_7) ok_13 hw_15) (fun ob h => by have := ok0 _ _ h; omega) hw_22) (by simp) ok_29 hw_31) (by simp) hw_38) (fun ob h => by have := ok0 _ _ h; omega) hw_46) (fun ob h => by have := ok0 _ _ h; omega) hw_51)
    have h_54 : w_50.1 a_16 = some (104, a_8, (List.replicate 8 (-1 : Int)).map Sum.inl) := by
      rw [hw_51]; exact zput_tg h_49 h_48 (by simp)
    have hfry : fmW w_50 a_8 (Fs.length : Int) ((a_16, md0), (none, pl, 1), (none, 0, none, 0), List.replicate 8 (-1)) := ⟨h_53, h_54, by first | exact List.length_replicate | assumption | (unfold zVs; split <;> simp [hx]) | simp [hx]⟩
    have hFr2 : ∀ (i z : Nat), (Fs ++ [a_8])[i]? = some z → fmW w_50 z (i : Int) (fmUp fm a_8 ((a_16, md0), (none, pl, 1), (none, 0, none, 0), List.replicate 8 (-1)) z) := fun i z hi => by
      by_cases e : i < Fs.length
      · rw [List.getElem?_append_left e] at hi
        obtain ⟨h1, h2, h3⟩ := hFr i z hi
        have hz := ok0 _ _ h1
        rw [fmUp_ne (by omega)]
        exact ⟨hfaL _ _ h1 (zN2 (zne_tg hmc h1 (by simp)) (zne_tg hfa h1 (by simp))), hfaL _ _ h2 (zN2 (zne_tg hmc h2 (by simp)) (zne_tg hfa h2 (by simp))), h3⟩
      · have e2 : i = Fs.length := by
          have := (List.getElem?_eq_some_iff.mp hi).1
          simp at this
          omega
        subst e2
        have e3 : a_8 = z := by simpa using hi
        subst e3
        rw [fmUp_at]
        exact hfry
    have hmcF : mcF rp w w_50 := mcF_fa hfaL (zLc hmc (by simp [mcP]) (zLc hfa (by simp [mcP]) zLn))
    have hcap2 : ((Fs ++ [a_8]) = [] → lCap cap Fs = 0) ∧ (Fs ++ [a_8]).length ≤ lCap cap Fs ∧ lCap cap Fs ≤ 10 + 2 * (Fs ++ [a_8]).length ∧ ((Fs ++ [a_8]) ≠ [] → 10 ≤ lCap cap Fs) := by
      rw [List.length_append, List.length_singleton]
      unfold lCap
      refine ⟨fun h => by simp at h, ?_, ?_, fun _ => ?_⟩
      · split
        · rename_i h
          rw [h]
          simp
        · rename_i h
          have := hcap.2.1
          have h0 : Fs.length ≠ 0 := fun e => h (List.length_eq_zero_iff.mp e)
          split
          · omega
          · have := hcap.2.2.2 h
            omega
      · split
        · omega
        · split
          · omega
          · omega
      · split
        · omega
        · rename_i h
          have := hcap.2.2.2 h
          split
          · omega
          · omega
    have hlen2 : (Fs ++ [a_8]).length = Fs.length + 1 := by simp
    refine ⟨_, rfl, a_8, a_16, lCap cap Fs, Fs ++ [a_8], rfl, rfl, by simp, fun i z h => by rw [List.getElem?_append_left (List.getElem?_eq_some_iff.mp h).1]; exact h, by rw [hlen2]; omega, ?_, ?_⟩
    have h_55 : w_45.1 mc = some (4, 0, [zR t, zR fa, zR ca, zR ta, zR rp, zI ((Fs.length : Int) + 1), zP cu, zI pl, zP de, zI fl, zI ov, zI fu]) := by
      rw [hw_46]; exact zput_tg h_44 h_40 (by simp)
    have h_56 : w_50.1 mc = some (4, 0, [zR t, zR fa, zR ca, zR ta, zR rp, zI ((Fs.length : Int) + 1), zP cu, zI pl, zP de, zI fl, zI ov, zI fu]) := by
      rw [hw_51]; exact zput_tg h_49 h_55 (by simp)
    have h_57 : w_37.1 fa = some (166, mc, zLs (lCap cap Fs) (Fs ++ [a_8])) := by
      rw [hw_38]; exact zput_tg h_35 h_32 (by simp)
    have h_58 : w_45.1 fa = some (166, mc, zLs (lCap cap Fs) (Fs ++ [a_8])) := by
      rw [hw_46]; exact zput_tg h_44 h_57 (by simp)
    have h_59 : w_50.1 fa = some (166, mc, zLs (lCap cap Fs) (Fs ++ [a_8])) := by
      rw [hw_51]; exact zput_tg h_49 h_58 (by simp)
    have h_60 : w_1.1 ca = some (138, mc, tTb 3 cc CH) := by
      rw [hw_2]; exact zput_tg hmc hca (by simp)
    have h_61 : w_6.1 ca = some (138, mc, tTb 3 cc CH) := by
      rw [hw_7]; exact znew_to (ok_5 _ _ h_60) h_60
    have h_62 : w_14.1 ca = some (138, mc, tTb 3 cc CH) := by
      rw [hw_15]; exact znew_to (ok_13 _ _ h_61) h_61
    have h_63 : w_21.1 ca = some (138, mc, tTb 3 cc CH) := by
      rw [hw_22]; exact zput_tg h_20 h_62 (by simp)
    have h_64 : w_30.1 ca = some (138, mc, tTb 3 cc CH) := by
      rw [hw_31]; exact (lAw_to ok_29 (zne_tg h_28 h_63 (by simp)) h_63)
    have h_65 : w_37.1 ca = some (138, mc, tTb 3 cc CH) := by
      rw [hw_38]; exact zput_tg h_35 h_64 (by simp)
    have h_66 : w_45.1 ca = some (138, mc, tTb 3 cc CH) := by
      rw [hw_46]; exact zput_tg h_44 h_65 (by simp)
    have h_67 : w_50.1 ca = some (138, mc, tTb 3 cc CH) := by
      rw [hw_51]; exact zput_tg h_49 h_66 (by simp)
    have h_68 : w_1.1 ta = some (139, mc, tTb 2 ct TR) := by
      rw [hw_2]; exact zput_tg hmc hta (by simp)
    have h_69 : w_6.1 ta = some (139, mc, tTb 2 ct TR) := by
      rw [hw_7]; exact znew_to (ok_5 _ _ h_68) h_68
    have h_70 : w_14.1 ta = some (139, mc, tTb 2 ct TR) := by
      rw [hw_15]; exact znew_to (ok_13 _ _ h_69) h_69
    have h_71 : w_21.1 ta = some (139, mc, tTb 2 ct TR) := by
      rw [hw_22]; exact zput_tg h_20 h_70 (by simp)
    have h_72 : w_30.1 ta = some (139, mc, tTb 2 ct TR) := by
      rw [hw_31]; exact (lAw_to ok_29 (zne_tg h_28 h_71 (by simp)) h_71)
    have h_73 : w_37.1 ta = some (139, mc, tTb 2 ct TR) := by
      rw [hw_38]; exact zput_tg h_35 h_72 (by simp)
    have h_74 : w_45.1 ta = some (139, mc, tTb 2 ct TR) := by
      rw [hw_46]; exact zput_tg h_44 h_73 (by simp)
    have h_75 : w_50.1 ta = some (139, mc, tTb 2 ct TR) := by
      rw [hw_51]; exact zput_tg h_49 h_74 (by simp)
    have h_76 : w_1.1 t = some (10, 0, [zI ty, zR tc, zR tn, zR th, zR tz]) := by
      rw [hw_2]; exact zput_tg hmc ht0 (by simp)
    have h_77 : w_6.1 t = some (10, 0, [zI ty, zR tc, zR tn, zR th, zR tz]) := by
      rw [hw_7]; exact znew_to (ok_5 _ _ h_76) h_76
    have h_78 : w_14.1 t = some (10, 0, [zI ty, zR tc, zR tn, zR th, zR tz]) := by
      rw [hw_15]; exact znew_to (ok_13 _ _ h_77) h_77
    have h_79 : w_21.1 t = some (10, 0, [zI ty, zR tc, zR tn, zR th, zR tz]) := by
      rw [hw_22]; exact zput_tg h_20 h_78 (by simp)
    have h_80 : w_30.1 t = some (10, 0, [zI ty, zR tc, zR tn, zR th, zR tz]) := by
      rw [hw_31]; exact (lAw_to ok_29 (zne_tg h_28 h_79 (by simp)) h_79)
    have h_81 : w_37.1 t = some (10, 0, [zI ty, zR tc, zR tn, zR th, zR tz]) := by
      rw [hw_38]; exact zput_tg h_35 h_80 (by simp)
    have h_82 : w_45.1 t = some (10, 0, [zI ty, zR tc, zR tn, zR th, zR tz]) := by
      rw [hw_46]; exact zput_tg h_44 h_81 (by simp)
    have h_83 : w_50.1 t = some (10, 0, [zI ty, zR tc, zR tn, zR th, zR tz]) := by
      rw [hw_51]; exact zput_tg h_49 h_82 (by simp)
    have h_84 : w_1.1 tc = some (130, t, tTb 3 30 C) := by
      rw [hw_2]; exact zput_tg hmc htc (by simp)
    have h_85 : w_6.1 tc = some (130, t, tTb 3 30 C) := by
      rw [hw_7]; exact znew_to (ok_5 _ _ h_84) h_84
    have h_86 : w_14.1 tc = some (130, t, tTb 3 30 C) := by
      rw [hw_15]; exact znew_to (ok_13 _ _ h_85) h_85
    have h_87 : w_21.1 tc = some (130, t, tTb 3 30 C) := by
      rw [hw_22]; exact zput_tg h_20 h_86 (by simp)
    have h_88 : w_30.1 tc = some (130, t, tTb 3 30 C) := by
      rw [hw_31]; exact (lAw_to ok_29 (zne_tg h_28 h_87 (by simp)) h_87)
    have h_89 : w_37.1 tc = some (130, t, tTb 3 30 C) := by
      rw [hw_38]; exact zput_tg h_35 h_88 (by simp)
    have h_90 : w_45.1 tc = some (130, t, tTb 3 30 C) := by
      rw [hw_46]; exact zput_tg h_44 h_89 (by simp)
    have h_91 : w_50.1 tc = some (130, t, tTb 3 30 C) := by
      rw [hw_51]; exact zput_tg h_49 h_90 (by simp)
    have h_92 : w_1.1 tn = some (131, t, tTb 4 800 N) := by
      rw [hw_2]; exact zput_tg hmc htn (by simp)
    have h_93 : w_6.1 tn = some (131, t, tTb 4 800 N) := by
      rw [hw_7]; exact znew_to (ok_5 _ _ h_92) h_92
    have h_94 : w_14.1 tn = some (131, t, tTb 4 800 N) := by
      rw [hw_15]; exact znew_to (ok_13 _ _ h_93) h_93
    have h_95 : w_21.1 tn = some (131, t, tTb 4 800 N) := by
      rw [hw_22]; exact zput_tg h_20 h_94 (by simp)
    have h_96 : w_30.1 tn = some (131, t, tTb 4 800 N) := by
      rw [hw_31]; exact (lAw_to ok_29 (zne_tg h_28 h_95 (by simp)) h_95)
    have h_97 : w_37.1 tn = some (131, t, tTb 4 800 N) := by
      rw [hw_38]; exact zput_tg h_35 h_96 (by simp)
    have h_98 : w_45.1 tn = some (131, t, tTb 4 800 N) := by
      rw [hw_46]; exact zput_tg h_44 h_97 (by simp)
    have h_99 : w_50.1 tn = some (131, t, tTb 4 800 N) := by
      rw [hw_51]; exact zput_tg h_49 h_98 (by simp)
    have h_100 : w_1.1 th = some (132, t, tTb 1 64 H) := by
      rw [hw_2]; exact zput_tg hmc hth (by simp)
    have h_101 : w_6.1 th = some (132, t, tTb 1 64 H) := by
      rw [hw_7]; exact znew_to (ok_5 _ _ h_100) h_100
    have h_102 : w_14.1 th = some (132, t, tTb 1 64 H) := by
      rw [hw_15]; exact znew_to (ok_13 _ _ h_101) h_101
    have h_103 : w_21.1 th = some (132, t, tTb 1 64 H) := by
      rw [hw_22]; exact zput_tg h_20 h_102 (by simp)
    have h_104 : w_30.1 th = some (132, t, tTb 1 64 H) := by
      rw [hw_31]; exact (lAw_to ok_29 (zne_tg h_28 h_103 (by simp)) h_103)
    have h_105 : w_37.1 th = some (132, t, tTb 1 64 H) := by
      rw [hw_38]; exact zput_tg h_35 h_104 (by simp)
    have h_106 : w_45.1 th = some (132, t, tTb 1 64 H) := by
      rw [hw_46]; exact zput_tg h_44 h_105 (by simp)
    have h_107 : w_50.1 th = some (132, t, tTb 1 64 H) := by
      rw [hw_51]; exact zput_tg h_49 h_106 (by simp)
    have h_108 : w_1.1 tz = some (120, t, Sz.map zJ) := by
      rw [hw_2]; exact zput_tg hmc htz (by simp)
    have h_109 : w_6.1 tz = some (120, t, Sz.map zJ) := by
      rw [hw_7]; exact znew_to (ok_5 _ _ h_108) h_108
    have h_110 : w_14.1 tz = some (120, t, Sz.map zJ) := by
      rw [hw_15]; exact znew_to (ok_13 _ _ h_109) h_109
    have h_111 : w_21.1 tz = some (120, t, Sz.map zJ) := by
      rw [hw_22]; exact zput_tg h_20 h_110 (by simp)
    have h_112 : w_30.1 tz = some (120, t, Sz.map zJ) := by
      rw [hw_31]; exact (lAw_to ok_29 (zne_tg h_28 h_111 (by simp)) h_111)
    have h_113 : w_37.1 tz = some (120, t, Sz.map zJ) := by
      rw [hw_38]; exact zput_tg h_35 h_112 (by simp)
    have h_114 : w_45.1 tz = some (120, t, Sz.map zJ) := by
      rw [hw_46]; exact zput_tg h_44 h_113 (by simp)
    have h_115 : w_50.1 tz = some (120, t, Sz.map zJ) := by
      rw [hw_51]; exact zput_tg h_49 h_114 (by simp)
    have h_116 : w_1.1 rp = some (8, 0, [zP mo, zR ri, zR ra, zR rn, zI sc, zI nc, zI dp, zI en, zI bk, zI bc]) := by
      rw [hw_2]; exact zput_tg hmc hrp (by simp)
    have h_117 : w_6.1 rp = some (8, 0, [zP mo, zR ri, zR ra, zR rn, zI sc, zI nc, zI dp, zI en, zI bk, zI bc]) := by
      rw [hw_7]; exact znew_to (ok_5 _ _ h_116) h_116
    have h_118 : w_14.1 rp = some (8, 0, [zP mo, zR ri, zR ra, zR rn, zI sc, zI nc, zI dp, zI en, zI bk, zI bc]) := by
      rw [hw_15]; exact znew_to (ok_13 _ _ h_117) h_117
    have h_119 : w_21.1 rp = some (8, 0, [zP mo, zR ri, zR ra, zR rn, zI sc, zI nc, zI dp, zI en, zI bk, zI bc]) := by
      rw [hw_22]; exact zput_tg h_20 h_118 (by simp)
    have h_120 : w_30.1 rp = some (8, 0, [zP mo, zR ri, zR ra, zR rn, zI sc, zI nc, zI dp, zI en, zI bk, zI bc]) := by
      rw [hw_31]; exact (lAw_to ok_29 (zne_tg h_28 h_119 (by simp)) h_119)
    have h_121 : w_37.1 rp = some (8, 0, [zP mo, zR ri, zR ra, zR rn, zI sc, zI nc, zI dp, zI en, zI bk, zI bc]) := by
      rw [hw_38]; exact zput_tg h_35 h_120 (by simp)
    have h_122 : w_45.1 rp = some (8, 0, [zP mo, zR ri, zR ra, zR rn, zI sc, zI nc, zI dp, zI en, zI bk, zI bc]) := by
      rw [hw_46]; exact zput_tg h_44 h_121 (by simp)
    have h_123 : w_50.1 rp = some (8, 0, [zP mo, zR ri, zR ra, zR rn, zI sc, zI nc, zI dp, zI en, zI bk, zI bc]) := by
      rw [hw_51]; exact zput_tg h_49 h_122 (by simp)
    have h_124 : w_1.1 ri = some (135, rp, tTb 1 3 I) := by
      rw [hw_2]; exact zput_tg hmc hri (by simp)
    have h_125 : w_6.1 ri = some (135, rp, tTb 1 3 I) := by
      rw [hw_7]; exact znew_to (ok_5 _ _ h_124) h_124
    have h_126 : w_14.1 ri = some (135, rp, tTb 1 3 I) := by
      rw [hw_15]; exact znew_to (ok_13 _ _ h_125) h_125
    have h_127 : w_21.1 ri = some (135, rp, tTb 1 3 I) := by
      rw [hw_22]; exact zput_tg h_20 h_126 (by simp)
    have h_128 : w_30.1 ri = some (135, rp, tTb 1 3 I) := by
      rw [hw_31]; exact (lAw_to ok_29 (zne_tg h_28 h_127 (by simp)) h_127)
    have h_129 : w_37.1 ri = some (135, rp, tTb 1 3 I) := by
      rw [hw_38]; exact zput_tg h_35 h_128 (by simp)
    have h_130 : w_45.1 ri = some (135, rp, tTb 1 3 I) := by
      rw [hw_46]; exact zput_tg h_44 h_129 (by simp)
    have h_131 : w_50.1 ri = some (135, rp, tTb 1 3 I) := by
      rw [hw_51]; exact zput_tg h_49 h_130 (by simp)
    have h_132 : w_1.1 ra = some (136, rp, tTb 3 150 A) := by
      rw [hw_2]; exact zput_tg hmc hra (by simp)
    have h_133 : w_6.1 ra = some (136, rp, tTb 3 150 A) := by
      rw [hw_7]; exact znew_to (ok_5 _ _ h_132) h_132
    have h_134 : w_14.1 ra = some (136, rp, tTb 3 150 A) := by
      rw [hw_15]; exact znew_to (ok_13 _ _ h_133) h_133
    have h_135 : w_21.1 ra = some (136, rp, tTb 3 150 A) := by
      rw [hw_22]; exact zput_tg h_20 h_134 (by simp)
    have h_136 : w_30.1 ra = some (136, rp, tTb 3 150 A) := by
      rw [hw_31]; exact (lAw_to ok_29 (zne_tg h_28 h_135 (by simp)) h_135)
    have h_137 : w_37.1 ra = some (136, rp, tTb 3 150 A) := by
      rw [hw_38]; exact zput_tg h_35 h_136 (by simp)
    have h_138 : w_45.1 ra = some (136, rp, tTb 3 150 A) := by
      rw [hw_46]; exact zput_tg h_44 h_137 (by simp)
    have h_139 : w_50.1 ra = some (136, rp, tTb 3 150 A) := by
      rw [hw_51]; exact zput_tg h_49 h_138 (by simp)
    have h_140 : w_1.1 rn = some (137, rp, tTb 2 160 Nt) := by
      rw [hw_2]; exact zput_tg hmc hrn (by simp)
    have h_141 : w_6.1 rn = some (137, rp, tTb 2 160 Nt) := by
      rw [hw_7]; exact znew_to (ok_5 _ _ h_140) h_140
    have h_142 : w_14.1 rn = some (137, rp, tTb 2 160 Nt) := by
      rw [hw_15]; exact znew_to (ok_13 _ _ h_141) h_141
    have h_143 : w_21.1 rn = some (137, rp, tTb 2 160 Nt) := by
      rw [hw_22]; exact zput_tg h_20 h_142 (by simp)
    have h_144 : w_30.1 rn = some (137, rp, tTb 2 160 Nt) := by
      rw [hw_31]; exact (lAw_to ok_29 (zne_tg h_28 h_143 (by simp)) h_143)
    have h_145 : w_37.1 rn = some (137, rp, tTb 2 160 Nt) := by
      rw [hw_38]; exact zput_tg h_35 h_144 (by simp)
    have h_146 : w_45.1 rn = some (137, rp, tTb 2 160 Nt) := by
      rw [hw_46]; exact zput_tg h_44 h_145 (by simp)
    have h_147 : w_50.1 rn = some (137, rp, tTb 2 160 Nt) := by
      rw [hw_51]; exact zput_tg h_49 h_146 (by simp)
    · exact ⟨h_56, h_59, ⟨h_67, okC⟩, ⟨h_75, okT⟩, hFr2, ⟨h_83, ⟨h_91, okTC⟩, ⟨h_99, okN⟩, ⟨h_107, okH⟩, h_115, hSz⟩, ⟨h_123, ⟨h_131, okI⟩, ⟨h_139, okA⟩, ⟨h_147, okNt⟩⟩, hcap2, ⟨by omega, by omega, by omega, by omega⟩, by omega, by omega⟩
    · exact hmcF
theorem c_X4_newFrame1  {k : Nat} (hM : mcW w b1 b2 ((mc, fa, ca, ta), (t, tc, tn, th, tz), (rp, ri, ra, rn), (ty, C), (mo, I, bk, bc)) (((cap, Fs), fm), (cc, CH), (ct, TR), ((k : Int), cu, pl, de), (fl, ov, fu), (N, H, Sz), (A, Nt, sc, nc, dp, en))) (hG1 : b1 + 1500000 ≤ 60 * G.2.2.2.2.1) (hG2 : b2 + 3150000 ≤ G.2.2.2.2.2) (hF3 : Fs.length ≤ 320) (hkl0 : k < 310) {g j gva gmd : Nat} {gca gcl god : Option Nat} {gbt gdp gdn gcb : Int} {gxs : List Int} (hj : Fs[j]? = some g) (hjk : j < k) (eg : fm g = ((gva, gmd), (gca, gbt, gdp), (gcl, gdn, god, gcb), gxs)) (hgd : 0 ≤ gdp ∧ gdp < 100000) (hkl : k ≤ Fs.length) (md0 : Nat) : zM G zm_X4_newFrame (d + 6) [zR mc, zR md0, zR g] w (zVal fun v w' => ∃ y va cap' Fs', v = zR y ∧ y = y ∧ Fs'[k]? = some y ∧ (∀ (i z : Nat), Fs[i]? = some z → Fs'[i]? = some z) ∧ Fs'.length ≤ max Fs.length (k + 1) ∧ mcW w' b1 b2 ((mc, fa, ca, ta), (t, tc, tn, th, tz), (rp, ri, ra, rn), (ty, C), (mo, I, bk, bc)) (((cap', Fs'), fmUp fm y ((va, md0), ((some g), pl, gdp + 1), (none, 0, none, 0), List.replicate 8 (-1))), (cc, CH), (ct, TR), ((k : Int) + 1, cu, pl, de), (fl, ov, fu), (N, H, Sz), (A, Nt, sc, nc, dp, en)) ∧ mcF rp w w') := by
  refine zx_ent (by decide +kernel) rfl (Nat.le_of_ble_eq_true rfl) ?_
  refine zx_ok (fun ok0 => ?_)
  refine zx_L (L1 := [some (zR mc), some (zR md0), some (zR g), none]) rfl ?_
  obtain ⟨hmc, hfa, ⟨hca, okC⟩, ⟨hta, okT⟩, hFr, ⟨ht0, ⟨htc, okTC⟩, ⟨htn, okN⟩, ⟨hth, okH⟩, htz, hSz⟩, ⟨hrp, ⟨hri, okI⟩, ⟨hra, okA⟩, ⟨hrn, okNt⟩⟩, hcap, hcct, hrm1, hrm2⟩ := id hM
  have hgy0 := (hFr j g hj).1
  rw [eg] at hgy0
  by_cases hlt : k < Fs.length
  · obtain ⟨y, hk⟩ : ∃ y, Fs[k]? = some y := ⟨_, List.getElem?_eq_getElem hlt⟩
    have hget : Fs[((k : Int)).toNat]? = some y := by rw [Int.toNat_natCast]; exact hk
    obtain ⟨⟨⟨va, md⟩, ⟨fca, fbt, fdp⟩, ⟨fcl, fdn, fod, fcb⟩, xs⟩, efm⟩ : ∃ r, fm y = r := ⟨_, rfl⟩
    obtain ⟨hfy, hva, hx⟩ := hFr k y hk
    rw [efm] at hfy hva hx
    have hx : xs.length = 8 := hx
    have hgy : g ≠ y := fun e => by rw [e] at hj; have := fm_inj hFr hj hk; omega
    refine zx_aload_n (i := 0) dX4_newFrame_0 rfl rfl ?_
    refine zx_getfield dX4_newFrame_1 zf_X4_110 hmc rfl ?_
    refine zx_if_lt (tgt := 21) dX4_newFrame_4 (by decide) (fun h4 => absurd h4 (by omega)) (fun h4 => ?_)
    refine zx_aload_n (i := 0) dX4_newFrame_7 rfl rfl ?_
    refine zx_getfield dX4_newFrame_8 zf_X4_110 hmc rfl ?_
    refine zx_aload_n (i := 0) dX4_newFrame_11 rfl rfl ?_
    refine zx_getfield dX4_newFrame_12 zf_X4_22 hmc rfl ?_
    refine zx_iv (b := fa) (As := []) (st := [zI (k : Int)]) (v := (some (zI (Fs.length : Int)))) (w1 := w) dX4_newFrame_15 zc_X4_131 hfa (z_cls12 (by decide)) rfl rfl (Nat.le_of_ble_eq_true rfl) rfl (c_list_size hfa (by decide)) ?_
    refine zx_st (st1 := [zI (Fs.length : Int), zI (k : Int)]) rfl ?_
    refine zx_icmp_lt (tgt := 52) dX4_newFrame_18 (by decide) (fun h18 => ?_) (fun h18 => absurd (by omega) h18)
    refine zx_aload_n (i := 0) dX4_newFrame_52 rfl rfl ?_
    refine zx_getfield dX4_newFrame_53 zf_X4_22 hmc rfl ?_
    refine zx_pc (pc1 := 56) rfl ?_
    refine zx_aload_n (i := 0) dX4_newFrame_56 rfl rfl ?_
    refine zx_getfield dX4_newFrame_57 zf_X4_110 hmc rfl ?_
    refine zx_iv (b := fa) (As := [zI (k : Int)]) (st := []) (v := (some (zR y))) (w1 := w) dX4_newFrame_60 zc_X4_141 hfa (z_cls12 (by decide)) rfl rfl (Nat.le_of_ble_eq_true rfl) rfl (c_list_get hfa (by decide) (by omega) hget) ?_
    refine zx_st (st1 := [zR y]) rfl ?_
    refine zx_castR dX4_newFrame_63 hfy rfl zl_X4_61 ?_
    refine zx_astore_n (i := 3) dX4_newFrame_66 rfl (by decide) rfl ?_
    refine zx_L (L1 := [some (zR mc), some (zR md0), some (zR g), some (zR y)]) rfl ?_
    refine zx_aload_n (i := 0) dX4_newFrame_67 rfl rfl ?_
    refine zx_dup dX4_newFrame_68 (fun a h => by cases h) ?_
    refine zx_getfield dX4_newFrame_69 zf_X4_110 hmc rfl ?_
    refine zx_iconst (v := 1) dX4_newFrame_72 rfl (z32_lit (by decide) (by decide)) ?_
    refine zx_iadd (v := (k : Int) + 1) dX4_newFrame_73 (zw_id ⟨by omega, by omega⟩) ?_
    obtain ⟨w_1, hw_2⟩ : ∃ ww, ww = zput w mc (4, 0, [zR t, zR fa, zR ca, zR ta, zR rp, zI ((k : Int) + 1), zP cu, zI pl, zP de, zI fl, zI ov, zI fu]) := ⟨_, rfl⟩
    refine zx_put (w1 := w_1) dX4_newFrame_74 zf_X4_110 hmc (Nat.le_of_ble_eq_true rfl) (zFt_int _) (fun h => by cases h) hw_2.symm ?_
    have q_3 : w_1.2.1 = w.2.1 ∧ w_1.2.2 = w.2.2 := by rw [hw_2]; exact ⟨rfl, rfl⟩
    have h_4 : w_1.1 mc = some (4, 0, [zR t, zR fa, zR ca, zR ta, zR rp, zI ((k : Int) + 1), zP cu, zI pl, zP de, zI fl, zI ov, zI fu]) := by rw [hw_2]; exact zput_at
    refine zx_aload_n (i := 3) dX4_newFrame_77 rfl rfl ?_
    refine zx_pc (pc1 := 78) rfl ?_
    refine zx_aload_n (i := 1) dX4_newFrame_78 rfl rfl ?_
    refine zx_aload_n (i := 2) dX4_newFrame_79 rfl rfl ?_
    refine zx_aload_n (i := 0) dX4_newFrame_80 rfl rfl ?_
    refine zx_getfield dX4_newFrame_81 zf_X4_69 h_4 rfl ?_
    have h_5 : w_1.1 y = some (2, 0, [zI (k : Int), zR va, zR md, zP fca, zI fbt, zI fdp, zP fcl, zI fdn, zP fod, zI fcb]) := by
      rw [hw_2]; exact zput_tg hmc hfy (by simp)
    have h_6 : w_1.1 va = some (104, y, xs.map Sum.inl) := by
      rw [hw_2]; exact zput_tg hmc hva (by simp)
    have h_7 : w_1.1 g = some (2, 0, [zI (j : Int), zR gva, zR gmd, zP gca, zI gbt, zI gdp, zP gcl, zI gdn, zP god, zI gcb]) := by
      rw [hw_2]; exact zput_tg hmc hgy0 (by simp)
    obtain ⟨w_8, hw_9⟩ : ∃ ww, ww = zput w_1 va (104, y, (List.replicate 8 (-1 : Int)).map Sum.inl) := ⟨_, rfl⟩
    have q_10 : w_8.2.1 = w_1.2.1 ∧ w_8.2.2 = w_1.2.2 := by rw [hw_9]; exact ⟨rfl, rfl⟩
    have h_11 : w_8.1 va = some (104, y, (List.replicate 8 (-1 : Int)).map Sum.inl) := by rw [hw_9]; exact zput_at
    have h_12 : w_8.1 y = some (2, 0, [zI (k : Int), zR va, zR md, zP fca, zI fbt, zI fdp, zP fcl, zI fdn, zP fod, zI fcb]) := by
      rw [hw_9]; exact zput_tg h_6 h_5 (by simp)
    obtain ⟨w_13, hw_14⟩ : ∃ ww, ww = zput w_8 y (2, 0, [zI (k : Int), zR va, zR md0, zR g, zI pl, zI (gdp + 1), zN, zI 0, zN, zI 0]) := ⟨_, rfl⟩
    have q_15 : w_13.2.1 = w_8.2.1 ∧ w_13.2.2 = w_8.2.2 := by rw [hw_14]; exact ⟨rfl, rfl⟩
    have h_16 : w_13.1 y = some (2, 0, [zI (k : Int), zR va, zR md0, zR g, zI pl, zI (gdp + 1), zN, zI 0, zN, zI 0]) := by rw [hw_14]; exact zput_at
    refine zx_iv (b := y) (As := [zR md0, zR g, zI pl]) (st := []) (v := none) (w1 := w_13) dX4_newFrame_84 zc_X4_145 h_5 rfl rfl rfl (Nat.le_of_ble_eq_true rfl) rfl (by rw [hw_14]; rw [hw_9]; exact (c_X2_begin1 h_5 h_6 hx h_7 hgy hgd md0 pl)) ?_
    refine zx_st (st1 := []) rfl ?_
    refine zx_aload_n (i := 3) dX4_newFrame_87 rfl rfl ?_
    refine zx_areturn dX4_newFrame_88 rfl (Or.inl ⟨_, rfl⟩) ?_
    have hfaL : zFa [mc, va, y] w w_13 := (zFa_put (zFa_put (zFa_put zFa_re (by simp) hw_2) (by simp) hw_9) (by simp) hw_14)
    have h_17 : w_13.1 va = some (104, y, (List.replicate 8 (-1 : Int)).map Sum.inl) := by
      rw [hw_14]; exact zput_tg h_12 h_11 (by simp)
    have hfry : fmW w_13 y (k : Int) ((va, md0), ((some g), pl, gdp + 1), (none, 0, none, 0), List.replicate 8 (-1)) := ⟨h_16, h_17, by first | exact List.length_replicate | assumption | (unfold zVs; split <;> simp [hx]) | simp [hx]⟩
    have hFr2 := fm_keep1 hFr hk hfaL (zLc hmc (by simp) (zLc hva (by simp) (zLc hfy (by simp) zLn))) hfry
    have hmcF : mcF rp w w_13 := mcF_fa hfaL (zLc hmc (by simp [mcP]) (zLc hva (by simp [mcP]) (zLc hfy (by simp [mcP]) zLn)))
    refine ⟨_, rfl, y, va, cap, Fs, rfl, rfl, hk, fun _ _ h => h, by omega, ?_, ?_⟩
    have h_18 : w_8.1 mc = some (4, 0, [zR t, zR fa, zR ca, zR ta, zR rp, zI ((k : Int) + 1), zP cu, zI pl, zP de, zI fl, zI ov, zI fu]) := by
      rw [hw_9]; exact zput_tg h_6 h_4 (by simp)
    have h_19 : w_13.1 mc = some (4, 0, [zR t, zR fa, zR ca, zR ta, zR rp, zI ((k : Int) + 1), zP cu, zI pl, zP de, zI fl, zI ov, zI fu]) := by
      rw [hw_14]; exact zput_tg h_12 h_18 (by simp)
    have h_20 : w_1.1 fa = some (166, mc, zLs cap Fs) := by
      rw [hw_2]; exact zput_tg hmc hfa (by simp)
    have h_21 : w_8.1 fa = some (166, mc, zLs cap Fs) := by
      rw [hw_9]; exact zput_tg h_6 h_20 (by simp)
    have h_22 : w_13.1 fa = some (166, mc, zLs cap Fs) := by
      rw [hw_14]; exact zput_tg h_12 h_21 (by simp)
    have h_23 : w_1.1 ca = some (138, mc, tTb 3 cc CH) := by
      rw [hw_2]; exact zput_tg hmc hca (by simp)
    have h_24 : w_8.1 ca = some (138, mc, tTb 3 cc CH) := by
      rw [hw_9]; exact zput_tg h_6 h_23 (by simp)
    have h_25 : w_13.1 ca = some (138, mc, tTb 3 cc CH) := by
      rw [hw_14]; exact zput_tg h_12 h_24 (by simp)
    have h_26 : w_1.1 ta = some (139, mc, tTb 2 ct TR) := by
      rw [hw_2]; exact zput_tg hmc hta (by simp)
    have h_27 : w_8.1 ta = some (139, mc, tTb 2 ct TR) := by
      rw [hw_9]; exact zput_tg h_6 h_26 (by simp)
    have h_28 : w_13.1 ta = some (139, mc, tTb 2 ct TR) := by
      rw [hw_14]; exact zput_tg h_12 h_27 (by simp)
    have h_29 : w_1.1 t = some (10, 0, [zI ty, zR tc, zR tn, zR th, zR tz]) := by
      rw [hw_2]; exact zput_tg hmc ht0 (by simp)
    have h_30 : w_8.1 t = some (10, 0, [zI ty, zR tc, zR tn, zR th, zR tz]) := by
      rw [hw_9]; exact zput_tg h_6 h_29 (by simp)
    have h_31 : w_13.1 t = some (10, 0, [zI ty, zR tc, zR tn, zR th, zR tz]) := by
      rw [hw_14]; exact zput_tg h_12 h_30 (by simp)
    have h_32 : w_1.1 tc = some (130, t, tTb 3 30 C) := by
      rw [hw_2]; exact zput_tg hmc htc (by simp)
    have h_33 : w_8.1 tc = some (130, t, tTb 3 30 C) := by
      rw [hw_9]; exact zput_tg h_6 h_32 (by simp)
    have h_34 : w_13.1 tc = some (130, t, tTb 3 30 C) := by
      rw [hw_14]; exact zput_tg h_12 h_33 (by simp)
    have h_35 : w_1.1 tn = some (131, t, tTb 4 800 N) := by
      rw [hw_2]; exact zput_tg hmc htn (by simp)
    have h_36 : w_8.1 tn = some (131, t, tTb 4 800 N) := by
      rw [hw_9]; exact zput_tg h_6 h_35 (by simp)
    have h_37 : w_13.1 tn = some (131, t, tTb 4 800 N) := by
      rw [hw_14]; exact zput_tg h_12 h_36 (by simp)
    have h_38 : w_1.1 th = some (132, t, tTb 1 64 H) := by
      rw [hw_2]; exact zput_tg hmc hth (by simp)
    have h_39 : w_8.1 th = some (132, t, tTb 1 64 H) := by
      rw [hw_9]; exact zput_tg h_6 h_38 (by simp)
    have h_40 : w_13.1 th = some (132, t, tTb 1 64 H) := by
      rw [hw_14]; exact zput_tg h_12 h_39 (by simp)
    have h_41 : w_1.1 tz = some (120, t, Sz.map zJ) := by
      rw [hw_2]; exact zput_tg hmc htz (by simp)
    have h_42 : w_8.1 tz = some (120, t, Sz.map zJ) := by
      rw [hw_9]; exact zput_tg h_6 h_41 (by simp)
    have h_43 : w_13.1 tz = some (120, t, Sz.map zJ) := by
      rw [hw_14]; exact zput_tg h_12 h_42 (by simp)
    have h_44 : w_1.1 rp = some (8, 0, [zP mo, zR ri, zR ra, zR rn, zI sc, zI nc, zI dp, zI en, zI bk, zI bc]) := by
      rw [hw_2]; exact zput_tg hmc hrp (by simp)
    have h_45 : w_8.1 rp = some (8, 0, [zP mo, zR ri, zR ra, zR rn, zI sc, zI nc, zI dp, zI en, zI bk, zI bc]) := by
      rw [hw_9]; exact zput_tg h_6 h_44 (by simp)
    have h_46 : w_13.1 rp = some (8, 0, [zP mo, zR ri, zR ra, zR rn, zI sc, zI nc, zI dp, zI en, zI bk, zI bc]) := by
      rw [hw_14]; exact zput_tg h_12 h_45 (by simp)
    have h_47 : w_1.1 ri = some (135, rp, tTb 1 3 I) := by
      rw [hw_2]; exact zput_tg hmc hri (by simp)
    have h_48 : w_8.1 ri = some (135, rp, tTb 1 3 I) := by
      rw [hw_9]; exact zput_tg h_6 h_47 (by simp)
    have h_49 : w_13.1 ri = some (135, rp, tTb 1 3 I) := by
      rw [hw_14]; exact zput_tg h_12 h_48 (by simp)
    have h_50 : w_1.1 ra = some (136, rp, tTb 3 150 A) := by
      rw [hw_2]; exact zput_tg hmc hra (by simp)
    have h_51 : w_8.1 ra = some (136, rp, tTb 3 150 A) := by
      rw [hw_9]; exact zput_tg h_6 h_50 (by simp)
    have h_52 : w_13.1 ra = some (136, rp, tTb 3 150 A) := by
      rw [hw_14]; exact zput_tg h_12 h_51 (by simp)
    have h_53 : w_1.1 rn = some (137, rp, tTb 2 160 Nt) := by
      rw [hw_2]; exact zput_tg hmc hrn (by simp)
    have h_54 : w_8.1 rn = some (137, rp, tTb 2 160 Nt) := by
      rw [hw_9]; exact zput_tg h_6 h_53 (by simp)
    have h_55 : w_13.1 rn = some (137, rp, tTb 2 160 Nt) := by
      rw [hw_14]; exact zput_tg h_12 h_54 (by simp)
    · exact ⟨h_19, h_22, ⟨h_25, okC⟩, ⟨h_28, okT⟩, hFr2, ⟨h_31, ⟨h_34, okTC⟩, ⟨h_37, okN⟩, ⟨h_40, okH⟩, h_43, hSz⟩, ⟨h_46, ⟨h_49, okI⟩, ⟨h_52, okA⟩, ⟨h_55, okNt⟩⟩, hcap, ⟨by omega, by omega, by omega, by omega⟩, by omega, by omega⟩
    · exact hmcF
  · have ek : k = Fs.length := by omega
    subst ek
    have hol0 := ok0
    refine zx_aload_n (i := 0) dX4_newFrame_0 rfl rfl ?_
    refine zx_getfield dX4_newFrame_1 zf_X4_110 hmc rfl ?_
    refine zx_if_lt (tgt := 21) dX4_newFrame_4 (by decide) (fun h4 => absurd h4 (by omega)) (fun h4 => ?_)
    refine zx_aload_n (i := 0) dX4_newFrame_7 rfl rfl ?_
    refine zx_getfield dX4_newFrame_8 zf_X4_110 hmc rfl ?_
    refine zx_aload_n (i := 0) dX4_newFrame_11 rfl rfl ?_
    refine zx_getfield dX4_newFrame_12 zf_X4_22 hmc rfl ?_
    refine zx_iv (b := fa) (As := []) (st := [zI (Fs.length : Int)]) (v := (some (zI (Fs.length : Int)))) (w1 := w) dX4_newFrame_15 zc_X4_131 hfa (z_cls12 (by decide)) rfl rfl (Nat.le_of_ble_eq_true rfl) rfl (c_list_size hfa (by decide)) ?_
    refine zx_st (st1 := [zI (Fs.length : Int), zI (Fs.length : Int)]) rfl ?_
    refine zx_icmp_lt (tgt := 52) dX4_newFrame_18 (by decide) (fun h18 => absurd h18 (by omega)) (fun h18 => ?_)
    refine zx_aload_n (i := 0) dX4_newFrame_21 rfl rfl ?_
    refine zx_aload_n (i := 0) dX4_newFrame_22 rfl rfl ?_
    refine zx_pc (pc1 := 23) rfl ?_
    refine zx_getfield dX4_newFrame_23 zf_X4_22 hmc rfl ?_
    refine zx_iv (b := fa) (As := []) (st := [zR mc]) (v := (some (zI (Fs.length : Int)))) (w1 := w) dX4_newFrame_26 zc_X4_131 hfa (z_cls12 (by decide)) rfl rfl (Nat.le_of_ble_eq_true rfl) rfl (c_list_size hfa (by decide)) ?_
    refine zx_st (st1 := [zI (Fs.length : Int), zR mc]) rfl ?_
    obtain ⟨w_1, hw_2⟩ : ∃ ww, ww = zput w mc (4, 0, [zR t, zR fa, zR ca, zR ta, zR rp, zI (Fs.length : Int), zP cu, zI pl, zP de, zI fl, zI ov, zI fu]) := ⟨_, rfl⟩
    refine zx_put (w1 := w_1) dX4_newFrame_29 zf_X4_110 hmc (Nat.le_of_ble_eq_true rfl) (zFt_int _) (fun h => by cases h) hw_2.symm ?_
    have q_3 : w_1.2.1 = w.2.1 ∧ w_1.2.2 = w.2.2 := by rw [hw_2]; exact ⟨rfl, rfl⟩
    have h_4 : w_1.1 mc = some (4, 0, [zR t, zR fa, zR ca, zR ta, zR rp, zI (Fs.length : Int), zP cu, zI pl, zP de, zI fl, zI ov, zI fu]) := by rw [hw_2]; exact zput_at
    refine zx_aload_n (i := 0) dX4_newFrame_32 rfl rfl ?_
    refine zx_getfield dX4_newFrame_33 zf_X4_22 h_4 rfl ?_
    refine zx_ok (fun ok_5 => ?_)
    refine zx_new dX4_newFrame_36 zn_X4_61 (by omega) (by omega) ?_
    obtain ⟨w_6, hw_7⟩ : ∃ ww, ww = znew w_1 (2, 0, [zI 0, zN, zN, zN, zI 0, zI 0, zN, zI 0, zN, zI 0]) 10 := ⟨_, rfl⟩
    obtain ⟨a_8, ha_9⟩ : ∃ ww, ww = w_1.2.1 := ⟨_, rfl⟩
    rw [← hw_7, ← ha_9]
    have q_10 : w_6.2.1 = w_1.2.1 + 1 ∧ w_6.2.2 = w_1.2.2 + 10 := by rw [hw_7]; exact ⟨rfl, rfl⟩
    have h_11 : w_6.1 a_8 = some (2, 0, [zI 0, zN, zN, zN, zI 0, zI 0, zN, zI 0, zN, zI 0]) := by rw [hw_7, ha_9]; exact znew_at
    refine zx_dup dX4_newFrame_39 (fun a h => by cases h) ?_
    refine zx_aload_n (i := 0) dX4_newFrame_40 rfl rfl ?_
    have h_12 : w_6.1 mc = some (4, 0, [zR t, zR fa, zR ca, zR ta, zR rp, zI (Fs.length : Int), zP cu, zI pl, zP de, zI fl, zI ov, zI fu]) := by
      rw [hw_7]; exact znew_to (ok_5 _ _ h_4) h_4
    refine zx_getfield dX4_newFrame_41 zf_X4_110 h_12 rfl ?_
    refine zx_aload_n (i := 1) dX4_newFrame_44 rfl rfl ?_
    have hgne : g ≠ a_8 := by have := ok0 _ _ hgy0; omega
    refine zx_ok (fun ok_13 => ?_)
    obtain ⟨w_14, hw_15⟩ : ∃ ww, ww = znew w_6 (104, a_8, (List.replicate 8 (0 : Int)).map Sum.inl) 8 := ⟨_, rfl⟩
    obtain ⟨a_16, ha_17⟩ : ∃ ww, ww = w_6.2.1 := ⟨_, rfl⟩
    have q_18 : w_14.2.1 = w_6.2.1 + 1 ∧ w_14.2.2 = w_6.2.2 + 8 := by rw [hw_15]; exact ⟨rfl, rfl⟩
    have h_19 : w_14.1 a_16 = some (104, a_8, (List.replicate 8 (0 : Int)).map Sum.inl) := by rw [hw_15, ha_17]; exact znew_at
    have h_20 : w_14.1 a_8 = some (2, 0, [zI 0, zN, zN, zN, zI 0, zI 0, zN, zI 0, zN, zI 0]) := by
      rw [hw_15]; exact znew_to (ok_13 _ _ h_11) h_11
    obtain ⟨w_21, hw_22⟩ : ∃ ww, ww = zput w_14 a_8 (2, 0, [zI (Fs.length : Int), zR a_16, zR md0, zN, zI 0, zI 0, zN, zI 0, zN, zI 0]) := ⟨_, rfl⟩
    have q_23 : w_21.2.1 = w_14.2.1 ∧ w_21.2.2 = w_14.2.2 := by rw [hw_22]; exact ⟨rfl, rfl⟩
    have h_24 : w_21.1 a_8 = some (2, 0, [zI (Fs.length : Int), zR a_16, zR md0, zN, zI 0, zI 0, zN, zI 0, zN, zI 0]) := by rw [hw_22]; exact zput_at
    refine zx_ic (b := a_8) (As := [zI (Fs.length : Int), zR md0]) (st := [zR a_8, zR fa]) (w1 := w_21) dX4_newFrame_45 zc_X4_134 rfl (Nat.le_of_ble_eq_true rfl) rfl (by rw [hw_22]; (try rw [ha_17]); rw [hw_15]; exact (c_X2_init h_11 (by omega) (by omega) (Fs.length : Int) (some md0))) ?_
    have hely : lEl w_21 a_8 := lEl2 h_24
    have hels : ∀ z ∈ Fs, lEl w_21 z := fun z hz => by
      obtain ⟨j, hj⟩ := List.mem_iff_getElem?.mp hz
      have h := (hFr j z hj).1
      have hlt := ok0 _ _ h
      exact lEl2 ((show zFa [mc] w w_21 from (zFa_putN (zFa_new (zFa_new (zFa_put zFa_re (by simp) hw_2) ok_5 hw_7) ok_13 hw_15) (fun ob h => by have := ok0 _ _ h; omega) hw_22)) z _ h (by simp only [List.mem_singleton]; intro e; rw [e, hmc] at h; cases h))
    have h_25 : w_1.1 fa = some (166, mc, zLs cap Fs) := by
      rw [hw_2]; exact zput_tg hmc hfa (by simp)
    have h_26 : w_6.1 fa = some (166, mc, zLs cap Fs) := by
      rw [hw_7]; exact znew_to (ok_5 _ _ h_25) h_25
    have h_27 : w_14.1 fa = some (166, mc, zLs cap Fs) := by
      rw [hw_15]; exact znew_to (ok_13 _ _ h_26) h_26
    have h_28 : w_21.1 fa = some (166, mc, zLs cap Fs) := by
      rw [hw_22]; exact zput_tg h_20 h_27 (by simp)
    refine zx_ok (fun ok_29 => ?_)
    obtain ⟨w_30, hw_31⟩ : ∃ ww, ww = lAw w_21 fa 166 mc cap Fs a_8 := ⟨_, rfl⟩
    have h_32 : w_30.1 fa = some (166, mc, zLs (lCap cap Fs) (Fs ++ [a_8])) := by rw [hw_31]; exact lAw_at
    refine zx_iv (b := fa) (As := [zR a_8]) (st := []) (v := (some (zI 1))) (w1 := w_30) dX4_newFrame_48 zc_X4_137 h_28 (z_cls12 (by decide)) rfl rfl (Nat.le_of_ble_eq_true rfl) rfl (by rw [hw_31]; exact (c_list_add h_28 (by decide) hcap.1 hcap.2.1 (by omega) hely hels (Or.inr ⟨by omega, by omega⟩))) ?_
    have hlz := lAw_sz (w := w_21) (a := fa) (t := 166) (ow := mc) (cap := cap) (y := a_8) (ys := Fs)
    rw [← hw_31] at hlz
    have hget : (Fs ++ [a_8])[((Fs.length : Int)).toNat]? = some a_8 := by rw [Int.toNat_natCast]; simp
    refine zx_st (st1 := [zI 1]) rfl ?_
    refine zx_pc (pc1 := 51) rfl ?_
    refine zx_pop dX4_newFrame_51 (fun a h => by cases h) ?_
    refine zx_aload_n (i := 0) dX4_newFrame_52 rfl rfl ?_
    have h_33 : w_14.1 mc = some (4, 0, [zR t, zR fa, zR ca, zR ta, zR rp, zI (Fs.length : Int), zP cu, zI pl, zP de, zI fl, zI ov, zI fu]) := by
      rw [hw_15]; exact znew_to (ok_13 _ _ h_12) h_12
    have h_34 : w_21.1 mc = some (4, 0, [zR t, zR fa, zR ca, zR ta, zR rp, zI (Fs.length : Int), zP cu, zI pl, zP de, zI fl, zI ov, zI fu]) := by
      rw [hw_22]; exact zput_tg h_20 h_33 (by simp)
    have h_35 : w_30.1 mc = some (4, 0, [zR t, zR fa, zR ca, zR ta, zR rp, zI (Fs.length : Int), zP cu, zI pl, zP de, zI fl, zI ov, zI fu]) := by
      rw [hw_31]; exact (lAw_to ok_29 (zne_tg h_28 h_34 (by simp)) h_34)
    refine zx_getfield dX4_newFrame_53 zf_X4_22 h_35 rfl ?_
    refine zx_aload_n (i := 0) dX4_newFrame_56 rfl rfl ?_
    refine zx_getfield dX4_newFrame_57 zf_X4_110 h_35 rfl ?_
    refine zx_iv (b := fa) (As := [zI (Fs.length : Int)]) (st := []) (v := (some (zR a_8))) (w1 := w_30) dX4_newFrame_60 zc_X4_141 h_32 (z_cls12 (by decide)) rfl rfl (Nat.le_of_ble_eq_true rfl) rfl (c_list_get h_32 (by decide) (by omega) hget) ?_
    refine zx_st (st1 := [zR a_8]) rfl ?_
    have h_36 : w_30.1 a_8 = some (2, 0, [zI (Fs.length : Int), zR a_16, zR md0, zN, zI 0, zI 0, zN, zI 0, zN, zI 0]) := by
      rw [hw_31]; exact (lAw_to ok_29 (zne_tg h_28 h_24 (by simp)) h_24)
    refine zx_castR dX4_newFrame_63 h_36 rfl zl_X4_61 ?_
    refine zx_astore_n (i := 3) dX4_newFrame_66 rfl (by decide) rfl ?_
    refine zx_L (L1 := [some (zR mc), some (zR md0), some (zR g), some (zR a_8)]) rfl ?_
    refine zx_aload_n (i := 0) dX4_newFrame_67 rfl rfl ?_
    refine zx_dup dX4_newFrame_68 (fun a h => by cases h) ?_
    refine zx_getfield dX4_newFrame_69 zf_X4_110 h_35 rfl ?_
    refine zx_iconst (v := 1) dX4_newFrame_72 rfl (z32_lit (by decide) (by decide)) ?_
    refine zx_pc (pc1 := 73) rfl ?_
    refine zx_iadd (v := (Fs.length : Int) + 1) dX4_newFrame_73 (zw_id ⟨by omega, by omega⟩) ?_
    obtain ⟨w_37, hw_38⟩ : ∃ ww, ww = zput w_30 mc (4, 0, [zR t, zR fa, zR ca, zR ta, zR rp, zI ((Fs.length : Int) + 1), zP cu, zI pl, zP de, zI fl, zI ov, zI fu]) := ⟨_, rfl⟩
    refine zx_put (w1 := w_37) dX4_newFrame_74 zf_X4_110 h_35 (Nat.le_of_ble_eq_true rfl) (zFt_int _) (fun h => by cases h) hw_38.symm ?_
    have q_39 : w_37.2.1 = w_30.2.1 ∧ w_37.2.2 = w_30.2.2 := by rw [hw_38]; exact ⟨rfl, rfl⟩
    have h_40 : w_37.1 mc = some (4, 0, [zR t, zR fa, zR ca, zR ta, zR rp, zI ((Fs.length : Int) + 1), zP cu, zI pl, zP de, zI fl, zI ov, zI fu]) := by rw [hw_38]; exact zput_at
    refine zx_aload_n (i := 3) dX4_newFrame_77 rfl rfl ?_
    refine zx_aload_n (i := 1) dX4_newFrame_78 rfl rfl ?_
    refine zx_aload_n (i := 2) dX4_newFrame_79 rfl rfl ?_
    refine zx_aload_n (i := 0) dX4_newFrame_80 rfl rfl ?_
    refine zx_getfield dX4_newFrame_81 zf_X4_69 h_40 rfl ?_
    have h_41 : w_37.1 a_8 = some (2, 0, [zI (Fs.length : Int), zR a_16, zR md0, zN, zI 0, zI 0, zN, zI 0, zN, zI 0]) := by
      rw [hw_38]; exact zput_tg h_35 h_36 (by simp)
    have h_42 : w_21.1 a_16 = some (104, a_8, (List.replicate 8 (0 : Int)).map Sum.inl) := by
      rw [hw_22]; exact zput_tg h_20 h_19 (by simp)
    have h_43 : w_30.1 a_16 = some (104, a_8, (List.replicate 8 (0 : Int)).map Sum.inl) := by
      rw [hw_31]; exact (lAw_to ok_29 (zne_tg h_28 h_42 (by simp)) h_42)
    have h_44 : w_37.1 a_16 = some (104, a_8, (List.replicate 8 (0 : Int)).map Sum.inl) := by
      rw [hw_38]; exact zput_tg h_35 h_43 (by simp)
    have h_45 : w_1.1 g = some (2, 0, [zI (j : Int), zR gva, zR gmd, zP gca, zI gbt, zI gdp, zP gcl, zI gdn, zP god, zI gcb]) := by
      rw [hw_2]; exact zput_tg hmc hgy0 (by simp)
    have h_46 : w_6.1 g = some (2, 0, [zI (j : Int), zR gva, zR gmd, zP gca, zI gbt, zI gdp, zP gcl, zI gdn, zP god, zI gcb]) := by
      rw [hw_7]; exact znew_to (ok_5 _ _ h_45) h_45
    have h_47 : w_14.1 g = some (2, 0, [zI (j : Int), zR gva, zR gmd, zP gca, zI gbt, zI gdp, zP gcl, zI gdn, zP god, zI gcb]) := by
      rw [hw_15]; exact znew_to (ok_13 _ _ h_46) h_46
    have h_48 : w_21.1 g = some (2, 0, [zI (j : Int), zR gva, zR gmd, zP gca, zI gbt, zI gdp, zP gcl, zI gdn, zP god, zI gcb]) := by
      rw [hw_22]; exact zput_to (by assumption) h_47
    have h_49 : w_30.1 g = some (2, 0, [zI (j : Int), zR gva, zR gmd, zP gca, zI gbt, zI gdp, zP gcl, zI gdn, zP god, zI gcb]) := by
      rw [hw_31]; exact (lAw_to ok_29 (zne_tg h_28 h_48 (by simp)) h_48)
    have h_50 : w_37.1 g = some (2, 0, [zI (j : Int), zR gva, zR gmd, zP gca, zI gbt, zI gdp, zP gcl, zI gdn, zP god, zI gcb]) := by
      rw [hw_38]; exact zput_tg h_35 h_49 (by simp)
    obtain ⟨w_51, hw_52⟩ : ∃ ww, ww = zput w_37 a_16 (104, a_8, (List.replicate 8 (-1 : Int)).map Sum.inl) := ⟨_, rfl⟩
    have q_53 : w_51.2.1 = w_37.2.1 ∧ w_51.2.2 = w_37.2.2 := by rw [hw_52]; exact ⟨rfl, rfl⟩
    have h_54 : w_51.1 a_16 = some (104, a_8, (List.replicate 8 (-1 : Int)).map Sum.inl) := by rw [hw_52]; exact zput_at
    have h_55 : w_51.1 a_8 = some (2, 0, [zI (Fs.length : Int), zR a_16, zR md0, zN, zI 0, zI 0, zN, zI 0, zN, zI 0]) := by
      rw [hw_52]; exact zput_tg h_44 h_41 (by simp)
    obtain ⟨w_56, hw_57⟩ : ∃ ww, ww = zput w_51 a_8 (2, 0, [zI (Fs.length : Int), zR a_16, zR md0, zR g, zI pl, zI (gdp + 1), zN, zI 0, zN, zI 0]) := ⟨_, rfl⟩
    have q_58 : w_56.2.1 = w_51.2.1 ∧ w_56.2.2 = w_51.2.2 := by rw [hw_57]; exact ⟨rfl, rfl⟩
    have h_59 : w_56.1 a_8 = some (2, 0, [zI (Fs.length : Int), zR a_16, zR md0, zR g, zI pl, zI (gdp + 1), zN, zI 0, zN, zI 0]) := by rw [hw_57]; exact zput_at
    refine zx_iv (b := a_8) (As := [zR md0, zR g, zI pl]) (st := []) (v := none) (w1 := w_56) dX4_newFrame_84 zc_X4_145 h_41 rfl rfl rfl (Nat.le_of_ble_eq_true rfl) rfl (by rw [hw_57]; rw [hw_52]; exact (c_X2_begin1 h_41 h_44 (List.length_replicate (n := 8) (a := (0 : Int))) h_50 (by omega) hgd md0 pl)) ?_
    refine zx_st (st1 := []) rfl ?_
    refine zx_aload_n (i := 3) dX4_newFrame_87 rfl rfl ?_
    refine zx_areturn dX4_newFrame_88 rfl (Or.inl ⟨_, rfl⟩) ?_
    have hfaL : zFa [mc, fa] w w_56 := (zFa_putN (zFa_putN (zFa_put (zFa_law (zFa_putN (zFa_new (zFa_new (zFa_put zFa_re (by simp) hw_2) ok_5 hw_7) ok_13 hw_15) (fun ob h => by have := ok0 _ _ h; omega) hw_22) (by simp) ok_29 hw_31) (by simp) hw_38) (fun ob h => by have := ok0 _ _ h; omega) hw_52) (fun ob h => by have := ok0 _ _ h; omega) hw_57)
    have h_60 : w_56.1 a_16 = some (104, a_8, (List.replicate 8 (-1 : Int)).map Sum.inl) := by
      rw [hw_57]; exact zput_tg h_55 h_54 (by simp)
    have hfry : fmW w_56 a_8 (Fs.length : Int) ((a_16, md0), ((some g), pl, gdp + 1), (none, 0, none, 0), List.replicate 8 (-1)) := ⟨h_59, h_60, by first | exact List.length_replicate | assumption | (unfold zVs; split <;> simp [hx]) | simp [hx]⟩
    have hFr2 : ∀ (i z : Nat), (Fs ++ [a_8])[i]? = some z → fmW w_56 z (i : Int) (fmUp fm a_8 ((a_16, md0), ((some g), pl, gdp + 1), (none, 0, none, 0), List.replicate 8 (-1)) z) := fun i z hi => by
      by_cases e : i < Fs.length
      · rw [List.getElem?_append_left e] at hi
        obtain ⟨h1, h2, h3⟩ := hFr i z hi
        have hz := ok0 _ _ h1
        rw [fmUp_ne (by omega)]
        exact ⟨hfaL _ _ h1 (zN2 (zne_tg hmc h1 (by simp)) (zne_tg hfa h1 (by simp))), hfaL _ _ h2 (zN2 (zne_tg hmc h2 (by simp)) (zne_tg hfa h2 (by simp))), h3⟩
      · have e2 : i = Fs.length := by
          have := (List.getElem?_eq_some_iff.mp hi).1
          simp at this
          omega
        subst e2
        have e3 : a_8 = z := by simpa using hi
        subst e3
        rw [fmUp_at]
        exact hfry
    have hmcF : mcF rp w w_56 := mcF_fa hfaL (zLc hmc (by simp [mcP]) (zLc hfa (by simp [mcP]) zLn))
    have hcap2 : ((Fs ++ [a_8]) = [] → lCap cap Fs = 0) ∧ (Fs ++ [a_8]).length ≤ lCap cap Fs ∧ lCap cap Fs ≤ 10 + 2 * (Fs ++ [a_8]).length ∧ ((Fs ++ [a_8]) ≠ [] → 10 ≤ lCap cap Fs) := by
      rw [List.length_append, List.length_singleton]
      unfold lCap
      refine ⟨fun h => by simp at h, ?_, ?_, fun _ => ?_⟩
      · split
        · rename_i h
          rw [h]
          simp
        · rename_i h
          have := hcap.2.1
          have h0 : Fs.length ≠ 0 := fun e => h (List.length_eq_zero_iff.mp e)
          split
          · omega
          · have := hcap.2.2.2 h
            omega
      · split
        · omega
        · split
          · omega
          · omega
      · split
        · omega
        · rename_i h
          have := hcap.2.2.2 h
          split
          · omega
          · omega
    have hlen2 : (Fs ++ [a_8]).length = Fs.length + 1 := by simp
    refine ⟨_, rfl, a_8, a_16, lCap cap Fs, Fs ++ [a_8], rfl, rfl, by simp, fun i z h => by rw [List.getElem?_append_left (List.getElem?_eq_some_iff.mp h).1]; exact h, by rw [hlen2]; omega, ?_, ?_⟩
    have h_61 : w_51.1 mc = some (4, 0, [zR t, zR fa, zR ca, zR ta, zR rp, zI ((Fs.length : Int) + 1), zP cu, zI pl, zP de, zI fl, zI ov, zI fu]) := by
      rw [hw_52]; exact zput_tg h_44 h_40 (by simp)
    have h_62 : w_56.1 mc = some (4, 0, [zR t, zR fa, zR ca, zR ta, zR rp, zI ((Fs.length : Int) + 1), zP cu, zI pl, zP de, zI fl, zI ov, zI fu]) := by
      rw [hw_57]; exact zput_tg h_55 h_61 (by simp)
    have h_63 : w_37.1 fa = some (166, mc, zLs (lCap cap Fs) (Fs ++ [a_8])) := by
      rw [hw_38]; exact zput_tg h_35 h_32 (by simp)
    have h_64 : w_51.1 fa = some (166, mc, zLs (lCap cap Fs) (Fs ++ [a_8])) := by
      rw [hw_52]; exact zput_tg h_44 h_63 (by simp)
    have h_65 : w_56.1 fa = some (166, mc, zLs (lCap cap Fs) (Fs ++ [a_8])) := by
      rw [hw_57]; exact zput_tg h_55 h_64 (by simp)
    have h_66 : w_1.1 ca = some (138, mc, tTb 3 cc CH) := by
      rw [hw_2]; exact zput_tg hmc hca (by simp)
    have h_67 : w_6.1 ca = some (138, mc, tTb 3 cc CH) := by
      rw [hw_7]; exact znew_to (ok_5 _ _ h_66) h_66
    have h_68 : w_14.1 ca = some (138, mc, tTb 3 cc CH) := by
      rw [hw_15]; exact znew_to (ok_13 _ _ h_67) h_67
    have h_69 : w_21.1 ca = some (138, mc, tTb 3 cc CH) := by
      rw [hw_22]; exact zput_tg h_20 h_68 (by simp)
    have h_70 : w_30.1 ca = some (138, mc, tTb 3 cc CH) := by
      rw [hw_31]; exact (lAw_to ok_29 (zne_tg h_28 h_69 (by simp)) h_69)
    have h_71 : w_37.1 ca = some (138, mc, tTb 3 cc CH) := by
      rw [hw_38]; exact zput_tg h_35 h_70 (by simp)
    have h_72 : w_51.1 ca = some (138, mc, tTb 3 cc CH) := by
      rw [hw_52]; exact zput_tg h_44 h_71 (by simp)
    have h_73 : w_56.1 ca = some (138, mc, tTb 3 cc CH) := by
      rw [hw_57]; exact zput_tg h_55 h_72 (by simp)
    have h_74 : w_1.1 ta = some (139, mc, tTb 2 ct TR) := by
      rw [hw_2]; exact zput_tg hmc hta (by simp)
    have h_75 : w_6.1 ta = some (139, mc, tTb 2 ct TR) := by
      rw [hw_7]; exact znew_to (ok_5 _ _ h_74) h_74
    have h_76 : w_14.1 ta = some (139, mc, tTb 2 ct TR) := by
      rw [hw_15]; exact znew_to (ok_13 _ _ h_75) h_75
    have h_77 : w_21.1 ta = some (139, mc, tTb 2 ct TR) := by
      rw [hw_22]; exact zput_tg h_20 h_76 (by simp)
    have h_78 : w_30.1 ta = some (139, mc, tTb 2 ct TR) := by
      rw [hw_31]; exact (lAw_to ok_29 (zne_tg h_28 h_77 (by simp)) h_77)
    have h_79 : w_37.1 ta = some (139, mc, tTb 2 ct TR) := by
      rw [hw_38]; exact zput_tg h_35 h_78 (by simp)
    have h_80 : w_51.1 ta = some (139, mc, tTb 2 ct TR) := by
      rw [hw_52]; exact zput_tg h_44 h_79 (by simp)
    have h_81 : w_56.1 ta = some (139, mc, tTb 2 ct TR) := by
      rw [hw_57]; exact zput_tg h_55 h_80 (by simp)
    have h_82 : w_1.1 t = some (10, 0, [zI ty, zR tc, zR tn, zR th, zR tz]) := by
      rw [hw_2]; exact zput_tg hmc ht0 (by simp)
    have h_83 : w_6.1 t = some (10, 0, [zI ty, zR tc, zR tn, zR th, zR tz]) := by
      rw [hw_7]; exact znew_to (ok_5 _ _ h_82) h_82
    have h_84 : w_14.1 t = some (10, 0, [zI ty, zR tc, zR tn, zR th, zR tz]) := by
      rw [hw_15]; exact znew_to (ok_13 _ _ h_83) h_83
    have h_85 : w_21.1 t = some (10, 0, [zI ty, zR tc, zR tn, zR th, zR tz]) := by
      rw [hw_22]; exact zput_tg h_20 h_84 (by simp)
    have h_86 : w_30.1 t = some (10, 0, [zI ty, zR tc, zR tn, zR th, zR tz]) := by
      rw [hw_31]; exact (lAw_to ok_29 (zne_tg h_28 h_85 (by simp)) h_85)
    have h_87 : w_37.1 t = some (10, 0, [zI ty, zR tc, zR tn, zR th, zR tz]) := by
      rw [hw_38]; exact zput_tg h_35 h_86 (by simp)
    have h_88 : w_51.1 t = some (10, 0, [zI ty, zR tc, zR tn, zR th, zR tz]) := by
      rw [hw_52]; exact zput_tg h_44 h_87 (by simp)
    have h_89 : w_56.1 t = some (10, 0, [zI ty, zR tc, zR tn, zR th, zR tz]) := by
      rw [hw_57]; exact zput_tg h_55 h_88 (by simp)
    have h_90 : w_1.1 tc = some (130, t, tTb 3 30 C) := by
      rw [hw_2]; exact zput_tg hmc htc (by simp)
    have h_91 : w_6.1 tc = some (130, t, tTb 3 30 C) := by
      rw [hw_7]; exact znew_to (ok_5 _ _ h_90) h_90
    have h_92 : w_14.1 tc = some (130, t, tTb 3 30 C) := by
      rw [hw_15]; exact znew_to (ok_13 _ _ h_91) h_91
    have h_93 : w_21.1 tc = some (130, t, tTb 3 30 C) := by
      rw [hw_22]; exact zput_tg h_20 h_92 (by simp)
    have h_94 : w_30.1 tc = some (130, t, tTb 3 30 C) := by
      rw [hw_31]; exact (lAw_to ok_29 (zne_tg h_28 h_93 (by simp)) h_93)
    have h_95 : w_37.1 tc = some (130, t, tTb 3 30 C) := by
      rw [hw_38]; exact zput_tg h_35 h_94 (by simp)
    have h_96 : w_51.1 tc = some (130, t, tTb 3 30 C) := by
      rw [hw_52]; exact zput_tg h_44 h_95 (by simp)
    have h_97 : w_56.1 tc = some (130, t, tTb 3 30 C) := by
      rw [hw_57]; exact zput_tg h_55 h_96 (by simp)
    have h_98 : w_1.1 tn = some (131, t, tTb 4 800 N) := by
      rw [hw_2]; exact zput_tg hmc htn (by simp)
    have h_99 : w_6.1 tn = some (131, t, tTb 4 800 N) := by
      rw [hw_7]; exact znew_to (ok_5 _ _ h_98) h_98
    have h_100 : w_14.1 tn = some (131, t, tTb 4 800 N) := by
      rw [hw_15]; exact znew_to (ok_13 _ _ h_99) h_99
    have h_101 : w_21.1 tn = some (131, t, tTb 4 800 N) := by
      rw [hw_22]; exact zput_tg h_20 h_100 (by simp)
    have h_102 : w_30.1 tn = some (131, t, tTb 4 800 N) := by
      rw [hw_31]; exact (lAw_to ok_29 (zne_tg h_28 h_101 (by simp)) h_101)
    have h_103 : w_37.1 tn = some (131, t, tTb 4 800 N) := by
      rw [hw_38]; exact zput_tg h_35 h_102 (by simp)
    have h_104 : w_51.1 tn = some (131, t, tTb 4 800 N) := by
      rw [hw_52]; exact zput_tg h_44 h_103 (by simp)
    have h_105 : w_56.1 tn = some (131, t, tTb 4 800 N) := by
      rw [hw_57]; exact zput_tg h_55 h_104 (by simp)
    have h_106 : w_1.1 th = some (132, t, tTb 1 64 H) := by
      rw [hw_2]; exact zput_tg hmc hth (by simp)
    have h_107 : w_6.1 th = some (132, t, tTb 1 64 H) := by
      rw [hw_7]; exact znew_to (ok_5 _ _ h_106) h_106
    have h_108 : w_14.1 th = some (132, t, tTb 1 64 H) := by
      rw [hw_15]; exact znew_to (ok_13 _ _ h_107) h_107
    have h_109 : w_21.1 th = some (132, t, tTb 1 64 H) := by
      rw [hw_22]; exact zput_tg h_20 h_108 (by simp)
    have h_110 : w_30.1 th = some (132, t, tTb 1 64 H) := by
      rw [hw_31]; exact (lAw_to ok_29 (zne_tg h_28 h_109 (by simp)) h_109)
    have h_111 : w_37.1 th = some (132, t, tTb 1 64 H) := by
      rw [hw_38]; exact zput_tg h_35 h_110 (by simp)
    have h_112 : w_51.1 th = some (132, t, tTb 1 64 H) := by
      rw [hw_52]; exact zput_tg h_44 h_111 (by simp)
    have h_113 : w_56.1 th = some (132, t, tTb 1 64 H) := by
      rw [hw_57]; exact zput_tg h_55 h_112 (by simp)
    have h_114 : w_1.1 tz = some (120, t, Sz.map zJ) := by
      rw [hw_2]; exact zput_tg hmc htz (by simp)
    have h_115 : w_6.1 tz = some (120, t, Sz.map zJ) := by
      rw [hw_7]; exact znew_to (ok_5 _ _ h_114) h_114
    have h_116 : w_14.1 tz = some (120, t, Sz.map zJ) := by
      rw [hw_15]; exact znew_to (ok_13 _ _ h_115) h_115
    have h_117 : w_21.1 tz = some (120, t, Sz.map zJ) := by
      rw [hw_22]; exact zput_tg h_20 h_116 (by simp)
    have h_118 : w_30.1 tz = some (120, t, Sz.map zJ) := by
      rw [hw_31]; exact (lAw_to ok_29 (zne_tg h_28 h_117 (by simp)) h_117)
    have h_119 : w_37.1 tz = some (120, t, Sz.map zJ) := by
      rw [hw_38]; exact zput_tg h_35 h_118 (by simp)
    have h_120 : w_51.1 tz = some (120, t, Sz.map zJ) := by
      rw [hw_52]; exact zput_tg h_44 h_119 (by simp)
    have h_121 : w_56.1 tz = some (120, t, Sz.map zJ) := by
      rw [hw_57]; exact zput_tg h_55 h_120 (by simp)
    have h_122 : w_1.1 rp = some (8, 0, [zP mo, zR ri, zR ra, zR rn, zI sc, zI nc, zI dp, zI en, zI bk, zI bc]) := by
      rw [hw_2]; exact zput_tg hmc hrp (by simp)
    have h_123 : w_6.1 rp = some (8, 0, [zP mo, zR ri, zR ra, zR rn, zI sc, zI nc, zI dp, zI en, zI bk, zI bc]) := by
      rw [hw_7]; exact znew_to (ok_5 _ _ h_122) h_122
    have h_124 : w_14.1 rp = some (8, 0, [zP mo, zR ri, zR ra, zR rn, zI sc, zI nc, zI dp, zI en, zI bk, zI bc]) := by
      rw [hw_15]; exact znew_to (ok_13 _ _ h_123) h_123
    have h_125 : w_21.1 rp = some (8, 0, [zP mo, zR ri, zR ra, zR rn, zI sc, zI nc, zI dp, zI en, zI bk, zI bc]) := by
      rw [hw_22]; exact zput_tg h_20 h_124 (by simp)
    have h_126 : w_30.1 rp = some (8, 0, [zP mo, zR ri, zR ra, zR rn, zI sc, zI nc, zI dp, zI en, zI bk, zI bc]) := by
      rw [hw_31]; exact (lAw_to ok_29 (zne_tg h_28 h_125 (by simp)) h_125)
    have h_127 : w_37.1 rp = some (8, 0, [zP mo, zR ri, zR ra, zR rn, zI sc, zI nc, zI dp, zI en, zI bk, zI bc]) := by
      rw [hw_38]; exact zput_tg h_35 h_126 (by simp)
    have h_128 : w_51.1 rp = some (8, 0, [zP mo, zR ri, zR ra, zR rn, zI sc, zI nc, zI dp, zI en, zI bk, zI bc]) := by
      rw [hw_52]; exact zput_tg h_44 h_127 (by simp)
    have h_129 : w_56.1 rp = some (8, 0, [zP mo, zR ri, zR ra, zR rn, zI sc, zI nc, zI dp, zI en, zI bk, zI bc]) := by
      rw [hw_57]; exact zput_tg h_55 h_128 (by simp)
    have h_130 : w_1.1 ri = some (135, rp, tTb 1 3 I) := by
      rw [hw_2]; exact zput_tg hmc hri (by simp)
    have h_131 : w_6.1 ri = some (135, rp, tTb 1 3 I) := by
      rw [hw_7]; exact znew_to (ok_5 _ _ h_130) h_130
    have h_132 : w_14.1 ri = some (135, rp, tTb 1 3 I) := by
      rw [hw_15]; exact znew_to (ok_13 _ _ h_131) h_131
    have h_133 : w_21.1 ri = some (135, rp, tTb 1 3 I) := by
      rw [hw_22]; exact zput_tg h_20 h_132 (by simp)
    have h_134 : w_30.1 ri = some (135, rp, tTb 1 3 I) := by
      rw [hw_31]; exact (lAw_to ok_29 (zne_tg h_28 h_133 (by simp)) h_133)
    have h_135 : w_37.1 ri = some (135, rp, tTb 1 3 I) := by
      rw [hw_38]; exact zput_tg h_35 h_134 (by simp)
    have h_136 : w_51.1 ri = some (135, rp, tTb 1 3 I) := by
      rw [hw_52]; exact zput_tg h_44 h_135 (by simp)
    have h_137 : w_56.1 ri = some (135, rp, tTb 1 3 I) := by
      rw [hw_57]; exact zput_tg h_55 h_136 (by simp)
    have h_138 : w_1.1 ra = some (136, rp, tTb 3 150 A) := by
      rw [hw_2]; exact zput_tg hmc hra (by simp)
    have h_139 : w_6.1 ra = some (136, rp, tTb 3 150 A) := by
      rw [hw_7]; exact znew_to (ok_5 _ _ h_138) h_138
    have h_140 : w_14.1 ra = some (136, rp, tTb 3 150 A) := by
      rw [hw_15]; exact znew_to (ok_13 _ _ h_139) h_139
    have h_141 : w_21.1 ra = some (136, rp, tTb 3 150 A) := by
      rw [hw_22]; exact zput_tg h_20 h_140 (by simp)
    have h_142 : w_30.1 ra = some (136, rp, tTb 3 150 A) := by
      rw [hw_31]; exact (lAw_to ok_29 (zne_tg h_28 h_141 (by simp)) h_141)
    have h_143 : w_37.1 ra = some (136, rp, tTb 3 150 A) := by
      rw [hw_38]; exact zput_tg h_35 h_142 (by simp)
    have h_144 : w_51.1 ra = some (136, rp, tTb 3 150 A) := by
      rw [hw_52]; exact zput_tg h_44 h_143 (by simp)
    have h_145 : w_56.1 ra = some (136, rp, tTb 3 150 A) := by
      rw [hw_57]; exact zput_tg h_55 h_144 (by simp)
    have h_146 : w_1.1 rn = some (137, rp, tTb 2 160 Nt) := by
      rw [hw_2]; exact zput_tg hmc hrn (by simp)
    have h_147 : w_6.1 rn = some (137, rp, tTb 2 160 Nt) := by
      rw [hw_7]; exact znew_to (ok_5 _ _ h_146) h_146
    have h_148 : w_14.1 rn = some (137, rp, tTb 2 160 Nt) := by
      rw [hw_15]; exact znew_to (ok_13 _ _ h_147) h_147
    have h_149 : w_21.1 rn = some (137, rp, tTb 2 160 Nt) := by
      rw [hw_22]; exact zput_tg h_20 h_148 (by simp)
    have h_150 : w_30.1 rn = some (137, rp, tTb 2 160 Nt) := by
      rw [hw_31]; exact (lAw_to ok_29 (zne_tg h_28 h_149 (by simp)) h_149)
    have h_151 : w_37.1 rn = some (137, rp, tTb 2 160 Nt) := by
      rw [hw_38]; exact zput_tg h_35 h_150 (by simp)
    have h_152 : w_51.1 rn = some (137, rp, tTb 2 160 Nt) := by
      rw [hw_52]; exact zput_tg h_44 h_151 (by simp)
    have h_153 : w_56.1 rn = some (137, rp, tTb 2 160 Nt) := by
      rw [hw_57]; exact zput_tg h_55 h_152 (by simp)
    · exact ⟨h_62, h_65, ⟨h_73, okC⟩, ⟨h_81, okT⟩, hFr2, ⟨h_89, ⟨h_97, okTC⟩, ⟨h_105, okN⟩, ⟨h_113, okH⟩, h_121, hSz⟩, ⟨h_129, ⟨h_137, okI⟩, ⟨h_145, okA⟩, ⟨h_153, okNt⟩⟩, hcap2, ⟨by omega, by omega, by omega, by omega⟩, by omega, by omega⟩
    · exact hmcF
end MNEW
