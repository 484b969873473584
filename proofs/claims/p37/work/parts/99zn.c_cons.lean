/-! Own rows: the machine and breadth, made. Walked by program (wip/p37/m_cons.py). -/
section CCONS
variable {G : zG} {d : Nat} {w : zW}
theorem c_X4_init {m t rp : Nat} (h0 : w.1 m = some (4, 0, [zN, zN, zN, zN, zN, zI 0, zN, zI 0, zN, zI 0, zI 0, zI 0])) (r1 : w.2.1 + 5 ≤ G.2.2.2.2.1) (r2 : w.2.2 + 159 ≤ G.2.2.2.2.2) : zM G zm_X4_init (d + 3) [zR m, zR t, zR rp] w (zVoid fun w' => w'.1 m = some (4, 0, [zR t, zR w.2.1, zR (w.2.1 + 1), zR (w.2.1 + 3), zR rp, zI 0, zN, zI 0, zN, zI 0, zI 0, zI 0]) ∧ w'.1 w.2.1 = some (166, m, zLs 0 []) ∧ (w'.1 (w.2.1 + 1) = some (138, m, tTb 3 90 []) ∧ tOk 3 []) ∧ (w'.1 (w.2.1 + 3) = some (139, m, tTb 2 60 []) ∧ tOk 2 []) ∧ w'.2.1 = w.2.1 + 5 ∧ w'.2.2 = w.2.2 + 159 ∧ ∀ b ob, b ≠ m → w.1 b = some ob → w'.1 b = some ob) := by
  refine zx_ent (by decide +kernel) rfl (Nat.le_of_ble_eq_true rfl) ?_
  refine zx_L (L1 := [some (zR m), some (zR t), some (zR rp)]) rfl ?_
  refine zx_ok (fun ok0 => ?_)
  have ht0 : m < w.2.1 := ok0 _ _ h0
  refine zx_aload_n (i := 0) dX4_init_0 rfl rfl ?_
  refine zx_objInit dX4_init_1 zo_X4_3 zk_oi1 zk_oi2 (Nat.le_of_ble_eq_true rfl) ?_
  refine zx_aload_n (i := 0) dX4_init_4 rfl rfl ?_
  refine zx_aload_n (i := 1) dX4_init_5 rfl rfl ?_
  obtain ⟨w_1, hw_2⟩ : ∃ ww, ww = zput w m (4, 0, [zR t, zN, zN, zN, zN, zI 0, zN, zI 0, zN, zI 0, zI 0, zI 0]) := ⟨_, rfl⟩
  refine zx_put (w1 := w_1) dX4_init_6 zf_X4_9 h0 (Nat.le_of_ble_eq_true rfl) (zFt_obj _ _) (fun _ => ⟨rfl, fun q h => by cases h; rfl⟩) hw_2.symm ?_
  have q_3 : w_1.2.1 = w.2.1 ∧ w_1.2.2 = w.2.2 := by rw [hw_2]; exact ⟨rfl, rfl⟩
  have h_4 : w_1.1 m = some (4, 0, [zR t, zN, zN, zN, zN, zI 0, zN, zI 0, zN, zI 0, zI 0, zI 0]) := by rw [hw_2]; exact zput_at
  refine zx_aload_n (i := 0) dX4_init_9 rfl rfl ?_
  refine zx_aload_n (i := 2) dX4_init_10 rfl rfl ?_
  obtain ⟨w_5, hw_6⟩ : ∃ ww, ww = zput w_1 m (4, 0, [zR t, zN, zN, zN, zR rp, zI 0, zN, zI 0, zN, zI 0, zI 0, zI 0]) := ⟨_, rfl⟩
  refine zx_put (w1 := w_5) dX4_init_11 zf_X4_15 h_4 (Nat.le_of_ble_eq_true rfl) (zFt_obj _ _) (fun h => by cases h) hw_6.symm ?_
  have q_7 : w_5.2.1 = w_1.2.1 ∧ w_5.2.2 = w_1.2.2 := by rw [hw_6]; exact ⟨rfl, rfl⟩
  have h_8 : w_5.1 m = some (4, 0, [zR t, zN, zN, zN, zR rp, zI 0, zN, zI 0, zN, zI 0, zI 0, zI 0]) := by rw [hw_6]; exact zput_at
  refine zx_aload_n (i := 0) dX4_init_14 rfl rfl ?_
  refine zx_ok (fun ok_9 => ?_)
  refine zx_new dX4_init_15 zn_X4_19 (by omega) (by omega) ?_
  obtain ⟨w_10, hw_11⟩ : ∃ ww, ww = znew w_5 (12, 0, [zI 0, zN, zI 0]) 3 := ⟨_, rfl⟩
  obtain ⟨a_12, ha_13⟩ : ∃ ww, ww = w_5.2.1 := ⟨_, rfl⟩
  rw [← hw_11, ← ha_13]
  have q_14 : w_10.2.1 = w_5.2.1 + 1 ∧ w_10.2.2 = w_5.2.2 + 3 := by rw [hw_11]; exact ⟨rfl, rfl⟩
  have h_15 : w_10.1 a_12 = some (12, 0, [zI 0, zN, zI 0]) := by rw [hw_11, ha_13]; exact znew_at
  refine zx_dup dX4_init_18 (fun a h => by cases h) ?_
  refine zx_pc (pc1 := 19) rfl ?_
  obtain ⟨w_16, hw_17⟩ : ∃ ww, ww = zput w_10 a_12 (166, m, zLs 0 []) := ⟨_, rfl⟩
  have q_18 : w_16.2.1 = w_10.2.1 ∧ w_16.2.2 = w_10.2.2 := by rw [hw_17]; exact ⟨rfl, rfl⟩
  have h_19 : w_16.1 a_12 = some (166, m, zLs 0 []) := by rw [hw_17]; exact zput_at
  refine zx_ic (b := a_12) (As := []) (st := [zR a_12, zR m]) (w1 := w_16) dX4_init_19 zc_X4_21 rfl (Nat.le_of_ble_eq_true rfl) rfl (by rw [hw_17]; exact (c_list_init 166 m h_15 (by decide))) ?_
  have h_20 : w_10.1 m = some (4, 0, [zR t, zN, zN, zN, zR rp, zI 0, zN, zI 0, zN, zI 0, zI 0, zI 0]) := by
    rw [hw_11]; exact znew_to (ok_9 _ _ h_8) h_8
  have h_21 : w_16.1 m = some (4, 0, [zR t, zN, zN, zN, zR rp, zI 0, zN, zI 0, zN, zI 0, zI 0, zI 0]) := by
    rw [hw_17]; exact zput_tg h_15 h_20 (by simp)
  obtain ⟨w_22, hw_23⟩ : ∃ ww, ww = zput w_16 m (4, 0, [zR t, zR a_12, zN, zN, zR rp, zI 0, zN, zI 0, zN, zI 0, zI 0, zI 0]) := ⟨_, rfl⟩
  refine zx_put (w1 := w_22) dX4_init_22 zf_X4_22 h_21 (Nat.le_of_ble_eq_true rfl) (zFt_obj _ _) (fun _ => ⟨rfl, fun q h => by cases h; rfl⟩) hw_23.symm ?_
  have q_24 : w_22.2.1 = w_16.2.1 ∧ w_22.2.2 = w_16.2.2 := by rw [hw_23]; exact ⟨rfl, rfl⟩
  have h_25 : w_22.1 m = some (4, 0, [zR t, zR a_12, zN, zN, zR rp, zI 0, zN, zI 0, zN, zI 0, zI 0, zI 0]) := by rw [hw_23]; exact zput_at
  refine zx_aload_n (i := 0) dX4_init_25 rfl rfl ?_
  refine zx_ok (fun ok_26 => ?_)
  refine zx_new dX4_init_26 zn_X4_26 (by omega) (by omega) ?_
  obtain ⟨w_27, hw_28⟩ : ∃ ww, ww = znew w_22 (9, 0, [zI 0, zN, zI 0]) 3 := ⟨_, rfl⟩
  obtain ⟨a_29, ha_30⟩ : ∃ ww, ww = w_22.2.1 := ⟨_, rfl⟩
  rw [← hw_28, ← ha_30]
  have q_31 : w_27.2.1 = w_22.2.1 + 1 ∧ w_27.2.2 = w_22.2.2 + 3 := by rw [hw_28]; exact ⟨rfl, rfl⟩
  have h_32 : w_27.1 a_29 = some (9, 0, [zI 0, zN, zI 0]) := by rw [hw_28, ha_30]; exact znew_at
  refine zx_dup dX4_init_29 (fun a h => by cases h) ?_
  refine zx_iconst (v := 3) dX4_init_30 rfl (z32_lit (by decide) (by decide)) ?_
  refine zx_bipush (v := 30) dX4_init_31 (by decide +kernel) (z32_lit (by decide) (by decide)) ?_
  refine zx_ok (fun ok_33 => ?_)
  obtain ⟨w_34, hw_35⟩ : ∃ ww, ww = znew w_27 (199, a_29, []) 90 := ⟨_, rfl⟩
  obtain ⟨a_36, ha_37⟩ : ∃ ww, ww = w_27.2.1 := ⟨_, rfl⟩
  have q_38 : w_34.2.1 = w_27.2.1 + 1 ∧ w_34.2.2 = w_27.2.2 + 90 := by rw [hw_35]; exact ⟨rfl, rfl⟩
  have h_39 : w_34.1 a_36 = some (199, a_29, []) := by rw [hw_35, ha_37]; exact znew_at
  have h_40 : w_34.1 a_29 = some (9, 0, [zI 0, zN, zI 0]) := by
    rw [hw_35]; exact znew_to (ok_33 _ _ h_32) h_32
  obtain ⟨w_41, hw_42⟩ : ∃ ww, ww = zput w_34 a_29 (138, m, tTb 3 90 []) := ⟨_, rfl⟩
  have q_43 : w_41.2.1 = w_34.2.1 ∧ w_41.2.2 = w_34.2.2 := by rw [hw_42]; exact ⟨rfl, rfl⟩
  have h_44 : w_41.1 a_29 = some (138, m, tTb 3 90 []) := by rw [hw_42]; exact zput_at
  refine zx_ic (b := a_29) (As := [zI 3, zI 30]) (st := [zR a_29, zR m]) (w1 := w_41) dX4_init_33 zc_X4_28 rfl (Nat.le_of_ble_eq_true rfl) rfl (by rw [hw_42]; (try rw [ha_37]); rw [hw_35]; exact (c_X9_init (c := 3) (rm := 30) 138 m h_32 (by decide) (by decide) (by decide) (by decide) (by decide) (by omega) (by omega))) ?_
  have h_45 : w_27.1 m = some (4, 0, [zR t, zR a_12, zN, zN, zR rp, zI 0, zN, zI 0, zN, zI 0, zI 0, zI 0]) := by
    rw [hw_28]; exact znew_to (ok_26 _ _ h_25) h_25
  have h_46 : w_34.1 m = some (4, 0, [zR t, zR a_12, zN, zN, zR rp, zI 0, zN, zI 0, zN, zI 0, zI 0, zI 0]) := by
    rw [hw_35]; exact znew_to (ok_33 _ _ h_45) h_45
  have h_47 : w_41.1 m = some (4, 0, [zR t, zR a_12, zN, zN, zR rp, zI 0, zN, zI 0, zN, zI 0, zI 0, zI 0]) := by
    rw [hw_42]; exact zput_tg h_40 h_46 (by simp)
  obtain ⟨w_48, hw_49⟩ : ∃ ww, ww = zput w_41 m (4, 0, [zR t, zR a_12, zR a_29, zN, zR rp, zI 0, zN, zI 0, zN, zI 0, zI 0, zI 0]) := ⟨_, rfl⟩
  refine zx_put (w1 := w_48) dX4_init_36 zf_X4_31 h_47 (Nat.le_of_ble_eq_true rfl) (zFt_obj _ _) (fun _ => ⟨rfl, fun q h => by cases h; rfl⟩) hw_49.symm ?_
  have q_50 : w_48.2.1 = w_41.2.1 ∧ w_48.2.2 = w_41.2.2 := by rw [hw_49]; exact ⟨rfl, rfl⟩
  have h_51 : w_48.1 m = some (4, 0, [zR t, zR a_12, zR a_29, zN, zR rp, zI 0, zN, zI 0, zN, zI 0, zI 0, zI 0]) := by rw [hw_49]; exact zput_at
  refine zx_aload_n (i := 0) dX4_init_39 rfl rfl ?_
  refine zx_ok (fun ok_52 => ?_)
  refine zx_new dX4_init_40 zn_X4_26 (by omega) (by omega) ?_
  obtain ⟨w_53, hw_54⟩ : ∃ ww, ww = znew w_48 (9, 0, [zI 0, zN, zI 0]) 3 := ⟨_, rfl⟩
  obtain ⟨a_55, ha_56⟩ : ∃ ww, ww = w_48.2.1 := ⟨_, rfl⟩
  rw [← hw_54, ← ha_56]
  have q_57 : w_53.2.1 = w_48.2.1 + 1 ∧ w_53.2.2 = w_48.2.2 + 3 := by rw [hw_54]; exact ⟨rfl, rfl⟩
  have h_58 : w_53.1 a_55 = some (9, 0, [zI 0, zN, zI 0]) := by rw [hw_54, ha_56]; exact znew_at
  refine zx_dup dX4_init_43 (fun a h => by cases h) ?_
  refine zx_pc (pc1 := 44) rfl ?_
  refine zx_iconst (v := 2) dX4_init_44 rfl (z32_lit (by decide) (by decide)) ?_
  refine zx_bipush (v := 30) dX4_init_45 (by decide +kernel) (z32_lit (by decide) (by decide)) ?_
  refine zx_ok (fun ok_59 => ?_)
  obtain ⟨w_60, hw_61⟩ : ∃ ww, ww = znew w_53 (199, a_55, []) 60 := ⟨_, rfl⟩
  obtain ⟨a_62, ha_63⟩ : ∃ ww, ww = w_53.2.1 := ⟨_, rfl⟩
  have q_64 : w_60.2.1 = w_53.2.1 + 1 ∧ w_60.2.2 = w_53.2.2 + 60 := by rw [hw_61]; exact ⟨rfl, rfl⟩
  have h_65 : w_60.1 a_62 = some (199, a_55, []) := by rw [hw_61, ha_63]; exact znew_at
  have h_66 : w_60.1 a_55 = some (9, 0, [zI 0, zN, zI 0]) := by
    rw [hw_61]; exact znew_to (ok_59 _ _ h_58) h_58
  obtain ⟨w_67, hw_68⟩ : ∃ ww, ww = zput w_60 a_55 (139, m, tTb 2 60 []) := ⟨_, rfl⟩
  have q_69 : w_67.2.1 = w_60.2.1 ∧ w_67.2.2 = w_60.2.2 := by rw [hw_68]; exact ⟨rfl, rfl⟩
  have h_70 : w_67.1 a_55 = some (139, m, tTb 2 60 []) := by rw [hw_68]; exact zput_at
  refine zx_ic (b := a_55) (As := [zI 2, zI 30]) (st := [zR a_55, zR m]) (w1 := w_67) dX4_init_47 zc_X4_28 rfl (Nat.le_of_ble_eq_true rfl) rfl (by rw [hw_68]; (try rw [ha_63]); rw [hw_61]; exact (c_X9_init (c := 2) (rm := 30) 139 m h_58 (by decide) (by decide) (by decide) (by decide) (by decide) (by omega) (by omega))) ?_
  have h_71 : w_53.1 m = some (4, 0, [zR t, zR a_12, zR a_29, zN, zR rp, zI 0, zN, zI 0, zN, zI 0, zI 0, zI 0]) := by
    rw [hw_54]; exact znew_to (ok_52 _ _ h_51) h_51
  have h_72 : w_60.1 m = some (4, 0, [zR t, zR a_12, zR a_29, zN, zR rp, zI 0, zN, zI 0, zN, zI 0, zI 0, zI 0]) := by
    rw [hw_61]; exact znew_to (ok_59 _ _ h_71) h_71
  have h_73 : w_67.1 m = some (4, 0, [zR t, zR a_12, zR a_29, zN, zR rp, zI 0, zN, zI 0, zN, zI 0, zI 0, zI 0]) := by
    rw [hw_68]; exact zput_tg h_66 h_72 (by simp)
  obtain ⟨w_74, hw_75⟩ : ∃ ww, ww = zput w_67 m (4, 0, [zR t, zR a_12, zR a_29, zR a_55, zR rp, zI 0, zN, zI 0, zN, zI 0, zI 0, zI 0]) := ⟨_, rfl⟩
  refine zx_put (w1 := w_74) dX4_init_50 zf_X4_35 h_73 (Nat.le_of_ble_eq_true rfl) (zFt_obj _ _) (fun _ => ⟨rfl, fun q h => by cases h; rfl⟩) hw_75.symm ?_
  have q_76 : w_74.2.1 = w_67.2.1 ∧ w_74.2.2 = w_67.2.2 := by rw [hw_75]; exact ⟨rfl, rfl⟩
  have h_77 : w_74.1 m = some (4, 0, [zR t, zR a_12, zR a_29, zR a_55, zR rp, zI 0, zN, zI 0, zN, zI 0, zI 0, zI 0]) := by rw [hw_75]; exact zput_at
  refine zx_return dX4_init_53 rfl ?_
  have h_78 : w_22.1 a_12 = some (166, m, zLs 0 []) := by
    rw [hw_23]; exact zput_tg h_21 h_19 (by simp)
  have h_79 : w_27.1 a_12 = some (166, m, zLs 0 []) := by
    rw [hw_28]; exact znew_to (ok_26 _ _ h_78) h_78
  have h_80 : w_34.1 a_12 = some (166, m, zLs 0 []) := by
    rw [hw_35]; exact znew_to (ok_33 _ _ h_79) h_79
  have h_81 : w_41.1 a_12 = some (166, m, zLs 0 []) := by
    rw [hw_42]; exact zput_tg h_40 h_80 (by simp)
  have h_82 : w_48.1 a_12 = some (166, m, zLs 0 []) := by
    rw [hw_49]; exact zput_tg h_47 h_81 (by simp)
  have h_83 : w_53.1 a_12 = some (166, m, zLs 0 []) := by
    rw [hw_54]; exact znew_to (ok_52 _ _ h_82) h_82
  have h_84 : w_60.1 a_12 = some (166, m, zLs 0 []) := by
    rw [hw_61]; exact znew_to (ok_59 _ _ h_83) h_83
  have h_85 : w_67.1 a_12 = some (166, m, zLs 0 []) := by
    rw [hw_68]; exact zput_tg h_66 h_84 (by simp)
  have h_86 : w_74.1 a_12 = some (166, m, zLs 0 []) := by
    rw [hw_75]; exact zput_tg h_73 h_85 (by simp)
  have h_87 : w_48.1 a_29 = some (138, m, tTb 3 90 []) := by
    rw [hw_49]; exact zput_tg h_47 h_44 (by simp)
  have h_88 : w_53.1 a_29 = some (138, m, tTb 3 90 []) := by
    rw [hw_54]; exact znew_to (ok_52 _ _ h_87) h_87
  have h_89 : w_60.1 a_29 = some (138, m, tTb 3 90 []) := by
    rw [hw_61]; exact znew_to (ok_59 _ _ h_88) h_88
  have h_90 : w_67.1 a_29 = some (138, m, tTb 3 90 []) := by
    rw [hw_68]; exact zput_tg h_66 h_89 (by simp)
  have h_91 : w_74.1 a_29 = some (138, m, tTb 3 90 []) := by
    rw [hw_75]; exact zput_tg h_73 h_90 (by simp)
  have h_92 : w_74.1 a_55 = some (139, m, tTb 2 60 []) := by
    rw [hw_75]; exact zput_tg h_73 h_70 (by simp)
  have hfr : ∀ b ob, b ≠ m → w.1 b = some ob → w_74.1 b = some ob := by
    intro b ob hx_m hb
    have hlt := ok0 b ob hb
    have f_93 : w_1.1 b = some ob := by rw [hw_2]; exact zput_to hx_m hb
    have f_94 : w_5.1 b = some ob := by rw [hw_6]; exact zput_to hx_m f_93
    have f_95 : w_10.1 b = some ob := by rw [hw_11, znew_ne (by omega)]; exact f_94
    have f_96 : w_16.1 b = some ob := by rw [hw_17]; exact zput_to (by omega) f_95
    have f_97 : w_22.1 b = some ob := by rw [hw_23]; exact zput_to hx_m f_96
    have f_98 : w_27.1 b = some ob := by rw [hw_28, znew_ne (by omega)]; exact f_97
    have f_99 : w_34.1 b = some ob := by rw [hw_35, znew_ne (by omega)]; exact f_98
    have f_100 : w_41.1 b = some ob := by rw [hw_42]; exact zput_to (by omega) f_99
    have f_101 : w_48.1 b = some ob := by rw [hw_49]; exact zput_to hx_m f_100
    have f_102 : w_53.1 b = some ob := by rw [hw_54, znew_ne (by omega)]; exact f_101
    have f_103 : w_60.1 b = some ob := by rw [hw_61, znew_ne (by omega)]; exact f_102
    have f_104 : w_67.1 b = some ob := by rw [hw_68]; exact zput_to (by omega) f_103
    have f_105 : w_74.1 b = some ob := by rw [hw_75]; exact zput_to hx_m f_104
    exact f_105
  have e_a_12 : a_12 = w.2.1 := by omega
  have e_a_29 : a_29 = w.2.1 + 1 := by omega
  have e_a_55 : a_55 = w.2.1 + 3 := by omega
  subst e_a_12 e_a_29 e_a_55
  exact ⟨rfl, h_77, h_86, ⟨h_91, tOk_nil (by decide)⟩, ⟨h_92, tOk_nil (by decide)⟩, by omega, by omega, hfr⟩
theorem c_X0_init {br pg t : Nat} (h0 : w.1 br = some (0, 0, [zN, zN, zN, zI 0, zN, zN, zN, zN, zI 0, zN, zN, zN, zI 0, zI 0, zI 0])) (r1 : w.2.1 + 16 ≤ G.2.2.2.2.1) (r2 : w.2.2 + 1592 ≤ G.2.2.2.2.2) : zM G zm_X0_init (d + 3) [zR br, zR pg, zR t] w (zVoid fun w' => w'.1 br = some (0, 0, [zR pg, zR t, zR w.2.1, zI 0, zR (w.2.1 + 2), zR (w.2.1 + 4), zR (w.2.1 + 6), zR (w.2.1 + 8), zI 0, zR (w.2.1 + 10), zR (w.2.1 + 12), zR (w.2.1 + 14), zI 0, zI 0, zI 0]) ∧ (w'.1 w.2.1 = some (140, br, tTb 5 320 []) ∧ tOk 5 []) ∧ (w'.1 (w.2.1 + 2) = some (141, br, tTb 1 64 []) ∧ tOk 1 []) ∧ (w'.1 (w.2.1 + 4) = some (142, br, tTb 3 192 []) ∧ tOk 3 []) ∧ (w'.1 (w.2.1 + 6) = some (143, br, tTb 4 256 []) ∧ tOk 4 []) ∧ (w'.1 (w.2.1 + 8) = some (144, br, tTb 6 384 []) ∧ tOk 6 []) ∧ (w'.1 (w.2.1 + 10) = some (145, br, tTb 2 128 []) ∧ tOk 2 []) ∧ (w'.1 (w.2.1 + 12) = some (146, br, tTb 4 32 []) ∧ tOk 4 []) ∧ (w'.1 (w.2.1 + 14) = some (147, br, tTb 3 192 []) ∧ tOk 3 []) ∧ w'.2.1 = w.2.1 + 16 ∧ w'.2.2 = w.2.2 + 1592 ∧ ∀ b ob, b ≠ br → w.1 b = some ob → w'.1 b = some ob) := by
  refine zx_ent (by decide +kernel) rfl (Nat.le_of_ble_eq_true rfl) ?_
  refine zx_L (L1 := [some (zR br), some (zR pg), some (zR t)]) rfl ?_
  refine zx_ok (fun ok0 => ?_)
  have ht0 : br < w.2.1 := ok0 _ _ h0
  refine zx_aload_n (i := 0) dX0_init_0 rfl rfl ?_
  refine zx_objInit dX0_init_1 zo_X0_3 zk_oi1 zk_oi2 (Nat.le_of_ble_eq_true rfl) ?_
  refine zx_aload_n (i := 0) dX0_init_4 rfl rfl ?_
  refine zx_aload_n (i := 1) dX0_init_5 rfl rfl ?_
  obtain ⟨w_1, hw_2⟩ : ∃ ww, ww = zput w br (0, 0, [zR pg, zN, zN, zI 0, zN, zN, zN, zN, zI 0, zN, zN, zN, zI 0, zI 0, zI 0]) := ⟨_, rfl⟩
  refine zx_put (w1 := w_1) dX0_init_6 zf_X0_9 h0 (Nat.le_of_ble_eq_true rfl) (zFt_obj _ _) (fun _ => ⟨rfl, fun q h => by cases h; rfl⟩) hw_2.symm ?_
  have q_3 : w_1.2.1 = w.2.1 ∧ w_1.2.2 = w.2.2 := by rw [hw_2]; exact ⟨rfl, rfl⟩
  have h_4 : w_1.1 br = some (0, 0, [zR pg, zN, zN, zI 0, zN, zN, zN, zN, zI 0, zN, zN, zN, zI 0, zI 0, zI 0]) := by rw [hw_2]; exact zput_at
  refine zx_aload_n (i := 0) dX0_init_9 rfl rfl ?_
  refine zx_aload_n (i := 2) dX0_init_10 rfl rfl ?_
  obtain ⟨w_5, hw_6⟩ : ∃ ww, ww = zput w_1 br (0, 0, [zR pg, zR t, zN, zI 0, zN, zN, zN, zN, zI 0, zN, zN, zN, zI 0, zI 0, zI 0]) := ⟨_, rfl⟩
  refine zx_put (w1 := w_5) dX0_init_11 zf_X0_15 h_4 (Nat.le_of_ble_eq_true rfl) (zFt_obj _ _) (fun _ => ⟨rfl, fun q h => by cases h; rfl⟩) hw_6.symm ?_
  have q_7 : w_5.2.1 = w_1.2.1 ∧ w_5.2.2 = w_1.2.2 := by rw [hw_6]; exact ⟨rfl, rfl⟩
  have h_8 : w_5.1 br = some (0, 0, [zR pg, zR t, zN, zI 0, zN, zN, zN, zN, zI 0, zN, zN, zN, zI 0, zI 0, zI 0]) := by rw [hw_6]; exact zput_at
  refine zx_aload_n (i := 0) dX0_init_14 rfl rfl ?_
  refine zx_ok (fun ok_9 => ?_)
  refine zx_new dX0_init_15 zn_X0_19 (by omega) (by omega) ?_
  obtain ⟨w_10, hw_11⟩ : ∃ ww, ww = znew w_5 (9, 0, [zI 0, zN, zI 0]) 3 := ⟨_, rfl⟩
  obtain ⟨a_12, ha_13⟩ : ∃ ww, ww = w_5.2.1 := ⟨_, rfl⟩
  rw [← hw_11, ← ha_13]
  have q_14 : w_10.2.1 = w_5.2.1 + 1 ∧ w_10.2.2 = w_5.2.2 + 3 := by rw [hw_11]; exact ⟨rfl, rfl⟩
  have h_15 : w_10.1 a_12 = some (9, 0, [zI 0, zN, zI 0]) := by rw [hw_11, ha_13]; exact znew_at
  refine zx_dup dX0_init_18 (fun a h => by cases h) ?_
  refine zx_pc (pc1 := 19) rfl ?_
  refine zx_iconst (v := 5) dX0_init_19 rfl (z32_lit (by decide) (by decide)) ?_
  refine zx_bipush (v := 64) dX0_init_20 (by decide +kernel) (z32_lit (by decide) (by decide)) ?_
  refine zx_ok (fun ok_16 => ?_)
  obtain ⟨w_17, hw_18⟩ : ∃ ww, ww = znew w_10 (199, a_12, []) 320 := ⟨_, rfl⟩
  obtain ⟨a_19, ha_20⟩ : ∃ ww, ww = w_10.2.1 := ⟨_, rfl⟩
  have q_21 : w_17.2.1 = w_10.2.1 + 1 ∧ w_17.2.2 = w_10.2.2 + 320 := by rw [hw_18]; exact ⟨rfl, rfl⟩
  have h_22 : w_17.1 a_19 = some (199, a_12, []) := by rw [hw_18, ha_20]; exact znew_at
  have h_23 : w_17.1 a_12 = some (9, 0, [zI 0, zN, zI 0]) := by
    rw [hw_18]; exact znew_to (ok_16 _ _ h_15) h_15
  obtain ⟨w_24, hw_25⟩ : ∃ ww, ww = zput w_17 a_12 (140, br, tTb 5 320 []) := ⟨_, rfl⟩
  have q_26 : w_24.2.1 = w_17.2.1 ∧ w_24.2.2 = w_17.2.2 := by rw [hw_25]; exact ⟨rfl, rfl⟩
  have h_27 : w_24.1 a_12 = some (140, br, tTb 5 320 []) := by rw [hw_25]; exact zput_at
  refine zx_ic (b := a_12) (As := [zI 5, zI 64]) (st := [zR a_12, zR br]) (w1 := w_24) dX0_init_22 zc_X0_21 rfl (Nat.le_of_ble_eq_true rfl) rfl (by rw [hw_25]; (try rw [ha_20]); rw [hw_18]; exact (c_X9_init (c := 5) (rm := 64) 140 br h_15 (by decide) (by decide) (by decide) (by decide) (by decide) (by omega) (by omega))) ?_
  have h_28 : w_10.1 br = some (0, 0, [zR pg, zR t, zN, zI 0, zN, zN, zN, zN, zI 0, zN, zN, zN, zI 0, zI 0, zI 0]) := by
    rw [hw_11]; exact znew_to (ok_9 _ _ h_8) h_8
  have h_29 : w_17.1 br = some (0, 0, [zR pg, zR t, zN, zI 0, zN, zN, zN, zN, zI 0, zN, zN, zN, zI 0, zI 0, zI 0]) := by
    rw [hw_18]; exact znew_to (ok_16 _ _ h_28) h_28
  have h_30 : w_24.1 br = some (0, 0, [zR pg, zR t, zN, zI 0, zN, zN, zN, zN, zI 0, zN, zN, zN, zI 0, zI 0, zI 0]) := by
    rw [hw_25]; exact zput_tg h_23 h_29 (by simp)
  obtain ⟨w_31, hw_32⟩ : ∃ ww, ww = zput w_24 br (0, 0, [zR pg, zR t, zR a_12, zI 0, zN, zN, zN, zN, zI 0, zN, zN, zN, zI 0, zI 0, zI 0]) := ⟨_, rfl⟩
  refine zx_put (w1 := w_31) dX0_init_25 zf_X0_24 h_30 (Nat.le_of_ble_eq_true rfl) (zFt_obj _ _) (fun _ => ⟨rfl, fun q h => by cases h; rfl⟩) hw_32.symm ?_
  have q_33 : w_31.2.1 = w_24.2.1 ∧ w_31.2.2 = w_24.2.2 := by rw [hw_32]; exact ⟨rfl, rfl⟩
  have h_34 : w_31.1 br = some (0, 0, [zR pg, zR t, zR a_12, zI 0, zN, zN, zN, zN, zI 0, zN, zN, zN, zI 0, zI 0, zI 0]) := by rw [hw_32]; exact zput_at
  refine zx_aload_n (i := 0) dX0_init_28 rfl rfl ?_
  refine zx_ok (fun ok_35 => ?_)
  refine zx_new dX0_init_29 zn_X0_19 (by omega) (by omega) ?_
  obtain ⟨w_36, hw_37⟩ : ∃ ww, ww = znew w_31 (9, 0, [zI 0, zN, zI 0]) 3 := ⟨_, rfl⟩
  obtain ⟨a_38, ha_39⟩ : ∃ ww, ww = w_31.2.1 := ⟨_, rfl⟩
  rw [← hw_37, ← ha_39]
  have q_40 : w_36.2.1 = w_31.2.1 + 1 ∧ w_36.2.2 = w_31.2.2 + 3 := by rw [hw_37]; exact ⟨rfl, rfl⟩
  have h_41 : w_36.1 a_38 = some (9, 0, [zI 0, zN, zI 0]) := by rw [hw_37, ha_39]; exact znew_at
  refine zx_dup dX0_init_32 (fun a h => by cases h) ?_
  refine zx_iconst (v := 1) dX0_init_33 rfl (z32_lit (by decide) (by decide)) ?_
  refine zx_bipush (v := 64) dX0_init_34 (by decide +kernel) (z32_lit (by decide) (by decide)) ?_
  refine zx_ok (fun ok_42 => ?_)
  obtain ⟨w_43, hw_44⟩ : ∃ ww, ww = znew w_36 (199, a_38, []) 64 := ⟨_, rfl⟩
  obtain ⟨a_45, ha_46⟩ : ∃ ww, ww = w_36.2.1 := ⟨_, rfl⟩
  have q_47 : w_43.2.1 = w_36.2.1 + 1 ∧ w_43.2.2 = w_36.2.2 + 64 := by rw [hw_44]; exact ⟨rfl, rfl⟩
  have h_48 : w_43.1 a_45 = some (199, a_38, []) := by rw [hw_44, ha_46]; exact znew_at
  have h_49 : w_43.1 a_38 = some (9, 0, [zI 0, zN, zI 0]) := by
    rw [hw_44]; exact znew_to (ok_42 _ _ h_41) h_41
  obtain ⟨w_50, hw_51⟩ : ∃ ww, ww = zput w_43 a_38 (141, br, tTb 1 64 []) := ⟨_, rfl⟩
  have q_52 : w_50.2.1 = w_43.2.1 ∧ w_50.2.2 = w_43.2.2 := by rw [hw_51]; exact ⟨rfl, rfl⟩
  have h_53 : w_50.1 a_38 = some (141, br, tTb 1 64 []) := by rw [hw_51]; exact zput_at
  refine zx_ic (b := a_38) (As := [zI 1, zI 64]) (st := [zR a_38, zR br]) (w1 := w_50) dX0_init_36 zc_X0_21 rfl (Nat.le_of_ble_eq_true rfl) rfl (by rw [hw_51]; (try rw [ha_46]); rw [hw_44]; exact (c_X9_init (c := 1) (rm := 64) 141 br h_41 (by decide) (by decide) (by decide) (by decide) (by decide) (by omega) (by omega))) ?_
  have h_54 : w_36.1 br = some (0, 0, [zR pg, zR t, zR a_12, zI 0, zN, zN, zN, zN, zI 0, zN, zN, zN, zI 0, zI 0, zI 0]) := by
    rw [hw_37]; exact znew_to (ok_35 _ _ h_34) h_34
  have h_55 : w_43.1 br = some (0, 0, [zR pg, zR t, zR a_12, zI 0, zN, zN, zN, zN, zI 0, zN, zN, zN, zI 0, zI 0, zI 0]) := by
    rw [hw_44]; exact znew_to (ok_42 _ _ h_54) h_54
  have h_56 : w_50.1 br = some (0, 0, [zR pg, zR t, zR a_12, zI 0, zN, zN, zN, zN, zI 0, zN, zN, zN, zI 0, zI 0, zI 0]) := by
    rw [hw_51]; exact zput_tg h_49 h_55 (by simp)
  obtain ⟨w_57, hw_58⟩ : ∃ ww, ww = zput w_50 br (0, 0, [zR pg, zR t, zR a_12, zI 0, zR a_38, zN, zN, zN, zI 0, zN, zN, zN, zI 0, zI 0, zI 0]) := ⟨_, rfl⟩
  refine zx_put (w1 := w_57) dX0_init_39 zf_X0_28 h_56 (Nat.le_of_ble_eq_true rfl) (zFt_obj _ _) (fun _ => ⟨rfl, fun q h => by cases h; rfl⟩) hw_58.symm ?_
  have q_59 : w_57.2.1 = w_50.2.1 ∧ w_57.2.2 = w_50.2.2 := by rw [hw_58]; exact ⟨rfl, rfl⟩
  have h_60 : w_57.1 br = some (0, 0, [zR pg, zR t, zR a_12, zI 0, zR a_38, zN, zN, zN, zI 0, zN, zN, zN, zI 0, zI 0, zI 0]) := by rw [hw_58]; exact zput_at
  refine zx_aload_n (i := 0) dX0_init_42 rfl rfl ?_
  refine zx_pc (pc1 := 43) rfl ?_
  refine zx_ok (fun ok_61 => ?_)
  refine zx_new dX0_init_43 zn_X0_19 (by omega) (by omega) ?_
  obtain ⟨w_62, hw_63⟩ : ∃ ww, ww = znew w_57 (9, 0, [zI 0, zN, zI 0]) 3 := ⟨_, rfl⟩
  obtain ⟨a_64, ha_65⟩ : ∃ ww, ww = w_57.2.1 := ⟨_, rfl⟩
  rw [← hw_63, ← ha_65]
  have q_66 : w_62.2.1 = w_57.2.1 + 1 ∧ w_62.2.2 = w_57.2.2 + 3 := by rw [hw_63]; exact ⟨rfl, rfl⟩
  have h_67 : w_62.1 a_64 = some (9, 0, [zI 0, zN, zI 0]) := by rw [hw_63, ha_65]; exact znew_at
  refine zx_dup dX0_init_46 (fun a h => by cases h) ?_
  refine zx_iconst (v := 3) dX0_init_47 rfl (z32_lit (by decide) (by decide)) ?_
  refine zx_bipush (v := 64) dX0_init_48 (by decide +kernel) (z32_lit (by decide) (by decide)) ?_
  refine zx_ok (fun ok_68 => ?_)
  obtain ⟨w_69, hw_70⟩ : ∃ ww, ww = znew w_62 (199, a_64, []) 192 := ⟨_, rfl⟩
  obtain ⟨a_71, ha_72⟩ : ∃ ww, ww = w_62.2.1 := ⟨_, rfl⟩
  have q_73 : w_69.2.1 = w_62.2.1 + 1 ∧ w_69.2.2 = w_62.2.2 + 192 := by rw [hw_70]; exact ⟨rfl, rfl⟩
  have h_74 : w_69.1 a_71 = some (199, a_64, []) := by rw [hw_70, ha_72]; exact znew_at
  have h_75 : w_69.1 a_64 = some (9, 0, [zI 0, zN, zI 0]) := by
    rw [hw_70]; exact znew_to (ok_68 _ _ h_67) h_67
  obtain ⟨w_76, hw_77⟩ : ∃ ww, ww = zput w_69 a_64 (142, br, tTb 3 192 []) := ⟨_, rfl⟩
  have q_78 : w_76.2.1 = w_69.2.1 ∧ w_76.2.2 = w_69.2.2 := by rw [hw_77]; exact ⟨rfl, rfl⟩
  have h_79 : w_76.1 a_64 = some (142, br, tTb 3 192 []) := by rw [hw_77]; exact zput_at
  refine zx_ic (b := a_64) (As := [zI 3, zI 64]) (st := [zR a_64, zR br]) (w1 := w_76) dX0_init_50 zc_X0_21 rfl (Nat.le_of_ble_eq_true rfl) rfl (by rw [hw_77]; (try rw [ha_72]); rw [hw_70]; exact (c_X9_init (c := 3) (rm := 64) 142 br h_67 (by decide) (by decide) (by decide) (by decide) (by decide) (by omega) (by omega))) ?_
  have h_80 : w_62.1 br = some (0, 0, [zR pg, zR t, zR a_12, zI 0, zR a_38, zN, zN, zN, zI 0, zN, zN, zN, zI 0, zI 0, zI 0]) := by
    rw [hw_63]; exact znew_to (ok_61 _ _ h_60) h_60
  have h_81 : w_69.1 br = some (0, 0, [zR pg, zR t, zR a_12, zI 0, zR a_38, zN, zN, zN, zI 0, zN, zN, zN, zI 0, zI 0, zI 0]) := by
    rw [hw_70]; exact znew_to (ok_68 _ _ h_80) h_80
  have h_82 : w_76.1 br = some (0, 0, [zR pg, zR t, zR a_12, zI 0, zR a_38, zN, zN, zN, zI 0, zN, zN, zN, zI 0, zI 0, zI 0]) := by
    rw [hw_77]; exact zput_tg h_75 h_81 (by simp)
  obtain ⟨w_83, hw_84⟩ : ∃ ww, ww = zput w_76 br (0, 0, [zR pg, zR t, zR a_12, zI 0, zR a_38, zR a_64, zN, zN, zI 0, zN, zN, zN, zI 0, zI 0, zI 0]) := ⟨_, rfl⟩
  refine zx_put (w1 := w_83) dX0_init_53 zf_X0_31 h_82 (Nat.le_of_ble_eq_true rfl) (zFt_obj _ _) (fun _ => ⟨rfl, fun q h => by cases h; rfl⟩) hw_84.symm ?_
  have q_85 : w_83.2.1 = w_76.2.1 ∧ w_83.2.2 = w_76.2.2 := by rw [hw_84]; exact ⟨rfl, rfl⟩
  have h_86 : w_83.1 br = some (0, 0, [zR pg, zR t, zR a_12, zI 0, zR a_38, zR a_64, zN, zN, zI 0, zN, zN, zN, zI 0, zI 0, zI 0]) := by rw [hw_84]; exact zput_at
  refine zx_aload_n (i := 0) dX0_init_56 rfl rfl ?_
  refine zx_ok (fun ok_87 => ?_)
  refine zx_new dX0_init_57 zn_X0_19 (by omega) (by omega) ?_
  obtain ⟨w_88, hw_89⟩ : ∃ ww, ww = znew w_83 (9, 0, [zI 0, zN, zI 0]) 3 := ⟨_, rfl⟩
  obtain ⟨a_90, ha_91⟩ : ∃ ww, ww = w_83.2.1 := ⟨_, rfl⟩
  rw [← hw_89, ← ha_91]
  have q_92 : w_88.2.1 = w_83.2.1 + 1 ∧ w_88.2.2 = w_83.2.2 + 3 := by rw [hw_89]; exact ⟨rfl, rfl⟩
  have h_93 : w_88.1 a_90 = some (9, 0, [zI 0, zN, zI 0]) := by rw [hw_89, ha_91]; exact znew_at
  refine zx_dup dX0_init_60 (fun a h => by cases h) ?_
  refine zx_iconst (v := 4) dX0_init_61 rfl (z32_lit (by decide) (by decide)) ?_
  refine zx_bipush (v := 64) dX0_init_62 (by decide +kernel) (z32_lit (by decide) (by decide)) ?_
  refine zx_ok (fun ok_94 => ?_)
  obtain ⟨w_95, hw_96⟩ : ∃ ww, ww = znew w_88 (199, a_90, []) 256 := ⟨_, rfl⟩
  obtain ⟨a_97, ha_98⟩ : ∃ ww, ww = w_88.2.1 := ⟨_, rfl⟩
  have q_99 : w_95.2.1 = w_88.2.1 + 1 ∧ w_95.2.2 = w_88.2.2 + 256 := by rw [hw_96]; exact ⟨rfl, rfl⟩
  have h_100 : w_95.1 a_97 = some (199, a_90, []) := by rw [hw_96, ha_98]; exact znew_at
  have h_101 : w_95.1 a_90 = some (9, 0, [zI 0, zN, zI 0]) := by
    rw [hw_96]; exact znew_to (ok_94 _ _ h_93) h_93
  obtain ⟨w_102, hw_103⟩ : ∃ ww, ww = zput w_95 a_90 (143, br, tTb 4 256 []) := ⟨_, rfl⟩
  have q_104 : w_102.2.1 = w_95.2.1 ∧ w_102.2.2 = w_95.2.2 := by rw [hw_103]; exact ⟨rfl, rfl⟩
  have h_105 : w_102.1 a_90 = some (143, br, tTb 4 256 []) := by rw [hw_103]; exact zput_at
  refine zx_ic (b := a_90) (As := [zI 4, zI 64]) (st := [zR a_90, zR br]) (w1 := w_102) dX0_init_64 zc_X0_21 rfl (Nat.le_of_ble_eq_true rfl) rfl (by rw [hw_103]; (try rw [ha_98]); rw [hw_96]; exact (c_X9_init (c := 4) (rm := 64) 143 br h_93 (by decide) (by decide) (by decide) (by decide) (by decide) (by omega) (by omega))) ?_
  refine zx_pc (pc1 := 67) rfl ?_
  have h_106 : w_88.1 br = some (0, 0, [zR pg, zR t, zR a_12, zI 0, zR a_38, zR a_64, zN, zN, zI 0, zN, zN, zN, zI 0, zI 0, zI 0]) := by
    rw [hw_89]; exact znew_to (ok_87 _ _ h_86) h_86
  have h_107 : w_95.1 br = some (0, 0, [zR pg, zR t, zR a_12, zI 0, zR a_38, zR a_64, zN, zN, zI 0, zN, zN, zN, zI 0, zI 0, zI 0]) := by
    rw [hw_96]; exact znew_to (ok_94 _ _ h_106) h_106
  have h_108 : w_102.1 br = some (0, 0, [zR pg, zR t, zR a_12, zI 0, zR a_38, zR a_64, zN, zN, zI 0, zN, zN, zN, zI 0, zI 0, zI 0]) := by
    rw [hw_103]; exact zput_tg h_101 h_107 (by simp)
  obtain ⟨w_109, hw_110⟩ : ∃ ww, ww = zput w_102 br (0, 0, [zR pg, zR t, zR a_12, zI 0, zR a_38, zR a_64, zR a_90, zN, zI 0, zN, zN, zN, zI 0, zI 0, zI 0]) := ⟨_, rfl⟩
  refine zx_put (w1 := w_109) dX0_init_67 zf_X0_34 h_108 (Nat.le_of_ble_eq_true rfl) (zFt_obj _ _) (fun _ => ⟨rfl, fun q h => by cases h; rfl⟩) hw_110.symm ?_
  have q_111 : w_109.2.1 = w_102.2.1 ∧ w_109.2.2 = w_102.2.2 := by rw [hw_110]; exact ⟨rfl, rfl⟩
  have h_112 : w_109.1 br = some (0, 0, [zR pg, zR t, zR a_12, zI 0, zR a_38, zR a_64, zR a_90, zN, zI 0, zN, zN, zN, zI 0, zI 0, zI 0]) := by rw [hw_110]; exact zput_at
  refine zx_aload_n (i := 0) dX0_init_70 rfl rfl ?_
  refine zx_ok (fun ok_113 => ?_)
  refine zx_new dX0_init_71 zn_X0_19 (by omega) (by omega) ?_
  obtain ⟨w_114, hw_115⟩ : ∃ ww, ww = znew w_109 (9, 0, [zI 0, zN, zI 0]) 3 := ⟨_, rfl⟩
  obtain ⟨a_116, ha_117⟩ : ∃ ww, ww = w_109.2.1 := ⟨_, rfl⟩
  rw [← hw_115, ← ha_117]
  have q_118 : w_114.2.1 = w_109.2.1 + 1 ∧ w_114.2.2 = w_109.2.2 + 3 := by rw [hw_115]; exact ⟨rfl, rfl⟩
  have h_119 : w_114.1 a_116 = some (9, 0, [zI 0, zN, zI 0]) := by rw [hw_115, ha_117]; exact znew_at
  refine zx_dup dX0_init_74 (fun a h => by cases h) ?_
  refine zx_bipush (v := 6) dX0_init_75 (by decide +kernel) (z32_lit (by decide) (by decide)) ?_
  refine zx_bipush (v := 64) dX0_init_77 (by decide +kernel) (z32_lit (by decide) (by decide)) ?_
  refine zx_ok (fun ok_120 => ?_)
  obtain ⟨w_121, hw_122⟩ : ∃ ww, ww = znew w_114 (199, a_116, []) 384 := ⟨_, rfl⟩
  obtain ⟨a_123, ha_124⟩ : ∃ ww, ww = w_114.2.1 := ⟨_, rfl⟩
  have q_125 : w_121.2.1 = w_114.2.1 + 1 ∧ w_121.2.2 = w_114.2.2 + 384 := by rw [hw_122]; exact ⟨rfl, rfl⟩
  have h_126 : w_121.1 a_123 = some (199, a_116, []) := by rw [hw_122, ha_124]; exact znew_at
  have h_127 : w_121.1 a_116 = some (9, 0, [zI 0, zN, zI 0]) := by
    rw [hw_122]; exact znew_to (ok_120 _ _ h_119) h_119
  obtain ⟨w_128, hw_129⟩ : ∃ ww, ww = zput w_121 a_116 (144, br, tTb 6 384 []) := ⟨_, rfl⟩
  have q_130 : w_128.2.1 = w_121.2.1 ∧ w_128.2.2 = w_121.2.2 := by rw [hw_129]; exact ⟨rfl, rfl⟩
  have h_131 : w_128.1 a_116 = some (144, br, tTb 6 384 []) := by rw [hw_129]; exact zput_at
  refine zx_ic (b := a_116) (As := [zI 6, zI 64]) (st := [zR a_116, zR br]) (w1 := w_128) dX0_init_79 zc_X0_21 rfl (Nat.le_of_ble_eq_true rfl) rfl (by rw [hw_129]; (try rw [ha_124]); rw [hw_122]; exact (c_X9_init (c := 6) (rm := 64) 144 br h_119 (by decide) (by decide) (by decide) (by decide) (by decide) (by omega) (by omega))) ?_
  have h_132 : w_114.1 br = some (0, 0, [zR pg, zR t, zR a_12, zI 0, zR a_38, zR a_64, zR a_90, zN, zI 0, zN, zN, zN, zI 0, zI 0, zI 0]) := by
    rw [hw_115]; exact znew_to (ok_113 _ _ h_112) h_112
  have h_133 : w_121.1 br = some (0, 0, [zR pg, zR t, zR a_12, zI 0, zR a_38, zR a_64, zR a_90, zN, zI 0, zN, zN, zN, zI 0, zI 0, zI 0]) := by
    rw [hw_122]; exact znew_to (ok_120 _ _ h_132) h_132
  have h_134 : w_128.1 br = some (0, 0, [zR pg, zR t, zR a_12, zI 0, zR a_38, zR a_64, zR a_90, zN, zI 0, zN, zN, zN, zI 0, zI 0, zI 0]) := by
    rw [hw_129]; exact zput_tg h_127 h_133 (by simp)
  obtain ⟨w_135, hw_136⟩ : ∃ ww, ww = zput w_128 br (0, 0, [zR pg, zR t, zR a_12, zI 0, zR a_38, zR a_64, zR a_90, zR a_116, zI 0, zN, zN, zN, zI 0, zI 0, zI 0]) := ⟨_, rfl⟩
  refine zx_put (w1 := w_135) dX0_init_82 zf_X0_37 h_134 (Nat.le_of_ble_eq_true rfl) (zFt_obj _ _) (fun _ => ⟨rfl, fun q h => by cases h; rfl⟩) hw_136.symm ?_
  have q_137 : w_135.2.1 = w_128.2.1 ∧ w_135.2.2 = w_128.2.2 := by rw [hw_136]; exact ⟨rfl, rfl⟩
  have h_138 : w_135.1 br = some (0, 0, [zR pg, zR t, zR a_12, zI 0, zR a_38, zR a_64, zR a_90, zR a_116, zI 0, zN, zN, zN, zI 0, zI 0, zI 0]) := by rw [hw_136]; exact zput_at
  refine zx_aload_n (i := 0) dX0_init_85 rfl rfl ?_
  refine zx_ok (fun ok_139 => ?_)
  refine zx_new dX0_init_86 zn_X0_19 (by omega) (by omega) ?_
  obtain ⟨w_140, hw_141⟩ : ∃ ww, ww = znew w_135 (9, 0, [zI 0, zN, zI 0]) 3 := ⟨_, rfl⟩
  obtain ⟨a_142, ha_143⟩ : ∃ ww, ww = w_135.2.1 := ⟨_, rfl⟩
  rw [← hw_141, ← ha_143]
  have q_144 : w_140.2.1 = w_135.2.1 + 1 ∧ w_140.2.2 = w_135.2.2 + 3 := by rw [hw_141]; exact ⟨rfl, rfl⟩
  have h_145 : w_140.1 a_142 = some (9, 0, [zI 0, zN, zI 0]) := by rw [hw_141, ha_143]; exact znew_at
  refine zx_dup dX0_init_89 (fun a h => by cases h) ?_
  refine zx_iconst (v := 2) dX0_init_90 rfl (z32_lit (by decide) (by decide)) ?_
  refine zx_pc (pc1 := 91) rfl ?_
  refine zx_bipush (v := 64) dX0_init_91 (by decide +kernel) (z32_lit (by decide) (by decide)) ?_
  refine zx_ok (fun ok_146 => ?_)
  obtain ⟨w_147, hw_148⟩ : ∃ ww, ww = znew w_140 (199, a_142, []) 128 := ⟨_, rfl⟩
  obtain ⟨a_149, ha_150⟩ : ∃ ww, ww = w_140.2.1 := ⟨_, rfl⟩
  have q_151 : w_147.2.1 = w_140.2.1 + 1 ∧ w_147.2.2 = w_140.2.2 + 128 := by rw [hw_148]; exact ⟨rfl, rfl⟩
  have h_152 : w_147.1 a_149 = some (199, a_142, []) := by rw [hw_148, ha_150]; exact znew_at
  have h_153 : w_147.1 a_142 = some (9, 0, [zI 0, zN, zI 0]) := by
    rw [hw_148]; exact znew_to (ok_146 _ _ h_145) h_145
  obtain ⟨w_154, hw_155⟩ : ∃ ww, ww = zput w_147 a_142 (145, br, tTb 2 128 []) := ⟨_, rfl⟩
  have q_156 : w_154.2.1 = w_147.2.1 ∧ w_154.2.2 = w_147.2.2 := by rw [hw_155]; exact ⟨rfl, rfl⟩
  have h_157 : w_154.1 a_142 = some (145, br, tTb 2 128 []) := by rw [hw_155]; exact zput_at
  refine zx_ic (b := a_142) (As := [zI 2, zI 64]) (st := [zR a_142, zR br]) (w1 := w_154) dX0_init_93 zc_X0_21 rfl (Nat.le_of_ble_eq_true rfl) rfl (by rw [hw_155]; (try rw [ha_150]); rw [hw_148]; exact (c_X9_init (c := 2) (rm := 64) 145 br h_145 (by decide) (by decide) (by decide) (by decide) (by decide) (by omega) (by omega))) ?_
  have h_158 : w_140.1 br = some (0, 0, [zR pg, zR t, zR a_12, zI 0, zR a_38, zR a_64, zR a_90, zR a_116, zI 0, zN, zN, zN, zI 0, zI 0, zI 0]) := by
    rw [hw_141]; exact znew_to (ok_139 _ _ h_138) h_138
  have h_159 : w_147.1 br = some (0, 0, [zR pg, zR t, zR a_12, zI 0, zR a_38, zR a_64, zR a_90, zR a_116, zI 0, zN, zN, zN, zI 0, zI 0, zI 0]) := by
    rw [hw_148]; exact znew_to (ok_146 _ _ h_158) h_158
  have h_160 : w_154.1 br = some (0, 0, [zR pg, zR t, zR a_12, zI 0, zR a_38, zR a_64, zR a_90, zR a_116, zI 0, zN, zN, zN, zI 0, zI 0, zI 0]) := by
    rw [hw_155]; exact zput_tg h_153 h_159 (by simp)
  obtain ⟨w_161, hw_162⟩ : ∃ ww, ww = zput w_154 br (0, 0, [zR pg, zR t, zR a_12, zI 0, zR a_38, zR a_64, zR a_90, zR a_116, zI 0, zR a_142, zN, zN, zI 0, zI 0, zI 0]) := ⟨_, rfl⟩
  refine zx_put (w1 := w_161) dX0_init_96 zf_X0_40 h_160 (Nat.le_of_ble_eq_true rfl) (zFt_obj _ _) (fun _ => ⟨rfl, fun q h => by cases h; rfl⟩) hw_162.symm ?_
  have q_163 : w_161.2.1 = w_154.2.1 ∧ w_161.2.2 = w_154.2.2 := by rw [hw_162]; exact ⟨rfl, rfl⟩
  have h_164 : w_161.1 br = some (0, 0, [zR pg, zR t, zR a_12, zI 0, zR a_38, zR a_64, zR a_90, zR a_116, zI 0, zR a_142, zN, zN, zI 0, zI 0, zI 0]) := by rw [hw_162]; exact zput_at
  refine zx_aload_n (i := 0) dX0_init_99 rfl rfl ?_
  refine zx_ok (fun ok_165 => ?_)
  refine zx_new dX0_init_100 zn_X0_19 (by omega) (by omega) ?_
  obtain ⟨w_166, hw_167⟩ : ∃ ww, ww = znew w_161 (9, 0, [zI 0, zN, zI 0]) 3 := ⟨_, rfl⟩
  obtain ⟨a_168, ha_169⟩ : ∃ ww, ww = w_161.2.1 := ⟨_, rfl⟩
  rw [← hw_167, ← ha_169]
  have q_170 : w_166.2.1 = w_161.2.1 + 1 ∧ w_166.2.2 = w_161.2.2 + 3 := by rw [hw_167]; exact ⟨rfl, rfl⟩
  have h_171 : w_166.1 a_168 = some (9, 0, [zI 0, zN, zI 0]) := by rw [hw_167, ha_169]; exact znew_at
  refine zx_dup dX0_init_103 (fun a h => by cases h) ?_
  refine zx_iconst (v := 4) dX0_init_104 rfl (z32_lit (by decide) (by decide)) ?_
  refine zx_bipush (v := 8) dX0_init_105 (by decide +kernel) (z32_lit (by decide) (by decide)) ?_
  refine zx_ok (fun ok_172 => ?_)
  obtain ⟨w_173, hw_174⟩ : ∃ ww, ww = znew w_166 (199, a_168, []) 32 := ⟨_, rfl⟩
  obtain ⟨a_175, ha_176⟩ : ∃ ww, ww = w_166.2.1 := ⟨_, rfl⟩
  have q_177 : w_173.2.1 = w_166.2.1 + 1 ∧ w_173.2.2 = w_166.2.2 + 32 := by rw [hw_174]; exact ⟨rfl, rfl⟩
  have h_178 : w_173.1 a_175 = some (199, a_168, []) := by rw [hw_174, ha_176]; exact znew_at
  have h_179 : w_173.1 a_168 = some (9, 0, [zI 0, zN, zI 0]) := by
    rw [hw_174]; exact znew_to (ok_172 _ _ h_171) h_171
  obtain ⟨w_180, hw_181⟩ : ∃ ww, ww = zput w_173 a_168 (146, br, tTb 4 32 []) := ⟨_, rfl⟩
  have q_182 : w_180.2.1 = w_173.2.1 ∧ w_180.2.2 = w_173.2.2 := by rw [hw_181]; exact ⟨rfl, rfl⟩
  have h_183 : w_180.1 a_168 = some (146, br, tTb 4 32 []) := by rw [hw_181]; exact zput_at
  refine zx_ic (b := a_168) (As := [zI 4, zI 8]) (st := [zR a_168, zR br]) (w1 := w_180) dX0_init_107 zc_X0_21 rfl (Nat.le_of_ble_eq_true rfl) rfl (by rw [hw_181]; (try rw [ha_176]); rw [hw_174]; exact (c_X9_init (c := 4) (rm := 8) 146 br h_171 (by decide) (by decide) (by decide) (by decide) (by decide) (by omega) (by omega))) ?_
  have h_184 : w_166.1 br = some (0, 0, [zR pg, zR t, zR a_12, zI 0, zR a_38, zR a_64, zR a_90, zR a_116, zI 0, zR a_142, zN, zN, zI 0, zI 0, zI 0]) := by
    rw [hw_167]; exact znew_to (ok_165 _ _ h_164) h_164
  have h_185 : w_173.1 br = some (0, 0, [zR pg, zR t, zR a_12, zI 0, zR a_38, zR a_64, zR a_90, zR a_116, zI 0, zR a_142, zN, zN, zI 0, zI 0, zI 0]) := by
    rw [hw_174]; exact znew_to (ok_172 _ _ h_184) h_184
  have h_186 : w_180.1 br = some (0, 0, [zR pg, zR t, zR a_12, zI 0, zR a_38, zR a_64, zR a_90, zR a_116, zI 0, zR a_142, zN, zN, zI 0, zI 0, zI 0]) := by
    rw [hw_181]; exact zput_tg h_179 h_185 (by simp)
  obtain ⟨w_187, hw_188⟩ : ∃ ww, ww = zput w_180 br (0, 0, [zR pg, zR t, zR a_12, zI 0, zR a_38, zR a_64, zR a_90, zR a_116, zI 0, zR a_142, zR a_168, zN, zI 0, zI 0, zI 0]) := ⟨_, rfl⟩
  refine zx_put (w1 := w_187) dX0_init_110 zf_X0_43 h_186 (Nat.le_of_ble_eq_true rfl) (zFt_obj _ _) (fun _ => ⟨rfl, fun q h => by cases h; rfl⟩) hw_188.symm ?_
  have q_189 : w_187.2.1 = w_180.2.1 ∧ w_187.2.2 = w_180.2.2 := by rw [hw_188]; exact ⟨rfl, rfl⟩
  have h_190 : w_187.1 br = some (0, 0, [zR pg, zR t, zR a_12, zI 0, zR a_38, zR a_64, zR a_90, zR a_116, zI 0, zR a_142, zR a_168, zN, zI 0, zI 0, zI 0]) := by rw [hw_188]; exact zput_at
  refine zx_aload_n (i := 0) dX0_init_113 rfl rfl ?_
  refine zx_ok (fun ok_191 => ?_)
  refine zx_new dX0_init_114 zn_X0_19 (by omega) (by omega) ?_
  obtain ⟨w_192, hw_193⟩ : ∃ ww, ww = znew w_187 (9, 0, [zI 0, zN, zI 0]) 3 := ⟨_, rfl⟩
  obtain ⟨a_194, ha_195⟩ : ∃ ww, ww = w_187.2.1 := ⟨_, rfl⟩
  rw [← hw_193, ← ha_195]
  have q_196 : w_192.2.1 = w_187.2.1 + 1 ∧ w_192.2.2 = w_187.2.2 + 3 := by rw [hw_193]; exact ⟨rfl, rfl⟩
  have h_197 : w_192.1 a_194 = some (9, 0, [zI 0, zN, zI 0]) := by rw [hw_193, ha_195]; exact znew_at
  refine zx_pc (pc1 := 117) rfl ?_
  refine zx_dup dX0_init_117 (fun a h => by cases h) ?_
  refine zx_iconst (v := 3) dX0_init_118 rfl (z32_lit (by decide) (by decide)) ?_
  refine zx_bipush (v := 64) dX0_init_119 (by decide +kernel) (z32_lit (by decide) (by decide)) ?_
  refine zx_ok (fun ok_198 => ?_)
  obtain ⟨w_199, hw_200⟩ : ∃ ww, ww = znew w_192 (199, a_194, []) 192 := ⟨_, rfl⟩
  obtain ⟨a_201, ha_202⟩ : ∃ ww, ww = w_192.2.1 := ⟨_, rfl⟩
  have q_203 : w_199.2.1 = w_192.2.1 + 1 ∧ w_199.2.2 = w_192.2.2 + 192 := by rw [hw_200]; exact ⟨rfl, rfl⟩
  have h_204 : w_199.1 a_201 = some (199, a_194, []) := by rw [hw_200, ha_202]; exact znew_at
  have h_205 : w_199.1 a_194 = some (9, 0, [zI 0, zN, zI 0]) := by
    rw [hw_200]; exact znew_to (ok_198 _ _ h_197) h_197
  obtain ⟨w_206, hw_207⟩ : ∃ ww, ww = zput w_199 a_194 (147, br, tTb 3 192 []) := ⟨_, rfl⟩
  have q_208 : w_206.2.1 = w_199.2.1 ∧ w_206.2.2 = w_199.2.2 := by rw [hw_207]; exact ⟨rfl, rfl⟩
  have h_209 : w_206.1 a_194 = some (147, br, tTb 3 192 []) := by rw [hw_207]; exact zput_at
  refine zx_ic (b := a_194) (As := [zI 3, zI 64]) (st := [zR a_194, zR br]) (w1 := w_206) dX0_init_121 zc_X0_21 rfl (Nat.le_of_ble_eq_true rfl) rfl (by rw [hw_207]; (try rw [ha_202]); rw [hw_200]; exact (c_X9_init (c := 3) (rm := 64) 147 br h_197 (by decide) (by decide) (by decide) (by decide) (by decide) (by omega) (by omega))) ?_
  have h_210 : w_192.1 br = some (0, 0, [zR pg, zR t, zR a_12, zI 0, zR a_38, zR a_64, zR a_90, zR a_116, zI 0, zR a_142, zR a_168, zN, zI 0, zI 0, zI 0]) := by
    rw [hw_193]; exact znew_to (ok_191 _ _ h_190) h_190
  have h_211 : w_199.1 br = some (0, 0, [zR pg, zR t, zR a_12, zI 0, zR a_38, zR a_64, zR a_90, zR a_116, zI 0, zR a_142, zR a_168, zN, zI 0, zI 0, zI 0]) := by
    rw [hw_200]; exact znew_to (ok_198 _ _ h_210) h_210
  have h_212 : w_206.1 br = some (0, 0, [zR pg, zR t, zR a_12, zI 0, zR a_38, zR a_64, zR a_90, zR a_116, zI 0, zR a_142, zR a_168, zN, zI 0, zI 0, zI 0]) := by
    rw [hw_207]; exact zput_tg h_205 h_211 (by simp)
  obtain ⟨w_213, hw_214⟩ : ∃ ww, ww = zput w_206 br (0, 0, [zR pg, zR t, zR a_12, zI 0, zR a_38, zR a_64, zR a_90, zR a_116, zI 0, zR a_142, zR a_168, zR a_194, zI 0, zI 0, zI 0]) := ⟨_, rfl⟩
  refine zx_put (w1 := w_213) dX0_init_124 zf_X0_46 h_212 (Nat.le_of_ble_eq_true rfl) (zFt_obj _ _) (fun _ => ⟨rfl, fun q h => by cases h; rfl⟩) hw_214.symm ?_
  have q_215 : w_213.2.1 = w_206.2.1 ∧ w_213.2.2 = w_206.2.2 := by rw [hw_214]; exact ⟨rfl, rfl⟩
  have h_216 : w_213.1 br = some (0, 0, [zR pg, zR t, zR a_12, zI 0, zR a_38, zR a_64, zR a_90, zR a_116, zI 0, zR a_142, zR a_168, zR a_194, zI 0, zI 0, zI 0]) := by rw [hw_214]; exact zput_at
  refine zx_return dX0_init_127 rfl ?_
  have h_217 : w_31.1 a_12 = some (140, br, tTb 5 320 []) := by
    rw [hw_32]; exact zput_tg h_30 h_27 (by simp)
  have h_218 : w_36.1 a_12 = some (140, br, tTb 5 320 []) := by
    rw [hw_37]; exact znew_to (ok_35 _ _ h_217) h_217
  have h_219 : w_43.1 a_12 = some (140, br, tTb 5 320 []) := by
    rw [hw_44]; exact znew_to (ok_42 _ _ h_218) h_218
  have h_220 : w_50.1 a_12 = some (140, br, tTb 5 320 []) := by
    rw [hw_51]; exact zput_tg h_49 h_219 (by simp)
  have h_221 : w_57.1 a_12 = some (140, br, tTb 5 320 []) := by
    rw [hw_58]; exact zput_tg h_56 h_220 (by simp)
  have h_222 : w_62.1 a_12 = some (140, br, tTb 5 320 []) := by
    rw [hw_63]; exact znew_to (ok_61 _ _ h_221) h_221
  have h_223 : w_69.1 a_12 = some (140, br, tTb 5 320 []) := by
    rw [hw_70]; exact znew_to (ok_68 _ _ h_222) h_222
  have h_224 : w_76.1 a_12 = some (140, br, tTb 5 320 []) := by
    rw [hw_77]; exact zput_tg h_75 h_223 (by simp)
  have h_225 : w_83.1 a_12 = some (140, br, tTb 5 320 []) := by
    rw [hw_84]; exact zput_tg h_82 h_224 (by simp)
  have h_226 : w_88.1 a_12 = some (140, br, tTb 5 320 []) := by
    rw [hw_89]; exact znew_to (ok_87 _ _ h_225) h_225
  have h_227 : w_95.1 a_12 = some (140, br, tTb 5 320 []) := by
    rw [hw_96]; exact znew_to (ok_94 _ _ h_226) h_226
  have h_228 : w_102.1 a_12 = some (140, br, tTb 5 320 []) := by
    rw [hw_103]; exact zput_tg h_101 h_227 (by simp)
  have h_229 : w_109.1 a_12 = some (140, br, tTb 5 320 []) := by
    rw [hw_110]; exact zput_tg h_108 h_228 (by simp)
  have h_230 : w_114.1 a_12 = some (140, br, tTb 5 320 []) := by
    rw [hw_115]; exact znew_to (ok_113 _ _ h_229) h_229
  have h_231 : w_121.1 a_12 = some (140, br, tTb 5 320 []) := by
    rw [hw_122]; exact znew_to (ok_120 _ _ h_230) h_230
  have h_232 : w_128.1 a_12 = some (140, br, tTb 5 320 []) := by
    rw [hw_129]; exact zput_tg h_127 h_231 (by simp)
  have h_233 : w_135.1 a_12 = some (140, br, tTb 5 320 []) := by
    rw [hw_136]; exact zput_tg h_134 h_232 (by simp)
  have h_234 : w_140.1 a_12 = some (140, br, tTb 5 320 []) := by
    rw [hw_141]; exact znew_to (ok_139 _ _ h_233) h_233
  have h_235 : w_147.1 a_12 = some (140, br, tTb 5 320 []) := by
    rw [hw_148]; exact znew_to (ok_146 _ _ h_234) h_234
  have h_236 : w_154.1 a_12 = some (140, br, tTb 5 320 []) := by
    rw [hw_155]; exact zput_tg h_153 h_235 (by simp)
  have h_237 : w_161.1 a_12 = some (140, br, tTb 5 320 []) := by
    rw [hw_162]; exact zput_tg h_160 h_236 (by simp)
  have h_238 : w_166.1 a_12 = some (140, br, tTb 5 320 []) := by
    rw [hw_167]; exact znew_to (ok_165 _ _ h_237) h_237
  have h_239 : w_173.1 a_12 = some (140, br, tTb 5 320 []) := by
    rw [hw_174]; exact znew_to (ok_172 _ _ h_238) h_238
  have h_240 : w_180.1 a_12 = some (140, br, tTb 5 320 []) := by
    rw [hw_181]; exact zput_tg h_179 h_239 (by simp)
  have h_241 : w_187.1 a_12 = some (140, br, tTb 5 320 []) := by
    rw [hw_188]; exact zput_tg h_186 h_240 (by simp)
  have h_242 : w_192.1 a_12 = some (140, br, tTb 5 320 []) := by
    rw [hw_193]; exact znew_to (ok_191 _ _ h_241) h_241
  have h_243 : w_199.1 a_12 = some (140, br, tTb 5 320 []) := by
    rw [hw_200]; exact znew_to (ok_198 _ _ h_242) h_242
  have h_244 : w_206.1 a_12 = some (140, br, tTb 5 320 []) := by
    rw [hw_207]; exact zput_tg h_205 h_243 (by simp)
  have h_245 : w_213.1 a_12 = some (140, br, tTb 5 320 []) := by
    rw [hw_214]; exact zput_tg h_212 h_244 (by simp)
  have h_246 : w_57.1 a_38 = some (141, br, tTb 1 64 []) := by
    rw [hw_58]; exact zput_tg h_56 h_53 (by simp)
  have h_247 : w_62.1 a_38 = some (141, br, tTb 1 64 []) := by
    rw [hw_63]; exact znew_to (ok_61 _ _ h_246) h_246
  have h_248 : w_69.1 a_38 = some (141, br, tTb 1 64 []) := by
    rw [hw_70]; exact znew_to (ok_68 _ _ h_247) h_247
  have h_249 : w_76.1 a_38 = some (141, br, tTb 1 64 []) := by
    rw [hw_77]; exact zput_tg h_75 h_248 (by simp)
  have h_250 : w_83.1 a_38 = some (141, br, tTb 1 64 []) := by
    rw [hw_84]; exact zput_tg h_82 h_249 (by simp)
  have h_251 : w_88.1 a_38 = some (141, br, tTb 1 64 []) := by
    rw [hw_89]; exact znew_to (ok_87 _ _ h_250) h_250
  have h_252 : w_95.1 a_38 = some (141, br, tTb 1 64 []) := by
    rw [hw_96]; exact znew_to (ok_94 _ _ h_251) h_251
  have h_253 : w_102.1 a_38 = some (141, br, tTb 1 64 []) := by
    rw [hw_103]; exact zput_tg h_101 h_252 (by simp)
  have h_254 : w_109.1 a_38 = some (141, br, tTb 1 64 []) := by
    rw [hw_110]; exact zput_tg h_108 h_253 (by simp)
  have h_255 : w_114.1 a_38 = some (141, br, tTb 1 64 []) := by
    rw [hw_115]; exact znew_to (ok_113 _ _ h_254) h_254
  have h_256 : w_121.1 a_38 = some (141, br, tTb 1 64 []) := by
    rw [hw_122]; exact znew_to (ok_120 _ _ h_255) h_255
  have h_257 : w_128.1 a_38 = some (141, br, tTb 1 64 []) := by
    rw [hw_129]; exact zput_tg h_127 h_256 (by simp)
  have h_258 : w_135.1 a_38 = some (141, br, tTb 1 64 []) := by
    rw [hw_136]; exact zput_tg h_134 h_257 (by simp)
  have h_259 : w_140.1 a_38 = some (141, br, tTb 1 64 []) := by
    rw [hw_141]; exact znew_to (ok_139 _ _ h_258) h_258
  have h_260 : w_147.1 a_38 = some (141, br, tTb 1 64 []) := by
    rw [hw_148]; exact znew_to (ok_146 _ _ h_259) h_259
  have h_261 : w_154.1 a_38 = some (141, br, tTb 1 64 []) := by
    rw [hw_155]; exact zput_tg h_153 h_260 (by simp)
  have h_262 : w_161.1 a_38 = some (141, br, tTb 1 64 []) := by
    rw [hw_162]; exact zput_tg h_160 h_261 (by simp)
  have h_263 : w_166.1 a_38 = some (141, br, tTb 1 64 []) := by
    rw [hw_167]; exact znew_to (ok_165 _ _ h_262) h_262
  have h_264 : w_173.1 a_38 = some (141, br, tTb 1 64 []) := by
    rw [hw_174]; exact znew_to (ok_172 _ _ h_263) h_263
  have h_265 : w_180.1 a_38 = some (141, br, tTb 1 64 []) := by
    rw [hw_181]; exact zput_tg h_179 h_264 (by simp)
  have h_266 : w_187.1 a_38 = some (141, br, tTb 1 64 []) := by
    rw [hw_188]; exact zput_tg h_186 h_265 (by simp)
  have h_267 : w_192.1 a_38 = some (141, br, tTb 1 64 []) := by
    rw [hw_193]; exact znew_to (ok_191 _ _ h_266) h_266
  have h_268 : w_199.1 a_38 = some (141, br, tTb 1 64 []) := by
    rw [hw_200]; exact znew_to (ok_198 _ _ h_267) h_267
  have h_269 : w_206.1 a_38 = some (141, br, tTb 1 64 []) := by
    rw [hw_207]; exact zput_tg h_205 h_268 (by simp)
  have h_270 : w_213.1 a_38 = some (141, br, tTb 1 64 []) := by
    rw [hw_214]; exact zput_tg h_212 h_269 (by simp)
  have h_271 : w_83.1 a_64 = some (142, br, tTb 3 192 []) := by
    rw [hw_84]; exact zput_tg h_82 h_79 (by simp)
  have h_272 : w_88.1 a_64 = some (142, br, tTb 3 192 []) := by
    rw [hw_89]; exact znew_to (ok_87 _ _ h_271) h_271
  have h_273 : w_95.1 a_64 = some (142, br, tTb 3 192 []) := by
    rw [hw_96]; exact znew_to (ok_94 _ _ h_272) h_272
  have h_274 : w_102.1 a_64 = some (142, br, tTb 3 192 []) := by
    rw [hw_103]; exact zput_tg h_101 h_273 (by simp)
  have h_275 : w_109.1 a_64 = some (142, br, tTb 3 192 []) := by
    rw [hw_110]; exact zput_tg h_108 h_274 (by simp)
  have h_276 : w_114.1 a_64 = some (142, br, tTb 3 192 []) := by
    rw [hw_115]; exact znew_to (ok_113 _ _ h_275) h_275
  have h_277 : w_121.1 a_64 = some (142, br, tTb 3 192 []) := by
    rw [hw_122]; exact znew_to (ok_120 _ _ h_276) h_276
  have h_278 : w_128.1 a_64 = some (142, br, tTb 3 192 []) := by
    rw [hw_129]; exact zput_tg h_127 h_277 (by simp)
  have h_279 : w_135.1 a_64 = some (142, br, tTb 3 192 []) := by
    rw [hw_136]; exact zput_tg h_134 h_278 (by simp)
  have h_280 : w_140.1 a_64 = some (142, br, tTb 3 192 []) := by
    rw [hw_141]; exact znew_to (ok_139 _ _ h_279) h_279
  have h_281 : w_147.1 a_64 = some (142, br, tTb 3 192 []) := by
    rw [hw_148]; exact znew_to (ok_146 _ _ h_280) h_280
  have h_282 : w_154.1 a_64 = some (142, br, tTb 3 192 []) := by
    rw [hw_155]; exact zput_tg h_153 h_281 (by simp)
  have h_283 : w_161.1 a_64 = some (142, br, tTb 3 192 []) := by
    rw [hw_162]; exact zput_tg h_160 h_282 (by simp)
  have h_284 : w_166.1 a_64 = some (142, br, tTb 3 192 []) := by
    rw [hw_167]; exact znew_to (ok_165 _ _ h_283) h_283
  have h_285 : w_173.1 a_64 = some (142, br, tTb 3 192 []) := by
    rw [hw_174]; exact znew_to (ok_172 _ _ h_284) h_284
  have h_286 : w_180.1 a_64 = some (142, br, tTb 3 192 []) := by
    rw [hw_181]; exact zput_tg h_179 h_285 (by simp)
  have h_287 : w_187.1 a_64 = some (142, br, tTb 3 192 []) := by
    rw [hw_188]; exact zput_tg h_186 h_286 (by simp)
  have h_288 : w_192.1 a_64 = some (142, br, tTb 3 192 []) := by
    rw [hw_193]; exact znew_to (ok_191 _ _ h_287) h_287
  have h_289 : w_199.1 a_64 = some (142, br, tTb 3 192 []) := by
    rw [hw_200]; exact znew_to (ok_198 _ _ h_288) h_288
  have h_290 : w_206.1 a_64 = some (142, br, tTb 3 192 []) := by
    rw [hw_207]; exact zput_tg h_205 h_289 (by simp)
  have h_291 : w_213.1 a_64 = some (142, br, tTb 3 192 []) := by
    rw [hw_214]; exact zput_tg h_212 h_290 (by simp)
  have h_292 : w_109.1 a_90 = some (143, br, tTb 4 256 []) := by
    rw [hw_110]; exact zput_tg h_108 h_105 (by simp)
  have h_293 : w_114.1 a_90 = some (143, br, tTb 4 256 []) := by
    rw [hw_115]; exact znew_to (ok_113 _ _ h_292) h_292
  have h_294 : w_121.1 a_90 = some (143, br, tTb 4 256 []) := by
    rw [hw_122]; exact znew_to (ok_120 _ _ h_293) h_293
  have h_295 : w_128.1 a_90 = some (143, br, tTb 4 256 []) := by
    rw [hw_129]; exact zput_tg h_127 h_294 (by simp)
  have h_296 : w_135.1 a_90 = some (143, br, tTb 4 256 []) := by
    rw [hw_136]; exact zput_tg h_134 h_295 (by simp)
  have h_297 : w_140.1 a_90 = some (143, br, tTb 4 256 []) := by
    rw [hw_141]; exact znew_to (ok_139 _ _ h_296) h_296
  have h_298 : w_147.1 a_90 = some (143, br, tTb 4 256 []) := by
    rw [hw_148]; exact znew_to (ok_146 _ _ h_297) h_297
  have h_299 : w_154.1 a_90 = some (143, br, tTb 4 256 []) := by
    rw [hw_155]; exact zput_tg h_153 h_298 (by simp)
  have h_300 : w_161.1 a_90 = some (143, br, tTb 4 256 []) := by
    rw [hw_162]; exact zput_tg h_160 h_299 (by simp)
  have h_301 : w_166.1 a_90 = some (143, br, tTb 4 256 []) := by
    rw [hw_167]; exact znew_to (ok_165 _ _ h_300) h_300
  have h_302 : w_173.1 a_90 = some (143, br, tTb 4 256 []) := by
    rw [hw_174]; exact znew_to (ok_172 _ _ h_301) h_301
  have h_303 : w_180.1 a_90 = some (143, br, tTb 4 256 []) := by
    rw [hw_181]; exact zput_tg h_179 h_302 (by simp)
  have h_304 : w_187.1 a_90 = some (143, br, tTb 4 256 []) := by
    rw [hw_188]; exact zput_tg h_186 h_303 (by simp)
  have h_305 : w_192.1 a_90 = some (143, br, tTb 4 256 []) := by
    rw [hw_193]; exact znew_to (ok_191 _ _ h_304) h_304
  have h_306 : w_199.1 a_90 = some (143, br, tTb 4 256 []) := by
    rw [hw_200]; exact znew_to (ok_198 _ _ h_305) h_305
  have h_307 : w_206.1 a_90 = some (143, br, tTb 4 256 []) := by
    rw [hw_207]; exact zput_tg h_205 h_306 (by simp)
  have h_308 : w_213.1 a_90 = some (143, br, tTb 4 256 []) := by
    rw [hw_214]; exact zput_tg h_212 h_307 (by simp)
  have h_309 : w_135.1 a_116 = some (144, br, tTb 6 384 []) := by
    rw [hw_136]; exact zput_tg h_134 h_131 (by simp)
  have h_310 : w_140.1 a_116 = some (144, br, tTb 6 384 []) := by
    rw [hw_141]; exact znew_to (ok_139 _ _ h_309) h_309
  have h_311 : w_147.1 a_116 = some (144, br, tTb 6 384 []) := by
    rw [hw_148]; exact znew_to (ok_146 _ _ h_310) h_310
  have h_312 : w_154.1 a_116 = some (144, br, tTb 6 384 []) := by
    rw [hw_155]; exact zput_tg h_153 h_311 (by simp)
  have h_313 : w_161.1 a_116 = some (144, br, tTb 6 384 []) := by
    rw [hw_162]; exact zput_tg h_160 h_312 (by simp)
  have h_314 : w_166.1 a_116 = some (144, br, tTb 6 384 []) := by
    rw [hw_167]; exact znew_to (ok_165 _ _ h_313) h_313
  have h_315 : w_173.1 a_116 = some (144, br, tTb 6 384 []) := by
    rw [hw_174]; exact znew_to (ok_172 _ _ h_314) h_314
  have h_316 : w_180.1 a_116 = some (144, br, tTb 6 384 []) := by
    rw [hw_181]; exact zput_tg h_179 h_315 (by simp)
  have h_317 : w_187.1 a_116 = some (144, br, tTb 6 384 []) := by
    rw [hw_188]; exact zput_tg h_186 h_316 (by simp)
  have h_318 : w_192.1 a_116 = some (144, br, tTb 6 384 []) := by
    rw [hw_193]; exact znew_to (ok_191 _ _ h_317) h_317
  have h_319 : w_199.1 a_116 = some (144, br, tTb 6 384 []) := by
    rw [hw_200]; exact znew_to (ok_198 _ _ h_318) h_318
  have h_320 : w_206.1 a_116 = some (144, br, tTb 6 384 []) := by
    rw [hw_207]; exact zput_tg h_205 h_319 (by simp)
  have h_321 : w_213.1 a_116 = some (144, br, tTb 6 384 []) := by
    rw [hw_214]; exact zput_tg h_212 h_320 (by simp)
  have h_322 : w_161.1 a_142 = some (145, br, tTb 2 128 []) := by
    rw [hw_162]; exact zput_tg h_160 h_157 (by simp)
  have h_323 : w_166.1 a_142 = some (145, br, tTb 2 128 []) := by
    rw [hw_167]; exact znew_to (ok_165 _ _ h_322) h_322
  have h_324 : w_173.1 a_142 = some (145, br, tTb 2 128 []) := by
    rw [hw_174]; exact znew_to (ok_172 _ _ h_323) h_323
  have h_325 : w_180.1 a_142 = some (145, br, tTb 2 128 []) := by
    rw [hw_181]; exact zput_tg h_179 h_324 (by simp)
  have h_326 : w_187.1 a_142 = some (145, br, tTb 2 128 []) := by
    rw [hw_188]; exact zput_tg h_186 h_325 (by simp)
  have h_327 : w_192.1 a_142 = some (145, br, tTb 2 128 []) := by
    rw [hw_193]; exact znew_to (ok_191 _ _ h_326) h_326
  have h_328 : w_199.1 a_142 = some (145, br, tTb 2 128 []) := by
    rw [hw_200]; exact znew_to (ok_198 _ _ h_327) h_327
  have h_329 : w_206.1 a_142 = some (145, br, tTb 2 128 []) := by
    rw [hw_207]; exact zput_tg h_205 h_328 (by simp)
  have h_330 : w_213.1 a_142 = some (145, br, tTb 2 128 []) := by
    rw [hw_214]; exact zput_tg h_212 h_329 (by simp)
  have h_331 : w_187.1 a_168 = some (146, br, tTb 4 32 []) := by
    rw [hw_188]; exact zput_tg h_186 h_183 (by simp)
  have h_332 : w_192.1 a_168 = some (146, br, tTb 4 32 []) := by
    rw [hw_193]; exact znew_to (ok_191 _ _ h_331) h_331
  have h_333 : w_199.1 a_168 = some (146, br, tTb 4 32 []) := by
    rw [hw_200]; exact znew_to (ok_198 _ _ h_332) h_332
  have h_334 : w_206.1 a_168 = some (146, br, tTb 4 32 []) := by
    rw [hw_207]; exact zput_tg h_205 h_333 (by simp)
  have h_335 : w_213.1 a_168 = some (146, br, tTb 4 32 []) := by
    rw [hw_214]; exact zput_tg h_212 h_334 (by simp)
  have h_336 : w_213.1 a_194 = some (147, br, tTb 3 192 []) := by
    rw [hw_214]; exact zput_tg h_212 h_209 (by simp)
  have hfr : ∀ b ob, b ≠ br → w.1 b = some ob → w_213.1 b = some ob := by
    intro b ob hx_br hb
    have hlt := ok0 b ob hb
    have f_337 : w_1.1 b = some ob := by rw [hw_2]; exact zput_to hx_br hb
    have f_338 : w_5.1 b = some ob := by rw [hw_6]; exact zput_to hx_br f_337
    have f_339 : w_10.1 b = some ob := by rw [hw_11, znew_ne (by omega)]; exact f_338
    have f_340 : w_17.1 b = some ob := by rw [hw_18, znew_ne (by omega)]; exact f_339
    have f_341 : w_24.1 b = some ob := by rw [hw_25]; exact zput_to (by omega) f_340
    have f_342 : w_31.1 b = some ob := by rw [hw_32]; exact zput_to hx_br f_341
    have f_343 : w_36.1 b = some ob := by rw [hw_37, znew_ne (by omega)]; exact f_342
    have f_344 : w_43.1 b = some ob := by rw [hw_44, znew_ne (by omega)]; exact f_343
    have f_345 : w_50.1 b = some ob := by rw [hw_51]; exact zput_to (by omega) f_344
    have f_346 : w_57.1 b = some ob := by rw [hw_58]; exact zput_to hx_br f_345
    have f_347 : w_62.1 b = some ob := by rw [hw_63, znew_ne (by omega)]; exact f_346
    have f_348 : w_69.1 b = some ob := by rw [hw_70, znew_ne (by omega)]; exact f_347
    have f_349 : w_76.1 b = some ob := by rw [hw_77]; exact zput_to (by omega) f_348
    have f_350 : w_83.1 b = some ob := by rw [hw_84]; exact zput_to hx_br f_349
    have f_351 : w_88.1 b = some ob := by rw [hw_89, znew_ne (by omega)]; exact f_350
    have f_352 : w_95.1 b = some ob := by rw [hw_96, znew_ne (by omega)]; exact f_351
    have f_353 : w_102.1 b = some ob := by rw [hw_103]; exact zput_to (by omega) f_352
    have f_354 : w_109.1 b = some ob := by rw [hw_110]; exact zput_to hx_br f_353
    have f_355 : w_114.1 b = some ob := by rw [hw_115, znew_ne (by omega)]; exact f_354
    have f_356 : w_121.1 b = some ob := by rw [hw_122, znew_ne (by omega)]; exact f_355
    have f_357 : w_128.1 b = some ob := by rw [hw_129]; exact zput_to (by omega) f_356
    have f_358 : w_135.1 b = some ob := by rw [hw_136]; exact zput_to hx_br f_357
    have f_359 : w_140.1 b = some ob := by rw [hw_141, znew_ne (by omega)]; exact f_358
    have f_360 : w_147.1 b = some ob := by rw [hw_148, znew_ne (by omega)]; exact f_359
    have f_361 : w_154.1 b = some ob := by rw [hw_155]; exact zput_to (by omega) f_360
    have f_362 : w_161.1 b = some ob := by rw [hw_162]; exact zput_to hx_br f_361
    have f_363 : w_166.1 b = some ob := by rw [hw_167, znew_ne (by omega)]; exact f_362
    have f_364 : w_173.1 b = some ob := by rw [hw_174, znew_ne (by omega)]; exact f_363
    have f_365 : w_180.1 b = some ob := by rw [hw_181]; exact zput_to (by omega) f_364
    have f_366 : w_187.1 b = some ob := by rw [hw_188]; exact zput_to hx_br f_365
    have f_367 : w_192.1 b = some ob := by rw [hw_193, znew_ne (by omega)]; exact f_366
    have f_368 : w_199.1 b = some ob := by rw [hw_200, znew_ne (by omega)]; exact f_367
    have f_369 : w_206.1 b = some ob := by rw [hw_207]; exact zput_to (by omega) f_368
    have f_370 : w_213.1 b = some ob := by rw [hw_214]; exact zput_to hx_br f_369
    exact f_370
  have e_a_12 : a_12 = w.2.1 := by omega
  have e_a_38 : a_38 = w.2.1 + 2 := by omega
  have e_a_64 : a_64 = w.2.1 + 4 := by omega
  have e_a_90 : a_90 = w.2.1 + 6 := by omega
  have e_a_116 : a_116 = w.2.1 + 8 := by omega
  have e_a_142 : a_142 = w.2.1 + 10 := by omega
  have e_a_168 : a_168 = w.2.1 + 12 := by omega
  have e_a_194 : a_194 = w.2.1 + 14 := by omega
  subst e_a_12 e_a_38 e_a_64 e_a_90 e_a_116 e_a_142 e_a_168 e_a_194
  exact ⟨rfl, h_216, ⟨h_245, tOk_nil (by decide)⟩, ⟨h_270, tOk_nil (by decide)⟩, ⟨h_291, tOk_nil (by decide)⟩, ⟨h_308, tOk_nil (by decide)⟩, ⟨h_321, tOk_nil (by decide)⟩, ⟨h_330, tOk_nil (by decide)⟩, ⟨h_335, tOk_nil (by decide)⟩, ⟨h_336, tOk_nil (by decide)⟩, by omega, by omega, hfr⟩
end CCONS
