/-! Own rows: CLAUSES made, PROGRAMS written. Walked by program (wip/p37/m_prog.py). -/
def crow (TP : List (List Int)) (k : Nat) : List (List Int) := (List.range k).map (fun (v : Nat) => [tg TP (v : Int) 0])
theorem crow_s {TP : List (List Int)} {k : Nat} : crow TP (k + 1) = crow TP k ++ [trow 1 (tg TP (k : Int) 0) (-1) (-1)] := by
  unfold crow
  rw [List.range_succ, List.map_append]
  rfl
theorem crow_ok {TP : List (List Int)} {k : Nat} : tOk 1 (crow TP k) := ⟨by decide, fun r hr => by
  obtain ⟨v, -, rfl⟩ := List.mem_map.mp hr
  rfl⟩
theorem crow_len {TP : List (List Int)} {k : Nat} : (crow TP k).length = k := by unfold crow; simp
section CPROG
variable {G : zG} {d : Nat} {w : zW}
theorem c_X1_init {c pr tt ms cs q : Nat} {pnu : Int} {TP : List (List Int)} (h0 : w.1 c = some (1, 0, [zI 0, zN, zN, zN, zN, zN, zN, zN, zN])) (hpr : w.1 pr = some (6, 0, [zI pnu, zR tt, zR ms, zR cs, zR q])) (htt : w.1 tt = some (134, pr, tTb 1 3 TP)) (okTP : tOk 1 TP) (r1 : w.2.1 + 8 ≤ G.2.2.2.2.1) (r2 : w.2.2 + 56 ≤ G.2.2.2.2.2) (nu : Int) : zM G zm_X1_init (d + 3) [zR c, zI nu, zR pr] w (zVoid fun w' => clW w' c nu pr w.2.1 (w.2.1 + 2) (w.2.1 + 3) (w.2.1 + 4) (w.2.1 + 5) (w.2.1 + 6) (w.2.1 + 7) (crow TP 8) 0 [] (List.replicate 2 0) (List.replicate 10 0) (List.replicate 10 0) (List.replicate 10 none) (List.replicate 10 none) ∧ w'.2.1 = w.2.1 + 8 ∧ w'.2.2 = w.2.2 + 56 ∧ ∀ b ob, b ≠ c → w.1 b = some ob → w'.1 b = some ob) := by
  refine zx_ent (by decide +kernel) rfl (Nat.le_of_ble_eq_true rfl) ?_
  refine zx_L (L1 := [some (zR c), some (zI nu), some (zR pr), none]) rfl ?_
  refine zx_ok (fun ok0 => ?_)
  have ht0 : c < w.2.1 := ok0 _ _ h0
  refine zx_aload_n (i := 0) dX1_init_0 rfl rfl ?_
  refine zx_objInit dX1_init_1 zo_X1_3 zk_oi1 zk_oi2 (Nat.le_of_ble_eq_true rfl) ?_
  refine zx_aload_n (i := 0) dX1_init_4 rfl rfl ?_
  refine zx_iload_n (i := 1) dX1_init_5 rfl rfl ?_
  obtain ⟨w_1, hw_2⟩ : ∃ ww, ww = zput w c (1, 0, [zI nu, zN, zN, zN, zN, zN, zN, zN, zN]) := ⟨_, rfl⟩
  refine zx_put (w1 := w_1) dX1_init_6 zf_X1_9 h0 (Nat.le_of_ble_eq_true rfl) (zFt_int _) (fun _ => ⟨rfl, fun q h => by cases h; rfl⟩) hw_2.symm ?_
  have q_3 : w_1.2.1 = w.2.1 ∧ w_1.2.2 = w.2.2 := by rw [hw_2]; exact ⟨rfl, rfl⟩
  have h_4 : w_1.1 c = some (1, 0, [zI nu, zN, zN, zN, zN, zN, zN, zN, zN]) := by rw [hw_2]; exact zput_at
  refine zx_aload_n (i := 0) dX1_init_9 rfl rfl ?_
  refine zx_aload_n (i := 2) dX1_init_10 rfl rfl ?_
  obtain ⟨w_5, hw_6⟩ : ∃ ww, ww = zput w_1 c (1, 0, [zI nu, zR pr, zN, zN, zN, zN, zN, zN, zN]) := ⟨_, rfl⟩
  refine zx_put (w1 := w_5) dX1_init_11 zf_X1_15 h_4 (Nat.le_of_ble_eq_true rfl) (zFt_obj _ _) (fun _ => ⟨rfl, fun q h => by cases h; rfl⟩) hw_6.symm ?_
  have q_7 : w_5.2.1 = w_1.2.1 ∧ w_5.2.2 = w_1.2.2 := by rw [hw_6]; exact ⟨rfl, rfl⟩
  have h_8 : w_5.1 c = some (1, 0, [zI nu, zR pr, zN, zN, zN, zN, zN, zN, zN]) := by rw [hw_6]; exact zput_at
  refine zx_aload_n (i := 0) dX1_init_14 rfl rfl ?_
  refine zx_ok (fun ok_9 => ?_)
  refine zx_new dX1_init_15 zn_X1_19 (by omega) (by omega) ?_
  obtain ⟨w_10, hw_11⟩ : ∃ ww, ww = znew w_5 (9, 0, [zI 0, zN, zI 0]) 3 := ⟨_, rfl⟩
  obtain ⟨a_12, ha_13⟩ : ∃ ww, ww = w_5.2.1 := ⟨_, rfl⟩
  rw [← hw_11, ← ha_13]
  have q_14 : w_10.2.1 = w_5.2.1 + 1 ∧ w_10.2.2 = w_5.2.2 + 3 := by rw [hw_11]; exact ⟨rfl, rfl⟩
  have h_15 : w_10.1 a_12 = some (9, 0, [zI 0, zN, zI 0]) := by rw [hw_11, ha_13]; exact znew_at
  refine zx_dup dX1_init_18 (fun a h => by cases h) ?_
  refine zx_pc (pc1 := 19) rfl ?_
  refine zx_iconst (v := 1) dX1_init_19 rfl (z32_lit (by decide) (by decide)) ?_
  refine zx_bipush (v := 8) dX1_init_20 (by decide +kernel) (z32_lit (by decide) (by decide)) ?_
  refine zx_ok (fun ok_16 => ?_)
  obtain ⟨w_17, hw_18⟩ : ∃ ww, ww = znew w_10 (199, a_12, []) 8 := ⟨_, rfl⟩
  obtain ⟨a_19, ha_20⟩ : ∃ ww, ww = w_10.2.1 := ⟨_, rfl⟩
  have q_21 : w_17.2.1 = w_10.2.1 + 1 ∧ w_17.2.2 = w_10.2.2 + 8 := by rw [hw_18]; exact ⟨rfl, rfl⟩
  have h_22 : w_17.1 a_19 = some (199, a_12, []) := by rw [hw_18, ha_20]; exact znew_at
  have h_23 : w_17.1 a_12 = some (9, 0, [zI 0, zN, zI 0]) := by
    rw [hw_18]; exact znew_to (ok_16 _ _ h_15) h_15
  obtain ⟨w_24, hw_25⟩ : ∃ ww, ww = zput w_17 a_12 (133, c, tTb 1 8 []) := ⟨_, rfl⟩
  have q_26 : w_24.2.1 = w_17.2.1 ∧ w_24.2.2 = w_17.2.2 := by rw [hw_25]; exact ⟨rfl, rfl⟩
  have h_27 : w_24.1 a_12 = some (133, c, tTb 1 8 []) := by rw [hw_25]; exact zput_at
  refine zx_ic (b := a_12) (As := [zI 1, zI 8]) (st := [zR a_12, zR c]) (w1 := w_24) dX1_init_22 zc_X1_21 rfl (Nat.le_of_ble_eq_true rfl) rfl (by rw [hw_25]; (try rw [ha_20]); rw [hw_18]; exact (c_X9_init (c := 1) (rm := 8) 133 c h_15 (by decide) (by decide) (by decide) (by decide) (by decide) (by omega) (by omega))) ?_
  have h_28 : w_10.1 c = some (1, 0, [zI nu, zR pr, zN, zN, zN, zN, zN, zN, zN]) := by
    rw [hw_11]; exact znew_to (ok_9 _ _ h_8) h_8
  have h_29 : w_17.1 c = some (1, 0, [zI nu, zR pr, zN, zN, zN, zN, zN, zN, zN]) := by
    rw [hw_18]; exact znew_to (ok_16 _ _ h_28) h_28
  have h_30 : w_24.1 c = some (1, 0, [zI nu, zR pr, zN, zN, zN, zN, zN, zN, zN]) := by
    rw [hw_25]; exact zput_tg h_23 h_29 (by simp)
  obtain ⟨w_31, hw_32⟩ : ∃ ww, ww = zput w_24 c (1, 0, [zI nu, zR pr, zR a_12, zN, zN, zN, zN, zN, zN]) := ⟨_, rfl⟩
  refine zx_put (w1 := w_31) dX1_init_25 zf_X1_24 h_30 (Nat.le_of_ble_eq_true rfl) (zFt_obj _ _) (fun _ => ⟨rfl, fun q h => by cases h; rfl⟩) hw_32.symm ?_
  have q_33 : w_31.2.1 = w_24.2.1 ∧ w_31.2.2 = w_24.2.2 := by rw [hw_32]; exact ⟨rfl, rfl⟩
  have h_34 : w_31.1 c = some (1, 0, [zI nu, zR pr, zR a_12, zN, zN, zN, zN, zN, zN]) := by rw [hw_32]; exact zput_at
  refine zx_iconst (v := 0) dX1_init_28 rfl (z32_lit (by decide) (by decide)) ?_
  refine zx_istore_n (i := 3) dX1_init_29 rfl (by decide) rfl ?_
  refine zx_L (L1 := [some (zR c), some (zI nu), some (zR pr), some (zI 0)]) rfl ?_
  have h_35 : w_31.1 a_12 = some (133, c, tTb 1 8 []) := by
    rw [hw_32]; exact zput_tg h_30 h_27 (by simp)
  have h_36 : w_1.1 pr = some (6, 0, [zI pnu, zR tt, zR ms, zR cs, zR q]) := by
    rw [hw_2]; exact zput_tg h0 hpr (by simp)
  have h_37 : w_5.1 pr = some (6, 0, [zI pnu, zR tt, zR ms, zR cs, zR q]) := by
    rw [hw_6]; exact zput_tg h_4 h_36 (by simp)
  have h_38 : w_10.1 pr = some (6, 0, [zI pnu, zR tt, zR ms, zR cs, zR q]) := by
    rw [hw_11]; exact znew_to (ok_9 _ _ h_37) h_37
  have h_39 : w_17.1 pr = some (6, 0, [zI pnu, zR tt, zR ms, zR cs, zR q]) := by
    rw [hw_18]; exact znew_to (ok_16 _ _ h_38) h_38
  have h_40 : w_24.1 pr = some (6, 0, [zI pnu, zR tt, zR ms, zR cs, zR q]) := by
    rw [hw_25]; exact zput_tg h_23 h_39 (by simp)
  have h_41 : w_31.1 pr = some (6, 0, [zI pnu, zR tt, zR ms, zR cs, zR q]) := by
    rw [hw_32]; exact zput_tg h_30 h_40 (by simp)
  have h_42 : w_1.1 tt = some (134, pr, tTb 1 3 TP) := by
    rw [hw_2]; exact zput_tg h0 htt (by simp)
  have h_43 : w_5.1 tt = some (134, pr, tTb 1 3 TP) := by
    rw [hw_6]; exact zput_tg h_4 h_42 (by simp)
  have h_44 : w_10.1 tt = some (134, pr, tTb 1 3 TP) := by
    rw [hw_11]; exact znew_to (ok_9 _ _ h_43) h_43
  have h_45 : w_17.1 tt = some (134, pr, tTb 1 3 TP) := by
    rw [hw_18]; exact znew_to (ok_16 _ _ h_44) h_44
  have h_46 : w_24.1 tt = some (134, pr, tTb 1 3 TP) := by
    rw [hw_25]; exact zput_tg h_23 h_45 (by simp)
  have h_47 : w_31.1 tt = some (134, pr, tTb 1 3 TP) := by
    rw [hw_32]; exact zput_tg h_30 h_46 (by simp)
  have loop : ∀ n k : Nat, k + n = 8 → ∀ w1, w1 = zput w_31 a_12 (133, c, tTb 1 8 (crow TP k)) → zX G zm_X1_init (d + 3) [zR c, zI nu, zR pr] w (zVoid fun w' => clW w' c nu pr w.2.1 (w.2.1 + 2) (w.2.1 + 3) (w.2.1 + 4) (w.2.1 + 5) (w.2.1 + 6) (w.2.1 + 7) (crow TP 8) 0 [] (List.replicate 2 0) (List.replicate 10 0) (List.replicate 10 0) (List.replicate 10 none) (List.replicate 10 none) ∧ w'.2.1 = w.2.1 + 8 ∧ w'.2.2 = w.2.2 + 56 ∧ ∀ b ob, b ≠ c → w.1 b = some ob → w'.1 b = some ob) 30 [some (zR c), some (zI nu), some (zR pr), some (zI (k : Int))] [] w1 := by
    intro n
    induction n with
    | zero =>
      intro k hk w1 hw1
      have ek : k = 8 := by omega
      subst ek
      have g1 : w1.1 a_12 = some (133, c, tTb 1 8 (crow TP 8)) := by rw [hw1]; exact zput_at
      have g2 : w1.2.1 = w_31.2.1 ∧ w1.2.2 = w_31.2.2 := by rw [hw1]; exact ⟨rfl, rfl⟩
      refine zx_iload_n (i := 3) dX1_init_30 rfl rfl ?_
      refine zx_bipush (v := 8) dX1_init_31 (by decide +kernel) (z32_lit (by decide) (by decide)) ?_
      refine zx_icmp_ge (tgt := 57) dX1_init_33 (by decide) (fun h33 => ?_) (fun h33 => absurd (by decide) h33)
      refine zx_aload_n (i := 0) dX1_init_57 rfl rfl ?_
      refine zx_ok (fun ok_48 => ?_)
      refine zx_new dX1_init_58 zn_X1_38 (by omega) (by omega) ?_
      obtain ⟨w_49, hw_50⟩ : ∃ ww, ww = znew w1 (12, 0, [zI 0, zN, zI 0]) 3 := ⟨_, rfl⟩
      obtain ⟨a_51, ha_52⟩ : ∃ ww, ww = w1.2.1 := ⟨_, rfl⟩
      rw [← hw_50, ← ha_52]
      have q_53 : w_49.2.1 = w1.2.1 + 1 ∧ w_49.2.2 = w1.2.2 + 3 := by rw [hw_50]; exact ⟨rfl, rfl⟩
      have h_54 : w_49.1 a_51 = some (12, 0, [zI 0, zN, zI 0]) := by rw [hw_50, ha_52]; exact znew_at
      refine zx_dup dX1_init_61 (fun a h => by cases h) ?_
      refine zx_pc (pc1 := 62) rfl ?_
      obtain ⟨w_55, hw_56⟩ : ∃ ww, ww = zput w_49 a_51 (165, c, zLs 0 []) := ⟨_, rfl⟩
      have q_57 : w_55.2.1 = w_49.2.1 ∧ w_55.2.2 = w_49.2.2 := by rw [hw_56]; exact ⟨rfl, rfl⟩
      have h_58 : w_55.1 a_51 = some (165, c, zLs 0 []) := by rw [hw_56]; exact zput_at
      refine zx_ic (b := a_51) (As := []) (st := [zR a_51, zR c]) (w1 := w_55) dX1_init_62 zc_X1_40 rfl (Nat.le_of_ble_eq_true rfl) rfl (by rw [hw_56]; exact (c_list_init 165 c h_54 (by decide))) ?_
      have h_59 : w1.1 c = some (1, 0, [zI nu, zR pr, zR a_12, zN, zN, zN, zN, zN, zN]) := by
        rw [hw1]; exact zput_tg h_35 h_34 (by simp)
      have h_60 : w_49.1 c = some (1, 0, [zI nu, zR pr, zR a_12, zN, zN, zN, zN, zN, zN]) := by
        rw [hw_50]; exact znew_to (ok_48 _ _ h_59) h_59
      have h_61 : w_55.1 c = some (1, 0, [zI nu, zR pr, zR a_12, zN, zN, zN, zN, zN, zN]) := by
        rw [hw_56]; exact zput_tg h_54 h_60 (by simp)
      obtain ⟨w_62, hw_63⟩ : ∃ ww, ww = zput w_55 c (1, 0, [zI nu, zR pr, zR a_12, zR a_51, zN, zN, zN, zN, zN]) := ⟨_, rfl⟩
      refine zx_put (w1 := w_62) dX1_init_65 zf_X1_41 h_61 (Nat.le_of_ble_eq_true rfl) (zFt_obj _ _) (fun _ => ⟨rfl, fun q h => by cases h; rfl⟩) hw_63.symm ?_
      have q_64 : w_62.2.1 = w_55.2.1 ∧ w_62.2.2 = w_55.2.2 := by rw [hw_63]; exact ⟨rfl, rfl⟩
      have h_65 : w_62.1 c = some (1, 0, [zI nu, zR pr, zR a_12, zR a_51, zN, zN, zN, zN, zN]) := by rw [hw_63]; exact zput_at
      refine zx_aload_n (i := 0) dX1_init_68 rfl rfl ?_
      refine zx_iconst (v := 2) dX1_init_69 rfl (z32_lit (by decide) (by decide)) ?_
      refine zx_ok (fun ok_66 => ?_)
      refine zx_newarray (n := 2) 100 dX1_init_70 zk_ints (by decide) rfl (by first | decide | omega) (by omega) (by omega) ?_
      obtain ⟨w_67, hw_68⟩ : ∃ ww, ww = znew w_62 (100, 0, List.replicate 2 (zI 0)) 2 := ⟨_, rfl⟩
      obtain ⟨a_69, ha_70⟩ : ∃ ww, ww = w_62.2.1 := ⟨_, rfl⟩
      rw [← hw_68, ← ha_70]
      have q_71 : w_67.2.1 = w_62.2.1 + 1 ∧ w_67.2.2 = w_62.2.2 + 2 := by rw [hw_68]; exact ⟨rfl, rfl⟩
      have h_72 : w_67.1 a_69 = some (100, 0, List.replicate 2 (zI 0)) := by rw [hw_68, ha_70]; exact znew_at
      refine zx_own (t' := 101) (ow' := c) h_72 (by decide) (by decide) ?_
      obtain ⟨w_73, hw_74⟩ : ∃ ww, ww = zput w_67 a_69 (101, c, List.replicate 2 (zI 0)) := ⟨_, rfl⟩
      rw [← hw_74]
      have q_75 : w_73.2.1 = w_67.2.1 ∧ w_73.2.2 = w_67.2.2 := by rw [hw_74]; exact ⟨rfl, rfl⟩
      have h_76 : w_73.1 a_69 = some (101, c, List.replicate 2 (zI 0)) := by rw [hw_74]; exact zput_at
      have h_77 : w_67.1 c = some (1, 0, [zI nu, zR pr, zR a_12, zR a_51, zN, zN, zN, zN, zN]) := by
        rw [hw_68]; exact znew_to (ok_66 _ _ h_65) h_65
      have h_78 : w_73.1 c = some (1, 0, [zI nu, zR pr, zR a_12, zR a_51, zN, zN, zN, zN, zN]) := by
        rw [hw_74]; exact zput_tg h_72 h_77 (by simp)
      obtain ⟨w_79, hw_80⟩ : ∃ ww, ww = zput w_73 c (1, 0, [zI nu, zR pr, zR a_12, zR a_51, zR a_69, zN, zN, zN, zN]) := ⟨_, rfl⟩
      refine zx_put (w1 := w_79) dX1_init_72 zf_X1_45 h_78 (Nat.le_of_ble_eq_true rfl) (zFt_arr _ _) (fun _ => ⟨rfl, fun q h => by cases h; rfl⟩) hw_80.symm ?_
      have q_81 : w_79.2.1 = w_73.2.1 ∧ w_79.2.2 = w_73.2.2 := by rw [hw_80]; exact ⟨rfl, rfl⟩
      have h_82 : w_79.1 c = some (1, 0, [zI nu, zR pr, zR a_12, zR a_51, zR a_69, zN, zN, zN, zN]) := by rw [hw_80]; exact zput_at
      refine zx_aload_n (i := 0) dX1_init_75 rfl rfl ?_
      refine zx_bipush (v := 10) dX1_init_76 (by decide +kernel) (z32_lit (by decide) (by decide)) ?_
      refine zx_ok (fun ok_83 => ?_)
      refine zx_newarray (n := 10) 100 dX1_init_78 zk_ints (by decide) rfl (by first | decide | omega) (by omega) (by omega) ?_
      obtain ⟨w_84, hw_85⟩ : ∃ ww, ww = znew w_79 (100, 0, List.replicate 10 (zI 0)) 10 := ⟨_, rfl⟩
      obtain ⟨a_86, ha_87⟩ : ∃ ww, ww = w_79.2.1 := ⟨_, rfl⟩
      rw [← hw_85, ← ha_87]
      have q_88 : w_84.2.1 = w_79.2.1 + 1 ∧ w_84.2.2 = w_79.2.2 + 10 := by rw [hw_85]; exact ⟨rfl, rfl⟩
      have h_89 : w_84.1 a_86 = some (100, 0, List.replicate 10 (zI 0)) := by rw [hw_85, ha_87]; exact znew_at
      refine zx_own (t' := 102) (ow' := c) h_89 (by decide) (by decide) ?_
      obtain ⟨w_90, hw_91⟩ : ∃ ww, ww = zput w_84 a_86 (102, c, List.replicate 10 (zI 0)) := ⟨_, rfl⟩
      rw [← hw_91]
      have q_92 : w_90.2.1 = w_84.2.1 ∧ w_90.2.2 = w_84.2.2 := by rw [hw_91]; exact ⟨rfl, rfl⟩
      have h_93 : w_90.1 a_86 = some (102, c, List.replicate 10 (zI 0)) := by rw [hw_91]; exact zput_at
      have h_94 : w_84.1 c = some (1, 0, [zI nu, zR pr, zR a_12, zR a_51, zR a_69, zN, zN, zN, zN]) := by
        rw [hw_85]; exact znew_to (ok_83 _ _ h_82) h_82
      have h_95 : w_90.1 c = some (1, 0, [zI nu, zR pr, zR a_12, zR a_51, zR a_69, zN, zN, zN, zN]) := by
        rw [hw_91]; exact zput_tg h_89 h_94 (by simp)
      obtain ⟨w_96, hw_97⟩ : ∃ ww, ww = zput w_90 c (1, 0, [zI nu, zR pr, zR a_12, zR a_51, zR a_69, zR a_86, zN, zN, zN]) := ⟨_, rfl⟩
      refine zx_put (w1 := w_96) dX1_init_80 zf_X1_49 h_95 (Nat.le_of_ble_eq_true rfl) (zFt_arr _ _) (fun _ => ⟨rfl, fun q h => by cases h; rfl⟩) hw_97.symm ?_
      have q_98 : w_96.2.1 = w_90.2.1 ∧ w_96.2.2 = w_90.2.2 := by rw [hw_97]; exact ⟨rfl, rfl⟩
      have h_99 : w_96.1 c = some (1, 0, [zI nu, zR pr, zR a_12, zR a_51, zR a_69, zR a_86, zN, zN, zN]) := by rw [hw_97]; exact zput_at
      refine zx_aload_n (i := 0) dX1_init_83 rfl rfl ?_
      refine zx_bipush (v := 10) dX1_init_84 (by decide +kernel) (z32_lit (by decide) (by decide)) ?_
      refine zx_pc (pc1 := 86) rfl ?_
      refine zx_ok (fun ok_100 => ?_)
      refine zx_anewarray (n := 10) (ka := 2) 125 dX1_init_86 zl_X1_52 (Or.inl ⟨rfl, rfl, rfl⟩) (by first | rfl | simp | omega) (by first | decide | omega) (by omega) (by omega) ?_
      obtain ⟨w_101, hw_102⟩ : ∃ ww, ww = znew w_96 (125, 0, List.replicate 10 zN) 10 := ⟨_, rfl⟩
      obtain ⟨a_103, ha_104⟩ : ∃ ww, ww = w_96.2.1 := ⟨_, rfl⟩
      rw [← hw_102, ← ha_104]
      have q_105 : w_101.2.1 = w_96.2.1 + 1 ∧ w_101.2.2 = w_96.2.2 + 10 := by rw [hw_102]; exact ⟨rfl, rfl⟩
      have h_106 : w_101.1 a_103 = some (125, 0, List.replicate 10 zN) := by rw [hw_102, ha_104]; exact znew_at
      refine zx_own (t' := 125) (ow' := c) h_106 (by decide) (by decide) ?_
      obtain ⟨w_107, hw_108⟩ : ∃ ww, ww = zput w_101 a_103 (125, c, List.replicate 10 zN) := ⟨_, rfl⟩
      rw [← hw_108]
      have q_109 : w_107.2.1 = w_101.2.1 ∧ w_107.2.2 = w_101.2.2 := by rw [hw_108]; exact ⟨rfl, rfl⟩
      have h_110 : w_107.1 a_103 = some (125, c, List.replicate 10 zN) := by rw [hw_108]; exact zput_at
      have h_111 : w_101.1 c = some (1, 0, [zI nu, zR pr, zR a_12, zR a_51, zR a_69, zR a_86, zN, zN, zN]) := by
        rw [hw_102]; exact znew_to (ok_100 _ _ h_99) h_99
      have h_112 : w_107.1 c = some (1, 0, [zI nu, zR pr, zR a_12, zR a_51, zR a_69, zR a_86, zN, zN, zN]) := by
        rw [hw_108]; exact zput_tg h_106 h_111 (by simp)
      obtain ⟨w_113, hw_114⟩ : ∃ ww, ww = zput w_107 c (1, 0, [zI nu, zR pr, zR a_12, zR a_51, zR a_69, zR a_86, zR a_103, zN, zN]) := ⟨_, rfl⟩
      refine zx_put (w1 := w_113) dX1_init_89 zf_X1_54 h_112 (Nat.le_of_ble_eq_true rfl) (zFt_arr _ _) (fun _ => ⟨rfl, fun q h => by cases h; rfl⟩) hw_114.symm ?_
      have q_115 : w_113.2.1 = w_107.2.1 ∧ w_113.2.2 = w_107.2.2 := by rw [hw_114]; exact ⟨rfl, rfl⟩
      have h_116 : w_113.1 c = some (1, 0, [zI nu, zR pr, zR a_12, zR a_51, zR a_69, zR a_86, zR a_103, zN, zN]) := by rw [hw_114]; exact zput_at
      refine zx_aload_n (i := 0) dX1_init_92 rfl rfl ?_
      refine zx_bipush (v := 10) dX1_init_93 (by decide +kernel) (z32_lit (by decide) (by decide)) ?_
      refine zx_ok (fun ok_117 => ?_)
      refine zx_anewarray (n := 10) (ka := 3) 126 dX1_init_95 zl_X1_58 (Or.inr (Or.inl ⟨rfl, rfl, rfl⟩)) (by first | rfl | simp | omega) (by first | decide | omega) (by omega) (by omega) ?_
      obtain ⟨w_118, hw_119⟩ : ∃ ww, ww = znew w_113 (126, 0, List.replicate 10 zN) 10 := ⟨_, rfl⟩
      obtain ⟨a_120, ha_121⟩ : ∃ ww, ww = w_113.2.1 := ⟨_, rfl⟩
      rw [← hw_119, ← ha_121]
      have q_122 : w_118.2.1 = w_113.2.1 + 1 ∧ w_118.2.2 = w_113.2.2 + 10 := by rw [hw_119]; exact ⟨rfl, rfl⟩
      have h_123 : w_118.1 a_120 = some (126, 0, List.replicate 10 zN) := by rw [hw_119, ha_121]; exact znew_at
      refine zx_own (t' := 126) (ow' := c) h_123 (by decide) (by decide) ?_
      obtain ⟨w_124, hw_125⟩ : ∃ ww, ww = zput w_118 a_120 (126, c, List.replicate 10 zN) := ⟨_, rfl⟩
      rw [← hw_125]
      have q_126 : w_124.2.1 = w_118.2.1 ∧ w_124.2.2 = w_118.2.2 := by rw [hw_125]; exact ⟨rfl, rfl⟩
      have h_127 : w_124.1 a_120 = some (126, c, List.replicate 10 zN) := by rw [hw_125]; exact zput_at
      have h_128 : w_118.1 c = some (1, 0, [zI nu, zR pr, zR a_12, zR a_51, zR a_69, zR a_86, zR a_103, zN, zN]) := by
        rw [hw_119]; exact znew_to (ok_117 _ _ h_116) h_116
      have h_129 : w_124.1 c = some (1, 0, [zI nu, zR pr, zR a_12, zR a_51, zR a_69, zR a_86, zR a_103, zN, zN]) := by
        rw [hw_125]; exact zput_tg h_123 h_128 (by simp)
      obtain ⟨w_130, hw_131⟩ : ∃ ww, ww = zput w_124 c (1, 0, [zI nu, zR pr, zR a_12, zR a_51, zR a_69, zR a_86, zR a_103, zR a_120, zN]) := ⟨_, rfl⟩
      refine zx_put (w1 := w_130) dX1_init_98 zf_X1_60 h_129 (Nat.le_of_ble_eq_true rfl) (zFt_arr _ _) (fun _ => ⟨rfl, fun q h => by cases h; rfl⟩) hw_131.symm ?_
      have q_132 : w_130.2.1 = w_124.2.1 ∧ w_130.2.2 = w_124.2.2 := by rw [hw_131]; exact ⟨rfl, rfl⟩
      have h_133 : w_130.1 c = some (1, 0, [zI nu, zR pr, zR a_12, zR a_51, zR a_69, zR a_86, zR a_103, zR a_120, zN]) := by rw [hw_131]; exact zput_at
      refine zx_aload_n (i := 0) dX1_init_101 rfl rfl ?_
      refine zx_bipush (v := 10) dX1_init_102 (by decide +kernel) (z32_lit (by decide) (by decide)) ?_
      refine zx_ok (fun ok_134 => ?_)
      refine zx_newarray (n := 10) 100 dX1_init_104 zk_ints (by decide) rfl (by first | decide | omega) (by omega) (by omega) ?_
      obtain ⟨w_135, hw_136⟩ : ∃ ww, ww = znew w_130 (100, 0, List.replicate 10 (zI 0)) 10 := ⟨_, rfl⟩
      obtain ⟨a_137, ha_138⟩ : ∃ ww, ww = w_130.2.1 := ⟨_, rfl⟩
      rw [← hw_136, ← ha_138]
      have q_139 : w_135.2.1 = w_130.2.1 + 1 ∧ w_135.2.2 = w_130.2.2 + 10 := by rw [hw_136]; exact ⟨rfl, rfl⟩
      have h_140 : w_135.1 a_137 = some (100, 0, List.replicate 10 (zI 0)) := by rw [hw_136, ha_138]; exact znew_at
      refine zx_own (t' := 103) (ow' := c) h_140 (by decide) (by decide) ?_
      obtain ⟨w_141, hw_142⟩ : ∃ ww, ww = zput w_135 a_137 (103, c, List.replicate 10 (zI 0)) := ⟨_, rfl⟩
      rw [← hw_142]
      have q_143 : w_141.2.1 = w_135.2.1 ∧ w_141.2.2 = w_135.2.2 := by rw [hw_142]; exact ⟨rfl, rfl⟩
      have h_144 : w_141.1 a_137 = some (103, c, List.replicate 10 (zI 0)) := by rw [hw_142]; exact zput_at
      have h_145 : w_135.1 c = some (1, 0, [zI nu, zR pr, zR a_12, zR a_51, zR a_69, zR a_86, zR a_103, zR a_120, zN]) := by
        rw [hw_136]; exact znew_to (ok_134 _ _ h_133) h_133
      have h_146 : w_141.1 c = some (1, 0, [zI nu, zR pr, zR a_12, zR a_51, zR a_69, zR a_86, zR a_103, zR a_120, zN]) := by
        rw [hw_142]; exact zput_tg h_140 h_145 (by simp)
      obtain ⟨w_147, hw_148⟩ : ∃ ww, ww = zput w_141 c (1, 0, [zI nu, zR pr, zR a_12, zR a_51, zR a_69, zR a_86, zR a_103, zR a_120, zR a_137]) := ⟨_, rfl⟩
      refine zx_put (w1 := w_147) dX1_init_106 zf_X1_64 h_146 (Nat.le_of_ble_eq_true rfl) (zFt_arr _ _) (fun _ => ⟨rfl, fun q h => by cases h; rfl⟩) hw_148.symm ?_
      have q_149 : w_147.2.1 = w_141.2.1 ∧ w_147.2.2 = w_141.2.2 := by rw [hw_148]; exact ⟨rfl, rfl⟩
      have h_150 : w_147.1 c = some (1, 0, [zI nu, zR pr, zR a_12, zR a_51, zR a_69, zR a_86, zR a_103, zR a_120, zR a_137]) := by rw [hw_148]; exact zput_at
      refine zx_return dX1_init_109 rfl ?_
      have h_151 : w_49.1 a_12 = some (133, c, tTb 1 8 (crow TP 8)) := by
        rw [hw_50]; exact znew_to (ok_48 _ _ g1) g1
      have h_152 : w_55.1 a_12 = some (133, c, tTb 1 8 (crow TP 8)) := by
        rw [hw_56]; exact zput_tg h_54 h_151 (by simp)
      have h_153 : w_62.1 a_12 = some (133, c, tTb 1 8 (crow TP 8)) := by
        rw [hw_63]; exact zput_tg h_61 h_152 (by simp)
      have h_154 : w_67.1 a_12 = some (133, c, tTb 1 8 (crow TP 8)) := by
        rw [hw_68]; exact znew_to (ok_66 _ _ h_153) h_153
      have h_155 : w_73.1 a_12 = some (133, c, tTb 1 8 (crow TP 8)) := by
        rw [hw_74]; exact zput_tg h_72 h_154 (by simp)
      have h_156 : w_79.1 a_12 = some (133, c, tTb 1 8 (crow TP 8)) := by
        rw [hw_80]; exact zput_tg h_78 h_155 (by simp)
      have h_157 : w_84.1 a_12 = some (133, c, tTb 1 8 (crow TP 8)) := by
        rw [hw_85]; exact znew_to (ok_83 _ _ h_156) h_156
      have h_158 : w_90.1 a_12 = some (133, c, tTb 1 8 (crow TP 8)) := by
        rw [hw_91]; exact zput_tg h_89 h_157 (by simp)
      have h_159 : w_96.1 a_12 = some (133, c, tTb 1 8 (crow TP 8)) := by
        rw [hw_97]; exact zput_tg h_95 h_158 (by simp)
      have h_160 : w_101.1 a_12 = some (133, c, tTb 1 8 (crow TP 8)) := by
        rw [hw_102]; exact znew_to (ok_100 _ _ h_159) h_159
      have h_161 : w_107.1 a_12 = some (133, c, tTb 1 8 (crow TP 8)) := by
        rw [hw_108]; exact zput_tg h_106 h_160 (by simp)
      have h_162 : w_113.1 a_12 = some (133, c, tTb 1 8 (crow TP 8)) := by
        rw [hw_114]; exact zput_tg h_112 h_161 (by simp)
      have h_163 : w_118.1 a_12 = some (133, c, tTb 1 8 (crow TP 8)) := by
        rw [hw_119]; exact znew_to (ok_117 _ _ h_162) h_162
      have h_164 : w_124.1 a_12 = some (133, c, tTb 1 8 (crow TP 8)) := by
        rw [hw_125]; exact zput_tg h_123 h_163 (by simp)
      have h_165 : w_130.1 a_12 = some (133, c, tTb 1 8 (crow TP 8)) := by
        rw [hw_131]; exact zput_tg h_129 h_164 (by simp)
      have h_166 : w_135.1 a_12 = some (133, c, tTb 1 8 (crow TP 8)) := by
        rw [hw_136]; exact znew_to (ok_134 _ _ h_165) h_165
      have h_167 : w_141.1 a_12 = some (133, c, tTb 1 8 (crow TP 8)) := by
        rw [hw_142]; exact zput_tg h_140 h_166 (by simp)
      have h_168 : w_147.1 a_12 = some (133, c, tTb 1 8 (crow TP 8)) := by
        rw [hw_148]; exact zput_tg h_146 h_167 (by simp)
      have h_169 : w_62.1 a_51 = some (165, c, zLs 0 []) := by
        rw [hw_63]; exact zput_tg h_61 h_58 (by simp)
      have h_170 : w_67.1 a_51 = some (165, c, zLs 0 []) := by
        rw [hw_68]; exact znew_to (ok_66 _ _ h_169) h_169
      have h_171 : w_73.1 a_51 = some (165, c, zLs 0 []) := by
        rw [hw_74]; exact zput_tg h_72 h_170 (by simp)
      have h_172 : w_79.1 a_51 = some (165, c, zLs 0 []) := by
        rw [hw_80]; exact zput_tg h_78 h_171 (by simp)
      have h_173 : w_84.1 a_51 = some (165, c, zLs 0 []) := by
        rw [hw_85]; exact znew_to (ok_83 _ _ h_172) h_172
      have h_174 : w_90.1 a_51 = some (165, c, zLs 0 []) := by
        rw [hw_91]; exact zput_tg h_89 h_173 (by simp)
      have h_175 : w_96.1 a_51 = some (165, c, zLs 0 []) := by
        rw [hw_97]; exact zput_tg h_95 h_174 (by simp)
      have h_176 : w_101.1 a_51 = some (165, c, zLs 0 []) := by
        rw [hw_102]; exact znew_to (ok_100 _ _ h_175) h_175
      have h_177 : w_107.1 a_51 = some (165, c, zLs 0 []) := by
        rw [hw_108]; exact zput_tg h_106 h_176 (by simp)
      have h_178 : w_113.1 a_51 = some (165, c, zLs 0 []) := by
        rw [hw_114]; exact zput_tg h_112 h_177 (by simp)
      have h_179 : w_118.1 a_51 = some (165, c, zLs 0 []) := by
        rw [hw_119]; exact znew_to (ok_117 _ _ h_178) h_178
      have h_180 : w_124.1 a_51 = some (165, c, zLs 0 []) := by
        rw [hw_125]; exact zput_tg h_123 h_179 (by simp)
      have h_181 : w_130.1 a_51 = some (165, c, zLs 0 []) := by
        rw [hw_131]; exact zput_tg h_129 h_180 (by simp)
      have h_182 : w_135.1 a_51 = some (165, c, zLs 0 []) := by
        rw [hw_136]; exact znew_to (ok_134 _ _ h_181) h_181
      have h_183 : w_141.1 a_51 = some (165, c, zLs 0 []) := by
        rw [hw_142]; exact zput_tg h_140 h_182 (by simp)
      have h_184 : w_147.1 a_51 = some (165, c, zLs 0 []) := by
        rw [hw_148]; exact zput_tg h_146 h_183 (by simp)
      have h_185 : w_79.1 a_69 = some (101, c, List.replicate 2 (zI 0)) := by
        rw [hw_80]; exact zput_tg h_78 h_76 (by simp)
      have h_186 : w_84.1 a_69 = some (101, c, List.replicate 2 (zI 0)) := by
        rw [hw_85]; exact znew_to (ok_83 _ _ h_185) h_185
      have h_187 : w_90.1 a_69 = some (101, c, List.replicate 2 (zI 0)) := by
        rw [hw_91]; exact zput_tg h_89 h_186 (by simp)
      have h_188 : w_96.1 a_69 = some (101, c, List.replicate 2 (zI 0)) := by
        rw [hw_97]; exact zput_tg h_95 h_187 (by simp)
      have h_189 : w_101.1 a_69 = some (101, c, List.replicate 2 (zI 0)) := by
        rw [hw_102]; exact znew_to (ok_100 _ _ h_188) h_188
      have h_190 : w_107.1 a_69 = some (101, c, List.replicate 2 (zI 0)) := by
        rw [hw_108]; exact zput_tg h_106 h_189 (by simp)
      have h_191 : w_113.1 a_69 = some (101, c, List.replicate 2 (zI 0)) := by
        rw [hw_114]; exact zput_tg h_112 h_190 (by simp)
      have h_192 : w_118.1 a_69 = some (101, c, List.replicate 2 (zI 0)) := by
        rw [hw_119]; exact znew_to (ok_117 _ _ h_191) h_191
      have h_193 : w_124.1 a_69 = some (101, c, List.replicate 2 (zI 0)) := by
        rw [hw_125]; exact zput_tg h_123 h_192 (by simp)
      have h_194 : w_130.1 a_69 = some (101, c, List.replicate 2 (zI 0)) := by
        rw [hw_131]; exact zput_tg h_129 h_193 (by simp)
      have h_195 : w_135.1 a_69 = some (101, c, List.replicate 2 (zI 0)) := by
        rw [hw_136]; exact znew_to (ok_134 _ _ h_194) h_194
      have h_196 : w_141.1 a_69 = some (101, c, List.replicate 2 (zI 0)) := by
        rw [hw_142]; exact zput_tg h_140 h_195 (by simp)
      have h_197 : w_147.1 a_69 = some (101, c, List.replicate 2 (zI 0)) := by
        rw [hw_148]; exact zput_tg h_146 h_196 (by simp)
      have h_198 : w_96.1 a_86 = some (102, c, List.replicate 10 (zI 0)) := by
        rw [hw_97]; exact zput_tg h_95 h_93 (by simp)
      have h_199 : w_101.1 a_86 = some (102, c, List.replicate 10 (zI 0)) := by
        rw [hw_102]; exact znew_to (ok_100 _ _ h_198) h_198
      have h_200 : w_107.1 a_86 = some (102, c, List.replicate 10 (zI 0)) := by
        rw [hw_108]; exact zput_tg h_106 h_199 (by simp)
      have h_201 : w_113.1 a_86 = some (102, c, List.replicate 10 (zI 0)) := by
        rw [hw_114]; exact zput_tg h_112 h_200 (by simp)
      have h_202 : w_118.1 a_86 = some (102, c, List.replicate 10 (zI 0)) := by
        rw [hw_119]; exact znew_to (ok_117 _ _ h_201) h_201
      have h_203 : w_124.1 a_86 = some (102, c, List.replicate 10 (zI 0)) := by
        rw [hw_125]; exact zput_tg h_123 h_202 (by simp)
      have h_204 : w_130.1 a_86 = some (102, c, List.replicate 10 (zI 0)) := by
        rw [hw_131]; exact zput_tg h_129 h_203 (by simp)
      have h_205 : w_135.1 a_86 = some (102, c, List.replicate 10 (zI 0)) := by
        rw [hw_136]; exact znew_to (ok_134 _ _ h_204) h_204
      have h_206 : w_141.1 a_86 = some (102, c, List.replicate 10 (zI 0)) := by
        rw [hw_142]; exact zput_tg h_140 h_205 (by simp)
      have h_207 : w_147.1 a_86 = some (102, c, List.replicate 10 (zI 0)) := by
        rw [hw_148]; exact zput_tg h_146 h_206 (by simp)
      have h_208 : w_113.1 a_103 = some (125, c, List.replicate 10 zN) := by
        rw [hw_114]; exact zput_tg h_112 h_110 (by simp)
      have h_209 : w_118.1 a_103 = some (125, c, List.replicate 10 zN) := by
        rw [hw_119]; exact znew_to (ok_117 _ _ h_208) h_208
      have h_210 : w_124.1 a_103 = some (125, c, List.replicate 10 zN) := by
        rw [hw_125]; exact zput_tg h_123 h_209 (by simp)
      have h_211 : w_130.1 a_103 = some (125, c, List.replicate 10 zN) := by
        rw [hw_131]; exact zput_tg h_129 h_210 (by simp)
      have h_212 : w_135.1 a_103 = some (125, c, List.replicate 10 zN) := by
        rw [hw_136]; exact znew_to (ok_134 _ _ h_211) h_211
      have h_213 : w_141.1 a_103 = some (125, c, List.replicate 10 zN) := by
        rw [hw_142]; exact zput_tg h_140 h_212 (by simp)
      have h_214 : w_147.1 a_103 = some (125, c, List.replicate 10 zN) := by
        rw [hw_148]; exact zput_tg h_146 h_213 (by simp)
      have h_215 : w_130.1 a_120 = some (126, c, List.replicate 10 zN) := by
        rw [hw_131]; exact zput_tg h_129 h_127 (by simp)
      have h_216 : w_135.1 a_120 = some (126, c, List.replicate 10 zN) := by
        rw [hw_136]; exact znew_to (ok_134 _ _ h_215) h_215
      have h_217 : w_141.1 a_120 = some (126, c, List.replicate 10 zN) := by
        rw [hw_142]; exact zput_tg h_140 h_216 (by simp)
      have h_218 : w_147.1 a_120 = some (126, c, List.replicate 10 zN) := by
        rw [hw_148]; exact zput_tg h_146 h_217 (by simp)
      have h_219 : w_147.1 a_137 = some (103, c, List.replicate 10 (zI 0)) := by
        rw [hw_148]; exact zput_tg h_146 h_144 (by simp)
      have hfr : ∀ b ob, b ≠ c → w.1 b = some ob → w_147.1 b = some ob := by
        intro b ob hx_c hb
        have hlt := ok0 b ob hb
        have f_220 : w_1.1 b = some ob := by rw [hw_2]; exact zput_to hx_c hb
        have f_221 : w_5.1 b = some ob := by rw [hw_6]; exact zput_to hx_c f_220
        have f_222 : w_10.1 b = some ob := by rw [hw_11, znew_ne (by omega)]; exact f_221
        have f_223 : w_17.1 b = some ob := by rw [hw_18, znew_ne (by omega)]; exact f_222
        have f_224 : w_24.1 b = some ob := by rw [hw_25]; exact zput_to (by omega) f_223
        have f_225 : w_31.1 b = some ob := by rw [hw_32]; exact zput_to hx_c f_224
        have f_226 : w1.1 b = some ob := by rw [hw1]; exact zput_to (by omega) f_225
        have f_227 : w_49.1 b = some ob := by rw [hw_50, znew_ne (by omega)]; exact f_226
        have f_228 : w_55.1 b = some ob := by rw [hw_56]; exact zput_to (by omega) f_227
        have f_229 : w_62.1 b = some ob := by rw [hw_63]; exact zput_to hx_c f_228
        have f_230 : w_67.1 b = some ob := by rw [hw_68, znew_ne (by omega)]; exact f_229
        have f_231 : w_73.1 b = some ob := by rw [hw_74]; exact zput_to (by omega) f_230
        have f_232 : w_79.1 b = some ob := by rw [hw_80]; exact zput_to hx_c f_231
        have f_233 : w_84.1 b = some ob := by rw [hw_85, znew_ne (by omega)]; exact f_232
        have f_234 : w_90.1 b = some ob := by rw [hw_91]; exact zput_to (by omega) f_233
        have f_235 : w_96.1 b = some ob := by rw [hw_97]; exact zput_to hx_c f_234
        have f_236 : w_101.1 b = some ob := by rw [hw_102, znew_ne (by omega)]; exact f_235
        have f_237 : w_107.1 b = some ob := by rw [hw_108]; exact zput_to (by omega) f_236
        have f_238 : w_113.1 b = some ob := by rw [hw_114]; exact zput_to hx_c f_237
        have f_239 : w_118.1 b = some ob := by rw [hw_119, znew_ne (by omega)]; exact f_238
        have f_240 : w_124.1 b = some ob := by rw [hw_125]; exact zput_to (by omega) f_239
        have f_241 : w_130.1 b = some ob := by rw [hw_131]; exact zput_to hx_c f_240
        have f_242 : w_135.1 b = some ob := by rw [hw_136, znew_ne (by omega)]; exact f_241
        have f_243 : w_141.1 b = some ob := by rw [hw_142]; exact zput_to (by omega) f_242
        have f_244 : w_147.1 b = some ob := by rw [hw_148]; exact zput_to hx_c f_243
        exact f_244
      have e_a_12 : a_12 = w.2.1 := by omega
      have e_a_51 : a_51 = w.2.1 + 2 := by omega
      have e_a_69 : a_69 = w.2.1 + 3 := by omega
      have e_a_86 : a_86 = w.2.1 + 4 := by omega
      have e_a_103 : a_103 = w.2.1 + 5 := by omega
      have e_a_120 : a_120 = w.2.1 + 6 := by omega
      have e_a_137 : a_137 = w.2.1 + 7 := by omega
      subst e_a_12 e_a_51 e_a_69 e_a_86 e_a_103 e_a_120 e_a_137
      exact ⟨rfl, ⟨h_150, ⟨h_168, crow_ok⟩, h_184, ⟨by rw [List.map_replicate]; exact h_197, rfl⟩, ⟨by rw [List.map_replicate]; exact h_207, rfl⟩, ⟨by rw [← lob_rep]; exact h_214, rfl⟩, ⟨by rw [← lob_rep]; exact h_218, rfl⟩, ⟨by rw [List.map_replicate]; exact h_219, rfl⟩⟩, by omega, by omega, hfr⟩
    | succ n ih =>
      intro k hk w1 hw1
      have g1 : w1.1 a_12 = some (133, c, tTb 1 8 (crow TP k)) := by rw [hw1]; exact zput_at
      have g2 : w1.2.1 = w_31.2.1 ∧ w1.2.2 = w_31.2.2 := by rw [hw1]; exact ⟨rfl, rfl⟩
      refine zx_iload_n (i := 3) dX1_init_30 rfl rfl ?_
      refine zx_bipush (v := 8) dX1_init_31 (by decide +kernel) (z32_lit (by decide) (by decide)) ?_
      refine zx_icmp_ge (tgt := 57) dX1_init_33 (by decide) (fun h33 => absurd h33 (by omega)) (fun h33 => ?_)
      refine zx_aload_n (i := 0) dX1_init_36 rfl rfl ?_
      have h_245 : w1.1 c = some (1, 0, [zI nu, zR pr, zR a_12, zN, zN, zN, zN, zN, zN]) := by
        rw [hw1]; exact zput_tg h_35 h_34 (by simp)
      refine zx_getfield dX1_init_37 zf_X1_24 h_245 rfl ?_
      refine zx_aload_n (i := 2) dX1_init_40 rfl rfl ?_
      refine zx_pc (pc1 := 41) rfl ?_
      refine zx_iload_n (i := 3) dX1_init_41 rfl rfl ?_
      have h_246 : w1.1 pr = some (6, 0, [zI pnu, zR tt, zR ms, zR cs, zR q]) := by
        rw [hw1]; exact zput_tg h_35 h_41 (by simp)
      have h_247 : w1.1 tt = some (134, pr, tTb 1 3 TP) := by
        rw [hw1]; exact zput_tg h_35 h_47 (by simp)
      refine zx_iv (b := pr) (As := [zI (k : Int)]) (st := [zR a_12]) (v := (some (zI (tg TP (k : Int) 0)))) (w1 := w1) dX1_init_42 zc_X1_28 h_246 rfl rfl rfl (Nat.le_of_ble_eq_true rfl) rfl (c_X6_typeAt h_246 h_247 okTP (k : Int)) ?_
      refine zx_st (st1 := [zI (tg TP (k : Int) 0), zR a_12]) rfl ?_
      refine zx_iconst (v := -1) dX1_init_45 rfl (z32_lit (by decide) (by decide)) ?_
      refine zx_iconst (v := -1) dX1_init_46 rfl (z32_lit (by decide) (by decide)) ?_
      obtain ⟨w_248, hw_249⟩ : ∃ ww, ww = zput w1 a_12 (133, c, tTb 1 8 ((crow TP k) ++ [trow 1 (tg TP (k : Int) 0) (-1) (-1)])) := ⟨_, rfl⟩
      have q_250 : w_248.2.1 = w1.2.1 ∧ w_248.2.2 = w1.2.2 := by rw [hw_249]; exact ⟨rfl, rfl⟩
      have h_251 : w_248.1 a_12 = some (133, c, tTb 1 8 ((crow TP k) ++ [trow 1 (tg TP (k : Int) 0) (-1) (-1)])) := by rw [hw_249]; exact zput_at
      refine zx_iv (b := a_12) (As := [zI (tg TP (k : Int) 0), zI (-1), zI (-1)]) (st := []) (v := (some (zI ((crow TP k).length : Int)))) (w1 := w_248) dX1_init_47 zc_X1_34 g1 (z_cls9 (by decide)) rfl rfl (Nat.le_of_ble_eq_true rfl) rfl (by rw [hw_249]; exact (c_X9_addS g1 (by decide) crow_ok ⟨by rw [crow_len]; omega, by decide⟩ (tg TP (k : Int) 0) (-1) (-1))) ?_
      refine zx_st (st1 := [zI ((crow TP k).length : Int)]) rfl ?_
      refine zx_pop dX1_init_50 (fun a h => by cases h) ?_
      refine zx_iinc (i := 3) (v := ((k + 1 : Nat) : Int)) dX1_init_51 rfl (zw_eq (by omega) (by omega) (by omega)) (by decide) rfl ?_
      refine zx_L (L1 := [some (zR c), some (zI nu), some (zR pr), some (zI ((k + 1 : Nat) : Int))]) rfl ?_
      refine zx_goto (tgt := 30) dX1_init_54 (by decide) ?_
      exact ih (k + 1) (by omega) _ (by rw [hw_249, hw1, zput_put, crow_s])
  exact loop 8 0 rfl _ (by rw [show crow TP 0 = [] from rfl, zput_id h_35])
end CPROG
