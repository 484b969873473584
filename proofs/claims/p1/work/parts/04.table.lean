abbrev oTy (k : Nat → ClassId) : List (ClassId × FieldType) := [(k 0, .int), (k 1, .long), (k 2, .char), (k 3, .boolean), (k 4, .double), (k 5, .object "ModedMillModel$Frame"), (k 6, .object "ModedMillModel$Node"), (k 7, .object "java/lang/Object")]
theorem o_in {x : Int32} {n : Nat} (hn : n < 2147483648) (h0 : ¬ x < 0) (h1 : ¬ nI n ≤ x) : vp_in x n := by
  rcases pk_ix x hn with h | h | ⟨j, hj, rfl⟩
  · exact absurd h h0
  · exact absurd h h1
  · exact vp_in_nI hj hn
theorem iw_X9_init_X9 : ∀ w ∈ wsX90, w ∈ wsX9_init := by decide +kernel
set_option maxHeartbeats 4000000 in
set_option maxRecDepth 100000 in
theorem c_Table_init_3_10 (l : Launch) (e0 : Nat) (D : va_G) (k : Nat → ClassId) (h0 : Nat) : oCv l e0 D (oTy k) yX9_init wsX9_init ({ frames := 1, cells := 1, slots := 30, locals := 20 } : Room) [.ref h0, .int 3, .int 10] [(h0, .inr (13, [.int 0, .null, .int 0]))] (S := Nat) (fun (u : Nat) => True) (fun u => [(h0, .inr (13, [.int 3, .ref u, .int 0])), (u, .inl ((k 0), 30, .inl (fun _ => 0)))]) 1 30 := by
  refine ov_of (cc := cX9_init) (maxL := 3) (ret := none) (by decide +kernel) rfl (Nat.le_of_ble_eq_true rfl) ?_
  intro p e s m below meth c A ls hx hb hml hr hts hown hlocks hin hA hK hP hD hS hE hl
  have hl : lv_has ls 3 [(0, .ref h0), (1, .int 3), (2, .int 10)] := hl
  refine lv_aload_n hx hb dX9_init_0 rfl (lv_at hl 0 rfl) ?_
  refine W.objInit hx hb hown (hts (.methodLink RX9 3 objectInit) (by decide +kernel)) (hts (.instanceMethod objectInit) (by decide +kernel)) (hts (.code objectInit ⟨#[0xb1]⟩ 1 none) (by decide +kernel)) rfl (by rw [hml]; exact hl.1) rfl dX9_init_1 (Nat.le_of_ble_eq_true rfl) (Nat.le_of_ble_eq_true rfl) ?_
  refine W.eq (g2 := F0 m 4 ls []) rfl ?_
  refine lv_aload_n hx hb dX9_init_4 rfl (lv_at hl 0 rfl) ?_
  refine lv_iload_n hx hb dX9_init_5 rfl (lv_at hl 1 rfl) ?_
  refine lv_if_le (tgt := 13) hx hb dX9_init_6 (by decide) (fun c_6 => absurd c_6 (by decide)) (fun c_6 => ?_)
  refine lv_iload_n hx hb dX9_init_9 rfl (lv_at hl 1 rfl) ?_
  refine lv_goto (tgt := 14) hx hb dX9_init_10 (by decide) ?_
  refine va_putF (D := D) (ci := 13) (v := .int 3) (ty := .int) (C := RX9) (T := TX9) (N := 3) hx hb hts iw_X9_init_X9 tyX9 tyX9_ok nmX9 hown hK hP hD hS 0 rfl rfl 0 (by decide) (hts (.fieldLink RX9 9 "ModedMill$Table" "columns" "I") (by decide +kernel)) (fun _ h9 => h9) rfl hin rfl (by decide +kernel) rfl rfl (Nat.le_of_ble_eq_true rfl) dX9_init_14 (fun H locs hP hD hS => ?_)
  have hP : va_P D vwCl [(h0, .inr (13, [.int 3, .null, .int 0]))] H := hP
  have hD : va_D A [(h0, .inr (13, [.int 3, .null, .int 0]))] := hD
  refine lv_aload_n hx hb dX9_init_17 rfl (lv_at hl 0 rfl) ?_
  refine lv_iload_n hx hb dX9_init_18 rfl (lv_at hl 2 rfl) ?_
  refine lv_if_le (tgt := 37) hx hb dX9_init_19 (by decide) (fun c_19 => absurd c_19 (by decide)) (fun c_19 => ?_)
  refine lv_iload_n hx hb dX9_init_22 rfl (lv_at hl 2 rfl) ?_
  refine lv_ldc (v := 1000000) hx hb hown (hts (.constant RX9 15 (1000000)) (by decide +kernel)) dX9_init_23 ?_
  refine lv_icmp_ge (tgt := 37) hx hb dX9_init_25 (by decide) (fun c_25 => absurd c_25 (by decide)) (fun c_25 => ?_)
  refine lv_aload_n hx hb dX9_init_28 rfl (lv_at hl 0 rfl) ?_
  refine va_get (D := D) (ci := 13) (v := .int 3) (C := RX9) (T := TX9) (N := 3) hx hb hts iw_X9_init_X9 hown hK hP 0 rfl rfl 0 (by decide) (hts (.fieldLink RX9 9 "ModedMill$Table" "columns" "I") (by decide +kernel)) (fun _ h9 => h9) rfl dX9_init_29 ?_
  refine lv_iload_n hx hb dX9_init_32 rfl (lv_at hl 2 rfl) ?_
  refine lv_imul hx hb dX9_init_33 ?_
  refine o_top (v := 30) (by decide) ?_
  refine lv_goto (tgt := 41) hx hb dX9_init_34 (by decide) ?_
  refine o_newa (D := D) (atype := .int) (ty := .int) 0 (cA0 := (k 0)) rfl (hts (.arrayClass .int) (by decide +kernel)) rfl hK hP hD hS hA (a0 := (30, .inl (fun _ => 0))) (N' := 30) hx hb (fun _ => rfl) (by decide) (rfl) (Nat.le_of_ble_eq_true rfl) (Nat.le_of_ble_eq_true rfl) (Nat.le_of_ble_eq_true rfl) dX9_init_41 (fun q41_1 H hP hD hS => ?_)
  have hP : va_P D vwCl [(h0, .inr (13, [.int 3, .null, .int 0])), (q41_1, .inl ((k 0), 30, .inl (fun _ => 0)))] H := hP
  have hD : va_D A [(h0, .inr (13, [.int 3, .null, .int 0])), (q41_1, .inl ((k 0), 30, .inl (fun _ => 0)))] := hD
  refine va_put (D := D) (ci := 13) (v := .ref q41_1) (ty := (tyX9 1)) (C := RX9) (T := TX9) (N := 3) hx hb hts iw_X9_init_X9 tyX9 tyX9_ok nmX9 hown hK hP hD hS 0 rfl rfl 1 (by decide) (hts (.fieldLink RX9 16 "ModedMill$Table" "cells" "[I") (by decide +kernel)) (fun _ h9 => h9) rfl (by decide +kernel) rfl rfl (Nat.le_of_ble_eq_true rfl) dX9_init_43 (fun H locs hP hD hS => ?_)
  have hP : va_P D vwCl [(h0, .inr (13, [.int 3, .ref q41_1, .int 0])), (q41_1, .inl ((k 0), 30, .inl (fun _ => 0)))] H := hP
  have hD : va_D A [(h0, .inr (13, [.int 3, .ref q41_1, .int 0])), (q41_1, .inl ((k 0), 30, .inl (fun _ => 0)))] := hD
  refine lv_aload_n hx hb dX9_init_46 rfl (lv_at hl 0 rfl) ?_
  refine lv_iconst (v := 0) hx hb dX9_init_47 (by decide) ?_
  refine va_put (D := D) (ci := 13) (v := .int 0) (ty := .int) (C := RX9) (T := TX9) (N := 3) hx hb hts iw_X9_init_X9 tyX9 tyX9_ok nmX9 hown hK hP hD hS 0 rfl rfl 2 (by decide) (hts (.fieldLink RX9 20 "ModedMill$Table" "lines" "I") (by decide +kernel)) (fun _ h9 => h9) rfl (by decide +kernel) rfl rfl (Nat.le_of_ble_eq_true rfl) dX9_init_48 (fun H locs hP hD hS => ?_)
  have hP : va_P D vwCl [(h0, .inr (13, [.int 3, .ref q41_1, .int 0])), (q41_1, .inl ((k 0), 30, .inl (fun _ => 0)))] H := hP
  have hD : va_D A [(h0, .inr (13, [.int 3, .ref q41_1, .int 0])), (q41_1, .inl ((k 0), 30, .inl (fun _ => 0)))] := hD
  exact ov_ret hx hb hr hlocks q41_1 (trivial) hK (hP.sub [0, 1] rfl) (hD.sub [0, 1] (by decide) rfl) hS (Nat.le_of_ble_eq_true rfl) (Nat.le_of_ble_eq_true rfl) dX9_init_51
set_option maxHeartbeats 4000000 in
set_option maxRecDepth 100000 in
theorem c_Table_init_4_200 (l : Launch) (e0 : Nat) (D : va_G) (k : Nat → ClassId) (h0 : Nat) : oCv l e0 D (oTy k) yX9_init wsX9_init ({ frames := 1, cells := 1, slots := 800, locals := 20 } : Room) [.ref h0, .int 4, .int 200] [(h0, .inr (13, [.int 0, .null, .int 0]))] (S := Nat) (fun (u : Nat) => True) (fun u => [(h0, .inr (13, [.int 4, .ref u, .int 0])), (u, .inl ((k 0), 800, .inl (fun _ => 0)))]) 1 800 := by
  refine ov_of (cc := cX9_init) (maxL := 3) (ret := none) (by decide +kernel) rfl (Nat.le_of_ble_eq_true rfl) ?_
  intro p e s m below meth c A ls hx hb hml hr hts hown hlocks hin hA hK hP hD hS hE hl
  have hl : lv_has ls 3 [(0, .ref h0), (1, .int 4), (2, .int 200)] := hl
  refine lv_aload_n hx hb dX9_init_0 rfl (lv_at hl 0 rfl) ?_
  refine W.objInit hx hb hown (hts (.methodLink RX9 3 objectInit) (by decide +kernel)) (hts (.instanceMethod objectInit) (by decide +kernel)) (hts (.code objectInit ⟨#[0xb1]⟩ 1 none) (by decide +kernel)) rfl (by rw [hml]; exact hl.1) rfl dX9_init_1 (Nat.le_of_ble_eq_true rfl) (Nat.le_of_ble_eq_true rfl) ?_
  refine W.eq (g2 := F0 m 4 ls []) rfl ?_
  refine lv_aload_n hx hb dX9_init_4 rfl (lv_at hl 0 rfl) ?_
  refine lv_iload_n hx hb dX9_init_5 rfl (lv_at hl 1 rfl) ?_
  refine lv_if_le (tgt := 13) hx hb dX9_init_6 (by decide) (fun c_6 => absurd c_6 (by decide)) (fun c_6 => ?_)
  refine lv_iload_n hx hb dX9_init_9 rfl (lv_at hl 1 rfl) ?_
  refine lv_goto (tgt := 14) hx hb dX9_init_10 (by decide) ?_
  refine va_putF (D := D) (ci := 13) (v := .int 4) (ty := .int) (C := RX9) (T := TX9) (N := 3) hx hb hts iw_X9_init_X9 tyX9 tyX9_ok nmX9 hown hK hP hD hS 0 rfl rfl 0 (by decide) (hts (.fieldLink RX9 9 "ModedMill$Table" "columns" "I") (by decide +kernel)) (fun _ h9 => h9) rfl hin rfl (by decide +kernel) rfl rfl (Nat.le_of_ble_eq_true rfl) dX9_init_14 (fun H locs hP hD hS => ?_)
  have hP : va_P D vwCl [(h0, .inr (13, [.int 4, .null, .int 0]))] H := hP
  have hD : va_D A [(h0, .inr (13, [.int 4, .null, .int 0]))] := hD
  refine lv_aload_n hx hb dX9_init_17 rfl (lv_at hl 0 rfl) ?_
  refine lv_iload_n hx hb dX9_init_18 rfl (lv_at hl 2 rfl) ?_
  refine lv_if_le (tgt := 37) hx hb dX9_init_19 (by decide) (fun c_19 => absurd c_19 (by decide)) (fun c_19 => ?_)
  refine lv_iload_n hx hb dX9_init_22 rfl (lv_at hl 2 rfl) ?_
  refine lv_ldc (v := 1000000) hx hb hown (hts (.constant RX9 15 (1000000)) (by decide +kernel)) dX9_init_23 ?_
  refine lv_icmp_ge (tgt := 37) hx hb dX9_init_25 (by decide) (fun c_25 => absurd c_25 (by decide)) (fun c_25 => ?_)
  refine lv_aload_n hx hb dX9_init_28 rfl (lv_at hl 0 rfl) ?_
  refine va_get (D := D) (ci := 13) (v := .int 4) (C := RX9) (T := TX9) (N := 3) hx hb hts iw_X9_init_X9 hown hK hP 0 rfl rfl 0 (by decide) (hts (.fieldLink RX9 9 "ModedMill$Table" "columns" "I") (by decide +kernel)) (fun _ h9 => h9) rfl dX9_init_29 ?_
  refine lv_iload_n hx hb dX9_init_32 rfl (lv_at hl 2 rfl) ?_
  refine lv_imul hx hb dX9_init_33 ?_
  refine o_top (v := 800) (by decide) ?_
  refine lv_goto (tgt := 41) hx hb dX9_init_34 (by decide) ?_
  refine o_newa (D := D) (atype := .int) (ty := .int) 0 (cA0 := (k 0)) rfl (hts (.arrayClass .int) (by decide +kernel)) rfl hK hP hD hS hA (a0 := (800, .inl (fun _ => 0))) (N' := 800) hx hb (fun _ => rfl) (by decide) (rfl) (Nat.le_of_ble_eq_true rfl) (Nat.le_of_ble_eq_true rfl) (Nat.le_of_ble_eq_true rfl) dX9_init_41 (fun q41_1 H hP hD hS => ?_)
  have hP : va_P D vwCl [(h0, .inr (13, [.int 4, .null, .int 0])), (q41_1, .inl ((k 0), 800, .inl (fun _ => 0)))] H := hP
  have hD : va_D A [(h0, .inr (13, [.int 4, .null, .int 0])), (q41_1, .inl ((k 0), 800, .inl (fun _ => 0)))] := hD
  refine va_put (D := D) (ci := 13) (v := .ref q41_1) (ty := (tyX9 1)) (C := RX9) (T := TX9) (N := 3) hx hb hts iw_X9_init_X9 tyX9 tyX9_ok nmX9 hown hK hP hD hS 0 rfl rfl 1 (by decide) (hts (.fieldLink RX9 16 "ModedMill$Table" "cells" "[I") (by decide +kernel)) (fun _ h9 => h9) rfl (by decide +kernel) rfl rfl (Nat.le_of_ble_eq_true rfl) dX9_init_43 (fun H locs hP hD hS => ?_)
  have hP : va_P D vwCl [(h0, .inr (13, [.int 4, .ref q41_1, .int 0])), (q41_1, .inl ((k 0), 800, .inl (fun _ => 0)))] H := hP
  have hD : va_D A [(h0, .inr (13, [.int 4, .ref q41_1, .int 0])), (q41_1, .inl ((k 0), 800, .inl (fun _ => 0)))] := hD
  refine lv_aload_n hx hb dX9_init_46 rfl (lv_at hl 0 rfl) ?_
  refine lv_iconst (v := 0) hx hb dX9_init_47 (by decide) ?_
  refine va_put (D := D) (ci := 13) (v := .int 0) (ty := .int) (C := RX9) (T := TX9) (N := 3) hx hb hts iw_X9_init_X9 tyX9 tyX9_ok nmX9 hown hK hP hD hS 0 rfl rfl 2 (by decide) (hts (.fieldLink RX9 20 "ModedMill$Table" "lines" "I") (by decide +kernel)) (fun _ h9 => h9) rfl (by decide +kernel) rfl rfl (Nat.le_of_ble_eq_true rfl) dX9_init_48 (fun H locs hP hD hS => ?_)
  have hP : va_P D vwCl [(h0, .inr (13, [.int 4, .ref q41_1, .int 0])), (q41_1, .inl ((k 0), 800, .inl (fun _ => 0)))] H := hP
  have hD : va_D A [(h0, .inr (13, [.int 4, .ref q41_1, .int 0])), (q41_1, .inl ((k 0), 800, .inl (fun _ => 0)))] := hD
  exact ov_ret hx hb hr hlocks q41_1 (trivial) hK (hP.sub [0, 1] rfl) (hD.sub [0, 1] (by decide) rfl) hS (Nat.le_of_ble_eq_true rfl) (Nat.le_of_ble_eq_true rfl) dX9_init_51
set_option maxHeartbeats 4000000 in
set_option maxRecDepth 100000 in
theorem c_Table_init_1_64 (l : Launch) (e0 : Nat) (D : va_G) (k : Nat → ClassId) (h0 : Nat) : oCv l e0 D (oTy k) yX9_init wsX9_init ({ frames := 1, cells := 1, slots := 64, locals := 20 } : Room) [.ref h0, .int 1, .int 64] [(h0, .inr (13, [.int 0, .null, .int 0]))] (S := Nat) (fun (u : Nat) => True) (fun u => [(h0, .inr (13, [.int 1, .ref u, .int 0])), (u, .inl ((k 0), 64, .inl (fun _ => 0)))]) 1 64 := by
  refine ov_of (cc := cX9_init) (maxL := 3) (ret := none) (by decide +kernel) rfl (Nat.le_of_ble_eq_true rfl) ?_
  intro p e s m below meth c A ls hx hb hml hr hts hown hlocks hin hA hK hP hD hS hE hl
  have hl : lv_has ls 3 [(0, .ref h0), (1, .int 1), (2, .int 64)] := hl
  refine lv_aload_n hx hb dX9_init_0 rfl (lv_at hl 0 rfl) ?_
  refine W.objInit hx hb hown (hts (.methodLink RX9 3 objectInit) (by decide +kernel)) (hts (.instanceMethod objectInit) (by decide +kernel)) (hts (.code objectInit ⟨#[0xb1]⟩ 1 none) (by decide +kernel)) rfl (by rw [hml]; exact hl.1) rfl dX9_init_1 (Nat.le_of_ble_eq_true rfl) (Nat.le_of_ble_eq_true rfl) ?_
  refine W.eq (g2 := F0 m 4 ls []) rfl ?_
  refine lv_aload_n hx hb dX9_init_4 rfl (lv_at hl 0 rfl) ?_
  refine lv_iload_n hx hb dX9_init_5 rfl (lv_at hl 1 rfl) ?_
  refine lv_if_le (tgt := 13) hx hb dX9_init_6 (by decide) (fun c_6 => absurd c_6 (by decide)) (fun c_6 => ?_)
  refine lv_iload_n hx hb dX9_init_9 rfl (lv_at hl 1 rfl) ?_
  refine lv_goto (tgt := 14) hx hb dX9_init_10 (by decide) ?_
  refine va_putF (D := D) (ci := 13) (v := .int 1) (ty := .int) (C := RX9) (T := TX9) (N := 3) hx hb hts iw_X9_init_X9 tyX9 tyX9_ok nmX9 hown hK hP hD hS 0 rfl rfl 0 (by decide) (hts (.fieldLink RX9 9 "ModedMill$Table" "columns" "I") (by decide +kernel)) (fun _ h9 => h9) rfl hin rfl (by decide +kernel) rfl rfl (Nat.le_of_ble_eq_true rfl) dX9_init_14 (fun H locs hP hD hS => ?_)
  have hP : va_P D vwCl [(h0, .inr (13, [.int 1, .null, .int 0]))] H := hP
  have hD : va_D A [(h0, .inr (13, [.int 1, .null, .int 0]))] := hD
  refine lv_aload_n hx hb dX9_init_17 rfl (lv_at hl 0 rfl) ?_
  refine lv_iload_n hx hb dX9_init_18 rfl (lv_at hl 2 rfl) ?_
  refine lv_if_le (tgt := 37) hx hb dX9_init_19 (by decide) (fun c_19 => absurd c_19 (by decide)) (fun c_19 => ?_)
  refine lv_iload_n hx hb dX9_init_22 rfl (lv_at hl 2 rfl) ?_
  refine lv_ldc (v := 1000000) hx hb hown (hts (.constant RX9 15 (1000000)) (by decide +kernel)) dX9_init_23 ?_
  refine lv_icmp_ge (tgt := 37) hx hb dX9_init_25 (by decide) (fun c_25 => absurd c_25 (by decide)) (fun c_25 => ?_)
  refine lv_aload_n hx hb dX9_init_28 rfl (lv_at hl 0 rfl) ?_
  refine va_get (D := D) (ci := 13) (v := .int 1) (C := RX9) (T := TX9) (N := 3) hx hb hts iw_X9_init_X9 hown hK hP 0 rfl rfl 0 (by decide) (hts (.fieldLink RX9 9 "ModedMill$Table" "columns" "I") (by decide +kernel)) (fun _ h9 => h9) rfl dX9_init_29 ?_
  refine lv_iload_n hx hb dX9_init_32 rfl (lv_at hl 2 rfl) ?_
  refine lv_imul hx hb dX9_init_33 ?_
  refine o_top (v := 64) (by decide) ?_
  refine lv_goto (tgt := 41) hx hb dX9_init_34 (by decide) ?_
  refine o_newa (D := D) (atype := .int) (ty := .int) 0 (cA0 := (k 0)) rfl (hts (.arrayClass .int) (by decide +kernel)) rfl hK hP hD hS hA (a0 := (64, .inl (fun _ => 0))) (N' := 64) hx hb (fun _ => rfl) (by decide) (rfl) (Nat.le_of_ble_eq_true rfl) (Nat.le_of_ble_eq_true rfl) (Nat.le_of_ble_eq_true rfl) dX9_init_41 (fun q41_1 H hP hD hS => ?_)
  have hP : va_P D vwCl [(h0, .inr (13, [.int 1, .null, .int 0])), (q41_1, .inl ((k 0), 64, .inl (fun _ => 0)))] H := hP
  have hD : va_D A [(h0, .inr (13, [.int 1, .null, .int 0])), (q41_1, .inl ((k 0), 64, .inl (fun _ => 0)))] := hD
  refine va_put (D := D) (ci := 13) (v := .ref q41_1) (ty := (tyX9 1)) (C := RX9) (T := TX9) (N := 3) hx hb hts iw_X9_init_X9 tyX9 tyX9_ok nmX9 hown hK hP hD hS 0 rfl rfl 1 (by decide) (hts (.fieldLink RX9 16 "ModedMill$Table" "cells" "[I") (by decide +kernel)) (fun _ h9 => h9) rfl (by decide +kernel) rfl rfl (Nat.le_of_ble_eq_true rfl) dX9_init_43 (fun H locs hP hD hS => ?_)
  have hP : va_P D vwCl [(h0, .inr (13, [.int 1, .ref q41_1, .int 0])), (q41_1, .inl ((k 0), 64, .inl (fun _ => 0)))] H := hP
  have hD : va_D A [(h0, .inr (13, [.int 1, .ref q41_1, .int 0])), (q41_1, .inl ((k 0), 64, .inl (fun _ => 0)))] := hD
  refine lv_aload_n hx hb dX9_init_46 rfl (lv_at hl 0 rfl) ?_
  refine lv_iconst (v := 0) hx hb dX9_init_47 (by decide) ?_
  refine va_put (D := D) (ci := 13) (v := .int 0) (ty := .int) (C := RX9) (T := TX9) (N := 3) hx hb hts iw_X9_init_X9 tyX9 tyX9_ok nmX9 hown hK hP hD hS 0 rfl rfl 2 (by decide) (hts (.fieldLink RX9 20 "ModedMill$Table" "lines" "I") (by decide +kernel)) (fun _ h9 => h9) rfl (by decide +kernel) rfl rfl (Nat.le_of_ble_eq_true rfl) dX9_init_48 (fun H locs hP hD hS => ?_)
  have hP : va_P D vwCl [(h0, .inr (13, [.int 1, .ref q41_1, .int 0])), (q41_1, .inl ((k 0), 64, .inl (fun _ => 0)))] H := hP
  have hD : va_D A [(h0, .inr (13, [.int 1, .ref q41_1, .int 0])), (q41_1, .inl ((k 0), 64, .inl (fun _ => 0)))] := hD
  exact ov_ret hx hb hr hlocks q41_1 (trivial) hK (hP.sub [0, 1] rfl) (hD.sub [0, 1] (by decide) rfl) hS (Nat.le_of_ble_eq_true rfl) (Nat.le_of_ble_eq_true rfl) dX9_init_51
set_option maxHeartbeats 4000000 in
set_option maxRecDepth 100000 in
theorem c_Table_init_1_3 (l : Launch) (e0 : Nat) (D : va_G) (k : Nat → ClassId) (h0 : Nat) : oCv l e0 D (oTy k) yX9_init wsX9_init ({ frames := 1, cells := 1, slots := 3, locals := 20 } : Room) [.ref h0, .int 1, .int 3] [(h0, .inr (13, [.int 0, .null, .int 0]))] (S := Nat) (fun (u : Nat) => True) (fun u => [(h0, .inr (13, [.int 1, .ref u, .int 0])), (u, .inl ((k 0), 3, .inl (fun _ => 0)))]) 1 3 := by
  refine ov_of (cc := cX9_init) (maxL := 3) (ret := none) (by decide +kernel) rfl (Nat.le_of_ble_eq_true rfl) ?_
  intro p e s m below meth c A ls hx hb hml hr hts hown hlocks hin hA hK hP hD hS hE hl
  have hl : lv_has ls 3 [(0, .ref h0), (1, .int 1), (2, .int 3)] := hl
  refine lv_aload_n hx hb dX9_init_0 rfl (lv_at hl 0 rfl) ?_
  refine W.objInit hx hb hown (hts (.methodLink RX9 3 objectInit) (by decide +kernel)) (hts (.instanceMethod objectInit) (by decide +kernel)) (hts (.code objectInit ⟨#[0xb1]⟩ 1 none) (by decide +kernel)) rfl (by rw [hml]; exact hl.1) rfl dX9_init_1 (Nat.le_of_ble_eq_true rfl) (Nat.le_of_ble_eq_true rfl) ?_
  refine W.eq (g2 := F0 m 4 ls []) rfl ?_
  refine lv_aload_n hx hb dX9_init_4 rfl (lv_at hl 0 rfl) ?_
  refine lv_iload_n hx hb dX9_init_5 rfl (lv_at hl 1 rfl) ?_
  refine lv_if_le (tgt := 13) hx hb dX9_init_6 (by decide) (fun c_6 => absurd c_6 (by decide)) (fun c_6 => ?_)
  refine lv_iload_n hx hb dX9_init_9 rfl (lv_at hl 1 rfl) ?_
  refine lv_goto (tgt := 14) hx hb dX9_init_10 (by decide) ?_
  refine va_putF (D := D) (ci := 13) (v := .int 1) (ty := .int) (C := RX9) (T := TX9) (N := 3) hx hb hts iw_X9_init_X9 tyX9 tyX9_ok nmX9 hown hK hP hD hS 0 rfl rfl 0 (by decide) (hts (.fieldLink RX9 9 "ModedMill$Table" "columns" "I") (by decide +kernel)) (fun _ h9 => h9) rfl hin rfl (by decide +kernel) rfl rfl (Nat.le_of_ble_eq_true rfl) dX9_init_14 (fun H locs hP hD hS => ?_)
  have hP : va_P D vwCl [(h0, .inr (13, [.int 1, .null, .int 0]))] H := hP
  have hD : va_D A [(h0, .inr (13, [.int 1, .null, .int 0]))] := hD
  refine lv_aload_n hx hb dX9_init_17 rfl (lv_at hl 0 rfl) ?_
  refine lv_iload_n hx hb dX9_init_18 rfl (lv_at hl 2 rfl) ?_
  refine lv_if_le (tgt := 37) hx hb dX9_init_19 (by decide) (fun c_19 => absurd c_19 (by decide)) (fun c_19 => ?_)
  refine lv_iload_n hx hb dX9_init_22 rfl (lv_at hl 2 rfl) ?_
  refine lv_ldc (v := 1000000) hx hb hown (hts (.constant RX9 15 (1000000)) (by decide +kernel)) dX9_init_23 ?_
  refine lv_icmp_ge (tgt := 37) hx hb dX9_init_25 (by decide) (fun c_25 => absurd c_25 (by decide)) (fun c_25 => ?_)
  refine lv_aload_n hx hb dX9_init_28 rfl (lv_at hl 0 rfl) ?_
  refine va_get (D := D) (ci := 13) (v := .int 1) (C := RX9) (T := TX9) (N := 3) hx hb hts iw_X9_init_X9 hown hK hP 0 rfl rfl 0 (by decide) (hts (.fieldLink RX9 9 "ModedMill$Table" "columns" "I") (by decide +kernel)) (fun _ h9 => h9) rfl dX9_init_29 ?_
  refine lv_iload_n hx hb dX9_init_32 rfl (lv_at hl 2 rfl) ?_
  refine lv_imul hx hb dX9_init_33 ?_
  refine o_top (v := 3) (by decide) ?_
  refine lv_goto (tgt := 41) hx hb dX9_init_34 (by decide) ?_
  refine o_newa (D := D) (atype := .int) (ty := .int) 0 (cA0 := (k 0)) rfl (hts (.arrayClass .int) (by decide +kernel)) rfl hK hP hD hS hA (a0 := (3, .inl (fun _ => 0))) (N' := 3) hx hb (fun _ => rfl) (by decide) (rfl) (Nat.le_of_ble_eq_true rfl) (Nat.le_of_ble_eq_true rfl) (Nat.le_of_ble_eq_true rfl) dX9_init_41 (fun q41_1 H hP hD hS => ?_)
  have hP : va_P D vwCl [(h0, .inr (13, [.int 1, .null, .int 0])), (q41_1, .inl ((k 0), 3, .inl (fun _ => 0)))] H := hP
  have hD : va_D A [(h0, .inr (13, [.int 1, .null, .int 0])), (q41_1, .inl ((k 0), 3, .inl (fun _ => 0)))] := hD
  refine va_put (D := D) (ci := 13) (v := .ref q41_1) (ty := (tyX9 1)) (C := RX9) (T := TX9) (N := 3) hx hb hts iw_X9_init_X9 tyX9 tyX9_ok nmX9 hown hK hP hD hS 0 rfl rfl 1 (by decide) (hts (.fieldLink RX9 16 "ModedMill$Table" "cells" "[I") (by decide +kernel)) (fun _ h9 => h9) rfl (by decide +kernel) rfl rfl (Nat.le_of_ble_eq_true rfl) dX9_init_43 (fun H locs hP hD hS => ?_)
  have hP : va_P D vwCl [(h0, .inr (13, [.int 1, .ref q41_1, .int 0])), (q41_1, .inl ((k 0), 3, .inl (fun _ => 0)))] H := hP
  have hD : va_D A [(h0, .inr (13, [.int 1, .ref q41_1, .int 0])), (q41_1, .inl ((k 0), 3, .inl (fun _ => 0)))] := hD
  refine lv_aload_n hx hb dX9_init_46 rfl (lv_at hl 0 rfl) ?_
  refine lv_iconst (v := 0) hx hb dX9_init_47 (by decide) ?_
  refine va_put (D := D) (ci := 13) (v := .int 0) (ty := .int) (C := RX9) (T := TX9) (N := 3) hx hb hts iw_X9_init_X9 tyX9 tyX9_ok nmX9 hown hK hP hD hS 0 rfl rfl 2 (by decide) (hts (.fieldLink RX9 20 "ModedMill$Table" "lines" "I") (by decide +kernel)) (fun _ h9 => h9) rfl (by decide +kernel) rfl rfl (Nat.le_of_ble_eq_true rfl) dX9_init_48 (fun H locs hP hD hS => ?_)
  have hP : va_P D vwCl [(h0, .inr (13, [.int 1, .ref q41_1, .int 0])), (q41_1, .inl ((k 0), 3, .inl (fun _ => 0)))] H := hP
  have hD : va_D A [(h0, .inr (13, [.int 1, .ref q41_1, .int 0])), (q41_1, .inl ((k 0), 3, .inl (fun _ => 0)))] := hD
  exact ov_ret hx hb hr hlocks q41_1 (trivial) hK (hP.sub [0, 1] rfl) (hD.sub [0, 1] (by decide) rfl) hS (Nat.le_of_ble_eq_true rfl) (Nat.le_of_ble_eq_true rfl) dX9_init_51
set_option maxHeartbeats 4000000 in
set_option maxRecDepth 100000 in
theorem c_Table_init_3_50 (l : Launch) (e0 : Nat) (D : va_G) (k : Nat → ClassId) (h0 : Nat) : oCv l e0 D (oTy k) yX9_init wsX9_init ({ frames := 1, cells := 1, slots := 150, locals := 20 } : Room) [.ref h0, .int 3, .int 50] [(h0, .inr (13, [.int 0, .null, .int 0]))] (S := Nat) (fun (u : Nat) => True) (fun u => [(h0, .inr (13, [.int 3, .ref u, .int 0])), (u, .inl ((k 0), 150, .inl (fun _ => 0)))]) 1 150 := by
  refine ov_of (cc := cX9_init) (maxL := 3) (ret := none) (by decide +kernel) rfl (Nat.le_of_ble_eq_true rfl) ?_
  intro p e s m below meth c A ls hx hb hml hr hts hown hlocks hin hA hK hP hD hS hE hl
  have hl : lv_has ls 3 [(0, .ref h0), (1, .int 3), (2, .int 50)] := hl
  refine lv_aload_n hx hb dX9_init_0 rfl (lv_at hl 0 rfl) ?_
  refine W.objInit hx hb hown (hts (.methodLink RX9 3 objectInit) (by decide +kernel)) (hts (.instanceMethod objectInit) (by decide +kernel)) (hts (.code objectInit ⟨#[0xb1]⟩ 1 none) (by decide +kernel)) rfl (by rw [hml]; exact hl.1) rfl dX9_init_1 (Nat.le_of_ble_eq_true rfl) (Nat.le_of_ble_eq_true rfl) ?_
  refine W.eq (g2 := F0 m 4 ls []) rfl ?_
  refine lv_aload_n hx hb dX9_init_4 rfl (lv_at hl 0 rfl) ?_
  refine lv_iload_n hx hb dX9_init_5 rfl (lv_at hl 1 rfl) ?_
  refine lv_if_le (tgt := 13) hx hb dX9_init_6 (by decide) (fun c_6 => absurd c_6 (by decide)) (fun c_6 => ?_)
  refine lv_iload_n hx hb dX9_init_9 rfl (lv_at hl 1 rfl) ?_
  refine lv_goto (tgt := 14) hx hb dX9_init_10 (by decide) ?_
  refine va_putF (D := D) (ci := 13) (v := .int 3) (ty := .int) (C := RX9) (T := TX9) (N := 3) hx hb hts iw_X9_init_X9 tyX9 tyX9_ok nmX9 hown hK hP hD hS 0 rfl rfl 0 (by decide) (hts (.fieldLink RX9 9 "ModedMill$Table" "columns" "I") (by decide +kernel)) (fun _ h9 => h9) rfl hin rfl (by decide +kernel) rfl rfl (Nat.le_of_ble_eq_true rfl) dX9_init_14 (fun H locs hP hD hS => ?_)
  have hP : va_P D vwCl [(h0, .inr (13, [.int 3, .null, .int 0]))] H := hP
  have hD : va_D A [(h0, .inr (13, [.int 3, .null, .int 0]))] := hD
  refine lv_aload_n hx hb dX9_init_17 rfl (lv_at hl 0 rfl) ?_
  refine lv_iload_n hx hb dX9_init_18 rfl (lv_at hl 2 rfl) ?_
  refine lv_if_le (tgt := 37) hx hb dX9_init_19 (by decide) (fun c_19 => absurd c_19 (by decide)) (fun c_19 => ?_)
  refine lv_iload_n hx hb dX9_init_22 rfl (lv_at hl 2 rfl) ?_
  refine lv_ldc (v := 1000000) hx hb hown (hts (.constant RX9 15 (1000000)) (by decide +kernel)) dX9_init_23 ?_
  refine lv_icmp_ge (tgt := 37) hx hb dX9_init_25 (by decide) (fun c_25 => absurd c_25 (by decide)) (fun c_25 => ?_)
  refine lv_aload_n hx hb dX9_init_28 rfl (lv_at hl 0 rfl) ?_
  refine va_get (D := D) (ci := 13) (v := .int 3) (C := RX9) (T := TX9) (N := 3) hx hb hts iw_X9_init_X9 hown hK hP 0 rfl rfl 0 (by decide) (hts (.fieldLink RX9 9 "ModedMill$Table" "columns" "I") (by decide +kernel)) (fun _ h9 => h9) rfl dX9_init_29 ?_
  refine lv_iload_n hx hb dX9_init_32 rfl (lv_at hl 2 rfl) ?_
  refine lv_imul hx hb dX9_init_33 ?_
  refine o_top (v := 150) (by decide) ?_
  refine lv_goto (tgt := 41) hx hb dX9_init_34 (by decide) ?_
  refine o_newa (D := D) (atype := .int) (ty := .int) 0 (cA0 := (k 0)) rfl (hts (.arrayClass .int) (by decide +kernel)) rfl hK hP hD hS hA (a0 := (150, .inl (fun _ => 0))) (N' := 150) hx hb (fun _ => rfl) (by decide) (rfl) (Nat.le_of_ble_eq_true rfl) (Nat.le_of_ble_eq_true rfl) (Nat.le_of_ble_eq_true rfl) dX9_init_41 (fun q41_1 H hP hD hS => ?_)
  have hP : va_P D vwCl [(h0, .inr (13, [.int 3, .null, .int 0])), (q41_1, .inl ((k 0), 150, .inl (fun _ => 0)))] H := hP
  have hD : va_D A [(h0, .inr (13, [.int 3, .null, .int 0])), (q41_1, .inl ((k 0), 150, .inl (fun _ => 0)))] := hD
  refine va_put (D := D) (ci := 13) (v := .ref q41_1) (ty := (tyX9 1)) (C := RX9) (T := TX9) (N := 3) hx hb hts iw_X9_init_X9 tyX9 tyX9_ok nmX9 hown hK hP hD hS 0 rfl rfl 1 (by decide) (hts (.fieldLink RX9 16 "ModedMill$Table" "cells" "[I") (by decide +kernel)) (fun _ h9 => h9) rfl (by decide +kernel) rfl rfl (Nat.le_of_ble_eq_true rfl) dX9_init_43 (fun H locs hP hD hS => ?_)
  have hP : va_P D vwCl [(h0, .inr (13, [.int 3, .ref q41_1, .int 0])), (q41_1, .inl ((k 0), 150, .inl (fun _ => 0)))] H := hP
  have hD : va_D A [(h0, .inr (13, [.int 3, .ref q41_1, .int 0])), (q41_1, .inl ((k 0), 150, .inl (fun _ => 0)))] := hD
  refine lv_aload_n hx hb dX9_init_46 rfl (lv_at hl 0 rfl) ?_
  refine lv_iconst (v := 0) hx hb dX9_init_47 (by decide) ?_
  refine va_put (D := D) (ci := 13) (v := .int 0) (ty := .int) (C := RX9) (T := TX9) (N := 3) hx hb hts iw_X9_init_X9 tyX9 tyX9_ok nmX9 hown hK hP hD hS 0 rfl rfl 2 (by decide) (hts (.fieldLink RX9 20 "ModedMill$Table" "lines" "I") (by decide +kernel)) (fun _ h9 => h9) rfl (by decide +kernel) rfl rfl (Nat.le_of_ble_eq_true rfl) dX9_init_48 (fun H locs hP hD hS => ?_)
  have hP : va_P D vwCl [(h0, .inr (13, [.int 3, .ref q41_1, .int 0])), (q41_1, .inl ((k 0), 150, .inl (fun _ => 0)))] H := hP
  have hD : va_D A [(h0, .inr (13, [.int 3, .ref q41_1, .int 0])), (q41_1, .inl ((k 0), 150, .inl (fun _ => 0)))] := hD
  exact ov_ret hx hb hr hlocks q41_1 (trivial) hK (hP.sub [0, 1] rfl) (hD.sub [0, 1] (by decide) rfl) hS (Nat.le_of_ble_eq_true rfl) (Nat.le_of_ble_eq_true rfl) dX9_init_51
set_option maxHeartbeats 4000000 in
set_option maxRecDepth 100000 in
theorem c_Table_init_2_80 (l : Launch) (e0 : Nat) (D : va_G) (k : Nat → ClassId) (h0 : Nat) : oCv l e0 D (oTy k) yX9_init wsX9_init ({ frames := 1, cells := 1, slots := 160, locals := 20 } : Room) [.ref h0, .int 2, .int 80] [(h0, .inr (13, [.int 0, .null, .int 0]))] (S := Nat) (fun (u : Nat) => True) (fun u => [(h0, .inr (13, [.int 2, .ref u, .int 0])), (u, .inl ((k 0), 160, .inl (fun _ => 0)))]) 1 160 := by
  refine ov_of (cc := cX9_init) (maxL := 3) (ret := none) (by decide +kernel) rfl (Nat.le_of_ble_eq_true rfl) ?_
  intro p e s m below meth c A ls hx hb hml hr hts hown hlocks hin hA hK hP hD hS hE hl
  have hl : lv_has ls 3 [(0, .ref h0), (1, .int 2), (2, .int 80)] := hl
  refine lv_aload_n hx hb dX9_init_0 rfl (lv_at hl 0 rfl) ?_
  refine W.objInit hx hb hown (hts (.methodLink RX9 3 objectInit) (by decide +kernel)) (hts (.instanceMethod objectInit) (by decide +kernel)) (hts (.code objectInit ⟨#[0xb1]⟩ 1 none) (by decide +kernel)) rfl (by rw [hml]; exact hl.1) rfl dX9_init_1 (Nat.le_of_ble_eq_true rfl) (Nat.le_of_ble_eq_true rfl) ?_
  refine W.eq (g2 := F0 m 4 ls []) rfl ?_
  refine lv_aload_n hx hb dX9_init_4 rfl (lv_at hl 0 rfl) ?_
  refine lv_iload_n hx hb dX9_init_5 rfl (lv_at hl 1 rfl) ?_
  refine lv_if_le (tgt := 13) hx hb dX9_init_6 (by decide) (fun c_6 => absurd c_6 (by decide)) (fun c_6 => ?_)
  refine lv_iload_n hx hb dX9_init_9 rfl (lv_at hl 1 rfl) ?_
  refine lv_goto (tgt := 14) hx hb dX9_init_10 (by decide) ?_
  refine va_putF (D := D) (ci := 13) (v := .int 2) (ty := .int) (C := RX9) (T := TX9) (N := 3) hx hb hts iw_X9_init_X9 tyX9 tyX9_ok nmX9 hown hK hP hD hS 0 rfl rfl 0 (by decide) (hts (.fieldLink RX9 9 "ModedMill$Table" "columns" "I") (by decide +kernel)) (fun _ h9 => h9) rfl hin rfl (by decide +kernel) rfl rfl (Nat.le_of_ble_eq_true rfl) dX9_init_14 (fun H locs hP hD hS => ?_)
  have hP : va_P D vwCl [(h0, .inr (13, [.int 2, .null, .int 0]))] H := hP
  have hD : va_D A [(h0, .inr (13, [.int 2, .null, .int 0]))] := hD
  refine lv_aload_n hx hb dX9_init_17 rfl (lv_at hl 0 rfl) ?_
  refine lv_iload_n hx hb dX9_init_18 rfl (lv_at hl 2 rfl) ?_
  refine lv_if_le (tgt := 37) hx hb dX9_init_19 (by decide) (fun c_19 => absurd c_19 (by decide)) (fun c_19 => ?_)
  refine lv_iload_n hx hb dX9_init_22 rfl (lv_at hl 2 rfl) ?_
  refine lv_ldc (v := 1000000) hx hb hown (hts (.constant RX9 15 (1000000)) (by decide +kernel)) dX9_init_23 ?_
  refine lv_icmp_ge (tgt := 37) hx hb dX9_init_25 (by decide) (fun c_25 => absurd c_25 (by decide)) (fun c_25 => ?_)
  refine lv_aload_n hx hb dX9_init_28 rfl (lv_at hl 0 rfl) ?_
  refine va_get (D := D) (ci := 13) (v := .int 2) (C := RX9) (T := TX9) (N := 3) hx hb hts iw_X9_init_X9 hown hK hP 0 rfl rfl 0 (by decide) (hts (.fieldLink RX9 9 "ModedMill$Table" "columns" "I") (by decide +kernel)) (fun _ h9 => h9) rfl dX9_init_29 ?_
  refine lv_iload_n hx hb dX9_init_32 rfl (lv_at hl 2 rfl) ?_
  refine lv_imul hx hb dX9_init_33 ?_
  refine o_top (v := 160) (by decide) ?_
  refine lv_goto (tgt := 41) hx hb dX9_init_34 (by decide) ?_
  refine o_newa (D := D) (atype := .int) (ty := .int) 0 (cA0 := (k 0)) rfl (hts (.arrayClass .int) (by decide +kernel)) rfl hK hP hD hS hA (a0 := (160, .inl (fun _ => 0))) (N' := 160) hx hb (fun _ => rfl) (by decide) (rfl) (Nat.le_of_ble_eq_true rfl) (Nat.le_of_ble_eq_true rfl) (Nat.le_of_ble_eq_true rfl) dX9_init_41 (fun q41_1 H hP hD hS => ?_)
  have hP : va_P D vwCl [(h0, .inr (13, [.int 2, .null, .int 0])), (q41_1, .inl ((k 0), 160, .inl (fun _ => 0)))] H := hP
  have hD : va_D A [(h0, .inr (13, [.int 2, .null, .int 0])), (q41_1, .inl ((k 0), 160, .inl (fun _ => 0)))] := hD
  refine va_put (D := D) (ci := 13) (v := .ref q41_1) (ty := (tyX9 1)) (C := RX9) (T := TX9) (N := 3) hx hb hts iw_X9_init_X9 tyX9 tyX9_ok nmX9 hown hK hP hD hS 0 rfl rfl 1 (by decide) (hts (.fieldLink RX9 16 "ModedMill$Table" "cells" "[I") (by decide +kernel)) (fun _ h9 => h9) rfl (by decide +kernel) rfl rfl (Nat.le_of_ble_eq_true rfl) dX9_init_43 (fun H locs hP hD hS => ?_)
  have hP : va_P D vwCl [(h0, .inr (13, [.int 2, .ref q41_1, .int 0])), (q41_1, .inl ((k 0), 160, .inl (fun _ => 0)))] H := hP
  have hD : va_D A [(h0, .inr (13, [.int 2, .ref q41_1, .int 0])), (q41_1, .inl ((k 0), 160, .inl (fun _ => 0)))] := hD
  refine lv_aload_n hx hb dX9_init_46 rfl (lv_at hl 0 rfl) ?_
  refine lv_iconst (v := 0) hx hb dX9_init_47 (by decide) ?_
  refine va_put (D := D) (ci := 13) (v := .int 0) (ty := .int) (C := RX9) (T := TX9) (N := 3) hx hb hts iw_X9_init_X9 tyX9 tyX9_ok nmX9 hown hK hP hD hS 0 rfl rfl 2 (by decide) (hts (.fieldLink RX9 20 "ModedMill$Table" "lines" "I") (by decide +kernel)) (fun _ h9 => h9) rfl (by decide +kernel) rfl rfl (Nat.le_of_ble_eq_true rfl) dX9_init_48 (fun H locs hP hD hS => ?_)
  have hP : va_P D vwCl [(h0, .inr (13, [.int 2, .ref q41_1, .int 0])), (q41_1, .inl ((k 0), 160, .inl (fun _ => 0)))] H := hP
  have hD : va_D A [(h0, .inr (13, [.int 2, .ref q41_1, .int 0])), (q41_1, .inl ((k 0), 160, .inl (fun _ => 0)))] := hD
  exact ov_ret hx hb hr hlocks q41_1 (trivial) hK (hP.sub [0, 1] rfl) (hD.sub [0, 1] (by decide) rfl) hS (Nat.le_of_ble_eq_true rfl) (Nat.le_of_ble_eq_true rfl) dX9_init_51
set_option maxHeartbeats 4000000 in
set_option maxRecDepth 100000 in
theorem c_Table_init_3_30 (l : Launch) (e0 : Nat) (D : va_G) (k : Nat → ClassId) (h0 : Nat) : oCv l e0 D (oTy k) yX9_init wsX9_init ({ frames := 1, cells := 1, slots := 90, locals := 20 } : Room) [.ref h0, .int 3, .int 30] [(h0, .inr (13, [.int 0, .null, .int 0]))] (S := Nat) (fun (u : Nat) => True) (fun u => [(h0, .inr (13, [.int 3, .ref u, .int 0])), (u, .inl ((k 0), 90, .inl (fun _ => 0)))]) 1 90 := by
  refine ov_of (cc := cX9_init) (maxL := 3) (ret := none) (by decide +kernel) rfl (Nat.le_of_ble_eq_true rfl) ?_
  intro p e s m below meth c A ls hx hb hml hr hts hown hlocks hin hA hK hP hD hS hE hl
  have hl : lv_has ls 3 [(0, .ref h0), (1, .int 3), (2, .int 30)] := hl
  refine lv_aload_n hx hb dX9_init_0 rfl (lv_at hl 0 rfl) ?_
  refine W.objInit hx hb hown (hts (.methodLink RX9 3 objectInit) (by decide +kernel)) (hts (.instanceMethod objectInit) (by decide +kernel)) (hts (.code objectInit ⟨#[0xb1]⟩ 1 none) (by decide +kernel)) rfl (by rw [hml]; exact hl.1) rfl dX9_init_1 (Nat.le_of_ble_eq_true rfl) (Nat.le_of_ble_eq_true rfl) ?_
  refine W.eq (g2 := F0 m 4 ls []) rfl ?_
  refine lv_aload_n hx hb dX9_init_4 rfl (lv_at hl 0 rfl) ?_
  refine lv_iload_n hx hb dX9_init_5 rfl (lv_at hl 1 rfl) ?_
  refine lv_if_le (tgt := 13) hx hb dX9_init_6 (by decide) (fun c_6 => absurd c_6 (by decide)) (fun c_6 => ?_)
  refine lv_iload_n hx hb dX9_init_9 rfl (lv_at hl 1 rfl) ?_
  refine lv_goto (tgt := 14) hx hb dX9_init_10 (by decide) ?_
  refine va_putF (D := D) (ci := 13) (v := .int 3) (ty := .int) (C := RX9) (T := TX9) (N := 3) hx hb hts iw_X9_init_X9 tyX9 tyX9_ok nmX9 hown hK hP hD hS 0 rfl rfl 0 (by decide) (hts (.fieldLink RX9 9 "ModedMill$Table" "columns" "I") (by decide +kernel)) (fun _ h9 => h9) rfl hin rfl (by decide +kernel) rfl rfl (Nat.le_of_ble_eq_true rfl) dX9_init_14 (fun H locs hP hD hS => ?_)
  have hP : va_P D vwCl [(h0, .inr (13, [.int 3, .null, .int 0]))] H := hP
  have hD : va_D A [(h0, .inr (13, [.int 3, .null, .int 0]))] := hD
  refine lv_aload_n hx hb dX9_init_17 rfl (lv_at hl 0 rfl) ?_
  refine lv_iload_n hx hb dX9_init_18 rfl (lv_at hl 2 rfl) ?_
  refine lv_if_le (tgt := 37) hx hb dX9_init_19 (by decide) (fun c_19 => absurd c_19 (by decide)) (fun c_19 => ?_)
  refine lv_iload_n hx hb dX9_init_22 rfl (lv_at hl 2 rfl) ?_
  refine lv_ldc (v := 1000000) hx hb hown (hts (.constant RX9 15 (1000000)) (by decide +kernel)) dX9_init_23 ?_
  refine lv_icmp_ge (tgt := 37) hx hb dX9_init_25 (by decide) (fun c_25 => absurd c_25 (by decide)) (fun c_25 => ?_)
  refine lv_aload_n hx hb dX9_init_28 rfl (lv_at hl 0 rfl) ?_
  refine va_get (D := D) (ci := 13) (v := .int 3) (C := RX9) (T := TX9) (N := 3) hx hb hts iw_X9_init_X9 hown hK hP 0 rfl rfl 0 (by decide) (hts (.fieldLink RX9 9 "ModedMill$Table" "columns" "I") (by decide +kernel)) (fun _ h9 => h9) rfl dX9_init_29 ?_
  refine lv_iload_n hx hb dX9_init_32 rfl (lv_at hl 2 rfl) ?_
  refine lv_imul hx hb dX9_init_33 ?_
  refine o_top (v := 90) (by decide) ?_
  refine lv_goto (tgt := 41) hx hb dX9_init_34 (by decide) ?_
  refine o_newa (D := D) (atype := .int) (ty := .int) 0 (cA0 := (k 0)) rfl (hts (.arrayClass .int) (by decide +kernel)) rfl hK hP hD hS hA (a0 := (90, .inl (fun _ => 0))) (N' := 90) hx hb (fun _ => rfl) (by decide) (rfl) (Nat.le_of_ble_eq_true rfl) (Nat.le_of_ble_eq_true rfl) (Nat.le_of_ble_eq_true rfl) dX9_init_41 (fun q41_1 H hP hD hS => ?_)
  have hP : va_P D vwCl [(h0, .inr (13, [.int 3, .null, .int 0])), (q41_1, .inl ((k 0), 90, .inl (fun _ => 0)))] H := hP
  have hD : va_D A [(h0, .inr (13, [.int 3, .null, .int 0])), (q41_1, .inl ((k 0), 90, .inl (fun _ => 0)))] := hD
  refine va_put (D := D) (ci := 13) (v := .ref q41_1) (ty := (tyX9 1)) (C := RX9) (T := TX9) (N := 3) hx hb hts iw_X9_init_X9 tyX9 tyX9_ok nmX9 hown hK hP hD hS 0 rfl rfl 1 (by decide) (hts (.fieldLink RX9 16 "ModedMill$Table" "cells" "[I") (by decide +kernel)) (fun _ h9 => h9) rfl (by decide +kernel) rfl rfl (Nat.le_of_ble_eq_true rfl) dX9_init_43 (fun H locs hP hD hS => ?_)
  have hP : va_P D vwCl [(h0, .inr (13, [.int 3, .ref q41_1, .int 0])), (q41_1, .inl ((k 0), 90, .inl (fun _ => 0)))] H := hP
  have hD : va_D A [(h0, .inr (13, [.int 3, .ref q41_1, .int 0])), (q41_1, .inl ((k 0), 90, .inl (fun _ => 0)))] := hD
  refine lv_aload_n hx hb dX9_init_46 rfl (lv_at hl 0 rfl) ?_
  refine lv_iconst (v := 0) hx hb dX9_init_47 (by decide) ?_
  refine va_put (D := D) (ci := 13) (v := .int 0) (ty := .int) (C := RX9) (T := TX9) (N := 3) hx hb hts iw_X9_init_X9 tyX9 tyX9_ok nmX9 hown hK hP hD hS 0 rfl rfl 2 (by decide) (hts (.fieldLink RX9 20 "ModedMill$Table" "lines" "I") (by decide +kernel)) (fun _ h9 => h9) rfl (by decide +kernel) rfl rfl (Nat.le_of_ble_eq_true rfl) dX9_init_48 (fun H locs hP hD hS => ?_)
  have hP : va_P D vwCl [(h0, .inr (13, [.int 3, .ref q41_1, .int 0])), (q41_1, .inl ((k 0), 90, .inl (fun _ => 0)))] H := hP
  have hD : va_D A [(h0, .inr (13, [.int 3, .ref q41_1, .int 0])), (q41_1, .inl ((k 0), 90, .inl (fun _ => 0)))] := hD
  exact ov_ret hx hb hr hlocks q41_1 (trivial) hK (hP.sub [0, 1] rfl) (hD.sub [0, 1] (by decide) rfl) hS (Nat.le_of_ble_eq_true rfl) (Nat.le_of_ble_eq_true rfl) dX9_init_51
set_option maxHeartbeats 4000000 in
set_option maxRecDepth 100000 in
theorem c_Table_init_2_30 (l : Launch) (e0 : Nat) (D : va_G) (k : Nat → ClassId) (h0 : Nat) : oCv l e0 D (oTy k) yX9_init wsX9_init ({ frames := 1, cells := 1, slots := 60, locals := 20 } : Room) [.ref h0, .int 2, .int 30] [(h0, .inr (13, [.int 0, .null, .int 0]))] (S := Nat) (fun (u : Nat) => True) (fun u => [(h0, .inr (13, [.int 2, .ref u, .int 0])), (u, .inl ((k 0), 60, .inl (fun _ => 0)))]) 1 60 := by
  refine ov_of (cc := cX9_init) (maxL := 3) (ret := none) (by decide +kernel) rfl (Nat.le_of_ble_eq_true rfl) ?_
  intro p e s m below meth c A ls hx hb hml hr hts hown hlocks hin hA hK hP hD hS hE hl
  have hl : lv_has ls 3 [(0, .ref h0), (1, .int 2), (2, .int 30)] := hl
  refine lv_aload_n hx hb dX9_init_0 rfl (lv_at hl 0 rfl) ?_
  refine W.objInit hx hb hown (hts (.methodLink RX9 3 objectInit) (by decide +kernel)) (hts (.instanceMethod objectInit) (by decide +kernel)) (hts (.code objectInit ⟨#[0xb1]⟩ 1 none) (by decide +kernel)) rfl (by rw [hml]; exact hl.1) rfl dX9_init_1 (Nat.le_of_ble_eq_true rfl) (Nat.le_of_ble_eq_true rfl) ?_
  refine W.eq (g2 := F0 m 4 ls []) rfl ?_
  refine lv_aload_n hx hb dX9_init_4 rfl (lv_at hl 0 rfl) ?_
  refine lv_iload_n hx hb dX9_init_5 rfl (lv_at hl 1 rfl) ?_
  refine lv_if_le (tgt := 13) hx hb dX9_init_6 (by decide) (fun c_6 => absurd c_6 (by decide)) (fun c_6 => ?_)
  refine lv_iload_n hx hb dX9_init_9 rfl (lv_at hl 1 rfl) ?_
  refine lv_goto (tgt := 14) hx hb dX9_init_10 (by decide) ?_
  refine va_putF (D := D) (ci := 13) (v := .int 2) (ty := .int) (C := RX9) (T := TX9) (N := 3) hx hb hts iw_X9_init_X9 tyX9 tyX9_ok nmX9 hown hK hP hD hS 0 rfl rfl 0 (by decide) (hts (.fieldLink RX9 9 "ModedMill$Table" "columns" "I") (by decide +kernel)) (fun _ h9 => h9) rfl hin rfl (by decide +kernel) rfl rfl (Nat.le_of_ble_eq_true rfl) dX9_init_14 (fun H locs hP hD hS => ?_)
  have hP : va_P D vwCl [(h0, .inr (13, [.int 2, .null, .int 0]))] H := hP
  have hD : va_D A [(h0, .inr (13, [.int 2, .null, .int 0]))] := hD
  refine lv_aload_n hx hb dX9_init_17 rfl (lv_at hl 0 rfl) ?_
  refine lv_iload_n hx hb dX9_init_18 rfl (lv_at hl 2 rfl) ?_
  refine lv_if_le (tgt := 37) hx hb dX9_init_19 (by decide) (fun c_19 => absurd c_19 (by decide)) (fun c_19 => ?_)
  refine lv_iload_n hx hb dX9_init_22 rfl (lv_at hl 2 rfl) ?_
  refine lv_ldc (v := 1000000) hx hb hown (hts (.constant RX9 15 (1000000)) (by decide +kernel)) dX9_init_23 ?_
  refine lv_icmp_ge (tgt := 37) hx hb dX9_init_25 (by decide) (fun c_25 => absurd c_25 (by decide)) (fun c_25 => ?_)
  refine lv_aload_n hx hb dX9_init_28 rfl (lv_at hl 0 rfl) ?_
  refine va_get (D := D) (ci := 13) (v := .int 2) (C := RX9) (T := TX9) (N := 3) hx hb hts iw_X9_init_X9 hown hK hP 0 rfl rfl 0 (by decide) (hts (.fieldLink RX9 9 "ModedMill$Table" "columns" "I") (by decide +kernel)) (fun _ h9 => h9) rfl dX9_init_29 ?_
  refine lv_iload_n hx hb dX9_init_32 rfl (lv_at hl 2 rfl) ?_
  refine lv_imul hx hb dX9_init_33 ?_
  refine o_top (v := 60) (by decide) ?_
  refine lv_goto (tgt := 41) hx hb dX9_init_34 (by decide) ?_
  refine o_newa (D := D) (atype := .int) (ty := .int) 0 (cA0 := (k 0)) rfl (hts (.arrayClass .int) (by decide +kernel)) rfl hK hP hD hS hA (a0 := (60, .inl (fun _ => 0))) (N' := 60) hx hb (fun _ => rfl) (by decide) (rfl) (Nat.le_of_ble_eq_true rfl) (Nat.le_of_ble_eq_true rfl) (Nat.le_of_ble_eq_true rfl) dX9_init_41 (fun q41_1 H hP hD hS => ?_)
  have hP : va_P D vwCl [(h0, .inr (13, [.int 2, .null, .int 0])), (q41_1, .inl ((k 0), 60, .inl (fun _ => 0)))] H := hP
  have hD : va_D A [(h0, .inr (13, [.int 2, .null, .int 0])), (q41_1, .inl ((k 0), 60, .inl (fun _ => 0)))] := hD
  refine va_put (D := D) (ci := 13) (v := .ref q41_1) (ty := (tyX9 1)) (C := RX9) (T := TX9) (N := 3) hx hb hts iw_X9_init_X9 tyX9 tyX9_ok nmX9 hown hK hP hD hS 0 rfl rfl 1 (by decide) (hts (.fieldLink RX9 16 "ModedMill$Table" "cells" "[I") (by decide +kernel)) (fun _ h9 => h9) rfl (by decide +kernel) rfl rfl (Nat.le_of_ble_eq_true rfl) dX9_init_43 (fun H locs hP hD hS => ?_)
  have hP : va_P D vwCl [(h0, .inr (13, [.int 2, .ref q41_1, .int 0])), (q41_1, .inl ((k 0), 60, .inl (fun _ => 0)))] H := hP
  have hD : va_D A [(h0, .inr (13, [.int 2, .ref q41_1, .int 0])), (q41_1, .inl ((k 0), 60, .inl (fun _ => 0)))] := hD
  refine lv_aload_n hx hb dX9_init_46 rfl (lv_at hl 0 rfl) ?_
  refine lv_iconst (v := 0) hx hb dX9_init_47 (by decide) ?_
  refine va_put (D := D) (ci := 13) (v := .int 0) (ty := .int) (C := RX9) (T := TX9) (N := 3) hx hb hts iw_X9_init_X9 tyX9 tyX9_ok nmX9 hown hK hP hD hS 0 rfl rfl 2 (by decide) (hts (.fieldLink RX9 20 "ModedMill$Table" "lines" "I") (by decide +kernel)) (fun _ h9 => h9) rfl (by decide +kernel) rfl rfl (Nat.le_of_ble_eq_true rfl) dX9_init_48 (fun H locs hP hD hS => ?_)
  have hP : va_P D vwCl [(h0, .inr (13, [.int 2, .ref q41_1, .int 0])), (q41_1, .inl ((k 0), 60, .inl (fun _ => 0)))] H := hP
  have hD : va_D A [(h0, .inr (13, [.int 2, .ref q41_1, .int 0])), (q41_1, .inl ((k 0), 60, .inl (fun _ => 0)))] := hD
  exact ov_ret hx hb hr hlocks q41_1 (trivial) hK (hP.sub [0, 1] rfl) (hD.sub [0, 1] (by decide) rfl) hS (Nat.le_of_ble_eq_true rfl) (Nat.le_of_ble_eq_true rfl) dX9_init_51
set_option maxHeartbeats 4000000 in
set_option maxRecDepth 100000 in
theorem c_Table_init_5_64 (l : Launch) (e0 : Nat) (D : va_G) (k : Nat → ClassId) (h0 : Nat) : oCv l e0 D (oTy k) yX9_init wsX9_init ({ frames := 1, cells := 1, slots := 320, locals := 20 } : Room) [.ref h0, .int 5, .int 64] [(h0, .inr (13, [.int 0, .null, .int 0]))] (S := Nat) (fun (u : Nat) => True) (fun u => [(h0, .inr (13, [.int 5, .ref u, .int 0])), (u, .inl ((k 0), 320, .inl (fun _ => 0)))]) 1 320 := by
  refine ov_of (cc := cX9_init) (maxL := 3) (ret := none) (by decide +kernel) rfl (Nat.le_of_ble_eq_true rfl) ?_
  intro p e s m below meth c A ls hx hb hml hr hts hown hlocks hin hA hK hP hD hS hE hl
  have hl : lv_has ls 3 [(0, .ref h0), (1, .int 5), (2, .int 64)] := hl
  refine lv_aload_n hx hb dX9_init_0 rfl (lv_at hl 0 rfl) ?_
  refine W.objInit hx hb hown (hts (.methodLink RX9 3 objectInit) (by decide +kernel)) (hts (.instanceMethod objectInit) (by decide +kernel)) (hts (.code objectInit ⟨#[0xb1]⟩ 1 none) (by decide +kernel)) rfl (by rw [hml]; exact hl.1) rfl dX9_init_1 (Nat.le_of_ble_eq_true rfl) (Nat.le_of_ble_eq_true rfl) ?_
  refine W.eq (g2 := F0 m 4 ls []) rfl ?_
  refine lv_aload_n hx hb dX9_init_4 rfl (lv_at hl 0 rfl) ?_
  refine lv_iload_n hx hb dX9_init_5 rfl (lv_at hl 1 rfl) ?_
  refine lv_if_le (tgt := 13) hx hb dX9_init_6 (by decide) (fun c_6 => absurd c_6 (by decide)) (fun c_6 => ?_)
  refine lv_iload_n hx hb dX9_init_9 rfl (lv_at hl 1 rfl) ?_
  refine lv_goto (tgt := 14) hx hb dX9_init_10 (by decide) ?_
  refine va_putF (D := D) (ci := 13) (v := .int 5) (ty := .int) (C := RX9) (T := TX9) (N := 3) hx hb hts iw_X9_init_X9 tyX9 tyX9_ok nmX9 hown hK hP hD hS 0 rfl rfl 0 (by decide) (hts (.fieldLink RX9 9 "ModedMill$Table" "columns" "I") (by decide +kernel)) (fun _ h9 => h9) rfl hin rfl (by decide +kernel) rfl rfl (Nat.le_of_ble_eq_true rfl) dX9_init_14 (fun H locs hP hD hS => ?_)
  have hP : va_P D vwCl [(h0, .inr (13, [.int 5, .null, .int 0]))] H := hP
  have hD : va_D A [(h0, .inr (13, [.int 5, .null, .int 0]))] := hD
  refine lv_aload_n hx hb dX9_init_17 rfl (lv_at hl 0 rfl) ?_
  refine lv_iload_n hx hb dX9_init_18 rfl (lv_at hl 2 rfl) ?_
  refine lv_if_le (tgt := 37) hx hb dX9_init_19 (by decide) (fun c_19 => absurd c_19 (by decide)) (fun c_19 => ?_)
  refine lv_iload_n hx hb dX9_init_22 rfl (lv_at hl 2 rfl) ?_
  refine lv_ldc (v := 1000000) hx hb hown (hts (.constant RX9 15 (1000000)) (by decide +kernel)) dX9_init_23 ?_
  refine lv_icmp_ge (tgt := 37) hx hb dX9_init_25 (by decide) (fun c_25 => absurd c_25 (by decide)) (fun c_25 => ?_)
  refine lv_aload_n hx hb dX9_init_28 rfl (lv_at hl 0 rfl) ?_
  refine va_get (D := D) (ci := 13) (v := .int 5) (C := RX9) (T := TX9) (N := 3) hx hb hts iw_X9_init_X9 hown hK hP 0 rfl rfl 0 (by decide) (hts (.fieldLink RX9 9 "ModedMill$Table" "columns" "I") (by decide +kernel)) (fun _ h9 => h9) rfl dX9_init_29 ?_
  refine lv_iload_n hx hb dX9_init_32 rfl (lv_at hl 2 rfl) ?_
  refine lv_imul hx hb dX9_init_33 ?_
  refine o_top (v := 320) (by decide) ?_
  refine lv_goto (tgt := 41) hx hb dX9_init_34 (by decide) ?_
  refine o_newa (D := D) (atype := .int) (ty := .int) 0 (cA0 := (k 0)) rfl (hts (.arrayClass .int) (by decide +kernel)) rfl hK hP hD hS hA (a0 := (320, .inl (fun _ => 0))) (N' := 320) hx hb (fun _ => rfl) (by decide) (rfl) (Nat.le_of_ble_eq_true rfl) (Nat.le_of_ble_eq_true rfl) (Nat.le_of_ble_eq_true rfl) dX9_init_41 (fun q41_1 H hP hD hS => ?_)
  have hP : va_P D vwCl [(h0, .inr (13, [.int 5, .null, .int 0])), (q41_1, .inl ((k 0), 320, .inl (fun _ => 0)))] H := hP
  have hD : va_D A [(h0, .inr (13, [.int 5, .null, .int 0])), (q41_1, .inl ((k 0), 320, .inl (fun _ => 0)))] := hD
  refine va_put (D := D) (ci := 13) (v := .ref q41_1) (ty := (tyX9 1)) (C := RX9) (T := TX9) (N := 3) hx hb hts iw_X9_init_X9 tyX9 tyX9_ok nmX9 hown hK hP hD hS 0 rfl rfl 1 (by decide) (hts (.fieldLink RX9 16 "ModedMill$Table" "cells" "[I") (by decide +kernel)) (fun _ h9 => h9) rfl (by decide +kernel) rfl rfl (Nat.le_of_ble_eq_true rfl) dX9_init_43 (fun H locs hP hD hS => ?_)
  have hP : va_P D vwCl [(h0, .inr (13, [.int 5, .ref q41_1, .int 0])), (q41_1, .inl ((k 0), 320, .inl (fun _ => 0)))] H := hP
  have hD : va_D A [(h0, .inr (13, [.int 5, .ref q41_1, .int 0])), (q41_1, .inl ((k 0), 320, .inl (fun _ => 0)))] := hD
  refine lv_aload_n hx hb dX9_init_46 rfl (lv_at hl 0 rfl) ?_
  refine lv_iconst (v := 0) hx hb dX9_init_47 (by decide) ?_
  refine va_put (D := D) (ci := 13) (v := .int 0) (ty := .int) (C := RX9) (T := TX9) (N := 3) hx hb hts iw_X9_init_X9 tyX9 tyX9_ok nmX9 hown hK hP hD hS 0 rfl rfl 2 (by decide) (hts (.fieldLink RX9 20 "ModedMill$Table" "lines" "I") (by decide +kernel)) (fun _ h9 => h9) rfl (by decide +kernel) rfl rfl (Nat.le_of_ble_eq_true rfl) dX9_init_48 (fun H locs hP hD hS => ?_)
  have hP : va_P D vwCl [(h0, .inr (13, [.int 5, .ref q41_1, .int 0])), (q41_1, .inl ((k 0), 320, .inl (fun _ => 0)))] H := hP
  have hD : va_D A [(h0, .inr (13, [.int 5, .ref q41_1, .int 0])), (q41_1, .inl ((k 0), 320, .inl (fun _ => 0)))] := hD
  exact ov_ret hx hb hr hlocks q41_1 (trivial) hK (hP.sub [0, 1] rfl) (hD.sub [0, 1] (by decide) rfl) hS (Nat.le_of_ble_eq_true rfl) (Nat.le_of_ble_eq_true rfl) dX9_init_51
set_option maxHeartbeats 4000000 in
set_option maxRecDepth 100000 in
theorem c_Table_init_3_64 (l : Launch) (e0 : Nat) (D : va_G) (k : Nat → ClassId) (h0 : Nat) : oCv l e0 D (oTy k) yX9_init wsX9_init ({ frames := 1, cells := 1, slots := 192, locals := 20 } : Room) [.ref h0, .int 3, .int 64] [(h0, .inr (13, [.int 0, .null, .int 0]))] (S := Nat) (fun (u : Nat) => True) (fun u => [(h0, .inr (13, [.int 3, .ref u, .int 0])), (u, .inl ((k 0), 192, .inl (fun _ => 0)))]) 1 192 := by
  refine ov_of (cc := cX9_init) (maxL := 3) (ret := none) (by decide +kernel) rfl (Nat.le_of_ble_eq_true rfl) ?_
  intro p e s m below meth c A ls hx hb hml hr hts hown hlocks hin hA hK hP hD hS hE hl
  have hl : lv_has ls 3 [(0, .ref h0), (1, .int 3), (2, .int 64)] := hl
  refine lv_aload_n hx hb dX9_init_0 rfl (lv_at hl 0 rfl) ?_
  refine W.objInit hx hb hown (hts (.methodLink RX9 3 objectInit) (by decide +kernel)) (hts (.instanceMethod objectInit) (by decide +kernel)) (hts (.code objectInit ⟨#[0xb1]⟩ 1 none) (by decide +kernel)) rfl (by rw [hml]; exact hl.1) rfl dX9_init_1 (Nat.le_of_ble_eq_true rfl) (Nat.le_of_ble_eq_true rfl) ?_
  refine W.eq (g2 := F0 m 4 ls []) rfl ?_
  refine lv_aload_n hx hb dX9_init_4 rfl (lv_at hl 0 rfl) ?_
  refine lv_iload_n hx hb dX9_init_5 rfl (lv_at hl 1 rfl) ?_
  refine lv_if_le (tgt := 13) hx hb dX9_init_6 (by decide) (fun c_6 => absurd c_6 (by decide)) (fun c_6 => ?_)
  refine lv_iload_n hx hb dX9_init_9 rfl (lv_at hl 1 rfl) ?_
  refine lv_goto (tgt := 14) hx hb dX9_init_10 (by decide) ?_
  refine va_putF (D := D) (ci := 13) (v := .int 3) (ty := .int) (C := RX9) (T := TX9) (N := 3) hx hb hts iw_X9_init_X9 tyX9 tyX9_ok nmX9 hown hK hP hD hS 0 rfl rfl 0 (by decide) (hts (.fieldLink RX9 9 "ModedMill$Table" "columns" "I") (by decide +kernel)) (fun _ h9 => h9) rfl hin rfl (by decide +kernel) rfl rfl (Nat.le_of_ble_eq_true rfl) dX9_init_14 (fun H locs hP hD hS => ?_)
  have hP : va_P D vwCl [(h0, .inr (13, [.int 3, .null, .int 0]))] H := hP
  have hD : va_D A [(h0, .inr (13, [.int 3, .null, .int 0]))] := hD
  refine lv_aload_n hx hb dX9_init_17 rfl (lv_at hl 0 rfl) ?_
  refine lv_iload_n hx hb dX9_init_18 rfl (lv_at hl 2 rfl) ?_
  refine lv_if_le (tgt := 37) hx hb dX9_init_19 (by decide) (fun c_19 => absurd c_19 (by decide)) (fun c_19 => ?_)
  refine lv_iload_n hx hb dX9_init_22 rfl (lv_at hl 2 rfl) ?_
  refine lv_ldc (v := 1000000) hx hb hown (hts (.constant RX9 15 (1000000)) (by decide +kernel)) dX9_init_23 ?_
  refine lv_icmp_ge (tgt := 37) hx hb dX9_init_25 (by decide) (fun c_25 => absurd c_25 (by decide)) (fun c_25 => ?_)
  refine lv_aload_n hx hb dX9_init_28 rfl (lv_at hl 0 rfl) ?_
  refine va_get (D := D) (ci := 13) (v := .int 3) (C := RX9) (T := TX9) (N := 3) hx hb hts iw_X9_init_X9 hown hK hP 0 rfl rfl 0 (by decide) (hts (.fieldLink RX9 9 "ModedMill$Table" "columns" "I") (by decide +kernel)) (fun _ h9 => h9) rfl dX9_init_29 ?_
  refine lv_iload_n hx hb dX9_init_32 rfl (lv_at hl 2 rfl) ?_
  refine lv_imul hx hb dX9_init_33 ?_
  refine o_top (v := 192) (by decide) ?_
  refine lv_goto (tgt := 41) hx hb dX9_init_34 (by decide) ?_
  refine o_newa (D := D) (atype := .int) (ty := .int) 0 (cA0 := (k 0)) rfl (hts (.arrayClass .int) (by decide +kernel)) rfl hK hP hD hS hA (a0 := (192, .inl (fun _ => 0))) (N' := 192) hx hb (fun _ => rfl) (by decide) (rfl) (Nat.le_of_ble_eq_true rfl) (Nat.le_of_ble_eq_true rfl) (Nat.le_of_ble_eq_true rfl) dX9_init_41 (fun q41_1 H hP hD hS => ?_)
  have hP : va_P D vwCl [(h0, .inr (13, [.int 3, .null, .int 0])), (q41_1, .inl ((k 0), 192, .inl (fun _ => 0)))] H := hP
  have hD : va_D A [(h0, .inr (13, [.int 3, .null, .int 0])), (q41_1, .inl ((k 0), 192, .inl (fun _ => 0)))] := hD
  refine va_put (D := D) (ci := 13) (v := .ref q41_1) (ty := (tyX9 1)) (C := RX9) (T := TX9) (N := 3) hx hb hts iw_X9_init_X9 tyX9 tyX9_ok nmX9 hown hK hP hD hS 0 rfl rfl 1 (by decide) (hts (.fieldLink RX9 16 "ModedMill$Table" "cells" "[I") (by decide +kernel)) (fun _ h9 => h9) rfl (by decide +kernel) rfl rfl (Nat.le_of_ble_eq_true rfl) dX9_init_43 (fun H locs hP hD hS => ?_)
  have hP : va_P D vwCl [(h0, .inr (13, [.int 3, .ref q41_1, .int 0])), (q41_1, .inl ((k 0), 192, .inl (fun _ => 0)))] H := hP
  have hD : va_D A [(h0, .inr (13, [.int 3, .ref q41_1, .int 0])), (q41_1, .inl ((k 0), 192, .inl (fun _ => 0)))] := hD
  refine lv_aload_n hx hb dX9_init_46 rfl (lv_at hl 0 rfl) ?_
  refine lv_iconst (v := 0) hx hb dX9_init_47 (by decide) ?_
  refine va_put (D := D) (ci := 13) (v := .int 0) (ty := .int) (C := RX9) (T := TX9) (N := 3) hx hb hts iw_X9_init_X9 tyX9 tyX9_ok nmX9 hown hK hP hD hS 0 rfl rfl 2 (by decide) (hts (.fieldLink RX9 20 "ModedMill$Table" "lines" "I") (by decide +kernel)) (fun _ h9 => h9) rfl (by decide +kernel) rfl rfl (Nat.le_of_ble_eq_true rfl) dX9_init_48 (fun H locs hP hD hS => ?_)
  have hP : va_P D vwCl [(h0, .inr (13, [.int 3, .ref q41_1, .int 0])), (q41_1, .inl ((k 0), 192, .inl (fun _ => 0)))] H := hP
  have hD : va_D A [(h0, .inr (13, [.int 3, .ref q41_1, .int 0])), (q41_1, .inl ((k 0), 192, .inl (fun _ => 0)))] := hD
  exact ov_ret hx hb hr hlocks q41_1 (trivial) hK (hP.sub [0, 1] rfl) (hD.sub [0, 1] (by decide) rfl) hS (Nat.le_of_ble_eq_true rfl) (Nat.le_of_ble_eq_true rfl) dX9_init_51
set_option maxHeartbeats 4000000 in
set_option maxRecDepth 100000 in
theorem c_Table_init_4_64 (l : Launch) (e0 : Nat) (D : va_G) (k : Nat → ClassId) (h0 : Nat) : oCv l e0 D (oTy k) yX9_init wsX9_init ({ frames := 1, cells := 1, slots := 256, locals := 20 } : Room) [.ref h0, .int 4, .int 64] [(h0, .inr (13, [.int 0, .null, .int 0]))] (S := Nat) (fun (u : Nat) => True) (fun u => [(h0, .inr (13, [.int 4, .ref u, .int 0])), (u, .inl ((k 0), 256, .inl (fun _ => 0)))]) 1 256 := by
  refine ov_of (cc := cX9_init) (maxL := 3) (ret := none) (by decide +kernel) rfl (Nat.le_of_ble_eq_true rfl) ?_
  intro p e s m below meth c A ls hx hb hml hr hts hown hlocks hin hA hK hP hD hS hE hl
  have hl : lv_has ls 3 [(0, .ref h0), (1, .int 4), (2, .int 64)] := hl
  refine lv_aload_n hx hb dX9_init_0 rfl (lv_at hl 0 rfl) ?_
  refine W.objInit hx hb hown (hts (.methodLink RX9 3 objectInit) (by decide +kernel)) (hts (.instanceMethod objectInit) (by decide +kernel)) (hts (.code objectInit ⟨#[0xb1]⟩ 1 none) (by decide +kernel)) rfl (by rw [hml]; exact hl.1) rfl dX9_init_1 (Nat.le_of_ble_eq_true rfl) (Nat.le_of_ble_eq_true rfl) ?_
  refine W.eq (g2 := F0 m 4 ls []) rfl ?_
  refine lv_aload_n hx hb dX9_init_4 rfl (lv_at hl 0 rfl) ?_
  refine lv_iload_n hx hb dX9_init_5 rfl (lv_at hl 1 rfl) ?_
  refine lv_if_le (tgt := 13) hx hb dX9_init_6 (by decide) (fun c_6 => absurd c_6 (by decide)) (fun c_6 => ?_)
  refine lv_iload_n hx hb dX9_init_9 rfl (lv_at hl 1 rfl) ?_
  refine lv_goto (tgt := 14) hx hb dX9_init_10 (by decide) ?_
  refine va_putF (D := D) (ci := 13) (v := .int 4) (ty := .int) (C := RX9) (T := TX9) (N := 3) hx hb hts iw_X9_init_X9 tyX9 tyX9_ok nmX9 hown hK hP hD hS 0 rfl rfl 0 (by decide) (hts (.fieldLink RX9 9 "ModedMill$Table" "columns" "I") (by decide +kernel)) (fun _ h9 => h9) rfl hin rfl (by decide +kernel) rfl rfl (Nat.le_of_ble_eq_true rfl) dX9_init_14 (fun H locs hP hD hS => ?_)
  have hP : va_P D vwCl [(h0, .inr (13, [.int 4, .null, .int 0]))] H := hP
  have hD : va_D A [(h0, .inr (13, [.int 4, .null, .int 0]))] := hD
  refine lv_aload_n hx hb dX9_init_17 rfl (lv_at hl 0 rfl) ?_
  refine lv_iload_n hx hb dX9_init_18 rfl (lv_at hl 2 rfl) ?_
  refine lv_if_le (tgt := 37) hx hb dX9_init_19 (by decide) (fun c_19 => absurd c_19 (by decide)) (fun c_19 => ?_)
  refine lv_iload_n hx hb dX9_init_22 rfl (lv_at hl 2 rfl) ?_
  refine lv_ldc (v := 1000000) hx hb hown (hts (.constant RX9 15 (1000000)) (by decide +kernel)) dX9_init_23 ?_
  refine lv_icmp_ge (tgt := 37) hx hb dX9_init_25 (by decide) (fun c_25 => absurd c_25 (by decide)) (fun c_25 => ?_)
  refine lv_aload_n hx hb dX9_init_28 rfl (lv_at hl 0 rfl) ?_
  refine va_get (D := D) (ci := 13) (v := .int 4) (C := RX9) (T := TX9) (N := 3) hx hb hts iw_X9_init_X9 hown hK hP 0 rfl rfl 0 (by decide) (hts (.fieldLink RX9 9 "ModedMill$Table" "columns" "I") (by decide +kernel)) (fun _ h9 => h9) rfl dX9_init_29 ?_
  refine lv_iload_n hx hb dX9_init_32 rfl (lv_at hl 2 rfl) ?_
  refine lv_imul hx hb dX9_init_33 ?_
  refine o_top (v := 256) (by decide) ?_
  refine lv_goto (tgt := 41) hx hb dX9_init_34 (by decide) ?_
  refine o_newa (D := D) (atype := .int) (ty := .int) 0 (cA0 := (k 0)) rfl (hts (.arrayClass .int) (by decide +kernel)) rfl hK hP hD hS hA (a0 := (256, .inl (fun _ => 0))) (N' := 256) hx hb (fun _ => rfl) (by decide) (rfl) (Nat.le_of_ble_eq_true rfl) (Nat.le_of_ble_eq_true rfl) (Nat.le_of_ble_eq_true rfl) dX9_init_41 (fun q41_1 H hP hD hS => ?_)
  have hP : va_P D vwCl [(h0, .inr (13, [.int 4, .null, .int 0])), (q41_1, .inl ((k 0), 256, .inl (fun _ => 0)))] H := hP
  have hD : va_D A [(h0, .inr (13, [.int 4, .null, .int 0])), (q41_1, .inl ((k 0), 256, .inl (fun _ => 0)))] := hD
  refine va_put (D := D) (ci := 13) (v := .ref q41_1) (ty := (tyX9 1)) (C := RX9) (T := TX9) (N := 3) hx hb hts iw_X9_init_X9 tyX9 tyX9_ok nmX9 hown hK hP hD hS 0 rfl rfl 1 (by decide) (hts (.fieldLink RX9 16 "ModedMill$Table" "cells" "[I") (by decide +kernel)) (fun _ h9 => h9) rfl (by decide +kernel) rfl rfl (Nat.le_of_ble_eq_true rfl) dX9_init_43 (fun H locs hP hD hS => ?_)
  have hP : va_P D vwCl [(h0, .inr (13, [.int 4, .ref q41_1, .int 0])), (q41_1, .inl ((k 0), 256, .inl (fun _ => 0)))] H := hP
  have hD : va_D A [(h0, .inr (13, [.int 4, .ref q41_1, .int 0])), (q41_1, .inl ((k 0), 256, .inl (fun _ => 0)))] := hD
  refine lv_aload_n hx hb dX9_init_46 rfl (lv_at hl 0 rfl) ?_
  refine lv_iconst (v := 0) hx hb dX9_init_47 (by decide) ?_
  refine va_put (D := D) (ci := 13) (v := .int 0) (ty := .int) (C := RX9) (T := TX9) (N := 3) hx hb hts iw_X9_init_X9 tyX9 tyX9_ok nmX9 hown hK hP hD hS 0 rfl rfl 2 (by decide) (hts (.fieldLink RX9 20 "ModedMill$Table" "lines" "I") (by decide +kernel)) (fun _ h9 => h9) rfl (by decide +kernel) rfl rfl (Nat.le_of_ble_eq_true rfl) dX9_init_48 (fun H locs hP hD hS => ?_)
  have hP : va_P D vwCl [(h0, .inr (13, [.int 4, .ref q41_1, .int 0])), (q41_1, .inl ((k 0), 256, .inl (fun _ => 0)))] H := hP
  have hD : va_D A [(h0, .inr (13, [.int 4, .ref q41_1, .int 0])), (q41_1, .inl ((k 0), 256, .inl (fun _ => 0)))] := hD
  exact ov_ret hx hb hr hlocks q41_1 (trivial) hK (hP.sub [0, 1] rfl) (hD.sub [0, 1] (by decide) rfl) hS (Nat.le_of_ble_eq_true rfl) (Nat.le_of_ble_eq_true rfl) dX9_init_51
set_option maxHeartbeats 4000000 in
set_option maxRecDepth 100000 in
theorem c_Table_init_6_64 (l : Launch) (e0 : Nat) (D : va_G) (k : Nat → ClassId) (h0 : Nat) : oCv l e0 D (oTy k) yX9_init wsX9_init ({ frames := 1, cells := 1, slots := 384, locals := 20 } : Room) [.ref h0, .int 6, .int 64] [(h0, .inr (13, [.int 0, .null, .int 0]))] (S := Nat) (fun (u : Nat) => True) (fun u => [(h0, .inr (13, [.int 6, .ref u, .int 0])), (u, .inl ((k 0), 384, .inl (fun _ => 0)))]) 1 384 := by
  refine ov_of (cc := cX9_init) (maxL := 3) (ret := none) (by decide +kernel) rfl (Nat.le_of_ble_eq_true rfl) ?_
  intro p e s m below meth c A ls hx hb hml hr hts hown hlocks hin hA hK hP hD hS hE hl
  have hl : lv_has ls 3 [(0, .ref h0), (1, .int 6), (2, .int 64)] := hl
  refine lv_aload_n hx hb dX9_init_0 rfl (lv_at hl 0 rfl) ?_
  refine W.objInit hx hb hown (hts (.methodLink RX9 3 objectInit) (by decide +kernel)) (hts (.instanceMethod objectInit) (by decide +kernel)) (hts (.code objectInit ⟨#[0xb1]⟩ 1 none) (by decide +kernel)) rfl (by rw [hml]; exact hl.1) rfl dX9_init_1 (Nat.le_of_ble_eq_true rfl) (Nat.le_of_ble_eq_true rfl) ?_
  refine W.eq (g2 := F0 m 4 ls []) rfl ?_
  refine lv_aload_n hx hb dX9_init_4 rfl (lv_at hl 0 rfl) ?_
  refine lv_iload_n hx hb dX9_init_5 rfl (lv_at hl 1 rfl) ?_
  refine lv_if_le (tgt := 13) hx hb dX9_init_6 (by decide) (fun c_6 => absurd c_6 (by decide)) (fun c_6 => ?_)
  refine lv_iload_n hx hb dX9_init_9 rfl (lv_at hl 1 rfl) ?_
  refine lv_goto (tgt := 14) hx hb dX9_init_10 (by decide) ?_
  refine va_putF (D := D) (ci := 13) (v := .int 6) (ty := .int) (C := RX9) (T := TX9) (N := 3) hx hb hts iw_X9_init_X9 tyX9 tyX9_ok nmX9 hown hK hP hD hS 0 rfl rfl 0 (by decide) (hts (.fieldLink RX9 9 "ModedMill$Table" "columns" "I") (by decide +kernel)) (fun _ h9 => h9) rfl hin rfl (by decide +kernel) rfl rfl (Nat.le_of_ble_eq_true rfl) dX9_init_14 (fun H locs hP hD hS => ?_)
  have hP : va_P D vwCl [(h0, .inr (13, [.int 6, .null, .int 0]))] H := hP
  have hD : va_D A [(h0, .inr (13, [.int 6, .null, .int 0]))] := hD
  refine lv_aload_n hx hb dX9_init_17 rfl (lv_at hl 0 rfl) ?_
  refine lv_iload_n hx hb dX9_init_18 rfl (lv_at hl 2 rfl) ?_
  refine lv_if_le (tgt := 37) hx hb dX9_init_19 (by decide) (fun c_19 => absurd c_19 (by decide)) (fun c_19 => ?_)
  refine lv_iload_n hx hb dX9_init_22 rfl (lv_at hl 2 rfl) ?_
  refine lv_ldc (v := 1000000) hx hb hown (hts (.constant RX9 15 (1000000)) (by decide +kernel)) dX9_init_23 ?_
  refine lv_icmp_ge (tgt := 37) hx hb dX9_init_25 (by decide) (fun c_25 => absurd c_25 (by decide)) (fun c_25 => ?_)
  refine lv_aload_n hx hb dX9_init_28 rfl (lv_at hl 0 rfl) ?_
  refine va_get (D := D) (ci := 13) (v := .int 6) (C := RX9) (T := TX9) (N := 3) hx hb hts iw_X9_init_X9 hown hK hP 0 rfl rfl 0 (by decide) (hts (.fieldLink RX9 9 "ModedMill$Table" "columns" "I") (by decide +kernel)) (fun _ h9 => h9) rfl dX9_init_29 ?_
  refine lv_iload_n hx hb dX9_init_32 rfl (lv_at hl 2 rfl) ?_
  refine lv_imul hx hb dX9_init_33 ?_
  refine o_top (v := 384) (by decide) ?_
  refine lv_goto (tgt := 41) hx hb dX9_init_34 (by decide) ?_
  refine o_newa (D := D) (atype := .int) (ty := .int) 0 (cA0 := (k 0)) rfl (hts (.arrayClass .int) (by decide +kernel)) rfl hK hP hD hS hA (a0 := (384, .inl (fun _ => 0))) (N' := 384) hx hb (fun _ => rfl) (by decide) (rfl) (Nat.le_of_ble_eq_true rfl) (Nat.le_of_ble_eq_true rfl) (Nat.le_of_ble_eq_true rfl) dX9_init_41 (fun q41_1 H hP hD hS => ?_)
  have hP : va_P D vwCl [(h0, .inr (13, [.int 6, .null, .int 0])), (q41_1, .inl ((k 0), 384, .inl (fun _ => 0)))] H := hP
  have hD : va_D A [(h0, .inr (13, [.int 6, .null, .int 0])), (q41_1, .inl ((k 0), 384, .inl (fun _ => 0)))] := hD
  refine va_put (D := D) (ci := 13) (v := .ref q41_1) (ty := (tyX9 1)) (C := RX9) (T := TX9) (N := 3) hx hb hts iw_X9_init_X9 tyX9 tyX9_ok nmX9 hown hK hP hD hS 0 rfl rfl 1 (by decide) (hts (.fieldLink RX9 16 "ModedMill$Table" "cells" "[I") (by decide +kernel)) (fun _ h9 => h9) rfl (by decide +kernel) rfl rfl (Nat.le_of_ble_eq_true rfl) dX9_init_43 (fun H locs hP hD hS => ?_)
  have hP : va_P D vwCl [(h0, .inr (13, [.int 6, .ref q41_1, .int 0])), (q41_1, .inl ((k 0), 384, .inl (fun _ => 0)))] H := hP
  have hD : va_D A [(h0, .inr (13, [.int 6, .ref q41_1, .int 0])), (q41_1, .inl ((k 0), 384, .inl (fun _ => 0)))] := hD
  refine lv_aload_n hx hb dX9_init_46 rfl (lv_at hl 0 rfl) ?_
  refine lv_iconst (v := 0) hx hb dX9_init_47 (by decide) ?_
  refine va_put (D := D) (ci := 13) (v := .int 0) (ty := .int) (C := RX9) (T := TX9) (N := 3) hx hb hts iw_X9_init_X9 tyX9 tyX9_ok nmX9 hown hK hP hD hS 0 rfl rfl 2 (by decide) (hts (.fieldLink RX9 20 "ModedMill$Table" "lines" "I") (by decide +kernel)) (fun _ h9 => h9) rfl (by decide +kernel) rfl rfl (Nat.le_of_ble_eq_true rfl) dX9_init_48 (fun H locs hP hD hS => ?_)
  have hP : va_P D vwCl [(h0, .inr (13, [.int 6, .ref q41_1, .int 0])), (q41_1, .inl ((k 0), 384, .inl (fun _ => 0)))] H := hP
  have hD : va_D A [(h0, .inr (13, [.int 6, .ref q41_1, .int 0])), (q41_1, .inl ((k 0), 384, .inl (fun _ => 0)))] := hD
  exact ov_ret hx hb hr hlocks q41_1 (trivial) hK (hP.sub [0, 1] rfl) (hD.sub [0, 1] (by decide) rfl) hS (Nat.le_of_ble_eq_true rfl) (Nat.le_of_ble_eq_true rfl) dX9_init_51
set_option maxHeartbeats 4000000 in
set_option maxRecDepth 100000 in
theorem c_Table_init_2_64 (l : Launch) (e0 : Nat) (D : va_G) (k : Nat → ClassId) (h0 : Nat) : oCv l e0 D (oTy k) yX9_init wsX9_init ({ frames := 1, cells := 1, slots := 128, locals := 20 } : Room) [.ref h0, .int 2, .int 64] [(h0, .inr (13, [.int 0, .null, .int 0]))] (S := Nat) (fun (u : Nat) => True) (fun u => [(h0, .inr (13, [.int 2, .ref u, .int 0])), (u, .inl ((k 0), 128, .inl (fun _ => 0)))]) 1 128 := by
  refine ov_of (cc := cX9_init) (maxL := 3) (ret := none) (by decide +kernel) rfl (Nat.le_of_ble_eq_true rfl) ?_
  intro p e s m below meth c A ls hx hb hml hr hts hown hlocks hin hA hK hP hD hS hE hl
  have hl : lv_has ls 3 [(0, .ref h0), (1, .int 2), (2, .int 64)] := hl
  refine lv_aload_n hx hb dX9_init_0 rfl (lv_at hl 0 rfl) ?_
  refine W.objInit hx hb hown (hts (.methodLink RX9 3 objectInit) (by decide +kernel)) (hts (.instanceMethod objectInit) (by decide +kernel)) (hts (.code objectInit ⟨#[0xb1]⟩ 1 none) (by decide +kernel)) rfl (by rw [hml]; exact hl.1) rfl dX9_init_1 (Nat.le_of_ble_eq_true rfl) (Nat.le_of_ble_eq_true rfl) ?_
  refine W.eq (g2 := F0 m 4 ls []) rfl ?_
  refine lv_aload_n hx hb dX9_init_4 rfl (lv_at hl 0 rfl) ?_
  refine lv_iload_n hx hb dX9_init_5 rfl (lv_at hl 1 rfl) ?_
  refine lv_if_le (tgt := 13) hx hb dX9_init_6 (by decide) (fun c_6 => absurd c_6 (by decide)) (fun c_6 => ?_)
  refine lv_iload_n hx hb dX9_init_9 rfl (lv_at hl 1 rfl) ?_
  refine lv_goto (tgt := 14) hx hb dX9_init_10 (by decide) ?_
  refine va_putF (D := D) (ci := 13) (v := .int 2) (ty := .int) (C := RX9) (T := TX9) (N := 3) hx hb hts iw_X9_init_X9 tyX9 tyX9_ok nmX9 hown hK hP hD hS 0 rfl rfl 0 (by decide) (hts (.fieldLink RX9 9 "ModedMill$Table" "columns" "I") (by decide +kernel)) (fun _ h9 => h9) rfl hin rfl (by decide +kernel) rfl rfl (Nat.le_of_ble_eq_true rfl) dX9_init_14 (fun H locs hP hD hS => ?_)
  have hP : va_P D vwCl [(h0, .inr (13, [.int 2, .null, .int 0]))] H := hP
  have hD : va_D A [(h0, .inr (13, [.int 2, .null, .int 0]))] := hD
  refine lv_aload_n hx hb dX9_init_17 rfl (lv_at hl 0 rfl) ?_
  refine lv_iload_n hx hb dX9_init_18 rfl (lv_at hl 2 rfl) ?_
  refine lv_if_le (tgt := 37) hx hb dX9_init_19 (by decide) (fun c_19 => absurd c_19 (by decide)) (fun c_19 => ?_)
  refine lv_iload_n hx hb dX9_init_22 rfl (lv_at hl 2 rfl) ?_
  refine lv_ldc (v := 1000000) hx hb hown (hts (.constant RX9 15 (1000000)) (by decide +kernel)) dX9_init_23 ?_
  refine lv_icmp_ge (tgt := 37) hx hb dX9_init_25 (by decide) (fun c_25 => absurd c_25 (by decide)) (fun c_25 => ?_)
  refine lv_aload_n hx hb dX9_init_28 rfl (lv_at hl 0 rfl) ?_
  refine va_get (D := D) (ci := 13) (v := .int 2) (C := RX9) (T := TX9) (N := 3) hx hb hts iw_X9_init_X9 hown hK hP 0 rfl rfl 0 (by decide) (hts (.fieldLink RX9 9 "ModedMill$Table" "columns" "I") (by decide +kernel)) (fun _ h9 => h9) rfl dX9_init_29 ?_
  refine lv_iload_n hx hb dX9_init_32 rfl (lv_at hl 2 rfl) ?_
  refine lv_imul hx hb dX9_init_33 ?_
  refine o_top (v := 128) (by decide) ?_
  refine lv_goto (tgt := 41) hx hb dX9_init_34 (by decide) ?_
  refine o_newa (D := D) (atype := .int) (ty := .int) 0 (cA0 := (k 0)) rfl (hts (.arrayClass .int) (by decide +kernel)) rfl hK hP hD hS hA (a0 := (128, .inl (fun _ => 0))) (N' := 128) hx hb (fun _ => rfl) (by decide) (rfl) (Nat.le_of_ble_eq_true rfl) (Nat.le_of_ble_eq_true rfl) (Nat.le_of_ble_eq_true rfl) dX9_init_41 (fun q41_1 H hP hD hS => ?_)
  have hP : va_P D vwCl [(h0, .inr (13, [.int 2, .null, .int 0])), (q41_1, .inl ((k 0), 128, .inl (fun _ => 0)))] H := hP
  have hD : va_D A [(h0, .inr (13, [.int 2, .null, .int 0])), (q41_1, .inl ((k 0), 128, .inl (fun _ => 0)))] := hD
  refine va_put (D := D) (ci := 13) (v := .ref q41_1) (ty := (tyX9 1)) (C := RX9) (T := TX9) (N := 3) hx hb hts iw_X9_init_X9 tyX9 tyX9_ok nmX9 hown hK hP hD hS 0 rfl rfl 1 (by decide) (hts (.fieldLink RX9 16 "ModedMill$Table" "cells" "[I") (by decide +kernel)) (fun _ h9 => h9) rfl (by decide +kernel) rfl rfl (Nat.le_of_ble_eq_true rfl) dX9_init_43 (fun H locs hP hD hS => ?_)
  have hP : va_P D vwCl [(h0, .inr (13, [.int 2, .ref q41_1, .int 0])), (q41_1, .inl ((k 0), 128, .inl (fun _ => 0)))] H := hP
  have hD : va_D A [(h0, .inr (13, [.int 2, .ref q41_1, .int 0])), (q41_1, .inl ((k 0), 128, .inl (fun _ => 0)))] := hD
  refine lv_aload_n hx hb dX9_init_46 rfl (lv_at hl 0 rfl) ?_
  refine lv_iconst (v := 0) hx hb dX9_init_47 (by decide) ?_
  refine va_put (D := D) (ci := 13) (v := .int 0) (ty := .int) (C := RX9) (T := TX9) (N := 3) hx hb hts iw_X9_init_X9 tyX9 tyX9_ok nmX9 hown hK hP hD hS 0 rfl rfl 2 (by decide) (hts (.fieldLink RX9 20 "ModedMill$Table" "lines" "I") (by decide +kernel)) (fun _ h9 => h9) rfl (by decide +kernel) rfl rfl (Nat.le_of_ble_eq_true rfl) dX9_init_48 (fun H locs hP hD hS => ?_)
  have hP : va_P D vwCl [(h0, .inr (13, [.int 2, .ref q41_1, .int 0])), (q41_1, .inl ((k 0), 128, .inl (fun _ => 0)))] H := hP
  have hD : va_D A [(h0, .inr (13, [.int 2, .ref q41_1, .int 0])), (q41_1, .inl ((k 0), 128, .inl (fun _ => 0)))] := hD
  exact ov_ret hx hb hr hlocks q41_1 (trivial) hK (hP.sub [0, 1] rfl) (hD.sub [0, 1] (by decide) rfl) hS (Nat.le_of_ble_eq_true rfl) (Nat.le_of_ble_eq_true rfl) dX9_init_51
set_option maxHeartbeats 4000000 in
set_option maxRecDepth 100000 in
theorem c_Table_init_4_8 (l : Launch) (e0 : Nat) (D : va_G) (k : Nat → ClassId) (h0 : Nat) : oCv l e0 D (oTy k) yX9_init wsX9_init ({ frames := 1, cells := 1, slots := 32, locals := 20 } : Room) [.ref h0, .int 4, .int 8] [(h0, .inr (13, [.int 0, .null, .int 0]))] (S := Nat) (fun (u : Nat) => True) (fun u => [(h0, .inr (13, [.int 4, .ref u, .int 0])), (u, .inl ((k 0), 32, .inl (fun _ => 0)))]) 1 32 := by
  refine ov_of (cc := cX9_init) (maxL := 3) (ret := none) (by decide +kernel) rfl (Nat.le_of_ble_eq_true rfl) ?_
  intro p e s m below meth c A ls hx hb hml hr hts hown hlocks hin hA hK hP hD hS hE hl
  have hl : lv_has ls 3 [(0, .ref h0), (1, .int 4), (2, .int 8)] := hl
  refine lv_aload_n hx hb dX9_init_0 rfl (lv_at hl 0 rfl) ?_
  refine W.objInit hx hb hown (hts (.methodLink RX9 3 objectInit) (by decide +kernel)) (hts (.instanceMethod objectInit) (by decide +kernel)) (hts (.code objectInit ⟨#[0xb1]⟩ 1 none) (by decide +kernel)) rfl (by rw [hml]; exact hl.1) rfl dX9_init_1 (Nat.le_of_ble_eq_true rfl) (Nat.le_of_ble_eq_true rfl) ?_
  refine W.eq (g2 := F0 m 4 ls []) rfl ?_
  refine lv_aload_n hx hb dX9_init_4 rfl (lv_at hl 0 rfl) ?_
  refine lv_iload_n hx hb dX9_init_5 rfl (lv_at hl 1 rfl) ?_
  refine lv_if_le (tgt := 13) hx hb dX9_init_6 (by decide) (fun c_6 => absurd c_6 (by decide)) (fun c_6 => ?_)
  refine lv_iload_n hx hb dX9_init_9 rfl (lv_at hl 1 rfl) ?_
  refine lv_goto (tgt := 14) hx hb dX9_init_10 (by decide) ?_
  refine va_putF (D := D) (ci := 13) (v := .int 4) (ty := .int) (C := RX9) (T := TX9) (N := 3) hx hb hts iw_X9_init_X9 tyX9 tyX9_ok nmX9 hown hK hP hD hS 0 rfl rfl 0 (by decide) (hts (.fieldLink RX9 9 "ModedMill$Table" "columns" "I") (by decide +kernel)) (fun _ h9 => h9) rfl hin rfl (by decide +kernel) rfl rfl (Nat.le_of_ble_eq_true rfl) dX9_init_14 (fun H locs hP hD hS => ?_)
  have hP : va_P D vwCl [(h0, .inr (13, [.int 4, .null, .int 0]))] H := hP
  have hD : va_D A [(h0, .inr (13, [.int 4, .null, .int 0]))] := hD
  refine lv_aload_n hx hb dX9_init_17 rfl (lv_at hl 0 rfl) ?_
  refine lv_iload_n hx hb dX9_init_18 rfl (lv_at hl 2 rfl) ?_
  refine lv_if_le (tgt := 37) hx hb dX9_init_19 (by decide) (fun c_19 => absurd c_19 (by decide)) (fun c_19 => ?_)
  refine lv_iload_n hx hb dX9_init_22 rfl (lv_at hl 2 rfl) ?_
  refine lv_ldc (v := 1000000) hx hb hown (hts (.constant RX9 15 (1000000)) (by decide +kernel)) dX9_init_23 ?_
  refine lv_icmp_ge (tgt := 37) hx hb dX9_init_25 (by decide) (fun c_25 => absurd c_25 (by decide)) (fun c_25 => ?_)
  refine lv_aload_n hx hb dX9_init_28 rfl (lv_at hl 0 rfl) ?_
  refine va_get (D := D) (ci := 13) (v := .int 4) (C := RX9) (T := TX9) (N := 3) hx hb hts iw_X9_init_X9 hown hK hP 0 rfl rfl 0 (by decide) (hts (.fieldLink RX9 9 "ModedMill$Table" "columns" "I") (by decide +kernel)) (fun _ h9 => h9) rfl dX9_init_29 ?_
  refine lv_iload_n hx hb dX9_init_32 rfl (lv_at hl 2 rfl) ?_
  refine lv_imul hx hb dX9_init_33 ?_
  refine o_top (v := 32) (by decide) ?_
  refine lv_goto (tgt := 41) hx hb dX9_init_34 (by decide) ?_
  refine o_newa (D := D) (atype := .int) (ty := .int) 0 (cA0 := (k 0)) rfl (hts (.arrayClass .int) (by decide +kernel)) rfl hK hP hD hS hA (a0 := (32, .inl (fun _ => 0))) (N' := 32) hx hb (fun _ => rfl) (by decide) (rfl) (Nat.le_of_ble_eq_true rfl) (Nat.le_of_ble_eq_true rfl) (Nat.le_of_ble_eq_true rfl) dX9_init_41 (fun q41_1 H hP hD hS => ?_)
  have hP : va_P D vwCl [(h0, .inr (13, [.int 4, .null, .int 0])), (q41_1, .inl ((k 0), 32, .inl (fun _ => 0)))] H := hP
  have hD : va_D A [(h0, .inr (13, [.int 4, .null, .int 0])), (q41_1, .inl ((k 0), 32, .inl (fun _ => 0)))] := hD
  refine va_put (D := D) (ci := 13) (v := .ref q41_1) (ty := (tyX9 1)) (C := RX9) (T := TX9) (N := 3) hx hb hts iw_X9_init_X9 tyX9 tyX9_ok nmX9 hown hK hP hD hS 0 rfl rfl 1 (by decide) (hts (.fieldLink RX9 16 "ModedMill$Table" "cells" "[I") (by decide +kernel)) (fun _ h9 => h9) rfl (by decide +kernel) rfl rfl (Nat.le_of_ble_eq_true rfl) dX9_init_43 (fun H locs hP hD hS => ?_)
  have hP : va_P D vwCl [(h0, .inr (13, [.int 4, .ref q41_1, .int 0])), (q41_1, .inl ((k 0), 32, .inl (fun _ => 0)))] H := hP
  have hD : va_D A [(h0, .inr (13, [.int 4, .ref q41_1, .int 0])), (q41_1, .inl ((k 0), 32, .inl (fun _ => 0)))] := hD
  refine lv_aload_n hx hb dX9_init_46 rfl (lv_at hl 0 rfl) ?_
  refine lv_iconst (v := 0) hx hb dX9_init_47 (by decide) ?_
  refine va_put (D := D) (ci := 13) (v := .int 0) (ty := .int) (C := RX9) (T := TX9) (N := 3) hx hb hts iw_X9_init_X9 tyX9 tyX9_ok nmX9 hown hK hP hD hS 0 rfl rfl 2 (by decide) (hts (.fieldLink RX9 20 "ModedMill$Table" "lines" "I") (by decide +kernel)) (fun _ h9 => h9) rfl (by decide +kernel) rfl rfl (Nat.le_of_ble_eq_true rfl) dX9_init_48 (fun H locs hP hD hS => ?_)
  have hP : va_P D vwCl [(h0, .inr (13, [.int 4, .ref q41_1, .int 0])), (q41_1, .inl ((k 0), 32, .inl (fun _ => 0)))] H := hP
  have hD : va_D A [(h0, .inr (13, [.int 4, .ref q41_1, .int 0])), (q41_1, .inl ((k 0), 32, .inl (fun _ => 0)))] := hD
  exact ov_ret hx hb hr hlocks q41_1 (trivial) hK (hP.sub [0, 1] rfl) (hD.sub [0, 1] (by decide) rfl) hS (Nat.le_of_ble_eq_true rfl) (Nat.le_of_ble_eq_true rfl) dX9_init_51
theorem iw_X9_count_X9 : ∀ w ∈ wsX90, w ∈ wsX9_count := by decide +kernel
set_option maxHeartbeats 4000000 in
set_option maxRecDepth 100000 in
/-- Table.count -/
theorem c_Table_count (l : Launch) (e0 : Nat) (D : va_G) (k : Nat → ClassId) (h0 : Nat) (q1 : Nat) (cv : Int32) (L : Int32) : oCi l e0 D (oTy k) yX9_count wsX9_count ({ frames := 0, cells := 0, slots := 0, locals := 0 } : Room) [.ref h0] [(h0, .inr (13, [.int cv, .ref q1, .int L]))] (S := Unit) (fun (r : Int32) (u : Unit) => r = L) (fun u => [(h0, .inr (13, [.int cv, .ref q1, .int L]))]) 0 0 := by
  refine oi_of (cc := cX9_count) (maxL := 1) (ret := (some .int)) (by decide +kernel) rfl (Nat.le_of_ble_eq_true rfl) ?_
  intro p e s m below meth c A ls hx hb hml hr hts hown hlocks hin hA hK hP hD hS hE hl
  have hl : lv_has ls 1 [(0, .ref h0)] := hl
  refine lv_aload_n hx hb dX9_count_0 rfl (lv_at hl 0 rfl) ?_
  refine va_get (D := D) (ci := 13) (v := .int L) (C := RX9) (T := TX9) (N := 3) hx hb hts iw_X9_count_X9 hown hK hP 0 rfl rfl 2 (by decide) (hts (.fieldLink RX9 20 "ModedMill$Table" "lines" "I") (by decide +kernel)) (fun _ h9 => h9) rfl dX9_count_1 ?_
  exact oi_ret hx hb hr hlocks rfl () (rfl) hK (hP.sub [0] rfl) (hD.sub [0] (by decide) rfl) hS (Nat.le_of_ble_eq_true rfl) (Nat.le_of_ble_eq_true rfl) dX9_count_4
set_option maxHeartbeats 4000000 in
set_option maxRecDepth 100000 in
theorem c_rangeCheck (l : Launch) (e0 : Nat) (D : va_G) (k : Nat → ClassId) (n : Nat) (i : Nat) (j : Nat) (hij : i ≤ j) (hjn : j ≤ n) (hn : n < 2147483648) : oCv l e0 D (oTy k) yJ7_rangeCheck_23922 wsJ7_rangeCheck_23922 ({ frames := 0, cells := 0, slots := 0, locals := 0 } : Room) [.int (nI n), .int (nI i), .int (nI j)] [] (S := Unit) (fun (u : Unit) => True) (fun u => []) 0 0 := by
  refine ov_of (cc := cJ7_rangeCheck_23922) (maxL := 3) (ret := none) (by decide +kernel) rfl (Nat.le_of_ble_eq_true rfl) ?_
  intro p e s m below meth c A ls hx hb hml hr hts hown hlocks hin hA hK hP hD hS hE hl
  have hl : lv_has ls 3 [(0, .int (nI n)), (1, .int (nI i)), (2, .int (nI j))] := hl
  refine lv_iload_n hx hb dJ7_rangeCheck_23922_0 rfl (lv_at hl 1 rfl) ?_
  refine lv_iload_n hx hb dJ7_rangeCheck_23922_1 rfl (lv_at hl 2 rfl) ?_
  refine lv_icmp_le (tgt := 46) hx hb dJ7_rangeCheck_23922_2 (by decide) (fun c_2 => ?_) (fun c_2 => absurd (o_le (by omega) (by omega)) c_2)
  refine lv_iload_n hx hb dJ7_rangeCheck_23922_46 rfl (lv_at hl 1 rfl) ?_
  refine lv_if_ge (tgt := 59) hx hb dJ7_rangeCheck_23922_47 (by decide) (fun c_47 => ?_) (fun c_47 => absurd (o_le (a := 0) (by omega) (by omega)) c_47)
  refine lv_iload_n hx hb dJ7_rangeCheck_23922_59 rfl (lv_at hl 2 rfl) ?_
  refine lv_iload_n hx hb dJ7_rangeCheck_23922_60 rfl (lv_at hl 0 rfl) ?_
  refine lv_icmp_le (tgt := 73) hx hb dJ7_rangeCheck_23922_61 (by decide) (fun c_61 => ?_) (fun c_61 => absurd (o_le (by omega) (by omega)) c_61)
  exact ov_ret hx hb hr hlocks () (trivial) hK (hP.sub [] rfl) (hD.sub [] (by decide) rfl) hS (Nat.le_of_ble_eq_true rfl) (Nat.le_of_ble_eq_true rfl) dJ7_rangeCheck_23922_73
set_option maxHeartbeats 4000000 in
set_option maxRecDepth 100000 in
/-- Arrays.fill: what the places hold is left open -/
theorem c_fill (l : Launch) (e0 : Nat) (D : va_G) (k : Nat → ClassId) (a0 : Nat) (n : Nat) (i : Nat) (j : Nat) (v : Int32) (f : Nat → Int32) (hij : i ≤ j) (hjn : j ≤ n) (hn : n < 2147483648) : oCv l e0 D (oTy k) yJ7_fill_fda19 wsJ7_fill_fda19 ({ frames := 1, cells := 0, slots := 0, locals := 22 } : Room) [.ref a0, .int (nI i), .int (nI j), .int v] [(a0, .inl ((k 0), n, .inl f))] (S := (Nat → Int32)) (fun (u : (Nat → Int32)) => True) (fun u => [(a0, .inl ((k 0), n, .inl u))]) 0 0 := by
  refine ov_of (cc := cJ7_fill_fda19) (maxL := 5) (ret := none) (by decide +kernel) rfl (Nat.le_of_ble_eq_true rfl) ?_
  intro p e s m below meth c A ls hx hb hml hr hts hown hlocks hin hA hK hP hD hS hE hl
  have hl : lv_has ls 5 [(0, .ref a0), (1, .int (nI i)), (2, .int (nI j)), (3, .int v)] := hl
  refine lv_aload_n hx hb dJ7_fill_fda19_0 rfl (lv_at hl 0 rfl) ?_
  refine va_alen hx hb hK hP 0 0 rfl rfl (v := (nI n)) rfl dJ7_fill_fda19_1 ?_
  refine lv_iload_n hx hb dJ7_fill_fda19_2 rfl (lv_at hl 1 rfl) ?_
  refine lv_iload_n hx hb dJ7_fill_fda19_3 rfl (lv_at hl 2 rfl) ?_
  refine ov_callS hx hb hml hown hts (c_rangeCheck l e0 D k n i j (by omega) (by omega) (by omega)) (cwS 3 hts gJ7_fill_fda19_J7_rangeCheck_23922 rfl rfl rfl (by decide +kernel) ⟨Nat.le_of_ble_eq_true rfl, Nat.le_of_ble_eq_true rfl⟩) hK hP hD hS hA hE [] [0] rfl rfl (by decide) (by decide) (by decide) (wr := [(a0, .inl ((k 0), n, .inl f))]) (w2 := fun u => [(a0, .inl ((k 0), n, .inl f))]) (fun _ => rfl) hl.1 rfl (Nat.le_of_ble_eq_true rfl) rfl ⟨Nat.le_of_ble_eq_true rfl, Nat.le_of_ble_eq_true rfl⟩ dJ7_fill_fda19_4 (fun u H locs hq hP hD hS => ?_)
  have hP : va_P D vwCl [(a0, .inl ((k 0), n, .inl f))] H := hP
  have hD : va_D A [(a0, .inl ((k 0), n, .inl f))] := hD
  refine lv_iload_n hx hb dJ7_fill_fda19_7 rfl (lv_at hl 1 rfl) ?_
  refine lv_istore (lv' := [(4, .int (nI i)), (0, .ref a0), (1, .int (nI i)), (2, .int (nI j)), (3, .int v)]) hx hb dJ7_fill_fda19_8 hl (by decide) rfl (fun ls hl => ?_)
  have key : ∀ (n9 : Nat) (i9 : Nat) (f9 : Nat → Int32) (H : Heap) (locs : List Loc) (ls : Array Slot), i9 + n9 = j → va_P D vwCl [(a0, .inl ((k 0), n, .inl f9))] H → va_D A [(a0, .inl ((k 0), n, .inl f9))] → va_S A s.heap H locs → lv_has ls 5 [(4, .int (nI i9)), (0, .ref a0), (1, .int (nI i)), (2, .int (nI j)), (3, .int v)] → W p l e ({ frames := 1, cells := 0, slots := 0, locals := 22 } : Room) s m ([.ref a0, .int (nI i), .int (nI j), .int v] : List Value).toArray below meth c H locs 0 0 (MQ below (va_Qv (S := (Nat → Int32)) (fun (u : (Nat → Int32)) => True) (oB D (oTy k) A (fun u => [(a0, .inl ((k 0), n, .inl u))])) A) ([.ref a0, .int (nI i), .int (nI j), .int v] : List Value).toArray s 0 0 A) (F0 m 10 ls []) := by
    intro n9
    induction n9 with
    | zero =>
      intro i9 f9 H locs ls hi9 hP hD hS hl
      refine lv_iload hx hb dJ7_fill_fda19_10 (lv_at hl 0 rfl) ?_
      refine lv_iload_n hx hb dJ7_fill_fda19_12 rfl (lv_at hl 3 rfl) ?_
      refine lv_icmp_ge (tgt := 27) hx hb dJ7_fill_fda19_13 (by decide) (fun c_13 => ?_) (fun c_13 => absurd (o_le (by omega) (by omega)) c_13)
      exact ov_ret hx hb hr hlocks f9 (trivial) hK (hP.sub [0] rfl) (hD.sub [0] (by decide) rfl) hS (Nat.le_of_ble_eq_true rfl) (Nat.le_of_ble_eq_true rfl) dJ7_fill_fda19_27
    | succ n9 ih =>
      intro i9 f9 H locs ls hi9 hP hD hS hl
      refine lv_iload hx hb dJ7_fill_fda19_10 (lv_at hl 0 rfl) ?_
      refine lv_iload_n hx hb dJ7_fill_fda19_12 rfl (lv_at hl 3 rfl) ?_
      refine lv_icmp_ge (tgt := 27) hx hb dJ7_fill_fda19_13 (by decide) (fun c_13 => absurd c_13 (o_nle (by omega) (by omega))) (fun c_13 => ?_)
      refine lv_aload_n hx hb dJ7_fill_fda19_16 rfl (lv_at hl 1 rfl) ?_
      refine lv_iload hx hb dJ7_fill_fda19_17 (lv_at hl 0 rfl) ?_
      refine lv_iload_n hx hb dJ7_fill_fda19_19 rfl (lv_at hl 4 rfl) ?_
      refine va_iast hx hb hK hP hD hS 0 0 rfl rfl (vp_in_nI (by omega) (by omega)) dJ7_fill_fda19_20 (fun H locs hP hD hS => ?_)
      have hP : va_P D vwCl [(a0, .inl ((k 0), n, .inl (upd f9 ((nI i9) : Int32).toNatClampNeg v)))] H := hP
      have hD : va_D A [(a0, .inl ((k 0), n, .inl (upd f9 ((nI i9) : Int32).toNatClampNeg v)))] := hD
      refine lv_iinc (v := (nI (i9 + 1))) (lv' := [(4, .int (nI (i9 + 1))), (0, .ref a0), (1, .int (nI i)), (2, .int (nI j)), (3, .int v)]) hx hb dJ7_fill_fda19_21 hl (k := 0) rfl (nI_1 (i9)) (by decide) rfl (fun ls hl => ?_)
      refine lv_goto (tgt := 10) hx hb dJ7_fill_fda19_24 (by decide) ?_
      exact ih (i9 + 1) (upd f9 (nI i9 : Int32).toNatClampNeg v) _ _ _ (by omega) (hP.sub [0] rfl) (hD.sub [0] (by decide) rfl) hS (lv_sub hl [0, 1, 2, 3, 4] rfl)
  exact key (j - i) i f _ _ _ (by omega) hP hD hS hl
theorem iw_X9_set_X9 : ∀ w ∈ wsX90, w ∈ wsX9_set := by decide +kernel
set_option maxHeartbeats 4000000 in
set_option maxRecDepth 100000 in
/-- Table.set: what the row holds is left open -/
theorem c_Table_set (l : Launch) (e0 : Nat) (D : va_G) (k : Nat → ClassId) (h0 : Nat) (q1 : Nat) (n : Nat) (cv : Int32) (L : Int32) (i : Int32) (j : Int32) (v : Int32) (f : Nat → Int32) (hn : n < 2147483648) : oCv l e0 D (oTy k) yX9_set wsX9_set ({ frames := 0, cells := 0, slots := 0, locals := 0 } : Room) [.ref h0, .int i, .int j, .int v] [(h0, .inr (13, [.int cv, .ref q1, .int L])), (q1, .inl ((k 0), n, .inl f))] (S := (Nat → Int32)) (fun (u : (Nat → Int32)) => True) (fun u => [(h0, .inr (13, [.int cv, .ref q1, .int L])), (q1, .inl ((k 0), n, .inl u))]) 0 0 := by
  refine ov_of (cc := cX9_set) (maxL := 6) (ret := none) (by decide +kernel) rfl (Nat.le_of_ble_eq_true rfl) ?_
  intro p e s m below meth c A ls hx hb hml hr hts hown hlocks hin hA hK hP hD hS hE hl
  have hl : lv_has ls 6 [(0, .ref h0), (1, .int i), (2, .int j), (3, .int v)] := hl
  refine lv_iload_n hx hb dX9_set_0 rfl (lv_at hl 1 rfl) ?_
  refine lv_aload_n hx hb dX9_set_1 rfl (lv_at hl 0 rfl) ?_
  refine va_get (D := D) (ci := 13) (v := .int cv) (C := RX9) (T := TX9) (N := 3) hx hb hts iw_X9_set_X9 hown hK hP 0 rfl rfl 0 (by decide) (hts (.fieldLink RX9 9 "ModedMill$Table" "columns" "I") (by decide +kernel)) (fun _ h9 => h9) rfl dX9_set_2 ?_
  refine lv_imul hx hb dX9_set_5 ?_
  refine lv_iload_n hx hb dX9_set_6 rfl (lv_at hl 2 rfl) ?_
  refine lv_iadd hx hb dX9_set_7 ?_
  refine lv_istore (lv' := [(4, .int ((i * cv) + j)), (0, .ref h0), (1, .int i), (2, .int j), (3, .int v)]) hx hb dX9_set_8 hl (by decide) rfl (fun ls hl => ?_)
  refine lv_iload_n hx hb dX9_set_10 rfl (lv_at hl 2 rfl) ?_
  refine lv_if_lt (tgt := 38) hx hb dX9_set_11 (by decide) (fun c_11 => ?_) (fun c_11 => ?_)
  · skip
    refine lv_iconst (v := 0) hx hb dX9_set_38 (by decide) ?_
    refine lv_istore (lv' := [(5, .int 0), (4, .int ((i * cv) + j)), (0, .ref h0), (1, .int i), (2, .int j), (3, .int v)]) hx hb dX9_set_39 hl (by decide) rfl (fun ls hl => ?_)
    refine lv_iload hx hb dX9_set_41 (lv_at hl 0 rfl) ?_
    refine lv_if_eq (tgt := 69) hx hb dX9_set_43 (by decide) (fun c_43 => ?_) (fun c_43 => absurd c_43 (by decide))
    exact ov_ret hx hb hr hlocks f (trivial) hK (hP.sub [0, 1] rfl) (hD.sub [0, 1] (by decide) rfl) hS (Nat.le_of_ble_eq_true rfl) (Nat.le_of_ble_eq_true rfl) dX9_set_69
  · skip
    refine lv_iload_n hx hb dX9_set_14 rfl (lv_at hl 2 rfl) ?_
    refine lv_aload_n hx hb dX9_set_15 rfl (lv_at hl 1 rfl) ?_
    refine va_get (D := D) (ci := 13) (v := .int L) (C := RX9) (T := TX9) (N := 3) hx hb hts iw_X9_set_X9 hown hK hP 0 rfl rfl 2 (by decide) (hts (.fieldLink RX9 20 "ModedMill$Table" "lines" "I") (by decide +kernel)) (fun _ h9 => h9) rfl dX9_set_16 ?_
    refine lv_icmp_ge (tgt := 38) hx hb dX9_set_19 (by decide) (fun c_19 => ?_) (fun c_19 => ?_)
    · skip
      refine lv_iconst (v := 0) hx hb dX9_set_38 (by decide) ?_
      refine lv_istore (lv' := [(5, .int 0), (4, .int ((i * cv) + j)), (0, .ref h0), (1, .int i), (2, .int j), (3, .int v)]) hx hb dX9_set_39 hl (by decide) rfl (fun ls hl => ?_)
      refine lv_iload hx hb dX9_set_41 (lv_at hl 0 rfl) ?_
      refine lv_if_eq (tgt := 69) hx hb dX9_set_43 (by decide) (fun c_43 => ?_) (fun c_43 => absurd c_43 (by decide))
      exact ov_ret hx hb hr hlocks f (trivial) hK (hP.sub [0, 1] rfl) (hD.sub [0, 1] (by decide) rfl) hS (Nat.le_of_ble_eq_true rfl) (Nat.le_of_ble_eq_true rfl) dX9_set_69
    · skip
      refine lv_iload_n hx hb dX9_set_22 rfl (lv_at hl 3 rfl) ?_
      refine lv_if_lt (tgt := 38) hx hb dX9_set_23 (by decide) (fun c_23 => ?_) (fun c_23 => ?_)
      · skip
        refine lv_iconst (v := 0) hx hb dX9_set_38 (by decide) ?_
        refine lv_istore (lv' := [(5, .int 0), (4, .int ((i * cv) + j)), (0, .ref h0), (1, .int i), (2, .int j), (3, .int v)]) hx hb dX9_set_39 hl (by decide) rfl (fun ls hl => ?_)
        refine lv_iload hx hb dX9_set_41 (lv_at hl 0 rfl) ?_
        refine lv_if_eq (tgt := 69) hx hb dX9_set_43 (by decide) (fun c_43 => ?_) (fun c_43 => absurd c_43 (by decide))
        exact ov_ret hx hb hr hlocks f (trivial) hK (hP.sub [0, 1] rfl) (hD.sub [0, 1] (by decide) rfl) hS (Nat.le_of_ble_eq_true rfl) (Nat.le_of_ble_eq_true rfl) dX9_set_69
      · skip
        refine lv_iload_n hx hb dX9_set_26 rfl (lv_at hl 3 rfl) ?_
        refine lv_aload_n hx hb dX9_set_27 rfl (lv_at hl 1 rfl) ?_
        refine va_get (D := D) (ci := 13) (v := .int cv) (C := RX9) (T := TX9) (N := 3) hx hb hts iw_X9_set_X9 hown hK hP 0 rfl rfl 0 (by decide) (hts (.fieldLink RX9 9 "ModedMill$Table" "columns" "I") (by decide +kernel)) (fun _ h9 => h9) rfl dX9_set_28 ?_
        refine lv_icmp_ge (tgt := 38) hx hb dX9_set_31 (by decide) (fun c_31 => ?_) (fun c_31 => ?_)
        · skip
          refine lv_iconst (v := 0) hx hb dX9_set_38 (by decide) ?_
          refine lv_istore (lv' := [(5, .int 0), (4, .int ((i * cv) + j)), (0, .ref h0), (1, .int i), (2, .int j), (3, .int v)]) hx hb dX9_set_39 hl (by decide) rfl (fun ls hl => ?_)
          refine lv_iload hx hb dX9_set_41 (lv_at hl 0 rfl) ?_
          refine lv_if_eq (tgt := 69) hx hb dX9_set_43 (by decide) (fun c_43 => ?_) (fun c_43 => absurd c_43 (by decide))
          exact ov_ret hx hb hr hlocks f (trivial) hK (hP.sub [0, 1] rfl) (hD.sub [0, 1] (by decide) rfl) hS (Nat.le_of_ble_eq_true rfl) (Nat.le_of_ble_eq_true rfl) dX9_set_69
        · skip
          refine lv_iconst (v := 1) hx hb dX9_set_34 (by decide) ?_
          refine lv_goto (tgt := 39) hx hb dX9_set_35 (by decide) ?_
          refine lv_istore (lv' := [(5, .int 1), (4, .int ((i * cv) + j)), (0, .ref h0), (1, .int i), (2, .int j), (3, .int v)]) hx hb dX9_set_39 hl (by decide) rfl (fun ls hl => ?_)
          refine lv_iload hx hb dX9_set_41 (lv_at hl 0 rfl) ?_
          refine lv_if_eq (tgt := 69) hx hb dX9_set_43 (by decide) (fun c_43 => absurd c_43 (by decide)) (fun c_43 => ?_)
          refine lv_iload hx hb dX9_set_46 (lv_at hl 1 rfl) ?_
          refine lv_if_lt (tgt := 69) hx hb dX9_set_48 (by decide) (fun c_48 => ?_) (fun c_48 => ?_)
          · skip
            exact ov_ret hx hb hr hlocks f (trivial) hK (hP.sub [0, 1] rfl) (hD.sub [0, 1] (by decide) rfl) hS (Nat.le_of_ble_eq_true rfl) (Nat.le_of_ble_eq_true rfl) dX9_set_69
          · skip
            refine lv_iload hx hb dX9_set_51 (lv_at hl 1 rfl) ?_
            refine lv_aload_n hx hb dX9_set_53 rfl (lv_at hl 2 rfl) ?_
            refine va_get (D := D) (ci := 13) (v := .ref q1) (C := RX9) (T := TX9) (N := 3) hx hb hts iw_X9_set_X9 hown hK hP 0 rfl rfl 1 (by decide) (hts (.fieldLink RX9 16 "ModedMill$Table" "cells" "[I") (by decide +kernel)) (fun _ h9 => h9) rfl dX9_set_54 ?_
            refine va_alen hx hb hK hP 1 0 rfl rfl (v := (nI n)) rfl dX9_set_57 ?_
            refine lv_icmp_ge (tgt := 69) hx hb dX9_set_58 (by decide) (fun c_58 => ?_) (fun c_58 => ?_)
            · skip
              exact ov_ret hx hb hr hlocks f (trivial) hK (hP.sub [0, 1] rfl) (hD.sub [0, 1] (by decide) rfl) hS (Nat.le_of_ble_eq_true rfl) (Nat.le_of_ble_eq_true rfl) dX9_set_69
            · skip
              refine lv_aload_n hx hb dX9_set_61 rfl (lv_at hl 2 rfl) ?_
              refine va_get (D := D) (ci := 13) (v := .ref q1) (C := RX9) (T := TX9) (N := 3) hx hb hts iw_X9_set_X9 hown hK hP 0 rfl rfl 1 (by decide) (hts (.fieldLink RX9 16 "ModedMill$Table" "cells" "[I") (by decide +kernel)) (fun _ h9 => h9) rfl dX9_set_62 ?_
              refine lv_iload hx hb dX9_set_65 (lv_at hl 1 rfl) ?_
              refine lv_iload_n hx hb dX9_set_67 rfl (lv_at hl 5 rfl) ?_
              refine va_iast hx hb hK hP hD hS 1 0 rfl rfl (o_in hn c_48 c_58) dX9_set_68 (fun H locs hP hD hS => ?_)
              have hP : va_P D vwCl [(h0, .inr (13, [.int cv, .ref q1, .int L])), (q1, .inl ((k 0), n, .inl (upd f (((i * cv) + j) : Int32).toNatClampNeg v)))] H := hP
              have hD : va_D A [(h0, .inr (13, [.int cv, .ref q1, .int L])), (q1, .inl ((k 0), n, .inl (upd f (((i * cv) + j) : Int32).toNatClampNeg v)))] := hD
              exact ov_ret hx hb hr hlocks ((upd f (((i * cv) + j) : Int32).toNatClampNeg v)) (trivial) hK (hP.sub [0, 1] rfl) (hD.sub [0, 1] (by decide) rfl) hS (Nat.le_of_ble_eq_true rfl) (Nat.le_of_ble_eq_true rfl) dX9_set_69
theorem iw_X9_add_X9 : ∀ w ∈ wsX90, w ∈ wsX9_add := by decide +kernel
set_option maxHeartbeats 4000000 in
set_option maxRecDepth 100000 in
/-- Table.add where the room suffices -/
theorem c_Table_add (l : Launch) (e0 : Nat) (D : va_G) (k : Nat → ClassId) (h0 : Nat) (q1 : Nat) (n : Nat) (cc : Nat) (L : Nat) (x : Int32) (y : Int32) (z : Int32) (f : Nat → Int32) (hn : n < 1000000) (hL : L * cc + cc ≤ n) (hL2 : L < 1000000) : oCi l e0 D (oTy k) yX9_add wsX9_add ({ frames := 2, cells := 0, slots := 0, locals := 46 } : Room) [.ref h0, .int x, .int y, .int z] [(h0, .inr (13, [.int (nI cc), .ref q1, .int (nI L)])), (q1, .inl ((k 0), n, .inl f))] (S := (Nat → Int32)) (fun (r : Int32) (u : (Nat → Int32)) => r = (nI L)) (fun u => [(h0, .inr (13, [.int (nI cc), .ref q1, .int (nI (L + 1))])), (q1, .inl ((k 0), n, .inl u))]) 0 0 := by
  refine oi_of (cc := cX9_add) (maxL := 6) (ret := (some .int)) (by decide +kernel) rfl (Nat.le_of_ble_eq_true rfl) ?_
  intro p e s m below meth c A ls hx hb hml hr hts hown hlocks hin hA hK hP hD hS hE hl
  have hl : lv_has ls 6 [(0, .ref h0), (1, .int x), (2, .int y), (3, .int z)] := hl
  refine lv_aload_n hx hb dX9_add_0 rfl (lv_at hl 0 rfl) ?_
  refine va_get (D := D) (ci := 13) (v := .int (nI L)) (C := RX9) (T := TX9) (N := 3) hx hb hts iw_X9_add_X9 hown hK hP 0 rfl rfl 2 (by decide) (hts (.fieldLink RX9 20 "ModedMill$Table" "lines" "I") (by decide +kernel)) (fun _ h9 => h9) rfl dX9_add_1 ?_
  refine lv_aload_n hx hb dX9_add_4 rfl (lv_at hl 0 rfl) ?_
  refine va_get (D := D) (ci := 13) (v := .int (nI cc)) (C := RX9) (T := TX9) (N := 3) hx hb hts iw_X9_add_X9 hown hK hP 0 rfl rfl 0 (by decide) (hts (.fieldLink RX9 9 "ModedMill$Table" "columns" "I") (by decide +kernel)) (fun _ h9 => h9) rfl dX9_add_5 ?_
  refine lv_imul hx hb dX9_add_8 ?_
  refine o_top (v := (nI (L * cc))) (pk_mul L cc) ?_
  refine lv_istore (lv' := [(4, .int (nI (L * cc))), (0, .ref h0), (1, .int x), (2, .int y), (3, .int z)]) hx hb dX9_add_9 hl (by decide) rfl (fun ls hl => ?_)
  refine lv_iload hx hb dX9_add_11 (lv_at hl 0 rfl) ?_
  refine lv_aload_n hx hb dX9_add_13 rfl (lv_at hl 1 rfl) ?_
  refine va_get (D := D) (ci := 13) (v := .int (nI cc)) (C := RX9) (T := TX9) (N := 3) hx hb hts iw_X9_add_X9 hown hK hP 0 rfl rfl 0 (by decide) (hts (.fieldLink RX9 9 "ModedMill$Table" "columns" "I") (by decide +kernel)) (fun _ h9 => h9) rfl dX9_add_14 ?_
  refine lv_iadd hx hb dX9_add_17 ?_
  refine o_top (v := (nI (L * cc + cc))) (nI_add (L * cc) cc) ?_
  refine lv_istore (lv' := [(5, .int (nI (L * cc + cc))), (4, .int (nI (L * cc))), (0, .ref h0), (1, .int x), (2, .int y), (3, .int z)]) hx hb dX9_add_18 hl (by decide) rfl (fun ls hl => ?_)
  refine lv_iload hx hb dX9_add_20 (lv_at hl 0 rfl) ?_
  refine lv_aload_n hx hb dX9_add_22 rfl (lv_at hl 2 rfl) ?_
  refine va_get (D := D) (ci := 13) (v := .ref q1) (C := RX9) (T := TX9) (N := 3) hx hb hts iw_X9_add_X9 hown hK hP 0 rfl rfl 1 (by decide) (hts (.fieldLink RX9 16 "ModedMill$Table" "cells" "[I") (by decide +kernel)) (fun _ h9 => h9) rfl dX9_add_23 ?_
  refine va_alen hx hb hK hP 1 0 rfl rfl (v := (nI n)) rfl dX9_add_26 ?_
  refine lv_icmp_le (tgt := 52) hx hb dX9_add_27 (by decide) (fun c_27 => ?_) (fun c_27 => absurd (o_le (by omega) (by omega)) c_27)
  refine lv_iload hx hb dX9_add_52 (lv_at hl 1 rfl) ?_
  refine lv_if_lt (tgt := 67) hx hb dX9_add_54 (by decide) (fun c_54 => absurd c_54 (nI_pos (by omega))) (fun c_54 => ?_)
  refine lv_iload hx hb dX9_add_57 (lv_at hl 0 rfl) ?_
  refine lv_aload_n hx hb dX9_add_59 rfl (lv_at hl 2 rfl) ?_
  refine va_get (D := D) (ci := 13) (v := .ref q1) (C := RX9) (T := TX9) (N := 3) hx hb hts iw_X9_add_X9 hown hK hP 0 rfl rfl 1 (by decide) (hts (.fieldLink RX9 16 "ModedMill$Table" "cells" "[I") (by decide +kernel)) (fun _ h9 => h9) rfl dX9_add_60 ?_
  refine va_alen hx hb hK hP 1 0 rfl rfl (v := (nI n)) rfl dX9_add_63 ?_
  refine lv_icmp_le (tgt := 69) hx hb dX9_add_64 (by decide) (fun c_64 => ?_) (fun c_64 => absurd (o_le (by omega) (by omega)) c_64)
  refine lv_aload_n hx hb dX9_add_69 rfl (lv_at hl 2 rfl) ?_
  refine va_get (D := D) (ci := 13) (v := .ref q1) (C := RX9) (T := TX9) (N := 3) hx hb hts iw_X9_add_X9 hown hK hP 0 rfl rfl 1 (by decide) (hts (.fieldLink RX9 16 "ModedMill$Table" "cells" "[I") (by decide +kernel)) (fun _ h9 => h9) rfl dX9_add_70 ?_
  refine lv_iload hx hb dX9_add_73 (lv_at hl 1 rfl) ?_
  refine lv_iload hx hb dX9_add_75 (lv_at hl 0 rfl) ?_
  refine lv_iconst (v := (-1)) hx hb dX9_add_77 (by decide) ?_
  refine ov_callS hx hb hml hown hts (c_fill l e0 D k q1 n ((L * cc)) ((L * cc + cc)) ((-1)) f (by omega) (by omega) (by omega)) (va_cwS 4 hts gX9_add_J7_fill_fda19 rfl rfl rfl (by decide +kernel) ⟨Nat.le_of_ble_eq_true rfl, Nat.le_of_ble_eq_true rfl⟩) hK hP hD hS hA hE [1] [0] rfl rfl (by decide) (by decide) (by decide) (wr := [(h0, .inr (13, [.int (nI cc), .ref q1, .int (nI L)]))]) (w2 := fun u => [(h0, .inr (13, [.int (nI cc), .ref q1, .int (nI L)])), (q1, .inl ((k 0), n, .inl u))]) (fun _ => rfl) hl.1 rfl (Nat.le_of_ble_eq_true rfl) rfl ⟨Nat.le_of_ble_eq_true rfl, Nat.le_of_ble_eq_true rfl⟩ dX9_add_78 (fun u H locs hq hP hD hS => ?_)
  obtain ⟨f1_78, hu9⟩ : ∃ z, z = u := ⟨_, rfl⟩; subst hu9
  have hP : va_P D vwCl [(h0, .inr (13, [.int (nI cc), .ref q1, .int (nI L)])), (q1, .inl ((k 0), n, .inl f1_78))] H := hP
  have hD : va_D A [(h0, .inr (13, [.int (nI cc), .ref q1, .int (nI L)])), (q1, .inl ((k 0), n, .inl f1_78))] := hD
  refine lv_aload_n hx hb dX9_add_81 rfl (lv_at hl 2 rfl) ?_
  refine lv_dup hx hb dX9_add_82 rfl ?_
  refine va_get (D := D) (ci := 13) (v := .int (nI L)) (C := RX9) (T := TX9) (N := 3) hx hb hts iw_X9_add_X9 hown hK hP 0 rfl rfl 2 (by decide) (hts (.fieldLink RX9 20 "ModedMill$Table" "lines" "I") (by decide +kernel)) (fun _ h9 => h9) rfl dX9_add_83 ?_
  refine lv_iconst (v := 1) hx hb dX9_add_86 (by decide) ?_
  refine lv_iadd hx hb dX9_add_87 ?_
  refine o_top (v := (nI (L + 1))) (nI_1 L) ?_
  refine va_put (D := D) (ci := 13) (v := .int (nI (L + 1))) (ty := .int) (C := RX9) (T := TX9) (N := 3) hx hb hts iw_X9_add_X9 tyX9 tyX9_ok nmX9 hown hK hP hD hS 0 rfl rfl 2 (by decide) (hts (.fieldLink RX9 20 "ModedMill$Table" "lines" "I") (by decide +kernel)) (fun _ h9 => h9) rfl (by decide +kernel) rfl rfl (Nat.le_of_ble_eq_true rfl) dX9_add_88 (fun H locs hP hD hS => ?_)
  have hP : va_P D vwCl [(h0, .inr (13, [.int (nI cc), .ref q1, .int (nI (L + 1))])), (q1, .inl ((k 0), n, .inl f1_78))] H := hP
  have hD : va_D A [(h0, .inr (13, [.int (nI cc), .ref q1, .int (nI (L + 1))])), (q1, .inl ((k 0), n, .inl f1_78))] := hD
  refine lv_aload_n hx hb dX9_add_91 rfl (lv_at hl 2 rfl) ?_
  refine lv_aload_n hx hb dX9_add_92 rfl (lv_at hl 2 rfl) ?_
  refine va_get (D := D) (ci := 13) (v := .int (nI (L + 1))) (C := RX9) (T := TX9) (N := 3) hx hb hts iw_X9_add_X9 hown hK hP 0 rfl rfl 2 (by decide) (hts (.fieldLink RX9 20 "ModedMill$Table" "lines" "I") (by decide +kernel)) (fun _ h9 => h9) rfl dX9_add_93 ?_
  refine lv_iconst (v := 1) hx hb dX9_add_96 (by decide) ?_
  refine lv_isub hx hb dX9_add_97 ?_
  refine o_top (v := (nI L)) (nI_pred L) ?_
  refine lv_iconst (v := 0) hx hb dX9_add_98 (by decide) ?_
  refine lv_iload_n hx hb dX9_add_99 rfl (lv_at hl 3 rfl) ?_
  refine ov_callV hx hb hml hown hts (c_Table_set l e0 D k h0 q1 n ((nI cc)) ((nI (L + 1))) ((nI L)) 0 x f1_78 (by omega)) (cwV 3 hts gX9_add_X9_set rfl rfl rfl (by decide +kernel) ⟨Nat.le_of_ble_eq_true rfl, Nat.le_of_ble_eq_true rfl⟩) hK hP hD hS hA hE [0, 1] [] rfl rfl (by decide) (by decide) (by decide) (wr := []) (w2 := fun u => [(h0, .inr (13, [.int (nI cc), .ref q1, .int (nI (L + 1))])), (q1, .inl ((k 0), n, .inl u))]) (fun _ => rfl) 0 13 rfl rfl rfl hl.1 rfl (Nat.le_of_ble_eq_true rfl) rfl ⟨Nat.le_of_ble_eq_true rfl, Nat.le_of_ble_eq_true rfl⟩ dX9_add_100 (fun u H locs hq hP hD hS => ?_)
  obtain ⟨f1_100, hu9⟩ : ∃ z, z = u := ⟨_, rfl⟩; subst hu9
  have hP : va_P D vwCl [(h0, .inr (13, [.int (nI cc), .ref q1, .int (nI (L + 1))])), (q1, .inl ((k 0), n, .inl f1_100))] H := hP
  have hD : va_D A [(h0, .inr (13, [.int (nI cc), .ref q1, .int (nI (L + 1))])), (q1, .inl ((k 0), n, .inl f1_100))] := hD
  refine lv_aload_n hx hb dX9_add_103 rfl (lv_at hl 2 rfl) ?_
  refine lv_aload_n hx hb dX9_add_104 rfl (lv_at hl 2 rfl) ?_
  refine va_get (D := D) (ci := 13) (v := .int (nI (L + 1))) (C := RX9) (T := TX9) (N := 3) hx hb hts iw_X9_add_X9 hown hK hP 0 rfl rfl 2 (by decide) (hts (.fieldLink RX9 20 "ModedMill$Table" "lines" "I") (by decide +kernel)) (fun _ h9 => h9) rfl dX9_add_105 ?_
  refine lv_iconst (v := 1) hx hb dX9_add_108 (by decide) ?_
  refine lv_isub hx hb dX9_add_109 ?_
  refine o_top (v := (nI L)) (nI_pred L) ?_
  refine lv_iconst (v := 1) hx hb dX9_add_110 (by decide) ?_
  refine lv_iload_n hx hb dX9_add_111 rfl (lv_at hl 4 rfl) ?_
  refine ov_callV hx hb hml hown hts (c_Table_set l e0 D k h0 q1 n ((nI cc)) ((nI (L + 1))) ((nI L)) 1 y f1_100 (by omega)) (cwV 3 hts gX9_add_X9_set rfl rfl rfl (by decide +kernel) ⟨Nat.le_of_ble_eq_true rfl, Nat.le_of_ble_eq_true rfl⟩) hK hP hD hS hA hE [0, 1] [] rfl rfl (by decide) (by decide) (by decide) (wr := []) (w2 := fun u => [(h0, .inr (13, [.int (nI cc), .ref q1, .int (nI (L + 1))])), (q1, .inl ((k 0), n, .inl u))]) (fun _ => rfl) 0 13 rfl rfl rfl hl.1 rfl (Nat.le_of_ble_eq_true rfl) rfl ⟨Nat.le_of_ble_eq_true rfl, Nat.le_of_ble_eq_true rfl⟩ dX9_add_112 (fun u H locs hq hP hD hS => ?_)
  obtain ⟨f1_112, hu9⟩ : ∃ z, z = u := ⟨_, rfl⟩; subst hu9
  have hP : va_P D vwCl [(h0, .inr (13, [.int (nI cc), .ref q1, .int (nI (L + 1))])), (q1, .inl ((k 0), n, .inl f1_112))] H := hP
  have hD : va_D A [(h0, .inr (13, [.int (nI cc), .ref q1, .int (nI (L + 1))])), (q1, .inl ((k 0), n, .inl f1_112))] := hD
  refine lv_aload_n hx hb dX9_add_115 rfl (lv_at hl 2 rfl) ?_
  refine lv_aload_n hx hb dX9_add_116 rfl (lv_at hl 2 rfl) ?_
  refine va_get (D := D) (ci := 13) (v := .int (nI (L + 1))) (C := RX9) (T := TX9) (N := 3) hx hb hts iw_X9_add_X9 hown hK hP 0 rfl rfl 2 (by decide) (hts (.fieldLink RX9 20 "ModedMill$Table" "lines" "I") (by decide +kernel)) (fun _ h9 => h9) rfl dX9_add_117 ?_
  refine lv_iconst (v := 1) hx hb dX9_add_120 (by decide) ?_
  refine lv_isub hx hb dX9_add_121 ?_
  refine o_top (v := (nI L)) (nI_pred L) ?_
  refine lv_iconst (v := 2) hx hb dX9_add_122 (by decide) ?_
  refine lv_iload_n hx hb dX9_add_123 rfl (lv_at hl 5 rfl) ?_
  refine ov_callV hx hb hml hown hts (c_Table_set l e0 D k h0 q1 n ((nI cc)) ((nI (L + 1))) ((nI L)) 2 z f1_112 (by omega)) (cwV 3 hts gX9_add_X9_set rfl rfl rfl (by decide +kernel) ⟨Nat.le_of_ble_eq_true rfl, Nat.le_of_ble_eq_true rfl⟩) hK hP hD hS hA hE [0, 1] [] rfl rfl (by decide) (by decide) (by decide) (wr := []) (w2 := fun u => [(h0, .inr (13, [.int (nI cc), .ref q1, .int (nI (L + 1))])), (q1, .inl ((k 0), n, .inl u))]) (fun _ => rfl) 0 13 rfl rfl rfl hl.1 rfl (Nat.le_of_ble_eq_true rfl) rfl ⟨Nat.le_of_ble_eq_true rfl, Nat.le_of_ble_eq_true rfl⟩ dX9_add_124 (fun u H locs hq hP hD hS => ?_)
  obtain ⟨f1_124, hu9⟩ : ∃ z, z = u := ⟨_, rfl⟩; subst hu9
  have hP : va_P D vwCl [(h0, .inr (13, [.int (nI cc), .ref q1, .int (nI (L + 1))])), (q1, .inl ((k 0), n, .inl f1_124))] H := hP
  have hD : va_D A [(h0, .inr (13, [.int (nI cc), .ref q1, .int (nI (L + 1))])), (q1, .inl ((k 0), n, .inl f1_124))] := hD
  refine lv_aload_n hx hb dX9_add_127 rfl (lv_at hl 2 rfl) ?_
  refine va_get (D := D) (ci := 13) (v := .int (nI (L + 1))) (C := RX9) (T := TX9) (N := 3) hx hb hts iw_X9_add_X9 hown hK hP 0 rfl rfl 2 (by decide) (hts (.fieldLink RX9 20 "ModedMill$Table" "lines" "I") (by decide +kernel)) (fun _ h9 => h9) rfl dX9_add_128 ?_
  refine lv_iconst (v := 1) hx hb dX9_add_131 (by decide) ?_
  refine lv_isub hx hb dX9_add_132 ?_
  refine o_top (v := (nI L)) (nI_pred L) ?_
  exact oi_ret hx hb hr hlocks rfl f1_124 (rfl) hK (hP.sub [0, 1] rfl) (hD.sub [0, 1] (by decide) rfl) hS (Nat.le_of_ble_eq_true rfl) (Nat.le_of_ble_eq_true rfl) dX9_add_133
