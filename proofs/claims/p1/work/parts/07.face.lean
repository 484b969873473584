theorem iw_X10_hasType_X10 : ∀ w ∈ wsX100, w ∈ wsX10_hasType := by decide +kernel
set_option maxHeartbeats 4000000 in
set_option maxRecDepth 100000 in
theorem f_hasType (l : Launch) (e0 : Nat) (D : va_G) (k : Nat → ClassId) (st : Nat) (p0 : Int32) (sta : Nat) (stb : Nat) (stc : Nat) (std : Nat) : oCi l e0 D (oTy k) yX10_hasType wsX10_hasType ({ frames := 0, cells := 0, slots := 0, locals := 0 } : Room) [.ref st, .int p0] [(st, .inr (14, [.int 0, .ref sta, .ref stb, .ref stc, .ref std]))] (S := Unit) (fun (r : Int32) (u : Unit) => r = 0) (fun u => [(st, .inr (14, [.int 0, .ref sta, .ref stb, .ref stc, .ref std]))]) 0 0 := by
  refine oi_of (cc := cX10_hasType) (maxL := 2) (ret := (some .boolean)) (by decide +kernel) rfl (Nat.le_of_ble_eq_true rfl) ?_
  intro p e s m below meth c A ls hx hb hml hr hts hown hlocks hin hA hK hP hD hS hE hl
  have hl : lv_has ls 2 [(0, .ref st), (1, .int p0)] := hl
  refine lv_iload_n hx hb dX10_hasType_0 rfl (lv_at hl 1 rfl) ?_
  refine lv_if_lt (tgt := 16) hx hb dX10_hasType_1 (by decide) (fun c_1 => ?_) (fun c_1 => ?_)
  · skip
    refine lv_iconst (v := 0) hx hb dX10_hasType_16 (by decide) ?_
    exact oi_ret hx hb hr hlocks (by decide +kernel) () (rfl) hK (hP.sub [0] rfl) (hD.sub [0] (by decide) rfl) hS (Nat.le_of_ble_eq_true rfl) (Nat.le_of_ble_eq_true rfl) dX10_hasType_17
  · skip
    refine lv_iload_n hx hb dX10_hasType_4 rfl (lv_at hl 1 rfl) ?_
    refine lv_aload_n hx hb dX10_hasType_5 rfl (lv_at hl 0 rfl) ?_
    refine va_get (D := D) (ci := 14) (v := .int 0) (C := RX10) (T := TX10) (N := 5) hx hb hts iw_X10_hasType_X10 hown hK hP 0 rfl rfl 0 (by decide) (hts (.fieldLink RX10 9 "ModedMill$Terms" "types" "I") (by decide +kernel)) (fun _ h9 => h9) rfl dX10_hasType_6 ?_
    refine lv_icmp_ge (tgt := 16) hx hb dX10_hasType_9 (by decide) (fun c_9 => ?_) (fun c_9 => absurd (o_nn c_1) c_9)
    refine lv_iconst (v := 0) hx hb dX10_hasType_16 (by decide) ?_
    exact oi_ret hx hb hr hlocks (by decide +kernel) () (rfl) hK (hP.sub [0] rfl) (hD.sub [0] (by decide) rfl) hS (Nat.le_of_ble_eq_true rfl) (Nat.le_of_ble_eq_true rfl) dX10_hasType_17
theorem iw_X10_typeCount_X10 : ∀ w ∈ wsX100, w ∈ wsX10_typeCount := by decide +kernel
set_option maxHeartbeats 4000000 in
set_option maxRecDepth 100000 in
theorem f_typeCount (l : Launch) (e0 : Nat) (D : va_G) (k : Nat → ClassId) (st : Nat) (sta : Nat) (stb : Nat) (stc : Nat) (std : Nat) : oCi l e0 D (oTy k) yX10_typeCount wsX10_typeCount ({ frames := 0, cells := 0, slots := 0, locals := 0 } : Room) [.ref st] [(st, .inr (14, [.int 0, .ref sta, .ref stb, .ref stc, .ref std]))] (S := Unit) (fun (r : Int32) (u : Unit) => r = 0) (fun u => [(st, .inr (14, [.int 0, .ref sta, .ref stb, .ref stc, .ref std]))]) 0 0 := by
  refine oi_of (cc := cX10_typeCount) (maxL := 1) (ret := (some .int)) (by decide +kernel) rfl (Nat.le_of_ble_eq_true rfl) ?_
  intro p e s m below meth c A ls hx hb hml hr hts hown hlocks hin hA hK hP hD hS hE hl
  have hl : lv_has ls 1 [(0, .ref st)] := hl
  refine lv_aload_n hx hb dX10_typeCount_0 rfl (lv_at hl 0 rfl) ?_
  refine va_get (D := D) (ci := 14) (v := .int 0) (C := RX10) (T := TX10) (N := 5) hx hb hts iw_X10_typeCount_X10 hown hK hP 0 rfl rfl 0 (by decide) (hts (.fieldLink RX10 9 "ModedMill$Terms" "types" "I") (by decide +kernel)) (fun _ h9 => h9) rfl dX10_typeCount_1 ?_
  exact oi_ret hx hb hr hlocks rfl () (rfl) hK (hP.sub [0] rfl) (hD.sub [0] (by decide) rfl) hS (Nat.le_of_ble_eq_true rfl) (Nat.le_of_ble_eq_true rfl) dX10_typeCount_4
theorem iw_X10_newType_X10 : ∀ w ∈ wsX100, w ∈ wsX10_newType := by decide +kernel
set_option maxHeartbeats 4000000 in
set_option maxRecDepth 100000 in
theorem f_newType (l : Launch) (e0 : Nat) (D : va_G) (k : Nat → ClassId) (st : Nat) (sta : Nat) (stb : Nat) (stc : Nat) (std : Nat) : oCi l e0 D (oTy k) yX10_newType wsX10_newType ({ frames := 0, cells := 0, slots := 0, locals := 0 } : Room) [.ref st] [(st, .inr (14, [.int 0, .ref sta, .ref stb, .ref stc, .ref std]))] (S := Unit) (fun (r : Int32) (u : Unit) => r = 0) (fun u => []) 0 0 := by
  refine oi_of (cc := cX10_newType) (maxL := 1) (ret := (some .int)) (by decide +kernel) rfl (Nat.le_of_ble_eq_true rfl) ?_
  intro p e s m below meth c A ls hx hb hml hr hts hown hlocks hin hA hK hP hD hS hE hl
  have hl : lv_has ls 1 [(0, .ref st)] := hl
  refine lv_aload_n hx hb dX10_newType_0 rfl (lv_at hl 0 rfl) ?_
  refine lv_dup hx hb dX10_newType_1 rfl ?_
  refine va_get (D := D) (ci := 14) (v := .int 0) (C := RX10) (T := TX10) (N := 5) hx hb hts iw_X10_newType_X10 hown hK hP 0 rfl rfl 0 (by decide) (hts (.fieldLink RX10 9 "ModedMill$Terms" "types" "I") (by decide +kernel)) (fun _ h9 => h9) rfl dX10_newType_2 ?_
  refine lv_iconst (v := 1) hx hb dX10_newType_5 (by decide) ?_
  refine lv_iadd hx hb dX10_newType_6 ?_
  refine o_top (v := 1) (by decide) ?_
  refine va_put (D := D) (ci := 14) (v := .int 1) (ty := .int) (C := RX10) (T := TX10) (N := 5) hx hb hts iw_X10_newType_X10 tyX10 tyX10_ok nmX10 hown hK hP hD hS 0 rfl rfl 0 (by decide) (hts (.fieldLink RX10 9 "ModedMill$Terms" "types" "I") (by decide +kernel)) (fun _ h9 => h9) rfl (by decide +kernel) rfl rfl (Nat.le_of_ble_eq_true rfl) dX10_newType_7 (fun H locs hP hD hS => ?_)
  have hP : va_P D vwCl [(st, .inr (14, [.int 1, .ref sta, .ref stb, .ref stc, .ref std]))] H := hP
  have hD : va_D A [(st, .inr (14, [.int 1, .ref sta, .ref stb, .ref stc, .ref std]))] := hD
  refine lv_aload_n hx hb dX10_newType_10 rfl (lv_at hl 0 rfl) ?_
  refine va_get (D := D) (ci := 14) (v := .int 1) (C := RX10) (T := TX10) (N := 5) hx hb hts iw_X10_newType_X10 hown hK hP 0 rfl rfl 0 (by decide) (hts (.fieldLink RX10 9 "ModedMill$Terms" "types" "I") (by decide +kernel)) (fun _ h9 => h9) rfl dX10_newType_11 ?_
  refine lv_iconst (v := 1) hx hb dX10_newType_14 (by decide) ?_
  refine lv_isub hx hb dX10_newType_15 ?_
  refine o_top (v := 0) (by decide) ?_
  exact oi_ret hx hb hr hlocks rfl () (rfl) hK (hP.sub [] rfl) (hD.sub [] (by decide) rfl) hS (Nat.le_of_ble_eq_true rfl) (Nat.le_of_ble_eq_true rfl) dX10_newType_16
theorem iw_X10_hasTerm_X10 : ∀ w ∈ wsX100, w ∈ wsX10_hasTerm := by decide +kernel
set_option maxHeartbeats 4000000 in
set_option maxRecDepth 100000 in
theorem f_hasTerm (l : Launch) (e0 : Nat) (D : va_G) (k : Nat → ClassId) (st : Nat) (p0 : Int32) (sta : Nat) (stb : Nat) (stc : Nat) (std : Nat) (sqb : Nat) : oCi l e0 D (oTy k) yX10_hasTerm wsX10_hasTerm ({ frames := 1, cells := 0, slots := 0, locals := 20 } : Room) [.ref st, .int p0] [(st, .inr (14, [.int 0, .ref sta, .ref stb, .ref stc, .ref std])), (stb, .inr (13, [.int 4, .ref sqb, .int 0]))] (S := Unit) (fun (r : Int32) (u : Unit) => r = 0) (fun u => [(st, .inr (14, [.int 0, .ref sta, .ref stb, .ref stc, .ref std])), (stb, .inr (13, [.int 4, .ref sqb, .int 0]))]) 0 0 := by
  refine oi_of (cc := cX10_hasTerm) (maxL := 2) (ret := (some .boolean)) (by decide +kernel) rfl (Nat.le_of_ble_eq_true rfl) ?_
  intro p e s m below meth c A ls hx hb hml hr hts hown hlocks hin hA hK hP hD hS hE hl
  have hl : lv_has ls 2 [(0, .ref st), (1, .int p0)] := hl
  refine lv_iload_n hx hb dX10_hasTerm_0 rfl (lv_at hl 1 rfl) ?_
  refine lv_if_lt (tgt := 19) hx hb dX10_hasTerm_1 (by decide) (fun c_1 => ?_) (fun c_1 => ?_)
  · skip
    refine lv_iconst (v := 0) hx hb dX10_hasTerm_19 (by decide) ?_
    exact oi_ret hx hb hr hlocks (by decide +kernel) () (rfl) hK (hP.sub [0, 1] rfl) (hD.sub [0, 1] (by decide) rfl) hS (Nat.le_of_ble_eq_true rfl) (Nat.le_of_ble_eq_true rfl) dX10_hasTerm_20
  · skip
    refine lv_iload_n hx hb dX10_hasTerm_4 rfl (lv_at hl 1 rfl) ?_
    refine lv_aload_n hx hb dX10_hasTerm_5 rfl (lv_at hl 0 rfl) ?_
    refine va_get (D := D) (ci := 14) (v := .ref stb) (C := RX10) (T := TX10) (N := 5) hx hb hts iw_X10_hasTerm_X10 hown hK hP 0 rfl rfl 2 (by decide) (hts (.fieldLink RX10 24 "ModedMill$Terms" "numbered" "LModedMill$Table;") (by decide +kernel)) (fun _ h9 => h9) rfl dX10_hasTerm_6 ?_
    refine oi_callV hx hb hml hown hts (c_Table_count l e0 D k stb sqb 4 0) (cwV 0 hts gX10_hasTerm_X9_count rfl rfl rfl (by decide +kernel) ⟨Nat.le_of_ble_eq_true rfl, Nat.le_of_ble_eq_true rfl⟩) hK hP hD hS hA hE [1] [0] rfl rfl (by decide) (by decide) (by decide) (wr := [(st, .inr (14, [.int 0, .ref sta, .ref stb, .ref stc, .ref std]))]) (w2 := fun u => [(st, .inr (14, [.int 0, .ref sta, .ref stb, .ref stc, .ref std])), (stb, .inr (13, [.int 4, .ref sqb, .int 0]))]) (fun _ => rfl) 0 13 rfl rfl rfl hl.1 rfl (Nat.le_of_ble_eq_true rfl) rfl ⟨Nat.le_of_ble_eq_true rfl, Nat.le_of_ble_eq_true rfl⟩ dX10_hasTerm_9 (fun r u H locs hq hP hD hS => ?_)
    have er : r = 0 := hq
    subst er
    have hP : va_P D vwCl [(st, .inr (14, [.int 0, .ref sta, .ref stb, .ref stc, .ref std])), (stb, .inr (13, [.int 4, .ref sqb, .int 0]))] H := hP
    have hD : va_D A [(st, .inr (14, [.int 0, .ref sta, .ref stb, .ref stc, .ref std])), (stb, .inr (13, [.int 4, .ref sqb, .int 0]))] := hD
    refine lv_icmp_ge (tgt := 19) hx hb dX10_hasTerm_12 (by decide) (fun c_12 => ?_) (fun c_12 => absurd (o_nn c_1) c_12)
    refine lv_iconst (v := 0) hx hb dX10_hasTerm_19 (by decide) ?_
    exact oi_ret hx hb hr hlocks (by decide +kernel) () (rfl) hK (hP.sub [0, 1] rfl) (hD.sub [0, 1] (by decide) rfl) hS (Nat.le_of_ble_eq_true rfl) (Nat.le_of_ble_eq_true rfl) dX10_hasTerm_20
theorem iw_X10_hasConstructor_X10 : ∀ w ∈ wsX100, w ∈ wsX10_hasConstructor := by decide +kernel
set_option maxHeartbeats 4000000 in
set_option maxRecDepth 100000 in
theorem f_hasConstructor (l : Launch) (e0 : Nat) (D : va_G) (k : Nat → ClassId) (st : Nat) (p0 : Int32) (sta : Nat) (stb : Nat) (stc : Nat) (std : Nat) (sqa : Nat) : oCi l e0 D (oTy k) yX10_hasConstructor wsX10_hasConstructor ({ frames := 1, cells := 0, slots := 0, locals := 20 } : Room) [.ref st, .int p0] [(st, .inr (14, [.int 0, .ref sta, .ref stb, .ref stc, .ref std])), (sta, .inr (13, [.int 3, .ref sqa, .int 0]))] (S := Unit) (fun (r : Int32) (u : Unit) => r = 0) (fun u => [(st, .inr (14, [.int 0, .ref sta, .ref stb, .ref stc, .ref std])), (sta, .inr (13, [.int 3, .ref sqa, .int 0]))]) 0 0 := by
  refine oi_of (cc := cX10_hasConstructor) (maxL := 2) (ret := (some .boolean)) (by decide +kernel) rfl (Nat.le_of_ble_eq_true rfl) ?_
  intro p e s m below meth c A ls hx hb hml hr hts hown hlocks hin hA hK hP hD hS hE hl
  have hl : lv_has ls 2 [(0, .ref st), (1, .int p0)] := hl
  refine lv_iload_n hx hb dX10_hasConstructor_0 rfl (lv_at hl 1 rfl) ?_
  refine lv_if_lt (tgt := 19) hx hb dX10_hasConstructor_1 (by decide) (fun c_1 => ?_) (fun c_1 => ?_)
  · skip
    refine lv_iconst (v := 0) hx hb dX10_hasConstructor_19 (by decide) ?_
    exact oi_ret hx hb hr hlocks (by decide +kernel) () (rfl) hK (hP.sub [0, 1] rfl) (hD.sub [0, 1] (by decide) rfl) hS (Nat.le_of_ble_eq_true rfl) (Nat.le_of_ble_eq_true rfl) dX10_hasConstructor_20
  · skip
    refine lv_iload_n hx hb dX10_hasConstructor_4 rfl (lv_at hl 1 rfl) ?_
    refine lv_aload_n hx hb dX10_hasConstructor_5 rfl (lv_at hl 0 rfl) ?_
    refine va_get (D := D) (ci := 14) (v := .ref sta) (C := RX10) (T := TX10) (N := 5) hx hb hts iw_X10_hasConstructor_X10 hown hK hP 0 rfl rfl 1 (by decide) (hts (.fieldLink RX10 20 "ModedMill$Terms" "constructors" "LModedMill$Table;") (by decide +kernel)) (fun _ h9 => h9) rfl dX10_hasConstructor_6 ?_
    refine oi_callV hx hb hml hown hts (c_Table_count l e0 D k sta sqa 3 0) (cwV 0 hts gX10_hasConstructor_X9_count rfl rfl rfl (by decide +kernel) ⟨Nat.le_of_ble_eq_true rfl, Nat.le_of_ble_eq_true rfl⟩) hK hP hD hS hA hE [1] [0] rfl rfl (by decide) (by decide) (by decide) (wr := [(st, .inr (14, [.int 0, .ref sta, .ref stb, .ref stc, .ref std]))]) (w2 := fun u => [(st, .inr (14, [.int 0, .ref sta, .ref stb, .ref stc, .ref std])), (sta, .inr (13, [.int 3, .ref sqa, .int 0]))]) (fun _ => rfl) 0 13 rfl rfl rfl hl.1 rfl (Nat.le_of_ble_eq_true rfl) rfl ⟨Nat.le_of_ble_eq_true rfl, Nat.le_of_ble_eq_true rfl⟩ dX10_hasConstructor_9 (fun r u H locs hq hP hD hS => ?_)
    have er : r = 0 := hq
    subst er
    have hP : va_P D vwCl [(st, .inr (14, [.int 0, .ref sta, .ref stb, .ref stc, .ref std])), (sta, .inr (13, [.int 3, .ref sqa, .int 0]))] H := hP
    have hD : va_D A [(st, .inr (14, [.int 0, .ref sta, .ref stb, .ref stc, .ref std])), (sta, .inr (13, [.int 3, .ref sqa, .int 0]))] := hD
    refine lv_icmp_ge (tgt := 19) hx hb dX10_hasConstructor_12 (by decide) (fun c_12 => ?_) (fun c_12 => absurd (o_nn c_1) c_12)
    refine lv_iconst (v := 0) hx hb dX10_hasConstructor_19 (by decide) ?_
    exact oi_ret hx hb hr hlocks (by decide +kernel) () (rfl) hK (hP.sub [0, 1] rfl) (hD.sub [0, 1] (by decide) rfl) hS (Nat.le_of_ble_eq_true rfl) (Nat.le_of_ble_eq_true rfl) dX10_hasConstructor_20
theorem iw_X10_termCount_X10 : ∀ w ∈ wsX100, w ∈ wsX10_termCount := by decide +kernel
set_option maxHeartbeats 4000000 in
set_option maxRecDepth 100000 in
theorem f_termCount (l : Launch) (e0 : Nat) (D : va_G) (k : Nat → ClassId) (st : Nat) (sta : Nat) (stb : Nat) (stc : Nat) (std : Nat) (sqb : Nat) : oCi l e0 D (oTy k) yX10_termCount wsX10_termCount ({ frames := 1, cells := 0, slots := 0, locals := 20 } : Room) [.ref st] [(st, .inr (14, [.int 0, .ref sta, .ref stb, .ref stc, .ref std])), (stb, .inr (13, [.int 4, .ref sqb, .int 0]))] (S := Unit) (fun (r : Int32) (u : Unit) => r = 0) (fun u => [(st, .inr (14, [.int 0, .ref sta, .ref stb, .ref stc, .ref std])), (stb, .inr (13, [.int 4, .ref sqb, .int 0]))]) 0 0 := by
  refine oi_of (cc := cX10_termCount) (maxL := 1) (ret := (some .int)) (by decide +kernel) rfl (Nat.le_of_ble_eq_true rfl) ?_
  intro p e s m below meth c A ls hx hb hml hr hts hown hlocks hin hA hK hP hD hS hE hl
  have hl : lv_has ls 1 [(0, .ref st)] := hl
  refine lv_aload_n hx hb dX10_termCount_0 rfl (lv_at hl 0 rfl) ?_
  refine va_get (D := D) (ci := 14) (v := .ref stb) (C := RX10) (T := TX10) (N := 5) hx hb hts iw_X10_termCount_X10 hown hK hP 0 rfl rfl 2 (by decide) (hts (.fieldLink RX10 24 "ModedMill$Terms" "numbered" "LModedMill$Table;") (by decide +kernel)) (fun _ h9 => h9) rfl dX10_termCount_1 ?_
  refine oi_callV hx hb hml hown hts (c_Table_count l e0 D k stb sqb 4 0) (cwV 0 hts gX10_termCount_X9_count rfl rfl rfl (by decide +kernel) ⟨Nat.le_of_ble_eq_true rfl, Nat.le_of_ble_eq_true rfl⟩) hK hP hD hS hA hE [1] [0] rfl rfl (by decide) (by decide) (by decide) (wr := [(st, .inr (14, [.int 0, .ref sta, .ref stb, .ref stc, .ref std]))]) (w2 := fun u => [(st, .inr (14, [.int 0, .ref sta, .ref stb, .ref stc, .ref std])), (stb, .inr (13, [.int 4, .ref sqb, .int 0]))]) (fun _ => rfl) 0 13 rfl rfl rfl hl.1 rfl (Nat.le_of_ble_eq_true rfl) rfl ⟨Nat.le_of_ble_eq_true rfl, Nat.le_of_ble_eq_true rfl⟩ dX10_termCount_4 (fun r u H locs hq hP hD hS => ?_)
  have er : r = 0 := hq
  subst er
  have hP : va_P D vwCl [(st, .inr (14, [.int 0, .ref sta, .ref stb, .ref stc, .ref std])), (stb, .inr (13, [.int 4, .ref sqb, .int 0]))] H := hP
  have hD : va_D A [(st, .inr (14, [.int 0, .ref sta, .ref stb, .ref stc, .ref std])), (stb, .inr (13, [.int 4, .ref sqb, .int 0]))] := hD
  exact oi_ret hx hb hr hlocks rfl () (rfl) hK (hP.sub [0, 1] rfl) (hD.sub [0, 1] (by decide) rfl) hS (Nat.le_of_ble_eq_true rfl) (Nat.le_of_ble_eq_true rfl) dX10_termCount_7
theorem iw_Jx4a65c_size_8abf5_Jx4a65c : ∀ w ∈ wsJx4a65c0, w ∈ wsJx4a65c_size_8abf5 := by decide +kernel
set_option maxHeartbeats 4000000 in
set_option maxRecDepth 100000 in
theorem f_size (l : Launch) (e0 : Nat) (D : va_G) (k : Nat → ClassId) (h0 : Nat) (mo : Int32) (el : Nat) (sz9 : Int32) : oCi l e0 D (oTy k) yJx4a65c_size_8abf5 wsJx4a65c_size_8abf5 ({ frames := 0, cells := 0, slots := 0, locals := 0 } : Room) [.ref h0] [(h0, .inr (3, [.int mo, .ref el, .int sz9]))] (S := Unit) (fun (r : Int32) (u : Unit) => r = sz9) (fun u => [(h0, .inr (3, [.int mo, .ref el, .int sz9]))]) 0 0 := by
  refine oi_of (cc := cJx4a65c_size_8abf5) (maxL := 1) (ret := (some .int)) (by decide +kernel) rfl (Nat.le_of_ble_eq_true rfl) ?_
  intro p e s m below meth c A ls hx hb hml hr hts hown hlocks hin hA hK hP hD hS hE hl
  have hl : lv_has ls 1 [(0, .ref h0)] := hl
  refine lv_aload_n hx hb dJx4a65c_size_8abf5_0 rfl (lv_at hl 0 rfl) ?_
  refine va_get (D := D) (ci := 3) (v := .int sz9) (C := RJx4a65c) (T := TJx4a65c) (N := 3) hx hb hts iw_Jx4a65c_size_8abf5_Jx4a65c hown hK hP 0 rfl rfl 2 (by decide) (hts (.fieldLink RJx4a65c 48 "java/util/ArrayList" "size" "I") (by decide +kernel)) (fun _ h9 => h9) rfl dJx4a65c_size_8abf5_1 ?_
  exact oi_ret hx hb hr hlocks rfl () (rfl) hK (hP.sub [0] rfl) (hD.sub [0] (by decide) rfl) hS (Nat.le_of_ble_eq_true rfl) (Nat.le_of_ble_eq_true rfl) dJx4a65c_size_8abf5_4
theorem iw_X7_predicateAt_X7 : ∀ w ∈ wsX70, w ∈ wsX7_predicateAt := by decide +kernel
set_option maxHeartbeats 4000000 in
set_option maxRecDepth 100000 in
theorem f_predicateAt (l : Launch) (e0 : Nat) (D : va_G) (k : Nat → ClassId) (pg : Nat) (p0 : Int32) (pla : Nat) (plb : Nat) (plc : Nat) : oCq l e0 D (oTy k) yX7_predicateAt wsX7_predicateAt ({ frames := 1, cells := 0, slots := 0, locals := 20 } : Room) [.ref pg, .int p0] [(pg, .inr (11, [.ref pla, .ref plb, .ref plc])), (pla, .inr (3, [.int 0, .ref e0, .int 0]))] (S := Unit) (fun (r : Option Nat) (u : Unit) => r = none) (fun u => [(pg, .inr (11, [.ref pla, .ref plb, .ref plc])), (pla, .inr (3, [.int 0, .ref e0, .int 0]))]) 0 0 := by
  refine oq_of (cc := cX7_predicateAt) (maxL := 2) (ret := (some (.object "ModedMill$Predicate"))) (by decide +kernel) rfl (Nat.le_of_ble_eq_true rfl) ?_
  intro p e s m below meth c A ls hx hb hml hr hts hown hlocks hin hA hK hP hD hS hE hl
  have hl : lv_has ls 2 [(0, .ref pg), (1, .int p0)] := hl
  refine lv_iload_n hx hb dX7_predicateAt_0 rfl (lv_at hl 1 rfl) ?_
  refine lv_if_lt (tgt := 29) hx hb dX7_predicateAt_1 (by decide) (fun c_1 => ?_) (fun c_1 => ?_)
  · skip
    refine lv_null hx hb dX7_predicateAt_29 ?_
    exact oq_ret hx hb hr (Or.inl ⟨_, rfl⟩) hlocks none rfl () (rfl) hK (hP.sub [0, 1] rfl) (hD.sub [0, 1] (by decide) rfl) hS (Nat.le_of_ble_eq_true rfl) (Nat.le_of_ble_eq_true rfl) dX7_predicateAt_30
  · skip
    refine lv_iload_n hx hb dX7_predicateAt_4 rfl (lv_at hl 1 rfl) ?_
    refine lv_aload_n hx hb dX7_predicateAt_5 rfl (lv_at hl 0 rfl) ?_
    refine va_get (D := D) (ci := 11) (v := .ref pla) (C := RX7) (T := TX7) (N := 3) hx hb hts iw_X7_predicateAt_X7 hown hK hP 0 rfl rfl 0 (by decide) (hts (.fieldLink RX7 12 "ModedMill$Program" "predicates" "Ljava/util/ArrayList;") (by decide +kernel)) (fun _ h9 => h9) rfl dX7_predicateAt_6 ?_
    refine oi_callV hx hb hml hown hts (f_size l e0 D k pla 0 e0 0) (cwV 0 hts gX7_predicateAt_Jx4a65c_size_8abf5 rfl rfl rfl (by decide +kernel) ⟨Nat.le_of_ble_eq_true rfl, Nat.le_of_ble_eq_true rfl⟩) hK hP hD hS hA hE [1] [0] rfl rfl (by decide) (by decide) (by decide) (wr := [(pg, .inr (11, [.ref pla, .ref plb, .ref plc]))]) (w2 := fun u => [(pg, .inr (11, [.ref pla, .ref plb, .ref plc])), (pla, .inr (3, [.int 0, .ref e0, .int 0]))]) (fun _ => rfl) 0 3 rfl rfl rfl hl.1 rfl (Nat.le_of_ble_eq_true rfl) rfl ⟨Nat.le_of_ble_eq_true rfl, Nat.le_of_ble_eq_true rfl⟩ dX7_predicateAt_9 (fun r u H locs hq hP hD hS => ?_)
    have er : r = 0 := hq
    subst er
    have hP : va_P D vwCl [(pg, .inr (11, [.ref pla, .ref plb, .ref plc])), (pla, .inr (3, [.int 0, .ref e0, .int 0]))] H := hP
    have hD : va_D A [(pg, .inr (11, [.ref pla, .ref plb, .ref plc])), (pla, .inr (3, [.int 0, .ref e0, .int 0]))] := hD
    refine lv_icmp_ge (tgt := 29) hx hb dX7_predicateAt_12 (by decide) (fun c_12 => ?_) (fun c_12 => absurd (o_nn c_1) c_12)
    refine lv_null hx hb dX7_predicateAt_29 ?_
    exact oq_ret hx hb hr (Or.inl ⟨_, rfl⟩) hlocks none rfl () (rfl) hK (hP.sub [0, 1] rfl) (hD.sub [0, 1] (by decide) rfl) hS (Nat.le_of_ble_eq_true rfl) (Nat.le_of_ble_eq_true rfl) dX7_predicateAt_30
theorem iw_X7_clauseAt_X7 : ∀ w ∈ wsX70, w ∈ wsX7_clauseAt := by decide +kernel
set_option maxHeartbeats 4000000 in
set_option maxRecDepth 100000 in
theorem f_clauseAt (l : Launch) (e0 : Nat) (D : va_G) (k : Nat → ClassId) (pg : Nat) (p0 : Int32) (pla : Nat) (plb : Nat) (plc : Nat) : oCq l e0 D (oTy k) yX7_clauseAt wsX7_clauseAt ({ frames := 1, cells := 0, slots := 0, locals := 20 } : Room) [.ref pg, .int p0] [(pg, .inr (11, [.ref pla, .ref plb, .ref plc])), (plc, .inr (3, [.int 0, .ref e0, .int 0]))] (S := Unit) (fun (r : Option Nat) (u : Unit) => r = none) (fun u => [(pg, .inr (11, [.ref pla, .ref plb, .ref plc])), (plc, .inr (3, [.int 0, .ref e0, .int 0]))]) 0 0 := by
  refine oq_of (cc := cX7_clauseAt) (maxL := 2) (ret := (some (.object "ModedMill$Clause"))) (by decide +kernel) rfl (Nat.le_of_ble_eq_true rfl) ?_
  intro p e s m below meth c A ls hx hb hml hr hts hown hlocks hin hA hK hP hD hS hE hl
  have hl : lv_has ls 2 [(0, .ref pg), (1, .int p0)] := hl
  refine lv_iload_n hx hb dX7_clauseAt_0 rfl (lv_at hl 1 rfl) ?_
  refine lv_if_lt (tgt := 29) hx hb dX7_clauseAt_1 (by decide) (fun c_1 => ?_) (fun c_1 => ?_)
  · skip
    refine lv_null hx hb dX7_clauseAt_29 ?_
    exact oq_ret hx hb hr (Or.inl ⟨_, rfl⟩) hlocks none rfl () (rfl) hK (hP.sub [0, 1] rfl) (hD.sub [0, 1] (by decide) rfl) hS (Nat.le_of_ble_eq_true rfl) (Nat.le_of_ble_eq_true rfl) dX7_clauseAt_30
  · skip
    refine lv_iload_n hx hb dX7_clauseAt_4 rfl (lv_at hl 1 rfl) ?_
    refine lv_aload_n hx hb dX7_clauseAt_5 rfl (lv_at hl 0 rfl) ?_
    refine va_get (D := D) (ci := 11) (v := .ref plc) (C := RX7) (T := TX7) (N := 3) hx hb hts iw_X7_clauseAt_X7 hown hK hP 0 rfl rfl 2 (by decide) (hts (.fieldLink RX7 21 "ModedMill$Program" "clauses" "Ljava/util/ArrayList;") (by decide +kernel)) (fun _ h9 => h9) rfl dX7_clauseAt_6 ?_
    refine oi_callV hx hb hml hown hts (f_size l e0 D k plc 0 e0 0) (cwV 0 hts gX7_clauseAt_Jx4a65c_size_8abf5 rfl rfl rfl (by decide +kernel) ⟨Nat.le_of_ble_eq_true rfl, Nat.le_of_ble_eq_true rfl⟩) hK hP hD hS hA hE [1] [0] rfl rfl (by decide) (by decide) (by decide) (wr := [(pg, .inr (11, [.ref pla, .ref plb, .ref plc]))]) (w2 := fun u => [(pg, .inr (11, [.ref pla, .ref plb, .ref plc])), (plc, .inr (3, [.int 0, .ref e0, .int 0]))]) (fun _ => rfl) 0 3 rfl rfl rfl hl.1 rfl (Nat.le_of_ble_eq_true rfl) rfl ⟨Nat.le_of_ble_eq_true rfl, Nat.le_of_ble_eq_true rfl⟩ dX7_clauseAt_9 (fun r u H locs hq hP hD hS => ?_)
    have er : r = 0 := hq
    subst er
    have hP : va_P D vwCl [(pg, .inr (11, [.ref pla, .ref plb, .ref plc])), (plc, .inr (3, [.int 0, .ref e0, .int 0]))] H := hP
    have hD : va_D A [(pg, .inr (11, [.ref pla, .ref plb, .ref plc])), (plc, .inr (3, [.int 0, .ref e0, .int 0]))] := hD
    refine lv_icmp_ge (tgt := 29) hx hb dX7_clauseAt_12 (by decide) (fun c_12 => ?_) (fun c_12 => absurd (o_nn c_1) c_12)
    refine lv_null hx hb dX7_clauseAt_29 ?_
    exact oq_ret hx hb hr (Or.inl ⟨_, rfl⟩) hlocks none rfl () (rfl) hK (hP.sub [0, 1] rfl) (hD.sub [0, 1] (by decide) rfl) hS (Nat.le_of_ble_eq_true rfl) (Nat.le_of_ble_eq_true rfl) dX7_clauseAt_30
theorem iw_X7_predicateCount_X7 : ∀ w ∈ wsX70, w ∈ wsX7_predicateCount := by decide +kernel
set_option maxHeartbeats 4000000 in
set_option maxRecDepth 100000 in
theorem f_predicateCount (l : Launch) (e0 : Nat) (D : va_G) (k : Nat → ClassId) (pg : Nat) (pla : Nat) (plb : Nat) (plc : Nat) : oCi l e0 D (oTy k) yX7_predicateCount wsX7_predicateCount ({ frames := 1, cells := 0, slots := 0, locals := 20 } : Room) [.ref pg] [(pg, .inr (11, [.ref pla, .ref plb, .ref plc])), (pla, .inr (3, [.int 0, .ref e0, .int 0]))] (S := Unit) (fun (r : Int32) (u : Unit) => r = 0) (fun u => [(pg, .inr (11, [.ref pla, .ref plb, .ref plc])), (pla, .inr (3, [.int 0, .ref e0, .int 0]))]) 0 0 := by
  refine oi_of (cc := cX7_predicateCount) (maxL := 1) (ret := (some .int)) (by decide +kernel) rfl (Nat.le_of_ble_eq_true rfl) ?_
  intro p e s m below meth c A ls hx hb hml hr hts hown hlocks hin hA hK hP hD hS hE hl
  have hl : lv_has ls 1 [(0, .ref pg)] := hl
  refine lv_aload_n hx hb dX7_predicateCount_0 rfl (lv_at hl 0 rfl) ?_
  refine va_get (D := D) (ci := 11) (v := .ref pla) (C := RX7) (T := TX7) (N := 3) hx hb hts iw_X7_predicateCount_X7 hown hK hP 0 rfl rfl 0 (by decide) (hts (.fieldLink RX7 12 "ModedMill$Program" "predicates" "Ljava/util/ArrayList;") (by decide +kernel)) (fun _ h9 => h9) rfl dX7_predicateCount_1 ?_
  refine oi_callV hx hb hml hown hts (f_size l e0 D k pla 0 e0 0) (cwV 0 hts gX7_predicateCount_Jx4a65c_size_8abf5 rfl rfl rfl (by decide +kernel) ⟨Nat.le_of_ble_eq_true rfl, Nat.le_of_ble_eq_true rfl⟩) hK hP hD hS hA hE [1] [0] rfl rfl (by decide) (by decide) (by decide) (wr := [(pg, .inr (11, [.ref pla, .ref plb, .ref plc]))]) (w2 := fun u => [(pg, .inr (11, [.ref pla, .ref plb, .ref plc])), (pla, .inr (3, [.int 0, .ref e0, .int 0]))]) (fun _ => rfl) 0 3 rfl rfl rfl hl.1 rfl (Nat.le_of_ble_eq_true rfl) rfl ⟨Nat.le_of_ble_eq_true rfl, Nat.le_of_ble_eq_true rfl⟩ dX7_predicateCount_4 (fun r u H locs hq hP hD hS => ?_)
  have er : r = 0 := hq
  subst er
  have hP : va_P D vwCl [(pg, .inr (11, [.ref pla, .ref plb, .ref plc])), (pla, .inr (3, [.int 0, .ref e0, .int 0]))] H := hP
  have hD : va_D A [(pg, .inr (11, [.ref pla, .ref plb, .ref plc])), (pla, .inr (3, [.int 0, .ref e0, .int 0]))] := hD
  exact oi_ret hx hb hr hlocks rfl () (rfl) hK (hP.sub [0, 1] rfl) (hD.sub [0, 1] (by decide) rfl) hS (Nat.le_of_ble_eq_true rfl) (Nat.le_of_ble_eq_true rfl) dX7_predicateCount_7
set_option maxHeartbeats 4000000 in
set_option maxRecDepth 100000 in
theorem f_modeAt (l : Launch) (e0 : Nat) (D : va_G) (k : Nat → ClassId) (pg : Nat) (p0 : Int32) (p1 : Int32) (pla : Nat) (plb : Nat) (plc : Nat) : oCq l e0 D (oTy k) yX7_modeAt wsX7_modeAt ({ frames := 2, cells := 0, slots := 0, locals := 41 } : Room) [.ref pg, .int p0, .int p1] [(pg, .inr (11, [.ref pla, .ref plb, .ref plc])), (pla, .inr (3, [.int 0, .ref e0, .int 0]))] (S := Unit) (fun (r : Option Nat) (u : Unit) => r = none) (fun u => [(pg, .inr (11, [.ref pla, .ref plb, .ref plc])), (pla, .inr (3, [.int 0, .ref e0, .int 0]))]) 0 0 := by
  refine oq_of (cc := cX7_modeAt) (maxL := 4) (ret := (some (.object "ModedMill$Mode"))) (by decide +kernel) rfl (Nat.le_of_ble_eq_true rfl) ?_
  intro p e s m below meth c A ls hx hb hml hr hts hown hlocks hin hA hK hP hD hS hE hl
  have hl : lv_has ls 4 [(0, .ref pg), (1, .int p0), (2, .int p1)] := hl
  refine lv_aload_n hx hb dX7_modeAt_0 rfl (lv_at hl 0 rfl) ?_
  refine lv_iload_n hx hb dX7_modeAt_1 rfl (lv_at hl 1 rfl) ?_
  refine oq_callV hx hb hml hown hts (f_predicateAt l e0 D k pg p0 pla plb plc) (cwV 1 hts gX7_modeAt_X7_predicateAt rfl rfl rfl (by decide +kernel) ⟨Nat.le_of_ble_eq_true rfl, Nat.le_of_ble_eq_true rfl⟩) hK hP hD hS hA hE [0, 1] [] rfl rfl (by decide) (by decide) (by decide) (wr := []) (w2 := fun u => [(pg, .inr (11, [.ref pla, .ref plb, .ref plc])), (pla, .inr (3, [.int 0, .ref e0, .int 0]))]) (fun _ => rfl) 0 11 rfl rfl rfl hl.1 rfl (Nat.le_of_ble_eq_true rfl) rfl ⟨Nat.le_of_ble_eq_true rfl, Nat.le_of_ble_eq_true rfl⟩ dX7_modeAt_2 (fun r u H locs hq hP hD hS => ?_)
  have er : r = none := hq
  subst er
  have hP : va_P D vwCl [(pg, .inr (11, [.ref pla, .ref plb, .ref plc])), (pla, .inr (3, [.int 0, .ref e0, .int 0]))] H := hP
  have hD : va_D A [(pg, .inr (11, [.ref pla, .ref plb, .ref plc])), (pla, .inr (3, [.int 0, .ref e0, .int 0]))] := hD
  refine lv_astore_nN (lv' := [(3, .null), (0, .ref pg), (1, .int p0), (2, .int p1)]) hx hb dX7_modeAt_5 rfl hl (by decide) rfl (fun ls hl => ?_)
  refine lv_aload_nN hx hb dX7_modeAt_6 rfl (lv_at hl 0 rfl) ?_
  refine lv_ifnonnullN hx hb dX7_modeAt_7 ?_
  refine lv_null hx hb dX7_modeAt_10 ?_
  refine lv_goto (tgt := 19) hx hb dX7_modeAt_11 (by decide) ?_
  exact oq_ret hx hb hr (Or.inl ⟨_, rfl⟩) hlocks none rfl () (rfl) hK (hP.sub [0, 1] rfl) (hD.sub [0, 1] (by decide) rfl) hS (Nat.le_of_ble_eq_true rfl) (Nat.le_of_ble_eq_true rfl) dX7_modeAt_19
set_option maxHeartbeats 4000000 in
set_option maxRecDepth 100000 in
theorem f_isTypeOrNone (l : Launch) (e0 : Nat) (D : va_G) (k : Nat → ClassId) (h0 : Nat) (st : Nat) (pg : Nat) (mc : Nat) (br : Nat) (la : Nat) (sp : Nat) (sta : Nat) (stb : Nat) (stc : Nat) (std : Nat) : oCi l e0 D (oTy k) yX11_isTypeOrNone wsX11_isTypeOrNone ({ frames := 0, cells := 0, slots := 0, locals := 0 } : Room) [.ref h0, .int (-1)] [(h0, .inr (15, [.ref st, .ref pg, .ref mc, .ref br, .ref la, .ref sp, .int 0, .int 0, .long 0])), (st, .inr (14, [.int 0, .ref sta, .ref stb, .ref stc, .ref std]))] (S := Unit) (fun (r : Int32) (u : Unit) => r = 1) (fun u => [(h0, .inr (15, [.ref st, .ref pg, .ref mc, .ref br, .ref la, .ref sp, .int 0, .int 0, .long 0])), (st, .inr (14, [.int 0, .ref sta, .ref stb, .ref stc, .ref std]))]) 0 0 := by
  refine oi_of (cc := cX11_isTypeOrNone) (maxL := 2) (ret := (some .boolean)) (by decide +kernel) rfl (Nat.le_of_ble_eq_true rfl) ?_
  intro p e s m below meth c A ls hx hb hml hr hts hown hlocks hin hA hK hP hD hS hE hl
  have hl : lv_has ls 2 [(0, .ref h0), (1, .int (-1))] := hl
  refine lv_iload_n hx hb dX11_isTypeOrNone_0 rfl (lv_at hl 1 rfl) ?_
  refine lv_iconst (v := (-1)) hx hb dX11_isTypeOrNone_1 (by decide) ?_
  refine lv_icmp_eq (tgt := 16) hx hb dX11_isTypeOrNone_2 (by decide) (fun c_2 => ?_) (fun c_2 => absurd c_2 (by decide))
  refine lv_iconst (v := 1) hx hb dX11_isTypeOrNone_16 (by decide) ?_
  refine lv_goto (tgt := 21) hx hb dX11_isTypeOrNone_17 (by decide) ?_
  exact oi_ret hx hb hr hlocks (by decide +kernel) () (rfl) hK (hP.sub [0, 1] rfl) (hD.sub [0, 1] (by decide) rfl) hS (Nat.le_of_ble_eq_true rfl) (Nat.le_of_ble_eq_true rfl) dX11_isTypeOrNone_21
theorem iw_X11_isTypeOrNone_X11 : ∀ w ∈ wsX110, w ∈ wsX11_isTypeOrNone := by decide +kernel
set_option maxHeartbeats 4000000 in
set_option maxRecDepth 100000 in
theorem f_isTypeOrNone_no (l : Launch) (e0 : Nat) (D : va_G) (k : Nat → ClassId) (h0 : Nat) (p0 : Int32) (st : Nat) (pg : Nat) (mc : Nat) (br : Nat) (la : Nat) (sp : Nat) (sta : Nat) (stb : Nat) (stc : Nat) (std : Nat) (hne : ¬ p0 = -1) : oCi l e0 D (oTy k) yX11_isTypeOrNone wsX11_isTypeOrNone ({ frames := 1, cells := 0, slots := 0, locals := 21 } : Room) [.ref h0, .int p0] [(h0, .inr (15, [.ref st, .ref pg, .ref mc, .ref br, .ref la, .ref sp, .int 0, .int 0, .long 0])), (st, .inr (14, [.int 0, .ref sta, .ref stb, .ref stc, .ref std]))] (S := Unit) (fun (r : Int32) (u : Unit) => r = 0) (fun u => [(h0, .inr (15, [.ref st, .ref pg, .ref mc, .ref br, .ref la, .ref sp, .int 0, .int 0, .long 0])), (st, .inr (14, [.int 0, .ref sta, .ref stb, .ref stc, .ref std]))]) 0 0 := by
  refine oi_of (cc := cX11_isTypeOrNone) (maxL := 2) (ret := (some .boolean)) (by decide +kernel) rfl (Nat.le_of_ble_eq_true rfl) ?_
  intro p e s m below meth c A ls hx hb hml hr hts hown hlocks hin hA hK hP hD hS hE hl
  have hl : lv_has ls 2 [(0, .ref h0), (1, .int p0)] := hl
  refine lv_iload_n hx hb dX11_isTypeOrNone_0 rfl (lv_at hl 1 rfl) ?_
  refine lv_iconst (v := (-1)) hx hb dX11_isTypeOrNone_1 (by decide) ?_
  refine lv_icmp_eq (tgt := 16) hx hb dX11_isTypeOrNone_2 (by decide) (fun c_2 => absurd c_2 hne) (fun c_2 => ?_)
  refine lv_aload_n hx hb dX11_isTypeOrNone_5 rfl (lv_at hl 0 rfl) ?_
  refine va_get (D := D) (ci := 15) (v := .ref st) (C := RX11) (T := TX11) (N := 9) hx hb hts iw_X11_isTypeOrNone_X11 hown hK hP 0 rfl rfl 0 (by decide) (hts (.fieldLink RX11 10 "ModedMill" "store" "LModedMill$Terms;") (by decide +kernel)) (fun _ h9 => h9) rfl dX11_isTypeOrNone_6 ?_
  refine lv_iload_n hx hb dX11_isTypeOrNone_9 rfl (lv_at hl 1 rfl) ?_
  refine oi_callV hx hb hml hown hts (f_hasType l e0 D k st p0 sta stb stc std) (cwV 1 hts gX11_isTypeOrNone_X10_hasType rfl rfl rfl (by decide +kernel) ⟨Nat.le_of_ble_eq_true rfl, Nat.le_of_ble_eq_true rfl⟩) hK hP hD hS hA hE [1] [0] rfl rfl (by decide) (by decide) (by decide) (wr := [(h0, .inr (15, [.ref st, .ref pg, .ref mc, .ref br, .ref la, .ref sp, .int 0, .int 0, .long 0]))]) (w2 := fun u => [(h0, .inr (15, [.ref st, .ref pg, .ref mc, .ref br, .ref la, .ref sp, .int 0, .int 0, .long 0])), (st, .inr (14, [.int 0, .ref sta, .ref stb, .ref stc, .ref std]))]) (fun _ => rfl) 0 14 rfl rfl rfl hl.1 rfl (Nat.le_of_ble_eq_true rfl) rfl ⟨Nat.le_of_ble_eq_true rfl, Nat.le_of_ble_eq_true rfl⟩ dX11_isTypeOrNone_10 (fun r u H locs hq hP hD hS => ?_)
  have er : r = 0 := hq
  subst er
  have hP : va_P D vwCl [(h0, .inr (15, [.ref st, .ref pg, .ref mc, .ref br, .ref la, .ref sp, .int 0, .int 0, .long 0])), (st, .inr (14, [.int 0, .ref sta, .ref stb, .ref stc, .ref std]))] H := hP
  have hD : va_D A [(h0, .inr (15, [.ref st, .ref pg, .ref mc, .ref br, .ref la, .ref sp, .int 0, .int 0, .long 0])), (st, .inr (14, [.int 0, .ref sta, .ref stb, .ref stc, .ref std]))] := hD
  refine lv_if_eq (tgt := 20) hx hb dX11_isTypeOrNone_13 (by decide) (fun c_13 => ?_) (fun c_13 => absurd c_13 (by decide))
  refine lv_iconst (v := 0) hx hb dX11_isTypeOrNone_20 (by decide) ?_
  exact oi_ret hx hb hr hlocks (by decide +kernel) () (rfl) hK (hP.sub [0, 1] rfl) (hD.sub [0, 1] (by decide) rfl) hS (Nat.le_of_ble_eq_true rfl) (Nat.le_of_ble_eq_true rfl) dX11_isTypeOrNone_21
theorem iw_X11_refuseUncompiled_X11 : ∀ w ∈ wsX110, w ∈ wsX11_refuseUncompiled := by decide +kernel
set_option maxHeartbeats 4000000 in
set_option maxRecDepth 100000 in
theorem f_refuseUncompiled (l : Launch) (hl0 : l.stackTraces = false) (e0 : Nat) (D : va_G) (k : Nat → ClassId) (h0 : Nat) (st : Nat) (pg : Nat) (mc : Nat) (br : Nat) (la : Nat) (sp : Nat) : oCx l e0 D (oTy k) yX11_refuseUncompiled wsX11_refuseUncompiled ({ frames := 6, cells := 1, slots := 6, locals := 89 } : Room) [.ref h0] [(h0, .inr (15, [.ref st, .ref pg, .ref mc, .ref br, .ref la, .ref sp, .int 0, .int 0, .long 0]))] "java/lang/IllegalStateException" 1 6 := by
  refine ox_of (cc := cX11_refuseUncompiled) (maxL := 1) (ret := none) (by decide +kernel) rfl (Nat.le_of_ble_eq_true rfl) ?_
  intro p e s m below meth c A ls hno hx hb hml hr hts hown hlocks hin hA hK hP hD hS hE hl
  have hl : lv_has ls 1 [(0, .ref h0)] := hl
  refine lv_aload_n hx hb dX11_refuseUncompiled_0 rfl (lv_at hl 0 rfl) ?_
  refine va_get (D := D) (ci := 15) (v := .int 0) (C := RX11) (T := TX11) (N := 9) hx hb hts iw_X11_refuseUncompiled_X11 hown hK hP 0 rfl rfl 6 (by decide) (hts (.fieldLink RX11 51 "ModedMill" "isCompiled" "Z") (by decide +kernel)) (fun _ h9 => h9) rfl dX11_refuseUncompiled_1 ?_
  refine lv_if_ne (tgt := 15) hx hb dX11_refuseUncompiled_4 (by decide) (fun c_4 => absurd c_4 (by decide)) (fun c_4 => ?_)
  exact ox_throw (names := ["java/lang/RuntimeException", "java/lang/Exception"]) (ik := 67) (ic := 69) (Ts := wsX11_refuseUncompiled) hno hlocks hx hb hl0 hown (by decide +kernel) (by decide +kernel) hts (by decide +kernel) (by decide +kernel) (by decide +kernel) (by decide +kernel) (by decide +kernel) (Or.inr (Or.inr (Or.inl rfl))) hE hK (hP.sub [0] rfl) (hD.sub [0] (by decide) rfl) hS (by rw [hml]; exact hl.1) dX11_refuseUncompiled_7 dX11_refuseUncompiled_10 dX11_refuseUncompiled_11 dX11_refuseUncompiled_14 (Nat.le_of_ble_eq_true rfl) (Nat.le_of_ble_eq_true rfl) (Nat.le_of_ble_eq_true rfl) (Nat.le_of_ble_eq_true rfl) (Nat.le_of_ble_eq_true rfl) (Nat.le_of_ble_eq_true rfl)
theorem iw_X11_refuseUnasked_X11 : ∀ w ∈ wsX110, w ∈ wsX11_refuseUnasked := by decide +kernel
set_option maxHeartbeats 4000000 in
set_option maxRecDepth 100000 in
theorem f_refuseUnasked (l : Launch) (hl0 : l.stackTraces = false) (e0 : Nat) (D : va_G) (k : Nat → ClassId) (h0 : Nat) (st : Nat) (pg : Nat) (mc : Nat) (br : Nat) (la : Nat) (sp : Nat) : oCx l e0 D (oTy k) yX11_refuseUnasked wsX11_refuseUnasked ({ frames := 6, cells := 1, slots := 6, locals := 89 } : Room) [.ref h0] [(h0, .inr (15, [.ref st, .ref pg, .ref mc, .ref br, .ref la, .ref sp, .int 0, .int 0, .long 0]))] "java/util/NoSuchElementException" 1 6 := by
  refine ox_of (cc := cX11_refuseUnasked) (maxL := 1) (ret := none) (by decide +kernel) rfl (Nat.le_of_ble_eq_true rfl) ?_
  intro p e s m below meth c A ls hno hx hb hml hr hts hown hlocks hin hA hK hP hD hS hE hl
  have hl : lv_has ls 1 [(0, .ref h0)] := hl
  refine lv_aload_n hx hb dX11_refuseUnasked_0 rfl (lv_at hl 0 rfl) ?_
  refine va_get (D := D) (ci := 15) (v := .int 0) (C := RX11) (T := TX11) (N := 9) hx hb hts iw_X11_refuseUnasked_X11 hown hK hP 0 rfl rfl 7 (by decide) (hts (.fieldLink RX11 55 "ModedMill" "asked" "I") (by decide +kernel)) (fun _ h9 => h9) rfl dX11_refuseUnasked_1 ?_
  refine lv_if_ne (tgt := 15) hx hb dX11_refuseUnasked_4 (by decide) (fun c_4 => absurd c_4 (by decide)) (fun c_4 => ?_)
  exact ox_throw (names := ["java/lang/RuntimeException", "java/lang/Exception"]) (ik := 117) (ic := 119) (Ts := wsX11_refuseUnasked) hno hlocks hx hb hl0 hown (by decide +kernel) (by decide +kernel) hts (by decide +kernel) (by decide +kernel) (by decide +kernel) (by decide +kernel) (by decide +kernel) (Or.inr (Or.inr (Or.inr (Or.inr (Or.inl rfl))))) hE hK (hP.sub [0] rfl) (hD.sub [0] (by decide) rfl) hS (by rw [hml]; exact hl.1) dX11_refuseUnasked_7 dX11_refuseUnasked_10 dX11_refuseUnasked_11 dX11_refuseUnasked_14 (Nat.le_of_ble_eq_true rfl) (Nat.le_of_ble_eq_true rfl) (Nat.le_of_ble_eq_true rfl) (Nat.le_of_ble_eq_true rfl) (Nat.le_of_ble_eq_true rfl) (Nat.le_of_ble_eq_true rfl)
theorem iw_X11_refuseMissingTerm_X11 : ∀ w ∈ wsX110, w ∈ wsX11_refuseMissingTerm := by decide +kernel
set_option maxHeartbeats 4000000 in
set_option maxRecDepth 100000 in
theorem f_refuseMissingTerm (l : Launch) (hl0 : l.stackTraces = false) (e0 : Nat) (D : va_G) (k : Nat → ClassId) (h0 : Nat) (p0 : Int32) (st : Nat) (pg : Nat) (mc : Nat) (br : Nat) (la : Nat) (sp : Nat) (sta : Nat) (stb : Nat) (stc : Nat) (std : Nat) (sqb : Nat) : oCx l e0 D (oTy k) yX11_refuseMissingTerm wsX11_refuseMissingTerm ({ frames := 6, cells := 1, slots := 6, locals := 89 } : Room) [.ref h0, .int p0] [(h0, .inr (15, [.ref st, .ref pg, .ref mc, .ref br, .ref la, .ref sp, .int 0, .int 0, .long 0])), (st, .inr (14, [.int 0, .ref sta, .ref stb, .ref stc, .ref std])), (stb, .inr (13, [.int 4, .ref sqb, .int 0]))] "java/lang/IndexOutOfBoundsException" 1 6 := by
  refine ox_of (cc := cX11_refuseMissingTerm) (maxL := 2) (ret := none) (by decide +kernel) rfl (Nat.le_of_ble_eq_true rfl) ?_
  intro p e s m below meth c A ls hno hx hb hml hr hts hown hlocks hin hA hK hP hD hS hE hl
  have hl : lv_has ls 2 [(0, .ref h0), (1, .int p0)] := hl
  refine lv_aload_n hx hb dX11_refuseMissingTerm_0 rfl (lv_at hl 0 rfl) ?_
  refine va_get (D := D) (ci := 15) (v := .ref st) (C := RX11) (T := TX11) (N := 9) hx hb hts iw_X11_refuseMissingTerm_X11 hown hK hP 0 rfl rfl 0 (by decide) (hts (.fieldLink RX11 10 "ModedMill" "store" "LModedMill$Terms;") (by decide +kernel)) (fun _ h9 => h9) rfl dX11_refuseMissingTerm_1 ?_
  refine lv_iload_n hx hb dX11_refuseMissingTerm_4 rfl (lv_at hl 1 rfl) ?_
  refine oi_callV hx hb hml hown hts (f_hasTerm l e0 D k st p0 sta stb stc std sqb) (cwV 1 hts gX11_refuseMissingTerm_X10_hasTerm rfl rfl rfl (by decide +kernel) ⟨Nat.le_of_ble_eq_true rfl, Nat.le_of_ble_eq_true rfl⟩) hK hP hD hS hA hE [1, 2] [0] rfl rfl (by decide) (by decide) (by decide) (wr := [(h0, .inr (15, [.ref st, .ref pg, .ref mc, .ref br, .ref la, .ref sp, .int 0, .int 0, .long 0]))]) (w2 := fun u => [(h0, .inr (15, [.ref st, .ref pg, .ref mc, .ref br, .ref la, .ref sp, .int 0, .int 0, .long 0])), (st, .inr (14, [.int 0, .ref sta, .ref stb, .ref stc, .ref std])), (stb, .inr (13, [.int 4, .ref sqb, .int 0]))]) (fun _ => rfl) 0 14 rfl rfl rfl hl.1 rfl (Nat.le_of_ble_eq_true rfl) rfl ⟨Nat.le_of_ble_eq_true rfl, Nat.le_of_ble_eq_true rfl⟩ dX11_refuseMissingTerm_5 (fun r u H locs hq hP hD hS => ?_)
  have er : r = 0 := hq
  subst er
  have hP : va_P D vwCl [(h0, .inr (15, [.ref st, .ref pg, .ref mc, .ref br, .ref la, .ref sp, .int 0, .int 0, .long 0])), (st, .inr (14, [.int 0, .ref sta, .ref stb, .ref stc, .ref std])), (stb, .inr (13, [.int 4, .ref sqb, .int 0]))] H := hP
  have hD : va_D A [(h0, .inr (15, [.ref st, .ref pg, .ref mc, .ref br, .ref la, .ref sp, .int 0, .int 0, .long 0])), (st, .inr (14, [.int 0, .ref sta, .ref stb, .ref stc, .ref std])), (stb, .inr (13, [.int 4, .ref sqb, .int 0]))] := hD
  refine lv_if_ne (tgt := 19) hx hb dX11_refuseMissingTerm_8 (by decide) (fun c_8 => absurd c_8 (by decide)) (fun c_8 => ?_)
  exact ox_throw (names := ["java/lang/RuntimeException", "java/lang/Exception"]) (ik := 80) (ic := 82) (Ts := wsX11_refuseMissingTerm) hno hlocks hx hb hl0 hown (by decide +kernel) (by decide +kernel) hts (by decide +kernel) (by decide +kernel) (by decide +kernel) (by decide +kernel) (by decide +kernel) (Or.inl rfl) hE hK (hP.sub [0, 1, 2] rfl) (hD.sub [0, 1, 2] (by decide) rfl) hS (by rw [hml]; exact hl.1) dX11_refuseMissingTerm_11 dX11_refuseMissingTerm_14 dX11_refuseMissingTerm_15 dX11_refuseMissingTerm_18 (Nat.le_of_ble_eq_true rfl) (Nat.le_of_ble_eq_true rfl) (Nat.le_of_ble_eq_true rfl) (Nat.le_of_ble_eq_true rfl) (Nat.le_of_ble_eq_true rfl) (Nat.le_of_ble_eq_true rfl)
set_option maxHeartbeats 4000000 in
set_option maxRecDepth 100000 in
theorem f_refuseMissingNote (l : Launch) (hl0 : l.stackTraces = false) (e0 : Nat) (D : va_G) (k : Nat → ClassId) (h0 : Nat) (p0 : Int32) (st : Nat) (pg : Nat) (mc : Nat) (br : Nat) (la : Nat) (sp : Nat) : oCx l e0 D (oTy k) yX11_refuseMissingNote wsX11_refuseMissingNote ({ frames := 7, cells := 1, slots := 6, locals := 109 } : Room) [.ref h0, .int p0] [(h0, .inr (15, [.ref st, .ref pg, .ref mc, .ref br, .ref la, .ref sp, .int 0, .int 0, .long 0]))] "java/util/NoSuchElementException" 1 6 := by
  refine ox_of (cc := cX11_refuseMissingNote) (maxL := 2) (ret := none) (by decide +kernel) rfl (Nat.le_of_ble_eq_true rfl) ?_
  intro p e s m below meth c A ls hno hx hb hml hr hts hown hlocks hin hA hK hP hD hS hE hl
  have hl : lv_has ls 2 [(0, .ref h0), (1, .int p0)] := hl
  refine lv_aload_n hx hb dX11_refuseMissingNote_0 rfl (lv_at hl 0 rfl) ?_
  refine ox_callV hx hb hml hown hts (f_refuseUnasked l hl0 e0 D k h0 st pg mc br la sp) (cwV 0 hts gX11_refuseMissingNote_X11_refuseUnasked rfl rfl rfl (by decide +kernel) ⟨Nat.le_of_ble_eq_true rfl, Nat.le_of_ble_eq_true rfl⟩) hK hP hD hS hA hE [0] [] rfl rfl (by decide) (by decide) (by decide) (wr := []) (w3 := [(h0, .inr (15, [.ref st, .ref pg, .ref mc, .ref br, .ref la, .ref sp, .int 0, .int 0, .long 0]))]) rfl 0 15 rfl rfl rfl hl.1 rfl (Nat.le_of_ble_eq_true rfl) rfl ⟨Nat.le_of_ble_eq_true rfl, Nat.le_of_ble_eq_true rfl⟩ dX11_refuseMissingNote_1 (fun ce q9 H locs hP hD hS hce hcv hcl => ?_)
  exact ox_out hno hlocks hK (hP.sub [0] rfl) (hD.sub [0] (by decide) rfl) hS hce hcv hcl (Nat.le_of_ble_eq_true rfl) (Nat.le_of_ble_eq_true rfl)
theorem iw_X11_compiledMode_X11 : ∀ w ∈ wsX110, w ∈ wsX11_compiledMode := by decide +kernel
set_option maxHeartbeats 4000000 in
set_option maxRecDepth 100000 in
theorem f_compiledMode (l : Launch) (hl0 : l.stackTraces = false) (e0 : Nat) (D : va_G) (k : Nat → ClassId) (h0 : Nat) (p0 : Int32) (p1 : Int32) (st : Nat) (pg : Nat) (mc : Nat) (br : Nat) (la : Nat) (sp : Nat) (pla : Nat) (plb : Nat) (plc : Nat) : oCx l e0 D (oTy k) yX11_compiledMode wsX11_compiledMode ({ frames := 6, cells := 1, slots := 6, locals := 89 } : Room) [.ref h0, .int p0, .int p1] [(h0, .inr (15, [.ref st, .ref pg, .ref mc, .ref br, .ref la, .ref sp, .int 0, .int 0, .long 0])), (pg, .inr (11, [.ref pla, .ref plb, .ref plc])), (pla, .inr (3, [.int 0, .ref e0, .int 0]))] "java/lang/IndexOutOfBoundsException" 1 6 := by
  refine ox_of (cc := cX11_compiledMode) (maxL := 4) (ret := (some (.object "ModedMill$Mode"))) (by decide +kernel) rfl (Nat.le_of_ble_eq_true rfl) ?_
  intro p e s m below meth c A ls hno hx hb hml hr hts hown hlocks hin hA hK hP hD hS hE hl
  have hl : lv_has ls 4 [(0, .ref h0), (1, .int p0), (2, .int p1)] := hl
  refine lv_aload_n hx hb dX11_compiledMode_0 rfl (lv_at hl 0 rfl) ?_
  refine va_get (D := D) (ci := 15) (v := .ref pg) (C := RX11) (T := TX11) (N := 9) hx hb hts iw_X11_compiledMode_X11 hown hK hP 0 rfl rfl 1 (by decide) (hts (.fieldLink RX11 19 "ModedMill" "program" "LModedMill$Program;") (by decide +kernel)) (fun _ h9 => h9) rfl dX11_compiledMode_1 ?_
  refine lv_iload_n hx hb dX11_compiledMode_4 rfl (lv_at hl 1 rfl) ?_
  refine lv_iload_n hx hb dX11_compiledMode_5 rfl (lv_at hl 2 rfl) ?_
  refine oq_callV hx hb hml hown hts (f_modeAt l e0 D k pg p0 p1 pla plb plc) (cwV 2 hts gX11_compiledMode_X7_modeAt rfl rfl rfl (by decide +kernel) ⟨Nat.le_of_ble_eq_true rfl, Nat.le_of_ble_eq_true rfl⟩) hK hP hD hS hA hE [1, 2] [0] rfl rfl (by decide) (by decide) (by decide) (wr := [(h0, .inr (15, [.ref st, .ref pg, .ref mc, .ref br, .ref la, .ref sp, .int 0, .int 0, .long 0]))]) (w2 := fun u => [(h0, .inr (15, [.ref st, .ref pg, .ref mc, .ref br, .ref la, .ref sp, .int 0, .int 0, .long 0])), (pg, .inr (11, [.ref pla, .ref plb, .ref plc])), (pla, .inr (3, [.int 0, .ref e0, .int 0]))]) (fun _ => rfl) 0 11 rfl rfl rfl hl.1 rfl (Nat.le_of_ble_eq_true rfl) rfl ⟨Nat.le_of_ble_eq_true rfl, Nat.le_of_ble_eq_true rfl⟩ dX11_compiledMode_6 (fun r u H locs hq hP hD hS => ?_)
  have er : r = none := hq
  subst er
  have hP : va_P D vwCl [(h0, .inr (15, [.ref st, .ref pg, .ref mc, .ref br, .ref la, .ref sp, .int 0, .int 0, .long 0])), (pg, .inr (11, [.ref pla, .ref plb, .ref plc])), (pla, .inr (3, [.int 0, .ref e0, .int 0]))] H := hP
  have hD : va_D A [(h0, .inr (15, [.ref st, .ref pg, .ref mc, .ref br, .ref la, .ref sp, .int 0, .int 0, .long 0])), (pg, .inr (11, [.ref pla, .ref plb, .ref plc])), (pla, .inr (3, [.int 0, .ref e0, .int 0]))] := hD
  refine lv_astore_nN (lv' := [(3, .null), (0, .ref h0), (1, .int p0), (2, .int p1)]) hx hb dX11_compiledMode_9 rfl hl (by decide) rfl (fun ls hl => ?_)
  refine lv_aload_nN hx hb dX11_compiledMode_10 rfl (lv_at hl 0 rfl) ?_
  refine lv_ifnonnullN hx hb dX11_compiledMode_11 ?_
  exact ox_throw (names := ["java/lang/RuntimeException", "java/lang/Exception"]) (ik := 80) (ic := 82) (Ts := wsX11_compiledMode) hno hlocks hx hb hl0 hown (by decide +kernel) (by decide +kernel) hts (by decide +kernel) (by decide +kernel) (by decide +kernel) (by decide +kernel) (by decide +kernel) (Or.inl rfl) hE hK (hP.sub [0, 1, 2] rfl) (hD.sub [0, 1, 2] (by decide) rfl) hS (by rw [hml]; exact hl.1) dX11_compiledMode_14 dX11_compiledMode_17 dX11_compiledMode_18 dX11_compiledMode_21 (Nat.le_of_ble_eq_true rfl) (Nat.le_of_ble_eq_true rfl) (Nat.le_of_ble_eq_true rfl) (Nat.le_of_ble_eq_true rfl) (Nat.le_of_ble_eq_true rfl) (Nat.le_of_ble_eq_true rfl)
theorem iw_X11_orderedClause_X11 : ∀ w ∈ wsX110, w ∈ wsX11_orderedClause := by decide +kernel
set_option maxHeartbeats 4000000 in
set_option maxRecDepth 100000 in
theorem f_orderedClause (l : Launch) (hl0 : l.stackTraces = false) (e0 : Nat) (D : va_G) (k : Nat → ClassId) (h0 : Nat) (p0 : Int32) (p1 : Int32) (st : Nat) (pg : Nat) (mc : Nat) (br : Nat) (la : Nat) (sp : Nat) (pla : Nat) (plb : Nat) (plc : Nat) : oCx l e0 D (oTy k) yX11_orderedClause wsX11_orderedClause ({ frames := 6, cells := 1, slots := 6, locals := 89 } : Room) [.ref h0, .int p0, .int p1] [(h0, .inr (15, [.ref st, .ref pg, .ref mc, .ref br, .ref la, .ref sp, .int 0, .int 0, .long 0])), (pg, .inr (11, [.ref pla, .ref plb, .ref plc])), (plc, .inr (3, [.int 0, .ref e0, .int 0]))] "java/lang/IndexOutOfBoundsException" 1 6 := by
  refine ox_of (cc := cX11_orderedClause) (maxL := 4) (ret := (some (.object "ModedMill$Clause"))) (by decide +kernel) rfl (Nat.le_of_ble_eq_true rfl) ?_
  intro p e s m below meth c A ls hno hx hb hml hr hts hown hlocks hin hA hK hP hD hS hE hl
  have hl : lv_has ls 4 [(0, .ref h0), (1, .int p0), (2, .int p1)] := hl
  refine lv_aload_n hx hb dX11_orderedClause_0 rfl (lv_at hl 0 rfl) ?_
  refine va_get (D := D) (ci := 15) (v := .ref pg) (C := RX11) (T := TX11) (N := 9) hx hb hts iw_X11_orderedClause_X11 hown hK hP 0 rfl rfl 1 (by decide) (hts (.fieldLink RX11 19 "ModedMill" "program" "LModedMill$Program;") (by decide +kernel)) (fun _ h9 => h9) rfl dX11_orderedClause_1 ?_
  refine lv_iload_n hx hb dX11_orderedClause_4 rfl (lv_at hl 1 rfl) ?_
  refine oq_callV hx hb hml hown hts (f_clauseAt l e0 D k pg p0 pla plb plc) (cwV 1 hts gX11_orderedClause_X7_clauseAt rfl rfl rfl (by decide +kernel) ⟨Nat.le_of_ble_eq_true rfl, Nat.le_of_ble_eq_true rfl⟩) hK hP hD hS hA hE [1, 2] [0] rfl rfl (by decide) (by decide) (by decide) (wr := [(h0, .inr (15, [.ref st, .ref pg, .ref mc, .ref br, .ref la, .ref sp, .int 0, .int 0, .long 0]))]) (w2 := fun u => [(h0, .inr (15, [.ref st, .ref pg, .ref mc, .ref br, .ref la, .ref sp, .int 0, .int 0, .long 0])), (pg, .inr (11, [.ref pla, .ref plb, .ref plc])), (plc, .inr (3, [.int 0, .ref e0, .int 0]))]) (fun _ => rfl) 0 11 rfl rfl rfl hl.1 rfl (Nat.le_of_ble_eq_true rfl) rfl ⟨Nat.le_of_ble_eq_true rfl, Nat.le_of_ble_eq_true rfl⟩ dX11_orderedClause_5 (fun r u H locs hq hP hD hS => ?_)
  have er : r = none := hq
  subst er
  have hP : va_P D vwCl [(h0, .inr (15, [.ref st, .ref pg, .ref mc, .ref br, .ref la, .ref sp, .int 0, .int 0, .long 0])), (pg, .inr (11, [.ref pla, .ref plb, .ref plc])), (plc, .inr (3, [.int 0, .ref e0, .int 0]))] H := hP
  have hD : va_D A [(h0, .inr (15, [.ref st, .ref pg, .ref mc, .ref br, .ref la, .ref sp, .int 0, .int 0, .long 0])), (pg, .inr (11, [.ref pla, .ref plb, .ref plc])), (plc, .inr (3, [.int 0, .ref e0, .int 0]))] := hD
  refine lv_astore_nN (lv' := [(3, .null), (0, .ref h0), (1, .int p0), (2, .int p1)]) hx hb dX11_orderedClause_8 rfl hl (by decide) rfl (fun ls hl => ?_)
  refine lv_aload_nN hx hb dX11_orderedClause_9 rfl (lv_at hl 0 rfl) ?_
  refine lv_ifnullN (tgt := 24) hx hb dX11_orderedClause_10 (by decide) ?_
  exact ox_throw (names := ["java/lang/RuntimeException", "java/lang/Exception"]) (ik := 80) (ic := 82) (Ts := wsX11_orderedClause) hno hlocks hx hb hl0 hown (by decide +kernel) (by decide +kernel) hts (by decide +kernel) (by decide +kernel) (by decide +kernel) (by decide +kernel) (by decide +kernel) (Or.inl rfl) hE hK (hP.sub [0, 1, 2] rfl) (hD.sub [0, 1, 2] (by decide) rfl) hS (by rw [hml]; exact hl.1) dX11_orderedClause_24 dX11_orderedClause_27 dX11_orderedClause_28 dX11_orderedClause_31 (Nat.le_of_ble_eq_true rfl) (Nat.le_of_ble_eq_true rfl) (Nat.le_of_ble_eq_true rfl) (Nat.le_of_ble_eq_true rfl) (Nat.le_of_ble_eq_true rfl) (Nat.le_of_ble_eq_true rfl)
theorem iw_X11_addType_X11 : ∀ w ∈ wsX110, w ∈ wsX11_addType := by decide +kernel
set_option maxHeartbeats 4000000 in
set_option maxRecDepth 100000 in
theorem f_addType (l : Launch) (e0 : Nat) (D : va_G) (k : Nat → ClassId) (h0 : Nat) (st : Nat) (pg : Nat) (mc : Nat) (br : Nat) (la : Nat) (sp : Nat) (sta : Nat) (stb : Nat) (stc : Nat) (std : Nat) : oCi l e0 D (oTy k) yX11_addType wsX11_addType ({ frames := 1, cells := 0, slots := 0, locals := 20 } : Room) [.ref h0] [(h0, .inr (15, [.ref st, .ref pg, .ref mc, .ref br, .ref la, .ref sp, .int 0, .int 0, .long 0])), (st, .inr (14, [.int 0, .ref sta, .ref stb, .ref stc, .ref std]))] (S := Unit) (fun (r : Int32) (u : Unit) => r = 0) (fun u => []) 0 0 := by
  refine oi_of (cc := cX11_addType) (maxL := 1) (ret := (some .int)) (by decide +kernel) rfl (Nat.le_of_ble_eq_true rfl) ?_
  intro p e s m below meth c A ls hx hb hml hr hts hown hlocks hin hA hK hP hD hS hE hl
  have hl : lv_has ls 1 [(0, .ref h0)] := hl
  refine lv_aload_n hx hb dX11_addType_0 rfl (lv_at hl 0 rfl) ?_
  refine va_get (D := D) (ci := 15) (v := .ref st) (C := RX11) (T := TX11) (N := 9) hx hb hts iw_X11_addType_X11 hown hK hP 0 rfl rfl 0 (by decide) (hts (.fieldLink RX11 10 "ModedMill" "store" "LModedMill$Terms;") (by decide +kernel)) (fun _ h9 => h9) rfl dX11_addType_1 ?_
  refine oi_callV hx hb hml hown hts (f_typeCount l e0 D k st sta stb stc std) (cwV 0 hts gX11_addType_X10_typeCount rfl rfl rfl (by decide +kernel) ⟨Nat.le_of_ble_eq_true rfl, Nat.le_of_ble_eq_true rfl⟩) hK hP hD hS hA hE [1] [0] rfl rfl (by decide) (by decide) (by decide) (wr := [(h0, .inr (15, [.ref st, .ref pg, .ref mc, .ref br, .ref la, .ref sp, .int 0, .int 0, .long 0]))]) (w2 := fun u => [(h0, .inr (15, [.ref st, .ref pg, .ref mc, .ref br, .ref la, .ref sp, .int 0, .int 0, .long 0])), (st, .inr (14, [.int 0, .ref sta, .ref stb, .ref stc, .ref std]))]) (fun _ => rfl) 0 14 rfl rfl rfl hl.1 rfl (Nat.le_of_ble_eq_true rfl) rfl ⟨Nat.le_of_ble_eq_true rfl, Nat.le_of_ble_eq_true rfl⟩ dX11_addType_4 (fun r u H locs hq hP hD hS => ?_)
  have er : r = 0 := hq
  subst er
  have hP : va_P D vwCl [(h0, .inr (15, [.ref st, .ref pg, .ref mc, .ref br, .ref la, .ref sp, .int 0, .int 0, .long 0])), (st, .inr (14, [.int 0, .ref sta, .ref stb, .ref stc, .ref std]))] H := hP
  have hD : va_D A [(h0, .inr (15, [.ref st, .ref pg, .ref mc, .ref br, .ref la, .ref sp, .int 0, .int 0, .long 0])), (st, .inr (14, [.int 0, .ref sta, .ref stb, .ref stc, .ref std]))] := hD
  refine lv_iconst (v := 3) hx hb dX11_addType_7 (by decide) ?_
  refine lv_icmp_ge (tgt := 18) hx hb dX11_addType_8 (by decide) (fun c_8 => absurd c_8 (by decide)) (fun c_8 => ?_)
  refine lv_aload_n hx hb dX11_addType_11 rfl (lv_at hl 0 rfl) ?_
  refine va_get (D := D) (ci := 15) (v := .int 0) (C := RX11) (T := TX11) (N := 9) hx hb hts iw_X11_addType_X11 hown hK hP 0 rfl rfl 6 (by decide) (hts (.fieldLink RX11 51 "ModedMill" "isCompiled" "Z") (by decide +kernel)) (fun _ h9 => h9) rfl dX11_addType_12 ?_
  refine lv_if_eq (tgt := 26) hx hb dX11_addType_15 (by decide) (fun c_15 => ?_) (fun c_15 => absurd c_15 (by decide))
  refine lv_aload_n hx hb dX11_addType_26 rfl (lv_at hl 0 rfl) ?_
  refine va_get (D := D) (ci := 15) (v := .ref st) (C := RX11) (T := TX11) (N := 9) hx hb hts iw_X11_addType_X11 hown hK hP 0 rfl rfl 0 (by decide) (hts (.fieldLink RX11 10 "ModedMill" "store" "LModedMill$Terms;") (by decide +kernel)) (fun _ h9 => h9) rfl dX11_addType_27 ?_
  refine oi_callV hx hb hml hown hts (f_newType l e0 D k st sta stb stc std) (cwV 0 hts gX11_addType_X10_newType rfl rfl rfl (by decide +kernel) ⟨Nat.le_of_ble_eq_true rfl, Nat.le_of_ble_eq_true rfl⟩) hK hP hD hS hA hE [1] [0] rfl rfl (by decide) (by decide) (by decide) (wr := [(h0, .inr (15, [.ref st, .ref pg, .ref mc, .ref br, .ref la, .ref sp, .int 0, .int 0, .long 0]))]) (w2 := fun u => [(h0, .inr (15, [.ref st, .ref pg, .ref mc, .ref br, .ref la, .ref sp, .int 0, .int 0, .long 0]))]) (fun _ => rfl) 0 14 rfl rfl rfl hl.1 rfl (Nat.le_of_ble_eq_true rfl) rfl ⟨Nat.le_of_ble_eq_true rfl, Nat.le_of_ble_eq_true rfl⟩ dX11_addType_30 (fun r u H locs hq hP hD hS => ?_)
  have er : r = 0 := hq
  subst er
  have hP : va_P D vwCl [(h0, .inr (15, [.ref st, .ref pg, .ref mc, .ref br, .ref la, .ref sp, .int 0, .int 0, .long 0]))] H := hP
  have hD : va_D A [(h0, .inr (15, [.ref st, .ref pg, .ref mc, .ref br, .ref la, .ref sp, .int 0, .int 0, .long 0]))] := hD
  exact oi_ret hx hb hr hlocks rfl () (rfl) hK (hP.sub [] rfl) (hD.sub [] (by decide) rfl) hS (Nat.le_of_ble_eq_true rfl) (Nat.le_of_ble_eq_true rfl) dX11_addType_33
theorem iw_X11_addConstructor_X11 : ∀ w ∈ wsX110, w ∈ wsX11_addConstructor := by decide +kernel
set_option maxHeartbeats 4000000 in
set_option maxRecDepth 100000 in
theorem f_addConstructor (l : Launch) (hl0 : l.stackTraces = false) (e0 : Nat) (D : va_G) (k : Nat → ClassId) (h0 : Nat) (p0 : Int32) (p1 : Int32) (p2 : Int32) (st : Nat) (pg : Nat) (mc : Nat) (br : Nat) (la : Nat) (sp : Nat) (sta : Nat) (stb : Nat) (stc : Nat) (std : Nat) : oCx l e0 D (oTy k) yX11_addConstructor wsX11_addConstructor ({ frames := 6, cells := 1, slots := 6, locals := 89 } : Room) [.ref h0, .int p0, .int p1, .int p2] [(h0, .inr (15, [.ref st, .ref pg, .ref mc, .ref br, .ref la, .ref sp, .int 0, .int 0, .long 0])), (st, .inr (14, [.int 0, .ref sta, .ref stb, .ref stc, .ref std]))] "java/lang/IndexOutOfBoundsException" 1 6 := by
  refine ox_of (cc := cX11_addConstructor) (maxL := 4) (ret := (some .int)) (by decide +kernel) rfl (Nat.le_of_ble_eq_true rfl) ?_
  intro p e s m below meth c A ls hno hx hb hml hr hts hown hlocks hin hA hK hP hD hS hE hl
  have hl : lv_has ls 4 [(0, .ref h0), (1, .int p0), (2, .int p1), (3, .int p2)] := hl
  refine lv_aload_n hx hb dX11_addConstructor_0 rfl (lv_at hl 0 rfl) ?_
  refine va_get (D := D) (ci := 15) (v := .ref st) (C := RX11) (T := TX11) (N := 9) hx hb hts iw_X11_addConstructor_X11 hown hK hP 0 rfl rfl 0 (by decide) (hts (.fieldLink RX11 10 "ModedMill" "store" "LModedMill$Terms;") (by decide +kernel)) (fun _ h9 => h9) rfl dX11_addConstructor_1 ?_
  refine lv_iload_n hx hb dX11_addConstructor_4 rfl (lv_at hl 1 rfl) ?_
  refine oi_callV hx hb hml hown hts (f_hasType l e0 D k st p0 sta stb stc std) (cwV 1 hts gX11_addConstructor_X10_hasType rfl rfl rfl (by decide +kernel) ⟨Nat.le_of_ble_eq_true rfl, Nat.le_of_ble_eq_true rfl⟩) hK hP hD hS hA hE [1] [0] rfl rfl (by decide) (by decide) (by decide) (wr := [(h0, .inr (15, [.ref st, .ref pg, .ref mc, .ref br, .ref la, .ref sp, .int 0, .int 0, .long 0]))]) (w2 := fun u => [(h0, .inr (15, [.ref st, .ref pg, .ref mc, .ref br, .ref la, .ref sp, .int 0, .int 0, .long 0])), (st, .inr (14, [.int 0, .ref sta, .ref stb, .ref stc, .ref std]))]) (fun _ => rfl) 0 14 rfl rfl rfl hl.1 rfl (Nat.le_of_ble_eq_true rfl) rfl ⟨Nat.le_of_ble_eq_true rfl, Nat.le_of_ble_eq_true rfl⟩ dX11_addConstructor_5 (fun r u H locs hq hP hD hS => ?_)
  have er : r = 0 := hq
  subst er
  have hP : va_P D vwCl [(h0, .inr (15, [.ref st, .ref pg, .ref mc, .ref br, .ref la, .ref sp, .int 0, .int 0, .long 0])), (st, .inr (14, [.int 0, .ref sta, .ref stb, .ref stc, .ref std]))] H := hP
  have hD : va_D A [(h0, .inr (15, [.ref st, .ref pg, .ref mc, .ref br, .ref la, .ref sp, .int 0, .int 0, .long 0])), (st, .inr (14, [.int 0, .ref sta, .ref stb, .ref stc, .ref std]))] := hD
  refine lv_if_eq (tgt := 27) hx hb dX11_addConstructor_8 (by decide) (fun c_8 => ?_) (fun c_8 => absurd c_8 (by decide))
  exact ox_throw (names := ["java/lang/RuntimeException", "java/lang/Exception"]) (ik := 80) (ic := 82) (Ts := wsX11_addConstructor) hno hlocks hx hb hl0 hown (by decide +kernel) (by decide +kernel) hts (by decide +kernel) (by decide +kernel) (by decide +kernel) (by decide +kernel) (by decide +kernel) (Or.inl rfl) hE hK (hP.sub [0, 1] rfl) (hD.sub [0, 1] (by decide) rfl) hS (by rw [hml]; exact hl.1) dX11_addConstructor_27 dX11_addConstructor_30 dX11_addConstructor_31 dX11_addConstructor_34 (Nat.le_of_ble_eq_true rfl) (Nat.le_of_ble_eq_true rfl) (Nat.le_of_ble_eq_true rfl) (Nat.le_of_ble_eq_true rfl) (Nat.le_of_ble_eq_true rfl) (Nat.le_of_ble_eq_true rfl)
theorem iw_X11_term_X11 : ∀ w ∈ wsX110, w ∈ wsX11_term := by decide +kernel
set_option maxHeartbeats 4000000 in
set_option maxRecDepth 100000 in
theorem f_term (l : Launch) (hl0 : l.stackTraces = false) (e0 : Nat) (D : va_G) (k : Nat → ClassId) (h0 : Nat) (p0 : Int32) (p1 : Int32) (p2 : Int32) (st : Nat) (pg : Nat) (mc : Nat) (br : Nat) (la : Nat) (sp : Nat) (sta : Nat) (stb : Nat) (stc : Nat) (std : Nat) (sqa : Nat) : oCx l e0 D (oTy k) yX11_term wsX11_term ({ frames := 6, cells := 1, slots := 6, locals := 89 } : Room) [.ref h0, .int p0, .int p1, .int p2] [(h0, .inr (15, [.ref st, .ref pg, .ref mc, .ref br, .ref la, .ref sp, .int 0, .int 0, .long 0])), (st, .inr (14, [.int 0, .ref sta, .ref stb, .ref stc, .ref std])), (sta, .inr (13, [.int 3, .ref sqa, .int 0]))] "java/lang/IndexOutOfBoundsException" 1 6 := by
  refine ox_of (cc := cX11_term) (maxL := 5) (ret := (some .int)) (by decide +kernel) rfl (Nat.le_of_ble_eq_true rfl) ?_
  intro p e s m below meth c A ls hno hx hb hml hr hts hown hlocks hin hA hK hP hD hS hE hl
  have hl : lv_has ls 5 [(0, .ref h0), (1, .int p0), (2, .int p1), (3, .int p2)] := hl
  refine lv_aload_n hx hb dX11_term_0 rfl (lv_at hl 0 rfl) ?_
  refine va_get (D := D) (ci := 15) (v := .ref st) (C := RX11) (T := TX11) (N := 9) hx hb hts iw_X11_term_X11 hown hK hP 0 rfl rfl 0 (by decide) (hts (.fieldLink RX11 10 "ModedMill" "store" "LModedMill$Terms;") (by decide +kernel)) (fun _ h9 => h9) rfl dX11_term_1 ?_
  refine lv_iload_n hx hb dX11_term_4 rfl (lv_at hl 1 rfl) ?_
  refine oi_callV hx hb hml hown hts (f_hasConstructor l e0 D k st p0 sta stb stc std sqa) (cwV 1 hts gX11_term_X10_hasConstructor rfl rfl rfl (by decide +kernel) ⟨Nat.le_of_ble_eq_true rfl, Nat.le_of_ble_eq_true rfl⟩) hK hP hD hS hA hE [1, 2] [0] rfl rfl (by decide) (by decide) (by decide) (wr := [(h0, .inr (15, [.ref st, .ref pg, .ref mc, .ref br, .ref la, .ref sp, .int 0, .int 0, .long 0]))]) (w2 := fun u => [(h0, .inr (15, [.ref st, .ref pg, .ref mc, .ref br, .ref la, .ref sp, .int 0, .int 0, .long 0])), (st, .inr (14, [.int 0, .ref sta, .ref stb, .ref stc, .ref std])), (sta, .inr (13, [.int 3, .ref sqa, .int 0]))]) (fun _ => rfl) 0 14 rfl rfl rfl hl.1 rfl (Nat.le_of_ble_eq_true rfl) rfl ⟨Nat.le_of_ble_eq_true rfl, Nat.le_of_ble_eq_true rfl⟩ dX11_term_5 (fun r u H locs hq hP hD hS => ?_)
  have er : r = 0 := hq
  subst er
  have hP : va_P D vwCl [(h0, .inr (15, [.ref st, .ref pg, .ref mc, .ref br, .ref la, .ref sp, .int 0, .int 0, .long 0])), (st, .inr (14, [.int 0, .ref sta, .ref stb, .ref stc, .ref std])), (sta, .inr (13, [.int 3, .ref sqa, .int 0]))] H := hP
  have hD : va_D A [(h0, .inr (15, [.ref st, .ref pg, .ref mc, .ref br, .ref la, .ref sp, .int 0, .int 0, .long 0])), (st, .inr (14, [.int 0, .ref sta, .ref stb, .ref stc, .ref std])), (sta, .inr (13, [.int 3, .ref sqa, .int 0]))] := hD
  refine lv_if_eq (tgt := 24) hx hb dX11_term_8 (by decide) (fun c_8 => ?_) (fun c_8 => absurd c_8 (by decide))
  exact ox_throw (names := ["java/lang/RuntimeException", "java/lang/Exception"]) (ik := 80) (ic := 82) (Ts := wsX11_term) hno hlocks hx hb hl0 hown (by decide +kernel) (by decide +kernel) hts (by decide +kernel) (by decide +kernel) (by decide +kernel) (by decide +kernel) (by decide +kernel) (Or.inl rfl) hE hK (hP.sub [0, 1, 2] rfl) (hD.sub [0, 1, 2] (by decide) rfl) hS (by rw [hml]; exact hl.1) dX11_term_24 dX11_term_27 dX11_term_28 dX11_term_31 (Nat.le_of_ble_eq_true rfl) (Nat.le_of_ble_eq_true rfl) (Nat.le_of_ble_eq_true rfl) (Nat.le_of_ble_eq_true rfl) (Nat.le_of_ble_eq_true rfl) (Nat.le_of_ble_eq_true rfl)
set_option maxHeartbeats 4000000 in
set_option maxRecDepth 100000 in
theorem f_constructorOf (l : Launch) (hl0 : l.stackTraces = false) (e0 : Nat) (D : va_G) (k : Nat → ClassId) (h0 : Nat) (p0 : Int32) (st : Nat) (pg : Nat) (mc : Nat) (br : Nat) (la : Nat) (sp : Nat) (sta : Nat) (stb : Nat) (stc : Nat) (std : Nat) (sqb : Nat) : oCx l e0 D (oTy k) yX11_constructorOf wsX11_constructorOf ({ frames := 7, cells := 1, slots := 6, locals := 110 } : Room) [.ref h0, .int p0] [(h0, .inr (15, [.ref st, .ref pg, .ref mc, .ref br, .ref la, .ref sp, .int 0, .int 0, .long 0])), (st, .inr (14, [.int 0, .ref sta, .ref stb, .ref stc, .ref std])), (stb, .inr (13, [.int 4, .ref sqb, .int 0]))] "java/lang/IndexOutOfBoundsException" 1 6 := by
  refine ox_of (cc := cX11_constructorOf) (maxL := 2) (ret := (some .int)) (by decide +kernel) rfl (Nat.le_of_ble_eq_true rfl) ?_
  intro p e s m below meth c A ls hno hx hb hml hr hts hown hlocks hin hA hK hP hD hS hE hl
  have hl : lv_has ls 2 [(0, .ref h0), (1, .int p0)] := hl
  refine lv_aload_n hx hb dX11_constructorOf_0 rfl (lv_at hl 0 rfl) ?_
  refine lv_iload_n hx hb dX11_constructorOf_1 rfl (lv_at hl 1 rfl) ?_
  refine ox_callV hx hb hml hown hts (f_refuseMissingTerm l hl0 e0 D k h0 p0 st pg mc br la sp sta stb stc std sqb) (cwV 1 hts gX11_constructorOf_X11_refuseMissingTerm rfl rfl rfl (by decide +kernel) ⟨Nat.le_of_ble_eq_true rfl, Nat.le_of_ble_eq_true rfl⟩) hK hP hD hS hA hE [0, 1, 2] [] rfl rfl (by decide) (by decide) (by decide) (wr := []) (w3 := [(h0, .inr (15, [.ref st, .ref pg, .ref mc, .ref br, .ref la, .ref sp, .int 0, .int 0, .long 0])), (st, .inr (14, [.int 0, .ref sta, .ref stb, .ref stc, .ref std])), (stb, .inr (13, [.int 4, .ref sqb, .int 0]))]) rfl 0 15 rfl rfl rfl hl.1 rfl (Nat.le_of_ble_eq_true rfl) rfl ⟨Nat.le_of_ble_eq_true rfl, Nat.le_of_ble_eq_true rfl⟩ dX11_constructorOf_2 (fun ce q9 H locs hP hD hS hce hcv hcl => ?_)
  exact ox_out hno hlocks hK (hP.sub [0, 1, 2] rfl) (hD.sub [0, 1, 2] (by decide) rfl) hS hce hcv hcl (Nat.le_of_ble_eq_true rfl) (Nat.le_of_ble_eq_true rfl)
set_option maxHeartbeats 4000000 in
set_option maxRecDepth 100000 in
theorem f_partOf (l : Launch) (hl0 : l.stackTraces = false) (e0 : Nat) (D : va_G) (k : Nat → ClassId) (h0 : Nat) (p0 : Int32) (p1 : Int32) (st : Nat) (pg : Nat) (mc : Nat) (br : Nat) (la : Nat) (sp : Nat) (sta : Nat) (stb : Nat) (stc : Nat) (std : Nat) (sqb : Nat) : oCx l e0 D (oTy k) yX11_partOf wsX11_partOf ({ frames := 7, cells := 1, slots := 6, locals := 110 } : Room) [.ref h0, .int p0, .int p1] [(h0, .inr (15, [.ref st, .ref pg, .ref mc, .ref br, .ref la, .ref sp, .int 0, .int 0, .long 0])), (st, .inr (14, [.int 0, .ref sta, .ref stb, .ref stc, .ref std])), (stb, .inr (13, [.int 4, .ref sqb, .int 0]))] "java/lang/IndexOutOfBoundsException" 1 6 := by
  refine ox_of (cc := cX11_partOf) (maxL := 3) (ret := (some .int)) (by decide +kernel) rfl (Nat.le_of_ble_eq_true rfl) ?_
  intro p e s m below meth c A ls hno hx hb hml hr hts hown hlocks hin hA hK hP hD hS hE hl
  have hl : lv_has ls 3 [(0, .ref h0), (1, .int p0), (2, .int p1)] := hl
  refine lv_aload_n hx hb dX11_partOf_0 rfl (lv_at hl 0 rfl) ?_
  refine lv_iload_n hx hb dX11_partOf_1 rfl (lv_at hl 1 rfl) ?_
  refine ox_callV hx hb hml hown hts (f_refuseMissingTerm l hl0 e0 D k h0 p0 st pg mc br la sp sta stb stc std sqb) (cwV 1 hts gX11_partOf_X11_refuseMissingTerm rfl rfl rfl (by decide +kernel) ⟨Nat.le_of_ble_eq_true rfl, Nat.le_of_ble_eq_true rfl⟩) hK hP hD hS hA hE [0, 1, 2] [] rfl rfl (by decide) (by decide) (by decide) (wr := []) (w3 := [(h0, .inr (15, [.ref st, .ref pg, .ref mc, .ref br, .ref la, .ref sp, .int 0, .int 0, .long 0])), (st, .inr (14, [.int 0, .ref sta, .ref stb, .ref stc, .ref std])), (stb, .inr (13, [.int 4, .ref sqb, .int 0]))]) rfl 0 15 rfl rfl rfl hl.1 rfl (Nat.le_of_ble_eq_true rfl) rfl ⟨Nat.le_of_ble_eq_true rfl, Nat.le_of_ble_eq_true rfl⟩ dX11_partOf_2 (fun ce q9 H locs hP hD hS hce hcv hcl => ?_)
  exact ox_out hno hlocks hK (hP.sub [0, 1, 2] rfl) (hD.sub [0, 1, 2] (by decide) rfl) hS hce hcv hcl (Nat.le_of_ble_eq_true rfl) (Nat.le_of_ble_eq_true rfl)
set_option maxHeartbeats 4000000 in
set_option maxRecDepth 100000 in
theorem f_sizeOf (l : Launch) (hl0 : l.stackTraces = false) (e0 : Nat) (D : va_G) (k : Nat → ClassId) (h0 : Nat) (p0 : Int32) (st : Nat) (pg : Nat) (mc : Nat) (br : Nat) (la : Nat) (sp : Nat) (sta : Nat) (stb : Nat) (stc : Nat) (std : Nat) (sqb : Nat) : oCx l e0 D (oTy k) yX11_sizeOf wsX11_sizeOf ({ frames := 7, cells := 1, slots := 6, locals := 110 } : Room) [.ref h0, .int p0] [(h0, .inr (15, [.ref st, .ref pg, .ref mc, .ref br, .ref la, .ref sp, .int 0, .int 0, .long 0])), (st, .inr (14, [.int 0, .ref sta, .ref stb, .ref stc, .ref std])), (stb, .inr (13, [.int 4, .ref sqb, .int 0]))] "java/lang/IndexOutOfBoundsException" 1 6 := by
  refine ox_of (cc := cX11_sizeOf) (maxL := 2) (ret := (some .long)) (by decide +kernel) rfl (Nat.le_of_ble_eq_true rfl) ?_
  intro p e s m below meth c A ls hno hx hb hml hr hts hown hlocks hin hA hK hP hD hS hE hl
  have hl : lv_has ls 2 [(0, .ref h0), (1, .int p0)] := hl
  refine lv_aload_n hx hb dX11_sizeOf_0 rfl (lv_at hl 0 rfl) ?_
  refine lv_iload_n hx hb dX11_sizeOf_1 rfl (lv_at hl 1 rfl) ?_
  refine ox_callV hx hb hml hown hts (f_refuseMissingTerm l hl0 e0 D k h0 p0 st pg mc br la sp sta stb stc std sqb) (cwV 1 hts gX11_sizeOf_X11_refuseMissingTerm rfl rfl rfl (by decide +kernel) ⟨Nat.le_of_ble_eq_true rfl, Nat.le_of_ble_eq_true rfl⟩) hK hP hD hS hA hE [0, 1, 2] [] rfl rfl (by decide) (by decide) (by decide) (wr := []) (w3 := [(h0, .inr (15, [.ref st, .ref pg, .ref mc, .ref br, .ref la, .ref sp, .int 0, .int 0, .long 0])), (st, .inr (14, [.int 0, .ref sta, .ref stb, .ref stc, .ref std])), (stb, .inr (13, [.int 4, .ref sqb, .int 0]))]) rfl 0 15 rfl rfl rfl hl.1 rfl (Nat.le_of_ble_eq_true rfl) rfl ⟨Nat.le_of_ble_eq_true rfl, Nat.le_of_ble_eq_true rfl⟩ dX11_sizeOf_2 (fun ce q9 H locs hP hD hS hce hcv hcl => ?_)
  exact ox_out hno hlocks hK (hP.sub [0, 1, 2] rfl) (hD.sub [0, 1, 2] (by decide) rfl) hS hce hcv hcl (Nat.le_of_ble_eq_true rfl) (Nat.le_of_ble_eq_true rfl)
set_option maxHeartbeats 4000000 in
set_option maxRecDepth 100000 in
theorem f_addPredicate_a (l : Launch) (hl0 : l.stackTraces = false) (e0 : Nat) (D : va_G) (k : Nat → ClassId) (h0 : Nat) (p0 : Int32) (p1 : Int32) (p2 : Int32) (st : Nat) (pg : Nat) (mc : Nat) (br : Nat) (la : Nat) (sp : Nat) (sta : Nat) (stb : Nat) (stc : Nat) (std : Nat) (hne : ¬ p0 = -1) : oCx l e0 D (oTy k) yX11_addPredicate wsX11_addPredicate ({ frames := 6, cells := 1, slots := 6, locals := 89 } : Room) [.ref h0, .int p0, .int p1, .int p2] [(h0, .inr (15, [.ref st, .ref pg, .ref mc, .ref br, .ref la, .ref sp, .int 0, .int 0, .long 0])), (st, .inr (14, [.int 0, .ref sta, .ref stb, .ref stc, .ref std]))] "java/lang/IndexOutOfBoundsException" 1 6 := by
  refine ox_of (cc := cX11_addPredicate) (maxL := 4) (ret := (some .int)) (by decide +kernel) rfl (Nat.le_of_ble_eq_true rfl) ?_
  intro p e s m below meth c A ls hno hx hb hml hr hts hown hlocks hin hA hK hP hD hS hE hl
  have hl : lv_has ls 4 [(0, .ref h0), (1, .int p0), (2, .int p1), (3, .int p2)] := hl
  refine lv_aload_n hx hb dX11_addPredicate_0 rfl (lv_at hl 0 rfl) ?_
  refine lv_iload_n hx hb dX11_addPredicate_1 rfl (lv_at hl 1 rfl) ?_
  refine oi_callV hx hb hml hown hts (f_isTypeOrNone_no l e0 D k h0 p0 st pg mc br la sp sta stb stc std (by assumption)) (cwV 1 hts gX11_addPredicate_X11_isTypeOrNone rfl rfl rfl (by decide +kernel) ⟨Nat.le_of_ble_eq_true rfl, Nat.le_of_ble_eq_true rfl⟩) hK hP hD hS hA hE [0, 1] [] rfl rfl (by decide) (by decide) (by decide) (wr := []) (w2 := fun u => [(h0, .inr (15, [.ref st, .ref pg, .ref mc, .ref br, .ref la, .ref sp, .int 0, .int 0, .long 0])), (st, .inr (14, [.int 0, .ref sta, .ref stb, .ref stc, .ref std]))]) (fun _ => rfl) 0 15 rfl rfl rfl hl.1 rfl (Nat.le_of_ble_eq_true rfl) rfl ⟨Nat.le_of_ble_eq_true rfl, Nat.le_of_ble_eq_true rfl⟩ dX11_addPredicate_2 (fun r u H locs hq hP hD hS => ?_)
  have er : r = 0 := hq
  subst er
  have hP : va_P D vwCl [(h0, .inr (15, [.ref st, .ref pg, .ref mc, .ref br, .ref la, .ref sp, .int 0, .int 0, .long 0])), (st, .inr (14, [.int 0, .ref sta, .ref stb, .ref stc, .ref std]))] H := hP
  have hD : va_D A [(h0, .inr (15, [.ref st, .ref pg, .ref mc, .ref br, .ref la, .ref sp, .int 0, .int 0, .long 0])), (st, .inr (14, [.int 0, .ref sta, .ref stb, .ref stc, .ref std]))] := hD
  refine lv_if_eq (tgt := 24) hx hb dX11_addPredicate_5 (by decide) (fun c_5 => ?_) (fun c_5 => absurd c_5 (by decide))
  exact ox_throw (names := ["java/lang/RuntimeException", "java/lang/Exception"]) (ik := 80) (ic := 82) (Ts := wsX11_addPredicate) hno hlocks hx hb hl0 hown (by decide +kernel) (by decide +kernel) hts (by decide +kernel) (by decide +kernel) (by decide +kernel) (by decide +kernel) (by decide +kernel) (Or.inl rfl) hE hK (hP.sub [0, 1] rfl) (hD.sub [0, 1] (by decide) rfl) hS (by rw [hml]; exact hl.1) dX11_addPredicate_24 dX11_addPredicate_27 dX11_addPredicate_28 dX11_addPredicate_31 (Nat.le_of_ble_eq_true rfl) (Nat.le_of_ble_eq_true rfl) (Nat.le_of_ble_eq_true rfl) (Nat.le_of_ble_eq_true rfl) (Nat.le_of_ble_eq_true rfl) (Nat.le_of_ble_eq_true rfl)
set_option maxHeartbeats 4000000 in
set_option maxRecDepth 100000 in
theorem f_addPredicate_b (l : Launch) (hl0 : l.stackTraces = false) (e0 : Nat) (D : va_G) (k : Nat → ClassId) (h0 : Nat) (p1 : Int32) (p2 : Int32) (st : Nat) (pg : Nat) (mc : Nat) (br : Nat) (la : Nat) (sp : Nat) (sta : Nat) (stb : Nat) (stc : Nat) (std : Nat) (hne : ¬ p1 = -1) : oCx l e0 D (oTy k) yX11_addPredicate wsX11_addPredicate ({ frames := 6, cells := 1, slots := 6, locals := 89 } : Room) [.ref h0, .int (-1), .int p1, .int p2] [(h0, .inr (15, [.ref st, .ref pg, .ref mc, .ref br, .ref la, .ref sp, .int 0, .int 0, .long 0])), (st, .inr (14, [.int 0, .ref sta, .ref stb, .ref stc, .ref std]))] "java/lang/IndexOutOfBoundsException" 1 6 := by
  refine ox_of (cc := cX11_addPredicate) (maxL := 4) (ret := (some .int)) (by decide +kernel) rfl (Nat.le_of_ble_eq_true rfl) ?_
  intro p e s m below meth c A ls hno hx hb hml hr hts hown hlocks hin hA hK hP hD hS hE hl
  have hl : lv_has ls 4 [(0, .ref h0), (1, .int (-1)), (2, .int p1), (3, .int p2)] := hl
  refine lv_aload_n hx hb dX11_addPredicate_0 rfl (lv_at hl 0 rfl) ?_
  refine lv_iload_n hx hb dX11_addPredicate_1 rfl (lv_at hl 1 rfl) ?_
  refine oi_callV hx hb hml hown hts (f_isTypeOrNone l e0 D k h0 st pg mc br la sp sta stb stc std) (cwV 1 hts gX11_addPredicate_X11_isTypeOrNone rfl rfl rfl (by decide +kernel) ⟨Nat.le_of_ble_eq_true rfl, Nat.le_of_ble_eq_true rfl⟩) hK hP hD hS hA hE [0, 1] [] rfl rfl (by decide) (by decide) (by decide) (wr := []) (w2 := fun u => [(h0, .inr (15, [.ref st, .ref pg, .ref mc, .ref br, .ref la, .ref sp, .int 0, .int 0, .long 0])), (st, .inr (14, [.int 0, .ref sta, .ref stb, .ref stc, .ref std]))]) (fun _ => rfl) 0 15 rfl rfl rfl hl.1 rfl (Nat.le_of_ble_eq_true rfl) rfl ⟨Nat.le_of_ble_eq_true rfl, Nat.le_of_ble_eq_true rfl⟩ dX11_addPredicate_2 (fun r u H locs hq hP hD hS => ?_)
  have er : r = 1 := hq
  subst er
  have hP : va_P D vwCl [(h0, .inr (15, [.ref st, .ref pg, .ref mc, .ref br, .ref la, .ref sp, .int 0, .int 0, .long 0])), (st, .inr (14, [.int 0, .ref sta, .ref stb, .ref stc, .ref std]))] H := hP
  have hD : va_D A [(h0, .inr (15, [.ref st, .ref pg, .ref mc, .ref br, .ref la, .ref sp, .int 0, .int 0, .long 0])), (st, .inr (14, [.int 0, .ref sta, .ref stb, .ref stc, .ref std]))] := hD
  refine lv_if_eq (tgt := 24) hx hb dX11_addPredicate_5 (by decide) (fun c_5 => absurd c_5 (by decide)) (fun c_5 => ?_)
  refine lv_aload_n hx hb dX11_addPredicate_8 rfl (lv_at hl 0 rfl) ?_
  refine lv_iload_n hx hb dX11_addPredicate_9 rfl (lv_at hl 2 rfl) ?_
  refine oi_callV hx hb hml hown hts (f_isTypeOrNone_no l e0 D k h0 p1 st pg mc br la sp sta stb stc std (by assumption)) (cwV 1 hts gX11_addPredicate_X11_isTypeOrNone rfl rfl rfl (by decide +kernel) ⟨Nat.le_of_ble_eq_true rfl, Nat.le_of_ble_eq_true rfl⟩) hK hP hD hS hA hE [0, 1] [] rfl rfl (by decide) (by decide) (by decide) (wr := []) (w2 := fun u => [(h0, .inr (15, [.ref st, .ref pg, .ref mc, .ref br, .ref la, .ref sp, .int 0, .int 0, .long 0])), (st, .inr (14, [.int 0, .ref sta, .ref stb, .ref stc, .ref std]))]) (fun _ => rfl) 0 15 rfl rfl rfl hl.1 rfl (Nat.le_of_ble_eq_true rfl) rfl ⟨Nat.le_of_ble_eq_true rfl, Nat.le_of_ble_eq_true rfl⟩ dX11_addPredicate_10 (fun r u H locs hq hP hD hS => ?_)
  have er : r = 0 := hq
  subst er
  have hP : va_P D vwCl [(h0, .inr (15, [.ref st, .ref pg, .ref mc, .ref br, .ref la, .ref sp, .int 0, .int 0, .long 0])), (st, .inr (14, [.int 0, .ref sta, .ref stb, .ref stc, .ref std]))] H := hP
  have hD : va_D A [(h0, .inr (15, [.ref st, .ref pg, .ref mc, .ref br, .ref la, .ref sp, .int 0, .int 0, .long 0])), (st, .inr (14, [.int 0, .ref sta, .ref stb, .ref stc, .ref std]))] := hD
  refine lv_if_eq (tgt := 24) hx hb dX11_addPredicate_13 (by decide) (fun c_13 => ?_) (fun c_13 => absurd c_13 (by decide))
  exact ox_throw (names := ["java/lang/RuntimeException", "java/lang/Exception"]) (ik := 80) (ic := 82) (Ts := wsX11_addPredicate) hno hlocks hx hb hl0 hown (by decide +kernel) (by decide +kernel) hts (by decide +kernel) (by decide +kernel) (by decide +kernel) (by decide +kernel) (by decide +kernel) (Or.inl rfl) hE hK (hP.sub [0, 1] rfl) (hD.sub [0, 1] (by decide) rfl) hS (by rw [hml]; exact hl.1) dX11_addPredicate_24 dX11_addPredicate_27 dX11_addPredicate_28 dX11_addPredicate_31 (Nat.le_of_ble_eq_true rfl) (Nat.le_of_ble_eq_true rfl) (Nat.le_of_ble_eq_true rfl) (Nat.le_of_ble_eq_true rfl) (Nat.le_of_ble_eq_true rfl) (Nat.le_of_ble_eq_true rfl)
set_option maxHeartbeats 4000000 in
set_option maxRecDepth 100000 in
theorem f_addPredicate_c (l : Launch) (hl0 : l.stackTraces = false) (e0 : Nat) (D : va_G) (k : Nat → ClassId) (h0 : Nat) (p2 : Int32) (st : Nat) (pg : Nat) (mc : Nat) (br : Nat) (la : Nat) (sp : Nat) (sta : Nat) (stb : Nat) (stc : Nat) (std : Nat) (hne : ¬ p2 = -1) : oCx l e0 D (oTy k) yX11_addPredicate wsX11_addPredicate ({ frames := 6, cells := 1, slots := 6, locals := 89 } : Room) [.ref h0, .int (-1), .int (-1), .int p2] [(h0, .inr (15, [.ref st, .ref pg, .ref mc, .ref br, .ref la, .ref sp, .int 0, .int 0, .long 0])), (st, .inr (14, [.int 0, .ref sta, .ref stb, .ref stc, .ref std]))] "java/lang/IndexOutOfBoundsException" 1 6 := by
  refine ox_of (cc := cX11_addPredicate) (maxL := 4) (ret := (some .int)) (by decide +kernel) rfl (Nat.le_of_ble_eq_true rfl) ?_
  intro p e s m below meth c A ls hno hx hb hml hr hts hown hlocks hin hA hK hP hD hS hE hl
  have hl : lv_has ls 4 [(0, .ref h0), (1, .int (-1)), (2, .int (-1)), (3, .int p2)] := hl
  refine lv_aload_n hx hb dX11_addPredicate_0 rfl (lv_at hl 0 rfl) ?_
  refine lv_iload_n hx hb dX11_addPredicate_1 rfl (lv_at hl 1 rfl) ?_
  refine oi_callV hx hb hml hown hts (f_isTypeOrNone l e0 D k h0 st pg mc br la sp sta stb stc std) (cwV 1 hts gX11_addPredicate_X11_isTypeOrNone rfl rfl rfl (by decide +kernel) ⟨Nat.le_of_ble_eq_true rfl, Nat.le_of_ble_eq_true rfl⟩) hK hP hD hS hA hE [0, 1] [] rfl rfl (by decide) (by decide) (by decide) (wr := []) (w2 := fun u => [(h0, .inr (15, [.ref st, .ref pg, .ref mc, .ref br, .ref la, .ref sp, .int 0, .int 0, .long 0])), (st, .inr (14, [.int 0, .ref sta, .ref stb, .ref stc, .ref std]))]) (fun _ => rfl) 0 15 rfl rfl rfl hl.1 rfl (Nat.le_of_ble_eq_true rfl) rfl ⟨Nat.le_of_ble_eq_true rfl, Nat.le_of_ble_eq_true rfl⟩ dX11_addPredicate_2 (fun r u H locs hq hP hD hS => ?_)
  have er : r = 1 := hq
  subst er
  have hP : va_P D vwCl [(h0, .inr (15, [.ref st, .ref pg, .ref mc, .ref br, .ref la, .ref sp, .int 0, .int 0, .long 0])), (st, .inr (14, [.int 0, .ref sta, .ref stb, .ref stc, .ref std]))] H := hP
  have hD : va_D A [(h0, .inr (15, [.ref st, .ref pg, .ref mc, .ref br, .ref la, .ref sp, .int 0, .int 0, .long 0])), (st, .inr (14, [.int 0, .ref sta, .ref stb, .ref stc, .ref std]))] := hD
  refine lv_if_eq (tgt := 24) hx hb dX11_addPredicate_5 (by decide) (fun c_5 => absurd c_5 (by decide)) (fun c_5 => ?_)
  refine lv_aload_n hx hb dX11_addPredicate_8 rfl (lv_at hl 0 rfl) ?_
  refine lv_iload_n hx hb dX11_addPredicate_9 rfl (lv_at hl 2 rfl) ?_
  refine oi_callV hx hb hml hown hts (f_isTypeOrNone l e0 D k h0 st pg mc br la sp sta stb stc std) (cwV 1 hts gX11_addPredicate_X11_isTypeOrNone rfl rfl rfl (by decide +kernel) ⟨Nat.le_of_ble_eq_true rfl, Nat.le_of_ble_eq_true rfl⟩) hK hP hD hS hA hE [0, 1] [] rfl rfl (by decide) (by decide) (by decide) (wr := []) (w2 := fun u => [(h0, .inr (15, [.ref st, .ref pg, .ref mc, .ref br, .ref la, .ref sp, .int 0, .int 0, .long 0])), (st, .inr (14, [.int 0, .ref sta, .ref stb, .ref stc, .ref std]))]) (fun _ => rfl) 0 15 rfl rfl rfl hl.1 rfl (Nat.le_of_ble_eq_true rfl) rfl ⟨Nat.le_of_ble_eq_true rfl, Nat.le_of_ble_eq_true rfl⟩ dX11_addPredicate_10 (fun r u H locs hq hP hD hS => ?_)
  have er : r = 1 := hq
  subst er
  have hP : va_P D vwCl [(h0, .inr (15, [.ref st, .ref pg, .ref mc, .ref br, .ref la, .ref sp, .int 0, .int 0, .long 0])), (st, .inr (14, [.int 0, .ref sta, .ref stb, .ref stc, .ref std]))] H := hP
  have hD : va_D A [(h0, .inr (15, [.ref st, .ref pg, .ref mc, .ref br, .ref la, .ref sp, .int 0, .int 0, .long 0])), (st, .inr (14, [.int 0, .ref sta, .ref stb, .ref stc, .ref std]))] := hD
  refine lv_if_eq (tgt := 24) hx hb dX11_addPredicate_13 (by decide) (fun c_13 => absurd c_13 (by decide)) (fun c_13 => ?_)
  refine lv_aload_n hx hb dX11_addPredicate_16 rfl (lv_at hl 0 rfl) ?_
  refine lv_iload_n hx hb dX11_addPredicate_17 rfl (lv_at hl 3 rfl) ?_
  refine oi_callV hx hb hml hown hts (f_isTypeOrNone_no l e0 D k h0 p2 st pg mc br la sp sta stb stc std (by assumption)) (cwV 1 hts gX11_addPredicate_X11_isTypeOrNone rfl rfl rfl (by decide +kernel) ⟨Nat.le_of_ble_eq_true rfl, Nat.le_of_ble_eq_true rfl⟩) hK hP hD hS hA hE [0, 1] [] rfl rfl (by decide) (by decide) (by decide) (wr := []) (w2 := fun u => [(h0, .inr (15, [.ref st, .ref pg, .ref mc, .ref br, .ref la, .ref sp, .int 0, .int 0, .long 0])), (st, .inr (14, [.int 0, .ref sta, .ref stb, .ref stc, .ref std]))]) (fun _ => rfl) 0 15 rfl rfl rfl hl.1 rfl (Nat.le_of_ble_eq_true rfl) rfl ⟨Nat.le_of_ble_eq_true rfl, Nat.le_of_ble_eq_true rfl⟩ dX11_addPredicate_18 (fun r u H locs hq hP hD hS => ?_)
  have er : r = 0 := hq
  subst er
  have hP : va_P D vwCl [(h0, .inr (15, [.ref st, .ref pg, .ref mc, .ref br, .ref la, .ref sp, .int 0, .int 0, .long 0])), (st, .inr (14, [.int 0, .ref sta, .ref stb, .ref stc, .ref std]))] H := hP
  have hD : va_D A [(h0, .inr (15, [.ref st, .ref pg, .ref mc, .ref br, .ref la, .ref sp, .int 0, .int 0, .long 0])), (st, .inr (14, [.int 0, .ref sta, .ref stb, .ref stc, .ref std]))] := hD
  refine lv_if_ne (tgt := 32) hx hb dX11_addPredicate_21 (by decide) (fun c_21 => absurd c_21 (by decide)) (fun c_21 => ?_)
  exact ox_throw (names := ["java/lang/RuntimeException", "java/lang/Exception"]) (ik := 80) (ic := 82) (Ts := wsX11_addPredicate) hno hlocks hx hb hl0 hown (by decide +kernel) (by decide +kernel) hts (by decide +kernel) (by decide +kernel) (by decide +kernel) (by decide +kernel) (by decide +kernel) (Or.inl rfl) hE hK (hP.sub [0, 1] rfl) (hD.sub [0, 1] (by decide) rfl) hS (by rw [hml]; exact hl.1) dX11_addPredicate_24 dX11_addPredicate_27 dX11_addPredicate_28 dX11_addPredicate_31 (Nat.le_of_ble_eq_true rfl) (Nat.le_of_ble_eq_true rfl) (Nat.le_of_ble_eq_true rfl) (Nat.le_of_ble_eq_true rfl) (Nat.le_of_ble_eq_true rfl) (Nat.le_of_ble_eq_true rfl)
theorem iw_X11_addMode_X11 : ∀ w ∈ wsX110, w ∈ wsX11_addMode := by decide +kernel
set_option maxHeartbeats 4000000 in
set_option maxRecDepth 100000 in
theorem f_addMode (l : Launch) (hl0 : l.stackTraces = false) (e0 : Nat) (D : va_G) (k : Nat → ClassId) (h0 : Nat) (p0 : Int32) (p1 : Int32) (p2 : Int32) (st : Nat) (pg : Nat) (mc : Nat) (br : Nat) (la : Nat) (sp : Nat) (pla : Nat) (plb : Nat) (plc : Nat) : oCx l e0 D (oTy k) yX11_addMode wsX11_addMode ({ frames := 6, cells := 1, slots := 6, locals := 89 } : Room) [.ref h0, .int p0, .int p1, .int p2] [(h0, .inr (15, [.ref st, .ref pg, .ref mc, .ref br, .ref la, .ref sp, .int 0, .int 0, .long 0])), (pg, .inr (11, [.ref pla, .ref plb, .ref plc])), (pla, .inr (3, [.int 0, .ref e0, .int 0]))] "java/lang/IndexOutOfBoundsException" 1 6 := by
  refine ox_of (cc := cX11_addMode) (maxL := 5) (ret := (some .int)) (by decide +kernel) rfl (Nat.le_of_ble_eq_true rfl) ?_
  intro p e s m below meth c A ls hno hx hb hml hr hts hown hlocks hin hA hK hP hD hS hE hl
  have hl : lv_has ls 5 [(0, .ref h0), (1, .int p0), (2, .int p1), (3, .int p2)] := hl
  refine lv_aload_n hx hb dX11_addMode_0 rfl (lv_at hl 0 rfl) ?_
  refine va_get (D := D) (ci := 15) (v := .ref pg) (C := RX11) (T := TX11) (N := 9) hx hb hts iw_X11_addMode_X11 hown hK hP 0 rfl rfl 1 (by decide) (hts (.fieldLink RX11 19 "ModedMill" "program" "LModedMill$Program;") (by decide +kernel)) (fun _ h9 => h9) rfl dX11_addMode_1 ?_
  refine lv_iload_n hx hb dX11_addMode_4 rfl (lv_at hl 1 rfl) ?_
  refine oq_callV hx hb hml hown hts (f_predicateAt l e0 D k pg p0 pla plb plc) (cwV 1 hts gX11_addMode_X7_predicateAt rfl rfl rfl (by decide +kernel) ⟨Nat.le_of_ble_eq_true rfl, Nat.le_of_ble_eq_true rfl⟩) hK hP hD hS hA hE [1, 2] [0] rfl rfl (by decide) (by decide) (by decide) (wr := [(h0, .inr (15, [.ref st, .ref pg, .ref mc, .ref br, .ref la, .ref sp, .int 0, .int 0, .long 0]))]) (w2 := fun u => [(h0, .inr (15, [.ref st, .ref pg, .ref mc, .ref br, .ref la, .ref sp, .int 0, .int 0, .long 0])), (pg, .inr (11, [.ref pla, .ref plb, .ref plc])), (pla, .inr (3, [.int 0, .ref e0, .int 0]))]) (fun _ => rfl) 0 11 rfl rfl rfl hl.1 rfl (Nat.le_of_ble_eq_true rfl) rfl ⟨Nat.le_of_ble_eq_true rfl, Nat.le_of_ble_eq_true rfl⟩ dX11_addMode_5 (fun r u H locs hq hP hD hS => ?_)
  have er : r = none := hq
  subst er
  have hP : va_P D vwCl [(h0, .inr (15, [.ref st, .ref pg, .ref mc, .ref br, .ref la, .ref sp, .int 0, .int 0, .long 0])), (pg, .inr (11, [.ref pla, .ref plb, .ref plc])), (pla, .inr (3, [.int 0, .ref e0, .int 0]))] H := hP
  have hD : va_D A [(h0, .inr (15, [.ref st, .ref pg, .ref mc, .ref br, .ref la, .ref sp, .int 0, .int 0, .long 0])), (pg, .inr (11, [.ref pla, .ref plb, .ref plc])), (pla, .inr (3, [.int 0, .ref e0, .int 0]))] := hD
  refine lv_astoreN (lv' := [(4, .null), (0, .ref h0), (1, .int p0), (2, .int p1), (3, .int p2)]) hx hb dX11_addMode_8 hl (by decide) rfl (fun ls hl => ?_)
  refine lv_aloadN hx hb dX11_addMode_10 (lv_at hl 0 rfl) ?_
  refine lv_ifnonnullN hx hb dX11_addMode_12 ?_
  exact ox_throw (names := ["java/lang/RuntimeException", "java/lang/Exception"]) (ik := 80) (ic := 82) (Ts := wsX11_addMode) hno hlocks hx hb hl0 hown (by decide +kernel) (by decide +kernel) hts (by decide +kernel) (by decide +kernel) (by decide +kernel) (by decide +kernel) (by decide +kernel) (Or.inl rfl) hE hK (hP.sub [0, 1, 2] rfl) (hD.sub [0, 1, 2] (by decide) rfl) hS (by rw [hml]; exact hl.1) dX11_addMode_15 dX11_addMode_18 dX11_addMode_19 dX11_addMode_22 (Nat.le_of_ble_eq_true rfl) (Nat.le_of_ble_eq_true rfl) (Nat.le_of_ble_eq_true rfl) (Nat.le_of_ble_eq_true rfl) (Nat.le_of_ble_eq_true rfl) (Nat.le_of_ble_eq_true rfl)
theorem iw_X11_addClause_X11 : ∀ w ∈ wsX110, w ∈ wsX11_addClause := by decide +kernel
set_option maxHeartbeats 4000000 in
set_option maxRecDepth 100000 in
theorem f_addClause (l : Launch) (hl0 : l.stackTraces = false) (e0 : Nat) (D : va_G) (k : Nat → ClassId) (h0 : Nat) (p0 : Int32) (st : Nat) (pg : Nat) (mc : Nat) (br : Nat) (la : Nat) (sp : Nat) (pla : Nat) (plb : Nat) (plc : Nat) : oCx l e0 D (oTy k) yX11_addClause wsX11_addClause ({ frames := 6, cells := 1, slots := 6, locals := 89 } : Room) [.ref h0, .int p0] [(h0, .inr (15, [.ref st, .ref pg, .ref mc, .ref br, .ref la, .ref sp, .int 0, .int 0, .long 0])), (pg, .inr (11, [.ref pla, .ref plb, .ref plc])), (pla, .inr (3, [.int 0, .ref e0, .int 0]))] "java/lang/IndexOutOfBoundsException" 1 6 := by
  refine ox_of (cc := cX11_addClause) (maxL := 3) (ret := (some .int)) (by decide +kernel) rfl (Nat.le_of_ble_eq_true rfl) ?_
  intro p e s m below meth c A ls hno hx hb hml hr hts hown hlocks hin hA hK hP hD hS hE hl
  have hl : lv_has ls 3 [(0, .ref h0), (1, .int p0)] := hl
  refine lv_aload_n hx hb dX11_addClause_0 rfl (lv_at hl 0 rfl) ?_
  refine va_get (D := D) (ci := 15) (v := .ref pg) (C := RX11) (T := TX11) (N := 9) hx hb hts iw_X11_addClause_X11 hown hK hP 0 rfl rfl 1 (by decide) (hts (.fieldLink RX11 19 "ModedMill" "program" "LModedMill$Program;") (by decide +kernel)) (fun _ h9 => h9) rfl dX11_addClause_1 ?_
  refine lv_iload_n hx hb dX11_addClause_4 rfl (lv_at hl 1 rfl) ?_
  refine oq_callV hx hb hml hown hts (f_predicateAt l e0 D k pg p0 pla plb plc) (cwV 1 hts gX11_addClause_X7_predicateAt rfl rfl rfl (by decide +kernel) ⟨Nat.le_of_ble_eq_true rfl, Nat.le_of_ble_eq_true rfl⟩) hK hP hD hS hA hE [1, 2] [0] rfl rfl (by decide) (by decide) (by decide) (wr := [(h0, .inr (15, [.ref st, .ref pg, .ref mc, .ref br, .ref la, .ref sp, .int 0, .int 0, .long 0]))]) (w2 := fun u => [(h0, .inr (15, [.ref st, .ref pg, .ref mc, .ref br, .ref la, .ref sp, .int 0, .int 0, .long 0])), (pg, .inr (11, [.ref pla, .ref plb, .ref plc])), (pla, .inr (3, [.int 0, .ref e0, .int 0]))]) (fun _ => rfl) 0 11 rfl rfl rfl hl.1 rfl (Nat.le_of_ble_eq_true rfl) rfl ⟨Nat.le_of_ble_eq_true rfl, Nat.le_of_ble_eq_true rfl⟩ dX11_addClause_5 (fun r u H locs hq hP hD hS => ?_)
  have er : r = none := hq
  subst er
  have hP : va_P D vwCl [(h0, .inr (15, [.ref st, .ref pg, .ref mc, .ref br, .ref la, .ref sp, .int 0, .int 0, .long 0])), (pg, .inr (11, [.ref pla, .ref plb, .ref plc])), (pla, .inr (3, [.int 0, .ref e0, .int 0]))] H := hP
  have hD : va_D A [(h0, .inr (15, [.ref st, .ref pg, .ref mc, .ref br, .ref la, .ref sp, .int 0, .int 0, .long 0])), (pg, .inr (11, [.ref pla, .ref plb, .ref plc])), (pla, .inr (3, [.int 0, .ref e0, .int 0]))] := hD
  refine lv_astore_nN (lv' := [(2, .null), (0, .ref h0), (1, .int p0)]) hx hb dX11_addClause_8 rfl hl (by decide) rfl (fun ls hl => ?_)
  refine lv_aload_nN hx hb dX11_addClause_9 rfl (lv_at hl 0 rfl) ?_
  refine lv_ifnonnullN hx hb dX11_addClause_10 ?_
  exact ox_throw (names := ["java/lang/RuntimeException", "java/lang/Exception"]) (ik := 80) (ic := 82) (Ts := wsX11_addClause) hno hlocks hx hb hl0 hown (by decide +kernel) (by decide +kernel) hts (by decide +kernel) (by decide +kernel) (by decide +kernel) (by decide +kernel) (by decide +kernel) (Or.inl rfl) hE hK (hP.sub [0, 1, 2] rfl) (hD.sub [0, 1, 2] (by decide) rfl) hS (by rw [hml]; exact hl.1) dX11_addClause_13 dX11_addClause_16 dX11_addClause_17 dX11_addClause_20 (Nat.le_of_ble_eq_true rfl) (Nat.le_of_ble_eq_true rfl) (Nat.le_of_ble_eq_true rfl) (Nat.le_of_ble_eq_true rfl) (Nat.le_of_ble_eq_true rfl) (Nat.le_of_ble_eq_true rfl)
theorem iw_X11_addBuild_X11 : ∀ w ∈ wsX110, w ∈ wsX11_addBuild := by decide +kernel
set_option maxHeartbeats 4000000 in
set_option maxRecDepth 100000 in
theorem f_addBuild (l : Launch) (hl0 : l.stackTraces = false) (e0 : Nat) (D : va_G) (k : Nat → ClassId) (h0 : Nat) (p0 : Int32) (p1 : Int32) (p2 : Int32) (p3 : Int32) (p4 : Int32) (st : Nat) (pg : Nat) (mc : Nat) (br : Nat) (la : Nat) (sp : Nat) (pla : Nat) (plb : Nat) (plc : Nat) : oCx l e0 D (oTy k) yX11_addBuild wsX11_addBuild ({ frames := 6, cells := 1, slots := 6, locals := 89 } : Room) [.ref h0, .int p0, .int p1, .int p2, .int p3, .int p4] [(h0, .inr (15, [.ref st, .ref pg, .ref mc, .ref br, .ref la, .ref sp, .int 0, .int 0, .long 0])), (pg, .inr (11, [.ref pla, .ref plb, .ref plc])), (plc, .inr (3, [.int 0, .ref e0, .int 0]))] "java/lang/IndexOutOfBoundsException" 1 6 := by
  refine ox_of (cc := cX11_addBuild) (maxL := 11) (ret := (some .int)) (by decide +kernel) rfl (Nat.le_of_ble_eq_true rfl) ?_
  intro p e s m below meth c A ls hno hx hb hml hr hts hown hlocks hin hA hK hP hD hS hE hl
  have hl : lv_has ls 11 [(0, .ref h0), (1, .int p0), (2, .int p1), (3, .int p2), (4, .int p3), (5, .int p4)] := hl
  refine lv_aload_n hx hb dX11_addBuild_0 rfl (lv_at hl 0 rfl) ?_
  refine va_get (D := D) (ci := 15) (v := .ref pg) (C := RX11) (T := TX11) (N := 9) hx hb hts iw_X11_addBuild_X11 hown hK hP 0 rfl rfl 1 (by decide) (hts (.fieldLink RX11 19 "ModedMill" "program" "LModedMill$Program;") (by decide +kernel)) (fun _ h9 => h9) rfl dX11_addBuild_1 ?_
  refine lv_iload_n hx hb dX11_addBuild_4 rfl (lv_at hl 1 rfl) ?_
  refine oq_callV hx hb hml hown hts (f_clauseAt l e0 D k pg p0 pla plb plc) (cwV 1 hts gX11_addBuild_X7_clauseAt rfl rfl rfl (by decide +kernel) ⟨Nat.le_of_ble_eq_true rfl, Nat.le_of_ble_eq_true rfl⟩) hK hP hD hS hA hE [1, 2] [0] rfl rfl (by decide) (by decide) (by decide) (wr := [(h0, .inr (15, [.ref st, .ref pg, .ref mc, .ref br, .ref la, .ref sp, .int 0, .int 0, .long 0]))]) (w2 := fun u => [(h0, .inr (15, [.ref st, .ref pg, .ref mc, .ref br, .ref la, .ref sp, .int 0, .int 0, .long 0])), (pg, .inr (11, [.ref pla, .ref plb, .ref plc])), (plc, .inr (3, [.int 0, .ref e0, .int 0]))]) (fun _ => rfl) 0 11 rfl rfl rfl hl.1 rfl (Nat.le_of_ble_eq_true rfl) rfl ⟨Nat.le_of_ble_eq_true rfl, Nat.le_of_ble_eq_true rfl⟩ dX11_addBuild_5 (fun r u H locs hq hP hD hS => ?_)
  have er : r = none := hq
  subst er
  have hP : va_P D vwCl [(h0, .inr (15, [.ref st, .ref pg, .ref mc, .ref br, .ref la, .ref sp, .int 0, .int 0, .long 0])), (pg, .inr (11, [.ref pla, .ref plb, .ref plc])), (plc, .inr (3, [.int 0, .ref e0, .int 0]))] H := hP
  have hD : va_D A [(h0, .inr (15, [.ref st, .ref pg, .ref mc, .ref br, .ref la, .ref sp, .int 0, .int 0, .long 0])), (pg, .inr (11, [.ref pla, .ref plb, .ref plc])), (plc, .inr (3, [.int 0, .ref e0, .int 0]))] := hD
  refine lv_astoreN (lv' := [(6, .null), (0, .ref h0), (1, .int p0), (2, .int p1), (3, .int p2), (4, .int p3), (5, .int p4)]) hx hb dX11_addBuild_8 hl (by decide) rfl (fun ls hl => ?_)
  refine lv_aloadN hx hb dX11_addBuild_10 (lv_at hl 0 rfl) ?_
  refine lv_ifnullN (tgt := 37) hx hb dX11_addBuild_12 (by decide) ?_
  exact ox_throw (names := ["java/lang/RuntimeException", "java/lang/Exception"]) (ik := 80) (ic := 82) (Ts := wsX11_addBuild) hno hlocks hx hb hl0 hown (by decide +kernel) (by decide +kernel) hts (by decide +kernel) (by decide +kernel) (by decide +kernel) (by decide +kernel) (by decide +kernel) (Or.inl rfl) hE hK (hP.sub [0, 1, 2] rfl) (hD.sub [0, 1, 2] (by decide) rfl) hS (by rw [hml]; exact hl.1) dX11_addBuild_37 dX11_addBuild_40 dX11_addBuild_41 dX11_addBuild_44 (Nat.le_of_ble_eq_true rfl) (Nat.le_of_ble_eq_true rfl) (Nat.le_of_ble_eq_true rfl) (Nat.le_of_ble_eq_true rfl) (Nat.le_of_ble_eq_true rfl) (Nat.le_of_ble_eq_true rfl)
theorem iw_X11_addSame_X11 : ∀ w ∈ wsX110, w ∈ wsX11_addSame := by decide +kernel
set_option maxHeartbeats 4000000 in
set_option maxRecDepth 100000 in
theorem f_addSame (l : Launch) (hl0 : l.stackTraces = false) (e0 : Nat) (D : va_G) (k : Nat → ClassId) (h0 : Nat) (p0 : Int32) (p1 : Int32) (p2 : Int32) (st : Nat) (pg : Nat) (mc : Nat) (br : Nat) (la : Nat) (sp : Nat) (pla : Nat) (plb : Nat) (plc : Nat) : oCx l e0 D (oTy k) yX11_addSame wsX11_addSame ({ frames := 6, cells := 1, slots := 6, locals := 89 } : Room) [.ref h0, .int p0, .int p1, .int p2] [(h0, .inr (15, [.ref st, .ref pg, .ref mc, .ref br, .ref la, .ref sp, .int 0, .int 0, .long 0])), (pg, .inr (11, [.ref pla, .ref plb, .ref plc])), (plc, .inr (3, [.int 0, .ref e0, .int 0]))] "java/lang/IndexOutOfBoundsException" 1 6 := by
  refine ox_of (cc := cX11_addSame) (maxL := 6) (ret := (some .int)) (by decide +kernel) rfl (Nat.le_of_ble_eq_true rfl) ?_
  intro p e s m below meth c A ls hno hx hb hml hr hts hown hlocks hin hA hK hP hD hS hE hl
  have hl : lv_has ls 6 [(0, .ref h0), (1, .int p0), (2, .int p1), (3, .int p2)] := hl
  refine lv_aload_n hx hb dX11_addSame_0 rfl (lv_at hl 0 rfl) ?_
  refine va_get (D := D) (ci := 15) (v := .ref pg) (C := RX11) (T := TX11) (N := 9) hx hb hts iw_X11_addSame_X11 hown hK hP 0 rfl rfl 1 (by decide) (hts (.fieldLink RX11 19 "ModedMill" "program" "LModedMill$Program;") (by decide +kernel)) (fun _ h9 => h9) rfl dX11_addSame_1 ?_
  refine lv_iload_n hx hb dX11_addSame_4 rfl (lv_at hl 1 rfl) ?_
  refine oq_callV hx hb hml hown hts (f_clauseAt l e0 D k pg p0 pla plb plc) (cwV 1 hts gX11_addSame_X7_clauseAt rfl rfl rfl (by decide +kernel) ⟨Nat.le_of_ble_eq_true rfl, Nat.le_of_ble_eq_true rfl⟩) hK hP hD hS hA hE [1, 2] [0] rfl rfl (by decide) (by decide) (by decide) (wr := [(h0, .inr (15, [.ref st, .ref pg, .ref mc, .ref br, .ref la, .ref sp, .int 0, .int 0, .long 0]))]) (w2 := fun u => [(h0, .inr (15, [.ref st, .ref pg, .ref mc, .ref br, .ref la, .ref sp, .int 0, .int 0, .long 0])), (pg, .inr (11, [.ref pla, .ref plb, .ref plc])), (plc, .inr (3, [.int 0, .ref e0, .int 0]))]) (fun _ => rfl) 0 11 rfl rfl rfl hl.1 rfl (Nat.le_of_ble_eq_true rfl) rfl ⟨Nat.le_of_ble_eq_true rfl, Nat.le_of_ble_eq_true rfl⟩ dX11_addSame_5 (fun r u H locs hq hP hD hS => ?_)
  have er : r = none := hq
  subst er
  have hP : va_P D vwCl [(h0, .inr (15, [.ref st, .ref pg, .ref mc, .ref br, .ref la, .ref sp, .int 0, .int 0, .long 0])), (pg, .inr (11, [.ref pla, .ref plb, .ref plc])), (plc, .inr (3, [.int 0, .ref e0, .int 0]))] H := hP
  have hD : va_D A [(h0, .inr (15, [.ref st, .ref pg, .ref mc, .ref br, .ref la, .ref sp, .int 0, .int 0, .long 0])), (pg, .inr (11, [.ref pla, .ref plb, .ref plc])), (plc, .inr (3, [.int 0, .ref e0, .int 0]))] := hD
  refine lv_astoreN (lv' := [(4, .null), (0, .ref h0), (1, .int p0), (2, .int p1), (3, .int p2)]) hx hb dX11_addSame_8 hl (by decide) rfl (fun ls hl => ?_)
  refine lv_aloadN hx hb dX11_addSame_10 (lv_at hl 0 rfl) ?_
  refine lv_ifnullN (tgt := 24) hx hb dX11_addSame_12 (by decide) ?_
  exact ox_throw (names := ["java/lang/RuntimeException", "java/lang/Exception"]) (ik := 80) (ic := 82) (Ts := wsX11_addSame) hno hlocks hx hb hl0 hown (by decide +kernel) (by decide +kernel) hts (by decide +kernel) (by decide +kernel) (by decide +kernel) (by decide +kernel) (by decide +kernel) (Or.inl rfl) hE hK (hP.sub [0, 1, 2] rfl) (hD.sub [0, 1, 2] (by decide) rfl) hS (by rw [hml]; exact hl.1) dX11_addSame_24 dX11_addSame_27 dX11_addSame_28 dX11_addSame_31 (Nat.le_of_ble_eq_true rfl) (Nat.le_of_ble_eq_true rfl) (Nat.le_of_ble_eq_true rfl) (Nat.le_of_ble_eq_true rfl) (Nat.le_of_ble_eq_true rfl) (Nat.le_of_ble_eq_true rfl)
theorem iw_X11_addCall_X11 : ∀ w ∈ wsX110, w ∈ wsX11_addCall := by decide +kernel
set_option maxHeartbeats 4000000 in
set_option maxRecDepth 100000 in
theorem f_addCall (l : Launch) (hl0 : l.stackTraces = false) (e0 : Nat) (D : va_G) (k : Nat → ClassId) (h0 : Nat) (p0 : Int32) (p1 : Int32) (p2 : Int32) (p3 : Int32) (p4 : Int32) (p5 : Int32) (st : Nat) (pg : Nat) (mc : Nat) (br : Nat) (la : Nat) (sp : Nat) (pla : Nat) (plb : Nat) (plc : Nat) : oCx l e0 D (oTy k) yX11_addCall wsX11_addCall ({ frames := 6, cells := 1, slots := 6, locals := 89 } : Room) [.ref h0, .int p0, .int p1, .int p2, .int p3, .int p4, .int p5] [(h0, .inr (15, [.ref st, .ref pg, .ref mc, .ref br, .ref la, .ref sp, .int 0, .int 0, .long 0])), (pg, .inr (11, [.ref pla, .ref plb, .ref plc])), (pla, .inr (3, [.int 0, .ref e0, .int 0])), (plc, .inr (3, [.int 0, .ref e0, .int 0]))] "java/lang/IndexOutOfBoundsException" 1 6 := by
  refine ox_of (cc := cX11_addCall) (maxL := 11) (ret := (some .int)) (by decide +kernel) rfl (Nat.le_of_ble_eq_true rfl) ?_
  intro p e s m below meth c A ls hno hx hb hml hr hts hown hlocks hin hA hK hP hD hS hE hl
  have hl : lv_has ls 11 [(0, .ref h0), (1, .int p0), (2, .int p1), (3, .int p2), (4, .int p3), (5, .int p4), (6, .int p5)] := hl
  refine lv_aload_n hx hb dX11_addCall_0 rfl (lv_at hl 0 rfl) ?_
  refine va_get (D := D) (ci := 15) (v := .ref pg) (C := RX11) (T := TX11) (N := 9) hx hb hts iw_X11_addCall_X11 hown hK hP 0 rfl rfl 1 (by decide) (hts (.fieldLink RX11 19 "ModedMill" "program" "LModedMill$Program;") (by decide +kernel)) (fun _ h9 => h9) rfl dX11_addCall_1 ?_
  refine lv_iload_n hx hb dX11_addCall_4 rfl (lv_at hl 1 rfl) ?_
  refine oq_callV hx hb hml hown hts (f_clauseAt l e0 D k pg p0 pla plb plc) (cwV 1 hts gX11_addCall_X7_clauseAt rfl rfl rfl (by decide +kernel) ⟨Nat.le_of_ble_eq_true rfl, Nat.le_of_ble_eq_true rfl⟩) hK hP hD hS hA hE [1, 3] [0, 2] rfl rfl (by decide) (by decide) (by decide) (wr := [(h0, .inr (15, [.ref st, .ref pg, .ref mc, .ref br, .ref la, .ref sp, .int 0, .int 0, .long 0])), (pla, .inr (3, [.int 0, .ref e0, .int 0]))]) (w2 := fun u => [(h0, .inr (15, [.ref st, .ref pg, .ref mc, .ref br, .ref la, .ref sp, .int 0, .int 0, .long 0])), (pla, .inr (3, [.int 0, .ref e0, .int 0])), (pg, .inr (11, [.ref pla, .ref plb, .ref plc])), (plc, .inr (3, [.int 0, .ref e0, .int 0]))]) (fun _ => rfl) 0 11 rfl rfl rfl hl.1 rfl (Nat.le_of_ble_eq_true rfl) rfl ⟨Nat.le_of_ble_eq_true rfl, Nat.le_of_ble_eq_true rfl⟩ dX11_addCall_5 (fun r u H locs hq hP hD hS => ?_)
  have er : r = none := hq
  subst er
  have hP : va_P D vwCl [(h0, .inr (15, [.ref st, .ref pg, .ref mc, .ref br, .ref la, .ref sp, .int 0, .int 0, .long 0])), (pla, .inr (3, [.int 0, .ref e0, .int 0])), (pg, .inr (11, [.ref pla, .ref plb, .ref plc])), (plc, .inr (3, [.int 0, .ref e0, .int 0]))] H := hP
  have hD : va_D A [(h0, .inr (15, [.ref st, .ref pg, .ref mc, .ref br, .ref la, .ref sp, .int 0, .int 0, .long 0])), (pla, .inr (3, [.int 0, .ref e0, .int 0])), (pg, .inr (11, [.ref pla, .ref plb, .ref plc])), (plc, .inr (3, [.int 0, .ref e0, .int 0]))] := hD
  refine lv_astoreN (lv' := [(7, .null), (0, .ref h0), (1, .int p0), (2, .int p1), (3, .int p2), (4, .int p3), (5, .int p4), (6, .int p5)]) hx hb dX11_addCall_8 hl (by decide) rfl (fun ls hl => ?_)
  refine lv_aload_n hx hb dX11_addCall_10 rfl (lv_at hl 1 rfl) ?_
  refine va_get (D := D) (ci := 15) (v := .ref pg) (C := RX11) (T := TX11) (N := 9) hx hb hts iw_X11_addCall_X11 hown hK hP 0 rfl rfl 1 (by decide) (hts (.fieldLink RX11 19 "ModedMill" "program" "LModedMill$Program;") (by decide +kernel)) (fun _ h9 => h9) rfl dX11_addCall_11 ?_
  refine lv_iload_n hx hb dX11_addCall_14 rfl (lv_at hl 3 rfl) ?_
  refine oq_callV hx hb hml hown hts (f_predicateAt l e0 D k pg p1 pla plb plc) (cwV 1 hts gX11_addCall_X7_predicateAt rfl rfl rfl (by decide +kernel) ⟨Nat.le_of_ble_eq_true rfl, Nat.le_of_ble_eq_true rfl⟩) hK hP hD hS hA hE [2, 1] [0, 3] rfl rfl (by decide) (by decide) (by decide) (wr := [(h0, .inr (15, [.ref st, .ref pg, .ref mc, .ref br, .ref la, .ref sp, .int 0, .int 0, .long 0])), (plc, .inr (3, [.int 0, .ref e0, .int 0]))]) (w2 := fun u => [(h0, .inr (15, [.ref st, .ref pg, .ref mc, .ref br, .ref la, .ref sp, .int 0, .int 0, .long 0])), (plc, .inr (3, [.int 0, .ref e0, .int 0])), (pg, .inr (11, [.ref pla, .ref plb, .ref plc])), (pla, .inr (3, [.int 0, .ref e0, .int 0]))]) (fun _ => rfl) 0 11 rfl rfl rfl hl.1 rfl (Nat.le_of_ble_eq_true rfl) rfl ⟨Nat.le_of_ble_eq_true rfl, Nat.le_of_ble_eq_true rfl⟩ dX11_addCall_15 (fun r u H locs hq hP hD hS => ?_)
  have er : r = none := hq
  subst er
  have hP : va_P D vwCl [(h0, .inr (15, [.ref st, .ref pg, .ref mc, .ref br, .ref la, .ref sp, .int 0, .int 0, .long 0])), (plc, .inr (3, [.int 0, .ref e0, .int 0])), (pg, .inr (11, [.ref pla, .ref plb, .ref plc])), (pla, .inr (3, [.int 0, .ref e0, .int 0]))] H := hP
  have hD : va_D A [(h0, .inr (15, [.ref st, .ref pg, .ref mc, .ref br, .ref la, .ref sp, .int 0, .int 0, .long 0])), (plc, .inr (3, [.int 0, .ref e0, .int 0])), (pg, .inr (11, [.ref pla, .ref plb, .ref plc])), (pla, .inr (3, [.int 0, .ref e0, .int 0]))] := hD
  refine lv_astoreN (lv' := [(8, .null), (7, .null), (0, .ref h0), (1, .int p0), (2, .int p1), (3, .int p2), (4, .int p3), (5, .int p4), (6, .int p5)]) hx hb dX11_addCall_18 hl (by decide) rfl (fun ls hl => ?_)
  refine lv_aloadN hx hb dX11_addCall_20 (lv_at hl 1 rfl) ?_
  refine lv_ifnullN (tgt := 41) hx hb dX11_addCall_22 (by decide) ?_
  exact ox_throw (names := ["java/lang/RuntimeException", "java/lang/Exception"]) (ik := 80) (ic := 82) (Ts := wsX11_addCall) hno hlocks hx hb hl0 hown (by decide +kernel) (by decide +kernel) hts (by decide +kernel) (by decide +kernel) (by decide +kernel) (by decide +kernel) (by decide +kernel) (Or.inl rfl) hE hK (hP.sub [0, 2, 3, 1] rfl) (hD.sub [0, 2, 3, 1] (by decide) rfl) hS (by rw [hml]; exact hl.1) dX11_addCall_41 dX11_addCall_44 dX11_addCall_45 dX11_addCall_48 (Nat.le_of_ble_eq_true rfl) (Nat.le_of_ble_eq_true rfl) (Nat.le_of_ble_eq_true rfl) (Nat.le_of_ble_eq_true rfl) (Nat.le_of_ble_eq_true rfl) (Nat.le_of_ble_eq_true rfl)
set_option maxHeartbeats 4000000 in
set_option maxRecDepth 100000 in
theorem f_open (l : Launch) (hl0 : l.stackTraces = false) (e0 : Nat) (D : va_G) (k : Nat → ClassId) (h0 : Nat) (st : Nat) (pg : Nat) (mc : Nat) (br : Nat) (la : Nat) (sp : Nat) : oCx l e0 D (oTy k) yX11_open wsX11_open ({ frames := 7, cells := 1, slots := 6, locals := 109 } : Room) [.ref h0] [(h0, .inr (15, [.ref st, .ref pg, .ref mc, .ref br, .ref la, .ref sp, .int 0, .int 0, .long 0]))] "java/lang/IllegalStateException" 1 6 := by
  refine ox_of (cc := cX11_open) (maxL := 2) (ret := (some .int)) (by decide +kernel) rfl (Nat.le_of_ble_eq_true rfl) ?_
  intro p e s m below meth c A ls hno hx hb hml hr hts hown hlocks hin hA hK hP hD hS hE hl
  have hl : lv_has ls 2 [(0, .ref h0)] := hl
  refine lv_aload_n hx hb dX11_open_0 rfl (lv_at hl 0 rfl) ?_
  refine ox_callV hx hb hml hown hts (f_refuseUncompiled l hl0 e0 D k h0 st pg mc br la sp) (cwV 0 hts gX11_open_X11_refuseUncompiled rfl rfl rfl (by decide +kernel) ⟨Nat.le_of_ble_eq_true rfl, Nat.le_of_ble_eq_true rfl⟩) hK hP hD hS hA hE [0] [] rfl rfl (by decide) (by decide) (by decide) (wr := []) (w3 := [(h0, .inr (15, [.ref st, .ref pg, .ref mc, .ref br, .ref la, .ref sp, .int 0, .int 0, .long 0]))]) rfl 0 15 rfl rfl rfl hl.1 rfl (Nat.le_of_ble_eq_true rfl) rfl ⟨Nat.le_of_ble_eq_true rfl, Nat.le_of_ble_eq_true rfl⟩ dX11_open_1 (fun ce q9 H locs hP hD hS hce hcv hcl => ?_)
  exact ox_out hno hlocks hK (hP.sub [0] rfl) (hD.sub [0] (by decide) rfl) hS hce hcv hcl (Nat.le_of_ble_eq_true rfl) (Nat.le_of_ble_eq_true rfl)
set_option maxHeartbeats 4000000 in
set_option maxRecDepth 100000 in
theorem f_fault (l : Launch) (hl0 : l.stackTraces = false) (e0 : Nat) (D : va_G) (k : Nat → ClassId) (h0 : Nat) (p0 : Int32) (p1 : Int32) (st : Nat) (pg : Nat) (mc : Nat) (br : Nat) (la : Nat) (sp : Nat) (pla : Nat) (plb : Nat) (plc : Nat) : oCx l e0 D (oTy k) yX11_fault wsX11_fault ({ frames := 7, cells := 1, slots := 6, locals := 112 } : Room) [.ref h0, .int p0, .int p1] [(h0, .inr (15, [.ref st, .ref pg, .ref mc, .ref br, .ref la, .ref sp, .int 0, .int 0, .long 0])), (pg, .inr (11, [.ref pla, .ref plb, .ref plc])), (pla, .inr (3, [.int 0, .ref e0, .int 0]))] "java/lang/IndexOutOfBoundsException" 1 6 := by
  refine ox_of (cc := cX11_fault) (maxL := 3) (ret := (some .char)) (by decide +kernel) rfl (Nat.le_of_ble_eq_true rfl) ?_
  intro p e s m below meth c A ls hno hx hb hml hr hts hown hlocks hin hA hK hP hD hS hE hl
  have hl : lv_has ls 3 [(0, .ref h0), (1, .int p0), (2, .int p1)] := hl
  refine lv_aload_n hx hb dX11_fault_0 rfl (lv_at hl 0 rfl) ?_
  refine lv_iload_n hx hb dX11_fault_1 rfl (lv_at hl 1 rfl) ?_
  refine lv_iload_n hx hb dX11_fault_2 rfl (lv_at hl 2 rfl) ?_
  refine ox_callV hx hb hml hown hts (f_compiledMode l hl0 e0 D k h0 p0 p1 st pg mc br la sp pla plb plc) (cwV 2 hts gX11_fault_X11_compiledMode rfl rfl rfl (by decide +kernel) ⟨Nat.le_of_ble_eq_true rfl, Nat.le_of_ble_eq_true rfl⟩) hK hP hD hS hA hE [0, 1, 2] [] rfl rfl (by decide) (by decide) (by decide) (wr := []) (w3 := [(h0, .inr (15, [.ref st, .ref pg, .ref mc, .ref br, .ref la, .ref sp, .int 0, .int 0, .long 0])), (pg, .inr (11, [.ref pla, .ref plb, .ref plc])), (pla, .inr (3, [.int 0, .ref e0, .int 0]))]) rfl 0 15 rfl rfl rfl hl.1 rfl (Nat.le_of_ble_eq_true rfl) rfl ⟨Nat.le_of_ble_eq_true rfl, Nat.le_of_ble_eq_true rfl⟩ dX11_fault_3 (fun ce q9 H locs hP hD hS hce hcv hcl => ?_)
  exact ox_out hno hlocks hK (hP.sub [0, 1, 2] rfl) (hD.sub [0, 1, 2] (by decide) rfl) hS hce hcv hcl (Nat.le_of_ble_eq_true rfl) (Nat.le_of_ble_eq_true rfl)
set_option maxHeartbeats 4000000 in
set_option maxRecDepth 100000 in
theorem f_isGood (l : Launch) (hl0 : l.stackTraces = false) (e0 : Nat) (D : va_G) (k : Nat → ClassId) (h0 : Nat) (p0 : Int32) (p1 : Int32) (st : Nat) (pg : Nat) (mc : Nat) (br : Nat) (la : Nat) (sp : Nat) (pla : Nat) (plb : Nat) (plc : Nat) : oCx l e0 D (oTy k) yX11_isGood wsX11_isGood ({ frames := 7, cells := 1, slots := 6, locals := 112 } : Room) [.ref h0, .int p0, .int p1] [(h0, .inr (15, [.ref st, .ref pg, .ref mc, .ref br, .ref la, .ref sp, .int 0, .int 0, .long 0])), (pg, .inr (11, [.ref pla, .ref plb, .ref plc])), (pla, .inr (3, [.int 0, .ref e0, .int 0]))] "java/lang/IndexOutOfBoundsException" 1 6 := by
  refine ox_of (cc := cX11_isGood) (maxL := 3) (ret := (some .boolean)) (by decide +kernel) rfl (Nat.le_of_ble_eq_true rfl) ?_
  intro p e s m below meth c A ls hno hx hb hml hr hts hown hlocks hin hA hK hP hD hS hE hl
  have hl : lv_has ls 3 [(0, .ref h0), (1, .int p0), (2, .int p1)] := hl
  refine lv_aload_n hx hb dX11_isGood_0 rfl (lv_at hl 0 rfl) ?_
  refine lv_iload_n hx hb dX11_isGood_1 rfl (lv_at hl 1 rfl) ?_
  refine lv_iload_n hx hb dX11_isGood_2 rfl (lv_at hl 2 rfl) ?_
  refine ox_callV hx hb hml hown hts (f_compiledMode l hl0 e0 D k h0 p0 p1 st pg mc br la sp pla plb plc) (cwV 2 hts gX11_isGood_X11_compiledMode rfl rfl rfl (by decide +kernel) ⟨Nat.le_of_ble_eq_true rfl, Nat.le_of_ble_eq_true rfl⟩) hK hP hD hS hA hE [0, 1, 2] [] rfl rfl (by decide) (by decide) (by decide) (wr := []) (w3 := [(h0, .inr (15, [.ref st, .ref pg, .ref mc, .ref br, .ref la, .ref sp, .int 0, .int 0, .long 0])), (pg, .inr (11, [.ref pla, .ref plb, .ref plc])), (pla, .inr (3, [.int 0, .ref e0, .int 0]))]) rfl 0 15 rfl rfl rfl hl.1 rfl (Nat.le_of_ble_eq_true rfl) rfl ⟨Nat.le_of_ble_eq_true rfl, Nat.le_of_ble_eq_true rfl⟩ dX11_isGood_3 (fun ce q9 H locs hP hD hS hce hcv hcl => ?_)
  exact ox_out hno hlocks hK (hP.sub [0, 1, 2] rfl) (hD.sub [0, 1, 2] (by decide) rfl) hS hce hcv hcl (Nat.le_of_ble_eq_true rfl) (Nat.le_of_ble_eq_true rfl)
set_option maxHeartbeats 4000000 in
set_option maxRecDepth 100000 in
theorem f_found (l : Launch) (hl0 : l.stackTraces = false) (e0 : Nat) (D : va_G) (k : Nat → ClassId) (h0 : Nat) (p0 : Int32) (p1 : Int32) (st : Nat) (pg : Nat) (mc : Nat) (br : Nat) (la : Nat) (sp : Nat) (pla : Nat) (plb : Nat) (plc : Nat) : oCx l e0 D (oTy k) yX11_found wsX11_found ({ frames := 7, cells := 1, slots := 6, locals := 112 } : Room) [.ref h0, .int p0, .int p1] [(h0, .inr (15, [.ref st, .ref pg, .ref mc, .ref br, .ref la, .ref sp, .int 0, .int 0, .long 0])), (pg, .inr (11, [.ref pla, .ref plb, .ref plc])), (pla, .inr (3, [.int 0, .ref e0, .int 0]))] "java/lang/IndexOutOfBoundsException" 1 6 := by
  refine ox_of (cc := cX11_found) (maxL := 4) (ret := (some .char)) (by decide +kernel) rfl (Nat.le_of_ble_eq_true rfl) ?_
  intro p e s m below meth c A ls hno hx hb hml hr hts hown hlocks hin hA hK hP hD hS hE hl
  have hl : lv_has ls 4 [(0, .ref h0), (1, .int p0), (2, .int p1)] := hl
  refine lv_aload_n hx hb dX11_found_0 rfl (lv_at hl 0 rfl) ?_
  refine lv_iload_n hx hb dX11_found_1 rfl (lv_at hl 1 rfl) ?_
  refine lv_iload_n hx hb dX11_found_2 rfl (lv_at hl 2 rfl) ?_
  refine ox_callV hx hb hml hown hts (f_compiledMode l hl0 e0 D k h0 p0 p1 st pg mc br la sp pla plb plc) (cwV 2 hts gX11_found_X11_compiledMode rfl rfl rfl (by decide +kernel) ⟨Nat.le_of_ble_eq_true rfl, Nat.le_of_ble_eq_true rfl⟩) hK hP hD hS hA hE [0, 1, 2] [] rfl rfl (by decide) (by decide) (by decide) (wr := []) (w3 := [(h0, .inr (15, [.ref st, .ref pg, .ref mc, .ref br, .ref la, .ref sp, .int 0, .int 0, .long 0])), (pg, .inr (11, [.ref pla, .ref plb, .ref plc])), (pla, .inr (3, [.int 0, .ref e0, .int 0]))]) rfl 0 15 rfl rfl rfl hl.1 rfl (Nat.le_of_ble_eq_true rfl) rfl ⟨Nat.le_of_ble_eq_true rfl, Nat.le_of_ble_eq_true rfl⟩ dX11_found_3 (fun ce q9 H locs hP hD hS hce hcv hcl => ?_)
  exact ox_out hno hlocks hK (hP.sub [0, 1, 2] rfl) (hD.sub [0, 1, 2] (by decide) rfl) hS hce hcv hcl (Nat.le_of_ble_eq_true rfl) (Nat.le_of_ble_eq_true rfl)
set_option maxHeartbeats 4000000 in
set_option maxRecDepth 100000 in
theorem f_switchOf (l : Launch) (hl0 : l.stackTraces = false) (e0 : Nat) (D : va_G) (k : Nat → ClassId) (h0 : Nat) (p0 : Int32) (p1 : Int32) (st : Nat) (pg : Nat) (mc : Nat) (br : Nat) (la : Nat) (sp : Nat) (pla : Nat) (plb : Nat) (plc : Nat) : oCx l e0 D (oTy k) yX11_switchOf wsX11_switchOf ({ frames := 7, cells := 1, slots := 6, locals := 112 } : Room) [.ref h0, .int p0, .int p1] [(h0, .inr (15, [.ref st, .ref pg, .ref mc, .ref br, .ref la, .ref sp, .int 0, .int 0, .long 0])), (pg, .inr (11, [.ref pla, .ref plb, .ref plc])), (pla, .inr (3, [.int 0, .ref e0, .int 0]))] "java/lang/IndexOutOfBoundsException" 1 6 := by
  refine ox_of (cc := cX11_switchOf) (maxL := 4) (ret := (some .int)) (by decide +kernel) rfl (Nat.le_of_ble_eq_true rfl) ?_
  intro p e s m below meth c A ls hno hx hb hml hr hts hown hlocks hin hA hK hP hD hS hE hl
  have hl : lv_has ls 4 [(0, .ref h0), (1, .int p0), (2, .int p1)] := hl
  refine lv_aload_n hx hb dX11_switchOf_0 rfl (lv_at hl 0 rfl) ?_
  refine lv_iload_n hx hb dX11_switchOf_1 rfl (lv_at hl 1 rfl) ?_
  refine lv_iload_n hx hb dX11_switchOf_2 rfl (lv_at hl 2 rfl) ?_
  refine ox_callV hx hb hml hown hts (f_compiledMode l hl0 e0 D k h0 p0 p1 st pg mc br la sp pla plb plc) (cwV 2 hts gX11_switchOf_X11_compiledMode rfl rfl rfl (by decide +kernel) ⟨Nat.le_of_ble_eq_true rfl, Nat.le_of_ble_eq_true rfl⟩) hK hP hD hS hA hE [0, 1, 2] [] rfl rfl (by decide) (by decide) (by decide) (wr := []) (w3 := [(h0, .inr (15, [.ref st, .ref pg, .ref mc, .ref br, .ref la, .ref sp, .int 0, .int 0, .long 0])), (pg, .inr (11, [.ref pla, .ref plb, .ref plc])), (pla, .inr (3, [.int 0, .ref e0, .int 0]))]) rfl 0 15 rfl rfl rfl hl.1 rfl (Nat.le_of_ble_eq_true rfl) rfl ⟨Nat.le_of_ble_eq_true rfl, Nat.le_of_ble_eq_true rfl⟩ dX11_switchOf_3 (fun ce q9 H locs hP hD hS hce hcv hcl => ?_)
  exact ox_out hno hlocks hK (hP.sub [0, 1, 2] rfl) (hD.sub [0, 1, 2] (by decide) rfl) hS hce hcv hcl (Nat.le_of_ble_eq_true rfl) (Nat.le_of_ble_eq_true rfl)
set_option maxHeartbeats 4000000 in
set_option maxRecDepth 100000 in
theorem f_goalAt (l : Launch) (hl0 : l.stackTraces = false) (e0 : Nat) (D : va_G) (k : Nat → ClassId) (h0 : Nat) (p0 : Int32) (p1 : Int32) (p2 : Int32) (st : Nat) (pg : Nat) (mc : Nat) (br : Nat) (la : Nat) (sp : Nat) (pla : Nat) (plb : Nat) (plc : Nat) : oCx l e0 D (oTy k) yX11_goalAt wsX11_goalAt ({ frames := 7, cells := 1, slots := 6, locals := 112 } : Room) [.ref h0, .int p0, .int p1, .int p2] [(h0, .inr (15, [.ref st, .ref pg, .ref mc, .ref br, .ref la, .ref sp, .int 0, .int 0, .long 0])), (pg, .inr (11, [.ref pla, .ref plb, .ref plc])), (plc, .inr (3, [.int 0, .ref e0, .int 0]))] "java/lang/IndexOutOfBoundsException" 1 6 := by
  refine ox_of (cc := cX11_goalAt) (maxL := 6) (ret := (some .int)) (by decide +kernel) rfl (Nat.le_of_ble_eq_true rfl) ?_
  intro p e s m below meth c A ls hno hx hb hml hr hts hown hlocks hin hA hK hP hD hS hE hl
  have hl : lv_has ls 6 [(0, .ref h0), (1, .int p0), (2, .int p1), (3, .int p2)] := hl
  refine lv_aload_n hx hb dX11_goalAt_0 rfl (lv_at hl 0 rfl) ?_
  refine lv_iload_n hx hb dX11_goalAt_1 rfl (lv_at hl 1 rfl) ?_
  refine lv_iload_n hx hb dX11_goalAt_2 rfl (lv_at hl 2 rfl) ?_
  refine ox_callV hx hb hml hown hts (f_orderedClause l hl0 e0 D k h0 p0 p1 st pg mc br la sp pla plb plc) (cwV 2 hts gX11_goalAt_X11_orderedClause rfl rfl rfl (by decide +kernel) ⟨Nat.le_of_ble_eq_true rfl, Nat.le_of_ble_eq_true rfl⟩) hK hP hD hS hA hE [0, 1, 2] [] rfl rfl (by decide) (by decide) (by decide) (wr := []) (w3 := [(h0, .inr (15, [.ref st, .ref pg, .ref mc, .ref br, .ref la, .ref sp, .int 0, .int 0, .long 0])), (pg, .inr (11, [.ref pla, .ref plb, .ref plc])), (plc, .inr (3, [.int 0, .ref e0, .int 0]))]) rfl 0 15 rfl rfl rfl hl.1 rfl (Nat.le_of_ble_eq_true rfl) rfl ⟨Nat.le_of_ble_eq_true rfl, Nat.le_of_ble_eq_true rfl⟩ dX11_goalAt_3 (fun ce q9 H locs hP hD hS hce hcv hcl => ?_)
  exact ox_out hno hlocks hK (hP.sub [0, 1, 2] rfl) (hD.sub [0, 1, 2] (by decide) rfl) hS hce hcv hcl (Nat.le_of_ble_eq_true rfl) (Nat.le_of_ble_eq_true rfl)
set_option maxHeartbeats 4000000 in
set_option maxRecDepth 100000 in
theorem f_chosenAt (l : Launch) (hl0 : l.stackTraces = false) (e0 : Nat) (D : va_G) (k : Nat → ClassId) (h0 : Nat) (p0 : Int32) (p1 : Int32) (p2 : Int32) (st : Nat) (pg : Nat) (mc : Nat) (br : Nat) (la : Nat) (sp : Nat) (pla : Nat) (plb : Nat) (plc : Nat) : oCx l e0 D (oTy k) yX11_chosenAt wsX11_chosenAt ({ frames := 7, cells := 1, slots := 6, locals := 112 } : Room) [.ref h0, .int p0, .int p1, .int p2] [(h0, .inr (15, [.ref st, .ref pg, .ref mc, .ref br, .ref la, .ref sp, .int 0, .int 0, .long 0])), (pg, .inr (11, [.ref pla, .ref plb, .ref plc])), (plc, .inr (3, [.int 0, .ref e0, .int 0]))] "java/lang/IndexOutOfBoundsException" 1 6 := by
  refine ox_of (cc := cX11_chosenAt) (maxL := 6) (ret := (some .int)) (by decide +kernel) rfl (Nat.le_of_ble_eq_true rfl) ?_
  intro p e s m below meth c A ls hno hx hb hml hr hts hown hlocks hin hA hK hP hD hS hE hl
  have hl : lv_has ls 6 [(0, .ref h0), (1, .int p0), (2, .int p1), (3, .int p2)] := hl
  refine lv_aload_n hx hb dX11_chosenAt_0 rfl (lv_at hl 0 rfl) ?_
  refine lv_iload_n hx hb dX11_chosenAt_1 rfl (lv_at hl 1 rfl) ?_
  refine lv_iload_n hx hb dX11_chosenAt_2 rfl (lv_at hl 2 rfl) ?_
  refine ox_callV hx hb hml hown hts (f_orderedClause l hl0 e0 D k h0 p0 p1 st pg mc br la sp pla plb plc) (cwV 2 hts gX11_chosenAt_X11_orderedClause rfl rfl rfl (by decide +kernel) ⟨Nat.le_of_ble_eq_true rfl, Nat.le_of_ble_eq_true rfl⟩) hK hP hD hS hA hE [0, 1, 2] [] rfl rfl (by decide) (by decide) (by decide) (wr := []) (w3 := [(h0, .inr (15, [.ref st, .ref pg, .ref mc, .ref br, .ref la, .ref sp, .int 0, .int 0, .long 0])), (pg, .inr (11, [.ref pla, .ref plb, .ref plc])), (plc, .inr (3, [.int 0, .ref e0, .int 0]))]) rfl 0 15 rfl rfl rfl hl.1 rfl (Nat.le_of_ble_eq_true rfl) rfl ⟨Nat.le_of_ble_eq_true rfl, Nat.le_of_ble_eq_true rfl⟩ dX11_chosenAt_3 (fun ce q9 H locs hP hD hS hce hcv hcl => ?_)
  exact ox_out hno hlocks hK (hP.sub [0, 1, 2] rfl) (hD.sub [0, 1, 2] (by decide) rfl) hS hce hcv hcl (Nat.le_of_ble_eq_true rfl) (Nat.le_of_ble_eq_true rfl)
theorem iw_X11_ask_X11 : ∀ w ∈ wsX110, w ∈ wsX11_ask := by decide +kernel
set_option maxHeartbeats 4000000 in
set_option maxRecDepth 100000 in
theorem f_ask (l : Launch) (hl0 : l.stackTraces = false) (e0 : Nat) (D : va_G) (k : Nat → ClassId) (h0 : Nat) (p0 : Int32) (p1 : Int32) (p2 : Int32) (p3 : Int32) (p4 : Int32) (st : Nat) (pg : Nat) (mc : Nat) (br : Nat) (la : Nat) (sp : Nat) (pla : Nat) (plb : Nat) (plc : Nat) : oCx l e0 D (oTy k) yX11_ask wsX11_ask ({ frames := 6, cells := 1, slots := 6, locals := 89 } : Room) [.ref h0, .int p0, .int p1, .int p2, .int p3, .int p4] [(h0, .inr (15, [.ref st, .ref pg, .ref mc, .ref br, .ref la, .ref sp, .int 0, .int 0, .long 0])), (pg, .inr (11, [.ref pla, .ref plb, .ref plc])), (pla, .inr (3, [.int 0, .ref e0, .int 0]))] "java/lang/IndexOutOfBoundsException" 1 6 := by
  refine ox_of (cc := cX11_ask) (maxL := 8) (ret := (some .int)) (by decide +kernel) rfl (Nat.le_of_ble_eq_true rfl) ?_
  intro p e s m below meth c A ls hno hx hb hml hr hts hown hlocks hin hA hK hP hD hS hE hl
  have hl : lv_has ls 8 [(0, .ref h0), (1, .int p0), (2, .int p1), (3, .int p2), (4, .int p3), (5, .int p4)] := hl
  refine lv_aload_n hx hb dX11_ask_0 rfl (lv_at hl 0 rfl) ?_
  refine va_get (D := D) (ci := 15) (v := .ref pg) (C := RX11) (T := TX11) (N := 9) hx hb hts iw_X11_ask_X11 hown hK hP 0 rfl rfl 1 (by decide) (hts (.fieldLink RX11 19 "ModedMill" "program" "LModedMill$Program;") (by decide +kernel)) (fun _ h9 => h9) rfl dX11_ask_1 ?_
  refine lv_iload_n hx hb dX11_ask_4 rfl (lv_at hl 1 rfl) ?_
  refine lv_iload_n hx hb dX11_ask_5 rfl (lv_at hl 2 rfl) ?_
  refine oq_callV hx hb hml hown hts (f_modeAt l e0 D k pg p0 p1 pla plb plc) (cwV 2 hts gX11_ask_X7_modeAt rfl rfl rfl (by decide +kernel) ⟨Nat.le_of_ble_eq_true rfl, Nat.le_of_ble_eq_true rfl⟩) hK hP hD hS hA hE [1, 2] [0] rfl rfl (by decide) (by decide) (by decide) (wr := [(h0, .inr (15, [.ref st, .ref pg, .ref mc, .ref br, .ref la, .ref sp, .int 0, .int 0, .long 0]))]) (w2 := fun u => [(h0, .inr (15, [.ref st, .ref pg, .ref mc, .ref br, .ref la, .ref sp, .int 0, .int 0, .long 0])), (pg, .inr (11, [.ref pla, .ref plb, .ref plc])), (pla, .inr (3, [.int 0, .ref e0, .int 0]))]) (fun _ => rfl) 0 11 rfl rfl rfl hl.1 rfl (Nat.le_of_ble_eq_true rfl) rfl ⟨Nat.le_of_ble_eq_true rfl, Nat.le_of_ble_eq_true rfl⟩ dX11_ask_6 (fun r u H locs hq hP hD hS => ?_)
  have er : r = none := hq
  subst er
  have hP : va_P D vwCl [(h0, .inr (15, [.ref st, .ref pg, .ref mc, .ref br, .ref la, .ref sp, .int 0, .int 0, .long 0])), (pg, .inr (11, [.ref pla, .ref plb, .ref plc])), (pla, .inr (3, [.int 0, .ref e0, .int 0]))] H := hP
  have hD : va_D A [(h0, .inr (15, [.ref st, .ref pg, .ref mc, .ref br, .ref la, .ref sp, .int 0, .int 0, .long 0])), (pg, .inr (11, [.ref pla, .ref plb, .ref plc])), (pla, .inr (3, [.int 0, .ref e0, .int 0]))] := hD
  refine lv_astoreN (lv' := [(6, .null), (0, .ref h0), (1, .int p0), (2, .int p1), (3, .int p2), (4, .int p3), (5, .int p4)]) hx hb dX11_ask_9 hl (by decide) rfl (fun ls hl => ?_)
  refine lv_aloadN hx hb dX11_ask_11 (lv_at hl 0 rfl) ?_
  refine lv_ifnullN (tgt := 30) hx hb dX11_ask_13 (by decide) ?_
  exact ox_throw (names := ["java/lang/RuntimeException", "java/lang/Exception"]) (ik := 80) (ic := 82) (Ts := wsX11_ask) hno hlocks hx hb hl0 hown (by decide +kernel) (by decide +kernel) hts (by decide +kernel) (by decide +kernel) (by decide +kernel) (by decide +kernel) (by decide +kernel) (Or.inl rfl) hE hK (hP.sub [0, 1, 2] rfl) (hD.sub [0, 1, 2] (by decide) rfl) hS (by rw [hml]; exact hl.1) dX11_ask_30 dX11_ask_33 dX11_ask_34 dX11_ask_37 (Nat.le_of_ble_eq_true rfl) (Nat.le_of_ble_eq_true rfl) (Nat.le_of_ble_eq_true rfl) (Nat.le_of_ble_eq_true rfl) (Nat.le_of_ble_eq_true rfl) (Nat.le_of_ble_eq_true rfl)
set_option maxHeartbeats 4000000 in
set_option maxRecDepth 100000 in
theorem f_ending (l : Launch) (hl0 : l.stackTraces = false) (e0 : Nat) (D : va_G) (k : Nat → ClassId) (h0 : Nat) (st : Nat) (pg : Nat) (mc : Nat) (br : Nat) (la : Nat) (sp : Nat) : oCx l e0 D (oTy k) yX11_ending wsX11_ending ({ frames := 7, cells := 1, slots := 6, locals := 109 } : Room) [.ref h0] [(h0, .inr (15, [.ref st, .ref pg, .ref mc, .ref br, .ref la, .ref sp, .int 0, .int 0, .long 0]))] "java/util/NoSuchElementException" 1 6 := by
  refine ox_of (cc := cX11_ending) (maxL := 1) (ret := (some .char)) (by decide +kernel) rfl (Nat.le_of_ble_eq_true rfl) ?_
  intro p e s m below meth c A ls hno hx hb hml hr hts hown hlocks hin hA hK hP hD hS hE hl
  have hl : lv_has ls 1 [(0, .ref h0)] := hl
  refine lv_aload_n hx hb dX11_ending_0 rfl (lv_at hl 0 rfl) ?_
  refine ox_callV hx hb hml hown hts (f_refuseUnasked l hl0 e0 D k h0 st pg mc br la sp) (cwV 0 hts gX11_ending_X11_refuseUnasked rfl rfl rfl (by decide +kernel) ⟨Nat.le_of_ble_eq_true rfl, Nat.le_of_ble_eq_true rfl⟩) hK hP hD hS hA hE [0] [] rfl rfl (by decide) (by decide) (by decide) (wr := []) (w3 := [(h0, .inr (15, [.ref st, .ref pg, .ref mc, .ref br, .ref la, .ref sp, .int 0, .int 0, .long 0]))]) rfl 0 15 rfl rfl rfl hl.1 rfl (Nat.le_of_ble_eq_true rfl) rfl ⟨Nat.le_of_ble_eq_true rfl, Nat.le_of_ble_eq_true rfl⟩ dX11_ending_1 (fun ce q9 H locs hP hD hS hce hcv hcl => ?_)
  exact ox_out hno hlocks hK (hP.sub [0] rfl) (hD.sub [0] (by decide) rfl) hS hce hcv hcl (Nat.le_of_ble_eq_true rfl) (Nat.le_of_ble_eq_true rfl)
set_option maxHeartbeats 4000000 in
set_option maxRecDepth 100000 in
theorem f_answersByBreadth (l : Launch) (hl0 : l.stackTraces = false) (e0 : Nat) (D : va_G) (k : Nat → ClassId) (h0 : Nat) (st : Nat) (pg : Nat) (mc : Nat) (br : Nat) (la : Nat) (sp : Nat) : oCx l e0 D (oTy k) yX11_answersByBreadth wsX11_answersByBreadth ({ frames := 7, cells := 1, slots := 6, locals := 109 } : Room) [.ref h0] [(h0, .inr (15, [.ref st, .ref pg, .ref mc, .ref br, .ref la, .ref sp, .int 0, .int 0, .long 0]))] "java/util/NoSuchElementException" 1 6 := by
  refine ox_of (cc := cX11_answersByBreadth) (maxL := 1) (ret := (some .int)) (by decide +kernel) rfl (Nat.le_of_ble_eq_true rfl) ?_
  intro p e s m below meth c A ls hno hx hb hml hr hts hown hlocks hin hA hK hP hD hS hE hl
  have hl : lv_has ls 1 [(0, .ref h0)] := hl
  refine lv_aload_n hx hb dX11_answersByBreadth_0 rfl (lv_at hl 0 rfl) ?_
  refine ox_callV hx hb hml hown hts (f_refuseUnasked l hl0 e0 D k h0 st pg mc br la sp) (cwV 0 hts gX11_answersByBreadth_X11_refuseUnasked rfl rfl rfl (by decide +kernel) ⟨Nat.le_of_ble_eq_true rfl, Nat.le_of_ble_eq_true rfl⟩) hK hP hD hS hA hE [0] [] rfl rfl (by decide) (by decide) (by decide) (wr := []) (w3 := [(h0, .inr (15, [.ref st, .ref pg, .ref mc, .ref br, .ref la, .ref sp, .int 0, .int 0, .long 0]))]) rfl 0 15 rfl rfl rfl hl.1 rfl (Nat.le_of_ble_eq_true rfl) rfl ⟨Nat.le_of_ble_eq_true rfl, Nat.le_of_ble_eq_true rfl⟩ dX11_answersByBreadth_1 (fun ce q9 H locs hP hD hS hce hcv hcl => ?_)
  exact ox_out hno hlocks hK (hP.sub [0] rfl) (hD.sub [0] (by decide) rfl) hS hce hcv hcl (Nat.le_of_ble_eq_true rfl) (Nat.le_of_ble_eq_true rfl)
set_option maxHeartbeats 4000000 in
set_option maxRecDepth 100000 in
theorem f_steps (l : Launch) (hl0 : l.stackTraces = false) (e0 : Nat) (D : va_G) (k : Nat → ClassId) (h0 : Nat) (st : Nat) (pg : Nat) (mc : Nat) (br : Nat) (la : Nat) (sp : Nat) : oCx l e0 D (oTy k) yX11_steps wsX11_steps ({ frames := 7, cells := 1, slots := 6, locals := 109 } : Room) [.ref h0] [(h0, .inr (15, [.ref st, .ref pg, .ref mc, .ref br, .ref la, .ref sp, .int 0, .int 0, .long 0]))] "java/util/NoSuchElementException" 1 6 := by
  refine ox_of (cc := cX11_steps) (maxL := 1) (ret := (some .int)) (by decide +kernel) rfl (Nat.le_of_ble_eq_true rfl) ?_
  intro p e s m below meth c A ls hno hx hb hml hr hts hown hlocks hin hA hK hP hD hS hE hl
  have hl : lv_has ls 1 [(0, .ref h0)] := hl
  refine lv_aload_n hx hb dX11_steps_0 rfl (lv_at hl 0 rfl) ?_
  refine ox_callV hx hb hml hown hts (f_refuseUnasked l hl0 e0 D k h0 st pg mc br la sp) (cwV 0 hts gX11_steps_X11_refuseUnasked rfl rfl rfl (by decide +kernel) ⟨Nat.le_of_ble_eq_true rfl, Nat.le_of_ble_eq_true rfl⟩) hK hP hD hS hA hE [0] [] rfl rfl (by decide) (by decide) (by decide) (wr := []) (w3 := [(h0, .inr (15, [.ref st, .ref pg, .ref mc, .ref br, .ref la, .ref sp, .int 0, .int 0, .long 0]))]) rfl 0 15 rfl rfl rfl hl.1 rfl (Nat.le_of_ble_eq_true rfl) rfl ⟨Nat.le_of_ble_eq_true rfl, Nat.le_of_ble_eq_true rfl⟩ dX11_steps_1 (fun ce q9 H locs hP hD hS hce hcv hcl => ?_)
  exact ox_out hno hlocks hK (hP.sub [0] rfl) (hD.sub [0] (by decide) rfl) hS hce hcv hcl (Nat.le_of_ble_eq_true rfl) (Nat.le_of_ble_eq_true rfl)
set_option maxHeartbeats 4000000 in
set_option maxRecDepth 100000 in
theorem f_choicePoints (l : Launch) (hl0 : l.stackTraces = false) (e0 : Nat) (D : va_G) (k : Nat → ClassId) (h0 : Nat) (st : Nat) (pg : Nat) (mc : Nat) (br : Nat) (la : Nat) (sp : Nat) : oCx l e0 D (oTy k) yX11_choicePoints wsX11_choicePoints ({ frames := 7, cells := 1, slots := 6, locals := 109 } : Room) [.ref h0] [(h0, .inr (15, [.ref st, .ref pg, .ref mc, .ref br, .ref la, .ref sp, .int 0, .int 0, .long 0]))] "java/util/NoSuchElementException" 1 6 := by
  refine ox_of (cc := cX11_choicePoints) (maxL := 1) (ret := (some .int)) (by decide +kernel) rfl (Nat.le_of_ble_eq_true rfl) ?_
  intro p e s m below meth c A ls hno hx hb hml hr hts hown hlocks hin hA hK hP hD hS hE hl
  have hl : lv_has ls 1 [(0, .ref h0)] := hl
  refine lv_aload_n hx hb dX11_choicePoints_0 rfl (lv_at hl 0 rfl) ?_
  refine ox_callV hx hb hml hown hts (f_refuseUnasked l hl0 e0 D k h0 st pg mc br la sp) (cwV 0 hts gX11_choicePoints_X11_refuseUnasked rfl rfl rfl (by decide +kernel) ⟨Nat.le_of_ble_eq_true rfl, Nat.le_of_ble_eq_true rfl⟩) hK hP hD hS hA hE [0] [] rfl rfl (by decide) (by decide) (by decide) (wr := []) (w3 := [(h0, .inr (15, [.ref st, .ref pg, .ref mc, .ref br, .ref la, .ref sp, .int 0, .int 0, .long 0]))]) rfl 0 15 rfl rfl rfl hl.1 rfl (Nat.le_of_ble_eq_true rfl) rfl ⟨Nat.le_of_ble_eq_true rfl, Nat.le_of_ble_eq_true rfl⟩ dX11_choicePoints_1 (fun ce q9 H locs hP hD hS hce hcv hcl => ?_)
  exact ox_out hno hlocks hK (hP.sub [0] rfl) (hD.sub [0] (by decide) rfl) hS hce hcv hcl (Nat.le_of_ble_eq_true rfl) (Nat.le_of_ble_eq_true rfl)
set_option maxHeartbeats 4000000 in
set_option maxRecDepth 100000 in
theorem f_deepest (l : Launch) (hl0 : l.stackTraces = false) (e0 : Nat) (D : va_G) (k : Nat → ClassId) (h0 : Nat) (st : Nat) (pg : Nat) (mc : Nat) (br : Nat) (la : Nat) (sp : Nat) : oCx l e0 D (oTy k) yX11_deepest wsX11_deepest ({ frames := 7, cells := 1, slots := 6, locals := 109 } : Room) [.ref h0] [(h0, .inr (15, [.ref st, .ref pg, .ref mc, .ref br, .ref la, .ref sp, .int 0, .int 0, .long 0]))] "java/util/NoSuchElementException" 1 6 := by
  refine ox_of (cc := cX11_deepest) (maxL := 1) (ret := (some .int)) (by decide +kernel) rfl (Nat.le_of_ble_eq_true rfl) ?_
  intro p e s m below meth c A ls hno hx hb hml hr hts hown hlocks hin hA hK hP hD hS hE hl
  have hl : lv_has ls 1 [(0, .ref h0)] := hl
  refine lv_aload_n hx hb dX11_deepest_0 rfl (lv_at hl 0 rfl) ?_
  refine ox_callV hx hb hml hown hts (f_refuseUnasked l hl0 e0 D k h0 st pg mc br la sp) (cwV 0 hts gX11_deepest_X11_refuseUnasked rfl rfl rfl (by decide +kernel) ⟨Nat.le_of_ble_eq_true rfl, Nat.le_of_ble_eq_true rfl⟩) hK hP hD hS hA hE [0] [] rfl rfl (by decide) (by decide) (by decide) (wr := []) (w3 := [(h0, .inr (15, [.ref st, .ref pg, .ref mc, .ref br, .ref la, .ref sp, .int 0, .int 0, .long 0]))]) rfl 0 15 rfl rfl rfl hl.1 rfl (Nat.le_of_ble_eq_true rfl) rfl ⟨Nat.le_of_ble_eq_true rfl, Nat.le_of_ble_eq_true rfl⟩ dX11_deepest_1 (fun ce q9 H locs hP hD hS hce hcv hcl => ?_)
  exact ox_out hno hlocks hK (hP.sub [0] rfl) (hD.sub [0] (by decide) rfl) hS hce hcv hcl (Nat.le_of_ble_eq_true rfl) (Nat.le_of_ble_eq_true rfl)
set_option maxHeartbeats 4000000 in
set_option maxRecDepth 100000 in
theorem f_recorded (l : Launch) (hl0 : l.stackTraces = false) (e0 : Nat) (D : va_G) (k : Nat → ClassId) (h0 : Nat) (st : Nat) (pg : Nat) (mc : Nat) (br : Nat) (la : Nat) (sp : Nat) : oCx l e0 D (oTy k) yX11_recorded wsX11_recorded ({ frames := 7, cells := 1, slots := 6, locals := 109 } : Room) [.ref h0] [(h0, .inr (15, [.ref st, .ref pg, .ref mc, .ref br, .ref la, .ref sp, .int 0, .int 0, .long 0]))] "java/util/NoSuchElementException" 1 6 := by
  refine ox_of (cc := cX11_recorded) (maxL := 1) (ret := (some .int)) (by decide +kernel) rfl (Nat.le_of_ble_eq_true rfl) ?_
  intro p e s m below meth c A ls hno hx hb hml hr hts hown hlocks hin hA hK hP hD hS hE hl
  have hl : lv_has ls 1 [(0, .ref h0)] := hl
  refine lv_aload_n hx hb dX11_recorded_0 rfl (lv_at hl 0 rfl) ?_
  refine ox_callV hx hb hml hown hts (f_refuseUnasked l hl0 e0 D k h0 st pg mc br la sp) (cwV 0 hts gX11_recorded_X11_refuseUnasked rfl rfl rfl (by decide +kernel) ⟨Nat.le_of_ble_eq_true rfl, Nat.le_of_ble_eq_true rfl⟩) hK hP hD hS hA hE [0] [] rfl rfl (by decide) (by decide) (by decide) (wr := []) (w3 := [(h0, .inr (15, [.ref st, .ref pg, .ref mc, .ref br, .ref la, .ref sp, .int 0, .int 0, .long 0]))]) rfl 0 15 rfl rfl rfl hl.1 rfl (Nat.le_of_ble_eq_true rfl) rfl ⟨Nat.le_of_ble_eq_true rfl, Nat.le_of_ble_eq_true rfl⟩ dX11_recorded_1 (fun ce q9 H locs hP hD hS hce hcv hcl => ?_)
  exact ox_out hno hlocks hK (hP.sub [0] rfl) (hD.sub [0] (by decide) rfl) hS hce hcv hcl (Nat.le_of_ble_eq_true rfl) (Nat.le_of_ble_eq_true rfl)
set_option maxHeartbeats 4000000 in
set_option maxRecDepth 100000 in
theorem f_answerAt (l : Launch) (hl0 : l.stackTraces = false) (e0 : Nat) (D : va_G) (k : Nat → ClassId) (h0 : Nat) (p0 : Int32) (p1 : Int32) (st : Nat) (pg : Nat) (mc : Nat) (br : Nat) (la : Nat) (sp : Nat) : oCx l e0 D (oTy k) yX11_answerAt wsX11_answerAt ({ frames := 7, cells := 1, slots := 6, locals := 109 } : Room) [.ref h0, .int p0, .int p1] [(h0, .inr (15, [.ref st, .ref pg, .ref mc, .ref br, .ref la, .ref sp, .int 0, .int 0, .long 0]))] "java/util/NoSuchElementException" 1 6 := by
  refine ox_of (cc := cX11_answerAt) (maxL := 3) (ret := (some .int)) (by decide +kernel) rfl (Nat.le_of_ble_eq_true rfl) ?_
  intro p e s m below meth c A ls hno hx hb hml hr hts hown hlocks hin hA hK hP hD hS hE hl
  have hl : lv_has ls 3 [(0, .ref h0), (1, .int p0), (2, .int p1)] := hl
  refine lv_aload_n hx hb dX11_answerAt_0 rfl (lv_at hl 0 rfl) ?_
  refine ox_callV hx hb hml hown hts (f_refuseUnasked l hl0 e0 D k h0 st pg mc br la sp) (cwV 0 hts gX11_answerAt_X11_refuseUnasked rfl rfl rfl (by decide +kernel) ⟨Nat.le_of_ble_eq_true rfl, Nat.le_of_ble_eq_true rfl⟩) hK hP hD hS hA hE [0] [] rfl rfl (by decide) (by decide) (by decide) (wr := []) (w3 := [(h0, .inr (15, [.ref st, .ref pg, .ref mc, .ref br, .ref la, .ref sp, .int 0, .int 0, .long 0]))]) rfl 0 15 rfl rfl rfl hl.1 rfl (Nat.le_of_ble_eq_true rfl) rfl ⟨Nat.le_of_ble_eq_true rfl, Nat.le_of_ble_eq_true rfl⟩ dX11_answerAt_1 (fun ce q9 H locs hP hD hS hce hcv hcl => ?_)
  exact ox_out hno hlocks hK (hP.sub [0] rfl) (hD.sub [0] (by decide) rfl) hS hce hcv hcl (Nat.le_of_ble_eq_true rfl) (Nat.le_of_ble_eq_true rfl)
set_option maxHeartbeats 4000000 in
set_option maxRecDepth 100000 in
theorem f_multiplicity (l : Launch) (hl0 : l.stackTraces = false) (e0 : Nat) (D : va_G) (k : Nat → ClassId) (h0 : Nat) (p0 : Int32) (st : Nat) (pg : Nat) (mc : Nat) (br : Nat) (la : Nat) (sp : Nat) : oCx l e0 D (oTy k) yX11_multiplicity wsX11_multiplicity ({ frames := 7, cells := 1, slots := 6, locals := 109 } : Room) [.ref h0, .int p0] [(h0, .inr (15, [.ref st, .ref pg, .ref mc, .ref br, .ref la, .ref sp, .int 0, .int 0, .long 0]))] "java/util/NoSuchElementException" 1 6 := by
  refine ox_of (cc := cX11_multiplicity) (maxL := 2) (ret := (some .int)) (by decide +kernel) rfl (Nat.le_of_ble_eq_true rfl) ?_
  intro p e s m below meth c A ls hno hx hb hml hr hts hown hlocks hin hA hK hP hD hS hE hl
  have hl : lv_has ls 2 [(0, .ref h0), (1, .int p0)] := hl
  refine lv_aload_n hx hb dX11_multiplicity_0 rfl (lv_at hl 0 rfl) ?_
  refine ox_callV hx hb hml hown hts (f_refuseUnasked l hl0 e0 D k h0 st pg mc br la sp) (cwV 0 hts gX11_multiplicity_X11_refuseUnasked rfl rfl rfl (by decide +kernel) ⟨Nat.le_of_ble_eq_true rfl, Nat.le_of_ble_eq_true rfl⟩) hK hP hD hS hA hE [0] [] rfl rfl (by decide) (by decide) (by decide) (wr := []) (w3 := [(h0, .inr (15, [.ref st, .ref pg, .ref mc, .ref br, .ref la, .ref sp, .int 0, .int 0, .long 0]))]) rfl 0 15 rfl rfl rfl hl.1 rfl (Nat.le_of_ble_eq_true rfl) rfl ⟨Nat.le_of_ble_eq_true rfl, Nat.le_of_ble_eq_true rfl⟩ dX11_multiplicity_1 (fun ce q9 H locs hP hD hS hce hcv hcl => ?_)
  exact ox_out hno hlocks hK (hP.sub [0] rfl) (hD.sub [0] (by decide) rfl) hS hce hcv hcl (Nat.le_of_ble_eq_true rfl) (Nat.le_of_ble_eq_true rfl)
set_option maxHeartbeats 4000000 in
set_option maxRecDepth 100000 in
theorem f_recordAt (l : Launch) (hl0 : l.stackTraces = false) (e0 : Nat) (D : va_G) (k : Nat → ClassId) (h0 : Nat) (p0 : Int32) (st : Nat) (pg : Nat) (mc : Nat) (br : Nat) (la : Nat) (sp : Nat) : oCx l e0 D (oTy k) yX11_recordAt wsX11_recordAt ({ frames := 8, cells := 1, slots := 6, locals := 130 } : Room) [.ref h0, .int p0] [(h0, .inr (15, [.ref st, .ref pg, .ref mc, .ref br, .ref la, .ref sp, .int 0, .int 0, .long 0]))] "java/util/NoSuchElementException" 1 6 := by
  refine ox_of (cc := cX11_recordAt) (maxL := 2) (ret := (some .char)) (by decide +kernel) rfl (Nat.le_of_ble_eq_true rfl) ?_
  intro p e s m below meth c A ls hno hx hb hml hr hts hown hlocks hin hA hK hP hD hS hE hl
  have hl : lv_has ls 2 [(0, .ref h0), (1, .int p0)] := hl
  refine lv_aload_n hx hb dX11_recordAt_0 rfl (lv_at hl 0 rfl) ?_
  refine lv_iload_n hx hb dX11_recordAt_1 rfl (lv_at hl 1 rfl) ?_
  refine ox_callV hx hb hml hown hts (f_refuseMissingNote l hl0 e0 D k h0 p0 st pg mc br la sp) (cwV 1 hts gX11_recordAt_X11_refuseMissingNote rfl rfl rfl (by decide +kernel) ⟨Nat.le_of_ble_eq_true rfl, Nat.le_of_ble_eq_true rfl⟩) hK hP hD hS hA hE [0] [] rfl rfl (by decide) (by decide) (by decide) (wr := []) (w3 := [(h0, .inr (15, [.ref st, .ref pg, .ref mc, .ref br, .ref la, .ref sp, .int 0, .int 0, .long 0]))]) rfl 0 15 rfl rfl rfl hl.1 rfl (Nat.le_of_ble_eq_true rfl) rfl ⟨Nat.le_of_ble_eq_true rfl, Nat.le_of_ble_eq_true rfl⟩ dX11_recordAt_2 (fun ce q9 H locs hP hD hS hce hcv hcl => ?_)
  exact ox_out hno hlocks hK (hP.sub [0] rfl) (hD.sub [0] (by decide) rfl) hS hce hcv hcl (Nat.le_of_ble_eq_true rfl) (Nat.le_of_ble_eq_true rfl)
set_option maxHeartbeats 4000000 in
set_option maxRecDepth 100000 in
theorem f_whereAt (l : Launch) (hl0 : l.stackTraces = false) (e0 : Nat) (D : va_G) (k : Nat → ClassId) (h0 : Nat) (p0 : Int32) (st : Nat) (pg : Nat) (mc : Nat) (br : Nat) (la : Nat) (sp : Nat) : oCx l e0 D (oTy k) yX11_whereAt wsX11_whereAt ({ frames := 8, cells := 1, slots := 6, locals := 130 } : Room) [.ref h0, .int p0] [(h0, .inr (15, [.ref st, .ref pg, .ref mc, .ref br, .ref la, .ref sp, .int 0, .int 0, .long 0]))] "java/util/NoSuchElementException" 1 6 := by
  refine ox_of (cc := cX11_whereAt) (maxL := 2) (ret := (some .int)) (by decide +kernel) rfl (Nat.le_of_ble_eq_true rfl) ?_
  intro p e s m below meth c A ls hno hx hb hml hr hts hown hlocks hin hA hK hP hD hS hE hl
  have hl : lv_has ls 2 [(0, .ref h0), (1, .int p0)] := hl
  refine lv_aload_n hx hb dX11_whereAt_0 rfl (lv_at hl 0 rfl) ?_
  refine lv_iload_n hx hb dX11_whereAt_1 rfl (lv_at hl 1 rfl) ?_
  refine ox_callV hx hb hml hown hts (f_refuseMissingNote l hl0 e0 D k h0 p0 st pg mc br la sp) (cwV 1 hts gX11_whereAt_X11_refuseMissingNote rfl rfl rfl (by decide +kernel) ⟨Nat.le_of_ble_eq_true rfl, Nat.le_of_ble_eq_true rfl⟩) hK hP hD hS hA hE [0] [] rfl rfl (by decide) (by decide) (by decide) (wr := []) (w3 := [(h0, .inr (15, [.ref st, .ref pg, .ref mc, .ref br, .ref la, .ref sp, .int 0, .int 0, .long 0]))]) rfl 0 15 rfl rfl rfl hl.1 rfl (Nat.le_of_ble_eq_true rfl) rfl ⟨Nat.le_of_ble_eq_true rfl, Nat.le_of_ble_eq_true rfl⟩ dX11_whereAt_2 (fun ce q9 H locs hP hD hS hce hcv hcl => ?_)
  exact ox_out hno hlocks hK (hP.sub [0] rfl) (hD.sub [0] (by decide) rfl) hS hce hcv hcl (Nat.le_of_ble_eq_true rfl) (Nat.le_of_ble_eq_true rfl)
theorem iw_X11_terms_X11 : ∀ w ∈ wsX110, w ∈ wsX11_terms := by decide +kernel
set_option maxHeartbeats 4000000 in
set_option maxRecDepth 100000 in
theorem f_terms (l : Launch) (e0 : Nat) (D : va_G) (k : Nat → ClassId) (h0 : Nat) (st : Nat) (pg : Nat) (mc : Nat) (br : Nat) (la : Nat) (sp : Nat) (sta : Nat) (stb : Nat) (stc : Nat) (std : Nat) (sqb : Nat) : oCi l e0 D (oTy k) yX11_terms wsX11_terms ({ frames := 2, cells := 0, slots := 0, locals := 40 } : Room) [.ref h0] [(h0, .inr (15, [.ref st, .ref pg, .ref mc, .ref br, .ref la, .ref sp, .int 0, .int 0, .long 0])), (st, .inr (14, [.int 0, .ref sta, .ref stb, .ref stc, .ref std])), (stb, .inr (13, [.int 4, .ref sqb, .int 0]))] (S := Unit) (fun (r : Int32) (u : Unit) => r = 0) (fun u => [(h0, .inr (15, [.ref st, .ref pg, .ref mc, .ref br, .ref la, .ref sp, .int 0, .int 0, .long 0])), (st, .inr (14, [.int 0, .ref sta, .ref stb, .ref stc, .ref std])), (stb, .inr (13, [.int 4, .ref sqb, .int 0]))]) 0 0 := by
  refine oi_of (cc := cX11_terms) (maxL := 1) (ret := (some .int)) (by decide +kernel) rfl (Nat.le_of_ble_eq_true rfl) ?_
  intro p e s m below meth c A ls hx hb hml hr hts hown hlocks hin hA hK hP hD hS hE hl
  have hl : lv_has ls 1 [(0, .ref h0)] := hl
  refine lv_aload_n hx hb dX11_terms_0 rfl (lv_at hl 0 rfl) ?_
  refine va_get (D := D) (ci := 15) (v := .ref st) (C := RX11) (T := TX11) (N := 9) hx hb hts iw_X11_terms_X11 hown hK hP 0 rfl rfl 0 (by decide) (hts (.fieldLink RX11 10 "ModedMill" "store" "LModedMill$Terms;") (by decide +kernel)) (fun _ h9 => h9) rfl dX11_terms_1 ?_
  refine oi_callV hx hb hml hown hts (f_termCount l e0 D k st sta stb stc std sqb) (cwV 0 hts gX11_terms_X10_termCount rfl rfl rfl (by decide +kernel) ⟨Nat.le_of_ble_eq_true rfl, Nat.le_of_ble_eq_true rfl⟩) hK hP hD hS hA hE [1, 2] [0] rfl rfl (by decide) (by decide) (by decide) (wr := [(h0, .inr (15, [.ref st, .ref pg, .ref mc, .ref br, .ref la, .ref sp, .int 0, .int 0, .long 0]))]) (w2 := fun u => [(h0, .inr (15, [.ref st, .ref pg, .ref mc, .ref br, .ref la, .ref sp, .int 0, .int 0, .long 0])), (st, .inr (14, [.int 0, .ref sta, .ref stb, .ref stc, .ref std])), (stb, .inr (13, [.int 4, .ref sqb, .int 0]))]) (fun _ => rfl) 0 14 rfl rfl rfl hl.1 rfl (Nat.le_of_ble_eq_true rfl) rfl ⟨Nat.le_of_ble_eq_true rfl, Nat.le_of_ble_eq_true rfl⟩ dX11_terms_4 (fun r u H locs hq hP hD hS => ?_)
  have er : r = 0 := hq
  subst er
  have hP : va_P D vwCl [(h0, .inr (15, [.ref st, .ref pg, .ref mc, .ref br, .ref la, .ref sp, .int 0, .int 0, .long 0])), (st, .inr (14, [.int 0, .ref sta, .ref stb, .ref stc, .ref std])), (stb, .inr (13, [.int 4, .ref sqb, .int 0]))] H := hP
  have hD : va_D A [(h0, .inr (15, [.ref st, .ref pg, .ref mc, .ref br, .ref la, .ref sp, .int 0, .int 0, .long 0])), (st, .inr (14, [.int 0, .ref sta, .ref stb, .ref stc, .ref std])), (stb, .inr (13, [.int 4, .ref sqb, .int 0]))] := hD
  exact oi_ret hx hb hr hlocks rfl () (rfl) hK (hP.sub [0, 1, 2] rfl) (hD.sub [0, 1, 2] (by decide) rfl) hS (Nat.le_of_ble_eq_true rfl) (Nat.le_of_ble_eq_true rfl) dX11_terms_7
set_option maxHeartbeats 4000000 in
set_option maxRecDepth 100000 in
theorem f_onceShare (l : Launch) (hl0 : l.stackTraces = false) (e0 : Nat) (D : va_G) (k : Nat → ClassId) (h0 : Nat) (st : Nat) (pg : Nat) (mc : Nat) (br : Nat) (la : Nat) (sp : Nat) : oCx l e0 D (oTy k) yX11_onceShare wsX11_onceShare ({ frames := 7, cells := 1, slots := 6, locals := 109 } : Room) [.ref h0] [(h0, .inr (15, [.ref st, .ref pg, .ref mc, .ref br, .ref la, .ref sp, .int 0, .int 0, .long 0]))] "java/lang/IllegalStateException" 1 6 := by
  refine ox_of (cc := cX11_onceShare) (maxL := 2) (ret := (some .float)) (by decide +kernel) rfl (Nat.le_of_ble_eq_true rfl) ?_
  intro p e s m below meth c A ls hno hx hb hml hr hts hown hlocks hin hA hK hP hD hS hE hl
  have hl : lv_has ls 2 [(0, .ref h0)] := hl
  refine lv_aload_n hx hb dX11_onceShare_0 rfl (lv_at hl 0 rfl) ?_
  refine ox_callV hx hb hml hown hts (f_refuseUncompiled l hl0 e0 D k h0 st pg mc br la sp) (cwV 0 hts gX11_onceShare_X11_refuseUncompiled rfl rfl rfl (by decide +kernel) ⟨Nat.le_of_ble_eq_true rfl, Nat.le_of_ble_eq_true rfl⟩) hK hP hD hS hA hE [0] [] rfl rfl (by decide) (by decide) (by decide) (wr := []) (w3 := [(h0, .inr (15, [.ref st, .ref pg, .ref mc, .ref br, .ref la, .ref sp, .int 0, .int 0, .long 0]))]) rfl 0 15 rfl rfl rfl hl.1 rfl (Nat.le_of_ble_eq_true rfl) rfl ⟨Nat.le_of_ble_eq_true rfl, Nat.le_of_ble_eq_true rfl⟩ dX11_onceShare_1 (fun ce q9 H locs hP hD hS hce hcv hcl => ?_)
  exact ox_out hno hlocks hK (hP.sub [0] rfl) (hD.sub [0] (by decide) rfl) hS hce hcv hcl (Nat.le_of_ble_eq_true rfl) (Nat.le_of_ble_eq_true rfl)
theorem iw_X11_meanSteps_X11 : ∀ w ∈ wsX110, w ∈ wsX11_meanSteps := by decide +kernel
set_option maxHeartbeats 4000000 in
set_option maxRecDepth 100000 in
theorem f_meanSteps (l : Launch) (hl0 : l.stackTraces = false) (e0 : Nat) (D : va_G) (k : Nat → ClassId) (h0 : Nat) (st : Nat) (pg : Nat) (mc : Nat) (br : Nat) (la : Nat) (sp : Nat) : oCx l e0 D (oTy k) yX11_meanSteps wsX11_meanSteps ({ frames := 6, cells := 1, slots := 6, locals := 89 } : Room) [.ref h0] [(h0, .inr (15, [.ref st, .ref pg, .ref mc, .ref br, .ref la, .ref sp, .int 0, .int 0, .long 0]))] "java/lang/ArithmeticException" 1 6 := by
  refine ox_of (cc := cX11_meanSteps) (maxL := 1) (ret := (some .double)) (by decide +kernel) rfl (Nat.le_of_ble_eq_true rfl) ?_
  intro p e s m below meth c A ls hno hx hb hml hr hts hown hlocks hin hA hK hP hD hS hE hl
  have hl : lv_has ls 1 [(0, .ref h0)] := hl
  refine lv_aload_n hx hb dX11_meanSteps_0 rfl (lv_at hl 0 rfl) ?_
  refine va_get (D := D) (ci := 15) (v := .int 0) (C := RX11) (T := TX11) (N := 9) hx hb hts iw_X11_meanSteps_X11 hown hK hP 0 rfl rfl 7 (by decide) (hts (.fieldLink RX11 55 "ModedMill" "asked" "I") (by decide +kernel)) (fun _ h9 => h9) rfl dX11_meanSteps_1 ?_
  refine lv_if_ne (tgt := 15) hx hb dX11_meanSteps_4 (by decide) (fun c_4 => absurd c_4 (by decide)) (fun c_4 => ?_)
  exact ox_throw (names := ["java/lang/RuntimeException", "java/lang/Exception"]) (ik := 318) (ic := 320) (Ts := wsX11_meanSteps) hno hlocks hx hb hl0 hown (by decide +kernel) (by decide +kernel) hts (by decide +kernel) (by decide +kernel) (by decide +kernel) (by decide +kernel) (by decide +kernel) (Or.inr (Or.inr (Or.inr (Or.inr (Or.inr rfl))))) hE hK (hP.sub [0] rfl) (hD.sub [0] (by decide) rfl) hS (by rw [hml]; exact hl.1) dX11_meanSteps_7 dX11_meanSteps_10 dX11_meanSteps_11 dX11_meanSteps_14 (Nat.le_of_ble_eq_true rfl) (Nat.le_of_ble_eq_true rfl) (Nat.le_of_ble_eq_true rfl) (Nat.le_of_ble_eq_true rfl) (Nat.le_of_ble_eq_true rfl) (Nat.le_of_ble_eq_true rfl)
theorem iw_X7_spreadFaults_X7 : ∀ w ∈ wsX70, w ∈ wsX7_spreadFaults := by decide +kernel
set_option maxHeartbeats 4000000 in
set_option maxRecDepth 100000 in
theorem f_spreadFaults (l : Launch) (e0 : Nat) (D : va_G) (k : Nat → ClassId) (pg : Nat) (pla : Nat) (plb : Nat) (plc : Nat) : oCi l e0 D (oTy k) yX7_spreadFaults wsX7_spreadFaults ({ frames := 1, cells := 0, slots := 0, locals := 20 } : Room) [.ref pg] [(pg, .inr (11, [.ref pla, .ref plb, .ref plc])), (plb, .inr (3, [.int 0, .ref e0, .int 0]))] (S := Unit) (fun (r : Int32) (u : Unit) => r = 0) (fun u => [(pg, .inr (11, [.ref pla, .ref plb, .ref plc])), (plb, .inr (3, [.int 0, .ref e0, .int 0]))]) 0 0 := by
  refine oi_of (cc := cX7_spreadFaults) (maxL := 4) (ret := (some .boolean)) (by decide +kernel) rfl (Nat.le_of_ble_eq_true rfl) ?_
  intro p e s m below meth c A ls hx hb hml hr hts hown hlocks hin hA hK hP hD hS hE hl
  have hl : lv_has ls 4 [(0, .ref pg)] := hl
  refine lv_iconst (v := 0) hx hb dX7_spreadFaults_0 (by decide) ?_
  refine lv_istore_n (lv' := [(1, .int 0), (0, .ref pg)]) hx hb dX7_spreadFaults_1 rfl hl (by decide) rfl (fun ls hl => ?_)
  refine lv_iconst (v := 0) hx hb dX7_spreadFaults_2 (by decide) ?_
  refine lv_istore_n (lv' := [(2, .int 0), (1, .int 0), (0, .ref pg)]) hx hb dX7_spreadFaults_3 rfl hl (by decide) rfl (fun ls hl => ?_)
  refine lv_iload_n hx hb dX7_spreadFaults_4 rfl (lv_at hl 0 rfl) ?_
  refine lv_aload_n hx hb dX7_spreadFaults_5 rfl (lv_at hl 2 rfl) ?_
  refine va_get (D := D) (ci := 11) (v := .ref plb) (C := RX7) (T := TX7) (N := 3) hx hb hts iw_X7_spreadFaults_X7 hown hK hP 0 rfl rfl 1 (by decide) (hts (.fieldLink RX7 18 "ModedMill$Program" "modes" "Ljava/util/ArrayList;") (by decide +kernel)) (fun _ h9 => h9) rfl dX7_spreadFaults_6 ?_
  refine oi_callV hx hb hml hown hts (f_size l e0 D k plb 0 e0 0) (cwV 0 hts gX7_spreadFaults_Jx4a65c_size_8abf5 rfl rfl rfl (by decide +kernel) ⟨Nat.le_of_ble_eq_true rfl, Nat.le_of_ble_eq_true rfl⟩) hK hP hD hS hA hE [1] [0] rfl rfl (by decide) (by decide) (by decide) (wr := [(pg, .inr (11, [.ref pla, .ref plb, .ref plc]))]) (w2 := fun u => [(pg, .inr (11, [.ref pla, .ref plb, .ref plc])), (plb, .inr (3, [.int 0, .ref e0, .int 0]))]) (fun _ => rfl) 0 3 rfl rfl rfl hl.1 rfl (Nat.le_of_ble_eq_true rfl) rfl ⟨Nat.le_of_ble_eq_true rfl, Nat.le_of_ble_eq_true rfl⟩ dX7_spreadFaults_9 (fun r u H locs hq hP hD hS => ?_)
  have er : r = 0 := hq
  subst er
  have hP : va_P D vwCl [(pg, .inr (11, [.ref pla, .ref plb, .ref plc])), (plb, .inr (3, [.int 0, .ref e0, .int 0]))] H := hP
  have hD : va_D A [(pg, .inr (11, [.ref pla, .ref plb, .ref plc])), (plb, .inr (3, [.int 0, .ref e0, .int 0]))] := hD
  refine lv_icmp_ge (tgt := 54) hx hb dX7_spreadFaults_12 (by decide) (fun c_12 => ?_) (fun c_12 => absurd c_12 (by decide))
  refine lv_iload_n hx hb dX7_spreadFaults_54 rfl (lv_at hl 1 rfl) ?_
  exact oi_ret hx hb hr hlocks (by decide +kernel) () (rfl) hK (hP.sub [0, 1] rfl) (hD.sub [0, 1] (by decide) rfl) hS (Nat.le_of_ble_eq_true rfl) (Nat.le_of_ble_eq_true rfl) dX7_spreadFaults_55
theorem iw_X7_spreadFound_X7 : ∀ w ∈ wsX70, w ∈ wsX7_spreadFound := by decide +kernel
set_option maxHeartbeats 4000000 in
set_option maxRecDepth 100000 in
theorem f_spreadFound (l : Launch) (e0 : Nat) (D : va_G) (k : Nat → ClassId) (pg : Nat) (st9 : Nat) (pla : Nat) (plb : Nat) (plc : Nat) : oCi l e0 D (oTy k) yX7_spreadFound wsX7_spreadFound ({ frames := 1, cells := 0, slots := 0, locals := 20 } : Room) [.ref pg, .ref st9] [(pg, .inr (11, [.ref pla, .ref plb, .ref plc])), (plb, .inr (3, [.int 0, .ref e0, .int 0]))] (S := Unit) (fun (r : Int32) (u : Unit) => r = 0) (fun u => [(pg, .inr (11, [.ref pla, .ref plb, .ref plc])), (plb, .inr (3, [.int 0, .ref e0, .int 0]))]) 0 0 := by
  refine oi_of (cc := cX7_spreadFound) (maxL := 7) (ret := (some .boolean)) (by decide +kernel) rfl (Nat.le_of_ble_eq_true rfl) ?_
  intro p e s m below meth c A ls hx hb hml hr hts hown hlocks hin hA hK hP hD hS hE hl
  have hl : lv_has ls 7 [(0, .ref pg), (1, .ref st9)] := hl
  refine lv_iconst (v := 0) hx hb dX7_spreadFound_0 (by decide) ?_
  refine lv_istore_n (lv' := [(2, .int 0), (0, .ref pg), (1, .ref st9)]) hx hb dX7_spreadFound_1 rfl hl (by decide) rfl (fun ls hl => ?_)
  refine lv_iconst (v := 0) hx hb dX7_spreadFound_2 (by decide) ?_
  refine lv_istore_n (lv' := [(3, .int 0), (2, .int 0), (0, .ref pg), (1, .ref st9)]) hx hb dX7_spreadFound_3 rfl hl (by decide) rfl (fun ls hl => ?_)
  refine lv_iload_n hx hb dX7_spreadFound_4 rfl (lv_at hl 0 rfl) ?_
  refine lv_aload_n hx hb dX7_spreadFound_5 rfl (lv_at hl 2 rfl) ?_
  refine va_get (D := D) (ci := 11) (v := .ref plb) (C := RX7) (T := TX7) (N := 3) hx hb hts iw_X7_spreadFound_X7 hown hK hP 0 rfl rfl 1 (by decide) (hts (.fieldLink RX7 18 "ModedMill$Program" "modes" "Ljava/util/ArrayList;") (by decide +kernel)) (fun _ h9 => h9) rfl dX7_spreadFound_6 ?_
  refine oi_callV hx hb hml hown hts (f_size l e0 D k plb 0 e0 0) (cwV 0 hts gX7_spreadFound_Jx4a65c_size_8abf5 rfl rfl rfl (by decide +kernel) ⟨Nat.le_of_ble_eq_true rfl, Nat.le_of_ble_eq_true rfl⟩) hK hP hD hS hA hE [1] [0] rfl rfl (by decide) (by decide) (by decide) (wr := [(pg, .inr (11, [.ref pla, .ref plb, .ref plc]))]) (w2 := fun u => [(pg, .inr (11, [.ref pla, .ref plb, .ref plc])), (plb, .inr (3, [.int 0, .ref e0, .int 0]))]) (fun _ => rfl) 0 3 rfl rfl rfl hl.1 rfl (Nat.le_of_ble_eq_true rfl) rfl ⟨Nat.le_of_ble_eq_true rfl, Nat.le_of_ble_eq_true rfl⟩ dX7_spreadFound_9 (fun r u H locs hq hP hD hS => ?_)
  have er : r = 0 := hq
  subst er
  have hP : va_P D vwCl [(pg, .inr (11, [.ref pla, .ref plb, .ref plc])), (plb, .inr (3, [.int 0, .ref e0, .int 0]))] H := hP
  have hD : va_D A [(pg, .inr (11, [.ref pla, .ref plb, .ref plc])), (plb, .inr (3, [.int 0, .ref e0, .int 0]))] := hD
  refine lv_icmp_ge (tgt := 133) hx hb dX7_spreadFound_12 (by decide) (fun c_12 => ?_) (fun c_12 => absurd c_12 (by decide))
  refine lv_iload_n hx hb dX7_spreadFound_133 rfl (lv_at hl 1 rfl) ?_
  exact oi_ret hx hb hr hlocks (by decide +kernel) () (rfl) hK (hP.sub [0, 1] rfl) (hD.sub [0, 1] (by decide) rfl) hS (Nat.le_of_ble_eq_true rfl) (Nat.le_of_ble_eq_true rfl) dX7_spreadFound_134
theorem iw_X7_faultCount_X7 : ∀ w ∈ wsX70, w ∈ wsX7_faultCount := by decide +kernel
set_option maxHeartbeats 4000000 in
set_option maxRecDepth 100000 in
theorem f_faultCount (l : Launch) (e0 : Nat) (D : va_G) (k : Nat → ClassId) (pg : Nat) (pla : Nat) (plb : Nat) (plc : Nat) : oCi l e0 D (oTy k) yX7_faultCount wsX7_faultCount ({ frames := 1, cells := 0, slots := 0, locals := 20 } : Room) [.ref pg] [(pg, .inr (11, [.ref pla, .ref plb, .ref plc])), (plb, .inr (3, [.int 0, .ref e0, .int 0]))] (S := Unit) (fun (r : Int32) (u : Unit) => r = 0) (fun u => [(pg, .inr (11, [.ref pla, .ref plb, .ref plc])), (plb, .inr (3, [.int 0, .ref e0, .int 0]))]) 0 0 := by
  refine oi_of (cc := cX7_faultCount) (maxL := 3) (ret := (some .int)) (by decide +kernel) rfl (Nat.le_of_ble_eq_true rfl) ?_
  intro p e s m below meth c A ls hx hb hml hr hts hown hlocks hin hA hK hP hD hS hE hl
  have hl : lv_has ls 3 [(0, .ref pg)] := hl
  refine lv_iconst (v := 0) hx hb dX7_faultCount_0 (by decide) ?_
  refine lv_istore_n (lv' := [(1, .int 0), (0, .ref pg)]) hx hb dX7_faultCount_1 rfl hl (by decide) rfl (fun ls hl => ?_)
  refine lv_iconst (v := 0) hx hb dX7_faultCount_2 (by decide) ?_
  refine lv_istore_n (lv' := [(2, .int 0), (1, .int 0), (0, .ref pg)]) hx hb dX7_faultCount_3 rfl hl (by decide) rfl (fun ls hl => ?_)
  refine lv_iload_n hx hb dX7_faultCount_4 rfl (lv_at hl 0 rfl) ?_
  refine lv_aload_n hx hb dX7_faultCount_5 rfl (lv_at hl 2 rfl) ?_
  refine va_get (D := D) (ci := 11) (v := .ref plb) (C := RX7) (T := TX7) (N := 3) hx hb hts iw_X7_faultCount_X7 hown hK hP 0 rfl rfl 1 (by decide) (hts (.fieldLink RX7 18 "ModedMill$Program" "modes" "Ljava/util/ArrayList;") (by decide +kernel)) (fun _ h9 => h9) rfl dX7_faultCount_6 ?_
  refine oi_callV hx hb hml hown hts (f_size l e0 D k plb 0 e0 0) (cwV 0 hts gX7_faultCount_Jx4a65c_size_8abf5 rfl rfl rfl (by decide +kernel) ⟨Nat.le_of_ble_eq_true rfl, Nat.le_of_ble_eq_true rfl⟩) hK hP hD hS hA hE [1] [0] rfl rfl (by decide) (by decide) (by decide) (wr := [(pg, .inr (11, [.ref pla, .ref plb, .ref plc]))]) (w2 := fun u => [(pg, .inr (11, [.ref pla, .ref plb, .ref plc])), (plb, .inr (3, [.int 0, .ref e0, .int 0]))]) (fun _ => rfl) 0 3 rfl rfl rfl hl.1 rfl (Nat.le_of_ble_eq_true rfl) rfl ⟨Nat.le_of_ble_eq_true rfl, Nat.le_of_ble_eq_true rfl⟩ dX7_faultCount_9 (fun r u H locs hq hP hD hS => ?_)
  have er : r = 0 := hq
  subst er
  have hP : va_P D vwCl [(pg, .inr (11, [.ref pla, .ref plb, .ref plc])), (plb, .inr (3, [.int 0, .ref e0, .int 0]))] H := hP
  have hD : va_D A [(pg, .inr (11, [.ref pla, .ref plb, .ref plc])), (plb, .inr (3, [.int 0, .ref e0, .int 0]))] := hD
  refine lv_icmp_ge (tgt := 48) hx hb dX7_faultCount_12 (by decide) (fun c_12 => ?_) (fun c_12 => absurd c_12 (by decide))
  refine lv_iload_n hx hb dX7_faultCount_48 rfl (lv_at hl 1 rfl) ?_
  exact oi_ret hx hb hr hlocks rfl () (rfl) hK (hP.sub [0, 1] rfl) (hD.sub [0, 1] (by decide) rfl) hS (Nat.le_of_ble_eq_true rfl) (Nat.le_of_ble_eq_true rfl) dX7_faultCount_49
theorem iw_X7_analyse_X7 : ∀ w ∈ wsX70, w ∈ wsX7_analyse := by decide +kernel
set_option maxHeartbeats 4000000 in
set_option maxRecDepth 100000 in
theorem f_analyse (l : Launch) (e0 : Nat) (D : va_G) (k : Nat → ClassId) (pg : Nat) (st9 : Nat) (pla : Nat) (plb : Nat) (plc : Nat) : oCv l e0 D (oTy k) yX7_analyse wsX7_analyse ({ frames := 2, cells := 0, slots := 0, locals := 46 } : Room) [.ref pg, .ref st9] [(pg, .inr (11, [.ref pla, .ref plb, .ref plc])), (plb, .inr (3, [.int 0, .ref e0, .int 0]))] (S := Unit) (fun (u : Unit) => True) (fun u => [(pg, .inr (11, [.ref pla, .ref plb, .ref plc])), (plb, .inr (3, [.int 0, .ref e0, .int 0]))]) 0 0 := by
  refine ov_of (cc := cX7_analyse) (maxL := 4) (ret := none) (by decide +kernel) rfl (Nat.le_of_ble_eq_true rfl) ?_
  intro p e s m below meth c A ls hx hb hml hr hts hown hlocks hin hA hK hP hD hS hE hl
  have hl : lv_has ls 4 [(0, .ref pg), (1, .ref st9)] := hl
  refine lv_iconst (v := 0) hx hb dX7_analyse_0 (by decide) ?_
  refine lv_istore_n (lv' := [(2, .int 0), (0, .ref pg), (1, .ref st9)]) hx hb dX7_analyse_1 rfl hl (by decide) rfl (fun ls hl => ?_)
  refine lv_iload_n hx hb dX7_analyse_2 rfl (lv_at hl 0 rfl) ?_
  refine lv_aload_n hx hb dX7_analyse_3 rfl (lv_at hl 1 rfl) ?_
  refine va_get (D := D) (ci := 11) (v := .ref plb) (C := RX7) (T := TX7) (N := 3) hx hb hts iw_X7_analyse_X7 hown hK hP 0 rfl rfl 1 (by decide) (hts (.fieldLink RX7 18 "ModedMill$Program" "modes" "Ljava/util/ArrayList;") (by decide +kernel)) (fun _ h9 => h9) rfl dX7_analyse_4 ?_
  refine oi_callV hx hb hml hown hts (f_size l e0 D k plb 0 e0 0) (cwV 0 hts gX7_analyse_Jx4a65c_size_8abf5 rfl rfl rfl (by decide +kernel) ⟨Nat.le_of_ble_eq_true rfl, Nat.le_of_ble_eq_true rfl⟩) hK hP hD hS hA hE [1] [0] rfl rfl (by decide) (by decide) (by decide) (wr := [(pg, .inr (11, [.ref pla, .ref plb, .ref plc]))]) (w2 := fun u => [(pg, .inr (11, [.ref pla, .ref plb, .ref plc])), (plb, .inr (3, [.int 0, .ref e0, .int 0]))]) (fun _ => rfl) 0 3 rfl rfl rfl hl.1 rfl (Nat.le_of_ble_eq_true rfl) rfl ⟨Nat.le_of_ble_eq_true rfl, Nat.le_of_ble_eq_true rfl⟩ dX7_analyse_7 (fun r u H locs hq hP hD hS => ?_)
  have er : r = 0 := hq
  subst er
  have hP : va_P D vwCl [(pg, .inr (11, [.ref pla, .ref plb, .ref plc])), (plb, .inr (3, [.int 0, .ref e0, .int 0]))] H := hP
  have hD : va_D A [(pg, .inr (11, [.ref pla, .ref plb, .ref plc])), (plb, .inr (3, [.int 0, .ref e0, .int 0]))] := hD
  refine lv_icmp_ge (tgt := 82) hx hb dX7_analyse_10 (by decide) (fun c_10 => ?_) (fun c_10 => absurd c_10 (by decide))
  refine lv_iconst (v := 1) hx hb dX7_analyse_82 (by decide) ?_
  refine lv_istore_n (lv' := [(2, .int 1), (0, .ref pg), (1, .ref st9)]) hx hb dX7_analyse_83 rfl hl (by decide) rfl (fun ls hl => ?_)
  refine lv_iconst (v := 0) hx hb dX7_analyse_84 (by decide) ?_
  refine lv_istore_n (lv' := [(3, .int 0), (2, .int 1), (0, .ref pg), (1, .ref st9)]) hx hb dX7_analyse_85 rfl hl (by decide) rfl (fun ls hl => ?_)
  refine lv_iload_n hx hb dX7_analyse_86 rfl (lv_at hl 0 rfl) ?_
  refine lv_aload_n hx hb dX7_analyse_87 rfl (lv_at hl 2 rfl) ?_
  refine va_get (D := D) (ci := 11) (v := .ref plb) (C := RX7) (T := TX7) (N := 3) hx hb hts iw_X7_analyse_X7 hown hK hP 0 rfl rfl 1 (by decide) (hts (.fieldLink RX7 18 "ModedMill$Program" "modes" "Ljava/util/ArrayList;") (by decide +kernel)) (fun _ h9 => h9) rfl dX7_analyse_88 ?_
  refine oi_callV hx hb hml hown hts (f_size l e0 D k plb 0 e0 0) (cwV 0 hts gX7_analyse_Jx4a65c_size_8abf5 rfl rfl rfl (by decide +kernel) ⟨Nat.le_of_ble_eq_true rfl, Nat.le_of_ble_eq_true rfl⟩) hK hP hD hS hA hE [1] [0] rfl rfl (by decide) (by decide) (by decide) (wr := [(pg, .inr (11, [.ref pla, .ref plb, .ref plc]))]) (w2 := fun u => [(pg, .inr (11, [.ref pla, .ref plb, .ref plc])), (plb, .inr (3, [.int 0, .ref e0, .int 0]))]) (fun _ => rfl) 0 3 rfl rfl rfl hl.1 rfl (Nat.le_of_ble_eq_true rfl) rfl ⟨Nat.le_of_ble_eq_true rfl, Nat.le_of_ble_eq_true rfl⟩ dX7_analyse_91 (fun r u H locs hq hP hD hS => ?_)
  have er : r = 0 := hq
  subst er
  have hP : va_P D vwCl [(pg, .inr (11, [.ref pla, .ref plb, .ref plc])), (plb, .inr (3, [.int 0, .ref e0, .int 0]))] H := hP
  have hD : va_D A [(pg, .inr (11, [.ref pla, .ref plb, .ref plc])), (plb, .inr (3, [.int 0, .ref e0, .int 0]))] := hD
  refine lv_icmp_gt (tgt := 112) hx hb dX7_analyse_94 (by decide) (fun c_94 => absurd c_94 (by decide)) (fun c_94 => ?_)
  refine lv_iload_n hx hb dX7_analyse_97 rfl (lv_at hl 1 rfl) ?_
  refine lv_if_eq (tgt := 112) hx hb dX7_analyse_98 (by decide) (fun c_98 => absurd c_98 (by decide)) (fun c_98 => ?_)
  refine lv_aload_n hx hb dX7_analyse_101 rfl (lv_at hl 2 rfl) ?_
  refine oi_callV hx hb hml hown hts (f_spreadFaults l e0 D k pg pla plb plc) (cwV 0 hts gX7_analyse_X7_spreadFaults rfl rfl rfl (by decide +kernel) ⟨Nat.le_of_ble_eq_true rfl, Nat.le_of_ble_eq_true rfl⟩) hK hP hD hS hA hE [0, 1] [] rfl rfl (by decide) (by decide) (by decide) (wr := []) (w2 := fun u => [(pg, .inr (11, [.ref pla, .ref plb, .ref plc])), (plb, .inr (3, [.int 0, .ref e0, .int 0]))]) (fun _ => rfl) 0 11 rfl rfl rfl hl.1 rfl (Nat.le_of_ble_eq_true rfl) rfl ⟨Nat.le_of_ble_eq_true rfl, Nat.le_of_ble_eq_true rfl⟩ dX7_analyse_102 (fun r u H locs hq hP hD hS => ?_)
  have er : r = 0 := hq
  subst er
  have hP : va_P D vwCl [(pg, .inr (11, [.ref pla, .ref plb, .ref plc])), (plb, .inr (3, [.int 0, .ref e0, .int 0]))] H := hP
  have hD : va_D A [(pg, .inr (11, [.ref pla, .ref plb, .ref plc])), (plb, .inr (3, [.int 0, .ref e0, .int 0]))] := hD
  refine lv_istore_n (lv' := [(2, .int 0), (3, .int 0), (0, .ref pg), (1, .ref st9)]) hx hb dX7_analyse_105 rfl hl (by decide) rfl (fun ls hl => ?_)
  refine lv_iinc (v := 1) (lv' := [(3, .int 1), (2, .int 0), (0, .ref pg), (1, .ref st9)]) hx hb dX7_analyse_106 hl (k := 1) rfl (by decide) (by decide) rfl (fun ls hl => ?_)
  refine lv_goto (tgt := 86) hx hb dX7_analyse_109 (by decide) ?_
  refine lv_iload_n hx hb dX7_analyse_86 rfl (lv_at hl 0 rfl) ?_
  refine lv_aload_n hx hb dX7_analyse_87 rfl (lv_at hl 2 rfl) ?_
  refine va_get (D := D) (ci := 11) (v := .ref plb) (C := RX7) (T := TX7) (N := 3) hx hb hts iw_X7_analyse_X7 hown hK hP 0 rfl rfl 1 (by decide) (hts (.fieldLink RX7 18 "ModedMill$Program" "modes" "Ljava/util/ArrayList;") (by decide +kernel)) (fun _ h9 => h9) rfl dX7_analyse_88 ?_
  refine oi_callV hx hb hml hown hts (f_size l e0 D k plb 0 e0 0) (cwV 0 hts gX7_analyse_Jx4a65c_size_8abf5 rfl rfl rfl (by decide +kernel) ⟨Nat.le_of_ble_eq_true rfl, Nat.le_of_ble_eq_true rfl⟩) hK hP hD hS hA hE [1] [0] rfl rfl (by decide) (by decide) (by decide) (wr := [(pg, .inr (11, [.ref pla, .ref plb, .ref plc]))]) (w2 := fun u => [(pg, .inr (11, [.ref pla, .ref plb, .ref plc])), (plb, .inr (3, [.int 0, .ref e0, .int 0]))]) (fun _ => rfl) 0 3 rfl rfl rfl hl.1 rfl (Nat.le_of_ble_eq_true rfl) rfl ⟨Nat.le_of_ble_eq_true rfl, Nat.le_of_ble_eq_true rfl⟩ dX7_analyse_91 (fun r u H locs hq hP hD hS => ?_)
  have er : r = 0 := hq
  subst er
  have hP : va_P D vwCl [(pg, .inr (11, [.ref pla, .ref plb, .ref plc])), (plb, .inr (3, [.int 0, .ref e0, .int 0]))] H := hP
  have hD : va_D A [(pg, .inr (11, [.ref pla, .ref plb, .ref plc])), (plb, .inr (3, [.int 0, .ref e0, .int 0]))] := hD
  refine lv_icmp_gt (tgt := 112) hx hb dX7_analyse_94 (by decide) (fun c_94 => ?_) (fun c_94 => absurd c_94 (by decide))
  refine lv_iconst (v := 1) hx hb dX7_analyse_112 (by decide) ?_
  refine lv_istore_n (lv' := [(2, .int 1), (3, .int 1), (0, .ref pg), (1, .ref st9)]) hx hb dX7_analyse_113 rfl hl (by decide) rfl (fun ls hl => ?_)
  refine lv_iconst (v := 0) hx hb dX7_analyse_114 (by decide) ?_
  refine lv_istore_n (lv' := [(3, .int 0), (2, .int 1), (0, .ref pg), (1, .ref st9)]) hx hb dX7_analyse_115 rfl hl (by decide) rfl (fun ls hl => ?_)
  refine lv_iload_n hx hb dX7_analyse_116 rfl (lv_at hl 0 rfl) ?_
  refine lv_iconst (v := 2) hx hb dX7_analyse_117 (by decide) ?_
  refine lv_aload_n hx hb dX7_analyse_118 rfl (lv_at hl 2 rfl) ?_
  refine va_get (D := D) (ci := 11) (v := .ref plb) (C := RX7) (T := TX7) (N := 3) hx hb hts iw_X7_analyse_X7 hown hK hP 0 rfl rfl 1 (by decide) (hts (.fieldLink RX7 18 "ModedMill$Program" "modes" "Ljava/util/ArrayList;") (by decide +kernel)) (fun _ h9 => h9) rfl dX7_analyse_119 ?_
  refine oi_callV hx hb hml hown hts (f_size l e0 D k plb 0 e0 0) (cwV 0 hts gX7_analyse_Jx4a65c_size_8abf5 rfl rfl rfl (by decide +kernel) ⟨Nat.le_of_ble_eq_true rfl, Nat.le_of_ble_eq_true rfl⟩) hK hP hD hS hA hE [1] [0] rfl rfl (by decide) (by decide) (by decide) (wr := [(pg, .inr (11, [.ref pla, .ref plb, .ref plc]))]) (w2 := fun u => [(pg, .inr (11, [.ref pla, .ref plb, .ref plc])), (plb, .inr (3, [.int 0, .ref e0, .int 0]))]) (fun _ => rfl) 0 3 rfl rfl rfl hl.1 rfl (Nat.le_of_ble_eq_true rfl) rfl ⟨Nat.le_of_ble_eq_true rfl, Nat.le_of_ble_eq_true rfl⟩ dX7_analyse_122 (fun r u H locs hq hP hD hS => ?_)
  have er : r = 0 := hq
  subst er
  have hP : va_P D vwCl [(pg, .inr (11, [.ref pla, .ref plb, .ref plc])), (plb, .inr (3, [.int 0, .ref e0, .int 0]))] H := hP
  have hD : va_D A [(pg, .inr (11, [.ref pla, .ref plb, .ref plc])), (plb, .inr (3, [.int 0, .ref e0, .int 0]))] := hD
  refine lv_imul hx hb dX7_analyse_125 ?_
  refine o_top (v := 0) (by decide) ?_
  refine lv_icmp_gt (tgt := 145) hx hb dX7_analyse_126 (by decide) (fun c_126 => absurd c_126 (by decide)) (fun c_126 => ?_)
  refine lv_iload_n hx hb dX7_analyse_129 rfl (lv_at hl 1 rfl) ?_
  refine lv_if_eq (tgt := 145) hx hb dX7_analyse_130 (by decide) (fun c_130 => absurd c_130 (by decide)) (fun c_130 => ?_)
  refine lv_aload_n hx hb dX7_analyse_133 rfl (lv_at hl 2 rfl) ?_
  refine lv_aload_n hx hb dX7_analyse_134 rfl (lv_at hl 3 rfl) ?_
  refine oi_callV hx hb hml hown hts (f_spreadFound l e0 D k pg st9 pla plb plc) (cwV 1 hts gX7_analyse_X7_spreadFound rfl rfl rfl (by decide +kernel) ⟨Nat.le_of_ble_eq_true rfl, Nat.le_of_ble_eq_true rfl⟩) hK hP hD hS hA hE [0, 1] [] rfl rfl (by decide) (by decide) (by decide) (wr := []) (w2 := fun u => [(pg, .inr (11, [.ref pla, .ref plb, .ref plc])), (plb, .inr (3, [.int 0, .ref e0, .int 0]))]) (fun _ => rfl) 0 11 rfl rfl rfl hl.1 rfl (Nat.le_of_ble_eq_true rfl) rfl ⟨Nat.le_of_ble_eq_true rfl, Nat.le_of_ble_eq_true rfl⟩ dX7_analyse_135 (fun r u H locs hq hP hD hS => ?_)
  have er : r = 0 := hq
  subst er
  have hP : va_P D vwCl [(pg, .inr (11, [.ref pla, .ref plb, .ref plc])), (plb, .inr (3, [.int 0, .ref e0, .int 0]))] H := hP
  have hD : va_D A [(pg, .inr (11, [.ref pla, .ref plb, .ref plc])), (plb, .inr (3, [.int 0, .ref e0, .int 0]))] := hD
  refine lv_istore_n (lv' := [(2, .int 0), (3, .int 0), (0, .ref pg), (1, .ref st9)]) hx hb dX7_analyse_138 rfl hl (by decide) rfl (fun ls hl => ?_)
  refine lv_iinc (v := 1) (lv' := [(3, .int 1), (2, .int 0), (0, .ref pg), (1, .ref st9)]) hx hb dX7_analyse_139 hl (k := 1) rfl (by decide) (by decide) rfl (fun ls hl => ?_)
  refine lv_goto (tgt := 116) hx hb dX7_analyse_142 (by decide) ?_
  refine lv_iload_n hx hb dX7_analyse_116 rfl (lv_at hl 0 rfl) ?_
  refine lv_iconst (v := 2) hx hb dX7_analyse_117 (by decide) ?_
  refine lv_aload_n hx hb dX7_analyse_118 rfl (lv_at hl 2 rfl) ?_
  refine va_get (D := D) (ci := 11) (v := .ref plb) (C := RX7) (T := TX7) (N := 3) hx hb hts iw_X7_analyse_X7 hown hK hP 0 rfl rfl 1 (by decide) (hts (.fieldLink RX7 18 "ModedMill$Program" "modes" "Ljava/util/ArrayList;") (by decide +kernel)) (fun _ h9 => h9) rfl dX7_analyse_119 ?_
  refine oi_callV hx hb hml hown hts (f_size l e0 D k plb 0 e0 0) (cwV 0 hts gX7_analyse_Jx4a65c_size_8abf5 rfl rfl rfl (by decide +kernel) ⟨Nat.le_of_ble_eq_true rfl, Nat.le_of_ble_eq_true rfl⟩) hK hP hD hS hA hE [1] [0] rfl rfl (by decide) (by decide) (by decide) (wr := [(pg, .inr (11, [.ref pla, .ref plb, .ref plc]))]) (w2 := fun u => [(pg, .inr (11, [.ref pla, .ref plb, .ref plc])), (plb, .inr (3, [.int 0, .ref e0, .int 0]))]) (fun _ => rfl) 0 3 rfl rfl rfl hl.1 rfl (Nat.le_of_ble_eq_true rfl) rfl ⟨Nat.le_of_ble_eq_true rfl, Nat.le_of_ble_eq_true rfl⟩ dX7_analyse_122 (fun r u H locs hq hP hD hS => ?_)
  have er : r = 0 := hq
  subst er
  have hP : va_P D vwCl [(pg, .inr (11, [.ref pla, .ref plb, .ref plc])), (plb, .inr (3, [.int 0, .ref e0, .int 0]))] H := hP
  have hD : va_D A [(pg, .inr (11, [.ref pla, .ref plb, .ref plc])), (plb, .inr (3, [.int 0, .ref e0, .int 0]))] := hD
  refine lv_imul hx hb dX7_analyse_125 ?_
  refine o_top (v := 0) (by decide) ?_
  refine lv_icmp_gt (tgt := 145) hx hb dX7_analyse_126 (by decide) (fun c_126 => ?_) (fun c_126 => absurd c_126 (by decide))
  exact ov_ret hx hb hr hlocks () (trivial) hK (hP.sub [0, 1] rfl) (hD.sub [0, 1] (by decide) rfl) hS (Nat.le_of_ble_eq_true rfl) (Nat.le_of_ble_eq_true rfl) dX7_analyse_145
theorem iw_X11_compile_X11 : ∀ w ∈ wsX110, w ∈ wsX11_compile := by decide +kernel
set_option maxHeartbeats 4000000 in
set_option maxRecDepth 100000 in
theorem f_compile (l : Launch) (e0 : Nat) (D : va_G) (k : Nat → ClassId) (h0 : Nat) (st : Nat) (pg : Nat) (mc : Nat) (br : Nat) (la : Nat) (sp : Nat) (pla : Nat) (plb : Nat) (plc : Nat) : oCi l e0 D (oTy k) yX11_compile wsX11_compile ({ frames := 3, cells := 0, slots := 0, locals := 69 } : Room) [.ref h0] [(h0, .inr (15, [.ref st, .ref pg, .ref mc, .ref br, .ref la, .ref sp, .int 0, .int 0, .long 0])), (pg, .inr (11, [.ref pla, .ref plb, .ref plc])), (plb, .inr (3, [.int 0, .ref e0, .int 0]))] (S := Unit) (fun (r : Int32) (u : Unit) => r = 0) (fun u => []) 0 0 := by
  refine oi_of (cc := cX11_compile) (maxL := 1) (ret := (some .int)) (by decide +kernel) rfl (Nat.le_of_ble_eq_true rfl) ?_
  intro p e s m below meth c A ls hx hb hml hr hts hown hlocks hin hA hK hP hD hS hE hl
  have hl : lv_has ls 1 [(0, .ref h0)] := hl
  refine lv_aload_n hx hb dX11_compile_0 rfl (lv_at hl 0 rfl) ?_
  refine va_get (D := D) (ci := 15) (v := .int 0) (C := RX11) (T := TX11) (N := 9) hx hb hts iw_X11_compile_X11 hown hK hP 0 rfl rfl 6 (by decide) (hts (.fieldLink RX11 51 "ModedMill" "isCompiled" "Z") (by decide +kernel)) (fun _ h9 => h9) rfl dX11_compile_1 ?_
  refine lv_if_eq (tgt := 15) hx hb dX11_compile_4 (by decide) (fun c_4 => ?_) (fun c_4 => absurd c_4 (by decide))
  refine lv_aload_n hx hb dX11_compile_15 rfl (lv_at hl 0 rfl) ?_
  refine va_get (D := D) (ci := 15) (v := .ref pg) (C := RX11) (T := TX11) (N := 9) hx hb hts iw_X11_compile_X11 hown hK hP 0 rfl rfl 1 (by decide) (hts (.fieldLink RX11 19 "ModedMill" "program" "LModedMill$Program;") (by decide +kernel)) (fun _ h9 => h9) rfl dX11_compile_16 ?_
  refine lv_aload_n hx hb dX11_compile_19 rfl (lv_at hl 0 rfl) ?_
  refine va_get (D := D) (ci := 15) (v := .ref st) (C := RX11) (T := TX11) (N := 9) hx hb hts iw_X11_compile_X11 hown hK hP 0 rfl rfl 0 (by decide) (hts (.fieldLink RX11 10 "ModedMill" "store" "LModedMill$Terms;") (by decide +kernel)) (fun _ h9 => h9) rfl dX11_compile_20 ?_
  refine ov_callV hx hb hml hown hts (f_analyse l e0 D k pg st pla plb plc) (cwV 1 hts gX11_compile_X7_analyse rfl rfl rfl (by decide +kernel) ⟨Nat.le_of_ble_eq_true rfl, Nat.le_of_ble_eq_true rfl⟩) hK hP hD hS hA hE [1, 2] [0] rfl rfl (by decide) (by decide) (by decide) (wr := [(h0, .inr (15, [.ref st, .ref pg, .ref mc, .ref br, .ref la, .ref sp, .int 0, .int 0, .long 0]))]) (w2 := fun u => [(h0, .inr (15, [.ref st, .ref pg, .ref mc, .ref br, .ref la, .ref sp, .int 0, .int 0, .long 0])), (pg, .inr (11, [.ref pla, .ref plb, .ref plc])), (plb, .inr (3, [.int 0, .ref e0, .int 0]))]) (fun _ => rfl) 0 11 rfl rfl rfl hl.1 rfl (Nat.le_of_ble_eq_true rfl) rfl ⟨Nat.le_of_ble_eq_true rfl, Nat.le_of_ble_eq_true rfl⟩ dX11_compile_23 (fun u H locs hq hP hD hS => ?_)
  have hP : va_P D vwCl [(h0, .inr (15, [.ref st, .ref pg, .ref mc, .ref br, .ref la, .ref sp, .int 0, .int 0, .long 0])), (pg, .inr (11, [.ref pla, .ref plb, .ref plc])), (plb, .inr (3, [.int 0, .ref e0, .int 0]))] H := hP
  have hD : va_D A [(h0, .inr (15, [.ref st, .ref pg, .ref mc, .ref br, .ref la, .ref sp, .int 0, .int 0, .long 0])), (pg, .inr (11, [.ref pla, .ref plb, .ref plc])), (plb, .inr (3, [.int 0, .ref e0, .int 0]))] := hD
  refine lv_aload_n hx hb dX11_compile_26 rfl (lv_at hl 0 rfl) ?_
  refine lv_iconst (v := 1) hx hb dX11_compile_27 (by decide) ?_
  refine va_put (D := D) (ci := 15) (v := .int 1) (ty := .boolean) (C := RX11) (T := TX11) (N := 9) hx hb hts iw_X11_compile_X11 tyX11 tyX11_ok nmX11 hown hK hP hD hS 0 rfl rfl 6 (by decide) (hts (.fieldLink RX11 51 "ModedMill" "isCompiled" "Z") (by decide +kernel)) (fun _ h9 => h9) rfl (by decide +kernel) (by decide +kernel) (by decide +kernel) (Nat.le_of_ble_eq_true rfl) dX11_compile_28 (fun H locs hP hD hS => ?_)
  have hP : va_P D vwCl [(h0, .inr (15, [.ref st, .ref pg, .ref mc, .ref br, .ref la, .ref sp, .int 1, .int 0, .long 0])), (pg, .inr (11, [.ref pla, .ref plb, .ref plc])), (plb, .inr (3, [.int 0, .ref e0, .int 0]))] H := hP
  have hD : va_D A [(h0, .inr (15, [.ref st, .ref pg, .ref mc, .ref br, .ref la, .ref sp, .int 1, .int 0, .long 0])), (pg, .inr (11, [.ref pla, .ref plb, .ref plc])), (plb, .inr (3, [.int 0, .ref e0, .int 0]))] := hD
  refine lv_aload_n hx hb dX11_compile_31 rfl (lv_at hl 0 rfl) ?_
  refine va_get (D := D) (ci := 15) (v := .ref pg) (C := RX11) (T := TX11) (N := 9) hx hb hts iw_X11_compile_X11 hown hK hP 0 rfl rfl 1 (by decide) (hts (.fieldLink RX11 19 "ModedMill" "program" "LModedMill$Program;") (by decide +kernel)) (fun _ h9 => h9) rfl dX11_compile_32 ?_
  refine oi_callV hx hb hml hown hts (f_faultCount l e0 D k pg pla plb plc) (cwV 0 hts gX11_compile_X7_faultCount rfl rfl rfl (by decide +kernel) ⟨Nat.le_of_ble_eq_true rfl, Nat.le_of_ble_eq_true rfl⟩) hK hP hD hS hA hE [1, 2] [0] rfl rfl (by decide) (by decide) (by decide) (wr := [(h0, .inr (15, [.ref st, .ref pg, .ref mc, .ref br, .ref la, .ref sp, .int 1, .int 0, .long 0]))]) (w2 := fun u => [(h0, .inr (15, [.ref st, .ref pg, .ref mc, .ref br, .ref la, .ref sp, .int 1, .int 0, .long 0])), (pg, .inr (11, [.ref pla, .ref plb, .ref plc])), (plb, .inr (3, [.int 0, .ref e0, .int 0]))]) (fun _ => rfl) 0 11 rfl rfl rfl hl.1 rfl (Nat.le_of_ble_eq_true rfl) rfl ⟨Nat.le_of_ble_eq_true rfl, Nat.le_of_ble_eq_true rfl⟩ dX11_compile_35 (fun r u H locs hq hP hD hS => ?_)
  have er : r = 0 := hq
  subst er
  have hP : va_P D vwCl [(h0, .inr (15, [.ref st, .ref pg, .ref mc, .ref br, .ref la, .ref sp, .int 1, .int 0, .long 0])), (pg, .inr (11, [.ref pla, .ref plb, .ref plc])), (plb, .inr (3, [.int 0, .ref e0, .int 0]))] H := hP
  have hD : va_D A [(h0, .inr (15, [.ref st, .ref pg, .ref mc, .ref br, .ref la, .ref sp, .int 1, .int 0, .long 0])), (pg, .inr (11, [.ref pla, .ref plb, .ref plc])), (plb, .inr (3, [.int 0, .ref e0, .int 0]))] := hD
  exact oi_ret hx hb hr hlocks rfl () (rfl) hK (hP.sub [] rfl) (hD.sub [] (by decide) rfl) hS (Nat.le_of_ble_eq_true rfl) (Nat.le_of_ble_eq_true rfl) dX11_compile_38
theorem iw_X3_init_X3 : ∀ w ∈ wsX30, w ∈ wsX3_init := by decide +kernel
set_option maxHeartbeats 4000000 in
set_option maxRecDepth 100000 in
theorem f_Goal_init (l : Launch) (e0 : Nat) (D : va_G) (k : Nat → ClassId) (h0 : Nat) (p0 : Int32) (p1 : Int32) (p2 : Int32) (p3 : Int32) (p4 : Int32) (p5 : Int32) : oCv l e0 D (oTy k) yX3_init wsX3_init ({ frames := 1, cells := 1, slots := 3, locals := 20 } : Room) [.ref h0, .int p0, .int p1, .int p2, .int p3, .int p4, .int p5] [(h0, .inr (7, [.int 0, .int 0, .int 0, .null]))] (S := Unit) (fun (u : Unit) => True) (fun u => []) 1 3 := by
  refine ov_of (cc := cX3_init) (maxL := 7) (ret := none) (by decide +kernel) rfl (Nat.le_of_ble_eq_true rfl) ?_
  intro p e s m below meth c A ls hx hb hml hr hts hown hlocks hin hA hK hP hD hS hE hl
  have hl : lv_has ls 7 [(0, .ref h0), (1, .int p0), (2, .int p1), (3, .int p2), (4, .int p3), (5, .int p4), (6, .int p5)] := hl
  refine lv_aload_n hx hb dX3_init_0 rfl (lv_at hl 0 rfl) ?_
  refine W.objInit hx hb hown (hts (.methodLink RX3 3 objectInit) (by decide +kernel)) (hts (.instanceMethod objectInit) (by decide +kernel)) (hts (.code objectInit ⟨#[0xb1]⟩ 1 none) (by decide +kernel)) rfl (by rw [hml]; exact hl.1) rfl dX3_init_1 (Nat.le_of_ble_eq_true rfl) (Nat.le_of_ble_eq_true rfl) ?_
  refine W.eq (g2 := F0 m 4 ls []) rfl ?_
  refine lv_aload_n hx hb dX3_init_4 rfl (lv_at hl 0 rfl) ?_
  refine lv_iload_n hx hb dX3_init_5 rfl (lv_at hl 1 rfl) ?_
  refine va_putF (D := D) (ci := 7) (v := .int p0) (ty := .int) (C := RX3) (T := TX3) (N := 4) hx hb hts iw_X3_init_X3 tyX3 tyX3_ok nmX3 hown hK hP hD hS 0 rfl rfl 0 (by decide) (hts (.fieldLink RX3 9 "ModedMill$Goal" "kind" "I") (by decide +kernel)) (fun _ h9 => h9) rfl hin rfl (by decide +kernel) rfl rfl (Nat.le_of_ble_eq_true rfl) dX3_init_6 (fun H locs hP hD hS => ?_)
  have hP : va_P D vwCl [(h0, .inr (7, [.int p0, .int 0, .int 0, .null]))] H := hP
  have hD : va_D A [(h0, .inr (7, [.int p0, .int 0, .int 0, .null]))] := hD
  refine lv_aload_n hx hb dX3_init_9 rfl (lv_at hl 0 rfl) ?_
  refine lv_iload_n hx hb dX3_init_10 rfl (lv_at hl 2 rfl) ?_
  refine va_putF (D := D) (ci := 7) (v := .int p1) (ty := .int) (C := RX3) (T := TX3) (N := 4) hx hb hts iw_X3_init_X3 tyX3 tyX3_ok nmX3 hown hK hP hD hS 0 rfl rfl 1 (by decide) (hts (.fieldLink RX3 15 "ModedMill$Goal" "subject" "I") (by decide +kernel)) (fun _ h9 => h9) rfl hin rfl (by decide +kernel) rfl rfl (Nat.le_of_ble_eq_true rfl) dX3_init_11 (fun H locs hP hD hS => ?_)
  have hP : va_P D vwCl [(h0, .inr (7, [.int p0, .int p1, .int 0, .null]))] H := hP
  have hD : va_D A [(h0, .inr (7, [.int p0, .int p1, .int 0, .null]))] := hD
  refine lv_aload_n hx hb dX3_init_14 rfl (lv_at hl 0 rfl) ?_
  refine lv_iload_n hx hb dX3_init_15 rfl (lv_at hl 3 rfl) ?_
  refine va_putF (D := D) (ci := 7) (v := .int p2) (ty := .int) (C := RX3) (T := TX3) (N := 4) hx hb hts iw_X3_init_X3 tyX3 tyX3_ok nmX3 hown hK hP hD hS 0 rfl rfl 2 (by decide) (hts (.fieldLink RX3 18 "ModedMill$Goal" "count" "I") (by decide +kernel)) (fun _ h9 => h9) rfl hin rfl (by decide +kernel) rfl rfl (Nat.le_of_ble_eq_true rfl) dX3_init_16 (fun H locs hP hD hS => ?_)
  have hP : va_P D vwCl [(h0, .inr (7, [.int p0, .int p1, .int p2, .null]))] H := hP
  have hD : va_D A [(h0, .inr (7, [.int p0, .int p1, .int p2, .null]))] := hD
  refine lv_aload_n hx hb dX3_init_19 rfl (lv_at hl 0 rfl) ?_
  refine lv_iconst (v := 3) hx hb dX3_init_20 (by decide) ?_
  refine o_newa (D := D) (atype := .int) (ty := .int) 0 (cA0 := (k 0)) rfl (hts (.arrayClass .int) (by decide +kernel)) rfl hK hP hD hS hA (a0 := (3, .inl (fun _ => 0))) (N' := 3) hx hb (fun _ => rfl) (by decide) (rfl) (Nat.le_of_ble_eq_true rfl) (Nat.le_of_ble_eq_true rfl) (Nat.le_of_ble_eq_true rfl) dX3_init_21 (fun q21_1 H hP hD hS => ?_)
  have hP : va_P D vwCl [(h0, .inr (7, [.int p0, .int p1, .int p2, .null])), (q21_1, .inl ((k 0), 3, .inl (fun _ => 0)))] H := hP
  have hD : va_D A [(h0, .inr (7, [.int p0, .int p1, .int p2, .null])), (q21_1, .inl ((k 0), 3, .inl (fun _ => 0)))] := hD
  refine lv_dup hx hb dX3_init_23 rfl ?_
  refine lv_iconst (v := 0) hx hb dX3_init_24 (by decide) ?_
  refine lv_iload hx hb dX3_init_25 (lv_at hl 4 rfl) ?_
  refine va_iast hx hb hK hP hD hS 1 0 rfl rfl (vp_in_nI (n := 0) (by decide) (by decide)) dX3_init_27 (fun H locs hP hD hS => ?_)
  have hP : va_P D vwCl [(h0, .inr (7, [.int p0, .int p1, .int p2, .null])), (q21_1, .inl ((k 0), 3, .inl (upd (fun _ => 0) (0 : Int32).toNatClampNeg p3)))] H := hP
  have hD : va_D A [(h0, .inr (7, [.int p0, .int p1, .int p2, .null])), (q21_1, .inl ((k 0), 3, .inl (upd (fun _ => 0) (0 : Int32).toNatClampNeg p3)))] := hD
  refine lv_dup hx hb dX3_init_28 rfl ?_
  refine lv_iconst (v := 1) hx hb dX3_init_29 (by decide) ?_
  refine lv_iload hx hb dX3_init_30 (lv_at hl 5 rfl) ?_
  refine va_iast hx hb hK hP hD hS 1 0 rfl rfl (vp_in_nI (n := 1) (by decide) (by decide)) dX3_init_32 (fun H locs hP hD hS => ?_)
  have hP : va_P D vwCl [(h0, .inr (7, [.int p0, .int p1, .int p2, .null])), (q21_1, .inl ((k 0), 3, .inl (upd (upd (fun _ => 0) (0 : Int32).toNatClampNeg p3) (1 : Int32).toNatClampNeg p4)))] H := hP
  have hD : va_D A [(h0, .inr (7, [.int p0, .int p1, .int p2, .null])), (q21_1, .inl ((k 0), 3, .inl (upd (upd (fun _ => 0) (0 : Int32).toNatClampNeg p3) (1 : Int32).toNatClampNeg p4)))] := hD
  refine lv_dup hx hb dX3_init_33 rfl ?_
  refine lv_iconst (v := 2) hx hb dX3_init_34 (by decide) ?_
  refine lv_iload hx hb dX3_init_35 (lv_at hl 6 rfl) ?_
  refine va_iast hx hb hK hP hD hS 1 0 rfl rfl (vp_in_nI (n := 2) (by decide) (by decide)) dX3_init_37 (fun H locs hP hD hS => ?_)
  have hP : va_P D vwCl [(h0, .inr (7, [.int p0, .int p1, .int p2, .null])), (q21_1, .inl ((k 0), 3, .inl (upd (upd (upd (fun _ => 0) (0 : Int32).toNatClampNeg p3) (1 : Int32).toNatClampNeg p4) (2 : Int32).toNatClampNeg p5)))] H := hP
  have hD : va_D A [(h0, .inr (7, [.int p0, .int p1, .int p2, .null])), (q21_1, .inl ((k 0), 3, .inl (upd (upd (upd (fun _ => 0) (0 : Int32).toNatClampNeg p3) (1 : Int32).toNatClampNeg p4) (2 : Int32).toNatClampNeg p5)))] := hD
  refine va_putF (D := D) (ci := 7) (v := .ref q21_1) (ty := (tyX3 3)) (C := RX3) (T := TX3) (N := 4) hx hb hts iw_X3_init_X3 tyX3 tyX3_ok nmX3 hown hK hP hD hS 0 rfl rfl 3 (by decide) (hts (.fieldLink RX3 21 "ModedMill$Goal" "variables" "[I") (by decide +kernel)) (fun _ h9 => h9) rfl hin rfl (by decide +kernel) rfl rfl (Nat.le_of_ble_eq_true rfl) dX3_init_38 (fun H locs hP hD hS => ?_)
  have hP : va_P D vwCl [(h0, .inr (7, [.int p0, .int p1, .int p2, .ref q21_1])), (q21_1, .inl ((k 0), 3, .inl (upd (upd (upd (fun _ => 0) (0 : Int32).toNatClampNeg p3) (1 : Int32).toNatClampNeg p4) (2 : Int32).toNatClampNeg p5)))] H := hP
  have hD : va_D A [(h0, .inr (7, [.int p0, .int p1, .int p2, .ref q21_1])), (q21_1, .inl ((k 0), 3, .inl (upd (upd (upd (fun _ => 0) (0 : Int32).toNatClampNeg p3) (1 : Int32).toNatClampNeg p4) (2 : Int32).toNatClampNeg p5)))] := hD
  exact ov_ret hx hb hr hlocks () (trivial) hK (hP.sub [] rfl) (hD.sub [] (by decide) rfl) hS (Nat.le_of_ble_eq_true rfl) (Nat.le_of_ble_eq_true rfl) dX3_init_41
theorem iw_X6_init_Jx4a65c : ∀ w ∈ wsJx4a65c0, w ∈ wsX6_init := by decide +kernel
theorem iw_X6_init_X3 : ∀ w ∈ wsX30, w ∈ wsX6_init := by decide +kernel
theorem iw_X6_init_X6 : ∀ w ∈ wsX60, w ∈ wsX6_init := by decide +kernel
theorem iw_X6_init_X9 : ∀ w ∈ wsX90, w ∈ wsX6_init := by decide +kernel
set_option maxHeartbeats 4000000 in
set_option maxRecDepth 100000 in
theorem f_Predicate_init (l : Launch) (e0 : Nat) (D : va_G) (k : Nat → ClassId) (h0 : Nat) : oCv l e0 D (oTy k) yX6_init wsX6_init ({ frames := 4, cells := 6, slots := 19, locals := 80 } : Room) [.ref h0, .int 0, .int (-1), .int (-1), .int (-1)] [(h0, .inr (10, [.int 0, .null, .null, .null, .null]))] (S := Nat × Nat × Nat × Nat) (fun (u : Nat × Nat × Nat × Nat) => True) (fun u => [(h0, .inr (10, [.int 0, .ref u.1, .ref u.2.1, .ref u.2.2.1, .ref u.2.2.2]))]) 6 19 := by
  refine ov_of (cc := cX6_init) (maxL := 7) (ret := none) (by decide +kernel) rfl (Nat.le_of_ble_eq_true rfl) ?_
  intro p e s m below meth c A ls hx hb hml hr hts hown hlocks hin hA hK hP hD hS hE hl
  have hl : lv_has ls 7 [(0, .ref h0), (1, .int 0), (2, .int (-1)), (3, .int (-1)), (4, .int (-1))] := hl
  refine lv_aload_n hx hb dX6_init_0 rfl (lv_at hl 0 rfl) ?_
  refine W.objInit hx hb hown (hts (.methodLink RX6 3 objectInit) (by decide +kernel)) (hts (.instanceMethod objectInit) (by decide +kernel)) (hts (.code objectInit ⟨#[0xb1]⟩ 1 none) (by decide +kernel)) rfl (by rw [hml]; exact hl.1) rfl dX6_init_1 (Nat.le_of_ble_eq_true rfl) (Nat.le_of_ble_eq_true rfl) ?_
  refine W.eq (g2 := F0 m 4 ls []) rfl ?_
  refine lv_aload_n hx hb dX6_init_4 rfl (lv_at hl 0 rfl) ?_
  refine lv_iload_n hx hb dX6_init_5 rfl (lv_at hl 1 rfl) ?_
  refine va_putF (D := D) (ci := 10) (v := .int 0) (ty := .int) (C := RX6) (T := TX6) (N := 5) hx hb hts iw_X6_init_X6 tyX6 tyX6_ok nmX6 hown hK hP hD hS 0 rfl rfl 0 (by decide) (hts (.fieldLink RX6 9 "ModedMill$Predicate" "number" "I") (by decide +kernel)) (fun _ h9 => h9) rfl hin rfl (by decide +kernel) rfl rfl (Nat.le_of_ble_eq_true rfl) dX6_init_6 (fun H locs hP hD hS => ?_)
  have hP : va_P D vwCl [(h0, .inr (10, [.int 0, .null, .null, .null, .null]))] H := hP
  have hD : va_D A [(h0, .inr (10, [.int 0, .null, .null, .null, .null]))] := hD
  refine lv_iload_n hx hb dX6_init_9 rfl (lv_at hl 2 rfl) ?_
  refine lv_iconst (v := (-1)) hx hb dX6_init_10 (by decide) ?_
  refine lv_icmp_ne (tgt := 18) hx hb dX6_init_11 (by decide) (fun c_11 => absurd c_11 (by decide)) (fun c_11 => ?_)
  refine lv_iconst (v := 0) hx hb dX6_init_14 (by decide) ?_
  refine lv_goto (tgt := 38) hx hb dX6_init_15 (by decide) ?_
  refine lv_istore (lv' := [(5, .int 0), (0, .ref h0), (1, .int 0), (2, .int (-1)), (3, .int (-1)), (4, .int (-1))]) hx hb dX6_init_38 hl (by decide) rfl (fun ls hl => ?_)
  refine lv_aload_n hx hb dX6_init_40 rfl (lv_at hl 1 rfl) ?_
  refine va_new (D := D) (ci := 13) (fs := [.int 0, .null, .int 0]) (C := RX9) (T := TX9) (N := 3) hx hb hts iw_X6_init_X9 tyX9 tyX9_ok hown (hts (.classLink RX6 15 RX9) (by decide +kernel)) (hts (.instantiable RX9 3) (by decide +kernel)) (hts (.initialized RX9) (by decide +kernel)) hK hP hD hS hA rfl (fun j hj => by rcases (show j = 0 ∨ j = 1 ∨ j = 2 by omega) with rfl | rfl | rfl <;> rfl) (Nat.le_of_ble_eq_true rfl) (Nat.le_of_ble_eq_true rfl) dX6_init_41 (fun q41_1 H hP hD hS => ?_)
  have hP : va_P D vwCl [(h0, .inr (10, [.int 0, .null, .null, .null, .null])), (q41_1, .inr (13, [.int 0, .null, .int 0]))] H := hP
  have hD : va_D A [(h0, .inr (10, [.int 0, .null, .null, .null, .null])), (q41_1, .inr (13, [.int 0, .null, .int 0]))] := hD
  refine lv_dup hx hb dX6_init_44 rfl ?_
  refine lv_iconst (v := 1) hx hb dX6_init_45 (by decide) ?_
  refine lv_iconst (v := 3) hx hb dX6_init_46 (by decide) ?_
  refine ov_callI hx hb hml hown hts (c_Table_init_1_3 l e0 D k q41_1) (cwI 2 hts gX6_init_X9_init rfl rfl rfl (hts (.initialized RX9) (by decide +kernel)) (hts (.methodLink RX6 17 yX9_init) (by decide +kernel)) (hts (.instanceMethod yX9_init) (by decide +kernel)) rfl (by decide +kernel) ⟨Nat.le_of_ble_eq_true rfl, Nat.le_of_ble_eq_true rfl⟩) hK hP hD hS hA hE [1] [0] rfl rfl (by decide) (by decide) (by decide) (wr := [(h0, .inr (10, [.int 0, .null, .null, .null, .null]))]) (w2 := fun u => [(h0, .inr (10, [.int 0, .null, .null, .null, .null])), (q41_1, .inr (13, [.int 1, .ref u, .int 0])), (u, .inl ((k 0), 3, .inl (fun _ => 0)))]) (fun _ => rfl) hl.1 rfl (Nat.le_of_ble_eq_true rfl) rfl ⟨Nat.le_of_ble_eq_true rfl, Nat.le_of_ble_eq_true rfl⟩ dX6_init_47 (fun u H locs hq hP hD hS => ?_)
  obtain ⟨q1_47, hu9⟩ : ∃ z, z = u := ⟨_, rfl⟩; subst hu9
  have hP : va_P D vwCl [(h0, .inr (10, [.int 0, .null, .null, .null, .null])), (q41_1, .inr (13, [.int 1, .ref q1_47, .int 0])), (q1_47, .inl ((k 0), 3, .inl (fun _ => 0)))] H := hP
  have hD : va_D A [(h0, .inr (10, [.int 0, .null, .null, .null, .null])), (q41_1, .inr (13, [.int 1, .ref q1_47, .int 0])), (q1_47, .inl ((k 0), 3, .inl (fun _ => 0)))] := hD
  refine va_putF (D := D) (ci := 10) (v := .ref q41_1) (ty := (tyX6 1)) (C := RX6) (T := TX6) (N := 5) hx hb hts iw_X6_init_X6 tyX6 tyX6_ok nmX6 hown hK hP hD hS 0 rfl rfl 1 (by decide) (hts (.fieldLink RX6 20 "ModedMill$Predicate" "types" "LModedMill$Table;") (by decide +kernel)) (fun _ h9 => h9) rfl hin rfl (by decide +kernel) rfl rfl (Nat.le_of_ble_eq_true rfl) dX6_init_50 (fun H locs hP hD hS => ?_)
  have hP : va_P D vwCl [(h0, .inr (10, [.int 0, .ref q41_1, .null, .null, .null])), (q41_1, .inr (13, [.int 1, .ref q1_47, .int 0])), (q1_47, .inl ((k 0), 3, .inl (fun _ => 0)))] H := hP
  have hD : va_D A [(h0, .inr (10, [.int 0, .ref q41_1, .null, .null, .null])), (q41_1, .inr (13, [.int 1, .ref q1_47, .int 0])), (q1_47, .inl ((k 0), 3, .inl (fun _ => 0)))] := hD
  refine lv_iconst (v := 0) hx hb dX6_init_53 (by decide) ?_
  refine lv_istore (lv' := [(6, .int 0), (5, .int 0), (0, .ref h0), (1, .int 0), (2, .int (-1)), (3, .int (-1)), (4, .int (-1))]) hx hb dX6_init_54 hl (by decide) rfl (fun ls hl => ?_)
  refine lv_iload hx hb dX6_init_56 (lv_at hl 0 rfl) ?_
  refine lv_iload hx hb dX6_init_58 (lv_at hl 1 rfl) ?_
  refine lv_icmp_ge (tgt := 88) hx hb dX6_init_60 (by decide) (fun c_60 => ?_) (fun c_60 => absurd c_60 (by decide))
  refine lv_aload_n hx hb dX6_init_88 rfl (lv_at hl 2 rfl) ?_
  refine va_new (D := D) (ci := 3) (fs := [.int 0, .null, .int 0]) (C := RJx4a65c) (T := TJx4a65c) (N := 3) hx hb hts iw_X6_init_Jx4a65c tyJx4a65c tyJx4a65c_ok hown (hts (.classLink RX6 32 RJx4a65c) (by decide +kernel)) (hts (.instantiable RJx4a65c 3) (by decide +kernel)) (hts (.initialized RJx4a65c) (by decide +kernel)) hK hP hD hS hA rfl (fun j hj => by rcases (show j = 0 ∨ j = 1 ∨ j = 2 by omega) with rfl | rfl | rfl <;> rfl) (Nat.le_of_ble_eq_true rfl) (Nat.le_of_ble_eq_true rfl) dX6_init_89 (fun q89_2 H hP hD hS => ?_)
  have hP : va_P D vwCl [(h0, .inr (10, [.int 0, .ref q41_1, .null, .null, .null])), (q41_1, .inr (13, [.int 1, .ref q1_47, .int 0])), (q1_47, .inl ((k 0), 3, .inl (fun _ => 0))), (q89_2, .inr (3, [.int 0, .null, .int 0]))] H := hP
  have hD : va_D A [(h0, .inr (10, [.int 0, .ref q41_1, .null, .null, .null])), (q41_1, .inr (13, [.int 1, .ref q1_47, .int 0])), (q1_47, .inl ((k 0), 3, .inl (fun _ => 0))), (q89_2, .inr (3, [.int 0, .null, .int 0]))] := hD
  refine lv_dup hx hb dX6_init_92 rfl ?_
  refine ov_callI hx hb hml hown hts (c_List_init l e0 D k q89_2) (cwI 0 hts gX6_init_Jx4a65c_init_da8c8 rfl rfl rfl (hts (.initialized RJx4a65c) (by decide +kernel)) (hts (.methodLink RX6 34 yJx4a65c_init_da8c8) (by decide +kernel)) (hts (.instanceMethod yJx4a65c_init_da8c8) (by decide +kernel)) rfl (by decide +kernel) ⟨Nat.le_of_ble_eq_true rfl, Nat.le_of_ble_eq_true rfl⟩) hK hP hD hS hA hE [3] [0, 1, 2] rfl rfl (by decide) (by decide) (by decide) (wr := [(h0, .inr (10, [.int 0, .ref q41_1, .null, .null, .null])), (q41_1, .inr (13, [.int 1, .ref q1_47, .int 0])), (q1_47, .inl ((k 0), 3, .inl (fun _ => 0)))]) (w2 := fun u => [(h0, .inr (10, [.int 0, .ref q41_1, .null, .null, .null])), (q41_1, .inr (13, [.int 1, .ref q1_47, .int 0])), (q1_47, .inl ((k 0), 3, .inl (fun _ => 0))), (q89_2, .inr (3, [.int 0, .ref e0, .int 0]))]) (fun _ => rfl) hl.1 rfl (Nat.le_of_ble_eq_true rfl) rfl ⟨Nat.le_of_ble_eq_true rfl, Nat.le_of_ble_eq_true rfl⟩ dX6_init_93 (fun u H locs hq hP hD hS => ?_)
  have hP : va_P D vwCl [(h0, .inr (10, [.int 0, .ref q41_1, .null, .null, .null])), (q41_1, .inr (13, [.int 1, .ref q1_47, .int 0])), (q1_47, .inl ((k 0), 3, .inl (fun _ => 0))), (q89_2, .inr (3, [.int 0, .ref e0, .int 0]))] H := hP
  have hD : va_D A [(h0, .inr (10, [.int 0, .ref q41_1, .null, .null, .null])), (q41_1, .inr (13, [.int 1, .ref q1_47, .int 0])), (q1_47, .inl ((k 0), 3, .inl (fun _ => 0))), (q89_2, .inr (3, [.int 0, .ref e0, .int 0]))] := hD
  refine va_putF (D := D) (ci := 10) (v := .ref q89_2) (ty := (tyX6 2)) (C := RX6) (T := TX6) (N := 5) hx hb hts iw_X6_init_X6 tyX6 tyX6_ok nmX6 hown hK hP hD hS 0 rfl rfl 2 (by decide) (hts (.fieldLink RX6 35 "ModedMill$Predicate" "modes" "Ljava/util/ArrayList;") (by decide +kernel)) (fun _ h9 => h9) rfl hin rfl (by decide +kernel) rfl rfl (Nat.le_of_ble_eq_true rfl) dX6_init_96 (fun H locs hP hD hS => ?_)
  have hP : va_P D vwCl [(h0, .inr (10, [.int 0, .ref q41_1, .ref q89_2, .null, .null])), (q41_1, .inr (13, [.int 1, .ref q1_47, .int 0])), (q1_47, .inl ((k 0), 3, .inl (fun _ => 0))), (q89_2, .inr (3, [.int 0, .ref e0, .int 0]))] H := hP
  have hD : va_D A [(h0, .inr (10, [.int 0, .ref q41_1, .ref q89_2, .null, .null])), (q41_1, .inr (13, [.int 1, .ref q1_47, .int 0])), (q1_47, .inl ((k 0), 3, .inl (fun _ => 0))), (q89_2, .inr (3, [.int 0, .ref e0, .int 0]))] := hD
  refine lv_aload_n hx hb dX6_init_99 rfl (lv_at hl 2 rfl) ?_
  refine va_new (D := D) (ci := 3) (fs := [.int 0, .null, .int 0]) (C := RJx4a65c) (T := TJx4a65c) (N := 3) hx hb hts iw_X6_init_Jx4a65c tyJx4a65c tyJx4a65c_ok hown (hts (.classLink RX6 32 RJx4a65c) (by decide +kernel)) (hts (.instantiable RJx4a65c 3) (by decide +kernel)) (hts (.initialized RJx4a65c) (by decide +kernel)) hK hP hD hS hA rfl (fun j hj => by rcases (show j = 0 ∨ j = 1 ∨ j = 2 by omega) with rfl | rfl | rfl <;> rfl) (Nat.le_of_ble_eq_true rfl) (Nat.le_of_ble_eq_true rfl) dX6_init_100 (fun q100_3 H hP hD hS => ?_)
  have hP : va_P D vwCl [(h0, .inr (10, [.int 0, .ref q41_1, .ref q89_2, .null, .null])), (q41_1, .inr (13, [.int 1, .ref q1_47, .int 0])), (q1_47, .inl ((k 0), 3, .inl (fun _ => 0))), (q89_2, .inr (3, [.int 0, .ref e0, .int 0])), (q100_3, .inr (3, [.int 0, .null, .int 0]))] H := hP
  have hD : va_D A [(h0, .inr (10, [.int 0, .ref q41_1, .ref q89_2, .null, .null])), (q41_1, .inr (13, [.int 1, .ref q1_47, .int 0])), (q1_47, .inl ((k 0), 3, .inl (fun _ => 0))), (q89_2, .inr (3, [.int 0, .ref e0, .int 0])), (q100_3, .inr (3, [.int 0, .null, .int 0]))] := hD
  refine lv_dup hx hb dX6_init_103 rfl ?_
  refine ov_callI hx hb hml hown hts (c_List_init l e0 D k q100_3) (cwI 0 hts gX6_init_Jx4a65c_init_da8c8 rfl rfl rfl (hts (.initialized RJx4a65c) (by decide +kernel)) (hts (.methodLink RX6 34 yJx4a65c_init_da8c8) (by decide +kernel)) (hts (.instanceMethod yJx4a65c_init_da8c8) (by decide +kernel)) rfl (by decide +kernel) ⟨Nat.le_of_ble_eq_true rfl, Nat.le_of_ble_eq_true rfl⟩) hK hP hD hS hA hE [4] [0, 1, 2, 3] rfl rfl (by decide) (by decide) (by decide) (wr := [(h0, .inr (10, [.int 0, .ref q41_1, .ref q89_2, .null, .null])), (q41_1, .inr (13, [.int 1, .ref q1_47, .int 0])), (q1_47, .inl ((k 0), 3, .inl (fun _ => 0))), (q89_2, .inr (3, [.int 0, .ref e0, .int 0]))]) (w2 := fun u => [(h0, .inr (10, [.int 0, .ref q41_1, .ref q89_2, .null, .null])), (q41_1, .inr (13, [.int 1, .ref q1_47, .int 0])), (q1_47, .inl ((k 0), 3, .inl (fun _ => 0))), (q89_2, .inr (3, [.int 0, .ref e0, .int 0])), (q100_3, .inr (3, [.int 0, .ref e0, .int 0]))]) (fun _ => rfl) hl.1 rfl (Nat.le_of_ble_eq_true rfl) rfl ⟨Nat.le_of_ble_eq_true rfl, Nat.le_of_ble_eq_true rfl⟩ dX6_init_104 (fun u H locs hq hP hD hS => ?_)
  have hP : va_P D vwCl [(h0, .inr (10, [.int 0, .ref q41_1, .ref q89_2, .null, .null])), (q41_1, .inr (13, [.int 1, .ref q1_47, .int 0])), (q1_47, .inl ((k 0), 3, .inl (fun _ => 0))), (q89_2, .inr (3, [.int 0, .ref e0, .int 0])), (q100_3, .inr (3, [.int 0, .ref e0, .int 0]))] H := hP
  have hD : va_D A [(h0, .inr (10, [.int 0, .ref q41_1, .ref q89_2, .null, .null])), (q41_1, .inr (13, [.int 1, .ref q1_47, .int 0])), (q1_47, .inl ((k 0), 3, .inl (fun _ => 0))), (q89_2, .inr (3, [.int 0, .ref e0, .int 0])), (q100_3, .inr (3, [.int 0, .ref e0, .int 0]))] := hD
  refine va_putF (D := D) (ci := 10) (v := .ref q100_3) (ty := (tyX6 3)) (C := RX6) (T := TX6) (N := 5) hx hb hts iw_X6_init_X6 tyX6 tyX6_ok nmX6 hown hK hP hD hS 0 rfl rfl 3 (by decide) (hts (.fieldLink RX6 39 "ModedMill$Predicate" "clauses" "Ljava/util/ArrayList;") (by decide +kernel)) (fun _ h9 => h9) rfl hin rfl (by decide +kernel) rfl rfl (Nat.le_of_ble_eq_true rfl) dX6_init_107 (fun H locs hP hD hS => ?_)
  have hP : va_P D vwCl [(h0, .inr (10, [.int 0, .ref q41_1, .ref q89_2, .ref q100_3, .null])), (q41_1, .inr (13, [.int 1, .ref q1_47, .int 0])), (q1_47, .inl ((k 0), 3, .inl (fun _ => 0))), (q89_2, .inr (3, [.int 0, .ref e0, .int 0])), (q100_3, .inr (3, [.int 0, .ref e0, .int 0]))] H := hP
  have hD : va_D A [(h0, .inr (10, [.int 0, .ref q41_1, .ref q89_2, .ref q100_3, .null])), (q41_1, .inr (13, [.int 1, .ref q1_47, .int 0])), (q1_47, .inl ((k 0), 3, .inl (fun _ => 0))), (q89_2, .inr (3, [.int 0, .ref e0, .int 0])), (q100_3, .inr (3, [.int 0, .ref e0, .int 0]))] := hD
  refine lv_aload_n hx hb dX6_init_110 rfl (lv_at hl 2 rfl) ?_
  refine va_new (D := D) (ci := 7) (fs := [.int 0, .int 0, .int 0, .null]) (C := RX3) (T := TX3) (N := 4) hx hb hts iw_X6_init_X3 tyX3 tyX3_ok hown (hts (.classLink RX6 42 RX3) (by decide +kernel)) (hts (.instantiable RX3 4) (by decide +kernel)) (hts (.initialized RX3) (by decide +kernel)) hK hP hD hS hA rfl (fun j hj => by rcases (show j = 0 ∨ j = 1 ∨ j = 2 ∨ j = 3 by omega) with rfl | rfl | rfl | rfl <;> rfl) (Nat.le_of_ble_eq_true rfl) (Nat.le_of_ble_eq_true rfl) dX6_init_111 (fun q111_4 H hP hD hS => ?_)
  have hP : va_P D vwCl [(h0, .inr (10, [.int 0, .ref q41_1, .ref q89_2, .ref q100_3, .null])), (q41_1, .inr (13, [.int 1, .ref q1_47, .int 0])), (q1_47, .inl ((k 0), 3, .inl (fun _ => 0))), (q89_2, .inr (3, [.int 0, .ref e0, .int 0])), (q100_3, .inr (3, [.int 0, .ref e0, .int 0])), (q111_4, .inr (7, [.int 0, .int 0, .int 0, .null]))] H := hP
  have hD : va_D A [(h0, .inr (10, [.int 0, .ref q41_1, .ref q89_2, .ref q100_3, .null])), (q41_1, .inr (13, [.int 1, .ref q1_47, .int 0])), (q1_47, .inl ((k 0), 3, .inl (fun _ => 0))), (q89_2, .inr (3, [.int 0, .ref e0, .int 0])), (q100_3, .inr (3, [.int 0, .ref e0, .int 0])), (q111_4, .inr (7, [.int 0, .int 0, .int 0, .null]))] := hD
  refine lv_dup hx hb dX6_init_114 rfl ?_
  refine lv_iconst (v := 2) hx hb dX6_init_115 (by decide) ?_
  refine lv_iload_n hx hb dX6_init_116 rfl (lv_at hl 3 rfl) ?_
  refine lv_iload hx hb dX6_init_117 (lv_at hl 1 rfl) ?_
  refine lv_iconst (v := 0) hx hb dX6_init_119 (by decide) ?_
  refine lv_iconst (v := 1) hx hb dX6_init_120 (by decide) ?_
  refine lv_iconst (v := 2) hx hb dX6_init_121 (by decide) ?_
  refine ov_callI hx hb hml hown hts (f_Goal_init l e0 D k q111_4 2 0 0 0 1 2) (cwI 6 hts gX6_init_X3_init rfl rfl rfl (hts (.initialized RX3) (by decide +kernel)) (hts (.methodLink RX6 44 yX3_init) (by decide +kernel)) (hts (.instanceMethod yX3_init) (by decide +kernel)) rfl (by decide +kernel) ⟨Nat.le_of_ble_eq_true rfl, Nat.le_of_ble_eq_true rfl⟩) hK hP hD hS hA hE [5] [0, 1, 2, 3, 4] rfl rfl (by decide) (by decide) (by decide) (wr := [(h0, .inr (10, [.int 0, .ref q41_1, .ref q89_2, .ref q100_3, .null])), (q41_1, .inr (13, [.int 1, .ref q1_47, .int 0])), (q1_47, .inl ((k 0), 3, .inl (fun _ => 0))), (q89_2, .inr (3, [.int 0, .ref e0, .int 0])), (q100_3, .inr (3, [.int 0, .ref e0, .int 0]))]) (w2 := fun u => [(h0, .inr (10, [.int 0, .ref q41_1, .ref q89_2, .ref q100_3, .null])), (q41_1, .inr (13, [.int 1, .ref q1_47, .int 0])), (q1_47, .inl ((k 0), 3, .inl (fun _ => 0))), (q89_2, .inr (3, [.int 0, .ref e0, .int 0])), (q100_3, .inr (3, [.int 0, .ref e0, .int 0]))]) (fun _ => rfl) hl.1 rfl (Nat.le_of_ble_eq_true rfl) rfl ⟨Nat.le_of_ble_eq_true rfl, Nat.le_of_ble_eq_true rfl⟩ dX6_init_122 (fun u H locs hq hP hD hS => ?_)
  have hP : va_P D vwCl [(h0, .inr (10, [.int 0, .ref q41_1, .ref q89_2, .ref q100_3, .null])), (q41_1, .inr (13, [.int 1, .ref q1_47, .int 0])), (q1_47, .inl ((k 0), 3, .inl (fun _ => 0))), (q89_2, .inr (3, [.int 0, .ref e0, .int 0])), (q100_3, .inr (3, [.int 0, .ref e0, .int 0]))] H := hP
  have hD : va_D A [(h0, .inr (10, [.int 0, .ref q41_1, .ref q89_2, .ref q100_3, .null])), (q41_1, .inr (13, [.int 1, .ref q1_47, .int 0])), (q1_47, .inl ((k 0), 3, .inl (fun _ => 0))), (q89_2, .inr (3, [.int 0, .ref e0, .int 0])), (q100_3, .inr (3, [.int 0, .ref e0, .int 0]))] := hD
  refine va_putF (D := D) (ci := 10) (v := .ref q111_4) (ty := (tyX6 4)) (C := RX6) (T := TX6) (N := 5) hx hb hts iw_X6_init_X6 tyX6 tyX6_ok nmX6 hown hK hP hD hS 0 rfl rfl 4 (by decide) (hts (.fieldLink RX6 47 "ModedMill$Predicate" "question" "LModedMill$Goal;") (by decide +kernel)) (fun _ h9 => h9) rfl hin rfl (by decide +kernel) rfl rfl (Nat.le_of_ble_eq_true rfl) dX6_init_125 (fun H locs hP hD hS => ?_)
  have hP : va_P D vwCl [(h0, .inr (10, [.int 0, .ref q41_1, .ref q89_2, .ref q100_3, .ref q111_4])), (q41_1, .inr (13, [.int 1, .ref q1_47, .int 0])), (q1_47, .inl ((k 0), 3, .inl (fun _ => 0))), (q89_2, .inr (3, [.int 0, .ref e0, .int 0])), (q100_3, .inr (3, [.int 0, .ref e0, .int 0]))] H := hP
  have hD : va_D A [(h0, .inr (10, [.int 0, .ref q41_1, .ref q89_2, .ref q100_3, .ref q111_4])), (q41_1, .inr (13, [.int 1, .ref q1_47, .int 0])), (q1_47, .inl ((k 0), 3, .inl (fun _ => 0))), (q89_2, .inr (3, [.int 0, .ref e0, .int 0])), (q100_3, .inr (3, [.int 0, .ref e0, .int 0]))] := hD
  exact ov_ret hx hb hr hlocks (q41_1, q89_2, q100_3, q111_4) (trivial) hK (hP.sub [0] rfl) (hD.sub [0] (by decide) rfl) hS (Nat.le_of_ble_eq_true rfl) (Nat.le_of_ble_eq_true rfl) dX6_init_128
theorem iw_Jx4a65c_grow_92f84_Jx4a65c : ∀ w ∈ wsJx4a65c0, w ∈ wsJx4a65c_grow_92f84 := by decide +kernel
set_option maxHeartbeats 4000000 in
set_option maxRecDepth 100000 in
theorem f_grow (l : Launch) (e0 : Nat) (D : va_G) (k : Nat → ClassId) (h0 : Nat) : oCq l e0 D (oTy k) yJx4a65c_grow_92f84 wsJx4a65c_grow_92f84 ({ frames := 1, cells := 1, slots := 10, locals := 24 } : Room) [.ref h0, .int 1] [(h0, .inr (3, [.int 1, .ref e0, .int 0]))] (S := Nat) (fun (r : Option Nat) (u : Nat) => r = some u) (fun u => [(h0, .inr (3, [.int 1, .ref u, .int 0])), (u, .inl ((k 7), 10, .inr (.inr (.inr (.inr (fun _ => none))))))]) 1 10 := by
  refine oq_of (cc := cJx4a65c_grow_92f84) (maxL := 4) (ret := (some (.array (.object "java/lang/Object")))) (by decide +kernel) rfl (Nat.le_of_ble_eq_true rfl) ?_
  intro p e s m below meth c A ls hx hb hml hr hts hown hlocks hin hA hK hP hD hS hE hl
  have hl : lv_has ls 4 [(0, .ref h0), (1, .int 1)] := hl
  refine lv_aload_n hx hb dJx4a65c_grow_92f84_0 rfl (lv_at hl 0 rfl) ?_
  refine va_get (D := D) (ci := 3) (v := .ref e0) (C := RJx4a65c) (T := TJx4a65c) (N := 3) hx hb hts iw_Jx4a65c_grow_92f84_Jx4a65c hown hK hP 0 rfl rfl 1 (by decide) (hts (.fieldLink RJx4a65c 9 "java/util/ArrayList" "elementData" "[Ljava/lang/Object;") (by decide +kernel)) (fun _ h9 => h9) rfl dJx4a65c_grow_92f84_1 ?_
  refine o_elen hx hb hE hS dJx4a65c_grow_92f84_4 ?_
  refine lv_istore_n (lv' := [(2, .int 0), (0, .ref h0), (1, .int 1)]) hx hb dJx4a65c_grow_92f84_5 rfl hl (by decide) rfl (fun ls hl => ?_)
  refine lv_iload_n hx hb dJx4a65c_grow_92f84_6 rfl (lv_at hl 0 rfl) ?_
  refine lv_if_gt (tgt := 20) hx hb dJx4a65c_grow_92f84_7 (by decide) (fun c_7 => absurd c_7 (by decide)) (fun c_7 => ?_)
  refine lv_aload_n hx hb dJx4a65c_grow_92f84_10 rfl (lv_at hl 1 rfl) ?_
  refine va_get (D := D) (ci := 3) (v := .ref e0) (C := RJx4a65c) (T := TJx4a65c) (N := 3) hx hb hts iw_Jx4a65c_grow_92f84_Jx4a65c hown hK hP 0 rfl rfl 1 (by decide) (hts (.fieldLink RJx4a65c 9 "java/util/ArrayList" "elementData" "[Ljava/lang/Object;") (by decide +kernel)) (fun _ h9 => h9) rfl dJx4a65c_grow_92f84_11 ?_
  refine va_gets hx hb hE.2.2.1 hS hown (hts (.fieldLink RJx4a65c 39 "java/util/ArrayList" "DEFAULTCAPACITY_EMPTY_ELEMENTDATA" "[Ljava/lang/Object;") (by decide +kernel)) (fun _ h9 => h9) dJx4a65c_grow_92f84_14 ?_
  refine lv_acmp_eq (rx := some e0) (ry := some e0) (tgt := 45) hx hb dJx4a65c_grow_92f84_17 (by decide) (fun c9 => ?_) (fun c9 => absurd rfl c9)
  refine lv_aload_n hx hb dJx4a65c_grow_92f84_45 rfl (lv_at hl 1 rfl) ?_
  refine lv_bipush (v := 10) hx hb dJx4a65c_grow_92f84_46 (by decide) ?_
  refine lv_iload_n hx hb dJx4a65c_grow_92f84_48 rfl (lv_at hl 2 rfl) ?_
  refine va_mmax hx hb (by rw [hml]; exact hl.1.symm) hown (hts (.methodLink RJx4a65c 79 Lib.Math.max.name) (by decide +kernel)) (hts (.static Lib.Math.max.name) (by decide +kernel)) (hts (.initialized "java/lang/Math") (by decide +kernel)) (hts (.code Lib.Math.max.name Lib.Math.max.code 2 (some .int)) (by decide +kernel)) (Nat.le_of_ble_eq_true rfl) (Nat.le_of_ble_eq_true rfl) (Nat.le_of_ble_eq_true rfl) (Nat.le_of_ble_eq_true rfl) dJx4a65c_grow_92f84_49 ?_
  refine o_top (v := 10) (by decide) ?_
  refine o_newq (C0 := "java/lang/Object") 7 rfl hx hb hown (hts (.classLink RJx4a65c 7 "java/lang/Object") (by decide +kernel)) (hE.2.2.2.2.2.1 _ (Or.inr (Or.inr rfl))) hK hP hD hS hA (N' := 10) (by decide) rfl (Nat.le_of_ble_eq_true rfl) (Nat.le_of_ble_eq_true rfl) (Nat.le_of_ble_eq_true rfl) dJx4a65c_grow_92f84_52 (fun q52_1 H hP hD hS => ?_)
  have hP : va_P D vwCl [(h0, .inr (3, [.int 1, .ref e0, .int 0])), (q52_1, .inl ((k 7), 10, .inr (.inr (.inr (.inr (fun _ => none))))))] H := hP
  have hD : va_D A [(h0, .inr (3, [.int 1, .ref e0, .int 0])), (q52_1, .inl ((k 7), 10, .inr (.inr (.inr (.inr (fun _ => none))))))] := hD
  refine lv_dup_x1 hx hb dJx4a65c_grow_92f84_55 rfl rfl ?_
  refine va_put (D := D) (ci := 3) (v := .ref q52_1) (ty := (tyJx4a65c 1)) (C := RJx4a65c) (T := TJx4a65c) (N := 3) hx hb hts iw_Jx4a65c_grow_92f84_Jx4a65c tyJx4a65c tyJx4a65c_ok nmJx4a65c hown hK hP hD hS 0 rfl rfl 1 (by decide) (hts (.fieldLink RJx4a65c 9 "java/util/ArrayList" "elementData" "[Ljava/lang/Object;") (by decide +kernel)) (fun _ h9 => h9) rfl (by decide +kernel) rfl rfl (Nat.le_of_ble_eq_true rfl) dJx4a65c_grow_92f84_56 (fun H locs hP hD hS => ?_)
  have hP : va_P D vwCl [(h0, .inr (3, [.int 1, .ref q52_1, .int 0])), (q52_1, .inl ((k 7), 10, .inr (.inr (.inr (.inr (fun _ => none))))))] H := hP
  have hD : va_D A [(h0, .inr (3, [.int 1, .ref q52_1, .int 0])), (q52_1, .inl ((k 7), 10, .inr (.inr (.inr (.inr (fun _ => none))))))] := hD
  exact oq_ret hx hb hr (Or.inr ⟨_, rfl⟩) hlocks (some q52_1) rfl q52_1 (rfl) hK (hP.sub [0, 1] rfl) (hD.sub [0, 1] (by decide) rfl) hS (Nat.le_of_ble_eq_true rfl) (Nat.le_of_ble_eq_true rfl) dJx4a65c_grow_92f84_59
theorem iw_Jx4a65c_grow_d5877_Jx4a65c : ∀ w ∈ wsJx4a65c0, w ∈ wsJx4a65c_grow_d5877 := by decide +kernel
set_option maxHeartbeats 4000000 in
set_option maxRecDepth 100000 in
theorem f_grow0 (l : Launch) (e0 : Nat) (D : va_G) (k : Nat → ClassId) (h0 : Nat) : oCq l e0 D (oTy k) yJx4a65c_grow_d5877 wsJx4a65c_grow_d5877 ({ frames := 2, cells := 1, slots := 10, locals := 47 } : Room) [.ref h0] [(h0, .inr (3, [.int 1, .ref e0, .int 0]))] (S := Nat) (fun (r : Option Nat) (u : Nat) => r = some u) (fun u => [(h0, .inr (3, [.int 1, .ref u, .int 0])), (u, .inl ((k 7), 10, .inr (.inr (.inr (.inr (fun _ => none))))))]) 1 10 := by
  refine oq_of (cc := cJx4a65c_grow_d5877) (maxL := 1) (ret := (some (.array (.object "java/lang/Object")))) (by decide +kernel) rfl (Nat.le_of_ble_eq_true rfl) ?_
  intro p e s m below meth c A ls hx hb hml hr hts hown hlocks hin hA hK hP hD hS hE hl
  have hl : lv_has ls 1 [(0, .ref h0)] := hl
  refine lv_aload_n hx hb dJx4a65c_grow_d5877_0 rfl (lv_at hl 0 rfl) ?_
  refine lv_aload_n hx hb dJx4a65c_grow_d5877_1 rfl (lv_at hl 0 rfl) ?_
  refine va_get (D := D) (ci := 3) (v := .int 0) (C := RJx4a65c) (T := TJx4a65c) (N := 3) hx hb hts iw_Jx4a65c_grow_d5877_Jx4a65c hown hK hP 0 rfl rfl 2 (by decide) (hts (.fieldLink RJx4a65c 48 "java/util/ArrayList" "size" "I") (by decide +kernel)) (fun _ h9 => h9) rfl dJx4a65c_grow_d5877_2 ?_
  refine lv_iconst (v := 1) hx hb dJx4a65c_grow_d5877_5 (by decide) ?_
  refine lv_iadd hx hb dJx4a65c_grow_d5877_6 ?_
  refine o_top (v := 1) (by decide) ?_
  refine oq_callV hx hb hml hown hts (f_grow l e0 D k h0) (cwV 1 hts gJx4a65c_grow_d5877_Jx4a65c_grow_92f84 rfl rfl rfl (by decide +kernel) ⟨Nat.le_of_ble_eq_true rfl, Nat.le_of_ble_eq_true rfl⟩) hK hP hD hS hA hE [0] [] rfl rfl (by decide) (by decide) (by decide) (wr := []) (w2 := fun u => [(h0, .inr (3, [.int 1, .ref u, .int 0])), (u, .inl ((k 7), 10, .inr (.inr (.inr (.inr (fun _ => none))))))]) (fun _ => rfl) 0 3 rfl rfl rfl hl.1 rfl (Nat.le_of_ble_eq_true rfl) rfl ⟨Nat.le_of_ble_eq_true rfl, Nat.le_of_ble_eq_true rfl⟩ dJx4a65c_grow_d5877_7 (fun r u H locs hq hP hD hS => ?_)
  obtain ⟨da_7, hu9⟩ : ∃ z, z = u := ⟨_, rfl⟩; subst hu9
  have er : r = some da_7 := hq
  subst er
  have hP : va_P D vwCl [(h0, .inr (3, [.int 1, .ref da_7, .int 0])), (da_7, .inl ((k 7), 10, .inr (.inr (.inr (.inr (fun _ => none))))))] H := hP
  have hD : va_D A [(h0, .inr (3, [.int 1, .ref da_7, .int 0])), (da_7, .inl ((k 7), 10, .inr (.inr (.inr (.inr (fun _ => none))))))] := hD
  exact oq_ret hx hb hr (Or.inr ⟨_, rfl⟩) hlocks (some da_7) rfl da_7 (rfl) hK (hP.sub [0, 1] rfl) (hD.sub [0, 1] (by decide) rfl) hS (Nat.le_of_ble_eq_true rfl) (Nat.le_of_ble_eq_true rfl) dJx4a65c_grow_d5877_10
theorem iw_Jx4a65c_add_72be8_Jx4a65c : ∀ w ∈ wsJx4a65c0, w ∈ wsJx4a65c_add_72be8 := by decide +kernel
set_option maxHeartbeats 4000000 in
set_option maxRecDepth 100000 in
theorem f_add3 (l : Launch) (e0 : Nat) (D : va_G) (k : Nat → ClassId) (h0 : Nat) (qe : Nat) (t6 : Nat) (m6 : Nat) (c6 : Nat) (g6 : Nat) : oCv l e0 D (oTy k) yJx4a65c_add_72be8 wsJx4a65c_add_72be8 ({ frames := 3, cells := 1, slots := 10, locals := 67 } : Room) [.ref h0, .ref qe, .ref e0, .int 0] [(h0, .inr (3, [.int 1, .ref e0, .int 0])), (qe, .inr (10, [.int 0, .ref t6, .ref m6, .ref c6, .ref g6]))] (S := Nat) (fun (u : Nat) => True) (fun u => [(h0, .inr (3, [.int 1, .ref u, .int 1]))]) 1 10 := by
  refine ov_of (cc := cJx4a65c_add_72be8) (maxL := 4) (ret := none) (by decide +kernel) rfl (Nat.le_of_ble_eq_true rfl) ?_
  intro p e s m below meth c A ls hx hb hml hr hts hown hlocks hin hA hK hP hD hS hE hl
  have hl : lv_has ls 4 [(0, .ref h0), (1, .ref qe), (2, .ref e0), (3, .int 0)] := hl
  refine lv_iload_n hx hb dJx4a65c_add_72be8_0 rfl (lv_at hl 3 rfl) ?_
  refine lv_aload_n hx hb dJx4a65c_add_72be8_1 rfl (lv_at hl 2 rfl) ?_
  refine o_elen hx hb hE hS dJx4a65c_add_72be8_2 ?_
  refine lv_icmp_ne (tgt := 11) hx hb dJx4a65c_add_72be8_3 (by decide) (fun c_3 => absurd c_3 (by decide)) (fun c_3 => ?_)
  refine lv_aload_n hx hb dJx4a65c_add_72be8_6 rfl (lv_at hl 0 rfl) ?_
  refine oq_callV hx hb hml hown hts (f_grow0 l e0 D k h0) (cwV 0 hts gJx4a65c_add_72be8_Jx4a65c_grow_d5877 rfl rfl rfl (by decide +kernel) ⟨Nat.le_of_ble_eq_true rfl, Nat.le_of_ble_eq_true rfl⟩) hK hP hD hS hA hE [0] [1] rfl rfl (by decide) (by decide) (by decide) (wr := [(qe, .inr (10, [.int 0, .ref t6, .ref m6, .ref c6, .ref g6]))]) (w2 := fun u => [(qe, .inr (10, [.int 0, .ref t6, .ref m6, .ref c6, .ref g6])), (h0, .inr (3, [.int 1, .ref u, .int 0])), (u, .inl ((k 7), 10, .inr (.inr (.inr (.inr (fun _ => none))))))]) (fun _ => rfl) 0 3 rfl rfl rfl hl.1 rfl (Nat.le_of_ble_eq_true rfl) rfl ⟨Nat.le_of_ble_eq_true rfl, Nat.le_of_ble_eq_true rfl⟩ dJx4a65c_add_72be8_7 (fun r u H locs hq hP hD hS => ?_)
  obtain ⟨da_7, hu9⟩ : ∃ z, z = u := ⟨_, rfl⟩; subst hu9
  have er : r = some da_7 := hq
  subst er
  have hP : va_P D vwCl [(qe, .inr (10, [.int 0, .ref t6, .ref m6, .ref c6, .ref g6])), (h0, .inr (3, [.int 1, .ref da_7, .int 0])), (da_7, .inl ((k 7), 10, .inr (.inr (.inr (.inr (fun _ => none))))))] H := hP
  have hD : va_D A [(qe, .inr (10, [.int 0, .ref t6, .ref m6, .ref c6, .ref g6])), (h0, .inr (3, [.int 1, .ref da_7, .int 0])), (da_7, .inl ((k 7), 10, .inr (.inr (.inr (.inr (fun _ => none))))))] := hD
  refine lv_astore_n (lv' := [(2, .ref da_7), (0, .ref h0), (1, .ref qe), (3, .int 0)]) hx hb dJx4a65c_add_72be8_10 rfl hl (by decide) rfl (fun ls hl => ?_)
  refine lv_aload_n hx hb dJx4a65c_add_72be8_11 rfl (lv_at hl 0 rfl) ?_
  refine lv_iload_n hx hb dJx4a65c_add_72be8_12 rfl (lv_at hl 3 rfl) ?_
  refine lv_aload_n hx hb dJx4a65c_add_72be8_13 rfl (lv_at hl 2 rfl) ?_
  refine va_astqO hx hb hK hP hD hS 2 7 0 10 (r := (RX6, TX6, 5)) rfl rfl (hE.2.2.2.2.1 _ _ (Or.inr ⟨rfl, Or.inl rfl⟩)) rfl rfl (vp_in_nI (n := 0) (by decide) (by decide)) dJx4a65c_add_72be8_14 (fun H locs hP hD hS => ?_)
  have hP : va_P D vwCl [(qe, .inr (10, [.int 0, .ref t6, .ref m6, .ref c6, .ref g6])), (h0, .inr (3, [.int 1, .ref da_7, .int 0])), (da_7, .inl ((k 7), 10, .inr (.inr (.inr (.inr (va_up (fun _ => none) (0 : Int32).toNatClampNeg (some qe)))))))] H := hP
  have hD : va_D A [(qe, .inr (10, [.int 0, .ref t6, .ref m6, .ref c6, .ref g6])), (h0, .inr (3, [.int 1, .ref da_7, .int 0])), (da_7, .inl ((k 7), 10, .inr (.inr (.inr (.inr (va_up (fun _ => none) (0 : Int32).toNatClampNeg (some qe)))))))] := hD
  refine lv_aload_n hx hb dJx4a65c_add_72be8_15 rfl (lv_at hl 1 rfl) ?_
  refine lv_iload_n hx hb dJx4a65c_add_72be8_16 rfl (lv_at hl 3 rfl) ?_
  refine lv_iconst (v := 1) hx hb dJx4a65c_add_72be8_17 (by decide) ?_
  refine lv_iadd hx hb dJx4a65c_add_72be8_18 ?_
  refine o_top (v := 1) (by decide) ?_
  refine va_put (D := D) (ci := 3) (v := .int 1) (ty := .int) (C := RJx4a65c) (T := TJx4a65c) (N := 3) hx hb hts iw_Jx4a65c_add_72be8_Jx4a65c tyJx4a65c tyJx4a65c_ok nmJx4a65c hown hK hP hD hS 1 rfl rfl 2 (by decide) (hts (.fieldLink RJx4a65c 48 "java/util/ArrayList" "size" "I") (by decide +kernel)) (fun _ h9 => h9) rfl (by decide +kernel) rfl rfl (Nat.le_of_ble_eq_true rfl) dJx4a65c_add_72be8_19 (fun H locs hP hD hS => ?_)
  have hP : va_P D vwCl [(qe, .inr (10, [.int 0, .ref t6, .ref m6, .ref c6, .ref g6])), (h0, .inr (3, [.int 1, .ref da_7, .int 1])), (da_7, .inl ((k 7), 10, .inr (.inr (.inr (.inr (va_up (fun _ => none) (0 : Int32).toNatClampNeg (some qe)))))))] H := hP
  have hD : va_D A [(qe, .inr (10, [.int 0, .ref t6, .ref m6, .ref c6, .ref g6])), (h0, .inr (3, [.int 1, .ref da_7, .int 1])), (da_7, .inl ((k 7), 10, .inr (.inr (.inr (.inr (va_up (fun _ => none) (0 : Int32).toNatClampNeg (some qe)))))))] := hD
  exact ov_ret hx hb hr hlocks da_7 (trivial) hK (hP.sub [1] rfl) (hD.sub [1] (by decide) rfl) hS (Nat.le_of_ble_eq_true rfl) (Nat.le_of_ble_eq_true rfl) dJx4a65c_add_72be8_22
theorem iw_Jx4a65c_add_9ea2d_Jx4a65c : ∀ w ∈ wsJx4a65c0, w ∈ wsJx4a65c_add_9ea2d := by decide +kernel
set_option maxHeartbeats 4000000 in
set_option maxRecDepth 100000 in
theorem f_add1 (l : Launch) (e0 : Nat) (D : va_G) (k : Nat → ClassId) (h0 : Nat) (qe : Nat) (t6 : Nat) (m6 : Nat) (c6 : Nat) (g6 : Nat) : oCi l e0 D (oTy k) yJx4a65c_add_9ea2d wsJx4a65c_add_9ea2d ({ frames := 4, cells := 1, slots := 10, locals := 90 } : Room) [.ref h0, .ref qe] [(h0, .inr (3, [.int 0, .ref e0, .int 0])), (qe, .inr (10, [.int 0, .ref t6, .ref m6, .ref c6, .ref g6]))] (S := Nat) (fun (r : Int32) (u : Nat) => r = 1) (fun u => [(h0, .inr (3, [.int 1, .ref u, .int 1]))]) 1 10 := by
  refine oi_of (cc := cJx4a65c_add_9ea2d) (maxL := 2) (ret := (some .boolean)) (by decide +kernel) rfl (Nat.le_of_ble_eq_true rfl) ?_
  intro p e s m below meth c A ls hx hb hml hr hts hown hlocks hin hA hK hP hD hS hE hl
  have hl : lv_has ls 2 [(0, .ref h0), (1, .ref qe)] := hl
  refine lv_aload_n hx hb dJx4a65c_add_9ea2d_0 rfl (lv_at hl 0 rfl) ?_
  refine lv_dup hx hb dJx4a65c_add_9ea2d_1 rfl ?_
  refine va_get (D := D) (ci := 3) (v := .int 0) (C := RJx4a65c) (T := TJx4a65c) (N := 3) hx hb hts iw_Jx4a65c_add_9ea2d_Jx4a65c hown hK hP 0 rfl rfl 0 (by decide) (hts (.fieldLink RJx4a65c 63 "java/util/ArrayList" "modCount" "I") (by decide +kernel)) (fun x9 h9 => u_same (hts (.sameField "java/util/ArrayList" "java/util/AbstractList" "modCount" "I") (by decide +kernel)) x9 h9) rfl dJx4a65c_add_9ea2d_2 ?_
  refine lv_iconst (v := 1) hx hb dJx4a65c_add_9ea2d_5 (by decide) ?_
  refine lv_iadd hx hb dJx4a65c_add_9ea2d_6 ?_
  refine o_top (v := 1) (by decide) ?_
  refine va_put (D := D) (ci := 3) (v := .int 1) (ty := .int) (C := RJx4a65c) (T := TJx4a65c) (N := 3) hx hb hts iw_Jx4a65c_add_9ea2d_Jx4a65c tyJx4a65c tyJx4a65c_ok nmJx4a65c hown hK hP hD hS 0 rfl rfl 0 (by decide) (hts (.fieldLink RJx4a65c 63 "java/util/ArrayList" "modCount" "I") (by decide +kernel)) (fun x9 h9 => u_same (hts (.sameField "java/util/ArrayList" "java/util/AbstractList" "modCount" "I") (by decide +kernel)) x9 h9) rfl (by decide +kernel) rfl rfl (Nat.le_of_ble_eq_true rfl) dJx4a65c_add_9ea2d_7 (fun H locs hP hD hS => ?_)
  have hP : va_P D vwCl [(h0, .inr (3, [.int 1, .ref e0, .int 0])), (qe, .inr (10, [.int 0, .ref t6, .ref m6, .ref c6, .ref g6]))] H := hP
  have hD : va_D A [(h0, .inr (3, [.int 1, .ref e0, .int 0])), (qe, .inr (10, [.int 0, .ref t6, .ref m6, .ref c6, .ref g6]))] := hD
  refine lv_aload_n hx hb dJx4a65c_add_9ea2d_10 rfl (lv_at hl 0 rfl) ?_
  refine lv_aload_n hx hb dJx4a65c_add_9ea2d_11 rfl (lv_at hl 1 rfl) ?_
  refine lv_aload_n hx hb dJx4a65c_add_9ea2d_12 rfl (lv_at hl 0 rfl) ?_
  refine va_get (D := D) (ci := 3) (v := .ref e0) (C := RJx4a65c) (T := TJx4a65c) (N := 3) hx hb hts iw_Jx4a65c_add_9ea2d_Jx4a65c hown hK hP 0 rfl rfl 1 (by decide) (hts (.fieldLink RJx4a65c 9 "java/util/ArrayList" "elementData" "[Ljava/lang/Object;") (by decide +kernel)) (fun _ h9 => h9) rfl dJx4a65c_add_9ea2d_13 ?_
  refine lv_aload_n hx hb dJx4a65c_add_9ea2d_16 rfl (lv_at hl 0 rfl) ?_
  refine va_get (D := D) (ci := 3) (v := .int 0) (C := RJx4a65c) (T := TJx4a65c) (N := 3) hx hb hts iw_Jx4a65c_add_9ea2d_Jx4a65c hown hK hP 0 rfl rfl 2 (by decide) (hts (.fieldLink RJx4a65c 48 "java/util/ArrayList" "size" "I") (by decide +kernel)) (fun _ h9 => h9) rfl dJx4a65c_add_9ea2d_17 ?_
  refine ov_callV hx hb hml hown hts (f_add3 l e0 D k h0 qe t6 m6 c6 g6) (cwV 3 hts gJx4a65c_add_9ea2d_Jx4a65c_add_72be8 rfl rfl rfl (by decide +kernel) ⟨Nat.le_of_ble_eq_true rfl, Nat.le_of_ble_eq_true rfl⟩) hK hP hD hS hA hE [0, 1] [] rfl rfl (by decide) (by decide) (by decide) (wr := []) (w2 := fun u => [(h0, .inr (3, [.int 1, .ref u, .int 1]))]) (fun _ => rfl) 0 3 rfl rfl rfl hl.1 rfl (Nat.le_of_ble_eq_true rfl) rfl ⟨Nat.le_of_ble_eq_true rfl, Nat.le_of_ble_eq_true rfl⟩ dJx4a65c_add_9ea2d_20 (fun u H locs hq hP hD hS => ?_)
  obtain ⟨da_20, hu9⟩ : ∃ z, z = u := ⟨_, rfl⟩; subst hu9
  have hP : va_P D vwCl [(h0, .inr (3, [.int 1, .ref da_20, .int 1]))] H := hP
  have hD : va_D A [(h0, .inr (3, [.int 1, .ref da_20, .int 1]))] := hD
  refine lv_iconst (v := 1) hx hb dJx4a65c_add_9ea2d_23 (by decide) ?_
  exact oi_ret hx hb hr hlocks (by decide +kernel) da_20 (rfl) hK (hP.sub [0] rfl) (hD.sub [0] (by decide) rfl) hS (Nat.le_of_ble_eq_true rfl) (Nat.le_of_ble_eq_true rfl) dJx4a65c_add_9ea2d_24
theorem iw_X7_newPredicate_X6 : ∀ w ∈ wsX60, w ∈ wsX7_newPredicate := by decide +kernel
theorem iw_X7_newPredicate_X7 : ∀ w ∈ wsX70, w ∈ wsX7_newPredicate := by decide +kernel
set_option maxHeartbeats 4000000 in
set_option maxRecDepth 100000 in
theorem f_newPredicate (l : Launch) (e0 : Nat) (D : va_G) (k : Nat → ClassId) (pg : Nat) (pla : Nat) (plb : Nat) (plc : Nat) : oCi l e0 D (oTy k) yX7_newPredicate wsX7_newPredicate ({ frames := 5, cells := 8, slots := 34, locals := 111 } : Room) [.ref pg, .int (-1), .int (-1), .int (-1)] [(pg, .inr (11, [.ref pla, .ref plb, .ref plc])), (pla, .inr (3, [.int 0, .ref e0, .int 0]))] (S := Unit) (fun (r : Int32) (u : Unit) => r = 0) (fun u => []) 8 34 := by
  refine oi_of (cc := cX7_newPredicate) (maxL := 4) (ret := (some .int)) (by decide +kernel) rfl (Nat.le_of_ble_eq_true rfl) ?_
  intro p e s m below meth c A ls hx hb hml hr hts hown hlocks hin hA hK hP hD hS hE hl
  have hl : lv_has ls 4 [(0, .ref pg), (1, .int (-1)), (2, .int (-1)), (3, .int (-1))] := hl
  refine lv_aload_n hx hb dX7_newPredicate_0 rfl (lv_at hl 0 rfl) ?_
  refine va_get (D := D) (ci := 11) (v := .ref pla) (C := RX7) (T := TX7) (N := 3) hx hb hts iw_X7_newPredicate_X7 hown hK hP 0 rfl rfl 0 (by decide) (hts (.fieldLink RX7 12 "ModedMill$Program" "predicates" "Ljava/util/ArrayList;") (by decide +kernel)) (fun _ h9 => h9) rfl dX7_newPredicate_1 ?_
  refine va_new (D := D) (ci := 10) (fs := [.int 0, .null, .null, .null, .null]) (C := RX6) (T := TX6) (N := 5) hx hb hts iw_X7_newPredicate_X6 tyX6 tyX6_ok hown (hts (.classLink RX7 32 RX6) (by decide +kernel)) (hts (.instantiable RX6 5) (by decide +kernel)) (hts (.initialized RX6) (by decide +kernel)) hK hP hD hS hA rfl (fun j hj => by rcases (show j = 0 ∨ j = 1 ∨ j = 2 ∨ j = 3 ∨ j = 4 by omega) with rfl | rfl | rfl | rfl | rfl <;> rfl) (Nat.le_of_ble_eq_true rfl) (Nat.le_of_ble_eq_true rfl) dX7_newPredicate_4 (fun q4_1 H hP hD hS => ?_)
  have hP : va_P D vwCl [(pg, .inr (11, [.ref pla, .ref plb, .ref plc])), (pla, .inr (3, [.int 0, .ref e0, .int 0])), (q4_1, .inr (10, [.int 0, .null, .null, .null, .null]))] H := hP
  have hD : va_D A [(pg, .inr (11, [.ref pla, .ref plb, .ref plc])), (pla, .inr (3, [.int 0, .ref e0, .int 0])), (q4_1, .inr (10, [.int 0, .null, .null, .null, .null]))] := hD
  refine lv_dup hx hb dX7_newPredicate_7 rfl ?_
  refine lv_aload_n hx hb dX7_newPredicate_8 rfl (lv_at hl 0 rfl) ?_
  refine va_get (D := D) (ci := 11) (v := .ref pla) (C := RX7) (T := TX7) (N := 3) hx hb hts iw_X7_newPredicate_X7 hown hK hP 0 rfl rfl 0 (by decide) (hts (.fieldLink RX7 12 "ModedMill$Program" "predicates" "Ljava/util/ArrayList;") (by decide +kernel)) (fun _ h9 => h9) rfl dX7_newPredicate_9 ?_
  refine oi_callV hx hb hml hown hts (f_size l e0 D k pla 0 e0 0) (cwV 0 hts gX7_newPredicate_Jx4a65c_size_8abf5 rfl rfl rfl (by decide +kernel) ⟨Nat.le_of_ble_eq_true rfl, Nat.le_of_ble_eq_true rfl⟩) hK hP hD hS hA hE [1] [0, 2] rfl rfl (by decide) (by decide) (by decide) (wr := [(pg, .inr (11, [.ref pla, .ref plb, .ref plc])), (q4_1, .inr (10, [.int 0, .null, .null, .null, .null]))]) (w2 := fun u => [(pg, .inr (11, [.ref pla, .ref plb, .ref plc])), (q4_1, .inr (10, [.int 0, .null, .null, .null, .null])), (pla, .inr (3, [.int 0, .ref e0, .int 0]))]) (fun _ => rfl) 0 3 rfl rfl rfl hl.1 rfl (Nat.le_of_ble_eq_true rfl) rfl ⟨Nat.le_of_ble_eq_true rfl, Nat.le_of_ble_eq_true rfl⟩ dX7_newPredicate_12 (fun r u H locs hq hP hD hS => ?_)
  have er : r = 0 := hq
  subst er
  have hP : va_P D vwCl [(pg, .inr (11, [.ref pla, .ref plb, .ref plc])), (q4_1, .inr (10, [.int 0, .null, .null, .null, .null])), (pla, .inr (3, [.int 0, .ref e0, .int 0]))] H := hP
  have hD : va_D A [(pg, .inr (11, [.ref pla, .ref plb, .ref plc])), (q4_1, .inr (10, [.int 0, .null, .null, .null, .null])), (pla, .inr (3, [.int 0, .ref e0, .int 0]))] := hD
  refine lv_iload_n hx hb dX7_newPredicate_15 rfl (lv_at hl 1 rfl) ?_
  refine lv_iload_n hx hb dX7_newPredicate_16 rfl (lv_at hl 2 rfl) ?_
  refine lv_iload_n hx hb dX7_newPredicate_17 rfl (lv_at hl 3 rfl) ?_
  refine ov_callI hx hb hml hown hts (f_Predicate_init l e0 D k q4_1) (cwI 4 hts gX7_newPredicate_X6_init rfl rfl rfl (hts (.initialized RX6) (by decide +kernel)) (hts (.methodLink RX7 44 yX6_init) (by decide +kernel)) (hts (.instanceMethod yX6_init) (by decide +kernel)) rfl (by decide +kernel) ⟨Nat.le_of_ble_eq_true rfl, Nat.le_of_ble_eq_true rfl⟩) hK hP hD hS hA hE [1] [0, 2] rfl rfl (by decide) (by decide) (by decide) (wr := [(pg, .inr (11, [.ref pla, .ref plb, .ref plc])), (pla, .inr (3, [.int 0, .ref e0, .int 0]))]) (w2 := fun u => [(pg, .inr (11, [.ref pla, .ref plb, .ref plc])), (pla, .inr (3, [.int 0, .ref e0, .int 0])), (q4_1, .inr (10, [.int 0, .ref u.1, .ref u.2.1, .ref u.2.2.1, .ref u.2.2.2]))]) (fun _ => rfl) hl.1 rfl (Nat.le_of_ble_eq_true rfl) rfl ⟨Nat.le_of_ble_eq_true rfl, Nat.le_of_ble_eq_true rfl⟩ dX7_newPredicate_18 (fun u H locs hq hP hD hS => ?_)
  obtain ⟨t6_18, m6_18, c6_18, g6_18⟩ := u
  have hP : va_P D vwCl [(pg, .inr (11, [.ref pla, .ref plb, .ref plc])), (pla, .inr (3, [.int 0, .ref e0, .int 0])), (q4_1, .inr (10, [.int 0, .ref t6_18, .ref m6_18, .ref c6_18, .ref g6_18]))] H := hP
  have hD : va_D A [(pg, .inr (11, [.ref pla, .ref plb, .ref plc])), (pla, .inr (3, [.int 0, .ref e0, .int 0])), (q4_1, .inr (10, [.int 0, .ref t6_18, .ref m6_18, .ref c6_18, .ref g6_18]))] := hD
  refine oi_callV hx hb hml hown hts (f_add1 l e0 D k pla q4_1 t6_18 m6_18 c6_18 g6_18) (cwV 1 hts gX7_newPredicate_Jx4a65c_add_9ea2d rfl rfl rfl (by decide +kernel) ⟨Nat.le_of_ble_eq_true rfl, Nat.le_of_ble_eq_true rfl⟩) hK hP hD hS hA hE [1, 2] [0] rfl rfl (by decide) (by decide) (by decide) (wr := [(pg, .inr (11, [.ref pla, .ref plb, .ref plc]))]) (w2 := fun u => [(pg, .inr (11, [.ref pla, .ref plb, .ref plc])), (pla, .inr (3, [.int 1, .ref u, .int 1]))]) (fun _ => rfl) 0 3 rfl rfl rfl hl.1 rfl (Nat.le_of_ble_eq_true rfl) rfl ⟨Nat.le_of_ble_eq_true rfl, Nat.le_of_ble_eq_true rfl⟩ dX7_newPredicate_21 (fun r u H locs hq hP hD hS => ?_)
  obtain ⟨da_21, hu9⟩ : ∃ z, z = u := ⟨_, rfl⟩; subst hu9
  have er : r = 1 := hq
  subst er
  have hP : va_P D vwCl [(pg, .inr (11, [.ref pla, .ref plb, .ref plc])), (pla, .inr (3, [.int 1, .ref da_21, .int 1]))] H := hP
  have hD : va_D A [(pg, .inr (11, [.ref pla, .ref plb, .ref plc])), (pla, .inr (3, [.int 1, .ref da_21, .int 1]))] := hD
  refine lv_pop hx hb dX7_newPredicate_24 rfl ?_
  refine lv_aload_n hx hb dX7_newPredicate_25 rfl (lv_at hl 0 rfl) ?_
  refine va_get (D := D) (ci := 11) (v := .ref pla) (C := RX7) (T := TX7) (N := 3) hx hb hts iw_X7_newPredicate_X7 hown hK hP 0 rfl rfl 0 (by decide) (hts (.fieldLink RX7 12 "ModedMill$Program" "predicates" "Ljava/util/ArrayList;") (by decide +kernel)) (fun _ h9 => h9) rfl dX7_newPredicate_26 ?_
  refine oi_callV hx hb hml hown hts (f_size l e0 D k pla 1 da_21 1) (cwV 0 hts gX7_newPredicate_Jx4a65c_size_8abf5 rfl rfl rfl (by decide +kernel) ⟨Nat.le_of_ble_eq_true rfl, Nat.le_of_ble_eq_true rfl⟩) hK hP hD hS hA hE [1] [0] rfl rfl (by decide) (by decide) (by decide) (wr := [(pg, .inr (11, [.ref pla, .ref plb, .ref plc]))]) (w2 := fun u => [(pg, .inr (11, [.ref pla, .ref plb, .ref plc])), (pla, .inr (3, [.int 1, .ref da_21, .int 1]))]) (fun _ => rfl) 0 3 rfl rfl rfl hl.1 rfl (Nat.le_of_ble_eq_true rfl) rfl ⟨Nat.le_of_ble_eq_true rfl, Nat.le_of_ble_eq_true rfl⟩ dX7_newPredicate_29 (fun r u H locs hq hP hD hS => ?_)
  have er : r = 1 := hq
  subst er
  have hP : va_P D vwCl [(pg, .inr (11, [.ref pla, .ref plb, .ref plc])), (pla, .inr (3, [.int 1, .ref da_21, .int 1]))] H := hP
  have hD : va_D A [(pg, .inr (11, [.ref pla, .ref plb, .ref plc])), (pla, .inr (3, [.int 1, .ref da_21, .int 1]))] := hD
  refine lv_iconst (v := 1) hx hb dX7_newPredicate_32 (by decide) ?_
  refine lv_isub hx hb dX7_newPredicate_33 ?_
  refine o_top (v := 0) (by decide) ?_
  exact oi_ret hx hb hr hlocks rfl () (rfl) hK (hP.sub [] rfl) (hD.sub [] (by decide) rfl) hS (Nat.le_of_ble_eq_true rfl) (Nat.le_of_ble_eq_true rfl) dX7_newPredicate_34
theorem iw_X11_addPredicate_X11 : ∀ w ∈ wsX110, w ∈ wsX11_addPredicate := by decide +kernel
set_option maxHeartbeats 4000000 in
set_option maxRecDepth 100000 in
theorem f_addPredicate_ok (l : Launch) (e0 : Nat) (D : va_G) (k : Nat → ClassId) (h0 : Nat) (st : Nat) (pg : Nat) (mc : Nat) (br : Nat) (la : Nat) (sp : Nat) (sta : Nat) (stb : Nat) (stc : Nat) (std : Nat) (pla : Nat) (plb : Nat) (plc : Nat) : oCi l e0 D (oTy k) yX11_addPredicate wsX11_addPredicate ({ frames := 6, cells := 8, slots := 34, locals := 134 } : Room) [.ref h0, .int (-1), .int (-1), .int (-1)] [(h0, .inr (15, [.ref st, .ref pg, .ref mc, .ref br, .ref la, .ref sp, .int 0, .int 0, .long 0])), (st, .inr (14, [.int 0, .ref sta, .ref stb, .ref stc, .ref std])), (pg, .inr (11, [.ref pla, .ref plb, .ref plc])), (pla, .inr (3, [.int 0, .ref e0, .int 0]))] (S := Unit) (fun (r : Int32) (u : Unit) => r = 0) (fun u => []) 8 34 := by
  refine oi_of (cc := cX11_addPredicate) (maxL := 4) (ret := (some .int)) (by decide +kernel) rfl (Nat.le_of_ble_eq_true rfl) ?_
  intro p e s m below meth c A ls hx hb hml hr hts hown hlocks hin hA hK hP hD hS hE hl
  have hl : lv_has ls 4 [(0, .ref h0), (1, .int (-1)), (2, .int (-1)), (3, .int (-1))] := hl
  refine lv_aload_n hx hb dX11_addPredicate_0 rfl (lv_at hl 0 rfl) ?_
  refine lv_iload_n hx hb dX11_addPredicate_1 rfl (lv_at hl 1 rfl) ?_
  refine oi_callV hx hb hml hown hts (f_isTypeOrNone l e0 D k h0 st pg mc br la sp sta stb stc std) (cwV 1 hts gX11_addPredicate_X11_isTypeOrNone rfl rfl rfl (by decide +kernel) ⟨Nat.le_of_ble_eq_true rfl, Nat.le_of_ble_eq_true rfl⟩) hK hP hD hS hA hE [0, 1] [2, 3] rfl rfl (by decide) (by decide) (by decide) (wr := [(pg, .inr (11, [.ref pla, .ref plb, .ref plc])), (pla, .inr (3, [.int 0, .ref e0, .int 0]))]) (w2 := fun u => [(pg, .inr (11, [.ref pla, .ref plb, .ref plc])), (pla, .inr (3, [.int 0, .ref e0, .int 0])), (h0, .inr (15, [.ref st, .ref pg, .ref mc, .ref br, .ref la, .ref sp, .int 0, .int 0, .long 0])), (st, .inr (14, [.int 0, .ref sta, .ref stb, .ref stc, .ref std]))]) (fun _ => rfl) 0 15 rfl rfl rfl hl.1 rfl (Nat.le_of_ble_eq_true rfl) rfl ⟨Nat.le_of_ble_eq_true rfl, Nat.le_of_ble_eq_true rfl⟩ dX11_addPredicate_2 (fun r u H locs hq hP hD hS => ?_)
  have er : r = 1 := hq
  subst er
  have hP : va_P D vwCl [(pg, .inr (11, [.ref pla, .ref plb, .ref plc])), (pla, .inr (3, [.int 0, .ref e0, .int 0])), (h0, .inr (15, [.ref st, .ref pg, .ref mc, .ref br, .ref la, .ref sp, .int 0, .int 0, .long 0])), (st, .inr (14, [.int 0, .ref sta, .ref stb, .ref stc, .ref std]))] H := hP
  have hD : va_D A [(pg, .inr (11, [.ref pla, .ref plb, .ref plc])), (pla, .inr (3, [.int 0, .ref e0, .int 0])), (h0, .inr (15, [.ref st, .ref pg, .ref mc, .ref br, .ref la, .ref sp, .int 0, .int 0, .long 0])), (st, .inr (14, [.int 0, .ref sta, .ref stb, .ref stc, .ref std]))] := hD
  refine lv_if_eq (tgt := 24) hx hb dX11_addPredicate_5 (by decide) (fun c_5 => absurd c_5 (by decide)) (fun c_5 => ?_)
  refine lv_aload_n hx hb dX11_addPredicate_8 rfl (lv_at hl 0 rfl) ?_
  refine lv_iload_n hx hb dX11_addPredicate_9 rfl (lv_at hl 2 rfl) ?_
  refine oi_callV hx hb hml hown hts (f_isTypeOrNone l e0 D k h0 st pg mc br la sp sta stb stc std) (cwV 1 hts gX11_addPredicate_X11_isTypeOrNone rfl rfl rfl (by decide +kernel) ⟨Nat.le_of_ble_eq_true rfl, Nat.le_of_ble_eq_true rfl⟩) hK hP hD hS hA hE [2, 3] [0, 1] rfl rfl (by decide) (by decide) (by decide) (wr := [(pg, .inr (11, [.ref pla, .ref plb, .ref plc])), (pla, .inr (3, [.int 0, .ref e0, .int 0]))]) (w2 := fun u => [(pg, .inr (11, [.ref pla, .ref plb, .ref plc])), (pla, .inr (3, [.int 0, .ref e0, .int 0])), (h0, .inr (15, [.ref st, .ref pg, .ref mc, .ref br, .ref la, .ref sp, .int 0, .int 0, .long 0])), (st, .inr (14, [.int 0, .ref sta, .ref stb, .ref stc, .ref std]))]) (fun _ => rfl) 0 15 rfl rfl rfl hl.1 rfl (Nat.le_of_ble_eq_true rfl) rfl ⟨Nat.le_of_ble_eq_true rfl, Nat.le_of_ble_eq_true rfl⟩ dX11_addPredicate_10 (fun r u H locs hq hP hD hS => ?_)
  have er : r = 1 := hq
  subst er
  have hP : va_P D vwCl [(pg, .inr (11, [.ref pla, .ref plb, .ref plc])), (pla, .inr (3, [.int 0, .ref e0, .int 0])), (h0, .inr (15, [.ref st, .ref pg, .ref mc, .ref br, .ref la, .ref sp, .int 0, .int 0, .long 0])), (st, .inr (14, [.int 0, .ref sta, .ref stb, .ref stc, .ref std]))] H := hP
  have hD : va_D A [(pg, .inr (11, [.ref pla, .ref plb, .ref plc])), (pla, .inr (3, [.int 0, .ref e0, .int 0])), (h0, .inr (15, [.ref st, .ref pg, .ref mc, .ref br, .ref la, .ref sp, .int 0, .int 0, .long 0])), (st, .inr (14, [.int 0, .ref sta, .ref stb, .ref stc, .ref std]))] := hD
  refine lv_if_eq (tgt := 24) hx hb dX11_addPredicate_13 (by decide) (fun c_13 => absurd c_13 (by decide)) (fun c_13 => ?_)
  refine lv_aload_n hx hb dX11_addPredicate_16 rfl (lv_at hl 0 rfl) ?_
  refine lv_iload_n hx hb dX11_addPredicate_17 rfl (lv_at hl 3 rfl) ?_
  refine oi_callV hx hb hml hown hts (f_isTypeOrNone l e0 D k h0 st pg mc br la sp sta stb stc std) (cwV 1 hts gX11_addPredicate_X11_isTypeOrNone rfl rfl rfl (by decide +kernel) ⟨Nat.le_of_ble_eq_true rfl, Nat.le_of_ble_eq_true rfl⟩) hK hP hD hS hA hE [2, 3] [0, 1] rfl rfl (by decide) (by decide) (by decide) (wr := [(pg, .inr (11, [.ref pla, .ref plb, .ref plc])), (pla, .inr (3, [.int 0, .ref e0, .int 0]))]) (w2 := fun u => [(pg, .inr (11, [.ref pla, .ref plb, .ref plc])), (pla, .inr (3, [.int 0, .ref e0, .int 0])), (h0, .inr (15, [.ref st, .ref pg, .ref mc, .ref br, .ref la, .ref sp, .int 0, .int 0, .long 0])), (st, .inr (14, [.int 0, .ref sta, .ref stb, .ref stc, .ref std]))]) (fun _ => rfl) 0 15 rfl rfl rfl hl.1 rfl (Nat.le_of_ble_eq_true rfl) rfl ⟨Nat.le_of_ble_eq_true rfl, Nat.le_of_ble_eq_true rfl⟩ dX11_addPredicate_18 (fun r u H locs hq hP hD hS => ?_)
  have er : r = 1 := hq
  subst er
  have hP : va_P D vwCl [(pg, .inr (11, [.ref pla, .ref plb, .ref plc])), (pla, .inr (3, [.int 0, .ref e0, .int 0])), (h0, .inr (15, [.ref st, .ref pg, .ref mc, .ref br, .ref la, .ref sp, .int 0, .int 0, .long 0])), (st, .inr (14, [.int 0, .ref sta, .ref stb, .ref stc, .ref std]))] H := hP
  have hD : va_D A [(pg, .inr (11, [.ref pla, .ref plb, .ref plc])), (pla, .inr (3, [.int 0, .ref e0, .int 0])), (h0, .inr (15, [.ref st, .ref pg, .ref mc, .ref br, .ref la, .ref sp, .int 0, .int 0, .long 0])), (st, .inr (14, [.int 0, .ref sta, .ref stb, .ref stc, .ref std]))] := hD
  refine lv_if_ne (tgt := 32) hx hb dX11_addPredicate_21 (by decide) (fun c_21 => ?_) (fun c_21 => absurd c_21 (by decide))
  refine lv_iload_n hx hb dX11_addPredicate_32 rfl (lv_at hl 1 rfl) ?_
  refine lv_iconst (v := (-1)) hx hb dX11_addPredicate_33 (by decide) ?_
  refine lv_icmp_ne (tgt := 42) hx hb dX11_addPredicate_34 (by decide) (fun c_34 => absurd c_34 (by decide)) (fun c_34 => ?_)
  refine lv_iload_n hx hb dX11_addPredicate_37 rfl (lv_at hl 2 rfl) ?_
  refine lv_iconst (v := (-1)) hx hb dX11_addPredicate_38 (by decide) ?_
  refine lv_icmp_ne (tgt := 52) hx hb dX11_addPredicate_39 (by decide) (fun c_39 => absurd c_39 (by decide)) (fun c_39 => ?_)
  refine lv_iload_n hx hb dX11_addPredicate_42 rfl (lv_at hl 2 rfl) ?_
  refine lv_iconst (v := (-1)) hx hb dX11_addPredicate_43 (by decide) ?_
  refine lv_icmp_ne (tgt := 60) hx hb dX11_addPredicate_44 (by decide) (fun c_44 => absurd c_44 (by decide)) (fun c_44 => ?_)
  refine lv_iload_n hx hb dX11_addPredicate_47 rfl (lv_at hl 3 rfl) ?_
  refine lv_iconst (v := (-1)) hx hb dX11_addPredicate_48 (by decide) ?_
  refine lv_icmp_eq (tgt := 60) hx hb dX11_addPredicate_49 (by decide) (fun c_49 => ?_) (fun c_49 => absurd c_49 (by decide))
  refine lv_aload_n hx hb dX11_addPredicate_60 rfl (lv_at hl 0 rfl) ?_
  refine va_get (D := D) (ci := 15) (v := .ref pg) (C := RX11) (T := TX11) (N := 9) hx hb hts iw_X11_addPredicate_X11 hown hK hP 2 rfl rfl 1 (by decide) (hts (.fieldLink RX11 19 "ModedMill" "program" "LModedMill$Program;") (by decide +kernel)) (fun _ h9 => h9) rfl dX11_addPredicate_61 ?_
  refine oi_callV hx hb hml hown hts (f_predicateCount l e0 D k pg pla plb plc) (cwV 0 hts gX11_addPredicate_X7_predicateCount rfl rfl rfl (by decide +kernel) ⟨Nat.le_of_ble_eq_true rfl, Nat.le_of_ble_eq_true rfl⟩) hK hP hD hS hA hE [0, 1] [2, 3] rfl rfl (by decide) (by decide) (by decide) (wr := [(h0, .inr (15, [.ref st, .ref pg, .ref mc, .ref br, .ref la, .ref sp, .int 0, .int 0, .long 0])), (st, .inr (14, [.int 0, .ref sta, .ref stb, .ref stc, .ref std]))]) (w2 := fun u => [(h0, .inr (15, [.ref st, .ref pg, .ref mc, .ref br, .ref la, .ref sp, .int 0, .int 0, .long 0])), (st, .inr (14, [.int 0, .ref sta, .ref stb, .ref stc, .ref std])), (pg, .inr (11, [.ref pla, .ref plb, .ref plc])), (pla, .inr (3, [.int 0, .ref e0, .int 0]))]) (fun _ => rfl) 0 11 rfl rfl rfl hl.1 rfl (Nat.le_of_ble_eq_true rfl) rfl ⟨Nat.le_of_ble_eq_true rfl, Nat.le_of_ble_eq_true rfl⟩ dX11_addPredicate_64 (fun r u H locs hq hP hD hS => ?_)
  have er : r = 0 := hq
  subst er
  have hP : va_P D vwCl [(h0, .inr (15, [.ref st, .ref pg, .ref mc, .ref br, .ref la, .ref sp, .int 0, .int 0, .long 0])), (st, .inr (14, [.int 0, .ref sta, .ref stb, .ref stc, .ref std])), (pg, .inr (11, [.ref pla, .ref plb, .ref plc])), (pla, .inr (3, [.int 0, .ref e0, .int 0]))] H := hP
  have hD : va_D A [(h0, .inr (15, [.ref st, .ref pg, .ref mc, .ref br, .ref la, .ref sp, .int 0, .int 0, .long 0])), (st, .inr (14, [.int 0, .ref sta, .ref stb, .ref stc, .ref std])), (pg, .inr (11, [.ref pla, .ref plb, .ref plc])), (pla, .inr (3, [.int 0, .ref e0, .int 0]))] := hD
  refine lv_iconst (v := 5) hx hb dX11_addPredicate_67 (by decide) ?_
  refine lv_icmp_ge (tgt := 78) hx hb dX11_addPredicate_68 (by decide) (fun c_68 => absurd c_68 (by decide)) (fun c_68 => ?_)
  refine lv_aload_n hx hb dX11_addPredicate_71 rfl (lv_at hl 0 rfl) ?_
  refine va_get (D := D) (ci := 15) (v := .int 0) (C := RX11) (T := TX11) (N := 9) hx hb hts iw_X11_addPredicate_X11 hown hK hP 0 rfl rfl 6 (by decide) (hts (.fieldLink RX11 51 "ModedMill" "isCompiled" "Z") (by decide +kernel)) (fun _ h9 => h9) rfl dX11_addPredicate_72 ?_
  refine lv_if_eq (tgt := 86) hx hb dX11_addPredicate_75 (by decide) (fun c_75 => ?_) (fun c_75 => absurd c_75 (by decide))
  refine lv_aload_n hx hb dX11_addPredicate_86 rfl (lv_at hl 0 rfl) ?_
  refine va_get (D := D) (ci := 15) (v := .ref pg) (C := RX11) (T := TX11) (N := 9) hx hb hts iw_X11_addPredicate_X11 hown hK hP 0 rfl rfl 1 (by decide) (hts (.fieldLink RX11 19 "ModedMill" "program" "LModedMill$Program;") (by decide +kernel)) (fun _ h9 => h9) rfl dX11_addPredicate_87 ?_
  refine lv_iload_n hx hb dX11_addPredicate_90 rfl (lv_at hl 1 rfl) ?_
  refine lv_iload_n hx hb dX11_addPredicate_91 rfl (lv_at hl 2 rfl) ?_
  refine lv_iload_n hx hb dX11_addPredicate_92 rfl (lv_at hl 3 rfl) ?_
  refine oi_callV hx hb hml hown hts (f_newPredicate l e0 D k pg pla plb plc) (cwV 3 hts gX11_addPredicate_X7_newPredicate rfl rfl rfl (by decide +kernel) ⟨Nat.le_of_ble_eq_true rfl, Nat.le_of_ble_eq_true rfl⟩) hK hP hD hS hA hE [2, 3] [0, 1] rfl rfl (by decide) (by decide) (by decide) (wr := [(h0, .inr (15, [.ref st, .ref pg, .ref mc, .ref br, .ref la, .ref sp, .int 0, .int 0, .long 0])), (st, .inr (14, [.int 0, .ref sta, .ref stb, .ref stc, .ref std]))]) (w2 := fun u => [(h0, .inr (15, [.ref st, .ref pg, .ref mc, .ref br, .ref la, .ref sp, .int 0, .int 0, .long 0])), (st, .inr (14, [.int 0, .ref sta, .ref stb, .ref stc, .ref std]))]) (fun _ => rfl) 0 11 rfl rfl rfl hl.1 rfl (Nat.le_of_ble_eq_true rfl) rfl ⟨Nat.le_of_ble_eq_true rfl, Nat.le_of_ble_eq_true rfl⟩ dX11_addPredicate_93 (fun r u H locs hq hP hD hS => ?_)
  have er : r = 0 := hq
  subst er
  have hP : va_P D vwCl [(h0, .inr (15, [.ref st, .ref pg, .ref mc, .ref br, .ref la, .ref sp, .int 0, .int 0, .long 0])), (st, .inr (14, [.int 0, .ref sta, .ref stb, .ref stc, .ref std]))] H := hP
  have hD : va_D A [(h0, .inr (15, [.ref st, .ref pg, .ref mc, .ref br, .ref la, .ref sp, .int 0, .int 0, .long 0])), (st, .inr (14, [.int 0, .ref sta, .ref stb, .ref stc, .ref std]))] := hD
  exact oi_ret hx hb hr hlocks rfl () (rfl) hK (hP.sub [] rfl) (hD.sub [] (by decide) rfl) hS (Nat.le_of_ble_eq_true rfl) (Nat.le_of_ble_eq_true rfl) dX11_addPredicate_96
