set_option maxHeartbeats 4000000 in
set_option maxRecDepth 100000 in
theorem w_addType (l : Launch) (hl0 : l.stackTraces = false) (e0 : Nat) (D : va_G) (k : Nat → ClassId) (h0 : Nat) (ou : Nat) (st : Nat) (pg : Nat) (mc : Nat) (br : Nat) (la : Nat) (sp : Nat) (sta : Nat) (stb : Nat) (stc : Nat) (std : Nat) (g9 : Nat → Int64) : oCi l e0 D (oTy k) yL_addType wsL_addType ({ frames := 2, cells := 0, slots := 0, locals := 40 } : Room) [.ref h0, .ref ou] [(h0, .inr (15, [.ref st, .ref pg, .ref mc, .ref br, .ref la, .ref sp, .int 0, .int 0, .long 0])), (st, .inr (14, [.int 0, .ref sta, .ref stb, .ref stc, .ref std])), (ou, .inl ((k 1), 1, .inr (.inl g9)))] (S := Unit) (fun (r : Int32) (u : Unit) => r = 0) (fun u => [(ou, .inl ((k 1), 1, .inr (.inl (vp_updL g9 (0 : Int32).toNatClampNeg (0 : Int32).toInt64))))]) 0 0 := by
  refine oi_ofH (cc := cL_addType) (maxL := 3) (ret := (some .int)) (by decide +kernel) rfl (Nat.le_of_ble_eq_true rfl) ?_
  intro p e s m below meth c A ls htb hx hb hml hr hts hown hlocks hin hA hK hP hD hS hE hl
  have hl : lv_has ls 3 [(0, .ref h0), (1, .ref ou)] := hl
  refine lv_aload_n hx hb dL_addType_0 rfl (lv_at hl 1 rfl) ?_
  refine lv_iconst (v := 0) hx hb dL_addType_1 (by decide) ?_
  refine lv_aload_n hx hb dL_addType_2 rfl (lv_at hl 0 rfl) ?_
  refine oi_callV hx hb hml hown hts (f_addType l e0 D k h0 st pg mc br la sp sta stb stc std) (cwV 0 hts gL_addType_X11_addType rfl rfl rfl (by decide +kernel) ⟨Nat.le_of_ble_eq_true rfl, Nat.le_of_ble_eq_true rfl⟩) hK hP hD hS hA hE [0, 1] [2] rfl rfl (by decide) (by decide) (by decide) (wr := [(ou, .inl ((k 1), 1, .inr (.inl g9)))]) (w2 := fun u => [(ou, .inl ((k 1), 1, .inr (.inl g9)))]) (fun _ => rfl) 0 15 rfl rfl rfl hl.1 rfl (Nat.le_of_ble_eq_true rfl) rfl ⟨Nat.le_of_ble_eq_true rfl, Nat.le_of_ble_eq_true rfl⟩ dL_addType_3 (fun r u H locs hq hP hD hS => ?_)
  have er : r = 0 := hq
  subst er
  have hP : va_P D vwCl [(ou, .inl ((k 1), 1, .inr (.inl g9)))] H := hP
  have hD : va_D A [(ou, .inl ((k 1), 1, .inr (.inl g9)))] := hD
  refine lv_i2l (v := (0 : Int32).toInt64) hx hb dL_addType_6 rfl ?_
  refine va_last hx hb hK hP hD hS 0 1 rfl rfl (vp_in_nI (n := 0) (by decide) (by decide)) dL_addType_7 (fun H locs hP hD hS => ?_)
  have hP : va_P D vwCl [(ou, .inl ((k 1), 1, .inr (.inl (vp_updL g9 (0 : Int32).toNatClampNeg (((0 : Int32).toInt64))))))] H := hP
  have hD : va_D A [(ou, .inl ((k 1), 1, .inr (.inl (vp_updL g9 (0 : Int32).toNatClampNeg (((0 : Int32).toInt64))))))] := hD
  refine lv_goto (tgt := 14) hx hb dL_addType_8 (by decide) ?_
  refine lv_iconst (v := 0) hx hb dL_addType_14 (by decide) ?_
  exact vx_ret (oi_ret hx hb hr hlocks rfl () (rfl) hK (hP.sub [0] rfl) (hD.sub [0] (by decide) rfl) hS (Nat.le_of_ble_eq_true rfl) (Nat.le_of_ble_eq_true rfl) dL_addType_15)
set_option maxHeartbeats 4000000 in
set_option maxRecDepth 100000 in
theorem w_addConstructor (l : Launch) (hl0 : l.stackTraces = false) (e0 : Nat) (D : va_G) (k : Nat → ClassId) (h0 : Nat) (p0 : Int32) (p1 : Int32) (p2 : Int32) (ou : Nat) (st : Nat) (pg : Nat) (mc : Nat) (br : Nat) (la : Nat) (sp : Nat) (sta : Nat) (stb : Nat) (stc : Nat) (std : Nat) (g9 : Nat → Int64) : oCi l e0 D (oTy k) yL_addConstructor wsL_addConstructor ({ frames := 7, cells := 1, slots := 6, locals := 112 } : Room) [.ref h0, .int p0, .int p1, .int p2, .ref ou] [(h0, .inr (15, [.ref st, .ref pg, .ref mc, .ref br, .ref la, .ref sp, .int 0, .int 0, .long 0])), (st, .inr (14, [.int 0, .ref sta, .ref stb, .ref stc, .ref std])), (ou, .inl ((k 1), 1, .inr (.inl g9)))] (S := Unit) (fun (r : Int32) (u : Unit) => r = 1) (fun u => []) 1 6 := by
  refine oi_ofH (cc := cL_addConstructor) (maxL := 6) (ret := (some .int)) (by decide +kernel) rfl (Nat.le_of_ble_eq_true rfl) ?_
  intro p e s m below meth c A ls htb hx hb hml hr hts hown hlocks hin hA hK hP hD hS hE hl
  have hl : lv_has ls 6 [(0, .ref h0), (1, .int p0), (2, .int p1), (3, .int p2), (4, .ref ou)] := hl
  refine lv_aload hx hb dL_addConstructor_0 (lv_at hl 4 rfl) ?_
  refine lv_iconst (v := 0) hx hb dL_addConstructor_2 (by decide) ?_
  refine lv_aload_n hx hb dL_addConstructor_3 rfl (lv_at hl 0 rfl) ?_
  refine lv_iload_n hx hb dL_addConstructor_4 rfl (lv_at hl 1 rfl) ?_
  refine lv_iload_n hx hb dL_addConstructor_5 rfl (lv_at hl 2 rfl) ?_
  refine lv_iload_n hx hb dL_addConstructor_6 rfl (lv_at hl 3 rfl) ?_
  refine ox_callV hx hb hml hown hts (f_addConstructor l hl0 e0 D k h0 p0 p1 p2 st pg mc br la sp sta stb stc std) (cwV 3 hts gL_addConstructor_X11_addConstructor rfl rfl rfl (by decide +kernel) ⟨Nat.le_of_ble_eq_true rfl, Nat.le_of_ble_eq_true rfl⟩) hK hP hD hS hA hE [0, 1] [2] rfl rfl (by decide) (by decide) (by decide) (wr := [(ou, .inl ((k 1), 1, .inr (.inl g9)))]) (w3 := [(ou, .inl ((k 1), 1, .inr (.inl g9))), (h0, .inr (15, [.ref st, .ref pg, .ref mc, .ref br, .ref la, .ref sp, .int 0, .int 0, .long 0])), (st, .inr (14, [.int 0, .ref sta, .ref stb, .ref stc, .ref std]))]) rfl 0 15 rfl rfl rfl hl.1 rfl (Nat.le_of_ble_eq_true rfl) rfl ⟨Nat.le_of_ble_eq_true rfl, Nat.le_of_ble_eq_true rfl⟩ dL_addConstructor_7 (fun ce q9 H locs hP hD hS hce hcv hcl => ?_)
  refine ox_catch ⟨0, 12, 15, 19⟩ _ (htb.trans rfl) hown hE (Or.inl rfl) (by decide) (by decide) (hts (.classLink RL 19 "java/lang/IndexOutOfBoundsException") (by decide +kernel)) hce hcv hcl ?_
  refine lv_astore (lv' := [(5, .ref q9), (0, .ref h0), (1, .int p0), (2, .int p1), (3, .int p2), (4, .ref ou)]) hx hb dL_addConstructor_15 hl (by decide) rfl (fun ls hl => ?_)
  refine lv_iconst (v := 1) hx hb dL_addConstructor_17 (by decide) ?_
  exact vx_ret (oi_ret hx hb hr hlocks rfl () (rfl) hK (hP.sub [] rfl) (hD.sub [] (by decide) rfl) hS (Nat.le_of_ble_eq_true rfl) (Nat.le_of_ble_eq_true rfl) dL_addConstructor_18)
set_option maxHeartbeats 4000000 in
set_option maxRecDepth 100000 in
theorem w_term (l : Launch) (hl0 : l.stackTraces = false) (e0 : Nat) (D : va_G) (k : Nat → ClassId) (h0 : Nat) (p0 : Int32) (p1 : Int32) (p2 : Int32) (ou : Nat) (st : Nat) (pg : Nat) (mc : Nat) (br : Nat) (la : Nat) (sp : Nat) (sta : Nat) (stb : Nat) (stc : Nat) (std : Nat) (sqa : Nat) (g9 : Nat → Int64) : oCi l e0 D (oTy k) yL_term wsL_term ({ frames := 7, cells := 1, slots := 6, locals := 113 } : Room) [.ref h0, .int p0, .int p1, .int p2, .ref ou] [(h0, .inr (15, [.ref st, .ref pg, .ref mc, .ref br, .ref la, .ref sp, .int 0, .int 0, .long 0])), (st, .inr (14, [.int 0, .ref sta, .ref stb, .ref stc, .ref std])), (sta, .inr (13, [.int 3, .ref sqa, .int 0])), (ou, .inl ((k 1), 1, .inr (.inl g9)))] (S := Unit) (fun (r : Int32) (u : Unit) => r = 1) (fun u => []) 1 6 := by
  refine oi_ofH (cc := cL_term) (maxL := 6) (ret := (some .int)) (by decide +kernel) rfl (Nat.le_of_ble_eq_true rfl) ?_
  intro p e s m below meth c A ls htb hx hb hml hr hts hown hlocks hin hA hK hP hD hS hE hl
  have hl : lv_has ls 6 [(0, .ref h0), (1, .int p0), (2, .int p1), (3, .int p2), (4, .ref ou)] := hl
  refine lv_aload hx hb dL_term_0 (lv_at hl 4 rfl) ?_
  refine lv_iconst (v := 0) hx hb dL_term_2 (by decide) ?_
  refine lv_aload_n hx hb dL_term_3 rfl (lv_at hl 0 rfl) ?_
  refine lv_iload_n hx hb dL_term_4 rfl (lv_at hl 1 rfl) ?_
  refine lv_iload_n hx hb dL_term_5 rfl (lv_at hl 2 rfl) ?_
  refine lv_iload_n hx hb dL_term_6 rfl (lv_at hl 3 rfl) ?_
  refine ox_callV hx hb hml hown hts (f_term l hl0 e0 D k h0 p0 p1 p2 st pg mc br la sp sta stb stc std sqa) (cwV 3 hts gL_term_X11_term rfl rfl rfl (by decide +kernel) ⟨Nat.le_of_ble_eq_true rfl, Nat.le_of_ble_eq_true rfl⟩) hK hP hD hS hA hE [0, 1, 2] [3] rfl rfl (by decide) (by decide) (by decide) (wr := [(ou, .inl ((k 1), 1, .inr (.inl g9)))]) (w3 := [(ou, .inl ((k 1), 1, .inr (.inl g9))), (h0, .inr (15, [.ref st, .ref pg, .ref mc, .ref br, .ref la, .ref sp, .int 0, .int 0, .long 0])), (st, .inr (14, [.int 0, .ref sta, .ref stb, .ref stc, .ref std])), (sta, .inr (13, [.int 3, .ref sqa, .int 0]))]) rfl 0 15 rfl rfl rfl hl.1 rfl (Nat.le_of_ble_eq_true rfl) rfl ⟨Nat.le_of_ble_eq_true rfl, Nat.le_of_ble_eq_true rfl⟩ dL_term_7 (fun ce q9 H locs hP hD hS hce hcv hcl => ?_)
  refine ox_catch ⟨0, 12, 15, 19⟩ _ (htb.trans rfl) hown hE (Or.inl rfl) (by decide) (by decide) (hts (.classLink RL 19 "java/lang/IndexOutOfBoundsException") (by decide +kernel)) hce hcv hcl ?_
  refine lv_astore (lv' := [(5, .ref q9), (0, .ref h0), (1, .int p0), (2, .int p1), (3, .int p2), (4, .ref ou)]) hx hb dL_term_15 hl (by decide) rfl (fun ls hl => ?_)
  refine lv_iconst (v := 1) hx hb dL_term_17 (by decide) ?_
  exact vx_ret (oi_ret hx hb hr hlocks rfl () (rfl) hK (hP.sub [] rfl) (hD.sub [] (by decide) rfl) hS (Nat.le_of_ble_eq_true rfl) (Nat.le_of_ble_eq_true rfl) dL_term_18)
set_option maxHeartbeats 4000000 in
set_option maxRecDepth 100000 in
theorem w_constructorOf (l : Launch) (hl0 : l.stackTraces = false) (e0 : Nat) (D : va_G) (k : Nat → ClassId) (h0 : Nat) (p0 : Int32) (ou : Nat) (st : Nat) (pg : Nat) (mc : Nat) (br : Nat) (la : Nat) (sp : Nat) (sta : Nat) (stb : Nat) (stc : Nat) (std : Nat) (sqb : Nat) (g9 : Nat → Int64) : oCi l e0 D (oTy k) yL_constructorOf wsL_constructorOf ({ frames := 8, cells := 1, slots := 6, locals := 131 } : Room) [.ref h0, .int p0, .ref ou] [(h0, .inr (15, [.ref st, .ref pg, .ref mc, .ref br, .ref la, .ref sp, .int 0, .int 0, .long 0])), (st, .inr (14, [.int 0, .ref sta, .ref stb, .ref stc, .ref std])), (stb, .inr (13, [.int 4, .ref sqb, .int 0])), (ou, .inl ((k 1), 1, .inr (.inl g9)))] (S := Unit) (fun (r : Int32) (u : Unit) => r = 1) (fun u => []) 1 6 := by
  refine oi_ofH (cc := cL_constructorOf) (maxL := 4) (ret := (some .int)) (by decide +kernel) rfl (Nat.le_of_ble_eq_true rfl) ?_
  intro p e s m below meth c A ls htb hx hb hml hr hts hown hlocks hin hA hK hP hD hS hE hl
  have hl : lv_has ls 4 [(0, .ref h0), (1, .int p0), (2, .ref ou)] := hl
  refine lv_aload_n hx hb dL_constructorOf_0 rfl (lv_at hl 2 rfl) ?_
  refine lv_iconst (v := 0) hx hb dL_constructorOf_1 (by decide) ?_
  refine lv_aload_n hx hb dL_constructorOf_2 rfl (lv_at hl 0 rfl) ?_
  refine lv_iload_n hx hb dL_constructorOf_3 rfl (lv_at hl 1 rfl) ?_
  refine ox_callV hx hb hml hown hts (f_constructorOf l hl0 e0 D k h0 p0 st pg mc br la sp sta stb stc std sqb) (cwV 1 hts gL_constructorOf_X11_constructorOf rfl rfl rfl (by decide +kernel) ⟨Nat.le_of_ble_eq_true rfl, Nat.le_of_ble_eq_true rfl⟩) hK hP hD hS hA hE [0, 1, 2] [3] rfl rfl (by decide) (by decide) (by decide) (wr := [(ou, .inl ((k 1), 1, .inr (.inl g9)))]) (w3 := [(ou, .inl ((k 1), 1, .inr (.inl g9))), (h0, .inr (15, [.ref st, .ref pg, .ref mc, .ref br, .ref la, .ref sp, .int 0, .int 0, .long 0])), (st, .inr (14, [.int 0, .ref sta, .ref stb, .ref stc, .ref std])), (stb, .inr (13, [.int 4, .ref sqb, .int 0]))]) rfl 0 15 rfl rfl rfl hl.1 rfl (Nat.le_of_ble_eq_true rfl) rfl ⟨Nat.le_of_ble_eq_true rfl, Nat.le_of_ble_eq_true rfl⟩ dL_constructorOf_4 (fun ce q9 H locs hP hD hS hce hcv hcl => ?_)
  refine ox_catch ⟨0, 9, 12, 19⟩ _ (htb.trans rfl) hown hE (Or.inl rfl) (by decide) (by decide) (hts (.classLink RL 19 "java/lang/IndexOutOfBoundsException") (by decide +kernel)) hce hcv hcl ?_
  refine lv_astore_n (lv' := [(3, .ref q9), (0, .ref h0), (1, .int p0), (2, .ref ou)]) hx hb dL_constructorOf_12 rfl hl (by decide) rfl (fun ls hl => ?_)
  refine lv_iconst (v := 1) hx hb dL_constructorOf_13 (by decide) ?_
  exact vx_ret (oi_ret hx hb hr hlocks rfl () (rfl) hK (hP.sub [] rfl) (hD.sub [] (by decide) rfl) hS (Nat.le_of_ble_eq_true rfl) (Nat.le_of_ble_eq_true rfl) dL_constructorOf_14)
set_option maxHeartbeats 4000000 in
set_option maxRecDepth 100000 in
theorem w_partOf (l : Launch) (hl0 : l.stackTraces = false) (e0 : Nat) (D : va_G) (k : Nat → ClassId) (h0 : Nat) (p0 : Int32) (p1 : Int32) (ou : Nat) (st : Nat) (pg : Nat) (mc : Nat) (br : Nat) (la : Nat) (sp : Nat) (sta : Nat) (stb : Nat) (stc : Nat) (std : Nat) (sqb : Nat) (g9 : Nat → Int64) : oCi l e0 D (oTy k) yL_partOf wsL_partOf ({ frames := 8, cells := 1, slots := 6, locals := 132 } : Room) [.ref h0, .int p0, .int p1, .ref ou] [(h0, .inr (15, [.ref st, .ref pg, .ref mc, .ref br, .ref la, .ref sp, .int 0, .int 0, .long 0])), (st, .inr (14, [.int 0, .ref sta, .ref stb, .ref stc, .ref std])), (stb, .inr (13, [.int 4, .ref sqb, .int 0])), (ou, .inl ((k 1), 1, .inr (.inl g9)))] (S := Unit) (fun (r : Int32) (u : Unit) => r = 1) (fun u => []) 1 6 := by
  refine oi_ofH (cc := cL_partOf) (maxL := 5) (ret := (some .int)) (by decide +kernel) rfl (Nat.le_of_ble_eq_true rfl) ?_
  intro p e s m below meth c A ls htb hx hb hml hr hts hown hlocks hin hA hK hP hD hS hE hl
  have hl : lv_has ls 5 [(0, .ref h0), (1, .int p0), (2, .int p1), (3, .ref ou)] := hl
  refine lv_aload_n hx hb dL_partOf_0 rfl (lv_at hl 3 rfl) ?_
  refine lv_iconst (v := 0) hx hb dL_partOf_1 (by decide) ?_
  refine lv_aload_n hx hb dL_partOf_2 rfl (lv_at hl 0 rfl) ?_
  refine lv_iload_n hx hb dL_partOf_3 rfl (lv_at hl 1 rfl) ?_
  refine lv_iload_n hx hb dL_partOf_4 rfl (lv_at hl 2 rfl) ?_
  refine ox_callV hx hb hml hown hts (f_partOf l hl0 e0 D k h0 p0 p1 st pg mc br la sp sta stb stc std sqb) (cwV 2 hts gL_partOf_X11_partOf rfl rfl rfl (by decide +kernel) ⟨Nat.le_of_ble_eq_true rfl, Nat.le_of_ble_eq_true rfl⟩) hK hP hD hS hA hE [0, 1, 2] [3] rfl rfl (by decide) (by decide) (by decide) (wr := [(ou, .inl ((k 1), 1, .inr (.inl g9)))]) (w3 := [(ou, .inl ((k 1), 1, .inr (.inl g9))), (h0, .inr (15, [.ref st, .ref pg, .ref mc, .ref br, .ref la, .ref sp, .int 0, .int 0, .long 0])), (st, .inr (14, [.int 0, .ref sta, .ref stb, .ref stc, .ref std])), (stb, .inr (13, [.int 4, .ref sqb, .int 0]))]) rfl 0 15 rfl rfl rfl hl.1 rfl (Nat.le_of_ble_eq_true rfl) rfl ⟨Nat.le_of_ble_eq_true rfl, Nat.le_of_ble_eq_true rfl⟩ dL_partOf_5 (fun ce q9 H locs hP hD hS hce hcv hcl => ?_)
  refine ox_catch ⟨0, 10, 13, 19⟩ _ (htb.trans rfl) hown hE (Or.inl rfl) (by decide) (by decide) (hts (.classLink RL 19 "java/lang/IndexOutOfBoundsException") (by decide +kernel)) hce hcv hcl ?_
  refine lv_astore (lv' := [(4, .ref q9), (0, .ref h0), (1, .int p0), (2, .int p1), (3, .ref ou)]) hx hb dL_partOf_13 hl (by decide) rfl (fun ls hl => ?_)
  refine lv_iconst (v := 1) hx hb dL_partOf_15 (by decide) ?_
  exact vx_ret (oi_ret hx hb hr hlocks rfl () (rfl) hK (hP.sub [] rfl) (hD.sub [] (by decide) rfl) hS (Nat.le_of_ble_eq_true rfl) (Nat.le_of_ble_eq_true rfl) dL_partOf_16)
set_option maxHeartbeats 4000000 in
set_option maxRecDepth 100000 in
theorem w_sizeOf (l : Launch) (hl0 : l.stackTraces = false) (e0 : Nat) (D : va_G) (k : Nat → ClassId) (h0 : Nat) (p0 : Int32) (ou : Nat) (st : Nat) (pg : Nat) (mc : Nat) (br : Nat) (la : Nat) (sp : Nat) (sta : Nat) (stb : Nat) (stc : Nat) (std : Nat) (sqb : Nat) (g9 : Nat → Int64) : oCi l e0 D (oTy k) yL_sizeOf wsL_sizeOf ({ frames := 8, cells := 1, slots := 6, locals := 131 } : Room) [.ref h0, .int p0, .ref ou] [(h0, .inr (15, [.ref st, .ref pg, .ref mc, .ref br, .ref la, .ref sp, .int 0, .int 0, .long 0])), (st, .inr (14, [.int 0, .ref sta, .ref stb, .ref stc, .ref std])), (stb, .inr (13, [.int 4, .ref sqb, .int 0])), (ou, .inl ((k 1), 1, .inr (.inl g9)))] (S := Unit) (fun (r : Int32) (u : Unit) => r = 1) (fun u => []) 1 6 := by
  refine oi_ofH (cc := cL_sizeOf) (maxL := 4) (ret := (some .int)) (by decide +kernel) rfl (Nat.le_of_ble_eq_true rfl) ?_
  intro p e s m below meth c A ls htb hx hb hml hr hts hown hlocks hin hA hK hP hD hS hE hl
  have hl : lv_has ls 4 [(0, .ref h0), (1, .int p0), (2, .ref ou)] := hl
  refine lv_aload_n hx hb dL_sizeOf_0 rfl (lv_at hl 2 rfl) ?_
  refine lv_iconst (v := 0) hx hb dL_sizeOf_1 (by decide) ?_
  refine lv_aload_n hx hb dL_sizeOf_2 rfl (lv_at hl 0 rfl) ?_
  refine lv_iload_n hx hb dL_sizeOf_3 rfl (lv_at hl 1 rfl) ?_
  refine ox_callV hx hb hml hown hts (f_sizeOf l hl0 e0 D k h0 p0 st pg mc br la sp sta stb stc std sqb) (cwV 1 hts gL_sizeOf_X11_sizeOf rfl rfl rfl (by decide +kernel) ⟨Nat.le_of_ble_eq_true rfl, Nat.le_of_ble_eq_true rfl⟩) hK hP hD hS hA hE [0, 1, 2] [3] rfl rfl (by decide) (by decide) (by decide) (wr := [(ou, .inl ((k 1), 1, .inr (.inl g9)))]) (w3 := [(ou, .inl ((k 1), 1, .inr (.inl g9))), (h0, .inr (15, [.ref st, .ref pg, .ref mc, .ref br, .ref la, .ref sp, .int 0, .int 0, .long 0])), (st, .inr (14, [.int 0, .ref sta, .ref stb, .ref stc, .ref std])), (stb, .inr (13, [.int 4, .ref sqb, .int 0]))]) rfl 0 15 rfl rfl rfl hl.1 rfl (Nat.le_of_ble_eq_true rfl) rfl ⟨Nat.le_of_ble_eq_true rfl, Nat.le_of_ble_eq_true rfl⟩ dL_sizeOf_4 (fun ce q9 H locs hP hD hS hce hcv hcl => ?_)
  refine ox_catch ⟨0, 8, 11, 19⟩ _ (htb.trans rfl) hown hE (Or.inl rfl) (by decide) (by decide) (hts (.classLink RL 19 "java/lang/IndexOutOfBoundsException") (by decide +kernel)) hce hcv hcl ?_
  refine lv_astore_n (lv' := [(3, .ref q9), (0, .ref h0), (1, .int p0), (2, .ref ou)]) hx hb dL_sizeOf_11 rfl hl (by decide) rfl (fun ls hl => ?_)
  refine lv_iconst (v := 1) hx hb dL_sizeOf_12 (by decide) ?_
  exact vx_ret (oi_ret hx hb hr hlocks rfl () (rfl) hK (hP.sub [] rfl) (hD.sub [] (by decide) rfl) hS (Nat.le_of_ble_eq_true rfl) (Nat.le_of_ble_eq_true rfl) dL_sizeOf_13)
set_option maxHeartbeats 4000000 in
set_option maxRecDepth 100000 in
theorem w_addPredicate_a (l : Launch) (hl0 : l.stackTraces = false) (e0 : Nat) (D : va_G) (k : Nat → ClassId) (h0 : Nat) (p0 : Int32) (p1 : Int32) (p2 : Int32) (ou : Nat) (st : Nat) (pg : Nat) (mc : Nat) (br : Nat) (la : Nat) (sp : Nat) (sta : Nat) (stb : Nat) (stc : Nat) (std : Nat) (g9 : Nat → Int64) (hne : ¬ p0 = -1) : oCi l e0 D (oTy k) yL_addPredicate wsL_addPredicate ({ frames := 7, cells := 1, slots := 6, locals := 112 } : Room) [.ref h0, .int p0, .int p1, .int p2, .ref ou] [(h0, .inr (15, [.ref st, .ref pg, .ref mc, .ref br, .ref la, .ref sp, .int 0, .int 0, .long 0])), (st, .inr (14, [.int 0, .ref sta, .ref stb, .ref stc, .ref std])), (ou, .inl ((k 1), 1, .inr (.inl g9)))] (S := Unit) (fun (r : Int32) (u : Unit) => r = 1) (fun u => []) 1 6 := by
  refine oi_ofH (cc := cL_addPredicate) (maxL := 6) (ret := (some .int)) (by decide +kernel) rfl (Nat.le_of_ble_eq_true rfl) ?_
  intro p e s m below meth c A ls htb hx hb hml hr hts hown hlocks hin hA hK hP hD hS hE hl
  have hl : lv_has ls 6 [(0, .ref h0), (1, .int p0), (2, .int p1), (3, .int p2), (4, .ref ou)] := hl
  refine lv_aload hx hb dL_addPredicate_0 (lv_at hl 4 rfl) ?_
  refine lv_iconst (v := 0) hx hb dL_addPredicate_2 (by decide) ?_
  refine lv_aload_n hx hb dL_addPredicate_3 rfl (lv_at hl 0 rfl) ?_
  refine lv_iload_n hx hb dL_addPredicate_4 rfl (lv_at hl 1 rfl) ?_
  refine lv_iload_n hx hb dL_addPredicate_5 rfl (lv_at hl 2 rfl) ?_
  refine lv_iload_n hx hb dL_addPredicate_6 rfl (lv_at hl 3 rfl) ?_
  refine ox_callV hx hb hml hown hts (f_addPredicate_a l hl0 e0 D k h0 p0 p1 p2 st pg mc br la sp sta stb stc std (by assumption)) (cwV 3 hts gL_addPredicate_X11_addPredicate rfl rfl rfl (by decide +kernel) ⟨Nat.le_of_ble_eq_true rfl, Nat.le_of_ble_eq_true rfl⟩) hK hP hD hS hA hE [0, 1] [2] rfl rfl (by decide) (by decide) (by decide) (wr := [(ou, .inl ((k 1), 1, .inr (.inl g9)))]) (w3 := [(ou, .inl ((k 1), 1, .inr (.inl g9))), (h0, .inr (15, [.ref st, .ref pg, .ref mc, .ref br, .ref la, .ref sp, .int 0, .int 0, .long 0])), (st, .inr (14, [.int 0, .ref sta, .ref stb, .ref stc, .ref std]))]) rfl 0 15 rfl rfl rfl hl.1 rfl (Nat.le_of_ble_eq_true rfl) rfl ⟨Nat.le_of_ble_eq_true rfl, Nat.le_of_ble_eq_true rfl⟩ dL_addPredicate_7 (fun ce q9 H locs hP hD hS hce hcv hcl => ?_)
  refine ox_catch ⟨0, 12, 15, 19⟩ _ (htb.trans rfl) hown hE (Or.inl rfl) (by decide) (by decide) (hts (.classLink RL 19 "java/lang/IndexOutOfBoundsException") (by decide +kernel)) hce hcv hcl ?_
  refine lv_astore (lv' := [(5, .ref q9), (0, .ref h0), (1, .int p0), (2, .int p1), (3, .int p2), (4, .ref ou)]) hx hb dL_addPredicate_15 hl (by decide) rfl (fun ls hl => ?_)
  refine lv_iconst (v := 1) hx hb dL_addPredicate_17 (by decide) ?_
  exact vx_ret (oi_ret hx hb hr hlocks rfl () (rfl) hK (hP.sub [] rfl) (hD.sub [] (by decide) rfl) hS (Nat.le_of_ble_eq_true rfl) (Nat.le_of_ble_eq_true rfl) dL_addPredicate_18)
set_option maxHeartbeats 4000000 in
set_option maxRecDepth 100000 in
theorem w_addPredicate_b (l : Launch) (hl0 : l.stackTraces = false) (e0 : Nat) (D : va_G) (k : Nat → ClassId) (h0 : Nat) (p1 : Int32) (p2 : Int32) (ou : Nat) (st : Nat) (pg : Nat) (mc : Nat) (br : Nat) (la : Nat) (sp : Nat) (sta : Nat) (stb : Nat) (stc : Nat) (std : Nat) (g9 : Nat → Int64) (hne : ¬ p1 = -1) : oCi l e0 D (oTy k) yL_addPredicate wsL_addPredicate ({ frames := 7, cells := 1, slots := 6, locals := 112 } : Room) [.ref h0, .int (-1), .int p1, .int p2, .ref ou] [(h0, .inr (15, [.ref st, .ref pg, .ref mc, .ref br, .ref la, .ref sp, .int 0, .int 0, .long 0])), (st, .inr (14, [.int 0, .ref sta, .ref stb, .ref stc, .ref std])), (ou, .inl ((k 1), 1, .inr (.inl g9)))] (S := Unit) (fun (r : Int32) (u : Unit) => r = 1) (fun u => []) 1 6 := by
  refine oi_ofH (cc := cL_addPredicate) (maxL := 6) (ret := (some .int)) (by decide +kernel) rfl (Nat.le_of_ble_eq_true rfl) ?_
  intro p e s m below meth c A ls htb hx hb hml hr hts hown hlocks hin hA hK hP hD hS hE hl
  have hl : lv_has ls 6 [(0, .ref h0), (1, .int (-1)), (2, .int p1), (3, .int p2), (4, .ref ou)] := hl
  refine lv_aload hx hb dL_addPredicate_0 (lv_at hl 4 rfl) ?_
  refine lv_iconst (v := 0) hx hb dL_addPredicate_2 (by decide) ?_
  refine lv_aload_n hx hb dL_addPredicate_3 rfl (lv_at hl 0 rfl) ?_
  refine lv_iload_n hx hb dL_addPredicate_4 rfl (lv_at hl 1 rfl) ?_
  refine lv_iload_n hx hb dL_addPredicate_5 rfl (lv_at hl 2 rfl) ?_
  refine lv_iload_n hx hb dL_addPredicate_6 rfl (lv_at hl 3 rfl) ?_
  refine ox_callV hx hb hml hown hts (f_addPredicate_b l hl0 e0 D k h0 p1 p2 st pg mc br la sp sta stb stc std (by assumption)) (cwV 3 hts gL_addPredicate_X11_addPredicate rfl rfl rfl (by decide +kernel) ⟨Nat.le_of_ble_eq_true rfl, Nat.le_of_ble_eq_true rfl⟩) hK hP hD hS hA hE [0, 1] [2] rfl rfl (by decide) (by decide) (by decide) (wr := [(ou, .inl ((k 1), 1, .inr (.inl g9)))]) (w3 := [(ou, .inl ((k 1), 1, .inr (.inl g9))), (h0, .inr (15, [.ref st, .ref pg, .ref mc, .ref br, .ref la, .ref sp, .int 0, .int 0, .long 0])), (st, .inr (14, [.int 0, .ref sta, .ref stb, .ref stc, .ref std]))]) rfl 0 15 rfl rfl rfl hl.1 rfl (Nat.le_of_ble_eq_true rfl) rfl ⟨Nat.le_of_ble_eq_true rfl, Nat.le_of_ble_eq_true rfl⟩ dL_addPredicate_7 (fun ce q9 H locs hP hD hS hce hcv hcl => ?_)
  refine ox_catch ⟨0, 12, 15, 19⟩ _ (htb.trans rfl) hown hE (Or.inl rfl) (by decide) (by decide) (hts (.classLink RL 19 "java/lang/IndexOutOfBoundsException") (by decide +kernel)) hce hcv hcl ?_
  refine lv_astore (lv' := [(5, .ref q9), (0, .ref h0), (1, .int (-1)), (2, .int p1), (3, .int p2), (4, .ref ou)]) hx hb dL_addPredicate_15 hl (by decide) rfl (fun ls hl => ?_)
  refine lv_iconst (v := 1) hx hb dL_addPredicate_17 (by decide) ?_
  exact vx_ret (oi_ret hx hb hr hlocks rfl () (rfl) hK (hP.sub [] rfl) (hD.sub [] (by decide) rfl) hS (Nat.le_of_ble_eq_true rfl) (Nat.le_of_ble_eq_true rfl) dL_addPredicate_18)
set_option maxHeartbeats 4000000 in
set_option maxRecDepth 100000 in
theorem w_addPredicate_c (l : Launch) (hl0 : l.stackTraces = false) (e0 : Nat) (D : va_G) (k : Nat → ClassId) (h0 : Nat) (p2 : Int32) (ou : Nat) (st : Nat) (pg : Nat) (mc : Nat) (br : Nat) (la : Nat) (sp : Nat) (sta : Nat) (stb : Nat) (stc : Nat) (std : Nat) (g9 : Nat → Int64) (hne : ¬ p2 = -1) : oCi l e0 D (oTy k) yL_addPredicate wsL_addPredicate ({ frames := 7, cells := 1, slots := 6, locals := 112 } : Room) [.ref h0, .int (-1), .int (-1), .int p2, .ref ou] [(h0, .inr (15, [.ref st, .ref pg, .ref mc, .ref br, .ref la, .ref sp, .int 0, .int 0, .long 0])), (st, .inr (14, [.int 0, .ref sta, .ref stb, .ref stc, .ref std])), (ou, .inl ((k 1), 1, .inr (.inl g9)))] (S := Unit) (fun (r : Int32) (u : Unit) => r = 1) (fun u => []) 1 6 := by
  refine oi_ofH (cc := cL_addPredicate) (maxL := 6) (ret := (some .int)) (by decide +kernel) rfl (Nat.le_of_ble_eq_true rfl) ?_
  intro p e s m below meth c A ls htb hx hb hml hr hts hown hlocks hin hA hK hP hD hS hE hl
  have hl : lv_has ls 6 [(0, .ref h0), (1, .int (-1)), (2, .int (-1)), (3, .int p2), (4, .ref ou)] := hl
  refine lv_aload hx hb dL_addPredicate_0 (lv_at hl 4 rfl) ?_
  refine lv_iconst (v := 0) hx hb dL_addPredicate_2 (by decide) ?_
  refine lv_aload_n hx hb dL_addPredicate_3 rfl (lv_at hl 0 rfl) ?_
  refine lv_iload_n hx hb dL_addPredicate_4 rfl (lv_at hl 1 rfl) ?_
  refine lv_iload_n hx hb dL_addPredicate_5 rfl (lv_at hl 2 rfl) ?_
  refine lv_iload_n hx hb dL_addPredicate_6 rfl (lv_at hl 3 rfl) ?_
  refine ox_callV hx hb hml hown hts (f_addPredicate_c l hl0 e0 D k h0 p2 st pg mc br la sp sta stb stc std (by assumption)) (cwV 3 hts gL_addPredicate_X11_addPredicate rfl rfl rfl (by decide +kernel) ⟨Nat.le_of_ble_eq_true rfl, Nat.le_of_ble_eq_true rfl⟩) hK hP hD hS hA hE [0, 1] [2] rfl rfl (by decide) (by decide) (by decide) (wr := [(ou, .inl ((k 1), 1, .inr (.inl g9)))]) (w3 := [(ou, .inl ((k 1), 1, .inr (.inl g9))), (h0, .inr (15, [.ref st, .ref pg, .ref mc, .ref br, .ref la, .ref sp, .int 0, .int 0, .long 0])), (st, .inr (14, [.int 0, .ref sta, .ref stb, .ref stc, .ref std]))]) rfl 0 15 rfl rfl rfl hl.1 rfl (Nat.le_of_ble_eq_true rfl) rfl ⟨Nat.le_of_ble_eq_true rfl, Nat.le_of_ble_eq_true rfl⟩ dL_addPredicate_7 (fun ce q9 H locs hP hD hS hce hcv hcl => ?_)
  refine ox_catch ⟨0, 12, 15, 19⟩ _ (htb.trans rfl) hown hE (Or.inl rfl) (by decide) (by decide) (hts (.classLink RL 19 "java/lang/IndexOutOfBoundsException") (by decide +kernel)) hce hcv hcl ?_
  refine lv_astore (lv' := [(5, .ref q9), (0, .ref h0), (1, .int (-1)), (2, .int (-1)), (3, .int p2), (4, .ref ou)]) hx hb dL_addPredicate_15 hl (by decide) rfl (fun ls hl => ?_)
  refine lv_iconst (v := 1) hx hb dL_addPredicate_17 (by decide) ?_
  exact vx_ret (oi_ret hx hb hr hlocks rfl () (rfl) hK (hP.sub [] rfl) (hD.sub [] (by decide) rfl) hS (Nat.le_of_ble_eq_true rfl) (Nat.le_of_ble_eq_true rfl) dL_addPredicate_18)
set_option maxHeartbeats 4000000 in
set_option maxRecDepth 100000 in
theorem w_addPredicate_ok (l : Launch) (hl0 : l.stackTraces = false) (e0 : Nat) (D : va_G) (k : Nat → ClassId) (h0 : Nat) (ou : Nat) (st : Nat) (pg : Nat) (mc : Nat) (br : Nat) (la : Nat) (sp : Nat) (sta : Nat) (stb : Nat) (stc : Nat) (std : Nat) (pla : Nat) (plb : Nat) (plc : Nat) (g9 : Nat → Int64) : oCi l e0 D (oTy k) yL_addPredicate wsL_addPredicate ({ frames := 7, cells := 8, slots := 34, locals := 157 } : Room) [.ref h0, .int (-1), .int (-1), .int (-1), .ref ou] [(h0, .inr (15, [.ref st, .ref pg, .ref mc, .ref br, .ref la, .ref sp, .int 0, .int 0, .long 0])), (st, .inr (14, [.int 0, .ref sta, .ref stb, .ref stc, .ref std])), (pg, .inr (11, [.ref pla, .ref plb, .ref plc])), (pla, .inr (3, [.int 0, .ref e0, .int 0])), (ou, .inl ((k 1), 1, .inr (.inl g9)))] (S := Unit) (fun (r : Int32) (u : Unit) => r = 0) (fun u => [(ou, .inl ((k 1), 1, .inr (.inl (vp_updL g9 (0 : Int32).toNatClampNeg (0 : Int32).toInt64))))]) 8 34 := by
  refine oi_ofH (cc := cL_addPredicate) (maxL := 6) (ret := (some .int)) (by decide +kernel) rfl (Nat.le_of_ble_eq_true rfl) ?_
  intro p e s m below meth c A ls htb hx hb hml hr hts hown hlocks hin hA hK hP hD hS hE hl
  have hl : lv_has ls 6 [(0, .ref h0), (1, .int (-1)), (2, .int (-1)), (3, .int (-1)), (4, .ref ou)] := hl
  refine lv_aload hx hb dL_addPredicate_0 (lv_at hl 4 rfl) ?_
  refine lv_iconst (v := 0) hx hb dL_addPredicate_2 (by decide) ?_
  refine lv_aload_n hx hb dL_addPredicate_3 rfl (lv_at hl 0 rfl) ?_
  refine lv_iload_n hx hb dL_addPredicate_4 rfl (lv_at hl 1 rfl) ?_
  refine lv_iload_n hx hb dL_addPredicate_5 rfl (lv_at hl 2 rfl) ?_
  refine lv_iload_n hx hb dL_addPredicate_6 rfl (lv_at hl 3 rfl) ?_
  refine oi_callV hx hb hml hown hts (f_addPredicate_ok l e0 D k h0 st pg mc br la sp sta stb stc std pla plb plc) (cwV 3 hts gL_addPredicate_X11_addPredicate rfl rfl rfl (by decide +kernel) ⟨Nat.le_of_ble_eq_true rfl, Nat.le_of_ble_eq_true rfl⟩) hK hP hD hS hA hE [0, 1, 2, 3] [4] rfl rfl (by decide) (by decide) (by decide) (wr := [(ou, .inl ((k 1), 1, .inr (.inl g9)))]) (w2 := fun u => [(ou, .inl ((k 1), 1, .inr (.inl g9)))]) (fun _ => rfl) 0 15 rfl rfl rfl hl.1 rfl (Nat.le_of_ble_eq_true rfl) rfl ⟨Nat.le_of_ble_eq_true rfl, Nat.le_of_ble_eq_true rfl⟩ dL_addPredicate_7 (fun r u H locs hq hP hD hS => ?_)
  have er : r = 0 := hq
  subst er
  have hP : va_P D vwCl [(ou, .inl ((k 1), 1, .inr (.inl g9)))] H := hP
  have hD : va_D A [(ou, .inl ((k 1), 1, .inr (.inl g9)))] := hD
  refine lv_i2l (v := (0 : Int32).toInt64) hx hb dL_addPredicate_10 rfl ?_
  refine va_last hx hb hK hP hD hS 0 1 rfl rfl (vp_in_nI (n := 0) (by decide) (by decide)) dL_addPredicate_11 (fun H locs hP hD hS => ?_)
  have hP : va_P D vwCl [(ou, .inl ((k 1), 1, .inr (.inl (vp_updL g9 (0 : Int32).toNatClampNeg (((0 : Int32).toInt64))))))] H := hP
  have hD : va_D A [(ou, .inl ((k 1), 1, .inr (.inl (vp_updL g9 (0 : Int32).toNatClampNeg (((0 : Int32).toInt64))))))] := hD
  refine lv_goto (tgt := 27) hx hb dL_addPredicate_12 (by decide) ?_
  refine lv_iconst (v := 0) hx hb dL_addPredicate_27 (by decide) ?_
  exact vx_ret (oi_ret hx hb hr hlocks rfl () (rfl) hK (hP.sub [0] rfl) (hD.sub [0] (by decide) rfl) hS (Nat.le_of_ble_eq_true rfl) (Nat.le_of_ble_eq_true rfl) dL_addPredicate_28)
set_option maxHeartbeats 4000000 in
set_option maxRecDepth 100000 in
theorem w_addMode (l : Launch) (hl0 : l.stackTraces = false) (e0 : Nat) (D : va_G) (k : Nat → ClassId) (h0 : Nat) (p0 : Int32) (p1 : Int32) (p2 : Int32) (ou : Nat) (st : Nat) (pg : Nat) (mc : Nat) (br : Nat) (la : Nat) (sp : Nat) (pla : Nat) (plb : Nat) (plc : Nat) (g9 : Nat → Int64) : oCi l e0 D (oTy k) yL_addMode wsL_addMode ({ frames := 7, cells := 1, slots := 6, locals := 113 } : Room) [.ref h0, .int p0, .int p1, .int p2, .ref ou] [(h0, .inr (15, [.ref st, .ref pg, .ref mc, .ref br, .ref la, .ref sp, .int 0, .int 0, .long 0])), (pg, .inr (11, [.ref pla, .ref plb, .ref plc])), (pla, .inr (3, [.int 0, .ref e0, .int 0])), (ou, .inl ((k 1), 1, .inr (.inl g9)))] (S := Unit) (fun (r : Int32) (u : Unit) => r = 1) (fun u => []) 1 6 := by
  refine oi_ofH (cc := cL_addMode) (maxL := 6) (ret := (some .int)) (by decide +kernel) rfl (Nat.le_of_ble_eq_true rfl) ?_
  intro p e s m below meth c A ls htb hx hb hml hr hts hown hlocks hin hA hK hP hD hS hE hl
  have hl : lv_has ls 6 [(0, .ref h0), (1, .int p0), (2, .int p1), (3, .int p2), (4, .ref ou)] := hl
  refine lv_aload hx hb dL_addMode_0 (lv_at hl 4 rfl) ?_
  refine lv_iconst (v := 0) hx hb dL_addMode_2 (by decide) ?_
  refine lv_aload_n hx hb dL_addMode_3 rfl (lv_at hl 0 rfl) ?_
  refine lv_iload_n hx hb dL_addMode_4 rfl (lv_at hl 1 rfl) ?_
  refine lv_iload_n hx hb dL_addMode_5 rfl (lv_at hl 2 rfl) ?_
  refine lv_iload_n hx hb dL_addMode_6 rfl (lv_at hl 3 rfl) ?_
  refine ox_callV hx hb hml hown hts (f_addMode l hl0 e0 D k h0 p0 p1 p2 st pg mc br la sp pla plb plc) (cwV 3 hts gL_addMode_X11_addMode rfl rfl rfl (by decide +kernel) ⟨Nat.le_of_ble_eq_true rfl, Nat.le_of_ble_eq_true rfl⟩) hK hP hD hS hA hE [0, 1, 2] [3] rfl rfl (by decide) (by decide) (by decide) (wr := [(ou, .inl ((k 1), 1, .inr (.inl g9)))]) (w3 := [(ou, .inl ((k 1), 1, .inr (.inl g9))), (h0, .inr (15, [.ref st, .ref pg, .ref mc, .ref br, .ref la, .ref sp, .int 0, .int 0, .long 0])), (pg, .inr (11, [.ref pla, .ref plb, .ref plc])), (pla, .inr (3, [.int 0, .ref e0, .int 0]))]) rfl 0 15 rfl rfl rfl hl.1 rfl (Nat.le_of_ble_eq_true rfl) rfl ⟨Nat.le_of_ble_eq_true rfl, Nat.le_of_ble_eq_true rfl⟩ dL_addMode_7 (fun ce q9 H locs hP hD hS hce hcv hcl => ?_)
  refine ox_catch ⟨0, 12, 15, 19⟩ _ (htb.trans rfl) hown hE (Or.inl rfl) (by decide) (by decide) (hts (.classLink RL 19 "java/lang/IndexOutOfBoundsException") (by decide +kernel)) hce hcv hcl ?_
  refine lv_astore (lv' := [(5, .ref q9), (0, .ref h0), (1, .int p0), (2, .int p1), (3, .int p2), (4, .ref ou)]) hx hb dL_addMode_15 hl (by decide) rfl (fun ls hl => ?_)
  refine lv_iconst (v := 1) hx hb dL_addMode_17 (by decide) ?_
  exact vx_ret (oi_ret hx hb hr hlocks rfl () (rfl) hK (hP.sub [] rfl) (hD.sub [] (by decide) rfl) hS (Nat.le_of_ble_eq_true rfl) (Nat.le_of_ble_eq_true rfl) dL_addMode_18)
set_option maxHeartbeats 4000000 in
set_option maxRecDepth 100000 in
theorem w_addClause (l : Launch) (hl0 : l.stackTraces = false) (e0 : Nat) (D : va_G) (k : Nat → ClassId) (h0 : Nat) (p0 : Int32) (ou : Nat) (st : Nat) (pg : Nat) (mc : Nat) (br : Nat) (la : Nat) (sp : Nat) (pla : Nat) (plb : Nat) (plc : Nat) (g9 : Nat → Int64) : oCi l e0 D (oTy k) yL_addClause wsL_addClause ({ frames := 7, cells := 1, slots := 6, locals := 111 } : Room) [.ref h0, .int p0, .ref ou] [(h0, .inr (15, [.ref st, .ref pg, .ref mc, .ref br, .ref la, .ref sp, .int 0, .int 0, .long 0])), (pg, .inr (11, [.ref pla, .ref plb, .ref plc])), (pla, .inr (3, [.int 0, .ref e0, .int 0])), (ou, .inl ((k 1), 1, .inr (.inl g9)))] (S := Unit) (fun (r : Int32) (u : Unit) => r = 1) (fun u => []) 1 6 := by
  refine oi_ofH (cc := cL_addClause) (maxL := 4) (ret := (some .int)) (by decide +kernel) rfl (Nat.le_of_ble_eq_true rfl) ?_
  intro p e s m below meth c A ls htb hx hb hml hr hts hown hlocks hin hA hK hP hD hS hE hl
  have hl : lv_has ls 4 [(0, .ref h0), (1, .int p0), (2, .ref ou)] := hl
  refine lv_aload_n hx hb dL_addClause_0 rfl (lv_at hl 2 rfl) ?_
  refine lv_iconst (v := 0) hx hb dL_addClause_1 (by decide) ?_
  refine lv_aload_n hx hb dL_addClause_2 rfl (lv_at hl 0 rfl) ?_
  refine lv_iload_n hx hb dL_addClause_3 rfl (lv_at hl 1 rfl) ?_
  refine ox_callV hx hb hml hown hts (f_addClause l hl0 e0 D k h0 p0 st pg mc br la sp pla plb plc) (cwV 1 hts gL_addClause_X11_addClause rfl rfl rfl (by decide +kernel) ⟨Nat.le_of_ble_eq_true rfl, Nat.le_of_ble_eq_true rfl⟩) hK hP hD hS hA hE [0, 1, 2] [3] rfl rfl (by decide) (by decide) (by decide) (wr := [(ou, .inl ((k 1), 1, .inr (.inl g9)))]) (w3 := [(ou, .inl ((k 1), 1, .inr (.inl g9))), (h0, .inr (15, [.ref st, .ref pg, .ref mc, .ref br, .ref la, .ref sp, .int 0, .int 0, .long 0])), (pg, .inr (11, [.ref pla, .ref plb, .ref plc])), (pla, .inr (3, [.int 0, .ref e0, .int 0]))]) rfl 0 15 rfl rfl rfl hl.1 rfl (Nat.le_of_ble_eq_true rfl) rfl ⟨Nat.le_of_ble_eq_true rfl, Nat.le_of_ble_eq_true rfl⟩ dL_addClause_4 (fun ce q9 H locs hP hD hS hce hcv hcl => ?_)
  refine ox_catch ⟨0, 9, 12, 19⟩ _ (htb.trans rfl) hown hE (Or.inl rfl) (by decide) (by decide) (hts (.classLink RL 19 "java/lang/IndexOutOfBoundsException") (by decide +kernel)) hce hcv hcl ?_
  refine lv_astore_n (lv' := [(3, .ref q9), (0, .ref h0), (1, .int p0), (2, .ref ou)]) hx hb dL_addClause_12 rfl hl (by decide) rfl (fun ls hl => ?_)
  refine lv_iconst (v := 1) hx hb dL_addClause_13 (by decide) ?_
  exact vx_ret (oi_ret hx hb hr hlocks rfl () (rfl) hK (hP.sub [] rfl) (hD.sub [] (by decide) rfl) hS (Nat.le_of_ble_eq_true rfl) (Nat.le_of_ble_eq_true rfl) dL_addClause_14)
set_option maxHeartbeats 4000000 in
set_option maxRecDepth 100000 in
theorem w_addBuild (l : Launch) (hl0 : l.stackTraces = false) (e0 : Nat) (D : va_G) (k : Nat → ClassId) (h0 : Nat) (p0 : Int32) (p1 : Int32) (p2 : Int32) (p3 : Int32) (p4 : Int32) (ou : Nat) (st : Nat) (pg : Nat) (mc : Nat) (br : Nat) (la : Nat) (sp : Nat) (pla : Nat) (plb : Nat) (plc : Nat) (g9 : Nat → Int64) : oCi l e0 D (oTy k) yL_addBuild wsL_addBuild ({ frames := 7, cells := 1, slots := 6, locals := 119 } : Room) [.ref h0, .int p0, .int p1, .int p2, .int p3, .int p4, .ref ou] [(h0, .inr (15, [.ref st, .ref pg, .ref mc, .ref br, .ref la, .ref sp, .int 0, .int 0, .long 0])), (pg, .inr (11, [.ref pla, .ref plb, .ref plc])), (plc, .inr (3, [.int 0, .ref e0, .int 0])), (ou, .inl ((k 1), 1, .inr (.inl g9)))] (S := Unit) (fun (r : Int32) (u : Unit) => r = 1) (fun u => []) 1 6 := by
  refine oi_ofH (cc := cL_addBuild) (maxL := 8) (ret := (some .int)) (by decide +kernel) rfl (Nat.le_of_ble_eq_true rfl) ?_
  intro p e s m below meth c A ls htb hx hb hml hr hts hown hlocks hin hA hK hP hD hS hE hl
  have hl : lv_has ls 8 [(0, .ref h0), (1, .int p0), (2, .int p1), (3, .int p2), (4, .int p3), (5, .int p4), (6, .ref ou)] := hl
  refine lv_aload hx hb dL_addBuild_0 (lv_at hl 6 rfl) ?_
  refine lv_iconst (v := 0) hx hb dL_addBuild_2 (by decide) ?_
  refine lv_aload_n hx hb dL_addBuild_3 rfl (lv_at hl 0 rfl) ?_
  refine lv_iload_n hx hb dL_addBuild_4 rfl (lv_at hl 1 rfl) ?_
  refine lv_iload_n hx hb dL_addBuild_5 rfl (lv_at hl 2 rfl) ?_
  refine lv_iload_n hx hb dL_addBuild_6 rfl (lv_at hl 3 rfl) ?_
  refine lv_iload hx hb dL_addBuild_7 (lv_at hl 4 rfl) ?_
  refine lv_iload hx hb dL_addBuild_9 (lv_at hl 5 rfl) ?_
  refine ox_callV hx hb hml hown hts (f_addBuild l hl0 e0 D k h0 p0 p1 p2 p3 p4 st pg mc br la sp pla plb plc) (cwV 5 hts gL_addBuild_X11_addBuild rfl rfl rfl (by decide +kernel) ⟨Nat.le_of_ble_eq_true rfl, Nat.le_of_ble_eq_true rfl⟩) hK hP hD hS hA hE [0, 1, 2] [3] rfl rfl (by decide) (by decide) (by decide) (wr := [(ou, .inl ((k 1), 1, .inr (.inl g9)))]) (w3 := [(ou, .inl ((k 1), 1, .inr (.inl g9))), (h0, .inr (15, [.ref st, .ref pg, .ref mc, .ref br, .ref la, .ref sp, .int 0, .int 0, .long 0])), (pg, .inr (11, [.ref pla, .ref plb, .ref plc])), (plc, .inr (3, [.int 0, .ref e0, .int 0]))]) rfl 0 15 rfl rfl rfl hl.1 rfl (Nat.le_of_ble_eq_true rfl) rfl ⟨Nat.le_of_ble_eq_true rfl, Nat.le_of_ble_eq_true rfl⟩ dL_addBuild_11 (fun ce q9 H locs hP hD hS hce hcv hcl => ?_)
  refine ox_catch ⟨0, 16, 19, 19⟩ _ (htb.trans rfl) hown hE (Or.inl rfl) (by decide) (by decide) (hts (.classLink RL 19 "java/lang/IndexOutOfBoundsException") (by decide +kernel)) hce hcv hcl ?_
  refine lv_astore (lv' := [(7, .ref q9), (0, .ref h0), (1, .int p0), (2, .int p1), (3, .int p2), (4, .int p3), (5, .int p4), (6, .ref ou)]) hx hb dL_addBuild_19 hl (by decide) rfl (fun ls hl => ?_)
  refine lv_iconst (v := 1) hx hb dL_addBuild_21 (by decide) ?_
  exact vx_ret (oi_ret hx hb hr hlocks rfl () (rfl) hK (hP.sub [] rfl) (hD.sub [] (by decide) rfl) hS (Nat.le_of_ble_eq_true rfl) (Nat.le_of_ble_eq_true rfl) dL_addBuild_22)
set_option maxHeartbeats 4000000 in
set_option maxRecDepth 100000 in
theorem w_addSame (l : Launch) (hl0 : l.stackTraces = false) (e0 : Nat) (D : va_G) (k : Nat → ClassId) (h0 : Nat) (p0 : Int32) (p1 : Int32) (p2 : Int32) (ou : Nat) (st : Nat) (pg : Nat) (mc : Nat) (br : Nat) (la : Nat) (sp : Nat) (pla : Nat) (plb : Nat) (plc : Nat) (g9 : Nat → Int64) : oCi l e0 D (oTy k) yL_addSame wsL_addSame ({ frames := 7, cells := 1, slots := 6, locals := 114 } : Room) [.ref h0, .int p0, .int p1, .int p2, .ref ou] [(h0, .inr (15, [.ref st, .ref pg, .ref mc, .ref br, .ref la, .ref sp, .int 0, .int 0, .long 0])), (pg, .inr (11, [.ref pla, .ref plb, .ref plc])), (plc, .inr (3, [.int 0, .ref e0, .int 0])), (ou, .inl ((k 1), 1, .inr (.inl g9)))] (S := Unit) (fun (r : Int32) (u : Unit) => r = 1) (fun u => []) 1 6 := by
  refine oi_ofH (cc := cL_addSame) (maxL := 6) (ret := (some .int)) (by decide +kernel) rfl (Nat.le_of_ble_eq_true rfl) ?_
  intro p e s m below meth c A ls htb hx hb hml hr hts hown hlocks hin hA hK hP hD hS hE hl
  have hl : lv_has ls 6 [(0, .ref h0), (1, .int p0), (2, .int p1), (3, .int p2), (4, .ref ou)] := hl
  refine lv_aload hx hb dL_addSame_0 (lv_at hl 4 rfl) ?_
  refine lv_iconst (v := 0) hx hb dL_addSame_2 (by decide) ?_
  refine lv_aload_n hx hb dL_addSame_3 rfl (lv_at hl 0 rfl) ?_
  refine lv_iload_n hx hb dL_addSame_4 rfl (lv_at hl 1 rfl) ?_
  refine lv_iload_n hx hb dL_addSame_5 rfl (lv_at hl 2 rfl) ?_
  refine lv_iload_n hx hb dL_addSame_6 rfl (lv_at hl 3 rfl) ?_
  refine ox_callV hx hb hml hown hts (f_addSame l hl0 e0 D k h0 p0 p1 p2 st pg mc br la sp pla plb plc) (cwV 3 hts gL_addSame_X11_addSame rfl rfl rfl (by decide +kernel) ⟨Nat.le_of_ble_eq_true rfl, Nat.le_of_ble_eq_true rfl⟩) hK hP hD hS hA hE [0, 1, 2] [3] rfl rfl (by decide) (by decide) (by decide) (wr := [(ou, .inl ((k 1), 1, .inr (.inl g9)))]) (w3 := [(ou, .inl ((k 1), 1, .inr (.inl g9))), (h0, .inr (15, [.ref st, .ref pg, .ref mc, .ref br, .ref la, .ref sp, .int 0, .int 0, .long 0])), (pg, .inr (11, [.ref pla, .ref plb, .ref plc])), (plc, .inr (3, [.int 0, .ref e0, .int 0]))]) rfl 0 15 rfl rfl rfl hl.1 rfl (Nat.le_of_ble_eq_true rfl) rfl ⟨Nat.le_of_ble_eq_true rfl, Nat.le_of_ble_eq_true rfl⟩ dL_addSame_7 (fun ce q9 H locs hP hD hS hce hcv hcl => ?_)
  refine ox_catch ⟨0, 12, 15, 19⟩ _ (htb.trans rfl) hown hE (Or.inl rfl) (by decide) (by decide) (hts (.classLink RL 19 "java/lang/IndexOutOfBoundsException") (by decide +kernel)) hce hcv hcl ?_
  refine lv_astore (lv' := [(5, .ref q9), (0, .ref h0), (1, .int p0), (2, .int p1), (3, .int p2), (4, .ref ou)]) hx hb dL_addSame_15 hl (by decide) rfl (fun ls hl => ?_)
  refine lv_iconst (v := 1) hx hb dL_addSame_17 (by decide) ?_
  exact vx_ret (oi_ret hx hb hr hlocks rfl () (rfl) hK (hP.sub [] rfl) (hD.sub [] (by decide) rfl) hS (Nat.le_of_ble_eq_true rfl) (Nat.le_of_ble_eq_true rfl) dL_addSame_18)
set_option maxHeartbeats 4000000 in
set_option maxRecDepth 100000 in
theorem w_addCall (l : Launch) (hl0 : l.stackTraces = false) (e0 : Nat) (D : va_G) (k : Nat → ClassId) (h0 : Nat) (p0 : Int32) (p1 : Int32) (p2 : Int32) (p3 : Int32) (p4 : Int32) (p5 : Int32) (ou : Nat) (st : Nat) (pg : Nat) (mc : Nat) (br : Nat) (la : Nat) (sp : Nat) (pla : Nat) (plb : Nat) (plc : Nat) (g9 : Nat → Int64) : oCi l e0 D (oTy k) yL_addCall wsL_addCall ({ frames := 7, cells := 1, slots := 6, locals := 119 } : Room) [.ref h0, .int p0, .int p1, .int p2, .int p3, .int p4, .int p5, .ref ou] [(h0, .inr (15, [.ref st, .ref pg, .ref mc, .ref br, .ref la, .ref sp, .int 0, .int 0, .long 0])), (pg, .inr (11, [.ref pla, .ref plb, .ref plc])), (pla, .inr (3, [.int 0, .ref e0, .int 0])), (plc, .inr (3, [.int 0, .ref e0, .int 0])), (ou, .inl ((k 1), 1, .inr (.inl g9)))] (S := Unit) (fun (r : Int32) (u : Unit) => r = 1) (fun u => []) 1 6 := by
  refine oi_ofH (cc := cL_addCall) (maxL := 9) (ret := (some .int)) (by decide +kernel) rfl (Nat.le_of_ble_eq_true rfl) ?_
  intro p e s m below meth c A ls htb hx hb hml hr hts hown hlocks hin hA hK hP hD hS hE hl
  have hl : lv_has ls 9 [(0, .ref h0), (1, .int p0), (2, .int p1), (3, .int p2), (4, .int p3), (5, .int p4), (6, .int p5), (7, .ref ou)] := hl
  refine lv_aload hx hb dL_addCall_0 (lv_at hl 7 rfl) ?_
  refine lv_iconst (v := 0) hx hb dL_addCall_2 (by decide) ?_
  refine lv_aload_n hx hb dL_addCall_3 rfl (lv_at hl 0 rfl) ?_
  refine lv_iload_n hx hb dL_addCall_4 rfl (lv_at hl 1 rfl) ?_
  refine lv_iload_n hx hb dL_addCall_5 rfl (lv_at hl 2 rfl) ?_
  refine lv_iload_n hx hb dL_addCall_6 rfl (lv_at hl 3 rfl) ?_
  refine lv_iload hx hb dL_addCall_7 (lv_at hl 4 rfl) ?_
  refine lv_iload hx hb dL_addCall_9 (lv_at hl 5 rfl) ?_
  refine lv_iload hx hb dL_addCall_11 (lv_at hl 6 rfl) ?_
  refine ox_callV hx hb hml hown hts (f_addCall l hl0 e0 D k h0 p0 p1 p2 p3 p4 p5 st pg mc br la sp pla plb plc) (cwV 6 hts gL_addCall_X11_addCall rfl rfl rfl (by decide +kernel) ⟨Nat.le_of_ble_eq_true rfl, Nat.le_of_ble_eq_true rfl⟩) hK hP hD hS hA hE [0, 1, 2, 3] [4] rfl rfl (by decide) (by decide) (by decide) (wr := [(ou, .inl ((k 1), 1, .inr (.inl g9)))]) (w3 := [(ou, .inl ((k 1), 1, .inr (.inl g9))), (h0, .inr (15, [.ref st, .ref pg, .ref mc, .ref br, .ref la, .ref sp, .int 0, .int 0, .long 0])), (pg, .inr (11, [.ref pla, .ref plb, .ref plc])), (pla, .inr (3, [.int 0, .ref e0, .int 0])), (plc, .inr (3, [.int 0, .ref e0, .int 0]))]) rfl 0 15 rfl rfl rfl hl.1 rfl (Nat.le_of_ble_eq_true rfl) rfl ⟨Nat.le_of_ble_eq_true rfl, Nat.le_of_ble_eq_true rfl⟩ dL_addCall_13 (fun ce q9 H locs hP hD hS hce hcv hcl => ?_)
  refine ox_catch ⟨0, 18, 21, 19⟩ _ (htb.trans rfl) hown hE (Or.inl rfl) (by decide) (by decide) (hts (.classLink RL 19 "java/lang/IndexOutOfBoundsException") (by decide +kernel)) hce hcv hcl ?_
  refine lv_astore (lv' := [(8, .ref q9), (0, .ref h0), (1, .int p0), (2, .int p1), (3, .int p2), (4, .int p3), (5, .int p4), (6, .int p5), (7, .ref ou)]) hx hb dL_addCall_21 hl (by decide) rfl (fun ls hl => ?_)
  refine lv_iconst (v := 1) hx hb dL_addCall_23 (by decide) ?_
  exact vx_ret (oi_ret hx hb hr hlocks rfl () (rfl) hK (hP.sub [] rfl) (hD.sub [] (by decide) rfl) hS (Nat.le_of_ble_eq_true rfl) (Nat.le_of_ble_eq_true rfl) dL_addCall_24)
set_option maxHeartbeats 4000000 in
set_option maxRecDepth 100000 in
theorem w_compile (l : Launch) (hl0 : l.stackTraces = false) (e0 : Nat) (D : va_G) (k : Nat → ClassId) (h0 : Nat) (ou : Nat) (st : Nat) (pg : Nat) (mc : Nat) (br : Nat) (la : Nat) (sp : Nat) (pla : Nat) (plb : Nat) (plc : Nat) (g9 : Nat → Int64) : oCi l e0 D (oTy k) yL_compile wsL_compile ({ frames := 4, cells := 0, slots := 0, locals := 89 } : Room) [.ref h0, .ref ou] [(h0, .inr (15, [.ref st, .ref pg, .ref mc, .ref br, .ref la, .ref sp, .int 0, .int 0, .long 0])), (pg, .inr (11, [.ref pla, .ref plb, .ref plc])), (plb, .inr (3, [.int 0, .ref e0, .int 0])), (ou, .inl ((k 1), 1, .inr (.inl g9)))] (S := Unit) (fun (r : Int32) (u : Unit) => r = 0) (fun u => [(ou, .inl ((k 1), 1, .inr (.inl (vp_updL g9 (0 : Int32).toNatClampNeg (0 : Int32).toInt64))))]) 0 0 := by
  refine oi_ofH (cc := cL_compile) (maxL := 3) (ret := (some .int)) (by decide +kernel) rfl (Nat.le_of_ble_eq_true rfl) ?_
  intro p e s m below meth c A ls htb hx hb hml hr hts hown hlocks hin hA hK hP hD hS hE hl
  have hl : lv_has ls 3 [(0, .ref h0), (1, .ref ou)] := hl
  refine lv_aload_n hx hb dL_compile_0 rfl (lv_at hl 1 rfl) ?_
  refine lv_iconst (v := 0) hx hb dL_compile_1 (by decide) ?_
  refine lv_aload_n hx hb dL_compile_2 rfl (lv_at hl 0 rfl) ?_
  refine oi_callV hx hb hml hown hts (f_compile l e0 D k h0 st pg mc br la sp pla plb plc) (cwV 0 hts gL_compile_X11_compile rfl rfl rfl (by decide +kernel) ⟨Nat.le_of_ble_eq_true rfl, Nat.le_of_ble_eq_true rfl⟩) hK hP hD hS hA hE [0, 1, 2] [3] rfl rfl (by decide) (by decide) (by decide) (wr := [(ou, .inl ((k 1), 1, .inr (.inl g9)))]) (w2 := fun u => [(ou, .inl ((k 1), 1, .inr (.inl g9)))]) (fun _ => rfl) 0 15 rfl rfl rfl hl.1 rfl (Nat.le_of_ble_eq_true rfl) rfl ⟨Nat.le_of_ble_eq_true rfl, Nat.le_of_ble_eq_true rfl⟩ dL_compile_3 (fun r u H locs hq hP hD hS => ?_)
  have er : r = 0 := hq
  subst er
  have hP : va_P D vwCl [(ou, .inl ((k 1), 1, .inr (.inl g9)))] H := hP
  have hD : va_D A [(ou, .inl ((k 1), 1, .inr (.inl g9)))] := hD
  refine lv_i2l (v := (0 : Int32).toInt64) hx hb dL_compile_6 rfl ?_
  refine va_last hx hb hK hP hD hS 0 1 rfl rfl (vp_in_nI (n := 0) (by decide) (by decide)) dL_compile_7 (fun H locs hP hD hS => ?_)
  have hP : va_P D vwCl [(ou, .inl ((k 1), 1, .inr (.inl (vp_updL g9 (0 : Int32).toNatClampNeg (((0 : Int32).toInt64))))))] H := hP
  have hD : va_D A [(ou, .inl ((k 1), 1, .inr (.inl (vp_updL g9 (0 : Int32).toNatClampNeg (((0 : Int32).toInt64))))))] := hD
  refine lv_goto (tgt := 14) hx hb dL_compile_8 (by decide) ?_
  refine lv_iconst (v := 0) hx hb dL_compile_14 (by decide) ?_
  exact vx_ret (oi_ret hx hb hr hlocks rfl () (rfl) hK (hP.sub [0] rfl) (hD.sub [0] (by decide) rfl) hS (Nat.le_of_ble_eq_true rfl) (Nat.le_of_ble_eq_true rfl) dL_compile_15)
set_option maxHeartbeats 4000000 in
set_option maxRecDepth 100000 in
theorem w_open (l : Launch) (hl0 : l.stackTraces = false) (e0 : Nat) (D : va_G) (k : Nat → ClassId) (h0 : Nat) (ou : Nat) (st : Nat) (pg : Nat) (mc : Nat) (br : Nat) (la : Nat) (sp : Nat) (g9 : Nat → Int64) : oCi l e0 D (oTy k) yL_open wsL_open ({ frames := 8, cells := 1, slots := 6, locals := 130 } : Room) [.ref h0, .ref ou] [(h0, .inr (15, [.ref st, .ref pg, .ref mc, .ref br, .ref la, .ref sp, .int 0, .int 0, .long 0])), (ou, .inl ((k 1), 1, .inr (.inl g9)))] (S := Unit) (fun (r : Int32) (u : Unit) => r = 1) (fun u => []) 1 6 := by
  refine oi_ofH (cc := cL_open) (maxL := 3) (ret := (some .int)) (by decide +kernel) rfl (Nat.le_of_ble_eq_true rfl) ?_
  intro p e s m below meth c A ls htb hx hb hml hr hts hown hlocks hin hA hK hP hD hS hE hl
  have hl : lv_has ls 3 [(0, .ref h0), (1, .ref ou)] := hl
  refine lv_aload_n hx hb dL_open_0 rfl (lv_at hl 1 rfl) ?_
  refine lv_iconst (v := 0) hx hb dL_open_1 (by decide) ?_
  refine lv_aload_n hx hb dL_open_2 rfl (lv_at hl 0 rfl) ?_
  refine ox_callV hx hb hml hown hts (f_open l hl0 e0 D k h0 st pg mc br la sp) (cwV 0 hts gL_open_X11_open rfl rfl rfl (by decide +kernel) ⟨Nat.le_of_ble_eq_true rfl, Nat.le_of_ble_eq_true rfl⟩) hK hP hD hS hA hE [0] [1] rfl rfl (by decide) (by decide) (by decide) (wr := [(ou, .inl ((k 1), 1, .inr (.inl g9)))]) (w3 := [(ou, .inl ((k 1), 1, .inr (.inl g9))), (h0, .inr (15, [.ref st, .ref pg, .ref mc, .ref br, .ref la, .ref sp, .int 0, .int 0, .long 0]))]) rfl 0 15 rfl rfl rfl hl.1 rfl (Nat.le_of_ble_eq_true rfl) rfl ⟨Nat.le_of_ble_eq_true rfl, Nat.le_of_ble_eq_true rfl⟩ dL_open_3 (fun ce q9 H locs hP hD hS hce hcv hcl => ?_)
  refine ox_catch ⟨0, 8, 11, 13⟩ _ (htb.trans rfl) hown hE (Or.inr (Or.inr (Or.inl rfl))) (by decide) (by decide) (hts (.classLink RL 13 "java/lang/IllegalStateException") (by decide +kernel)) hce hcv hcl ?_
  refine lv_astore_n (lv' := [(2, .ref q9), (0, .ref h0), (1, .ref ou)]) hx hb dL_open_11 rfl hl (by decide) rfl (fun ls hl => ?_)
  refine lv_iconst (v := 1) hx hb dL_open_12 (by decide) ?_
  exact vx_ret (oi_ret hx hb hr hlocks rfl () (rfl) hK (hP.sub [] rfl) (hD.sub [] (by decide) rfl) hS (Nat.le_of_ble_eq_true rfl) (Nat.le_of_ble_eq_true rfl) dL_open_13)
set_option maxHeartbeats 4000000 in
set_option maxRecDepth 100000 in
theorem w_fault (l : Launch) (hl0 : l.stackTraces = false) (e0 : Nat) (D : va_G) (k : Nat → ClassId) (h0 : Nat) (p0 : Int32) (p1 : Int32) (ou : Nat) (st : Nat) (pg : Nat) (mc : Nat) (br : Nat) (la : Nat) (sp : Nat) (pla : Nat) (plb : Nat) (plc : Nat) (g9 : Nat → Int64) : oCi l e0 D (oTy k) yL_fault wsL_fault ({ frames := 8, cells := 1, slots := 6, locals := 134 } : Room) [.ref h0, .int p0, .int p1, .ref ou] [(h0, .inr (15, [.ref st, .ref pg, .ref mc, .ref br, .ref la, .ref sp, .int 0, .int 0, .long 0])), (pg, .inr (11, [.ref pla, .ref plb, .ref plc])), (pla, .inr (3, [.int 0, .ref e0, .int 0])), (ou, .inl ((k 1), 1, .inr (.inl g9)))] (S := Unit) (fun (r : Int32) (u : Unit) => r = 1) (fun u => []) 1 6 := by
  refine oi_ofH (cc := cL_fault) (maxL := 5) (ret := (some .int)) (by decide +kernel) rfl (Nat.le_of_ble_eq_true rfl) ?_
  intro p e s m below meth c A ls htb hx hb hml hr hts hown hlocks hin hA hK hP hD hS hE hl
  have hl : lv_has ls 5 [(0, .ref h0), (1, .int p0), (2, .int p1), (3, .ref ou)] := hl
  refine lv_aload_n hx hb dL_fault_0 rfl (lv_at hl 3 rfl) ?_
  refine lv_iconst (v := 0) hx hb dL_fault_1 (by decide) ?_
  refine lv_aload_n hx hb dL_fault_2 rfl (lv_at hl 0 rfl) ?_
  refine lv_iload_n hx hb dL_fault_3 rfl (lv_at hl 1 rfl) ?_
  refine lv_iload_n hx hb dL_fault_4 rfl (lv_at hl 2 rfl) ?_
  refine ox_callV hx hb hml hown hts (f_fault l hl0 e0 D k h0 p0 p1 st pg mc br la sp pla plb plc) (cwV 2 hts gL_fault_X11_fault rfl rfl rfl (by decide +kernel) ⟨Nat.le_of_ble_eq_true rfl, Nat.le_of_ble_eq_true rfl⟩) hK hP hD hS hA hE [0, 1, 2] [3] rfl rfl (by decide) (by decide) (by decide) (wr := [(ou, .inl ((k 1), 1, .inr (.inl g9)))]) (w3 := [(ou, .inl ((k 1), 1, .inr (.inl g9))), (h0, .inr (15, [.ref st, .ref pg, .ref mc, .ref br, .ref la, .ref sp, .int 0, .int 0, .long 0])), (pg, .inr (11, [.ref pla, .ref plb, .ref plc])), (pla, .inr (3, [.int 0, .ref e0, .int 0]))]) rfl 0 15 rfl rfl rfl hl.1 rfl (Nat.le_of_ble_eq_true rfl) rfl ⟨Nat.le_of_ble_eq_true rfl, Nat.le_of_ble_eq_true rfl⟩ dL_fault_5 (fun ce q9 H locs hP hD hS hce hcv hcl => ?_)
  refine ox_catch ⟨0, 10, 13, 19⟩ _ (htb.trans rfl) hown hE (Or.inl rfl) (by decide) (by decide) (hts (.classLink RL 19 "java/lang/IndexOutOfBoundsException") (by decide +kernel)) hce hcv hcl ?_
  refine lv_astore (lv' := [(4, .ref q9), (0, .ref h0), (1, .int p0), (2, .int p1), (3, .ref ou)]) hx hb dL_fault_13 hl (by decide) rfl (fun ls hl => ?_)
  refine lv_iconst (v := 1) hx hb dL_fault_15 (by decide) ?_
  exact vx_ret (oi_ret hx hb hr hlocks rfl () (rfl) hK (hP.sub [] rfl) (hD.sub [] (by decide) rfl) hS (Nat.le_of_ble_eq_true rfl) (Nat.le_of_ble_eq_true rfl) dL_fault_16)
set_option maxHeartbeats 4000000 in
set_option maxRecDepth 100000 in
theorem w_isGood (l : Launch) (hl0 : l.stackTraces = false) (e0 : Nat) (D : va_G) (k : Nat → ClassId) (h0 : Nat) (p0 : Int32) (p1 : Int32) (ou : Nat) (st : Nat) (pg : Nat) (mc : Nat) (br : Nat) (la : Nat) (sp : Nat) (pla : Nat) (plb : Nat) (plc : Nat) (g9 : Nat → Int64) : oCi l e0 D (oTy k) yL_isGood wsL_isGood ({ frames := 8, cells := 1, slots := 6, locals := 134 } : Room) [.ref h0, .int p0, .int p1, .ref ou] [(h0, .inr (15, [.ref st, .ref pg, .ref mc, .ref br, .ref la, .ref sp, .int 0, .int 0, .long 0])), (pg, .inr (11, [.ref pla, .ref plb, .ref plc])), (pla, .inr (3, [.int 0, .ref e0, .int 0])), (ou, .inl ((k 1), 1, .inr (.inl g9)))] (S := Unit) (fun (r : Int32) (u : Unit) => r = 1) (fun u => []) 1 6 := by
  refine oi_ofH (cc := cL_isGood) (maxL := 5) (ret := (some .int)) (by decide +kernel) rfl (Nat.le_of_ble_eq_true rfl) ?_
  intro p e s m below meth c A ls htb hx hb hml hr hts hown hlocks hin hA hK hP hD hS hE hl
  have hl : lv_has ls 5 [(0, .ref h0), (1, .int p0), (2, .int p1), (3, .ref ou)] := hl
  refine lv_aload_n hx hb dL_isGood_0 rfl (lv_at hl 3 rfl) ?_
  refine lv_iconst (v := 0) hx hb dL_isGood_1 (by decide) ?_
  refine lv_aload_n hx hb dL_isGood_2 rfl (lv_at hl 0 rfl) ?_
  refine lv_iload_n hx hb dL_isGood_3 rfl (lv_at hl 1 rfl) ?_
  refine lv_iload_n hx hb dL_isGood_4 rfl (lv_at hl 2 rfl) ?_
  refine ox_callV hx hb hml hown hts (f_isGood l hl0 e0 D k h0 p0 p1 st pg mc br la sp pla plb plc) (cwV 2 hts gL_isGood_X11_isGood rfl rfl rfl (by decide +kernel) ⟨Nat.le_of_ble_eq_true rfl, Nat.le_of_ble_eq_true rfl⟩) hK hP hD hS hA hE [0, 1, 2] [3] rfl rfl (by decide) (by decide) (by decide) (wr := [(ou, .inl ((k 1), 1, .inr (.inl g9)))]) (w3 := [(ou, .inl ((k 1), 1, .inr (.inl g9))), (h0, .inr (15, [.ref st, .ref pg, .ref mc, .ref br, .ref la, .ref sp, .int 0, .int 0, .long 0])), (pg, .inr (11, [.ref pla, .ref plb, .ref plc])), (pla, .inr (3, [.int 0, .ref e0, .int 0]))]) rfl 0 15 rfl rfl rfl hl.1 rfl (Nat.le_of_ble_eq_true rfl) rfl ⟨Nat.le_of_ble_eq_true rfl, Nat.le_of_ble_eq_true rfl⟩ dL_isGood_5 (fun ce q9 H locs hP hD hS hce hcv hcl => ?_)
  refine ox_catch ⟨0, 17, 20, 19⟩ _ (htb.trans rfl) hown hE (Or.inl rfl) (by decide) (by decide) (hts (.classLink RL 19 "java/lang/IndexOutOfBoundsException") (by decide +kernel)) hce hcv hcl ?_
  refine lv_astore (lv' := [(4, .ref q9), (0, .ref h0), (1, .int p0), (2, .int p1), (3, .ref ou)]) hx hb dL_isGood_20 hl (by decide) rfl (fun ls hl => ?_)
  refine lv_iconst (v := 1) hx hb dL_isGood_22 (by decide) ?_
  exact vx_ret (oi_ret hx hb hr hlocks rfl () (rfl) hK (hP.sub [] rfl) (hD.sub [] (by decide) rfl) hS (Nat.le_of_ble_eq_true rfl) (Nat.le_of_ble_eq_true rfl) dL_isGood_23)
set_option maxHeartbeats 4000000 in
set_option maxRecDepth 100000 in
theorem w_found (l : Launch) (hl0 : l.stackTraces = false) (e0 : Nat) (D : va_G) (k : Nat → ClassId) (h0 : Nat) (p0 : Int32) (p1 : Int32) (ou : Nat) (st : Nat) (pg : Nat) (mc : Nat) (br : Nat) (la : Nat) (sp : Nat) (pla : Nat) (plb : Nat) (plc : Nat) (g9 : Nat → Int64) : oCi l e0 D (oTy k) yL_found wsL_found ({ frames := 8, cells := 1, slots := 6, locals := 135 } : Room) [.ref h0, .int p0, .int p1, .ref ou] [(h0, .inr (15, [.ref st, .ref pg, .ref mc, .ref br, .ref la, .ref sp, .int 0, .int 0, .long 0])), (pg, .inr (11, [.ref pla, .ref plb, .ref plc])), (pla, .inr (3, [.int 0, .ref e0, .int 0])), (ou, .inl ((k 1), 1, .inr (.inl g9)))] (S := Unit) (fun (r : Int32) (u : Unit) => r = 1) (fun u => []) 1 6 := by
  refine oi_ofH (cc := cL_found) (maxL := 5) (ret := (some .int)) (by decide +kernel) rfl (Nat.le_of_ble_eq_true rfl) ?_
  intro p e s m below meth c A ls htb hx hb hml hr hts hown hlocks hin hA hK hP hD hS hE hl
  have hl : lv_has ls 5 [(0, .ref h0), (1, .int p0), (2, .int p1), (3, .ref ou)] := hl
  refine lv_aload_n hx hb dL_found_0 rfl (lv_at hl 3 rfl) ?_
  refine lv_iconst (v := 0) hx hb dL_found_1 (by decide) ?_
  refine lv_aload_n hx hb dL_found_2 rfl (lv_at hl 0 rfl) ?_
  refine lv_iload_n hx hb dL_found_3 rfl (lv_at hl 1 rfl) ?_
  refine lv_iload_n hx hb dL_found_4 rfl (lv_at hl 2 rfl) ?_
  refine ox_callV hx hb hml hown hts (f_found l hl0 e0 D k h0 p0 p1 st pg mc br la sp pla plb plc) (cwV 2 hts gL_found_X11_found rfl rfl rfl (by decide +kernel) ⟨Nat.le_of_ble_eq_true rfl, Nat.le_of_ble_eq_true rfl⟩) hK hP hD hS hA hE [0, 1, 2] [3] rfl rfl (by decide) (by decide) (by decide) (wr := [(ou, .inl ((k 1), 1, .inr (.inl g9)))]) (w3 := [(ou, .inl ((k 1), 1, .inr (.inl g9))), (h0, .inr (15, [.ref st, .ref pg, .ref mc, .ref br, .ref la, .ref sp, .int 0, .int 0, .long 0])), (pg, .inr (11, [.ref pla, .ref plb, .ref plc])), (pla, .inr (3, [.int 0, .ref e0, .int 0]))]) rfl 0 15 rfl rfl rfl hl.1 rfl (Nat.le_of_ble_eq_true rfl) rfl ⟨Nat.le_of_ble_eq_true rfl, Nat.le_of_ble_eq_true rfl⟩ dL_found_5 (fun ce q9 H locs hP hD hS hce hcv hcl => ?_)
  refine ox_catch ⟨0, 10, 13, 19⟩ _ (htb.trans rfl) hown hE (Or.inl rfl) (by decide) (by decide) (hts (.classLink RL 19 "java/lang/IndexOutOfBoundsException") (by decide +kernel)) hce hcv hcl ?_
  refine lv_astore (lv' := [(4, .ref q9), (0, .ref h0), (1, .int p0), (2, .int p1), (3, .ref ou)]) hx hb dL_found_13 hl (by decide) rfl (fun ls hl => ?_)
  refine lv_iconst (v := 1) hx hb dL_found_15 (by decide) ?_
  exact vx_ret (oi_ret hx hb hr hlocks rfl () (rfl) hK (hP.sub [] rfl) (hD.sub [] (by decide) rfl) hS (Nat.le_of_ble_eq_true rfl) (Nat.le_of_ble_eq_true rfl) dL_found_16)
set_option maxHeartbeats 4000000 in
set_option maxRecDepth 100000 in
theorem w_switchOf (l : Launch) (hl0 : l.stackTraces = false) (e0 : Nat) (D : va_G) (k : Nat → ClassId) (h0 : Nat) (p0 : Int32) (p1 : Int32) (ou : Nat) (st : Nat) (pg : Nat) (mc : Nat) (br : Nat) (la : Nat) (sp : Nat) (pla : Nat) (plb : Nat) (plc : Nat) (g9 : Nat → Int64) : oCi l e0 D (oTy k) yL_switchOf wsL_switchOf ({ frames := 8, cells := 1, slots := 6, locals := 135 } : Room) [.ref h0, .int p0, .int p1, .ref ou] [(h0, .inr (15, [.ref st, .ref pg, .ref mc, .ref br, .ref la, .ref sp, .int 0, .int 0, .long 0])), (pg, .inr (11, [.ref pla, .ref plb, .ref plc])), (pla, .inr (3, [.int 0, .ref e0, .int 0])), (ou, .inl ((k 1), 1, .inr (.inl g9)))] (S := Unit) (fun (r : Int32) (u : Unit) => r = 1) (fun u => []) 1 6 := by
  refine oi_ofH (cc := cL_switchOf) (maxL := 5) (ret := (some .int)) (by decide +kernel) rfl (Nat.le_of_ble_eq_true rfl) ?_
  intro p e s m below meth c A ls htb hx hb hml hr hts hown hlocks hin hA hK hP hD hS hE hl
  have hl : lv_has ls 5 [(0, .ref h0), (1, .int p0), (2, .int p1), (3, .ref ou)] := hl
  refine lv_aload_n hx hb dL_switchOf_0 rfl (lv_at hl 3 rfl) ?_
  refine lv_iconst (v := 0) hx hb dL_switchOf_1 (by decide) ?_
  refine lv_aload_n hx hb dL_switchOf_2 rfl (lv_at hl 0 rfl) ?_
  refine lv_iload_n hx hb dL_switchOf_3 rfl (lv_at hl 1 rfl) ?_
  refine lv_iload_n hx hb dL_switchOf_4 rfl (lv_at hl 2 rfl) ?_
  refine ox_callV hx hb hml hown hts (f_switchOf l hl0 e0 D k h0 p0 p1 st pg mc br la sp pla plb plc) (cwV 2 hts gL_switchOf_X11_switchOf rfl rfl rfl (by decide +kernel) ⟨Nat.le_of_ble_eq_true rfl, Nat.le_of_ble_eq_true rfl⟩) hK hP hD hS hA hE [0, 1, 2] [3] rfl rfl (by decide) (by decide) (by decide) (wr := [(ou, .inl ((k 1), 1, .inr (.inl g9)))]) (w3 := [(ou, .inl ((k 1), 1, .inr (.inl g9))), (h0, .inr (15, [.ref st, .ref pg, .ref mc, .ref br, .ref la, .ref sp, .int 0, .int 0, .long 0])), (pg, .inr (11, [.ref pla, .ref plb, .ref plc])), (pla, .inr (3, [.int 0, .ref e0, .int 0]))]) rfl 0 15 rfl rfl rfl hl.1 rfl (Nat.le_of_ble_eq_true rfl) rfl ⟨Nat.le_of_ble_eq_true rfl, Nat.le_of_ble_eq_true rfl⟩ dL_switchOf_5 (fun ce q9 H locs hP hD hS hce hcv hcl => ?_)
  refine ox_catch ⟨0, 10, 13, 19⟩ _ (htb.trans rfl) hown hE (Or.inl rfl) (by decide) (by decide) (hts (.classLink RL 19 "java/lang/IndexOutOfBoundsException") (by decide +kernel)) hce hcv hcl ?_
  refine lv_astore (lv' := [(4, .ref q9), (0, .ref h0), (1, .int p0), (2, .int p1), (3, .ref ou)]) hx hb dL_switchOf_13 hl (by decide) rfl (fun ls hl => ?_)
  refine lv_iconst (v := 1) hx hb dL_switchOf_15 (by decide) ?_
  exact vx_ret (oi_ret hx hb hr hlocks rfl () (rfl) hK (hP.sub [] rfl) (hD.sub [] (by decide) rfl) hS (Nat.le_of_ble_eq_true rfl) (Nat.le_of_ble_eq_true rfl) dL_switchOf_16)
set_option maxHeartbeats 4000000 in
set_option maxRecDepth 100000 in
theorem w_goalAt (l : Launch) (hl0 : l.stackTraces = false) (e0 : Nat) (D : va_G) (k : Nat → ClassId) (h0 : Nat) (p0 : Int32) (p1 : Int32) (p2 : Int32) (ou : Nat) (st : Nat) (pg : Nat) (mc : Nat) (br : Nat) (la : Nat) (sp : Nat) (pla : Nat) (plb : Nat) (plc : Nat) (g9 : Nat → Int64) : oCi l e0 D (oTy k) yL_goalAt wsL_goalAt ({ frames := 8, cells := 1, slots := 6, locals := 137 } : Room) [.ref h0, .int p0, .int p1, .int p2, .ref ou] [(h0, .inr (15, [.ref st, .ref pg, .ref mc, .ref br, .ref la, .ref sp, .int 0, .int 0, .long 0])), (pg, .inr (11, [.ref pla, .ref plb, .ref plc])), (plc, .inr (3, [.int 0, .ref e0, .int 0])), (ou, .inl ((k 1), 1, .inr (.inl g9)))] (S := Unit) (fun (r : Int32) (u : Unit) => r = 1) (fun u => []) 1 6 := by
  refine oi_ofH (cc := cL_goalAt) (maxL := 6) (ret := (some .int)) (by decide +kernel) rfl (Nat.le_of_ble_eq_true rfl) ?_
  intro p e s m below meth c A ls htb hx hb hml hr hts hown hlocks hin hA hK hP hD hS hE hl
  have hl : lv_has ls 6 [(0, .ref h0), (1, .int p0), (2, .int p1), (3, .int p2), (4, .ref ou)] := hl
  refine lv_aload hx hb dL_goalAt_0 (lv_at hl 4 rfl) ?_
  refine lv_iconst (v := 0) hx hb dL_goalAt_2 (by decide) ?_
  refine lv_aload_n hx hb dL_goalAt_3 rfl (lv_at hl 0 rfl) ?_
  refine lv_iload_n hx hb dL_goalAt_4 rfl (lv_at hl 1 rfl) ?_
  refine lv_iload_n hx hb dL_goalAt_5 rfl (lv_at hl 2 rfl) ?_
  refine lv_iload_n hx hb dL_goalAt_6 rfl (lv_at hl 3 rfl) ?_
  refine ox_callV hx hb hml hown hts (f_goalAt l hl0 e0 D k h0 p0 p1 p2 st pg mc br la sp pla plb plc) (cwV 3 hts gL_goalAt_X11_goalAt rfl rfl rfl (by decide +kernel) ⟨Nat.le_of_ble_eq_true rfl, Nat.le_of_ble_eq_true rfl⟩) hK hP hD hS hA hE [0, 1, 2] [3] rfl rfl (by decide) (by decide) (by decide) (wr := [(ou, .inl ((k 1), 1, .inr (.inl g9)))]) (w3 := [(ou, .inl ((k 1), 1, .inr (.inl g9))), (h0, .inr (15, [.ref st, .ref pg, .ref mc, .ref br, .ref la, .ref sp, .int 0, .int 0, .long 0])), (pg, .inr (11, [.ref pla, .ref plb, .ref plc])), (plc, .inr (3, [.int 0, .ref e0, .int 0]))]) rfl 0 15 rfl rfl rfl hl.1 rfl (Nat.le_of_ble_eq_true rfl) rfl ⟨Nat.le_of_ble_eq_true rfl, Nat.le_of_ble_eq_true rfl⟩ dL_goalAt_7 (fun ce q9 H locs hP hD hS hce hcv hcl => ?_)
  refine ox_catch ⟨0, 12, 15, 19⟩ _ (htb.trans rfl) hown hE (Or.inl rfl) (by decide) (by decide) (hts (.classLink RL 19 "java/lang/IndexOutOfBoundsException") (by decide +kernel)) hce hcv hcl ?_
  refine lv_astore (lv' := [(5, .ref q9), (0, .ref h0), (1, .int p0), (2, .int p1), (3, .int p2), (4, .ref ou)]) hx hb dL_goalAt_15 hl (by decide) rfl (fun ls hl => ?_)
  refine lv_iconst (v := 1) hx hb dL_goalAt_17 (by decide) ?_
  exact vx_ret (oi_ret hx hb hr hlocks rfl () (rfl) hK (hP.sub [] rfl) (hD.sub [] (by decide) rfl) hS (Nat.le_of_ble_eq_true rfl) (Nat.le_of_ble_eq_true rfl) dL_goalAt_18)
set_option maxHeartbeats 4000000 in
set_option maxRecDepth 100000 in
theorem w_chosenAt (l : Launch) (hl0 : l.stackTraces = false) (e0 : Nat) (D : va_G) (k : Nat → ClassId) (h0 : Nat) (p0 : Int32) (p1 : Int32) (p2 : Int32) (ou : Nat) (st : Nat) (pg : Nat) (mc : Nat) (br : Nat) (la : Nat) (sp : Nat) (pla : Nat) (plb : Nat) (plc : Nat) (g9 : Nat → Int64) : oCi l e0 D (oTy k) yL_chosenAt wsL_chosenAt ({ frames := 8, cells := 1, slots := 6, locals := 137 } : Room) [.ref h0, .int p0, .int p1, .int p2, .ref ou] [(h0, .inr (15, [.ref st, .ref pg, .ref mc, .ref br, .ref la, .ref sp, .int 0, .int 0, .long 0])), (pg, .inr (11, [.ref pla, .ref plb, .ref plc])), (plc, .inr (3, [.int 0, .ref e0, .int 0])), (ou, .inl ((k 1), 1, .inr (.inl g9)))] (S := Unit) (fun (r : Int32) (u : Unit) => r = 1) (fun u => []) 1 6 := by
  refine oi_ofH (cc := cL_chosenAt) (maxL := 6) (ret := (some .int)) (by decide +kernel) rfl (Nat.le_of_ble_eq_true rfl) ?_
  intro p e s m below meth c A ls htb hx hb hml hr hts hown hlocks hin hA hK hP hD hS hE hl
  have hl : lv_has ls 6 [(0, .ref h0), (1, .int p0), (2, .int p1), (3, .int p2), (4, .ref ou)] := hl
  refine lv_aload hx hb dL_chosenAt_0 (lv_at hl 4 rfl) ?_
  refine lv_iconst (v := 0) hx hb dL_chosenAt_2 (by decide) ?_
  refine lv_aload_n hx hb dL_chosenAt_3 rfl (lv_at hl 0 rfl) ?_
  refine lv_iload_n hx hb dL_chosenAt_4 rfl (lv_at hl 1 rfl) ?_
  refine lv_iload_n hx hb dL_chosenAt_5 rfl (lv_at hl 2 rfl) ?_
  refine lv_iload_n hx hb dL_chosenAt_6 rfl (lv_at hl 3 rfl) ?_
  refine ox_callV hx hb hml hown hts (f_chosenAt l hl0 e0 D k h0 p0 p1 p2 st pg mc br la sp pla plb plc) (cwV 3 hts gL_chosenAt_X11_chosenAt rfl rfl rfl (by decide +kernel) ⟨Nat.le_of_ble_eq_true rfl, Nat.le_of_ble_eq_true rfl⟩) hK hP hD hS hA hE [0, 1, 2] [3] rfl rfl (by decide) (by decide) (by decide) (wr := [(ou, .inl ((k 1), 1, .inr (.inl g9)))]) (w3 := [(ou, .inl ((k 1), 1, .inr (.inl g9))), (h0, .inr (15, [.ref st, .ref pg, .ref mc, .ref br, .ref la, .ref sp, .int 0, .int 0, .long 0])), (pg, .inr (11, [.ref pla, .ref plb, .ref plc])), (plc, .inr (3, [.int 0, .ref e0, .int 0]))]) rfl 0 15 rfl rfl rfl hl.1 rfl (Nat.le_of_ble_eq_true rfl) rfl ⟨Nat.le_of_ble_eq_true rfl, Nat.le_of_ble_eq_true rfl⟩ dL_chosenAt_7 (fun ce q9 H locs hP hD hS hce hcv hcl => ?_)
  refine ox_catch ⟨0, 12, 15, 19⟩ _ (htb.trans rfl) hown hE (Or.inl rfl) (by decide) (by decide) (hts (.classLink RL 19 "java/lang/IndexOutOfBoundsException") (by decide +kernel)) hce hcv hcl ?_
  refine lv_astore (lv' := [(5, .ref q9), (0, .ref h0), (1, .int p0), (2, .int p1), (3, .int p2), (4, .ref ou)]) hx hb dL_chosenAt_15 hl (by decide) rfl (fun ls hl => ?_)
  refine lv_iconst (v := 1) hx hb dL_chosenAt_17 (by decide) ?_
  exact vx_ret (oi_ret hx hb hr hlocks rfl () (rfl) hK (hP.sub [] rfl) (hD.sub [] (by decide) rfl) hS (Nat.le_of_ble_eq_true rfl) (Nat.le_of_ble_eq_true rfl) dL_chosenAt_18)
set_option maxHeartbeats 4000000 in
set_option maxRecDepth 100000 in
theorem w_ask (l : Launch) (hl0 : l.stackTraces = false) (e0 : Nat) (D : va_G) (k : Nat → ClassId) (h0 : Nat) (p0 : Int32) (p1 : Int32) (p2 : Int32) (p3 : Int32) (p4 : Int32) (ou : Nat) (st : Nat) (pg : Nat) (mc : Nat) (br : Nat) (la : Nat) (sp : Nat) (pla : Nat) (plb : Nat) (plc : Nat) (g9 : Nat → Int64) : oCi l e0 D (oTy k) yL_ask wsL_ask ({ frames := 7, cells := 1, slots := 6, locals := 116 } : Room) [.ref h0, .int p0, .int p1, .int p2, .int p3, .int p4, .ref ou] [(h0, .inr (15, [.ref st, .ref pg, .ref mc, .ref br, .ref la, .ref sp, .int 0, .int 0, .long 0])), (pg, .inr (11, [.ref pla, .ref plb, .ref plc])), (pla, .inr (3, [.int 0, .ref e0, .int 0])), (ou, .inl ((k 1), 1, .inr (.inl g9)))] (S := Unit) (fun (r : Int32) (u : Unit) => r = 1) (fun u => []) 1 6 := by
  refine oi_ofH (cc := cL_ask) (maxL := 8) (ret := (some .int)) (by decide +kernel) rfl (Nat.le_of_ble_eq_true rfl) ?_
  intro p e s m below meth c A ls htb hx hb hml hr hts hown hlocks hin hA hK hP hD hS hE hl
  have hl : lv_has ls 8 [(0, .ref h0), (1, .int p0), (2, .int p1), (3, .int p2), (4, .int p3), (5, .int p4), (6, .ref ou)] := hl
  refine lv_aload hx hb dL_ask_0 (lv_at hl 6 rfl) ?_
  refine lv_iconst (v := 0) hx hb dL_ask_2 (by decide) ?_
  refine lv_aload_n hx hb dL_ask_3 rfl (lv_at hl 0 rfl) ?_
  refine lv_iload_n hx hb dL_ask_4 rfl (lv_at hl 1 rfl) ?_
  refine lv_iload_n hx hb dL_ask_5 rfl (lv_at hl 2 rfl) ?_
  refine lv_iload_n hx hb dL_ask_6 rfl (lv_at hl 3 rfl) ?_
  refine lv_iload hx hb dL_ask_7 (lv_at hl 4 rfl) ?_
  refine lv_iload hx hb dL_ask_9 (lv_at hl 5 rfl) ?_
  refine ox_callV hx hb hml hown hts (f_ask l hl0 e0 D k h0 p0 p1 p2 p3 p4 st pg mc br la sp pla plb plc) (cwV 5 hts gL_ask_X11_ask rfl rfl rfl (by decide +kernel) ⟨Nat.le_of_ble_eq_true rfl, Nat.le_of_ble_eq_true rfl⟩) hK hP hD hS hA hE [0, 1, 2] [3] rfl rfl (by decide) (by decide) (by decide) (wr := [(ou, .inl ((k 1), 1, .inr (.inl g9)))]) (w3 := [(ou, .inl ((k 1), 1, .inr (.inl g9))), (h0, .inr (15, [.ref st, .ref pg, .ref mc, .ref br, .ref la, .ref sp, .int 0, .int 0, .long 0])), (pg, .inr (11, [.ref pla, .ref plb, .ref plc])), (pla, .inr (3, [.int 0, .ref e0, .int 0]))]) rfl 0 15 rfl rfl rfl hl.1 rfl (Nat.le_of_ble_eq_true rfl) rfl ⟨Nat.le_of_ble_eq_true rfl, Nat.le_of_ble_eq_true rfl⟩ dL_ask_11 (fun ce q9 H locs hP hD hS hce hcv hcl => ?_)
  refine ox_catch ⟨0, 16, 19, 19⟩ _ (htb.trans rfl) hown hE (Or.inl rfl) (by decide) (by decide) (hts (.classLink RL 19 "java/lang/IndexOutOfBoundsException") (by decide +kernel)) hce hcv hcl ?_
  refine lv_astore (lv' := [(7, .ref q9), (0, .ref h0), (1, .int p0), (2, .int p1), (3, .int p2), (4, .int p3), (5, .int p4), (6, .ref ou)]) hx hb dL_ask_19 hl (by decide) rfl (fun ls hl => ?_)
  refine lv_iconst (v := 1) hx hb dL_ask_21 (by decide) ?_
  exact vx_ret (oi_ret hx hb hr hlocks rfl () (rfl) hK (hP.sub [] rfl) (hD.sub [] (by decide) rfl) hS (Nat.le_of_ble_eq_true rfl) (Nat.le_of_ble_eq_true rfl) dL_ask_22)
set_option maxHeartbeats 4000000 in
set_option maxRecDepth 100000 in
theorem w_ending (l : Launch) (hl0 : l.stackTraces = false) (e0 : Nat) (D : va_G) (k : Nat → ClassId) (h0 : Nat) (ou : Nat) (st : Nat) (pg : Nat) (mc : Nat) (br : Nat) (la : Nat) (sp : Nat) (g9 : Nat → Int64) : oCi l e0 D (oTy k) yL_ending wsL_ending ({ frames := 8, cells := 1, slots := 6, locals := 129 } : Room) [.ref h0, .ref ou] [(h0, .inr (15, [.ref st, .ref pg, .ref mc, .ref br, .ref la, .ref sp, .int 0, .int 0, .long 0])), (ou, .inl ((k 1), 1, .inr (.inl g9)))] (S := Unit) (fun (r : Int32) (u : Unit) => r = 1) (fun u => []) 1 6 := by
  refine oi_ofH (cc := cL_ending) (maxL := 3) (ret := (some .int)) (by decide +kernel) rfl (Nat.le_of_ble_eq_true rfl) ?_
  intro p e s m below meth c A ls htb hx hb hml hr hts hown hlocks hin hA hK hP hD hS hE hl
  have hl : lv_has ls 3 [(0, .ref h0), (1, .ref ou)] := hl
  refine lv_aload_n hx hb dL_ending_0 rfl (lv_at hl 1 rfl) ?_
  refine lv_iconst (v := 0) hx hb dL_ending_1 (by decide) ?_
  refine lv_aload_n hx hb dL_ending_2 rfl (lv_at hl 0 rfl) ?_
  refine ox_callV hx hb hml hown hts (f_ending l hl0 e0 D k h0 st pg mc br la sp) (cwV 0 hts gL_ending_X11_ending rfl rfl rfl (by decide +kernel) ⟨Nat.le_of_ble_eq_true rfl, Nat.le_of_ble_eq_true rfl⟩) hK hP hD hS hA hE [0] [1] rfl rfl (by decide) (by decide) (by decide) (wr := [(ou, .inl ((k 1), 1, .inr (.inl g9)))]) (w3 := [(ou, .inl ((k 1), 1, .inr (.inl g9))), (h0, .inr (15, [.ref st, .ref pg, .ref mc, .ref br, .ref la, .ref sp, .int 0, .int 0, .long 0]))]) rfl 0 15 rfl rfl rfl hl.1 rfl (Nat.le_of_ble_eq_true rfl) rfl ⟨Nat.le_of_ble_eq_true rfl, Nat.le_of_ble_eq_true rfl⟩ dL_ending_3 (fun ce q9 H locs hP hD hS hce hcv hcl => ?_)
  refine ox_catch ⟨0, 8, 11, 34⟩ _ (htb.trans rfl) hown hE (Or.inr (Or.inr (Or.inr (Or.inr (Or.inl rfl))))) (by decide) (by decide) (hts (.classLink RL 34 "java/util/NoSuchElementException") (by decide +kernel)) hce hcv hcl ?_
  refine lv_astore_n (lv' := [(2, .ref q9), (0, .ref h0), (1, .ref ou)]) hx hb dL_ending_11 rfl hl (by decide) rfl (fun ls hl => ?_)
  refine lv_iconst (v := 1) hx hb dL_ending_12 (by decide) ?_
  exact vx_ret (oi_ret hx hb hr hlocks rfl () (rfl) hK (hP.sub [] rfl) (hD.sub [] (by decide) rfl) hS (Nat.le_of_ble_eq_true rfl) (Nat.le_of_ble_eq_true rfl) dL_ending_13)
set_option maxHeartbeats 4000000 in
set_option maxRecDepth 100000 in
theorem w_answersByBreadth (l : Launch) (hl0 : l.stackTraces = false) (e0 : Nat) (D : va_G) (k : Nat → ClassId) (h0 : Nat) (ou : Nat) (st : Nat) (pg : Nat) (mc : Nat) (br : Nat) (la : Nat) (sp : Nat) (g9 : Nat → Int64) : oCi l e0 D (oTy k) yL_answersByBreadth wsL_answersByBreadth ({ frames := 8, cells := 1, slots := 6, locals := 129 } : Room) [.ref h0, .ref ou] [(h0, .inr (15, [.ref st, .ref pg, .ref mc, .ref br, .ref la, .ref sp, .int 0, .int 0, .long 0])), (ou, .inl ((k 1), 1, .inr (.inl g9)))] (S := Unit) (fun (r : Int32) (u : Unit) => r = 1) (fun u => []) 1 6 := by
  refine oi_ofH (cc := cL_answersByBreadth) (maxL := 3) (ret := (some .int)) (by decide +kernel) rfl (Nat.le_of_ble_eq_true rfl) ?_
  intro p e s m below meth c A ls htb hx hb hml hr hts hown hlocks hin hA hK hP hD hS hE hl
  have hl : lv_has ls 3 [(0, .ref h0), (1, .ref ou)] := hl
  refine lv_aload_n hx hb dL_answersByBreadth_0 rfl (lv_at hl 1 rfl) ?_
  refine lv_iconst (v := 0) hx hb dL_answersByBreadth_1 (by decide) ?_
  refine lv_aload_n hx hb dL_answersByBreadth_2 rfl (lv_at hl 0 rfl) ?_
  refine ox_callV hx hb hml hown hts (f_answersByBreadth l hl0 e0 D k h0 st pg mc br la sp) (cwV 0 hts gL_answersByBreadth_X11_answersByBreadth rfl rfl rfl (by decide +kernel) ⟨Nat.le_of_ble_eq_true rfl, Nat.le_of_ble_eq_true rfl⟩) hK hP hD hS hA hE [0] [1] rfl rfl (by decide) (by decide) (by decide) (wr := [(ou, .inl ((k 1), 1, .inr (.inl g9)))]) (w3 := [(ou, .inl ((k 1), 1, .inr (.inl g9))), (h0, .inr (15, [.ref st, .ref pg, .ref mc, .ref br, .ref la, .ref sp, .int 0, .int 0, .long 0]))]) rfl 0 15 rfl rfl rfl hl.1 rfl (Nat.le_of_ble_eq_true rfl) rfl ⟨Nat.le_of_ble_eq_true rfl, Nat.le_of_ble_eq_true rfl⟩ dL_answersByBreadth_3 (fun ce q9 H locs hP hD hS hce hcv hcl => ?_)
  refine ox_catch ⟨0, 8, 11, 34⟩ _ (htb.trans rfl) hown hE (Or.inr (Or.inr (Or.inr (Or.inr (Or.inl rfl))))) (by decide) (by decide) (hts (.classLink RL 34 "java/util/NoSuchElementException") (by decide +kernel)) hce hcv hcl ?_
  refine lv_astore_n (lv' := [(2, .ref q9), (0, .ref h0), (1, .ref ou)]) hx hb dL_answersByBreadth_11 rfl hl (by decide) rfl (fun ls hl => ?_)
  refine lv_iconst (v := 1) hx hb dL_answersByBreadth_12 (by decide) ?_
  exact vx_ret (oi_ret hx hb hr hlocks rfl () (rfl) hK (hP.sub [] rfl) (hD.sub [] (by decide) rfl) hS (Nat.le_of_ble_eq_true rfl) (Nat.le_of_ble_eq_true rfl) dL_answersByBreadth_13)
set_option maxHeartbeats 4000000 in
set_option maxRecDepth 100000 in
theorem w_steps (l : Launch) (hl0 : l.stackTraces = false) (e0 : Nat) (D : va_G) (k : Nat → ClassId) (h0 : Nat) (ou : Nat) (st : Nat) (pg : Nat) (mc : Nat) (br : Nat) (la : Nat) (sp : Nat) (g9 : Nat → Int64) : oCi l e0 D (oTy k) yL_steps wsL_steps ({ frames := 8, cells := 1, slots := 6, locals := 129 } : Room) [.ref h0, .ref ou] [(h0, .inr (15, [.ref st, .ref pg, .ref mc, .ref br, .ref la, .ref sp, .int 0, .int 0, .long 0])), (ou, .inl ((k 1), 1, .inr (.inl g9)))] (S := Unit) (fun (r : Int32) (u : Unit) => r = 1) (fun u => []) 1 6 := by
  refine oi_ofH (cc := cL_steps) (maxL := 3) (ret := (some .int)) (by decide +kernel) rfl (Nat.le_of_ble_eq_true rfl) ?_
  intro p e s m below meth c A ls htb hx hb hml hr hts hown hlocks hin hA hK hP hD hS hE hl
  have hl : lv_has ls 3 [(0, .ref h0), (1, .ref ou)] := hl
  refine lv_aload_n hx hb dL_steps_0 rfl (lv_at hl 1 rfl) ?_
  refine lv_iconst (v := 0) hx hb dL_steps_1 (by decide) ?_
  refine lv_aload_n hx hb dL_steps_2 rfl (lv_at hl 0 rfl) ?_
  refine ox_callV hx hb hml hown hts (f_steps l hl0 e0 D k h0 st pg mc br la sp) (cwV 0 hts gL_steps_X11_steps rfl rfl rfl (by decide +kernel) ⟨Nat.le_of_ble_eq_true rfl, Nat.le_of_ble_eq_true rfl⟩) hK hP hD hS hA hE [0] [1] rfl rfl (by decide) (by decide) (by decide) (wr := [(ou, .inl ((k 1), 1, .inr (.inl g9)))]) (w3 := [(ou, .inl ((k 1), 1, .inr (.inl g9))), (h0, .inr (15, [.ref st, .ref pg, .ref mc, .ref br, .ref la, .ref sp, .int 0, .int 0, .long 0]))]) rfl 0 15 rfl rfl rfl hl.1 rfl (Nat.le_of_ble_eq_true rfl) rfl ⟨Nat.le_of_ble_eq_true rfl, Nat.le_of_ble_eq_true rfl⟩ dL_steps_3 (fun ce q9 H locs hP hD hS hce hcv hcl => ?_)
  refine ox_catch ⟨0, 8, 11, 34⟩ _ (htb.trans rfl) hown hE (Or.inr (Or.inr (Or.inr (Or.inr (Or.inl rfl))))) (by decide) (by decide) (hts (.classLink RL 34 "java/util/NoSuchElementException") (by decide +kernel)) hce hcv hcl ?_
  refine lv_astore_n (lv' := [(2, .ref q9), (0, .ref h0), (1, .ref ou)]) hx hb dL_steps_11 rfl hl (by decide) rfl (fun ls hl => ?_)
  refine lv_iconst (v := 1) hx hb dL_steps_12 (by decide) ?_
  exact vx_ret (oi_ret hx hb hr hlocks rfl () (rfl) hK (hP.sub [] rfl) (hD.sub [] (by decide) rfl) hS (Nat.le_of_ble_eq_true rfl) (Nat.le_of_ble_eq_true rfl) dL_steps_13)
set_option maxHeartbeats 4000000 in
set_option maxRecDepth 100000 in
theorem w_choicePoints (l : Launch) (hl0 : l.stackTraces = false) (e0 : Nat) (D : va_G) (k : Nat → ClassId) (h0 : Nat) (ou : Nat) (st : Nat) (pg : Nat) (mc : Nat) (br : Nat) (la : Nat) (sp : Nat) (g9 : Nat → Int64) : oCi l e0 D (oTy k) yL_choicePoints wsL_choicePoints ({ frames := 8, cells := 1, slots := 6, locals := 129 } : Room) [.ref h0, .ref ou] [(h0, .inr (15, [.ref st, .ref pg, .ref mc, .ref br, .ref la, .ref sp, .int 0, .int 0, .long 0])), (ou, .inl ((k 1), 1, .inr (.inl g9)))] (S := Unit) (fun (r : Int32) (u : Unit) => r = 1) (fun u => []) 1 6 := by
  refine oi_ofH (cc := cL_choicePoints) (maxL := 3) (ret := (some .int)) (by decide +kernel) rfl (Nat.le_of_ble_eq_true rfl) ?_
  intro p e s m below meth c A ls htb hx hb hml hr hts hown hlocks hin hA hK hP hD hS hE hl
  have hl : lv_has ls 3 [(0, .ref h0), (1, .ref ou)] := hl
  refine lv_aload_n hx hb dL_choicePoints_0 rfl (lv_at hl 1 rfl) ?_
  refine lv_iconst (v := 0) hx hb dL_choicePoints_1 (by decide) ?_
  refine lv_aload_n hx hb dL_choicePoints_2 rfl (lv_at hl 0 rfl) ?_
  refine ox_callV hx hb hml hown hts (f_choicePoints l hl0 e0 D k h0 st pg mc br la sp) (cwV 0 hts gL_choicePoints_X11_choicePoints rfl rfl rfl (by decide +kernel) ⟨Nat.le_of_ble_eq_true rfl, Nat.le_of_ble_eq_true rfl⟩) hK hP hD hS hA hE [0] [1] rfl rfl (by decide) (by decide) (by decide) (wr := [(ou, .inl ((k 1), 1, .inr (.inl g9)))]) (w3 := [(ou, .inl ((k 1), 1, .inr (.inl g9))), (h0, .inr (15, [.ref st, .ref pg, .ref mc, .ref br, .ref la, .ref sp, .int 0, .int 0, .long 0]))]) rfl 0 15 rfl rfl rfl hl.1 rfl (Nat.le_of_ble_eq_true rfl) rfl ⟨Nat.le_of_ble_eq_true rfl, Nat.le_of_ble_eq_true rfl⟩ dL_choicePoints_3 (fun ce q9 H locs hP hD hS hce hcv hcl => ?_)
  refine ox_catch ⟨0, 8, 11, 34⟩ _ (htb.trans rfl) hown hE (Or.inr (Or.inr (Or.inr (Or.inr (Or.inl rfl))))) (by decide) (by decide) (hts (.classLink RL 34 "java/util/NoSuchElementException") (by decide +kernel)) hce hcv hcl ?_
  refine lv_astore_n (lv' := [(2, .ref q9), (0, .ref h0), (1, .ref ou)]) hx hb dL_choicePoints_11 rfl hl (by decide) rfl (fun ls hl => ?_)
  refine lv_iconst (v := 1) hx hb dL_choicePoints_12 (by decide) ?_
  exact vx_ret (oi_ret hx hb hr hlocks rfl () (rfl) hK (hP.sub [] rfl) (hD.sub [] (by decide) rfl) hS (Nat.le_of_ble_eq_true rfl) (Nat.le_of_ble_eq_true rfl) dL_choicePoints_13)
set_option maxHeartbeats 4000000 in
set_option maxRecDepth 100000 in
theorem w_deepest (l : Launch) (hl0 : l.stackTraces = false) (e0 : Nat) (D : va_G) (k : Nat → ClassId) (h0 : Nat) (ou : Nat) (st : Nat) (pg : Nat) (mc : Nat) (br : Nat) (la : Nat) (sp : Nat) (g9 : Nat → Int64) : oCi l e0 D (oTy k) yL_deepest wsL_deepest ({ frames := 8, cells := 1, slots := 6, locals := 129 } : Room) [.ref h0, .ref ou] [(h0, .inr (15, [.ref st, .ref pg, .ref mc, .ref br, .ref la, .ref sp, .int 0, .int 0, .long 0])), (ou, .inl ((k 1), 1, .inr (.inl g9)))] (S := Unit) (fun (r : Int32) (u : Unit) => r = 1) (fun u => []) 1 6 := by
  refine oi_ofH (cc := cL_deepest) (maxL := 3) (ret := (some .int)) (by decide +kernel) rfl (Nat.le_of_ble_eq_true rfl) ?_
  intro p e s m below meth c A ls htb hx hb hml hr hts hown hlocks hin hA hK hP hD hS hE hl
  have hl : lv_has ls 3 [(0, .ref h0), (1, .ref ou)] := hl
  refine lv_aload_n hx hb dL_deepest_0 rfl (lv_at hl 1 rfl) ?_
  refine lv_iconst (v := 0) hx hb dL_deepest_1 (by decide) ?_
  refine lv_aload_n hx hb dL_deepest_2 rfl (lv_at hl 0 rfl) ?_
  refine ox_callV hx hb hml hown hts (f_deepest l hl0 e0 D k h0 st pg mc br la sp) (cwV 0 hts gL_deepest_X11_deepest rfl rfl rfl (by decide +kernel) ⟨Nat.le_of_ble_eq_true rfl, Nat.le_of_ble_eq_true rfl⟩) hK hP hD hS hA hE [0] [1] rfl rfl (by decide) (by decide) (by decide) (wr := [(ou, .inl ((k 1), 1, .inr (.inl g9)))]) (w3 := [(ou, .inl ((k 1), 1, .inr (.inl g9))), (h0, .inr (15, [.ref st, .ref pg, .ref mc, .ref br, .ref la, .ref sp, .int 0, .int 0, .long 0]))]) rfl 0 15 rfl rfl rfl hl.1 rfl (Nat.le_of_ble_eq_true rfl) rfl ⟨Nat.le_of_ble_eq_true rfl, Nat.le_of_ble_eq_true rfl⟩ dL_deepest_3 (fun ce q9 H locs hP hD hS hce hcv hcl => ?_)
  refine ox_catch ⟨0, 8, 11, 34⟩ _ (htb.trans rfl) hown hE (Or.inr (Or.inr (Or.inr (Or.inr (Or.inl rfl))))) (by decide) (by decide) (hts (.classLink RL 34 "java/util/NoSuchElementException") (by decide +kernel)) hce hcv hcl ?_
  refine lv_astore_n (lv' := [(2, .ref q9), (0, .ref h0), (1, .ref ou)]) hx hb dL_deepest_11 rfl hl (by decide) rfl (fun ls hl => ?_)
  refine lv_iconst (v := 1) hx hb dL_deepest_12 (by decide) ?_
  exact vx_ret (oi_ret hx hb hr hlocks rfl () (rfl) hK (hP.sub [] rfl) (hD.sub [] (by decide) rfl) hS (Nat.le_of_ble_eq_true rfl) (Nat.le_of_ble_eq_true rfl) dL_deepest_13)
set_option maxHeartbeats 4000000 in
set_option maxRecDepth 100000 in
theorem w_recorded (l : Launch) (hl0 : l.stackTraces = false) (e0 : Nat) (D : va_G) (k : Nat → ClassId) (h0 : Nat) (ou : Nat) (st : Nat) (pg : Nat) (mc : Nat) (br : Nat) (la : Nat) (sp : Nat) (g9 : Nat → Int64) : oCi l e0 D (oTy k) yL_recorded wsL_recorded ({ frames := 8, cells := 1, slots := 6, locals := 129 } : Room) [.ref h0, .ref ou] [(h0, .inr (15, [.ref st, .ref pg, .ref mc, .ref br, .ref la, .ref sp, .int 0, .int 0, .long 0])), (ou, .inl ((k 1), 1, .inr (.inl g9)))] (S := Unit) (fun (r : Int32) (u : Unit) => r = 1) (fun u => []) 1 6 := by
  refine oi_ofH (cc := cL_recorded) (maxL := 3) (ret := (some .int)) (by decide +kernel) rfl (Nat.le_of_ble_eq_true rfl) ?_
  intro p e s m below meth c A ls htb hx hb hml hr hts hown hlocks hin hA hK hP hD hS hE hl
  have hl : lv_has ls 3 [(0, .ref h0), (1, .ref ou)] := hl
  refine lv_aload_n hx hb dL_recorded_0 rfl (lv_at hl 1 rfl) ?_
  refine lv_iconst (v := 0) hx hb dL_recorded_1 (by decide) ?_
  refine lv_aload_n hx hb dL_recorded_2 rfl (lv_at hl 0 rfl) ?_
  refine ox_callV hx hb hml hown hts (f_recorded l hl0 e0 D k h0 st pg mc br la sp) (cwV 0 hts gL_recorded_X11_recorded rfl rfl rfl (by decide +kernel) ⟨Nat.le_of_ble_eq_true rfl, Nat.le_of_ble_eq_true rfl⟩) hK hP hD hS hA hE [0] [1] rfl rfl (by decide) (by decide) (by decide) (wr := [(ou, .inl ((k 1), 1, .inr (.inl g9)))]) (w3 := [(ou, .inl ((k 1), 1, .inr (.inl g9))), (h0, .inr (15, [.ref st, .ref pg, .ref mc, .ref br, .ref la, .ref sp, .int 0, .int 0, .long 0]))]) rfl 0 15 rfl rfl rfl hl.1 rfl (Nat.le_of_ble_eq_true rfl) rfl ⟨Nat.le_of_ble_eq_true rfl, Nat.le_of_ble_eq_true rfl⟩ dL_recorded_3 (fun ce q9 H locs hP hD hS hce hcv hcl => ?_)
  refine ox_catch ⟨0, 8, 11, 34⟩ _ (htb.trans rfl) hown hE (Or.inr (Or.inr (Or.inr (Or.inr (Or.inl rfl))))) (by decide) (by decide) (hts (.classLink RL 34 "java/util/NoSuchElementException") (by decide +kernel)) hce hcv hcl ?_
  refine lv_astore_n (lv' := [(2, .ref q9), (0, .ref h0), (1, .ref ou)]) hx hb dL_recorded_11 rfl hl (by decide) rfl (fun ls hl => ?_)
  refine lv_iconst (v := 1) hx hb dL_recorded_12 (by decide) ?_
  exact vx_ret (oi_ret hx hb hr hlocks rfl () (rfl) hK (hP.sub [] rfl) (hD.sub [] (by decide) rfl) hS (Nat.le_of_ble_eq_true rfl) (Nat.le_of_ble_eq_true rfl) dL_recorded_13)
set_option maxHeartbeats 4000000 in
set_option maxRecDepth 100000 in
theorem w_answerAt (l : Launch) (hl0 : l.stackTraces = false) (e0 : Nat) (D : va_G) (k : Nat → ClassId) (h0 : Nat) (p0 : Int32) (p1 : Int32) (ou : Nat) (st : Nat) (pg : Nat) (mc : Nat) (br : Nat) (la : Nat) (sp : Nat) (g9 : Nat → Int64) : oCi l e0 D (oTy k) yL_answerAt wsL_answerAt ({ frames := 8, cells := 1, slots := 6, locals := 131 } : Room) [.ref h0, .int p0, .int p1, .ref ou] [(h0, .inr (15, [.ref st, .ref pg, .ref mc, .ref br, .ref la, .ref sp, .int 0, .int 0, .long 0])), (ou, .inl ((k 1), 1, .inr (.inl g9)))] (S := Unit) (fun (r : Int32) (u : Unit) => r = 1) (fun u => []) 1 6 := by
  refine oi_ofH (cc := cL_answerAt) (maxL := 5) (ret := (some .int)) (by decide +kernel) rfl (Nat.le_of_ble_eq_true rfl) ?_
  intro p e s m below meth c A ls htb hx hb hml hr hts hown hlocks hin hA hK hP hD hS hE hl
  have hl : lv_has ls 5 [(0, .ref h0), (1, .int p0), (2, .int p1), (3, .ref ou)] := hl
  refine lv_aload_n hx hb dL_answerAt_0 rfl (lv_at hl 3 rfl) ?_
  refine lv_iconst (v := 0) hx hb dL_answerAt_1 (by decide) ?_
  refine lv_aload_n hx hb dL_answerAt_2 rfl (lv_at hl 0 rfl) ?_
  refine lv_iload_n hx hb dL_answerAt_3 rfl (lv_at hl 1 rfl) ?_
  refine lv_iload_n hx hb dL_answerAt_4 rfl (lv_at hl 2 rfl) ?_
  refine ox_callV hx hb hml hown hts (f_answerAt l hl0 e0 D k h0 p0 p1 st pg mc br la sp) (cwV 2 hts gL_answerAt_X11_answerAt rfl rfl rfl (by decide +kernel) ⟨Nat.le_of_ble_eq_true rfl, Nat.le_of_ble_eq_true rfl⟩) hK hP hD hS hA hE [0] [1] rfl rfl (by decide) (by decide) (by decide) (wr := [(ou, .inl ((k 1), 1, .inr (.inl g9)))]) (w3 := [(ou, .inl ((k 1), 1, .inr (.inl g9))), (h0, .inr (15, [.ref st, .ref pg, .ref mc, .ref br, .ref la, .ref sp, .int 0, .int 0, .long 0]))]) rfl 0 15 rfl rfl rfl hl.1 rfl (Nat.le_of_ble_eq_true rfl) rfl ⟨Nat.le_of_ble_eq_true rfl, Nat.le_of_ble_eq_true rfl⟩ dL_answerAt_5 (fun ce q9 H locs hP hD hS hce hcv hcl => ?_)
  refine ox_catch ⟨0, 10, 13, 34⟩ _ (htb.trans rfl) hown hE (Or.inr (Or.inr (Or.inr (Or.inr (Or.inl rfl))))) (by decide) (by decide) (hts (.classLink RL 34 "java/util/NoSuchElementException") (by decide +kernel)) hce hcv hcl ?_
  refine lv_astore (lv' := [(4, .ref q9), (0, .ref h0), (1, .int p0), (2, .int p1), (3, .ref ou)]) hx hb dL_answerAt_13 hl (by decide) rfl (fun ls hl => ?_)
  refine lv_iconst (v := 1) hx hb dL_answerAt_15 (by decide) ?_
  exact vx_ret (oi_ret hx hb hr hlocks rfl () (rfl) hK (hP.sub [] rfl) (hD.sub [] (by decide) rfl) hS (Nat.le_of_ble_eq_true rfl) (Nat.le_of_ble_eq_true rfl) dL_answerAt_16)
set_option maxHeartbeats 4000000 in
set_option maxRecDepth 100000 in
theorem w_multiplicity (l : Launch) (hl0 : l.stackTraces = false) (e0 : Nat) (D : va_G) (k : Nat → ClassId) (h0 : Nat) (p0 : Int32) (ou : Nat) (st : Nat) (pg : Nat) (mc : Nat) (br : Nat) (la : Nat) (sp : Nat) (g9 : Nat → Int64) : oCi l e0 D (oTy k) yL_multiplicity wsL_multiplicity ({ frames := 8, cells := 1, slots := 6, locals := 130 } : Room) [.ref h0, .int p0, .ref ou] [(h0, .inr (15, [.ref st, .ref pg, .ref mc, .ref br, .ref la, .ref sp, .int 0, .int 0, .long 0])), (ou, .inl ((k 1), 1, .inr (.inl g9)))] (S := Unit) (fun (r : Int32) (u : Unit) => r = 1) (fun u => []) 1 6 := by
  refine oi_ofH (cc := cL_multiplicity) (maxL := 4) (ret := (some .int)) (by decide +kernel) rfl (Nat.le_of_ble_eq_true rfl) ?_
  intro p e s m below meth c A ls htb hx hb hml hr hts hown hlocks hin hA hK hP hD hS hE hl
  have hl : lv_has ls 4 [(0, .ref h0), (1, .int p0), (2, .ref ou)] := hl
  refine lv_aload_n hx hb dL_multiplicity_0 rfl (lv_at hl 2 rfl) ?_
  refine lv_iconst (v := 0) hx hb dL_multiplicity_1 (by decide) ?_
  refine lv_aload_n hx hb dL_multiplicity_2 rfl (lv_at hl 0 rfl) ?_
  refine lv_iload_n hx hb dL_multiplicity_3 rfl (lv_at hl 1 rfl) ?_
  refine ox_callV hx hb hml hown hts (f_multiplicity l hl0 e0 D k h0 p0 st pg mc br la sp) (cwV 1 hts gL_multiplicity_X11_multiplicity rfl rfl rfl (by decide +kernel) ⟨Nat.le_of_ble_eq_true rfl, Nat.le_of_ble_eq_true rfl⟩) hK hP hD hS hA hE [0] [1] rfl rfl (by decide) (by decide) (by decide) (wr := [(ou, .inl ((k 1), 1, .inr (.inl g9)))]) (w3 := [(ou, .inl ((k 1), 1, .inr (.inl g9))), (h0, .inr (15, [.ref st, .ref pg, .ref mc, .ref br, .ref la, .ref sp, .int 0, .int 0, .long 0]))]) rfl 0 15 rfl rfl rfl hl.1 rfl (Nat.le_of_ble_eq_true rfl) rfl ⟨Nat.le_of_ble_eq_true rfl, Nat.le_of_ble_eq_true rfl⟩ dL_multiplicity_4 (fun ce q9 H locs hP hD hS hce hcv hcl => ?_)
  refine ox_catch ⟨0, 9, 12, 34⟩ _ (htb.trans rfl) hown hE (Or.inr (Or.inr (Or.inr (Or.inr (Or.inl rfl))))) (by decide) (by decide) (hts (.classLink RL 34 "java/util/NoSuchElementException") (by decide +kernel)) hce hcv hcl ?_
  refine lv_astore_n (lv' := [(3, .ref q9), (0, .ref h0), (1, .int p0), (2, .ref ou)]) hx hb dL_multiplicity_12 rfl hl (by decide) rfl (fun ls hl => ?_)
  refine lv_iconst (v := 1) hx hb dL_multiplicity_13 (by decide) ?_
  exact vx_ret (oi_ret hx hb hr hlocks rfl () (rfl) hK (hP.sub [] rfl) (hD.sub [] (by decide) rfl) hS (Nat.le_of_ble_eq_true rfl) (Nat.le_of_ble_eq_true rfl) dL_multiplicity_14)
set_option maxHeartbeats 4000000 in
set_option maxRecDepth 100000 in
theorem w_recordAt (l : Launch) (hl0 : l.stackTraces = false) (e0 : Nat) (D : va_G) (k : Nat → ClassId) (h0 : Nat) (p0 : Int32) (ou : Nat) (st : Nat) (pg : Nat) (mc : Nat) (br : Nat) (la : Nat) (sp : Nat) (g9 : Nat → Int64) : oCi l e0 D (oTy k) yL_recordAt wsL_recordAt ({ frames := 9, cells := 1, slots := 6, locals := 151 } : Room) [.ref h0, .int p0, .ref ou] [(h0, .inr (15, [.ref st, .ref pg, .ref mc, .ref br, .ref la, .ref sp, .int 0, .int 0, .long 0])), (ou, .inl ((k 1), 1, .inr (.inl g9)))] (S := Unit) (fun (r : Int32) (u : Unit) => r = 1) (fun u => []) 1 6 := by
  refine oi_ofH (cc := cL_recordAt) (maxL := 4) (ret := (some .int)) (by decide +kernel) rfl (Nat.le_of_ble_eq_true rfl) ?_
  intro p e s m below meth c A ls htb hx hb hml hr hts hown hlocks hin hA hK hP hD hS hE hl
  have hl : lv_has ls 4 [(0, .ref h0), (1, .int p0), (2, .ref ou)] := hl
  refine lv_aload_n hx hb dL_recordAt_0 rfl (lv_at hl 2 rfl) ?_
  refine lv_iconst (v := 0) hx hb dL_recordAt_1 (by decide) ?_
  refine lv_aload_n hx hb dL_recordAt_2 rfl (lv_at hl 0 rfl) ?_
  refine lv_iload_n hx hb dL_recordAt_3 rfl (lv_at hl 1 rfl) ?_
  refine ox_callV hx hb hml hown hts (f_recordAt l hl0 e0 D k h0 p0 st pg mc br la sp) (cwV 1 hts gL_recordAt_X11_recordAt rfl rfl rfl (by decide +kernel) ⟨Nat.le_of_ble_eq_true rfl, Nat.le_of_ble_eq_true rfl⟩) hK hP hD hS hA hE [0] [1] rfl rfl (by decide) (by decide) (by decide) (wr := [(ou, .inl ((k 1), 1, .inr (.inl g9)))]) (w3 := [(ou, .inl ((k 1), 1, .inr (.inl g9))), (h0, .inr (15, [.ref st, .ref pg, .ref mc, .ref br, .ref la, .ref sp, .int 0, .int 0, .long 0]))]) rfl 0 15 rfl rfl rfl hl.1 rfl (Nat.le_of_ble_eq_true rfl) rfl ⟨Nat.le_of_ble_eq_true rfl, Nat.le_of_ble_eq_true rfl⟩ dL_recordAt_4 (fun ce q9 H locs hP hD hS hce hcv hcl => ?_)
  refine ox_catch ⟨0, 9, 12, 34⟩ _ (htb.trans rfl) hown hE (Or.inr (Or.inr (Or.inr (Or.inr (Or.inl rfl))))) (by decide) (by decide) (hts (.classLink RL 34 "java/util/NoSuchElementException") (by decide +kernel)) hce hcv hcl ?_
  refine lv_astore_n (lv' := [(3, .ref q9), (0, .ref h0), (1, .int p0), (2, .ref ou)]) hx hb dL_recordAt_12 rfl hl (by decide) rfl (fun ls hl => ?_)
  refine lv_iconst (v := 1) hx hb dL_recordAt_13 (by decide) ?_
  exact vx_ret (oi_ret hx hb hr hlocks rfl () (rfl) hK (hP.sub [] rfl) (hD.sub [] (by decide) rfl) hS (Nat.le_of_ble_eq_true rfl) (Nat.le_of_ble_eq_true rfl) dL_recordAt_14)
set_option maxHeartbeats 4000000 in
set_option maxRecDepth 100000 in
theorem w_whereAt (l : Launch) (hl0 : l.stackTraces = false) (e0 : Nat) (D : va_G) (k : Nat → ClassId) (h0 : Nat) (p0 : Int32) (ou : Nat) (st : Nat) (pg : Nat) (mc : Nat) (br : Nat) (la : Nat) (sp : Nat) (g9 : Nat → Int64) : oCi l e0 D (oTy k) yL_whereAt wsL_whereAt ({ frames := 9, cells := 1, slots := 6, locals := 151 } : Room) [.ref h0, .int p0, .ref ou] [(h0, .inr (15, [.ref st, .ref pg, .ref mc, .ref br, .ref la, .ref sp, .int 0, .int 0, .long 0])), (ou, .inl ((k 1), 1, .inr (.inl g9)))] (S := Unit) (fun (r : Int32) (u : Unit) => r = 1) (fun u => []) 1 6 := by
  refine oi_ofH (cc := cL_whereAt) (maxL := 4) (ret := (some .int)) (by decide +kernel) rfl (Nat.le_of_ble_eq_true rfl) ?_
  intro p e s m below meth c A ls htb hx hb hml hr hts hown hlocks hin hA hK hP hD hS hE hl
  have hl : lv_has ls 4 [(0, .ref h0), (1, .int p0), (2, .ref ou)] := hl
  refine lv_aload_n hx hb dL_whereAt_0 rfl (lv_at hl 2 rfl) ?_
  refine lv_iconst (v := 0) hx hb dL_whereAt_1 (by decide) ?_
  refine lv_aload_n hx hb dL_whereAt_2 rfl (lv_at hl 0 rfl) ?_
  refine lv_iload_n hx hb dL_whereAt_3 rfl (lv_at hl 1 rfl) ?_
  refine ox_callV hx hb hml hown hts (f_whereAt l hl0 e0 D k h0 p0 st pg mc br la sp) (cwV 1 hts gL_whereAt_X11_whereAt rfl rfl rfl (by decide +kernel) ⟨Nat.le_of_ble_eq_true rfl, Nat.le_of_ble_eq_true rfl⟩) hK hP hD hS hA hE [0] [1] rfl rfl (by decide) (by decide) (by decide) (wr := [(ou, .inl ((k 1), 1, .inr (.inl g9)))]) (w3 := [(ou, .inl ((k 1), 1, .inr (.inl g9))), (h0, .inr (15, [.ref st, .ref pg, .ref mc, .ref br, .ref la, .ref sp, .int 0, .int 0, .long 0]))]) rfl 0 15 rfl rfl rfl hl.1 rfl (Nat.le_of_ble_eq_true rfl) rfl ⟨Nat.le_of_ble_eq_true rfl, Nat.le_of_ble_eq_true rfl⟩ dL_whereAt_4 (fun ce q9 H locs hP hD hS hce hcv hcl => ?_)
  refine ox_catch ⟨0, 9, 12, 34⟩ _ (htb.trans rfl) hown hE (Or.inr (Or.inr (Or.inr (Or.inr (Or.inl rfl))))) (by decide) (by decide) (hts (.classLink RL 34 "java/util/NoSuchElementException") (by decide +kernel)) hce hcv hcl ?_
  refine lv_astore_n (lv' := [(3, .ref q9), (0, .ref h0), (1, .int p0), (2, .ref ou)]) hx hb dL_whereAt_12 rfl hl (by decide) rfl (fun ls hl => ?_)
  refine lv_iconst (v := 1) hx hb dL_whereAt_13 (by decide) ?_
  exact vx_ret (oi_ret hx hb hr hlocks rfl () (rfl) hK (hP.sub [] rfl) (hD.sub [] (by decide) rfl) hS (Nat.le_of_ble_eq_true rfl) (Nat.le_of_ble_eq_true rfl) dL_whereAt_14)
set_option maxHeartbeats 4000000 in
set_option maxRecDepth 100000 in
theorem w_onceShare (l : Launch) (hl0 : l.stackTraces = false) (e0 : Nat) (D : va_G) (k : Nat → ClassId) (h0 : Nat) (ou : Nat) (st : Nat) (pg : Nat) (mc : Nat) (br : Nat) (la : Nat) (sp : Nat) (g9 : Nat → UInt64) : oCi l e0 D (oTy k) yL_onceShare wsL_onceShare ({ frames := 8, cells := 1, slots := 6, locals := 130 } : Room) [.ref h0, .ref ou] [(h0, .inr (15, [.ref st, .ref pg, .ref mc, .ref br, .ref la, .ref sp, .int 0, .int 0, .long 0])), (ou, .inl ((k 4), 1, .inr (.inr (.inr (.inl g9)))))] (S := Unit) (fun (r : Int32) (u : Unit) => r = 1) (fun u => []) 1 6 := by
  refine oi_ofH (cc := cL_onceShare) (maxL := 3) (ret := (some .int)) (by decide +kernel) rfl (Nat.le_of_ble_eq_true rfl) ?_
  intro p e s m below meth c A ls htb hx hb hml hr hts hown hlocks hin hA hK hP hD hS hE hl
  have hl : lv_has ls 3 [(0, .ref h0), (1, .ref ou)] := hl
  refine lv_aload_n hx hb dL_onceShare_0 rfl (lv_at hl 1 rfl) ?_
  refine lv_iconst (v := 0) hx hb dL_onceShare_1 (by decide) ?_
  refine lv_aload_n hx hb dL_onceShare_2 rfl (lv_at hl 0 rfl) ?_
  refine ox_callV hx hb hml hown hts (f_onceShare l hl0 e0 D k h0 st pg mc br la sp) (cwV 0 hts gL_onceShare_X11_onceShare rfl rfl rfl (by decide +kernel) ⟨Nat.le_of_ble_eq_true rfl, Nat.le_of_ble_eq_true rfl⟩) hK hP hD hS hA hE [0] [1] rfl rfl (by decide) (by decide) (by decide) (wr := [(ou, .inl ((k 4), 1, .inr (.inr (.inr (.inl g9)))))]) (w3 := [(ou, .inl ((k 4), 1, .inr (.inr (.inr (.inl g9))))), (h0, .inr (15, [.ref st, .ref pg, .ref mc, .ref br, .ref la, .ref sp, .int 0, .int 0, .long 0]))]) rfl 0 15 rfl rfl rfl hl.1 rfl (Nat.le_of_ble_eq_true rfl) rfl ⟨Nat.le_of_ble_eq_true rfl, Nat.le_of_ble_eq_true rfl⟩ dL_onceShare_3 (fun ce q9 H locs hP hD hS hce hcv hcl => ?_)
  refine ox_catch ⟨0, 8, 11, 13⟩ _ (htb.trans rfl) hown hE (Or.inr (Or.inr (Or.inl rfl))) (by decide) (by decide) (hts (.classLink RL 13 "java/lang/IllegalStateException") (by decide +kernel)) hce hcv hcl ?_
  refine lv_astore_n (lv' := [(2, .ref q9), (0, .ref h0), (1, .ref ou)]) hx hb dL_onceShare_11 rfl hl (by decide) rfl (fun ls hl => ?_)
  refine lv_iconst (v := 1) hx hb dL_onceShare_12 (by decide) ?_
  exact vx_ret (oi_ret hx hb hr hlocks rfl () (rfl) hK (hP.sub [] rfl) (hD.sub [] (by decide) rfl) hS (Nat.le_of_ble_eq_true rfl) (Nat.le_of_ble_eq_true rfl) dL_onceShare_13)
set_option maxHeartbeats 4000000 in
set_option maxRecDepth 100000 in
theorem w_meanSteps (l : Launch) (hl0 : l.stackTraces = false) (e0 : Nat) (D : va_G) (k : Nat → ClassId) (h0 : Nat) (ou : Nat) (st : Nat) (pg : Nat) (mc : Nat) (br : Nat) (la : Nat) (sp : Nat) (g9 : Nat → UInt64) : oCi l e0 D (oTy k) yL_meanSteps wsL_meanSteps ({ frames := 7, cells := 1, slots := 6, locals := 109 } : Room) [.ref h0, .ref ou] [(h0, .inr (15, [.ref st, .ref pg, .ref mc, .ref br, .ref la, .ref sp, .int 0, .int 0, .long 0])), (ou, .inl ((k 4), 1, .inr (.inr (.inr (.inl g9)))))] (S := Unit) (fun (r : Int32) (u : Unit) => r = 1) (fun u => []) 1 6 := by
  refine oi_ofH (cc := cL_meanSteps) (maxL := 3) (ret := (some .int)) (by decide +kernel) rfl (Nat.le_of_ble_eq_true rfl) ?_
  intro p e s m below meth c A ls htb hx hb hml hr hts hown hlocks hin hA hK hP hD hS hE hl
  have hl : lv_has ls 3 [(0, .ref h0), (1, .ref ou)] := hl
  refine lv_aload_n hx hb dL_meanSteps_0 rfl (lv_at hl 1 rfl) ?_
  refine lv_iconst (v := 0) hx hb dL_meanSteps_1 (by decide) ?_
  refine lv_aload_n hx hb dL_meanSteps_2 rfl (lv_at hl 0 rfl) ?_
  refine ox_callV hx hb hml hown hts (f_meanSteps l hl0 e0 D k h0 st pg mc br la sp) (cwV 0 hts gL_meanSteps_X11_meanSteps rfl rfl rfl (by decide +kernel) ⟨Nat.le_of_ble_eq_true rfl, Nat.le_of_ble_eq_true rfl⟩) hK hP hD hS hA hE [0] [1] rfl rfl (by decide) (by decide) (by decide) (wr := [(ou, .inl ((k 4), 1, .inr (.inr (.inr (.inl g9)))))]) (w3 := [(ou, .inl ((k 4), 1, .inr (.inr (.inr (.inl g9))))), (h0, .inr (15, [.ref st, .ref pg, .ref mc, .ref br, .ref la, .ref sp, .int 0, .int 0, .long 0]))]) rfl 0 15 rfl rfl rfl hl.1 rfl (Nat.le_of_ble_eq_true rfl) rfl ⟨Nat.le_of_ble_eq_true rfl, Nat.le_of_ble_eq_true rfl⟩ dL_meanSteps_3 (fun ce q9 H locs hP hD hS hce hcv hcl => ?_)
  refine ox_catch ⟨0, 7, 10, 128⟩ _ (htb.trans rfl) hown hE (Or.inr (Or.inr (Or.inr (Or.inr (Or.inr rfl))))) (by decide) (by decide) (hts (.classLink RL 128 "java/lang/ArithmeticException") (by decide +kernel)) hce hcv hcl ?_
  refine lv_astore_n (lv' := [(2, .ref q9), (0, .ref h0), (1, .ref ou)]) hx hb dL_meanSteps_10 rfl hl (by decide) rfl (fun ls hl => ?_)
  refine lv_iconst (v := 1) hx hb dL_meanSteps_11 (by decide) ?_
  exact vx_ret (oi_ret hx hb hr hlocks rfl () (rfl) hK (hP.sub [] rfl) (hD.sub [] (by decide) rfl) hS (Nat.le_of_ble_eq_true rfl) (Nat.le_of_ble_eq_true rfl) dL_meanSteps_12)
