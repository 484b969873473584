/-! Own rows: LISTS: ArrayList's members. Walked by program (wip/p37/m_list.py). -/
abbrev cJxa1e45_init_da8c8 : ByteArray := prog_47_method_1_code
def yJxa1e45_init_da8c8 : MethodName := ⟨"java/util/AbstractCollection", "<init>", "()V"⟩
abbrev cJxc12de_init_da8c8 : ByteArray := prog_48_method_1_code
def yJxc12de_init_da8c8 : MethodName := ⟨"java/util/AbstractList", "<init>", "()V"⟩
theorem dJxa1e45_init_da8c8_0 : decode cJxa1e45_init_da8c8 0 = .ok (.aload_n 0, 1) := by decide +kernel
theorem dJxa1e45_init_da8c8_1 : decode cJxa1e45_init_da8c8 1 = .ok (.invokespecial 1, 3) := by decide +kernel
theorem dJxa1e45_init_da8c8_4 : decode cJxa1e45_init_da8c8 4 = .ok (.return_, 1) := by decide +kernel
theorem dJxc12de_init_da8c8_0 : decode cJxc12de_init_da8c8 0 = .ok (.aload_n 0, 1) := by decide +kernel
theorem dJxc12de_init_da8c8_1 : decode cJxc12de_init_da8c8 1 = .ok (.invokespecial 1, 3) := by decide +kernel
theorem dJxc12de_init_da8c8_4 : decode cJxc12de_init_da8c8 4 = .ok (.aload_n 0, 1) := by decide +kernel
theorem dJxc12de_init_da8c8_5 : decode cJxc12de_init_da8c8 5 = .ok (.iconst 0, 1) := by decide +kernel
theorem dJxc12de_init_da8c8_6 : decode cJxc12de_init_da8c8 6 = .ok (.putfield 7, 3) := by decide +kernel
theorem dJxc12de_init_da8c8_9 : decode cJxc12de_init_da8c8 9 = .ok (.return_, 1) := by decide +kernel
abbrev zm_Jxa1e45_init_da8c8 : zMd := (yJxa1e45_init_da8c8, cJxa1e45_init_da8c8, 1, none, [])
abbrev zm_Jxc12de_init_da8c8 : zMd := (yJxc12de_init_da8c8, cJxc12de_init_da8c8, 1, none, [])
abbrev zm_J15_checkIndex_7cf53 : zMd := (yJ15_checkIndex_7cf53, cJ15_checkIndex_7cf53, 2, (some .int), [])
abbrev zm_J3_checkIndex_8e157 : zMd := (yJ3_checkIndex_8e157, cJ3_checkIndex_8e157, 3, (some .int), [])
abbrev zm_J8_newLength_cabcc : zMd := (yJ8_newLength_cabcc, cJ8_newLength_cabcc, 4, (some .int), [])
abbrev zm_J7_copyOf_1904c : zMd := (yJ7_copyOf_1904c, cJ7_copyOf_1904c, 2, (some (.array (.object "java/lang/Object"))), [])
abbrev zm_J7_copyOf_6403c : zMd := (yJ7_copyOf_6403c, cJ7_copyOf_6403c, 4, (some (.array (.object "java/lang/Object"))), [])
theorem zo_Jxa1e45_1 : Cond.methodLink "java/util/AbstractCollection" 1 Lib.objectInit ∈ zWS := zin 2 224 rfl rfl
theorem zo_Jx4a65c_79 : Cond.methodLink "java/util/ArrayList" 79 Lib.Math.max.name ∈ zWS := zin 5 56 rfl rfl
theorem zo_J8_194 : Cond.methodLink "jdk/internal/util/ArraysSupport" 194 Lib.Math.max.name ∈ zWS := zin 1 197 rfl rfl
theorem zf_Jxc12de_7 : zFI "java/util/AbstractList" 7 12 0 false .int := ⟨RJx4a65c, TJx4a65c, 3, tyJx4a65c, rfl, by decide, zu_Jx4a65c, tyJx4a65c_ok, nmJx4a65c, by decide, Or.inl (zin 2 229 rfl rfl), rfl, rfl⟩
theorem zf_Jx4a65c_9 : zFI "java/util/ArrayList" 9 12 1 false (.array (.object "java/lang/Object")) := ⟨RJx4a65c, TJx4a65c, 3, tyJx4a65c, rfl, by decide, zu_Jx4a65c, tyJx4a65c_ok, nmJx4a65c, by decide, Or.inl (zin 2 227 rfl rfl), rfl, rfl⟩
theorem zf_Jx4a65c_48 : zFI "java/util/ArrayList" 48 12 2 false .int := ⟨RJx4a65c, TJx4a65c, 3, tyJx4a65c, rfl, by decide, zu_Jx4a65c, tyJx4a65c_ok, nmJx4a65c, by decide, Or.inl (zin 2 228 rfl rfl), rfl, rfl⟩
theorem zc_Jxc12de_1 : zCC "java/util/AbstractList" 1 zm_Jxa1e45_init_da8c8 0 := ⟨⟨rfl, zin 1 23 rfl rfl, zin 2 223 rfl rfl, by decide +kernel, by decide⟩, zin 2 221 rfl rfl, zin 2 222 rfl rfl, rfl, rfl⟩
theorem zc_Jx4a65c_1 : zCC "java/util/ArrayList" 1 zm_Jxc12de_init_da8c8 0 := ⟨⟨rfl, zin 1 24 rfl rfl, zin 2 220 rfl rfl, by decide +kernel, by decide⟩, zin 2 218 rfl rfl, zin 2 219 rfl rfl, rfl, rfl⟩
theorem zc_Jx4a65c_131 : zCV "java/util/ArrayList" 131 zm_Jx4a65c_add_72be8 3 := ⟨⟨rfl, zin 1 25 rfl rfl, zin 5 11 rfl rfl, by decide +kernel, by decide⟩, zin 5 8 rfl rfl, zin 5 10 rfl rfl, zin 0 5 rfl rfl⟩
theorem zc_Jx4a65c_129 : zCV "java/util/ArrayList" 129 zm_Jx4a65c_grow_d5877 0 := ⟨⟨rfl, zin 1 25 rfl rfl, zin 5 15 rfl rfl, by decide +kernel, by decide⟩, zin 5 12 rfl rfl, zin 5 14 rfl rfl, zin 0 6 rfl rfl⟩
theorem zc_Jx4a65c_69 : zCV "java/util/ArrayList" 69 zm_Jx4a65c_grow_92f84 1 := ⟨⟨rfl, zin 1 25 rfl rfl, zin 5 19 rfl rfl, by decide +kernel, by decide⟩, zin 5 16 rfl rfl, zin 5 18 rfl rfl, zin 0 7 rfl rfl⟩
theorem zc_Jx4a65c_73 : zCS "java/util/ArrayList" 73 zm_J8_newLength_cabcc 3 := ⟨⟨rfl, zin 1 15 rfl rfl, zin 1 196 rfl rfl, by decide +kernel, by decide⟩, zin 5 20 rfl rfl, zin 1 195 rfl rfl⟩
theorem zc_Jx4a65c_66 : zCS "java/util/ArrayList" 66 zm_J7_copyOf_1904c 2 := ⟨⟨rfl, zin 1 4 rfl rfl, zin 5 23 rfl rfl, by decide +kernel, by decide⟩, zin 5 21 rfl rfl, zin 5 22 rfl rfl⟩
theorem zc_Jx4a65c_118 : zCS "java/util/ArrayList" 118 zm_J15_checkIndex_7cf53 2 := ⟨⟨rfl, zin 1 34 rfl rfl, zin 5 72 rfl rfl, by decide +kernel, by decide⟩, zin 5 70 rfl rfl, zin 5 71 rfl rfl⟩
theorem zc_Jx4a65c_123 : zCV "java/util/ArrayList" 123 zm_Jx4a65c_elementData_915e3 1 := ⟨⟨rfl, zin 1 25 rfl rfl, zin 5 79 rfl rfl, by decide +kernel, by decide⟩, zin 5 76 rfl rfl, zin 5 77 rfl rfl, zin 5 78 rfl rfl⟩
theorem zc_J15_105 : zCS "java/util/Objects" 105 zm_J3_checkIndex_8e157 3 := ⟨⟨rfl, zin 1 16 rfl rfl, zin 5 75 rfl rfl, by decide +kernel, by decide⟩, zin 5 73 rfl rfl, zin 5 74 rfl rfl⟩
theorem zc_J7_300 : zCS "java/util/Arrays" 300 zm_J7_copyOf_6403c 3 := ⟨⟨rfl, zin 1 4 rfl rfl, zin 5 52 rfl rfl, by decide +kernel, by decide⟩, zin 5 50 rfl rfl, zin 5 51 rfl rfl⟩
theorem zk_J8_200 : Cond.constant "jdk/internal/util/ArraysSupport" 200 2147483639 ∈ zWS := zin 1 200 rfl rfl
theorem zg_link : Cond.methodLink "java/util/Arrays" 86 ⟨"java/lang/Object", "getClass", "()Ljava/lang/Class;"⟩ ∈ zWS := zin 5 24 rfl rfl
theorem zg_sel : Cond.selects "[Ljava/lang/Object;" ⟨"java/lang/Object", "getClass", "()Ljava/lang/Class;"⟩ ⟨"java/lang/Object", "getClass", "()Ljava/lang/Class;"⟩ ∈ zWS := zin 8 223 rfl rfl
theorem zg_ins : Cond.instanceMethod ⟨"java/lang/Object", "getClass", "()Ljava/lang/Class;"⟩ ∈ zWS := zin 5 25 rfl rfl
theorem zg_nat : Cond.native ⟨"java/lang/Object", "getClass", "()Ljava/lang/Class;"⟩ ∈ zWS := zin 5 49 rfl rfl
theorem zg_dec : Cond.declares ⟨"java/lang/Object", "getClass", "()Ljava/lang/Class;"⟩ ∈ lw_tbl := (lw_ch_in 8 _ (List.mem_of_getElem? (i := 224) rfl))
theorem zg_cl110 : Cond.classLink "java/util/Arrays" 110 "[Ljava/lang/Object;" ∈ zWS := zin 5 53 rfl rfl
theorem zg_cl2 : Cond.classLink "java/util/Arrays" 2 "java/lang/Object" ∈ zWS := zin 5 55 rfl rfl
theorem zg_cl7 : Cond.classLink "java/util/ArrayList" 7 "java/lang/Object" ∈ zWS := zin 5 57 rfl rfl
theorem zg_mc : Cond.fieldLink "java/util/ArrayList" 63 "java/util/ArrayList" "modCount" "I" ∈ zWS := zin 2 230 rfl rfl
theorem zg_e0 : Cond.fieldLink "java/util/ArrayList" 39 "java/util/ArrayList" "DEFAULTCAPACITY_EMPTY_ELEMENTDATA" "[Ljava/lang/Object;" ∈ zWS := zin 2 225 rfl rfl
theorem zshr1 {x : Int} (hx : z32 x) : zshr x 1 = x / 2 := by
  unfold zshr
  show (BitVec.sshiftRight' (Int32.ofInt x).toBitVec ((Int32.ofInt 1 &&& 31).toBitVec.smod 32)).toInt = _
  have e : ((Int32.ofInt 1 &&& 31).toBitVec.smod 32).toNat = 1 := by decide
  rw [BitVec.toInt_sshiftRight', e, Int.shiftRight_eq_div_pow]
  show (Int32.ofInt x).toInt / 2 ^ 1 = x / 2
  rw [show (Int32.ofInt x).toInt = x from zw_id hx]
  rfl
def lob (os : List (Option Nat)) : List zV := os.map (fun o => Sum.inr (Sum.inl o))
theorem lob_len {os : List (Option Nat)} : (lob os).length = os.length := List.length_map _
theorem lob_set {os : List (Option Nat)} {i y : Nat} : (lob os).set i (zR y) = lob (os.set i (some y)) := by
  unfold lob
  rw [← List.map_set]
theorem lob_rep {n : Nat} : List.replicate n zN = lob (List.replicate n none) := by
  unfold lob
  rw [List.map_replicate]
/-- an element of a list: an object of the class's own -/
def lEl (w : zW) (y : Nat) : Prop := ∃ cq oq fq r, w.1 y = some ((cq, oq, fq) : zO) ∧ cq < 100 ∧ vwCl[cq]? = some r ∧ Cond.castable r.1 "java/lang/Object" ∈ lw_tbl
theorem lEl_put {w : zW} {y a : Nat} {ob : zO} (h : lEl w y) (hn : y ≠ a) : lEl (zput w a ob) y := by
  obtain ⟨cq, oq, fq, r, h1, h2, h3, h4⟩ := h
  exact ⟨cq, oq, fq, r, zput_to hn h1, h2, h3, h4⟩
theorem lEl_new {w : zW} {y n : Nat} {ob : zO} (h : lEl w y) (hn : y ≠ w.2.1) : lEl (znew w ob n) y := by
  obtain ⟨cq, oq, fq, r, h1, h2, h3, h4⟩ := h
  exact ⟨cq, oq, fq, r, by rw [znew_ne hn]; exact h1, h2, h3, h4⟩
theorem lEl_ne {w : zW} {y a t ow : Nat} {fs : List zV} (h : lEl w y) (ha : w.1 a = some ((t, ow, fs) : zO)) (ht : 100 ≤ t) : y ≠ a := by
  obtain ⟨cq, oq, fq, r, h1, h2, h3, h4⟩ := h
  intro e
  rw [e, ha] at h1
  cases h1
  omega
theorem z_cls12 {t ow : Nat} {fs : List zV} (h : 160 ≤ t ∧ t < 190) : vwCl[zcls ((t, ow, fs) : zO).1]? = some (RJx4a65c, TJx4a65c, 3) := by
  unfold zcls
  rw [if_neg (by omega), if_neg (by omega), if_pos (by omega)]
  rfl
/-- the world behind an addition -/
def lAw (w : zW) (a t ow cap : Nat) (ys : List Nat) (y : Nat) : zW :=
  if ys = [] then zput (znew w (199, a, []) 10) a (t, ow, zLs 10 [y])
  else if ys.length < cap then zput w a (t, ow, zLs cap (ys ++ [y]))
  else zput (znew w (199, a, []) (cap + cap / 2)) a (t, ow, zLs (cap + cap / 2) (ys ++ [y]))
section CLIST
variable {G : zG} {d : Nat} {w : zW}
theorem c_acInit {a : Nat} : zM G zm_Jxa1e45_init_da8c8 d [zR a] w (zRet none w) := by
  refine zx_ent (by decide +kernel) rfl (Nat.le_of_ble_eq_true rfl) ?_
  refine zx_L (L1 := [some (zR a)]) rfl ?_
  refine zx_aload_n (i := 0) dJxa1e45_init_da8c8_0 rfl rfl ?_
  refine zx_objInit dJxa1e45_init_da8c8_1 zo_Jxa1e45_1 zk_oi1 zk_oi2 (Nat.le_of_ble_eq_true rfl) ?_
  refine zx_return dJxa1e45_init_da8c8_4 rfl ?_
  exact zr_n rfl
theorem c_alInit {a ow : Nat} {x y z : zV} (ha : w.1 a = some (12, ow, [x, y, z])) : zM G zm_Jxc12de_init_da8c8 (d + 1) [zR a] w (zRet none (zput w a (12, ow, [zI 0, y, z]))) := by
  refine zx_ent (by decide +kernel) rfl (Nat.le_of_ble_eq_true rfl) ?_
  refine zx_L (L1 := [some (zR a)]) rfl ?_
  refine zx_aload_n (i := 0) dJxc12de_init_da8c8_0 rfl rfl ?_
  refine zx_ic (b := a) (As := []) (st := []) (w1 := w) dJxc12de_init_da8c8_1 zc_Jxc12de_1 rfl (Nat.le_of_ble_eq_true rfl) rfl c_acInit ?_
  refine zx_aload_n (i := 0) dJxc12de_init_da8c8_4 rfl rfl ?_
  refine zx_iconst (v := 0) dJxc12de_init_da8c8_5 rfl (z32_lit (by decide) (by decide)) ?_
  obtain ⟨w_1, hw_2⟩ : ∃ ww, ww = zput w a (12, ow, [zI 0, y, z]) := ⟨_, rfl⟩
  refine zx_put (w1 := w_1) dJxc12de_init_da8c8_6 zf_Jxc12de_7 ha (Nat.le_of_ble_eq_true rfl) (zFt_int _) (fun h => by cases h) hw_2.symm ?_
  have h_3 : w_1.1 a = some (12, ow, [zI 0, y, z]) := by rw [hw_2]; exact zput_at
  refine zx_return dJxc12de_init_da8c8_9 rfl ?_
  exact zr_n (by rw [hw_2])
theorem c_list_init {a oa : Nat} (t ow : Nat) (ha : w.1 a = some (12, oa, [zI 0, zN, zI 0])) (ht : 160 ≤ t ∧ t < 190) : zM G zm_Jx4a65c_init_da8c8 (d + 2) [zR a] w (zRet none (zput w a (t, ow, zLs 0 []))) := by
  refine zx_ent (by decide +kernel) rfl (Nat.le_of_ble_eq_true rfl) ?_
  refine zx_L (L1 := [some (zR a)]) rfl ?_
  refine zx_aload_n (i := 0) dJx4a65c_init_da8c8_0 rfl rfl ?_
  obtain ⟨w_1, hw_2⟩ : ∃ ww, ww = zput w a (12, oa, [zI 0, zN, zI 0]) := ⟨_, rfl⟩
  have h_3 : w_1.1 a = some (12, oa, [zI 0, zN, zI 0]) := by rw [hw_2]; exact zput_at
  refine zx_ic (b := a) (As := []) (st := []) (w1 := w_1) dJx4a65c_init_da8c8_1 zc_Jx4a65c_1 rfl (Nat.le_of_ble_eq_true rfl) rfl (by rw [hw_2]; exact (c_alInit ha)) ?_
  refine zx_aload_n (i := 0) dJx4a65c_init_da8c8_4 rfl rfl ?_
  refine zx_gets0 dJx4a65c_init_da8c8_5 zg_e0 ?_
  obtain ⟨w_4, hw_5⟩ : ∃ ww, ww = zput w_1 a (12, oa, [zI 0, zR G.2.1, zI 0]) := ⟨_, rfl⟩
  refine zx_put (w1 := w_4) dJx4a65c_init_da8c8_8 zf_Jx4a65c_9 h_3 (Nat.le_of_ble_eq_true rfl) (zFt_arr _ _) (fun h => by cases h) hw_5.symm ?_
  have h_6 : w_4.1 a = some (12, oa, [zI 0, zR G.2.1, zI 0]) := by rw [hw_5]; exact zput_at
  refine zx_lclose0 t ow h_6 ht ?_
  refine zx_return dJx4a65c_init_da8c8_11 rfl ?_
  exact zr_n (by rw [hw_5, hw_2, zput_put, zput_put])
theorem c_list_size {a t ow cap : Nat} {ys : List Nat} (ha : w.1 a = some (t, ow, zLs cap ys)) (ht : 160 ≤ t ∧ t < 190) : zM G zm_Jx4a65c_size_8abf5 d [zR a] w (zRet (some (zI (ys.length : Int))) w) := by
  refine zx_ent (by decide +kernel) rfl (Nat.le_of_ble_eq_true rfl) ?_
  refine zx_L (L1 := [some (zR a)]) rfl ?_
  refine zx_aload_n (i := 0) dJx4a65c_size_8abf5_0 rfl rfl ?_
  refine zx_lsize dJx4a65c_size_8abf5_1 zf_Jx4a65c_48 ha ht ?_
  refine zx_iret dJx4a65c_size_8abf5_4 rfl ?_
  exact zr_v rfl rfl
theorem c_pcheck {i n : Int} (h0 : 0 ≤ i) (h1 : i < n) : zM G zm_J3_checkIndex_8e157 d [zI i, zI n, zN] w (zRet (some (zI i)) w) := by
  refine zx_ent (by decide +kernel) rfl (Nat.le_of_ble_eq_true rfl) ?_
  refine zx_L (L1 := [some (zI i), some (zI n), some (zN)]) rfl ?_
  refine zx_iload_n (i := 0) dJ3_checkIndex_8e157_0 rfl rfl ?_
  refine zx_if_lt (tgt := 9) dJ3_checkIndex_8e157_1 (by decide) (fun h1 => absurd h1 (by omega)) (fun h1 => ?_)
  refine zx_iload_n (i := 0) dJ3_checkIndex_8e157_4 rfl rfl ?_
  refine zx_iload_n (i := 1) dJ3_checkIndex_8e157_5 rfl rfl ?_
  refine zx_icmp_lt (tgt := 16) dJ3_checkIndex_8e157_6 (by decide) (fun h6 => ?_) (fun h6 => absurd (by omega) h6)
  refine zx_iload_n (i := 0) dJ3_checkIndex_8e157_16 rfl rfl ?_
  refine zx_iret dJ3_checkIndex_8e157_17 rfl ?_
  exact zr_v rfl rfl
theorem c_ocheck {i n : Int} (h0 : 0 ≤ i) (h1 : i < n) : zM G zm_J15_checkIndex_7cf53 (d + 1) [zI i, zI n] w (zRet (some (zI i)) w) := by
  refine zx_ent (by decide +kernel) rfl (Nat.le_of_ble_eq_true rfl) ?_
  refine zx_L (L1 := [some (zI i), some (zI n)]) rfl ?_
  refine zx_iload_n (i := 0) dJ15_checkIndex_7cf53_0 rfl rfl ?_
  refine zx_iload_n (i := 1) dJ15_checkIndex_7cf53_1 rfl rfl ?_
  refine zx_null dJ15_checkIndex_7cf53_2 ?_
  refine zx_is (As := [zI i, zI n, zN]) (st := []) (v := (some (zI i))) (w1 := w) dJ15_checkIndex_7cf53_3 zc_J15_105 rfl (Nat.le_of_ble_eq_true rfl) rfl (c_pcheck h0 h1) ?_
  refine zx_st (st1 := [zI i]) rfl ?_
  refine zx_iret dJ15_checkIndex_7cf53_6 rfl ?_
  exact zr_v rfl rfl
theorem lob_at {os : List (Option Nat)} {ys : List Nat} {i : Int} {y : Nat} (g2 : os.take ys.length = ys.map some) (h0 : 0 ≤ i) (hy : ys[i.toNat]? = some y) : (lob os)[i.toNat]? = some (zR y) := by
  have hl : i.toNat < ys.length := (List.getElem?_eq_some_iff.mp hy).1
  have e : os[i.toNat]? = some (some y) := by rw [← List.getElem?_take_of_lt hl, g2, List.getElem?_map, hy]; rfl
  unfold lob
  rw [List.getElem?_map, e]
  rfl
theorem c_elData {a h oh ow : Nat} {m z : zV} {fs : List zV} (ha : w.1 a = some (12, ow, [m, zR h, z])) (hh : w.1 h = some (127, oh, fs)) {i : Int} {y : Nat} (h0 : 0 ≤ i) (hy : fs[i.toNat]? = some (zR y)) : zM G zm_Jx4a65c_elementData_915e3 d [zR a, zI i] w (zRet (some (zR y)) w) := by
  refine zx_ent (by decide +kernel) rfl (Nat.le_of_ble_eq_true rfl) ?_
  refine zx_L (L1 := [some (zR a), some (zI i)]) rfl ?_
  refine zx_aload_n (i := 0) dJx4a65c_elementData_915e3_0 rfl rfl ?_
  refine zx_getfield dJx4a65c_elementData_915e3_1 zf_Jx4a65c_9 ha rfl ?_
  refine zx_iload_n (i := 1) dJx4a65c_elementData_915e3_4 rfl rfl ?_
  refine zx_aaload (v := zR y) dJx4a65c_elementData_915e3_5 hh (by decide) h0 hy ?_
  refine zx_areturn dJx4a65c_elementData_915e3_6 rfl (Or.inl ⟨_, rfl⟩) ?_
  exact zr_v rfl rfl
theorem z_lid4 {w : zW} {a h : Nat} {x y p oh : zO} (hne : a ≠ h) (hh : w.1 h = some oh) (ha : w.1 a = some p) : zput (zput (zput (zput w a x) h y) a p) h oh = w := by
  rw [z_close4 hne hh, zput_id ha]
theorem c_list_get {a t ow cap : Nat} {ys : List Nat} (ha : w.1 a = some (t, ow, zLs cap ys)) (ht : 160 ≤ t ∧ t < 190) {i : Int} {y : Nat} (h0 : 0 ≤ i) (hy : ys[i.toNat]? = some y) : zM G zm_Jx4a65c_get_915e3 (d + 2) [zR a, zI i] w (zRet (some (zR y)) w) := by
  refine zx_ent (by decide +kernel) rfl (Nat.le_of_ble_eq_true rfl) ?_
  refine zx_L (L1 := [some (zR a), some (zI i)]) rfl ?_
  refine zx_iload_n (i := 1) dJx4a65c_get_915e3_0 rfl rfl ?_
  refine zx_aload_n (i := 0) dJx4a65c_get_915e3_1 rfl rfl ?_
  refine zx_lsize dJx4a65c_get_915e3_2 zf_Jx4a65c_48 ha ht ?_
  refine zx_is (As := [zI i, zI (ys.length : Int)]) (st := []) (v := (some (zI i))) (w1 := w) dJx4a65c_get_915e3_5 zc_Jx4a65c_118 rfl (Nat.le_of_ble_eq_true rfl) rfl (c_ocheck h0 (by have := (List.getElem?_eq_some_iff.mp hy).1; omega)) ?_
  refine zx_st (st1 := [zI i]) rfl ?_
  refine zx_pop dJx4a65c_get_915e3_8 (fun a h => by cases h) ?_
  have hne0 : ys ≠ [] := by intro e; subst e; simp at *; try omega
  refine zx_lopen ha ht hne0 (fun h mc os g1 g2 g3 g4 g5 g6 g7 g8 => ?_)
  obtain ⟨w1, hw1⟩ : ∃ x, x = zput (zput w a (12, ow, [zI mc, zR h, zI (ys.length : Int)])) h (127, a, lob os) := ⟨_, rfl⟩
  refine zx_w (w1 := w1) hw1.symm ?_
  have h1a : w1.1 a = some (12, ow, [zI mc, zR h, zI (ys.length : Int)]) := by rw [hw1]; exact zput_to g6 zput_at
  have h1h : w1.1 h = some (127, a, lob os) := by rw [hw1]; exact zput_at
  refine zx_aload_n (i := 0) dJx4a65c_get_915e3_9 rfl rfl ?_
  refine zx_iload_n (i := 1) dJx4a65c_get_915e3_10 rfl rfl ?_
  refine zx_iv (b := a) (As := [zI i]) (st := []) (v := (some (zR y))) (w1 := w1) dJx4a65c_get_915e3_11 zc_Jx4a65c_123 h1a rfl rfl rfl (Nat.le_of_ble_eq_true rfl) rfl (c_elData h1a h1h h0 (lob_at g2 h0 hy)) ?_
  refine zx_st (st1 := [zR y]) rfl ?_
  refine zx_lclose (t := t) (ow' := ow) h1a h1h g1 g2 g3 g4 g5 ht ?_
  refine zx_w (w1 := w) (by rw [hw1, z_lid4 g6 g7 ha]) ?_
  refine zx_areturn dJx4a65c_get_915e3_14 rfl (Or.inl ⟨_, rfl⟩) ?_
  exact zr_v rfl rfl
theorem c_newLen {c k : Nat} (hc : c < 100000) (hk : 1 ≤ k) (hk2 : k < 100000) : zM G zm_J8_newLength_cabcc d [zI (c : Int), zI 1, zI (k : Int)] w (zRet (some (zI ((c + k : Nat) : Int))) w) := by
  refine zx_ent (by decide +kernel) rfl (Nat.le_of_ble_eq_true rfl) ?_
  refine zx_L (L1 := [some (zI (c : Int)), some (zI 1), some (zI (k : Int)), none]) rfl ?_
  refine zx_iload_n (i := 0) dJ8_newLength_cabcc_0 rfl rfl ?_
  refine zx_iload_n (i := 1) dJ8_newLength_cabcc_1 rfl rfl ?_
  refine zx_iload_n (i := 2) dJ8_newLength_cabcc_2 rfl rfl ?_
  refine zx_max (v := max 1 (k : Int)) dJ8_newLength_cabcc_3 zo_J8_194 zk_max1 zk_math zk_max2 (Nat.le_of_ble_eq_true rfl) rfl ?_
  refine zx_st (st1 := [zI (k : Int), zI (c : Int)]) (by rw [show max (1 : Int) (k : Int) = (k : Int) by omega]) ?_
  refine zx_iadd (v := ((c + k : Nat) : Int)) dJ8_newLength_cabcc_6 (zw_eq (by omega) (by omega) (by omega)) ?_
  refine zx_istore_n (i := 3) dJ8_newLength_cabcc_7 rfl (by decide) rfl ?_
  refine zx_L (L1 := [some (zI (c : Int)), some (zI 1), some (zI (k : Int)), some (zI ((c + k : Nat) : Int))]) rfl ?_
  refine zx_iconst (v := 0) dJ8_newLength_cabcc_8 rfl (z32_lit (by decide) (by decide)) ?_
  refine zx_iload_n (i := 3) dJ8_newLength_cabcc_9 rfl rfl ?_
  refine zx_icmp_ge (tgt := 21) dJ8_newLength_cabcc_10 (by decide) (fun h10 => absurd h10 (by omega)) (fun h10 => ?_)
  refine zx_iload_n (i := 3) dJ8_newLength_cabcc_13 rfl rfl ?_
  refine zx_ldc (v := 2147483639) dJ8_newLength_cabcc_14 zk_J8_200 (by decide +kernel) (z32_lit (by decide) (by decide)) ?_
  refine zx_pc (pc1 := 16) rfl ?_
  refine zx_icmp_gt (tgt := 21) dJ8_newLength_cabcc_16 (by decide) (fun h16 => absurd h16 (by omega)) (fun h16 => ?_)
  refine zx_iload_n (i := 3) dJ8_newLength_cabcc_19 rfl rfl ?_
  refine zx_iret dJ8_newLength_cabcc_20 rfl ?_
  exact zr_v rfl rfl
theorem c_copyOfC {h oh n : Nat} {os : List (Option Nat)} (hh : w.1 h = some (127, oh, lob os)) (hn : os.length < n) (hn2 : n < 100000) (hel : ∀ o ∈ os, ∃ y, o = some y ∧ lEl w y) (r1 : w.2.1 + 1 ≤ G.2.2.2.2.1) (r2 : w.2.2 + n ≤ G.2.2.2.2.2) : zM G zm_J7_copyOf_6403c d [zR h, zI (n : Int), zR (G.2.2.2.1 5)] w (zRet (some (zR w.2.1)) (znew w (127, 0, lob (os ++ List.replicate (n - os.length) none)) n)) := by
  refine zx_ent (by decide +kernel) rfl (Nat.le_of_ble_eq_true rfl) ?_
  refine zx_L (L1 := [some (zR h), some (zI (n : Int)), some (zR (G.2.2.2.1 5)), none]) rfl ?_
  refine zx_aload_n (i := 2) dJ7_copyOf_6403c_0 rfl rfl ?_
  refine zx_ldcM dJ7_copyOf_6403c_1 zg_cl110 ?_
  refine zx_acmp_ne (tgt := 13) dJ7_copyOf_6403c_3 (by decide) (fun h3 => absurd h3 (not_not_intro rfl)) (fun h3 => ?_)
  refine zx_iload_n (i := 1) dJ7_copyOf_6403c_6 rfl rfl ?_
  refine zx_ok (fun ok_1 => ?_)
  refine zx_anewarray (n := n) (ka := 4) 127 dJ7_copyOf_6403c_7 zg_cl2 (Or.inr (Or.inr ⟨rfl, rfl, rfl⟩)) (by first | rfl | simp | omega) (by first | decide | omega) (by omega) (by omega) ?_
  obtain ⟨w_2, hw_3⟩ : ∃ ww, ww = znew w (127, 0, List.replicate n zN) n := ⟨_, rfl⟩
  obtain ⟨a_4, ha_5⟩ : ∃ ww, ww = w.2.1 := ⟨_, rfl⟩
  rw [← hw_3, ← ha_5]
  have h_6 : w_2.1 a_4 = some (127, 0, List.replicate n zN) := by rw [hw_3, ha_5]; exact znew_at
  refine zx_goto (tgt := 24) dJ7_copyOf_6403c_10 (by decide) ?_
  refine zx_astore_n (i := 3) dJ7_copyOf_6403c_24 rfl (by decide) rfl ?_
  refine zx_L (L1 := [some (zR h), some (zI (n : Int)), some (zR (G.2.2.2.1 5)), some (zR a_4)]) rfl ?_
  refine zx_aload_n (i := 0) dJ7_copyOf_6403c_25 rfl rfl ?_
  refine zx_iconst (v := 0) dJ7_copyOf_6403c_26 rfl (z32_lit (by decide) (by decide)) ?_
  refine zx_aload_n (i := 3) dJ7_copyOf_6403c_27 rfl rfl ?_
  refine zx_iconst (v := 0) dJ7_copyOf_6403c_28 rfl (z32_lit (by decide) (by decide)) ?_
  refine zx_pc (pc1 := 29) rfl ?_
  refine zx_aload_n (i := 0) dJ7_copyOf_6403c_29 rfl rfl ?_
  have h_7 : w_2.1 h = some (127, oh, lob os) := by
    rw [hw_3]; exact znew_to (ok_1 _ _ hh) hh
  refine zx_alen (n := os.length) dJ7_copyOf_6403c_30 h_7 (by first | decide | omega) lob_len (by omega) ?_
  refine zx_iload_n (i := 1) dJ7_copyOf_6403c_31 rfl rfl ?_
  refine zx_min (v := min ((os.length : Nat) : Int) (n : Int)) dJ7_copyOf_6403c_32 zo_J7_304 zk_min1 zk_math zk_min2 (Nat.le_of_ble_eq_true rfl) rfl ?_
  refine zx_st (st1 := [zI (os.length : Int), zI 0, zR a_4, zI 0, zR h]) (by rw [show min (os.length : Int) (n : Int) = (os.length : Int) by omega]) ?_
  have hn3 : w_2.1 a_4 = some (127, 0, lob (List.replicate n none)) := by rw [← lob_rep]; exact h_6
  refine zx_arraycopyO (n := os.length) (st := []) dJ7_copyOf_6403c_35 zy_link h_7 hn3 (Nat.le_refl _) (by simp; omega) (by decide) ?_ ?_
  · intro i y hi hy
    obtain ⟨y2, e1, cq, oq, fq, r, h1, h2, h3, h4⟩ := hel _ (List.mem_of_getElem? hy)
    cases e1
    exact ⟨cq, oq, fq, r, by rw [hw_3, znew_ne (Nat.ne_of_lt (ok_1 _ _ h1))]; exact h1, h2, h3, h4⟩
  refine zx_aload_n (i := 3) dJ7_copyOf_6403c_38 rfl rfl ?_
  refine zx_areturn dJ7_copyOf_6403c_39 rfl (Or.inr ⟨_, rfl⟩) ?_
  exact zr_v (by rw [ha_5]) (by rw [hw_3, ha_5, znew_put, List.take_of_length_le (Nat.le_refl _), List.drop_replicate]; rfl)
theorem c_copyOfO {h oh n : Nat} {os : List (Option Nat)} (hh : w.1 h = some (127, oh, lob os)) (hn : os.length < n) (hn2 : n < 100000) (hel : ∀ o ∈ os, ∃ y, o = some y ∧ lEl w y) (r1 : w.2.1 + 1 ≤ G.2.2.2.2.1) (r2 : w.2.2 + n ≤ G.2.2.2.2.2) : zM G zm_J7_copyOf_1904c (d + 1) [zR h, zI (n : Int)] w (zRet (some (zR w.2.1)) (znew w (127, 0, lob (os ++ List.replicate (n - os.length) none)) n)) := by
  refine zx_ent (by decide +kernel) rfl (Nat.le_of_ble_eq_true rfl) ?_
  refine zx_L (L1 := [some (zR h), some (zI (n : Int))]) rfl ?_
  refine zx_aload_n (i := 0) dJ7_copyOf_1904c_0 rfl rfl ?_
  refine zx_iload_n (i := 1) dJ7_copyOf_1904c_1 rfl rfl ?_
  refine zx_aload_n (i := 0) dJ7_copyOf_1904c_2 rfl rfl ?_
  refine zx_getC dJ7_copyOf_1904c_3 zg_link zg_dec zg_sel zg_ins zg_nat hh (Nat.le_of_ble_eq_true rfl) ?_
  refine zx_ok (fun ok_1 => ?_)
  obtain ⟨w_2, hw_3⟩ : ∃ ww, ww = znew w (127, 0, lob (os ++ List.replicate (n - os.length) none)) n := ⟨_, rfl⟩
  obtain ⟨a_4, ha_5⟩ : ∃ ww, ww = w.2.1 := ⟨_, rfl⟩
  have h_6 : w_2.1 a_4 = some (127, 0, lob (os ++ List.replicate (n - os.length) none)) := by rw [hw_3, ha_5]; exact znew_at
  refine zx_is (As := [zR h, zI (n : Int), zR (G.2.2.2.1 5)]) (st := []) (v := (some (zR a_4))) (w1 := w_2) dJ7_copyOf_1904c_6 zc_J7_300 rfl (Nat.le_of_ble_eq_true rfl) rfl (by (try rw [ha_5]); rw [hw_3]; exact (c_copyOfC hh hn hn2 hel r1 r2)) ?_
  refine zx_st (st1 := [zR a_4]) rfl ?_
  refine zx_areturn dJ7_copyOf_1904c_9 rfl (Or.inr ⟨_, rfl⟩) ?_
  exact zr_v (by rw [ha_5]) (by rw [hw_3])
theorem c_growA1 {a ow : Nat} {mc : Int} (ha : w.1 a = some (12, ow, [zI mc, zR G.2.1, zI 0])) (r1 : w.2.1 + 1 ≤ G.2.2.2.2.1) (r2 : w.2.2 + 10 ≤ G.2.2.2.2.2) : zM G zm_Jx4a65c_grow_92f84 d [zR a, zI 1] w (zRet (some (zR w.2.1)) (zput (znew w (127, 0, List.replicate 10 zN) 10) a (12, ow, [zI mc, zR w.2.1, zI 0]))) := by
  refine zx_ent (by decide +kernel) rfl (Nat.le_of_ble_eq_true rfl) ?_
  refine zx_L (L1 := [some (zR a), some (zI 1), none, none]) rfl ?_
  refine zx_aload_n (i := 0) dJx4a65c_grow_92f84_0 rfl rfl ?_
  refine zx_getfield dJx4a65c_grow_92f84_1 zf_Jx4a65c_9 ha rfl ?_
  refine zx_alen0 dJx4a65c_grow_92f84_4 ?_
  refine zx_istore_n (i := 2) dJx4a65c_grow_92f84_5 rfl (by decide) rfl ?_
  refine zx_L (L1 := [some (zR a), some (zI 1), some (zI 0), none]) rfl ?_
  refine zx_iload_n (i := 2) dJx4a65c_grow_92f84_6 rfl rfl ?_
  refine zx_if_gt (tgt := 20) dJx4a65c_grow_92f84_7 (by decide) (fun h7 => absurd h7 (by decide)) (fun h7 => ?_)
  refine zx_aload_n (i := 0) dJx4a65c_grow_92f84_10 rfl rfl ?_
  refine zx_getfield dJx4a65c_grow_92f84_11 zf_Jx4a65c_9 ha rfl ?_
  refine zx_gets0 dJx4a65c_grow_92f84_14 zg_e0 ?_
  refine zx_acmp_eq (tgt := 45) dJx4a65c_grow_92f84_17 (by decide) (fun h17 => ?_) (fun h17 => absurd (rfl) h17)
  refine zx_aload_n (i := 0) dJx4a65c_grow_92f84_45 rfl rfl ?_
  refine zx_pc (pc1 := 46) rfl ?_
  refine zx_bipush (v := 10) dJx4a65c_grow_92f84_46 (by decide +kernel) (z32_lit (by decide) (by decide)) ?_
  refine zx_iload_n (i := 1) dJx4a65c_grow_92f84_48 rfl rfl ?_
  refine zx_max (v := max 10 1) dJx4a65c_grow_92f84_49 zo_Jx4a65c_79 zk_max1 zk_math zk_max2 (Nat.le_of_ble_eq_true rfl) rfl ?_
  refine zx_st (st1 := [zI 10, zR a]) rfl ?_
  refine zx_ok (fun ok_1 => ?_)
  refine zx_anewarray (n := 10) (ka := 4) 127 dJx4a65c_grow_92f84_52 zg_cl7 (Or.inr (Or.inr ⟨rfl, rfl, rfl⟩)) (by first | rfl | simp | omega) (by first | decide | omega) (by omega) (by omega) ?_
  obtain ⟨w_2, hw_3⟩ : ∃ ww, ww = znew w (127, 0, List.replicate 10 zN) 10 := ⟨_, rfl⟩
  obtain ⟨a_4, ha_5⟩ : ∃ ww, ww = w.2.1 := ⟨_, rfl⟩
  rw [← hw_3, ← ha_5]
  have h_6 : w_2.1 a_4 = some (127, 0, List.replicate 10 zN) := by rw [hw_3, ha_5]; exact znew_at
  refine zx_dupx1 dJx4a65c_grow_92f84_55 (fun _ h => by cases h) (fun _ h => by cases h) ?_
  have h_7 : w_2.1 a = some (12, ow, [zI mc, zR G.2.1, zI 0]) := by
    rw [hw_3]; exact znew_to (ok_1 _ _ ha) ha
  obtain ⟨w_8, hw_9⟩ : ∃ ww, ww = zput w_2 a (12, ow, [zI mc, zR a_4, zI 0]) := ⟨_, rfl⟩
  refine zx_put (w1 := w_8) dJx4a65c_grow_92f84_56 zf_Jx4a65c_9 h_7 (Nat.le_of_ble_eq_true rfl) (zFt_arr _ _) (fun h => by cases h) hw_9.symm ?_
  have h_10 : w_8.1 a = some (12, ow, [zI mc, zR a_4, zI 0]) := by rw [hw_9]; exact zput_at
  refine zx_areturn dJx4a65c_grow_92f84_59 rfl (Or.inr ⟨_, rfl⟩) ?_
  exact zr_v (by rw [ha_5]) (by rw [hw_9, hw_3, ha_5])
theorem c_growA0 {a ow : Nat} {mc : Int} (ha : w.1 a = some (12, ow, [zI mc, zR G.2.1, zI 0])) (r1 : w.2.1 + 1 ≤ G.2.2.2.2.1) (r2 : w.2.2 + 10 ≤ G.2.2.2.2.2) : zM G zm_Jx4a65c_grow_d5877 (d + 1) [zR a] w (zRet (some (zR w.2.1)) (zput (znew w (127, 0, List.replicate 10 zN) 10) a (12, ow, [zI mc, zR w.2.1, zI 0]))) := by
  refine zx_ent (by decide +kernel) rfl (Nat.le_of_ble_eq_true rfl) ?_
  refine zx_L (L1 := [some (zR a)]) rfl ?_
  refine zx_aload_n (i := 0) dJx4a65c_grow_d5877_0 rfl rfl ?_
  refine zx_aload_n (i := 0) dJx4a65c_grow_d5877_1 rfl rfl ?_
  refine zx_getfield dJx4a65c_grow_d5877_2 zf_Jx4a65c_48 ha rfl ?_
  refine zx_iconst (v := 1) dJx4a65c_grow_d5877_5 rfl (z32_lit (by decide) (by decide)) ?_
  refine zx_iadd (v := 1) dJx4a65c_grow_d5877_6 (by decide +kernel) ?_
  refine zx_ok (fun ok_1 => ?_)
  obtain ⟨w_2, hw_3⟩ : ∃ ww, ww = znew w (127, 0, List.replicate 10 zN) 10 := ⟨_, rfl⟩
  obtain ⟨a_4, ha_5⟩ : ∃ ww, ww = w.2.1 := ⟨_, rfl⟩
  have h_6 : w_2.1 a_4 = some (127, 0, List.replicate 10 zN) := by rw [hw_3, ha_5]; exact znew_at
  have h_7 : w_2.1 a = some (12, ow, [zI mc, zR G.2.1, zI 0]) := by
    rw [hw_3]; exact znew_to (ok_1 _ _ ha) ha
  obtain ⟨w_8, hw_9⟩ : ∃ ww, ww = zput w_2 a (12, ow, [zI mc, zR a_4, zI 0]) := ⟨_, rfl⟩
  have h_10 : w_8.1 a = some (12, ow, [zI mc, zR a_4, zI 0]) := by rw [hw_9]; exact zput_at
  refine zx_iv (b := a) (As := [zI 1]) (st := []) (v := (some (zR a_4))) (w1 := w_8) dJx4a65c_grow_d5877_7 zc_Jx4a65c_69 ha rfl rfl rfl (Nat.le_of_ble_eq_true rfl) rfl (by rw [hw_9]; (try rw [ha_5]); rw [hw_3]; exact (c_growA1 ha r1 r2)) ?_
  refine zx_st (st1 := [zR a_4]) rfl ?_
  refine zx_areturn dJx4a65c_grow_d5877_10 rfl (Or.inr ⟨_, rfl⟩) ?_
  exact zr_v (by rw [ha_5]) (by rw [hw_9, hw_3, ha_5])
theorem z_addA {w : zW} {a n : Nat} {x p q r : zO} (h : a ≠ w.2.1) : zput (zput (zput (znew w x n) a p) w.2.1 q) a r = zput (znew w q n) a r := by
  unfold zput znew zup
  refine Prod.ext ?_ rfl
  funext b
  by_cases c1 : b = a
  · simp [c1]
  · by_cases c2 : b = w.2.1
    · simp [c2, Ne.symm h]
    · simp [c1, c2]
theorem c_addA {a ow y : Nat} {mc : Int} (ha : w.1 a = some (12, ow, [zI mc, zR G.2.1, zI 0])) (r1 : w.2.1 + 1 ≤ G.2.2.2.2.1) (r2 : w.2.2 + 10 ≤ G.2.2.2.2.2) (hy : lEl w y) (hya : y ≠ a) : zM G zm_Jx4a65c_add_72be8 (d + 2) [zR a, zR y, zR G.2.1, zI 0] w (zRet none (zput (znew w (127, 0, ((List.replicate 10 zN).set 0 (zR y))) 10) a (12, ow, [zI mc, zR w.2.1, zI 1]))) := by
  refine zx_ent (by decide +kernel) rfl (Nat.le_of_ble_eq_true rfl) ?_
  refine zx_L (L1 := [some (zR a), some (zR y), some (zR G.2.1), some (zI 0)]) rfl ?_
  refine zx_iload_n (i := 3) dJx4a65c_add_72be8_0 rfl rfl ?_
  refine zx_aload_n (i := 2) dJx4a65c_add_72be8_1 rfl rfl ?_
  refine zx_alen0 dJx4a65c_add_72be8_2 ?_
  refine zx_icmp_ne (tgt := 11) dJx4a65c_add_72be8_3 (by decide) (fun h3 => absurd h3 (by decide)) (fun h3 => ?_)
  refine zx_aload_n (i := 0) dJx4a65c_add_72be8_6 rfl rfl ?_
  refine zx_ok (fun ok_1 => ?_)
  obtain ⟨w_2, hw_3⟩ : ∃ ww, ww = znew w (127, 0, List.replicate 10 zN) 10 := ⟨_, rfl⟩
  obtain ⟨a_4, ha_5⟩ : ∃ ww, ww = w.2.1 := ⟨_, rfl⟩
  have h_6 : w_2.1 a_4 = some (127, 0, List.replicate 10 zN) := by rw [hw_3, ha_5]; exact znew_at
  have h_7 : w_2.1 a = some (12, ow, [zI mc, zR G.2.1, zI 0]) := by
    rw [hw_3]; exact znew_to (ok_1 _ _ ha) ha
  obtain ⟨w_8, hw_9⟩ : ∃ ww, ww = zput w_2 a (12, ow, [zI mc, zR a_4, zI 0]) := ⟨_, rfl⟩
  have h_10 : w_8.1 a = some (12, ow, [zI mc, zR a_4, zI 0]) := by rw [hw_9]; exact zput_at
  refine zx_iv (b := a) (As := []) (st := []) (v := (some (zR a_4))) (w1 := w_8) dJx4a65c_add_72be8_7 zc_Jx4a65c_129 ha rfl rfl rfl (Nat.le_of_ble_eq_true rfl) rfl (by rw [hw_9]; (try rw [ha_5]); rw [hw_3]; exact (c_growA0 ha r1 r2)) ?_
  refine zx_st (st1 := [zR a_4]) rfl ?_
  refine zx_astore_n (i := 2) dJx4a65c_add_72be8_10 rfl (by decide) rfl ?_
  refine zx_L (L1 := [some (zR a), some (zR y), some (zR a_4), some (zI 0)]) rfl ?_
  refine zx_aload_n (i := 2) dJx4a65c_add_72be8_11 rfl rfl ?_
  refine zx_iload_n (i := 3) dJx4a65c_add_72be8_12 rfl rfl ?_
  refine zx_aload_n (i := 1) dJx4a65c_add_72be8_13 rfl rfl ?_
  have h_11 : w_8.1 a_4 = some (127, 0, List.replicate 10 zN) := by
    rw [hw_9]; exact zput_tg h_7 h_6 (by simp)
  have hy_12 : lEl w_2 y := by rw [hw_3]; exact lEl_new hy (fun e => by obtain ⟨cq, oq, fq, rq, y1, -⟩ := hy; exact Nat.ne_of_lt (ok_1 _ _ y1) e)
  have hy_13 : lEl w_8 y := by rw [hw_9]; exact lEl_put hy_12 hya
  obtain ⟨cq, oq, fq, rq, y1, y2, y3, y4⟩ := hy_13
  obtain ⟨w_14, hw_15⟩ : ∃ x, x = zput w_8 a_4 (127, 0, ((List.replicate 10 zN).set 0 (zR y))) := ⟨_, rfl⟩
  refine zx_aastoreO dJx4a65c_add_72be8_14 h_11 y1 y2 y3 y4 (by decide) (by decide) ?_
  refine zx_w (w1 := w_14) (by rw [hw_15]; rfl) ?_
  have h_16 : w_14.1 a_4 = some (127, 0, ((List.replicate 10 zN).set 0 (zR y))) := by rw [hw_15]; exact zput_at
  refine zx_pc (pc1 := 15) rfl ?_
  refine zx_aload_n (i := 0) dJx4a65c_add_72be8_15 rfl rfl ?_
  refine zx_iload_n (i := 3) dJx4a65c_add_72be8_16 rfl rfl ?_
  refine zx_iconst (v := 1) dJx4a65c_add_72be8_17 rfl (z32_lit (by decide) (by decide)) ?_
  refine zx_iadd (v := 1) dJx4a65c_add_72be8_18 (by decide +kernel) ?_
  have h_17 : w_14.1 a = some (12, ow, [zI mc, zR a_4, zI 0]) := by
    rw [hw_15]; exact zput_tg h_11 h_10 (by simp)
  obtain ⟨w_18, hw_19⟩ : ∃ ww, ww = zput w_14 a (12, ow, [zI mc, zR a_4, zI 1]) := ⟨_, rfl⟩
  refine zx_put (w1 := w_18) dJx4a65c_add_72be8_19 zf_Jx4a65c_48 h_17 (Nat.le_of_ble_eq_true rfl) (zFt_int _) (fun h => by cases h) hw_19.symm ?_
  have h_20 : w_18.1 a = some (12, ow, [zI mc, zR a_4, zI 1]) := by rw [hw_19]; exact zput_at
  refine zx_return dJx4a65c_add_72be8_22 rfl ?_
  exact zr_n (by rw [hw_19, hw_15, hw_9, hw_3]; simp only [ha_5]; exact z_addA (Nat.ne_of_lt (ok_1 _ _ ha)))
theorem c_addB {a h ow y n : Nat} {mc : Int} {os : List (Option Nat)} (ha : w.1 a = some (12, ow, [zI mc, zR h, zI (n : Int)])) (hh : w.1 h = some (127, a, lob os)) (hn : n < os.length) (hn2 : os.length < 100000) (hy : lEl w y) : zM G zm_Jx4a65c_add_72be8 d [zR a, zR y, zR h, zI (n : Int)] w (zRet none (zput (zput w h (127, a, lob (os.set n (some y)))) a (12, ow, [zI mc, zR h, zI ((n + 1 : Nat) : Int)]))) := by
  refine zx_ent (by decide +kernel) rfl (Nat.le_of_ble_eq_true rfl) ?_
  refine zx_L (L1 := [some (zR a), some (zR y), some (zR h), some (zI (n : Int))]) rfl ?_
  refine zx_iload_n (i := 3) dJx4a65c_add_72be8_0 rfl rfl ?_
  refine zx_aload_n (i := 2) dJx4a65c_add_72be8_1 rfl rfl ?_
  refine zx_alen (n := os.length) dJx4a65c_add_72be8_2 hh (by first | decide | omega) lob_len (by omega) ?_
  refine zx_icmp_ne (tgt := 11) dJx4a65c_add_72be8_3 (by decide) (fun h3 => ?_) (fun h3 => absurd (by omega) h3)
  refine zx_aload_n (i := 2) dJx4a65c_add_72be8_11 rfl rfl ?_
  refine zx_iload_n (i := 3) dJx4a65c_add_72be8_12 rfl rfl ?_
  refine zx_aload_n (i := 1) dJx4a65c_add_72be8_13 rfl rfl ?_
  obtain ⟨cq, oq, fq, rq, y1, y2, y3, y4⟩ := hy
  obtain ⟨w_1, hw_2⟩ : ∃ x, x = zput w h (127, a, lob (os.set n (some y))) := ⟨_, rfl⟩
  refine zx_aastoreO dJx4a65c_add_72be8_14 hh y1 y2 y3 y4 (by omega) (by rw [lob_len]; omega) ?_
  refine zx_w (w1 := w_1) (by rw [hw_2, Int.toNat_natCast, lob_set]) ?_
  have h_3 : w_1.1 h = some (127, a, lob (os.set n (some y))) := by rw [hw_2]; exact zput_at
  refine zx_aload_n (i := 0) dJx4a65c_add_72be8_15 rfl rfl ?_
  refine zx_iload_n (i := 3) dJx4a65c_add_72be8_16 rfl rfl ?_
  refine zx_iconst (v := 1) dJx4a65c_add_72be8_17 rfl (z32_lit (by decide) (by decide)) ?_
  refine zx_pc (pc1 := 18) rfl ?_
  refine zx_iadd (v := ((n + 1 : Nat) : Int)) dJx4a65c_add_72be8_18 (zw_eq (by omega) (by omega) (by omega)) ?_
  have h_4 : w_1.1 a = some (12, ow, [zI mc, zR h, zI (n : Int)]) := by
    rw [hw_2]; exact zput_tg hh ha (by simp)
  obtain ⟨w_5, hw_6⟩ : ∃ ww, ww = zput w_1 a (12, ow, [zI mc, zR h, zI ((n + 1 : Nat) : Int)]) := ⟨_, rfl⟩
  refine zx_put (w1 := w_5) dJx4a65c_add_72be8_19 zf_Jx4a65c_48 h_4 (Nat.le_of_ble_eq_true rfl) (zFt_int _) (fun h => by cases h) hw_6.symm ?_
  have h_7 : w_5.1 a = some (12, ow, [zI mc, zR h, zI ((n + 1 : Nat) : Int)]) := by rw [hw_6]; exact zput_at
  refine zx_return dJx4a65c_add_72be8_22 rfl ?_
  exact zr_n (by rw [hw_6, hw_2])
theorem c_growC1 {a h ow cap : Nat} {mc : Int} {os : List (Option Nat)} (ha : w.1 a = some (12, ow, [zI mc, zR h, zI (cap : Int)])) (hh : w.1 h = some (127, a, lob os)) (hn : os.length = cap) (h2 : 1 < cap) (hc : cap < 40000) (hel : ∀ o ∈ os, ∃ y, o = some y ∧ lEl w y) (r1 : w.2.1 + 1 ≤ G.2.2.2.2.1) (r2 : w.2.2 + (cap + cap / 2) ≤ G.2.2.2.2.2) : zM G zm_Jx4a65c_grow_92f84 (d + 2) [zR a, zI ((cap + 1 : Nat) : Int)] w (zRet (some (zR w.2.1)) (zput (znew w (127, 0, lob (os ++ List.replicate (cap / 2) none)) (cap + cap / 2)) a (12, ow, [zI mc, zR w.2.1, zI (cap : Int)]))) := by
  refine zx_ent (by decide +kernel) rfl (Nat.le_of_ble_eq_true rfl) ?_
  refine zx_L (L1 := [some (zR a), some (zI ((cap + 1 : Nat) : Int)), none, none]) rfl ?_
  refine zx_aload_n (i := 0) dJx4a65c_grow_92f84_0 rfl rfl ?_
  refine zx_getfield dJx4a65c_grow_92f84_1 zf_Jx4a65c_9 ha rfl ?_
  refine zx_alen (n := cap) dJx4a65c_grow_92f84_4 hh (by first | decide | omega) (by rw [lob_len]; exact hn) (by omega) ?_
  refine zx_istore_n (i := 2) dJx4a65c_grow_92f84_5 rfl (by decide) rfl ?_
  refine zx_L (L1 := [some (zR a), some (zI ((cap + 1 : Nat) : Int)), some (zI ((cap : Nat) : Int)), none]) rfl ?_
  refine zx_iload_n (i := 2) dJx4a65c_grow_92f84_6 rfl rfl ?_
  refine zx_if_gt (tgt := 20) dJx4a65c_grow_92f84_7 (by decide) (fun h7 => ?_) (fun h7 => absurd (by omega) h7)
  refine zx_iload_n (i := 2) dJx4a65c_grow_92f84_20 rfl rfl ?_
  refine zx_iload_n (i := 1) dJx4a65c_grow_92f84_21 rfl rfl ?_
  refine zx_iload_n (i := 2) dJx4a65c_grow_92f84_22 rfl rfl ?_
  refine zx_isub (v := 1) dJx4a65c_grow_92f84_23 (zw_eq (by omega) (by omega) (by omega)) ?_
  refine zx_iload_n (i := 2) dJx4a65c_grow_92f84_24 rfl rfl ?_
  refine zx_pc (pc1 := 25) rfl ?_
  refine zx_iconst (v := 1) dJx4a65c_grow_92f84_25 rfl (z32_lit (by decide) (by decide)) ?_
  refine zx_ishr (v := ((cap / 2 : Nat) : Int)) dJx4a65c_grow_92f84_26 (by rw [zshr1 ⟨by omega, by omega⟩]; omega) ?_
  refine zx_is (As := [zI ((cap : Nat) : Int), zI 1, zI ((cap / 2 : Nat) : Int)]) (st := []) (v := (some (zI ((cap + cap / 2 : Nat) : Int)))) (w1 := w) dJx4a65c_grow_92f84_27 zc_Jx4a65c_73 rfl (Nat.le_of_ble_eq_true rfl) rfl (c_newLen (by omega) (by omega) (by omega)) ?_
  refine zx_st (st1 := [zI ((cap + cap / 2 : Nat) : Int)]) rfl ?_
  refine zx_istore_n (i := 3) dJx4a65c_grow_92f84_30 rfl (by decide) rfl ?_
  refine zx_L (L1 := [some (zR a), some (zI ((cap + 1 : Nat) : Int)), some (zI ((cap : Nat) : Int)), some (zI ((cap + cap / 2 : Nat) : Int))]) rfl ?_
  refine zx_aload_n (i := 0) dJx4a65c_grow_92f84_31 rfl rfl ?_
  refine zx_aload_n (i := 0) dJx4a65c_grow_92f84_32 rfl rfl ?_
  refine zx_getfield dJx4a65c_grow_92f84_33 zf_Jx4a65c_9 ha rfl ?_
  refine zx_iload_n (i := 3) dJx4a65c_grow_92f84_36 rfl rfl ?_
  refine zx_ok (fun ok_1 => ?_)
  obtain ⟨w_2, hw_3⟩ : ∃ ww, ww = znew w (127, 0, lob (os ++ List.replicate (cap / 2) none)) (cap + cap / 2) := ⟨_, rfl⟩
  obtain ⟨a_4, ha_5⟩ : ∃ ww, ww = w.2.1 := ⟨_, rfl⟩
  have h_6 : w_2.1 a_4 = some (127, 0, lob (os ++ List.replicate (cap / 2) none)) := by rw [hw_3, ha_5]; exact znew_at
  refine zx_is (As := [zR h, zI ((cap + cap / 2 : Nat) : Int)]) (st := [zR a]) (v := (some (zR a_4))) (w1 := w_2) dJx4a65c_grow_92f84_37 zc_Jx4a65c_66 rfl (Nat.le_of_ble_eq_true rfl) rfl (by (try rw [ha_5]); rw [hw_3]; exact (by have q := c_copyOfO (d := d) (n := cap + cap / 2) hh (by omega) (by omega) hel r1 r2; rw [hn, Nat.add_sub_cancel_left] at q; exact q)) ?_
  refine zx_st (st1 := [zR a_4, zR a]) rfl ?_
  refine zx_dupx1 dJx4a65c_grow_92f84_40 (fun _ h => by cases h) (fun _ h => by cases h) ?_
  have h_7 : w_2.1 a = some (12, ow, [zI mc, zR h, zI (cap : Int)]) := by
    rw [hw_3]; exact znew_to (ok_1 _ _ ha) ha
  obtain ⟨w_8, hw_9⟩ : ∃ ww, ww = zput w_2 a (12, ow, [zI mc, zR a_4, zI (cap : Int)]) := ⟨_, rfl⟩
  refine zx_put (w1 := w_8) dJx4a65c_grow_92f84_41 zf_Jx4a65c_9 h_7 (Nat.le_of_ble_eq_true rfl) (zFt_arr _ _) (fun h => by cases h) hw_9.symm ?_
  have h_10 : w_8.1 a = some (12, ow, [zI mc, zR a_4, zI (cap : Int)]) := by rw [hw_9]; exact zput_at
  refine zx_areturn dJx4a65c_grow_92f84_44 rfl (Or.inr ⟨_, rfl⟩) ?_
  exact zr_v (by rw [ha_5]) (by rw [hw_9, hw_3, ha_5])
theorem c_growC0 {a h ow cap : Nat} {mc : Int} {os : List (Option Nat)} (ha : w.1 a = some (12, ow, [zI mc, zR h, zI (cap : Int)])) (hh : w.1 h = some (127, a, lob os)) (hn : os.length = cap) (h2 : 1 < cap) (hc : cap < 40000) (hel : ∀ o ∈ os, ∃ y, o = some y ∧ lEl w y) (r1 : w.2.1 + 1 ≤ G.2.2.2.2.1) (r2 : w.2.2 + (cap + cap / 2) ≤ G.2.2.2.2.2) : zM G zm_Jx4a65c_grow_d5877 (d + 3) [zR a] w (zRet (some (zR w.2.1)) (zput (znew w (127, 0, lob (os ++ List.replicate (cap / 2) none)) (cap + cap / 2)) a (12, ow, [zI mc, zR w.2.1, zI (cap : Int)]))) := by
  refine zx_ent (by decide +kernel) rfl (Nat.le_of_ble_eq_true rfl) ?_
  refine zx_L (L1 := [some (zR a)]) rfl ?_
  refine zx_aload_n (i := 0) dJx4a65c_grow_d5877_0 rfl rfl ?_
  refine zx_aload_n (i := 0) dJx4a65c_grow_d5877_1 rfl rfl ?_
  refine zx_getfield dJx4a65c_grow_d5877_2 zf_Jx4a65c_48 ha rfl ?_
  refine zx_iconst (v := 1) dJx4a65c_grow_d5877_5 rfl (z32_lit (by decide) (by decide)) ?_
  refine zx_iadd (v := ((cap + 1 : Nat) : Int)) dJx4a65c_grow_d5877_6 (zw_eq (by omega) (by omega) (by omega)) ?_
  refine zx_ok (fun ok_1 => ?_)
  obtain ⟨w_2, hw_3⟩ : ∃ ww, ww = znew w (127, 0, lob (os ++ List.replicate (cap / 2) none)) (cap + cap / 2) := ⟨_, rfl⟩
  obtain ⟨a_4, ha_5⟩ : ∃ ww, ww = w.2.1 := ⟨_, rfl⟩
  have h_6 : w_2.1 a_4 = some (127, 0, lob (os ++ List.replicate (cap / 2) none)) := by rw [hw_3, ha_5]; exact znew_at
  have h_7 : w_2.1 a = some (12, ow, [zI mc, zR h, zI (cap : Int)]) := by
    rw [hw_3]; exact znew_to (ok_1 _ _ ha) ha
  obtain ⟨w_8, hw_9⟩ : ∃ ww, ww = zput w_2 a (12, ow, [zI mc, zR a_4, zI (cap : Int)]) := ⟨_, rfl⟩
  have h_10 : w_8.1 a = some (12, ow, [zI mc, zR a_4, zI (cap : Int)]) := by rw [hw_9]; exact zput_at
  refine zx_iv (b := a) (As := [zI ((cap + 1 : Nat) : Int)]) (st := []) (v := (some (zR a_4))) (w1 := w_8) dJx4a65c_grow_d5877_7 zc_Jx4a65c_69 ha rfl rfl rfl (Nat.le_of_ble_eq_true rfl) rfl (by rw [hw_9]; (try rw [ha_5]); rw [hw_3]; exact (c_growC1 ha hh hn h2 hc hel r1 r2)) ?_
  refine zx_st (st1 := [zR a_4]) rfl ?_
  refine zx_areturn dJx4a65c_grow_d5877_10 rfl (Or.inr ⟨_, rfl⟩) ?_
  exact zr_v (by rw [ha_5]) (by rw [hw_9, hw_3, ha_5])
theorem c_addC {y : Nat} {a h ow cap : Nat} {mc : Int} {os : List (Option Nat)} (ha : w.1 a = some (12, ow, [zI mc, zR h, zI (cap : Int)])) (hh : w.1 h = some (127, a, lob os)) (hn : os.length = cap) (h2 : 1 < cap) (hc : cap < 40000) (hel : ∀ o ∈ os, ∃ y, o = some y ∧ lEl w y) (r1 : w.2.1 + 1 ≤ G.2.2.2.2.1) (r2 : w.2.2 + (cap + cap / 2) ≤ G.2.2.2.2.2) (hy : lEl w y) (hya : y ≠ a) : zM G zm_Jx4a65c_add_72be8 (d + 4) [zR a, zR y, zR h, zI (cap : Int)] w (zRet none (zput (znew w (127, 0, lob ((os ++ List.replicate (cap / 2) none).set cap (some y))) (cap + cap / 2)) a (12, ow, [zI mc, zR w.2.1, zI ((cap + 1 : Nat) : Int)]))) := by
  refine zx_ent (by decide +kernel) rfl (Nat.le_of_ble_eq_true rfl) ?_
  refine zx_L (L1 := [some (zR a), some (zR y), some (zR h), some (zI (cap : Int))]) rfl ?_
  refine zx_iload_n (i := 3) dJx4a65c_add_72be8_0 rfl rfl ?_
  refine zx_aload_n (i := 2) dJx4a65c_add_72be8_1 rfl rfl ?_
  refine zx_alen (n := cap) dJx4a65c_add_72be8_2 hh (by first | decide | omega) (by rw [lob_len]; exact hn) (by omega) ?_
  refine zx_icmp_ne (tgt := 11) dJx4a65c_add_72be8_3 (by decide) (fun h3 => absurd h3 (not_not_intro rfl)) (fun h3 => ?_)
  refine zx_aload_n (i := 0) dJx4a65c_add_72be8_6 rfl rfl ?_
  refine zx_ok (fun ok_1 => ?_)
  obtain ⟨w_2, hw_3⟩ : ∃ ww, ww = znew w (127, 0, lob (os ++ List.replicate (cap / 2) none)) (cap + cap / 2) := ⟨_, rfl⟩
  obtain ⟨a_4, ha_5⟩ : ∃ ww, ww = w.2.1 := ⟨_, rfl⟩
  have h_6 : w_2.1 a_4 = some (127, 0, lob (os ++ List.replicate (cap / 2) none)) := by rw [hw_3, ha_5]; exact znew_at
  have h_7 : w_2.1 a = some (12, ow, [zI mc, zR h, zI (cap : Int)]) := by
    rw [hw_3]; exact znew_to (ok_1 _ _ ha) ha
  obtain ⟨w_8, hw_9⟩ : ∃ ww, ww = zput w_2 a (12, ow, [zI mc, zR a_4, zI (cap : Int)]) := ⟨_, rfl⟩
  have h_10 : w_8.1 a = some (12, ow, [zI mc, zR a_4, zI (cap : Int)]) := by rw [hw_9]; exact zput_at
  refine zx_iv (b := a) (As := []) (st := []) (v := (some (zR a_4))) (w1 := w_8) dJx4a65c_add_72be8_7 zc_Jx4a65c_129 ha rfl rfl rfl (Nat.le_of_ble_eq_true rfl) rfl (by rw [hw_9]; (try rw [ha_5]); rw [hw_3]; exact (c_growC0 ha hh hn h2 hc hel r1 r2)) ?_
  refine zx_st (st1 := [zR a_4]) rfl ?_
  refine zx_astore_n (i := 2) dJx4a65c_add_72be8_10 rfl (by decide) rfl ?_
  refine zx_L (L1 := [some (zR a), some (zR y), some (zR a_4), some (zI (cap : Int))]) rfl ?_
  refine zx_aload_n (i := 2) dJx4a65c_add_72be8_11 rfl rfl ?_
  refine zx_iload_n (i := 3) dJx4a65c_add_72be8_12 rfl rfl ?_
  refine zx_aload_n (i := 1) dJx4a65c_add_72be8_13 rfl rfl ?_
  have h_11 : w_8.1 a_4 = some (127, 0, lob (os ++ List.replicate (cap / 2) none)) := by
    rw [hw_9]; exact zput_tg h_7 h_6 (by simp)
  have hy_12 : lEl w_2 y := by rw [hw_3]; exact lEl_new hy (fun e => by obtain ⟨cq, oq, fq, rq, y1, -⟩ := hy; exact Nat.ne_of_lt (ok_1 _ _ y1) e)
  have hy_13 : lEl w_8 y := by rw [hw_9]; exact lEl_put hy_12 hya
  obtain ⟨cq, oq, fq, rq, y1, y2, y3, y4⟩ := hy_13
  obtain ⟨w_14, hw_15⟩ : ∃ x, x = zput w_8 a_4 (127, 0, lob ((os ++ List.replicate (cap / 2) none).set cap (some y))) := ⟨_, rfl⟩
  refine zx_aastoreO dJx4a65c_add_72be8_14 h_11 y1 y2 y3 y4 (by omega) (by rw [lob_len, List.length_append, List.length_replicate]; omega) ?_
  refine zx_w (w1 := w_14) (by rw [hw_15, Int.toNat_natCast, lob_set]) ?_
  have h_16 : w_14.1 a_4 = some (127, 0, lob ((os ++ List.replicate (cap / 2) none).set cap (some y))) := by rw [hw_15]; exact zput_at
  refine zx_pc (pc1 := 15) rfl ?_
  refine zx_aload_n (i := 0) dJx4a65c_add_72be8_15 rfl rfl ?_
  refine zx_iload_n (i := 3) dJx4a65c_add_72be8_16 rfl rfl ?_
  refine zx_iconst (v := 1) dJx4a65c_add_72be8_17 rfl (z32_lit (by decide) (by decide)) ?_
  refine zx_iadd (v := ((cap + 1 : Nat) : Int)) dJx4a65c_add_72be8_18 (zw_eq (by omega) (by omega) (by omega)) ?_
  have h_17 : w_14.1 a = some (12, ow, [zI mc, zR a_4, zI (cap : Int)]) := by
    rw [hw_15]; exact zput_tg h_11 h_10 (by simp)
  obtain ⟨w_18, hw_19⟩ : ∃ ww, ww = zput w_14 a (12, ow, [zI mc, zR a_4, zI ((cap + 1 : Nat) : Int)]) := ⟨_, rfl⟩
  refine zx_put (w1 := w_18) dJx4a65c_add_72be8_19 zf_Jx4a65c_48 h_17 (Nat.le_of_ble_eq_true rfl) (zFt_int _) (fun h => by cases h) hw_19.symm ?_
  have h_20 : w_18.1 a = some (12, ow, [zI mc, zR a_4, zI ((cap + 1 : Nat) : Int)]) := by rw [hw_19]; exact zput_at
  refine zx_return dJx4a65c_add_72be8_22 rfl ?_
  exact zr_n (by rw [hw_19, hw_15, hw_9, hw_3]; simp only [ha_5]; exact z_addA (Nat.ne_of_lt (ok_1 _ _ ha)))
theorem z_finA {w : zW} {a n : Nat} {x x2 x3 z p q : zO} (h : a ≠ w.2.1) : zput (zput (zput (znew (zput (zput w a x) a x2) z n) a x3) a p) w.2.1 q = zput (znew w q n) a p := by
  unfold zput znew zup
  refine Prod.ext ?_ rfl
  funext b
  by_cases c1 : b = a
  · simp [c1, h]
  · by_cases c2 : b = w.2.1
    · simp [c2, Ne.symm h]
    · simp [c1, c2]
theorem z_finB {w : zW} {a h : Nat} {x x2 x3 y y2 p q : zO} (hne : a ≠ h) (hh : w.1 h = some q) : zput (zput (zput (zput (zput (zput (zput w a x) h y) a x2) h y2) a x3) a p) h q = zput w a p := by
  unfold zput zup
  refine Prod.ext ?_ rfl
  funext b
  by_cases c1 : b = h
  · subst c1; simp [Ne.symm hne, hh]
  · by_cases c2 : b = a
    · subst c2; simp [hne]
    · simp [c1, c2]
theorem z_finC {w : zW} {a h n : Nat} {x x2 x3 y z p q r : zO} (hne : a ≠ h) (hh : w.1 h = some r) (ha : a ≠ w.2.1) (h2 : h ≠ w.2.1) : zput (zput (zput (zput (znew (zput (zput (zput w a x) h y) a x2) z n) a x3) h r) a p) w.2.1 q = zput (znew w q n) a p := by
  unfold zput znew zup
  refine Prod.ext ?_ rfl
  funext b
  by_cases c1 : b = h
  · subst c1; simp [Ne.symm hne, hh, h2]
  · by_cases c2 : b = a
    · subst c2; simp [hne, ha]
    · by_cases c3 : b = w.2.1
      · simp [c3, Ne.symm ha]
      · simp [c1, c2, c3]
theorem c_list_addA {a t ow y : Nat} (ha : w.1 a = some (t, ow, zLs 0 [])) (ht : 160 ≤ t ∧ t < 190) (hy : lEl w y) (r1 : w.2.1 + 1 ≤ G.2.2.2.2.1) (r2 : w.2.2 + 10 ≤ G.2.2.2.2.2) : zM G zm_Jx4a65c_add_9ea2d (d + 3) [zR a, zR y] w (zRet (some (zI 1)) (zput (znew w (199, a, []) 10) a (t, ow, zLs 10 [y]))) := by
  refine zx_ent (by decide +kernel) rfl (Nat.le_of_ble_eq_true rfl) ?_
  refine zx_ok (fun ok0 => ?_)
  have hya : y ≠ a := lEl_ne hy ha (by omega)
  refine zx_lopen0 ha ht (fun mc hmc => ?_)
  obtain ⟨w1, hw1⟩ : ∃ x, x = zput w a (12, ow, [zI mc, zR G.2.1, zI 0]) := ⟨_, rfl⟩
  refine zx_w (w1 := w1) hw1.symm ?_
  have h1a : w1.1 a = some (12, ow, [zI mc, zR G.2.1, zI 0]) := by rw [hw1]; exact zput_at
  refine zx_L (L1 := [some (zR a), some (zR y)]) rfl ?_
  refine zx_aload_n (i := 0) dJx4a65c_add_9ea2d_0 rfl rfl ?_
  refine zx_dup dJx4a65c_add_9ea2d_1 (fun a h => by cases h) ?_
  refine zx_getmc dJx4a65c_add_9ea2d_2 zg_mc h1a rfl ?_
  refine zx_iconst (v := 1) dJx4a65c_add_9ea2d_5 rfl (z32_lit (by decide) (by decide)) ?_
  refine zx_iadd (v := zw (mc + 1)) dJx4a65c_add_9ea2d_6 rfl ?_
  refine zx_putmc dJx4a65c_add_9ea2d_7 zg_mc h1a (Nat.le_of_ble_eq_true rfl) ?_
  obtain ⟨w_1, hw_2⟩ : ∃ x, x = zput w1 a (12, ow, [zI (zw (mc + 1)), zR G.2.1, zI 0]) := ⟨_, rfl⟩
  refine zx_w (w1 := w_1) hw_2.symm ?_
  have h_3 : w_1.1 a = some (12, ow, [zI (zw (mc + 1)), zR G.2.1, zI 0]) := by rw [hw_2]; exact zput_at
  have hyw : lEl w_1 y := by rw [hw_2, hw1]; exact lEl_put (lEl_put hy hya) hya
  have rr1 : w_1.2.1 + 1 ≤ G.2.2.2.2.1 := by rw [hw_2, hw1]; exact r1
  have rr2 : w_1.2.2 + 10 ≤ G.2.2.2.2.2 := by rw [hw_2, hw1]; exact r2
  refine zx_aload_n (i := 0) dJx4a65c_add_9ea2d_10 rfl rfl ?_
  refine zx_aload_n (i := 1) dJx4a65c_add_9ea2d_11 rfl rfl ?_
  refine zx_aload_n (i := 0) dJx4a65c_add_9ea2d_12 rfl rfl ?_
  refine zx_getfield dJx4a65c_add_9ea2d_13 zf_Jx4a65c_9 h_3 rfl ?_
  refine zx_aload_n (i := 0) dJx4a65c_add_9ea2d_16 rfl rfl ?_
  refine zx_pc (pc1 := 17) rfl ?_
  refine zx_getfield dJx4a65c_add_9ea2d_17 zf_Jx4a65c_48 h_3 rfl ?_
  refine zx_ok (fun ok_4 => ?_)
  obtain ⟨w_5, hw_6⟩ : ∃ ww, ww = znew w_1 (127, 0, ((List.replicate 10 zN).set 0 (zR y))) 10 := ⟨_, rfl⟩
  obtain ⟨a_7, ha_8⟩ : ∃ ww, ww = w_1.2.1 := ⟨_, rfl⟩
  have h_9 : w_5.1 a_7 = some (127, 0, ((List.replicate 10 zN).set 0 (zR y))) := by rw [hw_6, ha_8]; exact znew_at
  have h_10 : w_5.1 a = some (12, ow, [zI (zw (mc + 1)), zR G.2.1, zI 0]) := by
    rw [hw_6]; exact znew_to (ok_4 _ _ h_3) h_3
  obtain ⟨w_11, hw_12⟩ : ∃ ww, ww = zput w_5 a (12, ow, [zI (zw (mc + 1)), zR a_7, zI 1]) := ⟨_, rfl⟩
  have h_13 : w_11.1 a = some (12, ow, [zI (zw (mc + 1)), zR a_7, zI 1]) := by rw [hw_12]; exact zput_at
  refine zx_iv (b := a) (As := [zR y, zR G.2.1, zI 0]) (st := []) (v := none) (w1 := w_11) dJx4a65c_add_9ea2d_20 zc_Jx4a65c_131 h_3 rfl rfl rfl (Nat.le_of_ble_eq_true rfl) rfl (by rw [hw_12]; (try rw [ha_8]); rw [hw_6]; exact (c_addA h_3 rr1 rr2 hyw hya)) ?_
  refine zx_st (st1 := []) rfl ?_
  refine zx_iconst (v := 1) dJx4a65c_add_9ea2d_23 rfl (z32_lit (by decide) (by decide)) ?_
  have h_14 : w_11.1 a_7 = some (127, 0, ((List.replicate 10 zN).set 0 (zR y))) := by
    rw [hw_12]; exact zput_tg h_10 h_9 (by simp)
  have hk3 : a_7 = w.2.1 := by rw [ha_8, hw_2, hw1]; rfl
  have hn5 : w_11.1 a_7 = some (127, 0, lob ((List.replicate 10 none).set 0 (some y))) := by rw [← lob_set, ← lob_rep]; exact h_14
  refine zx_lclose (t := t) (ow' := ow) (ys := [y]) (cap := 10) h_13 hn5 rfl rfl (Nat.le_of_ble_eq_true rfl) (by decide) (by decide) ht ?_
  refine zx_zret dJx4a65c_add_9ea2d_24 rfl (by first | exact Or.inl rfl | exact Or.inr rfl | exact zB_or | assumption) ?_
  exact zr_v rfl (by rw [hk3, hw_12, hw_6, hw_2, hw1]; exact z_finA (Nat.ne_of_lt (ok0 _ _ ha)))
theorem z_setB {os : List (Option Nat)} {ys : List Nat} {y : Nat} (g2 : os.take ys.length = ys.map some) (hl : ys.length < os.length) : (os.set ys.length (some y)).take (ys ++ [y]).length = (ys ++ [y]).map some := by
  apply List.ext_getElem?
  intro i
  rw [List.map_append, List.length_append, List.length_singleton]
  by_cases c1 : i < ys.length
  · rw [List.getElem?_take_of_lt (by omega), List.getElem?_set_ne (by omega), List.getElem?_append_left (by simpa using c1), ← g2, List.getElem?_take_of_lt c1]
  · by_cases c2 : i = ys.length
    · subst c2
      rw [List.getElem?_take_of_lt (by omega), List.getElem?_set_self hl, List.getElem?_append_right (by simp)]
      simp
    · rw [List.getElem?_eq_none (by rw [List.length_take, List.length_set]; omega), List.getElem?_eq_none (by simp; omega)]
theorem z_setC {os : List (Option Nat)} {ys : List Nat} {y k : Nat} (h : os = ys.map some) (hk : 0 < k) : ((os ++ List.replicate k none).set ys.length (some y)).take (ys ++ [y]).length = (ys ++ [y]).map some := by
  refine z_setB ?_ ?_
  · rw [h, List.take_append_of_le_length (by simp), List.take_of_length_le (by simp)]
  · rw [h]; simp; exact hk
theorem c_list_addB {a t ow cap y : Nat} {ys : List Nat} (ha : w.1 a = some (t, ow, zLs cap ys)) (ht : 160 ≤ t ∧ t < 190) (hne0 : ys ≠ []) (hcp : ys.length < cap) (hy : lEl w y) : zM G zm_Jx4a65c_add_9ea2d (d + 1) [zR a, zR y] w (zRet (some (zI 1)) (zput w a (t, ow, zLs cap (ys ++ [y])))) := by
  refine zx_ent (by decide +kernel) rfl (Nat.le_of_ble_eq_true rfl) ?_
  refine zx_ok (fun ok0 => ?_)
  have hya : y ≠ a := lEl_ne hy ha (by omega)
  refine zx_lopen ha ht hne0 (fun h mc os g1 g2 g3 g4 g5 g6 g7 g8 => ?_)
  obtain ⟨w1, hw1⟩ : ∃ x, x = zput (zput w a (12, ow, [zI mc, zR h, zI (ys.length : Int)])) h (127, a, lob os) := ⟨_, rfl⟩
  refine zx_w (w1 := w1) hw1.symm ?_
  have h1a : w1.1 a = some (12, ow, [zI mc, zR h, zI (ys.length : Int)]) := by rw [hw1]; exact zput_to g6 zput_at
  have h1h : w1.1 h = some (127, a, lob os) := by rw [hw1]; exact zput_at
  have hyh : y ≠ h := lEl_ne hy g7 (by omega)
  refine zx_L (L1 := [some (zR a), some (zR y)]) rfl ?_
  refine zx_aload_n (i := 0) dJx4a65c_add_9ea2d_0 rfl rfl ?_
  refine zx_dup dJx4a65c_add_9ea2d_1 (fun a h => by cases h) ?_
  refine zx_getmc dJx4a65c_add_9ea2d_2 zg_mc h1a rfl ?_
  refine zx_iconst (v := 1) dJx4a65c_add_9ea2d_5 rfl (z32_lit (by decide) (by decide)) ?_
  refine zx_iadd (v := zw (mc + 1)) dJx4a65c_add_9ea2d_6 rfl ?_
  refine zx_putmc dJx4a65c_add_9ea2d_7 zg_mc h1a (Nat.le_of_ble_eq_true rfl) ?_
  obtain ⟨w_1, hw_2⟩ : ∃ x, x = zput w1 a (12, ow, [zI (zw (mc + 1)), zR h, zI (ys.length : Int)]) := ⟨_, rfl⟩
  refine zx_w (w1 := w_1) hw_2.symm ?_
  have h_3 : w_1.1 a = some (12, ow, [zI (zw (mc + 1)), zR h, zI (ys.length : Int)]) := by rw [hw_2]; exact zput_at
  have hyw : lEl w_1 y := by rw [hw_2, hw1]; exact lEl_put (lEl_put (lEl_put hy hya) hyh) hya
  refine zx_aload_n (i := 0) dJx4a65c_add_9ea2d_10 rfl rfl ?_
  refine zx_aload_n (i := 1) dJx4a65c_add_9ea2d_11 rfl rfl ?_
  refine zx_aload_n (i := 0) dJx4a65c_add_9ea2d_12 rfl rfl ?_
  refine zx_getfield dJx4a65c_add_9ea2d_13 zf_Jx4a65c_9 h_3 rfl ?_
  refine zx_aload_n (i := 0) dJx4a65c_add_9ea2d_16 rfl rfl ?_
  refine zx_pc (pc1 := 17) rfl ?_
  refine zx_getfield dJx4a65c_add_9ea2d_17 zf_Jx4a65c_48 h_3 rfl ?_
  have h_4 : w_1.1 h = some (127, a, lob os) := by
    rw [hw_2]; exact zput_to (by first | assumption | exact Ne.symm (by assumption)) h1h
  obtain ⟨w_5, hw_6⟩ : ∃ ww, ww = zput w_1 h (127, a, lob (os.set ys.length (some y))) := ⟨_, rfl⟩
  have h_7 : w_5.1 h = some (127, a, lob (os.set ys.length (some y))) := by rw [hw_6]; exact zput_at
  have h_8 : w_5.1 a = some (12, ow, [zI (zw (mc + 1)), zR h, zI (ys.length : Int)]) := by
    rw [hw_6]; exact zput_to (by first | assumption | exact Ne.symm (by assumption)) h_3
  obtain ⟨w_9, hw_10⟩ : ∃ ww, ww = zput w_5 a (12, ow, [zI (zw (mc + 1)), zR h, zI ((ys.length + 1 : Nat) : Int)]) := ⟨_, rfl⟩
  have h_11 : w_9.1 a = some (12, ow, [zI (zw (mc + 1)), zR h, zI ((ys.length + 1 : Nat) : Int)]) := by rw [hw_10]; exact zput_at
  refine zx_iv (b := a) (As := [zR y, zR h, zI (ys.length : Int)]) (st := []) (v := none) (w1 := w_9) dJx4a65c_add_9ea2d_20 zc_Jx4a65c_131 h_3 rfl rfl rfl (Nat.le_of_ble_eq_true rfl) rfl (by rw [hw_10]; rw [hw_6]; exact (c_addB (n := ys.length) h_3 h_4 (by omega) (by omega) hyw)) ?_
  refine zx_st (st1 := []) rfl ?_
  refine zx_iconst (v := 1) dJx4a65c_add_9ea2d_23 rfl (z32_lit (by decide) (by decide)) ?_
  have h_12 : w_9.1 h = some (127, a, lob (os.set ys.length (some y))) := by
    rw [hw_10]; exact zput_to (by first | assumption | exact Ne.symm (by assumption)) h_7
  refine zx_lclose (t := t) (ow' := ow) (ys := ys ++ [y]) (cap := cap) (by rw [List.length_append, List.length_singleton]; exact h_11) h_12 (by rw [List.length_set]; exact g1) (z_setB g2 (by omega)) (by simp; omega) g4 g5 ht ?_
  refine zx_zret dJx4a65c_add_9ea2d_24 rfl (by first | exact Or.inl rfl | exact Or.inr rfl | exact zB_or | assumption) ?_
  exact zr_v rfl (by rw [hw_10, hw_6, hw_2, hw1]; exact z_finB g6 g7)
theorem c_list_addC {a t ow y : Nat} {ys : List Nat} (ha : w.1 a = some (t, ow, zLs ys.length ys)) (ht : 160 ≤ t ∧ t < 190) (hne0 : ys ≠ []) (hcp : ys.length < 20000) (hy : lEl w y) (hys : ∀ z ∈ ys, lEl w z) (r1 : w.2.1 + 1 ≤ G.2.2.2.2.1) (r2 : w.2.2 + (ys.length + ys.length / 2) ≤ G.2.2.2.2.2) : zM G zm_Jx4a65c_add_9ea2d (d + 5) [zR a, zR y] w (zRet (some (zI 1)) (zput (znew w (199, a, []) (ys.length + ys.length / 2)) a (t, ow, zLs (ys.length + ys.length / 2) (ys ++ [y])))) := by
  refine zx_ent (by decide +kernel) rfl (Nat.le_of_ble_eq_true rfl) ?_
  refine zx_ok (fun ok0 => ?_)
  have hya : y ≠ a := lEl_ne hy ha (by omega)
  refine zx_lopen ha ht hne0 (fun h mc os g1 g2 g3 g4 g5 g6 g7 g8 => ?_)
  obtain ⟨w1, hw1⟩ : ∃ x, x = zput (zput w a (12, ow, [zI mc, zR h, zI (ys.length : Int)])) h (127, a, lob os) := ⟨_, rfl⟩
  refine zx_w (w1 := w1) hw1.symm ?_
  have h1a : w1.1 a = some (12, ow, [zI mc, zR h, zI (ys.length : Int)]) := by rw [hw1]; exact zput_to g6 zput_at
  have h1h : w1.1 h = some (127, a, lob os) := by rw [hw1]; exact zput_at
  have hyh : y ≠ h := lEl_ne hy g7 (by omega)
  refine zx_L (L1 := [some (zR a), some (zR y)]) rfl ?_
  have hos : os = ys.map some := by rw [← g2, List.take_of_length_le (by omega)]
  refine zx_aload_n (i := 0) dJx4a65c_add_9ea2d_0 rfl rfl ?_
  refine zx_dup dJx4a65c_add_9ea2d_1 (fun a h => by cases h) ?_
  refine zx_getmc dJx4a65c_add_9ea2d_2 zg_mc h1a rfl ?_
  refine zx_iconst (v := 1) dJx4a65c_add_9ea2d_5 rfl (z32_lit (by decide) (by decide)) ?_
  refine zx_iadd (v := zw (mc + 1)) dJx4a65c_add_9ea2d_6 rfl ?_
  refine zx_putmc dJx4a65c_add_9ea2d_7 zg_mc h1a (Nat.le_of_ble_eq_true rfl) ?_
  obtain ⟨w_1, hw_2⟩ : ∃ x, x = zput w1 a (12, ow, [zI (zw (mc + 1)), zR h, zI (ys.length : Int)]) := ⟨_, rfl⟩
  refine zx_w (w1 := w_1) hw_2.symm ?_
  have h_3 : w_1.1 a = some (12, ow, [zI (zw (mc + 1)), zR h, zI (ys.length : Int)]) := by rw [hw_2]; exact zput_at
  have hyw : lEl w_1 y := by rw [hw_2, hw1]; exact lEl_put (lEl_put (lEl_put hy hya) hyh) hya
  have hel : ∀ o ∈ os, ∃ z, o = some z ∧ lEl w_1 z := by
    intro o ho
    rw [hos] at ho
    obtain ⟨z, hz, rfl⟩ := List.mem_map.mp ho
    have q := hys z hz
    refine ⟨z, rfl, ?_⟩
    rw [hw_2, hw1]
    exact lEl_put (lEl_put (lEl_put q (lEl_ne q ha (by omega))) (lEl_ne q g7 (by omega))) (lEl_ne q ha (by omega))
  have rr1 : w_1.2.1 + 1 ≤ G.2.2.2.2.1 := by rw [hw_2, hw1]; exact r1
  have rr2 : w_1.2.2 + (ys.length + ys.length / 2) ≤ G.2.2.2.2.2 := by rw [hw_2, hw1]; exact r2
  refine zx_aload_n (i := 0) dJx4a65c_add_9ea2d_10 rfl rfl ?_
  refine zx_aload_n (i := 1) dJx4a65c_add_9ea2d_11 rfl rfl ?_
  refine zx_aload_n (i := 0) dJx4a65c_add_9ea2d_12 rfl rfl ?_
  refine zx_getfield dJx4a65c_add_9ea2d_13 zf_Jx4a65c_9 h_3 rfl ?_
  refine zx_aload_n (i := 0) dJx4a65c_add_9ea2d_16 rfl rfl ?_
  refine zx_pc (pc1 := 17) rfl ?_
  refine zx_getfield dJx4a65c_add_9ea2d_17 zf_Jx4a65c_48 h_3 rfl ?_
  have h_4 : w_1.1 h = some (127, a, lob os) := by
    rw [hw_2]; exact zput_to (by first | assumption | exact Ne.symm (by assumption)) h1h
  refine zx_ok (fun ok_5 => ?_)
  obtain ⟨w_6, hw_7⟩ : ∃ ww, ww = znew w_1 (127, 0, lob ((os ++ List.replicate (ys.length / 2) none).set ys.length (some y))) (ys.length + ys.length / 2) := ⟨_, rfl⟩
  obtain ⟨a_8, ha_9⟩ : ∃ ww, ww = w_1.2.1 := ⟨_, rfl⟩
  have h_10 : w_6.1 a_8 = some (127, 0, lob ((os ++ List.replicate (ys.length / 2) none).set ys.length (some y))) := by rw [hw_7, ha_9]; exact znew_at
  have h_11 : w_6.1 a = some (12, ow, [zI (zw (mc + 1)), zR h, zI (ys.length : Int)]) := by
    rw [hw_7]; exact znew_to (ok_5 _ _ h_3) h_3
  obtain ⟨w_12, hw_13⟩ : ∃ ww, ww = zput w_6 a (12, ow, [zI (zw (mc + 1)), zR a_8, zI ((ys.length + 1 : Nat) : Int)]) := ⟨_, rfl⟩
  have h_14 : w_12.1 a = some (12, ow, [zI (zw (mc + 1)), zR a_8, zI ((ys.length + 1 : Nat) : Int)]) := by rw [hw_13]; exact zput_at
  refine zx_iv (b := a) (As := [zR y, zR h, zI (ys.length : Int)]) (st := []) (v := none) (w1 := w_12) dJx4a65c_add_9ea2d_20 zc_Jx4a65c_131 h_3 rfl rfl rfl (Nat.le_of_ble_eq_true rfl) rfl (by rw [hw_13]; (try rw [ha_9]); rw [hw_7]; exact (c_addC h_3 h_4 g1 g4 (by omega) hel rr1 rr2 hyw hya)) ?_
  refine zx_st (st1 := []) rfl ?_
  refine zx_iconst (v := 1) dJx4a65c_add_9ea2d_23 rfl (z32_lit (by decide) (by decide)) ?_
  have h_15 : w_12.1 a_8 = some (127, 0, lob ((os ++ List.replicate (ys.length / 2) none).set ys.length (some y))) := by
    rw [hw_13]; exact zput_tg h_11 h_10 (by simp)
  have h_16 : w_6.1 h = some (127, a, lob os) := by
    rw [hw_7]; exact znew_to (ok_5 _ _ h_4) h_4
  have h_17 : w_12.1 h = some (127, a, lob os) := by
    rw [hw_13]; exact zput_to (by first | assumption | exact Ne.symm (by assumption)) h_16
  have hk1 : a ≠ w.2.1 := Nat.ne_of_lt (ok0 _ _ ha)
  have hk2 : h ≠ w.2.1 := Nat.ne_of_lt (ok0 _ _ g7)
  have hk3 : a_8 = w.2.1 := by rw [ha_9, hw_2, hw1]; rfl
  refine zx_hide a h_17 (by simp) ?_
  refine zx_lclose (t := t) (ow' := ow) (ys := ys ++ [y]) (cap := ys.length + ys.length / 2) (by rw [List.length_append, List.length_singleton]; exact zput_to g6 h_14) (zput_to (by rw [hk3]; exact Ne.symm hk2) h_15) (by simp [g1]) (z_setC hos (by omega)) (by simp; omega) (by omega) (by omega) ht ?_
  refine zx_zret dJx4a65c_add_9ea2d_24 rfl (by first | exact Or.inl rfl | exact Or.inr rfl | exact zB_or | assumption) ?_
  exact zr_v rfl (by rw [hk3, hw_13, hw_7, hw_2, hw1]; exact z_finC g6 g7 hk1 hk2)
theorem c_list_add {a t ow cap y : Nat} {ys : List Nat} (ha : w.1 a = some (t, ow, zLs cap ys)) (ht : 160 ≤ t ∧ t < 190) (h0 : ys = [] → cap = 0) (hcp : ys.length ≤ cap) (hl : ys.length < 20000) (hy : lEl w y) (hys : ∀ z ∈ ys, lEl w z) (hrm : ys ≠ [] ∧ ys.length < cap ∨ w.2.1 + 1 ≤ G.2.2.2.2.1 ∧ w.2.2 + (10 + cap + cap / 2) ≤ G.2.2.2.2.2) : zM G zm_Jx4a65c_add_9ea2d (d + 5) [zR a, zR y] w (zRet (some (zI 1)) (lAw w a t ow cap ys y)) := by
  unfold lAw
  by_cases c1 : ys = []
  · have e := h0 c1
    subst e; subst c1
    rw [if_pos rfl]
    obtain ⟨x, -⟩ | ⟨r1, r2⟩ := hrm
    · exact absurd rfl x
    · exact c_list_addA (d := d + 2) ha ht hy r1 (by omega)
  · rw [if_neg c1]
    by_cases c2 : ys.length < cap
    · rw [if_pos c2]
      exact c_list_addB (d := d + 4) ha ht c1 c2 hy
    · rw [if_neg c2]
      have e : cap = ys.length := by omega
      subst e
      obtain ⟨-, x⟩ | ⟨r1, r2⟩ := hrm
      · exact absurd x c2
      · exact c_list_addC ha ht c1 hl hy hys r1 (by omega)
end CLIST
