/-! Own rows: TERMS. Walked by program (wip/p37/m_terms.py). -/
theorem c_X9_addS {G : zG} {d : Nat} {w : zW} {a t ow c cap : Nat} {rows : List (List Int)} (ha : w.1 a = some (t, ow, tTb c cap rows)) (ht : 130 ≤ t ∧ t < 160) (hr : tOk c rows) (hc : rows.length * c + c ≤ cap ∧ cap < 1000000) (f s u : Int) : zM G zm_X9_add (d + 2) [zR a, zI f, zI s, zI u] w (zRet (some (zI (rows.length : Int))) (zput w a (t, ow, tTb c cap (rows ++ [trow c f s u])))) := by
  have h := c_X9_add (G := G) (d := d) ha ht hr (by omega) (Or.inl hc.1) f s u
  unfold tAw at h
  rw [if_pos hc.1] at h
  exact h
theorem zx_las {G : zG} {M : zMd} {d : Nat} {av : List zV} {w0 : zW} {Q : zQ} {pc : Nat} {L : List (Option zV)} {st : List zV} {w : zW} {a t ow : Nat} {i x : Int} {fs : List zV} {w1 : zW} (hd : decode M.2.1 pc = .ok (.lastore, 1)) (ha : w.1 a = some (t, ow, fs)) (ht : 120 ≤ t ∧ t < 125) (h0 : 0 ≤ i) (hl : i.toNat < fs.length) (hw : zput w a (t, ow, fs.set i.toNat (zJ x)) = w1) (k : zX G M d av w0 Q (pc + 1) L st w1) : zX G M d av w0 Q pc L (zJ x :: zI i :: zR a :: st) w := by
  subst hw; exact zx_lastore hd ha ht h0 hl k
theorem zB_nz {p : Prop} [Decidable p] : ¬ zB p = 0 ↔ p := by unfold zB; split <;> simp_all
/-- the state of the terms: types, constructors, numbered, chains, sizes -/
def tmW (w : zW) (t tc tn th tz : Nat) (ty : Int) (C N H : List (List Int)) (S : List Int) : Prop :=
  w.1 t = some (10, 0, [zI ty, zR tc, zR tn, zR th, zR tz]) ∧ (w.1 tc = some (130, t, tTb 3 30 C) ∧ tOk 3 C) ∧ (w.1 tn = some (131, t, tTb 4 800 N) ∧ tOk 4 N) ∧ (w.1 th = some (132, t, tTb 1 64 H) ∧ tOk 1 H) ∧ w.1 tz = some (120, t, S.map zJ) ∧ S.length = 200
def tmPc (C : List (List Int)) (c : Int) : Int := if tg C c 1 = -1 then 0 else if tg C c 2 = -1 then 1 else 2
def tmCh (c f s : Int) : Int := zand (zw (zw (zw (31 * c) + zw (7 * f)) + s)) 63
def tmSz (S : List Int) (x : Int) : Int := if 0 ≤ x then S.getD x.toNat 0 else 0
def tmPt (N : List (List Int)) (x i : Int) : Int := tg N x (if i = 0 then 1 else 2)
def tmTy (C : List (List Int)) (c i : Int) : Int := tg C c (if i = 0 then 1 else 2)
def tmF (N : List (List Int)) (c f s : Int) : Nat → Int → Int
  | 0, _ => -1
  | k + 1, x => if x = -1 then -1 else if tg N x 0 = c ∧ tg N x 1 = f ∧ tg N x 2 = s then x else tmF N c f s k (tg N x 3)
def tmFind (N H : List (List Int)) (c f s : Int) : Int := tmF N c f s 200 (tg H (tmCh c f s) 0)
abbrev tmFp (C N : List (List Int)) (c i x : Int) : Prop := if tmTy C c i = -1 then x = 0 else tg C (tg N x 0) 0 = tmTy C c i
section CTERMS
variable {G : zG} {d : Nat} {w : zW} {t tc tn th tz : Nat} {ty : Int} {C N H : List (List Int)} {S : List Int}
theorem c_X10_typeCount (hT : tmW w t tc tn th tz ty C N H S)  : zM G zm_X10_typeCount d [zR t] w (zRet (some (zI (ty))) w) := by
  refine zx_ent (by decide +kernel) rfl (Nat.le_of_ble_eq_true rfl) ?_
  refine zx_L (L1 := [some (zR t)]) rfl ?_
  obtain ⟨h0, ⟨hc, okC⟩, ⟨hn, okN⟩, ⟨hh, okH⟩, hz, hS⟩ := hT
  refine zx_aload_n (i := 0) dX10_typeCount_0 rfl rfl ?_
  refine zx_getfield dX10_typeCount_1 zf_X10_9 h0 rfl ?_
  refine zx_iret dX10_typeCount_4 rfl ?_
  exact zr_v rfl rfl
theorem c_X10_constructorCount (hT : tmW w t tc tn th tz ty C N H S)  : zM G zm_X10_constructorCount (d + 1) [zR t] w (zRet (some (zI ((C.length : Int)))) w) := by
  refine zx_ent (by decide +kernel) rfl (Nat.le_of_ble_eq_true rfl) ?_
  refine zx_L (L1 := [some (zR t)]) rfl ?_
  obtain ⟨h0, ⟨hc, okC⟩, ⟨hn, okN⟩, ⟨hh, okH⟩, hz, hS⟩ := hT
  refine zx_aload_n (i := 0) dX10_constructorCount_0 rfl rfl ?_
  refine zx_getfield dX10_constructorCount_1 zf_X10_20 h0 rfl ?_
  refine zx_iv (b := tc) (As := []) (st := []) (v := (some (zI (C.length : Int)))) (w1 := w) dX10_constructorCount_4 zc_X10_38 hc (z_cls9 (by decide)) rfl rfl (Nat.le_of_ble_eq_true rfl) rfl (c_X9_count hc (by decide) okC) ?_
  refine zx_st (st1 := [zI (C.length : Int)]) rfl ?_
  refine zx_iret dX10_constructorCount_7 rfl ?_
  exact zr_v rfl rfl
theorem c_X10_termCount (hT : tmW w t tc tn th tz ty C N H S)  : zM G zm_X10_termCount (d + 1) [zR t] w (zRet (some (zI ((N.length : Int)))) w) := by
  refine zx_ent (by decide +kernel) rfl (Nat.le_of_ble_eq_true rfl) ?_
  refine zx_L (L1 := [some (zR t)]) rfl ?_
  obtain ⟨h0, ⟨hc, okC⟩, ⟨hn, okN⟩, ⟨hh, okH⟩, hz, hS⟩ := hT
  refine zx_aload_n (i := 0) dX10_termCount_0 rfl rfl ?_
  refine zx_getfield dX10_termCount_1 zf_X10_24 h0 rfl ?_
  refine zx_iv (b := tn) (As := []) (st := []) (v := (some (zI (N.length : Int)))) (w1 := w) dX10_termCount_4 zc_X10_38 hn (z_cls9 (by decide)) rfl rfl (Nat.le_of_ble_eq_true rfl) rfl (c_X9_count hn (by decide) okN) ?_
  refine zx_st (st1 := [zI (N.length : Int)]) rfl ?_
  refine zx_iret dX10_termCount_7 rfl ?_
  exact zr_v rfl rfl
theorem c_X10_hasType (hT : tmW w t tc tn th tz ty C N H S)  (i : Int) : zM G zm_X10_hasType d [zR t, zI i] w (zRet (some (zI (zB (0 ≤ i ∧ i < ty)))) w) := by
  refine zx_ent (by decide +kernel) rfl (Nat.le_of_ble_eq_true rfl) ?_
  refine zx_L (L1 := [some (zR t), some (zI i)]) rfl ?_
  obtain ⟨h0, ⟨hc, okC⟩, ⟨hn, okN⟩, ⟨hh, okH⟩, hz, hS⟩ := hT
  refine zx_iload_n (i := 1) dX10_hasType_0 rfl rfl ?_
  refine zx_if_lt (tgt := 16) dX10_hasType_1 (by decide) (fun h1 => ?_) (fun h1 => ?_)
  · refine zx_iconst (v := 0) dX10_hasType_16 rfl (z32_lit (by decide) (by decide)) ?_
    refine zx_zret dX10_hasType_17 rfl (by first | exact Or.inl rfl | exact Or.inr rfl | exact zB_or | assumption) ?_
    exact zr_f (by omega)
  · refine zx_iload_n (i := 1) dX10_hasType_4 rfl rfl ?_
    refine zx_aload_n (i := 0) dX10_hasType_5 rfl rfl ?_
    refine zx_getfield dX10_hasType_6 zf_X10_9 h0 rfl ?_
    refine zx_icmp_ge (tgt := 16) dX10_hasType_9 (by decide) (fun h9 => ?_) (fun h9 => ?_)
    · refine zx_iconst (v := 0) dX10_hasType_16 rfl (z32_lit (by decide) (by decide)) ?_
      refine zx_zret dX10_hasType_17 rfl (by first | exact Or.inl rfl | exact Or.inr rfl | exact zB_or | assumption) ?_
      exact zr_f (by omega)
    · refine zx_iconst (v := 1) dX10_hasType_12 rfl (z32_lit (by decide) (by decide)) ?_
      refine zx_goto (tgt := 17) dX10_hasType_13 (by decide) ?_
      refine zx_zret dX10_hasType_17 rfl (by first | exact Or.inl rfl | exact Or.inr rfl | exact zB_or | assumption) ?_
      exact zr_t (by omega)
theorem c_X10_hasConstructor (hT : tmW w t tc tn th tz ty C N H S)  (i : Int) : zM G zm_X10_hasConstructor (d + 1) [zR t, zI i] w (zRet (some (zI (zB (0 ≤ i ∧ i < (C.length : Int))))) w) := by
  refine zx_ent (by decide +kernel) rfl (Nat.le_of_ble_eq_true rfl) ?_
  refine zx_L (L1 := [some (zR t), some (zI i)]) rfl ?_
  obtain ⟨h0, ⟨hc, okC⟩, ⟨hn, okN⟩, ⟨hh, okH⟩, hz, hS⟩ := hT
  refine zx_iload_n (i := 1) dX10_hasConstructor_0 rfl rfl ?_
  refine zx_if_lt (tgt := 19) dX10_hasConstructor_1 (by decide) (fun h1 => ?_) (fun h1 => ?_)
  · refine zx_iconst (v := 0) dX10_hasConstructor_19 rfl (z32_lit (by decide) (by decide)) ?_
    refine zx_zret dX10_hasConstructor_20 rfl (by first | exact Or.inl rfl | exact Or.inr rfl | exact zB_or | assumption) ?_
    exact zr_f (by omega)
  · refine zx_iload_n (i := 1) dX10_hasConstructor_4 rfl rfl ?_
    refine zx_aload_n (i := 0) dX10_hasConstructor_5 rfl rfl ?_
    refine zx_getfield dX10_hasConstructor_6 zf_X10_20 h0 rfl ?_
    refine zx_iv (b := tc) (As := []) (st := [zI i]) (v := (some (zI (C.length : Int)))) (w1 := w) dX10_hasConstructor_9 zc_X10_38 hc (z_cls9 (by decide)) rfl rfl (Nat.le_of_ble_eq_true rfl) rfl (c_X9_count hc (by decide) okC) ?_
    refine zx_st (st1 := [zI (C.length : Int), zI i]) rfl ?_
    refine zx_icmp_ge (tgt := 19) dX10_hasConstructor_12 (by decide) (fun h12 => ?_) (fun h12 => ?_)
    · refine zx_iconst (v := 0) dX10_hasConstructor_19 rfl (z32_lit (by decide) (by decide)) ?_
      refine zx_zret dX10_hasConstructor_20 rfl (by first | exact Or.inl rfl | exact Or.inr rfl | exact zB_or | assumption) ?_
      exact zr_f (by omega)
    · refine zx_iconst (v := 1) dX10_hasConstructor_15 rfl (z32_lit (by decide) (by decide)) ?_
      refine zx_goto (tgt := 20) dX10_hasConstructor_16 (by decide) ?_
      refine zx_zret dX10_hasConstructor_20 rfl (by first | exact Or.inl rfl | exact Or.inr rfl | exact zB_or | assumption) ?_
      exact zr_t (by omega)
theorem c_X10_hasTerm (hT : tmW w t tc tn th tz ty C N H S)  (i : Int) : zM G zm_X10_hasTerm (d + 1) [zR t, zI i] w (zRet (some (zI (zB (0 ≤ i ∧ i < (N.length : Int))))) w) := by
  refine zx_ent (by decide +kernel) rfl (Nat.le_of_ble_eq_true rfl) ?_
  refine zx_L (L1 := [some (zR t), some (zI i)]) rfl ?_
  obtain ⟨h0, ⟨hc, okC⟩, ⟨hn, okN⟩, ⟨hh, okH⟩, hz, hS⟩ := hT
  refine zx_iload_n (i := 1) dX10_hasTerm_0 rfl rfl ?_
  refine zx_if_lt (tgt := 19) dX10_hasTerm_1 (by decide) (fun h1 => ?_) (fun h1 => ?_)
  · refine zx_iconst (v := 0) dX10_hasTerm_19 rfl (z32_lit (by decide) (by decide)) ?_
    refine zx_zret dX10_hasTerm_20 rfl (by first | exact Or.inl rfl | exact Or.inr rfl | exact zB_or | assumption) ?_
    exact zr_f (by omega)
  · refine zx_iload_n (i := 1) dX10_hasTerm_4 rfl rfl ?_
    refine zx_aload_n (i := 0) dX10_hasTerm_5 rfl rfl ?_
    refine zx_getfield dX10_hasTerm_6 zf_X10_24 h0 rfl ?_
    refine zx_iv (b := tn) (As := []) (st := [zI i]) (v := (some (zI (N.length : Int)))) (w1 := w) dX10_hasTerm_9 zc_X10_38 hn (z_cls9 (by decide)) rfl rfl (Nat.le_of_ble_eq_true rfl) rfl (c_X9_count hn (by decide) okN) ?_
    refine zx_st (st1 := [zI (N.length : Int), zI i]) rfl ?_
    refine zx_icmp_ge (tgt := 19) dX10_hasTerm_12 (by decide) (fun h12 => ?_) (fun h12 => ?_)
    · refine zx_iconst (v := 0) dX10_hasTerm_19 rfl (z32_lit (by decide) (by decide)) ?_
      refine zx_zret dX10_hasTerm_20 rfl (by first | exact Or.inl rfl | exact Or.inr rfl | exact zB_or | assumption) ?_
      exact zr_f (by omega)
    · refine zx_iconst (v := 1) dX10_hasTerm_15 rfl (z32_lit (by decide) (by decide)) ?_
      refine zx_goto (tgt := 20) dX10_hasTerm_16 (by decide) ?_
      refine zx_zret dX10_hasTerm_20 rfl (by first | exact Or.inl rfl | exact Or.inr rfl | exact zB_or | assumption) ?_
      exact zr_t (by omega)
theorem c_X10_newType (hT : tmW w t tc tn th tz ty C N H S) (h1 : -1000 < ty) (h2 : ty < 1000)  : zM G zm_X10_newType d [zR t] w (zRet (some (zI ty)) (zput w t (10, 0, [zI (ty + 1), zR tc, zR tn, zR th, zR tz]))) := by
  refine zx_ent (by decide +kernel) rfl (Nat.le_of_ble_eq_true rfl) ?_
  refine zx_L (L1 := [some (zR t)]) rfl ?_
  obtain ⟨h0, ⟨hc, okC⟩, ⟨hn, okN⟩, ⟨hh, okH⟩, hz, hS⟩ := hT
  refine zx_aload_n (i := 0) dX10_newType_0 rfl rfl ?_
  refine zx_dup dX10_newType_1 (fun a h => by cases h) ?_
  refine zx_getfield dX10_newType_2 zf_X10_9 h0 rfl ?_
  refine zx_iconst (v := 1) dX10_newType_5 rfl (z32_lit (by decide) (by decide)) ?_
  refine zx_iadd (v := ty + 1) dX10_newType_6 (zw_id ⟨by omega, by omega⟩) ?_
  obtain ⟨w_1, hw_2⟩ : ∃ ww, ww = zput w t (10, 0, [zI (ty + 1), zR tc, zR tn, zR th, zR tz]) := ⟨_, rfl⟩
  refine zx_put (w1 := w_1) dX10_newType_7 zf_X10_9 h0 (Nat.le_of_ble_eq_true rfl) (zFt_int _) (fun h => by cases h) hw_2.symm ?_
  have h_3 : w_1.1 t = some (10, 0, [zI (ty + 1), zR tc, zR tn, zR th, zR tz]) := by rw [hw_2]; exact zput_at
  refine zx_aload_n (i := 0) dX10_newType_10 rfl rfl ?_
  refine zx_getfield dX10_newType_11 zf_X10_9 h_3 rfl ?_
  refine zx_iconst (v := 1) dX10_newType_14 rfl (z32_lit (by decide) (by decide)) ?_
  refine zx_isub (v := (ty + 1) - 1) dX10_newType_15 (zw_id ⟨by omega, by omega⟩) ?_
  refine zx_iret dX10_newType_16 rfl ?_
  exact zr_v (by congr 1; omega) (by rw [hw_2])
theorem c_X10_newConstructor (hT : tmW w t tc tn th tz ty C N H S) (h1 : C.length < 10)  (c f s : Int) : zM G zm_X10_newConstructor (d + 3) [zR t, zI c, zI f, zI s] w (zRet (some (zI (C.length : Int))) (zput w tc (130, t, tTb 3 30 (C ++ [trow 3 c f s])))) := by
  refine zx_ent (by decide +kernel) rfl (Nat.le_of_ble_eq_true rfl) ?_
  refine zx_L (L1 := [some (zR t), some (zI c), some (zI f), some (zI s)]) rfl ?_
  obtain ⟨h0, ⟨hc, okC⟩, ⟨hn, okN⟩, ⟨hh, okH⟩, hz, hS⟩ := hT
  refine zx_aload_n (i := 0) dX10_newConstructor_0 rfl rfl ?_
  refine zx_getfield dX10_newConstructor_1 zf_X10_20 h0 rfl ?_
  refine zx_iload_n (i := 1) dX10_newConstructor_4 rfl rfl ?_
  refine zx_iload_n (i := 2) dX10_newConstructor_5 rfl rfl ?_
  refine zx_iload_n (i := 3) dX10_newConstructor_6 rfl rfl ?_
  obtain ⟨w_1, hw_2⟩ : ∃ ww, ww = zput w tc (130, t, tTb 3 30 (C ++ [trow 3 c f s])) := ⟨_, rfl⟩
  have h_3 : w_1.1 tc = some (130, t, tTb 3 30 (C ++ [trow 3 c f s])) := by rw [hw_2]; exact zput_at
  refine zx_iv (b := tc) (As := [zI c, zI f, zI s]) (st := []) (v := (some (zI (C.length : Int)))) (w1 := w_1) dX10_newConstructor_7 zc_X10_30 hc (z_cls9 (by decide)) rfl rfl (Nat.le_of_ble_eq_true rfl) rfl (by rw [hw_2]; exact (c_X9_addS hc (by decide) okC (by omega) c f s)) ?_
  refine zx_st (st1 := [zI (C.length : Int)]) rfl ?_
  refine zx_iret dX10_newConstructor_10 rfl ?_
  exact zr_v rfl (by rw [hw_2])
theorem c_X10_typeOfHead (hT : tmW w t tc tn th tz ty C N H S)  (c : Int) : zM G zm_X10_typeOfHead (d + 1) [zR t, zI c] w (zRet (some (zI (tg C c 0))) w) := by
  refine zx_ent (by decide +kernel) rfl (Nat.le_of_ble_eq_true rfl) ?_
  refine zx_L (L1 := [some (zR t), some (zI c)]) rfl ?_
  obtain ⟨h0, ⟨hc, okC⟩, ⟨hn, okN⟩, ⟨hh, okH⟩, hz, hS⟩ := hT
  refine zx_aload_n (i := 0) dX10_typeOfHead_0 rfl rfl ?_
  refine zx_getfield dX10_typeOfHead_1 zf_X10_20 h0 rfl ?_
  refine zx_iload_n (i := 1) dX10_typeOfHead_4 rfl rfl ?_
  refine zx_iconst (v := 0) dX10_typeOfHead_5 rfl (z32_lit (by decide) (by decide)) ?_
  refine zx_iv (b := tc) (As := [zI c, zI 0]) (st := []) (v := (some (zI (tg C c 0)))) (w1 := w) dX10_typeOfHead_6 zc_X10_42 hc (z_cls9 (by decide)) rfl rfl (Nat.le_of_ble_eq_true rfl) rfl (c_X9_get hc (by decide) okC c 0) ?_
  refine zx_st (st1 := [zI (tg C c 0)]) rfl ?_
  refine zx_iret dX10_typeOfHead_9 rfl ?_
  exact zr_v rfl rfl
theorem c_X10_partType (hT : tmW w t tc tn th tz ty C N H S)  (c i : Int) : zM G zm_X10_partType (d + 1) [zR t, zI c, zI i] w (zRet (some (zI (tmTy C c i))) w) := by
  refine zx_ent (by decide +kernel) rfl (Nat.le_of_ble_eq_true rfl) ?_
  refine zx_L (L1 := [some (zR t), some (zI c), some (zI i)]) rfl ?_
  obtain ⟨h0, ⟨hc, okC⟩, ⟨hn, okN⟩, ⟨hh, okH⟩, hz, hS⟩ := hT
  refine zx_aload_n (i := 0) dX10_partType_0 rfl rfl ?_
  refine zx_getfield dX10_partType_1 zf_X10_20 h0 rfl ?_
  refine zx_iload_n (i := 1) dX10_partType_4 rfl rfl ?_
  refine zx_iload_n (i := 2) dX10_partType_5 rfl rfl ?_
  refine zx_if_ne (tgt := 13) dX10_partType_6 (by decide) (fun h6 => ?_) (fun h6 => ?_)
  · refine zx_iconst (v := 2) dX10_partType_13 rfl (z32_lit (by decide) (by decide)) ?_
    refine zx_iv (b := tc) (As := [zI c, zI 2]) (st := []) (v := (some (zI (tg C c 2)))) (w1 := w) dX10_partType_14 zc_X10_42 hc (z_cls9 (by decide)) rfl rfl (Nat.le_of_ble_eq_true rfl) rfl (c_X9_get hc (by decide) okC c 2) ?_
    refine zx_st (st1 := [zI (tg C c 2)]) rfl ?_
    refine zx_iret dX10_partType_17 rfl ?_
    exact zr_i (by unfold tmTy; first | rw [if_pos (by omega)] | rw [if_neg (by omega)])
  · refine zx_iconst (v := 1) dX10_partType_9 rfl (z32_lit (by decide) (by decide)) ?_
    refine zx_goto (tgt := 14) dX10_partType_10 (by decide) ?_
    refine zx_iv (b := tc) (As := [zI c, zI 1]) (st := []) (v := (some (zI (tg C c 1)))) (w1 := w) dX10_partType_14 zc_X10_42 hc (z_cls9 (by decide)) rfl rfl (Nat.le_of_ble_eq_true rfl) rfl (c_X9_get hc (by decide) okC c 1) ?_
    refine zx_st (st1 := [zI (tg C c 1)]) rfl ?_
    refine zx_iret dX10_partType_17 rfl ?_
    exact zr_i (by unfold tmTy; first | rw [if_pos (by omega)] | rw [if_neg (by omega)])
theorem c_X10_partCount (hT : tmW w t tc tn th tz ty C N H S)  (c : Int) : zM G zm_X10_partCount (d + 1) [zR t, zI c] w (zRet (some (zI (tmPc C c))) w) := by
  refine zx_ent (by decide +kernel) rfl (Nat.le_of_ble_eq_true rfl) ?_
  refine zx_L (L1 := [some (zR t), some (zI c)]) rfl ?_
  obtain ⟨h0, ⟨hc, okC⟩, ⟨hn, okN⟩, ⟨hh, okH⟩, hz, hS⟩ := hT
  refine zx_aload_n (i := 0) dX10_partCount_0 rfl rfl ?_
  refine zx_getfield dX10_partCount_1 zf_X10_20 h0 rfl ?_
  refine zx_iload_n (i := 1) dX10_partCount_4 rfl rfl ?_
  refine zx_iconst (v := 1) dX10_partCount_5 rfl (z32_lit (by decide) (by decide)) ?_
  refine zx_iv (b := tc) (As := [zI c, zI 1]) (st := []) (v := (some (zI (tg C c 1)))) (w1 := w) dX10_partCount_6 zc_X10_42 hc (z_cls9 (by decide)) rfl rfl (Nat.le_of_ble_eq_true rfl) rfl (c_X9_get hc (by decide) okC c 1) ?_
  refine zx_st (st1 := [zI (tg C c 1)]) rfl ?_
  refine zx_iconst (v := -1) dX10_partCount_9 rfl (z32_lit (by decide) (by decide)) ?_
  refine zx_icmp_ne (tgt := 15) dX10_partCount_10 (by decide) (fun h10 => ?_) (fun h10 => ?_)
  · refine zx_aload_n (i := 0) dX10_partCount_15 rfl rfl ?_
    refine zx_getfield dX10_partCount_16 zf_X10_20 h0 rfl ?_
    refine zx_iload_n (i := 1) dX10_partCount_19 rfl rfl ?_
    refine zx_iconst (v := 2) dX10_partCount_20 rfl (z32_lit (by decide) (by decide)) ?_
    refine zx_pc (pc1 := 21) rfl ?_
    refine zx_iv (b := tc) (As := [zI c, zI 2]) (st := []) (v := (some (zI (tg C c 2)))) (w1 := w) dX10_partCount_21 zc_X10_42 hc (z_cls9 (by decide)) rfl rfl (Nat.le_of_ble_eq_true rfl) rfl (c_X9_get hc (by decide) okC c 2) ?_
    refine zx_st (st1 := [zI (tg C c 2)]) rfl ?_
    refine zx_iconst (v := -1) dX10_partCount_24 rfl (z32_lit (by decide) (by decide)) ?_
    refine zx_icmp_ne (tgt := 32) dX10_partCount_25 (by decide) (fun h25 => ?_) (fun h25 => ?_)
    · refine zx_iconst (v := 2) dX10_partCount_32 rfl (z32_lit (by decide) (by decide)) ?_
      refine zx_iret dX10_partCount_33 rfl ?_
      exact zr_i (by unfold tmPc; first | rw [if_pos (by omega)] | rw [if_neg (by omega), if_pos (by omega)] | rw [if_neg (by omega), if_neg (by omega)])
    · refine zx_iconst (v := 1) dX10_partCount_28 rfl (z32_lit (by decide) (by decide)) ?_
      refine zx_goto (tgt := 33) dX10_partCount_29 (by decide) ?_
      refine zx_iret dX10_partCount_33 rfl ?_
      exact zr_i (by unfold tmPc; first | rw [if_pos (by omega)] | rw [if_neg (by omega), if_pos (by omega)] | rw [if_neg (by omega), if_neg (by omega)])
  · refine zx_iconst (v := 0) dX10_partCount_13 rfl (z32_lit (by decide) (by decide)) ?_
    refine zx_iret dX10_partCount_14 rfl ?_
    exact zr_i (by unfold tmPc; first | rw [if_pos (by omega)] | rw [if_neg (by omega), if_pos (by omega)] | rw [if_neg (by omega), if_neg (by omega)])
theorem c_X10_headOf (hT : tmW w t tc tn th tz ty C N H S)  (x : Int) : zM G zm_X10_headOf (d + 1) [zR t, zI x] w (zRet (some (zI (tg N x 0))) w) := by
  refine zx_ent (by decide +kernel) rfl (Nat.le_of_ble_eq_true rfl) ?_
  refine zx_L (L1 := [some (zR t), some (zI x)]) rfl ?_
  obtain ⟨h0, ⟨hc, okC⟩, ⟨hn, okN⟩, ⟨hh, okH⟩, hz, hS⟩ := hT
  refine zx_aload_n (i := 0) dX10_headOf_0 rfl rfl ?_
  refine zx_getfield dX10_headOf_1 zf_X10_24 h0 rfl ?_
  refine zx_iload_n (i := 1) dX10_headOf_4 rfl rfl ?_
  refine zx_iconst (v := 0) dX10_headOf_5 rfl (z32_lit (by decide) (by decide)) ?_
  refine zx_iv (b := tn) (As := [zI x, zI 0]) (st := []) (v := (some (zI (tg N x 0)))) (w1 := w) dX10_headOf_6 zc_X10_42 hn (z_cls9 (by decide)) rfl rfl (Nat.le_of_ble_eq_true rfl) rfl (c_X9_get hn (by decide) okN x 0) ?_
  refine zx_st (st1 := [zI (tg N x 0)]) rfl ?_
  refine zx_iret dX10_headOf_9 rfl ?_
  exact zr_v rfl rfl
theorem c_X10_part (hT : tmW w t tc tn th tz ty C N H S)  (x i : Int) : zM G zm_X10_part (d + 1) [zR t, zI x, zI i] w (zRet (some (zI (tmPt N x i))) w) := by
  refine zx_ent (by decide +kernel) rfl (Nat.le_of_ble_eq_true rfl) ?_
  refine zx_L (L1 := [some (zR t), some (zI x), some (zI i)]) rfl ?_
  obtain ⟨h0, ⟨hc, okC⟩, ⟨hn, okN⟩, ⟨hh, okH⟩, hz, hS⟩ := hT
  refine zx_aload_n (i := 0) dX10_part_0 rfl rfl ?_
  refine zx_getfield dX10_part_1 zf_X10_24 h0 rfl ?_
  refine zx_iload_n (i := 1) dX10_part_4 rfl rfl ?_
  refine zx_iload_n (i := 2) dX10_part_5 rfl rfl ?_
  refine zx_if_ne (tgt := 13) dX10_part_6 (by decide) (fun h6 => ?_) (fun h6 => ?_)
  · refine zx_iconst (v := 2) dX10_part_13 rfl (z32_lit (by decide) (by decide)) ?_
    refine zx_iv (b := tn) (As := [zI x, zI 2]) (st := []) (v := (some (zI (tg N x 2)))) (w1 := w) dX10_part_14 zc_X10_42 hn (z_cls9 (by decide)) rfl rfl (Nat.le_of_ble_eq_true rfl) rfl (c_X9_get hn (by decide) okN x 2) ?_
    refine zx_st (st1 := [zI (tg N x 2)]) rfl ?_
    refine zx_iret dX10_part_17 rfl ?_
    exact zr_i (by unfold tmPt; first | rw [if_pos (by omega)] | rw [if_neg (by omega)])
  · refine zx_iconst (v := 1) dX10_part_9 rfl (z32_lit (by decide) (by decide)) ?_
    refine zx_goto (tgt := 14) dX10_part_10 (by decide) ?_
    refine zx_iv (b := tn) (As := [zI x, zI 1]) (st := []) (v := (some (zI (tg N x 1)))) (w1 := w) dX10_part_14 zc_X10_42 hn (z_cls9 (by decide)) rfl rfl (Nat.le_of_ble_eq_true rfl) rfl (c_X9_get hn (by decide) okN x 1) ?_
    refine zx_st (st1 := [zI (tg N x 1)]) rfl ?_
    refine zx_iret dX10_part_17 rfl ?_
    exact zr_i (by unfold tmPt; first | rw [if_pos (by omega)] | rw [if_neg (by omega)])
theorem c_X10_size (hT : tmW w t tc tn th tz ty C N H S)  (x : Int) : zM G zm_X10_size d [zR t, zI x] w (zRet (some (zJ (tmSz S x))) w) := by
  refine zx_ent (by decide +kernel) rfl (Nat.le_of_ble_eq_true rfl) ?_
  refine zx_L (L1 := [some (zR t), some (zI x)]) rfl ?_
  obtain ⟨h0, ⟨hc, okC⟩, ⟨hn, okN⟩, ⟨hh, okH⟩, hz, hS⟩ := hT
  refine zx_iload_n (i := 1) dX10_size_0 rfl rfl ?_
  refine zx_if_lt (tgt := 22) dX10_size_1 (by decide) (fun h1 => ?_) (fun h1 => ?_)
  · refine zx_lconst (v := 0) dX10_size_22 (by decide +kernel) ⟨by decide, by decide⟩ ?_
    refine zx_lreturn dX10_size_23 rfl ?_
    refine zr_v ?_ rfl
    unfold tmSz
    first | rw [if_neg (by omega)] | (rw [if_pos (by omega), List.getD_eq_getElem?_getD, List.getElem?_eq_none (by omega)]; rfl)
  · refine zx_iload_n (i := 1) dX10_size_4 rfl rfl ?_
    refine zx_aload_n (i := 0) dX10_size_5 rfl rfl ?_
    refine zx_getfield dX10_size_6 zf_X10_34 h0 rfl ?_
    refine zx_alen (n := 200) dX10_size_9 hz (by first | decide | omega) (by rw [List.length_map]; exact hS) (by decide) ?_
    refine zx_icmp_ge (tgt := 22) dX10_size_10 (by decide) (fun h10 => ?_) (fun h10 => ?_)
    · refine zx_lconst (v := 0) dX10_size_22 (by decide +kernel) ⟨by decide, by decide⟩ ?_
      refine zx_lreturn dX10_size_23 rfl ?_
      refine zr_v ?_ rfl
      unfold tmSz
      first | rw [if_neg (by omega)] | (rw [if_pos (by omega), List.getD_eq_getElem?_getD, List.getElem?_eq_none (by omega)]; rfl)
    · refine zx_aload_n (i := 0) dX10_size_13 rfl rfl ?_
      refine zx_getfield dX10_size_14 zf_X10_34 h0 rfl ?_
      refine zx_iload_n (i := 1) dX10_size_17 rfl rfl ?_
      refine zx_laload (v := zJ (S.getD x.toNat 0)) dX10_size_18 hz (by decide) (by omega) (by rw [List.getElem?_map, List.getElem?_eq_getElem (by omega), List.getD_eq_getElem?_getD, List.getElem?_eq_getElem (by omega)]; rfl) ?_
      refine zx_pc (pc1 := 19) rfl ?_
      refine zx_goto (tgt := 23) dX10_size_19 (by decide) ?_
      refine zx_lreturn dX10_size_23 rfl ?_
      refine zr_v ?_ rfl
      unfold tmSz
      first | rw [if_pos (by omega)] | (rw [if_pos (by omega), List.getD_eq_getElem?_getD, List.getElem?_eq_none (by omega)]; rfl) | rw [if_neg (by omega)]
theorem c_X10_hasParts (hT : tmW w t tc tn th tz ty C N H S)  (c f s : Int) : zM G zm_X10_hasParts (d + 2) [zR t, zI c, zI f, zI s] w (zRet (some (zI (zB ((tmPc C c < 1 ∨ (0 ≤ f ∧ f < (N.length : Int))) ∧ (tmPc C c < 2 ∨ (0 ≤ s ∧ s < (N.length : Int))))))) w) := by
  refine zx_ent (by decide +kernel) rfl (Nat.le_of_ble_eq_true rfl) ?_
  refine zx_L (L1 := [some (zR t), some (zI c), some (zI f), some (zI s), none]) rfl ?_
  obtain ⟨h0, ⟨hc, okC⟩, ⟨hn, okN⟩, ⟨hh, okH⟩, hz, hS⟩ := hT
  refine zx_aload_n (i := 0) dX10_hasParts_0 rfl rfl ?_
  refine zx_iload_n (i := 1) dX10_hasParts_1 rfl rfl ?_
  refine zx_iv (b := t) (As := [zI c]) (st := []) (v := (some (zI (tmPc C c)))) (w1 := w) dX10_hasParts_2 zc_X10_46 h0 rfl rfl rfl (Nat.le_of_ble_eq_true rfl) rfl (c_X10_partCount ⟨h0, ⟨hc, okC⟩, ⟨hn, okN⟩, ⟨hh, okH⟩, hz, hS⟩ c) ?_
  refine zx_st (st1 := [zI (tmPc C c)]) rfl ?_
  refine zx_istore (i := 4) dX10_hasParts_5 (by decide) rfl ?_
  refine zx_L (L1 := [some (zR t), some (zI c), some (zI f), some (zI s), some (zI (tmPc C c))]) rfl ?_
  refine zx_iload (i := 4) dX10_hasParts_7 rfl ?_
  refine zx_iconst (v := 1) dX10_hasParts_9 rfl (z32_lit (by decide) (by decide)) ?_
  refine zx_icmp_lt (tgt := 21) dX10_hasParts_10 (by decide) (fun h10 => ?_) (fun h10 => ?_)
  · refine zx_iload (i := 4) dX10_hasParts_21 rfl ?_
    refine zx_iconst (v := 2) dX10_hasParts_23 rfl (z32_lit (by decide) (by decide)) ?_
    refine zx_icmp_lt (tgt := 35) dX10_hasParts_24 (by decide) (fun h24 => ?_) (fun h24 => ?_)
    · refine zx_iconst (v := 1) dX10_hasParts_35 rfl (z32_lit (by decide) (by decide)) ?_
      refine zx_pc (pc1 := 36) rfl ?_
      refine zx_goto (tgt := 40) dX10_hasParts_36 (by decide) ?_
      refine zx_zret dX10_hasParts_40 rfl (by first | exact Or.inl rfl | exact Or.inr rfl | exact zB_or | assumption) ?_
      exact zr_t (by (try simp only [zB_zero, Decidable.not_not] at *); omega)
    · refine zx_aload_n (i := 0) dX10_hasParts_27 rfl rfl ?_
      refine zx_pc (pc1 := 28) rfl ?_
      refine zx_iload_n (i := 3) dX10_hasParts_28 rfl rfl ?_
      refine zx_iv (b := t) (As := [zI s]) (st := []) (v := (some (zI (zB (0 ≤ s ∧ s < (N.length : Int)))))) (w1 := w) dX10_hasParts_29 zc_X10_50 h0 rfl rfl rfl (Nat.le_of_ble_eq_true rfl) rfl (c_X10_hasTerm ⟨h0, ⟨hc, okC⟩, ⟨hn, okN⟩, ⟨hh, okH⟩, hz, hS⟩ s) ?_
      refine zx_st (st1 := [zI (zB (0 ≤ s ∧ s < (N.length : Int)))]) rfl ?_
      refine zx_if_eq (tgt := 39) dX10_hasParts_32 (by decide) (fun h32 => ?_) (fun h32 => ?_)
      · refine zx_iconst (v := 0) dX10_hasParts_39 rfl (z32_lit (by decide) (by decide)) ?_
        refine zx_zret dX10_hasParts_40 rfl (by first | exact Or.inl rfl | exact Or.inr rfl | exact zB_or | assumption) ?_
        exact zr_f (by (try simp only [zB_zero, Decidable.not_not] at *); omega)
      · refine zx_iconst (v := 1) dX10_hasParts_35 rfl (z32_lit (by decide) (by decide)) ?_
        refine zx_goto (tgt := 40) dX10_hasParts_36 (by decide) ?_
        refine zx_zret dX10_hasParts_40 rfl (by first | exact Or.inl rfl | exact Or.inr rfl | exact zB_or | assumption) ?_
        exact zr_t (by (try simp only [zB_zero, Decidable.not_not] at *); omega)
  · refine zx_aload_n (i := 0) dX10_hasParts_13 rfl rfl ?_
    refine zx_iload_n (i := 2) dX10_hasParts_14 rfl rfl ?_
    refine zx_iv (b := t) (As := [zI f]) (st := []) (v := (some (zI (zB (0 ≤ f ∧ f < (N.length : Int)))))) (w1 := w) dX10_hasParts_15 zc_X10_50 h0 rfl rfl rfl (Nat.le_of_ble_eq_true rfl) rfl (c_X10_hasTerm ⟨h0, ⟨hc, okC⟩, ⟨hn, okN⟩, ⟨hh, okH⟩, hz, hS⟩ f) ?_
    refine zx_st (st1 := [zI (zB (0 ≤ f ∧ f < (N.length : Int)))]) rfl ?_
    refine zx_if_eq (tgt := 39) dX10_hasParts_18 (by decide) (fun h18 => ?_) (fun h18 => ?_)
    · refine zx_pc (pc1 := 39) rfl ?_
      refine zx_iconst (v := 0) dX10_hasParts_39 rfl (z32_lit (by decide) (by decide)) ?_
      refine zx_zret dX10_hasParts_40 rfl (by first | exact Or.inl rfl | exact Or.inr rfl | exact zB_or | assumption) ?_
      exact zr_f (by (try simp only [zB_zero, Decidable.not_not] at *); omega)
    · refine zx_pc (pc1 := 21) rfl ?_
      refine zx_iload (i := 4) dX10_hasParts_21 rfl ?_
      refine zx_iconst (v := 2) dX10_hasParts_23 rfl (z32_lit (by decide) (by decide)) ?_
      refine zx_icmp_lt (tgt := 35) dX10_hasParts_24 (by decide) (fun h24 => ?_) (fun h24 => ?_)
      · refine zx_iconst (v := 1) dX10_hasParts_35 rfl (z32_lit (by decide) (by decide)) ?_
        refine zx_goto (tgt := 40) dX10_hasParts_36 (by decide) ?_
        refine zx_zret dX10_hasParts_40 rfl (by first | exact Or.inl rfl | exact Or.inr rfl | exact zB_or | assumption) ?_
        exact zr_t (by (try simp only [zB_zero, Decidable.not_not] at *); omega)
      · refine zx_aload_n (i := 0) dX10_hasParts_27 rfl rfl ?_
        refine zx_iload_n (i := 3) dX10_hasParts_28 rfl rfl ?_
        refine zx_iv (b := t) (As := [zI s]) (st := []) (v := (some (zI (zB (0 ≤ s ∧ s < (N.length : Int)))))) (w1 := w) dX10_hasParts_29 zc_X10_50 h0 rfl rfl rfl (Nat.le_of_ble_eq_true rfl) rfl (c_X10_hasTerm ⟨h0, ⟨hc, okC⟩, ⟨hn, okN⟩, ⟨hh, okH⟩, hz, hS⟩ s) ?_
        refine zx_st (st1 := [zI (zB (0 ≤ s ∧ s < (N.length : Int)))]) rfl ?_
        refine zx_if_eq (tgt := 39) dX10_hasParts_32 (by decide) (fun h32 => ?_) (fun h32 => ?_)
        · refine zx_iconst (v := 0) dX10_hasParts_39 rfl (z32_lit (by decide) (by decide)) ?_
          refine zx_zret dX10_hasParts_40 rfl (by first | exact Or.inl rfl | exact Or.inr rfl | exact zB_or | assumption) ?_
          exact zr_f (by (try simp only [zB_zero, Decidable.not_not] at *); omega)
        · refine zx_iconst (v := 1) dX10_hasParts_35 rfl (z32_lit (by decide) (by decide)) ?_
          refine zx_goto (tgt := 40) dX10_hasParts_36 (by decide) ?_
          refine zx_zret dX10_hasParts_40 rfl (by first | exact Or.inl rfl | exact Or.inr rfl | exact zB_or | assumption) ?_
          exact zr_t (by (try simp only [zB_zero, Decidable.not_not] at *); omega)
theorem c_X10_fitsPart (hT : tmW w t tc tn th tz ty C N H S)  (c i x : Int) : zM G zm_X10_fitsPart (d + 2) [zR t, zI c, zI i, zI x] w (zRet (some (zI (zB (tmFp C N c i x)))) w) := by
  refine zx_ent (by decide +kernel) rfl (Nat.le_of_ble_eq_true rfl) ?_
  refine zx_L (L1 := [some (zR t), some (zI c), some (zI i), some (zI x), none]) rfl ?_
  obtain ⟨h0, ⟨hc, okC⟩, ⟨hn, okN⟩, ⟨hh, okH⟩, hz, hS⟩ := hT
  refine zx_aload_n (i := 0) dX10_fitsPart_0 rfl rfl ?_
  refine zx_iload_n (i := 1) dX10_fitsPart_1 rfl rfl ?_
  refine zx_iload_n (i := 2) dX10_fitsPart_2 rfl rfl ?_
  refine zx_iv (b := t) (As := [zI c, zI i]) (st := []) (v := (some (zI (tmTy C c i)))) (w1 := w) dX10_fitsPart_3 zc_X10_58 h0 rfl rfl rfl (Nat.le_of_ble_eq_true rfl) rfl (c_X10_partType ⟨h0, ⟨hc, okC⟩, ⟨hn, okN⟩, ⟨hh, okH⟩, hz, hS⟩ c i) ?_
  refine zx_st (st1 := [zI (tmTy C c i)]) rfl ?_
  refine zx_istore (i := 4) dX10_fitsPart_6 (by decide) rfl ?_
  refine zx_L (L1 := [some (zR t), some (zI c), some (zI i), some (zI x), some (zI (tmTy C c i))]) rfl ?_
  refine zx_iload (i := 4) dX10_fitsPart_8 rfl ?_
  refine zx_iconst (v := -1) dX10_fitsPart_10 rfl (z32_lit (by decide) (by decide)) ?_
  refine zx_icmp_ne (tgt := 26) dX10_fitsPart_11 (by decide) (fun h11 => ?_) (fun h11 => ?_)
  · refine zx_aload_n (i := 0) dX10_fitsPart_26 rfl rfl ?_
    refine zx_aload_n (i := 0) dX10_fitsPart_27 rfl rfl ?_
    refine zx_iload_n (i := 3) dX10_fitsPart_28 rfl rfl ?_
    refine zx_pc (pc1 := 29) rfl ?_
    refine zx_iv (b := t) (As := [zI x]) (st := [zR t]) (v := (some (zI (tg N x 0)))) (w1 := w) dX10_fitsPart_29 zc_X10_61 h0 rfl rfl rfl (Nat.le_of_ble_eq_true rfl) rfl (c_X10_headOf ⟨h0, ⟨hc, okC⟩, ⟨hn, okN⟩, ⟨hh, okH⟩, hz, hS⟩ x) ?_
    refine zx_st (st1 := [zI (tg N x 0), zR t]) rfl ?_
    refine zx_iv (b := t) (As := [zI (tg N x 0)]) (st := []) (v := (some (zI (tg C (tg N x 0) 0)))) (w1 := w) dX10_fitsPart_32 zc_X10_64 h0 rfl rfl rfl (Nat.le_of_ble_eq_true rfl) rfl (c_X10_typeOfHead ⟨h0, ⟨hc, okC⟩, ⟨hn, okN⟩, ⟨hh, okH⟩, hz, hS⟩ (tg N x 0)) ?_
    refine zx_st (st1 := [zI (tg C (tg N x 0) 0)]) rfl ?_
    refine zx_iload (i := 4) dX10_fitsPart_35 rfl ?_
    refine zx_icmp_ne (tgt := 44) dX10_fitsPart_37 (by decide) (fun h37 => ?_) (fun h37 => ?_)
    · refine zx_iconst (v := 0) dX10_fitsPart_44 rfl (z32_lit (by decide) (by decide)) ?_
      refine zx_zret dX10_fitsPart_45 rfl (by first | exact Or.inl rfl | exact Or.inr rfl | exact zB_or | assumption) ?_
      exact zr_f (by unfold tmFp; first | (rw [if_pos (by omega)]; omega) | (rw [if_neg (by omega)]; omega))
    · refine zx_iconst (v := 1) dX10_fitsPart_40 rfl (z32_lit (by decide) (by decide)) ?_
      refine zx_goto (tgt := 45) dX10_fitsPart_41 (by decide) ?_
      refine zx_zret dX10_fitsPart_45 rfl (by first | exact Or.inl rfl | exact Or.inr rfl | exact zB_or | assumption) ?_
      exact zr_t (by unfold tmFp; first | (rw [if_pos (by omega)]; omega) | (rw [if_neg (by omega)]; omega))
  · refine zx_iload_n (i := 3) dX10_fitsPart_14 rfl rfl ?_
    refine zx_if_ne (tgt := 22) dX10_fitsPart_15 (by decide) (fun h15 => ?_) (fun h15 => ?_)
    · refine zx_iconst (v := 0) dX10_fitsPart_22 rfl (z32_lit (by decide) (by decide)) ?_
      refine zx_pc (pc1 := 23) rfl ?_
      refine zx_goto (tgt := 45) dX10_fitsPart_23 (by decide) ?_
      refine zx_zret dX10_fitsPart_45 rfl (by first | exact Or.inl rfl | exact Or.inr rfl | exact zB_or | assumption) ?_
      exact zr_f (by unfold tmFp; first | (rw [if_pos (by omega)]; omega) | (rw [if_neg (by omega)]; omega))
    · refine zx_iconst (v := 1) dX10_fitsPart_18 rfl (z32_lit (by decide) (by decide)) ?_
      refine zx_pc (pc1 := 19) rfl ?_
      refine zx_goto (tgt := 45) dX10_fitsPart_19 (by decide) ?_
      refine zx_zret dX10_fitsPart_45 rfl (by first | exact Or.inl rfl | exact Or.inr rfl | exact zB_or | assumption) ?_
      exact zr_t (by unfold tmFp; first | (rw [if_pos (by omega)]; omega) | (rw [if_neg (by omega)]; omega))
theorem c_X10_fits (hT : tmW w t tc tn th tz ty C N H S)  (c f s : Int) : zM G zm_X10_fits (d + 3) [zR t, zI c, zI f, zI s] w (zRet (some (zI (zB (tmFp C N c 0 f ∧ tmFp C N c 1 s)))) w) := by
  refine zx_ent (by decide +kernel) rfl (Nat.le_of_ble_eq_true rfl) ?_
  refine zx_L (L1 := [some (zR t), some (zI c), some (zI f), some (zI s)]) rfl ?_
  obtain ⟨h0, ⟨hc, okC⟩, ⟨hn, okN⟩, ⟨hh, okH⟩, hz, hS⟩ := hT
  refine zx_aload_n (i := 0) dX10_fits_0 rfl rfl ?_
  refine zx_iload_n (i := 1) dX10_fits_1 rfl rfl ?_
  refine zx_iconst (v := 0) dX10_fits_2 rfl (z32_lit (by decide) (by decide)) ?_
  refine zx_iload_n (i := 2) dX10_fits_3 rfl rfl ?_
  refine zx_iv (b := t) (As := [zI c, zI 0, zI f]) (st := []) (v := (some (zI (zB (tmFp C N c 0 f))))) (w1 := w) dX10_fits_4 zc_X10_54 h0 rfl rfl rfl (Nat.le_of_ble_eq_true rfl) rfl (c_X10_fitsPart ⟨h0, ⟨hc, okC⟩, ⟨hn, okN⟩, ⟨hh, okH⟩, hz, hS⟩ c 0 f) ?_
  refine zx_st (st1 := [zI (zB (tmFp C N c 0 f))]) rfl ?_
  refine zx_if_eq (tgt := 24) dX10_fits_7 (by decide) (fun h7 => ?_) (fun h7 => ?_)
  · refine zx_iconst (v := 0) dX10_fits_24 rfl (z32_lit (by decide) (by decide)) ?_
    refine zx_zret dX10_fits_25 rfl (by first | exact Or.inl rfl | exact Or.inr rfl | exact zB_or | assumption) ?_
    exact zr_f (by (try simp only [zB_zero, Decidable.not_not] at *); simp_all)
  · refine zx_aload_n (i := 0) dX10_fits_10 rfl rfl ?_
    refine zx_iload_n (i := 1) dX10_fits_11 rfl rfl ?_
    refine zx_iconst (v := 1) dX10_fits_12 rfl (z32_lit (by decide) (by decide)) ?_
    refine zx_iload_n (i := 3) dX10_fits_13 rfl rfl ?_
    refine zx_iv (b := t) (As := [zI c, zI 1, zI s]) (st := []) (v := (some (zI (zB (tmFp C N c 1 s))))) (w1 := w) dX10_fits_14 zc_X10_54 h0 rfl rfl rfl (Nat.le_of_ble_eq_true rfl) rfl (c_X10_fitsPart ⟨h0, ⟨hc, okC⟩, ⟨hn, okN⟩, ⟨hh, okH⟩, hz, hS⟩ c 1 s) ?_
    refine zx_st (st1 := [zI (zB (tmFp C N c 1 s))]) rfl ?_
    refine zx_pc (pc1 := 17) rfl ?_
    refine zx_if_eq (tgt := 24) dX10_fits_17 (by decide) (fun h17 => ?_) (fun h17 => ?_)
    · refine zx_iconst (v := 0) dX10_fits_24 rfl (z32_lit (by decide) (by decide)) ?_
      refine zx_zret dX10_fits_25 rfl (by first | exact Or.inl rfl | exact Or.inr rfl | exact zB_or | assumption) ?_
      exact zr_f (by (try simp only [zB_zero, Decidable.not_not] at *); simp_all)
    · refine zx_iconst (v := 1) dX10_fits_20 rfl (z32_lit (by decide) (by decide)) ?_
      refine zx_goto (tgt := 25) dX10_fits_21 (by decide) ?_
      refine zx_zret dX10_fits_25 rfl (by first | exact Or.inl rfl | exact Or.inr rfl | exact zB_or | assumption) ?_
      exact zr_t (by (try simp only [zB_zero, Decidable.not_not] at *); simp_all)
theorem c_X10_chainOf (c f s : Int) : zM G zm_X10_chainOf d [zI c, zI f, zI s] w (zRet (some (zI (tmCh c f s))) w) := by
  refine zx_ent (by decide +kernel) rfl (Nat.le_of_ble_eq_true rfl) ?_
  refine zx_L (L1 := [some (zI c), some (zI f), some (zI s)]) rfl ?_
  refine zx_bipush (v := 31) dX10_chainOf_0 (by decide +kernel) (z32_lit (by decide) (by decide)) ?_
  refine zx_iload_n (i := 0) dX10_chainOf_2 rfl rfl ?_
  refine zx_imul (v := zw (31 * c)) dX10_chainOf_3 rfl ?_
  refine zx_bipush (v := 7) dX10_chainOf_4 (by decide +kernel) (z32_lit (by decide) (by decide)) ?_
  refine zx_iload_n (i := 1) dX10_chainOf_6 rfl rfl ?_
  refine zx_imul (v := zw (7 * f)) dX10_chainOf_7 rfl ?_
  refine zx_iadd (v := zw ((zw (31 * c)) + (zw (7 * f)))) dX10_chainOf_8 rfl ?_
  refine zx_iload_n (i := 2) dX10_chainOf_9 rfl rfl ?_
  refine zx_iadd (v := zw ((zw ((zw (31 * c)) + (zw (7 * f)))) + s)) dX10_chainOf_10 rfl ?_
  refine zx_bipush (v := 63) dX10_chainOf_11 (by decide +kernel) (z32_lit (by decide) (by decide)) ?_
  refine zx_iand (v := zand (zw ((zw ((zw (31 * c)) + (zw (7 * f)))) + s)) 63) dX10_chainOf_13 rfl ?_
  refine zx_pc (pc1 := 14) rfl ?_
  refine zx_iret dX10_chainOf_14 rfl ?_
  exact zr_v rfl rfl
theorem tmF_s {N : List (List Int)} {c f s : Int} {k : Nat} {x : Int} : tmF N c f s (k + 1) x = if x = -1 then -1 else if tg N x 0 = c ∧ tg N x 1 = f ∧ tg N x 2 = s then x else tmF N c f s k (tg N x 3) := rfl
theorem c_X10_find (hT : tmW w t tc tn th tz ty C N H S) (c f s : Int) : zM G zm_X10_find (d + 1) [zR t, zI c, zI f, zI s] w (zRet (some (zI (tmFind N H c f s))) w) := by
  refine zx_ent (by decide +kernel) rfl (Nat.le_of_ble_eq_true rfl) ?_
  obtain ⟨h0, ⟨hc, okC⟩, ⟨hn, okN⟩, ⟨hh, okH⟩, hz, hS⟩ := hT
  have loop : ∀ (n : Nat) (o6 : Option zV) (x : Int) (k : Nat), k + n = 200 → zX G zm_X10_find (d + 1) [zR t, zI c, zI f, zI s] w (zRet (some (zI (tmF N c f s n x))) w) 19 [some (zR t), some (zI c), some (zI f), some (zI s), some (zI x), some (zI (k : Int)), o6] [] w := by
    intro n
    induction n with
    | zero =>
      intro o6 x k hk
      refine zx_iload (i := 5) dX10_find_19 rfl ?_
      refine zx_sipush (v := 200) dX10_find_21 (by decide +kernel) (z32_lit (by decide) (by decide)) ?_
      refine zx_icmp_ge (tgt := 108) dX10_find_24 (by decide) (fun h24 => ?_) (fun h24 => absurd (by omega) h24)
      refine zx_iconst (v := -1) dX10_find_108 rfl (z32_lit (by decide) (by decide)) ?_
      refine zx_iret dX10_find_109 rfl ?_
      exact zr_i rfl
    | succ n ih =>
      intro o6 x k hk
      by_cases hx : x = -1
      · subst hx
        refine zx_iload (i := 5) dX10_find_19 rfl ?_
        refine zx_sipush (v := 200) dX10_find_21 (by decide +kernel) (z32_lit (by decide) (by decide)) ?_
        refine zx_icmp_ge (tgt := 108) dX10_find_24 (by decide) (fun h24 => absurd h24 (by omega)) (fun h24 => ?_)
        refine zx_iload (i := 4) dX10_find_27 rfl ?_
        refine zx_iconst (v := -1) dX10_find_29 rfl (z32_lit (by decide) (by decide)) ?_
        refine zx_icmp_eq (tgt := 108) dX10_find_30 (by decide) (fun h30 => ?_) (fun h30 => absurd (by decide) h30)
        refine zx_iconst (v := -1) dX10_find_108 rfl (z32_lit (by decide) (by decide)) ?_
        refine zx_iret dX10_find_109 rfl ?_
        exact zr_i (by rw [tmF_s, if_pos rfl])
      · by_cases hq : tg N x 0 = c ∧ tg N x 1 = f ∧ tg N x 2 = s
        · obtain ⟨hq1, hq2, hq3⟩ := hq
          refine zx_iload (i := 5) dX10_find_19 rfl ?_
          refine zx_sipush (v := 200) dX10_find_21 (by decide +kernel) (z32_lit (by decide) (by decide)) ?_
          refine zx_icmp_ge (tgt := 108) dX10_find_24 (by decide) (fun h24 => absurd h24 (by omega)) (fun h24 => ?_)
          refine zx_iload (i := 4) dX10_find_27 rfl ?_
          refine zx_iconst (v := -1) dX10_find_29 rfl (z32_lit (by decide) (by decide)) ?_
          refine zx_icmp_eq (tgt := 108) dX10_find_30 (by decide) (fun h30 => absurd h30 (hx)) (fun h30 => ?_)
          refine zx_aload_n (i := 0) dX10_find_33 rfl rfl ?_
          refine zx_getfield dX10_find_34 zf_X10_24 h0 rfl ?_
          refine zx_iload (i := 4) dX10_find_37 rfl ?_
          refine zx_iconst (v := 0) dX10_find_39 rfl (z32_lit (by decide) (by decide)) ?_
          refine zx_iv (b := tn) (As := [zI x, zI 0]) (st := []) (v := (some (zI (tg N x 0)))) (w1 := w) dX10_find_40 zc_X10_42 hn (z_cls9 (by decide)) rfl rfl (Nat.le_of_ble_eq_true rfl) rfl (c_X9_get hn (by decide) okN x 0) ?_
          refine zx_st (st1 := [zI (tg N x 0)]) rfl ?_
          refine zx_pc (pc1 := 43) rfl ?_
          refine zx_iload_n (i := 1) dX10_find_43 rfl rfl ?_
          refine zx_icmp_ne (tgt := 79) dX10_find_44 (by decide) (fun h44 => absurd h44 (not_not_intro hq1)) (fun h44 => ?_)
          refine zx_aload_n (i := 0) dX10_find_47 rfl rfl ?_
          refine zx_getfield dX10_find_48 zf_X10_24 h0 rfl ?_
          refine zx_iload (i := 4) dX10_find_51 rfl ?_
          refine zx_iconst (v := 1) dX10_find_53 rfl (z32_lit (by decide) (by decide)) ?_
          refine zx_iv (b := tn) (As := [zI x, zI 1]) (st := []) (v := (some (zI (tg N x 1)))) (w1 := w) dX10_find_54 zc_X10_42 hn (z_cls9 (by decide)) rfl rfl (Nat.le_of_ble_eq_true rfl) rfl (c_X9_get hn (by decide) okN x 1) ?_
          refine zx_st (st1 := [zI (tg N x 1)]) rfl ?_
          refine zx_iload_n (i := 2) dX10_find_57 rfl rfl ?_
          refine zx_icmp_ne (tgt := 79) dX10_find_58 (by decide) (fun h58 => absurd h58 (not_not_intro hq2)) (fun h58 => ?_)
          refine zx_aload_n (i := 0) dX10_find_61 rfl rfl ?_
          refine zx_getfield dX10_find_62 zf_X10_24 h0 rfl ?_
          refine zx_iload (i := 4) dX10_find_65 rfl ?_
          refine zx_pc (pc1 := 67) rfl ?_
          refine zx_iconst (v := 2) dX10_find_67 rfl (z32_lit (by decide) (by decide)) ?_
          refine zx_iv (b := tn) (As := [zI x, zI 2]) (st := []) (v := (some (zI (tg N x 2)))) (w1 := w) dX10_find_68 zc_X10_42 hn (z_cls9 (by decide)) rfl rfl (Nat.le_of_ble_eq_true rfl) rfl (c_X9_get hn (by decide) okN x 2) ?_
          refine zx_st (st1 := [zI (tg N x 2)]) rfl ?_
          refine zx_iload_n (i := 3) dX10_find_71 rfl rfl ?_
          refine zx_icmp_ne (tgt := 79) dX10_find_72 (by decide) (fun h72 => absurd h72 (not_not_intro hq3)) (fun h72 => ?_)
          refine zx_iconst (v := 1) dX10_find_75 rfl (z32_lit (by decide) (by decide)) ?_
          refine zx_goto (tgt := 80) dX10_find_76 (by decide) ?_
          refine zx_istore (i := 6) dX10_find_80 (by decide) rfl ?_
          refine zx_L (L1 := [some (zR t), some (zI c), some (zI f), some (zI s), some (zI x), some (zI (k : Int)), some (zI 1)]) rfl ?_
          refine zx_iload (i := 6) dX10_find_82 rfl ?_
          refine zx_if_eq (tgt := 90) dX10_find_84 (by decide) (fun h84 => absurd h84 (by decide)) (fun h84 => ?_)
          refine zx_iload (i := 4) dX10_find_87 rfl ?_
          refine zx_iret dX10_find_89 rfl ?_
          exact zr_i (by rw [tmF_s, if_neg hx, if_pos ⟨hq1, hq2, hq3⟩])
        · by_cases hq1 : tg N x 0 = c
          · by_cases hq2 : tg N x 1 = f
            · have hq3 : tg N x 2 ≠ s := fun e => hq ⟨hq1, hq2, e⟩
              refine zx_iload (i := 5) dX10_find_19 rfl ?_
              refine zx_sipush (v := 200) dX10_find_21 (by decide +kernel) (z32_lit (by decide) (by decide)) ?_
              refine zx_icmp_ge (tgt := 108) dX10_find_24 (by decide) (fun h24 => absurd h24 (by omega)) (fun h24 => ?_)
              refine zx_iload (i := 4) dX10_find_27 rfl ?_
              refine zx_iconst (v := -1) dX10_find_29 rfl (z32_lit (by decide) (by decide)) ?_
              refine zx_icmp_eq (tgt := 108) dX10_find_30 (by decide) (fun h30 => absurd h30 (hx)) (fun h30 => ?_)
              refine zx_aload_n (i := 0) dX10_find_33 rfl rfl ?_
              refine zx_getfield dX10_find_34 zf_X10_24 h0 rfl ?_
              refine zx_iload (i := 4) dX10_find_37 rfl ?_
              refine zx_iconst (v := 0) dX10_find_39 rfl (z32_lit (by decide) (by decide)) ?_
              refine zx_iv (b := tn) (As := [zI x, zI 0]) (st := []) (v := (some (zI (tg N x 0)))) (w1 := w) dX10_find_40 zc_X10_42 hn (z_cls9 (by decide)) rfl rfl (Nat.le_of_ble_eq_true rfl) rfl (c_X9_get hn (by decide) okN x 0) ?_
              refine zx_st (st1 := [zI (tg N x 0)]) rfl ?_
              refine zx_pc (pc1 := 43) rfl ?_
              refine zx_iload_n (i := 1) dX10_find_43 rfl rfl ?_
              refine zx_icmp_ne (tgt := 79) dX10_find_44 (by decide) (fun h44 => absurd h44 (not_not_intro hq1)) (fun h44 => ?_)
              refine zx_aload_n (i := 0) dX10_find_47 rfl rfl ?_
              refine zx_getfield dX10_find_48 zf_X10_24 h0 rfl ?_
              refine zx_iload (i := 4) dX10_find_51 rfl ?_
              refine zx_iconst (v := 1) dX10_find_53 rfl (z32_lit (by decide) (by decide)) ?_
              refine zx_iv (b := tn) (As := [zI x, zI 1]) (st := []) (v := (some (zI (tg N x 1)))) (w1 := w) dX10_find_54 zc_X10_42 hn (z_cls9 (by decide)) rfl rfl (Nat.le_of_ble_eq_true rfl) rfl (c_X9_get hn (by decide) okN x 1) ?_
              refine zx_st (st1 := [zI (tg N x 1)]) rfl ?_
              refine zx_iload_n (i := 2) dX10_find_57 rfl rfl ?_
              refine zx_icmp_ne (tgt := 79) dX10_find_58 (by decide) (fun h58 => absurd h58 (not_not_intro hq2)) (fun h58 => ?_)
              refine zx_aload_n (i := 0) dX10_find_61 rfl rfl ?_
              refine zx_getfield dX10_find_62 zf_X10_24 h0 rfl ?_
              refine zx_iload (i := 4) dX10_find_65 rfl ?_
              refine zx_pc (pc1 := 67) rfl ?_
              refine zx_iconst (v := 2) dX10_find_67 rfl (z32_lit (by decide) (by decide)) ?_
              refine zx_iv (b := tn) (As := [zI x, zI 2]) (st := []) (v := (some (zI (tg N x 2)))) (w1 := w) dX10_find_68 zc_X10_42 hn (z_cls9 (by decide)) rfl rfl (Nat.le_of_ble_eq_true rfl) rfl (c_X9_get hn (by decide) okN x 2) ?_
              refine zx_st (st1 := [zI (tg N x 2)]) rfl ?_
              refine zx_iload_n (i := 3) dX10_find_71 rfl rfl ?_
              refine zx_icmp_ne (tgt := 79) dX10_find_72 (by decide) (fun h72 => ?_) (fun h72 => absurd (hq3) h72)
              refine zx_iconst (v := 0) dX10_find_79 rfl (z32_lit (by decide) (by decide)) ?_
              refine zx_istore (i := 6) dX10_find_80 (by decide) rfl ?_
              refine zx_L (L1 := [some (zR t), some (zI c), some (zI f), some (zI s), some (zI x), some (zI (k : Int)), some (zI 0)]) rfl ?_
              refine zx_iload (i := 6) dX10_find_82 rfl ?_
              refine zx_if_eq (tgt := 90) dX10_find_84 (by decide) (fun h84 => ?_) (fun h84 => absurd (by decide) h84)
              refine zx_aload_n (i := 0) dX10_find_90 rfl rfl ?_
              refine zx_getfield dX10_find_91 zf_X10_24 h0 rfl ?_
              refine zx_iload (i := 4) dX10_find_94 rfl ?_
              refine zx_iconst (v := 3) dX10_find_96 rfl (z32_lit (by decide) (by decide)) ?_
              refine zx_pc (pc1 := 97) rfl ?_
              refine zx_iv (b := tn) (As := [zI x, zI 3]) (st := []) (v := (some (zI (tg N x 3)))) (w1 := w) dX10_find_97 zc_X10_42 hn (z_cls9 (by decide)) rfl rfl (Nat.le_of_ble_eq_true rfl) rfl (c_X9_get hn (by decide) okN x 3) ?_
              refine zx_st (st1 := [zI (tg N x 3)]) rfl ?_
              refine zx_istore (i := 4) dX10_find_100 (by decide) rfl ?_
              refine zx_L (L1 := [some (zR t), some (zI c), some (zI f), some (zI s), some (zI (tg N x 3)), some (zI (k : Int)), some (zI 0)]) rfl ?_
              refine zx_iinc (i := 5) (v := ((k + 1 : Nat) : Int)) dX10_find_102 rfl (zw_eq (by omega) (by omega) (by omega)) (by decide) rfl ?_
              refine zx_L (L1 := [some (zR t), some (zI c), some (zI f), some (zI s), some (zI (tg N x 3)), some (zI ((k + 1 : Nat) : Int)), some (zI 0)]) rfl ?_
              refine zx_goto (tgt := 19) dX10_find_105 (by decide) ?_
              rw [tmF_s, if_neg hx, if_neg hq]
              exact ih _ (tg N x 3) (k + 1) (by omega)
            · refine zx_iload (i := 5) dX10_find_19 rfl ?_
              refine zx_sipush (v := 200) dX10_find_21 (by decide +kernel) (z32_lit (by decide) (by decide)) ?_
              refine zx_icmp_ge (tgt := 108) dX10_find_24 (by decide) (fun h24 => absurd h24 (by omega)) (fun h24 => ?_)
              refine zx_iload (i := 4) dX10_find_27 rfl ?_
              refine zx_iconst (v := -1) dX10_find_29 rfl (z32_lit (by decide) (by decide)) ?_
              refine zx_icmp_eq (tgt := 108) dX10_find_30 (by decide) (fun h30 => absurd h30 (hx)) (fun h30 => ?_)
              refine zx_aload_n (i := 0) dX10_find_33 rfl rfl ?_
              refine zx_getfield dX10_find_34 zf_X10_24 h0 rfl ?_
              refine zx_iload (i := 4) dX10_find_37 rfl ?_
              refine zx_iconst (v := 0) dX10_find_39 rfl (z32_lit (by decide) (by decide)) ?_
              refine zx_iv (b := tn) (As := [zI x, zI 0]) (st := []) (v := (some (zI (tg N x 0)))) (w1 := w) dX10_find_40 zc_X10_42 hn (z_cls9 (by decide)) rfl rfl (Nat.le_of_ble_eq_true rfl) rfl (c_X9_get hn (by decide) okN x 0) ?_
              refine zx_st (st1 := [zI (tg N x 0)]) rfl ?_
              refine zx_pc (pc1 := 43) rfl ?_
              refine zx_iload_n (i := 1) dX10_find_43 rfl rfl ?_
              refine zx_icmp_ne (tgt := 79) dX10_find_44 (by decide) (fun h44 => absurd h44 (not_not_intro hq1)) (fun h44 => ?_)
              refine zx_aload_n (i := 0) dX10_find_47 rfl rfl ?_
              refine zx_getfield dX10_find_48 zf_X10_24 h0 rfl ?_
              refine zx_iload (i := 4) dX10_find_51 rfl ?_
              refine zx_iconst (v := 1) dX10_find_53 rfl (z32_lit (by decide) (by decide)) ?_
              refine zx_iv (b := tn) (As := [zI x, zI 1]) (st := []) (v := (some (zI (tg N x 1)))) (w1 := w) dX10_find_54 zc_X10_42 hn (z_cls9 (by decide)) rfl rfl (Nat.le_of_ble_eq_true rfl) rfl (c_X9_get hn (by decide) okN x 1) ?_
              refine zx_st (st1 := [zI (tg N x 1)]) rfl ?_
              refine zx_iload_n (i := 2) dX10_find_57 rfl rfl ?_
              refine zx_icmp_ne (tgt := 79) dX10_find_58 (by decide) (fun h58 => ?_) (fun h58 => absurd (hq2) h58)
              refine zx_iconst (v := 0) dX10_find_79 rfl (z32_lit (by decide) (by decide)) ?_
              refine zx_istore (i := 6) dX10_find_80 (by decide) rfl ?_
              refine zx_L (L1 := [some (zR t), some (zI c), some (zI f), some (zI s), some (zI x), some (zI (k : Int)), some (zI 0)]) rfl ?_
              refine zx_iload (i := 6) dX10_find_82 rfl ?_
              refine zx_pc (pc1 := 84) rfl ?_
              refine zx_if_eq (tgt := 90) dX10_find_84 (by decide) (fun h84 => ?_) (fun h84 => absurd (by decide) h84)
              refine zx_aload_n (i := 0) dX10_find_90 rfl rfl ?_
              refine zx_getfield dX10_find_91 zf_X10_24 h0 rfl ?_
              refine zx_iload (i := 4) dX10_find_94 rfl ?_
              refine zx_iconst (v := 3) dX10_find_96 rfl (z32_lit (by decide) (by decide)) ?_
              refine zx_iv (b := tn) (As := [zI x, zI 3]) (st := []) (v := (some (zI (tg N x 3)))) (w1 := w) dX10_find_97 zc_X10_42 hn (z_cls9 (by decide)) rfl rfl (Nat.le_of_ble_eq_true rfl) rfl (c_X9_get hn (by decide) okN x 3) ?_
              refine zx_st (st1 := [zI (tg N x 3)]) rfl ?_
              refine zx_istore (i := 4) dX10_find_100 (by decide) rfl ?_
              refine zx_L (L1 := [some (zR t), some (zI c), some (zI f), some (zI s), some (zI (tg N x 3)), some (zI (k : Int)), some (zI 0)]) rfl ?_
              refine zx_iinc (i := 5) (v := ((k + 1 : Nat) : Int)) dX10_find_102 rfl (zw_eq (by omega) (by omega) (by omega)) (by decide) rfl ?_
              refine zx_L (L1 := [some (zR t), some (zI c), some (zI f), some (zI s), some (zI (tg N x 3)), some (zI ((k + 1 : Nat) : Int)), some (zI 0)]) rfl ?_
              refine zx_goto (tgt := 19) dX10_find_105 (by decide) ?_
              rw [tmF_s, if_neg hx, if_neg hq]
              exact ih _ (tg N x 3) (k + 1) (by omega)
          · refine zx_iload (i := 5) dX10_find_19 rfl ?_
            refine zx_sipush (v := 200) dX10_find_21 (by decide +kernel) (z32_lit (by decide) (by decide)) ?_
            refine zx_icmp_ge (tgt := 108) dX10_find_24 (by decide) (fun h24 => absurd h24 (by omega)) (fun h24 => ?_)
            refine zx_iload (i := 4) dX10_find_27 rfl ?_
            refine zx_iconst (v := -1) dX10_find_29 rfl (z32_lit (by decide) (by decide)) ?_
            refine zx_icmp_eq (tgt := 108) dX10_find_30 (by decide) (fun h30 => absurd h30 (hx)) (fun h30 => ?_)
            refine zx_aload_n (i := 0) dX10_find_33 rfl rfl ?_
            refine zx_getfield dX10_find_34 zf_X10_24 h0 rfl ?_
            refine zx_iload (i := 4) dX10_find_37 rfl ?_
            refine zx_iconst (v := 0) dX10_find_39 rfl (z32_lit (by decide) (by decide)) ?_
            refine zx_iv (b := tn) (As := [zI x, zI 0]) (st := []) (v := (some (zI (tg N x 0)))) (w1 := w) dX10_find_40 zc_X10_42 hn (z_cls9 (by decide)) rfl rfl (Nat.le_of_ble_eq_true rfl) rfl (c_X9_get hn (by decide) okN x 0) ?_
            refine zx_st (st1 := [zI (tg N x 0)]) rfl ?_
            refine zx_pc (pc1 := 43) rfl ?_
            refine zx_iload_n (i := 1) dX10_find_43 rfl rfl ?_
            refine zx_icmp_ne (tgt := 79) dX10_find_44 (by decide) (fun h44 => ?_) (fun h44 => absurd (hq1) h44)
            refine zx_iconst (v := 0) dX10_find_79 rfl (z32_lit (by decide) (by decide)) ?_
            refine zx_istore (i := 6) dX10_find_80 (by decide) rfl ?_
            refine zx_L (L1 := [some (zR t), some (zI c), some (zI f), some (zI s), some (zI x), some (zI (k : Int)), some (zI 0)]) rfl ?_
            refine zx_iload (i := 6) dX10_find_82 rfl ?_
            refine zx_if_eq (tgt := 90) dX10_find_84 (by decide) (fun h84 => ?_) (fun h84 => absurd (by decide) h84)
            refine zx_aload_n (i := 0) dX10_find_90 rfl rfl ?_
            refine zx_getfield dX10_find_91 zf_X10_24 h0 rfl ?_
            refine zx_iload (i := 4) dX10_find_94 rfl ?_
            refine zx_iconst (v := 3) dX10_find_96 rfl (z32_lit (by decide) (by decide)) ?_
            refine zx_iv (b := tn) (As := [zI x, zI 3]) (st := []) (v := (some (zI (tg N x 3)))) (w1 := w) dX10_find_97 zc_X10_42 hn (z_cls9 (by decide)) rfl rfl (Nat.le_of_ble_eq_true rfl) rfl (c_X9_get hn (by decide) okN x 3) ?_
            refine zx_st (st1 := [zI (tg N x 3)]) rfl ?_
            refine zx_istore (i := 4) dX10_find_100 (by decide) rfl ?_
            refine zx_L (L1 := [some (zR t), some (zI c), some (zI f), some (zI s), some (zI (tg N x 3)), some (zI (k : Int)), some (zI 0)]) rfl ?_
            refine zx_pc (pc1 := 102) rfl ?_
            refine zx_iinc (i := 5) (v := ((k + 1 : Nat) : Int)) dX10_find_102 rfl (zw_eq (by omega) (by omega) (by omega)) (by decide) rfl ?_
            refine zx_L (L1 := [some (zR t), some (zI c), some (zI f), some (zI s), some (zI (tg N x 3)), some (zI ((k + 1 : Nat) : Int)), some (zI 0)]) rfl ?_
            refine zx_goto (tgt := 19) dX10_find_105 (by decide) ?_
            rw [tmF_s, if_neg hx, if_neg hq]
            exact ih _ (tg N x 3) (k + 1) (by omega)
  refine zx_L (L1 := [some (zR t), some (zI c), some (zI f), some (zI s), none, none, none]) rfl ?_
  refine zx_aload_n (i := 0) dX10_find_0 rfl rfl ?_
  refine zx_getfield dX10_find_1 zf_X10_27 h0 rfl ?_
  refine zx_iload_n (i := 1) dX10_find_4 rfl rfl ?_
  refine zx_iload_n (i := 2) dX10_find_5 rfl rfl ?_
  refine zx_iload_n (i := 3) dX10_find_6 rfl rfl ?_
  refine zx_is (As := [zI c, zI f, zI s]) (st := [zR th]) (v := (some (zI (tmCh c f s)))) (w1 := w) dX10_find_7 zc_X10_67 rfl (Nat.le_of_ble_eq_true rfl) rfl (c_X10_chainOf c f s) ?_
  refine zx_st (st1 := [zI (tmCh c f s), zR th]) rfl ?_
  refine zx_iconst (v := 0) dX10_find_10 rfl (z32_lit (by decide) (by decide)) ?_
  refine zx_iv (b := th) (As := [zI (tmCh c f s), zI 0]) (st := []) (v := (some (zI (tg H (tmCh c f s) 0)))) (w1 := w) dX10_find_11 zc_X10_42 hh (z_cls9 (by decide)) rfl rfl (Nat.le_of_ble_eq_true rfl) rfl (c_X9_get hh (by decide) okH (tmCh c f s) 0) ?_
  refine zx_st (st1 := [zI (tg H (tmCh c f s) 0)]) rfl ?_
  refine zx_istore (i := 4) dX10_find_14 (by decide) rfl ?_
  refine zx_L (L1 := [some (zR t), some (zI c), some (zI f), some (zI s), some (zI (tg H (tmCh c f s) 0)), none, none]) rfl ?_
  refine zx_iconst (v := 0) dX10_find_16 rfl (z32_lit (by decide) (by decide)) ?_
  refine zx_istore (i := 5) dX10_find_17 (by decide) rfl ?_
  refine zx_L (L1 := [some (zR t), some (zI c), some (zI f), some (zI s), some (zI (tg H (tmCh c f s) 0)), some (zI 0), none]) rfl ?_
  exact loop 200 none (tg H (tmCh c f s) 0) 0 (by omega)
def tmNs (C : List (List Int)) (S : List Int) (c f s : Int) : Int := zwl (zwl (1 + (if 0 < tmPc C c then tmSz S f else 0)) + (if 1 < tmPc C c then tmSz S s else 0))
theorem tmN_new {N : List (List Int)} {c f s v : Int} : ts (N ++ [trow 4 c f s]) (N.length : Int) 3 v = N ++ [[c, f, s, v]] := ts_last (j := 3)
theorem c_X10_makeOld (hT : tmW w t tc tn th tz ty C N H S) (c f s : Int) (hm : tmFind N H c f s ≠ -1 ∨ 200 ≤ N.length) : zM G zm_X10_make (d + 3) [zR t, zI c, zI f, zI s] w (zRet (some (zI (tmFind N H c f s))) w) := by
  refine zx_ent (by decide +kernel) rfl (Nat.le_of_ble_eq_true rfl) ?_
  refine zx_L (L1 := [some (zR t), some (zI c), some (zI f), some (zI s), none, none, none, none]) rfl ?_
  obtain ⟨h0, ⟨hc, okC⟩, ⟨hn, okN⟩, ⟨hh, okH⟩, hz, hS⟩ := hT
  refine zx_aload_n (i := 0) dX10_make_0 rfl rfl ?_
  refine zx_iload_n (i := 1) dX10_make_1 rfl rfl ?_
  refine zx_iload_n (i := 2) dX10_make_2 rfl rfl ?_
  refine zx_iload_n (i := 3) dX10_make_3 rfl rfl ?_
  refine zx_iv (b := t) (As := [zI c, zI f, zI s]) (st := []) (v := (some (zI (tmFind N H c f s)))) (w1 := w) dX10_make_4 zc_X10_70 h0 rfl rfl rfl (Nat.le_of_ble_eq_true rfl) rfl (c_X10_find ⟨h0, ⟨hc, okC⟩, ⟨hn, okN⟩, ⟨hh, okH⟩, hz, hS⟩ c f s) ?_
  refine zx_st (st1 := [zI (tmFind N H c f s)]) rfl ?_
  refine zx_istore (i := 4) dX10_make_7 (by decide) rfl ?_
  refine zx_L (L1 := [some (zR t), some (zI c), some (zI f), some (zI s), some (zI (tmFind N H c f s)), none, none, none]) rfl ?_
  refine zx_iload (i := 4) dX10_make_9 rfl ?_
  refine zx_iconst (v := -1) dX10_make_11 rfl (z32_lit (by decide) (by decide)) ?_
  refine zx_icmp_ne (tgt := 28) dX10_make_12 (by decide) (fun h12 => ?_) (fun h12 => ?_)
  · refine zx_iload (i := 4) dX10_make_28 rfl ?_
    refine zx_iret dX10_make_30 rfl ?_
    exact zr_i rfl
  · refine zx_aload_n (i := 0) dX10_make_15 rfl rfl ?_
    refine zx_getfield dX10_make_16 zf_X10_24 h0 rfl ?_
    refine zx_pc (pc1 := 19) rfl ?_
    refine zx_iv (b := tn) (As := []) (st := []) (v := (some (zI (N.length : Int)))) (w1 := w) dX10_make_19 zc_X10_38 hn (z_cls9 (by decide)) rfl rfl (Nat.le_of_ble_eq_true rfl) rfl (c_X9_count hn (by decide) okN) ?_
    refine zx_st (st1 := [zI (N.length : Int)]) rfl ?_
    refine zx_sipush (v := 200) dX10_make_22 (by decide +kernel) (z32_lit (by decide) (by decide)) ?_
    refine zx_icmp_lt (tgt := 31) dX10_make_25 (by decide) (fun h25 => ?_) (fun h25 => ?_)
    · exact absurd hm (by omega)
    · refine zx_iload (i := 4) dX10_make_28 rfl ?_
      refine zx_iret dX10_make_30 rfl ?_
      exact zr_i rfl
theorem c_X10_makeNew (hT : tmW w t tc tn th tz ty C N H S) (c f s : Int) (hm : tmFind N H c f s = -1) (hl : N.length < 200) : zM G zm_X10_make (d + 3) [zR t, zI c, zI f, zI s] w (zRet (some (zI (N.length : Int))) (zput (zput (zput w tn (131, t, tTb 4 800 (N ++ [[c, f, s, tg H (tmCh c f s) 0]]))) th (132, t, tTb 1 64 (ts H (tmCh c f s) 0 (N.length : Int)))) tz (120, t, (S.set N.length (tmNs C S c f s)).map zJ))) := by
  refine zx_ent (by decide +kernel) rfl (Nat.le_of_ble_eq_true rfl) ?_
  refine zx_L (L1 := [some (zR t), some (zI c), some (zI f), some (zI s), none, none, none, none]) rfl ?_
  obtain ⟨h0, ⟨hc, okC⟩, ⟨hn, okN⟩, ⟨hh, okH⟩, hz, hS⟩ := hT
  refine zx_aload_n (i := 0) dX10_make_0 rfl rfl ?_
  refine zx_iload_n (i := 1) dX10_make_1 rfl rfl ?_
  refine zx_iload_n (i := 2) dX10_make_2 rfl rfl ?_
  refine zx_iload_n (i := 3) dX10_make_3 rfl rfl ?_
  refine zx_iv (b := t) (As := [zI c, zI f, zI s]) (st := []) (v := (some (zI (tmFind N H c f s)))) (w1 := w) dX10_make_4 zc_X10_70 h0 rfl rfl rfl (Nat.le_of_ble_eq_true rfl) rfl (c_X10_find ⟨h0, ⟨hc, okC⟩, ⟨hn, okN⟩, ⟨hh, okH⟩, hz, hS⟩ c f s) ?_
  refine zx_st (st1 := [zI (tmFind N H c f s)]) rfl ?_
  refine zx_istore (i := 4) dX10_make_7 (by decide) rfl ?_
  refine zx_L (L1 := [some (zR t), some (zI c), some (zI f), some (zI s), some (zI (tmFind N H c f s)), none, none, none]) rfl ?_
  refine zx_iload (i := 4) dX10_make_9 rfl ?_
  refine zx_iconst (v := -1) dX10_make_11 rfl (z32_lit (by decide) (by decide)) ?_
  refine zx_icmp_ne (tgt := 28) dX10_make_12 (by decide) (fun h12 => absurd h12 (not_not_intro hm)) (fun h12 => ?_)
  refine zx_aload_n (i := 0) dX10_make_15 rfl rfl ?_
  refine zx_getfield dX10_make_16 zf_X10_24 h0 rfl ?_
  refine zx_pc (pc1 := 19) rfl ?_
  refine zx_iv (b := tn) (As := []) (st := []) (v := (some (zI (N.length : Int)))) (w1 := w) dX10_make_19 zc_X10_38 hn (z_cls9 (by decide)) rfl rfl (Nat.le_of_ble_eq_true rfl) rfl (c_X9_count hn (by decide) okN) ?_
  refine zx_st (st1 := [zI (N.length : Int)]) rfl ?_
  refine zx_sipush (v := 200) dX10_make_22 (by decide +kernel) (z32_lit (by decide) (by decide)) ?_
  refine zx_icmp_lt (tgt := 31) dX10_make_25 (by decide) (fun h25 => ?_) (fun h25 => absurd (by omega) h25)
  refine zx_aload_n (i := 0) dX10_make_31 rfl rfl ?_
  refine zx_getfield dX10_make_32 zf_X10_24 h0 rfl ?_
  refine zx_iload_n (i := 1) dX10_make_35 rfl rfl ?_
  refine zx_iload_n (i := 2) dX10_make_36 rfl rfl ?_
  refine zx_iload_n (i := 3) dX10_make_37 rfl rfl ?_
  obtain ⟨w_1, hw_2⟩ : ∃ ww, ww = zput w tn (131, t, tTb 4 800 (N ++ [trow 4 c f s])) := ⟨_, rfl⟩
  have h_3 : w_1.1 tn = some (131, t, tTb 4 800 (N ++ [trow 4 c f s])) := by rw [hw_2]; exact zput_at
  refine zx_iv (b := tn) (As := [zI c, zI f, zI s]) (st := []) (v := (some (zI (N.length : Int)))) (w1 := w_1) dX10_make_38 zc_X10_30 hn (z_cls9 (by decide)) rfl rfl (Nat.le_of_ble_eq_true rfl) rfl (by rw [hw_2]; exact (c_X9_addS hn (by decide) okN (by omega) c f s)) ?_
  refine zx_st (st1 := [zI (N.length : Int)]) rfl ?_
  refine zx_istore (i := 5) dX10_make_41 (by decide) rfl ?_
  refine zx_L (L1 := [some (zR t), some (zI c), some (zI f), some (zI s), some (zI (tmFind N H c f s)), some (zI (N.length : Int)), none, none]) rfl ?_
  refine zx_iload_n (i := 1) dX10_make_43 rfl rfl ?_
  refine zx_iload_n (i := 2) dX10_make_44 rfl rfl ?_
  refine zx_pc (pc1 := 45) rfl ?_
  refine zx_iload_n (i := 3) dX10_make_45 rfl rfl ?_
  refine zx_is (As := [zI c, zI f, zI s]) (st := []) (v := (some (zI (tmCh c f s)))) (w1 := w_1) dX10_make_46 zc_X10_67 rfl (Nat.le_of_ble_eq_true rfl) rfl (c_X10_chainOf c f s) ?_
  refine zx_st (st1 := [zI (tmCh c f s)]) rfl ?_
  refine zx_istore (i := 6) dX10_make_49 (by decide) rfl ?_
  refine zx_L (L1 := [some (zR t), some (zI c), some (zI f), some (zI s), some (zI (tmFind N H c f s)), some (zI (N.length : Int)), some (zI (tmCh c f s)), none]) rfl ?_
  refine zx_aload_n (i := 0) dX10_make_51 rfl rfl ?_
  have h_4 : w_1.1 t = some (10, 0, [zI ty, zR tc, zR tn, zR th, zR tz]) := by
    rw [hw_2]; exact zput_tg hn h0 (by simp)
  refine zx_getfield dX10_make_52 zf_X10_24 h_4 rfl ?_
  refine zx_iload (i := 5) dX10_make_55 rfl ?_
  refine zx_iconst (v := 3) dX10_make_57 rfl (z32_lit (by decide) (by decide)) ?_
  refine zx_aload_n (i := 0) dX10_make_58 rfl rfl ?_
  refine zx_getfield dX10_make_59 zf_X10_27 h_4 rfl ?_
  refine zx_iload (i := 6) dX10_make_62 rfl ?_
  refine zx_iconst (v := 0) dX10_make_64 rfl (z32_lit (by decide) (by decide)) ?_
  have h_5 : w_1.1 th = some (132, t, tTb 1 64 H) := by
    rw [hw_2]; exact zput_tg hn hh (by simp)
  refine zx_iv (b := th) (As := [zI (tmCh c f s), zI 0]) (st := [zI 3, zI (N.length : Int), zR tn]) (v := (some (zI (tg H (tmCh c f s) 0)))) (w1 := w_1) dX10_make_65 zc_X10_42 h_5 (z_cls9 (by decide)) rfl rfl (Nat.le_of_ble_eq_true rfl) rfl (c_X9_get h_5 (by decide) okH (tmCh c f s) 0) ?_
  refine zx_st (st1 := [zI (tg H (tmCh c f s) 0), zI 3, zI (N.length : Int), zR tn]) rfl ?_
  refine zx_pc (pc1 := 68) rfl ?_
  obtain ⟨w_6, hw_7⟩ : ∃ ww, ww = zput w_1 tn (131, t, tTb 4 800 (ts (N ++ [trow 4 c f s]) (N.length : Int) 3 (tg H (tmCh c f s) 0))) := ⟨_, rfl⟩
  have h_8 : w_6.1 tn = some (131, t, tTb 4 800 (ts (N ++ [trow 4 c f s]) (N.length : Int) 3 (tg H (tmCh c f s) 0))) := by rw [hw_7]; exact zput_at
  refine zx_iv (b := tn) (As := [zI (N.length : Int), zI 3, zI (tg H (tmCh c f s) 0)]) (st := []) (v := none) (w1 := w_6) dX10_make_68 zc_X10_73 h_3 (z_cls9 (by decide)) rfl rfl (Nat.le_of_ble_eq_true rfl) rfl (by rw [hw_7]; exact (c_X9_set h_3 (by decide) (tOk_app okN trow_len) (N.length : Int) 3 (tg H (tmCh c f s) 0))) ?_
  refine zx_st (st1 := []) rfl ?_
  refine zx_aload_n (i := 0) dX10_make_71 rfl rfl ?_
  have h_9 : w_6.1 t = some (10, 0, [zI ty, zR tc, zR tn, zR th, zR tz]) := by
    rw [hw_7]; exact zput_tg h_3 h_4 (by simp)
  refine zx_getfield dX10_make_72 zf_X10_27 h_9 rfl ?_
  refine zx_iload (i := 6) dX10_make_75 rfl ?_
  refine zx_iconst (v := 0) dX10_make_77 rfl (z32_lit (by decide) (by decide)) ?_
  refine zx_iload (i := 5) dX10_make_78 rfl ?_
  have h_10 : w_6.1 th = some (132, t, tTb 1 64 H) := by
    rw [hw_7]; exact zput_tg h_3 h_5 (by simp)
  obtain ⟨w_11, hw_12⟩ : ∃ ww, ww = zput w_6 th (132, t, tTb 1 64 (ts H (tmCh c f s) 0 (N.length : Int))) := ⟨_, rfl⟩
  have h_13 : w_11.1 th = some (132, t, tTb 1 64 (ts H (tmCh c f s) 0 (N.length : Int))) := by rw [hw_12]; exact zput_at
  refine zx_iv (b := th) (As := [zI (tmCh c f s), zI 0, zI (N.length : Int)]) (st := []) (v := none) (w1 := w_11) dX10_make_80 zc_X10_73 h_10 (z_cls9 (by decide)) rfl rfl (Nat.le_of_ble_eq_true rfl) rfl (by rw [hw_12]; exact (c_X9_set h_10 (by decide) okH (tmCh c f s) 0 (N.length : Int))) ?_
  refine zx_st (st1 := []) rfl ?_
  refine zx_iload (i := 5) dX10_make_83 rfl ?_
  refine zx_if_lt (tgt := 144) dX10_make_85 (by decide) (fun h85 => absurd h85 (by omega)) (fun h85 => ?_)
  refine zx_iload (i := 5) dX10_make_88 rfl ?_
  refine zx_aload_n (i := 0) dX10_make_90 rfl rfl ?_
  have h_14 : w_11.1 t = some (10, 0, [zI ty, zR tc, zR tn, zR th, zR tz]) := by
    rw [hw_12]; exact zput_tg h_10 h_9 (by simp)
  refine zx_getfield dX10_make_91 zf_X10_34 h_14 rfl ?_
  refine zx_pc (pc1 := 94) rfl ?_
  have h_15 : w_1.1 tz = some (120, t, S.map zJ) := by
    rw [hw_2]; exact zput_tg hn hz (by simp)
  have h_16 : w_6.1 tz = some (120, t, S.map zJ) := by
    rw [hw_7]; exact zput_tg h_3 h_15 (by simp)
  have h_17 : w_11.1 tz = some (120, t, S.map zJ) := by
    rw [hw_12]; exact zput_tg h_10 h_16 (by simp)
  refine zx_alen (n := 200) dX10_make_94 h_17 (by first | decide | omega) (by rw [List.length_map]; exact hS) (by decide) ?_
  refine zx_icmp_ge (tgt := 144) dX10_make_95 (by decide) (fun h95 => absurd h95 (by omega)) (fun h95 => ?_)
  refine zx_aload_n (i := 0) dX10_make_98 rfl rfl ?_
  refine zx_iload_n (i := 1) dX10_make_99 rfl rfl ?_
  have h_18 : w_1.1 tc = some (130, t, tTb 3 30 C) := by
    rw [hw_2]; exact zput_tg hn hc (by simp)
  have h_19 : w_6.1 tc = some (130, t, tTb 3 30 C) := by
    rw [hw_7]; exact zput_tg h_3 h_18 (by simp)
  have h_20 : w_11.1 tc = some (130, t, tTb 3 30 C) := by
    rw [hw_12]; exact zput_tg h_10 h_19 (by simp)
  have h_21 : w_11.1 tn = some (131, t, tTb 4 800 (ts (N ++ [trow 4 c f s]) (N.length : Int) 3 (tg H (tmCh c f s) 0))) := by
    rw [hw_12]; exact zput_tg h_10 h_8 (by simp)
  refine zx_iv (b := t) (As := [zI c]) (st := []) (v := (some (zI (tmPc C c)))) (w1 := w_11) dX10_make_100 zc_X10_46 h_14 rfl rfl rfl (Nat.le_of_ble_eq_true rfl) rfl (c_X10_partCount ⟨h_14, ⟨h_20, okC⟩, ⟨h_21, (tOk_ts (tOk_app okN trow_len))⟩, ⟨h_13, (tOk_ts okH)⟩, h_17, hS⟩ c) ?_
  refine zx_st (st1 := [zI (tmPc C c)]) rfl ?_
  refine zx_istore (i := 7) dX10_make_103 (by decide) rfl ?_
  refine zx_L (L1 := [some (zR t), some (zI c), some (zI f), some (zI s), some (zI (tmFind N H c f s)), some (zI (N.length : Int)), some (zI (tmCh c f s)), some (zI (tmPc C c))]) rfl ?_
  refine zx_aload_n (i := 0) dX10_make_105 rfl rfl ?_
  refine zx_getfield dX10_make_106 zf_X10_34 h_14 rfl ?_
  refine zx_iload (i := 5) dX10_make_109 rfl ?_
  refine zx_lconst (v := 1) dX10_make_111 (by decide +kernel) ⟨by decide, by decide⟩ ?_
  refine zx_iload (i := 7) dX10_make_112 rfl ?_
  refine zx_if_le (tgt := 125) dX10_make_114 (by decide) (fun h114 => ?_) (fun h114 => ?_)
  · refine zx_pc (pc1 := 125) rfl ?_
    refine zx_lconst (v := 0) dX10_make_125 (by decide +kernel) ⟨by decide, by decide⟩ ?_
    refine zx_ladd (v := zwl (1 + 0)) dX10_make_126 rfl ?_
    refine zx_iload (i := 7) dX10_make_127 rfl ?_
    refine zx_iconst (v := 1) dX10_make_129 rfl (z32_lit (by decide) (by decide)) ?_
    refine zx_icmp_le (tgt := 141) dX10_make_130 (by decide) (fun h130 => ?_) (fun h130 => ?_)
    · refine zx_lconst (v := 0) dX10_make_141 (by decide +kernel) ⟨by decide, by decide⟩ ?_
      refine zx_ladd (v := zwl ((zwl (1 + 0)) + 0)) dX10_make_142 rfl ?_
      obtain ⟨w_22, hw_23⟩ : ∃ ww, ww = zput w_11 tz (120, t, (S.set N.length (zwl ((zwl (1 + 0)) + 0))).map zJ) := ⟨_, rfl⟩
      refine zx_las (w1 := w_22) dX10_make_143 h_17 (by first | decide | omega) (by omega) (by rw [List.length_map]; omega) (by rw [hw_23, Int.toNat_natCast, List.map_set]) ?_
      have h_24 : w_22.1 tz = some (120, t, (S.set N.length (zwl ((zwl (1 + 0)) + 0))).map zJ) := by rw [hw_23]; exact zput_at
      refine zx_iload (i := 5) dX10_make_144 rfl ?_
      refine zx_iret dX10_make_146 rfl ?_
      have e : tmNs C S c f s = (zwl ((zwl (1 + 0)) + 0)) := by
        unfold tmNs
        first | (exfalso; omega) | rw [if_pos (by omega), if_pos (by omega)] | rw [if_pos (by omega), if_neg (by omega)] | rw [if_neg (by omega), if_neg (by omega)] | rw [if_neg (by omega), if_pos (by omega)]
      exact zr_v rfl (by rw [e, hw_23, hw_12, hw_7, hw_2, zput_put, tmN_new])
    · refine zx_aload_n (i := 0) dX10_make_133 rfl rfl ?_
      refine zx_iload_n (i := 3) dX10_make_134 rfl rfl ?_
      refine zx_iv (b := t) (As := [zI s]) (st := [zJ (zwl (1 + 0)), zI (N.length : Int), zR tz]) (v := (some (zJ (tmSz S s)))) (w1 := w_11) dX10_make_135 zc_X10_77 h_14 rfl rfl rfl (Nat.le_of_ble_eq_true rfl) rfl (c_X10_size ⟨h_14, ⟨h_20, okC⟩, ⟨h_21, (tOk_ts (tOk_app okN trow_len))⟩, ⟨h_13, (tOk_ts okH)⟩, h_17, hS⟩ s) ?_
      refine zx_st (st1 := [zJ (tmSz S s), zJ (zwl (1 + 0)), zI (N.length : Int), zR tz]) rfl ?_
      refine zx_goto (tgt := 142) dX10_make_138 (by decide) ?_
      refine zx_ladd (v := zwl ((zwl (1 + 0)) + (tmSz S s))) dX10_make_142 rfl ?_
      obtain ⟨w_25, hw_26⟩ : ∃ ww, ww = zput w_11 tz (120, t, (S.set N.length (zwl ((zwl (1 + 0)) + (tmSz S s)))).map zJ) := ⟨_, rfl⟩
      refine zx_las (w1 := w_25) dX10_make_143 h_17 (by first | decide | omega) (by omega) (by rw [List.length_map]; omega) (by rw [hw_26, Int.toNat_natCast, List.map_set]) ?_
      have h_27 : w_25.1 tz = some (120, t, (S.set N.length (zwl ((zwl (1 + 0)) + (tmSz S s)))).map zJ) := by rw [hw_26]; exact zput_at
      refine zx_iload (i := 5) dX10_make_144 rfl ?_
      refine zx_pc (pc1 := 146) rfl ?_
      refine zx_iret dX10_make_146 rfl ?_
      have e : tmNs C S c f s = (zwl ((zwl (1 + 0)) + (tmSz S s))) := by
        unfold tmNs
        first | (exfalso; omega) | rw [if_pos (by omega), if_pos (by omega)] | rw [if_pos (by omega), if_neg (by omega)] | rw [if_neg (by omega), if_neg (by omega)] | rw [if_neg (by omega), if_pos (by omega)]
      exact zr_v rfl (by rw [e, hw_26, hw_12, hw_7, hw_2, zput_put, tmN_new])
  · refine zx_pc (pc1 := 117) rfl ?_
    refine zx_aload_n (i := 0) dX10_make_117 rfl rfl ?_
    refine zx_iload_n (i := 2) dX10_make_118 rfl rfl ?_
    refine zx_iv (b := t) (As := [zI f]) (st := [zJ 1, zI (N.length : Int), zR tz]) (v := (some (zJ (tmSz S f)))) (w1 := w_11) dX10_make_119 zc_X10_77 h_14 rfl rfl rfl (Nat.le_of_ble_eq_true rfl) rfl (c_X10_size ⟨h_14, ⟨h_20, okC⟩, ⟨h_21, (tOk_ts (tOk_app okN trow_len))⟩, ⟨h_13, (tOk_ts okH)⟩, h_17, hS⟩ f) ?_
    refine zx_st (st1 := [zJ (tmSz S f), zJ 1, zI (N.length : Int), zR tz]) rfl ?_
    refine zx_goto (tgt := 126) dX10_make_122 (by decide) ?_
    refine zx_ladd (v := zwl (1 + (tmSz S f))) dX10_make_126 rfl ?_
    refine zx_iload (i := 7) dX10_make_127 rfl ?_
    refine zx_iconst (v := 1) dX10_make_129 rfl (z32_lit (by decide) (by decide)) ?_
    refine zx_icmp_le (tgt := 141) dX10_make_130 (by decide) (fun h130 => ?_) (fun h130 => ?_)
    · refine zx_lconst (v := 0) dX10_make_141 (by decide +kernel) ⟨by decide, by decide⟩ ?_
      refine zx_ladd (v := zwl ((zwl (1 + (tmSz S f))) + 0)) dX10_make_142 rfl ?_
      obtain ⟨w_28, hw_29⟩ : ∃ ww, ww = zput w_11 tz (120, t, (S.set N.length (zwl ((zwl (1 + (tmSz S f))) + 0))).map zJ) := ⟨_, rfl⟩
      refine zx_las (w1 := w_28) dX10_make_143 h_17 (by first | decide | omega) (by omega) (by rw [List.length_map]; omega) (by rw [hw_29, Int.toNat_natCast, List.map_set]) ?_
      have h_30 : w_28.1 tz = some (120, t, (S.set N.length (zwl ((zwl (1 + (tmSz S f))) + 0))).map zJ) := by rw [hw_29]; exact zput_at
      refine zx_iload (i := 5) dX10_make_144 rfl ?_
      refine zx_pc (pc1 := 146) rfl ?_
      refine zx_iret dX10_make_146 rfl ?_
      have e : tmNs C S c f s = (zwl ((zwl (1 + (tmSz S f))) + 0)) := by
        unfold tmNs
        first | (exfalso; omega) | rw [if_pos (by omega), if_pos (by omega)] | rw [if_pos (by omega), if_neg (by omega)] | rw [if_neg (by omega), if_neg (by omega)] | rw [if_neg (by omega), if_pos (by omega)]
      exact zr_v rfl (by rw [e, hw_29, hw_12, hw_7, hw_2, zput_put, tmN_new])
    · refine zx_aload_n (i := 0) dX10_make_133 rfl rfl ?_
      refine zx_iload_n (i := 3) dX10_make_134 rfl rfl ?_
      refine zx_iv (b := t) (As := [zI s]) (st := [zJ (zwl (1 + (tmSz S f))), zI (N.length : Int), zR tz]) (v := (some (zJ (tmSz S s)))) (w1 := w_11) dX10_make_135 zc_X10_77 h_14 rfl rfl rfl (Nat.le_of_ble_eq_true rfl) rfl (c_X10_size ⟨h_14, ⟨h_20, okC⟩, ⟨h_21, (tOk_ts (tOk_app okN trow_len))⟩, ⟨h_13, (tOk_ts okH)⟩, h_17, hS⟩ s) ?_
      refine zx_st (st1 := [zJ (tmSz S s), zJ (zwl (1 + (tmSz S f))), zI (N.length : Int), zR tz]) rfl ?_
      refine zx_goto (tgt := 142) dX10_make_138 (by decide) ?_
      refine zx_pc (pc1 := 142) rfl ?_
      refine zx_ladd (v := zwl ((zwl (1 + (tmSz S f))) + (tmSz S s))) dX10_make_142 rfl ?_
      obtain ⟨w_31, hw_32⟩ : ∃ ww, ww = zput w_11 tz (120, t, (S.set N.length (zwl ((zwl (1 + (tmSz S f))) + (tmSz S s)))).map zJ) := ⟨_, rfl⟩
      refine zx_las (w1 := w_31) dX10_make_143 h_17 (by first | decide | omega) (by omega) (by rw [List.length_map]; omega) (by rw [hw_32, Int.toNat_natCast, List.map_set]) ?_
      have h_33 : w_31.1 tz = some (120, t, (S.set N.length (zwl ((zwl (1 + (tmSz S f))) + (tmSz S s)))).map zJ) := by rw [hw_32]; exact zput_at
      refine zx_iload (i := 5) dX10_make_144 rfl ?_
      refine zx_iret dX10_make_146 rfl ?_
      have e : tmNs C S c f s = (zwl ((zwl (1 + (tmSz S f))) + (tmSz S s))) := by
        unfold tmNs
        first | (exfalso; omega) | rw [if_pos (by omega), if_pos (by omega)] | rw [if_pos (by omega), if_neg (by omega)] | rw [if_neg (by omega), if_neg (by omega)] | rw [if_neg (by omega), if_pos (by omega)]
      exact zr_v rfl (by rw [e, hw_32, hw_12, hw_7, hw_2, zput_put, tmN_new])
def tmFg (cnt : Int) : Nat → List (List Int) → List (List Int) → List (List Int) × List (List Int)
  | 0, N, H => (N, H)
  | k + 1, N, H => if cnt ≤ (N.length : Int) - 1 ∧ 0 ≤ (N.length : Int) - 1 then tmFg cnt k (tcut N ((N.length : Int) - 1)) (ts H (tmCh (tg N ((N.length : Int) - 1) 0) (tmPt N ((N.length : Int) - 1) 0) (tmPt N ((N.length : Int) - 1) 1)) 0 (tg N ((N.length : Int) - 1) 3)) else (N, H)
theorem tmFg_s {cnt : Int} {k : Nat} {N H : List (List Int)} (h : cnt ≤ (N.length : Int) - 1 ∧ 0 ≤ (N.length : Int) - 1) : tmFg cnt (k + 1) N H = tmFg cnt k (tcut N ((N.length : Int) - 1)) (ts H (tmCh (tg N ((N.length : Int) - 1) 0) (tmPt N ((N.length : Int) - 1) 0) (tmPt N ((N.length : Int) - 1) 1)) 0 (tg N ((N.length : Int) - 1) 3)) := if_pos h
theorem tmFg_z {cnt : Int} {k : Nat} {N H : List (List Int)} (h : ¬ (cnt ≤ (N.length : Int) - 1 ∧ 0 ≤ (N.length : Int) - 1)) : tmFg cnt k N H = (N, H) := by
  cases k
  · rfl
  · exact if_neg h
theorem tcut_len {N : List (List Int)} (h : 0 ≤ (N.length : Int) - 1) : ((tcut N ((N.length : Int) - 1)).length : Int) = (N.length : Int) - 1 := by
  unfold tcut
  rw [if_pos h, List.length_take]
  omega
theorem z_two {w : zW} {a b : Nat} {x y x2 y2 : zO} (h : a ≠ b) : zput (zput (zput (zput w a x) b y) b y2) a x2 = zput (zput w a x2) b y2 := by
  rw [zput_put]
  unfold zput zup
  refine Prod.ext ?_ rfl
  funext c
  by_cases c1 : c = a
  · subst c1; simp [h]
  · by_cases c2 : c = b
    · subst c2; simp [c1]
    · simp [c1, c2]
theorem c_X10_forgetFrom (hT : tmW w t tc tn th tz ty C N H S) (cnt : Int) (hN : N.length ≤ 200) : zM G zm_X10_forgetFrom (d + 3) [zR t, zI cnt] w (zRet none (zput (zput w tn (131, t, tTb 4 800 (tmFg cnt N.length N H).1)) th (132, t, tTb 1 64 (tmFg cnt N.length N H).2))) := by
  refine zx_ent (by decide +kernel) rfl (Nat.le_of_ble_eq_true rfl) ?_
  obtain ⟨h0, ⟨hc, okC⟩, ⟨hn, okN⟩, ⟨hh, okH⟩, hz, hS⟩ := hT
  have hnh : tn ≠ th := fun e => by rw [e, hh] at hn; simp at hn
  have loop : ∀ (n : Nat) (N1 H1 : List (List Int)), tOk 4 N1 → tOk 1 H1 → ∀ o3 : Option zV, N1.length ≤ n ∧ n ≤ 200 → ∀ w1, w1 = zput (zput w tn (131, t, tTb 4 800 N1)) th (132, t, tTb 1 64 H1) → ∀ x, x = (N1.length : Int) - 1 → zX G zm_X10_forgetFrom (d + 3) [zR t, zI cnt] w (zRet none (zput (zput w tn (131, t, tTb 4 800 (tmFg cnt n N1 H1).1)) th (132, t, tTb 1 64 (tmFg cnt n N1 H1).2))) 10 [some (zR t), some (zI cnt), some (zI x), o3] [] w1 := by
    intro n
    induction n with
    | zero =>
      intro N1 H1 ok1 ok2 o3 hl w1 hw x ex
      subst ex
      have hx : ¬ (cnt ≤ (N1.length : Int) - 1 ∧ 0 ≤ (N1.length : Int) - 1) := by omega
      rw [tmFg_z hx]
      refine zx_iload_n (i := 2) dX10_forgetFrom_10 rfl rfl ?_
      refine zx_iload_n (i := 1) dX10_forgetFrom_11 rfl rfl ?_
      refine zx_icmp_lt (tgt := 72) dX10_forgetFrom_12 (by decide) (fun h12 => ?_) (fun h12 => ?_)
      · refine zx_return dX10_forgetFrom_72 rfl ?_
        exact zr_n hw
      · refine zx_iload_n (i := 2) dX10_forgetFrom_15 rfl rfl ?_
        refine zx_if_lt (tgt := 72) dX10_forgetFrom_16 (by decide) (fun h16 => ?_) (fun h16 => ?_)
        · refine zx_return dX10_forgetFrom_72 rfl ?_
          exact zr_n hw
        · exact absurd hx (by omega)
    | succ n ih =>
      intro N1 H1 ok1 ok2 o3 hl w1 hw x ex
      subst ex
      by_cases hx : cnt ≤ (N1.length : Int) - 1 ∧ 0 ≤ (N1.length : Int) - 1
      · have gn : w1.1 tn = some (131, t, tTb 4 800 N1) := by rw [hw]; exact zput_to hnh zput_at
        have gh : w1.1 th = some (132, t, tTb 1 64 H1) := by rw [hw]; exact zput_at
        have g0 : w1.1 t = some (10, 0, [zI ty, zR tc, zR tn, zR th, zR tz]) := by rw [hw]; exact zput_to (zne_tg hh h0 (by simp)) (zput_tg hn h0 (by simp))
        have gc : w1.1 tc = some (130, t, tTb 3 30 C) := by rw [hw]; exact zput_to (zne_tg hh hc (by simp)) (zput_tg hn hc (by simp))
        have gz : w1.1 tz = some (120, t, S.map zJ) := by rw [hw]; exact zput_to (zne_tg hh hz (by simp)) (zput_tg hn hz (by simp))
        refine zx_iload_n (i := 2) dX10_forgetFrom_10 rfl rfl ?_
        refine zx_iload_n (i := 1) dX10_forgetFrom_11 rfl rfl ?_
        refine zx_icmp_lt (tgt := 72) dX10_forgetFrom_12 (by decide) (fun h12 => absurd h12 (by omega)) (fun h12 => ?_)
        refine zx_iload_n (i := 2) dX10_forgetFrom_15 rfl rfl ?_
        refine zx_if_lt (tgt := 72) dX10_forgetFrom_16 (by decide) (fun h16 => absurd h16 (by omega)) (fun h16 => ?_)
        refine zx_aload_n (i := 0) dX10_forgetFrom_19 rfl rfl ?_
        refine zx_iload_n (i := 2) dX10_forgetFrom_20 rfl rfl ?_
        refine zx_iv (b := t) (As := [zI ((N1.length : Int) - 1)]) (st := []) (v := (some (zI (tg N1 ((N1.length : Int) - 1) 0)))) (w1 := w1) dX10_forgetFrom_21 zc_X10_61 g0 rfl rfl rfl (Nat.le_of_ble_eq_true rfl) rfl (c_X10_headOf ⟨g0, ⟨gc, okC⟩, ⟨gn, ok1⟩, ⟨gh, ok2⟩, gz, hS⟩ ((N1.length : Int) - 1)) ?_
        refine zx_st (st1 := [zI (tg N1 ((N1.length : Int) - 1) 0)]) rfl ?_
        refine zx_aload_n (i := 0) dX10_forgetFrom_24 rfl rfl ?_
        refine zx_iload_n (i := 2) dX10_forgetFrom_25 rfl rfl ?_
        refine zx_iconst (v := 0) dX10_forgetFrom_26 rfl (z32_lit (by decide) (by decide)) ?_
        refine zx_pc (pc1 := 27) rfl ?_
        refine zx_iv (b := t) (As := [zI ((N1.length : Int) - 1), zI 0]) (st := [zI (tg N1 ((N1.length : Int) - 1) 0)]) (v := (some (zI (tmPt N1 ((N1.length : Int) - 1) 0)))) (w1 := w1) dX10_forgetFrom_27 zc_X10_81 g0 rfl rfl rfl (Nat.le_of_ble_eq_true rfl) rfl (c_X10_part ⟨g0, ⟨gc, okC⟩, ⟨gn, ok1⟩, ⟨gh, ok2⟩, gz, hS⟩ ((N1.length : Int) - 1) 0) ?_
        refine zx_st (st1 := [zI (tmPt N1 ((N1.length : Int) - 1) 0), zI (tg N1 ((N1.length : Int) - 1) 0)]) rfl ?_
        refine zx_aload_n (i := 0) dX10_forgetFrom_30 rfl rfl ?_
        refine zx_iload_n (i := 2) dX10_forgetFrom_31 rfl rfl ?_
        refine zx_iconst (v := 1) dX10_forgetFrom_32 rfl (z32_lit (by decide) (by decide)) ?_
        refine zx_iv (b := t) (As := [zI ((N1.length : Int) - 1), zI 1]) (st := [zI (tmPt N1 ((N1.length : Int) - 1) 0), zI (tg N1 ((N1.length : Int) - 1) 0)]) (v := (some (zI (tmPt N1 ((N1.length : Int) - 1) 1)))) (w1 := w1) dX10_forgetFrom_33 zc_X10_81 g0 rfl rfl rfl (Nat.le_of_ble_eq_true rfl) rfl (c_X10_part ⟨g0, ⟨gc, okC⟩, ⟨gn, ok1⟩, ⟨gh, ok2⟩, gz, hS⟩ ((N1.length : Int) - 1) 1) ?_
        refine zx_st (st1 := [zI (tmPt N1 ((N1.length : Int) - 1) 1), zI (tmPt N1 ((N1.length : Int) - 1) 0), zI (tg N1 ((N1.length : Int) - 1) 0)]) rfl ?_
        refine zx_is (As := [zI (tg N1 ((N1.length : Int) - 1) 0), zI (tmPt N1 ((N1.length : Int) - 1) 0), zI (tmPt N1 ((N1.length : Int) - 1) 1)]) (st := []) (v := (some (zI (tmCh (tg N1 ((N1.length : Int) - 1) 0) (tmPt N1 ((N1.length : Int) - 1) 0) (tmPt N1 ((N1.length : Int) - 1) 1))))) (w1 := w1) dX10_forgetFrom_36 zc_X10_67 rfl (Nat.le_of_ble_eq_true rfl) rfl (c_X10_chainOf (tg N1 ((N1.length : Int) - 1) 0) (tmPt N1 ((N1.length : Int) - 1) 0) (tmPt N1 ((N1.length : Int) - 1) 1)) ?_
        refine zx_st (st1 := [zI (tmCh (tg N1 ((N1.length : Int) - 1) 0) (tmPt N1 ((N1.length : Int) - 1) 0) (tmPt N1 ((N1.length : Int) - 1) 1))]) rfl ?_
        refine zx_istore_n (i := 3) dX10_forgetFrom_39 rfl (by decide) rfl ?_
        refine zx_L (L1 := [some (zR t), some (zI cnt), some (zI ((N1.length : Int) - 1)), some (zI (tmCh (tg N1 ((N1.length : Int) - 1) 0) (tmPt N1 ((N1.length : Int) - 1) 0) (tmPt N1 ((N1.length : Int) - 1) 1)))]) rfl ?_
        refine zx_aload_n (i := 0) dX10_forgetFrom_40 rfl rfl ?_
        refine zx_getfield dX10_forgetFrom_41 zf_X10_27 g0 rfl ?_
        refine zx_iload_n (i := 3) dX10_forgetFrom_44 rfl rfl ?_
        refine zx_iconst (v := 0) dX10_forgetFrom_45 rfl (z32_lit (by decide) (by decide)) ?_
        refine zx_aload_n (i := 0) dX10_forgetFrom_46 rfl rfl ?_
        refine zx_pc (pc1 := 47) rfl ?_
        refine zx_getfield dX10_forgetFrom_47 zf_X10_24 g0 rfl ?_
        refine zx_iload_n (i := 2) dX10_forgetFrom_50 rfl rfl ?_
        refine zx_iconst (v := 3) dX10_forgetFrom_51 rfl (z32_lit (by decide) (by decide)) ?_
        refine zx_iv (b := tn) (As := [zI ((N1.length : Int) - 1), zI 3]) (st := [zI 0, zI (tmCh (tg N1 ((N1.length : Int) - 1) 0) (tmPt N1 ((N1.length : Int) - 1) 0) (tmPt N1 ((N1.length : Int) - 1) 1)), zR th]) (v := (some (zI (tg N1 ((N1.length : Int) - 1) 3)))) (w1 := w1) dX10_forgetFrom_52 zc_X10_42 gn (z_cls9 (by decide)) rfl rfl (Nat.le_of_ble_eq_true rfl) rfl (c_X9_get gn (by decide) ok1 ((N1.length : Int) - 1) 3) ?_
        refine zx_st (st1 := [zI (tg N1 ((N1.length : Int) - 1) 3), zI 0, zI (tmCh (tg N1 ((N1.length : Int) - 1) 0) (tmPt N1 ((N1.length : Int) - 1) 0) (tmPt N1 ((N1.length : Int) - 1) 1)), zR th]) rfl ?_
        obtain ⟨w_1, hw_2⟩ : ∃ ww, ww = zput w1 th (132, t, tTb 1 64 (ts H1 (tmCh (tg N1 ((N1.length : Int) - 1) 0) (tmPt N1 ((N1.length : Int) - 1) 0) (tmPt N1 ((N1.length : Int) - 1) 1)) 0 (tg N1 ((N1.length : Int) - 1) 3))) := ⟨_, rfl⟩
        have h_3 : w_1.1 th = some (132, t, tTb 1 64 (ts H1 (tmCh (tg N1 ((N1.length : Int) - 1) 0) (tmPt N1 ((N1.length : Int) - 1) 0) (tmPt N1 ((N1.length : Int) - 1) 1)) 0 (tg N1 ((N1.length : Int) - 1) 3))) := by rw [hw_2]; exact zput_at
        refine zx_iv (b := th) (As := [zI (tmCh (tg N1 ((N1.length : Int) - 1) 0) (tmPt N1 ((N1.length : Int) - 1) 0) (tmPt N1 ((N1.length : Int) - 1) 1)), zI 0, zI (tg N1 ((N1.length : Int) - 1) 3)]) (st := []) (v := none) (w1 := w_1) dX10_forgetFrom_55 zc_X10_73 gh (z_cls9 (by decide)) rfl rfl (Nat.le_of_ble_eq_true rfl) rfl (by rw [hw_2]; exact (c_X9_set gh (by decide) ok2 (tmCh (tg N1 ((N1.length : Int) - 1) 0) (tmPt N1 ((N1.length : Int) - 1) 0) (tmPt N1 ((N1.length : Int) - 1) 1)) 0 (tg N1 ((N1.length : Int) - 1) 3))) ?_
        refine zx_st (st1 := []) rfl ?_
        refine zx_aload_n (i := 0) dX10_forgetFrom_58 rfl rfl ?_
        have h_4 : w_1.1 t = some (10, 0, [zI ty, zR tc, zR tn, zR th, zR tz]) := by
          rw [hw_2]; exact zput_tg gh g0 (by simp)
        refine zx_getfield dX10_forgetFrom_59 zf_X10_24 h_4 rfl ?_
        refine zx_iload_n (i := 2) dX10_forgetFrom_62 rfl rfl ?_
        have h_5 : w_1.1 tn = some (131, t, tTb 4 800 N1) := by
          rw [hw_2]; exact zput_tg gh gn (by simp)
        obtain ⟨w_6, hw_7⟩ : ∃ ww, ww = zput w_1 tn (131, t, tTb 4 800 (tcut N1 ((N1.length : Int) - 1))) := ⟨_, rfl⟩
        have h_8 : w_6.1 tn = some (131, t, tTb 4 800 (tcut N1 ((N1.length : Int) - 1))) := by rw [hw_7]; exact zput_at
        refine zx_iv (b := tn) (As := [zI ((N1.length : Int) - 1)]) (st := []) (v := none) (w1 := w_6) dX10_forgetFrom_63 zc_X10_84 h_5 (z_cls9 (by decide)) rfl rfl (Nat.le_of_ble_eq_true rfl) rfl (by rw [hw_7]; exact (c_X9_cut h_5 (by decide) ok1 ((N1.length : Int) - 1))) ?_
        refine zx_st (st1 := []) rfl ?_
        refine zx_iinc (i := 2) (v := ((N1.length : Int) - 1) + (-1)) dX10_forgetFrom_66 rfl (zw_id ⟨by omega, by omega⟩) (by decide) rfl ?_
        refine zx_L (L1 := [some (zR t), some (zI cnt), some (zI (((N1.length : Int) - 1) + (-1))), some (zI (tmCh (tg N1 ((N1.length : Int) - 1) 0) (tmPt N1 ((N1.length : Int) - 1) 0) (tmPt N1 ((N1.length : Int) - 1) 1)))]) rfl ?_
        refine zx_goto (tgt := 10) dX10_forgetFrom_69 (by decide) ?_
        rw [tmFg_s hx]
        exact ih _ _ (tOk_cut ok1) (tOk_ts ok2) _ (by have := tcut_len hx.2; omega) _ (by rw [hw_7, hw_2, hw, z_two hnh]) _ (by have := tcut_len hx.2; omega)
      · rw [tmFg_z hx]
        refine zx_iload_n (i := 2) dX10_forgetFrom_10 rfl rfl ?_
        refine zx_iload_n (i := 1) dX10_forgetFrom_11 rfl rfl ?_
        refine zx_icmp_lt (tgt := 72) dX10_forgetFrom_12 (by decide) (fun h12 => ?_) (fun h12 => ?_)
        · refine zx_return dX10_forgetFrom_72 rfl ?_
          exact zr_n hw
        · refine zx_iload_n (i := 2) dX10_forgetFrom_15 rfl rfl ?_
          refine zx_if_lt (tgt := 72) dX10_forgetFrom_16 (by decide) (fun h16 => ?_) (fun h16 => ?_)
          · refine zx_return dX10_forgetFrom_72 rfl ?_
            exact zr_n hw
          · exact absurd hx (by omega)
  refine zx_L (L1 := [some (zR t), some (zI cnt), none, none]) rfl ?_
  refine zx_aload_n (i := 0) dX10_forgetFrom_0 rfl rfl ?_
  refine zx_getfield dX10_forgetFrom_1 zf_X10_24 h0 rfl ?_
  refine zx_iv (b := tn) (As := []) (st := []) (v := (some (zI (N.length : Int)))) (w1 := w) dX10_forgetFrom_4 zc_X10_38 hn (z_cls9 (by decide)) rfl rfl (Nat.le_of_ble_eq_true rfl) rfl (c_X9_count hn (by decide) okN) ?_
  refine zx_st (st1 := [zI (N.length : Int)]) rfl ?_
  refine zx_iconst (v := 1) dX10_forgetFrom_7 rfl (z32_lit (by decide) (by decide)) ?_
  refine zx_isub (v := (N.length : Int) - 1) dX10_forgetFrom_8 (zw_id ⟨by omega, by omega⟩) ?_
  refine zx_istore_n (i := 2) dX10_forgetFrom_9 rfl (by decide) rfl ?_
  refine zx_L (L1 := [some (zR t), some (zI cnt), some (zI ((N.length : Int) - 1)), none]) rfl ?_
  exact loop N.length N H okN okH none (by omega) w (by rw [zput_id hn, zput_id hh]) _ rfl
theorem tOk_nil {c : Nat} (h : 0 < c) : tOk c [] := ⟨h, fun _ hx => by cases hx⟩
theorem tOk_rep {c k : Nat} {r : List Int} (h : 0 < c) (hr : r.length = c) : tOk c (List.replicate k r) := ⟨h, fun x hx => by rw [(List.mem_replicate.mp hx).2]; exact hr⟩
theorem c_X10_init {t : Nat} (h0 : w.1 t = some (10, 0, [zI 0, zN, zN, zN, zN])) (r1 : w.2.1 + 7 ≤ G.2.2.2.2.1) (r2 : w.2.2 + 1103 ≤ G.2.2.2.2.2) : zM G zm_X10_init (d + 3) [zR t] w (zVoid fun w' => tmW w' t w.2.1 (w.2.1 + 2) (w.2.1 + 4) (w.2.1 + 6) 0 [] [] (List.replicate 64 [-1]) (List.replicate 200 0) ∧ w'.2.1 = w.2.1 + 7 ∧ w'.2.2 = w.2.2 + 1103 ∧ ∀ b ob, b ≠ t → w.1 b = some ob → w'.1 b = some ob) := by
  refine zx_ent (by decide +kernel) rfl (Nat.le_of_ble_eq_true rfl) ?_
  refine zx_ok (fun ok0 => ?_)
  have ht0 : t < w.2.1 := ok0 _ _ h0
  refine zx_L (L1 := [some (zR t), none]) rfl ?_
  refine zx_aload_n (i := 0) dX10_init_0 rfl rfl ?_
  refine zx_objInit dX10_init_1 zo_X10_3 zk_oi1 zk_oi2 (Nat.le_of_ble_eq_true rfl) ?_
  refine zx_aload_n (i := 0) dX10_init_4 rfl rfl ?_
  refine zx_iconst (v := 0) dX10_init_5 rfl (z32_lit (by decide) (by decide)) ?_
  obtain ⟨w_1, hw_2⟩ : ∃ ww, ww = zput w t (10, 0, [zI 0, zN, zN, zN, zN]) := ⟨_, rfl⟩
  refine zx_put (w1 := w_1) dX10_init_6 zf_X10_9 h0 (Nat.le_of_ble_eq_true rfl) (zFt_int _) (fun h => by cases h) hw_2.symm ?_
  have q_3 : w_1.2.1 = w.2.1 ∧ w_1.2.2 = w.2.2 := by rw [hw_2]; exact ⟨rfl, rfl⟩
  have h_4 : w_1.1 t = some (10, 0, [zI 0, zN, zN, zN, zN]) := by rw [hw_2]; exact zput_at
  refine zx_aload_n (i := 0) dX10_init_9 rfl rfl ?_
  refine zx_ok (fun ok_5 => ?_)
  refine zx_new dX10_init_10 zn_X10_15 (by omega) (by omega) ?_
  obtain ⟨w_6, hw_7⟩ : ∃ ww, ww = znew w_1 (9, 0, [zI 0, zN, zI 0]) 3 := ⟨_, rfl⟩
  obtain ⟨a_8, ha_9⟩ : ∃ ww, ww = w_1.2.1 := ⟨_, rfl⟩
  rw [← hw_7, ← ha_9]
  have q_10 : w_6.2.1 = w_1.2.1 + 1 ∧ w_6.2.2 = w_1.2.2 + 3 := by rw [hw_7]; exact ⟨rfl, rfl⟩
  have h_11 : w_6.1 a_8 = some (9, 0, [zI 0, zN, zI 0]) := by rw [hw_7, ha_9]; exact znew_at
  refine zx_dup dX10_init_13 (fun a h => by cases h) ?_
  refine zx_iconst (v := 3) dX10_init_14 rfl (z32_lit (by decide) (by decide)) ?_
  refine zx_bipush (v := 10) dX10_init_15 (by decide +kernel) (z32_lit (by decide) (by decide)) ?_
  refine zx_ok (fun ok_12 => ?_)
  obtain ⟨w_13, hw_14⟩ : ∃ ww, ww = znew w_6 (199, a_8, []) 30 := ⟨_, rfl⟩
  obtain ⟨a_15, ha_16⟩ : ∃ ww, ww = w_6.2.1 := ⟨_, rfl⟩
  have q_17 : w_13.2.1 = w_6.2.1 + 1 ∧ w_13.2.2 = w_6.2.2 + 30 := by rw [hw_14]; exact ⟨rfl, rfl⟩
  have h_18 : w_13.1 a_15 = some (199, a_8, []) := by rw [hw_14, ha_16]; exact znew_at
  have h_19 : w_13.1 a_8 = some (9, 0, [zI 0, zN, zI 0]) := by
    rw [hw_14]; exact znew_to (ok_12 _ _ h_11) h_11
  obtain ⟨w_20, hw_21⟩ : ∃ ww, ww = zput w_13 a_8 (130, t, tTb 3 30 []) := ⟨_, rfl⟩
  have q_22 : w_20.2.1 = w_13.2.1 ∧ w_20.2.2 = w_13.2.2 := by rw [hw_21]; exact ⟨rfl, rfl⟩
  have h_23 : w_20.1 a_8 = some (130, t, tTb 3 30 []) := by rw [hw_21]; exact zput_at
  refine zx_ic (b := a_8) (As := [zI 3, zI 10]) (st := [zR a_8, zR t]) (w1 := w_20) dX10_init_17 zc_X10_17 rfl (Nat.le_of_ble_eq_true rfl) rfl (by rw [hw_21]; (try rw [ha_16]); rw [hw_14]; exact (c_X9_init (c := 3) (rm := 10) 130 t h_11 (by decide) (by decide) (by decide) (by decide) (by decide) (by omega) (by omega))) ?_
  refine zx_pc (pc1 := 20) rfl ?_
  have h_24 : w_6.1 t = some (10, 0, [zI 0, zN, zN, zN, zN]) := by
    rw [hw_7]; exact znew_to (ok_5 _ _ h_4) h_4
  have h_25 : w_13.1 t = some (10, 0, [zI 0, zN, zN, zN, zN]) := by
    rw [hw_14]; exact znew_to (ok_12 _ _ h_24) h_24
  have h_26 : w_20.1 t = some (10, 0, [zI 0, zN, zN, zN, zN]) := by
    rw [hw_21]; exact zput_tg h_19 h_25 (by simp)
  obtain ⟨w_27, hw_28⟩ : ∃ ww, ww = zput w_20 t (10, 0, [zI 0, zR a_8, zN, zN, zN]) := ⟨_, rfl⟩
  refine zx_put (w1 := w_27) dX10_init_20 zf_X10_20 h_26 (Nat.le_of_ble_eq_true rfl) (zFt_obj _ _) (fun _ => ⟨rfl, fun q h => by cases h; rfl⟩) hw_28.symm ?_
  have q_29 : w_27.2.1 = w_20.2.1 ∧ w_27.2.2 = w_20.2.2 := by rw [hw_28]; exact ⟨rfl, rfl⟩
  have h_30 : w_27.1 t = some (10, 0, [zI 0, zR a_8, zN, zN, zN]) := by rw [hw_28]; exact zput_at
  refine zx_aload_n (i := 0) dX10_init_23 rfl rfl ?_
  refine zx_ok (fun ok_31 => ?_)
  refine zx_new dX10_init_24 zn_X10_15 (by omega) (by omega) ?_
  obtain ⟨w_32, hw_33⟩ : ∃ ww, ww = znew w_27 (9, 0, [zI 0, zN, zI 0]) 3 := ⟨_, rfl⟩
  obtain ⟨a_34, ha_35⟩ : ∃ ww, ww = w_27.2.1 := ⟨_, rfl⟩
  rw [← hw_33, ← ha_35]
  have q_36 : w_32.2.1 = w_27.2.1 + 1 ∧ w_32.2.2 = w_27.2.2 + 3 := by rw [hw_33]; exact ⟨rfl, rfl⟩
  have h_37 : w_32.1 a_34 = some (9, 0, [zI 0, zN, zI 0]) := by rw [hw_33, ha_35]; exact znew_at
  refine zx_dup dX10_init_27 (fun a h => by cases h) ?_
  refine zx_iconst (v := 4) dX10_init_28 rfl (z32_lit (by decide) (by decide)) ?_
  refine zx_sipush (v := 200) dX10_init_29 (by decide +kernel) (z32_lit (by decide) (by decide)) ?_
  refine zx_ok (fun ok_38 => ?_)
  obtain ⟨w_39, hw_40⟩ : ∃ ww, ww = znew w_32 (199, a_34, []) 800 := ⟨_, rfl⟩
  obtain ⟨a_41, ha_42⟩ : ∃ ww, ww = w_32.2.1 := ⟨_, rfl⟩
  have q_43 : w_39.2.1 = w_32.2.1 + 1 ∧ w_39.2.2 = w_32.2.2 + 800 := by rw [hw_40]; exact ⟨rfl, rfl⟩
  have h_44 : w_39.1 a_41 = some (199, a_34, []) := by rw [hw_40, ha_42]; exact znew_at
  have h_45 : w_39.1 a_34 = some (9, 0, [zI 0, zN, zI 0]) := by
    rw [hw_40]; exact znew_to (ok_38 _ _ h_37) h_37
  obtain ⟨w_46, hw_47⟩ : ∃ ww, ww = zput w_39 a_34 (131, t, tTb 4 800 []) := ⟨_, rfl⟩
  have q_48 : w_46.2.1 = w_39.2.1 ∧ w_46.2.2 = w_39.2.2 := by rw [hw_47]; exact ⟨rfl, rfl⟩
  have h_49 : w_46.1 a_34 = some (131, t, tTb 4 800 []) := by rw [hw_47]; exact zput_at
  refine zx_ic (b := a_34) (As := [zI 4, zI 200]) (st := [zR a_34, zR t]) (w1 := w_46) dX10_init_32 zc_X10_17 rfl (Nat.le_of_ble_eq_true rfl) rfl (by rw [hw_47]; (try rw [ha_42]); rw [hw_40]; exact (c_X9_init (c := 4) (rm := 200) 131 t h_37 (by decide) (by decide) (by decide) (by decide) (by decide) (by omega) (by omega))) ?_
  have h_50 : w_32.1 t = some (10, 0, [zI 0, zR a_8, zN, zN, zN]) := by
    rw [hw_33]; exact znew_to (ok_31 _ _ h_30) h_30
  have h_51 : w_39.1 t = some (10, 0, [zI 0, zR a_8, zN, zN, zN]) := by
    rw [hw_40]; exact znew_to (ok_38 _ _ h_50) h_50
  have h_52 : w_46.1 t = some (10, 0, [zI 0, zR a_8, zN, zN, zN]) := by
    rw [hw_47]; exact zput_tg h_45 h_51 (by simp)
  obtain ⟨w_53, hw_54⟩ : ∃ ww, ww = zput w_46 t (10, 0, [zI 0, zR a_8, zR a_34, zN, zN]) := ⟨_, rfl⟩
  refine zx_put (w1 := w_53) dX10_init_35 zf_X10_24 h_52 (Nat.le_of_ble_eq_true rfl) (zFt_obj _ _) (fun _ => ⟨rfl, fun q h => by cases h; rfl⟩) hw_54.symm ?_
  have q_55 : w_53.2.1 = w_46.2.1 ∧ w_53.2.2 = w_46.2.2 := by rw [hw_54]; exact ⟨rfl, rfl⟩
  have h_56 : w_53.1 t = some (10, 0, [zI 0, zR a_8, zR a_34, zN, zN]) := by rw [hw_54]; exact zput_at
  refine zx_aload_n (i := 0) dX10_init_38 rfl rfl ?_
  refine zx_ok (fun ok_57 => ?_)
  refine zx_new dX10_init_39 zn_X10_15 (by omega) (by omega) ?_
  obtain ⟨w_58, hw_59⟩ : ∃ ww, ww = znew w_53 (9, 0, [zI 0, zN, zI 0]) 3 := ⟨_, rfl⟩
  obtain ⟨a_60, ha_61⟩ : ∃ ww, ww = w_53.2.1 := ⟨_, rfl⟩
  rw [← hw_59, ← ha_61]
  have q_62 : w_58.2.1 = w_53.2.1 + 1 ∧ w_58.2.2 = w_53.2.2 + 3 := by rw [hw_59]; exact ⟨rfl, rfl⟩
  have h_63 : w_58.1 a_60 = some (9, 0, [zI 0, zN, zI 0]) := by rw [hw_59, ha_61]; exact znew_at
  refine zx_dup dX10_init_42 (fun a h => by cases h) ?_
  refine zx_iconst (v := 1) dX10_init_43 rfl (z32_lit (by decide) (by decide)) ?_
  refine zx_pc (pc1 := 44) rfl ?_
  refine zx_bipush (v := 64) dX10_init_44 (by decide +kernel) (z32_lit (by decide) (by decide)) ?_
  refine zx_ok (fun ok_64 => ?_)
  obtain ⟨w_65, hw_66⟩ : ∃ ww, ww = znew w_58 (199, a_60, []) 64 := ⟨_, rfl⟩
  obtain ⟨a_67, ha_68⟩ : ∃ ww, ww = w_58.2.1 := ⟨_, rfl⟩
  have q_69 : w_65.2.1 = w_58.2.1 + 1 ∧ w_65.2.2 = w_58.2.2 + 64 := by rw [hw_66]; exact ⟨rfl, rfl⟩
  have h_70 : w_65.1 a_67 = some (199, a_60, []) := by rw [hw_66, ha_68]; exact znew_at
  have h_71 : w_65.1 a_60 = some (9, 0, [zI 0, zN, zI 0]) := by
    rw [hw_66]; exact znew_to (ok_64 _ _ h_63) h_63
  obtain ⟨w_72, hw_73⟩ : ∃ ww, ww = zput w_65 a_60 (132, t, tTb 1 64 []) := ⟨_, rfl⟩
  have q_74 : w_72.2.1 = w_65.2.1 ∧ w_72.2.2 = w_65.2.2 := by rw [hw_73]; exact ⟨rfl, rfl⟩
  have h_75 : w_72.1 a_60 = some (132, t, tTb 1 64 []) := by rw [hw_73]; exact zput_at
  refine zx_ic (b := a_60) (As := [zI 1, zI 64]) (st := [zR a_60, zR t]) (w1 := w_72) dX10_init_46 zc_X10_17 rfl (Nat.le_of_ble_eq_true rfl) rfl (by rw [hw_73]; (try rw [ha_68]); rw [hw_66]; exact (c_X9_init (c := 1) (rm := 64) 132 t h_63 (by decide) (by decide) (by decide) (by decide) (by decide) (by omega) (by omega))) ?_
  have h_76 : w_58.1 t = some (10, 0, [zI 0, zR a_8, zR a_34, zN, zN]) := by
    rw [hw_59]; exact znew_to (ok_57 _ _ h_56) h_56
  have h_77 : w_65.1 t = some (10, 0, [zI 0, zR a_8, zR a_34, zN, zN]) := by
    rw [hw_66]; exact znew_to (ok_64 _ _ h_76) h_76
  have h_78 : w_72.1 t = some (10, 0, [zI 0, zR a_8, zR a_34, zN, zN]) := by
    rw [hw_73]; exact zput_tg h_71 h_77 (by simp)
  obtain ⟨w_79, hw_80⟩ : ∃ ww, ww = zput w_72 t (10, 0, [zI 0, zR a_8, zR a_34, zR a_60, zN]) := ⟨_, rfl⟩
  refine zx_put (w1 := w_79) dX10_init_49 zf_X10_27 h_78 (Nat.le_of_ble_eq_true rfl) (zFt_obj _ _) (fun _ => ⟨rfl, fun q h => by cases h; rfl⟩) hw_80.symm ?_
  have q_81 : w_79.2.1 = w_72.2.1 ∧ w_79.2.2 = w_72.2.2 := by rw [hw_80]; exact ⟨rfl, rfl⟩
  have h_82 : w_79.1 t = some (10, 0, [zI 0, zR a_8, zR a_34, zR a_60, zN]) := by rw [hw_80]; exact zput_at
  refine zx_iconst (v := 0) dX10_init_52 rfl (z32_lit (by decide) (by decide)) ?_
  refine zx_istore_n (i := 1) dX10_init_53 rfl (by decide) rfl ?_
  refine zx_L (L1 := [some (zR t), some (zI 0)]) rfl ?_
  have h_83 : w_79.1 a_60 = some (132, t, tTb 1 64 []) := by
    rw [hw_80]; exact zput_tg h_78 h_75 (by simp)
  have h_84 : w_27.1 a_8 = some (130, t, tTb 3 30 []) := by
    rw [hw_28]; exact zput_tg h_26 h_23 (by simp)
  have h_85 : w_32.1 a_8 = some (130, t, tTb 3 30 []) := by
    rw [hw_33]; exact znew_to (ok_31 _ _ h_84) h_84
  have h_86 : w_39.1 a_8 = some (130, t, tTb 3 30 []) := by
    rw [hw_40]; exact znew_to (ok_38 _ _ h_85) h_85
  have h_87 : w_46.1 a_8 = some (130, t, tTb 3 30 []) := by
    rw [hw_47]; exact zput_tg h_45 h_86 (by simp)
  have h_88 : w_53.1 a_8 = some (130, t, tTb 3 30 []) := by
    rw [hw_54]; exact zput_tg h_52 h_87 (by simp)
  have h_89 : w_58.1 a_8 = some (130, t, tTb 3 30 []) := by
    rw [hw_59]; exact znew_to (ok_57 _ _ h_88) h_88
  have h_90 : w_65.1 a_8 = some (130, t, tTb 3 30 []) := by
    rw [hw_66]; exact znew_to (ok_64 _ _ h_89) h_89
  have h_91 : w_72.1 a_8 = some (130, t, tTb 3 30 []) := by
    rw [hw_73]; exact zput_tg h_71 h_90 (by simp)
  have h_92 : w_79.1 a_8 = some (130, t, tTb 3 30 []) := by
    rw [hw_80]; exact zput_tg h_78 h_91 (by simp)
  have h_93 : w_53.1 a_34 = some (131, t, tTb 4 800 []) := by
    rw [hw_54]; exact zput_tg h_52 h_49 (by simp)
  have h_94 : w_58.1 a_34 = some (131, t, tTb 4 800 []) := by
    rw [hw_59]; exact znew_to (ok_57 _ _ h_93) h_93
  have h_95 : w_65.1 a_34 = some (131, t, tTb 4 800 []) := by
    rw [hw_66]; exact znew_to (ok_64 _ _ h_94) h_94
  have h_96 : w_72.1 a_34 = some (131, t, tTb 4 800 []) := by
    rw [hw_73]; exact zput_tg h_71 h_95 (by simp)
  have h_97 : w_79.1 a_34 = some (131, t, tTb 4 800 []) := by
    rw [hw_80]; exact zput_tg h_78 h_96 (by simp)
  have loop : ∀ n k : Nat, k + n = 64 → ∀ w1, w1 = zput w_79 a_60 (132, t, tTb 1 64 (List.replicate k [-1])) → zX G zm_X10_init (d + 3) [zR t] w (zVoid fun w' => tmW w' t w.2.1 (w.2.1 + 2) (w.2.1 + 4) (w.2.1 + 6) 0 [] [] (List.replicate 64 [-1]) (List.replicate 200 0) ∧ w'.2.1 = w.2.1 + 7 ∧ w'.2.2 = w.2.2 + 1103 ∧ ∀ b ob, b ≠ t → w.1 b = some ob → w'.1 b = some ob) 54 [some (zR t), some (zI (k : Int))] [] w1 := by
    intro n
    induction n with
    | zero =>
      intro k hk w1 hw1
      have g1 : w1.1 a_60 = some (132, t, tTb 1 64 (List.replicate k [-1])) := by rw [hw1]; exact zput_at
      have g2 : w1.2.1 = w_79.2.1 ∧ w1.2.2 = w_79.2.2 := by rw [hw1]; exact ⟨rfl, rfl⟩
      have ek : k = 64 := by omega
      subst ek
      refine zx_iload_n (i := 1) dX10_init_54 rfl rfl ?_
      refine zx_bipush (v := 64) dX10_init_55 (by decide +kernel) (z32_lit (by decide) (by decide)) ?_
      refine zx_icmp_ge (tgt := 77) dX10_init_57 (by decide) (fun h57 => ?_) (fun h57 => absurd (by decide) h57)
      refine zx_aload_n (i := 0) dX10_init_77 rfl rfl ?_
      refine zx_sipush (v := 200) dX10_init_78 (by decide +kernel) (z32_lit (by decide) (by decide)) ?_
      refine zx_ok (fun ok_98 => ?_)
      refine zx_newarrayL (n := 200) dX10_init_81 zk_longs rfl (by first | decide | omega) (by omega) (by omega) ?_
      obtain ⟨w_99, hw_100⟩ : ∃ ww, ww = znew w1 (120, 0, List.replicate 200 (zJ 0)) 200 := ⟨_, rfl⟩
      obtain ⟨a_101, ha_102⟩ : ∃ ww, ww = w1.2.1 := ⟨_, rfl⟩
      rw [← hw_100, ← ha_102]
      have q_103 : w_99.2.1 = w1.2.1 + 1 ∧ w_99.2.2 = w1.2.2 + 200 := by rw [hw_100]; exact ⟨rfl, rfl⟩
      have h_104 : w_99.1 a_101 = some (120, 0, List.replicate 200 (zJ 0)) := by rw [hw_100, ha_102]; exact znew_at
      refine zx_own (t' := 120) (ow' := t) h_104 (by first | exact Or.inl rfl | decide | omega) (by decide) ?_
      obtain ⟨w_105, hw_106⟩ : ∃ ww, ww = zput w_99 a_101 (120, t, List.replicate 200 (zJ 0)) := ⟨_, rfl⟩
      rw [← hw_106]
      have q_107 : w_105.2.1 = w_99.2.1 ∧ w_105.2.2 = w_99.2.2 := by rw [hw_106]; exact ⟨rfl, rfl⟩
      have h_108 : w_105.1 a_101 = some (120, t, List.replicate 200 (zJ 0)) := by rw [hw_106]; exact zput_at
      have h_109 : w1.1 t = some (10, 0, [zI 0, zR a_8, zR a_34, zR a_60, zN]) := by
        rw [hw1]; exact zput_tg h_83 h_82 (by simp)
      have h_110 : w_99.1 t = some (10, 0, [zI 0, zR a_8, zR a_34, zR a_60, zN]) := by
        rw [hw_100]; exact znew_to (ok_98 _ _ h_109) h_109
      have h_111 : w_105.1 t = some (10, 0, [zI 0, zR a_8, zR a_34, zR a_60, zN]) := by
        rw [hw_106]; exact zput_tg h_104 h_110 (by simp)
      obtain ⟨w_112, hw_113⟩ : ∃ ww, ww = zput w_105 t (10, 0, [zI 0, zR a_8, zR a_34, zR a_60, zR a_101]) := ⟨_, rfl⟩
      refine zx_put (w1 := w_112) dX10_init_83 zf_X10_34 h_111 (Nat.le_of_ble_eq_true rfl) (zFt_arr _ _) (fun _ => ⟨rfl, fun q h => by cases h; rfl⟩) hw_113.symm ?_
      have q_114 : w_112.2.1 = w_105.2.1 ∧ w_112.2.2 = w_105.2.2 := by rw [hw_113]; exact ⟨rfl, rfl⟩
      have h_115 : w_112.1 t = some (10, 0, [zI 0, zR a_8, zR a_34, zR a_60, zR a_101]) := by rw [hw_113]; exact zput_at
      refine zx_pc (pc1 := 86) rfl ?_
      refine zx_return dX10_init_86 rfl ?_
      have h_116 : w1.1 a_8 = some (130, t, tTb 3 30 []) := by
        rw [hw1]; exact zput_tg h_83 h_92 (by simp)
      have h_117 : w_99.1 a_8 = some (130, t, tTb 3 30 []) := by
        rw [hw_100]; exact znew_to (ok_98 _ _ h_116) h_116
      have h_118 : w_105.1 a_8 = some (130, t, tTb 3 30 []) := by
        rw [hw_106]; exact zput_tg h_104 h_117 (by simp)
      have h_119 : w_112.1 a_8 = some (130, t, tTb 3 30 []) := by
        rw [hw_113]; exact zput_tg h_111 h_118 (by simp)
      have h_120 : w1.1 a_34 = some (131, t, tTb 4 800 []) := by
        rw [hw1]; exact zput_tg h_83 h_97 (by simp)
      have h_121 : w_99.1 a_34 = some (131, t, tTb 4 800 []) := by
        rw [hw_100]; exact znew_to (ok_98 _ _ h_120) h_120
      have h_122 : w_105.1 a_34 = some (131, t, tTb 4 800 []) := by
        rw [hw_106]; exact zput_tg h_104 h_121 (by simp)
      have h_123 : w_112.1 a_34 = some (131, t, tTb 4 800 []) := by
        rw [hw_113]; exact zput_tg h_111 h_122 (by simp)
      have h_124 : w_99.1 a_60 = some (132, t, tTb 1 64 (List.replicate 64 [-1])) := by
        rw [hw_100]; exact znew_to (ok_98 _ _ g1) g1
      have h_125 : w_105.1 a_60 = some (132, t, tTb 1 64 (List.replicate 64 [-1])) := by
        rw [hw_106]; exact zput_tg h_104 h_124 (by simp)
      have h_126 : w_112.1 a_60 = some (132, t, tTb 1 64 (List.replicate 64 [-1])) := by
        rw [hw_113]; exact zput_tg h_111 h_125 (by simp)
      have h_127 : w_112.1 a_101 = some (120, t, List.replicate 200 (zJ 0)) := by
        rw [hw_113]; exact zput_tg h_111 h_108 (by simp)
      have hfr : ∀ b ob, b ≠ t → w.1 b = some ob → w_112.1 b = some ob := by
        intro b ob hx_t hb
        have hlt := ok0 b ob hb
        have f_128 : w_1.1 b = some ob := by rw [hw_2]; exact zput_to hx_t hb
        have f_129 : w_6.1 b = some ob := by rw [hw_7, znew_ne (by omega)]; exact f_128
        have f_130 : w_13.1 b = some ob := by rw [hw_14, znew_ne (by omega)]; exact f_129
        have f_131 : w_20.1 b = some ob := by rw [hw_21]; exact zput_to (by omega) f_130
        have f_132 : w_27.1 b = some ob := by rw [hw_28]; exact zput_to hx_t f_131
        have f_133 : w_32.1 b = some ob := by rw [hw_33, znew_ne (by omega)]; exact f_132
        have f_134 : w_39.1 b = some ob := by rw [hw_40, znew_ne (by omega)]; exact f_133
        have f_135 : w_46.1 b = some ob := by rw [hw_47]; exact zput_to (by omega) f_134
        have f_136 : w_53.1 b = some ob := by rw [hw_54]; exact zput_to hx_t f_135
        have f_137 : w_58.1 b = some ob := by rw [hw_59, znew_ne (by omega)]; exact f_136
        have f_138 : w_65.1 b = some ob := by rw [hw_66, znew_ne (by omega)]; exact f_137
        have f_139 : w_72.1 b = some ob := by rw [hw_73]; exact zput_to (by omega) f_138
        have f_140 : w_79.1 b = some ob := by rw [hw_80]; exact zput_to hx_t f_139
        have f_141 : w1.1 b = some ob := by rw [hw1]; exact zput_to (by omega) f_140
        have f_142 : w_99.1 b = some ob := by rw [hw_100, znew_ne (by omega)]; exact f_141
        have f_143 : w_105.1 b = some ob := by rw [hw_106]; exact zput_to (by omega) f_142
        have f_144 : w_112.1 b = some ob := by rw [hw_113]; exact zput_to hx_t f_143
        exact f_144
      have e1 : a_8 = w.2.1 := by omega
      have e2 : a_34 = w.2.1 + 2 := by omega
      have e3 : a_60 = w.2.1 + 4 := by omega
      have e4 : a_101 = w.2.1 + 6 := by omega
      refine ⟨rfl, ⟨?_, ⟨?_, tOk_nil (by decide)⟩, ⟨?_, tOk_nil (by decide)⟩, ⟨?_, tOk_rep (by decide) rfl⟩, ?_, List.length_replicate⟩, by omega, by omega, hfr⟩
      · rw [← e4, ← e3, ← e2, ← e1]; exact h_115
      · rw [← e1]; exact h_119
      · rw [← e2]; exact h_123
      · rw [← e3]; exact h_126
      · rw [← e4, List.map_replicate]; exact h_127
    | succ n ih =>
      intro k hk w1 hw1
      have g1 : w1.1 a_60 = some (132, t, tTb 1 64 (List.replicate k [-1])) := by rw [hw1]; exact zput_at
      have g2 : w1.2.1 = w_79.2.1 ∧ w1.2.2 = w_79.2.2 := by rw [hw1]; exact ⟨rfl, rfl⟩
      refine zx_iload_n (i := 1) dX10_init_54 rfl rfl ?_
      refine zx_bipush (v := 64) dX10_init_55 (by decide +kernel) (z32_lit (by decide) (by decide)) ?_
      refine zx_icmp_ge (tgt := 77) dX10_init_57 (by decide) (fun h57 => absurd h57 (by omega)) (fun h57 => ?_)
      refine zx_aload_n (i := 0) dX10_init_60 rfl rfl ?_
      have h_145 : w1.1 t = some (10, 0, [zI 0, zR a_8, zR a_34, zR a_60, zN]) := by
        rw [hw1]; exact zput_tg h_83 h_82 (by simp)
      refine zx_getfield dX10_init_61 zf_X10_27 h_145 rfl ?_
      refine zx_iconst (v := -1) dX10_init_64 rfl (z32_lit (by decide) (by decide)) ?_
      refine zx_iconst (v := -1) dX10_init_65 rfl (z32_lit (by decide) (by decide)) ?_
      refine zx_pc (pc1 := 66) rfl ?_
      refine zx_iconst (v := -1) dX10_init_66 rfl (z32_lit (by decide) (by decide)) ?_
      obtain ⟨w_146, hw_147⟩ : ∃ ww, ww = zput w1 a_60 (132, t, tTb 1 64 ((List.replicate k [-1]) ++ [trow 1 (-1) (-1) (-1)])) := ⟨_, rfl⟩
      have q_148 : w_146.2.1 = w1.2.1 ∧ w_146.2.2 = w1.2.2 := by rw [hw_147]; exact ⟨rfl, rfl⟩
      have h_149 : w_146.1 a_60 = some (132, t, tTb 1 64 ((List.replicate k [-1]) ++ [trow 1 (-1) (-1) (-1)])) := by rw [hw_147]; exact zput_at
      refine zx_iv (b := a_60) (As := [zI (-1), zI (-1), zI (-1)]) (st := []) (v := (some (zI ((List.replicate k [-1]).length : Int)))) (w1 := w_146) dX10_init_67 zc_X10_30 g1 (z_cls9 (by decide)) rfl rfl (Nat.le_of_ble_eq_true rfl) rfl (by rw [hw_147]; exact (c_X9_addS g1 (by decide) (tOk_rep (by decide) rfl) ⟨by rw [List.length_replicate]; omega, by decide⟩ (-1) (-1) (-1))) ?_
      refine zx_st (st1 := [zI ((List.replicate k [-1]).length : Int)]) rfl ?_
      refine zx_pop dX10_init_70 (fun a h => by cases h) ?_
      refine zx_iinc (i := 1) (v := ((k + 1 : Nat) : Int)) dX10_init_71 rfl (zw_eq (by omega) (by omega) (by omega)) (by decide) rfl ?_
      refine zx_L (L1 := [some (zR t), some (zI ((k + 1 : Nat) : Int))]) rfl ?_
      refine zx_goto (tgt := 54) dX10_init_74 (by decide) ?_
      exact ih (k + 1) (by omega) _ (by rw [hw_147, hw1, zput_put, show List.replicate k ([-1] : List Int) ++ [trow 1 (-1) (-1) (-1)] = List.replicate (k + 1) [-1] from (List.replicate_succ').symm])
  exact loop 64 0 rfl _ (by rw [List.replicate_zero, zput_id h_83])
end CTERMS
