/-! Own rows: TERMS. Walked by program (wip/p37/m_terms.py). -/
theorem c_X9_addS {G : zG} {d : Nat} {w : zW} {a t ow c cap : Nat} {rows : List (List Int)} (ha : w.1 a = some (t, ow, tTb c cap rows)) (ht : 130 ≤ t ∧ t < 160) (hr : tOk c rows) (hc : rows.length * c + c ≤ cap ∧ cap < 1000000) (f s u : Int) : zM G zm_X9_add (d + 2) [zR a, zI f, zI s, zI u] w (zRet (some (zI (rows.length : Int))) (zput w a (t, ow, tTb c cap (rows ++ [trow c f s u])))) := by
  have h := c_X9_add (G := G) (d := d) ha ht hr (by omega) (Or.inl hc.1) f s u
  unfold tAw at h
  rw [if_pos hc.1] at h
  exact h
theorem zx_las {G : zG} {M : zMd} {d : Nat} {av : List zV} {w0 : zW} {Q : zQ} {pc : Nat} {L : List (Option zV)} {st : List zV} {w : zW} {a t ow : Nat} {i x : Int} {fs : List zV} {w1 : zW} (hd : decode M.2.1 pc = .ok (.lastore, 1)) (ha : w.1 a = some (t, ow, fs)) (ht : 120 ≤ t ∧ t < 125) (h0 : 0 ≤ i) (hl : i.toNat < fs.length) (hw : zput w a (t, ow, fs.set i.toNat (zJ x)) = w1) (k : zX G M d av w0 Q (pc + 1) L st w1) : zX G M d av w0 Q pc L (zJ x :: zI i :: zR a :: st) w := by
  subst hw; exact zx_lastore hd ha ht h0 hl k
theorem zB_nz {p : Prop} [Decidable p] : ¬ zB p = 0 ↔ p := by unfold zB; split <;> simp_all
/-- the state of the terms: types, constructors, numbered, chains, sizes -/
def tmW (w : zW) (t tc tn th tz : Nat) (ty : Int) (C N H : List (List Int)) (S : List Int) : Prop :=
  w.1 t = some (10, 0, [zI ty, zR tc, zR tn, zR th, zR tz]) ∧ (w.1 tc = some (130, t, tTb 3 30 C) ∧ tOk 3 C) ∧ (w.1 tn = some (131, t, tTb 4 800 N) ∧ tOk 4 N) ∧ (w.1 th = some (132, t, tTb 1 64 H) ∧ tOk 1 H) ∧ w.1 tz = some (120, t, S.map zJ) ∧ S.length = 200
def tmPc (C : List (List Int)) (c : Int) : Int := if tg C c 1 = -1 then 0 else if tg C c 2 = -1 then 1 else 2
def tmCh (c f s : Int) : Int := zand (zw (zw (zw (31 * c) + zw (7 * f)) + s)) 63
def tmSz (S : List Int) (x : Int) : Int := if 0 ≤ x then S.getD x.toNat 0 else 0
def tmPt (N : List (List Int)) (x i : Int) : Int := tg N x (if i = 0 then 1 else 2)
def tmTy (C : List (List Int)) (c i : Int) : Int := tg C c (if i = 0 then 1 else 2)
def tmF (N : List (List Int)) (c f s : Int) : Nat → Int → Int
  | 0, _ => -1
  | k + 1, x => if x = -1 then -1 else if tg N x 0 = c ∧ tg N x 1 = f ∧ tg N x 2 = s then x else tmF N c f s k (tg N x 3)
def tmFind (N H : List (List Int)) (c f s : Int) : Int := tmF N c f s 200 (tg H (tmCh c f s) 0)
abbrev tmFp (C N : List (List Int)) (c i x : Int) : Prop := if tmTy C c i = -1 then x = 0 else tg C (tg N x 0) 0 = tmTy C c i
section CTERMS
variable {G : zG} {d : Nat} {w : zW} {t tc tn th tz : Nat} {ty : Int} {C N H : List (List Int)} {S : List Int}
theorem c_X10_typeCount (hT : tmW w t tc tn th tz ty C N H S)  : zM G zm_X10_typeCount d [zR t] w (zRet (some (zI (ty))) w) := by
  refine zx_ent (by decide +kernel) rfl (Nat.le_of_ble_eq_true rfl) ?_
  refine zx_L (L1 := [some (zR t)]) rfl ?_
  obtain ⟨h0, ⟨hc, okC⟩, ⟨hn, okN⟩, ⟨hh, okH⟩, hz, hS⟩ := hT
  refine zx_aload_n (i := 0) dX10_typeCount_0 rfl rfl ?_
  refine zx_getfield dX10_typeCount_1 zf_X10_9 h0 rfl ?_
  refine zx_iret dX10_typeCount_4 rfl ?_
  exact zr_v rfl rfl
theorem c_X10_constructorCount (hT : tmW w t tc tn th tz ty C N H S)  : zM G zm_X10_constructorCount (d + 1) [zR t] w (zRet (some (zI ((C.length : Int)))) w) := by
  refine zx_ent (by decide +kernel) rfl (Nat.le_of_ble_eq_true rfl) ?_
  refine zx_L (L1 := [some (zR t)]) rfl ?_
  obtain ⟨h0, ⟨hc, okC⟩, ⟨hn, okN⟩, ⟨hh, okH⟩, hz, hS⟩ := hT
  refine zx_aload_n (i := 0) dX10_constructorCount_0 rfl rfl ?_
  refine zx_getfield dX10_constructorCount_1 zf_X10_20 h0 rfl ?_
  refine zx_iv (b := tc) (As := []) (st := []) (v := (some (zI (C.length : Int)))) (w1 := w) dX10_constructorCount_4 zc_X10_38 hc (z_cls9 (by decide)) rfl rfl (Nat.le_of_ble_eq_true rfl) rfl (c_X9_count hc (by decide) okC) ?_
  refine zx_st (st1 := [zI (C.length : Int)]) rfl ?_
  refine zx_iret dX10_constructorCount_7 rfl ?_
  exact zr_v rfl rfl
theorem c_X10_termCount (hT : tmW w t tc tn th tz ty C N H S)  : zM G zm_X10_termCount (d + 1) [zR t] w (zRet (some (zI ((N.length : Int)))) w) := by
  refine zx_ent (by decide +kernel) rfl (Nat.le_of_ble_eq_true rfl) ?_
  refine zx_L (L1 := [some (zR t)]) rfl ?_
  obtain ⟨h0, ⟨hc, okC⟩, ⟨hn, okN⟩, ⟨hh, okH⟩, hz, hS⟩ := hT
  refine zx_aload_n (i := 0) dX10_termCount_0 rfl rfl ?_
  refine zx_getfield dX10_termCount_1 zf_X10_24 h0 rfl ?_
  refine zx_iv (b := tn) (As := []) (st := []) (v := (some (zI (N.length : Int)))) (w1 := w) dX10_termCount_4 zc_X10_38 hn (z_cls9 (by decide)) rfl rfl (Nat.le_of_ble_eq_true rfl) rfl (c_X9_count hn (by decide) okN) ?_
  refine zx_st (st1 := [zI (N.length : Int)]) rfl ?_
  refine zx_iret dX10_termCount_7 rfl ?_
  exact zr_v rfl rfl
theorem c_X10_hasType (hT : tmW w t tc tn th tz ty C N H S)  (i : Int) : zM G zm_X10_hasType d [zR t, zI i] w (zRet (some (zI (zB (0 ≤ i ∧ i < ty)))) w) := by
  refine zx_ent (by decide +kernel) rfl (Nat.le_of_ble_eq_true rfl) ?_
  refine zx_L (L1 := [some (zR t), some (zI i)]) rfl ?_
  obtain ⟨h0, ⟨hc, okC⟩, ⟨hn, okN⟩, ⟨hh, okH⟩, hz, hS⟩ := hT
  refine zx_iload_n (i := 1) dX10_hasType_0 rfl rfl ?_
  refine zx_if_lt (tgt := 16) dX10_hasType_1 (by decide) (fun h1 => ?_) (fun h1 => ?_)
  · refine zx_iconst (v := 0) dX10_hasType_16 rfl (z32_lit (by decide) (by decide)) ?_
    refine zx_zret dX10_hasType_17 rfl (by first | exact Or.inl rfl | exact Or.inr rfl | exact zB_or | assumption) ?_
    exact zr_f (by omega)
  · refine zx_iload_n (i := 1) dX10_hasType_4 rfl rfl ?_
    refine zx_aload_n (i := 0) dX10_hasType_5 rfl rfl ?_
    refine zx_getfield dX10_hasType_6 zf_X10_9 h0 rfl ?_
    refine zx_icmp_ge (tgt := 16) dX10_hasType_9 (by decide) (fun h9 => ?_) (fun h9 => ?_)
    · refine zx_iconst (v := 0) dX10_hasType_16 rfl (z32_lit (by decide) (by decide)) ?_
      refine zx_zret dX10_hasType_17 rfl (by first | exact Or.inl rfl | exact Or.inr rfl | exact zB_or | assumption) ?_
      exact zr_f (by omega)
    · refine zx_iconst (v := 1) dX10_hasType_12 rfl (z32_lit (by decide) (by decide)) ?_
      refine zx_goto (tgt := 17) dX10_hasType_13 (by decide) ?_
      refine zx_zret dX10_hasType_17 rfl (by first | exact Or.inl rfl | exact Or.inr rfl | exact zB_or | assumption) ?_
      exact zr_t (by omega)
theorem c_X10_hasConstructor (hT : tmW w t tc tn th tz ty C N H S)  (i : Int) : zM G zm_X10_hasConstructor (d + 1) [zR t, zI i] w (zRet (some (zI (zB (0 ≤ i ∧ i < (C.length : Int))))) w) := by
  refine zx_ent (by decide +kernel) rfl (Nat.le_of_ble_eq_true rfl) ?_
  refine zx_L (L1 := [some (zR t), some (zI i)]) rfl ?_
  obtain ⟨h0, ⟨hc, okC⟩, ⟨hn, okN⟩, ⟨hh, okH⟩, hz, hS⟩ := hT
  refine zx_iload_n (i := 1) dX10_hasConstructor_0 rfl rfl ?_
  refine zx_if_lt (tgt := 19) dX10_hasConstructor_1 (by decide) (fun h1 => ?_) (fun h1 => ?_)
  · refine zx_iconst (v := 0) dX10_hasConstructor_19 rfl (z32_lit (by decide) (by decide)) ?_
    refine zx_zret dX10_hasConstructor_20 rfl (by first | exact Or.inl rfl | exact Or.inr rfl | exact zB_or | assumption) ?_
    exact zr_f (by omega)
  · refine zx_iload_n (i := 1) dX10_hasConstructor_4 rfl rfl ?_
    refine zx_aload_n (i := 0) dX10_hasConstructor_5 rfl rfl ?_
    refine zx_getfield dX10_hasConstructor_6 zf_X10_20 h0 rfl ?_
    refine zx_iv (b := tc) (As := []) (st := [zI i]) (v := (some (zI (C.length : Int)))) (w1 := w) dX10_hasConstructor_9 zc_X10_38 hc (z_cls9 (by decide)) rfl rfl (Nat.le_of_ble_eq_true rfl) rfl (c_X9_count hc (by decide) okC) ?_
    refine zx_st (st1 := [zI (C.length : Int), zI i]) rfl ?_
    refine zx_icmp_ge (tgt := 19) dX10_hasConstructor_12 (by decide) (fun h12 => ?_) (fun h12 => ?_)
    · refine zx_iconst (v := 0) dX10_hasConstructor_19 rfl (z32_lit (by decide) (by decide)) ?_
      refine zx_zret dX10_hasConstructor_20 rfl (by first | exact Or.inl rfl | exact Or.inr rfl | exact zB_or | assumption) ?_
      exact zr_f (by omega)
    · refine zx_iconst (v := 1) dX10_hasConstructor_15 rfl (z32_lit (by decide) (by decide)) ?_
      refine zx_goto (tgt := 20) dX10_hasConstructor_16 (by decide) ?_
      refine zx_zret dX10_hasConstructor_20 rfl (by first | exact Or.inl rfl | exact Or.inr rfl | exact zB_or | assumption) ?_
      exact zr_t (by omega)
theorem c_X10_hasTerm (hT : tmW w t tc tn th tz ty C N H S)  (i : Int) : zM G zm_X10_hasTerm (d + 1) [zR t, zI i] w (zRet (some (zI (zB (0 ≤ i ∧ i < (N.length : Int))))) w) := by
  refine zx_ent (by decide +kernel) rfl (Nat.le_of_ble_eq_true rfl) ?_
  refine zx_L (L1 := [some (zR t), some (zI i)]) rfl ?_
  obtain ⟨h0, ⟨hc, okC⟩, ⟨hn, okN⟩, ⟨hh, okH⟩, hz, hS⟩ := hT
  refine zx_iload_n (i := 1) dX10_hasTerm_0 rfl rfl ?_
  refine zx_if_lt (tgt := 19) dX10_hasTerm_1 (by decide) (fun h1 => ?_) (fun h1 => ?_)
  · refine zx_iconst (v := 0) dX10_hasTerm_19 rfl (z32_lit (by decide) (by decide)) ?_
    refine zx_zret dX10_hasTerm_20 rfl (by first | exact Or.inl rfl | exact Or.inr rfl | exact zB_or | assumption) ?_
    exact zr_f (by omega)
  · refine zx_iload_n (i := 1) dX10_hasTerm_4 rfl rfl ?_
    refine zx_aload_n (i := 0) dX10_hasTerm_5 rfl rfl ?_
    refine zx_getfield dX10_hasTerm_6 zf_X10_24 h0 rfl ?_
    refine zx_iv (b := tn) (As := []) (st := [zI i]) (v := (some (zI (N.length : Int)))) (w1 := w) dX10_hasTerm_9 zc_X10_38 hn (z_cls9 (by decide)) rfl rfl (Nat.le_of_ble_eq_true rfl) rfl (c_X9_count hn (by decide) okN) ?_
    refine zx_st (st1 := [zI (N.length : Int), zI i]) rfl ?_
    refine zx_icmp_ge (tgt := 19) dX10_hasTerm_12 (by decide) (fun h12 => ?_) (fun h12 => ?_)
    · refine zx_iconst (v := 0) dX10_hasTerm_19 rfl (z32_lit (by decide) (by decide)) ?_
      refine zx_zret dX10_hasTerm_20 rfl (by first | exact Or.inl rfl | exact Or.inr rfl | exact zB_or | assumption) ?_
      exact zr_f (by omega)
    · refine zx_iconst (v := 1) dX10_hasTerm_15 rfl (z32_lit (by decide) (by decide)) ?_
      refine zx_goto (tgt := 20) dX10_hasTerm_16 (by decide) ?_
      refine zx_zret dX10_hasTerm_20 rfl (by first | exact Or.inl rfl | exact Or.inr rfl | exact zB_or | assumption) ?_
      exact zr_t (by omega)
theorem c_X10_newType (hT : tmW w t tc tn th tz ty C N H S) (h1 : -1000 < ty) (h2 : ty < 1000)  : zM G zm_X10_newType d [zR t] w (zRet (some (zI ty)) (zput w t (10, 0, [zI (ty + 1), zR tc, zR tn, zR th, zR tz]))) := by
  refine zx_ent (by decide +kernel) rfl (Nat.le_of_ble_eq_true rfl) ?_
  refine zx_L (L1 := [some (zR t)]) rfl ?_
  obtain ⟨h0, ⟨hc, okC⟩, ⟨hn, okN⟩, ⟨hh, okH⟩, hz, hS⟩ := hT
  refine zx_aload_n (i := 0) dX10_newType_0 rfl rfl ?_
  refine zx_dup dX10_newType_1 (fun a h => by cases h) ?_
  refine zx_getfield dX10_newType_2 zf_X10_9 h0 rfl ?_
  refine zx_iconst (v := 1) dX10_newType_5 rfl (z32_lit (by decide) (by decide)) ?_
  refine zx_iadd (v := ty + 1) dX10_newType_6 (zw_id ⟨by omega, by omega⟩) ?_
  obtain ⟨w_1, hw_2⟩ : ∃ x, x = zput w t (10, 0, [zI (ty + 1), zR tc, zR tn, zR th, zR tz]) := ⟨_, rfl⟩
  refine zx_put (w1 := w_1) dX10_newType_7 zf_X10_9 h0 (Nat.le_of_ble_eq_true rfl) (zFt_int _) (fun h => by cases h) hw_2.symm ?_
  have h_3 : w_1.1 t = some (10, 0, [zI (ty + 1), zR tc, zR tn, zR th, zR tz]) := by rw [hw_2]; exact zput_at
  refine zx_aload_n (i := 0) dX10_newType_10 rfl rfl ?_
  refine zx_getfield dX10_newType_11 zf_X10_9 h_3 rfl ?_
  refine zx_iconst (v := 1) dX10_newType_14 rfl (z32_lit (by decide) (by decide)) ?_
  refine zx_isub (v := (ty + 1) - 1) dX10_newType_15 (zw_id ⟨by omega, by omega⟩) ?_
  refine zx_iret dX10_newType_16 rfl ?_
  exact zr_v (by congr 1; omega) (by rw [hw_2])
theorem c_X10_newConstructor (hT : tmW w t tc tn th tz ty C N H S) (h1 : C.length < 10)  (c f s : Int) : zM G zm_X10_newConstructor (d + 3) [zR t, zI c, zI f, zI s] w (zRet (some (zI (C.length : Int))) (zput w tc (130, t, tTb 3 30 (C ++ [trow 3 c f s])))) := by
  refine zx_ent (by decide +kernel) rfl (Nat.le_of_ble_eq_true rfl) ?_
  refine zx_L (L1 := [some (zR t), some (zI c), some (zI f), some (zI s)]) rfl ?_
  obtain ⟨h0, ⟨hc, okC⟩, ⟨hn, okN⟩, ⟨hh, okH⟩, hz, hS⟩ := hT
  refine zx_aload_n (i := 0) dX10_newConstructor_0 rfl rfl ?_
  refine zx_getfield dX10_newConstructor_1 zf_X10_20 h0 rfl ?_
  refine zx_iload_n (i := 1) dX10_newConstructor_4 rfl rfl ?_
  refine zx_iload_n (i := 2) dX10_newConstructor_5 rfl rfl ?_
  refine zx_iload_n (i := 3) dX10_newConstructor_6 rfl rfl ?_
  obtain ⟨w_1, hw_2⟩ : ∃ x, x = zput w tc (130, t, tTb 3 30 (C ++ [trow 3 c f s])) := ⟨_, rfl⟩
  have h_3 : w_1.1 tc = some (130, t, tTb 3 30 (C ++ [trow 3 c f s])) := by rw [hw_2]; exact zput_at
  refine zx_iv (b := tc) (As := [zI c, zI f, zI s]) (st := []) (v := (some (zI (C.length : Int)))) (w1 := w_1) dX10_newConstructor_7 zc_X10_30 hc (z_cls9 (by decide)) rfl rfl (Nat.le_of_ble_eq_true rfl) rfl (by rw [hw_2]; exact (c_X9_addS hc (by decide) okC (by omega) c f s)) ?_
  refine zx_st (st1 := [zI (C.length : Int)]) rfl ?_
  refine zx_iret dX10_newConstructor_10 rfl ?_
  exact zr_v rfl (by rw [hw_2])
theorem c_X10_typeOfHead (hT : tmW w t tc tn th tz ty C N H S)  (c : Int) : zM G zm_X10_typeOfHead (d + 1) [zR t, zI c] w (zRet (some (zI (tg C c 0))) w) := by
  refine zx_ent (by decide +kernel) rfl (Nat.le_of_ble_eq_true rfl) ?_
  refine zx_L (L1 := [some (zR t), some (zI c)]) rfl ?_
  obtain ⟨h0, ⟨hc, okC⟩, ⟨hn, okN⟩, ⟨hh, okH⟩, hz, hS⟩ := hT
  refine zx_aload_n (i := 0) dX10_typeOfHead_0 rfl rfl ?_
  refine zx_getfield dX10_typeOfHead_1 zf_X10_20 h0 rfl ?_
  refine zx_iload_n (i := 1) dX10_typeOfHead_4 rfl rfl ?_
  refine zx_iconst (v := 0) dX10_typeOfHead_5 rfl (z32_lit (by decide) (by decide)) ?_
  refine zx_iv (b := tc) (As := [zI c, zI 0]) (st := []) (v := (some (zI (tg C c 0)))) (w1 := w) dX10_typeOfHead_6 zc_X10_42 hc (z_cls9 (by decide)) rfl rfl (Nat.le_of_ble_eq_true rfl) rfl (c_X9_get hc (by decide) okC c 0) ?_
  refine zx_st (st1 := [zI (tg C c 0)]) rfl ?_
  refine zx_iret dX10_typeOfHead_9 rfl ?_
  exact zr_v rfl rfl
theorem c_X10_partType (hT : tmW w t tc tn th tz ty C N H S)  (c i : Int) : zM G zm_X10_partType (d + 1) [zR t, zI c, zI i] w (zRet (some (zI (tmTy C c i))) w) := by
  refine zx_ent (by decide +kernel) rfl (Nat.le_of_ble_eq_true rfl) ?_
  refine zx_L (L1 := [some (zR t), some (zI c), some (zI i)]) rfl ?_
  obtain ⟨h0, ⟨hc, okC⟩, ⟨hn, okN⟩, ⟨hh, okH⟩, hz, hS⟩ := hT
  refine zx_aload_n (i := 0) dX10_partType_0 rfl rfl ?_
  refine zx_getfield dX10_partType_1 zf_X10_20 h0 rfl ?_
  refine zx_iload_n (i := 1) dX10_partType_4 rfl rfl ?_
  refine zx_iload_n (i := 2) dX10_partType_5 rfl rfl ?_
  refine zx_if_ne (tgt := 13) dX10_partType_6 (by decide) (fun h6 => ?_) (fun h6 => ?_)
  · refine zx_iconst (v := 2) dX10_partType_13 rfl (z32_lit (by decide) (by decide)) ?_
    refine zx_iv (b := tc) (As := [zI c, zI 2]) (st := []) (v := (some (zI (tg C c 2)))) (w1 := w) dX10_partType_14 zc_X10_42 hc (z_cls9 (by decide)) rfl rfl (Nat.le_of_ble_eq_true rfl) rfl (c_X9_get hc (by decide) okC c 2) ?_
    refine zx_st (st1 := [zI (tg C c 2)]) rfl ?_
    refine zx_iret dX10_partType_17 rfl ?_
    exact zr_i (by unfold tmTy; first | rw [if_pos (by omega)] | rw [if_neg (by omega)])
  · refine zx_iconst (v := 1) dX10_partType_9 rfl (z32_lit (by decide) (by decide)) ?_
    refine zx_goto (tgt := 14) dX10_partType_10 (by decide) ?_
    refine zx_iv (b := tc) (As := [zI c, zI 1]) (st := []) (v := (some (zI (tg C c 1)))) (w1 := w) dX10_partType_14 zc_X10_42 hc (z_cls9 (by decide)) rfl rfl (Nat.le_of_ble_eq_true rfl) rfl (c_X9_get hc (by decide) okC c 1) ?_
    refine zx_st (st1 := [zI (tg C c 1)]) rfl ?_
    refine zx_iret dX10_partType_17 rfl ?_
    exact zr_i (by unfold tmTy; first | rw [if_pos (by omega)] | rw [if_neg (by omega)])
theorem c_X10_partCount (hT : tmW w t tc tn th tz ty C N H S)  (c : Int) : zM G zm_X10_partCount (d + 1) [zR t, zI c] w (zRet (some (zI (tmPc C c))) w) := by
  refine zx_ent (by decide +kernel) rfl (Nat.le_of_ble_eq_true rfl) ?_
  refine zx_L (L1 := [some (zR t), some (zI c)]) rfl ?_
  obtain ⟨h0, ⟨hc, okC⟩, ⟨hn, okN⟩, ⟨hh, okH⟩, hz, hS⟩ := hT
  refine zx_aload_n (i := 0) dX10_partCount_0 rfl rfl ?_
  refine zx_getfield dX10_partCount_1 zf_X10_20 h0 rfl ?_
  refine zx_iload_n (i := 1) dX10_partCount_4 rfl rfl ?_
  refine zx_iconst (v := 1) dX10_partCount_5 rfl (z32_lit (by decide) (by decide)) ?_
  refine zx_iv (b := tc) (As := [zI c, zI 1]) (st := []) (v := (some (zI (tg C c 1)))) (w1 := w) dX10_partCount_6 zc_X10_42 hc (z_cls9 (by decide)) rfl rfl (Nat.le_of_ble_eq_true rfl) rfl (c_X9_get hc (by decide) okC c 1) ?_
  refine zx_st (st1 := [zI (tg C c 1)]) rfl ?_
  refine zx_iconst (v := -1) dX10_partCount_9 rfl (z32_lit (by decide) (by decide)) ?_
  refine zx_icmp_ne (tgt := 15) dX10_partCount_10 (by decide) (fun h10 => ?_) (fun h10 => ?_)
  · refine zx_aload_n (i := 0) dX10_partCount_15 rfl rfl ?_
    refine zx_getfield dX10_partCount_16 zf_X10_20 h0 rfl ?_
    refine zx_iload_n (i := 1) dX10_partCount_19 rfl rfl ?_
    refine zx_iconst (v := 2) dX10_partCount_20 rfl (z32_lit (by decide) (by decide)) ?_
    refine zx_pc (pc1 := 21) rfl ?_
    refine zx_iv (b := tc) (As := [zI c, zI 2]) (st := []) (v := (some (zI (tg C c 2)))) (w1 := w) dX10_partCount_21 zc_X10_42 hc (z_cls9 (by decide)) rfl rfl (Nat.le_of_ble_eq_true rfl) rfl (c_X9_get hc (by decide) okC c 2) ?_
    refine zx_st (st1 := [zI (tg C c 2)]) rfl ?_
    refine zx_iconst (v := -1) dX10_partCount_24 rfl (z32_lit (by decide) (by decide)) ?_
    refine zx_icmp_ne (tgt := 32) dX10_partCount_25 (by decide) (fun h25 => ?_) (fun h25 => ?_)
    · refine zx_iconst (v := 2) dX10_partCount_32 rfl (z32_lit (by decide) (by decide)) ?_
      refine zx_iret dX10_partCount_33 rfl ?_
      exact zr_i (by unfold tmPc; first | rw [if_pos (by omega)] | rw [if_neg (by omega), if_pos (by omega)] | rw [if_neg (by omega), if_neg (by omega)])
    · refine zx_iconst (v := 1) dX10_partCount_28 rfl (z32_lit (by decide) (by decide)) ?_
      refine zx_goto (tgt := 33) dX10_partCount_29 (by decide) ?_
      refine zx_iret dX10_partCount_33 rfl ?_
      exact zr_i (by unfold tmPc; first | rw [if_pos (by omega)] | rw [if_neg (by omega), if_pos (by omega)] | rw [if_neg (by omega), if_neg (by omega)])
  · refine zx_iconst (v := 0) dX10_partCount_13 rfl (z32_lit (by decide) (by decide)) ?_
    refine zx_iret dX10_partCount_14 rfl ?_
    exact zr_i (by unfold tmPc; first | rw [if_pos (by omega)] | rw [if_neg (by omega), if_pos (by omega)] | rw [if_neg (by omega), if_neg (by omega)])
theorem c_X10_headOf (hT : tmW w t tc tn th tz ty C N H S)  (x : Int) : zM G zm_X10_headOf (d + 1) [zR t, zI x] w (zRet (some (zI (tg N x 0))) w) := by
  refine zx_ent (by decide +kernel) rfl (Nat.le_of_ble_eq_true rfl) ?_
  refine zx_L (L1 := [some (zR t), some (zI x)]) rfl ?_
  obtain ⟨h0, ⟨hc, okC⟩, ⟨hn, okN⟩, ⟨hh, okH⟩, hz, hS⟩ := hT
  refine zx_aload_n (i := 0) dX10_headOf_0 rfl rfl ?_
  refine zx_getfield dX10_headOf_1 zf_X10_24 h0 rfl ?_
  refine zx_iload_n (i := 1) dX10_headOf_4 rfl rfl ?_
  refine zx_iconst (v := 0) dX10_headOf_5 rfl (z32_lit (by decide) (by decide)) ?_
  refine zx_iv (b := tn) (As := [zI x, zI 0]) (st := []) (v := (some (zI (tg N x 0)))) (w1 := w) dX10_headOf_6 zc_X10_42 hn (z_cls9 (by decide)) rfl rfl (Nat.le_of_ble_eq_true rfl) rfl (c_X9_get hn (by decide) okN x 0) ?_
  refine zx_st (st1 := [zI (tg N x 0)]) rfl ?_
  refine zx_iret dX10_headOf_9 rfl ?_
  exact zr_v rfl rfl
theorem c_X10_part (hT : tmW w t tc tn th tz ty C N H S)  (x i : Int) : zM G zm_X10_part (d + 1) [zR t, zI x, zI i] w (zRet (some (zI (tmPt N x i))) w) := by
  refine zx_ent (by decide +kernel) rfl (Nat.le_of_ble_eq_true rfl) ?_
  refine zx_L (L1 := [some (zR t), some (zI x), some (zI i)]) rfl ?_
  obtain ⟨h0, ⟨hc, okC⟩, ⟨hn, okN⟩, ⟨hh, okH⟩, hz, hS⟩ := hT
  refine zx_aload_n (i := 0) dX10_part_0 rfl rfl ?_
  refine zx_getfield dX10_part_1 zf_X10_24 h0 rfl ?_
  refine zx_iload_n (i := 1) dX10_part_4 rfl rfl ?_
  refine zx_iload_n (i := 2) dX10_part_5 rfl rfl ?_
  refine zx_if_ne (tgt := 13) dX10_part_6 (by decide) (fun h6 => ?_) (fun h6 => ?_)
  · refine zx_iconst (v := 2) dX10_part_13 rfl (z32_lit (by decide) (by decide)) ?_
    refine zx_iv (b := tn) (As := [zI x, zI 2]) (st := []) (v := (some (zI (tg N x 2)))) (w1 := w) dX10_part_14 zc_X10_42 hn (z_cls9 (by decide)) rfl rfl (Nat.le_of_ble_eq_true rfl) rfl (c_X9_get hn (by decide) okN x 2) ?_
    refine zx_st (st1 := [zI (tg N x 2)]) rfl ?_
    refine zx_iret dX10_part_17 rfl ?_
    exact zr_i (by unfold tmPt; first | rw [if_pos (by omega)] | rw [if_neg (by omega)])
  · refine zx_iconst (v := 1) dX10_part_9 rfl (z32_lit (by decide) (by decide)) ?_
    refine zx_goto (tgt := 14) dX10_part_10 (by decide) ?_
    refine zx_iv (b := tn) (As := [zI x, zI 1]) (st := []) (v := (some (zI (tg N x 1)))) (w1 := w) dX10_part_14 zc_X10_42 hn (z_cls9 (by decide)) rfl rfl (Nat.le_of_ble_eq_true rfl) rfl (c_X9_get hn (by decide) okN x 1) ?_
    refine zx_st (st1 := [zI (tg N x 1)]) rfl ?_
    refine zx_iret dX10_part_17 rfl ?_
    exact zr_i (by unfold tmPt; first | rw [if_pos (by omega)] | rw [if_neg (by omega)])
theorem c_X10_size (hT : tmW w t tc tn th tz ty C N H S)  (x : Int) : zM G zm_X10_size d [zR t, zI x] w (zRet (some (zJ (tmSz S x))) w) := by
  refine zx_ent (by decide +kernel) rfl (Nat.le_of_ble_eq_true rfl) ?_
  refine zx_L (L1 := [some (zR t), some (zI x)]) rfl ?_
  obtain ⟨h0, ⟨hc, okC⟩, ⟨hn, okN⟩, ⟨hh, okH⟩, hz, hS⟩ := hT
  refine zx_iload_n (i := 1) dX10_size_0 rfl rfl ?_
  refine zx_if_lt (tgt := 22) dX10_size_1 (by decide) (fun h1 => ?_) (fun h1 => ?_)
  · refine zx_lconst (v := 0) dX10_size_22 (by decide +kernel) ⟨by decide, by decide⟩ ?_
    refine zx_lreturn dX10_size_23 rfl ?_
    refine zr_v ?_ rfl
    unfold tmSz
    first | rw [if_neg (by omega)] | (rw [if_pos (by omega), List.getD_eq_getElem?_getD, List.getElem?_eq_none (by omega)]; rfl)
  · refine zx_iload_n (i := 1) dX10_size_4 rfl rfl ?_
    refine zx_aload_n (i := 0) dX10_size_5 rfl rfl ?_
    refine zx_getfield dX10_size_6 zf_X10_34 h0 rfl ?_
    refine zx_alen (n := 200) dX10_size_9 hz (by first | decide | omega) (by rw [List.length_map]; exact hS) (by decide) ?_
    refine zx_icmp_ge (tgt := 22) dX10_size_10 (by decide) (fun h10 => ?_) (fun h10 => ?_)
    · refine zx_lconst (v := 0) dX10_size_22 (by decide +kernel) ⟨by decide, by decide⟩ ?_
      refine zx_lreturn dX10_size_23 rfl ?_
      refine zr_v ?_ rfl
      unfold tmSz
      first | rw [if_neg (by omega)] | (rw [if_pos (by omega), List.getD_eq_getElem?_getD, List.getElem?_eq_none (by omega)]; rfl)
    · refine zx_aload_n (i := 0) dX10_size_13 rfl rfl ?_
      refine zx_getfield dX10_size_14 zf_X10_34 h0 rfl ?_
      refine zx_iload_n (i := 1) dX10_size_17 rfl rfl ?_
      refine zx_laload (v := zJ (S.getD x.toNat 0)) dX10_size_18 hz (by decide) (by omega) (by rw [List.getElem?_map, List.getElem?_eq_getElem (by omega), List.getD_eq_getElem?_getD, List.getElem?_eq_getElem (by omega)]; rfl) ?_
      refine zx_pc (pc1 := 19) rfl ?_
      refine zx_goto (tgt := 23) dX10_size_19 (by decide) ?_
      refine zx_lreturn dX10_size_23 rfl ?_
      refine zr_v ?_ rfl
      unfold tmSz
      first | rw [if_pos (by omega)] | (rw [if_pos (by omega), List.getD_eq_getElem?_getD, List.getElem?_eq_none (by omega)]; rfl) | rw [if_neg (by omega)]
theorem c_X10_hasParts (hT : tmW w t tc tn th tz ty C N H S)  (c f s : Int) : zM G zm_X10_hasParts (d + 2) [zR t, zI c, zI f, zI s] w (zRet (some (zI (zB ((tmPc C c < 1 ∨ (0 ≤ f ∧ f < (N.length : Int))) ∧ (tmPc C c < 2 ∨ (0 ≤ s ∧ s < (N.length : Int))))))) w) := by
  refine zx_ent (by decide +kernel) rfl (Nat.le_of_ble_eq_true rfl) ?_
  refine zx_L (L1 := [some (zR t), some (zI c), some (zI f), some (zI s), none]) rfl ?_
  obtain ⟨h0, ⟨hc, okC⟩, ⟨hn, okN⟩, ⟨hh, okH⟩, hz, hS⟩ := hT
  refine zx_aload_n (i := 0) dX10_hasParts_0 rfl rfl ?_
  refine zx_iload_n (i := 1) dX10_hasParts_1 rfl rfl ?_
  refine zx_iv (b := t) (As := [zI c]) (st := []) (v := (some (zI (tmPc C c)))) (w1 := w) dX10_hasParts_2 zc_X10_46 h0 rfl rfl rfl (Nat.le_of_ble_eq_true rfl) rfl (c_X10_partCount ⟨h0, ⟨hc, okC⟩, ⟨hn, okN⟩, ⟨hh, okH⟩, hz, hS⟩ c) ?_
  refine zx_st (st1 := [zI (tmPc C c)]) rfl ?_
  refine zx_istore (i := 4) dX10_hasParts_5 (by decide) rfl ?_
  refine zx_L (L1 := [some (zR t), some (zI c), some (zI f), some (zI s), some (zI (tmPc C c))]) rfl ?_
  refine zx_iload (i := 4) dX10_hasParts_7 rfl ?_
  refine zx_iconst (v := 1) dX10_hasParts_9 rfl (z32_lit (by decide) (by decide)) ?_
  refine zx_icmp_lt (tgt := 21) dX10_hasParts_10 (by decide) (fun h10 => ?_) (fun h10 => ?_)
  · refine zx_iload (i := 4) dX10_hasParts_21 rfl ?_
    refine zx_iconst (v := 2) dX10_hasParts_23 rfl (z32_lit (by decide) (by decide)) ?_
    refine zx_icmp_lt (tgt := 35) dX10_hasParts_24 (by decide) (fun h24 => ?_) (fun h24 => ?_)
    · refine zx_iconst (v := 1) dX10_hasParts_35 rfl (z32_lit (by decide) (by decide)) ?_
      refine zx_pc (pc1 := 36) rfl ?_
      refine zx_goto (tgt := 40) dX10_hasParts_36 (by decide) ?_
      refine zx_zret dX10_hasParts_40 rfl (by first | exact Or.inl rfl | exact Or.inr rfl | exact zB_or | assumption) ?_
      exact zr_t (by (try simp only [zB_zero, Decidable.not_not] at *); omega)
    · refine zx_aload_n (i := 0) dX10_hasParts_27 rfl rfl ?_
      refine zx_pc (pc1 := 28) rfl ?_
      refine zx_iload_n (i := 3) dX10_hasParts_28 rfl rfl ?_
      refine zx_iv (b := t) (As := [zI s]) (st := []) (v := (some (zI (zB (0 ≤ s ∧ s < (N.length : Int)))))) (w1 := w) dX10_hasParts_29 zc_X10_50 h0 rfl rfl rfl (Nat.le_of_ble_eq_true rfl) rfl (c_X10_hasTerm ⟨h0, ⟨hc, okC⟩, ⟨hn, okN⟩, ⟨hh, okH⟩, hz, hS⟩ s) ?_
      refine zx_st (st1 := [zI (zB (0 ≤ s ∧ s < (N.length : Int)))]) rfl ?_
      refine zx_if_eq (tgt := 39) dX10_hasParts_32 (by decide) (fun h32 => ?_) (fun h32 => ?_)
      · refine zx_iconst (v := 0) dX10_hasParts_39 rfl (z32_lit (by decide) (by decide)) ?_
        refine zx_zret dX10_hasParts_40 rfl (by first | exact Or.inl rfl | exact Or.inr rfl | exact zB_or | assumption) ?_
        exact zr_f (by (try simp only [zB_zero, Decidable.not_not] at *); omega)
      · refine zx_iconst (v := 1) dX10_hasParts_35 rfl (z32_lit (by decide) (by decide)) ?_
        refine zx_goto (tgt := 40) dX10_hasParts_36 (by decide) ?_
        refine zx_zret dX10_hasParts_40 rfl (by first | exact Or.inl rfl | exact Or.inr rfl | exact zB_or | assumption) ?_
        exact zr_t (by (try simp only [zB_zero, Decidable.not_not] at *); omega)
  · refine zx_aload_n (i := 0) dX10_hasParts_13 rfl rfl ?_
    refine zx_iload_n (i := 2) dX10_hasParts_14 rfl rfl ?_
    refine zx_iv (b := t) (As := [zI f]) (st := []) (v := (some (zI (zB (0 ≤ f ∧ f < (N.length : Int)))))) (w1 := w) dX10_hasParts_15 zc_X10_50 h0 rfl rfl rfl (Nat.le_of_ble_eq_true rfl) rfl (c_X10_hasTerm ⟨h0, ⟨hc, okC⟩, ⟨hn, okN⟩, ⟨hh, okH⟩, hz, hS⟩ f) ?_
    refine zx_st (st1 := [zI (zB (0 ≤ f ∧ f < (N.length : Int)))]) rfl ?_
    refine zx_if_eq (tgt := 39) dX10_hasParts_18 (by decide) (fun h18 => ?_) (fun h18 => ?_)
    · refine zx_pc (pc1 := 39) rfl ?_
      refine zx_iconst (v := 0) dX10_hasParts_39 rfl (z32_lit (by decide) (by decide)) ?_
      refine zx_zret dX10_hasParts_40 rfl (by first | exact Or.inl rfl | exact Or.inr rfl | exact zB_or | assumption) ?_
      exact zr_f (by (try simp only [zB_zero, Decidable.not_not] at *); omega)
    · refine zx_pc (pc1 := 21) rfl ?_
      refine zx_iload (i := 4) dX10_hasParts_21 rfl ?_
      refine zx_iconst (v := 2) dX10_hasParts_23 rfl (z32_lit (by decide) (by decide)) ?_
      refine zx_icmp_lt (tgt := 35) dX10_hasParts_24 (by decide) (fun h24 => ?_) (fun h24 => ?_)
      · refine zx_iconst (v := 1) dX10_hasParts_35 rfl (z32_lit (by decide) (by decide)) ?_
        refine zx_goto (tgt := 40) dX10_hasParts_36 (by decide) ?_
        refine zx_zret dX10_hasParts_40 rfl (by first | exact Or.inl rfl | exact Or.inr rfl | exact zB_or | assumption) ?_
        exact zr_t (by (try simp only [zB_zero, Decidable.not_not] at *); omega)
      · refine zx_aload_n (i := 0) dX10_hasParts_27 rfl rfl ?_
        refine zx_iload_n (i := 3) dX10_hasParts_28 rfl rfl ?_
        refine zx_iv (b := t) (As := [zI s]) (st := []) (v := (some (zI (zB (0 ≤ s ∧ s < (N.length : Int)))))) (w1 := w) dX10_hasParts_29 zc_X10_50 h0 rfl rfl rfl (Nat.le_of_ble_eq_true rfl) rfl (c_X10_hasTerm ⟨h0, ⟨hc, okC⟩, ⟨hn, okN⟩, ⟨hh, okH⟩, hz, hS⟩ s) ?_
        refine zx_st (st1 := [zI (zB (0 ≤ s ∧ s < (N.length : Int)))]) rfl ?_
        refine zx_if_eq (tgt := 39) dX10_hasParts_32 (by decide) (fun h32 => ?_) (fun h32 => ?_)
        · refine zx_iconst (v := 0) dX10_hasParts_39 rfl (z32_lit (by decide) (by decide)) ?_
          refine zx_zret dX10_hasParts_40 rfl (by first | exact Or.inl rfl | exact Or.inr rfl | exact zB_or | assumption) ?_
          exact zr_f (by (try simp only [zB_zero, Decidable.not_not] at *); omega)
        · refine zx_iconst (v := 1) dX10_hasParts_35 rfl (z32_lit (by decide) (by decide)) ?_
          refine zx_goto (tgt := 40) dX10_hasParts_36 (by decide) ?_
          refine zx_zret dX10_hasParts_40 rfl (by first | exact Or.inl rfl | exact Or.inr rfl | exact zB_or | assumption) ?_
          exact zr_t (by (try simp only [zB_zero, Decidable.not_not] at *); omega)
theorem c_X10_fitsPart (hT : tmW w t tc tn th tz ty C N H S)  (c i x : Int) : zM G zm_X10_fitsPart (d + 2) [zR t, zI c, zI i, zI x] w (zRet (some (zI (zB (tmFp C N c i x)))) w) := by
  refine zx_ent (by decide +kernel) rfl (Nat.le_of_ble_eq_true rfl) ?_
  refine zx_L (L1 := [some (zR t), some (zI c), some (zI i), some (zI x), none]) rfl ?_
  obtain ⟨h0, ⟨hc, okC⟩, ⟨hn, okN⟩, ⟨hh, okH⟩, hz, hS⟩ := hT
  refine zx_aload_n (i := 0) dX10_fitsPart_0 rfl rfl ?_
  refine zx_iload_n (i := 1) dX10_fitsPart_1 rfl rfl ?_
  refine zx_iload_n (i := 2) dX10_fitsPart_2 rfl rfl ?_
  refine zx_iv (b := t) (As := [zI c, zI i]) (st := []) (v := (some (zI (tmTy C c i)))) (w1 := w) dX10_fitsPart_3 zc_X10_58 h0 rfl rfl rfl (Nat.le_of_ble_eq_true rfl) rfl (c_X10_partType ⟨h0, ⟨hc, okC⟩, ⟨hn, okN⟩, ⟨hh, okH⟩, hz, hS⟩ c i) ?_
  refine zx_st (st1 := [zI (tmTy C c i)]) rfl ?_
  refine zx_istore (i := 4) dX10_fitsPart_6 (by decide) rfl ?_
  refine zx_L (L1 := [some (zR t), some (zI c), some (zI i), some (zI x), some (zI (tmTy C c i))]) rfl ?_
  refine zx_iload (i := 4) dX10_fitsPart_8 rfl ?_
  refine zx_iconst (v := -1) dX10_fitsPart_10 rfl (z32_lit (by decide) (by decide)) ?_
  refine zx_icmp_ne (tgt := 26) dX10_fitsPart_11 (by decide) (fun h11 => ?_) (fun h11 => ?_)
  · refine zx_aload_n (i := 0) dX10_fitsPart_26 rfl rfl ?_
    refine zx_aload_n (i := 0) dX10_fitsPart_27 rfl rfl ?_
    refine zx_iload_n (i := 3) dX10_fitsPart_28 rfl rfl ?_
    refine zx_pc (pc1 := 29) rfl ?_
    refine zx_iv (b := t) (As := [zI x]) (st := [zR t]) (v := (some (zI (tg N x 0)))) (w1 := w) dX10_fitsPart_29 zc_X10_61 h0 rfl rfl rfl (Nat.le_of_ble_eq_true rfl) rfl (c_X10_headOf ⟨h0, ⟨hc, okC⟩, ⟨hn, okN⟩, ⟨hh, okH⟩, hz, hS⟩ x) ?_
    refine zx_st (st1 := [zI (tg N x 0), zR t]) rfl ?_
    refine zx_iv (b := t) (As := [zI (tg N x 0)]) (st := []) (v := (some (zI (tg C (tg N x 0) 0)))) (w1 := w) dX10_fitsPart_32 zc_X10_64 h0 rfl rfl rfl (Nat.le_of_ble_eq_true rfl) rfl (c_X10_typeOfHead ⟨h0, ⟨hc, okC⟩, ⟨hn, okN⟩, ⟨hh, okH⟩, hz, hS⟩ (tg N x 0)) ?_
    refine zx_st (st1 := [zI (tg C (tg N x 0) 0)]) rfl ?_
    refine zx_iload (i := 4) dX10_fitsPart_35 rfl ?_
    refine zx_icmp_ne (tgt := 44) dX10_fitsPart_37 (by decide) (fun h37 => ?_) (fun h37 => ?_)
    · refine zx_iconst (v := 0) dX10_fitsPart_44 rfl (z32_lit (by decide) (by decide)) ?_
      refine zx_zret dX10_fitsPart_45 rfl (by first | exact Or.inl rfl | exact Or.inr rfl | exact zB_or | assumption) ?_
      exact zr_f (by unfold tmFp; first | (rw [if_pos (by omega)]; omega) | (rw [if_neg (by omega)]; omega))
    · refine zx_iconst (v := 1) dX10_fitsPart_40 rfl (z32_lit (by decide) (by decide)) ?_
      refine zx_goto (tgt := 45) dX10_fitsPart_41 (by decide) ?_
      refine zx_zret dX10_fitsPart_45 rfl (by first | exact Or.inl rfl | exact Or.inr rfl | exact zB_or | assumption) ?_
      exact zr_t (by unfold tmFp; first | (rw [if_pos (by omega)]; omega) | (rw [if_neg (by omega)]; omega))
  · refine zx_iload_n (i := 3) dX10_fitsPart_14 rfl rfl ?_
    refine zx_if_ne (tgt := 22) dX10_fitsPart_15 (by decide) (fun h15 => ?_) (fun h15 => ?_)
    · refine zx_iconst (v := 0) dX10_fitsPart_22 rfl (z32_lit (by decide) (by decide)) ?_
      refine zx_pc (pc1 := 23) rfl ?_
      refine zx_goto (tgt := 45) dX10_fitsPart_23 (by decide) ?_
      refine zx_zret dX10_fitsPart_45 rfl (by first | exact Or.inl rfl | exact Or.inr rfl | exact zB_or | assumption) ?_
      exact zr_f (by unfold tmFp; first | (rw [if_pos (by omega)]; omega) | (rw [if_neg (by omega)]; omega))
    · refine zx_iconst (v := 1) dX10_fitsPart_18 rfl (z32_lit (by decide) (by decide)) ?_
      refine zx_pc (pc1 := 19) rfl ?_
      refine zx_goto (tgt := 45) dX10_fitsPart_19 (by decide) ?_
      refine zx_zret dX10_fitsPart_45 rfl (by first | exact Or.inl rfl | exact Or.inr rfl | exact zB_or | assumption) ?_
      exact zr_t (by unfold tmFp; first | (rw [if_pos (by omega)]; omega) | (rw [if_neg (by omega)]; omega))
theorem c_X10_fits (hT : tmW w t tc tn th tz ty C N H S)  (c f s : Int) : zM G zm_X10_fits (d + 3) [zR t, zI c, zI f, zI s] w (zRet (some (zI (zB (tmFp C N c 0 f ∧ tmFp C N c 1 s)))) w) := by
  refine zx_ent (by decide +kernel) rfl (Nat.le_of_ble_eq_true rfl) ?_
  refine zx_L (L1 := [some (zR t), some (zI c), some (zI f), some (zI s)]) rfl ?_
  obtain ⟨h0, ⟨hc, okC⟩, ⟨hn, okN⟩, ⟨hh, okH⟩, hz, hS⟩ := hT
  refine zx_aload_n (i := 0) dX10_fits_0 rfl rfl ?_
  refine zx_iload_n (i := 1) dX10_fits_1 rfl rfl ?_
  refine zx_iconst (v := 0) dX10_fits_2 rfl (z32_lit (by decide) (by decide)) ?_
  refine zx_iload_n (i := 2) dX10_fits_3 rfl rfl ?_
  refine zx_iv (b := t) (As := [zI c, zI 0, zI f]) (st := []) (v := (some (zI (zB (tmFp C N c 0 f))))) (w1 := w) dX10_fits_4 zc_X10_54 h0 rfl rfl rfl (Nat.le_of_ble_eq_true rfl) rfl (c_X10_fitsPart ⟨h0, ⟨hc, okC⟩, ⟨hn, okN⟩, ⟨hh, okH⟩, hz, hS⟩ c 0 f) ?_
  refine zx_st (st1 := [zI (zB (tmFp C N c 0 f))]) rfl ?_
  refine zx_if_eq (tgt := 24) dX10_fits_7 (by decide) (fun h7 => ?_) (fun h7 => ?_)
  · refine zx_iconst (v := 0) dX10_fits_24 rfl (z32_lit (by decide) (by decide)) ?_
    refine zx_zret dX10_fits_25 rfl (by first | exact Or.inl rfl | exact Or.inr rfl | exact zB_or | assumption) ?_
    exact zr_f (by (try simp only [zB_zero, Decidable.not_not] at *); simp_all)
  · refine zx_aload_n (i := 0) dX10_fits_10 rfl rfl ?_
    refine zx_iload_n (i := 1) dX10_fits_11 rfl rfl ?_
    refine zx_iconst (v := 1) dX10_fits_12 rfl (z32_lit (by decide) (by decide)) ?_
    refine zx_iload_n (i := 3) dX10_fits_13 rfl rfl ?_
    refine zx_iv (b := t) (As := [zI c, zI 1, zI s]) (st := []) (v := (some (zI (zB (tmFp C N c 1 s))))) (w1 := w) dX10_fits_14 zc_X10_54 h0 rfl rfl rfl (Nat.le_of_ble_eq_true rfl) rfl (c_X10_fitsPart ⟨h0, ⟨hc, okC⟩, ⟨hn, okN⟩, ⟨hh, okH⟩, hz, hS⟩ c 1 s) ?_
    refine zx_st (st1 := [zI (zB (tmFp C N c 1 s))]) rfl ?_
    refine zx_pc (pc1 := 17) rfl ?_
    refine zx_if_eq (tgt := 24) dX10_fits_17 (by decide) (fun h17 => ?_) (fun h17 => ?_)
    · refine zx_iconst (v := 0) dX10_fits_24 rfl (z32_lit (by decide) (by decide)) ?_
      refine zx_zret dX10_fits_25 rfl (by first | exact Or.inl rfl | exact Or.inr rfl | exact zB_or | assumption) ?_
      exact zr_f (by (try simp only [zB_zero, Decidable.not_not] at *); simp_all)
    · refine zx_iconst (v := 1) dX10_fits_20 rfl (z32_lit (by decide) (by decide)) ?_
      refine zx_goto (tgt := 25) dX10_fits_21 (by decide) ?_
      refine zx_zret dX10_fits_25 rfl (by first | exact Or.inl rfl | exact Or.inr rfl | exact zB_or | assumption) ?_
      exact zr_t (by (try simp only [zB_zero, Decidable.not_not] at *); simp_all)
theorem c_X10_chainOf (c f s : Int) : zM G zm_X10_chainOf d [zI c, zI f, zI s] w (zRet (some (zI (tmCh c f s))) w) := by
  refine zx_ent (by decide +kernel) rfl (Nat.le_of_ble_eq_true rfl) ?_
  refine zx_L (L1 := [some (zI c), some (zI f), some (zI s)]) rfl ?_
  refine zx_bipush (v := 31) dX10_chainOf_0 (by decide +kernel) (z32_lit (by decide) (by decide)) ?_
  refine zx_iload_n (i := 0) dX10_chainOf_2 rfl rfl ?_
  refine zx_imul (v := zw (31 * c)) dX10_chainOf_3 rfl ?_
  refine zx_bipush (v := 7) dX10_chainOf_4 (by decide +kernel) (z32_lit (by decide) (by decide)) ?_
  refine zx_iload_n (i := 1) dX10_chainOf_6 rfl rfl ?_
  refine zx_imul (v := zw (7 * f)) dX10_chainOf_7 rfl ?_
  refine zx_iadd (v := zw ((zw (31 * c)) + (zw (7 * f)))) dX10_chainOf_8 rfl ?_
  refine zx_iload_n (i := 2) dX10_chainOf_9 rfl rfl ?_
  refine zx_iadd (v := zw ((zw ((zw (31 * c)) + (zw (7 * f)))) + s)) dX10_chainOf_10 rfl ?_
  refine zx_bipush (v := 63) dX10_chainOf_11 (by decide +kernel) (z32_lit (by decide) (by decide)) ?_
  refine zx_iand (v := zand (zw ((zw ((zw (31 * c)) + (zw (7 * f)))) + s)) 63) dX10_chainOf_13 rfl ?_
  refine zx_pc (pc1 := 14) rfl ?_
  refine zx_iret dX10_chainOf_14 rfl ?_
  exact zr_v rfl rfl
theorem tmF_s {N : List (List Int)} {c f s : Int} {k : Nat} {x : Int} : tmF N c f s (k + 1) x = if x = -1 then -1 else if tg N x 0 = c ∧ tg N x 1 = f ∧ tg N x 2 = s then x else tmF N c f s k (tg N x 3) := rfl
theorem c_X10_find (hT : tmW w t tc tn th tz ty C N H S) (c f s : Int) : zM G zm_X10_find (d + 1) [zR t, zI c, zI f, zI s] w (zRet (some (zI (tmFind N H c f s))) w) := by
  refine zx_ent (by decide +kernel) rfl (Nat.le_of_ble_eq_true rfl) ?_
  obtain ⟨h0, ⟨hc, okC⟩, ⟨hn, okN⟩, ⟨hh, okH⟩, hz, hS⟩ := hT
  have loop : ∀ (n : Nat) (o6 : Option zV) (x : Int) (k : Nat), k + n = 200 → zX G zm_X10_find (d + 1) [zR t, zI c, zI f, zI s] w (zRet (some (zI (tmF N c f s n x))) w) 19 [some (zR t), some (zI c), some (zI f), some (zI s), some (zI x), some (zI (k : Int)), o6] [] w := by
    intro n
    induction n with
    | zero =>
      intro o6 x k hk
      refine zx_iload (i := 5) dX10_find_19 rfl ?_
      refine zx_sipush (v := 200) dX10_find_21 (by decide +kernel) (z32_lit (by decide) (by decide)) ?_
      refine zx_icmp_ge (tgt := 108) dX10_find_24 (by decide) (fun h24 => ?_) (fun h24 => absurd (by omega) h24)
      refine zx_iconst (v := -1) dX10_find_108 rfl (z32_lit (by decide) (by decide)) ?_
      refine zx_iret dX10_find_109 rfl ?_
      exact zr_i rfl
    | succ n ih =>
      intro o6 x k hk
      by_cases hx : x = -1
      · subst hx
        refine zx_iload (i := 5) dX10_find_19 rfl ?_
        refine zx_sipush (v := 200) dX10_find_21 (by decide +kernel) (z32_lit (by decide) (by decide)) ?_
        refine zx_icmp_ge (tgt := 108) dX10_find_24 (by decide) (fun h24 => absurd h24 (by omega)) (fun h24 => ?_)
        refine zx_iload (i := 4) dX10_find_27 rfl ?_
        refine zx_iconst (v := -1) dX10_find_29 rfl (z32_lit (by decide) (by decide)) ?_
        refine zx_icmp_eq (tgt := 108) dX10_find_30 (by decide) (fun h30 => ?_) (fun h30 => absurd (by decide) h30)
        refine zx_iconst (v := -1) dX10_find_108 rfl (z32_lit (by decide) (by decide)) ?_
        refine zx_iret dX10_find_109 rfl ?_
        exact zr_i (by rw [tmF_s, if_pos rfl])
      · by_cases hq : tg N x 0 = c ∧ tg N x 1 = f ∧ tg N x 2 = s
        · obtain ⟨hq1, hq2, hq3⟩ := hq
          refine zx_iload (i := 5) dX10_find_19 rfl ?_
          refine zx_sipush (v := 200) dX10_find_21 (by decide +kernel) (z32_lit (by decide) (by decide)) ?_
          refine zx_icmp_ge (tgt := 108) dX10_find_24 (by decide) (fun h24 => absurd h24 (by omega)) (fun h24 => ?_)
          refine zx_iload (i := 4) dX10_find_27 rfl ?_
          refine zx_iconst (v := -1) dX10_find_29 rfl (z32_lit (by decide) (by decide)) ?_
          refine zx_icmp_eq (tgt := 108) dX10_find_30 (by decide) (fun h30 => absurd h30 (hx)) (fun h30 => ?_)
          refine zx_aload_n (i := 0) dX10_find_33 rfl rfl ?_
          refine zx_getfield dX10_find_34 zf_X10_24 h0 rfl ?_
          refine zx_iload (i := 4) dX10_find_37 rfl ?_
          refine zx_iconst (v := 0) dX10_find_39 rfl (z32_lit (by decide) (by decide)) ?_
          refine zx_iv (b := tn) (As := [zI x, zI 0]) (st := []) (v := (some (zI (tg N x 0)))) (w1 := w) dX10_find_40 zc_X10_42 hn (z_cls9 (by decide)) rfl rfl (Nat.le_of_ble_eq_true rfl) rfl (c_X9_get hn (by decide) okN x 0) ?_
          refine zx_st (st1 := [zI (tg N x 0)]) rfl ?_
          refine zx_pc (pc1 := 43) rfl ?_
          refine zx_iload_n (i := 1) dX10_find_43 rfl rfl ?_
          refine zx_icmp_ne (tgt := 79) dX10_find_44 (by decide) (fun h44 => absurd h44 (not_not_intro hq1)) (fun h44 => ?_)
          refine zx_aload_n (i := 0) dX10_find_47 rfl rfl ?_
          refine zx_getfield dX10_find_48 zf_X10_24 h0 rfl ?_
          refine zx_iload (i := 4) dX10_find_51 rfl ?_
          refine zx_iconst (v := 1) dX10_find_53 rfl (z32_lit (by decide) (by decide)) ?_
          refine zx_iv (b := tn) (As := [zI x, zI 1]) (st := []) (v := (some (zI (tg N x 1)))) (w1 := w) dX10_find_54 zc_X10_42 hn (z_cls9 (by decide)) rfl rfl (Nat.le_of_ble_eq_true rfl) rfl (c_X9_get hn (by decide) okN x 1) ?_
          refine zx_st (st1 := [zI (tg N x 1)]) rfl ?_
          refine zx_iload_n (i := 2) dX10_find_57 rfl rfl ?_
          refine zx_icmp_ne (tgt := 79) dX10_find_58 (by decide) (fun h58 => absurd h58 (not_not_intro hq2)) (fun h58 => ?_)
          refine zx_aload_n (i := 0) dX10_find_61 rfl rfl ?_
          refine zx_getfield dX10_find_62 zf_X10_24 h0 rfl ?_
          refine zx_iload (i := 4) dX10_find_65 rfl ?_
          refine zx_pc (pc1 := 67) rfl ?_
          refine zx_iconst (v := 2) dX10_find_67 rfl (z32_lit (by decide) (by decide)) ?_
          refine zx_iv (b := tn) (As := [zI x, zI 2]) (st := []) (v := (some (zI (tg N x 2)))) (w1 := w) dX10_find_68 zc_X10_42 hn (z_cls9 (by decide)) rfl rfl (Nat.le_of_ble_eq_true rfl) rfl (c_X9_get hn (by decide) okN x 2) ?_
          refine zx_st (st1 := [zI (tg N x 2)]) rfl ?_
          refine zx_iload_n (i := 3) dX10_find_71 rfl rfl ?_
          refine zx_icmp_ne (tgt := 79) dX10_find_72 (by decide) (fun h72 => absurd h72 (not_not_intro hq3)) (fun h72 => ?_)
          refine zx_iconst (v := 1) dX10_find_75 rfl (z32_lit (by decide) (by decide)) ?_
          refine zx_goto (tgt := 80) dX10_find_76 (by decide) ?_
          refine zx_istore (i := 6) dX10_find_80 (by decide) rfl ?_
          refine zx_L (L1 := [some (zR t), some (zI c), some (zI f), some (zI s), some (zI x), some (zI (k : Int)), some (zI 1)]) rfl ?_
          refine zx_iload (i := 6) dX10_find_82 rfl ?_
          refine zx_if_eq (tgt := 90) dX10_find_84 (by decide) (fun h84 => absurd h84 (by decide)) (fun h84 => ?_)
          refine zx_iload (i := 4) dX10_find_87 rfl ?_
          refine zx_iret dX10_find_89 rfl ?_
          exact zr_i (by rw [tmF_s, if_neg hx, if_pos ⟨hq1, hq2, hq3⟩])
        · by_cases hq1 : tg N x 0 = c
          · by_cases hq2 : tg N x 1 = f
            · have hq3 : tg N x 2 ≠ s := fun e => hq ⟨hq1, hq2, e⟩
              refine zx_iload (i := 5) dX10_find_19 rfl ?_
              refine zx_sipush (v := 200) dX10_find_21 (by decide +kernel) (z32_lit (by decide) (by decide)) ?_
              refine zx_icmp_ge (tgt := 108) dX10_find_24 (by decide) (fun h24 => absurd h24 (by omega)) (fun h24 => ?_)
              refine zx_iload (i := 4) dX10_find_27 rfl ?_
              refine zx_iconst (v := -1) dX10_find_29 rfl (z32_lit (by decide) (by decide)) ?_
              refine zx_icmp_eq (tgt := 108) dX10_find_30 (by decide) (fun h30 => absurd h30 (hx)) (fun h30 => ?_)
              refine zx_aload_n (i := 0) dX10_find_33 rfl rfl ?_
              refine zx_getfield dX10_find_34 zf_X10_24 h0 rfl ?_
              refine zx_iload (i := 4) dX10_find_37 rfl ?_
              refine zx_iconst (v := 0) dX10_find_39 rfl (z32_lit (by decide) (by decide)) ?_
              refine zx_iv (b := tn) (As := [zI x, zI 0]) (st := []) (v := (some (zI (tg N x 0)))) (w1 := w) dX10_find_40 zc_X10_42 hn (z_cls9 (by decide)) rfl rfl (Nat.le_of_ble_eq_true rfl) rfl (c_X9_get hn (by decide) okN x 0) ?_
              refine zx_st (st1 := [zI (tg N x 0)]) rfl ?_
              refine zx_pc (pc1 := 43) rfl ?_
              refine zx_iload_n (i := 1) dX10_find_43 rfl rfl ?_
              refine zx_icmp_ne (tgt := 79) dX10_find_44 (by decide) (fun h44 => absurd h44 (not_not_intro hq1)) (fun h44 => ?_)
              refine zx_aload_n (i := 0) dX10_find_47 rfl rfl ?_
              refine zx_getfield dX10_find_48 zf_X10_24 h0 rfl ?_
              refine zx_iload (i := 4) dX10_find_51 rfl ?_
              refine zx_iconst (v := 1) dX10_find_53 rfl (z32_lit (by decide) (by decide)) ?_
              refine zx_iv (b := tn) (As := [zI x, zI 1]) (st := []) (v := (some (zI (tg N x 1)))) (w1 := w) dX10_find_54 zc_X10_42 hn (z_cls9 (by decide)) rfl rfl (Nat.le_of_ble_eq_true rfl) rfl (c_X9_get hn (by decide) okN x 1) ?_
              refine zx_st (st1 := [zI (tg N x 1)]) rfl ?_
              refine zx_iload_n (i := 2) dX10_find_57 rfl rfl ?_
              refine zx_icmp_ne (tgt := 79) dX10_find_58 (by decide) (fun h58 => absurd h58 (not_not_intro hq2)) (fun h58 => ?_)
              refine zx_aload_n (i := 0) dX10_find_61 rfl rfl ?_
              refine zx_getfield dX10_find_62 zf_X10_24 h0 rfl ?_
              refine zx_iload (i := 4) dX10_find_65 rfl ?_
              refine zx_pc (pc1 := 67) rfl ?_
              refine zx_iconst (v := 2) dX10_find_67 rfl (z32_lit (by decide) (by decide)) ?_
              refine zx_iv (b := tn) (As := [zI x, zI 2]) (st := []) (v := (some (zI (tg N x 2)))) (w1 := w) dX10_find_68 zc_X10_42 hn (z_cls9 (by decide)) rfl rfl (Nat.le_of_ble_eq_true rfl) rfl (c_X9_get hn (by decide) okN x 2) ?_
              refine zx_st (st1 := [zI (tg N x 2)]) rfl ?_
              refine zx_iload_n (i := 3) dX10_find_71 rfl rfl ?_
              refine zx_icmp_ne (tgt := 79) dX10_find_72 (by decide) (fun h72 => ?_) (fun h72 => absurd (hq3) h72)
              refine zx_iconst (v := 0) dX10_find_79 rfl (z32_lit (by decide) (by decide)) ?_
              refine zx_istore (i := 6) dX10_find_80 (by decide) rfl ?_
              refine zx_L (L1 := [some (zR t), some (zI c), some (zI f), some (zI s), some (zI x), some (zI (k : Int)), some (zI 0)]) rfl ?_
              refine zx_iload (i := 6) dX10_find_82 rfl ?_
              refine zx_if_eq (tgt := 90) dX10_find_84 (by decide) (fun h84 => ?_) (fun h84 => absurd (by decide) h84)
              refine zx_aload_n (i := 0) dX10_find_90 rfl rfl ?_
              refine zx_getfield dX10_find_91 zf_X10_24 h0 rfl ?_
              refine zx_iload (i := 4) dX10_find_94 rfl ?_
              refine zx_iconst (v := 3) dX10_find_96 rfl (z32_lit (by decide) (by decide)) ?_
              refine zx_pc (pc1 := 97) rfl ?_
              refine zx_iv (b := tn) (As := [zI x, zI 3]) (st := []) (v := (some (zI (tg N x 3)))) (w1 := w) dX10_find_97 zc_X10_42 hn (z_cls9 (by decide)) rfl rfl (Nat.le_of_ble_eq_true rfl) rfl (c_X9_get hn (by decide) okN x 3) ?_
              refine zx_st (st1 := [zI (tg N x 3)]) rfl ?_
              refine zx_istore (i := 4) dX10_find_100 (by decide) rfl ?_
              refine zx_L (L1 := [some (zR t), some (zI c), some (zI f), some (zI s), some (zI (tg N x 3)), some (zI (k : Int)), some (zI 0)]) rfl ?_
              refine zx_iinc (i := 5) (v := ((k + 1 : Nat) : Int)) dX10_find_102 rfl (zw_eq (by omega) (by omega) (by omega)) (by decide) rfl ?_
              refine zx_L (L1 := [some (zR t), some (zI c), some (zI f), some (zI s), some (zI (tg N x 3)), some (zI ((k + 1 : Nat) : Int)), some (zI 0)]) rfl ?_
              refine zx_goto (tgt := 19) dX10_find_105 (by decide) ?_
              rw [tmF_s, if_neg hx, if_neg hq]
              exact ih _ (tg N x 3) (k + 1) (by omega)
            · refine zx_iload (i := 5) dX10_find_19 rfl ?_
              refine zx_sipush (v := 200) dX10_find_21 (by decide +kernel) (z32_lit (by decide) (by decide)) ?_
              refine zx_icmp_ge (tgt := 108) dX10_find_24 (by decide) (fun h24 => absurd h24 (by omega)) (fun h24 => ?_)
              refine zx_iload (i := 4) dX10_find_27 rfl ?_
              refine zx_iconst (v := -1) dX10_find_29 rfl (z32_lit (by decide) (by decide)) ?_
              refine zx_icmp_eq (tgt := 108) dX10_find_30 (by decide) (fun h30 => absurd h30 (hx)) (fun h30 => ?_)
              refine zx_aload_n (i := 0) dX10_find_33 rfl rfl ?_
              refine zx_getfield dX10_find_34 zf_X10_24 h0 rfl ?_
              refine zx_iload (i := 4) dX10_find_37 rfl ?_
              refine zx_iconst (v := 0) dX10_find_39 rfl (z32_lit (by decide) (by decide)) ?_
              refine zx_iv (b := tn) (As := [zI x, zI 0]) (st := []) (v := (some (zI (tg N x 0)))) (w1 := w) dX10_find_40 zc_X10_42 hn (z_cls9 (by decide)) rfl rfl (Nat.le_of_ble_eq_true rfl) rfl (c_X9_get hn (by decide) okN x 0) ?_
              refine zx_st (st1 := [zI (tg N x 0)]) rfl ?_
              refine zx_pc (pc1 := 43) rfl ?_
              refine zx_iload_n (i := 1) dX10_find_43 rfl rfl ?_
              refine zx_icmp_ne (tgt := 79) dX10_find_44 (by decide) (fun h44 => absurd h44 (not_not_intro hq1)) (fun h44 => ?_)
              refine zx_aload_n (i := 0) dX10_find_47 rfl rfl ?_
              refine zx_getfield dX10_find_48 zf_X10_24 h0 rfl ?_
              refine zx_iload (i := 4) dX10_find_51 rfl ?_
              refine zx_iconst (v := 1) dX10_find_53 rfl (z32_lit (by decide) (by decide)) ?_
              refine zx_iv (b := tn) (As := [zI x, zI 1]) (st := []) (v := (some (zI (tg N x 1)))) (w1 := w) dX10_find_54 zc_X10_42 hn (z_cls9 (by decide)) rfl rfl (Nat.le_of_ble_eq_true rfl) rfl (c_X9_get hn (by decide) okN x 1) ?_
              refine zx_st (st1 := [zI (tg N x 1)]) rfl ?_
              refine zx_iload_n (i := 2) dX10_find_57 rfl rfl ?_
              refine zx_icmp_ne (tgt := 79) dX10_find_58 (by decide) (fun h58 => ?_) (fun h58 => absurd (hq2) h58)
              refine zx_iconst (v := 0) dX10_find_79 rfl (z32_lit (by decide) (by decide)) ?_
              refine zx_istore (i := 6) dX10_find_80 (by decide) rfl ?_
              refine zx_L (L1 := [some (zR t), some (zI c), some (zI f), some (zI s), some (zI x), some (zI (k : Int)), some (zI 0)]) rfl ?_
              refine zx_iload (i := 6) dX10_find_82 rfl ?_
              refine zx_pc (pc1 := 84) rfl ?_
              refine zx_if_eq (tgt := 90) dX10_find_84 (by decide) (fun h84 => ?_) (fun h84 => absurd (by decide) h84)
              refine zx_aload_n (i := 0) dX10_find_90 rfl rfl ?_
              refine zx_getfield dX10_find_91 zf_X10_24 h0 rfl ?_
              refine zx_iload (i := 4) dX10_find_94 rfl ?_
              refine zx_iconst (v := 3) dX10_find_96 rfl (z32_lit (by decide) (by decide)) ?_
              refine zx_iv (b := tn) (As := [zI x, zI 3]) (st := []) (v := (some (zI (tg N x 3)))) (w1 := w) dX10_find_97 zc_X10_42 hn (z_cls9 (by decide)) rfl rfl (Nat.le_of_ble_eq_true rfl) rfl (c_X9_get hn (by decide) okN x 3) ?_
              refine zx_st (st1 := [zI (tg N x 3)]) rfl ?_
              refine zx_istore (i := 4) dX10_find_100 (by decide) rfl ?_
              refine zx_L (L1 := [some (zR t), some (zI c), some (zI f), some (zI s), some (zI (tg N x 3)), some (zI (k : Int)), some (zI 0)]) rfl ?_
              refine zx_iinc (i := 5) (v := ((k + 1 : Nat) : Int)) dX10_find_102 rfl (zw_eq (by omega) (by omega) (by omega)) (by decide) rfl ?_
              refine zx_L (L1 := [some (zR t), some (zI c), some (zI f), some (zI s), some (zI (tg N x 3)), some (zI ((k + 1 : Nat) : Int)), some (zI 0)]) rfl ?_
              refine zx_goto (tgt := 19) dX10_find_105 (by decide) ?_
              rw [tmF_s, if_neg hx, if_neg hq]
              exact ih _ (tg N x 3) (k + 1) (by omega)
          · refine zx_iload (i := 5) dX10_find_19 rfl ?_
            refine zx_sipush (v := 200) dX10_find_21 (by decide +kernel) (z32_lit (by decide) (by decide)) ?_
            refine zx_icmp_ge (tgt := 108) dX10_find_24 (by decide) (fun h24 => absurd h24 (by omega)) (fun h24 => ?_)
            refine zx_iload (i := 4) dX10_find_27 rfl ?_
            refine zx_iconst (v := -1) dX10_find_29 rfl (z32_lit (by decide) (by decide)) ?_
            refine zx_icmp_eq (tgt := 108) dX10_find_30 (by decide) (fun h30 => absurd h30 (hx)) (fun h30 => ?_)
            refine zx_aload_n (i := 0) dX10_find_33 rfl rfl ?_
            refine zx_getfield dX10_find_34 zf_X10_24 h0 rfl ?_
            refine zx_iload (i := 4) dX10_find_37 rfl ?_
            refine zx_iconst (v := 0) dX10_find_39 rfl (z32_lit (by decide) (by decide)) ?_
            refine zx_iv (b := tn) (As := [zI x, zI 0]) (st := []) (v := (some (zI (tg N x 0)))) (w1 := w) dX10_find_40 zc_X10_42 hn (z_cls9 (by decide)) rfl rfl (Nat.le_of_ble_eq_true rfl) rfl (c_X9_get hn (by decide) okN x 0) ?_
            refine zx_st (st1 := [zI (tg N x 0)]) rfl ?_
            refine zx_pc (pc1 := 43) rfl ?_
            refine zx_iload_n (i := 1) dX10_find_43 rfl rfl ?_
            refine zx_icmp_ne (tgt := 79) dX10_find_44 (by decide) (fun h44 => ?_) (fun h44 => absurd (hq1) h44)
            refine zx_iconst (v := 0) dX10_find_79 rfl (z32_lit (by decide) (by decide)) ?_
            refine zx_istore (i := 6) dX10_find_80 (by decide) rfl ?_
            refine zx_L (L1 := [some (zR t), some (zI c), some (zI f), some (zI s), some (zI x), some (zI (k : Int)), some (zI 0)]) rfl ?_
            refine zx_iload (i := 6) dX10_find_82 rfl ?_
            refine zx_if_eq (tgt := 90) dX10_find_84 (by decide) (fun h84 => ?_) (fun h84 => absurd (by decide) h84)
            refine zx_aload_n (i := 0) dX10_find_90 rfl rfl ?_
            refine zx_getfield dX10_find_91 zf_X10_24 h0 rfl ?_
            refine zx_iload (i := 4) dX10_find_94 rfl ?_
            refine zx_iconst (v := 3) dX10_find_96 rfl (z32_lit (by decide) (by decide)) ?_
            refine zx_iv (b := tn) (As := [zI x, zI 3]) (st := []) (v := (some (zI (tg N x 3)))) (w1 := w) dX10_find_97 zc_X10_42 hn (z_cls9 (by decide)) rfl rfl (Nat.le_of_ble_eq_true rfl) rfl (c_X9_get hn (by decide) okN x 3) ?_
            refine zx_st (st1 := [zI (tg N x 3)]) rfl ?_
            refine zx_istore (i := 4) dX10_find_100 (by decide) rfl ?_
            refine zx_L (L1 := [some (zR t), some (zI c), some (zI f), some (zI s), some (zI (tg N x 3)), some (zI (k : Int)), some (zI 0)]) rfl ?_
            refine zx_pc (pc1 := 102) rfl ?_
            refine zx_iinc (i := 5) (v := ((k + 1 : Nat) : Int)) dX10_find_102 rfl (zw_eq (by omega) (by omega) (by omega)) (by decide) rfl ?_
            refine zx_L (L1 := [some (zR t), some (zI c), some (zI f), some (zI s), some (zI (tg N x 3)), some (zI ((k + 1 : Nat) : Int)), some (zI 0)]) rfl ?_
            refine zx_goto (tgt := 19) dX10_find_105 (by decide) ?_
            rw [tmF_s, if_neg hx, if_neg hq]
            exact ih _ (tg N x 3) (k + 1) (by omega)
  refine zx_L (L1 := [some (zR t), some (zI c), some (zI f), some (zI s), none, none, none]) rfl ?_
  refine zx_aload_n (i := 0) dX10_find_0 rfl rfl ?_
  refine zx_getfield dX10_find_1 zf_X10_27 h0 rfl ?_
  refine zx_iload_n (i := 1) dX10_find_4 rfl rfl ?_
  refine zx_iload_n (i := 2) dX10_find_5 rfl rfl ?_
  refine zx_iload_n (i := 3) dX10_find_6 rfl rfl ?_
  refine zx_is (As := [zI c, zI f, zI s]) (st := [zR th]) (v := (some (zI (tmCh c f s)))) (w1 := w) dX10_find_7 zc_X10_67 rfl (Nat.le_of_ble_eq_true rfl) rfl (c_X10_chainOf c f s) ?_
  refine zx_st (st1 := [zI (tmCh c f s), zR th]) rfl ?_
  refine zx_iconst (v := 0) dX10_find_10 rfl (z32_lit (by decide) (by decide)) ?_
  refine zx_iv (b := th) (As := [zI (tmCh c f s), zI 0]) (st := []) (v := (some (zI (tg H (tmCh c f s) 0)))) (w1 := w) dX10_find_11 zc_X10_42 hh (z_cls9 (by decide)) rfl rfl (Nat.le_of_ble_eq_true rfl) rfl (c_X9_get hh (by decide) okH (tmCh c f s) 0) ?_
  refine zx_st (st1 := [zI (tg H (tmCh c f s) 0)]) rfl ?_
  refine zx_istore (i := 4) dX10_find_14 (by decide) rfl ?_
  refine zx_L (L1 := [some (zR t), some (zI c), some (zI f), some (zI s), some (zI (tg H (tmCh c f s) 0)), none, none]) rfl ?_
  refine zx_iconst (v := 0) dX10_find_16 rfl (z32_lit (by decide) (by decide)) ?_
  refine zx_istore (i := 5) dX10_find_17 (by decide) rfl ?_
  refine zx_L (L1 := [some (zR t), some (zI c), some (zI f), some (zI s), some (zI (tg H (tmCh c f s) 0)), some (zI 0), none]) rfl ?_
  exact loop 200 none (tg H (tmCh c f s) 0) 0 (by omega)
end CTERMS
