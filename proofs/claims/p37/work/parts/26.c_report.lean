/-! Own rows: REPORTS and FRAMES. Walked by program (wip/p37/m_report.py). -/
/-- a report: mode, inputs, answers, notes, steps, choices, depth, end, breadth -/
def rpW (w : zW) (r ti ta tn : Nat) (mo : Option Nat) (I A N : List (List Int)) (sc cc dc en bk bc : Int) : Prop :=
  w.1 r = some (8, 0, [Sum.inr (Sum.inl mo), zR ti, zR ta, zR tn, zI sc, zI cc, zI dc, zI en, zI bk, zI bc]) ∧ (w.1 ti = some (135, r, tTb 1 3 I) ∧ tOk 1 I) ∧ (w.1 ta = some (136, r, tTb 3 150 A) ∧ tOk 3 A) ∧ (w.1 tn = some (137, r, tTb 2 160 N) ∧ tOk 2 N)
abbrev rpEq (A : List (List Int)) (i j : Int) : Prop := tg A j 0 = tg A i 0 ∧ tg A j 1 = tg A i 1 ∧ tg A j 2 = tg A i 2
def rpLike (A : List (List Int)) (i : Int) : Nat → Int
  | 0 => 0
  | k + 1 => rpLike A i k + (if rpEq A i (k : Int) then 1 else 0)
theorem rpLike_s {A : List (List Int)} {i : Int} {k : Nat} : rpLike A i (k + 1) = rpLike A i k + (if rpEq A i (k : Int) then 1 else 0) := rfl
theorem rpLike_le {A : List (List Int)} {i : Int} : ∀ {k : Nat}, 0 ≤ rpLike A i k ∧ rpLike A i k ≤ k
  | 0 => by simp [rpLike]
  | k + 1 => by
    have h := rpLike_le (A := A) (i := i) (k := k)
    unfold rpLike
    split <;> omega
theorem tcut_0 {N : List (List Int)} : tcut N 0 = [] := by unfold tcut; simp
theorem zi2c_id {a : Int} (h : 0 ≤ a ∧ a < 65536) : zi2c a = a := by
  obtain ⟨n, rfl⟩ : ∃ n : Nat, a = n := ⟨a.toNat, by omega⟩
  have h3 : n < 65536 := by omega
  have e : Value.int (((Int32.ofInt (n : Int)).toUInt32 % 65536).toInt32) = Value.int (Int32.ofInt (n : Int)) := (zFt_char n h3).1
  injection e with e1
  unfold zi2c
  rw [e1]
  exact zw_id ⟨by omega, by omega⟩
section CREP
variable {G : zG} {d : Nat} {w : zW} {r ti ta tn : Nat} {mo : Option Nat} {I A N : List (List Int)} {sc cc dc en bk bc : Int}
theorem c_X8_inputAt (hR : rpW w r ti ta tn mo I A N sc cc dc en bk bc) (i : Int) : zM G zm_X8_inputAt (d + 1) [zR r, zI i] w (zRet (some (zI (tg I i 0))) w) := by
  refine zx_ent (by decide +kernel) rfl (Nat.le_of_ble_eq_true rfl) ?_
  refine zx_L (L1 := [some (zR r), some (zI i)]) rfl ?_
  obtain ⟨h0, ⟨hi, okI⟩, ⟨ha, okA⟩, ⟨hn, okN⟩⟩ := hR
  refine zx_aload_n (i := 0) dX8_inputAt_0 rfl rfl ?_
  refine zx_getfield dX8_inputAt_1 zf_X8_20 h0 rfl ?_
  refine zx_iload_n (i := 1) dX8_inputAt_4 rfl rfl ?_
  refine zx_iconst (v := 0) dX8_inputAt_5 rfl (z32_lit (by decide) (by decide)) ?_
  refine zx_iv (b := ti) (As := [zI i, zI 0]) (st := []) (v := (some (zI (tg I i 0)))) (w1 := w) dX8_inputAt_6 zc_X8_69 hi (z_cls9 (by decide)) rfl rfl (Nat.le_of_ble_eq_true rfl) rfl (c_X9_get hi (by decide) okI i 0) ?_
  refine zx_st (st1 := [zI (tg I i 0)]) rfl ?_
  refine zx_iret dX8_inputAt_9 rfl ?_
  exact zr_v rfl rfl
theorem c_X8_noteCount (hR : rpW w r ti ta tn mo I A N sc cc dc en bk bc) : zM G zm_X8_noteCount (d + 1) [zR r] w (zRet (some (zI ((N.length : Int)))) w) := by
  refine zx_ent (by decide +kernel) rfl (Nat.le_of_ble_eq_true rfl) ?_
  refine zx_L (L1 := [some (zR r)]) rfl ?_
  obtain ⟨h0, ⟨hi, okI⟩, ⟨ha, okA⟩, ⟨hn, okN⟩⟩ := hR
  refine zx_aload_n (i := 0) dX8_noteCount_0 rfl rfl ?_
  refine zx_getfield dX8_noteCount_1 zf_X8_27 h0 rfl ?_
  refine zx_iv (b := tn) (As := []) (st := []) (v := (some (zI (N.length : Int)))) (w1 := w) dX8_noteCount_4 zc_X8_73 hn (z_cls9 (by decide)) rfl rfl (Nat.le_of_ble_eq_true rfl) rfl (c_X9_count hn (by decide) okN) ?_
  refine zx_st (st1 := [zI (N.length : Int)]) rfl ?_
  refine zx_iret dX8_noteCount_7 rfl ?_
  exact zr_v rfl rfl
theorem c_X8_notePlace (hR : rpW w r ti ta tn mo I A N sc cc dc en bk bc) (i : Int) : zM G zm_X8_notePlace (d + 1) [zR r, zI i] w (zRet (some (zI (tg N i 1))) w) := by
  refine zx_ent (by decide +kernel) rfl (Nat.le_of_ble_eq_true rfl) ?_
  refine zx_L (L1 := [some (zR r), some (zI i)]) rfl ?_
  obtain ⟨h0, ⟨hi, okI⟩, ⟨ha, okA⟩, ⟨hn, okN⟩⟩ := hR
  refine zx_aload_n (i := 0) dX8_notePlace_0 rfl rfl ?_
  refine zx_getfield dX8_notePlace_1 zf_X8_27 h0 rfl ?_
  refine zx_iload_n (i := 1) dX8_notePlace_4 rfl rfl ?_
  refine zx_iconst (v := 1) dX8_notePlace_5 rfl (z32_lit (by decide) (by decide)) ?_
  refine zx_iv (b := tn) (As := [zI i, zI 1]) (st := []) (v := (some (zI (tg N i 1)))) (w1 := w) dX8_notePlace_6 zc_X8_69 hn (z_cls9 (by decide)) rfl rfl (Nat.le_of_ble_eq_true rfl) rfl (c_X9_get hn (by decide) okN i 1) ?_
  refine zx_st (st1 := [zI (tg N i 1)]) rfl ?_
  refine zx_iret dX8_notePlace_9 rfl ?_
  exact zr_v rfl rfl
theorem c_X8_answerCount (hR : rpW w r ti ta tn mo I A N sc cc dc en bk bc) : zM G zm_X8_answerCount (d + 1) [zR r] w (zRet (some (zI ((A.length : Int)))) w) := by
  refine zx_ent (by decide +kernel) rfl (Nat.le_of_ble_eq_true rfl) ?_
  refine zx_L (L1 := [some (zR r)]) rfl ?_
  obtain ⟨h0, ⟨hi, okI⟩, ⟨ha, okA⟩, ⟨hn, okN⟩⟩ := hR
  refine zx_aload_n (i := 0) dX8_answerCount_0 rfl rfl ?_
  refine zx_getfield dX8_answerCount_1 zf_X8_24 h0 rfl ?_
  refine zx_iv (b := ta) (As := []) (st := []) (v := (some (zI (A.length : Int)))) (w1 := w) dX8_answerCount_4 zc_X8_73 ha (z_cls9 (by decide)) rfl rfl (Nat.le_of_ble_eq_true rfl) rfl (c_X9_count ha (by decide) okA) ?_
  refine zx_st (st1 := [zI (A.length : Int)]) rfl ?_
  refine zx_iret dX8_answerCount_7 rfl ?_
  exact zr_v rfl rfl
theorem c_X8_answerPart (hR : rpW w r ti ta tn mo I A N sc cc dc en bk bc) (i j : Int) : zM G zm_X8_answerPart (d + 1) [zR r, zI i, zI j] w (zRet (some (zI (tg A i j))) w) := by
  refine zx_ent (by decide +kernel) rfl (Nat.le_of_ble_eq_true rfl) ?_
  refine zx_L (L1 := [some (zR r), some (zI i), some (zI j)]) rfl ?_
  obtain ⟨h0, ⟨hi, okI⟩, ⟨ha, okA⟩, ⟨hn, okN⟩⟩ := hR
  refine zx_aload_n (i := 0) dX8_answerPart_0 rfl rfl ?_
  refine zx_getfield dX8_answerPart_1 zf_X8_24 h0 rfl ?_
  refine zx_iload_n (i := 1) dX8_answerPart_4 rfl rfl ?_
  refine zx_iload_n (i := 2) dX8_answerPart_5 rfl rfl ?_
  refine zx_iv (b := ta) (As := [zI i, zI j]) (st := []) (v := (some (zI (tg A i j)))) (w1 := w) dX8_answerPart_6 zc_X8_69 ha (z_cls9 (by decide)) rfl rfl (Nat.le_of_ble_eq_true rfl) rfl (c_X9_get ha (by decide) okA i j) ?_
  refine zx_st (st1 := [zI (tg A i j)]) rfl ?_
  refine zx_iret dX8_answerPart_9 rfl ?_
  exact zr_v rfl rfl
theorem c_X8_hasAnswer (hR : rpW w r ti ta tn mo I A N sc cc dc en bk bc) (i : Int) : zM G zm_X8_hasAnswer (d + 1) [zR r, zI i] w (zRet (some (zI (zB (0 ≤ i ∧ i < (A.length : Int))))) w) := by
  refine zx_ent (by decide +kernel) rfl (Nat.le_of_ble_eq_true rfl) ?_
  refine zx_L (L1 := [some (zR r), some (zI i)]) rfl ?_
  obtain ⟨h0, ⟨hi, okI⟩, ⟨ha, okA⟩, ⟨hn, okN⟩⟩ := hR
  refine zx_iload_n (i := 1) dX8_hasAnswer_0 rfl rfl ?_
  refine zx_if_lt (tgt := 19) dX8_hasAnswer_1 (by decide) (fun h1 => ?_) (fun h1 => ?_)
  · refine zx_iconst (v := 0) dX8_hasAnswer_19 rfl (z32_lit (by decide) (by decide)) ?_
    refine zx_zret dX8_hasAnswer_20 rfl (by first | exact Or.inl rfl | exact Or.inr rfl | exact zB_or | assumption) ?_
    exact zr_f (by omega)
  · refine zx_iload_n (i := 1) dX8_hasAnswer_4 rfl rfl ?_
    refine zx_aload_n (i := 0) dX8_hasAnswer_5 rfl rfl ?_
    refine zx_getfield dX8_hasAnswer_6 zf_X8_24 h0 rfl ?_
    refine zx_iv (b := ta) (As := []) (st := [zI i]) (v := (some (zI (A.length : Int)))) (w1 := w) dX8_hasAnswer_9 zc_X8_73 ha (z_cls9 (by decide)) rfl rfl (Nat.le_of_ble_eq_true rfl) rfl (c_X9_count ha (by decide) okA) ?_
    refine zx_st (st1 := [zI (A.length : Int), zI i]) rfl ?_
    refine zx_icmp_ge (tgt := 19) dX8_hasAnswer_12 (by decide) (fun h12 => ?_) (fun h12 => ?_)
    · refine zx_iconst (v := 0) dX8_hasAnswer_19 rfl (z32_lit (by decide) (by decide)) ?_
      refine zx_zret dX8_hasAnswer_20 rfl (by first | exact Or.inl rfl | exact Or.inr rfl | exact zB_or | assumption) ?_
      exact zr_f (by omega)
    · refine zx_iconst (v := 1) dX8_hasAnswer_15 rfl (z32_lit (by decide) (by decide)) ?_
      refine zx_goto (tgt := 20) dX8_hasAnswer_16 (by decide) ?_
      refine zx_zret dX8_hasAnswer_20 rfl (by first | exact Or.inl rfl | exact Or.inr rfl | exact zB_or | assumption) ?_
      exact zr_t (by omega)
theorem c_X8_noteSign (hR : rpW w r ti ta tn mo I A N sc cc dc en bk bc) (i : Int) (hc : 0 ≤ tg N i 0 ∧ tg N i 0 < 65536) : zM G zm_X8_noteSign (d + 1) [zR r, zI i] w (zRet (some (zI (tg N i 0))) w) := by
  refine zx_ent (by decide +kernel) rfl (Nat.le_of_ble_eq_true rfl) ?_
  refine zx_L (L1 := [some (zR r), some (zI i)]) rfl ?_
  obtain ⟨h0, ⟨hi, okI⟩, ⟨ha, okA⟩, ⟨hn, okN⟩⟩ := hR
  refine zx_aload_n (i := 0) dX8_noteSign_0 rfl rfl ?_
  refine zx_getfield dX8_noteSign_1 zf_X8_27 h0 rfl ?_
  refine zx_iload_n (i := 1) dX8_noteSign_4 rfl rfl ?_
  refine zx_iconst (v := 0) dX8_noteSign_5 rfl (z32_lit (by decide) (by decide)) ?_
  refine zx_iv (b := tn) (As := [zI i, zI 0]) (st := []) (v := (some (zI (tg N i 0)))) (w1 := w) dX8_noteSign_6 zc_X8_69 hn (z_cls9 (by decide)) rfl rfl (Nat.le_of_ble_eq_true rfl) rfl (c_X9_get hn (by decide) okN i 0) ?_
  refine zx_st (st1 := [zI (tg N i 0)]) rfl ?_
  refine zx_i2c (v := tg N i 0) dX8_noteSign_9 (zi2c_id hc) ?_
  refine zx_cret dX8_noteSign_10 rfl hc ?_
  exact zr_v rfl rfl
theorem c_X8_addAnswer (hR : rpW w r ti ta tn mo I A N sc cc dc en bk bc) (hA : A.length < 50) (x y z : Int) : zM G zm_X8_addAnswer (d + 3) [zR r, zI x, zI y, zI z] w (zRet none (zput w ta (136, r, tTb 3 150 (A ++ [[x, y, z]])))) := by
  refine zx_ent (by decide +kernel) rfl (Nat.le_of_ble_eq_true rfl) ?_
  refine zx_L (L1 := [some (zR r), some (zI x), some (zI y), some (zI z)]) rfl ?_
  obtain ⟨h0, ⟨hi, okI⟩, ⟨ha, okA⟩, ⟨hn, okN⟩⟩ := hR
  refine zx_aload_n (i := 0) dX8_addAnswer_0 rfl rfl ?_
  refine zx_getfield dX8_addAnswer_1 zf_X8_24 h0 rfl ?_
  refine zx_iload_n (i := 1) dX8_addAnswer_4 rfl rfl ?_
  refine zx_iload_n (i := 2) dX8_addAnswer_5 rfl rfl ?_
  refine zx_iload_n (i := 3) dX8_addAnswer_6 rfl rfl ?_
  obtain ⟨w_1, hw_2⟩ : ∃ ww, ww = zput w ta (136, r, tTb 3 150 (A ++ [trow 3 x y z])) := ⟨_, rfl⟩
  have h_3 : w_1.1 ta = some (136, r, tTb 3 150 (A ++ [trow 3 x y z])) := by rw [hw_2]; exact zput_at
  refine zx_iv (b := ta) (As := [zI x, zI y, zI z]) (st := []) (v := (some (zI (A.length : Int)))) (w1 := w_1) dX8_addAnswer_7 zc_X8_48 ha (z_cls9 (by decide)) rfl rfl (Nat.le_of_ble_eq_true rfl) rfl (by rw [hw_2]; exact (c_X9_addS ha (by decide) okA ⟨by omega, by decide⟩ x y z)) ?_
  refine zx_st (st1 := [zI (A.length : Int)]) rfl ?_
  refine zx_pop dX8_addAnswer_10 (fun a h => by cases h) ?_
  refine zx_return dX8_addAnswer_11 rfl ?_
  exact zr_n (by rw [hw_2]; rfl)
theorem c_X8_note (hR : rpW w r ti ta tn mo I A N sc cc dc en bk bc) (sg pd dp : Int) : zM G zm_X8_note (d + 3) [zR r, zI sg, zI pd, zI dp] w (zRet none (if N.length < 80 then zput w tn (137, r, tTb 2 160 (N ++ [[sg, zw (zw (100 * pd) + dp)]])) else w)) := by
  refine zx_ent (by decide +kernel) rfl (Nat.le_of_ble_eq_true rfl) ?_
  refine zx_L (L1 := [some (zR r), some (zI sg), some (zI pd), some (zI dp)]) rfl ?_
  obtain ⟨h0, ⟨hi, okI⟩, ⟨ha, okA⟩, ⟨hn, okN⟩⟩ := hR
  refine zx_aload_n (i := 0) dX8_note_0 rfl rfl ?_
  refine zx_getfield dX8_note_1 zf_X8_27 h0 rfl ?_
  refine zx_iv (b := tn) (As := []) (st := []) (v := (some (zI (N.length : Int)))) (w1 := w) dX8_note_4 zc_X8_73 hn (z_cls9 (by decide)) rfl rfl (Nat.le_of_ble_eq_true rfl) rfl (c_X9_count hn (by decide) okN) ?_
  refine zx_st (st1 := [zI (N.length : Int)]) rfl ?_
  refine zx_bipush (v := 80) dX8_note_7 (by decide +kernel) (z32_lit (by decide) (by decide)) ?_
  refine zx_icmp_ge (tgt := 28) dX8_note_9 (by decide) (fun h9 => ?_) (fun h9 => ?_)
  · refine zx_return dX8_note_28 rfl ?_
    exact zr_n (by rw [if_neg (by omega)])
  · refine zx_aload_n (i := 0) dX8_note_12 rfl rfl ?_
    refine zx_getfield dX8_note_13 zf_X8_27 h0 rfl ?_
    refine zx_iload_n (i := 1) dX8_note_16 rfl rfl ?_
    refine zx_bipush (v := 100) dX8_note_17 (by decide +kernel) (z32_lit (by decide) (by decide)) ?_
    refine zx_iload_n (i := 2) dX8_note_19 rfl rfl ?_
    refine zx_imul (v := zw (100 * pd)) dX8_note_20 rfl ?_
    refine zx_pc (pc1 := 21) rfl ?_
    refine zx_iload_n (i := 3) dX8_note_21 rfl rfl ?_
    refine zx_iadd (v := zw ((zw (100 * pd)) + dp)) dX8_note_22 rfl ?_
    refine zx_iconst (v := -1) dX8_note_23 rfl (z32_lit (by decide) (by decide)) ?_
    obtain ⟨w_1, hw_2⟩ : ∃ ww, ww = zput w tn (137, r, tTb 2 160 (N ++ [trow 2 sg (zw ((zw (100 * pd)) + dp)) (-1)])) := ⟨_, rfl⟩
    have h_3 : w_1.1 tn = some (137, r, tTb 2 160 (N ++ [trow 2 sg (zw ((zw (100 * pd)) + dp)) (-1)])) := by rw [hw_2]; exact zput_at
    refine zx_iv (b := tn) (As := [zI sg, zI (zw ((zw (100 * pd)) + dp)), zI (-1)]) (st := []) (v := (some (zI (N.length : Int)))) (w1 := w_1) dX8_note_24 zc_X8_48 hn (z_cls9 (by decide)) rfl rfl (Nat.le_of_ble_eq_true rfl) rfl (by rw [hw_2]; exact (c_X9_addS hn (by decide) okN ⟨by omega, by decide⟩ sg (zw ((zw (100 * pd)) + dp)) (-1))) ?_
    refine zx_st (st1 := [zI (N.length : Int)]) rfl ?_
    refine zx_pop dX8_note_27 (fun a h => by cases h) ?_
    refine zx_return dX8_note_28 rfl ?_
    exact zr_n (by first | (rw [if_pos (by omega), hw_2]; rfl) | rw [if_neg (by omega)])
theorem c_X8_hasArgument {m om pp op tt ms cs q : Nat} {nu ins pm lo gd cf cr sw pnu : Int} {T : List (List Int)} (hm : w.1 m = some (5, om, [zR pp, zI nu, zI ins, zI pm, zI lo, zI gd, zI cf, zI cr, zI sw])) (hpp : w.1 pp = some (6, op, [zI pnu, zR tt, zR ms, zR cs, zR q])) (htt : w.1 tt = some (134, pp, tTb 1 3 T)) (okT : tOk 1 T) (hR : rpW w r ti ta tn (some m) I A N sc cc dc en bk bc) (i : Int) : zM G zm_X8_hasArgument (d + 2) [zR r, zI i] w (zRet (some (zI (zB (0 ≤ i ∧ i < (T.length : Int))))) w) := by
  refine zx_ent (by decide +kernel) rfl (Nat.le_of_ble_eq_true rfl) ?_
  refine zx_L (L1 := [some (zR r), some (zI i)]) rfl ?_
  obtain ⟨h0, ⟨hi, okI⟩, ⟨ha, okA⟩, ⟨hn, okN⟩⟩ := hR
  refine zx_aload_n (i := 0) dX8_hasArgument_0 rfl rfl ?_
  refine zx_getfield dX8_hasArgument_1 zf_X8_9 h0 rfl ?_
  refine zx_ifnull (tgt := 29) dX8_hasArgument_4 (by decide) (fun h => by cases h) (fun _ => ?_)
  refine zx_iload_n (i := 1) dX8_hasArgument_7 rfl rfl ?_
  refine zx_if_lt (tgt := 29) dX8_hasArgument_8 (by decide) (fun h8 => ?_) (fun h8 => ?_)
  · refine zx_iconst (v := 0) dX8_hasArgument_29 rfl (z32_lit (by decide) (by decide)) ?_
    refine zx_zret dX8_hasArgument_30 rfl (by first | exact Or.inl rfl | exact Or.inr rfl | exact zB_or | assumption) ?_
    exact zr_f (by omega)
  · refine zx_iload_n (i := 1) dX8_hasArgument_11 rfl rfl ?_
    refine zx_aload_n (i := 0) dX8_hasArgument_12 rfl rfl ?_
    refine zx_getfield dX8_hasArgument_13 zf_X8_9 h0 rfl ?_
    refine zx_getfield dX8_hasArgument_16 zf_X8_77 hm rfl ?_
    refine zx_iv (b := pp) (As := []) (st := [zI i]) (v := (some (zI (T.length : Int)))) (w1 := w) dX8_hasArgument_19 zc_X8_81 hpp rfl rfl rfl (Nat.le_of_ble_eq_true rfl) rfl (c_X6_arity hpp htt okT) ?_
    refine zx_st (st1 := [zI (T.length : Int), zI i]) rfl ?_
    refine zx_icmp_ge (tgt := 29) dX8_hasArgument_22 (by decide) (fun h22 => ?_) (fun h22 => ?_)
    · refine zx_pc (pc1 := 29) rfl ?_
      refine zx_iconst (v := 0) dX8_hasArgument_29 rfl (z32_lit (by decide) (by decide)) ?_
      refine zx_zret dX8_hasArgument_30 rfl (by first | exact Or.inl rfl | exact Or.inr rfl | exact zB_or | assumption) ?_
      exact zr_f (by omega)
    · refine zx_pc (pc1 := 25) rfl ?_
      refine zx_iconst (v := 1) dX8_hasArgument_25 rfl (z32_lit (by decide) (by decide)) ?_
      refine zx_goto (tgt := 30) dX8_hasArgument_26 (by decide) ?_
      refine zx_zret dX8_hasArgument_30 rfl (by first | exact Or.inl rfl | exact Or.inr rfl | exact zB_or | assumption) ?_
      exact zr_t (by omega)
theorem c_X8_hasArgument0 (hR : rpW w r ti ta tn none I A N sc cc dc en bk bc) (i : Int) : zM G zm_X8_hasArgument d [zR r, zI i] w (zRet (some (zI 0)) w) := by
  refine zx_ent (by decide +kernel) rfl (Nat.le_of_ble_eq_true rfl) ?_
  refine zx_L (L1 := [some (zR r), some (zI i)]) rfl ?_
  obtain ⟨h0, ⟨hi, okI⟩, ⟨ha, okA⟩, ⟨hn, okN⟩⟩ := hR
  refine zx_aload_n (i := 0) dX8_hasArgument_0 rfl rfl ?_
  refine zx_getfield dX8_hasArgument_1 zf_X8_9 h0 rfl ?_
  refine zx_ifnull (tgt := 29) dX8_hasArgument_4 (by decide) (fun _ => ?_) (fun h => absurd rfl h)
  refine zx_iconst (v := 0) dX8_hasArgument_29 rfl (z32_lit (by decide) (by decide)) ?_
  refine zx_zret dX8_hasArgument_30 rfl (by first | exact Or.inl rfl | exact Or.inr rfl | exact zB_or | assumption) ?_
  exact zr_i rfl
def rpIn (ins g0 g1 g2 i : Int) : Int := if zand (zshr ins i) 1 = 1 then pk i g0 g1 g2 else -1
theorem z_ext {w w' : zW} (h1 : w.2 = w'.2) (h : ∀ b, w.1 b = w'.1 b) : w = w' := by
  obtain ⟨a, b⟩ := w
  obtain ⟨a', b'⟩ := w'
  simp only at h1 h
  rw [h1, show a = a' from funext h]
theorem zput_b {w : zW} {a b : Nat} {x : zO} : (zput w a x).1 b = if b = a then some x else w.1 b := by
  unfold zput zup
  rfl
theorem znew_b {w : zW} {n b : Nat} {x : zO} : (znew w x n).1 b = if b = w.2.1 then some x else w.1 b := by
  unfold znew zup
  rfl
theorem c_X8_begin {m om : Nat} {pp : Nat} {nu ins pm lo gd cf cr sw : Int} (hm : w.1 m = some (5, om, [zR pp, zI nu, zI ins, zI pm, zI lo, zI gd, zI cf, zI cr, zI sw])) (hR : rpW w r ti ta tn mo I A N sc cc dc en bk bc) (g0 g1 g2 : Int) : zM G zm_X8_begin (d + 3) [zR r, zR m, zI g0, zI g1, zI g2] w (zRet none (zput (zput (zput (zput w r (8, 0, [zR m, zR ti, zR ta, zR tn, zI 0, zI 0, zI 0, zI 101, zI 0, zI (-1)])) ti (135, r, tTb 1 3 [[rpIn ins g0 g1 g2 0], [rpIn ins g0 g1 g2 1], [rpIn ins g0 g1 g2 2]])) ta (136, r, tTb 3 150 [])) tn (137, r, tTb 2 160 []))) := by
  refine zx_ent (by decide +kernel) rfl (Nat.le_of_ble_eq_true rfl) ?_
  refine zx_L (L1 := [some (zR r), some (zR m), some (zI g0), some (zI g1), some (zI g2), none, none]) rfl ?_
  obtain ⟨h0, ⟨hi, okI⟩, ⟨ha, okA⟩, ⟨hn, okN⟩⟩ := hR
  have hri : r ≠ ti := Ne.symm (zne_tg h0 hi (by simp))
  have hra : r ≠ ta := Ne.symm (zne_tg h0 ha (by simp))
  have hrn : r ≠ tn := Ne.symm (zne_tg h0 hn (by simp))
  have hia : ti ≠ ta := Ne.symm (zne_tg hi ha (by simp))
  have hin : ti ≠ tn := Ne.symm (zne_tg hi hn (by simp))
  have han : ta ≠ tn := Ne.symm (zne_tg ha hn (by simp))
  refine zx_aload_n (i := 0) dX8_begin_0 rfl rfl ?_
  refine zx_aload_n (i := 1) dX8_begin_1 rfl rfl ?_
  obtain ⟨w_1, hw_2⟩ : ∃ ww, ww = zput w r (8, 0, [zR m, zR ti, zR ta, zR tn, zI sc, zI cc, zI dc, zI en, zI bk, zI bc]) := ⟨_, rfl⟩
  refine zx_put (w1 := w_1) dX8_begin_2 zf_X8_9 h0 (Nat.le_of_ble_eq_true rfl) (zFt_obj _ _) (fun h => by cases h) hw_2.symm ?_
  have h_3 : w_1.1 r = some (8, 0, [zR m, zR ti, zR ta, zR tn, zI sc, zI cc, zI dc, zI en, zI bk, zI bc]) := by rw [hw_2]; exact zput_at
  refine zx_aload_n (i := 0) dX8_begin_5 rfl rfl ?_
  refine zx_getfield dX8_begin_6 zf_X8_20 h_3 rfl ?_
  refine zx_iconst (v := 0) dX8_begin_9 rfl (z32_lit (by decide) (by decide)) ?_
  have h_4 : w_1.1 ti = some (135, r, tTb 1 3 I) := by
    rw [hw_2]; exact zput_tg h0 hi (by simp)
  obtain ⟨w_5, hw_6⟩ : ∃ ww, ww = zput w_1 ti (135, r, tTb 1 3 (tcut I 0)) := ⟨_, rfl⟩
  have h_7 : w_5.1 ti = some (135, r, tTb 1 3 (tcut I 0)) := by rw [hw_6]; exact zput_at
  refine zx_iv (b := ti) (As := [zI 0]) (st := []) (v := none) (w1 := w_5) dX8_begin_10 zc_X8_34 h_4 (z_cls9 (by decide)) rfl rfl (Nat.le_of_ble_eq_true rfl) rfl (by rw [hw_6]; exact (c_X9_cut h_4 (by decide) okI 0)) ?_
  refine zx_st (st1 := []) rfl ?_
  refine zx_iconst (v := 0) dX8_begin_13 rfl (z32_lit (by decide) (by decide)) ?_
  refine zx_istore (i := 5) dX8_begin_14 (by decide) rfl ?_
  refine zx_L (L1 := [some (zR r), some (zR m), some (zI g0), some (zI g1), some (zI g2), some (zI 0), none]) rfl ?_
  refine zx_iload (i := 5) dX8_begin_16 rfl ?_
  refine zx_iconst (v := 3) dX8_begin_18 rfl (z32_lit (by decide) (by decide)) ?_
  refine zx_pc (pc1 := 19) rfl ?_
  refine zx_icmp_ge (tgt := 64) dX8_begin_19 (by decide) (fun h19 => absurd h19 (by decide)) (fun h19 => ?_)
  refine zx_iload (i := 5) dX8_begin_22 rfl ?_
  refine zx_iload_n (i := 2) dX8_begin_24 rfl rfl ?_
  refine zx_iload_n (i := 3) dX8_begin_25 rfl rfl ?_
  refine zx_iload (i := 4) dX8_begin_26 rfl ?_
  refine zx_iN (As := [zI 0, zI g0, zI g1, zI g2]) (st := []) (v := (some (zI (pk 0 g0 g1 g2)))) (w1 := w_5) dX8_begin_28 zc_X8_38 rfl (Nat.le_of_ble_eq_true rfl) rfl (c_X11_pick 0 g0 g1 g2) ?_
  refine zx_st (st1 := [zI (pk 0 g0 g1 g2)]) rfl ?_
  refine zx_istore (i := 6) dX8_begin_31 (by decide) rfl ?_
  refine zx_L (L1 := [some (zR r), some (zR m), some (zI g0), some (zI g1), some (zI g2), some (zI 0), some (zI (pk 0 g0 g1 g2))]) rfl ?_
  refine zx_aload_n (i := 0) dX8_begin_33 rfl rfl ?_
  have h_8 : w_5.1 r = some (8, 0, [zR m, zR ti, zR ta, zR tn, zI sc, zI cc, zI dc, zI en, zI bk, zI bc]) := by
    rw [hw_6]; exact zput_tg h_4 h_3 (by simp)
  refine zx_getfield dX8_begin_34 zf_X8_20 h_8 rfl ?_
  refine zx_aload_n (i := 1) dX8_begin_37 rfl rfl ?_
  refine zx_iload (i := 5) dX8_begin_38 rfl ?_
  have h_9 : w_1.1 m = some (5, om, [zR pp, zI nu, zI ins, zI pm, zI lo, zI gd, zI cf, zI cr, zI sw]) := by
    rw [hw_2]; exact zput_tg h0 hm (by simp)
  have h_10 : w_5.1 m = some (5, om, [zR pp, zI nu, zI ins, zI pm, zI lo, zI gd, zI cf, zI cr, zI sw]) := by
    rw [hw_6]; exact zput_tg h_4 h_9 (by simp)
  refine zx_iv (b := m) (As := [zI 0]) (st := [zR ti]) (v := (some (zI (zB (0 ≤ (0 : Int) ∧ (0 : Int) < 3 ∧ zand (zshr ins (0 : Int)) 1 = 1))))) (w1 := w_5) dX8_begin_40 zc_X8_42 h_10 rfl rfl rfl (Nat.le_of_ble_eq_true rfl) rfl (c_X5_isInput h_10 0) ?_
  refine zx_st (st1 := [zI (zB (0 ≤ (0 : Int) ∧ (0 : Int) < 3 ∧ zand (zshr ins (0 : Int)) 1 = 1)), zR ti]) rfl ?_
  refine zx_pc (pc1 := 43) rfl ?_
  refine zx_joinI (pcj := 52) (c := ¬ zB (0 ≤ (0 : Int) ∧ (0 : Int) < 3 ∧ zand (zshr ins (0 : Int)) 1 = 1) = 0) (x := pk 0 g0 g1 g2) (y := (-1)) (stj := [zR ti]) ?_ (fun J1 J2 => ?_)
  · refine zx_iconst (v := -1) dX8_begin_52 rfl (z32_lit (by decide) (by decide)) ?_
    refine zx_iconst (v := -1) dX8_begin_53 rfl (z32_lit (by decide) (by decide)) ?_
    obtain ⟨w_11, hw_12⟩ : ∃ ww, ww = zput w_5 ti (135, r, tTb 1 3 ((tcut I 0) ++ [trow 1 (if ¬ zB (0 ≤ (0 : Int) ∧ (0 : Int) < 3 ∧ zand (zshr ins (0 : Int)) 1 = 1) = 0 then pk 0 g0 g1 g2 else (-1)) (-1) (-1)])) := ⟨_, rfl⟩
    have h_13 : w_11.1 ti = some (135, r, tTb 1 3 ((tcut I 0) ++ [trow 1 (if ¬ zB (0 ≤ (0 : Int) ∧ (0 : Int) < 3 ∧ zand (zshr ins (0 : Int)) 1 = 1) = 0 then pk 0 g0 g1 g2 else (-1)) (-1) (-1)])) := by rw [hw_12]; exact zput_at
    refine zx_iv (b := ti) (As := [zI (if ¬ zB (0 ≤ (0 : Int) ∧ (0 : Int) < 3 ∧ zand (zshr ins (0 : Int)) 1 = 1) = 0 then pk 0 g0 g1 g2 else (-1)), zI (-1), zI (-1)]) (st := []) (v := (some (zI ((tcut I 0).length : Int)))) (w1 := w_11) dX8_begin_54 zc_X8_48 h_7 (z_cls9 (by decide)) rfl rfl (Nat.le_of_ble_eq_true rfl) rfl (by rw [hw_12]; exact (c_X9_addS h_7 (by decide) (tOk_cut okI) ⟨by simp [tcut_0], by decide⟩ (if ¬ zB (0 ≤ (0 : Int) ∧ (0 : Int) < 3 ∧ zand (zshr ins (0 : Int)) 1 = 1) = 0 then pk 0 g0 g1 g2 else (-1)) (-1) (-1))) ?_
    refine zx_st (st1 := [zI ((tcut I 0).length : Int)]) rfl ?_
    refine zx_pop dX8_begin_57 (fun a h => by cases h) ?_
    refine zx_iinc (i := 5) (v := 1) dX8_begin_58 rfl (by decide +kernel) (by decide) rfl ?_
    refine zx_L (L1 := [some (zR r), some (zR m), some (zI g0), some (zI g1), some (zI g2), some (zI 1), some (zI (pk 0 g0 g1 g2))]) rfl ?_
    refine zx_goto (tgt := 16) dX8_begin_61 (by decide) ?_
    refine zx_iload (i := 5) dX8_begin_16 rfl ?_
    refine zx_iconst (v := 3) dX8_begin_18 rfl (z32_lit (by decide) (by decide)) ?_
    refine zx_icmp_ge (tgt := 64) dX8_begin_19 (by decide) (fun h19 => absurd h19 (by decide)) (fun h19 => ?_)
    refine zx_iload (i := 5) dX8_begin_22 rfl ?_
    refine zx_iload_n (i := 2) dX8_begin_24 rfl rfl ?_
    refine zx_pc (pc1 := 25) rfl ?_
    refine zx_iload_n (i := 3) dX8_begin_25 rfl rfl ?_
    refine zx_iload (i := 4) dX8_begin_26 rfl ?_
    refine zx_iN (As := [zI 1, zI g0, zI g1, zI g2]) (st := []) (v := (some (zI (pk 1 g0 g1 g2)))) (w1 := w_11) dX8_begin_28 zc_X8_38 rfl (Nat.le_of_ble_eq_true rfl) rfl (c_X11_pick 1 g0 g1 g2) ?_
    refine zx_st (st1 := [zI (pk 1 g0 g1 g2)]) rfl ?_
    refine zx_istore (i := 6) dX8_begin_31 (by decide) rfl ?_
    refine zx_L (L1 := [some (zR r), some (zR m), some (zI g0), some (zI g1), some (zI g2), some (zI 1), some (zI (pk 1 g0 g1 g2))]) rfl ?_
    refine zx_aload_n (i := 0) dX8_begin_33 rfl rfl ?_
    have h_14 : w_11.1 r = some (8, 0, [zR m, zR ti, zR ta, zR tn, zI sc, zI cc, zI dc, zI en, zI bk, zI bc]) := by
      rw [hw_12]; exact zput_tg h_7 h_8 (by simp)
    refine zx_getfield dX8_begin_34 zf_X8_20 h_14 rfl ?_
    refine zx_aload_n (i := 1) dX8_begin_37 rfl rfl ?_
    refine zx_iload (i := 5) dX8_begin_38 rfl ?_
    have h_15 : w_11.1 m = some (5, om, [zR pp, zI nu, zI ins, zI pm, zI lo, zI gd, zI cf, zI cr, zI sw]) := by
      rw [hw_12]; exact zput_tg h_7 h_10 (by simp)
    refine zx_iv (b := m) (As := [zI 1]) (st := [zR ti]) (v := (some (zI (zB (0 ≤ (1 : Int) ∧ (1 : Int) < 3 ∧ zand (zshr ins (1 : Int)) 1 = 1))))) (w1 := w_11) dX8_begin_40 zc_X8_42 h_15 rfl rfl rfl (Nat.le_of_ble_eq_true rfl) rfl (c_X5_isInput h_15 1) ?_
    refine zx_st (st1 := [zI (zB (0 ≤ (1 : Int) ∧ (1 : Int) < 3 ∧ zand (zshr ins (1 : Int)) 1 = 1)), zR ti]) rfl ?_
    refine zx_joinI (pcj := 52) (c := ¬ zB (0 ≤ (1 : Int) ∧ (1 : Int) < 3 ∧ zand (zshr ins (1 : Int)) 1 = 1) = 0) (x := pk 1 g0 g1 g2) (y := (-1)) (stj := [zR ti]) ?_ (fun J1 J2 => ?_)
    · refine zx_iconst (v := -1) dX8_begin_52 rfl (z32_lit (by decide) (by decide)) ?_
      refine zx_iconst (v := -1) dX8_begin_53 rfl (z32_lit (by decide) (by decide)) ?_
      refine zx_pc (pc1 := 54) rfl ?_
      obtain ⟨w_16, hw_17⟩ : ∃ ww, ww = zput w_11 ti (135, r, tTb 1 3 (((tcut I 0) ++ [trow 1 (if ¬ zB (0 ≤ (0 : Int) ∧ (0 : Int) < 3 ∧ zand (zshr ins (0 : Int)) 1 = 1) = 0 then pk 0 g0 g1 g2 else (-1)) (-1) (-1)]) ++ [trow 1 (if ¬ zB (0 ≤ (1 : Int) ∧ (1 : Int) < 3 ∧ zand (zshr ins (1 : Int)) 1 = 1) = 0 then pk 1 g0 g1 g2 else (-1)) (-1) (-1)])) := ⟨_, rfl⟩
      have h_18 : w_16.1 ti = some (135, r, tTb 1 3 (((tcut I 0) ++ [trow 1 (if ¬ zB (0 ≤ (0 : Int) ∧ (0 : Int) < 3 ∧ zand (zshr ins (0 : Int)) 1 = 1) = 0 then pk 0 g0 g1 g2 else (-1)) (-1) (-1)]) ++ [trow 1 (if ¬ zB (0 ≤ (1 : Int) ∧ (1 : Int) < 3 ∧ zand (zshr ins (1 : Int)) 1 = 1) = 0 then pk 1 g0 g1 g2 else (-1)) (-1) (-1)])) := by rw [hw_17]; exact zput_at
      refine zx_iv (b := ti) (As := [zI (if ¬ zB (0 ≤ (1 : Int) ∧ (1 : Int) < 3 ∧ zand (zshr ins (1 : Int)) 1 = 1) = 0 then pk 1 g0 g1 g2 else (-1)), zI (-1), zI (-1)]) (st := []) (v := (some (zI (((tcut I 0) ++ [trow 1 (if ¬ zB (0 ≤ (0 : Int) ∧ (0 : Int) < 3 ∧ zand (zshr ins (0 : Int)) 1 = 1) = 0 then pk 0 g0 g1 g2 else (-1)) (-1) (-1)]).length : Int)))) (w1 := w_16) dX8_begin_54 zc_X8_48 h_13 (z_cls9 (by decide)) rfl rfl (Nat.le_of_ble_eq_true rfl) rfl (by rw [hw_17]; exact (c_X9_addS h_13 (by decide) (tOk_app (tOk_cut okI) trow_len) ⟨by simp [tcut_0], by decide⟩ (if ¬ zB (0 ≤ (1 : Int) ∧ (1 : Int) < 3 ∧ zand (zshr ins (1 : Int)) 1 = 1) = 0 then pk 1 g0 g1 g2 else (-1)) (-1) (-1))) ?_
      refine zx_st (st1 := [zI (((tcut I 0) ++ [trow 1 (if ¬ zB (0 ≤ (0 : Int) ∧ (0 : Int) < 3 ∧ zand (zshr ins (0 : Int)) 1 = 1) = 0 then pk 0 g0 g1 g2 else (-1)) (-1) (-1)]).length : Int)]) rfl ?_
      refine zx_pop dX8_begin_57 (fun a h => by cases h) ?_
      refine zx_iinc (i := 5) (v := 2) dX8_begin_58 rfl (by decide +kernel) (by decide) rfl ?_
      refine zx_L (L1 := [some (zR r), some (zR m), some (zI g0), some (zI g1), some (zI g2), some (zI 2), some (zI (pk 1 g0 g1 g2))]) rfl ?_
      refine zx_goto (tgt := 16) dX8_begin_61 (by decide) ?_
      refine zx_iload (i := 5) dX8_begin_16 rfl ?_
      refine zx_iconst (v := 3) dX8_begin_18 rfl (z32_lit (by decide) (by decide)) ?_
      refine zx_icmp_ge (tgt := 64) dX8_begin_19 (by decide) (fun h19 => absurd h19 (by decide)) (fun h19 => ?_)
      refine zx_iload (i := 5) dX8_begin_22 rfl ?_
      refine zx_iload_n (i := 2) dX8_begin_24 rfl rfl ?_
      refine zx_iload_n (i := 3) dX8_begin_25 rfl rfl ?_
      refine zx_iload (i := 4) dX8_begin_26 rfl ?_
      refine zx_iN (As := [zI 2, zI g0, zI g1, zI g2]) (st := []) (v := (some (zI (pk 2 g0 g1 g2)))) (w1 := w_16) dX8_begin_28 zc_X8_38 rfl (Nat.le_of_ble_eq_true rfl) rfl (c_X11_pick 2 g0 g1 g2) ?_
      refine zx_st (st1 := [zI (pk 2 g0 g1 g2)]) rfl ?_
      refine zx_pc (pc1 := 31) rfl ?_
      refine zx_istore (i := 6) dX8_begin_31 (by decide) rfl ?_
      refine zx_L (L1 := [some (zR r), some (zR m), some (zI g0), some (zI g1), some (zI g2), some (zI 2), some (zI (pk 2 g0 g1 g2))]) rfl ?_
      refine zx_aload_n (i := 0) dX8_begin_33 rfl rfl ?_
      have h_19 : w_16.1 r = some (8, 0, [zR m, zR ti, zR ta, zR tn, zI sc, zI cc, zI dc, zI en, zI bk, zI bc]) := by
        rw [hw_17]; exact zput_tg h_13 h_14 (by simp)
      refine zx_getfield dX8_begin_34 zf_X8_20 h_19 rfl ?_
      refine zx_aload_n (i := 1) dX8_begin_37 rfl rfl ?_
      refine zx_iload (i := 5) dX8_begin_38 rfl ?_
      have h_20 : w_16.1 m = some (5, om, [zR pp, zI nu, zI ins, zI pm, zI lo, zI gd, zI cf, zI cr, zI sw]) := by
        rw [hw_17]; exact zput_tg h_13 h_15 (by simp)
      refine zx_iv (b := m) (As := [zI 2]) (st := [zR ti]) (v := (some (zI (zB (0 ≤ (2 : Int) ∧ (2 : Int) < 3 ∧ zand (zshr ins (2 : Int)) 1 = 1))))) (w1 := w_16) dX8_begin_40 zc_X8_42 h_20 rfl rfl rfl (Nat.le_of_ble_eq_true rfl) rfl (c_X5_isInput h_20 2) ?_
      refine zx_st (st1 := [zI (zB (0 ≤ (2 : Int) ∧ (2 : Int) < 3 ∧ zand (zshr ins (2 : Int)) 1 = 1)), zR ti]) rfl ?_
      refine zx_joinI (pcj := 52) (c := ¬ zB (0 ≤ (2 : Int) ∧ (2 : Int) < 3 ∧ zand (zshr ins (2 : Int)) 1 = 1) = 0) (x := pk 2 g0 g1 g2) (y := (-1)) (stj := [zR ti]) ?_ (fun J1 J2 => ?_)
      · refine zx_iconst (v := -1) dX8_begin_52 rfl (z32_lit (by decide) (by decide)) ?_
        refine zx_iconst (v := -1) dX8_begin_53 rfl (z32_lit (by decide) (by decide)) ?_
        obtain ⟨w_21, hw_22⟩ : ∃ ww, ww = zput w_16 ti (135, r, tTb 1 3 ((((tcut I 0) ++ [trow 1 (if ¬ zB (0 ≤ (0 : Int) ∧ (0 : Int) < 3 ∧ zand (zshr ins (0 : Int)) 1 = 1) = 0 then pk 0 g0 g1 g2 else (-1)) (-1) (-1)]) ++ [trow 1 (if ¬ zB (0 ≤ (1 : Int) ∧ (1 : Int) < 3 ∧ zand (zshr ins (1 : Int)) 1 = 1) = 0 then pk 1 g0 g1 g2 else (-1)) (-1) (-1)]) ++ [trow 1 (if ¬ zB (0 ≤ (2 : Int) ∧ (2 : Int) < 3 ∧ zand (zshr ins (2 : Int)) 1 = 1) = 0 then pk 2 g0 g1 g2 else (-1)) (-1) (-1)])) := ⟨_, rfl⟩
        have h_23 : w_21.1 ti = some (135, r, tTb 1 3 ((((tcut I 0) ++ [trow 1 (if ¬ zB (0 ≤ (0 : Int) ∧ (0 : Int) < 3 ∧ zand (zshr ins (0 : Int)) 1 = 1) = 0 then pk 0 g0 g1 g2 else (-1)) (-1) (-1)]) ++ [trow 1 (if ¬ zB (0 ≤ (1 : Int) ∧ (1 : Int) < 3 ∧ zand (zshr ins (1 : Int)) 1 = 1) = 0 then pk 1 g0 g1 g2 else (-1)) (-1) (-1)]) ++ [trow 1 (if ¬ zB (0 ≤ (2 : Int) ∧ (2 : Int) < 3 ∧ zand (zshr ins (2 : Int)) 1 = 1) = 0 then pk 2 g0 g1 g2 else (-1)) (-1) (-1)])) := by rw [hw_22]; exact zput_at
        refine zx_iv (b := ti) (As := [zI (if ¬ zB (0 ≤ (2 : Int) ∧ (2 : Int) < 3 ∧ zand (zshr ins (2 : Int)) 1 = 1) = 0 then pk 2 g0 g1 g2 else (-1)), zI (-1), zI (-1)]) (st := []) (v := (some (zI ((((tcut I 0) ++ [trow 1 (if ¬ zB (0 ≤ (0 : Int) ∧ (0 : Int) < 3 ∧ zand (zshr ins (0 : Int)) 1 = 1) = 0 then pk 0 g0 g1 g2 else (-1)) (-1) (-1)]) ++ [trow 1 (if ¬ zB (0 ≤ (1 : Int) ∧ (1 : Int) < 3 ∧ zand (zshr ins (1 : Int)) 1 = 1) = 0 then pk 1 g0 g1 g2 else (-1)) (-1) (-1)]).length : Int)))) (w1 := w_21) dX8_begin_54 zc_X8_48 h_18 (z_cls9 (by decide)) rfl rfl (Nat.le_of_ble_eq_true rfl) rfl (by rw [hw_22]; exact (c_X9_addS h_18 (by decide) (tOk_app (tOk_app (tOk_cut okI) trow_len) trow_len) ⟨by simp [tcut_0], by decide⟩ (if ¬ zB (0 ≤ (2 : Int) ∧ (2 : Int) < 3 ∧ zand (zshr ins (2 : Int)) 1 = 1) = 0 then pk 2 g0 g1 g2 else (-1)) (-1) (-1))) ?_
        refine zx_st (st1 := [zI ((((tcut I 0) ++ [trow 1 (if ¬ zB (0 ≤ (0 : Int) ∧ (0 : Int) < 3 ∧ zand (zshr ins (0 : Int)) 1 = 1) = 0 then pk 0 g0 g1 g2 else (-1)) (-1) (-1)]) ++ [trow 1 (if ¬ zB (0 ≤ (1 : Int) ∧ (1 : Int) < 3 ∧ zand (zshr ins (1 : Int)) 1 = 1) = 0 then pk 1 g0 g1 g2 else (-1)) (-1) (-1)]).length : Int)]) rfl ?_
        refine zx_pop dX8_begin_57 (fun a h => by cases h) ?_
        refine zx_iinc (i := 5) (v := 3) dX8_begin_58 rfl (by decide +kernel) (by decide) rfl ?_
        refine zx_L (L1 := [some (zR r), some (zR m), some (zI g0), some (zI g1), some (zI g2), some (zI 3), some (zI (pk 2 g0 g1 g2))]) rfl ?_
        refine zx_pc (pc1 := 61) rfl ?_
        refine zx_goto (tgt := 16) dX8_begin_61 (by decide) ?_
        refine zx_iload (i := 5) dX8_begin_16 rfl ?_
        refine zx_iconst (v := 3) dX8_begin_18 rfl (z32_lit (by decide) (by decide)) ?_
        refine zx_icmp_ge (tgt := 64) dX8_begin_19 (by decide) (fun h19 => ?_) (fun h19 => absurd (by decide) h19)
        refine zx_aload_n (i := 0) dX8_begin_64 rfl rfl ?_
        have h_24 : w_21.1 r = some (8, 0, [zR m, zR ti, zR ta, zR tn, zI sc, zI cc, zI dc, zI en, zI bk, zI bc]) := by
          rw [hw_22]; exact zput_tg h_18 h_19 (by simp)
        refine zx_getfield dX8_begin_65 zf_X8_24 h_24 rfl ?_
        refine zx_iconst (v := 0) dX8_begin_68 rfl (z32_lit (by decide) (by decide)) ?_
        have h_25 : w_1.1 ta = some (136, r, tTb 3 150 A) := by
          rw [hw_2]; exact zput_tg h0 ha (by simp)
        have h_26 : w_5.1 ta = some (136, r, tTb 3 150 A) := by
          rw [hw_6]; exact zput_tg h_4 h_25 (by simp)
        have h_27 : w_11.1 ta = some (136, r, tTb 3 150 A) := by
          rw [hw_12]; exact zput_tg h_7 h_26 (by simp)
        have h_28 : w_16.1 ta = some (136, r, tTb 3 150 A) := by
          rw [hw_17]; exact zput_tg h_13 h_27 (by simp)
        have h_29 : w_21.1 ta = some (136, r, tTb 3 150 A) := by
          rw [hw_22]; exact zput_tg h_18 h_28 (by simp)
        obtain ⟨w_30, hw_31⟩ : ∃ ww, ww = zput w_21 ta (136, r, tTb 3 150 (tcut A 0)) := ⟨_, rfl⟩
        have h_32 : w_30.1 ta = some (136, r, tTb 3 150 (tcut A 0)) := by rw [hw_31]; exact zput_at
        refine zx_iv (b := ta) (As := [zI 0]) (st := []) (v := none) (w1 := w_30) dX8_begin_69 zc_X8_34 h_29 (z_cls9 (by decide)) rfl rfl (Nat.le_of_ble_eq_true rfl) rfl (by rw [hw_31]; exact (c_X9_cut h_29 (by decide) okA 0)) ?_
        refine zx_st (st1 := []) rfl ?_
        refine zx_aload_n (i := 0) dX8_begin_72 rfl rfl ?_
        have h_33 : w_30.1 r = some (8, 0, [zR m, zR ti, zR ta, zR tn, zI sc, zI cc, zI dc, zI en, zI bk, zI bc]) := by
          rw [hw_31]; exact zput_tg h_29 h_24 (by simp)
        refine zx_getfield dX8_begin_73 zf_X8_27 h_33 rfl ?_
        refine zx_iconst (v := 0) dX8_begin_76 rfl (z32_lit (by decide) (by decide)) ?_
        have h_34 : w_1.1 tn = some (137, r, tTb 2 160 N) := by
          rw [hw_2]; exact zput_tg h0 hn (by simp)
        have h_35 : w_5.1 tn = some (137, r, tTb 2 160 N) := by
          rw [hw_6]; exact zput_tg h_4 h_34 (by simp)
        have h_36 : w_11.1 tn = some (137, r, tTb 2 160 N) := by
          rw [hw_12]; exact zput_tg h_7 h_35 (by simp)
        have h_37 : w_16.1 tn = some (137, r, tTb 2 160 N) := by
          rw [hw_17]; exact zput_tg h_13 h_36 (by simp)
        have h_38 : w_21.1 tn = some (137, r, tTb 2 160 N) := by
          rw [hw_22]; exact zput_tg h_18 h_37 (by simp)
        have h_39 : w_30.1 tn = some (137, r, tTb 2 160 N) := by
          rw [hw_31]; exact zput_tg h_29 h_38 (by simp)
        obtain ⟨w_40, hw_41⟩ : ∃ ww, ww = zput w_30 tn (137, r, tTb 2 160 (tcut N 0)) := ⟨_, rfl⟩
        have h_42 : w_40.1 tn = some (137, r, tTb 2 160 (tcut N 0)) := by rw [hw_41]; exact zput_at
        refine zx_iv (b := tn) (As := [zI 0]) (st := []) (v := none) (w1 := w_40) dX8_begin_77 zc_X8_34 h_39 (z_cls9 (by decide)) rfl rfl (Nat.le_of_ble_eq_true rfl) rfl (by rw [hw_41]; exact (c_X9_cut h_39 (by decide) okN 0)) ?_
        refine zx_st (st1 := []) rfl ?_
        refine zx_pc (pc1 := 80) rfl ?_
        refine zx_aload_n (i := 0) dX8_begin_80 rfl rfl ?_
        refine zx_iconst (v := 0) dX8_begin_81 rfl (z32_lit (by decide) (by decide)) ?_
        have h_43 : w_40.1 r = some (8, 0, [zR m, zR ti, zR ta, zR tn, zI sc, zI cc, zI dc, zI en, zI bk, zI bc]) := by
          rw [hw_41]; exact zput_tg h_39 h_33 (by simp)
        obtain ⟨w_44, hw_45⟩ : ∃ ww, ww = zput w_40 r (8, 0, [zR m, zR ti, zR ta, zR tn, zI 0, zI cc, zI dc, zI en, zI bk, zI bc]) := ⟨_, rfl⟩
        refine zx_put (w1 := w_44) dX8_begin_82 zf_X8_52 h_43 (Nat.le_of_ble_eq_true rfl) (zFt_int _) (fun h => by cases h) hw_45.symm ?_
        have h_46 : w_44.1 r = some (8, 0, [zR m, zR ti, zR ta, zR tn, zI 0, zI cc, zI dc, zI en, zI bk, zI bc]) := by rw [hw_45]; exact zput_at
        refine zx_aload_n (i := 0) dX8_begin_85 rfl rfl ?_
        refine zx_iconst (v := 0) dX8_begin_86 rfl (z32_lit (by decide) (by decide)) ?_
        obtain ⟨w_47, hw_48⟩ : ∃ ww, ww = zput w_44 r (8, 0, [zR m, zR ti, zR ta, zR tn, zI 0, zI 0, zI dc, zI en, zI bk, zI bc]) := ⟨_, rfl⟩
        refine zx_put (w1 := w_47) dX8_begin_87 zf_X8_56 h_46 (Nat.le_of_ble_eq_true rfl) (zFt_int _) (fun h => by cases h) hw_48.symm ?_
        have h_49 : w_47.1 r = some (8, 0, [zR m, zR ti, zR ta, zR tn, zI 0, zI 0, zI dc, zI en, zI bk, zI bc]) := by rw [hw_48]; exact zput_at
        refine zx_aload_n (i := 0) dX8_begin_90 rfl rfl ?_
        refine zx_iconst (v := 0) dX8_begin_91 rfl (z32_lit (by decide) (by decide)) ?_
        obtain ⟨w_50, hw_51⟩ : ∃ ww, ww = zput w_47 r (8, 0, [zR m, zR ti, zR ta, zR tn, zI 0, zI 0, zI 0, zI en, zI bk, zI bc]) := ⟨_, rfl⟩
        refine zx_put (w1 := w_50) dX8_begin_92 zf_X8_59 h_49 (Nat.le_of_ble_eq_true rfl) (zFt_int _) (fun h => by cases h) hw_51.symm ?_
        have h_52 : w_50.1 r = some (8, 0, [zR m, zR ti, zR ta, zR tn, zI 0, zI 0, zI 0, zI en, zI bk, zI bc]) := by rw [hw_51]; exact zput_at
        refine zx_aload_n (i := 0) dX8_begin_95 rfl rfl ?_
        refine zx_bipush (v := 101) dX8_begin_96 (by decide +kernel) (z32_lit (by decide) (by decide)) ?_
        obtain ⟨w_53, hw_54⟩ : ∃ ww, ww = zput w_50 r (8, 0, [zR m, zR ti, zR ta, zR tn, zI 0, zI 0, zI 0, zI 101, zI bk, zI bc]) := ⟨_, rfl⟩
        refine zx_put (w1 := w_53) dX8_begin_98 zf_X8_30 h_52 (Nat.le_of_ble_eq_true rfl) (zFt_char 101 (by decide)) (fun h => by cases h) hw_54.symm ?_
        have h_55 : w_53.1 r = some (8, 0, [zR m, zR ti, zR ta, zR tn, zI 0, zI 0, zI 0, zI 101, zI bk, zI bc]) := by rw [hw_54]; exact zput_at
        refine zx_pc (pc1 := 101) rfl ?_
        refine zx_aload_n (i := 0) dX8_begin_101 rfl rfl ?_
        refine zx_iconst (v := 0) dX8_begin_102 rfl (z32_lit (by decide) (by decide)) ?_
        obtain ⟨w_56, hw_57⟩ : ∃ ww, ww = zput w_53 r (8, 0, [zR m, zR ti, zR ta, zR tn, zI 0, zI 0, zI 0, zI 101, zI 0, zI bc]) := ⟨_, rfl⟩
        refine zx_put (w1 := w_56) dX8_begin_103 zf_X8_62 h_55 (Nat.le_of_ble_eq_true rfl) (zFt_bool (by first | exact Or.inl rfl | exact Or.inr rfl | exact zB_or | assumption)) (fun h => by cases h) hw_57.symm ?_
        have h_58 : w_56.1 r = some (8, 0, [zR m, zR ti, zR ta, zR tn, zI 0, zI 0, zI 0, zI 101, zI 0, zI bc]) := by rw [hw_57]; exact zput_at
        refine zx_aload_n (i := 0) dX8_begin_106 rfl rfl ?_
        refine zx_iconst (v := -1) dX8_begin_107 rfl (z32_lit (by decide) (by decide)) ?_
        obtain ⟨w_59, hw_60⟩ : ∃ ww, ww = zput w_56 r (8, 0, [zR m, zR ti, zR ta, zR tn, zI 0, zI 0, zI 0, zI 101, zI 0, zI (-1)]) := ⟨_, rfl⟩
        refine zx_put (w1 := w_59) dX8_begin_108 zf_X8_66 h_58 (Nat.le_of_ble_eq_true rfl) (zFt_int _) (fun h => by cases h) hw_60.symm ?_
        have h_61 : w_59.1 r = some (8, 0, [zR m, zR ti, zR ta, zR tn, zI 0, zI 0, zI 0, zI 101, zI 0, zI (-1)]) := by rw [hw_60]; exact zput_at
        refine zx_return dX8_begin_111 rfl ?_
        refine zr_n ?_
        rw [hw_60, hw_57, hw_54, hw_51, hw_48, hw_45, hw_41, hw_31, hw_22, hw_17, hw_12, hw_6, hw_2]
        have e3 : ∀ i : Int, 0 ≤ i → i < 3 → (if ¬ zB (0 ≤ i ∧ i < 3 ∧ zand (zshr ins i) 1 = 1) = 0 then pk i g0 g1 g2 else -1) = rpIn ins g0 g1 g2 i := by
          intro i a b
          unfold rpIn
          simp only [zB_nz, a, b, true_and]
        rw [e3 0 (by decide) (by decide), e3 1 (by decide) (by decide), e3 2 (by decide) (by decide)]
        simp only [tcut_0]
        refine z_ext rfl fun b => ?_
        simp only [zput_b]
        by_cases c1 : b = r
        · simp only [c1, if_true, hri, hra, hrn, if_false]
        by_cases c2 : b = ti
        · simp only [c2, if_true, Ne.symm hri, hia, hin, if_false]; rfl
        by_cases c3 : b = ta
        · simp only [c3, if_true, Ne.symm hra, Ne.symm hia, han, if_false]
        by_cases c4 : b = tn
        · simp only [c4, if_true, Ne.symm hrn, Ne.symm hin, Ne.symm han, if_false]
        simp only [c1, c2, c3, c4, if_false]
      · refine zx_if_eq (tgt := 51) dX8_begin_43 (by decide) (fun h43 => ?_) (fun h43 => ?_)
        · refine zx_iconst (v := -1) dX8_begin_51 rfl (z32_lit (by decide) (by decide)) ?_
          exact J2 (not_not_intro h43)
        · refine zx_iload (i := 6) dX8_begin_46 rfl ?_
          refine zx_goto (tgt := 52) dX8_begin_48 (by decide) ?_
          exact J1 (h43)
    · refine zx_if_eq (tgt := 51) dX8_begin_43 (by decide) (fun h43 => ?_) (fun h43 => ?_)
      · refine zx_iconst (v := -1) dX8_begin_51 rfl (z32_lit (by decide) (by decide)) ?_
        exact J2 (not_not_intro h43)
      · refine zx_iload (i := 6) dX8_begin_46 rfl ?_
        refine zx_goto (tgt := 52) dX8_begin_48 (by decide) ?_
        exact J1 (h43)
  · refine zx_if_eq (tgt := 51) dX8_begin_43 (by decide) (fun h43 => ?_) (fun h43 => ?_)
    · refine zx_iconst (v := -1) dX8_begin_51 rfl (z32_lit (by decide) (by decide)) ?_
      exact J2 (not_not_intro h43)
    · refine zx_iload (i := 6) dX8_begin_46 rfl ?_
      refine zx_goto (tgt := 52) dX8_begin_48 (by decide) ?_
      exact J1 (h43)
theorem c_X8_countLike (hR : rpW w r ti ta tn mo I A N sc cc dc en bk bc) (hA : A.length < 1000) (i : Int) : zM G zm_X8_countLike (d + 1) [zR r, zI i] w (zRet (some (zI (rpLike A i A.length))) w) := by
  refine zx_ent (by decide +kernel) rfl (Nat.le_of_ble_eq_true rfl) ?_
  obtain ⟨h0, ⟨hi, okI⟩, ⟨ha, okA⟩, ⟨hn, okN⟩⟩ := hR
  have loop : ∀ (n k : Nat) (o4 o5 : Option zV), k + n = A.length → ∀ x, rpLike A i k = x → zX G zm_X8_countLike (d + 1) [zR r, zI i] w (zRet (some (zI (rpLike A i A.length))) w) 4 [some (zR r), some (zI i), some (zI x), some (zI (k : Int)), o4, o5] [] w := by
    intro n
    induction n with
    | zero =>
      intro k o4 o5 hk x hx
      subst hx
      have ek : k = A.length := by omega
      subst ek
      refine zx_iload_n (i := 3) dX8_countLike_4 rfl rfl ?_
      refine zx_aload_n (i := 0) dX8_countLike_5 rfl rfl ?_
      refine zx_getfield dX8_countLike_6 zf_X8_24 h0 rfl ?_
      refine zx_iv (b := ta) (As := []) (st := [zI (A.length : Int)]) (v := (some (zI (A.length : Int)))) (w1 := w) dX8_countLike_9 zc_X8_73 ha (z_cls9 (by decide)) rfl rfl (Nat.le_of_ble_eq_true rfl) rfl (c_X9_count ha (by decide) okA) ?_
      refine zx_st (st1 := [zI (A.length : Int), zI (A.length : Int)]) rfl ?_
      refine zx_icmp_ge (tgt := 87) dX8_countLike_12 (by decide) (fun h12 => ?_) (fun h12 => absurd (by omega) h12)
      refine zx_iload_n (i := 2) dX8_countLike_87 rfl rfl ?_
      refine zx_iret dX8_countLike_88 rfl ?_
      exact zr_i rfl
    | succ n ih =>
      intro k o4 o5 hk x hx
      subst hx
      have hb := rpLike_le (A := A) (i := i) (k := k)
      by_cases e0 : tg A (k : Int) 0 = tg A i 0
      · by_cases e1 : tg A (k : Int) 1 = tg A i 1
        · by_cases e2 : tg A (k : Int) 2 = tg A i 2
          · refine zx_iload_n (i := 3) dX8_countLike_4 rfl rfl ?_
            refine zx_aload_n (i := 0) dX8_countLike_5 rfl rfl ?_
            refine zx_getfield dX8_countLike_6 zf_X8_24 h0 rfl ?_
            refine zx_iv (b := ta) (As := []) (st := [zI (k : Int)]) (v := (some (zI (A.length : Int)))) (w1 := w) dX8_countLike_9 zc_X8_73 ha (z_cls9 (by decide)) rfl rfl (Nat.le_of_ble_eq_true rfl) rfl (c_X9_count ha (by decide) okA) ?_
            refine zx_st (st1 := [zI (A.length : Int), zI (k : Int)]) rfl ?_
            refine zx_icmp_ge (tgt := 87) dX8_countLike_12 (by decide) (fun h12 => absurd h12 (by omega)) (fun h12 => ?_)
            refine zx_iconst (v := 1) dX8_countLike_15 rfl (z32_lit (by decide) (by decide)) ?_
            refine zx_istore (i := 4) dX8_countLike_16 (by decide) rfl ?_
            refine zx_L (L1 := [some (zR r), some (zI i), some (zI (rpLike A i k)), some (zI (k : Int)), some (zI 1), o5]) rfl ?_
            refine zx_iconst (v := 0) dX8_countLike_18 rfl (z32_lit (by decide) (by decide)) ?_
            refine zx_istore (i := 5) dX8_countLike_19 (by decide) rfl ?_
            refine zx_L (L1 := [some (zR r), some (zI i), some (zI (rpLike A i k)), some (zI (k : Int)), some (zI 1), some (zI 0)]) rfl ?_
            refine zx_iload (i := 5) dX8_countLike_21 rfl ?_
            refine zx_iconst (v := 3) dX8_countLike_23 rfl (z32_lit (by decide) (by decide)) ?_
            refine zx_pc (pc1 := 24) rfl ?_
            refine zx_icmp_ge (tgt := 68) dX8_countLike_24 (by decide) (fun h24 => absurd h24 (by decide)) (fun h24 => ?_)
            refine zx_iload (i := 4) dX8_countLike_27 rfl ?_
            refine zx_if_eq (tgt := 59) dX8_countLike_29 (by decide) (fun h29 => absurd h29 (by decide)) (fun h29 => ?_)
            refine zx_aload_n (i := 0) dX8_countLike_32 rfl rfl ?_
            refine zx_getfield dX8_countLike_33 zf_X8_24 h0 rfl ?_
            refine zx_iload_n (i := 3) dX8_countLike_36 rfl rfl ?_
            refine zx_iload (i := 5) dX8_countLike_37 rfl ?_
            refine zx_iv (b := ta) (As := [zI (k : Int), zI 0]) (st := []) (v := (some (zI (tg A (k : Int) 0)))) (w1 := w) dX8_countLike_39 zc_X8_69 ha (z_cls9 (by decide)) rfl rfl (Nat.le_of_ble_eq_true rfl) rfl (c_X9_get ha (by decide) okA (k : Int) 0) ?_
            refine zx_st (st1 := [zI (tg A (k : Int) 0)]) rfl ?_
            refine zx_aload_n (i := 0) dX8_countLike_42 rfl rfl ?_
            refine zx_getfield dX8_countLike_43 zf_X8_24 h0 rfl ?_
            refine zx_iload_n (i := 1) dX8_countLike_46 rfl rfl ?_
            refine zx_iload (i := 5) dX8_countLike_47 rfl ?_
            refine zx_pc (pc1 := 49) rfl ?_
            refine zx_iv (b := ta) (As := [zI i, zI 0]) (st := [zI (tg A (k : Int) 0)]) (v := (some (zI (tg A i 0)))) (w1 := w) dX8_countLike_49 zc_X8_69 ha (z_cls9 (by decide)) rfl rfl (Nat.le_of_ble_eq_true rfl) rfl (c_X9_get ha (by decide) okA i 0) ?_
            refine zx_st (st1 := [zI (tg A i 0), zI (tg A (k : Int) 0)]) rfl ?_
            refine zx_icmp_ne (tgt := 59) dX8_countLike_52 (by decide) (fun h52 => absurd h52 (not_not_intro e0)) (fun h52 => ?_)
            refine zx_iconst (v := 1) dX8_countLike_55 rfl (z32_lit (by decide) (by decide)) ?_
            refine zx_goto (tgt := 60) dX8_countLike_56 (by decide) ?_
            refine zx_istore (i := 4) dX8_countLike_60 (by decide) rfl ?_
            refine zx_L (L1 := [some (zR r), some (zI i), some (zI (rpLike A i k)), some (zI (k : Int)), some (zI 1), some (zI 0)]) rfl ?_
            refine zx_iinc (i := 5) (v := 1) dX8_countLike_62 rfl (by decide +kernel) (by decide) rfl ?_
            refine zx_L (L1 := [some (zR r), some (zI i), some (zI (rpLike A i k)), some (zI (k : Int)), some (zI 1), some (zI 1)]) rfl ?_
            refine zx_goto (tgt := 21) dX8_countLike_65 (by decide) ?_
            refine zx_iload (i := 5) dX8_countLike_21 rfl ?_
            refine zx_iconst (v := 3) dX8_countLike_23 rfl (z32_lit (by decide) (by decide)) ?_
            refine zx_icmp_ge (tgt := 68) dX8_countLike_24 (by decide) (fun h24 => absurd h24 (by decide)) (fun h24 => ?_)
            refine zx_iload (i := 4) dX8_countLike_27 rfl ?_
            refine zx_if_eq (tgt := 59) dX8_countLike_29 (by decide) (fun h29 => absurd h29 (by decide)) (fun h29 => ?_)
            refine zx_pc (pc1 := 32) rfl ?_
            refine zx_aload_n (i := 0) dX8_countLike_32 rfl rfl ?_
            refine zx_getfield dX8_countLike_33 zf_X8_24 h0 rfl ?_
            refine zx_iload_n (i := 3) dX8_countLike_36 rfl rfl ?_
            refine zx_iload (i := 5) dX8_countLike_37 rfl ?_
            refine zx_iv (b := ta) (As := [zI (k : Int), zI 1]) (st := []) (v := (some (zI (tg A (k : Int) 1)))) (w1 := w) dX8_countLike_39 zc_X8_69 ha (z_cls9 (by decide)) rfl rfl (Nat.le_of_ble_eq_true rfl) rfl (c_X9_get ha (by decide) okA (k : Int) 1) ?_
            refine zx_st (st1 := [zI (tg A (k : Int) 1)]) rfl ?_
            refine zx_aload_n (i := 0) dX8_countLike_42 rfl rfl ?_
            refine zx_getfield dX8_countLike_43 zf_X8_24 h0 rfl ?_
            refine zx_iload_n (i := 1) dX8_countLike_46 rfl rfl ?_
            refine zx_iload (i := 5) dX8_countLike_47 rfl ?_
            refine zx_iv (b := ta) (As := [zI i, zI 1]) (st := [zI (tg A (k : Int) 1)]) (v := (some (zI (tg A i 1)))) (w1 := w) dX8_countLike_49 zc_X8_69 ha (z_cls9 (by decide)) rfl rfl (Nat.le_of_ble_eq_true rfl) rfl (c_X9_get ha (by decide) okA i 1) ?_
            refine zx_st (st1 := [zI (tg A i 1), zI (tg A (k : Int) 1)]) rfl ?_
            refine zx_icmp_ne (tgt := 59) dX8_countLike_52 (by decide) (fun h52 => absurd h52 (not_not_intro e1)) (fun h52 => ?_)
            refine zx_iconst (v := 1) dX8_countLike_55 rfl (z32_lit (by decide) (by decide)) ?_
            refine zx_pc (pc1 := 56) rfl ?_
            refine zx_goto (tgt := 60) dX8_countLike_56 (by decide) ?_
            refine zx_istore (i := 4) dX8_countLike_60 (by decide) rfl ?_
            refine zx_L (L1 := [some (zR r), some (zI i), some (zI (rpLike A i k)), some (zI (k : Int)), some (zI 1), some (zI 1)]) rfl ?_
            refine zx_iinc (i := 5) (v := 2) dX8_countLike_62 rfl (by decide +kernel) (by decide) rfl ?_
            refine zx_L (L1 := [some (zR r), some (zI i), some (zI (rpLike A i k)), some (zI (k : Int)), some (zI 1), some (zI 2)]) rfl ?_
            refine zx_goto (tgt := 21) dX8_countLike_65 (by decide) ?_
            refine zx_iload (i := 5) dX8_countLike_21 rfl ?_
            refine zx_iconst (v := 3) dX8_countLike_23 rfl (z32_lit (by decide) (by decide)) ?_
            refine zx_icmp_ge (tgt := 68) dX8_countLike_24 (by decide) (fun h24 => absurd h24 (by decide)) (fun h24 => ?_)
            refine zx_iload (i := 4) dX8_countLike_27 rfl ?_
            refine zx_if_eq (tgt := 59) dX8_countLike_29 (by decide) (fun h29 => absurd h29 (by decide)) (fun h29 => ?_)
            refine zx_aload_n (i := 0) dX8_countLike_32 rfl rfl ?_
            refine zx_getfield dX8_countLike_33 zf_X8_24 h0 rfl ?_
            refine zx_iload_n (i := 3) dX8_countLike_36 rfl rfl ?_
            refine zx_pc (pc1 := 37) rfl ?_
            refine zx_iload (i := 5) dX8_countLike_37 rfl ?_
            refine zx_iv (b := ta) (As := [zI (k : Int), zI 2]) (st := []) (v := (some (zI (tg A (k : Int) 2)))) (w1 := w) dX8_countLike_39 zc_X8_69 ha (z_cls9 (by decide)) rfl rfl (Nat.le_of_ble_eq_true rfl) rfl (c_X9_get ha (by decide) okA (k : Int) 2) ?_
            refine zx_st (st1 := [zI (tg A (k : Int) 2)]) rfl ?_
            refine zx_aload_n (i := 0) dX8_countLike_42 rfl rfl ?_
            refine zx_getfield dX8_countLike_43 zf_X8_24 h0 rfl ?_
            refine zx_iload_n (i := 1) dX8_countLike_46 rfl rfl ?_
            refine zx_iload (i := 5) dX8_countLike_47 rfl ?_
            refine zx_iv (b := ta) (As := [zI i, zI 2]) (st := [zI (tg A (k : Int) 2)]) (v := (some (zI (tg A i 2)))) (w1 := w) dX8_countLike_49 zc_X8_69 ha (z_cls9 (by decide)) rfl rfl (Nat.le_of_ble_eq_true rfl) rfl (c_X9_get ha (by decide) okA i 2) ?_
            refine zx_st (st1 := [zI (tg A i 2), zI (tg A (k : Int) 2)]) rfl ?_
            refine zx_icmp_ne (tgt := 59) dX8_countLike_52 (by decide) (fun h52 => absurd h52 (not_not_intro e2)) (fun h52 => ?_)
            refine zx_iconst (v := 1) dX8_countLike_55 rfl (z32_lit (by decide) (by decide)) ?_
            refine zx_goto (tgt := 60) dX8_countLike_56 (by decide) ?_
            refine zx_istore (i := 4) dX8_countLike_60 (by decide) rfl ?_
            refine zx_L (L1 := [some (zR r), some (zI i), some (zI (rpLike A i k)), some (zI (k : Int)), some (zI 1), some (zI 2)]) rfl ?_
            refine zx_iinc (i := 5) (v := 3) dX8_countLike_62 rfl (by decide +kernel) (by decide) rfl ?_
            refine zx_L (L1 := [some (zR r), some (zI i), some (zI (rpLike A i k)), some (zI (k : Int)), some (zI 1), some (zI 3)]) rfl ?_
            refine zx_pc (pc1 := 65) rfl ?_
            refine zx_goto (tgt := 21) dX8_countLike_65 (by decide) ?_
            refine zx_iload (i := 5) dX8_countLike_21 rfl ?_
            refine zx_iconst (v := 3) dX8_countLike_23 rfl (z32_lit (by decide) (by decide)) ?_
            refine zx_icmp_ge (tgt := 68) dX8_countLike_24 (by decide) (fun h24 => ?_) (fun h24 => absurd (by decide) h24)
            refine zx_iload_n (i := 2) dX8_countLike_68 rfl rfl ?_
            refine zx_iload (i := 4) dX8_countLike_69 rfl ?_
            refine zx_if_eq (tgt := 78) dX8_countLike_71 (by decide) (fun h71 => absurd h71 (by decide)) (fun h71 => ?_)
            refine zx_iconst (v := 1) dX8_countLike_74 rfl (z32_lit (by decide) (by decide)) ?_
            refine zx_goto (tgt := 79) dX8_countLike_75 (by decide) ?_
            refine zx_iadd (v := (rpLike A i k) + 1) dX8_countLike_79 (zw_id ⟨by omega, by omega⟩) ?_
            refine zx_istore_n (i := 2) dX8_countLike_80 rfl (by decide) rfl ?_
            refine zx_L (L1 := [some (zR r), some (zI i), some (zI ((rpLike A i k) + 1)), some (zI (k : Int)), some (zI 1), some (zI 3)]) rfl ?_
            refine zx_iinc (i := 3) (v := ((k + 1 : Nat) : Int)) dX8_countLike_81 rfl (zw_eq (by omega) (by omega) (by omega)) (by decide) rfl ?_
            refine zx_L (L1 := [some (zR r), some (zI i), some (zI ((rpLike A i k) + 1)), some (zI ((k + 1 : Nat) : Int)), some (zI 1), some (zI 3)]) rfl ?_
            refine zx_pc (pc1 := 84) rfl ?_
            refine zx_goto (tgt := 4) dX8_countLike_84 (by decide) ?_
            have e : rpLike A i (k + 1) = rpLike A i k + 1 := by rw [rpLike_s, if_pos ⟨e0, e1, e2⟩]
            exact ih (k + 1) _ _ (by omega) _ e
          · refine zx_iload_n (i := 3) dX8_countLike_4 rfl rfl ?_
            refine zx_aload_n (i := 0) dX8_countLike_5 rfl rfl ?_
            refine zx_getfield dX8_countLike_6 zf_X8_24 h0 rfl ?_
            refine zx_iv (b := ta) (As := []) (st := [zI (k : Int)]) (v := (some (zI (A.length : Int)))) (w1 := w) dX8_countLike_9 zc_X8_73 ha (z_cls9 (by decide)) rfl rfl (Nat.le_of_ble_eq_true rfl) rfl (c_X9_count ha (by decide) okA) ?_
            refine zx_st (st1 := [zI (A.length : Int), zI (k : Int)]) rfl ?_
            refine zx_icmp_ge (tgt := 87) dX8_countLike_12 (by decide) (fun h12 => absurd h12 (by omega)) (fun h12 => ?_)
            refine zx_iconst (v := 1) dX8_countLike_15 rfl (z32_lit (by decide) (by decide)) ?_
            refine zx_istore (i := 4) dX8_countLike_16 (by decide) rfl ?_
            refine zx_L (L1 := [some (zR r), some (zI i), some (zI (rpLike A i k)), some (zI (k : Int)), some (zI 1), o5]) rfl ?_
            refine zx_iconst (v := 0) dX8_countLike_18 rfl (z32_lit (by decide) (by decide)) ?_
            refine zx_istore (i := 5) dX8_countLike_19 (by decide) rfl ?_
            refine zx_L (L1 := [some (zR r), some (zI i), some (zI (rpLike A i k)), some (zI (k : Int)), some (zI 1), some (zI 0)]) rfl ?_
            refine zx_iload (i := 5) dX8_countLike_21 rfl ?_
            refine zx_iconst (v := 3) dX8_countLike_23 rfl (z32_lit (by decide) (by decide)) ?_
            refine zx_pc (pc1 := 24) rfl ?_
            refine zx_icmp_ge (tgt := 68) dX8_countLike_24 (by decide) (fun h24 => absurd h24 (by decide)) (fun h24 => ?_)
            refine zx_iload (i := 4) dX8_countLike_27 rfl ?_
            refine zx_if_eq (tgt := 59) dX8_countLike_29 (by decide) (fun h29 => absurd h29 (by decide)) (fun h29 => ?_)
            refine zx_aload_n (i := 0) dX8_countLike_32 rfl rfl ?_
            refine zx_getfield dX8_countLike_33 zf_X8_24 h0 rfl ?_
            refine zx_iload_n (i := 3) dX8_countLike_36 rfl rfl ?_
            refine zx_iload (i := 5) dX8_countLike_37 rfl ?_
            refine zx_iv (b := ta) (As := [zI (k : Int), zI 0]) (st := []) (v := (some (zI (tg A (k : Int) 0)))) (w1 := w) dX8_countLike_39 zc_X8_69 ha (z_cls9 (by decide)) rfl rfl (Nat.le_of_ble_eq_true rfl) rfl (c_X9_get ha (by decide) okA (k : Int) 0) ?_
            refine zx_st (st1 := [zI (tg A (k : Int) 0)]) rfl ?_
            refine zx_aload_n (i := 0) dX8_countLike_42 rfl rfl ?_
            refine zx_getfield dX8_countLike_43 zf_X8_24 h0 rfl ?_
            refine zx_iload_n (i := 1) dX8_countLike_46 rfl rfl ?_
            refine zx_iload (i := 5) dX8_countLike_47 rfl ?_
            refine zx_pc (pc1 := 49) rfl ?_
            refine zx_iv (b := ta) (As := [zI i, zI 0]) (st := [zI (tg A (k : Int) 0)]) (v := (some (zI (tg A i 0)))) (w1 := w) dX8_countLike_49 zc_X8_69 ha (z_cls9 (by decide)) rfl rfl (Nat.le_of_ble_eq_true rfl) rfl (c_X9_get ha (by decide) okA i 0) ?_
            refine zx_st (st1 := [zI (tg A i 0), zI (tg A (k : Int) 0)]) rfl ?_
            refine zx_icmp_ne (tgt := 59) dX8_countLike_52 (by decide) (fun h52 => absurd h52 (not_not_intro e0)) (fun h52 => ?_)
            refine zx_iconst (v := 1) dX8_countLike_55 rfl (z32_lit (by decide) (by decide)) ?_
            refine zx_goto (tgt := 60) dX8_countLike_56 (by decide) ?_
            refine zx_istore (i := 4) dX8_countLike_60 (by decide) rfl ?_
            refine zx_L (L1 := [some (zR r), some (zI i), some (zI (rpLike A i k)), some (zI (k : Int)), some (zI 1), some (zI 0)]) rfl ?_
            refine zx_iinc (i := 5) (v := 1) dX8_countLike_62 rfl (by decide +kernel) (by decide) rfl ?_
            refine zx_L (L1 := [some (zR r), some (zI i), some (zI (rpLike A i k)), some (zI (k : Int)), some (zI 1), some (zI 1)]) rfl ?_
            refine zx_goto (tgt := 21) dX8_countLike_65 (by decide) ?_
            refine zx_iload (i := 5) dX8_countLike_21 rfl ?_
            refine zx_iconst (v := 3) dX8_countLike_23 rfl (z32_lit (by decide) (by decide)) ?_
            refine zx_icmp_ge (tgt := 68) dX8_countLike_24 (by decide) (fun h24 => absurd h24 (by decide)) (fun h24 => ?_)
            refine zx_iload (i := 4) dX8_countLike_27 rfl ?_
            refine zx_if_eq (tgt := 59) dX8_countLike_29 (by decide) (fun h29 => absurd h29 (by decide)) (fun h29 => ?_)
            refine zx_pc (pc1 := 32) rfl ?_
            refine zx_aload_n (i := 0) dX8_countLike_32 rfl rfl ?_
            refine zx_getfield dX8_countLike_33 zf_X8_24 h0 rfl ?_
            refine zx_iload_n (i := 3) dX8_countLike_36 rfl rfl ?_
            refine zx_iload (i := 5) dX8_countLike_37 rfl ?_
            refine zx_iv (b := ta) (As := [zI (k : Int), zI 1]) (st := []) (v := (some (zI (tg A (k : Int) 1)))) (w1 := w) dX8_countLike_39 zc_X8_69 ha (z_cls9 (by decide)) rfl rfl (Nat.le_of_ble_eq_true rfl) rfl (c_X9_get ha (by decide) okA (k : Int) 1) ?_
            refine zx_st (st1 := [zI (tg A (k : Int) 1)]) rfl ?_
            refine zx_aload_n (i := 0) dX8_countLike_42 rfl rfl ?_
            refine zx_getfield dX8_countLike_43 zf_X8_24 h0 rfl ?_
            refine zx_iload_n (i := 1) dX8_countLike_46 rfl rfl ?_
            refine zx_iload (i := 5) dX8_countLike_47 rfl ?_
            refine zx_iv (b := ta) (As := [zI i, zI 1]) (st := [zI (tg A (k : Int) 1)]) (v := (some (zI (tg A i 1)))) (w1 := w) dX8_countLike_49 zc_X8_69 ha (z_cls9 (by decide)) rfl rfl (Nat.le_of_ble_eq_true rfl) rfl (c_X9_get ha (by decide) okA i 1) ?_
            refine zx_st (st1 := [zI (tg A i 1), zI (tg A (k : Int) 1)]) rfl ?_
            refine zx_icmp_ne (tgt := 59) dX8_countLike_52 (by decide) (fun h52 => absurd h52 (not_not_intro e1)) (fun h52 => ?_)
            refine zx_iconst (v := 1) dX8_countLike_55 rfl (z32_lit (by decide) (by decide)) ?_
            refine zx_pc (pc1 := 56) rfl ?_
            refine zx_goto (tgt := 60) dX8_countLike_56 (by decide) ?_
            refine zx_istore (i := 4) dX8_countLike_60 (by decide) rfl ?_
            refine zx_L (L1 := [some (zR r), some (zI i), some (zI (rpLike A i k)), some (zI (k : Int)), some (zI 1), some (zI 1)]) rfl ?_
            refine zx_iinc (i := 5) (v := 2) dX8_countLike_62 rfl (by decide +kernel) (by decide) rfl ?_
            refine zx_L (L1 := [some (zR r), some (zI i), some (zI (rpLike A i k)), some (zI (k : Int)), some (zI 1), some (zI 2)]) rfl ?_
            refine zx_goto (tgt := 21) dX8_countLike_65 (by decide) ?_
            refine zx_iload (i := 5) dX8_countLike_21 rfl ?_
            refine zx_iconst (v := 3) dX8_countLike_23 rfl (z32_lit (by decide) (by decide)) ?_
            refine zx_icmp_ge (tgt := 68) dX8_countLike_24 (by decide) (fun h24 => absurd h24 (by decide)) (fun h24 => ?_)
            refine zx_iload (i := 4) dX8_countLike_27 rfl ?_
            refine zx_if_eq (tgt := 59) dX8_countLike_29 (by decide) (fun h29 => absurd h29 (by decide)) (fun h29 => ?_)
            refine zx_aload_n (i := 0) dX8_countLike_32 rfl rfl ?_
            refine zx_getfield dX8_countLike_33 zf_X8_24 h0 rfl ?_
            refine zx_iload_n (i := 3) dX8_countLike_36 rfl rfl ?_
            refine zx_pc (pc1 := 37) rfl ?_
            refine zx_iload (i := 5) dX8_countLike_37 rfl ?_
            refine zx_iv (b := ta) (As := [zI (k : Int), zI 2]) (st := []) (v := (some (zI (tg A (k : Int) 2)))) (w1 := w) dX8_countLike_39 zc_X8_69 ha (z_cls9 (by decide)) rfl rfl (Nat.le_of_ble_eq_true rfl) rfl (c_X9_get ha (by decide) okA (k : Int) 2) ?_
            refine zx_st (st1 := [zI (tg A (k : Int) 2)]) rfl ?_
            refine zx_aload_n (i := 0) dX8_countLike_42 rfl rfl ?_
            refine zx_getfield dX8_countLike_43 zf_X8_24 h0 rfl ?_
            refine zx_iload_n (i := 1) dX8_countLike_46 rfl rfl ?_
            refine zx_iload (i := 5) dX8_countLike_47 rfl ?_
            refine zx_iv (b := ta) (As := [zI i, zI 2]) (st := [zI (tg A (k : Int) 2)]) (v := (some (zI (tg A i 2)))) (w1 := w) dX8_countLike_49 zc_X8_69 ha (z_cls9 (by decide)) rfl rfl (Nat.le_of_ble_eq_true rfl) rfl (c_X9_get ha (by decide) okA i 2) ?_
            refine zx_st (st1 := [zI (tg A i 2), zI (tg A (k : Int) 2)]) rfl ?_
            refine zx_icmp_ne (tgt := 59) dX8_countLike_52 (by decide) (fun h52 => ?_) (fun h52 => absurd (e2) h52)
            refine zx_iconst (v := 0) dX8_countLike_59 rfl (z32_lit (by decide) (by decide)) ?_
            refine zx_istore (i := 4) dX8_countLike_60 (by decide) rfl ?_
            refine zx_L (L1 := [some (zR r), some (zI i), some (zI (rpLike A i k)), some (zI (k : Int)), some (zI 0), some (zI 2)]) rfl ?_
            refine zx_iinc (i := 5) (v := 3) dX8_countLike_62 rfl (by decide +kernel) (by decide) rfl ?_
            refine zx_L (L1 := [some (zR r), some (zI i), some (zI (rpLike A i k)), some (zI (k : Int)), some (zI 0), some (zI 3)]) rfl ?_
            refine zx_goto (tgt := 21) dX8_countLike_65 (by decide) ?_
            refine zx_pc (pc1 := 21) rfl ?_
            refine zx_iload (i := 5) dX8_countLike_21 rfl ?_
            refine zx_iconst (v := 3) dX8_countLike_23 rfl (z32_lit (by decide) (by decide)) ?_
            refine zx_icmp_ge (tgt := 68) dX8_countLike_24 (by decide) (fun h24 => ?_) (fun h24 => absurd (by decide) h24)
            refine zx_iload_n (i := 2) dX8_countLike_68 rfl rfl ?_
            refine zx_iload (i := 4) dX8_countLike_69 rfl ?_
            refine zx_if_eq (tgt := 78) dX8_countLike_71 (by decide) (fun h71 => ?_) (fun h71 => absurd (by decide) h71)
            refine zx_iconst (v := 0) dX8_countLike_78 rfl (z32_lit (by decide) (by decide)) ?_
            refine zx_iadd (v := (rpLike A i k) + 0) dX8_countLike_79 (zw_id ⟨by omega, by omega⟩) ?_
            refine zx_istore_n (i := 2) dX8_countLike_80 rfl (by decide) rfl ?_
            refine zx_L (L1 := [some (zR r), some (zI i), some (zI ((rpLike A i k) + 0)), some (zI (k : Int)), some (zI 0), some (zI 3)]) rfl ?_
            refine zx_iinc (i := 3) (v := ((k + 1 : Nat) : Int)) dX8_countLike_81 rfl (zw_eq (by omega) (by omega) (by omega)) (by decide) rfl ?_
            refine zx_L (L1 := [some (zR r), some (zI i), some (zI ((rpLike A i k) + 0)), some (zI ((k + 1 : Nat) : Int)), some (zI 0), some (zI 3)]) rfl ?_
            refine zx_goto (tgt := 4) dX8_countLike_84 (by decide) ?_
            have e : rpLike A i (k + 1) = rpLike A i k + 0 := by rw [rpLike_s, if_neg (fun q => e2 q.2.2)]
            exact ih (k + 1) _ _ (by omega) _ e
        · refine zx_iload_n (i := 3) dX8_countLike_4 rfl rfl ?_
          refine zx_aload_n (i := 0) dX8_countLike_5 rfl rfl ?_
          refine zx_getfield dX8_countLike_6 zf_X8_24 h0 rfl ?_
          refine zx_iv (b := ta) (As := []) (st := [zI (k : Int)]) (v := (some (zI (A.length : Int)))) (w1 := w) dX8_countLike_9 zc_X8_73 ha (z_cls9 (by decide)) rfl rfl (Nat.le_of_ble_eq_true rfl) rfl (c_X9_count ha (by decide) okA) ?_
          refine zx_st (st1 := [zI (A.length : Int), zI (k : Int)]) rfl ?_
          refine zx_icmp_ge (tgt := 87) dX8_countLike_12 (by decide) (fun h12 => absurd h12 (by omega)) (fun h12 => ?_)
          refine zx_iconst (v := 1) dX8_countLike_15 rfl (z32_lit (by decide) (by decide)) ?_
          refine zx_istore (i := 4) dX8_countLike_16 (by decide) rfl ?_
          refine zx_L (L1 := [some (zR r), some (zI i), some (zI (rpLike A i k)), some (zI (k : Int)), some (zI 1), o5]) rfl ?_
          refine zx_iconst (v := 0) dX8_countLike_18 rfl (z32_lit (by decide) (by decide)) ?_
          refine zx_istore (i := 5) dX8_countLike_19 (by decide) rfl ?_
          refine zx_L (L1 := [some (zR r), some (zI i), some (zI (rpLike A i k)), some (zI (k : Int)), some (zI 1), some (zI 0)]) rfl ?_
          refine zx_iload (i := 5) dX8_countLike_21 rfl ?_
          refine zx_iconst (v := 3) dX8_countLike_23 rfl (z32_lit (by decide) (by decide)) ?_
          refine zx_pc (pc1 := 24) rfl ?_
          refine zx_icmp_ge (tgt := 68) dX8_countLike_24 (by decide) (fun h24 => absurd h24 (by decide)) (fun h24 => ?_)
          refine zx_iload (i := 4) dX8_countLike_27 rfl ?_
          refine zx_if_eq (tgt := 59) dX8_countLike_29 (by decide) (fun h29 => absurd h29 (by decide)) (fun h29 => ?_)
          refine zx_aload_n (i := 0) dX8_countLike_32 rfl rfl ?_
          refine zx_getfield dX8_countLike_33 zf_X8_24 h0 rfl ?_
          refine zx_iload_n (i := 3) dX8_countLike_36 rfl rfl ?_
          refine zx_iload (i := 5) dX8_countLike_37 rfl ?_
          refine zx_iv (b := ta) (As := [zI (k : Int), zI 0]) (st := []) (v := (some (zI (tg A (k : Int) 0)))) (w1 := w) dX8_countLike_39 zc_X8_69 ha (z_cls9 (by decide)) rfl rfl (Nat.le_of_ble_eq_true rfl) rfl (c_X9_get ha (by decide) okA (k : Int) 0) ?_
          refine zx_st (st1 := [zI (tg A (k : Int) 0)]) rfl ?_
          refine zx_aload_n (i := 0) dX8_countLike_42 rfl rfl ?_
          refine zx_getfield dX8_countLike_43 zf_X8_24 h0 rfl ?_
          refine zx_iload_n (i := 1) dX8_countLike_46 rfl rfl ?_
          refine zx_iload (i := 5) dX8_countLike_47 rfl ?_
          refine zx_pc (pc1 := 49) rfl ?_
          refine zx_iv (b := ta) (As := [zI i, zI 0]) (st := [zI (tg A (k : Int) 0)]) (v := (some (zI (tg A i 0)))) (w1 := w) dX8_countLike_49 zc_X8_69 ha (z_cls9 (by decide)) rfl rfl (Nat.le_of_ble_eq_true rfl) rfl (c_X9_get ha (by decide) okA i 0) ?_
          refine zx_st (st1 := [zI (tg A i 0), zI (tg A (k : Int) 0)]) rfl ?_
          refine zx_icmp_ne (tgt := 59) dX8_countLike_52 (by decide) (fun h52 => absurd h52 (not_not_intro e0)) (fun h52 => ?_)
          refine zx_iconst (v := 1) dX8_countLike_55 rfl (z32_lit (by decide) (by decide)) ?_
          refine zx_goto (tgt := 60) dX8_countLike_56 (by decide) ?_
          refine zx_istore (i := 4) dX8_countLike_60 (by decide) rfl ?_
          refine zx_L (L1 := [some (zR r), some (zI i), some (zI (rpLike A i k)), some (zI (k : Int)), some (zI 1), some (zI 0)]) rfl ?_
          refine zx_iinc (i := 5) (v := 1) dX8_countLike_62 rfl (by decide +kernel) (by decide) rfl ?_
          refine zx_L (L1 := [some (zR r), some (zI i), some (zI (rpLike A i k)), some (zI (k : Int)), some (zI 1), some (zI 1)]) rfl ?_
          refine zx_goto (tgt := 21) dX8_countLike_65 (by decide) ?_
          refine zx_iload (i := 5) dX8_countLike_21 rfl ?_
          refine zx_iconst (v := 3) dX8_countLike_23 rfl (z32_lit (by decide) (by decide)) ?_
          refine zx_icmp_ge (tgt := 68) dX8_countLike_24 (by decide) (fun h24 => absurd h24 (by decide)) (fun h24 => ?_)
          refine zx_iload (i := 4) dX8_countLike_27 rfl ?_
          refine zx_if_eq (tgt := 59) dX8_countLike_29 (by decide) (fun h29 => absurd h29 (by decide)) (fun h29 => ?_)
          refine zx_pc (pc1 := 32) rfl ?_
          refine zx_aload_n (i := 0) dX8_countLike_32 rfl rfl ?_
          refine zx_getfield dX8_countLike_33 zf_X8_24 h0 rfl ?_
          refine zx_iload_n (i := 3) dX8_countLike_36 rfl rfl ?_
          refine zx_iload (i := 5) dX8_countLike_37 rfl ?_
          refine zx_iv (b := ta) (As := [zI (k : Int), zI 1]) (st := []) (v := (some (zI (tg A (k : Int) 1)))) (w1 := w) dX8_countLike_39 zc_X8_69 ha (z_cls9 (by decide)) rfl rfl (Nat.le_of_ble_eq_true rfl) rfl (c_X9_get ha (by decide) okA (k : Int) 1) ?_
          refine zx_st (st1 := [zI (tg A (k : Int) 1)]) rfl ?_
          refine zx_aload_n (i := 0) dX8_countLike_42 rfl rfl ?_
          refine zx_getfield dX8_countLike_43 zf_X8_24 h0 rfl ?_
          refine zx_iload_n (i := 1) dX8_countLike_46 rfl rfl ?_
          refine zx_iload (i := 5) dX8_countLike_47 rfl ?_
          refine zx_iv (b := ta) (As := [zI i, zI 1]) (st := [zI (tg A (k : Int) 1)]) (v := (some (zI (tg A i 1)))) (w1 := w) dX8_countLike_49 zc_X8_69 ha (z_cls9 (by decide)) rfl rfl (Nat.le_of_ble_eq_true rfl) rfl (c_X9_get ha (by decide) okA i 1) ?_
          refine zx_st (st1 := [zI (tg A i 1), zI (tg A (k : Int) 1)]) rfl ?_
          refine zx_icmp_ne (tgt := 59) dX8_countLike_52 (by decide) (fun h52 => ?_) (fun h52 => absurd (e1) h52)
          refine zx_iconst (v := 0) dX8_countLike_59 rfl (z32_lit (by decide) (by decide)) ?_
          refine zx_pc (pc1 := 60) rfl ?_
          refine zx_istore (i := 4) dX8_countLike_60 (by decide) rfl ?_
          refine zx_L (L1 := [some (zR r), some (zI i), some (zI (rpLike A i k)), some (zI (k : Int)), some (zI 0), some (zI 1)]) rfl ?_
          refine zx_iinc (i := 5) (v := 2) dX8_countLike_62 rfl (by decide +kernel) (by decide) rfl ?_
          refine zx_L (L1 := [some (zR r), some (zI i), some (zI (rpLike A i k)), some (zI (k : Int)), some (zI 0), some (zI 2)]) rfl ?_
          refine zx_goto (tgt := 21) dX8_countLike_65 (by decide) ?_
          refine zx_iload (i := 5) dX8_countLike_21 rfl ?_
          refine zx_iconst (v := 3) dX8_countLike_23 rfl (z32_lit (by decide) (by decide)) ?_
          refine zx_icmp_ge (tgt := 68) dX8_countLike_24 (by decide) (fun h24 => absurd h24 (by decide)) (fun h24 => ?_)
          refine zx_iload (i := 4) dX8_countLike_27 rfl ?_
          refine zx_if_eq (tgt := 59) dX8_countLike_29 (by decide) (fun h29 => ?_) (fun h29 => absurd (by decide) h29)
          refine zx_iconst (v := 0) dX8_countLike_59 rfl (z32_lit (by decide) (by decide)) ?_
          refine zx_istore (i := 4) dX8_countLike_60 (by decide) rfl ?_
          refine zx_L (L1 := [some (zR r), some (zI i), some (zI (rpLike A i k)), some (zI (k : Int)), some (zI 0), some (zI 2)]) rfl ?_
          refine zx_iinc (i := 5) (v := 3) dX8_countLike_62 rfl (by decide +kernel) (by decide) rfl ?_
          refine zx_L (L1 := [some (zR r), some (zI i), some (zI (rpLike A i k)), some (zI (k : Int)), some (zI 0), some (zI 3)]) rfl ?_
          refine zx_goto (tgt := 21) dX8_countLike_65 (by decide) ?_
          refine zx_pc (pc1 := 21) rfl ?_
          refine zx_iload (i := 5) dX8_countLike_21 rfl ?_
          refine zx_iconst (v := 3) dX8_countLike_23 rfl (z32_lit (by decide) (by decide)) ?_
          refine zx_icmp_ge (tgt := 68) dX8_countLike_24 (by decide) (fun h24 => ?_) (fun h24 => absurd (by decide) h24)
          refine zx_iload_n (i := 2) dX8_countLike_68 rfl rfl ?_
          refine zx_iload (i := 4) dX8_countLike_69 rfl ?_
          refine zx_if_eq (tgt := 78) dX8_countLike_71 (by decide) (fun h71 => ?_) (fun h71 => absurd (by decide) h71)
          refine zx_iconst (v := 0) dX8_countLike_78 rfl (z32_lit (by decide) (by decide)) ?_
          refine zx_iadd (v := (rpLike A i k) + 0) dX8_countLike_79 (zw_id ⟨by omega, by omega⟩) ?_
          refine zx_istore_n (i := 2) dX8_countLike_80 rfl (by decide) rfl ?_
          refine zx_L (L1 := [some (zR r), some (zI i), some (zI ((rpLike A i k) + 0)), some (zI (k : Int)), some (zI 0), some (zI 3)]) rfl ?_
          refine zx_iinc (i := 3) (v := ((k + 1 : Nat) : Int)) dX8_countLike_81 rfl (zw_eq (by omega) (by omega) (by omega)) (by decide) rfl ?_
          refine zx_L (L1 := [some (zR r), some (zI i), some (zI ((rpLike A i k) + 0)), some (zI ((k + 1 : Nat) : Int)), some (zI 0), some (zI 3)]) rfl ?_
          refine zx_goto (tgt := 4) dX8_countLike_84 (by decide) ?_
          have e : rpLike A i (k + 1) = rpLike A i k + 0 := by rw [rpLike_s, if_neg (fun q => e1 q.2.1)]
          exact ih (k + 1) _ _ (by omega) _ e
      · refine zx_iload_n (i := 3) dX8_countLike_4 rfl rfl ?_
        refine zx_aload_n (i := 0) dX8_countLike_5 rfl rfl ?_
        refine zx_getfield dX8_countLike_6 zf_X8_24 h0 rfl ?_
        refine zx_iv (b := ta) (As := []) (st := [zI (k : Int)]) (v := (some (zI (A.length : Int)))) (w1 := w) dX8_countLike_9 zc_X8_73 ha (z_cls9 (by decide)) rfl rfl (Nat.le_of_ble_eq_true rfl) rfl (c_X9_count ha (by decide) okA) ?_
        refine zx_st (st1 := [zI (A.length : Int), zI (k : Int)]) rfl ?_
        refine zx_icmp_ge (tgt := 87) dX8_countLike_12 (by decide) (fun h12 => absurd h12 (by omega)) (fun h12 => ?_)
        refine zx_iconst (v := 1) dX8_countLike_15 rfl (z32_lit (by decide) (by decide)) ?_
        refine zx_istore (i := 4) dX8_countLike_16 (by decide) rfl ?_
        refine zx_L (L1 := [some (zR r), some (zI i), some (zI (rpLike A i k)), some (zI (k : Int)), some (zI 1), o5]) rfl ?_
        refine zx_iconst (v := 0) dX8_countLike_18 rfl (z32_lit (by decide) (by decide)) ?_
        refine zx_istore (i := 5) dX8_countLike_19 (by decide) rfl ?_
        refine zx_L (L1 := [some (zR r), some (zI i), some (zI (rpLike A i k)), some (zI (k : Int)), some (zI 1), some (zI 0)]) rfl ?_
        refine zx_iload (i := 5) dX8_countLike_21 rfl ?_
        refine zx_iconst (v := 3) dX8_countLike_23 rfl (z32_lit (by decide) (by decide)) ?_
        refine zx_pc (pc1 := 24) rfl ?_
        refine zx_icmp_ge (tgt := 68) dX8_countLike_24 (by decide) (fun h24 => absurd h24 (by decide)) (fun h24 => ?_)
        refine zx_iload (i := 4) dX8_countLike_27 rfl ?_
        refine zx_if_eq (tgt := 59) dX8_countLike_29 (by decide) (fun h29 => absurd h29 (by decide)) (fun h29 => ?_)
        refine zx_aload_n (i := 0) dX8_countLike_32 rfl rfl ?_
        refine zx_getfield dX8_countLike_33 zf_X8_24 h0 rfl ?_
        refine zx_iload_n (i := 3) dX8_countLike_36 rfl rfl ?_
        refine zx_iload (i := 5) dX8_countLike_37 rfl ?_
        refine zx_iv (b := ta) (As := [zI (k : Int), zI 0]) (st := []) (v := (some (zI (tg A (k : Int) 0)))) (w1 := w) dX8_countLike_39 zc_X8_69 ha (z_cls9 (by decide)) rfl rfl (Nat.le_of_ble_eq_true rfl) rfl (c_X9_get ha (by decide) okA (k : Int) 0) ?_
        refine zx_st (st1 := [zI (tg A (k : Int) 0)]) rfl ?_
        refine zx_aload_n (i := 0) dX8_countLike_42 rfl rfl ?_
        refine zx_getfield dX8_countLike_43 zf_X8_24 h0 rfl ?_
        refine zx_iload_n (i := 1) dX8_countLike_46 rfl rfl ?_
        refine zx_iload (i := 5) dX8_countLike_47 rfl ?_
        refine zx_pc (pc1 := 49) rfl ?_
        refine zx_iv (b := ta) (As := [zI i, zI 0]) (st := [zI (tg A (k : Int) 0)]) (v := (some (zI (tg A i 0)))) (w1 := w) dX8_countLike_49 zc_X8_69 ha (z_cls9 (by decide)) rfl rfl (Nat.le_of_ble_eq_true rfl) rfl (c_X9_get ha (by decide) okA i 0) ?_
        refine zx_st (st1 := [zI (tg A i 0), zI (tg A (k : Int) 0)]) rfl ?_
        refine zx_icmp_ne (tgt := 59) dX8_countLike_52 (by decide) (fun h52 => ?_) (fun h52 => absurd (e0) h52)
        refine zx_iconst (v := 0) dX8_countLike_59 rfl (z32_lit (by decide) (by decide)) ?_
        refine zx_istore (i := 4) dX8_countLike_60 (by decide) rfl ?_
        refine zx_L (L1 := [some (zR r), some (zI i), some (zI (rpLike A i k)), some (zI (k : Int)), some (zI 0), some (zI 0)]) rfl ?_
        refine zx_iinc (i := 5) (v := 1) dX8_countLike_62 rfl (by decide +kernel) (by decide) rfl ?_
        refine zx_L (L1 := [some (zR r), some (zI i), some (zI (rpLike A i k)), some (zI (k : Int)), some (zI 0), some (zI 1)]) rfl ?_
        refine zx_goto (tgt := 21) dX8_countLike_65 (by decide) ?_
        refine zx_iload (i := 5) dX8_countLike_21 rfl ?_
        refine zx_iconst (v := 3) dX8_countLike_23 rfl (z32_lit (by decide) (by decide)) ?_
        refine zx_icmp_ge (tgt := 68) dX8_countLike_24 (by decide) (fun h24 => absurd h24 (by decide)) (fun h24 => ?_)
        refine zx_iload (i := 4) dX8_countLike_27 rfl ?_
        refine zx_if_eq (tgt := 59) dX8_countLike_29 (by decide) (fun h29 => ?_) (fun h29 => absurd (by decide) h29)
        refine zx_iconst (v := 0) dX8_countLike_59 rfl (z32_lit (by decide) (by decide)) ?_
        refine zx_pc (pc1 := 60) rfl ?_
        refine zx_istore (i := 4) dX8_countLike_60 (by decide) rfl ?_
        refine zx_L (L1 := [some (zR r), some (zI i), some (zI (rpLike A i k)), some (zI (k : Int)), some (zI 0), some (zI 1)]) rfl ?_
        refine zx_iinc (i := 5) (v := 2) dX8_countLike_62 rfl (by decide +kernel) (by decide) rfl ?_
        refine zx_L (L1 := [some (zR r), some (zI i), some (zI (rpLike A i k)), some (zI (k : Int)), some (zI 0), some (zI 2)]) rfl ?_
        refine zx_goto (tgt := 21) dX8_countLike_65 (by decide) ?_
        refine zx_iload (i := 5) dX8_countLike_21 rfl ?_
        refine zx_iconst (v := 3) dX8_countLike_23 rfl (z32_lit (by decide) (by decide)) ?_
        refine zx_icmp_ge (tgt := 68) dX8_countLike_24 (by decide) (fun h24 => absurd h24 (by decide)) (fun h24 => ?_)
        refine zx_iload (i := 4) dX8_countLike_27 rfl ?_
        refine zx_if_eq (tgt := 59) dX8_countLike_29 (by decide) (fun h29 => ?_) (fun h29 => absurd (by decide) h29)
        refine zx_iconst (v := 0) dX8_countLike_59 rfl (z32_lit (by decide) (by decide)) ?_
        refine zx_istore (i := 4) dX8_countLike_60 (by decide) rfl ?_
        refine zx_L (L1 := [some (zR r), some (zI i), some (zI (rpLike A i k)), some (zI (k : Int)), some (zI 0), some (zI 2)]) rfl ?_
        refine zx_iinc (i := 5) (v := 3) dX8_countLike_62 rfl (by decide +kernel) (by decide) rfl ?_
        refine zx_L (L1 := [some (zR r), some (zI i), some (zI (rpLike A i k)), some (zI (k : Int)), some (zI 0), some (zI 3)]) rfl ?_
        refine zx_goto (tgt := 21) dX8_countLike_65 (by decide) ?_
        refine zx_pc (pc1 := 21) rfl ?_
        refine zx_iload (i := 5) dX8_countLike_21 rfl ?_
        refine zx_iconst (v := 3) dX8_countLike_23 rfl (z32_lit (by decide) (by decide)) ?_
        refine zx_icmp_ge (tgt := 68) dX8_countLike_24 (by decide) (fun h24 => ?_) (fun h24 => absurd (by decide) h24)
        refine zx_iload_n (i := 2) dX8_countLike_68 rfl rfl ?_
        refine zx_iload (i := 4) dX8_countLike_69 rfl ?_
        refine zx_if_eq (tgt := 78) dX8_countLike_71 (by decide) (fun h71 => ?_) (fun h71 => absurd (by decide) h71)
        refine zx_iconst (v := 0) dX8_countLike_78 rfl (z32_lit (by decide) (by decide)) ?_
        refine zx_iadd (v := (rpLike A i k) + 0) dX8_countLike_79 (zw_id ⟨by omega, by omega⟩) ?_
        refine zx_istore_n (i := 2) dX8_countLike_80 rfl (by decide) rfl ?_
        refine zx_L (L1 := [some (zR r), some (zI i), some (zI ((rpLike A i k) + 0)), some (zI (k : Int)), some (zI 0), some (zI 3)]) rfl ?_
        refine zx_iinc (i := 3) (v := ((k + 1 : Nat) : Int)) dX8_countLike_81 rfl (zw_eq (by omega) (by omega) (by omega)) (by decide) rfl ?_
        refine zx_L (L1 := [some (zR r), some (zI i), some (zI ((rpLike A i k) + 0)), some (zI ((k + 1 : Nat) : Int)), some (zI 0), some (zI 3)]) rfl ?_
        refine zx_goto (tgt := 4) dX8_countLike_84 (by decide) ?_
        have e : rpLike A i (k + 1) = rpLike A i k + 0 := by rw [rpLike_s, if_neg (fun q => e0 q.1)]
        exact ih (k + 1) _ _ (by omega) _ e
  refine zx_L (L1 := [some (zR r), some (zI i), none, none, none, none]) rfl ?_
  refine zx_iconst (v := 0) dX8_countLike_0 rfl (z32_lit (by decide) (by decide)) ?_
  refine zx_istore_n (i := 2) dX8_countLike_1 rfl (by decide) rfl ?_
  refine zx_L (L1 := [some (zR r), some (zI i), some (zI 0), none, none, none]) rfl ?_
  refine zx_iconst (v := 0) dX8_countLike_2 rfl (z32_lit (by decide) (by decide)) ?_
  refine zx_istore_n (i := 3) dX8_countLike_3 rfl (by decide) rfl ?_
  refine zx_L (L1 := [some (zR r), some (zI i), some (zI 0), some (zI 0), none, none]) rfl ?_
  exact loop A.length 0 none none (by omega) 0 rfl
theorem c_X8_init {r : Nat} (h0 : w.1 r = some (8, 0, [zN, zN, zN, zN, zI 0, zI 0, zI 0, zI 0, zI 0, zI 0])) (r1 : w.2.1 + 6 ≤ G.2.2.2.2.1) (r2 : w.2.2 + 322 ≤ G.2.2.2.2.2) : zM G zm_X8_init (d + 3) [zR r] w (zVoid fun w' => rpW w' r w.2.1 (w.2.1 + 2) (w.2.1 + 4) none [] [] [] 0 0 0 101 0 0 ∧ w'.2.1 = w.2.1 + 6 ∧ w'.2.2 = w.2.2 + 322 ∧ ∀ b ob, b ≠ r → w.1 b = some ob → w'.1 b = some ob) := by
  refine zx_ent (by decide +kernel) rfl (Nat.le_of_ble_eq_true rfl) ?_
  refine zx_L (L1 := [some (zR r)]) rfl ?_
  refine zx_ok (fun ok0 => ?_)
  have ht0 : r < w.2.1 := ok0 _ _ h0
  refine zx_aload_n (i := 0) dX8_init_0 rfl rfl ?_
  refine zx_objInit dX8_init_1 zo_X8_3 zk_oi1 zk_oi2 (Nat.le_of_ble_eq_true rfl) ?_
  refine zx_aload_n (i := 0) dX8_init_4 rfl rfl ?_
  refine zx_null dX8_init_5 ?_
  obtain ⟨w_1, hw_2⟩ : ∃ ww, ww = zput w r (8, 0, [zN, zN, zN, zN, zI 0, zI 0, zI 0, zI 0, zI 0, zI 0]) := ⟨_, rfl⟩
  refine zx_put (w1 := w_1) dX8_init_6 zf_X8_9 h0 (Nat.le_of_ble_eq_true rfl) (zFt_obj _ _) (fun h => by cases h) hw_2.symm ?_
  have q_3 : w_1.2.1 = w.2.1 ∧ w_1.2.2 = w.2.2 := by rw [hw_2]; exact ⟨rfl, rfl⟩
  have h_4 : w_1.1 r = some (8, 0, [zN, zN, zN, zN, zI 0, zI 0, zI 0, zI 0, zI 0, zI 0]) := by rw [hw_2]; exact zput_at
  refine zx_aload_n (i := 0) dX8_init_9 rfl rfl ?_
  refine zx_ok (fun ok_5 => ?_)
  refine zx_new dX8_init_10 zn_X8_15 (by omega) (by omega) ?_
  obtain ⟨w_6, hw_7⟩ : ∃ ww, ww = znew w_1 (9, 0, [zI 0, zN, zI 0]) 3 := ⟨_, rfl⟩
  obtain ⟨a_8, ha_9⟩ : ∃ ww, ww = w_1.2.1 := ⟨_, rfl⟩
  rw [← hw_7, ← ha_9]
  have q_10 : w_6.2.1 = w_1.2.1 + 1 ∧ w_6.2.2 = w_1.2.2 + 3 := by rw [hw_7]; exact ⟨rfl, rfl⟩
  have h_11 : w_6.1 a_8 = some (9, 0, [zI 0, zN, zI 0]) := by rw [hw_7, ha_9]; exact znew_at
  refine zx_dup dX8_init_13 (fun a h => by cases h) ?_
  refine zx_iconst (v := 1) dX8_init_14 rfl (z32_lit (by decide) (by decide)) ?_
  refine zx_iconst (v := 3) dX8_init_15 rfl (z32_lit (by decide) (by decide)) ?_
  refine zx_ok (fun ok_12 => ?_)
  obtain ⟨w_13, hw_14⟩ : ∃ ww, ww = znew w_6 (199, a_8, []) 3 := ⟨_, rfl⟩
  obtain ⟨a_15, ha_16⟩ : ∃ ww, ww = w_6.2.1 := ⟨_, rfl⟩
  have q_17 : w_13.2.1 = w_6.2.1 + 1 ∧ w_13.2.2 = w_6.2.2 + 3 := by rw [hw_14]; exact ⟨rfl, rfl⟩
  have h_18 : w_13.1 a_15 = some (199, a_8, []) := by rw [hw_14, ha_16]; exact znew_at
  have h_19 : w_13.1 a_8 = some (9, 0, [zI 0, zN, zI 0]) := by
    rw [hw_14]; exact znew_to (ok_12 _ _ h_11) h_11
  obtain ⟨w_20, hw_21⟩ : ∃ ww, ww = zput w_13 a_8 (135, r, tTb 1 3 []) := ⟨_, rfl⟩
  have q_22 : w_20.2.1 = w_13.2.1 ∧ w_20.2.2 = w_13.2.2 := by rw [hw_21]; exact ⟨rfl, rfl⟩
  have h_23 : w_20.1 a_8 = some (135, r, tTb 1 3 []) := by rw [hw_21]; exact zput_at
  refine zx_ic (b := a_8) (As := [zI 1, zI 3]) (st := [zR a_8, zR r]) (w1 := w_20) dX8_init_16 zc_X8_17 rfl (Nat.le_of_ble_eq_true rfl) rfl (by rw [hw_21]; (try rw [ha_16]); rw [hw_14]; exact (c_X9_init (c := 1) (rm := 3) 135 r h_11 (by decide) (by decide) (by decide) (by decide) (by decide) (by omega) (by omega))) ?_
  refine zx_pc (pc1 := 19) rfl ?_
  have h_24 : w_6.1 r = some (8, 0, [zN, zN, zN, zN, zI 0, zI 0, zI 0, zI 0, zI 0, zI 0]) := by
    rw [hw_7]; exact znew_to (ok_5 _ _ h_4) h_4
  have h_25 : w_13.1 r = some (8, 0, [zN, zN, zN, zN, zI 0, zI 0, zI 0, zI 0, zI 0, zI 0]) := by
    rw [hw_14]; exact znew_to (ok_12 _ _ h_24) h_24
  have h_26 : w_20.1 r = some (8, 0, [zN, zN, zN, zN, zI 0, zI 0, zI 0, zI 0, zI 0, zI 0]) := by
    rw [hw_21]; exact zput_tg h_19 h_25 (by simp)
  obtain ⟨w_27, hw_28⟩ : ∃ ww, ww = zput w_20 r (8, 0, [zN, zR a_8, zN, zN, zI 0, zI 0, zI 0, zI 0, zI 0, zI 0]) := ⟨_, rfl⟩
  refine zx_put (w1 := w_27) dX8_init_19 zf_X8_20 h_26 (Nat.le_of_ble_eq_true rfl) (zFt_obj _ _) (fun _ => ⟨rfl, fun q h => by cases h; rfl⟩) hw_28.symm ?_
  have q_29 : w_27.2.1 = w_20.2.1 ∧ w_27.2.2 = w_20.2.2 := by rw [hw_28]; exact ⟨rfl, rfl⟩
  have h_30 : w_27.1 r = some (8, 0, [zN, zR a_8, zN, zN, zI 0, zI 0, zI 0, zI 0, zI 0, zI 0]) := by rw [hw_28]; exact zput_at
  refine zx_aload_n (i := 0) dX8_init_22 rfl rfl ?_
  refine zx_ok (fun ok_31 => ?_)
  refine zx_new dX8_init_23 zn_X8_15 (by omega) (by omega) ?_
  obtain ⟨w_32, hw_33⟩ : ∃ ww, ww = znew w_27 (9, 0, [zI 0, zN, zI 0]) 3 := ⟨_, rfl⟩
  obtain ⟨a_34, ha_35⟩ : ∃ ww, ww = w_27.2.1 := ⟨_, rfl⟩
  rw [← hw_33, ← ha_35]
  have q_36 : w_32.2.1 = w_27.2.1 + 1 ∧ w_32.2.2 = w_27.2.2 + 3 := by rw [hw_33]; exact ⟨rfl, rfl⟩
  have h_37 : w_32.1 a_34 = some (9, 0, [zI 0, zN, zI 0]) := by rw [hw_33, ha_35]; exact znew_at
  refine zx_dup dX8_init_26 (fun a h => by cases h) ?_
  refine zx_iconst (v := 3) dX8_init_27 rfl (z32_lit (by decide) (by decide)) ?_
  refine zx_bipush (v := 50) dX8_init_28 (by decide +kernel) (z32_lit (by decide) (by decide)) ?_
  refine zx_ok (fun ok_38 => ?_)
  obtain ⟨w_39, hw_40⟩ : ∃ ww, ww = znew w_32 (199, a_34, []) 150 := ⟨_, rfl⟩
  obtain ⟨a_41, ha_42⟩ : ∃ ww, ww = w_32.2.1 := ⟨_, rfl⟩
  have q_43 : w_39.2.1 = w_32.2.1 + 1 ∧ w_39.2.2 = w_32.2.2 + 150 := by rw [hw_40]; exact ⟨rfl, rfl⟩
  have h_44 : w_39.1 a_41 = some (199, a_34, []) := by rw [hw_40, ha_42]; exact znew_at
  have h_45 : w_39.1 a_34 = some (9, 0, [zI 0, zN, zI 0]) := by
    rw [hw_40]; exact znew_to (ok_38 _ _ h_37) h_37
  obtain ⟨w_46, hw_47⟩ : ∃ ww, ww = zput w_39 a_34 (136, r, tTb 3 150 []) := ⟨_, rfl⟩
  have q_48 : w_46.2.1 = w_39.2.1 ∧ w_46.2.2 = w_39.2.2 := by rw [hw_47]; exact ⟨rfl, rfl⟩
  have h_49 : w_46.1 a_34 = some (136, r, tTb 3 150 []) := by rw [hw_47]; exact zput_at
  refine zx_ic (b := a_34) (As := [zI 3, zI 50]) (st := [zR a_34, zR r]) (w1 := w_46) dX8_init_30 zc_X8_17 rfl (Nat.le_of_ble_eq_true rfl) rfl (by rw [hw_47]; (try rw [ha_42]); rw [hw_40]; exact (c_X9_init (c := 3) (rm := 50) 136 r h_37 (by decide) (by decide) (by decide) (by decide) (by decide) (by omega) (by omega))) ?_
  have h_50 : w_32.1 r = some (8, 0, [zN, zR a_8, zN, zN, zI 0, zI 0, zI 0, zI 0, zI 0, zI 0]) := by
    rw [hw_33]; exact znew_to (ok_31 _ _ h_30) h_30
  have h_51 : w_39.1 r = some (8, 0, [zN, zR a_8, zN, zN, zI 0, zI 0, zI 0, zI 0, zI 0, zI 0]) := by
    rw [hw_40]; exact znew_to (ok_38 _ _ h_50) h_50
  have h_52 : w_46.1 r = some (8, 0, [zN, zR a_8, zN, zN, zI 0, zI 0, zI 0, zI 0, zI 0, zI 0]) := by
    rw [hw_47]; exact zput_tg h_45 h_51 (by simp)
  obtain ⟨w_53, hw_54⟩ : ∃ ww, ww = zput w_46 r (8, 0, [zN, zR a_8, zR a_34, zN, zI 0, zI 0, zI 0, zI 0, zI 0, zI 0]) := ⟨_, rfl⟩
  refine zx_put (w1 := w_53) dX8_init_33 zf_X8_24 h_52 (Nat.le_of_ble_eq_true rfl) (zFt_obj _ _) (fun _ => ⟨rfl, fun q h => by cases h; rfl⟩) hw_54.symm ?_
  have q_55 : w_53.2.1 = w_46.2.1 ∧ w_53.2.2 = w_46.2.2 := by rw [hw_54]; exact ⟨rfl, rfl⟩
  have h_56 : w_53.1 r = some (8, 0, [zN, zR a_8, zR a_34, zN, zI 0, zI 0, zI 0, zI 0, zI 0, zI 0]) := by rw [hw_54]; exact zput_at
  refine zx_aload_n (i := 0) dX8_init_36 rfl rfl ?_
  refine zx_ok (fun ok_57 => ?_)
  refine zx_new dX8_init_37 zn_X8_15 (by omega) (by omega) ?_
  obtain ⟨w_58, hw_59⟩ : ∃ ww, ww = znew w_53 (9, 0, [zI 0, zN, zI 0]) 3 := ⟨_, rfl⟩
  obtain ⟨a_60, ha_61⟩ : ∃ ww, ww = w_53.2.1 := ⟨_, rfl⟩
  rw [← hw_59, ← ha_61]
  have q_62 : w_58.2.1 = w_53.2.1 + 1 ∧ w_58.2.2 = w_53.2.2 + 3 := by rw [hw_59]; exact ⟨rfl, rfl⟩
  have h_63 : w_58.1 a_60 = some (9, 0, [zI 0, zN, zI 0]) := by rw [hw_59, ha_61]; exact znew_at
  refine zx_dup dX8_init_40 (fun a h => by cases h) ?_
  refine zx_iconst (v := 2) dX8_init_41 rfl (z32_lit (by decide) (by decide)) ?_
  refine zx_pc (pc1 := 42) rfl ?_
  refine zx_bipush (v := 80) dX8_init_42 (by decide +kernel) (z32_lit (by decide) (by decide)) ?_
  refine zx_ok (fun ok_64 => ?_)
  obtain ⟨w_65, hw_66⟩ : ∃ ww, ww = znew w_58 (199, a_60, []) 160 := ⟨_, rfl⟩
  obtain ⟨a_67, ha_68⟩ : ∃ ww, ww = w_58.2.1 := ⟨_, rfl⟩
  have q_69 : w_65.2.1 = w_58.2.1 + 1 ∧ w_65.2.2 = w_58.2.2 + 160 := by rw [hw_66]; exact ⟨rfl, rfl⟩
  have h_70 : w_65.1 a_67 = some (199, a_60, []) := by rw [hw_66, ha_68]; exact znew_at
  have h_71 : w_65.1 a_60 = some (9, 0, [zI 0, zN, zI 0]) := by
    rw [hw_66]; exact znew_to (ok_64 _ _ h_63) h_63
  obtain ⟨w_72, hw_73⟩ : ∃ ww, ww = zput w_65 a_60 (137, r, tTb 2 160 []) := ⟨_, rfl⟩
  have q_74 : w_72.2.1 = w_65.2.1 ∧ w_72.2.2 = w_65.2.2 := by rw [hw_73]; exact ⟨rfl, rfl⟩
  have h_75 : w_72.1 a_60 = some (137, r, tTb 2 160 []) := by rw [hw_73]; exact zput_at
  refine zx_ic (b := a_60) (As := [zI 2, zI 80]) (st := [zR a_60, zR r]) (w1 := w_72) dX8_init_44 zc_X8_17 rfl (Nat.le_of_ble_eq_true rfl) rfl (by rw [hw_73]; (try rw [ha_68]); rw [hw_66]; exact (c_X9_init (c := 2) (rm := 80) 137 r h_63 (by decide) (by decide) (by decide) (by decide) (by decide) (by omega) (by omega))) ?_
  have h_76 : w_58.1 r = some (8, 0, [zN, zR a_8, zR a_34, zN, zI 0, zI 0, zI 0, zI 0, zI 0, zI 0]) := by
    rw [hw_59]; exact znew_to (ok_57 _ _ h_56) h_56
  have h_77 : w_65.1 r = some (8, 0, [zN, zR a_8, zR a_34, zN, zI 0, zI 0, zI 0, zI 0, zI 0, zI 0]) := by
    rw [hw_66]; exact znew_to (ok_64 _ _ h_76) h_76
  have h_78 : w_72.1 r = some (8, 0, [zN, zR a_8, zR a_34, zN, zI 0, zI 0, zI 0, zI 0, zI 0, zI 0]) := by
    rw [hw_73]; exact zput_tg h_71 h_77 (by simp)
  obtain ⟨w_79, hw_80⟩ : ∃ ww, ww = zput w_72 r (8, 0, [zN, zR a_8, zR a_34, zR a_60, zI 0, zI 0, zI 0, zI 0, zI 0, zI 0]) := ⟨_, rfl⟩
  refine zx_put (w1 := w_79) dX8_init_47 zf_X8_27 h_78 (Nat.le_of_ble_eq_true rfl) (zFt_obj _ _) (fun _ => ⟨rfl, fun q h => by cases h; rfl⟩) hw_80.symm ?_
  have q_81 : w_79.2.1 = w_72.2.1 ∧ w_79.2.2 = w_72.2.2 := by rw [hw_80]; exact ⟨rfl, rfl⟩
  have h_82 : w_79.1 r = some (8, 0, [zN, zR a_8, zR a_34, zR a_60, zI 0, zI 0, zI 0, zI 0, zI 0, zI 0]) := by rw [hw_80]; exact zput_at
  refine zx_aload_n (i := 0) dX8_init_50 rfl rfl ?_
  refine zx_bipush (v := 101) dX8_init_51 (by decide +kernel) (z32_lit (by decide) (by decide)) ?_
  obtain ⟨w_83, hw_84⟩ : ∃ ww, ww = zput w_79 r (8, 0, [zN, zR a_8, zR a_34, zR a_60, zI 0, zI 0, zI 0, zI 101, zI 0, zI 0]) := ⟨_, rfl⟩
  refine zx_put (w1 := w_83) dX8_init_53 zf_X8_30 h_82 (Nat.le_of_ble_eq_true rfl) (zFt_char 101 (by decide)) (fun h => by cases h) hw_84.symm ?_
  have q_85 : w_83.2.1 = w_79.2.1 ∧ w_83.2.2 = w_79.2.2 := by rw [hw_84]; exact ⟨rfl, rfl⟩
  have h_86 : w_83.1 r = some (8, 0, [zN, zR a_8, zR a_34, zR a_60, zI 0, zI 0, zI 0, zI 101, zI 0, zI 0]) := by rw [hw_84]; exact zput_at
  refine zx_return dX8_init_56 rfl ?_
  have h_87 : w_27.1 a_8 = some (135, r, tTb 1 3 []) := by
    rw [hw_28]; exact zput_tg h_26 h_23 (by simp)
  have h_88 : w_32.1 a_8 = some (135, r, tTb 1 3 []) := by
    rw [hw_33]; exact znew_to (ok_31 _ _ h_87) h_87
  have h_89 : w_39.1 a_8 = some (135, r, tTb 1 3 []) := by
    rw [hw_40]; exact znew_to (ok_38 _ _ h_88) h_88
  have h_90 : w_46.1 a_8 = some (135, r, tTb 1 3 []) := by
    rw [hw_47]; exact zput_tg h_45 h_89 (by simp)
  have h_91 : w_53.1 a_8 = some (135, r, tTb 1 3 []) := by
    rw [hw_54]; exact zput_tg h_52 h_90 (by simp)
  have h_92 : w_58.1 a_8 = some (135, r, tTb 1 3 []) := by
    rw [hw_59]; exact znew_to (ok_57 _ _ h_91) h_91
  have h_93 : w_65.1 a_8 = some (135, r, tTb 1 3 []) := by
    rw [hw_66]; exact znew_to (ok_64 _ _ h_92) h_92
  have h_94 : w_72.1 a_8 = some (135, r, tTb 1 3 []) := by
    rw [hw_73]; exact zput_tg h_71 h_93 (by simp)
  have h_95 : w_79.1 a_8 = some (135, r, tTb 1 3 []) := by
    rw [hw_80]; exact zput_tg h_78 h_94 (by simp)
  have h_96 : w_83.1 a_8 = some (135, r, tTb 1 3 []) := by
    rw [hw_84]; exact zput_tg h_82 h_95 (by simp)
  have h_97 : w_53.1 a_34 = some (136, r, tTb 3 150 []) := by
    rw [hw_54]; exact zput_tg h_52 h_49 (by simp)
  have h_98 : w_58.1 a_34 = some (136, r, tTb 3 150 []) := by
    rw [hw_59]; exact znew_to (ok_57 _ _ h_97) h_97
  have h_99 : w_65.1 a_34 = some (136, r, tTb 3 150 []) := by
    rw [hw_66]; exact znew_to (ok_64 _ _ h_98) h_98
  have h_100 : w_72.1 a_34 = some (136, r, tTb 3 150 []) := by
    rw [hw_73]; exact zput_tg h_71 h_99 (by simp)
  have h_101 : w_79.1 a_34 = some (136, r, tTb 3 150 []) := by
    rw [hw_80]; exact zput_tg h_78 h_100 (by simp)
  have h_102 : w_83.1 a_34 = some (136, r, tTb 3 150 []) := by
    rw [hw_84]; exact zput_tg h_82 h_101 (by simp)
  have h_103 : w_79.1 a_60 = some (137, r, tTb 2 160 []) := by
    rw [hw_80]; exact zput_tg h_78 h_75 (by simp)
  have h_104 : w_83.1 a_60 = some (137, r, tTb 2 160 []) := by
    rw [hw_84]; exact zput_tg h_82 h_103 (by simp)
  have hfr : ∀ b ob, b ≠ r → w.1 b = some ob → w_83.1 b = some ob := by
    intro b ob hx_r hb
    have hlt := ok0 b ob hb
    have f_105 : w_1.1 b = some ob := by rw [hw_2]; exact zput_to hx_r hb
    have f_106 : w_6.1 b = some ob := by rw [hw_7, znew_ne (by omega)]; exact f_105
    have f_107 : w_13.1 b = some ob := by rw [hw_14, znew_ne (by omega)]; exact f_106
    have f_108 : w_20.1 b = some ob := by rw [hw_21]; exact zput_to (by omega) f_107
    have f_109 : w_27.1 b = some ob := by rw [hw_28]; exact zput_to hx_r f_108
    have f_110 : w_32.1 b = some ob := by rw [hw_33, znew_ne (by omega)]; exact f_109
    have f_111 : w_39.1 b = some ob := by rw [hw_40, znew_ne (by omega)]; exact f_110
    have f_112 : w_46.1 b = some ob := by rw [hw_47]; exact zput_to (by omega) f_111
    have f_113 : w_53.1 b = some ob := by rw [hw_54]; exact zput_to hx_r f_112
    have f_114 : w_58.1 b = some ob := by rw [hw_59, znew_ne (by omega)]; exact f_113
    have f_115 : w_65.1 b = some ob := by rw [hw_66, znew_ne (by omega)]; exact f_114
    have f_116 : w_72.1 b = some ob := by rw [hw_73]; exact zput_to (by omega) f_115
    have f_117 : w_79.1 b = some ob := by rw [hw_80]; exact zput_to hx_r f_116
    have f_118 : w_83.1 b = some ob := by rw [hw_84]; exact zput_to hx_r f_117
    exact f_118
  have e_a_8 : a_8 = w.2.1 := by omega
  have e_a_34 : a_34 = w.2.1 + 2 := by omega
  have e_a_60 : a_60 = w.2.1 + 4 := by omega
  subst e_a_8 e_a_34 e_a_60
  exact ⟨rfl, ⟨h_86, ⟨h_96, tOk_nil (by decide)⟩, ⟨h_102, tOk_nil (by decide)⟩, ⟨h_104, tOk_nil (by decide)⟩⟩, by omega, by omega, hfr⟩
theorem c_X2_init {f : Nat} (hf : w.1 f = some (2, 0, [zI 0, zN, zN, zN, zI 0, zI 0, zN, zI 0, zN, zI 0])) (r1 : w.2.1 + 1 ≤ G.2.2.2.2.1) (r2 : w.2.2 + 8 ≤ G.2.2.2.2.2) (nu : Int) (mo : Option Nat) : zM G zm_X2_init (d + 1) [zR f, zI nu, zP mo] w (zRet none (zput (znew w (104, f, List.replicate 8 (zI 0)) 8) f (2, 0, [zI nu, zR w.2.1, zP mo, zN, zI 0, zI 0, zN, zI 0, zN, zI 0]))) := by
  refine zx_ent (by decide +kernel) rfl (Nat.le_of_ble_eq_true rfl) ?_
  refine zx_L (L1 := [some (zR f), some (zI nu), some (zP mo)]) rfl ?_
  refine zx_ok (fun ok0 => ?_)
  refine zx_aload_n (i := 0) dX2_init_0 rfl rfl ?_
  refine zx_objInit dX2_init_1 zo_X2_3 zk_oi1 zk_oi2 (Nat.le_of_ble_eq_true rfl) ?_
  refine zx_aload_n (i := 0) dX2_init_4 rfl rfl ?_
  refine zx_iload_n (i := 1) dX2_init_5 rfl rfl ?_
  obtain ⟨w_1, hw_2⟩ : ∃ ww, ww = zput w f (2, 0, [zI nu, zN, zN, zN, zI 0, zI 0, zN, zI 0, zN, zI 0]) := ⟨_, rfl⟩
  refine zx_put (w1 := w_1) dX2_init_6 zf_X2_9 hf (Nat.le_of_ble_eq_true rfl) (zFt_int _) (fun _ => ⟨rfl, fun q h => by cases h; rfl⟩) hw_2.symm ?_
  have h_3 : w_1.1 f = some (2, 0, [zI nu, zN, zN, zN, zI 0, zI 0, zN, zI 0, zN, zI 0]) := by rw [hw_2]; exact zput_at
  refine zx_aload_n (i := 0) dX2_init_9 rfl rfl ?_
  refine zx_aload_n (i := 2) dX2_init_10 rfl rfl ?_
  obtain ⟨w_4, hw_5⟩ : ∃ ww, ww = zput w_1 f (2, 0, [zI nu, zN, zP mo, zN, zI 0, zI 0, zN, zI 0, zN, zI 0]) := ⟨_, rfl⟩
  refine zx_put (w1 := w_4) dX2_init_11 zf_X2_15 h_3 (Nat.le_of_ble_eq_true rfl) (zFt_obj _ _) (fun h => by cases h) hw_5.symm ?_
  have h_6 : w_4.1 f = some (2, 0, [zI nu, zN, zP mo, zN, zI 0, zI 0, zN, zI 0, zN, zI 0]) := by rw [hw_5]; exact zput_at
  refine zx_aload_n (i := 0) dX2_init_14 rfl rfl ?_
  refine zx_bipush (v := 8) dX2_init_15 (by decide +kernel) (z32_lit (by decide) (by decide)) ?_
  refine zx_ok (fun ok_7 => ?_)
  refine zx_newarray (n := 8) 100 dX2_init_17 zk_ints (by decide) rfl (by first | decide | omega) (by simp only [hw_5, hw_2]; exact r1) (by simp only [hw_5, hw_2]; exact r2) ?_
  obtain ⟨w_8, hw_9⟩ : ∃ ww, ww = znew w_4 (100, 0, List.replicate 8 (zI 0)) 8 := ⟨_, rfl⟩
  obtain ⟨a_10, ha_11⟩ : ∃ ww, ww = w_4.2.1 := ⟨_, rfl⟩
  rw [← hw_9, ← ha_11]
  have h_12 : w_8.1 a_10 = some (100, 0, List.replicate 8 (zI 0)) := by rw [hw_9, ha_11]; exact znew_at
  refine zx_pc (pc1 := 19) rfl ?_
  refine zx_own (t' := 104) (ow' := f) h_12 (by decide) (by decide) ?_
  obtain ⟨w_13, hw_14⟩ : ∃ ww, ww = zput w_8 a_10 (104, f, List.replicate 8 (zI 0)) := ⟨_, rfl⟩
  rw [← hw_14]
  have h_15 : w_13.1 a_10 = some (104, f, List.replicate 8 (zI 0)) := by rw [hw_14]; exact zput_at
  have h_16 : w_8.1 f = some (2, 0, [zI nu, zN, zP mo, zN, zI 0, zI 0, zN, zI 0, zN, zI 0]) := by
    rw [hw_9]; exact znew_to (ok_7 _ _ h_6) h_6
  have h_17 : w_13.1 f = some (2, 0, [zI nu, zN, zP mo, zN, zI 0, zI 0, zN, zI 0, zN, zI 0]) := by
    rw [hw_14]; exact zput_tg h_12 h_16 (by simp)
  obtain ⟨w_18, hw_19⟩ : ∃ ww, ww = zput w_13 f (2, 0, [zI nu, zR a_10, zP mo, zN, zI 0, zI 0, zN, zI 0, zN, zI 0]) := ⟨_, rfl⟩
  refine zx_put (w1 := w_18) dX2_init_19 zf_X2_19 h_17 (Nat.le_of_ble_eq_true rfl) (zFt_arr _ _) (fun _ => ⟨rfl, fun q h => by cases h; rfl⟩) hw_19.symm ?_
  have h_20 : w_18.1 f = some (2, 0, [zI nu, zR a_10, zP mo, zN, zI 0, zI 0, zN, zI 0, zN, zI 0]) := by rw [hw_19]; exact zput_at
  refine zx_return dX2_init_22 rfl ?_
  have hk : a_10 = w.2.1 := by simp only [ha_11, hw_9, hw_5, hw_2]; rfl
  exact zr_n (by rw [hw_19, hw_14, hw_9, hw_5, hw_2, hk]; simp only [zput_put]; exact z_gi (Nat.ne_of_lt (ok0 _ _ hf)))
theorem c_X2_begin0 {f va : Nat} {nu bt dp dn cb : Int} {mo ca cl od : Option Nat} {xs : List Int} (hf : w.1 f = some (2, 0, [zI nu, zR va, zP mo, zP ca, zI bt, zI dp, zP cl, zI dn, zP od, zI cb])) (hv : w.1 va = some (104, f, xs.map Sum.inl)) (hx : xs.length = 8) (m : Nat) (place : Int) : zM G zm_X2_begin (d + 1) [zR f, zR m, zN, zI place] w (zRet none (zput (zput w va (104, f, (List.replicate 8 (-1 : Int)).map Sum.inl)) f (2, 0, [zI nu, zR va, zR m, zN, zI place, zI (1), zN, zI 0, zN, zI 0]))) := by
  refine zx_ent (by decide +kernel) rfl (Nat.le_of_ble_eq_true rfl) ?_
  refine zx_L (L1 := [some (zR f), some (zR m), some (zN), some (zI place)]) rfl ?_
  refine zx_aload_n (i := 0) dX2_begin_0 rfl rfl ?_
  refine zx_getfield dX2_begin_1 zf_X2_19 hf rfl ?_
  refine zx_iconst (v := -1) dX2_begin_4 rfl (z32_lit (by decide) (by decide)) ?_
  obtain ⟨w_1, hw_2⟩ : ∃ ww, ww = zput w va (104, f, (List.replicate xs.length (-1)).map Sum.inl) := ⟨_, rfl⟩
  have h_3 : w_1.1 va = some (104, f, (List.replicate xs.length (-1)).map Sum.inl) := by rw [hw_2]; exact zput_at
  refine zx_is (As := [zR va, zI (-1)]) (st := []) (v := none) (w1 := w_1) dX2_begin_5 zc_X2_23 rfl (Nat.le_of_ble_eq_true rfl) rfl (by rw [hw_2]; exact (c_fill2 hv (by decide) (by omega) (-1))) ?_
  refine zx_st (st1 := []) rfl ?_
  refine zx_aload_n (i := 0) dX2_begin_8 rfl rfl ?_
  refine zx_aload_n (i := 1) dX2_begin_9 rfl rfl ?_
  have h_4 : w_1.1 f = some (2, 0, [zI nu, zR va, zP mo, zP ca, zI bt, zI dp, zP cl, zI dn, zP od, zI cb]) := by
    rw [hw_2]; exact zput_tg hv hf (by simp)
  obtain ⟨w_5, hw_6⟩ : ∃ ww, ww = zput w_1 f (2, 0, [zI nu, zR va, zR m, zP ca, zI bt, zI dp, zP cl, zI dn, zP od, zI cb]) := ⟨_, rfl⟩
  refine zx_put (w1 := w_5) dX2_begin_10 zf_X2_15 h_4 (Nat.le_of_ble_eq_true rfl) (zFt_obj _ _) (fun h => by cases h) hw_6.symm ?_
  have h_7 : w_5.1 f = some (2, 0, [zI nu, zR va, zR m, zP ca, zI bt, zI dp, zP cl, zI dn, zP od, zI cb]) := by rw [hw_6]; exact zput_at
  refine zx_aload_n (i := 0) dX2_begin_13 rfl rfl ?_
  refine zx_aload_n (i := 2) dX2_begin_14 rfl rfl ?_
  obtain ⟨w_8, hw_9⟩ : ∃ ww, ww = zput w_5 f (2, 0, [zI nu, zR va, zR m, zN, zI bt, zI dp, zP cl, zI dn, zP od, zI cb]) := ⟨_, rfl⟩
  refine zx_put (w1 := w_8) dX2_begin_15 zf_X2_29 h_7 (Nat.le_of_ble_eq_true rfl) (zFt_obj _ _) (fun h => by cases h) hw_9.symm ?_
  have h_10 : w_8.1 f = some (2, 0, [zI nu, zR va, zR m, zN, zI bt, zI dp, zP cl, zI dn, zP od, zI cb]) := by rw [hw_9]; exact zput_at
  refine zx_aload_n (i := 0) dX2_begin_18 rfl rfl ?_
  refine zx_pc (pc1 := 19) rfl ?_
  refine zx_iload_n (i := 3) dX2_begin_19 rfl rfl ?_
  obtain ⟨w_11, hw_12⟩ : ∃ ww, ww = zput w_8 f (2, 0, [zI nu, zR va, zR m, zN, zI place, zI dp, zP cl, zI dn, zP od, zI cb]) := ⟨_, rfl⟩
  refine zx_put (w1 := w_11) dX2_begin_20 zf_X2_33 h_10 (Nat.le_of_ble_eq_true rfl) (zFt_int _) (fun h => by cases h) hw_12.symm ?_
  have h_13 : w_11.1 f = some (2, 0, [zI nu, zR va, zR m, zN, zI place, zI dp, zP cl, zI dn, zP od, zI cb]) := by rw [hw_12]; exact zput_at
  refine zx_aload_n (i := 0) dX2_begin_23 rfl rfl ?_
  refine zx_aload_n (i := 2) dX2_begin_24 rfl rfl ?_
  refine zx_ifnonnull (tgt := 32) dX2_begin_25 (by decide) (fun h => absurd rfl h) (fun _ => ?_)
  refine zx_iconst (v := 1) dX2_begin_28 rfl (z32_lit (by decide) (by decide)) ?_
  refine zx_goto (tgt := 38) dX2_begin_29 (by decide) ?_
  obtain ⟨w_14, hw_15⟩ : ∃ ww, ww = zput w_11 f (2, 0, [zI nu, zR va, zR m, zN, zI place, zI 1, zP cl, zI dn, zP od, zI cb]) := ⟨_, rfl⟩
  refine zx_put (w1 := w_14) dX2_begin_38 zf_X2_36 h_13 (Nat.le_of_ble_eq_true rfl) (zFt_int _) (fun h => by cases h) hw_15.symm ?_
  have h_16 : w_14.1 f = some (2, 0, [zI nu, zR va, zR m, zN, zI place, zI 1, zP cl, zI dn, zP od, zI cb]) := by rw [hw_15]; exact zput_at
  refine zx_aload_n (i := 0) dX2_begin_41 rfl rfl ?_
  refine zx_null dX2_begin_42 ?_
  obtain ⟨w_17, hw_18⟩ : ∃ ww, ww = zput w_14 f (2, 0, [zI nu, zR va, zR m, zN, zI place, zI 1, zN, zI dn, zP od, zI cb]) := ⟨_, rfl⟩
  refine zx_put (w1 := w_17) dX2_begin_43 zf_X2_39 h_16 (Nat.le_of_ble_eq_true rfl) (zFt_obj _ _) (fun h => by cases h) hw_18.symm ?_
  have h_19 : w_17.1 f = some (2, 0, [zI nu, zR va, zR m, zN, zI place, zI 1, zN, zI dn, zP od, zI cb]) := by rw [hw_18]; exact zput_at
  refine zx_aload_n (i := 0) dX2_begin_46 rfl rfl ?_
  refine zx_pc (pc1 := 47) rfl ?_
  refine zx_iconst (v := 0) dX2_begin_47 rfl (z32_lit (by decide) (by decide)) ?_
  obtain ⟨w_20, hw_21⟩ : ∃ ww, ww = zput w_17 f (2, 0, [zI nu, zR va, zR m, zN, zI place, zI 1, zN, zI 0, zP od, zI cb]) := ⟨_, rfl⟩
  refine zx_put (w1 := w_20) dX2_begin_48 zf_X2_43 h_19 (Nat.le_of_ble_eq_true rfl) (zFt_bool (by first | exact Or.inl rfl | exact Or.inr rfl | exact zB_or | assumption)) (fun h => by cases h) hw_21.symm ?_
  have h_22 : w_20.1 f = some (2, 0, [zI nu, zR va, zR m, zN, zI place, zI 1, zN, zI 0, zP od, zI cb]) := by rw [hw_21]; exact zput_at
  refine zx_aload_n (i := 0) dX2_begin_51 rfl rfl ?_
  refine zx_null dX2_begin_52 ?_
  obtain ⟨w_23, hw_24⟩ : ∃ ww, ww = zput w_20 f (2, 0, [zI nu, zR va, zR m, zN, zI place, zI 1, zN, zI 0, zN, zI cb]) := ⟨_, rfl⟩
  refine zx_put (w1 := w_23) dX2_begin_53 zf_X2_47 h_22 (Nat.le_of_ble_eq_true rfl) (zFt_obj _ _) (fun h => by cases h) hw_24.symm ?_
  have h_25 : w_23.1 f = some (2, 0, [zI nu, zR va, zR m, zN, zI place, zI 1, zN, zI 0, zN, zI cb]) := by rw [hw_24]; exact zput_at
  refine zx_aload_n (i := 0) dX2_begin_56 rfl rfl ?_
  refine zx_iconst (v := 0) dX2_begin_57 rfl (z32_lit (by decide) (by decide)) ?_
  obtain ⟨w_26, hw_27⟩ : ∃ ww, ww = zput w_23 f (2, 0, [zI nu, zR va, zR m, zN, zI place, zI 1, zN, zI 0, zN, zI 0]) := ⟨_, rfl⟩
  refine zx_put (w1 := w_26) dX2_begin_58 zf_X2_50 h_25 (Nat.le_of_ble_eq_true rfl) (zFt_int _) (fun h => by cases h) hw_27.symm ?_
  have h_28 : w_26.1 f = some (2, 0, [zI nu, zR va, zR m, zN, zI place, zI 1, zN, zI 0, zN, zI 0]) := by rw [hw_27]; exact zput_at
  refine zx_return dX2_begin_61 rfl ?_
  exact zr_n (by rw [hw_27, hw_24, hw_21, hw_18, hw_15, hw_12, hw_9, hw_6, hw_2]; simp only [zput_put, hx])
theorem c_X2_begin1 {f va : Nat} {nu bt dp dn cb : Int} {mo ca cl od : Option Nat} {xs : List Int} (hf : w.1 f = some (2, 0, [zI nu, zR va, zP mo, zP ca, zI bt, zI dp, zP cl, zI dn, zP od, zI cb])) (hv : w.1 va = some (104, f, xs.map Sum.inl)) (hx : xs.length = 8) {g gva : Nat} {gnu gbt gdp gdn gcb : Int} {gmo gca gcl god : Option Nat} (hg : w.1 g = some (2, 0, [zI gnu, zR gva, zP gmo, zP gca, zI gbt, zI gdp, zP gcl, zI gdn, zP god, zI gcb])) (hfg : g ≠ f) (hdp : 0 ≤ gdp ∧ gdp < 100000) (m : Nat) (place : Int) : zM G zm_X2_begin (d + 1) [zR f, zR m, zR g, zI place] w (zRet none (zput (zput w va (104, f, (List.replicate 8 (-1 : Int)).map Sum.inl)) f (2, 0, [zI nu, zR va, zR m, zR g, zI place, zI (gdp + 1), zN, zI 0, zN, zI 0]))) := by
  refine zx_ent (by decide +kernel) rfl (Nat.le_of_ble_eq_true rfl) ?_
  refine zx_L (L1 := [some (zR f), some (zR m), some (zR g), some (zI place)]) rfl ?_
  refine zx_aload_n (i := 0) dX2_begin_0 rfl rfl ?_
  refine zx_getfield dX2_begin_1 zf_X2_19 hf rfl ?_
  refine zx_iconst (v := -1) dX2_begin_4 rfl (z32_lit (by decide) (by decide)) ?_
  obtain ⟨w_1, hw_2⟩ : ∃ ww, ww = zput w va (104, f, (List.replicate xs.length (-1)).map Sum.inl) := ⟨_, rfl⟩
  have h_3 : w_1.1 va = some (104, f, (List.replicate xs.length (-1)).map Sum.inl) := by rw [hw_2]; exact zput_at
  refine zx_is (As := [zR va, zI (-1)]) (st := []) (v := none) (w1 := w_1) dX2_begin_5 zc_X2_23 rfl (Nat.le_of_ble_eq_true rfl) rfl (by rw [hw_2]; exact (c_fill2 hv (by decide) (by omega) (-1))) ?_
  refine zx_st (st1 := []) rfl ?_
  refine zx_aload_n (i := 0) dX2_begin_8 rfl rfl ?_
  refine zx_aload_n (i := 1) dX2_begin_9 rfl rfl ?_
  have h_4 : w_1.1 f = some (2, 0, [zI nu, zR va, zP mo, zP ca, zI bt, zI dp, zP cl, zI dn, zP od, zI cb]) := by
    rw [hw_2]; exact zput_tg hv hf (by simp)
  obtain ⟨w_5, hw_6⟩ : ∃ ww, ww = zput w_1 f (2, 0, [zI nu, zR va, zR m, zP ca, zI bt, zI dp, zP cl, zI dn, zP od, zI cb]) := ⟨_, rfl⟩
  refine zx_put (w1 := w_5) dX2_begin_10 zf_X2_15 h_4 (Nat.le_of_ble_eq_true rfl) (zFt_obj _ _) (fun h => by cases h) hw_6.symm ?_
  have h_7 : w_5.1 f = some (2, 0, [zI nu, zR va, zR m, zP ca, zI bt, zI dp, zP cl, zI dn, zP od, zI cb]) := by rw [hw_6]; exact zput_at
  refine zx_aload_n (i := 0) dX2_begin_13 rfl rfl ?_
  refine zx_aload_n (i := 2) dX2_begin_14 rfl rfl ?_
  obtain ⟨w_8, hw_9⟩ : ∃ ww, ww = zput w_5 f (2, 0, [zI nu, zR va, zR m, zR g, zI bt, zI dp, zP cl, zI dn, zP od, zI cb]) := ⟨_, rfl⟩
  refine zx_put (w1 := w_8) dX2_begin_15 zf_X2_29 h_7 (Nat.le_of_ble_eq_true rfl) (zFt_obj _ _) (fun h => by cases h) hw_9.symm ?_
  have h_10 : w_8.1 f = some (2, 0, [zI nu, zR va, zR m, zR g, zI bt, zI dp, zP cl, zI dn, zP od, zI cb]) := by rw [hw_9]; exact zput_at
  refine zx_aload_n (i := 0) dX2_begin_18 rfl rfl ?_
  refine zx_pc (pc1 := 19) rfl ?_
  refine zx_iload_n (i := 3) dX2_begin_19 rfl rfl ?_
  obtain ⟨w_11, hw_12⟩ : ∃ ww, ww = zput w_8 f (2, 0, [zI nu, zR va, zR m, zR g, zI place, zI dp, zP cl, zI dn, zP od, zI cb]) := ⟨_, rfl⟩
  refine zx_put (w1 := w_11) dX2_begin_20 zf_X2_33 h_10 (Nat.le_of_ble_eq_true rfl) (zFt_int _) (fun h => by cases h) hw_12.symm ?_
  have h_13 : w_11.1 f = some (2, 0, [zI nu, zR va, zR m, zR g, zI place, zI dp, zP cl, zI dn, zP od, zI cb]) := by rw [hw_12]; exact zput_at
  refine zx_aload_n (i := 0) dX2_begin_23 rfl rfl ?_
  refine zx_aload_n (i := 2) dX2_begin_24 rfl rfl ?_
  refine zx_ifnonnull (tgt := 32) dX2_begin_25 (by decide) (fun _ => ?_) (fun h => by cases h)
  refine zx_aload_n (i := 2) dX2_begin_32 rfl rfl ?_
  have h_14 : w_1.1 g = some (2, 0, [zI gnu, zR gva, zP gmo, zP gca, zI gbt, zI gdp, zP gcl, zI gdn, zP god, zI gcb]) := by
    rw [hw_2]; exact zput_tg hv hg (by simp)
  have h_15 : w_5.1 g = some (2, 0, [zI gnu, zR gva, zP gmo, zP gca, zI gbt, zI gdp, zP gcl, zI gdn, zP god, zI gcb]) := by
    rw [hw_6]; exact zput_to (by first | assumption | exact Ne.symm (by assumption)) h_14
  have h_16 : w_8.1 g = some (2, 0, [zI gnu, zR gva, zP gmo, zP gca, zI gbt, zI gdp, zP gcl, zI gdn, zP god, zI gcb]) := by
    rw [hw_9]; exact zput_to (by first | assumption | exact Ne.symm (by assumption)) h_15
  have h_17 : w_11.1 g = some (2, 0, [zI gnu, zR gva, zP gmo, zP gca, zI gbt, zI gdp, zP gcl, zI gdn, zP god, zI gcb]) := by
    rw [hw_12]; exact zput_to (by first | assumption | exact Ne.symm (by assumption)) h_16
  refine zx_getfield dX2_begin_33 zf_X2_36 h_17 rfl ?_
  refine zx_iconst (v := 1) dX2_begin_36 rfl (z32_lit (by decide) (by decide)) ?_
  refine zx_iadd (v := gdp + 1) dX2_begin_37 (zw_id ⟨by omega, by omega⟩) ?_
  obtain ⟨w_18, hw_19⟩ : ∃ ww, ww = zput w_11 f (2, 0, [zI nu, zR va, zR m, zR g, zI place, zI (gdp + 1), zP cl, zI dn, zP od, zI cb]) := ⟨_, rfl⟩
  refine zx_put (w1 := w_18) dX2_begin_38 zf_X2_36 h_13 (Nat.le_of_ble_eq_true rfl) (zFt_int _) (fun h => by cases h) hw_19.symm ?_
  have h_20 : w_18.1 f = some (2, 0, [zI nu, zR va, zR m, zR g, zI place, zI (gdp + 1), zP cl, zI dn, zP od, zI cb]) := by rw [hw_19]; exact zput_at
  refine zx_aload_n (i := 0) dX2_begin_41 rfl rfl ?_
  refine zx_null dX2_begin_42 ?_
  refine zx_pc (pc1 := 43) rfl ?_
  obtain ⟨w_21, hw_22⟩ : ∃ ww, ww = zput w_18 f (2, 0, [zI nu, zR va, zR m, zR g, zI place, zI (gdp + 1), zN, zI dn, zP od, zI cb]) := ⟨_, rfl⟩
  refine zx_put (w1 := w_21) dX2_begin_43 zf_X2_39 h_20 (Nat.le_of_ble_eq_true rfl) (zFt_obj _ _) (fun h => by cases h) hw_22.symm ?_
  have h_23 : w_21.1 f = some (2, 0, [zI nu, zR va, zR m, zR g, zI place, zI (gdp + 1), zN, zI dn, zP od, zI cb]) := by rw [hw_22]; exact zput_at
  refine zx_aload_n (i := 0) dX2_begin_46 rfl rfl ?_
  refine zx_iconst (v := 0) dX2_begin_47 rfl (z32_lit (by decide) (by decide)) ?_
  obtain ⟨w_24, hw_25⟩ : ∃ ww, ww = zput w_21 f (2, 0, [zI nu, zR va, zR m, zR g, zI place, zI (gdp + 1), zN, zI 0, zP od, zI cb]) := ⟨_, rfl⟩
  refine zx_put (w1 := w_24) dX2_begin_48 zf_X2_43 h_23 (Nat.le_of_ble_eq_true rfl) (zFt_bool (by first | exact Or.inl rfl | exact Or.inr rfl | exact zB_or | assumption)) (fun h => by cases h) hw_25.symm ?_
  have h_26 : w_24.1 f = some (2, 0, [zI nu, zR va, zR m, zR g, zI place, zI (gdp + 1), zN, zI 0, zP od, zI cb]) := by rw [hw_25]; exact zput_at
  refine zx_aload_n (i := 0) dX2_begin_51 rfl rfl ?_
  refine zx_null dX2_begin_52 ?_
  obtain ⟨w_27, hw_28⟩ : ∃ ww, ww = zput w_24 f (2, 0, [zI nu, zR va, zR m, zR g, zI place, zI (gdp + 1), zN, zI 0, zN, zI cb]) := ⟨_, rfl⟩
  refine zx_put (w1 := w_27) dX2_begin_53 zf_X2_47 h_26 (Nat.le_of_ble_eq_true rfl) (zFt_obj _ _) (fun h => by cases h) hw_28.symm ?_
  have h_29 : w_27.1 f = some (2, 0, [zI nu, zR va, zR m, zR g, zI place, zI (gdp + 1), zN, zI 0, zN, zI cb]) := by rw [hw_28]; exact zput_at
  refine zx_aload_n (i := 0) dX2_begin_56 rfl rfl ?_
  refine zx_iconst (v := 0) dX2_begin_57 rfl (z32_lit (by decide) (by decide)) ?_
  obtain ⟨w_30, hw_31⟩ : ∃ ww, ww = zput w_27 f (2, 0, [zI nu, zR va, zR m, zR g, zI place, zI (gdp + 1), zN, zI 0, zN, zI 0]) := ⟨_, rfl⟩
  refine zx_put (w1 := w_30) dX2_begin_58 zf_X2_50 h_29 (Nat.le_of_ble_eq_true rfl) (zFt_int _) (fun h => by cases h) hw_31.symm ?_
  have h_32 : w_30.1 f = some (2, 0, [zI nu, zR va, zR m, zR g, zI place, zI (gdp + 1), zN, zI 0, zN, zI 0]) := by rw [hw_31]; exact zput_at
  refine zx_return dX2_begin_61 rfl ?_
  exact zr_n (by rw [hw_31, hw_28, hw_25, hw_22, hw_19, hw_12, hw_9, hw_6, hw_2]; simp only [zput_put, hx])
end CREP
