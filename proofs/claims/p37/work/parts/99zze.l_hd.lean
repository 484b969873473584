/-! Own rows: the handlers of the law's call. By hand. -/
theorem zl_L_e : ∀ j, j < 6 → Cond.classLink "ModedMillLaw" (112 + 2 * j) (zXn j) ∈ zWS
  | 0, _ => zin 4 8 rfl rfl
  | 1, _ => zin 4 11 rfl rfl
  | 2, _ => zin 4 12 rfl rfl
  | 3, _ => zin 4 13 rfl rfl
  | 4, _ => zin 4 14 rfl rfl
  | 5, _ => zin 4 15 rfl rfl
  | n + 6, h => absurd h (by omega)
theorem zt_ca {own : String} {i ik ic : Nat} (h : zTI own i ik ic) (hm : Cond.castable (zXn i) (zXn i) ∈ (vx_at0 own ic (zXn i) ["java/lang/RuntimeException", "java/lang/Exception"]).filter (fun x => !goodWord x)) : Cond.castable (zXn i) (zXn i) ∈ lw_tbl := (h.2.2.2.2.1 _ hm).1
theorem zca_e : ∀ j, j < 5 → Cond.castable (zXn j) (zXn j) ∈ lw_tbl
  | 0, _ => zt_ca zt_X11_80_82 (by decide +kernel)
  | 1, _ => zt_ca zt_X11_83_85 (by decide +kernel)
  | 2, _ => zt_ca zt_X11_67_69 (by decide +kernel)
  | 3, _ => zt_ca zt_X11_255_257 (by decide +kernel)
  | 4, _ => zt_ca zt_X11_117_119 (by decide +kernel)
  | n + 5, h => absurd h (by omega)
theorem hd_mk {pc i k : Nat} {x : ExceptionTableEntry} (hi : i < 5) (h1 : (tableOf zhh_L_call)[k]? = some x) (h2 : covers x pc = true) (h3 : x.catchType = 112 + 2 * i) (h4 : x.handlerPc = 383 + 6 * i) (h5 : ((tableOf zhh_L_call).take k).all (fun z => !covers z pc || (z.catchType % 2 == 0 && (Nat.ble 112 z.catchType && (Nat.ble z.catchType 122 && z.catchType != 112 + 2 * i)))) = true) : zHd "ModedMillLaw" (tableOf zhh_L_call) pc i (383 + 6 * i) := by
  obtain ⟨hk, ek⟩ := List.getElem?_eq_some_iff.mp h1
  refine ⟨(tableOf zhh_L_call).take k, (tableOf zhh_L_call).drop (k + 1), x, ?_, h2, by omega, h4, by rw [h3]; exact zl_L_e i (by omega), zca_e i hi, fun z hz => ?_⟩
  · rw [← ek, ← List.drop_eq_getElem_cons hk, List.take_append_drop]
  · have q := List.all_eq_true.mp h5 z hz
    cases hc : covers z pc with
    | false => exact Or.inl rfl
    | true =>
      right
      rw [hc] at q
      simp only [Bool.not_true, Bool.false_or, Bool.and_eq_true, beq_iff_eq, bne_iff_ne, Nat.ble_eq] at q
      obtain ⟨a1, a2, a3, a4⟩ := q
      have e : z.catchType = 112 + 2 * ((z.catchType - 112) / 2) := by omega
      exact ⟨by omega, (z.catchType - 112) / 2, by omega, by omega, by rw [e] ; exact (by rw [← e]; have := zl_L_e ((z.catchType - 112) / 2) (by omega); rw [← e] at this; exact this)⟩
theorem hd_L_133_2 : zHd "ModedMillLaw" (tableOf zhh_L_call) 133 2 395 := hd_mk (i := 2) (k := 60) (by decide) rfl (by decide +kernel) rfl rfl (by decide +kernel)
