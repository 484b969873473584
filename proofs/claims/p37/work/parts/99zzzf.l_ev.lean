/-! Own rows: the law's events. Printed by wip/p37/m_law.py. -/
abbrev zm_L_law : zMd := (yL_law, cL_law, 17, (some .boolean), [])
theorem lt8 {n x : Int} (hn : n ≤ 8) (h : 0 ≤ x ∧ x < n) : 0 ≤ x ∧ x < 8 := by omega
theorem cl_c {u v : Int} (hu : 0 ≤ u ∧ u < 4) (hv : 0 ≤ v ∧ v < 4) : (0 ≤ zdiv (64 * u + 8 * v) 64 ∧ zdiv (64 * u + 8 * v) 64 < 8) ∧ (0 ≤ zrem (zdiv (64 * u + 8 * v) 8) 8 ∧ zrem (zdiv (64 * u + 8 * v) 8) 8 < 8) ∧ (0 ≤ zrem (64 * u + 8 * v) 8 ∧ zrem (64 * u + 8 * v) 8 < 8) := by
  rcases (show u = 0 ∨ u = 1 ∨ u = 2 ∨ u = 3 by omega) with e | e | e | e <;> rcases (show v = 0 ∨ v = 1 ∨ v = 2 ∨ v = 3 by omega) with e2 | e2 | e2 | e2 <;> subst e <;> subst e2 <;> decide +kernel
theorem lwI_p5 {e : Nat} {S : whS} (h : lwI e S) : S.2.2.1.2.2.1.1.length ≤ 5 := h.2.2.1.1.2.2.2.2.2.2.2.1.2
/-- behind an event: what is asked of the way on -/
def evK (X : State → Prop) (G : zG) (d : Nat) (av : List zV) (w0 : zW) (Q : zQ) (sa o : Nat) (ei was : Int) (S : whS) (e k1 k2 : Nat) : Prop := ∀ (S' : whS) (pn' ic' got : Int) (w' : zW), whW w' o (k1 + 26000) (k2 + 3000) S' → lwI (e + 1) S' → pn' = (S'.2.2.1.2.2.1.1.length : Int) → ic' = S'.2.2.2.1.1 → (0 ≤ got ∨ S' = S) → zXp X G zm_L_law (d + 15) av w0 Q 928 [some (zR sa), some (zR o), some (zI pn'), some (zI ic'), some (zI ei), none, none, none, none, none, some (zJ was), none, some (zI got), none, none, none, none] [] w'
section LEV
variable {X : State → Prop} {G : zG} {d : Nat} {av : List zV} {w0 : zW} {Q : zQ} {w : zW} {sa o k1 k2 e : Nat} {S : whS} {pn ic ei g h p cl srt was : Int}
theorem ev_0 (hI : lwI e S) (he : e ≤ 60) (hst0 : G.1.stackTraces = false) (hW : whW w o k1 k2 S) (hk : k1 + 30000 + 6000000 ≤ 60 * G.2.2.2.2.1 ∧ k2 + 3400 + 6830000 ≤ G.2.2.2.2.2) (hpn : pn = (S.2.2.1.2.2.1.1.length : Int)) (hic : ic = S.2.2.2.1.1) (hs : srt = 0) (kk : evK X G d av w0 Q sa o ei was S e k1 k2) : zXp X G zm_L_law (d + 15) av w0 Q 270 [some (zR sa), some (zR o), some (zI pn), some (zI ic), some (zI ei), some (zI g), some (zI h), some (zI p), some (zI cl), some (zI srt), some (zJ was), none, some (zI 0), none, none, none, none] [] w := by
  have hp5 := (lwI_p5 hI)
  have ht := whW_tm hW
  have ht3 := hI.2.1
  have hc01 := hI.2.2.2.1
  refine zp_iload (i := 9) dL_law_270 rfl ?_
  refine zp_if_ne (tgt := 331) dL_law_272 (by decide) (fun h272 => absurd h272 (by omega)) (fun h272 => ?_)
  refine zp_aload_n (i := 1) dL_law_275 rfl rfl ?_
  refine zp_iconst (v := 5) dL_law_276 rfl (z32_lit (by decide) (by decide)) ?_
  refine zp_iload (i := 6) dL_law_277 rfl ?_
  refine zp_iconst (v := 5) dL_law_279 rfl (z32_lit (by decide) (by decide)) ?_
  refine zp_is6 (As := [zI h, zI 5]) (st := [zI 5, zR o]) (v := some (zI (zrem (zand h 2147483647) 5))) (w1 := w) dL_law_280 zc_L_142 rfl (Nat.le_of_ble_eq_true rfl) rfl (c_L_low (d := d + 14) (by decide)) ?_
  refine zp_st (st1 := [zI (zrem (zand h 2147483647) 5), zI 5, zR o]) rfl ?_
  refine zp_if_ne (tgt := 290) dL_law_283 (by decide) (fun h283 => ?_) (fun h283 => ?_)
  · refine zp_iconst (v := 0) dL_law_290 rfl (z32_lit (by decide) (by decide)) ?_
    refine zp_iload (i := 6) dL_law_291 rfl ?_
    refine zp_iconst (v := 2) dL_law_293 rfl (z32_lit (by decide) (by decide)) ?_
    refine zp_ishr (v := zshr h 2) dL_law_294 rfl ?_
    refine zp_iconst (v := 3) dL_law_295 rfl (z32_lit (by decide) (by decide)) ?_
    refine zp_is6 (As := [zI (zshr h 2), zI 3]) (st := [zI 0, zI 5, zR o]) (v := some (zI (zrem (zand (zshr h 2) 2147483647) 3))) (w1 := w) dL_law_296 zc_L_142 rfl (Nat.le_of_ble_eq_true rfl) rfl (c_L_low (d := d + 14) (by decide)) ?_
    refine zp_st (st1 := [zI (zrem (zand (zshr h 2) 2147483647) 3), zI 0, zI 5, zR o]) rfl ?_
    refine zp_if_ne (tgt := 306) dL_law_299 (by decide) (fun h299 => ?_) (fun h299 => ?_)
    · refine zp_iconst (v := 0) dL_law_306 rfl (z32_lit (by decide) (by decide)) ?_
      refine zp_iconst (v := -1) dL_law_307 rfl (z32_lit (by decide) (by decide)) ?_
      refine zp_iconst (v := 0) dL_law_308 rfl (z32_lit (by decide) (by decide)) ?_
      refine zp_iconst (v := 0) dL_law_309 rfl (z32_lit (by decide) (by decide)) ?_
      refine zp_cl (d' := d + 14) (o := o) rfl dL_law_310 (Nat.le_of_ble_eq_true rfl) rfl (k_ap hW hI hst0 ⟨by omega, by omega⟩ (by decide) (by decide)) (fun r_1 S_2 w_3 q_4 hW_5 s_6 => ?_)
      rcases bd_st hI q_4 with ⟨hI_10, ⟨g_7, g_8, g_9⟩ | ⟨g_7, g_8⟩⟩
      · refine zp_pc (pc1 := 313) rfl ?_
        refine zp_istore (i := 12) dL_law_313 (by decide) rfl ?_
        refine zp_L (L1 := [some (zR sa), some (zR o), some (zI pn), some (zI ic), some (zI ei), some (zI g), some (zI h), some (zI p), some (zI cl), some (zI srt), some (zJ was), none, some (zI (rvN r_1)), none, none, none, none]) rfl ?_
        refine zp_iload_n (i := 2) dL_law_315 rfl rfl ?_
        refine zp_iload (i := 12) dL_law_316 rfl ?_
        refine zp_if_lt (tgt := 325) dL_law_318 (by decide) (fun h318 => absurd h318 (by omega)) (fun h318 => ?_)
        refine zp_iconst (v := 1) dL_law_321 rfl (z32_lit (by decide) (by decide)) ?_
        refine zp_goto (tgt := 326) dL_law_322 (by decide) ?_
        refine zp_iadd (v := pn + 1) dL_law_326 (zw_id ⟨by omega, by omega⟩) ?_
        refine zp_istore_n (i := 2) dL_law_327 rfl (by decide) rfl ?_
        refine zp_L (L1 := [some (zR sa), some (zR o), some (zI (pn + 1)), some (zI ic), some (zI ei), some (zI g), some (zI h), some (zI p), some (zI cl), some (zI srt), some (zJ was), none, some (zI (rvN r_1)), none, none, none, none]) rfl ?_
        refine zp_goto (tgt := 928) dL_law_328 (by decide) ?_
        refine zp_Lw (L1 := [some (zR sa), some (zR o), some (zI (pn + 1)), some (zI ic), some (zI ei), none, none, none, none, none, some (zJ was), none, some (zI (rvN r_1)), none, none, none, none]) ⟨Or.inr rfl, Or.inr rfl, Or.inr rfl, Or.inr rfl, Or.inr rfl, Or.inl rfl, Or.inl rfl, Or.inl rfl, Or.inl rfl, Or.inl rfl, Or.inr rfl, Or.inr rfl, Or.inr rfl, Or.inr rfl, Or.inr rfl, Or.inr rfl, Or.inr rfl, trivial⟩ ?_
        exact kk S_2 _ _ _ w_3 (whW_le hW_5 (by omega) (by omega)) hI_10 (by omega) (by omega) (Or.inl (by omega))
      · rw [g_8] at hW_5 hI_10
        refine zp_pc (pc1 := 313) rfl ?_
        refine zp_istore (i := 12) dL_law_313 (by decide) rfl ?_
        refine zp_L (L1 := [some (zR sa), some (zR o), some (zI pn), some (zI ic), some (zI ei), some (zI g), some (zI h), some (zI p), some (zI cl), some (zI srt), some (zJ was), none, some (zI (rvN r_1)), none, none, none, none]) rfl ?_
        refine zp_iload_n (i := 2) dL_law_315 rfl rfl ?_
        refine zp_iload (i := 12) dL_law_316 rfl ?_
        refine zp_if_lt (tgt := 325) dL_law_318 (by decide) (fun h318 => ?_) (fun h318 => absurd (by omega) h318)
        refine zp_iconst (v := 0) dL_law_325 rfl (z32_lit (by decide) (by decide)) ?_
        refine zp_iadd (v := pn + 0) dL_law_326 (zw_id ⟨by omega, by omega⟩) ?_
        refine zp_istore_n (i := 2) dL_law_327 rfl (by decide) rfl ?_
        refine zp_L (L1 := [some (zR sa), some (zR o), some (zI (pn + 0)), some (zI ic), some (zI ei), some (zI g), some (zI h), some (zI p), some (zI cl), some (zI srt), some (zJ was), none, some (zI (rvN r_1)), none, none, none, none]) rfl ?_
        refine zp_goto (tgt := 928) dL_law_328 (by decide) ?_
        refine zp_Lw (L1 := [some (zR sa), some (zR o), some (zI (pn + 0)), some (zI ic), some (zI ei), none, none, none, none, none, some (zJ was), none, some (zI (rvN r_1)), none, none, none, none]) ⟨Or.inr rfl, Or.inr rfl, Or.inr rfl, Or.inr rfl, Or.inr rfl, Or.inl rfl, Or.inl rfl, Or.inl rfl, Or.inl rfl, Or.inl rfl, Or.inr rfl, Or.inr rfl, Or.inr rfl, Or.inr rfl, Or.inr rfl, Or.inr rfl, Or.inr rfl, trivial⟩ ?_
        exact kk S _ _ _ w_3 (whW_le hW_5 (by omega) (by omega)) hI_10 (by omega) (by omega) (Or.inr rfl)
    · refine zp_iconst (v := -1) dL_law_302 rfl (z32_lit (by decide) (by decide)) ?_
      refine zp_goto (tgt := 307) dL_law_303 (by decide) ?_
      refine zp_iconst (v := -1) dL_law_307 rfl (z32_lit (by decide) (by decide)) ?_
      refine zp_iconst (v := 0) dL_law_308 rfl (z32_lit (by decide) (by decide)) ?_
      refine zp_iconst (v := 0) dL_law_309 rfl (z32_lit (by decide) (by decide)) ?_
      refine zp_cl (d' := d + 14) (o := o) rfl dL_law_310 (Nat.le_of_ble_eq_true rfl) rfl (k_ap hW hI hst0 ⟨by omega, by omega⟩ (by decide) (by decide)) (fun r_11 S_12 w_13 q_14 hW_15 s_16 => ?_)
      rcases bd_st hI q_14 with ⟨hI_20, ⟨g_17, g_18, g_19⟩ | ⟨g_17, g_18⟩⟩
      · refine zp_pc (pc1 := 313) rfl ?_
        refine zp_istore (i := 12) dL_law_313 (by decide) rfl ?_
        refine zp_L (L1 := [some (zR sa), some (zR o), some (zI pn), some (zI ic), some (zI ei), some (zI g), some (zI h), some (zI p), some (zI cl), some (zI srt), some (zJ was), none, some (zI (rvN r_11)), none, none, none, none]) rfl ?_
        refine zp_iload_n (i := 2) dL_law_315 rfl rfl ?_
        refine zp_iload (i := 12) dL_law_316 rfl ?_
        refine zp_if_lt (tgt := 325) dL_law_318 (by decide) (fun h318 => absurd h318 (by omega)) (fun h318 => ?_)
        refine zp_iconst (v := 1) dL_law_321 rfl (z32_lit (by decide) (by decide)) ?_
        refine zp_goto (tgt := 326) dL_law_322 (by decide) ?_
        refine zp_iadd (v := pn + 1) dL_law_326 (zw_id ⟨by omega, by omega⟩) ?_
        refine zp_istore_n (i := 2) dL_law_327 rfl (by decide) rfl ?_
        refine zp_L (L1 := [some (zR sa), some (zR o), some (zI (pn + 1)), some (zI ic), some (zI ei), some (zI g), some (zI h), some (zI p), some (zI cl), some (zI srt), some (zJ was), none, some (zI (rvN r_11)), none, none, none, none]) rfl ?_
        refine zp_goto (tgt := 928) dL_law_328 (by decide) ?_
        refine zp_Lw (L1 := [some (zR sa), some (zR o), some (zI (pn + 1)), some (zI ic), some (zI ei), none, none, none, none, none, some (zJ was), none, some (zI (rvN r_11)), none, none, none, none]) ⟨Or.inr rfl, Or.inr rfl, Or.inr rfl, Or.inr rfl, Or.inr rfl, Or.inl rfl, Or.inl rfl, Or.inl rfl, Or.inl rfl, Or.inl rfl, Or.inr rfl, Or.inr rfl, Or.inr rfl, Or.inr rfl, Or.inr rfl, Or.inr rfl, Or.inr rfl, trivial⟩ ?_
        exact kk S_12 _ _ _ w_13 (whW_le hW_15 (by omega) (by omega)) hI_20 (by omega) (by omega) (Or.inl (by omega))
      · rw [g_18] at hW_15 hI_20
        refine zp_pc (pc1 := 313) rfl ?_
        refine zp_istore (i := 12) dL_law_313 (by decide) rfl ?_
        refine zp_L (L1 := [some (zR sa), some (zR o), some (zI pn), some (zI ic), some (zI ei), some (zI g), some (zI h), some (zI p), some (zI cl), some (zI srt), some (zJ was), none, some (zI (rvN r_11)), none, none, none, none]) rfl ?_
        refine zp_iload_n (i := 2) dL_law_315 rfl rfl ?_
        refine zp_iload (i := 12) dL_law_316 rfl ?_
        refine zp_if_lt (tgt := 325) dL_law_318 (by decide) (fun h318 => ?_) (fun h318 => absurd (by omega) h318)
        refine zp_iconst (v := 0) dL_law_325 rfl (z32_lit (by decide) (by decide)) ?_
        refine zp_iadd (v := pn + 0) dL_law_326 (zw_id ⟨by omega, by omega⟩) ?_
        refine zp_istore_n (i := 2) dL_law_327 rfl (by decide) rfl ?_
        refine zp_L (L1 := [some (zR sa), some (zR o), some (zI (pn + 0)), some (zI ic), some (zI ei), some (zI g), some (zI h), some (zI p), some (zI cl), some (zI srt), some (zJ was), none, some (zI (rvN r_11)), none, none, none, none]) rfl ?_
        refine zp_goto (tgt := 928) dL_law_328 (by decide) ?_
        refine zp_Lw (L1 := [some (zR sa), some (zR o), some (zI (pn + 0)), some (zI ic), some (zI ei), none, none, none, none, none, some (zJ was), none, some (zI (rvN r_11)), none, none, none, none]) ⟨Or.inr rfl, Or.inr rfl, Or.inr rfl, Or.inr rfl, Or.inr rfl, Or.inl rfl, Or.inl rfl, Or.inl rfl, Or.inl rfl, Or.inl rfl, Or.inr rfl, Or.inr rfl, Or.inr rfl, Or.inr rfl, Or.inr rfl, Or.inr rfl, Or.inr rfl, trivial⟩ ?_
        exact kk S _ _ _ w_13 (whW_le hW_15 (by omega) (by omega)) hI_20 (by omega) (by omega) (Or.inr rfl)
  · refine zp_iconst (v := -1) dL_law_286 rfl (z32_lit (by decide) (by decide)) ?_
    refine zp_goto (tgt := 291) dL_law_287 (by decide) ?_
    refine zp_iload (i := 6) dL_law_291 rfl ?_
    refine zp_iconst (v := 2) dL_law_293 rfl (z32_lit (by decide) (by decide)) ?_
    refine zp_ishr (v := zshr h 2) dL_law_294 rfl ?_
    refine zp_iconst (v := 3) dL_law_295 rfl (z32_lit (by decide) (by decide)) ?_
    refine zp_is6 (As := [zI (zshr h 2), zI 3]) (st := [zI (-1), zI 5, zR o]) (v := some (zI (zrem (zand (zshr h 2) 2147483647) 3))) (w1 := w) dL_law_296 zc_L_142 rfl (Nat.le_of_ble_eq_true rfl) rfl (c_L_low (d := d + 14) (by decide)) ?_
    refine zp_st (st1 := [zI (zrem (zand (zshr h 2) 2147483647) 3), zI (-1), zI 5, zR o]) rfl ?_
    refine zp_if_ne (tgt := 306) dL_law_299 (by decide) (fun h299 => ?_) (fun h299 => ?_)
    · refine zp_iconst (v := 0) dL_law_306 rfl (z32_lit (by decide) (by decide)) ?_
      refine zp_iconst (v := -1) dL_law_307 rfl (z32_lit (by decide) (by decide)) ?_
      refine zp_iconst (v := 0) dL_law_308 rfl (z32_lit (by decide) (by decide)) ?_
      refine zp_iconst (v := 0) dL_law_309 rfl (z32_lit (by decide) (by decide)) ?_
      refine zp_cl (d' := d + 14) (o := o) rfl dL_law_310 (Nat.le_of_ble_eq_true rfl) rfl (k_ap hW hI hst0 ⟨by omega, by omega⟩ (by decide) (by decide)) (fun r_21 S_22 w_23 q_24 hW_25 s_26 => ?_)
      rcases bd_st hI q_24 with ⟨hI_30, ⟨g_27, g_28, g_29⟩ | ⟨g_27, g_28⟩⟩
      · refine zp_pc (pc1 := 313) rfl ?_
        refine zp_istore (i := 12) dL_law_313 (by decide) rfl ?_
        refine zp_L (L1 := [some (zR sa), some (zR o), some (zI pn), some (zI ic), some (zI ei), some (zI g), some (zI h), some (zI p), some (zI cl), some (zI srt), some (zJ was), none, some (zI (rvN r_21)), none, none, none, none]) rfl ?_
        refine zp_iload_n (i := 2) dL_law_315 rfl rfl ?_
        refine zp_iload (i := 12) dL_law_316 rfl ?_
        refine zp_if_lt (tgt := 325) dL_law_318 (by decide) (fun h318 => absurd h318 (by omega)) (fun h318 => ?_)
        refine zp_iconst (v := 1) dL_law_321 rfl (z32_lit (by decide) (by decide)) ?_
        refine zp_goto (tgt := 326) dL_law_322 (by decide) ?_
        refine zp_iadd (v := pn + 1) dL_law_326 (zw_id ⟨by omega, by omega⟩) ?_
        refine zp_istore_n (i := 2) dL_law_327 rfl (by decide) rfl ?_
        refine zp_L (L1 := [some (zR sa), some (zR o), some (zI (pn + 1)), some (zI ic), some (zI ei), some (zI g), some (zI h), some (zI p), some (zI cl), some (zI srt), some (zJ was), none, some (zI (rvN r_21)), none, none, none, none]) rfl ?_
        refine zp_goto (tgt := 928) dL_law_328 (by decide) ?_
        refine zp_Lw (L1 := [some (zR sa), some (zR o), some (zI (pn + 1)), some (zI ic), some (zI ei), none, none, none, none, none, some (zJ was), none, some (zI (rvN r_21)), none, none, none, none]) ⟨Or.inr rfl, Or.inr rfl, Or.inr rfl, Or.inr rfl, Or.inr rfl, Or.inl rfl, Or.inl rfl, Or.inl rfl, Or.inl rfl, Or.inl rfl, Or.inr rfl, Or.inr rfl, Or.inr rfl, Or.inr rfl, Or.inr rfl, Or.inr rfl, Or.inr rfl, trivial⟩ ?_
        exact kk S_22 _ _ _ w_23 (whW_le hW_25 (by omega) (by omega)) hI_30 (by omega) (by omega) (Or.inl (by omega))
      · rw [g_28] at hW_25 hI_30
        refine zp_pc (pc1 := 313) rfl ?_
        refine zp_istore (i := 12) dL_law_313 (by decide) rfl ?_
        refine zp_L (L1 := [some (zR sa), some (zR o), some (zI pn), some (zI ic), some (zI ei), some (zI g), some (zI h), some (zI p), some (zI cl), some (zI srt), some (zJ was), none, some (zI (rvN r_21)), none, none, none, none]) rfl ?_
        refine zp_iload_n (i := 2) dL_law_315 rfl rfl ?_
        refine zp_iload (i := 12) dL_law_316 rfl ?_
        refine zp_if_lt (tgt := 325) dL_law_318 (by decide) (fun h318 => ?_) (fun h318 => absurd (by omega) h318)
        refine zp_iconst (v := 0) dL_law_325 rfl (z32_lit (by decide) (by decide)) ?_
        refine zp_iadd (v := pn + 0) dL_law_326 (zw_id ⟨by omega, by omega⟩) ?_
        refine zp_istore_n (i := 2) dL_law_327 rfl (by decide) rfl ?_
        refine zp_L (L1 := [some (zR sa), some (zR o), some (zI (pn + 0)), some (zI ic), some (zI ei), some (zI g), some (zI h), some (zI p), some (zI cl), some (zI srt), some (zJ was), none, some (zI (rvN r_21)), none, none, none, none]) rfl ?_
        refine zp_goto (tgt := 928) dL_law_328 (by decide) ?_
        refine zp_Lw (L1 := [some (zR sa), some (zR o), some (zI (pn + 0)), some (zI ic), some (zI ei), none, none, none, none, none, some (zJ was), none, some (zI (rvN r_21)), none, none, none, none]) ⟨Or.inr rfl, Or.inr rfl, Or.inr rfl, Or.inr rfl, Or.inr rfl, Or.inl rfl, Or.inl rfl, Or.inl rfl, Or.inl rfl, Or.inl rfl, Or.inr rfl, Or.inr rfl, Or.inr rfl, Or.inr rfl, Or.inr rfl, Or.inr rfl, Or.inr rfl, trivial⟩ ?_
        exact kk S _ _ _ w_23 (whW_le hW_25 (by omega) (by omega)) hI_30 (by omega) (by omega) (Or.inr rfl)
    · refine zp_iconst (v := -1) dL_law_302 rfl (z32_lit (by decide) (by decide)) ?_
      refine zp_goto (tgt := 307) dL_law_303 (by decide) ?_
      refine zp_iconst (v := -1) dL_law_307 rfl (z32_lit (by decide) (by decide)) ?_
      refine zp_iconst (v := 0) dL_law_308 rfl (z32_lit (by decide) (by decide)) ?_
      refine zp_iconst (v := 0) dL_law_309 rfl (z32_lit (by decide) (by decide)) ?_
      refine zp_cl (d' := d + 14) (o := o) rfl dL_law_310 (Nat.le_of_ble_eq_true rfl) rfl (k_ap hW hI hst0 ⟨by omega, by omega⟩ (by decide) (by decide)) (fun r_31 S_32 w_33 q_34 hW_35 s_36 => ?_)
      rcases bd_st hI q_34 with ⟨hI_40, ⟨g_37, g_38, g_39⟩ | ⟨g_37, g_38⟩⟩
      · refine zp_pc (pc1 := 313) rfl ?_
        refine zp_istore (i := 12) dL_law_313 (by decide) rfl ?_
        refine zp_L (L1 := [some (zR sa), some (zR o), some (zI pn), some (zI ic), some (zI ei), some (zI g), some (zI h), some (zI p), some (zI cl), some (zI srt), some (zJ was), none, some (zI (rvN r_31)), none, none, none, none]) rfl ?_
        refine zp_iload_n (i := 2) dL_law_315 rfl rfl ?_
        refine zp_iload (i := 12) dL_law_316 rfl ?_
        refine zp_if_lt (tgt := 325) dL_law_318 (by decide) (fun h318 => absurd h318 (by omega)) (fun h318 => ?_)
        refine zp_iconst (v := 1) dL_law_321 rfl (z32_lit (by decide) (by decide)) ?_
        refine zp_goto (tgt := 326) dL_law_322 (by decide) ?_
        refine zp_iadd (v := pn + 1) dL_law_326 (zw_id ⟨by omega, by omega⟩) ?_
        refine zp_istore_n (i := 2) dL_law_327 rfl (by decide) rfl ?_
        refine zp_L (L1 := [some (zR sa), some (zR o), some (zI (pn + 1)), some (zI ic), some (zI ei), some (zI g), some (zI h), some (zI p), some (zI cl), some (zI srt), some (zJ was), none, some (zI (rvN r_31)), none, none, none, none]) rfl ?_
        refine zp_goto (tgt := 928) dL_law_328 (by decide) ?_
        refine zp_Lw (L1 := [some (zR sa), some (zR o), some (zI (pn + 1)), some (zI ic), some (zI ei), none, none, none, none, none, some (zJ was), none, some (zI (rvN r_31)), none, none, none, none]) ⟨Or.inr rfl, Or.inr rfl, Or.inr rfl, Or.inr rfl, Or.inr rfl, Or.inl rfl, Or.inl rfl, Or.inl rfl, Or.inl rfl, Or.inl rfl, Or.inr rfl, Or.inr rfl, Or.inr rfl, Or.inr rfl, Or.inr rfl, Or.inr rfl, Or.inr rfl, trivial⟩ ?_
        exact kk S_32 _ _ _ w_33 (whW_le hW_35 (by omega) (by omega)) hI_40 (by omega) (by omega) (Or.inl (by omega))
      · rw [g_38] at hW_35 hI_40
        refine zp_pc (pc1 := 313) rfl ?_
        refine zp_istore (i := 12) dL_law_313 (by decide) rfl ?_
        refine zp_L (L1 := [some (zR sa), some (zR o), some (zI pn), some (zI ic), some (zI ei), some (zI g), some (zI h), some (zI p), some (zI cl), some (zI srt), some (zJ was), none, some (zI (rvN r_31)), none, none, none, none]) rfl ?_
        refine zp_iload_n (i := 2) dL_law_315 rfl rfl ?_
        refine zp_iload (i := 12) dL_law_316 rfl ?_
        refine zp_if_lt (tgt := 325) dL_law_318 (by decide) (fun h318 => ?_) (fun h318 => absurd (by omega) h318)
        refine zp_iconst (v := 0) dL_law_325 rfl (z32_lit (by decide) (by decide)) ?_
        refine zp_iadd (v := pn + 0) dL_law_326 (zw_id ⟨by omega, by omega⟩) ?_
        refine zp_istore_n (i := 2) dL_law_327 rfl (by decide) rfl ?_
        refine zp_L (L1 := [some (zR sa), some (zR o), some (zI (pn + 0)), some (zI ic), some (zI ei), some (zI g), some (zI h), some (zI p), some (zI cl), some (zI srt), some (zJ was), none, some (zI (rvN r_31)), none, none, none, none]) rfl ?_
        refine zp_goto (tgt := 928) dL_law_328 (by decide) ?_
        refine zp_Lw (L1 := [some (zR sa), some (zR o), some (zI (pn + 0)), some (zI ic), some (zI ei), none, none, none, none, none, some (zJ was), none, some (zI (rvN r_31)), none, none, none, none]) ⟨Or.inr rfl, Or.inr rfl, Or.inr rfl, Or.inr rfl, Or.inr rfl, Or.inl rfl, Or.inl rfl, Or.inl rfl, Or.inl rfl, Or.inl rfl, Or.inr rfl, Or.inr rfl, Or.inr rfl, Or.inr rfl, Or.inr rfl, Or.inr rfl, Or.inr rfl, trivial⟩ ?_
        exact kk S _ _ _ w_33 (whW_le hW_35 (by omega) (by omega)) hI_40 (by omega) (by omega) (Or.inr rfl)
theorem ev_1 (hI : lwI e S) (he : e ≤ 60) (hst0 : G.1.stackTraces = false) (hW : whW w o k1 k2 S) (hk : k1 + 30000 + 6000000 ≤ 60 * G.2.2.2.2.1 ∧ k2 + 3400 + 6830000 ≤ G.2.2.2.2.2) (hpn : pn = (S.2.2.1.2.2.1.1.length : Int)) (hic : ic = S.2.2.2.1.1) (hs : 0 < srt ∧ srt < 3) (kk : evK X G d av w0 Q sa o ei was S e k1 k2) : zXp X G zm_L_law (d + 15) av w0 Q 270 [some (zR sa), some (zR o), some (zI pn), some (zI ic), some (zI ei), some (zI g), some (zI h), some (zI p), some (zI cl), some (zI srt), some (zJ was), none, some (zI 0), none, none, none, none] [] w := by
  have hp5 := (lwI_p5 hI)
  have ht := whW_tm hW
  have ht3 := hI.2.1
  have hc01 := hI.2.2.2.1
  refine zp_iload (i := 9) dL_law_270 rfl ?_
  refine zp_if_ne (tgt := 331) dL_law_272 (by decide) (fun h272 => ?_) (fun h272 => absurd (by omega) h272)
  refine zp_iload (i := 9) dL_law_331 rfl ?_
  refine zp_iconst (v := 3) dL_law_333 rfl (z32_lit (by decide) (by decide)) ?_
  refine zp_icmp_ge (tgt := 393) dL_law_334 (by decide) (fun h334 => absurd h334 (by omega)) (fun h334 => ?_)
  refine zp_aload_n (i := 1) dL_law_337 rfl rfl ?_
  refine zp_bipush (v := 6) dL_law_338 (by decide +kernel) (z32_lit (by decide) (by decide)) ?_
  refine zp_iload (i := 7) dL_law_340 rfl ?_
  refine zp_iload (i := 6) dL_law_342 rfl ?_
  refine zp_iconst (v := 4) dL_law_344 rfl (z32_lit (by decide) (by decide)) ?_
  refine zp_is6 (As := [zI h, zI 4]) (st := [zI p, zI 6, zR o]) (v := some (zI (zrem (zand h 2147483647) 4))) (w1 := w) dL_law_345 zc_L_142 rfl (Nat.le_of_ble_eq_true rfl) rfl (c_L_low (d := d + 14) (by decide)) ?_
  refine zp_st (st1 := [zI (zrem (zand h 2147483647) 4), zI p, zI 6, zR o]) rfl ?_
  refine zp_pc (pc1 := 348) rfl ?_
  refine zp_iload (i := 6) dL_law_348 rfl ?_
  refine zp_iconst (v := 3) dL_law_350 rfl (z32_lit (by decide) (by decide)) ?_
  refine zp_ishr (v := zshr h 3) dL_law_351 rfl ?_
  refine zp_iconst (v := 3) dL_law_352 rfl (z32_lit (by decide) (by decide)) ?_
  refine zp_is6 (As := [zI (zshr h 3), zI 3]) (st := [zI (zrem (zand h 2147483647) 4), zI p, zI 6, zR o]) (v := some (zI (zrem (zand (zshr h 3) 2147483647) 3))) (w1 := w) dL_law_353 zc_L_142 rfl (Nat.le_of_ble_eq_true rfl) rfl (c_L_low (d := d + 14) (by decide)) ?_
  refine zp_st (st1 := [zI (zrem (zand (zshr h 3) 2147483647) 3), zI (zrem (zand h 2147483647) 4), zI p, zI 6, zR o]) rfl ?_
  refine zp_if_ne (tgt := 364) dL_law_356 (by decide) (fun h356 => ?_) (fun h356 => ?_)
  · refine zp_iload (i := 6) dL_law_364 rfl ?_
    refine zp_iconst (v := 3) dL_law_366 rfl (z32_lit (by decide) (by decide)) ?_
    refine zp_ishr (v := zshr h 3) dL_law_367 rfl ?_
    refine zp_iconst (v := 3) dL_law_368 rfl (z32_lit (by decide) (by decide)) ?_
    refine zp_is6 (As := [zI (zshr h 3), zI 3]) (st := [zI (zrem (zand h 2147483647) 4), zI p, zI 6, zR o]) (v := some (zI (zrem (zand (zshr h 3) 2147483647) 3))) (w1 := w) dL_law_369 zc_L_142 rfl (Nat.le_of_ble_eq_true rfl) rfl (c_L_low (d := d + 14) (by decide)) ?_
    refine zp_st (st1 := [zI (zrem (zand (zshr h 3) 2147483647) 3), zI (zrem (zand h 2147483647) 4), zI p, zI 6, zR o]) rfl ?_
    refine zp_iconst (v := 1) dL_law_372 rfl (z32_lit (by decide) (by decide)) ?_
    refine zp_icmp_ne (tgt := 381) dL_law_373 (by decide) (fun h373 => ?_) (fun h373 => ?_)
    · refine zp_bipush (v := 110) dL_law_381 (by decide +kernel) (z32_lit (by decide) (by decide)) ?_
      refine zp_iconst (v := 0) dL_law_383 rfl (z32_lit (by decide) (by decide)) ?_
      refine zp_iconst (v := 0) dL_law_384 rfl (z32_lit (by decide) (by decide)) ?_
      refine zp_cl (d' := d + 14) (o := o) rfl dL_law_385 (Nat.le_of_ble_eq_true rfl) rfl (k_am (pm := 110) hW hI hst0 ⟨by omega, by omega⟩ (by decide)) (fun r_1 S_2 w_3 q_4 hW_5 s_6 => ?_)
      rcases bd_st hI q_4 with ⟨hI_10, ⟨g_7, g_8, g_9⟩ | ⟨g_7, g_8⟩⟩
      · refine zp_pc (pc1 := 388) rfl ?_
        refine zp_istore (i := 12) dL_law_388 (by decide) rfl ?_
        refine zp_L (L1 := [some (zR sa), some (zR o), some (zI pn), some (zI ic), some (zI ei), some (zI g), some (zI h), some (zI p), some (zI cl), some (zI srt), some (zJ was), none, some (zI (rvN r_1)), none, none, none, none]) rfl ?_
        refine zp_goto (tgt := 928) dL_law_390 (by decide) ?_
        refine zp_Lw (L1 := [some (zR sa), some (zR o), some (zI pn), some (zI ic), some (zI ei), none, none, none, none, none, some (zJ was), none, some (zI (rvN r_1)), none, none, none, none]) ⟨Or.inr rfl, Or.inr rfl, Or.inr rfl, Or.inr rfl, Or.inr rfl, Or.inl rfl, Or.inl rfl, Or.inl rfl, Or.inl rfl, Or.inl rfl, Or.inr rfl, Or.inr rfl, Or.inr rfl, Or.inr rfl, Or.inr rfl, Or.inr rfl, Or.inr rfl, trivial⟩ ?_
        exact kk S_2 _ _ _ w_3 (whW_le hW_5 (by omega) (by omega)) hI_10 (by omega) (by omega) (Or.inl (by omega))
      · rw [g_8] at hW_5 hI_10
        refine zp_pc (pc1 := 388) rfl ?_
        refine zp_istore (i := 12) dL_law_388 (by decide) rfl ?_
        refine zp_L (L1 := [some (zR sa), some (zR o), some (zI pn), some (zI ic), some (zI ei), some (zI g), some (zI h), some (zI p), some (zI cl), some (zI srt), some (zJ was), none, some (zI (rvN r_1)), none, none, none, none]) rfl ?_
        refine zp_goto (tgt := 928) dL_law_390 (by decide) ?_
        refine zp_Lw (L1 := [some (zR sa), some (zR o), some (zI pn), some (zI ic), some (zI ei), none, none, none, none, none, some (zJ was), none, some (zI (rvN r_1)), none, none, none, none]) ⟨Or.inr rfl, Or.inr rfl, Or.inr rfl, Or.inr rfl, Or.inr rfl, Or.inl rfl, Or.inl rfl, Or.inl rfl, Or.inl rfl, Or.inl rfl, Or.inr rfl, Or.inr rfl, Or.inr rfl, Or.inr rfl, Or.inr rfl, Or.inr rfl, Or.inr rfl, trivial⟩ ?_
        exact kk S _ _ _ w_3 (whW_le hW_5 (by omega) (by omega)) hI_10 (by omega) (by omega) (Or.inr rfl)
    · refine zp_bipush (v := 115) dL_law_376 (by decide +kernel) (z32_lit (by decide) (by decide)) ?_
      refine zp_goto (tgt := 383) dL_law_378 (by decide) ?_
      refine zp_iconst (v := 0) dL_law_383 rfl (z32_lit (by decide) (by decide)) ?_
      refine zp_iconst (v := 0) dL_law_384 rfl (z32_lit (by decide) (by decide)) ?_
      refine zp_cl (d' := d + 14) (o := o) rfl dL_law_385 (Nat.le_of_ble_eq_true rfl) rfl (k_am (pm := 115) hW hI hst0 ⟨by omega, by omega⟩ (by decide)) (fun r_11 S_12 w_13 q_14 hW_15 s_16 => ?_)
      rcases bd_st hI q_14 with ⟨hI_20, ⟨g_17, g_18, g_19⟩ | ⟨g_17, g_18⟩⟩
      · refine zp_pc (pc1 := 388) rfl ?_
        refine zp_istore (i := 12) dL_law_388 (by decide) rfl ?_
        refine zp_L (L1 := [some (zR sa), some (zR o), some (zI pn), some (zI ic), some (zI ei), some (zI g), some (zI h), some (zI p), some (zI cl), some (zI srt), some (zJ was), none, some (zI (rvN r_11)), none, none, none, none]) rfl ?_
        refine zp_goto (tgt := 928) dL_law_390 (by decide) ?_
        refine zp_Lw (L1 := [some (zR sa), some (zR o), some (zI pn), some (zI ic), some (zI ei), none, none, none, none, none, some (zJ was), none, some (zI (rvN r_11)), none, none, none, none]) ⟨Or.inr rfl, Or.inr rfl, Or.inr rfl, Or.inr rfl, Or.inr rfl, Or.inl rfl, Or.inl rfl, Or.inl rfl, Or.inl rfl, Or.inl rfl, Or.inr rfl, Or.inr rfl, Or.inr rfl, Or.inr rfl, Or.inr rfl, Or.inr rfl, Or.inr rfl, trivial⟩ ?_
        exact kk S_12 _ _ _ w_13 (whW_le hW_15 (by omega) (by omega)) hI_20 (by omega) (by omega) (Or.inl (by omega))
      · rw [g_18] at hW_15 hI_20
        refine zp_pc (pc1 := 388) rfl ?_
        refine zp_istore (i := 12) dL_law_388 (by decide) rfl ?_
        refine zp_L (L1 := [some (zR sa), some (zR o), some (zI pn), some (zI ic), some (zI ei), some (zI g), some (zI h), some (zI p), some (zI cl), some (zI srt), some (zJ was), none, some (zI (rvN r_11)), none, none, none, none]) rfl ?_
        refine zp_goto (tgt := 928) dL_law_390 (by decide) ?_
        refine zp_Lw (L1 := [some (zR sa), some (zR o), some (zI pn), some (zI ic), some (zI ei), none, none, none, none, none, some (zJ was), none, some (zI (rvN r_11)), none, none, none, none]) ⟨Or.inr rfl, Or.inr rfl, Or.inr rfl, Or.inr rfl, Or.inr rfl, Or.inl rfl, Or.inl rfl, Or.inl rfl, Or.inl rfl, Or.inl rfl, Or.inr rfl, Or.inr rfl, Or.inr rfl, Or.inr rfl, Or.inr rfl, Or.inr rfl, Or.inr rfl, trivial⟩ ?_
        exact kk S _ _ _ w_13 (whW_le hW_15 (by omega) (by omega)) hI_20 (by omega) (by omega) (Or.inr rfl)
  · refine zp_bipush (v := 100) dL_law_359 (by decide +kernel) (z32_lit (by decide) (by decide)) ?_
    refine zp_goto (tgt := 383) dL_law_361 (by decide) ?_
    refine zp_iconst (v := 0) dL_law_383 rfl (z32_lit (by decide) (by decide)) ?_
    refine zp_iconst (v := 0) dL_law_384 rfl (z32_lit (by decide) (by decide)) ?_
    refine zp_cl (d' := d + 14) (o := o) rfl dL_law_385 (Nat.le_of_ble_eq_true rfl) rfl (k_am (pm := 100) hW hI hst0 ⟨by omega, by omega⟩ (by decide)) (fun r_21 S_22 w_23 q_24 hW_25 s_26 => ?_)
    rcases bd_st hI q_24 with ⟨hI_30, ⟨g_27, g_28, g_29⟩ | ⟨g_27, g_28⟩⟩
    · refine zp_pc (pc1 := 388) rfl ?_
      refine zp_istore (i := 12) dL_law_388 (by decide) rfl ?_
      refine zp_L (L1 := [some (zR sa), some (zR o), some (zI pn), some (zI ic), some (zI ei), some (zI g), some (zI h), some (zI p), some (zI cl), some (zI srt), some (zJ was), none, some (zI (rvN r_21)), none, none, none, none]) rfl ?_
      refine zp_goto (tgt := 928) dL_law_390 (by decide) ?_
      refine zp_Lw (L1 := [some (zR sa), some (zR o), some (zI pn), some (zI ic), some (zI ei), none, none, none, none, none, some (zJ was), none, some (zI (rvN r_21)), none, none, none, none]) ⟨Or.inr rfl, Or.inr rfl, Or.inr rfl, Or.inr rfl, Or.inr rfl, Or.inl rfl, Or.inl rfl, Or.inl rfl, Or.inl rfl, Or.inl rfl, Or.inr rfl, Or.inr rfl, Or.inr rfl, Or.inr rfl, Or.inr rfl, Or.inr rfl, Or.inr rfl, trivial⟩ ?_
      exact kk S_22 _ _ _ w_23 (whW_le hW_25 (by omega) (by omega)) hI_30 (by omega) (by omega) (Or.inl (by omega))
    · rw [g_28] at hW_25 hI_30
      refine zp_pc (pc1 := 388) rfl ?_
      refine zp_istore (i := 12) dL_law_388 (by decide) rfl ?_
      refine zp_L (L1 := [some (zR sa), some (zR o), some (zI pn), some (zI ic), some (zI ei), some (zI g), some (zI h), some (zI p), some (zI cl), some (zI srt), some (zJ was), none, some (zI (rvN r_21)), none, none, none, none]) rfl ?_
      refine zp_goto (tgt := 928) dL_law_390 (by decide) ?_
      refine zp_Lw (L1 := [some (zR sa), some (zR o), some (zI pn), some (zI ic), some (zI ei), none, none, none, none, none, some (zJ was), none, some (zI (rvN r_21)), none, none, none, none]) ⟨Or.inr rfl, Or.inr rfl, Or.inr rfl, Or.inr rfl, Or.inr rfl, Or.inl rfl, Or.inl rfl, Or.inl rfl, Or.inl rfl, Or.inl rfl, Or.inr rfl, Or.inr rfl, Or.inr rfl, Or.inr rfl, Or.inr rfl, Or.inr rfl, Or.inr rfl, trivial⟩ ?_
      exact kk S _ _ _ w_23 (whW_le hW_25 (by omega) (by omega)) hI_30 (by omega) (by omega) (Or.inr rfl)
theorem ev_3 (hI : lwI e S) (he : e ≤ 60) (hst0 : G.1.stackTraces = false) (hW : whW w o k1 k2 S) (hk : k1 + 30000 + 6000000 ≤ 60 * G.2.2.2.2.1 ∧ k2 + 3400 + 6830000 ≤ G.2.2.2.2.2) (hpn : pn = (S.2.2.1.2.2.1.1.length : Int)) (hic : ic = S.2.2.2.1.1) (hs : srt = 3) (kk : evK X G d av w0 Q sa o ei was S e k1 k2) : zXp X G zm_L_law (d + 15) av w0 Q 270 [some (zR sa), some (zR o), some (zI pn), some (zI ic), some (zI ei), some (zI g), some (zI h), some (zI p), some (zI cl), some (zI srt), some (zJ was), none, some (zI 0), none, none, none, none] [] w := by
  have hp5 := (lwI_p5 hI)
  have ht := whW_tm hW
  have ht3 := hI.2.1
  have hc01 := hI.2.2.2.1
  refine zp_iload (i := 9) dL_law_270 rfl ?_
  refine zp_if_ne (tgt := 331) dL_law_272 (by decide) (fun h272 => ?_) (fun h272 => absurd (by omega) h272)
  refine zp_iload (i := 9) dL_law_331 rfl ?_
  refine zp_iconst (v := 3) dL_law_333 rfl (z32_lit (by decide) (by decide)) ?_
  refine zp_icmp_ge (tgt := 393) dL_law_334 (by decide) (fun h334 => ?_) (fun h334 => absurd (by omega) h334)
  refine zp_iload (i := 9) dL_law_393 rfl ?_
  refine zp_iconst (v := 3) dL_law_395 rfl (z32_lit (by decide) (by decide)) ?_
  refine zp_icmp_ne (tgt := 416) dL_law_396 (by decide) (fun h396 => absurd h396 (by omega)) (fun h396 => ?_)
  refine zp_aload_n (i := 1) dL_law_399 rfl rfl ?_
  refine zp_bipush (v := 7) dL_law_400 (by decide +kernel) (z32_lit (by decide) (by decide)) ?_
  refine zp_iload (i := 7) dL_law_402 rfl ?_
  refine zp_pc (pc1 := 404) rfl ?_
  refine zp_iconst (v := 0) dL_law_404 rfl (z32_lit (by decide) (by decide)) ?_
  refine zp_iconst (v := 0) dL_law_405 rfl (z32_lit (by decide) (by decide)) ?_
  refine zp_iconst (v := 0) dL_law_406 rfl (z32_lit (by decide) (by decide)) ?_
  refine zp_iconst (v := 0) dL_law_407 rfl (z32_lit (by decide) (by decide)) ?_
  refine zp_cl (d' := d + 14) (o := o) rfl dL_law_408 (Nat.le_of_ble_eq_true rfl) rfl (k_al hW hI hst0 ⟨by omega, by omega⟩) (fun r_1 S_2 w_3 q_4 hW_5 s_6 => ?_)
  rcases bd_st hI q_4 with ⟨hI_10, ⟨g_7, g_8, g_9⟩ | ⟨g_7, g_8⟩⟩
  · refine zp_pc (pc1 := 411) rfl ?_
    refine zp_istore (i := 12) dL_law_411 (by decide) rfl ?_
    refine zp_L (L1 := [some (zR sa), some (zR o), some (zI pn), some (zI ic), some (zI ei), some (zI g), some (zI h), some (zI p), some (zI cl), some (zI srt), some (zJ was), none, some (zI (rvN r_1)), none, none, none, none]) rfl ?_
    refine zp_goto (tgt := 928) dL_law_413 (by decide) ?_
    refine zp_Lw (L1 := [some (zR sa), some (zR o), some (zI pn), some (zI ic), some (zI ei), none, none, none, none, none, some (zJ was), none, some (zI (rvN r_1)), none, none, none, none]) ⟨Or.inr rfl, Or.inr rfl, Or.inr rfl, Or.inr rfl, Or.inr rfl, Or.inl rfl, Or.inl rfl, Or.inl rfl, Or.inl rfl, Or.inl rfl, Or.inr rfl, Or.inr rfl, Or.inr rfl, Or.inr rfl, Or.inr rfl, Or.inr rfl, Or.inr rfl, trivial⟩ ?_
    exact kk S_2 _ _ _ w_3 (whW_le hW_5 (by omega) (by omega)) hI_10 (by omega) (by omega) (Or.inl (by omega))
  · rw [g_8] at hW_5 hI_10
    refine zp_pc (pc1 := 411) rfl ?_
    refine zp_istore (i := 12) dL_law_411 (by decide) rfl ?_
    refine zp_L (L1 := [some (zR sa), some (zR o), some (zI pn), some (zI ic), some (zI ei), some (zI g), some (zI h), some (zI p), some (zI cl), some (zI srt), some (zJ was), none, some (zI (rvN r_1)), none, none, none, none]) rfl ?_
    refine zp_goto (tgt := 928) dL_law_413 (by decide) ?_
    refine zp_Lw (L1 := [some (zR sa), some (zR o), some (zI pn), some (zI ic), some (zI ei), none, none, none, none, none, some (zJ was), none, some (zI (rvN r_1)), none, none, none, none]) ⟨Or.inr rfl, Or.inr rfl, Or.inr rfl, Or.inr rfl, Or.inr rfl, Or.inl rfl, Or.inl rfl, Or.inl rfl, Or.inl rfl, Or.inl rfl, Or.inr rfl, Or.inr rfl, Or.inr rfl, Or.inr rfl, Or.inr rfl, Or.inr rfl, Or.inr rfl, trivial⟩ ?_
    exact kk S _ _ _ w_3 (whW_le hW_5 (by omega) (by omega)) hI_10 (by omega) (by omega) (Or.inr rfl)
theorem ev_4 (hI : lwI e S) (he : e ≤ 60) (hst0 : G.1.stackTraces = false) (hW : whW w o k1 k2 S) (hk : k1 + 30000 + 6000000 ≤ 60 * G.2.2.2.2.1 ∧ k2 + 3400 + 6830000 ≤ G.2.2.2.2.2) (hpn : pn = (S.2.2.1.2.2.1.1.length : Int)) (hic : ic = S.2.2.2.1.1) (hs : 3 < srt ∧ srt < 7) (kk : evK X G d av w0 Q sa o ei was S e k1 k2) : zXp X G zm_L_law (d + 15) av w0 Q 270 [some (zR sa), some (zR o), some (zI pn), some (zI ic), some (zI ei), some (zI g), some (zI h), some (zI p), some (zI cl), some (zI srt), some (zJ was), none, some (zI 0), none, none, none, none] [] w := by
  have hp5 := (lwI_p5 hI)
  have ht := whW_tm hW
  have ht3 := hI.2.1
  have hc01 := hI.2.2.2.1
  refine zp_iload (i := 9) dL_law_270 rfl ?_
  refine zp_if_ne (tgt := 331) dL_law_272 (by decide) (fun h272 => ?_) (fun h272 => absurd (by omega) h272)
  refine zp_iload (i := 9) dL_law_331 rfl ?_
  refine zp_iconst (v := 3) dL_law_333 rfl (z32_lit (by decide) (by decide)) ?_
  refine zp_icmp_ge (tgt := 393) dL_law_334 (by decide) (fun h334 => ?_) (fun h334 => absurd (by omega) h334)
  refine zp_iload (i := 9) dL_law_393 rfl ?_
  refine zp_iconst (v := 3) dL_law_395 rfl (z32_lit (by decide) (by decide)) ?_
  refine zp_icmp_ne (tgt := 416) dL_law_396 (by decide) (fun h396 => ?_) (fun h396 => absurd (by omega) h396)
  refine zp_iload (i := 9) dL_law_416 rfl ?_
  refine zp_bipush (v := 7) dL_law_418 (by decide +kernel) (z32_lit (by decide) (by decide)) ?_
  refine zp_icmp_ge (tgt := 474) dL_law_420 (by decide) (fun h420 => absurd h420 (by omega)) (fun h420 => ?_)
  refine zp_pc (pc1 := 423) rfl ?_
  refine zp_iload (i := 6) dL_law_423 rfl ?_
  refine zp_iconst (v := 3) dL_law_425 rfl (z32_lit (by decide) (by decide)) ?_
  refine zp_is6 (As := [zI h, zI 3]) (st := []) (v := some (zI (zrem (zand h 2147483647) 3))) (w1 := w) dL_law_426 zc_L_142 rfl (Nat.le_of_ble_eq_true rfl) rfl (c_L_low (d := d + 14) (by decide)) ?_
  refine zp_st (st1 := [zI (zrem (zand h 2147483647) 3)]) rfl ?_
  refine zp_istore (i := 13) dL_law_429 (by decide) rfl ?_
  refine zp_L (L1 := [some (zR sa), some (zR o), some (zI pn), some (zI ic), some (zI ei), some (zI g), some (zI h), some (zI p), some (zI cl), some (zI srt), some (zJ was), none, some (zI 0), some (zI (zrem (zand h 2147483647) 3)), none, none, none]) rfl ?_
  refine zp_aload_n (i := 1) dL_law_431 rfl rfl ?_
  refine zp_bipush (v := 8) dL_law_432 (by decide +kernel) (z32_lit (by decide) (by decide)) ?_
  refine zp_iload (i := 8) dL_law_434 rfl ?_
  refine zp_iload (i := 6) dL_law_436 rfl ?_
  refine zp_iconst (v := 3) dL_law_438 rfl (z32_lit (by decide) (by decide)) ?_
  refine zp_ishr (v := zshr h 3) dL_law_439 rfl ?_
  refine zp_iconst (v := 4) dL_law_440 rfl (z32_lit (by decide) (by decide)) ?_
  refine zp_is6 (As := [zI (zshr h 3), zI 4]) (st := [zI cl, zI 8, zR o]) (v := some (zI (zrem (zand (zshr h 3) 2147483647) 4))) (w1 := w) dL_law_441 zc_L_142 rfl (Nat.le_of_ble_eq_true rfl) rfl (c_L_low (d := d + 14) (by decide)) ?_
  refine zp_st (st1 := [zI (zrem (zand (zshr h 3) 2147483647) 4), zI cl, zI 8, zR o]) rfl ?_
  refine zp_pc (pc1 := 444) rfl ?_
  refine zp_iload (i := 13) dL_law_444 rfl ?_
  refine zp_iload (i := 13) dL_law_446 rfl ?_
  refine zp_iconst (v := 1) dL_law_448 rfl (z32_lit (by decide) (by decide)) ?_
  refine zp_icmp_ne (tgt := 464) dL_law_449 (by decide) (fun h449 => ?_) (fun h449 => ?_)
  · refine zp_iconst (v := 0) dL_law_464 rfl (z32_lit (by decide) (by decide)) ?_
    refine zp_iconst (v := 0) dL_law_465 rfl (z32_lit (by decide) (by decide)) ?_
    refine zp_cl (d' := d + 14) (o := o) rfl dL_law_466 (Nat.le_of_ble_eq_true rfl) rfl (k_ab hW hI hst0 ⟨by omega, by omega⟩ (lt8 (by decide) (zlow_r (by decide) (by decide))) (zlow_r (by decide) (by decide)) (by decide) (by decide)) (fun r_1 S_2 w_3 q_4 hW_5 s_6 => ?_)
    rcases bd_st hI q_4 with ⟨hI_10, ⟨g_7, g_8, g_9⟩ | ⟨g_7, g_8⟩⟩
    · refine zp_pc (pc1 := 469) rfl ?_
      refine zp_istore (i := 12) dL_law_469 (by decide) rfl ?_
      refine zp_L (L1 := [some (zR sa), some (zR o), some (zI pn), some (zI ic), some (zI ei), some (zI g), some (zI h), some (zI p), some (zI cl), some (zI srt), some (zJ was), none, some (zI (rvN r_1)), some (zI (zrem (zand h 2147483647) 3)), none, none, none]) rfl ?_
      refine zp_goto (tgt := 928) dL_law_471 (by decide) ?_
      refine zp_Lw (L1 := [some (zR sa), some (zR o), some (zI pn), some (zI ic), some (zI ei), none, none, none, none, none, some (zJ was), none, some (zI (rvN r_1)), none, none, none, none]) ⟨Or.inr rfl, Or.inr rfl, Or.inr rfl, Or.inr rfl, Or.inr rfl, Or.inl rfl, Or.inl rfl, Or.inl rfl, Or.inl rfl, Or.inl rfl, Or.inr rfl, Or.inr rfl, Or.inr rfl, Or.inl rfl, Or.inr rfl, Or.inr rfl, Or.inr rfl, trivial⟩ ?_
      exact kk S_2 _ _ _ w_3 (whW_le hW_5 (by omega) (by omega)) hI_10 (by omega) (by omega) (Or.inl (by omega))
    · rw [g_8] at hW_5 hI_10
      refine zp_pc (pc1 := 469) rfl ?_
      refine zp_istore (i := 12) dL_law_469 (by decide) rfl ?_
      refine zp_L (L1 := [some (zR sa), some (zR o), some (zI pn), some (zI ic), some (zI ei), some (zI g), some (zI h), some (zI p), some (zI cl), some (zI srt), some (zJ was), none, some (zI (rvN r_1)), some (zI (zrem (zand h 2147483647) 3)), none, none, none]) rfl ?_
      refine zp_goto (tgt := 928) dL_law_471 (by decide) ?_
      refine zp_Lw (L1 := [some (zR sa), some (zR o), some (zI pn), some (zI ic), some (zI ei), none, none, none, none, none, some (zJ was), none, some (zI (rvN r_1)), none, none, none, none]) ⟨Or.inr rfl, Or.inr rfl, Or.inr rfl, Or.inr rfl, Or.inr rfl, Or.inl rfl, Or.inl rfl, Or.inl rfl, Or.inl rfl, Or.inl rfl, Or.inr rfl, Or.inr rfl, Or.inr rfl, Or.inl rfl, Or.inr rfl, Or.inr rfl, Or.inr rfl, trivial⟩ ?_
      exact kk S _ _ _ w_3 (whW_le hW_5 (by omega) (by omega)) hI_10 (by omega) (by omega) (Or.inr rfl)
  · refine zp_iload (i := 6) dL_law_452 rfl ?_
    refine zp_bipush (v := 6) dL_law_454 (by decide +kernel) (z32_lit (by decide) (by decide)) ?_
    refine zp_ishr (v := zshr h 6) dL_law_456 rfl ?_
    refine zp_iconst (v := 4) dL_law_457 rfl (z32_lit (by decide) (by decide)) ?_
    refine zp_is6 (As := [zI (zshr h 6), zI 4]) (st := [zI (zrem (zand h 2147483647) 3), zI (zrem (zand (zshr h 3) 2147483647) 4), zI cl, zI 8, zR o]) (v := some (zI (zrem (zand (zshr h 6) 2147483647) 4))) (w1 := w) dL_law_458 zc_L_142 rfl (Nat.le_of_ble_eq_true rfl) rfl (c_L_low (d := d + 14) (by decide)) ?_
    refine zp_st (st1 := [zI (zrem (zand (zshr h 6) 2147483647) 4), zI (zrem (zand h 2147483647) 3), zI (zrem (zand (zshr h 3) 2147483647) 4), zI cl, zI 8, zR o]) rfl ?_
    refine zp_goto (tgt := 465) dL_law_461 (by decide) ?_
    refine zp_iconst (v := 0) dL_law_465 rfl (z32_lit (by decide) (by decide)) ?_
    refine zp_cl (d' := d + 14) (o := o) rfl dL_law_466 (Nat.le_of_ble_eq_true rfl) rfl (k_ab hW hI hst0 ⟨by omega, by omega⟩ (lt8 (by decide) (zlow_r (by decide) (by decide))) (zlow_r (by decide) (by decide)) (lt8 (by decide) (zlow_r (by decide) (by decide))) (by decide)) (fun r_11 S_12 w_13 q_14 hW_15 s_16 => ?_)
    rcases bd_st hI q_14 with ⟨hI_20, ⟨g_17, g_18, g_19⟩ | ⟨g_17, g_18⟩⟩
    · refine zp_pc (pc1 := 469) rfl ?_
      refine zp_istore (i := 12) dL_law_469 (by decide) rfl ?_
      refine zp_L (L1 := [some (zR sa), some (zR o), some (zI pn), some (zI ic), some (zI ei), some (zI g), some (zI h), some (zI p), some (zI cl), some (zI srt), some (zJ was), none, some (zI (rvN r_11)), some (zI (zrem (zand h 2147483647) 3)), none, none, none]) rfl ?_
      refine zp_goto (tgt := 928) dL_law_471 (by decide) ?_
      refine zp_Lw (L1 := [some (zR sa), some (zR o), some (zI pn), some (zI ic), some (zI ei), none, none, none, none, none, some (zJ was), none, some (zI (rvN r_11)), none, none, none, none]) ⟨Or.inr rfl, Or.inr rfl, Or.inr rfl, Or.inr rfl, Or.inr rfl, Or.inl rfl, Or.inl rfl, Or.inl rfl, Or.inl rfl, Or.inl rfl, Or.inr rfl, Or.inr rfl, Or.inr rfl, Or.inl rfl, Or.inr rfl, Or.inr rfl, Or.inr rfl, trivial⟩ ?_
      exact kk S_12 _ _ _ w_13 (whW_le hW_15 (by omega) (by omega)) hI_20 (by omega) (by omega) (Or.inl (by omega))
    · rw [g_18] at hW_15 hI_20
      refine zp_pc (pc1 := 469) rfl ?_
      refine zp_istore (i := 12) dL_law_469 (by decide) rfl ?_
      refine zp_L (L1 := [some (zR sa), some (zR o), some (zI pn), some (zI ic), some (zI ei), some (zI g), some (zI h), some (zI p), some (zI cl), some (zI srt), some (zJ was), none, some (zI (rvN r_11)), some (zI (zrem (zand h 2147483647) 3)), none, none, none]) rfl ?_
      refine zp_goto (tgt := 928) dL_law_471 (by decide) ?_
      refine zp_Lw (L1 := [some (zR sa), some (zR o), some (zI pn), some (zI ic), some (zI ei), none, none, none, none, none, some (zJ was), none, some (zI (rvN r_11)), none, none, none, none]) ⟨Or.inr rfl, Or.inr rfl, Or.inr rfl, Or.inr rfl, Or.inr rfl, Or.inl rfl, Or.inl rfl, Or.inl rfl, Or.inl rfl, Or.inl rfl, Or.inr rfl, Or.inr rfl, Or.inr rfl, Or.inl rfl, Or.inr rfl, Or.inr rfl, Or.inr rfl, trivial⟩ ?_
      exact kk S _ _ _ w_13 (whW_le hW_15 (by omega) (by omega)) hI_20 (by omega) (by omega) (Or.inr rfl)
theorem ev_7 (hI : lwI e S) (he : e ≤ 60) (hst0 : G.1.stackTraces = false) (hW : whW w o k1 k2 S) (hk : k1 + 30000 + 6000000 ≤ 60 * G.2.2.2.2.1 ∧ k2 + 3400 + 6830000 ≤ G.2.2.2.2.2) (hpn : pn = (S.2.2.1.2.2.1.1.length : Int)) (hic : ic = S.2.2.2.1.1) (hs : srt = 7) (kk : evK X G d av w0 Q sa o ei was S e k1 k2) : zXp X G zm_L_law (d + 15) av w0 Q 270 [some (zR sa), some (zR o), some (zI pn), some (zI ic), some (zI ei), some (zI g), some (zI h), some (zI p), some (zI cl), some (zI srt), some (zJ was), none, some (zI 0), none, none, none, none] [] w := by
  have hp5 := (lwI_p5 hI)
  have ht := whW_tm hW
  have ht3 := hI.2.1
  have hc01 := hI.2.2.2.1
  refine zp_iload (i := 9) dL_law_270 rfl ?_
  refine zp_if_ne (tgt := 331) dL_law_272 (by decide) (fun h272 => ?_) (fun h272 => absurd (by omega) h272)
  refine zp_iload (i := 9) dL_law_331 rfl ?_
  refine zp_iconst (v := 3) dL_law_333 rfl (z32_lit (by decide) (by decide)) ?_
  refine zp_icmp_ge (tgt := 393) dL_law_334 (by decide) (fun h334 => ?_) (fun h334 => absurd (by omega) h334)
  refine zp_iload (i := 9) dL_law_393 rfl ?_
  refine zp_iconst (v := 3) dL_law_395 rfl (z32_lit (by decide) (by decide)) ?_
  refine zp_icmp_ne (tgt := 416) dL_law_396 (by decide) (fun h396 => ?_) (fun h396 => absurd (by omega) h396)
  refine zp_iload (i := 9) dL_law_416 rfl ?_
  refine zp_bipush (v := 7) dL_law_418 (by decide +kernel) (z32_lit (by decide) (by decide)) ?_
  refine zp_icmp_ge (tgt := 474) dL_law_420 (by decide) (fun h420 => ?_) (fun h420 => absurd (by omega) h420)
  refine zp_pc (pc1 := 474) rfl ?_
  refine zp_iload (i := 9) dL_law_474 rfl ?_
  refine zp_bipush (v := 7) dL_law_476 (by decide +kernel) (z32_lit (by decide) (by decide)) ?_
  refine zp_icmp_ne (tgt := 510) dL_law_478 (by decide) (fun h478 => absurd h478 (by omega)) (fun h478 => ?_)
  refine zp_aload_n (i := 1) dL_law_481 rfl rfl ?_
  refine zp_bipush (v := 9) dL_law_482 (by decide +kernel) (z32_lit (by decide) (by decide)) ?_
  refine zp_iload (i := 8) dL_law_484 rfl ?_
  refine zp_iload (i := 6) dL_law_486 rfl ?_
  refine zp_iconst (v := 4) dL_law_488 rfl (z32_lit (by decide) (by decide)) ?_
  refine zp_is6 (As := [zI h, zI 4]) (st := [zI cl, zI 9, zR o]) (v := some (zI (zrem (zand h 2147483647) 4))) (w1 := w) dL_law_489 zc_L_142 rfl (Nat.le_of_ble_eq_true rfl) rfl (c_L_low (d := d + 14) (by decide)) ?_
  refine zp_st (st1 := [zI (zrem (zand h 2147483647) 4), zI cl, zI 9, zR o]) rfl ?_
  refine zp_iload (i := 6) dL_law_492 rfl ?_
  refine zp_iconst (v := 3) dL_law_494 rfl (z32_lit (by decide) (by decide)) ?_
  refine zp_ishr (v := zshr h 3) dL_law_495 rfl ?_
  refine zp_pc (pc1 := 496) rfl ?_
  refine zp_iconst (v := 4) dL_law_496 rfl (z32_lit (by decide) (by decide)) ?_
  refine zp_is6 (As := [zI (zshr h 3), zI 4]) (st := [zI (zrem (zand h 2147483647) 4), zI cl, zI 9, zR o]) (v := some (zI (zrem (zand (zshr h 3) 2147483647) 4))) (w1 := w) dL_law_497 zc_L_142 rfl (Nat.le_of_ble_eq_true rfl) rfl (c_L_low (d := d + 14) (by decide)) ?_
  refine zp_st (st1 := [zI (zrem (zand (zshr h 3) 2147483647) 4), zI (zrem (zand h 2147483647) 4), zI cl, zI 9, zR o]) rfl ?_
  refine zp_iconst (v := 0) dL_law_500 rfl (z32_lit (by decide) (by decide)) ?_
  refine zp_iconst (v := 0) dL_law_501 rfl (z32_lit (by decide) (by decide)) ?_
  refine zp_cl (d' := d + 14) (o := o) rfl dL_law_502 (Nat.le_of_ble_eq_true rfl) rfl (k_as hW hI hst0 ⟨by omega, by omega⟩ (lt8 (by decide) (zlow_r (by decide) (by decide))) (lt8 (by decide) (zlow_r (by decide) (by decide)))) (fun r_1 S_2 w_3 q_4 hW_5 s_6 => ?_)
  rcases bd_st hI q_4 with ⟨hI_10, ⟨g_7, g_8, g_9⟩ | ⟨g_7, g_8⟩⟩
  · refine zp_pc (pc1 := 505) rfl ?_
    refine zp_istore (i := 12) dL_law_505 (by decide) rfl ?_
    refine zp_L (L1 := [some (zR sa), some (zR o), some (zI pn), some (zI ic), some (zI ei), some (zI g), some (zI h), some (zI p), some (zI cl), some (zI srt), some (zJ was), none, some (zI (rvN r_1)), none, none, none, none]) rfl ?_
    refine zp_goto (tgt := 928) dL_law_507 (by decide) ?_
    refine zp_Lw (L1 := [some (zR sa), some (zR o), some (zI pn), some (zI ic), some (zI ei), none, none, none, none, none, some (zJ was), none, some (zI (rvN r_1)), none, none, none, none]) ⟨Or.inr rfl, Or.inr rfl, Or.inr rfl, Or.inr rfl, Or.inr rfl, Or.inl rfl, Or.inl rfl, Or.inl rfl, Or.inl rfl, Or.inl rfl, Or.inr rfl, Or.inr rfl, Or.inr rfl, Or.inr rfl, Or.inr rfl, Or.inr rfl, Or.inr rfl, trivial⟩ ?_
    exact kk S_2 _ _ _ w_3 (whW_le hW_5 (by omega) (by omega)) hI_10 (by omega) (by omega) (Or.inl (by omega))
  · rw [g_8] at hW_5 hI_10
    refine zp_pc (pc1 := 505) rfl ?_
    refine zp_istore (i := 12) dL_law_505 (by decide) rfl ?_
    refine zp_L (L1 := [some (zR sa), some (zR o), some (zI pn), some (zI ic), some (zI ei), some (zI g), some (zI h), some (zI p), some (zI cl), some (zI srt), some (zJ was), none, some (zI (rvN r_1)), none, none, none, none]) rfl ?_
    refine zp_goto (tgt := 928) dL_law_507 (by decide) ?_
    refine zp_Lw (L1 := [some (zR sa), some (zR o), some (zI pn), some (zI ic), some (zI ei), none, none, none, none, none, some (zJ was), none, some (zI (rvN r_1)), none, none, none, none]) ⟨Or.inr rfl, Or.inr rfl, Or.inr rfl, Or.inr rfl, Or.inr rfl, Or.inl rfl, Or.inl rfl, Or.inl rfl, Or.inl rfl, Or.inl rfl, Or.inr rfl, Or.inr rfl, Or.inr rfl, Or.inr rfl, Or.inr rfl, Or.inr rfl, Or.inr rfl, trivial⟩ ?_
    exact kk S _ _ _ w_3 (whW_le hW_5 (by omega) (by omega)) hI_10 (by omega) (by omega) (Or.inr rfl)
theorem ev_8 (hI : lwI e S) (he : e ≤ 60) (hst0 : G.1.stackTraces = false) (hW : whW w o k1 k2 S) (hk : k1 + 30000 + 6000000 ≤ 60 * G.2.2.2.2.1 ∧ k2 + 3400 + 6830000 ≤ G.2.2.2.2.2) (hpn : pn = (S.2.2.1.2.2.1.1.length : Int)) (hic : ic = S.2.2.2.1.1) (hs : 7 < srt ∧ srt < 10) (kk : evK X G d av w0 Q sa o ei was S e k1 k2) : zXp X G zm_L_law (d + 15) av w0 Q 270 [some (zR sa), some (zR o), some (zI pn), some (zI ic), some (zI ei), some (zI g), some (zI h), some (zI p), some (zI cl), some (zI srt), some (zJ was), none, some (zI 0), none, none, none, none] [] w := by
  have hp5 := (lwI_p5 hI)
  have ht := whW_tm hW
  have ht3 := hI.2.1
  have hc01 := hI.2.2.2.1
  have b1 := zlow_r (v := h) (n := 4) (by decide) (by decide)
  have b2 := zlow_r (v := zshr h 3) (n := 4) (by decide) (by decide)
  refine zp_iload (i := 9) dL_law_270 rfl ?_
  refine zp_if_ne (tgt := 331) dL_law_272 (by decide) (fun h272 => ?_) (fun h272 => absurd (by omega) h272)
  refine zp_iload (i := 9) dL_law_331 rfl ?_
  refine zp_iconst (v := 3) dL_law_333 rfl (z32_lit (by decide) (by decide)) ?_
  refine zp_icmp_ge (tgt := 393) dL_law_334 (by decide) (fun h334 => ?_) (fun h334 => absurd (by omega) h334)
  refine zp_iload (i := 9) dL_law_393 rfl ?_
  refine zp_iconst (v := 3) dL_law_395 rfl (z32_lit (by decide) (by decide)) ?_
  refine zp_icmp_ne (tgt := 416) dL_law_396 (by decide) (fun h396 => ?_) (fun h396 => absurd (by omega) h396)
  refine zp_iload (i := 9) dL_law_416 rfl ?_
  refine zp_bipush (v := 7) dL_law_418 (by decide +kernel) (z32_lit (by decide) (by decide)) ?_
  refine zp_icmp_ge (tgt := 474) dL_law_420 (by decide) (fun h420 => ?_) (fun h420 => absurd (by omega) h420)
  refine zp_pc (pc1 := 474) rfl ?_
  refine zp_iload (i := 9) dL_law_474 rfl ?_
  refine zp_bipush (v := 7) dL_law_476 (by decide +kernel) (z32_lit (by decide) (by decide)) ?_
  refine zp_icmp_ne (tgt := 510) dL_law_478 (by decide) (fun h478 => ?_) (fun h478 => absurd (by omega) h478)
  refine zp_iload (i := 9) dL_law_510 rfl ?_
  refine zp_bipush (v := 10) dL_law_512 (by decide +kernel) (z32_lit (by decide) (by decide)) ?_
  refine zp_icmp_ge (tgt := 571) dL_law_514 (by decide) (fun h514 => absurd h514 (by omega)) (fun h514 => ?_)
  refine zp_aload_n (i := 1) dL_law_517 rfl rfl ?_
  refine zp_bipush (v := 10) dL_law_518 (by decide +kernel) (z32_lit (by decide) (by decide)) ?_
  refine zp_iload (i := 8) dL_law_520 rfl ?_
  refine zp_iload (i := 7) dL_law_522 rfl ?_
  refine zp_bipush (v := 64) dL_law_524 (by decide +kernel) (z32_lit (by decide) (by decide)) ?_
  refine zp_iload (i := 6) dL_law_526 rfl ?_
  refine zp_pc (pc1 := 528) rfl ?_
  refine zp_iconst (v := 4) dL_law_528 rfl (z32_lit (by decide) (by decide)) ?_
  refine zp_is6 (As := [zI h, zI 4]) (st := [zI 64, zI p, zI cl, zI 10, zR o]) (v := some (zI (zrem (zand h 2147483647) 4))) (w1 := w) dL_law_529 zc_L_142 rfl (Nat.le_of_ble_eq_true rfl) rfl (c_L_low (d := d + 14) (by decide)) ?_
  refine zp_st (st1 := [zI (zrem (zand h 2147483647) 4), zI 64, zI p, zI cl, zI 10, zR o]) rfl ?_
  refine zp_imul (v := 64 * (zrem (zand h 2147483647) 4)) dL_law_532 (zw_id ⟨by omega, by omega⟩) ?_
  refine zp_bipush (v := 8) dL_law_533 (by decide +kernel) (z32_lit (by decide) (by decide)) ?_
  refine zp_iload (i := 6) dL_law_535 rfl ?_
  refine zp_iconst (v := 3) dL_law_537 rfl (z32_lit (by decide) (by decide)) ?_
  refine zp_ishr (v := zshr h 3) dL_law_538 rfl ?_
  refine zp_iconst (v := 4) dL_law_539 rfl (z32_lit (by decide) (by decide)) ?_
  refine zp_is6 (As := [zI (zshr h 3), zI 4]) (st := [zI 8, zI (64 * (zrem (zand h 2147483647) 4)), zI p, zI cl, zI 10, zR o]) (v := some (zI (zrem (zand (zshr h 3) 2147483647) 4))) (w1 := w) dL_law_540 zc_L_142 rfl (Nat.le_of_ble_eq_true rfl) rfl (c_L_low (d := d + 14) (by decide)) ?_
  refine zp_st (st1 := [zI (zrem (zand (zshr h 3) 2147483647) 4), zI 8, zI (64 * (zrem (zand h 2147483647) 4)), zI p, zI cl, zI 10, zR o]) rfl ?_
  refine zp_imul (v := 8 * (zrem (zand (zshr h 3) 2147483647) 4)) dL_law_543 (zw_id ⟨by omega, by omega⟩) ?_
  refine zp_iadd (v := (64 * (zrem (zand h 2147483647) 4)) + (8 * (zrem (zand (zshr h 3) 2147483647) 4))) dL_law_544 (zw_id ⟨by omega, by omega⟩) ?_
  refine zp_iload (i := 6) dL_law_545 rfl ?_
  refine zp_pc (pc1 := 547) rfl ?_
  refine zp_bipush (v := 6) dL_law_547 (by decide +kernel) (z32_lit (by decide) (by decide)) ?_
  refine zp_ishr (v := zshr h 6) dL_law_549 rfl ?_
  refine zp_iconst (v := 5) dL_law_550 rfl (z32_lit (by decide) (by decide)) ?_
  refine zp_is6 (As := [zI (zshr h 6), zI 5]) (st := [zI ((64 * (zrem (zand h 2147483647) 4)) + (8 * (zrem (zand (zshr h 3) 2147483647) 4))), zI p, zI cl, zI 10, zR o]) (v := some (zI (zrem (zand (zshr h 6) 2147483647) 5))) (w1 := w) dL_law_551 zc_L_142 rfl (Nat.le_of_ble_eq_true rfl) rfl (c_L_low (d := d + 14) (by decide)) ?_
  refine zp_st (st1 := [zI (zrem (zand (zshr h 6) 2147483647) 5), zI ((64 * (zrem (zand h 2147483647) 4)) + (8 * (zrem (zand (zshr h 3) 2147483647) 4))), zI p, zI cl, zI 10, zR o]) rfl ?_
  refine zp_if_ne (tgt := 561) dL_law_554 (by decide) (fun h554 => ?_) (fun h554 => ?_)
  · refine zp_iconst (v := 0) dL_law_561 rfl (z32_lit (by decide) (by decide)) ?_
    refine zp_iconst (v := 0) dL_law_562 rfl (z32_lit (by decide) (by decide)) ?_
    have hcc := cl_c (zlow_r (v := h) (n := 4) (by decide) (by decide)) (zlow_r (v := zshr h 3) (n := 4) (by decide) (by decide))
    refine zp_cl (d' := d + 14) (o := o) rfl dL_law_563 (Nat.le_of_ble_eq_true rfl) rfl (k_cl0 hW hI hst0 ⟨by omega, by omega⟩ hcc.1 hcc.2.1 hcc.2.2 (by decide)) (fun r_1 S_2 w_3 q_4 hW_5 s_6 => ?_)
    rcases bd_st hI q_4 with ⟨hI_10, ⟨g_7, g_8, g_9⟩ | ⟨g_7, g_8⟩⟩
    · refine zp_pc (pc1 := 566) rfl ?_
      refine zp_istore (i := 12) dL_law_566 (by decide) rfl ?_
      refine zp_L (L1 := [some (zR sa), some (zR o), some (zI pn), some (zI ic), some (zI ei), some (zI g), some (zI h), some (zI p), some (zI cl), some (zI srt), some (zJ was), none, some (zI (rvN r_1)), none, none, none, none]) rfl ?_
      refine zp_goto (tgt := 928) dL_law_568 (by decide) ?_
      refine zp_Lw (L1 := [some (zR sa), some (zR o), some (zI pn), some (zI ic), some (zI ei), none, none, none, none, none, some (zJ was), none, some (zI (rvN r_1)), none, none, none, none]) ⟨Or.inr rfl, Or.inr rfl, Or.inr rfl, Or.inr rfl, Or.inr rfl, Or.inl rfl, Or.inl rfl, Or.inl rfl, Or.inl rfl, Or.inl rfl, Or.inr rfl, Or.inr rfl, Or.inr rfl, Or.inr rfl, Or.inr rfl, Or.inr rfl, Or.inr rfl, trivial⟩ ?_
      exact kk S_2 _ _ _ w_3 (whW_le hW_5 (by omega) (by omega)) hI_10 (by omega) (by omega) (Or.inl (by omega))
    · rw [g_8] at hW_5 hI_10
      refine zp_pc (pc1 := 566) rfl ?_
      refine zp_istore (i := 12) dL_law_566 (by decide) rfl ?_
      refine zp_L (L1 := [some (zR sa), some (zR o), some (zI pn), some (zI ic), some (zI ei), some (zI g), some (zI h), some (zI p), some (zI cl), some (zI srt), some (zJ was), none, some (zI (rvN r_1)), none, none, none, none]) rfl ?_
      refine zp_goto (tgt := 928) dL_law_568 (by decide) ?_
      refine zp_Lw (L1 := [some (zR sa), some (zR o), some (zI pn), some (zI ic), some (zI ei), none, none, none, none, none, some (zJ was), none, some (zI (rvN r_1)), none, none, none, none]) ⟨Or.inr rfl, Or.inr rfl, Or.inr rfl, Or.inr rfl, Or.inr rfl, Or.inl rfl, Or.inl rfl, Or.inl rfl, Or.inl rfl, Or.inl rfl, Or.inr rfl, Or.inr rfl, Or.inr rfl, Or.inr rfl, Or.inr rfl, Or.inr rfl, Or.inr rfl, trivial⟩ ?_
      exact kk S _ _ _ w_3 (whW_le hW_5 (by omega) (by omega)) hI_10 (by omega) (by omega) (Or.inr rfl)
  · refine zp_iconst (v := 1) dL_law_557 rfl (z32_lit (by decide) (by decide)) ?_
    refine zp_goto (tgt := 562) dL_law_558 (by decide) ?_
    refine zp_iconst (v := 0) dL_law_562 rfl (z32_lit (by decide) (by decide)) ?_
    have hcc := cl_c (zlow_r (v := h) (n := 4) (by decide) (by decide)) (zlow_r (v := zshr h 3) (n := 4) (by decide) (by decide))
    refine zp_cl (d' := d + 14) (o := o) rfl dL_law_563 (Nat.le_of_ble_eq_true rfl) rfl (k_cl1 hW hI hst0 ⟨by omega, by omega⟩ hcc.1 hcc.2.1 hcc.2.2 (by decide)) (fun r_11 S_12 w_13 q_14 hW_15 s_16 => ?_)
    rcases bd_st hI q_14 with ⟨hI_20, ⟨g_17, g_18, g_19⟩ | ⟨g_17, g_18⟩⟩
    · refine zp_pc (pc1 := 566) rfl ?_
      refine zp_istore (i := 12) dL_law_566 (by decide) rfl ?_
      refine zp_L (L1 := [some (zR sa), some (zR o), some (zI pn), some (zI ic), some (zI ei), some (zI g), some (zI h), some (zI p), some (zI cl), some (zI srt), some (zJ was), none, some (zI (rvN r_11)), none, none, none, none]) rfl ?_
      refine zp_goto (tgt := 928) dL_law_568 (by decide) ?_
      refine zp_Lw (L1 := [some (zR sa), some (zR o), some (zI pn), some (zI ic), some (zI ei), none, none, none, none, none, some (zJ was), none, some (zI (rvN r_11)), none, none, none, none]) ⟨Or.inr rfl, Or.inr rfl, Or.inr rfl, Or.inr rfl, Or.inr rfl, Or.inl rfl, Or.inl rfl, Or.inl rfl, Or.inl rfl, Or.inl rfl, Or.inr rfl, Or.inr rfl, Or.inr rfl, Or.inr rfl, Or.inr rfl, Or.inr rfl, Or.inr rfl, trivial⟩ ?_
      exact kk S_12 _ _ _ w_13 (whW_le hW_15 (by omega) (by omega)) hI_20 (by omega) (by omega) (Or.inl (by omega))
    · rw [g_18] at hW_15 hI_20
      refine zp_pc (pc1 := 566) rfl ?_
      refine zp_istore (i := 12) dL_law_566 (by decide) rfl ?_
      refine zp_L (L1 := [some (zR sa), some (zR o), some (zI pn), some (zI ic), some (zI ei), some (zI g), some (zI h), some (zI p), some (zI cl), some (zI srt), some (zJ was), none, some (zI (rvN r_11)), none, none, none, none]) rfl ?_
      refine zp_goto (tgt := 928) dL_law_568 (by decide) ?_
      refine zp_Lw (L1 := [some (zR sa), some (zR o), some (zI pn), some (zI ic), some (zI ei), none, none, none, none, none, some (zJ was), none, some (zI (rvN r_11)), none, none, none, none]) ⟨Or.inr rfl, Or.inr rfl, Or.inr rfl, Or.inr rfl, Or.inr rfl, Or.inl rfl, Or.inl rfl, Or.inl rfl, Or.inl rfl, Or.inl rfl, Or.inr rfl, Or.inr rfl, Or.inr rfl, Or.inr rfl, Or.inr rfl, Or.inr rfl, Or.inr rfl, trivial⟩ ?_
      exact kk S _ _ _ w_13 (whW_le hW_15 (by omega) (by omega)) hI_20 (by omega) (by omega) (Or.inr rfl)
theorem ev_10 (hI : lwI e S) (he : e ≤ 60) (hst0 : G.1.stackTraces = false) (hW : whW w o k1 k2 S) (hk : k1 + 30000 + 6000000 ≤ 60 * G.2.2.2.2.1 ∧ k2 + 3400 + 6830000 ≤ G.2.2.2.2.2) (hpn : pn = (S.2.2.1.2.2.1.1.length : Int)) (hic : ic = S.2.2.2.1.1) (hs : srt = 10) (kk : evK X G d av w0 Q sa o ei was S e k1 k2) : zXp X G zm_L_law (d + 15) av w0 Q 270 [some (zR sa), some (zR o), some (zI pn), some (zI ic), some (zI ei), some (zI g), some (zI h), some (zI p), some (zI cl), some (zI srt), some (zJ was), none, some (zI 0), none, none, none, none] [] w := by
  have hp5 := (lwI_p5 hI)
  have ht := whW_tm hW
  have ht3 := hI.2.1
  have hc01 := hI.2.2.2.1
  refine zp_iload (i := 9) dL_law_270 rfl ?_
  refine zp_if_ne (tgt := 331) dL_law_272 (by decide) (fun h272 => ?_) (fun h272 => absurd (by omega) h272)
  refine zp_iload (i := 9) dL_law_331 rfl ?_
  refine zp_iconst (v := 3) dL_law_333 rfl (z32_lit (by decide) (by decide)) ?_
  refine zp_icmp_ge (tgt := 393) dL_law_334 (by decide) (fun h334 => ?_) (fun h334 => absurd (by omega) h334)
  refine zp_iload (i := 9) dL_law_393 rfl ?_
  refine zp_iconst (v := 3) dL_law_395 rfl (z32_lit (by decide) (by decide)) ?_
  refine zp_icmp_ne (tgt := 416) dL_law_396 (by decide) (fun h396 => ?_) (fun h396 => absurd (by omega) h396)
  refine zp_iload (i := 9) dL_law_416 rfl ?_
  refine zp_bipush (v := 7) dL_law_418 (by decide +kernel) (z32_lit (by decide) (by decide)) ?_
  refine zp_icmp_ge (tgt := 474) dL_law_420 (by decide) (fun h420 => ?_) (fun h420 => absurd (by omega) h420)
  refine zp_pc (pc1 := 474) rfl ?_
  refine zp_iload (i := 9) dL_law_474 rfl ?_
  refine zp_bipush (v := 7) dL_law_476 (by decide +kernel) (z32_lit (by decide) (by decide)) ?_
  refine zp_icmp_ne (tgt := 510) dL_law_478 (by decide) (fun h478 => ?_) (fun h478 => absurd (by omega) h478)
  refine zp_iload (i := 9) dL_law_510 rfl ?_
  refine zp_bipush (v := 10) dL_law_512 (by decide +kernel) (z32_lit (by decide) (by decide)) ?_
  refine zp_icmp_ge (tgt := 571) dL_law_514 (by decide) (fun h514 => ?_) (fun h514 => absurd (by omega) h514)
  refine zp_iload (i := 9) dL_law_571 rfl ?_
  refine zp_bipush (v := 10) dL_law_573 (by decide +kernel) (z32_lit (by decide) (by decide)) ?_
  refine zp_icmp_ne (tgt := 609) dL_law_575 (by decide) (fun h575 => absurd h575 (by omega)) (fun h575 => ?_)
  refine zp_aload_n (i := 1) dL_law_578 rfl rfl ?_
  refine zp_bipush (v := 11) dL_law_579 (by decide +kernel) (z32_lit (by decide) (by decide)) ?_
  refine zp_iconst (v := 0) dL_law_581 rfl (z32_lit (by decide) (by decide)) ?_
  refine zp_pc (pc1 := 582) rfl ?_
  refine zp_iconst (v := 0) dL_law_582 rfl (z32_lit (by decide) (by decide)) ?_
  refine zp_iconst (v := 0) dL_law_583 rfl (z32_lit (by decide) (by decide)) ?_
  refine zp_iconst (v := 0) dL_law_584 rfl (z32_lit (by decide) (by decide)) ?_
  refine zp_iconst (v := 0) dL_law_585 rfl (z32_lit (by decide) (by decide)) ?_
  refine zp_cl (d' := d + 14) (o := o) rfl dL_law_586 (Nat.le_of_ble_eq_true rfl) rfl (k_cm hW hI hst0 ⟨by omega, by omega⟩) (fun r_1 S_2 w_3 q_4 hW_5 s_6 => ?_)
  rcases cm_st hI q_4 with ⟨hI_11, g_7, ⟨g_8, g_9⟩ | ⟨g_8, g_9, g_10⟩⟩
  · have gl := congrArg List.length g_7
    refine zp_pc (pc1 := 589) rfl ?_
    refine zp_istore (i := 12) dL_law_589 (by decide) rfl ?_
    refine zp_L (L1 := [some (zR sa), some (zR o), some (zI pn), some (zI ic), some (zI ei), some (zI g), some (zI h), some (zI p), some (zI cl), some (zI srt), some (zJ was), none, some (zI (rvN r_1)), none, none, none, none]) rfl ?_
    refine zp_iload_n (i := 3) dL_law_591 rfl rfl ?_
    refine zp_if_ne (tgt := 600) dL_law_592 (by decide) (fun h592 => ?_) (fun h592 => ?_)
    · refine zp_iconst (v := 1) dL_law_600 rfl (z32_lit (by decide) (by decide)) ?_
      refine zp_goto (tgt := 605) dL_law_601 (by decide) ?_
      refine zp_istore_n (i := 3) dL_law_605 rfl (by decide) rfl ?_
      refine zp_L (L1 := [some (zR sa), some (zR o), some (zI pn), some (zI 1), some (zI ei), some (zI g), some (zI h), some (zI p), some (zI cl), some (zI srt), some (zJ was), none, some (zI (rvN r_1)), none, none, none, none]) rfl ?_
      refine zp_goto (tgt := 928) dL_law_606 (by decide) ?_
      refine zp_Lw (L1 := [some (zR sa), some (zR o), some (zI pn), some (zI 1), some (zI ei), none, none, none, none, none, some (zJ was), none, some (zI (rvN r_1)), none, none, none, none]) ⟨Or.inr rfl, Or.inr rfl, Or.inr rfl, Or.inr rfl, Or.inr rfl, Or.inl rfl, Or.inl rfl, Or.inl rfl, Or.inl rfl, Or.inl rfl, Or.inr rfl, Or.inr rfl, Or.inr rfl, Or.inr rfl, Or.inr rfl, Or.inr rfl, Or.inr rfl, trivial⟩ ?_
      exact kk S_2 _ _ _ w_3 (whW_le hW_5 (by omega) (by omega)) hI_11 (by omega) (by omega) (Or.inl (by omega))
    · refine zp_iload (i := 12) dL_law_595 rfl ?_
      refine zp_if_lt (tgt := 604) dL_law_597 (by decide) (fun h597 => absurd h597 (by omega)) (fun h597 => ?_)
      refine zp_iconst (v := 1) dL_law_600 rfl (z32_lit (by decide) (by decide)) ?_
      refine zp_goto (tgt := 605) dL_law_601 (by decide) ?_
      refine zp_istore_n (i := 3) dL_law_605 rfl (by decide) rfl ?_
      refine zp_L (L1 := [some (zR sa), some (zR o), some (zI pn), some (zI 1), some (zI ei), some (zI g), some (zI h), some (zI p), some (zI cl), some (zI srt), some (zJ was), none, some (zI (rvN r_1)), none, none, none, none]) rfl ?_
      refine zp_goto (tgt := 928) dL_law_606 (by decide) ?_
      refine zp_Lw (L1 := [some (zR sa), some (zR o), some (zI pn), some (zI 1), some (zI ei), none, none, none, none, none, some (zJ was), none, some (zI (rvN r_1)), none, none, none, none]) ⟨Or.inr rfl, Or.inr rfl, Or.inr rfl, Or.inr rfl, Or.inr rfl, Or.inl rfl, Or.inl rfl, Or.inl rfl, Or.inl rfl, Or.inl rfl, Or.inr rfl, Or.inr rfl, Or.inr rfl, Or.inr rfl, Or.inr rfl, Or.inr rfl, Or.inr rfl, trivial⟩ ?_
      exact kk S_2 _ _ _ w_3 (whW_le hW_5 (by omega) (by omega)) hI_11 (by omega) (by omega) (Or.inl (by omega))
  · rw [g_10] at hW_5 hI_11
    refine zp_pc (pc1 := 589) rfl ?_
    refine zp_istore (i := 12) dL_law_589 (by decide) rfl ?_
    refine zp_L (L1 := [some (zR sa), some (zR o), some (zI pn), some (zI ic), some (zI ei), some (zI g), some (zI h), some (zI p), some (zI cl), some (zI srt), some (zJ was), none, some (zI (rvN r_1)), none, none, none, none]) rfl ?_
    refine zp_iload_n (i := 3) dL_law_591 rfl rfl ?_
    refine zp_if_ne (tgt := 600) dL_law_592 (by decide) (fun h592 => ?_) (fun h592 => absurd (by omega) h592)
    refine zp_iconst (v := 1) dL_law_600 rfl (z32_lit (by decide) (by decide)) ?_
    refine zp_goto (tgt := 605) dL_law_601 (by decide) ?_
    refine zp_istore_n (i := 3) dL_law_605 rfl (by decide) rfl ?_
    refine zp_L (L1 := [some (zR sa), some (zR o), some (zI pn), some (zI 1), some (zI ei), some (zI g), some (zI h), some (zI p), some (zI cl), some (zI srt), some (zJ was), none, some (zI (rvN r_1)), none, none, none, none]) rfl ?_
    refine zp_goto (tgt := 928) dL_law_606 (by decide) ?_
    refine zp_Lw (L1 := [some (zR sa), some (zR o), some (zI pn), some (zI 1), some (zI ei), none, none, none, none, none, some (zJ was), none, some (zI (rvN r_1)), none, none, none, none]) ⟨Or.inr rfl, Or.inr rfl, Or.inr rfl, Or.inr rfl, Or.inr rfl, Or.inl rfl, Or.inl rfl, Or.inl rfl, Or.inl rfl, Or.inl rfl, Or.inr rfl, Or.inr rfl, Or.inr rfl, Or.inr rfl, Or.inr rfl, Or.inr rfl, Or.inr rfl, trivial⟩ ?_
    exact kk S _ _ _ w_3 (whW_le hW_5 (by omega) (by omega)) hI_11 (by omega) (by omega) (Or.inr rfl)
theorem ev_11 (hI : lwI e S) (he : e ≤ 60) (hst0 : G.1.stackTraces = false) (hW : whW w o k1 k2 S) (hk : k1 + 30000 + 6000000 ≤ 60 * G.2.2.2.2.1 ∧ k2 + 3400 + 6830000 ≤ G.2.2.2.2.2) (hpn : pn = (S.2.2.1.2.2.1.1.length : Int)) (hic : ic = S.2.2.2.1.1) (hs : srt = 11) (kk : evK X G d av w0 Q sa o ei was S e k1 k2) : zXp X G zm_L_law (d + 15) av w0 Q 270 [some (zR sa), some (zR o), some (zI pn), some (zI ic), some (zI ei), some (zI g), some (zI h), some (zI p), some (zI cl), some (zI srt), some (zJ was), none, some (zI 0), none, none, none, none] [] w := by
  have hp5 := (lwI_p5 hI)
  have ht := whW_tm hW
  have ht3 := hI.2.1
  have hc01 := hI.2.2.2.1
  refine zp_iload (i := 9) dL_law_270 rfl ?_
  refine zp_if_ne (tgt := 331) dL_law_272 (by decide) (fun h272 => ?_) (fun h272 => absurd (by omega) h272)
  refine zp_iload (i := 9) dL_law_331 rfl ?_
  refine zp_iconst (v := 3) dL_law_333 rfl (z32_lit (by decide) (by decide)) ?_
  refine zp_icmp_ge (tgt := 393) dL_law_334 (by decide) (fun h334 => ?_) (fun h334 => absurd (by omega) h334)
  refine zp_iload (i := 9) dL_law_393 rfl ?_
  refine zp_iconst (v := 3) dL_law_395 rfl (z32_lit (by decide) (by decide)) ?_
  refine zp_icmp_ne (tgt := 416) dL_law_396 (by decide) (fun h396 => ?_) (fun h396 => absurd (by omega) h396)
  refine zp_iload (i := 9) dL_law_416 rfl ?_
  refine zp_bipush (v := 7) dL_law_418 (by decide +kernel) (z32_lit (by decide) (by decide)) ?_
  refine zp_icmp_ge (tgt := 474) dL_law_420 (by decide) (fun h420 => ?_) (fun h420 => absurd (by omega) h420)
  refine zp_pc (pc1 := 474) rfl ?_
  refine zp_iload (i := 9) dL_law_474 rfl ?_
  refine zp_bipush (v := 7) dL_law_476 (by decide +kernel) (z32_lit (by decide) (by decide)) ?_
  refine zp_icmp_ne (tgt := 510) dL_law_478 (by decide) (fun h478 => ?_) (fun h478 => absurd (by omega) h478)
  refine zp_iload (i := 9) dL_law_510 rfl ?_
  refine zp_bipush (v := 10) dL_law_512 (by decide +kernel) (z32_lit (by decide) (by decide)) ?_
  refine zp_icmp_ge (tgt := 571) dL_law_514 (by decide) (fun h514 => ?_) (fun h514 => absurd (by omega) h514)
  refine zp_iload (i := 9) dL_law_571 rfl ?_
  refine zp_bipush (v := 10) dL_law_573 (by decide +kernel) (z32_lit (by decide) (by decide)) ?_
  refine zp_icmp_ne (tgt := 609) dL_law_575 (by decide) (fun h575 => ?_) (fun h575 => absurd (by omega) h575)
  refine zp_iload (i := 9) dL_law_609 rfl ?_
  refine zp_bipush (v := 11) dL_law_611 (by decide +kernel) (z32_lit (by decide) (by decide)) ?_
  refine zp_icmp_ne (tgt := 647) dL_law_613 (by decide) (fun h613 => absurd h613 (by omega)) (fun h613 => ?_)
  refine zp_pc (pc1 := 616) rfl ?_
  refine zp_aload_n (i := 1) dL_law_616 rfl rfl ?_
  refine zp_bipush (v := 12) dL_law_617 (by decide +kernel) (z32_lit (by decide) (by decide)) ?_
  refine zp_iconst (v := 0) dL_law_619 rfl (z32_lit (by decide) (by decide)) ?_
  refine zp_iconst (v := 0) dL_law_620 rfl (z32_lit (by decide) (by decide)) ?_
  refine zp_iconst (v := 0) dL_law_621 rfl (z32_lit (by decide) (by decide)) ?_
  refine zp_iconst (v := 0) dL_law_622 rfl (z32_lit (by decide) (by decide)) ?_
  refine zp_iconst (v := 0) dL_law_623 rfl (z32_lit (by decide) (by decide)) ?_
  refine zp_cl (d' := d + 14) (o := o) rfl dL_law_624 (Nat.le_of_ble_eq_true rfl) rfl (k_op hW hI hst0 ⟨by omega, by omega⟩) (fun r_1 S_2 w_3 q_4 hW_5 s_6 => ?_)
  rcases op_st hI q_4 with ⟨hI_11, g_7, ⟨g_8, g_9⟩ | ⟨g_8, g_9, g_10⟩⟩
  · have gl : S_2.2.2.1.2.2.1.1.length = S.2.2.1.2.2.1.1.length := by rw [g_7]
    refine zp_pc (pc1 := 627) rfl ?_
    refine zp_istore (i := 12) dL_law_627 (by decide) rfl ?_
    refine zp_L (L1 := [some (zR sa), some (zR o), some (zI pn), some (zI ic), some (zI ei), some (zI g), some (zI h), some (zI p), some (zI cl), some (zI srt), some (zJ was), none, some (zI (rvN r_1)), none, none, none, none]) rfl ?_
    refine zp_iload_n (i := 3) dL_law_629 rfl rfl ?_
    refine zp_if_eq (tgt := 642) dL_law_630 (by decide) (fun h630 => ?_) (fun h630 => ?_)
    · refine zp_iconst (v := 0) dL_law_642 rfl (z32_lit (by decide) (by decide)) ?_
      refine zp_istore_n (i := 3) dL_law_643 rfl (by decide) rfl ?_
      refine zp_L (L1 := [some (zR sa), some (zR o), some (zI pn), some (zI 0), some (zI ei), some (zI g), some (zI h), some (zI p), some (zI cl), some (zI srt), some (zJ was), none, some (zI (rvN r_1)), none, none, none, none]) rfl ?_
      refine zp_goto (tgt := 928) dL_law_644 (by decide) ?_
      refine zp_Lw (L1 := [some (zR sa), some (zR o), some (zI pn), some (zI 0), some (zI ei), none, none, none, none, none, some (zJ was), none, some (zI (rvN r_1)), none, none, none, none]) ⟨Or.inr rfl, Or.inr rfl, Or.inr rfl, Or.inr rfl, Or.inr rfl, Or.inl rfl, Or.inl rfl, Or.inl rfl, Or.inl rfl, Or.inl rfl, Or.inr rfl, Or.inr rfl, Or.inr rfl, Or.inr rfl, Or.inr rfl, Or.inr rfl, Or.inr rfl, trivial⟩ ?_
      exact kk S_2 _ _ _ w_3 (whW_le hW_5 (by omega) (by omega)) hI_11 (by omega) (by omega) (Or.inl (by omega))
    · refine zp_iload (i := 12) dL_law_633 rfl ?_
      refine zp_if_ge (tgt := 642) dL_law_635 (by decide) (fun h635 => ?_) (fun h635 => absurd (by omega) h635)
      refine zp_iconst (v := 0) dL_law_642 rfl (z32_lit (by decide) (by decide)) ?_
      refine zp_istore_n (i := 3) dL_law_643 rfl (by decide) rfl ?_
      refine zp_L (L1 := [some (zR sa), some (zR o), some (zI pn), some (zI 0), some (zI ei), some (zI g), some (zI h), some (zI p), some (zI cl), some (zI srt), some (zJ was), none, some (zI (rvN r_1)), none, none, none, none]) rfl ?_
      refine zp_goto (tgt := 928) dL_law_644 (by decide) ?_
      refine zp_Lw (L1 := [some (zR sa), some (zR o), some (zI pn), some (zI 0), some (zI ei), none, none, none, none, none, some (zJ was), none, some (zI (rvN r_1)), none, none, none, none]) ⟨Or.inr rfl, Or.inr rfl, Or.inr rfl, Or.inr rfl, Or.inr rfl, Or.inl rfl, Or.inl rfl, Or.inl rfl, Or.inl rfl, Or.inl rfl, Or.inr rfl, Or.inr rfl, Or.inr rfl, Or.inr rfl, Or.inr rfl, Or.inr rfl, Or.inr rfl, trivial⟩ ?_
      exact kk S_2 _ _ _ w_3 (whW_le hW_5 (by omega) (by omega)) hI_11 (by omega) (by omega) (Or.inl (by omega))
  · rw [g_10] at hW_5 hI_11
    refine zp_pc (pc1 := 627) rfl ?_
    refine zp_istore (i := 12) dL_law_627 (by decide) rfl ?_
    refine zp_L (L1 := [some (zR sa), some (zR o), some (zI pn), some (zI ic), some (zI ei), some (zI g), some (zI h), some (zI p), some (zI cl), some (zI srt), some (zJ was), none, some (zI (rvN r_1)), none, none, none, none]) rfl ?_
    refine zp_iload_n (i := 3) dL_law_629 rfl rfl ?_
    refine zp_if_eq (tgt := 642) dL_law_630 (by decide) (fun h630 => ?_) (fun h630 => absurd (by omega) h630)
    refine zp_iconst (v := 0) dL_law_642 rfl (z32_lit (by decide) (by decide)) ?_
    refine zp_istore_n (i := 3) dL_law_643 rfl (by decide) rfl ?_
    refine zp_L (L1 := [some (zR sa), some (zR o), some (zI pn), some (zI 0), some (zI ei), some (zI g), some (zI h), some (zI p), some (zI cl), some (zI srt), some (zJ was), none, some (zI (rvN r_1)), none, none, none, none]) rfl ?_
    refine zp_goto (tgt := 928) dL_law_644 (by decide) ?_
    refine zp_Lw (L1 := [some (zR sa), some (zR o), some (zI pn), some (zI 0), some (zI ei), none, none, none, none, none, some (zJ was), none, some (zI (rvN r_1)), none, none, none, none]) ⟨Or.inr rfl, Or.inr rfl, Or.inr rfl, Or.inr rfl, Or.inr rfl, Or.inl rfl, Or.inl rfl, Or.inl rfl, Or.inl rfl, Or.inl rfl, Or.inr rfl, Or.inr rfl, Or.inr rfl, Or.inr rfl, Or.inr rfl, Or.inr rfl, Or.inr rfl, trivial⟩ ?_
    exact kk S _ _ _ w_3 (whW_le hW_5 (by omega) (by omega)) hI_11 (by omega) (by omega) (Or.inr rfl)
theorem ev_12 (hI : lwI e S) (he : e ≤ 60) (hst0 : G.1.stackTraces = false) (hW : whW w o k1 k2 S) (hk : k1 + 30000 + 6000000 ≤ 60 * G.2.2.2.2.1 ∧ k2 + 3400 + 6830000 ≤ G.2.2.2.2.2) (hpn : pn = (S.2.2.1.2.2.1.1.length : Int)) (hic : ic = S.2.2.2.1.1) (hs : 11 < srt ∧ srt < 14) (kk : evK X G d av w0 Q sa o ei was S e k1 k2) : zXp X G zm_L_law (d + 15) av w0 Q 270 [some (zR sa), some (zR o), some (zI pn), some (zI ic), some (zI ei), some (zI g), some (zI h), some (zI p), some (zI cl), some (zI srt), some (zJ was), none, some (zI 0), none, none, none, none] [] w := by
  have hp5 := (lwI_p5 hI)
  have ht := whW_tm hW
  have ht3 := hI.2.1
  have hc01 := hI.2.2.2.1
  refine zp_iload (i := 9) dL_law_270 rfl ?_
  refine zp_if_ne (tgt := 331) dL_law_272 (by decide) (fun h272 => ?_) (fun h272 => absurd (by omega) h272)
  refine zp_iload (i := 9) dL_law_331 rfl ?_
  refine zp_iconst (v := 3) dL_law_333 rfl (z32_lit (by decide) (by decide)) ?_
  refine zp_icmp_ge (tgt := 393) dL_law_334 (by decide) (fun h334 => ?_) (fun h334 => absurd (by omega) h334)
  refine zp_iload (i := 9) dL_law_393 rfl ?_
  refine zp_iconst (v := 3) dL_law_395 rfl (z32_lit (by decide) (by decide)) ?_
  refine zp_icmp_ne (tgt := 416) dL_law_396 (by decide) (fun h396 => ?_) (fun h396 => absurd (by omega) h396)
  refine zp_iload (i := 9) dL_law_416 rfl ?_
  refine zp_bipush (v := 7) dL_law_418 (by decide +kernel) (z32_lit (by decide) (by decide)) ?_
  refine zp_icmp_ge (tgt := 474) dL_law_420 (by decide) (fun h420 => ?_) (fun h420 => absurd (by omega) h420)
  refine zp_pc (pc1 := 474) rfl ?_
  refine zp_iload (i := 9) dL_law_474 rfl ?_
  refine zp_bipush (v := 7) dL_law_476 (by decide +kernel) (z32_lit (by decide) (by decide)) ?_
  refine zp_icmp_ne (tgt := 510) dL_law_478 (by decide) (fun h478 => ?_) (fun h478 => absurd (by omega) h478)
  refine zp_iload (i := 9) dL_law_510 rfl ?_
  refine zp_bipush (v := 10) dL_law_512 (by decide +kernel) (z32_lit (by decide) (by decide)) ?_
  refine zp_icmp_ge (tgt := 571) dL_law_514 (by decide) (fun h514 => ?_) (fun h514 => absurd (by omega) h514)
  refine zp_iload (i := 9) dL_law_571 rfl ?_
  refine zp_bipush (v := 10) dL_law_573 (by decide +kernel) (z32_lit (by decide) (by decide)) ?_
  refine zp_icmp_ne (tgt := 609) dL_law_575 (by decide) (fun h575 => ?_) (fun h575 => absurd (by omega) h575)
  refine zp_iload (i := 9) dL_law_609 rfl ?_
  refine zp_bipush (v := 11) dL_law_611 (by decide +kernel) (z32_lit (by decide) (by decide)) ?_
  refine zp_icmp_ne (tgt := 647) dL_law_613 (by decide) (fun h613 => ?_) (fun h613 => absurd (by omega) h613)
  refine zp_pc (pc1 := 647) rfl ?_
  refine zp_iload (i := 9) dL_law_647 rfl ?_
  refine zp_bipush (v := 14) dL_law_649 (by decide +kernel) (z32_lit (by decide) (by decide)) ?_
  refine zp_icmp_ge (tgt := 740) dL_law_651 (by decide) (fun h651 => absurd h651 (by omega)) (fun h651 => ?_)
  refine zp_iload (i := 6) dL_law_654 rfl ?_
  refine zp_iconst (v := 3) dL_law_656 rfl (z32_lit (by decide) (by decide)) ?_
  refine zp_ishr (v := zshr h 3) dL_law_657 rfl ?_
  refine zp_aload_n (i := 1) dL_law_658 rfl rfl ?_
  obtain ⟨of_1, ho_2⟩ := whW_o hW
  refine zp_te (d := d + 1) (o := o) rfl dL_law_659 hW ho_2 (Nat.le_of_ble_eq_true rfl) rfl (fun w_3 hW_4 s_5 => ?_)
  refine zp_pc (pc1 := 662) rfl ?_
  refine zp_is6 (As := [zI (zshr h 3), zI (S.2.1.length : Int)]) (st := []) (v := some (zI (zrem (zand (zshr h 3) 2147483647) (S.2.1.length : Int)))) (w1 := w_3) dL_law_662 zc_L_142 rfl (Nat.le_of_ble_eq_true rfl) rfl (c_L_low (d := d + 14) (by omega)) ?_
  refine zp_st (st1 := [zI (zrem (zand (zshr h 3) 2147483647) (S.2.1.length : Int))]) rfl ?_
  obtain ⟨f, e_f⟩ : ∃ q : Nat, (zrem (zand (zshr h 3) 2147483647) (S.2.1.length : Int)) = (q : Int) := ⟨Int.toNat ((zrem (zand (zshr h 3) 2147483647) (S.2.1.length : Int))), (Int.toNat_of_nonneg (zlow_r (v := zshr h 3) (n := (S.2.1.length : Int)) (by omega) (by omega)).1).symm⟩
  have l_f := (zlow_r (v := zshr h 3) (n := (S.2.1.length : Int)) (by omega) (by omega)).2
  rw [e_f] at l_f
  refine zp_st (st1 := [zI (f : Int)]) (by rw [e_f]) ?_
  obtain ⟨y, hy⟩ : ∃ y, S.2.1[f]? = some y := ⟨_, List.getElem?_eq_getElem (by omega)⟩
  refine zp_istore (i := 13) dL_law_665 (by decide) rfl ?_
  refine zp_L (L1 := [some (zR sa), some (zR o), some (zI pn), some (zI ic), some (zI ei), some (zI g), some (zI h), some (zI p), some (zI cl), some (zI srt), some (zJ was), none, some (zI 0), some (zI (f : Int)), none, none, none]) rfl ?_
  refine zp_aload_n (i := 1) dL_law_667 rfl rfl ?_
  refine zp_iconst (v := 2) dL_law_668 rfl (z32_lit (by decide) (by decide)) ?_
  refine zp_iconst (v := 1) dL_law_669 rfl (z32_lit (by decide) (by decide)) ?_
  refine zp_iload (i := 13) dL_law_670 rfl ?_
  refine zp_iconst (v := 0) dL_law_672 rfl (z32_lit (by decide) (by decide)) ?_
  refine zp_iconst (v := 0) dL_law_673 rfl (z32_lit (by decide) (by decide)) ?_
  refine zp_iconst (v := 0) dL_law_674 rfl (z32_lit (by decide) (by decide)) ?_
  refine zp_cl (d' := d + 14) (o := o) rfl dL_law_675 (Nat.le_of_ble_eq_true rfl) rfl (k_tm hW_4 hI hst0 ⟨by omega, by omega⟩ hy) (fun r_6 S_7 w_8 q_9 hW_10 s_11 => ?_)
  rcases tm_st hI q_9 with ⟨hI_18, g_12, ⟨n, g_13, g_14, g_15, g_16⟩ | ⟨g_13, g_14⟩⟩
  · have gl : S_7.2.2.1.2.2.1.1.length = S.2.2.1.2.2.1.1.length := by rw [g_12]
    have gm : S_7.2.2.2.1.1 = S.2.2.2.1.1 := by rw [g_12]
    rw [g_13]
    refine zp_pc (pc1 := 678) rfl ?_
    refine zp_istore (i := 12) dL_law_678 (by decide) rfl ?_
    refine zp_L (L1 := [some (zR sa), some (zR o), some (zI pn), some (zI ic), some (zI ei), some (zI g), some (zI h), some (zI p), some (zI cl), some (zI srt), some (zJ was), none, some (zI (n : Int)), some (zI (f : Int)), none, none, none]) rfl ?_
    refine zp_iload (i := 12) dL_law_680 rfl ?_
    refine zp_if_lt (tgt := 737) dL_law_682 (by decide) (fun h682 => absurd h682 (by omega)) (fun h682 => ?_)
    refine zp_aload_n (i := 1) dL_law_685 rfl rfl ?_
    refine zp_iconst (v := 2) dL_law_686 rfl (z32_lit (by decide) (by decide)) ?_
    refine zp_iconst (v := 1) dL_law_687 rfl (z32_lit (by decide) (by decide)) ?_
    refine zp_iload (i := 13) dL_law_688 rfl ?_
    refine zp_iconst (v := 0) dL_law_690 rfl (z32_lit (by decide) (by decide)) ?_
    refine zp_iconst (v := 0) dL_law_691 rfl (z32_lit (by decide) (by decide)) ?_
    refine zp_iconst (v := 0) dL_law_692 rfl (z32_lit (by decide) (by decide)) ?_
    refine zp_cl (d' := d + 14) (o := o) rfl dL_law_693 (Nat.le_of_ble_eq_true rfl) rfl (k_tm hW_10 hI_18 hst0 ⟨by omega, by omega⟩ (g_16 _ _ hy)) (fun r_19 S_20 w_21 q_22 hW_23 s_24 => ?_)
    obtain ⟨x1, x2⟩ := tm_2 q_22 g_14
    rw [x2] at hW_23
    rw [x1]
    refine zp_pc (pc1 := 696) rfl ?_
    refine zp_iload (i := 12) dL_law_696 rfl ?_
    refine zp_icmp_ne (tgt := 735) dL_law_698 (by decide) (fun h698 => absurd h698 (by omega)) (fun h698 => ?_)
    refine zp_aload_n (i := 1) dL_law_701 rfl rfl ?_
    refine zp_iconst (v := 4) dL_law_702 rfl (z32_lit (by decide) (by decide)) ?_
    refine zp_iload (i := 12) dL_law_703 rfl ?_
    refine zp_iconst (v := 0) dL_law_705 rfl (z32_lit (by decide) (by decide)) ?_
    refine zp_iconst (v := 0) dL_law_706 rfl (z32_lit (by decide) (by decide)) ?_
    refine zp_iconst (v := 0) dL_law_707 rfl (z32_lit (by decide) (by decide)) ?_
    refine zp_iconst (v := 0) dL_law_708 rfl (z32_lit (by decide) (by decide)) ?_
    obtain ⟨f2, y1, y2⟩ := k_po (d := d) (c := 0) (e1 := 0) (e2 := 0) hW_23 hI_18 hst0 ⟨by omega, by omega⟩ g_14 (Nat.succ_pos _)
    have y3 : f2 = f := nd_inj g_15 y1 (g_16 _ _ hy)
    subst y3
    refine zp_cl (d' := d + 14) (o := o) rfl dL_law_709 (Nat.le_of_ble_eq_true rfl) rfl (y2) (fun r_25 S_26 w_27 q_28 hW_29 s_30 => ?_)
    obtain ⟨x3, x4⟩ := q_28
    subst x3
    rw [x4] at hW_29
    refine zp_st (st1 := [zI (f2 : Int)]) rfl ?_
    refine zp_pc (pc1 := 712) rfl ?_
    refine zp_iload (i := 13) dL_law_712 rfl ?_
    refine zp_icmp_ne (tgt := 735) dL_law_714 (by decide) (fun h714 => absurd h714 (by omega)) (fun h714 => ?_)
    refine zp_aload_n (i := 1) dL_law_717 rfl rfl ?_
    refine zp_iload (i := 12) dL_law_718 rfl ?_
    refine zp_sz (d := d + 1) rfl dL_law_720 hW_29 g_14 (Nat.le_of_ble_eq_true rfl) rfl ?_
    refine zp_pc (pc1 := 723) rfl ?_
    refine zp_aload_n (i := 1) dL_law_723 rfl rfl ?_
    refine zp_iload (i := 13) dL_law_724 rfl ?_
    refine zp_fitst (fun hfit => ?_)
    have hz64 : z64 (((y.1 + 1 : Nat) : Int) + 1) := hfit (zJ (((y.1 + 1 : Nat) : Int) + 1)) (List.mem_cons_of_mem _ (List.mem_cons_of_mem _ (List.mem_cons_self ..)))
    refine zp_sz (d := d + 1) rfl dL_law_726 hW_29 (g_16 _ _ hy) (Nat.le_of_ble_eq_true rfl) rfl ?_
    refine zp_pc (pc1 := 729) rfl ?_
    refine zp_lconst (v := 1) dL_law_729 (by decide +kernel) ⟨by decide, by decide⟩ ?_
    refine zp_ladd (v := ((y.1 + 1 : Nat) : Int) + 1) dL_law_730 (by rw [zwl_id ⟨by have := hz64.1; omega, by have := hz64.2; omega⟩]; omega) ?_
    refine zp_lcmp0 dL_law_731 ?_
    refine zp_if_eq (tgt := 737) dL_law_732 (by decide) (fun h732 => ?_) (fun h732 => absurd (by decide) h732)
    refine zp_goto (tgt := 928) dL_law_737 (by decide) ?_
    refine zp_Lw (L1 := [some (zR sa), some (zR o), some (zI pn), some (zI ic), some (zI ei), none, none, none, none, none, some (zJ was), none, some (zI (n : Int)), none, none, none, none]) ⟨Or.inr rfl, Or.inr rfl, Or.inr rfl, Or.inr rfl, Or.inr rfl, Or.inl rfl, Or.inl rfl, Or.inl rfl, Or.inl rfl, Or.inl rfl, Or.inr rfl, Or.inr rfl, Or.inr rfl, Or.inl rfl, Or.inr rfl, Or.inr rfl, Or.inr rfl, trivial⟩ ?_
    exact kk S_7 _ _ _ w_27 (whW_le hW_29 (by omega) (by omega)) hI_18 (by omega) (by omega) (Or.inl (by omega))
  · rw [g_14] at hW_10 hI_18
    refine zp_pc (pc1 := 678) rfl ?_
    refine zp_istore (i := 12) dL_law_678 (by decide) rfl ?_
    refine zp_L (L1 := [some (zR sa), some (zR o), some (zI pn), some (zI ic), some (zI ei), some (zI g), some (zI h), some (zI p), some (zI cl), some (zI srt), some (zJ was), none, some (zI (rvN r_6)), some (zI (f : Int)), none, none, none]) rfl ?_
    refine zp_iload (i := 12) dL_law_680 rfl ?_
    refine zp_if_lt (tgt := 737) dL_law_682 (by decide) (fun h682 => ?_) (fun h682 => absurd (by omega) h682)
    refine zp_goto (tgt := 928) dL_law_737 (by decide) ?_
    refine zp_Lw (L1 := [some (zR sa), some (zR o), some (zI pn), some (zI ic), some (zI ei), none, none, none, none, none, some (zJ was), none, some (zI (rvN r_6)), none, none, none, none]) ⟨Or.inr rfl, Or.inr rfl, Or.inr rfl, Or.inr rfl, Or.inr rfl, Or.inl rfl, Or.inl rfl, Or.inl rfl, Or.inl rfl, Or.inl rfl, Or.inr rfl, Or.inr rfl, Or.inr rfl, Or.inl rfl, Or.inr rfl, Or.inr rfl, Or.inr rfl, trivial⟩ ?_
    exact kk S _ _ _ w_8 (whW_le hW_10 (by omega) (by omega)) hI_18 (by omega) (by omega) (Or.inr rfl)
theorem ev_14 (hI : lwI e S) (he : e ≤ 60) (hst0 : G.1.stackTraces = false) (hW : whW w o k1 k2 S) (hk : k1 + 30000 + 6000000 ≤ 60 * G.2.2.2.2.1 ∧ k2 + 3400 + 6830000 ≤ G.2.2.2.2.2) (hpn : pn = (S.2.2.1.2.2.1.1.length : Int)) (hic : ic = S.2.2.2.1.1) (hs : 13 < srt) {pN : Nat} (kk : evK X G d av w0 Q sa o ei was S e k1 k2) : zXp X G zm_L_law (d + 15) av w0 Q 270 [some (zR sa), some (zR o), some (zI pn), some (zI ic), some (zI ei), some (zI g), some (zI h), some (zI (pN : Int)), some (zI cl), some (zI srt), some (zJ was), none, some (zI 0), none, none, none, none] [] w := by
  have hp5 := (lwI_p5 hI)
  have ht := whW_tm hW
  have ht3 := hI.2.1
  have hc01 := hI.2.2.2.1
  have z0 : 0 ≤ (0 : Int) ∧ (0 : Int) < (S.2.1.length : Int) := ⟨Int.le_refl 0, by omega⟩
  refine zp_iload (i := 9) dL_law_270 rfl ?_
  refine zp_if_ne (tgt := 331) dL_law_272 (by decide) (fun h272 => ?_) (fun h272 => absurd (by omega) h272)
  refine zp_iload (i := 9) dL_law_331 rfl ?_
  refine zp_iconst (v := 3) dL_law_333 rfl (z32_lit (by decide) (by decide)) ?_
  refine zp_icmp_ge (tgt := 393) dL_law_334 (by decide) (fun h334 => ?_) (fun h334 => absurd (by omega) h334)
  refine zp_iload (i := 9) dL_law_393 rfl ?_
  refine zp_iconst (v := 3) dL_law_395 rfl (z32_lit (by decide) (by decide)) ?_
  refine zp_icmp_ne (tgt := 416) dL_law_396 (by decide) (fun h396 => ?_) (fun h396 => absurd (by omega) h396)
  refine zp_iload (i := 9) dL_law_416 rfl ?_
  refine zp_bipush (v := 7) dL_law_418 (by decide +kernel) (z32_lit (by decide) (by decide)) ?_
  refine zp_icmp_ge (tgt := 474) dL_law_420 (by decide) (fun h420 => ?_) (fun h420 => absurd (by omega) h420)
  refine zp_pc (pc1 := 474) rfl ?_
  refine zp_iload (i := 9) dL_law_474 rfl ?_
  refine zp_bipush (v := 7) dL_law_476 (by decide +kernel) (z32_lit (by decide) (by decide)) ?_
  refine zp_icmp_ne (tgt := 510) dL_law_478 (by decide) (fun h478 => ?_) (fun h478 => absurd (by omega) h478)
  refine zp_iload (i := 9) dL_law_510 rfl ?_
  refine zp_bipush (v := 10) dL_law_512 (by decide +kernel) (z32_lit (by decide) (by decide)) ?_
  refine zp_icmp_ge (tgt := 571) dL_law_514 (by decide) (fun h514 => ?_) (fun h514 => absurd (by omega) h514)
  refine zp_iload (i := 9) dL_law_571 rfl ?_
  refine zp_bipush (v := 10) dL_law_573 (by decide +kernel) (z32_lit (by decide) (by decide)) ?_
  refine zp_icmp_ne (tgt := 609) dL_law_575 (by decide) (fun h575 => ?_) (fun h575 => absurd (by omega) h575)
  refine zp_iload (i := 9) dL_law_609 rfl ?_
  refine zp_bipush (v := 11) dL_law_611 (by decide +kernel) (z32_lit (by decide) (by decide)) ?_
  refine zp_icmp_ne (tgt := 647) dL_law_613 (by decide) (fun h613 => ?_) (fun h613 => absurd (by omega) h613)
  refine zp_pc (pc1 := 647) rfl ?_
  refine zp_iload (i := 9) dL_law_647 rfl ?_
  refine zp_bipush (v := 14) dL_law_649 (by decide +kernel) (z32_lit (by decide) (by decide)) ?_
  refine zp_icmp_ge (tgt := 740) dL_law_651 (by decide) (fun h651 => ?_) (fun h651 => absurd (by omega) h651)
  refine zp_iload (i := 6) dL_law_740 rfl ?_
  refine zp_iconst (v := 2) dL_law_742 rfl (z32_lit (by decide) (by decide)) ?_
  refine zp_is6 (As := [zI h, zI 2]) (st := []) (v := some (zI (zrem (zand h 2147483647) 2))) (w1 := w) dL_law_743 zc_L_142 rfl (Nat.le_of_ble_eq_true rfl) rfl (c_L_low (d := d + 14) (by decide)) ?_
  refine zp_st (st1 := [zI (zrem (zand h 2147483647) 2)]) rfl ?_
  obtain ⟨mm, e_mm⟩ : ∃ q : Nat, (zrem (zand h 2147483647) 2) = (q : Int) := ⟨Int.toNat ((zrem (zand h 2147483647) 2)), (Int.toNat_of_nonneg (zlow_r (v := h) (n := 2) (by decide) (by decide)).1).symm⟩
  have l_mm := (zlow_r (v := h) (n := 2) (by decide) (by decide)).2
  rw [e_mm] at l_mm
  refine zp_st (st1 := [zI (mm : Int)]) (by rw [e_mm]) ?_
  refine zp_istore (i := 13) dL_law_746 (by decide) rfl ?_
  refine zp_L (L1 := [some (zR sa), some (zR o), some (zI pn), some (zI ic), some (zI ei), some (zI g), some (zI h), some (zI (pN : Int)), some (zI cl), some (zI srt), some (zJ was), none, some (zI 0), some (zI (mm : Int)), none, none, none]) rfl ?_
  refine zp_iload (i := 6) dL_law_748 rfl ?_
  refine zp_iconst (v := 1) dL_law_750 rfl (z32_lit (by decide) (by decide)) ?_
  refine zp_ishr (v := zshr h 1) dL_law_751 rfl ?_
  refine zp_aload_n (i := 1) dL_law_752 rfl rfl ?_
  obtain ⟨of_1, ho_2⟩ := whW_o hW
  refine zp_te (d := d + 1) (o := o) rfl dL_law_753 hW ho_2 (Nat.le_of_ble_eq_true rfl) rfl (fun w_3 hW_4 s_5 => ?_)
  refine zp_pc (pc1 := 756) rfl ?_
  refine zp_is6 (As := [zI (zshr h 1), zI (S.2.1.length : Int)]) (st := []) (v := some (zI (zrem (zand (zshr h 1) 2147483647) (S.2.1.length : Int)))) (w1 := w_3) dL_law_756 zc_L_142 rfl (Nat.le_of_ble_eq_true rfl) rfl (c_L_low (d := d + 14) (by omega)) ?_
  refine zp_st (st1 := [zI (zrem (zand (zshr h 1) 2147483647) (S.2.1.length : Int))]) rfl ?_
  refine zp_istore (i := 14) dL_law_759 (by decide) rfl ?_
  refine zp_L (L1 := [some (zR sa), some (zR o), some (zI pn), some (zI ic), some (zI ei), some (zI g), some (zI h), some (zI (pN : Int)), some (zI cl), some (zI srt), some (zJ was), none, some (zI 0), some (zI (mm : Int)), some (zI (zrem (zand (zshr h 1) 2147483647) (S.2.1.length : Int))), none, none]) rfl ?_
  refine zp_iload (i := 6) dL_law_761 rfl ?_
  refine zp_bipush (v := 6) dL_law_763 (by decide +kernel) (z32_lit (by decide) (by decide)) ?_
  refine zp_ishr (v := zshr h 6) dL_law_765 rfl ?_
  refine zp_aload_n (i := 1) dL_law_766 rfl rfl ?_
  obtain ⟨of_6, ho_7⟩ := whW_o hW_4
  refine zp_te (d := d + 1) (o := o) rfl dL_law_767 hW_4 ho_7 (Nat.le_of_ble_eq_true rfl) rfl (fun w_8 hW_9 s_10 => ?_)
  refine zp_pc (pc1 := 770) rfl ?_
  refine zp_is6 (As := [zI (zshr h 6), zI (S.2.1.length : Int)]) (st := []) (v := some (zI (zrem (zand (zshr h 6) 2147483647) (S.2.1.length : Int)))) (w1 := w_8) dL_law_770 zc_L_142 rfl (Nat.le_of_ble_eq_true rfl) rfl (c_L_low (d := d + 14) (by omega)) ?_
  refine zp_st (st1 := [zI (zrem (zand (zshr h 6) 2147483647) (S.2.1.length : Int))]) rfl ?_
  refine zp_istore (i := 15) dL_law_773 (by decide) rfl ?_
  refine zp_L (L1 := [some (zR sa), some (zR o), some (zI pn), some (zI ic), some (zI ei), some (zI g), some (zI h), some (zI (pN : Int)), some (zI cl), some (zI srt), some (zJ was), none, some (zI 0), some (zI (mm : Int)), some (zI (zrem (zand (zshr h 1) 2147483647) (S.2.1.length : Int))), some (zI (zrem (zand (zshr h 6) 2147483647) (S.2.1.length : Int))), none]) rfl ?_
  refine zp_iload (i := 6) dL_law_775 rfl ?_
  refine zp_bipush (v := 10) dL_law_777 (by decide +kernel) (z32_lit (by decide) (by decide)) ?_
  refine zp_ishr (v := zshr h 10) dL_law_779 rfl ?_
  refine zp_bipush (v := 9) dL_law_780 (by decide +kernel) (z32_lit (by decide) (by decide)) ?_
  refine zp_is6 (As := [zI (zshr h 10), zI 9]) (st := []) (v := some (zI (zrem (zand (zshr h 10) 2147483647) 9))) (w1 := w_8) dL_law_782 zc_L_142 rfl (Nat.le_of_ble_eq_true rfl) rfl (c_L_low (d := d + 14) (by decide)) ?_
  refine zp_st (st1 := [zI (zrem (zand (zshr h 10) 2147483647) 9)]) rfl ?_
  refine zp_if_le (tgt := 792) dL_law_785 (by decide) (fun h785 => ?_) (fun h785 => ?_)
  · refine zp_iconst (v := 0) dL_law_792 rfl (z32_lit (by decide) (by decide)) ?_
    refine zp_istore (i := 16) dL_law_793 (by decide) rfl ?_
    refine zp_L (L1 := [some (zR sa), some (zR o), some (zI pn), some (zI ic), some (zI ei), some (zI g), some (zI h), some (zI (pN : Int)), some (zI cl), some (zI srt), some (zJ was), none, some (zI 0), some (zI (mm : Int)), some (zI (zrem (zand (zshr h 1) 2147483647) (S.2.1.length : Int))), some (zI (zrem (zand (zshr h 6) 2147483647) (S.2.1.length : Int))), some (zI 0)]) rfl ?_
    refine zp_aload_n (i := 1) dL_law_795 rfl rfl ?_
    refine zp_bipush (v := 19) dL_law_796 (by decide +kernel) (z32_lit (by decide) (by decide)) ?_
    refine zp_iload (i := 7) dL_law_798 rfl ?_
    refine zp_iload (i := 13) dL_law_800 rfl ?_
    refine zp_iload (i := 14) dL_law_802 rfl ?_
    refine zp_iload (i := 15) dL_law_804 rfl ?_
    refine zp_iconst (v := 0) dL_law_806 rfl (z32_lit (by decide) (by decide)) ?_
    refine zp_cl (d' := d + 14) (o := o) rfl dL_law_807 (Nat.le_of_ble_eq_true rfl) rfl (k_ask hW_9 hI hst0 ⟨by omega, by omega⟩ (by omega) (zlow_r (v := zshr h 1) (n := (S.2.1.length : Int)) (by omega) (by omega)) (zlow_r (v := zshr h 6) (n := (S.2.1.length : Int)) (by omega) (by omega))) (fun r_11 S_12 w_13 q_14 hW_15 s_16 => ?_)
    rcases ask_st hI q_14 with ⟨n_17, e_18⟩ | ⟨g_19, e_18, hI_20⟩
    · subst e_18
      refine zp_st (st1 := [zI (n_17 : Int)]) rfl ?_
      refine zp_pc (pc1 := 810) rfl ?_
      refine zp_istore (i := 12) dL_law_810 (by decide) rfl ?_
      refine zp_L (L1 := [some (zR sa), some (zR o), some (zI pn), some (zI ic), some (zI ei), some (zI g), some (zI h), some (zI (pN : Int)), some (zI cl), some (zI srt), some (zJ was), none, some (zI (n_17 : Int)), some (zI (mm : Int)), some (zI (zrem (zand (zshr h 1) 2147483647) (S.2.1.length : Int))), some (zI (zrem (zand (zshr h 6) 2147483647) (S.2.1.length : Int))), some (zI 0)]) rfl ?_
      refine zp_iload (i := 12) dL_law_812 rfl ?_
      refine zp_sipush (v := -1002) dL_law_814 (by decide +kernel) (z32_lit (by decide) (by decide)) ?_
      refine zp_icmp_ne (tgt := 837) dL_law_817 (by decide) (fun h817 => ?_) (fun h817 => absurd (by omega) h817)
      refine zp_iload (i := 12) dL_law_837 rfl ?_
      refine zp_istore (i := 12) dL_law_839 (by decide) rfl ?_
      refine zp_L (L1 := [some (zR sa), some (zR o), some (zI pn), some (zI ic), some (zI ei), some (zI g), some (zI h), some (zI (pN : Int)), some (zI cl), some (zI srt), some (zJ was), none, some (zI (n_17 : Int)), some (zI (mm : Int)), some (zI (zrem (zand (zshr h 1) 2147483647) (S.2.1.length : Int))), some (zI (zrem (zand (zshr h 6) 2147483647) (S.2.1.length : Int))), some (zI 0)]) rfl ?_
      refine zp_iload (i := 12) dL_law_841 rfl ?_
      refine zp_sipush (v := -1002) dL_law_843 (by decide +kernel) (z32_lit (by decide) (by decide)) ?_
      refine zp_icmp_ne (tgt := 871) dL_law_846 (by decide) (fun h846 => ?_) (fun h846 => absurd (by omega) h846)
      refine zp_iload (i := 12) dL_law_871 rfl ?_
      refine zp_istore (i := 12) dL_law_873 (by decide) rfl ?_
      refine zp_L (L1 := [some (zR sa), some (zR o), some (zI pn), some (zI ic), some (zI ei), some (zI g), some (zI h), some (zI (pN : Int)), some (zI cl), some (zI srt), some (zJ was), none, some (zI (n_17 : Int)), some (zI (mm : Int)), some (zI (zrem (zand (zshr h 1) 2147483647) (S.2.1.length : Int))), some (zI (zrem (zand (zshr h 6) 2147483647) (S.2.1.length : Int))), some (zI 0)]) rfl ?_
      refine zp_pc (pc1 := 875) rfl ?_
      refine zp_iload (i := 12) dL_law_875 rfl ?_
      refine zp_sipush (v := -1002) dL_law_877 (by decide +kernel) (z32_lit (by decide) (by decide)) ?_
      refine zp_icmp_ne (tgt := 904) dL_law_880 (by decide) (fun h880 => ?_) (fun h880 => absurd (by omega) h880)
      refine zp_iload (i := 12) dL_law_904 rfl ?_
      refine zp_istore (i := 12) dL_law_906 (by decide) rfl ?_
      refine zp_L (L1 := [some (zR sa), some (zR o), some (zI pn), some (zI ic), some (zI ei), some (zI g), some (zI h), some (zI (pN : Int)), some (zI cl), some (zI srt), some (zJ was), none, some (zI (n_17 : Int)), some (zI (mm : Int)), some (zI (zrem (zand (zshr h 1) 2147483647) (S.2.1.length : Int))), some (zI (zrem (zand (zshr h 6) 2147483647) (S.2.1.length : Int))), some (zI 0)]) rfl ?_
      refine zp_iload (i := 12) dL_law_908 rfl ?_
      refine zp_if_lt (tgt := 928) dL_law_910 (by decide) (fun h910 => absurd h910 (by omega)) (fun h910 => ?_)
      refine zp_aload_n (i := 1) dL_law_913 rfl rfl ?_
      refine zp_iload (i := 7) dL_law_914 rfl ?_
      refine zp_iload (i := 13) dL_law_916 rfl ?_
      refine zp_iload (i := 12) dL_law_918 rfl ?_
      refine zp_hol (d := d) rfl dL_law_920 hI q_14 hW_15 hst0 ⟨by omega, by omega⟩ (Nat.le_of_ble_eq_true rfl) rfl (fun S_21 w_22 hW_23 hI_24 j_25 j_26 => ?_)
      have gl : S_21.2.2.1.2.2.1.1.length = S.2.2.1.2.2.1.1.length := by rw [j_25]
      refine zp_pc (pc1 := 923) rfl ?_
      refine zp_if_ne (tgt := 928) dL_law_923 (by decide) (fun h923 => ?_) (fun h923 => absurd (by decide) h923)
      refine zp_Lw (L1 := [some (zR sa), some (zR o), some (zI pn), some (zI ic), some (zI ei), none, none, none, none, none, some (zJ was), none, some (zI (n_17 : Int)), none, none, none, none]) ⟨Or.inr rfl, Or.inr rfl, Or.inr rfl, Or.inr rfl, Or.inr rfl, Or.inl rfl, Or.inl rfl, Or.inl rfl, Or.inl rfl, Or.inl rfl, Or.inr rfl, Or.inr rfl, Or.inr rfl, Or.inl rfl, Or.inl rfl, Or.inl rfl, Or.inl rfl, trivial⟩ ?_
      exact kk S_21 _ _ _ w_22 (whW_le hW_23 (by omega) (by omega)) hI_24 (by omega) (by omega) (Or.inl (by omega))
    · rw [e_18] at hW_15 hI_20
      refine zp_pc (pc1 := 810) rfl ?_
      refine zp_istore (i := 12) dL_law_810 (by decide) rfl ?_
      refine zp_L (L1 := [some (zR sa), some (zR o), some (zI pn), some (zI ic), some (zI ei), some (zI g), some (zI h), some (zI (pN : Int)), some (zI cl), some (zI srt), some (zJ was), none, some (zI (rvN r_11)), some (zI (mm : Int)), some (zI (zrem (zand (zshr h 1) 2147483647) (S.2.1.length : Int))), some (zI (zrem (zand (zshr h 6) 2147483647) (S.2.1.length : Int))), some (zI 0)]) rfl ?_
      refine zp_iload (i := 12) dL_law_812 rfl ?_
      refine zp_sipush (v := -1002) dL_law_814 (by decide +kernel) (z32_lit (by decide) (by decide)) ?_
      refine zp_icmp_ne (tgt := 837) dL_law_817 (by decide) (fun h817 => ?_) (fun h817 => ?_)
      · refine zp_iload (i := 12) dL_law_837 rfl ?_
        refine zp_istore (i := 12) dL_law_839 (by decide) rfl ?_
        refine zp_L (L1 := [some (zR sa), some (zR o), some (zI pn), some (zI ic), some (zI ei), some (zI g), some (zI h), some (zI (pN : Int)), some (zI cl), some (zI srt), some (zJ was), none, some (zI (rvN r_11)), some (zI (mm : Int)), some (zI (zrem (zand (zshr h 1) 2147483647) (S.2.1.length : Int))), some (zI (zrem (zand (zshr h 6) 2147483647) (S.2.1.length : Int))), some (zI 0)]) rfl ?_
        refine zp_iload (i := 12) dL_law_841 rfl ?_
        refine zp_sipush (v := -1002) dL_law_843 (by decide +kernel) (z32_lit (by decide) (by decide)) ?_
        refine zp_icmp_ne (tgt := 871) dL_law_846 (by decide) (fun h846 => ?_) (fun h846 => absurd (by omega) h846)
        refine zp_iload (i := 12) dL_law_871 rfl ?_
        refine zp_istore (i := 12) dL_law_873 (by decide) rfl ?_
        refine zp_L (L1 := [some (zR sa), some (zR o), some (zI pn), some (zI ic), some (zI ei), some (zI g), some (zI h), some (zI (pN : Int)), some (zI cl), some (zI srt), some (zJ was), none, some (zI (rvN r_11)), some (zI (mm : Int)), some (zI (zrem (zand (zshr h 1) 2147483647) (S.2.1.length : Int))), some (zI (zrem (zand (zshr h 6) 2147483647) (S.2.1.length : Int))), some (zI 0)]) rfl ?_
        refine zp_iload (i := 12) dL_law_875 rfl ?_
        refine zp_sipush (v := -1002) dL_law_877 (by decide +kernel) (z32_lit (by decide) (by decide)) ?_
        refine zp_icmp_ne (tgt := 904) dL_law_880 (by decide) (fun h880 => ?_) (fun h880 => absurd (by omega) h880)
        refine zp_iload (i := 12) dL_law_904 rfl ?_
        refine zp_pc (pc1 := 906) rfl ?_
        refine zp_istore (i := 12) dL_law_906 (by decide) rfl ?_
        refine zp_L (L1 := [some (zR sa), some (zR o), some (zI pn), some (zI ic), some (zI ei), some (zI g), some (zI h), some (zI (pN : Int)), some (zI cl), some (zI srt), some (zJ was), none, some (zI (rvN r_11)), some (zI (mm : Int)), some (zI (zrem (zand (zshr h 1) 2147483647) (S.2.1.length : Int))), some (zI (zrem (zand (zshr h 6) 2147483647) (S.2.1.length : Int))), some (zI 0)]) rfl ?_
        refine zp_iload (i := 12) dL_law_908 rfl ?_
        refine zp_if_lt (tgt := 928) dL_law_910 (by decide) (fun h910 => ?_) (fun h910 => absurd (by omega) h910)
        refine zp_Lw (L1 := [some (zR sa), some (zR o), some (zI pn), some (zI ic), some (zI ei), none, none, none, none, none, some (zJ was), none, some (zI (rvN r_11)), none, none, none, none]) ⟨Or.inr rfl, Or.inr rfl, Or.inr rfl, Or.inr rfl, Or.inr rfl, Or.inl rfl, Or.inl rfl, Or.inl rfl, Or.inl rfl, Or.inl rfl, Or.inr rfl, Or.inr rfl, Or.inr rfl, Or.inl rfl, Or.inl rfl, Or.inl rfl, Or.inl rfl, trivial⟩ ?_
        exact kk S _ _ _ w_13 (whW_le hW_15 (by omega) (by omega)) hI_20 (by omega) (by omega) (Or.inr rfl)
      · refine zp_aload_n (i := 1) dL_law_820 rfl rfl ?_
        refine zp_bipush (v := 19) dL_law_821 (by decide +kernel) (z32_lit (by decide) (by decide)) ?_
        refine zp_iload (i := 7) dL_law_823 rfl ?_
        refine zp_iload (i := 13) dL_law_825 rfl ?_
        refine zp_iload (i := 14) dL_law_827 rfl ?_
        refine zp_iconst (v := 0) dL_law_829 rfl (z32_lit (by decide) (by decide)) ?_
        refine zp_iconst (v := 0) dL_law_830 rfl (z32_lit (by decide) (by decide)) ?_
        refine zp_cl (d' := d + 14) (o := o) rfl dL_law_831 (Nat.le_of_ble_eq_true rfl) rfl (k_ask hW_15 hI hst0 ⟨by omega, by omega⟩ (by omega) (zlow_r (v := zshr h 1) (n := (S.2.1.length : Int)) (by omega) (by omega)) z0) (fun r_27 S_28 w_29 q_30 hW_31 s_32 => ?_)
        rcases ask_st hI q_30 with ⟨n_33, e_34⟩ | ⟨g_35, e_34, hI_36⟩
        · subst e_34
          refine zp_st (st1 := [zI (n_33 : Int)]) rfl ?_
          refine zp_pc (pc1 := 834) rfl ?_
          refine zp_goto (tgt := 839) dL_law_834 (by decide) ?_
          refine zp_istore (i := 12) dL_law_839 (by decide) rfl ?_
          refine zp_L (L1 := [some (zR sa), some (zR o), some (zI pn), some (zI ic), some (zI ei), some (zI g), some (zI h), some (zI (pN : Int)), some (zI cl), some (zI srt), some (zJ was), none, some (zI (n_33 : Int)), some (zI (mm : Int)), some (zI (zrem (zand (zshr h 1) 2147483647) (S.2.1.length : Int))), some (zI (zrem (zand (zshr h 6) 2147483647) (S.2.1.length : Int))), some (zI 0)]) rfl ?_
          refine zp_iload (i := 12) dL_law_841 rfl ?_
          refine zp_sipush (v := -1002) dL_law_843 (by decide +kernel) (z32_lit (by decide) (by decide)) ?_
          refine zp_icmp_ne (tgt := 871) dL_law_846 (by decide) (fun h846 => ?_) (fun h846 => absurd (by omega) h846)
          refine zp_iload (i := 12) dL_law_871 rfl ?_
          refine zp_istore (i := 12) dL_law_873 (by decide) rfl ?_
          refine zp_L (L1 := [some (zR sa), some (zR o), some (zI pn), some (zI ic), some (zI ei), some (zI g), some (zI h), some (zI (pN : Int)), some (zI cl), some (zI srt), some (zJ was), none, some (zI (n_33 : Int)), some (zI (mm : Int)), some (zI (zrem (zand (zshr h 1) 2147483647) (S.2.1.length : Int))), some (zI (zrem (zand (zshr h 6) 2147483647) (S.2.1.length : Int))), some (zI 0)]) rfl ?_
          refine zp_iload (i := 12) dL_law_875 rfl ?_
          refine zp_sipush (v := -1002) dL_law_877 (by decide +kernel) (z32_lit (by decide) (by decide)) ?_
          refine zp_icmp_ne (tgt := 904) dL_law_880 (by decide) (fun h880 => ?_) (fun h880 => absurd (by omega) h880)
          refine zp_iload (i := 12) dL_law_904 rfl ?_
          refine zp_pc (pc1 := 906) rfl ?_
          refine zp_istore (i := 12) dL_law_906 (by decide) rfl ?_
          refine zp_L (L1 := [some (zR sa), some (zR o), some (zI pn), some (zI ic), some (zI ei), some (zI g), some (zI h), some (zI (pN : Int)), some (zI cl), some (zI srt), some (zJ was), none, some (zI (n_33 : Int)), some (zI (mm : Int)), some (zI (zrem (zand (zshr h 1) 2147483647) (S.2.1.length : Int))), some (zI (zrem (zand (zshr h 6) 2147483647) (S.2.1.length : Int))), some (zI 0)]) rfl ?_
          refine zp_iload (i := 12) dL_law_908 rfl ?_
          refine zp_if_lt (tgt := 928) dL_law_910 (by decide) (fun h910 => absurd h910 (by omega)) (fun h910 => ?_)
          refine zp_aload_n (i := 1) dL_law_913 rfl rfl ?_
          refine zp_iload (i := 7) dL_law_914 rfl ?_
          refine zp_iload (i := 13) dL_law_916 rfl ?_
          refine zp_iload (i := 12) dL_law_918 rfl ?_
          refine zp_hol (d := d) rfl dL_law_920 hI q_30 hW_31 hst0 ⟨by omega, by omega⟩ (Nat.le_of_ble_eq_true rfl) rfl (fun S_37 w_38 hW_39 hI_40 j_41 j_42 => ?_)
          have gl : S_37.2.2.1.2.2.1.1.length = S.2.2.1.2.2.1.1.length := by rw [j_41]
          refine zp_pc (pc1 := 923) rfl ?_
          refine zp_if_ne (tgt := 928) dL_law_923 (by decide) (fun h923 => ?_) (fun h923 => absurd (by decide) h923)
          refine zp_Lw (L1 := [some (zR sa), some (zR o), some (zI pn), some (zI ic), some (zI ei), none, none, none, none, none, some (zJ was), none, some (zI (n_33 : Int)), none, none, none, none]) ⟨Or.inr rfl, Or.inr rfl, Or.inr rfl, Or.inr rfl, Or.inr rfl, Or.inl rfl, Or.inl rfl, Or.inl rfl, Or.inl rfl, Or.inl rfl, Or.inr rfl, Or.inr rfl, Or.inr rfl, Or.inl rfl, Or.inl rfl, Or.inl rfl, Or.inl rfl, trivial⟩ ?_
          exact kk S_37 _ _ _ w_38 (whW_le hW_39 (by omega) (by omega)) hI_40 (by omega) (by omega) (Or.inl (by omega))
        · rw [e_34] at hW_31 hI_36
          refine zp_pc (pc1 := 834) rfl ?_
          refine zp_goto (tgt := 839) dL_law_834 (by decide) ?_
          refine zp_istore (i := 12) dL_law_839 (by decide) rfl ?_
          refine zp_L (L1 := [some (zR sa), some (zR o), some (zI pn), some (zI ic), some (zI ei), some (zI g), some (zI h), some (zI (pN : Int)), some (zI cl), some (zI srt), some (zJ was), none, some (zI (rvN r_27)), some (zI (mm : Int)), some (zI (zrem (zand (zshr h 1) 2147483647) (S.2.1.length : Int))), some (zI (zrem (zand (zshr h 6) 2147483647) (S.2.1.length : Int))), some (zI 0)]) rfl ?_
          refine zp_iload (i := 12) dL_law_841 rfl ?_
          refine zp_sipush (v := -1002) dL_law_843 (by decide +kernel) (z32_lit (by decide) (by decide)) ?_
          refine zp_icmp_ne (tgt := 871) dL_law_846 (by decide) (fun h846 => ?_) (fun h846 => ?_)
          · refine zp_iload (i := 12) dL_law_871 rfl ?_
            refine zp_istore (i := 12) dL_law_873 (by decide) rfl ?_
            refine zp_L (L1 := [some (zR sa), some (zR o), some (zI pn), some (zI ic), some (zI ei), some (zI g), some (zI h), some (zI (pN : Int)), some (zI cl), some (zI srt), some (zJ was), none, some (zI (rvN r_27)), some (zI (mm : Int)), some (zI (zrem (zand (zshr h 1) 2147483647) (S.2.1.length : Int))), some (zI (zrem (zand (zshr h 6) 2147483647) (S.2.1.length : Int))), some (zI 0)]) rfl ?_
            refine zp_iload (i := 12) dL_law_875 rfl ?_
            refine zp_sipush (v := -1002) dL_law_877 (by decide +kernel) (z32_lit (by decide) (by decide)) ?_
            refine zp_icmp_ne (tgt := 904) dL_law_880 (by decide) (fun h880 => ?_) (fun h880 => absurd (by omega) h880)
            refine zp_iload (i := 12) dL_law_904 rfl ?_
            refine zp_istore (i := 12) dL_law_906 (by decide) rfl ?_
            refine zp_L (L1 := [some (zR sa), some (zR o), some (zI pn), some (zI ic), some (zI ei), some (zI g), some (zI h), some (zI (pN : Int)), some (zI cl), some (zI srt), some (zJ was), none, some (zI (rvN r_27)), some (zI (mm : Int)), some (zI (zrem (zand (zshr h 1) 2147483647) (S.2.1.length : Int))), some (zI (zrem (zand (zshr h 6) 2147483647) (S.2.1.length : Int))), some (zI 0)]) rfl ?_
            refine zp_iload (i := 12) dL_law_908 rfl ?_
            refine zp_if_lt (tgt := 928) dL_law_910 (by decide) (fun h910 => ?_) (fun h910 => absurd (by omega) h910)
            refine zp_Lw (L1 := [some (zR sa), some (zR o), some (zI pn), some (zI ic), some (zI ei), none, none, none, none, none, some (zJ was), none, some (zI (rvN r_27)), none, none, none, none]) ⟨Or.inr rfl, Or.inr rfl, Or.inr rfl, Or.inr rfl, Or.inr rfl, Or.inl rfl, Or.inl rfl, Or.inl rfl, Or.inl rfl, Or.inl rfl, Or.inr rfl, Or.inr rfl, Or.inr rfl, Or.inl rfl, Or.inl rfl, Or.inl rfl, Or.inl rfl, trivial⟩ ?_
            exact kk S _ _ _ w_29 (whW_le hW_31 (by omega) (by omega)) hI_36 (by omega) (by omega) (Or.inr rfl)
          · refine zp_iload (i := 16) dL_law_849 rfl ?_
            refine zp_if_eq (tgt := 871) dL_law_851 (by decide) (fun h851 => ?_) (fun h851 => absurd (by decide) h851)
            refine zp_iload (i := 12) dL_law_871 rfl ?_
            refine zp_istore (i := 12) dL_law_873 (by decide) rfl ?_
            refine zp_L (L1 := [some (zR sa), some (zR o), some (zI pn), some (zI ic), some (zI ei), some (zI g), some (zI h), some (zI (pN : Int)), some (zI cl), some (zI srt), some (zJ was), none, some (zI (rvN r_27)), some (zI (mm : Int)), some (zI (zrem (zand (zshr h 1) 2147483647) (S.2.1.length : Int))), some (zI (zrem (zand (zshr h 6) 2147483647) (S.2.1.length : Int))), some (zI 0)]) rfl ?_
            refine zp_iload (i := 12) dL_law_875 rfl ?_
            refine zp_sipush (v := -1002) dL_law_877 (by decide +kernel) (z32_lit (by decide) (by decide)) ?_
            refine zp_icmp_ne (tgt := 904) dL_law_880 (by decide) (fun h880 => absurd h880 (by omega)) (fun h880 => ?_)
            refine zp_iload (i := 16) dL_law_883 rfl ?_
            refine zp_if_eq (tgt := 904) dL_law_885 (by decide) (fun h885 => ?_) (fun h885 => absurd (by decide) h885)
            refine zp_iload (i := 12) dL_law_904 rfl ?_
            refine zp_istore (i := 12) dL_law_906 (by decide) rfl ?_
            refine zp_L (L1 := [some (zR sa), some (zR o), some (zI pn), some (zI ic), some (zI ei), some (zI g), some (zI h), some (zI (pN : Int)), some (zI cl), some (zI srt), some (zJ was), none, some (zI (rvN r_27)), some (zI (mm : Int)), some (zI (zrem (zand (zshr h 1) 2147483647) (S.2.1.length : Int))), some (zI (zrem (zand (zshr h 6) 2147483647) (S.2.1.length : Int))), some (zI 0)]) rfl ?_
            refine zp_pc (pc1 := 908) rfl ?_
            refine zp_iload (i := 12) dL_law_908 rfl ?_
            refine zp_if_lt (tgt := 928) dL_law_910 (by decide) (fun h910 => ?_) (fun h910 => absurd (by omega) h910)
            refine zp_Lw (L1 := [some (zR sa), some (zR o), some (zI pn), some (zI ic), some (zI ei), none, none, none, none, none, some (zJ was), none, some (zI (rvN r_27)), none, none, none, none]) ⟨Or.inr rfl, Or.inr rfl, Or.inr rfl, Or.inr rfl, Or.inr rfl, Or.inl rfl, Or.inl rfl, Or.inl rfl, Or.inl rfl, Or.inl rfl, Or.inr rfl, Or.inr rfl, Or.inr rfl, Or.inl rfl, Or.inl rfl, Or.inl rfl, Or.inl rfl, trivial⟩ ?_
            exact kk S _ _ _ w_29 (whW_le hW_31 (by omega) (by omega)) hI_36 (by omega) (by omega) (Or.inr rfl)
  · refine zp_iconst (v := 1) dL_law_788 rfl (z32_lit (by decide) (by decide)) ?_
    refine zp_goto (tgt := 793) dL_law_789 (by decide) ?_
    refine zp_istore (i := 16) dL_law_793 (by decide) rfl ?_
    refine zp_L (L1 := [some (zR sa), some (zR o), some (zI pn), some (zI ic), some (zI ei), some (zI g), some (zI h), some (zI (pN : Int)), some (zI cl), some (zI srt), some (zJ was), none, some (zI 0), some (zI (mm : Int)), some (zI (zrem (zand (zshr h 1) 2147483647) (S.2.1.length : Int))), some (zI (zrem (zand (zshr h 6) 2147483647) (S.2.1.length : Int))), some (zI 1)]) rfl ?_
    refine zp_aload_n (i := 1) dL_law_795 rfl rfl ?_
    refine zp_bipush (v := 19) dL_law_796 (by decide +kernel) (z32_lit (by decide) (by decide)) ?_
    refine zp_iload (i := 7) dL_law_798 rfl ?_
    refine zp_iload (i := 13) dL_law_800 rfl ?_
    refine zp_iload (i := 14) dL_law_802 rfl ?_
    refine zp_iload (i := 15) dL_law_804 rfl ?_
    refine zp_iconst (v := 0) dL_law_806 rfl (z32_lit (by decide) (by decide)) ?_
    refine zp_cl (d' := d + 14) (o := o) rfl dL_law_807 (Nat.le_of_ble_eq_true rfl) rfl (k_ask hW_9 hI hst0 ⟨by omega, by omega⟩ (by omega) (zlow_r (v := zshr h 1) (n := (S.2.1.length : Int)) (by omega) (by omega)) (zlow_r (v := zshr h 6) (n := (S.2.1.length : Int)) (by omega) (by omega))) (fun r_43 S_44 w_45 q_46 hW_47 s_48 => ?_)
    rcases ask_st hI q_46 with ⟨n_49, e_50⟩ | ⟨g_51, e_50, hI_52⟩
    · subst e_50
      refine zp_st (st1 := [zI (n_49 : Int)]) rfl ?_
      refine zp_pc (pc1 := 810) rfl ?_
      refine zp_istore (i := 12) dL_law_810 (by decide) rfl ?_
      refine zp_L (L1 := [some (zR sa), some (zR o), some (zI pn), some (zI ic), some (zI ei), some (zI g), some (zI h), some (zI (pN : Int)), some (zI cl), some (zI srt), some (zJ was), none, some (zI (n_49 : Int)), some (zI (mm : Int)), some (zI (zrem (zand (zshr h 1) 2147483647) (S.2.1.length : Int))), some (zI (zrem (zand (zshr h 6) 2147483647) (S.2.1.length : Int))), some (zI 1)]) rfl ?_
      refine zp_iload (i := 12) dL_law_812 rfl ?_
      refine zp_sipush (v := -1002) dL_law_814 (by decide +kernel) (z32_lit (by decide) (by decide)) ?_
      refine zp_icmp_ne (tgt := 837) dL_law_817 (by decide) (fun h817 => ?_) (fun h817 => absurd (by omega) h817)
      refine zp_iload (i := 12) dL_law_837 rfl ?_
      refine zp_istore (i := 12) dL_law_839 (by decide) rfl ?_
      refine zp_L (L1 := [some (zR sa), some (zR o), some (zI pn), some (zI ic), some (zI ei), some (zI g), some (zI h), some (zI (pN : Int)), some (zI cl), some (zI srt), some (zJ was), none, some (zI (n_49 : Int)), some (zI (mm : Int)), some (zI (zrem (zand (zshr h 1) 2147483647) (S.2.1.length : Int))), some (zI (zrem (zand (zshr h 6) 2147483647) (S.2.1.length : Int))), some (zI 1)]) rfl ?_
      refine zp_iload (i := 12) dL_law_841 rfl ?_
      refine zp_sipush (v := -1002) dL_law_843 (by decide +kernel) (z32_lit (by decide) (by decide)) ?_
      refine zp_icmp_ne (tgt := 871) dL_law_846 (by decide) (fun h846 => ?_) (fun h846 => absurd (by omega) h846)
      refine zp_iload (i := 12) dL_law_871 rfl ?_
      refine zp_istore (i := 12) dL_law_873 (by decide) rfl ?_
      refine zp_L (L1 := [some (zR sa), some (zR o), some (zI pn), some (zI ic), some (zI ei), some (zI g), some (zI h), some (zI (pN : Int)), some (zI cl), some (zI srt), some (zJ was), none, some (zI (n_49 : Int)), some (zI (mm : Int)), some (zI (zrem (zand (zshr h 1) 2147483647) (S.2.1.length : Int))), some (zI (zrem (zand (zshr h 6) 2147483647) (S.2.1.length : Int))), some (zI 1)]) rfl ?_
      refine zp_pc (pc1 := 875) rfl ?_
      refine zp_iload (i := 12) dL_law_875 rfl ?_
      refine zp_sipush (v := -1002) dL_law_877 (by decide +kernel) (z32_lit (by decide) (by decide)) ?_
      refine zp_icmp_ne (tgt := 904) dL_law_880 (by decide) (fun h880 => ?_) (fun h880 => absurd (by omega) h880)
      refine zp_iload (i := 12) dL_law_904 rfl ?_
      refine zp_istore (i := 12) dL_law_906 (by decide) rfl ?_
      refine zp_L (L1 := [some (zR sa), some (zR o), some (zI pn), some (zI ic), some (zI ei), some (zI g), some (zI h), some (zI (pN : Int)), some (zI cl), some (zI srt), some (zJ was), none, some (zI (n_49 : Int)), some (zI (mm : Int)), some (zI (zrem (zand (zshr h 1) 2147483647) (S.2.1.length : Int))), some (zI (zrem (zand (zshr h 6) 2147483647) (S.2.1.length : Int))), some (zI 1)]) rfl ?_
      refine zp_iload (i := 12) dL_law_908 rfl ?_
      refine zp_if_lt (tgt := 928) dL_law_910 (by decide) (fun h910 => absurd h910 (by omega)) (fun h910 => ?_)
      refine zp_aload_n (i := 1) dL_law_913 rfl rfl ?_
      refine zp_iload (i := 7) dL_law_914 rfl ?_
      refine zp_iload (i := 13) dL_law_916 rfl ?_
      refine zp_iload (i := 12) dL_law_918 rfl ?_
      refine zp_hol (d := d) rfl dL_law_920 hI q_46 hW_47 hst0 ⟨by omega, by omega⟩ (Nat.le_of_ble_eq_true rfl) rfl (fun S_53 w_54 hW_55 hI_56 j_57 j_58 => ?_)
      have gl : S_53.2.2.1.2.2.1.1.length = S.2.2.1.2.2.1.1.length := by rw [j_57]
      refine zp_pc (pc1 := 923) rfl ?_
      refine zp_if_ne (tgt := 928) dL_law_923 (by decide) (fun h923 => ?_) (fun h923 => absurd (by decide) h923)
      refine zp_Lw (L1 := [some (zR sa), some (zR o), some (zI pn), some (zI ic), some (zI ei), none, none, none, none, none, some (zJ was), none, some (zI (n_49 : Int)), none, none, none, none]) ⟨Or.inr rfl, Or.inr rfl, Or.inr rfl, Or.inr rfl, Or.inr rfl, Or.inl rfl, Or.inl rfl, Or.inl rfl, Or.inl rfl, Or.inl rfl, Or.inr rfl, Or.inr rfl, Or.inr rfl, Or.inl rfl, Or.inl rfl, Or.inl rfl, Or.inl rfl, trivial⟩ ?_
      exact kk S_53 _ _ _ w_54 (whW_le hW_55 (by omega) (by omega)) hI_56 (by omega) (by omega) (Or.inl (by omega))
    · rw [e_50] at hW_47 hI_52
      refine zp_pc (pc1 := 810) rfl ?_
      refine zp_istore (i := 12) dL_law_810 (by decide) rfl ?_
      refine zp_L (L1 := [some (zR sa), some (zR o), some (zI pn), some (zI ic), some (zI ei), some (zI g), some (zI h), some (zI (pN : Int)), some (zI cl), some (zI srt), some (zJ was), none, some (zI (rvN r_43)), some (zI (mm : Int)), some (zI (zrem (zand (zshr h 1) 2147483647) (S.2.1.length : Int))), some (zI (zrem (zand (zshr h 6) 2147483647) (S.2.1.length : Int))), some (zI 1)]) rfl ?_
      refine zp_iload (i := 12) dL_law_812 rfl ?_
      refine zp_sipush (v := -1002) dL_law_814 (by decide +kernel) (z32_lit (by decide) (by decide)) ?_
      refine zp_icmp_ne (tgt := 837) dL_law_817 (by decide) (fun h817 => ?_) (fun h817 => ?_)
      · refine zp_iload (i := 12) dL_law_837 rfl ?_
        refine zp_istore (i := 12) dL_law_839 (by decide) rfl ?_
        refine zp_L (L1 := [some (zR sa), some (zR o), some (zI pn), some (zI ic), some (zI ei), some (zI g), some (zI h), some (zI (pN : Int)), some (zI cl), some (zI srt), some (zJ was), none, some (zI (rvN r_43)), some (zI (mm : Int)), some (zI (zrem (zand (zshr h 1) 2147483647) (S.2.1.length : Int))), some (zI (zrem (zand (zshr h 6) 2147483647) (S.2.1.length : Int))), some (zI 1)]) rfl ?_
        refine zp_iload (i := 12) dL_law_841 rfl ?_
        refine zp_sipush (v := -1002) dL_law_843 (by decide +kernel) (z32_lit (by decide) (by decide)) ?_
        refine zp_icmp_ne (tgt := 871) dL_law_846 (by decide) (fun h846 => ?_) (fun h846 => absurd (by omega) h846)
        refine zp_iload (i := 12) dL_law_871 rfl ?_
        refine zp_istore (i := 12) dL_law_873 (by decide) rfl ?_
        refine zp_L (L1 := [some (zR sa), some (zR o), some (zI pn), some (zI ic), some (zI ei), some (zI g), some (zI h), some (zI (pN : Int)), some (zI cl), some (zI srt), some (zJ was), none, some (zI (rvN r_43)), some (zI (mm : Int)), some (zI (zrem (zand (zshr h 1) 2147483647) (S.2.1.length : Int))), some (zI (zrem (zand (zshr h 6) 2147483647) (S.2.1.length : Int))), some (zI 1)]) rfl ?_
        refine zp_iload (i := 12) dL_law_875 rfl ?_
        refine zp_sipush (v := -1002) dL_law_877 (by decide +kernel) (z32_lit (by decide) (by decide)) ?_
        refine zp_icmp_ne (tgt := 904) dL_law_880 (by decide) (fun h880 => ?_) (fun h880 => absurd (by omega) h880)
        refine zp_iload (i := 12) dL_law_904 rfl ?_
        refine zp_pc (pc1 := 906) rfl ?_
        refine zp_istore (i := 12) dL_law_906 (by decide) rfl ?_
        refine zp_L (L1 := [some (zR sa), some (zR o), some (zI pn), some (zI ic), some (zI ei), some (zI g), some (zI h), some (zI (pN : Int)), some (zI cl), some (zI srt), some (zJ was), none, some (zI (rvN r_43)), some (zI (mm : Int)), some (zI (zrem (zand (zshr h 1) 2147483647) (S.2.1.length : Int))), some (zI (zrem (zand (zshr h 6) 2147483647) (S.2.1.length : Int))), some (zI 1)]) rfl ?_
        refine zp_iload (i := 12) dL_law_908 rfl ?_
        refine zp_if_lt (tgt := 928) dL_law_910 (by decide) (fun h910 => ?_) (fun h910 => absurd (by omega) h910)
        refine zp_Lw (L1 := [some (zR sa), some (zR o), some (zI pn), some (zI ic), some (zI ei), none, none, none, none, none, some (zJ was), none, some (zI (rvN r_43)), none, none, none, none]) ⟨Or.inr rfl, Or.inr rfl, Or.inr rfl, Or.inr rfl, Or.inr rfl, Or.inl rfl, Or.inl rfl, Or.inl rfl, Or.inl rfl, Or.inl rfl, Or.inr rfl, Or.inr rfl, Or.inr rfl, Or.inl rfl, Or.inl rfl, Or.inl rfl, Or.inl rfl, trivial⟩ ?_
        exact kk S _ _ _ w_45 (whW_le hW_47 (by omega) (by omega)) hI_52 (by omega) (by omega) (Or.inr rfl)
      · refine zp_aload_n (i := 1) dL_law_820 rfl rfl ?_
        refine zp_bipush (v := 19) dL_law_821 (by decide +kernel) (z32_lit (by decide) (by decide)) ?_
        refine zp_iload (i := 7) dL_law_823 rfl ?_
        refine zp_iload (i := 13) dL_law_825 rfl ?_
        refine zp_iload (i := 14) dL_law_827 rfl ?_
        refine zp_iconst (v := 0) dL_law_829 rfl (z32_lit (by decide) (by decide)) ?_
        refine zp_iconst (v := 0) dL_law_830 rfl (z32_lit (by decide) (by decide)) ?_
        refine zp_cl (d' := d + 14) (o := o) rfl dL_law_831 (Nat.le_of_ble_eq_true rfl) rfl (k_ask hW_47 hI hst0 ⟨by omega, by omega⟩ (by omega) (zlow_r (v := zshr h 1) (n := (S.2.1.length : Int)) (by omega) (by omega)) z0) (fun r_59 S_60 w_61 q_62 hW_63 s_64 => ?_)
        rcases ask_st hI q_62 with ⟨n_65, e_66⟩ | ⟨g_67, e_66, hI_68⟩
        · subst e_66
          refine zp_st (st1 := [zI (n_65 : Int)]) rfl ?_
          refine zp_pc (pc1 := 834) rfl ?_
          refine zp_goto (tgt := 839) dL_law_834 (by decide) ?_
          refine zp_istore (i := 12) dL_law_839 (by decide) rfl ?_
          refine zp_L (L1 := [some (zR sa), some (zR o), some (zI pn), some (zI ic), some (zI ei), some (zI g), some (zI h), some (zI (pN : Int)), some (zI cl), some (zI srt), some (zJ was), none, some (zI (n_65 : Int)), some (zI (mm : Int)), some (zI (zrem (zand (zshr h 1) 2147483647) (S.2.1.length : Int))), some (zI (zrem (zand (zshr h 6) 2147483647) (S.2.1.length : Int))), some (zI 1)]) rfl ?_
          refine zp_iload (i := 12) dL_law_841 rfl ?_
          refine zp_sipush (v := -1002) dL_law_843 (by decide +kernel) (z32_lit (by decide) (by decide)) ?_
          refine zp_icmp_ne (tgt := 871) dL_law_846 (by decide) (fun h846 => ?_) (fun h846 => absurd (by omega) h846)
          refine zp_iload (i := 12) dL_law_871 rfl ?_
          refine zp_istore (i := 12) dL_law_873 (by decide) rfl ?_
          refine zp_L (L1 := [some (zR sa), some (zR o), some (zI pn), some (zI ic), some (zI ei), some (zI g), some (zI h), some (zI (pN : Int)), some (zI cl), some (zI srt), some (zJ was), none, some (zI (n_65 : Int)), some (zI (mm : Int)), some (zI (zrem (zand (zshr h 1) 2147483647) (S.2.1.length : Int))), some (zI (zrem (zand (zshr h 6) 2147483647) (S.2.1.length : Int))), some (zI 1)]) rfl ?_
          refine zp_iload (i := 12) dL_law_875 rfl ?_
          refine zp_sipush (v := -1002) dL_law_877 (by decide +kernel) (z32_lit (by decide) (by decide)) ?_
          refine zp_icmp_ne (tgt := 904) dL_law_880 (by decide) (fun h880 => ?_) (fun h880 => absurd (by omega) h880)
          refine zp_iload (i := 12) dL_law_904 rfl ?_
          refine zp_pc (pc1 := 906) rfl ?_
          refine zp_istore (i := 12) dL_law_906 (by decide) rfl ?_
          refine zp_L (L1 := [some (zR sa), some (zR o), some (zI pn), some (zI ic), some (zI ei), some (zI g), some (zI h), some (zI (pN : Int)), some (zI cl), some (zI srt), some (zJ was), none, some (zI (n_65 : Int)), some (zI (mm : Int)), some (zI (zrem (zand (zshr h 1) 2147483647) (S.2.1.length : Int))), some (zI (zrem (zand (zshr h 6) 2147483647) (S.2.1.length : Int))), some (zI 1)]) rfl ?_
          refine zp_iload (i := 12) dL_law_908 rfl ?_
          refine zp_if_lt (tgt := 928) dL_law_910 (by decide) (fun h910 => absurd h910 (by omega)) (fun h910 => ?_)
          refine zp_aload_n (i := 1) dL_law_913 rfl rfl ?_
          refine zp_iload (i := 7) dL_law_914 rfl ?_
          refine zp_iload (i := 13) dL_law_916 rfl ?_
          refine zp_iload (i := 12) dL_law_918 rfl ?_
          refine zp_hol (d := d) rfl dL_law_920 hI q_62 hW_63 hst0 ⟨by omega, by omega⟩ (Nat.le_of_ble_eq_true rfl) rfl (fun S_69 w_70 hW_71 hI_72 j_73 j_74 => ?_)
          have gl : S_69.2.2.1.2.2.1.1.length = S.2.2.1.2.2.1.1.length := by rw [j_73]
          refine zp_pc (pc1 := 923) rfl ?_
          refine zp_if_ne (tgt := 928) dL_law_923 (by decide) (fun h923 => ?_) (fun h923 => absurd (by decide) h923)
          refine zp_Lw (L1 := [some (zR sa), some (zR o), some (zI pn), some (zI ic), some (zI ei), none, none, none, none, none, some (zJ was), none, some (zI (n_65 : Int)), none, none, none, none]) ⟨Or.inr rfl, Or.inr rfl, Or.inr rfl, Or.inr rfl, Or.inr rfl, Or.inl rfl, Or.inl rfl, Or.inl rfl, Or.inl rfl, Or.inl rfl, Or.inr rfl, Or.inr rfl, Or.inr rfl, Or.inl rfl, Or.inl rfl, Or.inl rfl, Or.inl rfl, trivial⟩ ?_
          exact kk S_69 _ _ _ w_70 (whW_le hW_71 (by omega) (by omega)) hI_72 (by omega) (by omega) (Or.inl (by omega))
        · rw [e_66] at hW_63 hI_68
          refine zp_pc (pc1 := 834) rfl ?_
          refine zp_goto (tgt := 839) dL_law_834 (by decide) ?_
          refine zp_istore (i := 12) dL_law_839 (by decide) rfl ?_
          refine zp_L (L1 := [some (zR sa), some (zR o), some (zI pn), some (zI ic), some (zI ei), some (zI g), some (zI h), some (zI (pN : Int)), some (zI cl), some (zI srt), some (zJ was), none, some (zI (rvN r_59)), some (zI (mm : Int)), some (zI (zrem (zand (zshr h 1) 2147483647) (S.2.1.length : Int))), some (zI (zrem (zand (zshr h 6) 2147483647) (S.2.1.length : Int))), some (zI 1)]) rfl ?_
          refine zp_iload (i := 12) dL_law_841 rfl ?_
          refine zp_sipush (v := -1002) dL_law_843 (by decide +kernel) (z32_lit (by decide) (by decide)) ?_
          refine zp_icmp_ne (tgt := 871) dL_law_846 (by decide) (fun h846 => ?_) (fun h846 => ?_)
          · refine zp_iload (i := 12) dL_law_871 rfl ?_
            refine zp_istore (i := 12) dL_law_873 (by decide) rfl ?_
            refine zp_L (L1 := [some (zR sa), some (zR o), some (zI pn), some (zI ic), some (zI ei), some (zI g), some (zI h), some (zI (pN : Int)), some (zI cl), some (zI srt), some (zJ was), none, some (zI (rvN r_59)), some (zI (mm : Int)), some (zI (zrem (zand (zshr h 1) 2147483647) (S.2.1.length : Int))), some (zI (zrem (zand (zshr h 6) 2147483647) (S.2.1.length : Int))), some (zI 1)]) rfl ?_
            refine zp_iload (i := 12) dL_law_875 rfl ?_
            refine zp_sipush (v := -1002) dL_law_877 (by decide +kernel) (z32_lit (by decide) (by decide)) ?_
            refine zp_icmp_ne (tgt := 904) dL_law_880 (by decide) (fun h880 => ?_) (fun h880 => absurd (by omega) h880)
            refine zp_iload (i := 12) dL_law_904 rfl ?_
            refine zp_istore (i := 12) dL_law_906 (by decide) rfl ?_
            refine zp_L (L1 := [some (zR sa), some (zR o), some (zI pn), some (zI ic), some (zI ei), some (zI g), some (zI h), some (zI (pN : Int)), some (zI cl), some (zI srt), some (zJ was), none, some (zI (rvN r_59)), some (zI (mm : Int)), some (zI (zrem (zand (zshr h 1) 2147483647) (S.2.1.length : Int))), some (zI (zrem (zand (zshr h 6) 2147483647) (S.2.1.length : Int))), some (zI 1)]) rfl ?_
            refine zp_iload (i := 12) dL_law_908 rfl ?_
            refine zp_if_lt (tgt := 928) dL_law_910 (by decide) (fun h910 => ?_) (fun h910 => absurd (by omega) h910)
            refine zp_Lw (L1 := [some (zR sa), some (zR o), some (zI pn), some (zI ic), some (zI ei), none, none, none, none, none, some (zJ was), none, some (zI (rvN r_59)), none, none, none, none]) ⟨Or.inr rfl, Or.inr rfl, Or.inr rfl, Or.inr rfl, Or.inr rfl, Or.inl rfl, Or.inl rfl, Or.inl rfl, Or.inl rfl, Or.inl rfl, Or.inr rfl, Or.inr rfl, Or.inr rfl, Or.inl rfl, Or.inl rfl, Or.inl rfl, Or.inl rfl, trivial⟩ ?_
            exact kk S _ _ _ w_61 (whW_le hW_63 (by omega) (by omega)) hI_68 (by omega) (by omega) (Or.inr rfl)
          · refine zp_iload (i := 16) dL_law_849 rfl ?_
            refine zp_if_eq (tgt := 871) dL_law_851 (by decide) (fun h851 => absurd h851 (by decide)) (fun h851 => ?_)
            refine zp_aload_n (i := 1) dL_law_854 rfl rfl ?_
            refine zp_bipush (v := 19) dL_law_855 (by decide +kernel) (z32_lit (by decide) (by decide)) ?_
            refine zp_iload (i := 7) dL_law_857 rfl ?_
            refine zp_iload (i := 13) dL_law_859 rfl ?_
            refine zp_iconst (v := 0) dL_law_861 rfl (z32_lit (by decide) (by decide)) ?_
            refine zp_iload (i := 15) dL_law_862 rfl ?_
            refine zp_iconst (v := 0) dL_law_864 rfl (z32_lit (by decide) (by decide)) ?_
            refine zp_cl (d' := d + 14) (o := o) rfl dL_law_865 (Nat.le_of_ble_eq_true rfl) rfl (k_ask hW_63 hI hst0 ⟨by omega, by omega⟩ (by omega) z0 (zlow_r (v := zshr h 6) (n := (S.2.1.length : Int)) (by omega) (by omega))) (fun r_75 S_76 w_77 q_78 hW_79 s_80 => ?_)
            rcases ask_st hI q_78 with ⟨n_81, e_82⟩ | ⟨g_83, e_82, hI_84⟩
            · subst e_82
              refine zp_st (st1 := [zI (n_81 : Int)]) rfl ?_
              refine zp_pc (pc1 := 868) rfl ?_
              refine zp_goto (tgt := 873) dL_law_868 (by decide) ?_
              refine zp_istore (i := 12) dL_law_873 (by decide) rfl ?_
              refine zp_L (L1 := [some (zR sa), some (zR o), some (zI pn), some (zI ic), some (zI ei), some (zI g), some (zI h), some (zI (pN : Int)), some (zI cl), some (zI srt), some (zJ was), none, some (zI (n_81 : Int)), some (zI (mm : Int)), some (zI (zrem (zand (zshr h 1) 2147483647) (S.2.1.length : Int))), some (zI (zrem (zand (zshr h 6) 2147483647) (S.2.1.length : Int))), some (zI 1)]) rfl ?_
              refine zp_iload (i := 12) dL_law_875 rfl ?_
              refine zp_sipush (v := -1002) dL_law_877 (by decide +kernel) (z32_lit (by decide) (by decide)) ?_
              refine zp_icmp_ne (tgt := 904) dL_law_880 (by decide) (fun h880 => ?_) (fun h880 => absurd (by omega) h880)
              refine zp_iload (i := 12) dL_law_904 rfl ?_
              refine zp_istore (i := 12) dL_law_906 (by decide) rfl ?_
              refine zp_L (L1 := [some (zR sa), some (zR o), some (zI pn), some (zI ic), some (zI ei), some (zI g), some (zI h), some (zI (pN : Int)), some (zI cl), some (zI srt), some (zJ was), none, some (zI (n_81 : Int)), some (zI (mm : Int)), some (zI (zrem (zand (zshr h 1) 2147483647) (S.2.1.length : Int))), some (zI (zrem (zand (zshr h 6) 2147483647) (S.2.1.length : Int))), some (zI 1)]) rfl ?_
              refine zp_iload (i := 12) dL_law_908 rfl ?_
              refine zp_if_lt (tgt := 928) dL_law_910 (by decide) (fun h910 => absurd h910 (by omega)) (fun h910 => ?_)
              refine zp_aload_n (i := 1) dL_law_913 rfl rfl ?_
              refine zp_iload (i := 7) dL_law_914 rfl ?_
              refine zp_pc (pc1 := 916) rfl ?_
              refine zp_iload (i := 13) dL_law_916 rfl ?_
              refine zp_iload (i := 12) dL_law_918 rfl ?_
              refine zp_hol (d := d) rfl dL_law_920 hI q_78 hW_79 hst0 ⟨by omega, by omega⟩ (Nat.le_of_ble_eq_true rfl) rfl (fun S_85 w_86 hW_87 hI_88 j_89 j_90 => ?_)
              have gl : S_85.2.2.1.2.2.1.1.length = S.2.2.1.2.2.1.1.length := by rw [j_89]
              refine zp_pc (pc1 := 923) rfl ?_
              refine zp_if_ne (tgt := 928) dL_law_923 (by decide) (fun h923 => ?_) (fun h923 => absurd (by decide) h923)
              refine zp_Lw (L1 := [some (zR sa), some (zR o), some (zI pn), some (zI ic), some (zI ei), none, none, none, none, none, some (zJ was), none, some (zI (n_81 : Int)), none, none, none, none]) ⟨Or.inr rfl, Or.inr rfl, Or.inr rfl, Or.inr rfl, Or.inr rfl, Or.inl rfl, Or.inl rfl, Or.inl rfl, Or.inl rfl, Or.inl rfl, Or.inr rfl, Or.inr rfl, Or.inr rfl, Or.inl rfl, Or.inl rfl, Or.inl rfl, Or.inl rfl, trivial⟩ ?_
              exact kk S_85 _ _ _ w_86 (whW_le hW_87 (by omega) (by omega)) hI_88 (by omega) (by omega) (Or.inl (by omega))
            · rw [e_82] at hW_79 hI_84
              refine zp_pc (pc1 := 868) rfl ?_
              refine zp_goto (tgt := 873) dL_law_868 (by decide) ?_
              refine zp_istore (i := 12) dL_law_873 (by decide) rfl ?_
              refine zp_L (L1 := [some (zR sa), some (zR o), some (zI pn), some (zI ic), some (zI ei), some (zI g), some (zI h), some (zI (pN : Int)), some (zI cl), some (zI srt), some (zJ was), none, some (zI (rvN r_75)), some (zI (mm : Int)), some (zI (zrem (zand (zshr h 1) 2147483647) (S.2.1.length : Int))), some (zI (zrem (zand (zshr h 6) 2147483647) (S.2.1.length : Int))), some (zI 1)]) rfl ?_
              refine zp_iload (i := 12) dL_law_875 rfl ?_
              refine zp_sipush (v := -1002) dL_law_877 (by decide +kernel) (z32_lit (by decide) (by decide)) ?_
              refine zp_icmp_ne (tgt := 904) dL_law_880 (by decide) (fun h880 => ?_) (fun h880 => ?_)
              · refine zp_iload (i := 12) dL_law_904 rfl ?_
                refine zp_istore (i := 12) dL_law_906 (by decide) rfl ?_
                refine zp_L (L1 := [some (zR sa), some (zR o), some (zI pn), some (zI ic), some (zI ei), some (zI g), some (zI h), some (zI (pN : Int)), some (zI cl), some (zI srt), some (zJ was), none, some (zI (rvN r_75)), some (zI (mm : Int)), some (zI (zrem (zand (zshr h 1) 2147483647) (S.2.1.length : Int))), some (zI (zrem (zand (zshr h 6) 2147483647) (S.2.1.length : Int))), some (zI 1)]) rfl ?_
                refine zp_iload (i := 12) dL_law_908 rfl ?_
                refine zp_if_lt (tgt := 928) dL_law_910 (by decide) (fun h910 => ?_) (fun h910 => absurd (by omega) h910)
                refine zp_Lw (L1 := [some (zR sa), some (zR o), some (zI pn), some (zI ic), some (zI ei), none, none, none, none, none, some (zJ was), none, some (zI (rvN r_75)), none, none, none, none]) ⟨Or.inr rfl, Or.inr rfl, Or.inr rfl, Or.inr rfl, Or.inr rfl, Or.inl rfl, Or.inl rfl, Or.inl rfl, Or.inl rfl, Or.inl rfl, Or.inr rfl, Or.inr rfl, Or.inr rfl, Or.inl rfl, Or.inl rfl, Or.inl rfl, Or.inl rfl, trivial⟩ ?_
                exact kk S _ _ _ w_77 (whW_le hW_79 (by omega) (by omega)) hI_84 (by omega) (by omega) (Or.inr rfl)
              · refine zp_iload (i := 16) dL_law_883 rfl ?_
                refine zp_if_eq (tgt := 904) dL_law_885 (by decide) (fun h885 => absurd h885 (by decide)) (fun h885 => ?_)
                refine zp_aload_n (i := 1) dL_law_888 rfl rfl ?_
                refine zp_bipush (v := 19) dL_law_889 (by decide +kernel) (z32_lit (by decide) (by decide)) ?_
                refine zp_iload (i := 7) dL_law_891 rfl ?_
                refine zp_iload (i := 13) dL_law_893 rfl ?_
                refine zp_iconst (v := 0) dL_law_895 rfl (z32_lit (by decide) (by decide)) ?_
                refine zp_iconst (v := 0) dL_law_896 rfl (z32_lit (by decide) (by decide)) ?_
                refine zp_iconst (v := 0) dL_law_897 rfl (z32_lit (by decide) (by decide)) ?_
                refine zp_cl (d' := d + 14) (o := o) rfl dL_law_898 (Nat.le_of_ble_eq_true rfl) rfl (k_ask hW_79 hI hst0 ⟨by omega, by omega⟩ (by omega) z0 z0) (fun r_91 S_92 w_93 q_94 hW_95 s_96 => ?_)
                rcases ask_st hI q_94 with ⟨n_97, e_98⟩ | ⟨g_99, e_98, hI_100⟩
                · subst e_98
                  refine zp_st (st1 := [zI (n_97 : Int)]) rfl ?_
                  refine zp_pc (pc1 := 901) rfl ?_
                  refine zp_goto (tgt := 906) dL_law_901 (by decide) ?_
                  refine zp_istore (i := 12) dL_law_906 (by decide) rfl ?_
                  refine zp_L (L1 := [some (zR sa), some (zR o), some (zI pn), some (zI ic), some (zI ei), some (zI g), some (zI h), some (zI (pN : Int)), some (zI cl), some (zI srt), some (zJ was), none, some (zI (n_97 : Int)), some (zI (mm : Int)), some (zI (zrem (zand (zshr h 1) 2147483647) (S.2.1.length : Int))), some (zI (zrem (zand (zshr h 6) 2147483647) (S.2.1.length : Int))), some (zI 1)]) rfl ?_
                  refine zp_iload (i := 12) dL_law_908 rfl ?_
                  refine zp_if_lt (tgt := 928) dL_law_910 (by decide) (fun h910 => absurd h910 (by omega)) (fun h910 => ?_)
                  refine zp_aload_n (i := 1) dL_law_913 rfl rfl ?_
                  refine zp_iload (i := 7) dL_law_914 rfl ?_
                  refine zp_iload (i := 13) dL_law_916 rfl ?_
                  refine zp_iload (i := 12) dL_law_918 rfl ?_
                  refine zp_hol (d := d) rfl dL_law_920 hI q_94 hW_95 hst0 ⟨by omega, by omega⟩ (Nat.le_of_ble_eq_true rfl) rfl (fun S_101 w_102 hW_103 hI_104 j_105 j_106 => ?_)
                  have gl : S_101.2.2.1.2.2.1.1.length = S.2.2.1.2.2.1.1.length := by rw [j_105]
                  refine zp_pc (pc1 := 923) rfl ?_
                  refine zp_if_ne (tgt := 928) dL_law_923 (by decide) (fun h923 => ?_) (fun h923 => absurd (by decide) h923)
                  refine zp_Lw (L1 := [some (zR sa), some (zR o), some (zI pn), some (zI ic), some (zI ei), none, none, none, none, none, some (zJ was), none, some (zI (n_97 : Int)), none, none, none, none]) ⟨Or.inr rfl, Or.inr rfl, Or.inr rfl, Or.inr rfl, Or.inr rfl, Or.inl rfl, Or.inl rfl, Or.inl rfl, Or.inl rfl, Or.inl rfl, Or.inr rfl, Or.inr rfl, Or.inr rfl, Or.inl rfl, Or.inl rfl, Or.inl rfl, Or.inl rfl, trivial⟩ ?_
                  exact kk S_101 _ _ _ w_102 (whW_le hW_103 (by omega) (by omega)) hI_104 (by omega) (by omega) (Or.inl (by omega))
                · rw [e_98] at hW_95 hI_100
                  refine zp_pc (pc1 := 901) rfl ?_
                  refine zp_goto (tgt := 906) dL_law_901 (by decide) ?_
                  refine zp_istore (i := 12) dL_law_906 (by decide) rfl ?_
                  refine zp_L (L1 := [some (zR sa), some (zR o), some (zI pn), some (zI ic), some (zI ei), some (zI g), some (zI h), some (zI (pN : Int)), some (zI cl), some (zI srt), some (zJ was), none, some (zI (rvN r_91)), some (zI (mm : Int)), some (zI (zrem (zand (zshr h 1) 2147483647) (S.2.1.length : Int))), some (zI (zrem (zand (zshr h 6) 2147483647) (S.2.1.length : Int))), some (zI 1)]) rfl ?_
                  refine zp_iload (i := 12) dL_law_908 rfl ?_
                  refine zp_if_lt (tgt := 928) dL_law_910 (by decide) (fun h910 => ?_) (fun h910 => absurd (by omega) h910)
                  refine zp_Lw (L1 := [some (zR sa), some (zR o), some (zI pn), some (zI ic), some (zI ei), none, none, none, none, none, some (zJ was), none, some (zI (rvN r_91)), none, none, none, none]) ⟨Or.inr rfl, Or.inr rfl, Or.inr rfl, Or.inr rfl, Or.inr rfl, Or.inl rfl, Or.inl rfl, Or.inl rfl, Or.inl rfl, Or.inl rfl, Or.inr rfl, Or.inr rfl, Or.inr rfl, Or.inl rfl, Or.inl rfl, Or.inl rfl, Or.inl rfl, trivial⟩ ?_
                  exact kk S _ _ _ w_93 (whW_le hW_95 (by omega) (by omega)) hI_100 (by omega) (by omega) (Or.inr rfl)
end LEV
