/-! Own rows: the law's call: a value, or a number for what was thrown. Walked by program (wip/p37/m_call.py). -/
/-- what a call tells -/
def lcQ (Q' : zQ) : zQ := fun out w' => (∃ n : Int, out = .inl (some (zI n)) ∧ Q' (.inl (some (zI n))) w') ∨ ∃ i : Nat, i < 5 ∧ out = .inl (some (zI (-1001 - (i : Int)))) ∧ Q' (.inr i) w'
/-- a face's call: a number or one of five throws -/
def fcQ (Q' : zQ) : Prop := (∀ v w', Q' (.inl v) w' → ∃ n : Int, v = some (zI n)) ∧ ∀ i w', Q' (.inr i) w' → i < 5
section LCALL
variable {G : zG} {d : Nat} {w w0 : zW} {o : Nat} {q a b c e1 e2 : Int} {Q : zQ} {Q' : zQ} {av : List zV}
theorem lc_h0 {z : Nat} (k : Q (.inl (some (zI (-1001)))) w) : zX G zm_L_call d av w0 Q 383 [some (zR o), some (zI q), some (zI a), some (zI b), some (zI c), some (zI e1), some (zI e2), none] [zR z] w := by
  refine zx_astore (i := 7) dL_call_383 (by decide) rfl ?_
  refine zx_L (L1 := [some (zR o), some (zI q), some (zI a), some (zI b), some (zI c), some (zI e1), some (zI e2), some (zR z)]) rfl ?_
  refine zx_sipush (v := -1001) dL_call_385 (by decide +kernel) (z32_lit (by decide) (by decide)) ?_
  refine zx_iret dL_call_388 rfl ?_
  exact k
theorem lc_h1 {z : Nat} (k : Q (.inl (some (zI (-1002)))) w) : zX G zm_L_call d av w0 Q 389 [some (zR o), some (zI q), some (zI a), some (zI b), some (zI c), some (zI e1), some (zI e2), none] [zR z] w := by
  refine zx_astore (i := 7) dL_call_389 (by decide) rfl ?_
  refine zx_L (L1 := [some (zR o), some (zI q), some (zI a), some (zI b), some (zI c), some (zI e1), some (zI e2), some (zR z)]) rfl ?_
  refine zx_sipush (v := -1002) dL_call_391 (by decide +kernel) (z32_lit (by decide) (by decide)) ?_
  refine zx_iret dL_call_394 rfl ?_
  exact k
theorem lc_h2 {z : Nat} (k : Q (.inl (some (zI (-1003)))) w) : zX G zm_L_call d av w0 Q 395 [some (zR o), some (zI q), some (zI a), some (zI b), some (zI c), some (zI e1), some (zI e2), none] [zR z] w := by
  refine zx_astore (i := 7) dL_call_395 (by decide) rfl ?_
  refine zx_L (L1 := [some (zR o), some (zI q), some (zI a), some (zI b), some (zI c), some (zI e1), some (zI e2), some (zR z)]) rfl ?_
  refine zx_sipush (v := -1003) dL_call_397 (by decide +kernel) (z32_lit (by decide) (by decide)) ?_
  refine zx_iret dL_call_400 rfl ?_
  exact k
theorem lc_h3 {z : Nat} (k : Q (.inl (some (zI (-1004)))) w) : zX G zm_L_call d av w0 Q 401 [some (zR o), some (zI q), some (zI a), some (zI b), some (zI c), some (zI e1), some (zI e2), none] [zR z] w := by
  refine zx_astore (i := 7) dL_call_401 (by decide) rfl ?_
  refine zx_L (L1 := [some (zR o), some (zI q), some (zI a), some (zI b), some (zI c), some (zI e1), some (zI e2), some (zR z)]) rfl ?_
  refine zx_sipush (v := -1004) dL_call_403 (by decide +kernel) (z32_lit (by decide) (by decide)) ?_
  refine zx_iret dL_call_406 rfl ?_
  exact k
theorem lc_h4 {z : Nat} (k : Q (.inl (some (zI (-1005)))) w) : zX G zm_L_call d av w0 Q 407 [some (zR o), some (zI q), some (zI a), some (zI b), some (zI c), some (zI e1), some (zI e2), none] [zR z] w := by
  refine zx_astore (i := 7) dL_call_407 (by decide) rfl ?_
  refine zx_L (L1 := [some (zR o), some (zI q), some (zI a), some (zI b), some (zI c), some (zI e1), some (zI e2), some (zR z)]) rfl ?_
  refine zx_sipush (v := -1005) dL_call_409 (by decide +kernel) (z32_lit (by decide) (by decide)) ?_
  refine zx_iret dL_call_412 rfl ?_
  exact k
theorem lc_addType {of : List zV} (ho : w.1 o = some (11, 0, of)) (hf : fcQ Q') (hM : zM G zm_X11_addType d [zR o] w Q') : zM G zm_L_call (d + 1) [zR o, zI 0, zI a, zI b, zI c, zI e1, zI e2] w (lcQ Q') := by
  refine zx_enterH (by decide +kernel) (by decide) (by rw [zlg_len]; exact Nat.le_of_ble_eq_true rfl) ?_
  refine zx_L (L1 := [some (zR o), some (zI 0), some (zI a), some (zI b), some (zI c), some (zI e1), some (zI e2), none]) rfl ?_
  refine zx_iload_n (i := 1) dL_call_0 rfl rfl ?_
  refine zx_tableIn (tgt := 132) dL_call_1 (by decide) (by decide) rfl (by decide) ?_
  refine zx_aload_n (i := 0) dL_call_132 rfl rfl ?_
  refine zx_ivC (b := o) (As := []) (st := []) dL_call_133 zc_L_9 ho rfl rfl rfl (Nat.le_of_ble_eq_true rfl) hM (fun v w1 hq => ?_) (fun i w1 hi6 hq => ?_)
  · obtain ⟨n, rfl⟩ := hf.1 v w1 hq
    refine zx_st (st1 := [zI n]) rfl ?_
    refine zx_iret dL_call_136 rfl ?_
    exact Or.inl ⟨n, rfl, hq⟩
  · have h5 := hf.2 i w1 hq
    match i, h5, hq with
    | 0, _, hq => exact ⟨_, hd_mk (i := 0) (k := 0) (by decide) rfl (by decide +kernel) rfl rfl (by decide +kernel), fun z => lc_h0 (Or.inr ⟨0, by decide, rfl, hq⟩)⟩
    | 1, _, hq => exact ⟨_, hd_mk (i := 1) (k := 30) (by decide) rfl (by decide +kernel) rfl rfl (by decide +kernel), fun z => lc_h1 (Or.inr ⟨1, by decide, rfl, hq⟩)⟩
    | 2, _, hq => exact ⟨_, hd_mk (i := 2) (k := 60) (by decide) rfl (by decide +kernel) rfl rfl (by decide +kernel), fun z => lc_h2 (Or.inr ⟨2, by decide, rfl, hq⟩)⟩
    | 3, _, hq => exact ⟨_, hd_mk (i := 3) (k := 90) (by decide) rfl (by decide +kernel) rfl rfl (by decide +kernel), fun z => lc_h3 (Or.inr ⟨3, by decide, rfl, hq⟩)⟩
    | 4, _, hq => exact ⟨_, hd_mk (i := 4) (k := 120) (by decide) rfl (by decide +kernel) rfl rfl (by decide +kernel), fun z => lc_h4 (Or.inr ⟨4, by decide, rfl, hq⟩)⟩
    | n + 5, h5, _ => exact absurd h5 (by omega)
theorem lc_addConstructor {of : List zV} (ho : w.1 o = some (11, 0, of)) (hf : fcQ Q') (hM : zM G zm_X11_addConstructor d [zR o, zI a, zI b, zI c] w Q') : zM G zm_L_call (d + 1) [zR o, zI 1, zI a, zI b, zI c, zI e1, zI e2] w (lcQ Q') := by
  refine zx_enterH (by decide +kernel) (by decide) (by rw [zlg_len]; exact Nat.le_of_ble_eq_true rfl) ?_
  refine zx_L (L1 := [some (zR o), some (zI 1), some (zI a), some (zI b), some (zI c), some (zI e1), some (zI e2), none]) rfl ?_
  refine zx_iload_n (i := 1) dL_call_0 rfl rfl ?_
  refine zx_tableIn (tgt := 137) dL_call_1 (by decide) (by decide) rfl (by decide) ?_
  refine zx_aload_n (i := 0) dL_call_137 rfl rfl ?_
  refine zx_iload_n (i := 2) dL_call_138 rfl rfl ?_
  refine zx_iload_n (i := 3) dL_call_139 rfl rfl ?_
  refine zx_iload (i := 4) dL_call_140 rfl ?_
  refine zx_ivC (b := o) (As := [zI a, zI b, zI c]) (st := []) dL_call_142 zc_L_15 ho rfl rfl rfl (Nat.le_of_ble_eq_true rfl) hM (fun v w1 hq => ?_) (fun i w1 hi6 hq => ?_)
  · obtain ⟨n, rfl⟩ := hf.1 v w1 hq
    refine zx_st (st1 := [zI n]) rfl ?_
    refine zx_iret dL_call_145 rfl ?_
    exact Or.inl ⟨n, rfl, hq⟩
  · have h5 := hf.2 i w1 hq
    match i, h5, hq with
    | 0, _, hq => exact ⟨_, hd_mk (i := 0) (k := 1) (by decide) rfl (by decide +kernel) rfl rfl (by decide +kernel), fun z => lc_h0 (Or.inr ⟨0, by decide, rfl, hq⟩)⟩
    | 1, _, hq => exact ⟨_, hd_mk (i := 1) (k := 31) (by decide) rfl (by decide +kernel) rfl rfl (by decide +kernel), fun z => lc_h1 (Or.inr ⟨1, by decide, rfl, hq⟩)⟩
    | 2, _, hq => exact ⟨_, hd_mk (i := 2) (k := 61) (by decide) rfl (by decide +kernel) rfl rfl (by decide +kernel), fun z => lc_h2 (Or.inr ⟨2, by decide, rfl, hq⟩)⟩
    | 3, _, hq => exact ⟨_, hd_mk (i := 3) (k := 91) (by decide) rfl (by decide +kernel) rfl rfl (by decide +kernel), fun z => lc_h3 (Or.inr ⟨3, by decide, rfl, hq⟩)⟩
    | 4, _, hq => exact ⟨_, hd_mk (i := 4) (k := 121) (by decide) rfl (by decide +kernel) rfl rfl (by decide +kernel), fun z => lc_h4 (Or.inr ⟨4, by decide, rfl, hq⟩)⟩
    | n + 5, h5, _ => exact absurd h5 (by omega)
end LCALL
