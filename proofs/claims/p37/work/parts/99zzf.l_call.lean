/-! Own rows: the law's call: a value, or a number for what was thrown. Walked by program (wip/p37/m_call.py). -/
/-- what a call tells -/
def lcQ (Q' : zQ) : zQ := fun out w' => (∃ n : Int, out = .inl (some (zI n)) ∧ Q' (.inl (some (zI n))) w') ∨ ∃ i : Nat, i < 5 ∧ out = .inl (some (zI (-1001 - (i : Int)))) ∧ Q' (.inr i) w'
/-- a face's call: a number or one of five throws -/
def fcQ (Q' : zQ) : Prop := (∀ v w', Q' (.inl v) w' → ∃ n : Int, v = some (zI n)) ∧ ∀ i w', Q' (.inr i) w' → i < 5
section LCALL
variable {G : zG} {d : Nat} {w w0 : zW} {o : Nat} {q a b c e1 e2 : Int} {Q : zQ} {Q' : zQ} {av : List zV}
theorem lc_h0 {z : Nat} (k : Q (.inl (some (zI (-1001)))) w) : zX G zm_L_call d av w0 Q 383 [some (zR o), some (zI q), some (zI a), some (zI b), some (zI c), some (zI e1), some (zI e2), none] [zR z] w := by
  refine zx_astore (i := 7) dL_call_383 (by decide) rfl ?_
  refine zx_L (L1 := [some (zR o), some (zI q), some (zI a), some (zI b), some (zI c), some (zI e1), some (zI e2), some (zR z)]) rfl ?_
  refine zx_sipush (v := -1001) dL_call_385 (by decide +kernel) (z32_lit (by decide) (by decide)) ?_
  refine zx_iret dL_call_388 rfl ?_
  exact k
theorem lc_h1 {z : Nat} (k : Q (.inl (some (zI (-1002)))) w) : zX G zm_L_call d av w0 Q 389 [some (zR o), some (zI q), some (zI a), some (zI b), some (zI c), some (zI e1), some (zI e2), none] [zR z] w := by
  refine zx_astore (i := 7) dL_call_389 (by decide) rfl ?_
  refine zx_L (L1 := [some (zR o), some (zI q), some (zI a), some (zI b), some (zI c), some (zI e1), some (zI e2), some (zR z)]) rfl ?_
  refine zx_sipush (v := -1002) dL_call_391 (by decide +kernel) (z32_lit (by decide) (by decide)) ?_
  refine zx_iret dL_call_394 rfl ?_
  exact k
theorem lc_h2 {z : Nat} (k : Q (.inl (some (zI (-1003)))) w) : zX G zm_L_call d av w0 Q 395 [some (zR o), some (zI q), some (zI a), some (zI b), some (zI c), some (zI e1), some (zI e2), none] [zR z] w := by
  refine zx_astore (i := 7) dL_call_395 (by decide) rfl ?_
  refine zx_L (L1 := [some (zR o), some (zI q), some (zI a), some (zI b), some (zI c), some (zI e1), some (zI e2), some (zR z)]) rfl ?_
  refine zx_sipush (v := -1003) dL_call_397 (by decide +kernel) (z32_lit (by decide) (by decide)) ?_
  refine zx_iret dL_call_400 rfl ?_
  exact k
theorem lc_h3 {z : Nat} (k : Q (.inl (some (zI (-1004)))) w) : zX G zm_L_call d av w0 Q 401 [some (zR o), some (zI q), some (zI a), some (zI b), some (zI c), some (zI e1), some (zI e2), none] [zR z] w := by
  refine zx_astore (i := 7) dL_call_401 (by decide) rfl ?_
  refine zx_L (L1 := [some (zR o), some (zI q), some (zI a), some (zI b), some (zI c), some (zI e1), some (zI e2), some (zR z)]) rfl ?_
  refine zx_sipush (v := -1004) dL_call_403 (by decide +kernel) (z32_lit (by decide) (by decide)) ?_
  refine zx_iret dL_call_406 rfl ?_
  exact k
theorem lc_h4 {z : Nat} (k : Q (.inl (some (zI (-1005)))) w) : zX G zm_L_call d av w0 Q 407 [some (zR o), some (zI q), some (zI a), some (zI b), some (zI c), some (zI e1), some (zI e2), none] [zR z] w := by
  refine zx_astore (i := 7) dL_call_407 (by decide) rfl ?_
  refine zx_L (L1 := [some (zR o), some (zI q), some (zI a), some (zI b), some (zI c), some (zI e1), some (zI e2), some (zR z)]) rfl ?_
  refine zx_sipush (v := -1005) dL_call_409 (by decide +kernel) (z32_lit (by decide) (by decide)) ?_
  refine zx_iret dL_call_412 rfl ?_
  exact k
theorem lc_addType {of : List zV} (ho : w.1 o = some (11, 0, of)) (hf : fcQ Q') (hM : zM G zm_X11_addType d [zR o] w Q') : zM G zm_L_call (d + 1) [zR o, zI 0, zI a, zI b, zI c, zI e1, zI e2] w (lcQ Q') := by
  refine zx_enterH (by decide +kernel) (by decide) (by rw [zlg_len]; exact Nat.le_of_ble_eq_true rfl) ?_
  refine zx_L (L1 := [some (zR o), some (zI 0), some (zI a), some (zI b), some (zI c), some (zI e1), some (zI e2), none]) rfl ?_
  refine zx_iload_n (i := 1) dL_call_0 rfl rfl ?_
  refine zx_tableIn (tgt := 132) dL_call_1 (by decide) (by decide) rfl (by decide) ?_
  refine zx_aload_n (i := 0) dL_call_132 rfl rfl ?_
  refine zx_ivC (b := o) (As := []) (st := []) dL_call_133 zc_L_9 ho rfl rfl rfl (Nat.le_of_ble_eq_true rfl) hM (fun v w1 hq => ?_) (fun i w1 hi6 hq => ?_)
  · obtain ⟨n, rfl⟩ := hf.1 v w1 hq
    refine zx_st (st1 := [zI n]) rfl ?_
    refine zx_iret dL_call_136 rfl ?_
    exact Or.inl ⟨n, rfl, hq⟩
  · have h5 := hf.2 i w1 hq
    match i, h5, hq with
    | 0, _, hq => exact ⟨_, hd_mk (i := 0) (k := 0) (by decide) rfl (by decide +kernel) rfl rfl (by decide +kernel), fun z => lc_h0 (Or.inr ⟨0, by decide, rfl, hq⟩)⟩
    | 1, _, hq => exact ⟨_, hd_mk (i := 1) (k := 30) (by decide) rfl (by decide +kernel) rfl rfl (by decide +kernel), fun z => lc_h1 (Or.inr ⟨1, by decide, rfl, hq⟩)⟩
    | 2, _, hq => exact ⟨_, hd_mk (i := 2) (k := 60) (by decide) rfl (by decide +kernel) rfl rfl (by decide +kernel), fun z => lc_h2 (Or.inr ⟨2, by decide, rfl, hq⟩)⟩
    | 3, _, hq => exact ⟨_, hd_mk (i := 3) (k := 90) (by decide) rfl (by decide +kernel) rfl rfl (by decide +kernel), fun z => lc_h3 (Or.inr ⟨3, by decide, rfl, hq⟩)⟩
    | 4, _, hq => exact ⟨_, hd_mk (i := 4) (k := 120) (by decide) rfl (by decide +kernel) rfl rfl (by decide +kernel), fun z => lc_h4 (Or.inr ⟨4, by decide, rfl, hq⟩)⟩
    | n + 5, h5, _ => exact absurd h5 (by omega)
theorem lc_addConstructor {of : List zV} (ho : w.1 o = some (11, 0, of)) (hf : fcQ Q') (hM : zM G zm_X11_addConstructor d [zR o, zI a, zI b, zI c] w Q') : zM G zm_L_call (d + 1) [zR o, zI 1, zI a, zI b, zI c, zI e1, zI e2] w (lcQ Q') := by
  refine zx_enterH (by decide +kernel) (by decide) (by rw [zlg_len]; exact Nat.le_of_ble_eq_true rfl) ?_
  refine zx_L (L1 := [some (zR o), some (zI 1), some (zI a), some (zI b), some (zI c), some (zI e1), some (zI e2), none]) rfl ?_
  refine zx_iload_n (i := 1) dL_call_0 rfl rfl ?_
  refine zx_tableIn (tgt := 137) dL_call_1 (by decide) (by decide) rfl (by decide) ?_
  refine zx_aload_n (i := 0) dL_call_137 rfl rfl ?_
  refine zx_iload_n (i := 2) dL_call_138 rfl rfl ?_
  refine zx_iload_n (i := 3) dL_call_139 rfl rfl ?_
  refine zx_iload (i := 4) dL_call_140 rfl ?_
  refine zx_ivC (b := o) (As := [zI a, zI b, zI c]) (st := []) dL_call_142 zc_L_15 ho rfl rfl rfl (Nat.le_of_ble_eq_true rfl) hM (fun v w1 hq => ?_) (fun i w1 hi6 hq => ?_)
  · obtain ⟨n, rfl⟩ := hf.1 v w1 hq
    refine zx_st (st1 := [zI n]) rfl ?_
    refine zx_iret dL_call_145 rfl ?_
    exact Or.inl ⟨n, rfl, hq⟩
  · have h5 := hf.2 i w1 hq
    match i, h5, hq with
    | 0, _, hq => exact ⟨_, hd_mk (i := 0) (k := 1) (by decide) rfl (by decide +kernel) rfl rfl (by decide +kernel), fun z => lc_h0 (Or.inr ⟨0, by decide, rfl, hq⟩)⟩
    | 1, _, hq => exact ⟨_, hd_mk (i := 1) (k := 31) (by decide) rfl (by decide +kernel) rfl rfl (by decide +kernel), fun z => lc_h1 (Or.inr ⟨1, by decide, rfl, hq⟩)⟩
    | 2, _, hq => exact ⟨_, hd_mk (i := 2) (k := 61) (by decide) rfl (by decide +kernel) rfl rfl (by decide +kernel), fun z => lc_h2 (Or.inr ⟨2, by decide, rfl, hq⟩)⟩
    | 3, _, hq => exact ⟨_, hd_mk (i := 3) (k := 91) (by decide) rfl (by decide +kernel) rfl rfl (by decide +kernel), fun z => lc_h3 (Or.inr ⟨3, by decide, rfl, hq⟩)⟩
    | 4, _, hq => exact ⟨_, hd_mk (i := 4) (k := 121) (by decide) rfl (by decide +kernel) rfl rfl (by decide +kernel), fun z => lc_h4 (Or.inr ⟨4, by decide, rfl, hq⟩)⟩
    | n + 5, h5, _ => exact absurd h5 (by omega)
theorem lc_term {of : List zV} (ho : w.1 o = some (11, 0, of)) (hf : fcQ Q') (hM : zM G zm_X11_term d [zR o, zI a, zI b, zI c] w Q') : zM G zm_L_call (d + 1) [zR o, zI 2, zI a, zI b, zI c, zI e1, zI e2] w (lcQ Q') := by
  refine zx_enterH (by decide +kernel) (by decide) (by rw [zlg_len]; exact Nat.le_of_ble_eq_true rfl) ?_
  refine zx_L (L1 := [some (zR o), some (zI 2), some (zI a), some (zI b), some (zI c), some (zI e1), some (zI e2), none]) rfl ?_
  refine zx_iload_n (i := 1) dL_call_0 rfl rfl ?_
  refine zx_tableIn (tgt := 146) dL_call_1 (by decide) (by decide) rfl (by decide) ?_
  refine zx_aload_n (i := 0) dL_call_146 rfl rfl ?_
  refine zx_iload_n (i := 2) dL_call_147 rfl rfl ?_
  refine zx_iload_n (i := 3) dL_call_148 rfl rfl ?_
  refine zx_iload (i := 4) dL_call_149 rfl ?_
  refine zx_ivC (b := o) (As := [zI a, zI b, zI c]) (st := []) dL_call_151 zc_L_19 ho rfl rfl rfl (Nat.le_of_ble_eq_true rfl) hM (fun v w1 hq => ?_) (fun i w1 hi6 hq => ?_)
  · obtain ⟨n, rfl⟩ := hf.1 v w1 hq
    refine zx_st (st1 := [zI n]) rfl ?_
    refine zx_iret dL_call_154 rfl ?_
    exact Or.inl ⟨n, rfl, hq⟩
  · have h5 := hf.2 i w1 hq
    match i, h5, hq with
    | 0, _, hq => exact ⟨_, hd_mk (i := 0) (k := 2) (by decide) rfl (by decide +kernel) rfl rfl (by decide +kernel), fun z => lc_h0 (Or.inr ⟨0, by decide, rfl, hq⟩)⟩
    | 1, _, hq => exact ⟨_, hd_mk (i := 1) (k := 32) (by decide) rfl (by decide +kernel) rfl rfl (by decide +kernel), fun z => lc_h1 (Or.inr ⟨1, by decide, rfl, hq⟩)⟩
    | 2, _, hq => exact ⟨_, hd_mk (i := 2) (k := 62) (by decide) rfl (by decide +kernel) rfl rfl (by decide +kernel), fun z => lc_h2 (Or.inr ⟨2, by decide, rfl, hq⟩)⟩
    | 3, _, hq => exact ⟨_, hd_mk (i := 3) (k := 92) (by decide) rfl (by decide +kernel) rfl rfl (by decide +kernel), fun z => lc_h3 (Or.inr ⟨3, by decide, rfl, hq⟩)⟩
    | 4, _, hq => exact ⟨_, hd_mk (i := 4) (k := 122) (by decide) rfl (by decide +kernel) rfl rfl (by decide +kernel), fun z => lc_h4 (Or.inr ⟨4, by decide, rfl, hq⟩)⟩
    | n + 5, h5, _ => exact absurd h5 (by omega)
theorem lc_constructorOf {of : List zV} (ho : w.1 o = some (11, 0, of)) (hf : fcQ Q') (hM : zM G zm_X11_constructorOf d [zR o, zI a] w Q') : zM G zm_L_call (d + 1) [zR o, zI 3, zI a, zI b, zI c, zI e1, zI e2] w (lcQ Q') := by
  refine zx_enterH (by decide +kernel) (by decide) (by rw [zlg_len]; exact Nat.le_of_ble_eq_true rfl) ?_
  refine zx_L (L1 := [some (zR o), some (zI 3), some (zI a), some (zI b), some (zI c), some (zI e1), some (zI e2), none]) rfl ?_
  refine zx_iload_n (i := 1) dL_call_0 rfl rfl ?_
  refine zx_tableIn (tgt := 155) dL_call_1 (by decide) (by decide) rfl (by decide) ?_
  refine zx_aload_n (i := 0) dL_call_155 rfl rfl ?_
  refine zx_iload_n (i := 2) dL_call_156 rfl rfl ?_
  refine zx_ivC (b := o) (As := [zI a]) (st := []) dL_call_157 zc_L_22 ho rfl rfl rfl (Nat.le_of_ble_eq_true rfl) hM (fun v w1 hq => ?_) (fun i w1 hi6 hq => ?_)
  · obtain ⟨n, rfl⟩ := hf.1 v w1 hq
    refine zx_st (st1 := [zI n]) rfl ?_
    refine zx_iret dL_call_160 rfl ?_
    exact Or.inl ⟨n, rfl, hq⟩
  · have h5 := hf.2 i w1 hq
    match i, h5, hq with
    | 0, _, hq => exact ⟨_, hd_mk (i := 0) (k := 3) (by decide) rfl (by decide +kernel) rfl rfl (by decide +kernel), fun z => lc_h0 (Or.inr ⟨0, by decide, rfl, hq⟩)⟩
    | 1, _, hq => exact ⟨_, hd_mk (i := 1) (k := 33) (by decide) rfl (by decide +kernel) rfl rfl (by decide +kernel), fun z => lc_h1 (Or.inr ⟨1, by decide, rfl, hq⟩)⟩
    | 2, _, hq => exact ⟨_, hd_mk (i := 2) (k := 63) (by decide) rfl (by decide +kernel) rfl rfl (by decide +kernel), fun z => lc_h2 (Or.inr ⟨2, by decide, rfl, hq⟩)⟩
    | 3, _, hq => exact ⟨_, hd_mk (i := 3) (k := 93) (by decide) rfl (by decide +kernel) rfl rfl (by decide +kernel), fun z => lc_h3 (Or.inr ⟨3, by decide, rfl, hq⟩)⟩
    | 4, _, hq => exact ⟨_, hd_mk (i := 4) (k := 123) (by decide) rfl (by decide +kernel) rfl rfl (by decide +kernel), fun z => lc_h4 (Or.inr ⟨4, by decide, rfl, hq⟩)⟩
    | n + 5, h5, _ => exact absurd h5 (by omega)
theorem lc_partOf {of : List zV} (ho : w.1 o = some (11, 0, of)) (hf : fcQ Q') (hM : zM G zm_X11_partOf d [zR o, zI a, zI b] w Q') : zM G zm_L_call (d + 1) [zR o, zI 4, zI a, zI b, zI c, zI e1, zI e2] w (lcQ Q') := by
  refine zx_enterH (by decide +kernel) (by decide) (by rw [zlg_len]; exact Nat.le_of_ble_eq_true rfl) ?_
  refine zx_L (L1 := [some (zR o), some (zI 4), some (zI a), some (zI b), some (zI c), some (zI e1), some (zI e2), none]) rfl ?_
  refine zx_iload_n (i := 1) dL_call_0 rfl rfl ?_
  refine zx_tableIn (tgt := 161) dL_call_1 (by decide) (by decide) rfl (by decide) ?_
  refine zx_aload_n (i := 0) dL_call_161 rfl rfl ?_
  refine zx_iload_n (i := 2) dL_call_162 rfl rfl ?_
  refine zx_iload_n (i := 3) dL_call_163 rfl rfl ?_
  refine zx_ivC (b := o) (As := [zI a, zI b]) (st := []) dL_call_164 zc_L_26 ho rfl rfl rfl (Nat.le_of_ble_eq_true rfl) hM (fun v w1 hq => ?_) (fun i w1 hi6 hq => ?_)
  · obtain ⟨n, rfl⟩ := hf.1 v w1 hq
    refine zx_st (st1 := [zI n]) rfl ?_
    refine zx_iret dL_call_167 rfl ?_
    exact Or.inl ⟨n, rfl, hq⟩
  · have h5 := hf.2 i w1 hq
    match i, h5, hq with
    | 0, _, hq => exact ⟨_, hd_mk (i := 0) (k := 4) (by decide) rfl (by decide +kernel) rfl rfl (by decide +kernel), fun z => lc_h0 (Or.inr ⟨0, by decide, rfl, hq⟩)⟩
    | 1, _, hq => exact ⟨_, hd_mk (i := 1) (k := 34) (by decide) rfl (by decide +kernel) rfl rfl (by decide +kernel), fun z => lc_h1 (Or.inr ⟨1, by decide, rfl, hq⟩)⟩
    | 2, _, hq => exact ⟨_, hd_mk (i := 2) (k := 64) (by decide) rfl (by decide +kernel) rfl rfl (by decide +kernel), fun z => lc_h2 (Or.inr ⟨2, by decide, rfl, hq⟩)⟩
    | 3, _, hq => exact ⟨_, hd_mk (i := 3) (k := 94) (by decide) rfl (by decide +kernel) rfl rfl (by decide +kernel), fun z => lc_h3 (Or.inr ⟨3, by decide, rfl, hq⟩)⟩
    | 4, _, hq => exact ⟨_, hd_mk (i := 4) (k := 124) (by decide) rfl (by decide +kernel) rfl rfl (by decide +kernel), fun z => lc_h4 (Or.inr ⟨4, by decide, rfl, hq⟩)⟩
    | n + 5, h5, _ => exact absurd h5 (by omega)
theorem lc_addPredicate {of : List zV} (ho : w.1 o = some (11, 0, of)) (hf : fcQ Q') (hM : zM G zm_X11_addPredicate d [zR o, zI a, zI b, zI c] w Q') : zM G zm_L_call (d + 1) [zR o, zI 5, zI a, zI b, zI c, zI e1, zI e2] w (lcQ Q') := by
  refine zx_enterH (by decide +kernel) (by decide) (by rw [zlg_len]; exact Nat.le_of_ble_eq_true rfl) ?_
  refine zx_L (L1 := [some (zR o), some (zI 5), some (zI a), some (zI b), some (zI c), some (zI e1), some (zI e2), none]) rfl ?_
  refine zx_iload_n (i := 1) dL_call_0 rfl rfl ?_
  refine zx_tableIn (tgt := 168) dL_call_1 (by decide) (by decide) rfl (by decide) ?_
  refine zx_aload_n (i := 0) dL_call_168 rfl rfl ?_
  refine zx_iload_n (i := 2) dL_call_169 rfl rfl ?_
  refine zx_iload_n (i := 3) dL_call_170 rfl rfl ?_
  refine zx_iload (i := 4) dL_call_171 rfl ?_
  refine zx_ivC (b := o) (As := [zI a, zI b, zI c]) (st := []) dL_call_173 zc_L_30 ho rfl rfl rfl (Nat.le_of_ble_eq_true rfl) hM (fun v w1 hq => ?_) (fun i w1 hi6 hq => ?_)
  · obtain ⟨n, rfl⟩ := hf.1 v w1 hq
    refine zx_st (st1 := [zI n]) rfl ?_
    refine zx_iret dL_call_176 rfl ?_
    exact Or.inl ⟨n, rfl, hq⟩
  · have h5 := hf.2 i w1 hq
    match i, h5, hq with
    | 0, _, hq => exact ⟨_, hd_mk (i := 0) (k := 5) (by decide) rfl (by decide +kernel) rfl rfl (by decide +kernel), fun z => lc_h0 (Or.inr ⟨0, by decide, rfl, hq⟩)⟩
    | 1, _, hq => exact ⟨_, hd_mk (i := 1) (k := 35) (by decide) rfl (by decide +kernel) rfl rfl (by decide +kernel), fun z => lc_h1 (Or.inr ⟨1, by decide, rfl, hq⟩)⟩
    | 2, _, hq => exact ⟨_, hd_mk (i := 2) (k := 65) (by decide) rfl (by decide +kernel) rfl rfl (by decide +kernel), fun z => lc_h2 (Or.inr ⟨2, by decide, rfl, hq⟩)⟩
    | 3, _, hq => exact ⟨_, hd_mk (i := 3) (k := 95) (by decide) rfl (by decide +kernel) rfl rfl (by decide +kernel), fun z => lc_h3 (Or.inr ⟨3, by decide, rfl, hq⟩)⟩
    | 4, _, hq => exact ⟨_, hd_mk (i := 4) (k := 125) (by decide) rfl (by decide +kernel) rfl rfl (by decide +kernel), fun z => lc_h4 (Or.inr ⟨4, by decide, rfl, hq⟩)⟩
    | n + 5, h5, _ => exact absurd h5 (by omega)
theorem lc_addMode {of : List zV} (ho : w.1 o = some (11, 0, of)) (hf : fcQ Q') (hM : zM G zm_X11_addMode d [zR o, zI a, zI b, zI (zi2c c)] w Q') : zM G zm_L_call (d + 1) [zR o, zI 6, zI a, zI b, zI c, zI e1, zI e2] w (lcQ Q') := by
  refine zx_enterH (by decide +kernel) (by decide) (by rw [zlg_len]; exact Nat.le_of_ble_eq_true rfl) ?_
  refine zx_L (L1 := [some (zR o), some (zI 6), some (zI a), some (zI b), some (zI c), some (zI e1), some (zI e2), none]) rfl ?_
  refine zx_iload_n (i := 1) dL_call_0 rfl rfl ?_
  refine zx_tableIn (tgt := 177) dL_call_1 (by decide) (by decide) rfl (by decide) ?_
  refine zx_aload_n (i := 0) dL_call_177 rfl rfl ?_
  refine zx_iload_n (i := 2) dL_call_178 rfl rfl ?_
  refine zx_iload_n (i := 3) dL_call_179 rfl rfl ?_
  refine zx_iload (i := 4) dL_call_180 rfl ?_
  refine zx_i2c (v := zi2c c) dL_call_182 rfl ?_
  refine zx_ivC (b := o) (As := [zI a, zI b, zI (zi2c c)]) (st := []) dL_call_183 zc_L_33 ho rfl rfl rfl (Nat.le_of_ble_eq_true rfl) hM (fun v w1 hq => ?_) (fun i w1 hi6 hq => ?_)
  · obtain ⟨n, rfl⟩ := hf.1 v w1 hq
    refine zx_st (st1 := [zI n]) rfl ?_
    refine zx_iret dL_call_186 rfl ?_
    exact Or.inl ⟨n, rfl, hq⟩
  · have h5 := hf.2 i w1 hq
    match i, h5, hq with
    | 0, _, hq => exact ⟨_, hd_mk (i := 0) (k := 6) (by decide) rfl (by decide +kernel) rfl rfl (by decide +kernel), fun z => lc_h0 (Or.inr ⟨0, by decide, rfl, hq⟩)⟩
    | 1, _, hq => exact ⟨_, hd_mk (i := 1) (k := 36) (by decide) rfl (by decide +kernel) rfl rfl (by decide +kernel), fun z => lc_h1 (Or.inr ⟨1, by decide, rfl, hq⟩)⟩
    | 2, _, hq => exact ⟨_, hd_mk (i := 2) (k := 66) (by decide) rfl (by decide +kernel) rfl rfl (by decide +kernel), fun z => lc_h2 (Or.inr ⟨2, by decide, rfl, hq⟩)⟩
    | 3, _, hq => exact ⟨_, hd_mk (i := 3) (k := 96) (by decide) rfl (by decide +kernel) rfl rfl (by decide +kernel), fun z => lc_h3 (Or.inr ⟨3, by decide, rfl, hq⟩)⟩
    | 4, _, hq => exact ⟨_, hd_mk (i := 4) (k := 126) (by decide) rfl (by decide +kernel) rfl rfl (by decide +kernel), fun z => lc_h4 (Or.inr ⟨4, by decide, rfl, hq⟩)⟩
    | n + 5, h5, _ => exact absurd h5 (by omega)
theorem lc_addClause {of : List zV} (ho : w.1 o = some (11, 0, of)) (hf : fcQ Q') (hM : zM G zm_X11_addClause d [zR o, zI a] w Q') : zM G zm_L_call (d + 1) [zR o, zI 7, zI a, zI b, zI c, zI e1, zI e2] w (lcQ Q') := by
  refine zx_enterH (by decide +kernel) (by decide) (by rw [zlg_len]; exact Nat.le_of_ble_eq_true rfl) ?_
  refine zx_L (L1 := [some (zR o), some (zI 7), some (zI a), some (zI b), some (zI c), some (zI e1), some (zI e2), none]) rfl ?_
  refine zx_iload_n (i := 1) dL_call_0 rfl rfl ?_
  refine zx_tableIn (tgt := 187) dL_call_1 (by decide) (by decide) rfl (by decide) ?_
  refine zx_aload_n (i := 0) dL_call_187 rfl rfl ?_
  refine zx_iload_n (i := 2) dL_call_188 rfl rfl ?_
  refine zx_ivC (b := o) (As := [zI a]) (st := []) dL_call_189 zc_L_37 ho rfl rfl rfl (Nat.le_of_ble_eq_true rfl) hM (fun v w1 hq => ?_) (fun i w1 hi6 hq => ?_)
  · obtain ⟨n, rfl⟩ := hf.1 v w1 hq
    refine zx_st (st1 := [zI n]) rfl ?_
    refine zx_iret dL_call_192 rfl ?_
    exact Or.inl ⟨n, rfl, hq⟩
  · have h5 := hf.2 i w1 hq
    match i, h5, hq with
    | 0, _, hq => exact ⟨_, hd_mk (i := 0) (k := 7) (by decide) rfl (by decide +kernel) rfl rfl (by decide +kernel), fun z => lc_h0 (Or.inr ⟨0, by decide, rfl, hq⟩)⟩
    | 1, _, hq => exact ⟨_, hd_mk (i := 1) (k := 37) (by decide) rfl (by decide +kernel) rfl rfl (by decide +kernel), fun z => lc_h1 (Or.inr ⟨1, by decide, rfl, hq⟩)⟩
    | 2, _, hq => exact ⟨_, hd_mk (i := 2) (k := 67) (by decide) rfl (by decide +kernel) rfl rfl (by decide +kernel), fun z => lc_h2 (Or.inr ⟨2, by decide, rfl, hq⟩)⟩
    | 3, _, hq => exact ⟨_, hd_mk (i := 3) (k := 97) (by decide) rfl (by decide +kernel) rfl rfl (by decide +kernel), fun z => lc_h3 (Or.inr ⟨3, by decide, rfl, hq⟩)⟩
    | 4, _, hq => exact ⟨_, hd_mk (i := 4) (k := 127) (by decide) rfl (by decide +kernel) rfl rfl (by decide +kernel), fun z => lc_h4 (Or.inr ⟨4, by decide, rfl, hq⟩)⟩
    | n + 5, h5, _ => exact absurd h5 (by omega)
theorem lc_addBuild {of : List zV} (ho : w.1 o = some (11, 0, of)) (hf : fcQ Q') (hM : zM G zm_X11_addBuild d [zR o, zI a, zI b, zI c, zI e1, zI e2] w Q') : zM G zm_L_call (d + 1) [zR o, zI 8, zI a, zI b, zI c, zI e1, zI e2] w (lcQ Q') := by
  refine zx_enterH (by decide +kernel) (by decide) (by rw [zlg_len]; exact Nat.le_of_ble_eq_true rfl) ?_
  refine zx_L (L1 := [some (zR o), some (zI 8), some (zI a), some (zI b), some (zI c), some (zI e1), some (zI e2), none]) rfl ?_
  refine zx_iload_n (i := 1) dL_call_0 rfl rfl ?_
  refine zx_tableIn (tgt := 193) dL_call_1 (by decide) (by decide) rfl (by decide) ?_
  refine zx_aload_n (i := 0) dL_call_193 rfl rfl ?_
  refine zx_iload_n (i := 2) dL_call_194 rfl rfl ?_
  refine zx_iload_n (i := 3) dL_call_195 rfl rfl ?_
  refine zx_iload (i := 4) dL_call_196 rfl ?_
  refine zx_iload (i := 5) dL_call_198 rfl ?_
  refine zx_iload (i := 6) dL_call_200 rfl ?_
  refine zx_ivC (b := o) (As := [zI a, zI b, zI c, zI e1, zI e2]) (st := []) dL_call_202 zc_L_40 ho rfl rfl rfl (Nat.le_of_ble_eq_true rfl) hM (fun v w1 hq => ?_) (fun i w1 hi6 hq => ?_)
  · obtain ⟨n, rfl⟩ := hf.1 v w1 hq
    refine zx_st (st1 := [zI n]) rfl ?_
    refine zx_iret dL_call_205 rfl ?_
    exact Or.inl ⟨n, rfl, hq⟩
  · have h5 := hf.2 i w1 hq
    match i, h5, hq with
    | 0, _, hq => exact ⟨_, hd_mk (i := 0) (k := 8) (by decide) rfl (by decide +kernel) rfl rfl (by decide +kernel), fun z => lc_h0 (Or.inr ⟨0, by decide, rfl, hq⟩)⟩
    | 1, _, hq => exact ⟨_, hd_mk (i := 1) (k := 38) (by decide) rfl (by decide +kernel) rfl rfl (by decide +kernel), fun z => lc_h1 (Or.inr ⟨1, by decide, rfl, hq⟩)⟩
    | 2, _, hq => exact ⟨_, hd_mk (i := 2) (k := 68) (by decide) rfl (by decide +kernel) rfl rfl (by decide +kernel), fun z => lc_h2 (Or.inr ⟨2, by decide, rfl, hq⟩)⟩
    | 3, _, hq => exact ⟨_, hd_mk (i := 3) (k := 98) (by decide) rfl (by decide +kernel) rfl rfl (by decide +kernel), fun z => lc_h3 (Or.inr ⟨3, by decide, rfl, hq⟩)⟩
    | 4, _, hq => exact ⟨_, hd_mk (i := 4) (k := 128) (by decide) rfl (by decide +kernel) rfl rfl (by decide +kernel), fun z => lc_h4 (Or.inr ⟨4, by decide, rfl, hq⟩)⟩
    | n + 5, h5, _ => exact absurd h5 (by omega)
theorem lc_addSame {of : List zV} (ho : w.1 o = some (11, 0, of)) (hf : fcQ Q') (hM : zM G zm_X11_addSame d [zR o, zI a, zI b, zI c] w Q') : zM G zm_L_call (d + 1) [zR o, zI 9, zI a, zI b, zI c, zI e1, zI e2] w (lcQ Q') := by
  refine zx_enterH (by decide +kernel) (by decide) (by rw [zlg_len]; exact Nat.le_of_ble_eq_true rfl) ?_
  refine zx_L (L1 := [some (zR o), some (zI 9), some (zI a), some (zI b), some (zI c), some (zI e1), some (zI e2), none]) rfl ?_
  refine zx_iload_n (i := 1) dL_call_0 rfl rfl ?_
  refine zx_tableIn (tgt := 206) dL_call_1 (by decide) (by decide) rfl (by decide) ?_
  refine zx_aload_n (i := 0) dL_call_206 rfl rfl ?_
  refine zx_iload_n (i := 2) dL_call_207 rfl rfl ?_
  refine zx_iload_n (i := 3) dL_call_208 rfl rfl ?_
  refine zx_iload (i := 4) dL_call_209 rfl ?_
  refine zx_ivC (b := o) (As := [zI a, zI b, zI c]) (st := []) dL_call_211 zc_L_44 ho rfl rfl rfl (Nat.le_of_ble_eq_true rfl) hM (fun v w1 hq => ?_) (fun i w1 hi6 hq => ?_)
  · obtain ⟨n, rfl⟩ := hf.1 v w1 hq
    refine zx_st (st1 := [zI n]) rfl ?_
    refine zx_iret dL_call_214 rfl ?_
    exact Or.inl ⟨n, rfl, hq⟩
  · have h5 := hf.2 i w1 hq
    match i, h5, hq with
    | 0, _, hq => exact ⟨_, hd_mk (i := 0) (k := 9) (by decide) rfl (by decide +kernel) rfl rfl (by decide +kernel), fun z => lc_h0 (Or.inr ⟨0, by decide, rfl, hq⟩)⟩
    | 1, _, hq => exact ⟨_, hd_mk (i := 1) (k := 39) (by decide) rfl (by decide +kernel) rfl rfl (by decide +kernel), fun z => lc_h1 (Or.inr ⟨1, by decide, rfl, hq⟩)⟩
    | 2, _, hq => exact ⟨_, hd_mk (i := 2) (k := 69) (by decide) rfl (by decide +kernel) rfl rfl (by decide +kernel), fun z => lc_h2 (Or.inr ⟨2, by decide, rfl, hq⟩)⟩
    | 3, _, hq => exact ⟨_, hd_mk (i := 3) (k := 99) (by decide) rfl (by decide +kernel) rfl rfl (by decide +kernel), fun z => lc_h3 (Or.inr ⟨3, by decide, rfl, hq⟩)⟩
    | 4, _, hq => exact ⟨_, hd_mk (i := 4) (k := 129) (by decide) rfl (by decide +kernel) rfl rfl (by decide +kernel), fun z => lc_h4 (Or.inr ⟨4, by decide, rfl, hq⟩)⟩
    | n + 5, h5, _ => exact absurd h5 (by omega)
theorem lc_compile {of : List zV} (ho : w.1 o = some (11, 0, of)) (hf : fcQ Q') (hM : zM G zm_X11_compile d [zR o] w Q') : zM G zm_L_call (d + 1) [zR o, zI 11, zI a, zI b, zI c, zI e1, zI e2] w (lcQ Q') := by
  refine zx_enterH (by decide +kernel) (by decide) (by rw [zlg_len]; exact Nat.le_of_ble_eq_true rfl) ?_
  refine zx_L (L1 := [some (zR o), some (zI 11), some (zI a), some (zI b), some (zI c), some (zI e1), some (zI e2), none]) rfl ?_
  refine zx_iload_n (i := 1) dL_call_0 rfl rfl ?_
  refine zx_tableIn (tgt := 251) dL_call_1 (by decide) (by decide) rfl (by decide) ?_
  refine zx_aload_n (i := 0) dL_call_251 rfl rfl ?_
  refine zx_ivC (b := o) (As := []) (st := []) dL_call_252 zc_L_51 ho rfl rfl rfl (Nat.le_of_ble_eq_true rfl) hM (fun v w1 hq => ?_) (fun i w1 hi6 hq => ?_)
  · obtain ⟨n, rfl⟩ := hf.1 v w1 hq
    refine zx_st (st1 := [zI n]) rfl ?_
    refine zx_iret dL_call_255 rfl ?_
    exact Or.inl ⟨n, rfl, hq⟩
  · have h5 := hf.2 i w1 hq
    match i, h5, hq with
    | 0, _, hq => exact ⟨_, hd_mk (i := 0) (k := 11) (by decide) rfl (by decide +kernel) rfl rfl (by decide +kernel), fun z => lc_h0 (Or.inr ⟨0, by decide, rfl, hq⟩)⟩
    | 1, _, hq => exact ⟨_, hd_mk (i := 1) (k := 41) (by decide) rfl (by decide +kernel) rfl rfl (by decide +kernel), fun z => lc_h1 (Or.inr ⟨1, by decide, rfl, hq⟩)⟩
    | 2, _, hq => exact ⟨_, hd_mk (i := 2) (k := 71) (by decide) rfl (by decide +kernel) rfl rfl (by decide +kernel), fun z => lc_h2 (Or.inr ⟨2, by decide, rfl, hq⟩)⟩
    | 3, _, hq => exact ⟨_, hd_mk (i := 3) (k := 101) (by decide) rfl (by decide +kernel) rfl rfl (by decide +kernel), fun z => lc_h3 (Or.inr ⟨3, by decide, rfl, hq⟩)⟩
    | 4, _, hq => exact ⟨_, hd_mk (i := 4) (k := 131) (by decide) rfl (by decide +kernel) rfl rfl (by decide +kernel), fun z => lc_h4 (Or.inr ⟨4, by decide, rfl, hq⟩)⟩
    | n + 5, h5, _ => exact absurd h5 (by omega)
theorem lc_open {of : List zV} (ho : w.1 o = some (11, 0, of)) (hf : fcQ Q') (hM : zM G zm_X11_open d [zR o] w Q') : zM G zm_L_call (d + 1) [zR o, zI 12, zI a, zI b, zI c, zI e1, zI e2] w (lcQ Q') := by
  refine zx_enterH (by decide +kernel) (by decide) (by rw [zlg_len]; exact Nat.le_of_ble_eq_true rfl) ?_
  refine zx_L (L1 := [some (zR o), some (zI 12), some (zI a), some (zI b), some (zI c), some (zI e1), some (zI e2), none]) rfl ?_
  refine zx_iload_n (i := 1) dL_call_0 rfl rfl ?_
  refine zx_tableIn (tgt := 256) dL_call_1 (by decide) (by decide) rfl (by decide) ?_
  refine zx_aload_n (i := 0) dL_call_256 rfl rfl ?_
  refine zx_ivC (b := o) (As := []) (st := []) dL_call_257 zc_L_54 ho rfl rfl rfl (Nat.le_of_ble_eq_true rfl) hM (fun v w1 hq => ?_) (fun i w1 hi6 hq => ?_)
  · obtain ⟨n, rfl⟩ := hf.1 v w1 hq
    refine zx_st (st1 := [zI n]) rfl ?_
    refine zx_iret dL_call_260 rfl ?_
    exact Or.inl ⟨n, rfl, hq⟩
  · have h5 := hf.2 i w1 hq
    match i, h5, hq with
    | 0, _, hq => exact ⟨_, hd_mk (i := 0) (k := 12) (by decide) rfl (by decide +kernel) rfl rfl (by decide +kernel), fun z => lc_h0 (Or.inr ⟨0, by decide, rfl, hq⟩)⟩
    | 1, _, hq => exact ⟨_, hd_mk (i := 1) (k := 42) (by decide) rfl (by decide +kernel) rfl rfl (by decide +kernel), fun z => lc_h1 (Or.inr ⟨1, by decide, rfl, hq⟩)⟩
    | 2, _, hq => exact ⟨_, hd_mk (i := 2) (k := 72) (by decide) rfl (by decide +kernel) rfl rfl (by decide +kernel), fun z => lc_h2 (Or.inr ⟨2, by decide, rfl, hq⟩)⟩
    | 3, _, hq => exact ⟨_, hd_mk (i := 3) (k := 102) (by decide) rfl (by decide +kernel) rfl rfl (by decide +kernel), fun z => lc_h3 (Or.inr ⟨3, by decide, rfl, hq⟩)⟩
    | 4, _, hq => exact ⟨_, hd_mk (i := 4) (k := 132) (by decide) rfl (by decide +kernel) rfl rfl (by decide +kernel), fun z => lc_h4 (Or.inr ⟨4, by decide, rfl, hq⟩)⟩
    | n + 5, h5, _ => exact absurd h5 (by omega)
theorem lc_fault {of : List zV} (ho : w.1 o = some (11, 0, of)) (hf : fcQ Q') (hM : zM G zm_X11_fault d [zR o, zI a, zI b] w Q') : zM G zm_L_call (d + 1) [zR o, zI 13, zI a, zI b, zI c, zI e1, zI e2] w (lcQ Q') := by
  refine zx_enterH (by decide +kernel) (by decide) (by rw [zlg_len]; exact Nat.le_of_ble_eq_true rfl) ?_
  refine zx_L (L1 := [some (zR o), some (zI 13), some (zI a), some (zI b), some (zI c), some (zI e1), some (zI e2), none]) rfl ?_
  refine zx_iload_n (i := 1) dL_call_0 rfl rfl ?_
  refine zx_tableIn (tgt := 261) dL_call_1 (by decide) (by decide) rfl (by decide) ?_
  refine zx_aload_n (i := 0) dL_call_261 rfl rfl ?_
  refine zx_iload_n (i := 2) dL_call_262 rfl rfl ?_
  refine zx_iload_n (i := 3) dL_call_263 rfl rfl ?_
  refine zx_ivC (b := o) (As := [zI a, zI b]) (st := []) dL_call_264 zc_L_57 ho rfl rfl rfl (Nat.le_of_ble_eq_true rfl) hM (fun v w1 hq => ?_) (fun i w1 hi6 hq => ?_)
  · obtain ⟨n, rfl⟩ := hf.1 v w1 hq
    refine zx_st (st1 := [zI n]) rfl ?_
    refine zx_iret dL_call_267 rfl ?_
    exact Or.inl ⟨n, rfl, hq⟩
  · have h5 := hf.2 i w1 hq
    match i, h5, hq with
    | 0, _, hq => exact ⟨_, hd_mk (i := 0) (k := 13) (by decide) rfl (by decide +kernel) rfl rfl (by decide +kernel), fun z => lc_h0 (Or.inr ⟨0, by decide, rfl, hq⟩)⟩
    | 1, _, hq => exact ⟨_, hd_mk (i := 1) (k := 43) (by decide) rfl (by decide +kernel) rfl rfl (by decide +kernel), fun z => lc_h1 (Or.inr ⟨1, by decide, rfl, hq⟩)⟩
    | 2, _, hq => exact ⟨_, hd_mk (i := 2) (k := 73) (by decide) rfl (by decide +kernel) rfl rfl (by decide +kernel), fun z => lc_h2 (Or.inr ⟨2, by decide, rfl, hq⟩)⟩
    | 3, _, hq => exact ⟨_, hd_mk (i := 3) (k := 103) (by decide) rfl (by decide +kernel) rfl rfl (by decide +kernel), fun z => lc_h3 (Or.inr ⟨3, by decide, rfl, hq⟩)⟩
    | 4, _, hq => exact ⟨_, hd_mk (i := 4) (k := 133) (by decide) rfl (by decide +kernel) rfl rfl (by decide +kernel), fun z => lc_h4 (Or.inr ⟨4, by decide, rfl, hq⟩)⟩
    | n + 5, h5, _ => exact absurd h5 (by omega)
theorem lc_found {of : List zV} (ho : w.1 o = some (11, 0, of)) (hf : fcQ Q') (hM : zM G zm_X11_found d [zR o, zI a, zI b] w Q') : zM G zm_L_call (d + 1) [zR o, zI 15, zI a, zI b, zI c, zI e1, zI e2] w (lcQ Q') := by
  refine zx_enterH (by decide +kernel) (by decide) (by rw [zlg_len]; exact Nat.le_of_ble_eq_true rfl) ?_
  refine zx_L (L1 := [some (zR o), some (zI 15), some (zI a), some (zI b), some (zI c), some (zI e1), some (zI e2), none]) rfl ?_
  refine zx_iload_n (i := 1) dL_call_0 rfl rfl ?_
  refine zx_tableIn (tgt := 283) dL_call_1 (by decide) (by decide) rfl (by decide) ?_
  refine zx_aload_n (i := 0) dL_call_283 rfl rfl ?_
  refine zx_iload_n (i := 2) dL_call_284 rfl rfl ?_
  refine zx_iload_n (i := 3) dL_call_285 rfl rfl ?_
  refine zx_ivC (b := o) (As := [zI a, zI b]) (st := []) dL_call_286 zc_L_65 ho rfl rfl rfl (Nat.le_of_ble_eq_true rfl) hM (fun v w1 hq => ?_) (fun i w1 hi6 hq => ?_)
  · obtain ⟨n, rfl⟩ := hf.1 v w1 hq
    refine zx_st (st1 := [zI n]) rfl ?_
    refine zx_iret dL_call_289 rfl ?_
    exact Or.inl ⟨n, rfl, hq⟩
  · have h5 := hf.2 i w1 hq
    match i, h5, hq with
    | 0, _, hq => exact ⟨_, hd_mk (i := 0) (k := 15) (by decide) rfl (by decide +kernel) rfl rfl (by decide +kernel), fun z => lc_h0 (Or.inr ⟨0, by decide, rfl, hq⟩)⟩
    | 1, _, hq => exact ⟨_, hd_mk (i := 1) (k := 45) (by decide) rfl (by decide +kernel) rfl rfl (by decide +kernel), fun z => lc_h1 (Or.inr ⟨1, by decide, rfl, hq⟩)⟩
    | 2, _, hq => exact ⟨_, hd_mk (i := 2) (k := 75) (by decide) rfl (by decide +kernel) rfl rfl (by decide +kernel), fun z => lc_h2 (Or.inr ⟨2, by decide, rfl, hq⟩)⟩
    | 3, _, hq => exact ⟨_, hd_mk (i := 3) (k := 105) (by decide) rfl (by decide +kernel) rfl rfl (by decide +kernel), fun z => lc_h3 (Or.inr ⟨3, by decide, rfl, hq⟩)⟩
    | 4, _, hq => exact ⟨_, hd_mk (i := 4) (k := 135) (by decide) rfl (by decide +kernel) rfl rfl (by decide +kernel), fun z => lc_h4 (Or.inr ⟨4, by decide, rfl, hq⟩)⟩
    | n + 5, h5, _ => exact absurd h5 (by omega)
theorem lc_switchOf {of : List zV} (ho : w.1 o = some (11, 0, of)) (hf : fcQ Q') (hM : zM G zm_X11_switchOf d [zR o, zI a, zI b] w Q') : zM G zm_L_call (d + 1) [zR o, zI 16, zI a, zI b, zI c, zI e1, zI e2] w (lcQ Q') := by
  refine zx_enterH (by decide +kernel) (by decide) (by rw [zlg_len]; exact Nat.le_of_ble_eq_true rfl) ?_
  refine zx_L (L1 := [some (zR o), some (zI 16), some (zI a), some (zI b), some (zI c), some (zI e1), some (zI e2), none]) rfl ?_
  refine zx_iload_n (i := 1) dL_call_0 rfl rfl ?_
  refine zx_tableIn (tgt := 290) dL_call_1 (by decide) (by decide) rfl (by decide) ?_
  refine zx_aload_n (i := 0) dL_call_290 rfl rfl ?_
  refine zx_iload_n (i := 2) dL_call_291 rfl rfl ?_
  refine zx_iload_n (i := 3) dL_call_292 rfl rfl ?_
  refine zx_ivC (b := o) (As := [zI a, zI b]) (st := []) dL_call_293 zc_L_68 ho rfl rfl rfl (Nat.le_of_ble_eq_true rfl) hM (fun v w1 hq => ?_) (fun i w1 hi6 hq => ?_)
  · obtain ⟨n, rfl⟩ := hf.1 v w1 hq
    refine zx_st (st1 := [zI n]) rfl ?_
    refine zx_iret dL_call_296 rfl ?_
    exact Or.inl ⟨n, rfl, hq⟩
  · have h5 := hf.2 i w1 hq
    match i, h5, hq with
    | 0, _, hq => exact ⟨_, hd_mk (i := 0) (k := 16) (by decide) rfl (by decide +kernel) rfl rfl (by decide +kernel), fun z => lc_h0 (Or.inr ⟨0, by decide, rfl, hq⟩)⟩
    | 1, _, hq => exact ⟨_, hd_mk (i := 1) (k := 46) (by decide) rfl (by decide +kernel) rfl rfl (by decide +kernel), fun z => lc_h1 (Or.inr ⟨1, by decide, rfl, hq⟩)⟩
    | 2, _, hq => exact ⟨_, hd_mk (i := 2) (k := 76) (by decide) rfl (by decide +kernel) rfl rfl (by decide +kernel), fun z => lc_h2 (Or.inr ⟨2, by decide, rfl, hq⟩)⟩
    | 3, _, hq => exact ⟨_, hd_mk (i := 3) (k := 106) (by decide) rfl (by decide +kernel) rfl rfl (by decide +kernel), fun z => lc_h3 (Or.inr ⟨3, by decide, rfl, hq⟩)⟩
    | 4, _, hq => exact ⟨_, hd_mk (i := 4) (k := 136) (by decide) rfl (by decide +kernel) rfl rfl (by decide +kernel), fun z => lc_h4 (Or.inr ⟨4, by decide, rfl, hq⟩)⟩
    | n + 5, h5, _ => exact absurd h5 (by omega)
theorem lc_ask {of : List zV} (ho : w.1 o = some (11, 0, of)) (hf : fcQ Q') (hM : zM G zm_X11_ask d [zR o, zI a, zI b, zI c, zI e1, zI e2] w Q') : zM G zm_L_call (d + 1) [zR o, zI 19, zI a, zI b, zI c, zI e1, zI e2] w (lcQ Q') := by
  refine zx_enterH (by decide +kernel) (by decide) (by rw [zlg_len]; exact Nat.le_of_ble_eq_true rfl) ?_
  refine zx_L (L1 := [some (zR o), some (zI 19), some (zI a), some (zI b), some (zI c), some (zI e1), some (zI e2), none]) rfl ?_
  refine zx_iload_n (i := 1) dL_call_0 rfl rfl ?_
  refine zx_tableIn (tgt := 315) dL_call_1 (by decide) (by decide) rfl (by decide) ?_
  refine zx_aload_n (i := 0) dL_call_315 rfl rfl ?_
  refine zx_iload_n (i := 2) dL_call_316 rfl rfl ?_
  refine zx_iload_n (i := 3) dL_call_317 rfl rfl ?_
  refine zx_iload (i := 4) dL_call_318 rfl ?_
  refine zx_iload (i := 5) dL_call_320 rfl ?_
  refine zx_iload (i := 6) dL_call_322 rfl ?_
  refine zx_ivC (b := o) (As := [zI a, zI b, zI c, zI e1, zI e2]) (st := []) dL_call_324 zc_L_77 ho rfl rfl rfl (Nat.le_of_ble_eq_true rfl) hM (fun v w1 hq => ?_) (fun i w1 hi6 hq => ?_)
  · obtain ⟨n, rfl⟩ := hf.1 v w1 hq
    refine zx_st (st1 := [zI n]) rfl ?_
    refine zx_iret dL_call_327 rfl ?_
    exact Or.inl ⟨n, rfl, hq⟩
  · have h5 := hf.2 i w1 hq
    match i, h5, hq with
    | 0, _, hq => exact ⟨_, hd_mk (i := 0) (k := 19) (by decide) rfl (by decide +kernel) rfl rfl (by decide +kernel), fun z => lc_h0 (Or.inr ⟨0, by decide, rfl, hq⟩)⟩
    | 1, _, hq => exact ⟨_, hd_mk (i := 1) (k := 49) (by decide) rfl (by decide +kernel) rfl rfl (by decide +kernel), fun z => lc_h1 (Or.inr ⟨1, by decide, rfl, hq⟩)⟩
    | 2, _, hq => exact ⟨_, hd_mk (i := 2) (k := 79) (by decide) rfl (by decide +kernel) rfl rfl (by decide +kernel), fun z => lc_h2 (Or.inr ⟨2, by decide, rfl, hq⟩)⟩
    | 3, _, hq => exact ⟨_, hd_mk (i := 3) (k := 109) (by decide) rfl (by decide +kernel) rfl rfl (by decide +kernel), fun z => lc_h3 (Or.inr ⟨3, by decide, rfl, hq⟩)⟩
    | 4, _, hq => exact ⟨_, hd_mk (i := 4) (k := 139) (by decide) rfl (by decide +kernel) rfl rfl (by decide +kernel), fun z => lc_h4 (Or.inr ⟨4, by decide, rfl, hq⟩)⟩
    | n + 5, h5, _ => exact absurd h5 (by omega)
theorem lc_ending {of : List zV} (ho : w.1 o = some (11, 0, of)) (hf : fcQ Q') (hM : zM G zm_X11_ending d [zR o] w Q') : zM G zm_L_call (d + 1) [zR o, zI 20, zI a, zI b, zI c, zI e1, zI e2] w (lcQ Q') := by
  refine zx_enterH (by decide +kernel) (by decide) (by rw [zlg_len]; exact Nat.le_of_ble_eq_true rfl) ?_
  refine zx_L (L1 := [some (zR o), some (zI 20), some (zI a), some (zI b), some (zI c), some (zI e1), some (zI e2), none]) rfl ?_
  refine zx_iload_n (i := 1) dL_call_0 rfl rfl ?_
  refine zx_tableIn (tgt := 328) dL_call_1 (by decide) (by decide) rfl (by decide) ?_
  refine zx_aload_n (i := 0) dL_call_328 rfl rfl ?_
  refine zx_ivC (b := o) (As := []) (st := []) dL_call_329 zc_L_80 ho rfl rfl rfl (Nat.le_of_ble_eq_true rfl) hM (fun v w1 hq => ?_) (fun i w1 hi6 hq => ?_)
  · obtain ⟨n, rfl⟩ := hf.1 v w1 hq
    refine zx_st (st1 := [zI n]) rfl ?_
    refine zx_iret dL_call_332 rfl ?_
    exact Or.inl ⟨n, rfl, hq⟩
  · have h5 := hf.2 i w1 hq
    match i, h5, hq with
    | 0, _, hq => exact ⟨_, hd_mk (i := 0) (k := 20) (by decide) rfl (by decide +kernel) rfl rfl (by decide +kernel), fun z => lc_h0 (Or.inr ⟨0, by decide, rfl, hq⟩)⟩
    | 1, _, hq => exact ⟨_, hd_mk (i := 1) (k := 50) (by decide) rfl (by decide +kernel) rfl rfl (by decide +kernel), fun z => lc_h1 (Or.inr ⟨1, by decide, rfl, hq⟩)⟩
    | 2, _, hq => exact ⟨_, hd_mk (i := 2) (k := 80) (by decide) rfl (by decide +kernel) rfl rfl (by decide +kernel), fun z => lc_h2 (Or.inr ⟨2, by decide, rfl, hq⟩)⟩
    | 3, _, hq => exact ⟨_, hd_mk (i := 3) (k := 110) (by decide) rfl (by decide +kernel) rfl rfl (by decide +kernel), fun z => lc_h3 (Or.inr ⟨3, by decide, rfl, hq⟩)⟩
    | 4, _, hq => exact ⟨_, hd_mk (i := 4) (k := 140) (by decide) rfl (by decide +kernel) rfl rfl (by decide +kernel), fun z => lc_h4 (Or.inr ⟨4, by decide, rfl, hq⟩)⟩
    | n + 5, h5, _ => exact absurd h5 (by omega)
theorem lc_answerAt {of : List zV} (ho : w.1 o = some (11, 0, of)) (hf : fcQ Q') (hM : zM G zm_X11_answerAt d [zR o, zI a, zI b] w Q') : zM G zm_L_call (d + 1) [zR o, zI 21, zI a, zI b, zI c, zI e1, zI e2] w (lcQ Q') := by
  refine zx_enterH (by decide +kernel) (by decide) (by rw [zlg_len]; exact Nat.le_of_ble_eq_true rfl) ?_
  refine zx_L (L1 := [some (zR o), some (zI 21), some (zI a), some (zI b), some (zI c), some (zI e1), some (zI e2), none]) rfl ?_
  refine zx_iload_n (i := 1) dL_call_0 rfl rfl ?_
  refine zx_tableIn (tgt := 333) dL_call_1 (by decide) (by decide) rfl (by decide) ?_
  refine zx_aload_n (i := 0) dL_call_333 rfl rfl ?_
  refine zx_iload_n (i := 2) dL_call_334 rfl rfl ?_
  refine zx_iload_n (i := 3) dL_call_335 rfl rfl ?_
  refine zx_ivC (b := o) (As := [zI a, zI b]) (st := []) dL_call_336 zc_L_84 ho rfl rfl rfl (Nat.le_of_ble_eq_true rfl) hM (fun v w1 hq => ?_) (fun i w1 hi6 hq => ?_)
  · obtain ⟨n, rfl⟩ := hf.1 v w1 hq
    refine zx_st (st1 := [zI n]) rfl ?_
    refine zx_iret dL_call_339 rfl ?_
    exact Or.inl ⟨n, rfl, hq⟩
  · have h5 := hf.2 i w1 hq
    match i, h5, hq with
    | 0, _, hq => exact ⟨_, hd_mk (i := 0) (k := 21) (by decide) rfl (by decide +kernel) rfl rfl (by decide +kernel), fun z => lc_h0 (Or.inr ⟨0, by decide, rfl, hq⟩)⟩
    | 1, _, hq => exact ⟨_, hd_mk (i := 1) (k := 51) (by decide) rfl (by decide +kernel) rfl rfl (by decide +kernel), fun z => lc_h1 (Or.inr ⟨1, by decide, rfl, hq⟩)⟩
    | 2, _, hq => exact ⟨_, hd_mk (i := 2) (k := 81) (by decide) rfl (by decide +kernel) rfl rfl (by decide +kernel), fun z => lc_h2 (Or.inr ⟨2, by decide, rfl, hq⟩)⟩
    | 3, _, hq => exact ⟨_, hd_mk (i := 3) (k := 111) (by decide) rfl (by decide +kernel) rfl rfl (by decide +kernel), fun z => lc_h3 (Or.inr ⟨3, by decide, rfl, hq⟩)⟩
    | 4, _, hq => exact ⟨_, hd_mk (i := 4) (k := 141) (by decide) rfl (by decide +kernel) rfl rfl (by decide +kernel), fun z => lc_h4 (Or.inr ⟨4, by decide, rfl, hq⟩)⟩
    | n + 5, h5, _ => exact absurd h5 (by omega)
theorem lc_multiplicity {of : List zV} (ho : w.1 o = some (11, 0, of)) (hf : fcQ Q') (hM : zM G zm_X11_multiplicity d [zR o, zI a] w Q') : zM G zm_L_call (d + 1) [zR o, zI 22, zI a, zI b, zI c, zI e1, zI e2] w (lcQ Q') := by
  refine zx_enterH (by decide +kernel) (by decide) (by rw [zlg_len]; exact Nat.le_of_ble_eq_true rfl) ?_
  refine zx_L (L1 := [some (zR o), some (zI 22), some (zI a), some (zI b), some (zI c), some (zI e1), some (zI e2), none]) rfl ?_
  refine zx_iload_n (i := 1) dL_call_0 rfl rfl ?_
  refine zx_tableIn (tgt := 340) dL_call_1 (by decide) (by decide) rfl (by decide) ?_
  refine zx_aload_n (i := 0) dL_call_340 rfl rfl ?_
  refine zx_iload_n (i := 2) dL_call_341 rfl rfl ?_
  refine zx_ivC (b := o) (As := [zI a]) (st := []) dL_call_342 zc_L_87 ho rfl rfl rfl (Nat.le_of_ble_eq_true rfl) hM (fun v w1 hq => ?_) (fun i w1 hi6 hq => ?_)
  · obtain ⟨n, rfl⟩ := hf.1 v w1 hq
    refine zx_st (st1 := [zI n]) rfl ?_
    refine zx_iret dL_call_345 rfl ?_
    exact Or.inl ⟨n, rfl, hq⟩
  · have h5 := hf.2 i w1 hq
    match i, h5, hq with
    | 0, _, hq => exact ⟨_, hd_mk (i := 0) (k := 22) (by decide) rfl (by decide +kernel) rfl rfl (by decide +kernel), fun z => lc_h0 (Or.inr ⟨0, by decide, rfl, hq⟩)⟩
    | 1, _, hq => exact ⟨_, hd_mk (i := 1) (k := 52) (by decide) rfl (by decide +kernel) rfl rfl (by decide +kernel), fun z => lc_h1 (Or.inr ⟨1, by decide, rfl, hq⟩)⟩
    | 2, _, hq => exact ⟨_, hd_mk (i := 2) (k := 82) (by decide) rfl (by decide +kernel) rfl rfl (by decide +kernel), fun z => lc_h2 (Or.inr ⟨2, by decide, rfl, hq⟩)⟩
    | 3, _, hq => exact ⟨_, hd_mk (i := 3) (k := 112) (by decide) rfl (by decide +kernel) rfl rfl (by decide +kernel), fun z => lc_h3 (Or.inr ⟨3, by decide, rfl, hq⟩)⟩
    | 4, _, hq => exact ⟨_, hd_mk (i := 4) (k := 142) (by decide) rfl (by decide +kernel) rfl rfl (by decide +kernel), fun z => lc_h4 (Or.inr ⟨4, by decide, rfl, hq⟩)⟩
    | n + 5, h5, _ => exact absurd h5 (by omega)
theorem lc_answersByBreadth {of : List zV} (ho : w.1 o = some (11, 0, of)) (hf : fcQ Q') (hM : zM G zm_X11_answersByBreadth d [zR o] w Q') : zM G zm_L_call (d + 1) [zR o, zI 23, zI a, zI b, zI c, zI e1, zI e2] w (lcQ Q') := by
  refine zx_enterH (by decide +kernel) (by decide) (by rw [zlg_len]; exact Nat.le_of_ble_eq_true rfl) ?_
  refine zx_L (L1 := [some (zR o), some (zI 23), some (zI a), some (zI b), some (zI c), some (zI e1), some (zI e2), none]) rfl ?_
  refine zx_iload_n (i := 1) dL_call_0 rfl rfl ?_
  refine zx_tableIn (tgt := 346) dL_call_1 (by decide) (by decide) rfl (by decide) ?_
  refine zx_aload_n (i := 0) dL_call_346 rfl rfl ?_
  refine zx_ivC (b := o) (As := []) (st := []) dL_call_347 zc_L_90 ho rfl rfl rfl (Nat.le_of_ble_eq_true rfl) hM (fun v w1 hq => ?_) (fun i w1 hi6 hq => ?_)
  · obtain ⟨n, rfl⟩ := hf.1 v w1 hq
    refine zx_st (st1 := [zI n]) rfl ?_
    refine zx_iret dL_call_350 rfl ?_
    exact Or.inl ⟨n, rfl, hq⟩
  · have h5 := hf.2 i w1 hq
    match i, h5, hq with
    | 0, _, hq => exact ⟨_, hd_mk (i := 0) (k := 23) (by decide) rfl (by decide +kernel) rfl rfl (by decide +kernel), fun z => lc_h0 (Or.inr ⟨0, by decide, rfl, hq⟩)⟩
    | 1, _, hq => exact ⟨_, hd_mk (i := 1) (k := 53) (by decide) rfl (by decide +kernel) rfl rfl (by decide +kernel), fun z => lc_h1 (Or.inr ⟨1, by decide, rfl, hq⟩)⟩
    | 2, _, hq => exact ⟨_, hd_mk (i := 2) (k := 83) (by decide) rfl (by decide +kernel) rfl rfl (by decide +kernel), fun z => lc_h2 (Or.inr ⟨2, by decide, rfl, hq⟩)⟩
    | 3, _, hq => exact ⟨_, hd_mk (i := 3) (k := 113) (by decide) rfl (by decide +kernel) rfl rfl (by decide +kernel), fun z => lc_h3 (Or.inr ⟨3, by decide, rfl, hq⟩)⟩
    | 4, _, hq => exact ⟨_, hd_mk (i := 4) (k := 143) (by decide) rfl (by decide +kernel) rfl rfl (by decide +kernel), fun z => lc_h4 (Or.inr ⟨4, by decide, rfl, hq⟩)⟩
    | n + 5, h5, _ => exact absurd h5 (by omega)
theorem lc_steps {of : List zV} (ho : w.1 o = some (11, 0, of)) (hf : fcQ Q') (hM : zM G zm_X11_steps d [zR o] w Q') : zM G zm_L_call (d + 1) [zR o, zI 24, zI a, zI b, zI c, zI e1, zI e2] w (lcQ Q') := by
  refine zx_enterH (by decide +kernel) (by decide) (by rw [zlg_len]; exact Nat.le_of_ble_eq_true rfl) ?_
  refine zx_L (L1 := [some (zR o), some (zI 24), some (zI a), some (zI b), some (zI c), some (zI e1), some (zI e2), none]) rfl ?_
  refine zx_iload_n (i := 1) dL_call_0 rfl rfl ?_
  refine zx_tableIn (tgt := 351) dL_call_1 (by decide) (by decide) rfl (by decide) ?_
  refine zx_aload_n (i := 0) dL_call_351 rfl rfl ?_
  refine zx_ivC (b := o) (As := []) (st := []) dL_call_352 zc_L_93 ho rfl rfl rfl (Nat.le_of_ble_eq_true rfl) hM (fun v w1 hq => ?_) (fun i w1 hi6 hq => ?_)
  · obtain ⟨n, rfl⟩ := hf.1 v w1 hq
    refine zx_st (st1 := [zI n]) rfl ?_
    refine zx_iret dL_call_355 rfl ?_
    exact Or.inl ⟨n, rfl, hq⟩
  · have h5 := hf.2 i w1 hq
    match i, h5, hq with
    | 0, _, hq => exact ⟨_, hd_mk (i := 0) (k := 24) (by decide) rfl (by decide +kernel) rfl rfl (by decide +kernel), fun z => lc_h0 (Or.inr ⟨0, by decide, rfl, hq⟩)⟩
    | 1, _, hq => exact ⟨_, hd_mk (i := 1) (k := 54) (by decide) rfl (by decide +kernel) rfl rfl (by decide +kernel), fun z => lc_h1 (Or.inr ⟨1, by decide, rfl, hq⟩)⟩
    | 2, _, hq => exact ⟨_, hd_mk (i := 2) (k := 84) (by decide) rfl (by decide +kernel) rfl rfl (by decide +kernel), fun z => lc_h2 (Or.inr ⟨2, by decide, rfl, hq⟩)⟩
    | 3, _, hq => exact ⟨_, hd_mk (i := 3) (k := 114) (by decide) rfl (by decide +kernel) rfl rfl (by decide +kernel), fun z => lc_h3 (Or.inr ⟨3, by decide, rfl, hq⟩)⟩
    | 4, _, hq => exact ⟨_, hd_mk (i := 4) (k := 144) (by decide) rfl (by decide +kernel) rfl rfl (by decide +kernel), fun z => lc_h4 (Or.inr ⟨4, by decide, rfl, hq⟩)⟩
    | n + 5, h5, _ => exact absurd h5 (by omega)
theorem lc_choicePoints {of : List zV} (ho : w.1 o = some (11, 0, of)) (hf : fcQ Q') (hM : zM G zm_X11_choicePoints d [zR o] w Q') : zM G zm_L_call (d + 1) [zR o, zI 25, zI a, zI b, zI c, zI e1, zI e2] w (lcQ Q') := by
  refine zx_enterH (by decide +kernel) (by decide) (by rw [zlg_len]; exact Nat.le_of_ble_eq_true rfl) ?_
  refine zx_L (L1 := [some (zR o), some (zI 25), some (zI a), some (zI b), some (zI c), some (zI e1), some (zI e2), none]) rfl ?_
  refine zx_iload_n (i := 1) dL_call_0 rfl rfl ?_
  refine zx_tableIn (tgt := 356) dL_call_1 (by decide) (by decide) rfl (by decide) ?_
  refine zx_aload_n (i := 0) dL_call_356 rfl rfl ?_
  refine zx_ivC (b := o) (As := []) (st := []) dL_call_357 zc_L_96 ho rfl rfl rfl (Nat.le_of_ble_eq_true rfl) hM (fun v w1 hq => ?_) (fun i w1 hi6 hq => ?_)
  · obtain ⟨n, rfl⟩ := hf.1 v w1 hq
    refine zx_st (st1 := [zI n]) rfl ?_
    refine zx_iret dL_call_360 rfl ?_
    exact Or.inl ⟨n, rfl, hq⟩
  · have h5 := hf.2 i w1 hq
    match i, h5, hq with
    | 0, _, hq => exact ⟨_, hd_mk (i := 0) (k := 25) (by decide) rfl (by decide +kernel) rfl rfl (by decide +kernel), fun z => lc_h0 (Or.inr ⟨0, by decide, rfl, hq⟩)⟩
    | 1, _, hq => exact ⟨_, hd_mk (i := 1) (k := 55) (by decide) rfl (by decide +kernel) rfl rfl (by decide +kernel), fun z => lc_h1 (Or.inr ⟨1, by decide, rfl, hq⟩)⟩
    | 2, _, hq => exact ⟨_, hd_mk (i := 2) (k := 85) (by decide) rfl (by decide +kernel) rfl rfl (by decide +kernel), fun z => lc_h2 (Or.inr ⟨2, by decide, rfl, hq⟩)⟩
    | 3, _, hq => exact ⟨_, hd_mk (i := 3) (k := 115) (by decide) rfl (by decide +kernel) rfl rfl (by decide +kernel), fun z => lc_h3 (Or.inr ⟨3, by decide, rfl, hq⟩)⟩
    | 4, _, hq => exact ⟨_, hd_mk (i := 4) (k := 145) (by decide) rfl (by decide +kernel) rfl rfl (by decide +kernel), fun z => lc_h4 (Or.inr ⟨4, by decide, rfl, hq⟩)⟩
    | n + 5, h5, _ => exact absurd h5 (by omega)
theorem lc_deepest {of : List zV} (ho : w.1 o = some (11, 0, of)) (hf : fcQ Q') (hM : zM G zm_X11_deepest d [zR o] w Q') : zM G zm_L_call (d + 1) [zR o, zI 26, zI a, zI b, zI c, zI e1, zI e2] w (lcQ Q') := by
  refine zx_enterH (by decide +kernel) (by decide) (by rw [zlg_len]; exact Nat.le_of_ble_eq_true rfl) ?_
  refine zx_L (L1 := [some (zR o), some (zI 26), some (zI a), some (zI b), some (zI c), some (zI e1), some (zI e2), none]) rfl ?_
  refine zx_iload_n (i := 1) dL_call_0 rfl rfl ?_
  refine zx_tableIn (tgt := 361) dL_call_1 (by decide) (by decide) rfl (by decide) ?_
  refine zx_aload_n (i := 0) dL_call_361 rfl rfl ?_
  refine zx_ivC (b := o) (As := []) (st := []) dL_call_362 zc_L_99 ho rfl rfl rfl (Nat.le_of_ble_eq_true rfl) hM (fun v w1 hq => ?_) (fun i w1 hi6 hq => ?_)
  · obtain ⟨n, rfl⟩ := hf.1 v w1 hq
    refine zx_st (st1 := [zI n]) rfl ?_
    refine zx_iret dL_call_365 rfl ?_
    exact Or.inl ⟨n, rfl, hq⟩
  · have h5 := hf.2 i w1 hq
    match i, h5, hq with
    | 0, _, hq => exact ⟨_, hd_mk (i := 0) (k := 26) (by decide) rfl (by decide +kernel) rfl rfl (by decide +kernel), fun z => lc_h0 (Or.inr ⟨0, by decide, rfl, hq⟩)⟩
    | 1, _, hq => exact ⟨_, hd_mk (i := 1) (k := 56) (by decide) rfl (by decide +kernel) rfl rfl (by decide +kernel), fun z => lc_h1 (Or.inr ⟨1, by decide, rfl, hq⟩)⟩
    | 2, _, hq => exact ⟨_, hd_mk (i := 2) (k := 86) (by decide) rfl (by decide +kernel) rfl rfl (by decide +kernel), fun z => lc_h2 (Or.inr ⟨2, by decide, rfl, hq⟩)⟩
    | 3, _, hq => exact ⟨_, hd_mk (i := 3) (k := 116) (by decide) rfl (by decide +kernel) rfl rfl (by decide +kernel), fun z => lc_h3 (Or.inr ⟨3, by decide, rfl, hq⟩)⟩
    | 4, _, hq => exact ⟨_, hd_mk (i := 4) (k := 146) (by decide) rfl (by decide +kernel) rfl rfl (by decide +kernel), fun z => lc_h4 (Or.inr ⟨4, by decide, rfl, hq⟩)⟩
    | n + 5, h5, _ => exact absurd h5 (by omega)
theorem lc_recorded {of : List zV} (ho : w.1 o = some (11, 0, of)) (hf : fcQ Q') (hM : zM G zm_X11_recorded d [zR o] w Q') : zM G zm_L_call (d + 1) [zR o, zI 27, zI a, zI b, zI c, zI e1, zI e2] w (lcQ Q') := by
  refine zx_enterH (by decide +kernel) (by decide) (by rw [zlg_len]; exact Nat.le_of_ble_eq_true rfl) ?_
  refine zx_L (L1 := [some (zR o), some (zI 27), some (zI a), some (zI b), some (zI c), some (zI e1), some (zI e2), none]) rfl ?_
  refine zx_iload_n (i := 1) dL_call_0 rfl rfl ?_
  refine zx_tableIn (tgt := 366) dL_call_1 (by decide) (by decide) rfl (by decide) ?_
  refine zx_aload_n (i := 0) dL_call_366 rfl rfl ?_
  refine zx_ivC (b := o) (As := []) (st := []) dL_call_367 zc_L_102 ho rfl rfl rfl (Nat.le_of_ble_eq_true rfl) hM (fun v w1 hq => ?_) (fun i w1 hi6 hq => ?_)
  · obtain ⟨n, rfl⟩ := hf.1 v w1 hq
    refine zx_st (st1 := [zI n]) rfl ?_
    refine zx_iret dL_call_370 rfl ?_
    exact Or.inl ⟨n, rfl, hq⟩
  · have h5 := hf.2 i w1 hq
    match i, h5, hq with
    | 0, _, hq => exact ⟨_, hd_mk (i := 0) (k := 27) (by decide) rfl (by decide +kernel) rfl rfl (by decide +kernel), fun z => lc_h0 (Or.inr ⟨0, by decide, rfl, hq⟩)⟩
    | 1, _, hq => exact ⟨_, hd_mk (i := 1) (k := 57) (by decide) rfl (by decide +kernel) rfl rfl (by decide +kernel), fun z => lc_h1 (Or.inr ⟨1, by decide, rfl, hq⟩)⟩
    | 2, _, hq => exact ⟨_, hd_mk (i := 2) (k := 87) (by decide) rfl (by decide +kernel) rfl rfl (by decide +kernel), fun z => lc_h2 (Or.inr ⟨2, by decide, rfl, hq⟩)⟩
    | 3, _, hq => exact ⟨_, hd_mk (i := 3) (k := 117) (by decide) rfl (by decide +kernel) rfl rfl (by decide +kernel), fun z => lc_h3 (Or.inr ⟨3, by decide, rfl, hq⟩)⟩
    | 4, _, hq => exact ⟨_, hd_mk (i := 4) (k := 147) (by decide) rfl (by decide +kernel) rfl rfl (by decide +kernel), fun z => lc_h4 (Or.inr ⟨4, by decide, rfl, hq⟩)⟩
    | n + 5, h5, _ => exact absurd h5 (by omega)
theorem lc_recordAt {of : List zV} (ho : w.1 o = some (11, 0, of)) (hf : fcQ Q') (hM : zM G zm_X11_recordAt d [zR o, zI a] w Q') : zM G zm_L_call (d + 1) [zR o, zI 28, zI a, zI b, zI c, zI e1, zI e2] w (lcQ Q') := by
  refine zx_enterH (by decide +kernel) (by decide) (by rw [zlg_len]; exact Nat.le_of_ble_eq_true rfl) ?_
  refine zx_L (L1 := [some (zR o), some (zI 28), some (zI a), some (zI b), some (zI c), some (zI e1), some (zI e2), none]) rfl ?_
  refine zx_iload_n (i := 1) dL_call_0 rfl rfl ?_
  refine zx_tableIn (tgt := 371) dL_call_1 (by decide) (by decide) rfl (by decide) ?_
  refine zx_aload_n (i := 0) dL_call_371 rfl rfl ?_
  refine zx_iload_n (i := 2) dL_call_372 rfl rfl ?_
  refine zx_ivC (b := o) (As := [zI a]) (st := []) dL_call_373 zc_L_105 ho rfl rfl rfl (Nat.le_of_ble_eq_true rfl) hM (fun v w1 hq => ?_) (fun i w1 hi6 hq => ?_)
  · obtain ⟨n, rfl⟩ := hf.1 v w1 hq
    refine zx_st (st1 := [zI n]) rfl ?_
    refine zx_iret dL_call_376 rfl ?_
    exact Or.inl ⟨n, rfl, hq⟩
  · have h5 := hf.2 i w1 hq
    match i, h5, hq with
    | 0, _, hq => exact ⟨_, hd_mk (i := 0) (k := 28) (by decide) rfl (by decide +kernel) rfl rfl (by decide +kernel), fun z => lc_h0 (Or.inr ⟨0, by decide, rfl, hq⟩)⟩
    | 1, _, hq => exact ⟨_, hd_mk (i := 1) (k := 58) (by decide) rfl (by decide +kernel) rfl rfl (by decide +kernel), fun z => lc_h1 (Or.inr ⟨1, by decide, rfl, hq⟩)⟩
    | 2, _, hq => exact ⟨_, hd_mk (i := 2) (k := 88) (by decide) rfl (by decide +kernel) rfl rfl (by decide +kernel), fun z => lc_h2 (Or.inr ⟨2, by decide, rfl, hq⟩)⟩
    | 3, _, hq => exact ⟨_, hd_mk (i := 3) (k := 118) (by decide) rfl (by decide +kernel) rfl rfl (by decide +kernel), fun z => lc_h3 (Or.inr ⟨3, by decide, rfl, hq⟩)⟩
    | 4, _, hq => exact ⟨_, hd_mk (i := 4) (k := 148) (by decide) rfl (by decide +kernel) rfl rfl (by decide +kernel), fun z => lc_h4 (Or.inr ⟨4, by decide, rfl, hq⟩)⟩
    | n + 5, h5, _ => exact absurd h5 (by omega)
theorem lc_whereAt {of : List zV} (ho : w.1 o = some (11, 0, of)) (hf : fcQ Q') (hM : zM G zm_X11_whereAt d [zR o, zI a] w Q') : zM G zm_L_call (d + 1) [zR o, zI 29, zI a, zI b, zI c, zI e1, zI e2] w (lcQ Q') := by
  refine zx_enterH (by decide +kernel) (by decide) (by rw [zlg_len]; exact Nat.le_of_ble_eq_true rfl) ?_
  refine zx_L (L1 := [some (zR o), some (zI 29), some (zI a), some (zI b), some (zI c), some (zI e1), some (zI e2), none]) rfl ?_
  refine zx_iload_n (i := 1) dL_call_0 rfl rfl ?_
  refine zx_tableOut (tgt := 377) dL_call_1 (by decide) (by decide) ?_
  refine zx_aload_n (i := 0) dL_call_377 rfl rfl ?_
  refine zx_iload_n (i := 2) dL_call_378 rfl rfl ?_
  refine zx_ivC (b := o) (As := [zI a]) (st := []) dL_call_379 zc_L_109 ho rfl rfl rfl (Nat.le_of_ble_eq_true rfl) hM (fun v w1 hq => ?_) (fun i w1 hi6 hq => ?_)
  · obtain ⟨n, rfl⟩ := hf.1 v w1 hq
    refine zx_st (st1 := [zI n]) rfl ?_
    refine zx_iret dL_call_382 rfl ?_
    exact Or.inl ⟨n, rfl, hq⟩
  · have h5 := hf.2 i w1 hq
    match i, h5, hq with
    | 0, _, hq => exact ⟨_, hd_mk (i := 0) (k := 29) (by decide) rfl (by decide +kernel) rfl rfl (by decide +kernel), fun z => lc_h0 (Or.inr ⟨0, by decide, rfl, hq⟩)⟩
    | 1, _, hq => exact ⟨_, hd_mk (i := 1) (k := 59) (by decide) rfl (by decide +kernel) rfl rfl (by decide +kernel), fun z => lc_h1 (Or.inr ⟨1, by decide, rfl, hq⟩)⟩
    | 2, _, hq => exact ⟨_, hd_mk (i := 2) (k := 89) (by decide) rfl (by decide +kernel) rfl rfl (by decide +kernel), fun z => lc_h2 (Or.inr ⟨2, by decide, rfl, hq⟩)⟩
    | 3, _, hq => exact ⟨_, hd_mk (i := 3) (k := 119) (by decide) rfl (by decide +kernel) rfl rfl (by decide +kernel), fun z => lc_h3 (Or.inr ⟨3, by decide, rfl, hq⟩)⟩
    | 4, _, hq => exact ⟨_, hd_mk (i := 4) (k := 149) (by decide) rfl (by decide +kernel) rfl rfl (by decide +kernel), fun z => lc_h4 (Or.inr ⟨4, by decide, rfl, hq⟩)⟩
    | n + 5, h5, _ => exact absurd h5 (by omega)
theorem lc_isGood {of : List zV} (ho : w.1 o = some (11, 0, of)) (hf : fcQ Q') (hM : zM G zm_X11_isGood d [zR o, zI a, zI b] w Q') (hb : ∀ n w1, Q' (.inl (some (zI n))) w1 → n = 0 ∨ n = 1) : zM G zm_L_call (d + 1) [zR o, zI 14, zI a, zI b, zI c, zI e1, zI e2] w (lcQ Q') := by
  refine zx_enterH (by decide +kernel) (by decide) (by rw [zlg_len]; exact Nat.le_of_ble_eq_true rfl) ?_
  refine zx_L (L1 := [some (zR o), some (zI 14), some (zI a), some (zI b), some (zI c), some (zI e1), some (zI e2), none]) rfl ?_
  refine zx_iload_n (i := 1) dL_call_0 rfl rfl ?_
  refine zx_tableIn (tgt := 268) dL_call_1 (by decide) (by decide) rfl (by decide) ?_
  refine zx_aload_n (i := 0) dL_call_268 rfl rfl ?_
  refine zx_iload_n (i := 2) dL_call_269 rfl rfl ?_
  refine zx_iload_n (i := 3) dL_call_270 rfl rfl ?_
  refine zx_ivC (b := o) (As := [zI a, zI b]) (st := []) dL_call_271 zc_L_61 ho rfl rfl rfl (Nat.le_of_ble_eq_true rfl) hM (fun v w1 hq => ?_) (fun i w1 hi6 hq => ?_)
  · obtain ⟨n, rfl⟩ := hf.1 v w1 hq
    refine zx_st (st1 := [zI n]) rfl ?_
    rcases hb n w1 hq with rfl | rfl
    · refine zx_if_eq (tgt := 281) dL_call_274 (by decide) (fun _ => ?_) (fun h => absurd rfl h)
      refine zx_iconst (v := 0) dL_call_281 rfl (z32_lit (by decide) (by decide)) ?_
      refine zx_iret dL_call_282 rfl ?_
      exact Or.inl ⟨0, rfl, hq⟩
    · refine zx_if_eq (tgt := 281) dL_call_274 (by decide) (fun h => absurd h (by decide)) (fun _ => ?_)
      refine zx_iconst (v := 1) dL_call_277 rfl (z32_lit (by decide) (by decide)) ?_
      refine zx_goto (tgt := 282) dL_call_278 (by decide) ?_
      refine zx_iret dL_call_282 rfl ?_
      exact Or.inl ⟨1, rfl, hq⟩
  · have h5 := hf.2 i w1 hq
    match i, h5, hq with
    | 0, _, hq => exact ⟨_, hd_mk (i := 0) (k := 14) (by decide) rfl (by decide +kernel) rfl rfl (by decide +kernel), fun z => lc_h0 (Or.inr ⟨0, by decide, rfl, hq⟩)⟩
    | 1, _, hq => exact ⟨_, hd_mk (i := 1) (k := 44) (by decide) rfl (by decide +kernel) rfl rfl (by decide +kernel), fun z => lc_h1 (Or.inr ⟨1, by decide, rfl, hq⟩)⟩
    | 2, _, hq => exact ⟨_, hd_mk (i := 2) (k := 74) (by decide) rfl (by decide +kernel) rfl rfl (by decide +kernel), fun z => lc_h2 (Or.inr ⟨2, by decide, rfl, hq⟩)⟩
    | 3, _, hq => exact ⟨_, hd_mk (i := 3) (k := 104) (by decide) rfl (by decide +kernel) rfl rfl (by decide +kernel), fun z => lc_h3 (Or.inr ⟨3, by decide, rfl, hq⟩)⟩
    | 4, _, hq => exact ⟨_, hd_mk (i := 4) (k := 134) (by decide) rfl (by decide +kernel) rfl rfl (by decide +kernel), fun z => lc_h4 (Or.inr ⟨4, by decide, rfl, hq⟩)⟩
    | n + 5, h5, _ => exact absurd h5 (by omega)
theorem lc_addCall1 {of : List zV} (ho : w.1 o = some (11, 0, of)) (hf : fcQ Q') (hM : zM G zm_X11_addCall d [zR o, zI a, zI b, zI (zdiv c 64), zI (zrem (zdiv c 8) 8), zI (zrem c 8), zI 1] w Q') (he1 : e1 = 1) : zM G zm_L_call (d + 1) [zR o, zI 10, zI a, zI b, zI c, zI e1, zI e2] w (lcQ Q') := by
  refine zx_enterH (by decide +kernel) (by decide) (by rw [zlg_len]; exact Nat.le_of_ble_eq_true rfl) ?_
  refine zx_L (L1 := [some (zR o), some (zI 10), some (zI a), some (zI b), some (zI c), some (zI e1), some (zI e2), none]) rfl ?_
  refine zx_iload_n (i := 1) dL_call_0 rfl rfl ?_
  refine zx_tableIn (tgt := 215) dL_call_1 (by decide) (by decide) rfl (by decide) ?_
  refine zx_aload_n (i := 0) dL_call_215 rfl rfl ?_
  refine zx_iload_n (i := 2) dL_call_216 rfl rfl ?_
  refine zx_iload_n (i := 3) dL_call_217 rfl rfl ?_
  refine zx_iload (i := 4) dL_call_218 rfl ?_
  refine zx_bipush (v := 64) dL_call_220 (by decide +kernel) (z32_lit (by decide) (by decide)) ?_
  refine zx_idiv dL_call_222 (by decide) rfl ?_
  refine zx_iload (i := 4) dL_call_223 rfl ?_
  refine zx_bipush (v := 8) dL_call_225 (by decide +kernel) (z32_lit (by decide) (by decide)) ?_
  refine zx_idiv dL_call_227 (by decide) rfl ?_
  refine zx_bipush (v := 8) dL_call_228 (by decide +kernel) (z32_lit (by decide) (by decide)) ?_
  refine zx_irem dL_call_230 (by decide) rfl ?_
  refine zx_pc (pc1 := 231) rfl ?_
  refine zx_iload (i := 4) dL_call_231 rfl ?_
  refine zx_bipush (v := 8) dL_call_233 (by decide +kernel) (z32_lit (by decide) (by decide)) ?_
  refine zx_irem dL_call_235 (by decide) rfl ?_
  refine zx_iload (i := 5) dL_call_236 rfl ?_
  refine zx_iconst (v := 1) dL_call_238 rfl (z32_lit (by decide) (by decide)) ?_
  refine zx_icmp_ne (tgt := 246) dL_call_239 (by decide) (fun h239 => absurd h239 ((not_not_intro he1))) (fun h239 => ?_)
  refine zx_iconst (v := 1) dL_call_242 rfl (z32_lit (by decide) (by decide)) ?_
  refine zx_goto (tgt := 247) dL_call_243 (by decide) ?_
  refine zx_ivC (b := o) (As := [zI a, zI b, zI (zdiv c 64), zI (zrem (zdiv c 8) 8), zI (zrem c 8), zI 1]) (st := []) dL_call_247 zc_L_47 ho rfl rfl rfl (Nat.le_of_ble_eq_true rfl) hM (fun v w1 hq => ?_) (fun i w1 hi6 hq => ?_)
  · obtain ⟨n, rfl⟩ := hf.1 v w1 hq
    refine zx_st (st1 := [zI n]) rfl ?_
    refine zx_iret dL_call_250 rfl ?_
    exact Or.inl ⟨n, rfl, hq⟩
  · have h5 := hf.2 i w1 hq
    match i, h5, hq with
    | 0, _, hq => exact ⟨_, hd_mk (i := 0) (k := 10) (by decide) rfl (by decide +kernel) rfl rfl (by decide +kernel), fun z => lc_h0 (Or.inr ⟨0, by decide, rfl, hq⟩)⟩
    | 1, _, hq => exact ⟨_, hd_mk (i := 1) (k := 40) (by decide) rfl (by decide +kernel) rfl rfl (by decide +kernel), fun z => lc_h1 (Or.inr ⟨1, by decide, rfl, hq⟩)⟩
    | 2, _, hq => exact ⟨_, hd_mk (i := 2) (k := 70) (by decide) rfl (by decide +kernel) rfl rfl (by decide +kernel), fun z => lc_h2 (Or.inr ⟨2, by decide, rfl, hq⟩)⟩
    | 3, _, hq => exact ⟨_, hd_mk (i := 3) (k := 100) (by decide) rfl (by decide +kernel) rfl rfl (by decide +kernel), fun z => lc_h3 (Or.inr ⟨3, by decide, rfl, hq⟩)⟩
    | 4, _, hq => exact ⟨_, hd_mk (i := 4) (k := 130) (by decide) rfl (by decide +kernel) rfl rfl (by decide +kernel), fun z => lc_h4 (Or.inr ⟨4, by decide, rfl, hq⟩)⟩
    | n + 5, h5, _ => exact absurd h5 (by omega)
theorem lc_addCall0 {of : List zV} (ho : w.1 o = some (11, 0, of)) (hf : fcQ Q') (hM : zM G zm_X11_addCall d [zR o, zI a, zI b, zI (zdiv c 64), zI (zrem (zdiv c 8) 8), zI (zrem c 8), zI 0] w Q') (he1 : e1 ≠ 1) : zM G zm_L_call (d + 1) [zR o, zI 10, zI a, zI b, zI c, zI e1, zI e2] w (lcQ Q') := by
  refine zx_enterH (by decide +kernel) (by decide) (by rw [zlg_len]; exact Nat.le_of_ble_eq_true rfl) ?_
  refine zx_L (L1 := [some (zR o), some (zI 10), some (zI a), some (zI b), some (zI c), some (zI e1), some (zI e2), none]) rfl ?_
  refine zx_iload_n (i := 1) dL_call_0 rfl rfl ?_
  refine zx_tableIn (tgt := 215) dL_call_1 (by decide) (by decide) rfl (by decide) ?_
  refine zx_aload_n (i := 0) dL_call_215 rfl rfl ?_
  refine zx_iload_n (i := 2) dL_call_216 rfl rfl ?_
  refine zx_iload_n (i := 3) dL_call_217 rfl rfl ?_
  refine zx_iload (i := 4) dL_call_218 rfl ?_
  refine zx_bipush (v := 64) dL_call_220 (by decide +kernel) (z32_lit (by decide) (by decide)) ?_
  refine zx_idiv dL_call_222 (by decide) rfl ?_
  refine zx_iload (i := 4) dL_call_223 rfl ?_
  refine zx_bipush (v := 8) dL_call_225 (by decide +kernel) (z32_lit (by decide) (by decide)) ?_
  refine zx_idiv dL_call_227 (by decide) rfl ?_
  refine zx_bipush (v := 8) dL_call_228 (by decide +kernel) (z32_lit (by decide) (by decide)) ?_
  refine zx_irem dL_call_230 (by decide) rfl ?_
  refine zx_pc (pc1 := 231) rfl ?_
  refine zx_iload (i := 4) dL_call_231 rfl ?_
  refine zx_bipush (v := 8) dL_call_233 (by decide +kernel) (z32_lit (by decide) (by decide)) ?_
  refine zx_irem dL_call_235 (by decide) rfl ?_
  refine zx_iload (i := 5) dL_call_236 rfl ?_
  refine zx_iconst (v := 1) dL_call_238 rfl (z32_lit (by decide) (by decide)) ?_
  refine zx_icmp_ne (tgt := 246) dL_call_239 (by decide) (fun h239 => ?_) (fun h239 => absurd (he1) h239)
  refine zx_iconst (v := 0) dL_call_246 rfl (z32_lit (by decide) (by decide)) ?_
  refine zx_ivC (b := o) (As := [zI a, zI b, zI (zdiv c 64), zI (zrem (zdiv c 8) 8), zI (zrem c 8), zI 0]) (st := []) dL_call_247 zc_L_47 ho rfl rfl rfl (Nat.le_of_ble_eq_true rfl) hM (fun v w1 hq => ?_) (fun i w1 hi6 hq => ?_)
  · obtain ⟨n, rfl⟩ := hf.1 v w1 hq
    refine zx_st (st1 := [zI n]) rfl ?_
    refine zx_iret dL_call_250 rfl ?_
    exact Or.inl ⟨n, rfl, hq⟩
  · have h5 := hf.2 i w1 hq
    match i, h5, hq with
    | 0, _, hq => exact ⟨_, hd_mk (i := 0) (k := 10) (by decide) rfl (by decide +kernel) rfl rfl (by decide +kernel), fun z => lc_h0 (Or.inr ⟨0, by decide, rfl, hq⟩)⟩
    | 1, _, hq => exact ⟨_, hd_mk (i := 1) (k := 40) (by decide) rfl (by decide +kernel) rfl rfl (by decide +kernel), fun z => lc_h1 (Or.inr ⟨1, by decide, rfl, hq⟩)⟩
    | 2, _, hq => exact ⟨_, hd_mk (i := 2) (k := 70) (by decide) rfl (by decide +kernel) rfl rfl (by decide +kernel), fun z => lc_h2 (Or.inr ⟨2, by decide, rfl, hq⟩)⟩
    | 3, _, hq => exact ⟨_, hd_mk (i := 3) (k := 100) (by decide) rfl (by decide +kernel) rfl rfl (by decide +kernel), fun z => lc_h3 (Or.inr ⟨3, by decide, rfl, hq⟩)⟩
    | 4, _, hq => exact ⟨_, hd_mk (i := 4) (k := 130) (by decide) rfl (by decide +kernel) rfl rfl (by decide +kernel), fun z => lc_h4 (Or.inr ⟨4, by decide, rfl, hq⟩)⟩
    | n + 5, h5, _ => exact absurd h5 (by omega)
end LCALL
