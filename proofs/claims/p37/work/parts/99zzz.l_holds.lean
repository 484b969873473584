/-! Own rows: the law's holds: what was found holds in the last question. Printed by wip/p37/m_lho.py. -/
theorem zrem_n {x : Nat} (hz : z32 (x : Int)) : zrem (x : Int) 100 = ((x % 100 : Nat) : Int) := by
  have h0 : (0 : Int) ≤ (x : Int) := Int.natCast_nonneg x
  have hq : (x : Int).tdiv 100 = (x : Int) / 100 := Int.tdiv_eq_ediv_of_nonneg h0
  have hd1 : 0 ≤ (x : Int) / 100 := Int.ediv_nonneg h0 (by omega)
  have hd2 : (x : Int) / 100 ≤ (x : Int) := Int.ediv_le_self _ h0
  unfold zrem
  rw [Int32.toInt_sub, Int32.toInt_mul, Int32.toInt_div]
  rw [show (Int32.ofInt (x : Int)).toInt = (x : Int) from zw_id hz, show (Int32.ofInt 100).toInt = 100 from zw_id ⟨by omega, by omega⟩, hq]
  have h1 := hz.2
  have b1 : ((x : Int) / 100).bmod (2 ^ 32) = (x : Int) / 100 := Int.bmod_eq_of_le (by omega) (by omega)
  have b2 : ((x : Int) / 100 * 100).bmod (2 ^ 32) = (x : Int) / 100 * 100 := Int.bmod_eq_of_le (by omega) (by omega)
  rw [b1, b2, show (x : Int) - (x : Int) / 100 * 100 = ((x % 100 : Nat) : Int) by omega]
  exact Int.bmod_eq_of_le (by omega) (by omega)
section LHOLDS
variable {G : zG} {d : Nat} {w0 : zW} {Q : zQ} {o : Nat} {S : whS} {av : List zV} {p m a fd ov b : Int} {pn : Nat} {nt : List (Nat × Nat)}
theorem ho_lp (hF : rdF S) (hst0 : G.1.stackTraces = false) (hnt : ntO pn nt) (e27 : rvN (rdS S 27 0 0) = (nt.length : Int)) (e28 : ∀ (k : Nat) (x : Nat × Nat), nt[k]? = some x → rvN (rdS S 28 (k : Int) 0) = (x.1 : Int) ∧ rvN (rdS S 29 (k : Int) 0) = (x.2 : Int)) : ∀ (n k : Nat) (w : zW) (k1 k2 : Nat) (x10 x11 : Option zV), k + n = nt.length → whW w o k1 k2 S → (k1 + 180 * n + 60 + 6000000 ≤ 60 * G.2.2.2.2.1 ∧ k2 + 18 * n + 6 + 6830000 ≤ G.2.2.2.2.2) → (∀ (w' : zW) (y10 y11 : Option zV), whW w' o (k1 + 180 * n + 60) (k2 + 18 * n + 6) S → zSc w w' → zX G zm_L_holds (d + 14) av w0 Q 377 [some (zR o), some (zI p), some (zI m), some (zI a), some (zI fd), some (zI ov), some (zI b), some (zI (cnS 99 (nt.take nt.length) : Int)), some (zI (cnS 102 (nt.take nt.length) : Int)), some (zI (nt.length : Int)), y10, y11] [] w') → zX G zm_L_holds (d + 14) av w0 Q 240 [some (zR o), some (zI p), some (zI m), some (zI a), some (zI fd), some (zI ov), some (zI b), some (zI (cnS 99 (nt.take k) : Int)), some (zI (cnS 102 (nt.take k) : Int)), some (zI (k : Int)), x10, x11] [] w
  | 0, k, w, k1, k2, x10, x11, hkn, hW, hk, kk => by
    have e : k = nt.length := by omega
    subst e
    refine zx_iload (i := 9) dL_holds_240 rfl ?_
    refine zx_aload_n (i := 0) dL_holds_242 rfl rfl ?_
    refine zx_bipush (v := 27) dL_holds_243 (by decide +kernel) (z32_lit (by decide) (by decide)) ?_
    refine zx_iconst (v := 0) dL_holds_245 rfl (z32_lit (by decide) (by decide)) ?_
    refine zx_iconst (v := 0) dL_holds_246 rfl (z32_lit (by decide) (by decide)) ?_
    refine zx_iconst (v := 0) dL_holds_247 rfl (z32_lit (by decide) (by decide)) ?_
    refine zx_iconst (v := 0) dL_holds_248 rfl (z32_lit (by decide) (by decide)) ?_
    refine zx_iconst (v := 0) dL_holds_249 rfl (z32_lit (by decide) (by decide)) ?_
    refine zx_rd (d := d) (o := o) (k1 := k1) (k2 := k2) (S := S) rfl dL_holds_250 (Nat.le_of_ble_eq_true rfl) rfl hW hF hst0 ⟨by omega, by omega⟩ 27 rfl (by decide) (fun q => absurd q (by decide)) (fun w_1 hW_2 sc_3 => ?_)
    refine zx_pc (pc1 := 253) rfl ?_
    refine zx_icmp_ge (tgt := 377) dL_holds_253 (by decide) (fun h253 => ?_) (fun h253 => absurd (by omega) h253)
    exact kk w_1 x10 x11 (whW_le hW_2 (by omega) (by omega)) (zSc_tr sc_3 zSc_re)
  | n + 1, k, w, k1, k2, x10, x11, hkn, hW, hk, kk => by
    obtain ⟨x, hx⟩ : ∃ x, nt[k]? = some x := ⟨_, List.getElem?_eq_getElem (by omega)⟩
    obtain ⟨n80, -, n3, n4⟩ := id hnt
    obtain ⟨n5, n6, n7⟩ := n3 x (List.mem_of_getElem? hx)
    obtain ⟨e28k, e29⟩ := e28 k x hx
    have htk : nt.take (k + 1) = nt.take k ++ [x] := by
      rw [List.take_add_one, hx]
      rfl
    have c1 := cnS_app (s := 99) (l := nt.take k) (x := x)
    have c2 := cnS_app (s := 102) (l := nt.take k) (x := x)
    rw [← htk] at c1 c2
    have n8 := n4 (k + 1)
    have l1 : cnS 99 (nt.take (k + 1)) ≤ 80 := by
      have q := List.length_filter_le (fun e : Nat × Nat => e.1 == 99) (nt.take (k + 1))
      have q2 := List.length_take_le (k + 1) nt
      have q3 := List.length_take_le' (k + 1) nt
      unfold cnS
      omega
    have l2 : cnS 102 (nt.take (k + 1)) ≤ 80 := by omega
    rcases n5 with e | e | e | e
    · rw [e] at c1 c2 e28k
      rw [if_pos rfl] at c1
      rw [if_neg (by decide)] at c2
      refine zx_iload (i := 9) dL_holds_240 rfl ?_
      refine zx_aload_n (i := 0) dL_holds_242 rfl rfl ?_
      refine zx_bipush (v := 27) dL_holds_243 (by decide +kernel) (z32_lit (by decide) (by decide)) ?_
      refine zx_iconst (v := 0) dL_holds_245 rfl (z32_lit (by decide) (by decide)) ?_
      refine zx_iconst (v := 0) dL_holds_246 rfl (z32_lit (by decide) (by decide)) ?_
      refine zx_iconst (v := 0) dL_holds_247 rfl (z32_lit (by decide) (by decide)) ?_
      refine zx_iconst (v := 0) dL_holds_248 rfl (z32_lit (by decide) (by decide)) ?_
      refine zx_iconst (v := 0) dL_holds_249 rfl (z32_lit (by decide) (by decide)) ?_
      refine zx_rd (d := d) (o := o) (k1 := k1) (k2 := k2) (S := S) rfl dL_holds_250 (Nat.le_of_ble_eq_true rfl) rfl hW hF hst0 ⟨by omega, by omega⟩ 27 rfl (by decide) (fun q => absurd q (by decide)) (fun w_1 hW_2 sc_3 => ?_)
      refine zx_pc (pc1 := 253) rfl ?_
      refine zx_icmp_ge (tgt := 377) dL_holds_253 (by decide) (fun h253 => absurd h253 (by omega)) (fun h253 => ?_)
      refine zx_aload_n (i := 0) dL_holds_256 rfl rfl ?_
      refine zx_bipush (v := 28) dL_holds_257 (by decide +kernel) (z32_lit (by decide) (by decide)) ?_
      refine zx_iload (i := 9) dL_holds_259 rfl ?_
      refine zx_iconst (v := 0) dL_holds_261 rfl (z32_lit (by decide) (by decide)) ?_
      refine zx_iconst (v := 0) dL_holds_262 rfl (z32_lit (by decide) (by decide)) ?_
      refine zx_iconst (v := 0) dL_holds_263 rfl (z32_lit (by decide) (by decide)) ?_
      refine zx_iconst (v := 0) dL_holds_264 rfl (z32_lit (by decide) (by decide)) ?_
      refine zx_rd (d := d) (o := o) (k1 := (k1 + 60)) (k2 := (k2 + 6)) (S := S) rfl dL_holds_265 (Nat.le_of_ble_eq_true rfl) rfl hW_2 hF hst0 ⟨by omega, by omega⟩ 28 rfl (by decide) (fun q => absurd q (by decide)) (fun w_4 hW_5 sc_6 => ?_)
      refine zx_pc (pc1 := 268) rfl ?_
      refine zx_istore (i := 10) dL_holds_268 (by decide) rfl ?_
      refine zx_L (L1 := [some (zR o), some (zI p), some (zI m), some (zI a), some (zI fd), some (zI ov), some (zI b), some (zI (cnS 99 (nt.take k) : Int)), some (zI (cnS 102 (nt.take k) : Int)), some (zI (k : Int)), some (zI (rvN (rdS S 28 (k : Int) 0))), x11]) rfl ?_
      refine zx_aload_n (i := 0) dL_holds_270 rfl rfl ?_
      refine zx_bipush (v := 29) dL_holds_271 (by decide +kernel) (z32_lit (by decide) (by decide)) ?_
      refine zx_iload (i := 9) dL_holds_273 rfl ?_
      refine zx_iconst (v := 0) dL_holds_275 rfl (z32_lit (by decide) (by decide)) ?_
      refine zx_iconst (v := 0) dL_holds_276 rfl (z32_lit (by decide) (by decide)) ?_
      refine zx_iconst (v := 0) dL_holds_277 rfl (z32_lit (by decide) (by decide)) ?_
      refine zx_iconst (v := 0) dL_holds_278 rfl (z32_lit (by decide) (by decide)) ?_
      refine zx_rd (d := d) (o := o) (k1 := ((k1 + 60) + 60)) (k2 := ((k2 + 6) + 6)) (S := S) rfl dL_holds_279 (Nat.le_of_ble_eq_true rfl) rfl hW_5 hF hst0 ⟨by omega, by omega⟩ 29 rfl (by decide) (fun q => absurd q (by decide)) (fun w_7 hW_8 sc_9 => ?_)
      refine zx_pc (pc1 := 282) rfl ?_
      refine zx_fitst (fun hfit => ?_)
      have hz := hfit _ List.mem_cons_self
      have hdp : zrem (rvN (rdS S 29 (k : Int) 0)) 100 = ((x.2 % 100 : Nat) : Int) := by
        have hz : z32 (rvN (rdS S 29 (k : Int) 0)) := hz
        rw [e29] at hz ⊢
        exact zrem_n hz
      refine zx_bipush (v := 100) dL_holds_282 (by decide +kernel) (z32_lit (by decide) (by decide)) ?_
      refine zx_irem dL_holds_284 (by decide) rfl ?_
      refine zx_istore (i := 11) dL_holds_285 (by decide) rfl ?_
      refine zx_L (L1 := [some (zR o), some (zI p), some (zI m), some (zI a), some (zI fd), some (zI ov), some (zI b), some (zI (cnS 99 (nt.take k) : Int)), some (zI (cnS 102 (nt.take k) : Int)), some (zI (k : Int)), some (zI (rvN (rdS S 28 (k : Int) 0))), some (zI (zrem (rvN (rdS S 29 (k : Int) 0)) 100))]) rfl ?_
      refine zx_iload (i := 7) dL_holds_287 rfl ?_
      refine zx_iload (i := 10) dL_holds_289 rfl ?_
      refine zx_bipush (v := 99) dL_holds_291 (by decide +kernel) (z32_lit (by decide) (by decide)) ?_
      refine zx_icmp_ne (tgt := 300) dL_holds_293 (by decide) (fun h293 => absurd h293 (by omega)) (fun h293 => ?_)
      refine zx_iconst (v := 1) dL_holds_296 rfl (z32_lit (by decide) (by decide)) ?_
      refine zx_goto (tgt := 301) dL_holds_297 (by decide) ?_
      refine zx_iadd (v := (cnS 99 (nt.take (k + 1)) : Int)) dL_holds_301 (zw_eq (by omega) (by omega) (by omega)) ?_
      refine zx_istore (i := 7) dL_holds_302 (by decide) rfl ?_
      refine zx_L (L1 := [some (zR o), some (zI p), some (zI m), some (zI a), some (zI fd), some (zI ov), some (zI b), some (zI (cnS 99 (nt.take (k + 1)) : Int)), some (zI (cnS 102 (nt.take k) : Int)), some (zI (k : Int)), some (zI (rvN (rdS S 28 (k : Int) 0))), some (zI (zrem (rvN (rdS S 29 (k : Int) 0)) 100))]) rfl ?_
      refine zx_pc (pc1 := 304) rfl ?_
      refine zx_iload (i := 8) dL_holds_304 rfl ?_
      refine zx_iload (i := 10) dL_holds_306 rfl ?_
      refine zx_bipush (v := 102) dL_holds_308 (by decide +kernel) (z32_lit (by decide) (by decide)) ?_
      refine zx_icmp_ne (tgt := 317) dL_holds_310 (by decide) (fun h310 => ?_) (fun h310 => absurd (by omega) h310)
      refine zx_iconst (v := 0) dL_holds_317 rfl (z32_lit (by decide) (by decide)) ?_
      refine zx_iadd (v := (cnS 102 (nt.take (k + 1)) : Int)) dL_holds_318 (zw_eq (by omega) (by omega) (by omega)) ?_
      refine zx_istore (i := 8) dL_holds_319 (by decide) rfl ?_
      refine zx_L (L1 := [some (zR o), some (zI p), some (zI m), some (zI a), some (zI fd), some (zI ov), some (zI b), some (zI (cnS 99 (nt.take (k + 1)) : Int)), some (zI (cnS 102 (nt.take (k + 1)) : Int)), some (zI (k : Int)), some (zI (rvN (rdS S 28 (k : Int) 0))), some (zI (zrem (rvN (rdS S 29 (k : Int) 0)) 100))]) rfl ?_
      refine zx_iload (i := 10) dL_holds_321 rfl ?_
      refine zx_bipush (v := 99) dL_holds_323 (by decide +kernel) (z32_lit (by decide) (by decide)) ?_
      refine zx_icmp_eq (tgt := 349) dL_holds_325 (by decide) (fun h325 => ?_) (fun h325 => absurd (by omega) h325)
      refine zx_iload (i := 11) dL_holds_349 rfl ?_
      refine zx_iconst (v := 1) dL_holds_351 rfl (z32_lit (by decide) (by decide)) ?_
      refine zx_pc (pc1 := 352) rfl ?_
      refine zx_icmp_lt (tgt := 369) dL_holds_352 (by decide) (fun h352 => absurd h352 (by omega)) (fun h352 => ?_)
      refine zx_iload (i := 11) dL_holds_355 rfl ?_
      refine zx_bipush (v := 30) dL_holds_357 (by decide +kernel) (z32_lit (by decide) (by decide)) ?_
      refine zx_icmp_gt (tgt := 369) dL_holds_359 (by decide) (fun h359 => absurd h359 (by omega)) (fun h359 => ?_)
      refine zx_iload (i := 8) dL_holds_362 rfl ?_
      refine zx_iload (i := 7) dL_holds_364 rfl ?_
      refine zx_icmp_le (tgt := 371) dL_holds_366 (by decide) (fun h366 => ?_) (fun h366 => absurd (by omega) h366)
      refine zx_iinc (i := 9) (v := ((k + 1 : Nat) : Int)) dL_holds_371 rfl (zw_eq (by omega) (by omega) (by omega)) (by decide) rfl ?_
      refine zx_L (L1 := [some (zR o), some (zI p), some (zI m), some (zI a), some (zI fd), some (zI ov), some (zI b), some (zI (cnS 99 (nt.take (k + 1)) : Int)), some (zI (cnS 102 (nt.take (k + 1)) : Int)), some (zI ((k + 1 : Nat) : Int)), some (zI (rvN (rdS S 28 (k : Int) 0))), some (zI (zrem (rvN (rdS S 29 (k : Int) 0)) 100))]) rfl ?_
      refine zx_goto (tgt := 240) dL_holds_374 (by decide) ?_
      exact ho_lp hF hst0 hnt e27 e28 n (k + 1) w_7 (((k1 + 60) + 60) + 60) (((k2 + 6) + 6) + 6) _ _ (by omega) hW_8 ⟨by omega, by omega⟩ (fun w9 y8 y9 h9 s9 => kk w9 y8 y9 (whW_le h9 (by omega) (by omega)) (zSc_tr sc_3 (zSc_tr sc_6 (zSc_tr sc_9 s9))))
    · rw [e] at c1 c2 e28k
      rw [if_neg (by decide)] at c1
      rw [if_neg (by decide)] at c2
      refine zx_iload (i := 9) dL_holds_240 rfl ?_
      refine zx_aload_n (i := 0) dL_holds_242 rfl rfl ?_
      refine zx_bipush (v := 27) dL_holds_243 (by decide +kernel) (z32_lit (by decide) (by decide)) ?_
      refine zx_iconst (v := 0) dL_holds_245 rfl (z32_lit (by decide) (by decide)) ?_
      refine zx_iconst (v := 0) dL_holds_246 rfl (z32_lit (by decide) (by decide)) ?_
      refine zx_iconst (v := 0) dL_holds_247 rfl (z32_lit (by decide) (by decide)) ?_
      refine zx_iconst (v := 0) dL_holds_248 rfl (z32_lit (by decide) (by decide)) ?_
      refine zx_iconst (v := 0) dL_holds_249 rfl (z32_lit (by decide) (by decide)) ?_
      refine zx_rd (d := d) (o := o) (k1 := k1) (k2 := k2) (S := S) rfl dL_holds_250 (Nat.le_of_ble_eq_true rfl) rfl hW hF hst0 ⟨by omega, by omega⟩ 27 rfl (by decide) (fun q => absurd q (by decide)) (fun w_1 hW_2 sc_3 => ?_)
      refine zx_pc (pc1 := 253) rfl ?_
      refine zx_icmp_ge (tgt := 377) dL_holds_253 (by decide) (fun h253 => absurd h253 (by omega)) (fun h253 => ?_)
      refine zx_aload_n (i := 0) dL_holds_256 rfl rfl ?_
      refine zx_bipush (v := 28) dL_holds_257 (by decide +kernel) (z32_lit (by decide) (by decide)) ?_
      refine zx_iload (i := 9) dL_holds_259 rfl ?_
      refine zx_iconst (v := 0) dL_holds_261 rfl (z32_lit (by decide) (by decide)) ?_
      refine zx_iconst (v := 0) dL_holds_262 rfl (z32_lit (by decide) (by decide)) ?_
      refine zx_iconst (v := 0) dL_holds_263 rfl (z32_lit (by decide) (by decide)) ?_
      refine zx_iconst (v := 0) dL_holds_264 rfl (z32_lit (by decide) (by decide)) ?_
      refine zx_rd (d := d) (o := o) (k1 := (k1 + 60)) (k2 := (k2 + 6)) (S := S) rfl dL_holds_265 (Nat.le_of_ble_eq_true rfl) rfl hW_2 hF hst0 ⟨by omega, by omega⟩ 28 rfl (by decide) (fun q => absurd q (by decide)) (fun w_4 hW_5 sc_6 => ?_)
      refine zx_pc (pc1 := 268) rfl ?_
      refine zx_istore (i := 10) dL_holds_268 (by decide) rfl ?_
      refine zx_L (L1 := [some (zR o), some (zI p), some (zI m), some (zI a), some (zI fd), some (zI ov), some (zI b), some (zI (cnS 99 (nt.take k) : Int)), some (zI (cnS 102 (nt.take k) : Int)), some (zI (k : Int)), some (zI (rvN (rdS S 28 (k : Int) 0))), x11]) rfl ?_
      refine zx_aload_n (i := 0) dL_holds_270 rfl rfl ?_
      refine zx_bipush (v := 29) dL_holds_271 (by decide +kernel) (z32_lit (by decide) (by decide)) ?_
      refine zx_iload (i := 9) dL_holds_273 rfl ?_
      refine zx_iconst (v := 0) dL_holds_275 rfl (z32_lit (by decide) (by decide)) ?_
      refine zx_iconst (v := 0) dL_holds_276 rfl (z32_lit (by decide) (by decide)) ?_
      refine zx_iconst (v := 0) dL_holds_277 rfl (z32_lit (by decide) (by decide)) ?_
      refine zx_iconst (v := 0) dL_holds_278 rfl (z32_lit (by decide) (by decide)) ?_
      refine zx_rd (d := d) (o := o) (k1 := ((k1 + 60) + 60)) (k2 := ((k2 + 6) + 6)) (S := S) rfl dL_holds_279 (Nat.le_of_ble_eq_true rfl) rfl hW_5 hF hst0 ⟨by omega, by omega⟩ 29 rfl (by decide) (fun q => absurd q (by decide)) (fun w_7 hW_8 sc_9 => ?_)
      refine zx_pc (pc1 := 282) rfl ?_
      refine zx_fitst (fun hfit => ?_)
      have hz := hfit _ List.mem_cons_self
      have hdp : zrem (rvN (rdS S 29 (k : Int) 0)) 100 = ((x.2 % 100 : Nat) : Int) := by
        have hz : z32 (rvN (rdS S 29 (k : Int) 0)) := hz
        rw [e29] at hz ⊢
        exact zrem_n hz
      refine zx_bipush (v := 100) dL_holds_282 (by decide +kernel) (z32_lit (by decide) (by decide)) ?_
      refine zx_irem dL_holds_284 (by decide) rfl ?_
      refine zx_istore (i := 11) dL_holds_285 (by decide) rfl ?_
      refine zx_L (L1 := [some (zR o), some (zI p), some (zI m), some (zI a), some (zI fd), some (zI ov), some (zI b), some (zI (cnS 99 (nt.take k) : Int)), some (zI (cnS 102 (nt.take k) : Int)), some (zI (k : Int)), some (zI (rvN (rdS S 28 (k : Int) 0))), some (zI (zrem (rvN (rdS S 29 (k : Int) 0)) 100))]) rfl ?_
      refine zx_iload (i := 7) dL_holds_287 rfl ?_
      refine zx_iload (i := 10) dL_holds_289 rfl ?_
      refine zx_bipush (v := 99) dL_holds_291 (by decide +kernel) (z32_lit (by decide) (by decide)) ?_
      refine zx_icmp_ne (tgt := 300) dL_holds_293 (by decide) (fun h293 => ?_) (fun h293 => absurd (by omega) h293)
      refine zx_iconst (v := 0) dL_holds_300 rfl (z32_lit (by decide) (by decide)) ?_
      refine zx_iadd (v := (cnS 99 (nt.take (k + 1)) : Int)) dL_holds_301 (zw_eq (by omega) (by omega) (by omega)) ?_
      refine zx_istore (i := 7) dL_holds_302 (by decide) rfl ?_
      refine zx_L (L1 := [some (zR o), some (zI p), some (zI m), some (zI a), some (zI fd), some (zI ov), some (zI b), some (zI (cnS 99 (nt.take (k + 1)) : Int)), some (zI (cnS 102 (nt.take k) : Int)), some (zI (k : Int)), some (zI (rvN (rdS S 28 (k : Int) 0))), some (zI (zrem (rvN (rdS S 29 (k : Int) 0)) 100))]) rfl ?_
      refine zx_iload (i := 8) dL_holds_304 rfl ?_
      refine zx_pc (pc1 := 306) rfl ?_
      refine zx_iload (i := 10) dL_holds_306 rfl ?_
      refine zx_bipush (v := 102) dL_holds_308 (by decide +kernel) (z32_lit (by decide) (by decide)) ?_
      refine zx_icmp_ne (tgt := 317) dL_holds_310 (by decide) (fun h310 => ?_) (fun h310 => absurd (by omega) h310)
      refine zx_iconst (v := 0) dL_holds_317 rfl (z32_lit (by decide) (by decide)) ?_
      refine zx_iadd (v := (cnS 102 (nt.take (k + 1)) : Int)) dL_holds_318 (zw_eq (by omega) (by omega) (by omega)) ?_
      refine zx_istore (i := 8) dL_holds_319 (by decide) rfl ?_
      refine zx_L (L1 := [some (zR o), some (zI p), some (zI m), some (zI a), some (zI fd), some (zI ov), some (zI b), some (zI (cnS 99 (nt.take (k + 1)) : Int)), some (zI (cnS 102 (nt.take (k + 1)) : Int)), some (zI (k : Int)), some (zI (rvN (rdS S 28 (k : Int) 0))), some (zI (zrem (rvN (rdS S 29 (k : Int) 0)) 100))]) rfl ?_
      refine zx_iload (i := 10) dL_holds_321 rfl ?_
      refine zx_bipush (v := 99) dL_holds_323 (by decide +kernel) (z32_lit (by decide) (by decide)) ?_
      refine zx_icmp_eq (tgt := 349) dL_holds_325 (by decide) (fun h325 => absurd h325 (by omega)) (fun h325 => ?_)
      refine zx_iload (i := 10) dL_holds_328 rfl ?_
      refine zx_bipush (v := 120) dL_holds_330 (by decide +kernel) (z32_lit (by decide) (by decide)) ?_
      refine zx_icmp_eq (tgt := 349) dL_holds_332 (by decide) (fun h332 => ?_) (fun h332 => absurd (by omega) h332)
      refine zx_pc (pc1 := 349) rfl ?_
      refine zx_iload (i := 11) dL_holds_349 rfl ?_
      refine zx_iconst (v := 1) dL_holds_351 rfl (z32_lit (by decide) (by decide)) ?_
      refine zx_icmp_lt (tgt := 369) dL_holds_352 (by decide) (fun h352 => absurd h352 (by omega)) (fun h352 => ?_)
      refine zx_iload (i := 11) dL_holds_355 rfl ?_
      refine zx_bipush (v := 30) dL_holds_357 (by decide +kernel) (z32_lit (by decide) (by decide)) ?_
      refine zx_icmp_gt (tgt := 369) dL_holds_359 (by decide) (fun h359 => absurd h359 (by omega)) (fun h359 => ?_)
      refine zx_iload (i := 8) dL_holds_362 rfl ?_
      refine zx_iload (i := 7) dL_holds_364 rfl ?_
      refine zx_icmp_le (tgt := 371) dL_holds_366 (by decide) (fun h366 => ?_) (fun h366 => absurd (by omega) h366)
      refine zx_iinc (i := 9) (v := ((k + 1 : Nat) : Int)) dL_holds_371 rfl (zw_eq (by omega) (by omega) (by omega)) (by decide) rfl ?_
      refine zx_L (L1 := [some (zR o), some (zI p), some (zI m), some (zI a), some (zI fd), some (zI ov), some (zI b), some (zI (cnS 99 (nt.take (k + 1)) : Int)), some (zI (cnS 102 (nt.take (k + 1)) : Int)), some (zI ((k + 1 : Nat) : Int)), some (zI (rvN (rdS S 28 (k : Int) 0))), some (zI (zrem (rvN (rdS S 29 (k : Int) 0)) 100))]) rfl ?_
      refine zx_goto (tgt := 240) dL_holds_374 (by decide) ?_
      exact ho_lp hF hst0 hnt e27 e28 n (k + 1) w_7 (((k1 + 60) + 60) + 60) (((k2 + 6) + 6) + 6) _ _ (by omega) hW_8 ⟨by omega, by omega⟩ (fun w9 y8 y9 h9 s9 => kk w9 y8 y9 (whW_le h9 (by omega) (by omega)) (zSc_tr sc_3 (zSc_tr sc_6 (zSc_tr sc_9 s9))))
    · rw [e] at c1 c2 e28k
      rw [if_neg (by decide)] at c1
      rw [if_neg (by decide)] at c2
      refine zx_iload (i := 9) dL_holds_240 rfl ?_
      refine zx_aload_n (i := 0) dL_holds_242 rfl rfl ?_
      refine zx_bipush (v := 27) dL_holds_243 (by decide +kernel) (z32_lit (by decide) (by decide)) ?_
      refine zx_iconst (v := 0) dL_holds_245 rfl (z32_lit (by decide) (by decide)) ?_
      refine zx_iconst (v := 0) dL_holds_246 rfl (z32_lit (by decide) (by decide)) ?_
      refine zx_iconst (v := 0) dL_holds_247 rfl (z32_lit (by decide) (by decide)) ?_
      refine zx_iconst (v := 0) dL_holds_248 rfl (z32_lit (by decide) (by decide)) ?_
      refine zx_iconst (v := 0) dL_holds_249 rfl (z32_lit (by decide) (by decide)) ?_
      refine zx_rd (d := d) (o := o) (k1 := k1) (k2 := k2) (S := S) rfl dL_holds_250 (Nat.le_of_ble_eq_true rfl) rfl hW hF hst0 ⟨by omega, by omega⟩ 27 rfl (by decide) (fun q => absurd q (by decide)) (fun w_1 hW_2 sc_3 => ?_)
      refine zx_pc (pc1 := 253) rfl ?_
      refine zx_icmp_ge (tgt := 377) dL_holds_253 (by decide) (fun h253 => absurd h253 (by omega)) (fun h253 => ?_)
      refine zx_aload_n (i := 0) dL_holds_256 rfl rfl ?_
      refine zx_bipush (v := 28) dL_holds_257 (by decide +kernel) (z32_lit (by decide) (by decide)) ?_
      refine zx_iload (i := 9) dL_holds_259 rfl ?_
      refine zx_iconst (v := 0) dL_holds_261 rfl (z32_lit (by decide) (by decide)) ?_
      refine zx_iconst (v := 0) dL_holds_262 rfl (z32_lit (by decide) (by decide)) ?_
      refine zx_iconst (v := 0) dL_holds_263 rfl (z32_lit (by decide) (by decide)) ?_
      refine zx_iconst (v := 0) dL_holds_264 rfl (z32_lit (by decide) (by decide)) ?_
      refine zx_rd (d := d) (o := o) (k1 := (k1 + 60)) (k2 := (k2 + 6)) (S := S) rfl dL_holds_265 (Nat.le_of_ble_eq_true rfl) rfl hW_2 hF hst0 ⟨by omega, by omega⟩ 28 rfl (by decide) (fun q => absurd q (by decide)) (fun w_4 hW_5 sc_6 => ?_)
      refine zx_pc (pc1 := 268) rfl ?_
      refine zx_istore (i := 10) dL_holds_268 (by decide) rfl ?_
      refine zx_L (L1 := [some (zR o), some (zI p), some (zI m), some (zI a), some (zI fd), some (zI ov), some (zI b), some (zI (cnS 99 (nt.take k) : Int)), some (zI (cnS 102 (nt.take k) : Int)), some (zI (k : Int)), some (zI (rvN (rdS S 28 (k : Int) 0))), x11]) rfl ?_
      refine zx_aload_n (i := 0) dL_holds_270 rfl rfl ?_
      refine zx_bipush (v := 29) dL_holds_271 (by decide +kernel) (z32_lit (by decide) (by decide)) ?_
      refine zx_iload (i := 9) dL_holds_273 rfl ?_
      refine zx_iconst (v := 0) dL_holds_275 rfl (z32_lit (by decide) (by decide)) ?_
      refine zx_iconst (v := 0) dL_holds_276 rfl (z32_lit (by decide) (by decide)) ?_
      refine zx_iconst (v := 0) dL_holds_277 rfl (z32_lit (by decide) (by decide)) ?_
      refine zx_iconst (v := 0) dL_holds_278 rfl (z32_lit (by decide) (by decide)) ?_
      refine zx_rd (d := d) (o := o) (k1 := ((k1 + 60) + 60)) (k2 := ((k2 + 6) + 6)) (S := S) rfl dL_holds_279 (Nat.le_of_ble_eq_true rfl) rfl hW_5 hF hst0 ⟨by omega, by omega⟩ 29 rfl (by decide) (fun q => absurd q (by decide)) (fun w_7 hW_8 sc_9 => ?_)
      refine zx_pc (pc1 := 282) rfl ?_
      refine zx_fitst (fun hfit => ?_)
      have hz := hfit _ List.mem_cons_self
      have hdp : zrem (rvN (rdS S 29 (k : Int) 0)) 100 = ((x.2 % 100 : Nat) : Int) := by
        have hz : z32 (rvN (rdS S 29 (k : Int) 0)) := hz
        rw [e29] at hz ⊢
        exact zrem_n hz
      refine zx_bipush (v := 100) dL_holds_282 (by decide +kernel) (z32_lit (by decide) (by decide)) ?_
      refine zx_irem dL_holds_284 (by decide) rfl ?_
      refine zx_istore (i := 11) dL_holds_285 (by decide) rfl ?_
      refine zx_L (L1 := [some (zR o), some (zI p), some (zI m), some (zI a), some (zI fd), some (zI ov), some (zI b), some (zI (cnS 99 (nt.take k) : Int)), some (zI (cnS 102 (nt.take k) : Int)), some (zI (k : Int)), some (zI (rvN (rdS S 28 (k : Int) 0))), some (zI (zrem (rvN (rdS S 29 (k : Int) 0)) 100))]) rfl ?_
      refine zx_iload (i := 7) dL_holds_287 rfl ?_
      refine zx_iload (i := 10) dL_holds_289 rfl ?_
      refine zx_bipush (v := 99) dL_holds_291 (by decide +kernel) (z32_lit (by decide) (by decide)) ?_
      refine zx_icmp_ne (tgt := 300) dL_holds_293 (by decide) (fun h293 => ?_) (fun h293 => absurd (by omega) h293)
      refine zx_iconst (v := 0) dL_holds_300 rfl (z32_lit (by decide) (by decide)) ?_
      refine zx_iadd (v := (cnS 99 (nt.take (k + 1)) : Int)) dL_holds_301 (zw_eq (by omega) (by omega) (by omega)) ?_
      refine zx_istore (i := 7) dL_holds_302 (by decide) rfl ?_
      refine zx_L (L1 := [some (zR o), some (zI p), some (zI m), some (zI a), some (zI fd), some (zI ov), some (zI b), some (zI (cnS 99 (nt.take (k + 1)) : Int)), some (zI (cnS 102 (nt.take k) : Int)), some (zI (k : Int)), some (zI (rvN (rdS S 28 (k : Int) 0))), some (zI (zrem (rvN (rdS S 29 (k : Int) 0)) 100))]) rfl ?_
      refine zx_iload (i := 8) dL_holds_304 rfl ?_
      refine zx_pc (pc1 := 306) rfl ?_
      refine zx_iload (i := 10) dL_holds_306 rfl ?_
      refine zx_bipush (v := 102) dL_holds_308 (by decide +kernel) (z32_lit (by decide) (by decide)) ?_
      refine zx_icmp_ne (tgt := 317) dL_holds_310 (by decide) (fun h310 => ?_) (fun h310 => absurd (by omega) h310)
      refine zx_iconst (v := 0) dL_holds_317 rfl (z32_lit (by decide) (by decide)) ?_
      refine zx_iadd (v := (cnS 102 (nt.take (k + 1)) : Int)) dL_holds_318 (zw_eq (by omega) (by omega) (by omega)) ?_
      refine zx_istore (i := 8) dL_holds_319 (by decide) rfl ?_
      refine zx_L (L1 := [some (zR o), some (zI p), some (zI m), some (zI a), some (zI fd), some (zI ov), some (zI b), some (zI (cnS 99 (nt.take (k + 1)) : Int)), some (zI (cnS 102 (nt.take (k + 1)) : Int)), some (zI (k : Int)), some (zI (rvN (rdS S 28 (k : Int) 0))), some (zI (zrem (rvN (rdS S 29 (k : Int) 0)) 100))]) rfl ?_
      refine zx_iload (i := 10) dL_holds_321 rfl ?_
      refine zx_bipush (v := 99) dL_holds_323 (by decide +kernel) (z32_lit (by decide) (by decide)) ?_
      refine zx_icmp_eq (tgt := 349) dL_holds_325 (by decide) (fun h325 => absurd h325 (by omega)) (fun h325 => ?_)
      refine zx_iload (i := 10) dL_holds_328 rfl ?_
      refine zx_bipush (v := 120) dL_holds_330 (by decide +kernel) (z32_lit (by decide) (by decide)) ?_
      refine zx_icmp_eq (tgt := 349) dL_holds_332 (by decide) (fun h332 => absurd h332 (by omega)) (fun h332 => ?_)
      refine zx_pc (pc1 := 335) rfl ?_
      refine zx_iload (i := 10) dL_holds_335 rfl ?_
      refine zx_bipush (v := 114) dL_holds_337 (by decide +kernel) (z32_lit (by decide) (by decide)) ?_
      refine zx_icmp_eq (tgt := 349) dL_holds_339 (by decide) (fun h339 => ?_) (fun h339 => absurd (by omega) h339)
      refine zx_iload (i := 11) dL_holds_349 rfl ?_
      refine zx_iconst (v := 1) dL_holds_351 rfl (z32_lit (by decide) (by decide)) ?_
      refine zx_icmp_lt (tgt := 369) dL_holds_352 (by decide) (fun h352 => absurd h352 (by omega)) (fun h352 => ?_)
      refine zx_iload (i := 11) dL_holds_355 rfl ?_
      refine zx_bipush (v := 30) dL_holds_357 (by decide +kernel) (z32_lit (by decide) (by decide)) ?_
      refine zx_icmp_gt (tgt := 369) dL_holds_359 (by decide) (fun h359 => absurd h359 (by omega)) (fun h359 => ?_)
      refine zx_iload (i := 8) dL_holds_362 rfl ?_
      refine zx_iload (i := 7) dL_holds_364 rfl ?_
      refine zx_icmp_le (tgt := 371) dL_holds_366 (by decide) (fun h366 => ?_) (fun h366 => absurd (by omega) h366)
      refine zx_pc (pc1 := 371) rfl ?_
      refine zx_iinc (i := 9) (v := ((k + 1 : Nat) : Int)) dL_holds_371 rfl (zw_eq (by omega) (by omega) (by omega)) (by decide) rfl ?_
      refine zx_L (L1 := [some (zR o), some (zI p), some (zI m), some (zI a), some (zI fd), some (zI ov), some (zI b), some (zI (cnS 99 (nt.take (k + 1)) : Int)), some (zI (cnS 102 (nt.take (k + 1)) : Int)), some (zI ((k + 1 : Nat) : Int)), some (zI (rvN (rdS S 28 (k : Int) 0))), some (zI (zrem (rvN (rdS S 29 (k : Int) 0)) 100))]) rfl ?_
      refine zx_goto (tgt := 240) dL_holds_374 (by decide) ?_
      exact ho_lp hF hst0 hnt e27 e28 n (k + 1) w_7 (((k1 + 60) + 60) + 60) (((k2 + 6) + 6) + 6) _ _ (by omega) hW_8 ⟨by omega, by omega⟩ (fun w9 y8 y9 h9 s9 => kk w9 y8 y9 (whW_le h9 (by omega) (by omega)) (zSc_tr sc_3 (zSc_tr sc_6 (zSc_tr sc_9 s9))))
    · rw [e] at c1 c2 e28k
      rw [if_neg (by decide)] at c1
      rw [if_pos rfl] at c2
      refine zx_iload (i := 9) dL_holds_240 rfl ?_
      refine zx_aload_n (i := 0) dL_holds_242 rfl rfl ?_
      refine zx_bipush (v := 27) dL_holds_243 (by decide +kernel) (z32_lit (by decide) (by decide)) ?_
      refine zx_iconst (v := 0) dL_holds_245 rfl (z32_lit (by decide) (by decide)) ?_
      refine zx_iconst (v := 0) dL_holds_246 rfl (z32_lit (by decide) (by decide)) ?_
      refine zx_iconst (v := 0) dL_holds_247 rfl (z32_lit (by decide) (by decide)) ?_
      refine zx_iconst (v := 0) dL_holds_248 rfl (z32_lit (by decide) (by decide)) ?_
      refine zx_iconst (v := 0) dL_holds_249 rfl (z32_lit (by decide) (by decide)) ?_
      refine zx_rd (d := d) (o := o) (k1 := k1) (k2 := k2) (S := S) rfl dL_holds_250 (Nat.le_of_ble_eq_true rfl) rfl hW hF hst0 ⟨by omega, by omega⟩ 27 rfl (by decide) (fun q => absurd q (by decide)) (fun w_1 hW_2 sc_3 => ?_)
      refine zx_pc (pc1 := 253) rfl ?_
      refine zx_icmp_ge (tgt := 377) dL_holds_253 (by decide) (fun h253 => absurd h253 (by omega)) (fun h253 => ?_)
      refine zx_aload_n (i := 0) dL_holds_256 rfl rfl ?_
      refine zx_bipush (v := 28) dL_holds_257 (by decide +kernel) (z32_lit (by decide) (by decide)) ?_
      refine zx_iload (i := 9) dL_holds_259 rfl ?_
      refine zx_iconst (v := 0) dL_holds_261 rfl (z32_lit (by decide) (by decide)) ?_
      refine zx_iconst (v := 0) dL_holds_262 rfl (z32_lit (by decide) (by decide)) ?_
      refine zx_iconst (v := 0) dL_holds_263 rfl (z32_lit (by decide) (by decide)) ?_
      refine zx_iconst (v := 0) dL_holds_264 rfl (z32_lit (by decide) (by decide)) ?_
      refine zx_rd (d := d) (o := o) (k1 := (k1 + 60)) (k2 := (k2 + 6)) (S := S) rfl dL_holds_265 (Nat.le_of_ble_eq_true rfl) rfl hW_2 hF hst0 ⟨by omega, by omega⟩ 28 rfl (by decide) (fun q => absurd q (by decide)) (fun w_4 hW_5 sc_6 => ?_)
      refine zx_pc (pc1 := 268) rfl ?_
      refine zx_istore (i := 10) dL_holds_268 (by decide) rfl ?_
      refine zx_L (L1 := [some (zR o), some (zI p), some (zI m), some (zI a), some (zI fd), some (zI ov), some (zI b), some (zI (cnS 99 (nt.take k) : Int)), some (zI (cnS 102 (nt.take k) : Int)), some (zI (k : Int)), some (zI (rvN (rdS S 28 (k : Int) 0))), x11]) rfl ?_
      refine zx_aload_n (i := 0) dL_holds_270 rfl rfl ?_
      refine zx_bipush (v := 29) dL_holds_271 (by decide +kernel) (z32_lit (by decide) (by decide)) ?_
      refine zx_iload (i := 9) dL_holds_273 rfl ?_
      refine zx_iconst (v := 0) dL_holds_275 rfl (z32_lit (by decide) (by decide)) ?_
      refine zx_iconst (v := 0) dL_holds_276 rfl (z32_lit (by decide) (by decide)) ?_
      refine zx_iconst (v := 0) dL_holds_277 rfl (z32_lit (by decide) (by decide)) ?_
      refine zx_iconst (v := 0) dL_holds_278 rfl (z32_lit (by decide) (by decide)) ?_
      refine zx_rd (d := d) (o := o) (k1 := ((k1 + 60) + 60)) (k2 := ((k2 + 6) + 6)) (S := S) rfl dL_holds_279 (Nat.le_of_ble_eq_true rfl) rfl hW_5 hF hst0 ⟨by omega, by omega⟩ 29 rfl (by decide) (fun q => absurd q (by decide)) (fun w_7 hW_8 sc_9 => ?_)
      refine zx_pc (pc1 := 282) rfl ?_
      refine zx_fitst (fun hfit => ?_)
      have hz := hfit _ List.mem_cons_self
      have hdp : zrem (rvN (rdS S 29 (k : Int) 0)) 100 = ((x.2 % 100 : Nat) : Int) := by
        have hz : z32 (rvN (rdS S 29 (k : Int) 0)) := hz
        rw [e29] at hz ⊢
        exact zrem_n hz
      refine zx_bipush (v := 100) dL_holds_282 (by decide +kernel) (z32_lit (by decide) (by decide)) ?_
      refine zx_irem dL_holds_284 (by decide) rfl ?_
      refine zx_istore (i := 11) dL_holds_285 (by decide) rfl ?_
      refine zx_L (L1 := [some (zR o), some (zI p), some (zI m), some (zI a), some (zI fd), some (zI ov), some (zI b), some (zI (cnS 99 (nt.take k) : Int)), some (zI (cnS 102 (nt.take k) : Int)), some (zI (k : Int)), some (zI (rvN (rdS S 28 (k : Int) 0))), some (zI (zrem (rvN (rdS S 29 (k : Int) 0)) 100))]) rfl ?_
      refine zx_iload (i := 7) dL_holds_287 rfl ?_
      refine zx_iload (i := 10) dL_holds_289 rfl ?_
      refine zx_bipush (v := 99) dL_holds_291 (by decide +kernel) (z32_lit (by decide) (by decide)) ?_
      refine zx_icmp_ne (tgt := 300) dL_holds_293 (by decide) (fun h293 => ?_) (fun h293 => absurd (by omega) h293)
      refine zx_iconst (v := 0) dL_holds_300 rfl (z32_lit (by decide) (by decide)) ?_
      refine zx_iadd (v := (cnS 99 (nt.take (k + 1)) : Int)) dL_holds_301 (zw_eq (by omega) (by omega) (by omega)) ?_
      refine zx_istore (i := 7) dL_holds_302 (by decide) rfl ?_
      refine zx_L (L1 := [some (zR o), some (zI p), some (zI m), some (zI a), some (zI fd), some (zI ov), some (zI b), some (zI (cnS 99 (nt.take (k + 1)) : Int)), some (zI (cnS 102 (nt.take k) : Int)), some (zI (k : Int)), some (zI (rvN (rdS S 28 (k : Int) 0))), some (zI (zrem (rvN (rdS S 29 (k : Int) 0)) 100))]) rfl ?_
      refine zx_iload (i := 8) dL_holds_304 rfl ?_
      refine zx_pc (pc1 := 306) rfl ?_
      refine zx_iload (i := 10) dL_holds_306 rfl ?_
      refine zx_bipush (v := 102) dL_holds_308 (by decide +kernel) (z32_lit (by decide) (by decide)) ?_
      refine zx_icmp_ne (tgt := 317) dL_holds_310 (by decide) (fun h310 => absurd h310 (by omega)) (fun h310 => ?_)
      refine zx_iconst (v := 1) dL_holds_313 rfl (z32_lit (by decide) (by decide)) ?_
      refine zx_goto (tgt := 318) dL_holds_314 (by decide) ?_
      refine zx_iadd (v := (cnS 102 (nt.take (k + 1)) : Int)) dL_holds_318 (zw_eq (by omega) (by omega) (by omega)) ?_
      refine zx_istore (i := 8) dL_holds_319 (by decide) rfl ?_
      refine zx_L (L1 := [some (zR o), some (zI p), some (zI m), some (zI a), some (zI fd), some (zI ov), some (zI b), some (zI (cnS 99 (nt.take (k + 1)) : Int)), some (zI (cnS 102 (nt.take (k + 1)) : Int)), some (zI (k : Int)), some (zI (rvN (rdS S 28 (k : Int) 0))), some (zI (zrem (rvN (rdS S 29 (k : Int) 0)) 100))]) rfl ?_
      refine zx_iload (i := 10) dL_holds_321 rfl ?_
      refine zx_bipush (v := 99) dL_holds_323 (by decide +kernel) (z32_lit (by decide) (by decide)) ?_
      refine zx_icmp_eq (tgt := 349) dL_holds_325 (by decide) (fun h325 => absurd h325 (by omega)) (fun h325 => ?_)
      refine zx_iload (i := 10) dL_holds_328 rfl ?_
      refine zx_bipush (v := 120) dL_holds_330 (by decide +kernel) (z32_lit (by decide) (by decide)) ?_
      refine zx_pc (pc1 := 332) rfl ?_
      refine zx_icmp_eq (tgt := 349) dL_holds_332 (by decide) (fun h332 => absurd h332 (by omega)) (fun h332 => ?_)
      refine zx_iload (i := 10) dL_holds_335 rfl ?_
      refine zx_bipush (v := 114) dL_holds_337 (by decide +kernel) (z32_lit (by decide) (by decide)) ?_
      refine zx_icmp_eq (tgt := 349) dL_holds_339 (by decide) (fun h339 => absurd h339 (by omega)) (fun h339 => ?_)
      refine zx_iload (i := 10) dL_holds_342 rfl ?_
      refine zx_bipush (v := 102) dL_holds_344 (by decide +kernel) (z32_lit (by decide) (by decide)) ?_
      refine zx_icmp_ne (tgt := 369) dL_holds_346 (by decide) (fun h346 => absurd h346 (by omega)) (fun h346 => ?_)
      refine zx_iload (i := 11) dL_holds_349 rfl ?_
      refine zx_iconst (v := 1) dL_holds_351 rfl (z32_lit (by decide) (by decide)) ?_
      refine zx_icmp_lt (tgt := 369) dL_holds_352 (by decide) (fun h352 => absurd h352 (by omega)) (fun h352 => ?_)
      refine zx_iload (i := 11) dL_holds_355 rfl ?_
      refine zx_bipush (v := 30) dL_holds_357 (by decide +kernel) (z32_lit (by decide) (by decide)) ?_
      refine zx_pc (pc1 := 359) rfl ?_
      refine zx_icmp_gt (tgt := 369) dL_holds_359 (by decide) (fun h359 => absurd h359 (by omega)) (fun h359 => ?_)
      refine zx_iload (i := 8) dL_holds_362 rfl ?_
      refine zx_iload (i := 7) dL_holds_364 rfl ?_
      refine zx_icmp_le (tgt := 371) dL_holds_366 (by decide) (fun h366 => ?_) (fun h366 => absurd (by omega) h366)
      refine zx_iinc (i := 9) (v := ((k + 1 : Nat) : Int)) dL_holds_371 rfl (zw_eq (by omega) (by omega) (by omega)) (by decide) rfl ?_
      refine zx_L (L1 := [some (zR o), some (zI p), some (zI m), some (zI a), some (zI fd), some (zI ov), some (zI b), some (zI (cnS 99 (nt.take (k + 1)) : Int)), some (zI (cnS 102 (nt.take (k + 1)) : Int)), some (zI ((k + 1 : Nat) : Int)), some (zI (rvN (rdS S 28 (k : Int) 0))), some (zI (zrem (rvN (rdS S 29 (k : Int) 0)) 100))]) rfl ?_
      refine zx_goto (tgt := 240) dL_holds_374 (by decide) ?_
      exact ho_lp hF hst0 hnt e27 e28 n (k + 1) w_7 (((k1 + 60) + 60) + 60) (((k2 + 6) + 6) + 6) _ _ (by omega) hW_8 ⟨by omega, by omega⟩ (fun w9 y8 y9 h9 s9 => kk w9 y8 y9 (whW_le h9 (by omega) (by omega)) (zSc_tr sc_3 (zSc_tr sc_6 (zSc_tr sc_9 s9))))
theorem ho_129 {w : zW} {k1 k2 : Nat} (hF : rdF S) (hst0 : G.1.stackTraces = false) (hnt : ntO pn nt) (hp : p = (pn : Int)) (hp5 : pn < 1000) (e24 : rvN (rdS S 24 0 0) ≤ 300) (e26 : 1 ≤ rvN (rdS S 26 0 0) ∧ rvN (rdS S 26 0 0) ≤ 30) (e27 : rvN (rdS S 27 0 0) = (nt.length : Int)) (e28 : ∀ (k : Nat) (x : Nat × Nat), nt[k]? = some x → rvN (rdS S 28 (k : Int) 0) = (x.1 : Int) ∧ rvN (rdS S 29 (k : Int) 0) = (x.2 : Int)) (e28z : rvN (rdS S 28 (nt.length : Int) 0) = -1001) (hW : whW w o k1 k2 S) (hk : k1 + 20000 + 6000000 ≤ 60 * G.2.2.2.2.1 ∧ k2 + 2000 + 6830000 ≤ G.2.2.2.2.2) (kk : ∀ w', whW w' o (k1 + 20000) (k2 + 2000) S → zSc w w' → Q (.inl (some (zI 1))) w') : zX G zm_L_holds (d + 14) av w0 Q 129 [some (zR o), some (zI p), some (zI m), some (zI a), some (zI fd), some (zI ov), some (zI b), none, none, none, none, none] [] w := by
  obtain ⟨n80, n0, -, -⟩ := id hnt
  obtain ⟨e280, e290⟩ := e28 0 _ n0
  have e280 : rvN (rdS S 28 0 0) = 99 := e280
  have e290 : rvN (rdS S 29 0 0) = ((100 * pn + 1 : Nat) : Int) := e290
  have e28y : rvN (rdS S 28 (rvN (rdS S 27 0 0)) 0) = -1001 := by
    rw [e27]
    exact e28z
  refine zx_aload_n (i := 0) dL_holds_129 rfl rfl ?_
  refine zx_bipush (v := 24) dL_holds_130 (by decide +kernel) (z32_lit (by decide) (by decide)) ?_
  refine zx_iconst (v := 0) dL_holds_132 rfl (z32_lit (by decide) (by decide)) ?_
  refine zx_iconst (v := 0) dL_holds_133 rfl (z32_lit (by decide) (by decide)) ?_
  refine zx_iconst (v := 0) dL_holds_134 rfl (z32_lit (by decide) (by decide)) ?_
  refine zx_iconst (v := 0) dL_holds_135 rfl (z32_lit (by decide) (by decide)) ?_
  refine zx_iconst (v := 0) dL_holds_136 rfl (z32_lit (by decide) (by decide)) ?_
  refine zx_rd (d := d) (o := o) (k1 := k1) (k2 := k2) (S := S) rfl dL_holds_137 (Nat.le_of_ble_eq_true rfl) rfl hW hF hst0 ⟨by omega, by omega⟩ 24 rfl (by decide) (fun q => absurd q (by decide)) (fun w_1 hW_2 sc_3 => ?_)
  refine zx_pc (pc1 := 140) rfl ?_
  refine zx_sipush (v := 300) dL_holds_140 (by decide +kernel) (z32_lit (by decide) (by decide)) ?_
  refine zx_icmp_gt (tgt := 229) dL_holds_143 (by decide) (fun h143 => absurd h143 (by omega)) (fun h143 => ?_)
  refine zx_aload_n (i := 0) dL_holds_146 rfl rfl ?_
  refine zx_bipush (v := 26) dL_holds_147 (by decide +kernel) (z32_lit (by decide) (by decide)) ?_
  refine zx_iconst (v := 0) dL_holds_149 rfl (z32_lit (by decide) (by decide)) ?_
  refine zx_iconst (v := 0) dL_holds_150 rfl (z32_lit (by decide) (by decide)) ?_
  refine zx_iconst (v := 0) dL_holds_151 rfl (z32_lit (by decide) (by decide)) ?_
  refine zx_iconst (v := 0) dL_holds_152 rfl (z32_lit (by decide) (by decide)) ?_
  refine zx_iconst (v := 0) dL_holds_153 rfl (z32_lit (by decide) (by decide)) ?_
  refine zx_rd (d := d) (o := o) (k1 := (k1 + 60)) (k2 := (k2 + 6)) (S := S) rfl dL_holds_154 (Nat.le_of_ble_eq_true rfl) rfl hW_2 hF hst0 ⟨by omega, by omega⟩ 26 rfl (by decide) (fun q => absurd q (by decide)) (fun w_4 hW_5 sc_6 => ?_)
  refine zx_pc (pc1 := 157) rfl ?_
  refine zx_bipush (v := 30) dL_holds_157 (by decide +kernel) (z32_lit (by decide) (by decide)) ?_
  refine zx_icmp_gt (tgt := 229) dL_holds_159 (by decide) (fun h159 => absurd h159 (by omega)) (fun h159 => ?_)
  refine zx_aload_n (i := 0) dL_holds_162 rfl rfl ?_
  refine zx_bipush (v := 26) dL_holds_163 (by decide +kernel) (z32_lit (by decide) (by decide)) ?_
  refine zx_iconst (v := 0) dL_holds_165 rfl (z32_lit (by decide) (by decide)) ?_
  refine zx_iconst (v := 0) dL_holds_166 rfl (z32_lit (by decide) (by decide)) ?_
  refine zx_iconst (v := 0) dL_holds_167 rfl (z32_lit (by decide) (by decide)) ?_
  refine zx_iconst (v := 0) dL_holds_168 rfl (z32_lit (by decide) (by decide)) ?_
  refine zx_iconst (v := 0) dL_holds_169 rfl (z32_lit (by decide) (by decide)) ?_
  refine zx_rd (d := d) (o := o) (k1 := ((k1 + 60) + 60)) (k2 := ((k2 + 6) + 6)) (S := S) rfl dL_holds_170 (Nat.le_of_ble_eq_true rfl) rfl hW_5 hF hst0 ⟨by omega, by omega⟩ 26 rfl (by decide) (fun q => absurd q (by decide)) (fun w_7 hW_8 sc_9 => ?_)
  refine zx_pc (pc1 := 173) rfl ?_
  refine zx_iconst (v := 1) dL_holds_173 rfl (z32_lit (by decide) (by decide)) ?_
  refine zx_icmp_lt (tgt := 229) dL_holds_174 (by decide) (fun h174 => absurd h174 (by omega)) (fun h174 => ?_)
  refine zx_aload_n (i := 0) dL_holds_177 rfl rfl ?_
  refine zx_bipush (v := 27) dL_holds_178 (by decide +kernel) (z32_lit (by decide) (by decide)) ?_
  refine zx_iconst (v := 0) dL_holds_180 rfl (z32_lit (by decide) (by decide)) ?_
  refine zx_iconst (v := 0) dL_holds_181 rfl (z32_lit (by decide) (by decide)) ?_
  refine zx_iconst (v := 0) dL_holds_182 rfl (z32_lit (by decide) (by decide)) ?_
  refine zx_iconst (v := 0) dL_holds_183 rfl (z32_lit (by decide) (by decide)) ?_
  refine zx_iconst (v := 0) dL_holds_184 rfl (z32_lit (by decide) (by decide)) ?_
  refine zx_rd (d := d) (o := o) (k1 := (((k1 + 60) + 60) + 60)) (k2 := (((k2 + 6) + 6) + 6)) (S := S) rfl dL_holds_185 (Nat.le_of_ble_eq_true rfl) rfl hW_8 hF hst0 ⟨by omega, by omega⟩ 27 rfl (by decide) (fun q => absurd q (by decide)) (fun w_10 hW_11 sc_12 => ?_)
  refine zx_pc (pc1 := 188) rfl ?_
  refine zx_bipush (v := 80) dL_holds_188 (by decide +kernel) (z32_lit (by decide) (by decide)) ?_
  refine zx_icmp_gt (tgt := 229) dL_holds_190 (by decide) (fun h190 => absurd h190 (by omega)) (fun h190 => ?_)
  refine zx_aload_n (i := 0) dL_holds_193 rfl rfl ?_
  refine zx_bipush (v := 28) dL_holds_194 (by decide +kernel) (z32_lit (by decide) (by decide)) ?_
  refine zx_iconst (v := 0) dL_holds_196 rfl (z32_lit (by decide) (by decide)) ?_
  refine zx_iconst (v := 0) dL_holds_197 rfl (z32_lit (by decide) (by decide)) ?_
  refine zx_iconst (v := 0) dL_holds_198 rfl (z32_lit (by decide) (by decide)) ?_
  refine zx_iconst (v := 0) dL_holds_199 rfl (z32_lit (by decide) (by decide)) ?_
  refine zx_iconst (v := 0) dL_holds_200 rfl (z32_lit (by decide) (by decide)) ?_
  refine zx_rd (d := d) (o := o) (k1 := ((((k1 + 60) + 60) + 60) + 60)) (k2 := ((((k2 + 6) + 6) + 6) + 6)) (S := S) rfl dL_holds_201 (Nat.le_of_ble_eq_true rfl) rfl hW_11 hF hst0 ⟨by omega, by omega⟩ 28 rfl (by decide) (fun q => absurd q (by decide)) (fun w_13 hW_14 sc_15 => ?_)
  refine zx_pc (pc1 := 204) rfl ?_
  refine zx_bipush (v := 99) dL_holds_204 (by decide +kernel) (z32_lit (by decide) (by decide)) ?_
  refine zx_icmp_ne (tgt := 229) dL_holds_206 (by decide) (fun h206 => absurd h206 (by omega)) (fun h206 => ?_)
  refine zx_aload_n (i := 0) dL_holds_209 rfl rfl ?_
  refine zx_bipush (v := 29) dL_holds_210 (by decide +kernel) (z32_lit (by decide) (by decide)) ?_
  refine zx_iconst (v := 0) dL_holds_212 rfl (z32_lit (by decide) (by decide)) ?_
  refine zx_iconst (v := 0) dL_holds_213 rfl (z32_lit (by decide) (by decide)) ?_
  refine zx_iconst (v := 0) dL_holds_214 rfl (z32_lit (by decide) (by decide)) ?_
  refine zx_iconst (v := 0) dL_holds_215 rfl (z32_lit (by decide) (by decide)) ?_
  refine zx_iconst (v := 0) dL_holds_216 rfl (z32_lit (by decide) (by decide)) ?_
  refine zx_rd (d := d) (o := o) (k1 := (((((k1 + 60) + 60) + 60) + 60) + 60)) (k2 := (((((k2 + 6) + 6) + 6) + 6) + 6)) (S := S) rfl dL_holds_217 (Nat.le_of_ble_eq_true rfl) rfl hW_14 hF hst0 ⟨by omega, by omega⟩ 29 rfl (by decide) (fun q => absurd q (by decide)) (fun w_16 hW_17 sc_18 => ?_)
  refine zx_pc (pc1 := 220) rfl ?_
  refine zx_bipush (v := 100) dL_holds_220 (by decide +kernel) (z32_lit (by decide) (by decide)) ?_
  refine zx_iload_n (i := 1) dL_holds_222 rfl rfl ?_
  refine zx_imul (v := 100 * p) dL_holds_223 (zw_id ⟨by omega, by omega⟩) ?_
  refine zx_iconst (v := 1) dL_holds_224 rfl (z32_lit (by decide) (by decide)) ?_
  refine zx_iadd (v := (100 * p) + 1) dL_holds_225 (zw_id ⟨by omega, by omega⟩) ?_
  refine zx_icmp_eq (tgt := 231) dL_holds_226 (by decide) (fun h226 => ?_) (fun h226 => absurd (by omega) h226)
  refine zx_iconst (v := 0) dL_holds_231 rfl (z32_lit (by decide) (by decide)) ?_
  refine zx_istore (i := 7) dL_holds_232 (by decide) rfl ?_
  refine zx_L (L1 := [some (zR o), some (zI p), some (zI m), some (zI a), some (zI fd), some (zI ov), some (zI b), some (zI 0), none, none, none, none]) rfl ?_
  refine zx_iconst (v := 0) dL_holds_234 rfl (z32_lit (by decide) (by decide)) ?_
  refine zx_istore (i := 8) dL_holds_235 (by decide) rfl ?_
  refine zx_L (L1 := [some (zR o), some (zI p), some (zI m), some (zI a), some (zI fd), some (zI ov), some (zI b), some (zI 0), some (zI 0), none, none, none]) rfl ?_
  refine zx_iconst (v := 0) dL_holds_237 rfl (z32_lit (by decide) (by decide)) ?_
  refine zx_pc (pc1 := 238) rfl ?_
  refine zx_istore (i := 9) dL_holds_238 (by decide) rfl ?_
  refine zx_L (L1 := [some (zR o), some (zI p), some (zI m), some (zI a), some (zI fd), some (zI ov), some (zI b), some (zI 0), some (zI 0), some (zI 0), none, none]) rfl ?_
  have s0 : zSc w w_16 := zSc_tr sc_3 (zSc_tr sc_6 (zSc_tr sc_9 (zSc_tr sc_12 (zSc_tr sc_15 (zSc_tr sc_18 zSc_re)))))
  refine ho_lp hF hst0 hnt e27 e28 nt.length 0 w_16 ((((((k1 + 60) + 60) + 60) + 60) + 60) + 60) ((((((k2 + 6) + 6) + 6) + 6) + 6) + 6) none none (by omega) hW_17 ⟨by omega, by omega⟩ (fun w8 y10 y11 h8 s8 => ?_)
  refine zx_aload_n (i := 0) dL_holds_377 rfl rfl ?_
  refine zx_bipush (v := 28) dL_holds_378 (by decide +kernel) (z32_lit (by decide) (by decide)) ?_
  refine zx_aload_n (i := 0) dL_holds_380 rfl rfl ?_
  refine zx_bipush (v := 27) dL_holds_381 (by decide +kernel) (z32_lit (by decide) (by decide)) ?_
  refine zx_iconst (v := 0) dL_holds_383 rfl (z32_lit (by decide) (by decide)) ?_
  refine zx_iconst (v := 0) dL_holds_384 rfl (z32_lit (by decide) (by decide)) ?_
  refine zx_iconst (v := 0) dL_holds_385 rfl (z32_lit (by decide) (by decide)) ?_
  refine zx_iconst (v := 0) dL_holds_386 rfl (z32_lit (by decide) (by decide)) ?_
  refine zx_iconst (v := 0) dL_holds_387 rfl (z32_lit (by decide) (by decide)) ?_
  refine zx_rd (d := d) (o := o) (k1 := (((((((k1 + 60) + 60) + 60) + 60) + 60) + 60) + 180 * nt.length + 60)) (k2 := (((((((k2 + 6) + 6) + 6) + 6) + 6) + 6) + 18 * nt.length + 6)) (S := S) rfl dL_holds_388 (Nat.le_of_ble_eq_true rfl) rfl h8 hF hst0 ⟨by omega, by omega⟩ 27 rfl (by decide) (fun q => absurd q (by decide)) (fun w_1 hW_2 sc_3 => ?_)
  refine zx_pc (pc1 := 391) rfl ?_
  refine zx_iconst (v := 0) dL_holds_391 rfl (z32_lit (by decide) (by decide)) ?_
  refine zx_iconst (v := 0) dL_holds_392 rfl (z32_lit (by decide) (by decide)) ?_
  refine zx_iconst (v := 0) dL_holds_393 rfl (z32_lit (by decide) (by decide)) ?_
  refine zx_iconst (v := 0) dL_holds_394 rfl (z32_lit (by decide) (by decide)) ?_
  refine zx_rd (d := d) (o := o) (k1 := ((((((((k1 + 60) + 60) + 60) + 60) + 60) + 60) + 180 * nt.length + 60) + 60)) (k2 := ((((((((k2 + 6) + 6) + 6) + 6) + 6) + 6) + 18 * nt.length + 6) + 6)) (S := S) rfl dL_holds_395 (Nat.le_of_ble_eq_true rfl) rfl hW_2 hF hst0 ⟨by omega, by omega⟩ 28 rfl (by decide) (fun q => absurd q (by decide)) (fun w_4 hW_5 sc_6 => ?_)
  refine zx_pc (pc1 := 398) rfl ?_
  refine zx_sipush (v := -1001) dL_holds_398 (by decide +kernel) (z32_lit (by decide) (by decide)) ?_
  refine zx_icmp_ne (tgt := 408) dL_holds_401 (by decide) (fun h401 => absurd h401 (by omega)) (fun h401 => ?_)
  refine zx_iconst (v := 1) dL_holds_404 rfl (z32_lit (by decide) (by decide)) ?_
  refine zx_goto (tgt := 409) dL_holds_405 (by decide) ?_
  refine zx_zret dL_holds_409 rfl (by first | exact Or.inl rfl | exact Or.inr rfl | exact zB_or | assumption) ?_
  exact kk w_4 (whW_le hW_5 (by omega) (by omega)) (zSc_tr s0 (zSc_tr s8 (zSc_tr sc_3 (zSc_tr sc_6 zSc_re))))
end LHOLDS
