/-! Own rows: rows for the law's own methods: calls, weaker locals, equal longs; cell. By hand. -/
section LLIB
variable {G : zG} {M : zMd} {d : Nat} {av : List zV} {w0 : zW} {Q : zQ} {pc : Nat} {L : List (Option zV)} {st : List zV} {w : zW}
/-- what is known of the locals, or less -/
def zlw : List (Option zV) → List (Option zV) → Prop
  | [], _ => True
  | a :: l, b :: m => (a = none ∨ a = b) ∧ zlw l m
  | _ :: _, [] => False
theorem zlw_at : ∀ (L1 L : List (Option zV)), zlw L1 L → ∀ (i : Nat) (v : zV), L1[i]? = some (some v) → L[i]? = some (some v)
  | [], _, _, i, v, h => by cases h
  | a :: l, [], hw, _, _, _ => False.elim hw
  | a :: l, b :: m, hw, 0, v, h => by
    have h : some a = some (some v) := h
    show some b = _
    rcases hw.1 with e | e
    · rw [e] at h
      cases h
    · rw [← e]
      exact h
  | a :: l, b :: m, hw, i + 1, v, h => zlw_at l m hw.2 i v h
theorem zx_Lw {L1 : List (Option zV)} (h : zlw L1 L) (k : zX G M d av w0 Q pc L1 st w) : zX G M d av w0 Q pc L st w := by
  intro p e s m below meth c H ls locs hC hY
  obtain ⟨a1, a2, a3, a4, a5, ⟨b1, b2, b3⟩, a7⟩ := hY
  exact k p e s m below meth c H ls locs hC ⟨a1, a2, a3, a4, a5, ⟨b1, b2, fun i v hi => b3 i v (zlw_at _ _ h i v hi)⟩, a7⟩
theorem zx_lcmp0 {a : Int} (hd : decode M.2.1 pc = .ok (.lcmp, 1)) (k : zX G M d av w0 Q (pc + 1) L (zI 0 :: st) w) : zX G M d av w0 Q pc L (zJ a :: zJ a :: st) w := by
  intro p e s m below meth c H ls locs hC hY
  have hY1 := (zY_pop (zY_pop hY).2).2
  have h := k p e s m below meth c H ls locs hC (zY_push (z32_lit (by decide) (by decide) : zfit (zI 0)) hY1)
  refine W.lcmp hC.1 hC.2.1 hd ?_
  have e1 : lg_cmp (Int64.ofInt a) (Int64.ofInt a) = Int32.ofInt 0 := by
    have e0 : lg_cmp (Int64.ofInt a) (Int64.ofInt a) = 0 := by simp [lg_cmp]
    rw [e0]
    decide
  rw [e1]
  exact h
theorem zx_is6 {idx n d' : Nat} {M' : zMd} {As : List zV} {v : Option zV} {w1 : zW} (hd : decode M.2.1 pc = .ok (.invokestatic idx, 3)) (hc : zCS M.1.cls idx M' n) (hn : As.length = n) (hst : ((st.map zv).map fun v => v.category).sum ≤ 8) (hh : M.2.2.2.2 = [])
    (hM : zM G M' d' As w (zRet v w1)) (k : zX G M (d' + 1) av w0 Q (pc + 3) L (v.toList ++ st) w1) : zX G M (d' + 1) av w0 Q pc L (As.reverse ++ st) w := by
  intro p e s m below meth c H ls locs hC hY
  obtain ⟨hfa, hY2⟩ := zfits_args (p := p) hY
  obtain ⟨⟨i1, i2, i3, i4, i5⟩, c1, c2⟩ := hc
  have hts := hC.2.2.2.2.1
  have hMet := hM hfa
  have hws := zws_code i1
  have hGd : GoodIn (zws M) (zws M') := zGood fun x hx => by
    rw [hws] at hx
    rcases List.mem_cons.mp hx with rfl | hx
    · exact i3
    · exact hx
  have hrun := vx_runS (e := e) (below := below) (meth := meth) (locs := locs) (As := As.map zv) (rest := st.map zv) (Ts := zws M) (own := M.1.cls) (g := F0 m pc ls ((As.reverse ++ st).map zv)) ⟨hC.1, hC.2.1, hC.2.2.1, hC.2.2.2.2.2.1, hts⟩ hMet
    ⟨callB_of n hts hGd hws rfl rfl (hts _ (List.mem_cons_of_mem _ i2)) (hts _ (List.mem_cons_of_mem _ c1)) i4 (zroom_call (w0 := w0) i5), hts _ (List.mem_cons_of_mem _ c2)⟩
    ⟨zPre_blind, fun U hU hW => ⟨rfl, zPre_of hC hY2 hU hW⟩⟩ rfl (by rw [List.length_map]; exact hn) hY2.2.2.2.2.2.1.1 (by simp) (lv_room hst) hd (by
      obtain ⟨-, z2, -, z4, z5, -, -⟩ := hY2
      obtain ⟨-, -, z6, z7, -⟩ := z2
      exact ⟨by show w.2.1 - w0.2.1 + (G.2.2.2.2.1 - w.2.1) ≤ G.2.2.2.2.1 - w0.2.1; omega, by show w.2.2 - w0.2.2 + (G.2.2.2.2.2 - w.2.2) ≤ G.2.2.2.2.2 - w0.2.2; omega⟩)
  exact z_after hC hY2 hrun (fun v' w' H' locs' hq' hY' => by
    obtain ⟨e1, e2⟩ := hq'
    cases e1
    subst e2
    exact k p e s m below meth c H' ls locs' hC hY') (fun i w' H' locs' q ce hi hq' hY' h1 h2 h3 => by cases hq'.1)
/-- a call of the law's call -/
theorem zx_cl {d' o k1 k2 : Nat} {P : Int ⊕ Nat → whS → Prop} {a1 a2 a3 a4 a5 a6 a7 : zV} (hm : M.1.cls = "ModedMillLaw") (hd : decode M.2.1 pc = .ok (.invokestatic 128, 3)) (hst : st.length ≤ 4) (hh : M.2.2.2.2 = []) (hM : zM G zm_L_call d' [a1, a2, a3, a4, a5, a6, a7] w (lwQ w o k1 k2 P)) (k : ∀ (r : Int ⊕ Nat) (S' : whS) (w' : zW), P r S' → whW w' o k1 k2 S' → zSc w w' → zX G M (d' + 1) av w0 Q (pc + 3) L (zI (rvN r) :: st) w') : zX G M (d' + 1) av w0 Q pc L (a7 :: a6 :: a5 :: a4 :: a3 :: a2 :: a1 :: st) w := by
  refine zx_isH (As := [a1, a2, a3, a4, a5, a6, a7]) (st := st) hd (by rw [hm]; exact zc_L_128) rfl hst hh hM (fun v w' hq => ?_) (fun i w' hq => ?_)
  · obtain ⟨r, S', p, ⟨q1, q2⟩, e⟩ := hq
    cases e
    exact k r S' w' p q1 q2
  · obtain ⟨r, S', -, -, e⟩ := hq
    cases e
/-- a reader by the law's call -/
theorem zx_rd {o k1 k2 : Nat} {S : whS} {qi a b c e1 e2 : Int} (hm : M.1.cls = "ModedMillLaw") (hd : decode M.2.1 pc = .ok (.invokestatic 128, 3)) (hst : st.length ≤ 4) (hh : M.2.2.2.2 = []) (h : whW w o k1 k2 S) (hF : rdF S) (hst0 : G.1.stackTraces = false) (hk : k1 + 6000000 ≤ 60 * G.2.2.2.2.1 ∧ k2 + 6830000 ≤ G.2.2.2.2.2) (q : Nat) (hqi : qi = (q : Int)) (hq : (13 ≤ q ∧ q ≤ 16) ∨ (20 ≤ q ∧ q ≤ 29)) (hb : q = 23 → S.2.2.2.1.2.1 ≠ 0 → S.2.2.2.2.2.2.2.2.2.2.1 ≠ 0) (k : ∀ w', whW w' o (k1 + 60) (k2 + 6) S → zSc w w' → zX G M (d + 14) av w0 Q (pc + 3) L (zI (rvN (rdS S q a b)) :: st) w') : zX G M (d + 14) av w0 Q pc L (zI e2 :: zI e1 :: zI c :: zI b :: zI a :: zI qi :: zR o :: st) w := by
  subst hqi
  exact zx_cl (d' := d + 13) hm hd hst hh (k_rd h hF hst0 (whW_room h hk.1 hk.2) hq hb a b c e1 e2) (fun r S' w' p q1 q2 => by
    obtain ⟨e1, e2⟩ := p
    subst e1
    subst e2
    exact k w' q1 q2)
end LLIB
theorem whW_o {w : zW} {o k1 k2 : Nat} {S : whS} (h : whW w o k1 k2 S) : ∃ of, w.1 o = some (11, 0, of) := by
  obtain ⟨A, T, Sp, M, B, hP, h1, h2⟩ := h
  obtain ⟨⟨t, tc, tn, th, tz⟩, pg, ⟨mc, fa, ca, ta⟩, ⟨⟨la, lai, laa, lan⟩, ⟨sp, spi, spa, spn⟩⟩, br, ⟨nd, va, ce, li⟩, ⟨ro, bi, le, wk⟩⟩ := A
  obtain ⟨⟨ty, C⟩, tm, R, ⟨comp, asked, sum⟩, La⟩ := S
  obtain ⟨N, H, Sz⟩ := T
  exact ⟨_, hP.1⟩
theorem whW_tm {w : zW} {o k1 k2 : Nat} {S : whS} (h : whW w o k1 k2 S) : S.2.1.length ≤ 200 ∧ S.2.1.Nodup := by
  obtain ⟨A, T, Sp, M, B, hP, h1, h2⟩ := h
  obtain ⟨⟨t, tc, tn, th, tz⟩, pg, ⟨mc, fa, ca, ta⟩, ⟨⟨la, lai, laa, lan⟩, ⟨sp, spi, spa, spn⟩⟩, br, ⟨nd, va, ce, li⟩, ⟨ro, bi, le, wk⟩⟩ := A
  obtain ⟨⟨ty, C⟩, tm, R, ⟨comp, asked, sum⟩, La⟩ := S
  obtain ⟨N, H, Sz⟩ := T
  have htm := hP.2.2.1.2
  exact ⟨htm.2.2.2.1, htm.2.2.1⟩
/-- an int of the script, or what stands for it -/
def cellV (xs : List Int) (k : Int) : Int := if k < (xs.length : Int) then xs.getD k.toNat 0 else zw (zw (680003 * k) + 37)
section LCELL
variable {G : zG} {d : Nat} {w : zW}
theorem c_L_cell {sa : Nat} {xs : List Int} (hs : w.1 sa = some (118, 0, xs.map Sum.inl)) (hx : xs.length < 1000000) {k : Int} (hk : 0 ≤ k) : zM G zm_L_cell d [zR sa, zI k] w (zRet (some (zI (cellV xs k))) w) := by
  refine zx_ent (by decide +kernel) rfl (Nat.le_of_ble_eq_true rfl) ?_
  refine zx_L (L1 := [some (zR sa), some (zI k)]) rfl ?_
  refine zx_iload_n (i := 1) dL_cell_0 rfl rfl ?_
  refine zx_aload_n (i := 0) dL_cell_1 rfl rfl ?_
  refine zx_alen (n := xs.length) dL_cell_2 hs (by decide) (by rw [List.length_map]) (by omega) ?_
  unfold cellV
  refine zx_icmp_ge (tgt := 12) dL_cell_3 (by decide) (fun h => ?_) (fun h => ?_)
  · rw [if_neg (by omega)]
    refine zx_ldc (v := 680003) dL_cell_12 zk_L_7 (by decide +kernel) (z32_lit (by decide) (by decide)) ?_
    refine zx_iload_n (i := 1) dL_cell_14 rfl rfl ?_
    refine zx_imul (v := zw (680003 * k)) dL_cell_15 rfl ?_
    refine zx_bipush (v := 37) dL_cell_16 (by decide +kernel) (z32_lit (by decide) (by decide)) ?_
    refine zx_iadd (v := zw (zw (680003 * k) + 37)) dL_cell_18 rfl ?_
    refine zx_iret dL_cell_19 rfl ?_
    exact zr_v rfl rfl
  · have hk2 : k.toNat < xs.length := by omega
    rw [if_pos (by omega)]
    refine zx_aload_n (i := 0) dL_cell_6 rfl rfl ?_
    refine zx_iload_n (i := 1) dL_cell_7 rfl rfl ?_
    refine zx_iaload (v := zI (xs.getD k.toNat 0)) dL_cell_8 hs (by decide) hk (by
      rw [List.getElem?_map, List.getD_eq_getElem?_getD, List.getElem?_eq_getElem hk2]
      rfl) ?_
    refine zx_goto (tgt := 19) dL_cell_9 (by decide) ?_
    refine zx_iret dL_cell_19 rfl ?_
    exact zr_v rfl rfl
end LCELL
