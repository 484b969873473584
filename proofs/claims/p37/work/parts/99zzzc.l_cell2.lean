/-! Own rows: the script, which lies outside the world; the law's cell reads it. By hand. -/
/-- the script lies in the heap at the entry, outside the world -/
def scX (sa L0 : Nat) (xs : Nat → Int32) (w0 : zW) (s : State) : Prop := va_X sa L0 xs s s.heap ∧ sa < s.heap.size ∧ ¬ zA w0 sa
section SCX
variable {G : zG} {M : zMd} {d : Nat} {av : List zV} {w0 : zW} {Q : zQ} {pc : Nat} {L : List (Option zV)} {st : List zV} {w : zW} {sa L0 : Nat} {xs : Nat → Int32}
theorem zp_slen (hd : decode M.2.1 pc = .ok (.arraylength, 1)) (hL : L0 < 2000000000) (k : zXp (scX sa L0 xs w0) G M d av w0 Q (pc + 1) L (zI (L0 : Int) :: st) w) : zXp (scX sa L0 xs w0) G M d av w0 Q pc L (zR sa :: st) w := by
  intro p e s m below meth c H ls locs hC hX hY
  have hY1 := (zY_pop hY).2
  have kk := k p e s m below meth c H ls locs hC hX (zY_push (v := zI (L0 : Int)) ⟨by omega, by omega⟩ hY1)
  obtain ⟨h1, h2, h3⟩ := hX
  exact va_slen hC.1 hC.2.1 h1 h2 h3 hY1.1 hd kk
theorem zp_sld {i : Int} (hd : decode M.2.1 pc = .ok (.iaload, 1)) (h0 : 0 ≤ i) (hi : i.toNat < L0) (k : zXp (scX sa L0 xs w0) G M d av w0 Q (pc + 1) L (zI (xs i.toNat).toInt :: st) w) : zXp (scX sa L0 xs w0) G M d av w0 Q pc L (zI i :: zR sa :: st) w := by
  intro p e s m below meth c H ls locs hC hX hY
  obtain ⟨hfi, hY1⟩ := zY_pop hY
  have hY2 := (zY_pop hY1).2
  have kk := k p e s m below meth c H ls locs hC hX (zY_push (v := zI (xs i.toNat).toInt) ⟨Int32.le_toInt _, by have := Int32.toInt_lt (xs i.toNat); omega⟩ hY2)
  obtain ⟨h1, h2, h3⟩ := hX
  refine va_sld hC.1 hC.2.1 h1 h2 h3 hY2.1 (z_in hfi h0 hi) hd ?_
  rw [z_clamp hfi]
  have e : Int32.ofInt (xs i.toNat).toInt = xs i.toNat := Int32.ofInt_toInt _
  rw [← e]
  exact kk
/-- a contract that asks something more of its start -/
def zMp (X : State → Prop) (G : zG) (M : zMd) (d : Nat) (av : List zV) (w : zW) (Q : zQ) : Prop :=
  (∀ v ∈ av, zfit v) → vx_Met G.1 M.1 (zws M) (zrm G d w) (va_Pc (av.map zv) (fun U => zPre G w U ∧ X U)) (zQr G w Q) (zQx G w Q) (G.2.2.2.2.1 - w.2.1) (G.2.2.2.2.2 - w.2.2) (zA w)
theorem zp_enter {X : State → Prop} (hy : plainName M.1.cls = true) (hh : M.2.2.2.2 = []) (hlen : (lg_sl (av.map zv)).length ≤ M.2.2.1) (k : zXp X G M d av w Q 0 (zin0 av M.2.2.1) [] w) : zMp X G M d av w Q := by
  intro hfa
  refine vx_ofW (cc := M.2.1) (maxL := M.2.2.1) (ret := M.2.2.2.1) hy (zws_code hh) ?_
  intro p e s m args below meth c s₁ B hml hno hv
  obtain ⟨rfl, ⟨hH, hK, hE⟩, hX⟩ := hv
  have hl := lv_entry (av.map zv) (n := M.2.2.1) hlen
  rw [lg_entry_eq]
  have hsz : s.heap.size = w.2.1 := hH.1
  have htt : zTot s.heap = w.2.2 := hH.2.1
  have kk := k p e s m below meth c s.heap _ [] ⟨B.exec, B.bytes, hml, B.returns, atoms_spec (ws := zws M) B.pre, findClass_of_methodNamed B.named, B.notSynchronized, (name_of_methodNamed B.named B.method).1, by
      rw [hh]
      exact List.eq_nil_iff_forall_not_mem.mpr fun x hx => hno x hx, hsz, htt, hK, hE⟩ hX
    ⟨va_S.rf, hH, fun q hq => Or.inl hq, Nat.le_refl _, Nat.le_refl _, ⟨hl.1, hl.2.1, fun i v hi => ?_⟩, fun v hv => absurd hv List.not_mem_nil⟩
  · rw [Nat.sub_self, Nat.sub_self] at kk
    exact kk
  · obtain ⟨l, hl0⟩ : ∃ l, l = (av.flatMap fun v => match v with | .inr (.inr _) => [some v, none] | _ => [some v]) := ⟨_, rfl⟩
    have hi : (l ++ List.replicate (M.2.2.1 - l.length) none)[i]? = some (some v) := by rw [hl0]; exact hi
    by_cases c : i < l.length
    · rw [List.getElem?_append_left c, hl0] at hi
      obtain ⟨h1, h2⟩ := zin0_args av 0 i v hi
      rw [Nat.zero_add] at h1
      exact ⟨hl.2.2 (i, zv v) h1, hfa v h2⟩
    · rw [List.getElem?_append_right (by omega)] at hi
      simp only [List.getElem?_replicate] at hi
      split at hi <;> simp at hi
/-- an int of the script, or what stands for it -/
def cellX (L0 : Nat) (xs : Nat → Int32) (k : Int) : Int := if k < (L0 : Int) then (xs k.toNat).toInt else zw (zw (680003 * k) + 37)
theorem c_cellX (hL : L0 < 1000000) {k : Int} (hk : 0 ≤ k) : zMp (scX sa L0 xs w) G zm_L_cell d [zR sa, zI k] w (zRet (some (zI (cellX L0 xs k))) w) := by
  refine zp_enter (by decide +kernel) rfl (by rw [zlg_len]; exact Nat.le_of_ble_eq_true rfl) ?_
  refine zp_L (L1 := [some (zR sa), some (zI k)]) rfl ?_
  refine zp_iload_n (i := 1) dL_cell_0 rfl rfl ?_
  refine zp_aload_n (i := 0) dL_cell_1 rfl rfl ?_
  refine zp_slen dL_cell_2 (by omega) ?_
  unfold cellX
  refine zp_icmp_ge (tgt := 12) dL_cell_3 (by decide) (fun h => ?_) (fun h => ?_)
  · rw [if_neg (by omega)]
    refine zp_ldc (v := 680003) dL_cell_12 zk_L_7 (by decide +kernel) (z32_lit (by decide) (by decide)) ?_
    refine zp_iload_n (i := 1) dL_cell_14 rfl rfl ?_
    refine zp_imul (v := zw (680003 * k)) dL_cell_15 rfl ?_
    refine zp_bipush (v := 37) dL_cell_16 (by decide +kernel) (z32_lit (by decide) (by decide)) ?_
    refine zp_iadd (v := zw (zw (680003 * k) + 37)) dL_cell_18 rfl ?_
    refine zp_iret dL_cell_19 rfl ?_
    exact zr_v rfl rfl
  · rw [if_pos (by omega)]
    refine zp_aload_n (i := 0) dL_cell_6 rfl rfl ?_
    refine zp_iload_n (i := 1) dL_cell_7 rfl rfl ?_
    refine zp_sld dL_cell_8 hk (by omega) ?_
    refine zp_goto (tgt := 19) dL_cell_9 (by decide) ?_
    refine zp_iret dL_cell_19 rfl ?_
    exact zr_v rfl rfl
theorem scX_blind {a : List Value} : FrameBlind (va_Pc a (fun U => zPre G w U ∧ scX sa L0 xs w U)) := fun b U g mk q => by
  obtain ⟨q0, ⟨q1, q2, q3⟩, q4, q5⟩ := q
  exact ⟨q0, ⟨q1, va_K.moved (u := U) (U := U.calling g mk b) (Vm.Alike.refl U.vm) q2, zEn.same (u := U) (U := U.calling g mk b) rfl q3⟩, va_X.moved (u := U) (U := U.calling g mk b) (Vm.Alike.refl U.vm) q4, q5⟩
/-- the law's cell, called -/
theorem zp_cell {d' : Nat} {k : Int} (hd : decode M.2.1 pc = .ok (.invokestatic 138, 3)) (hm : M.1.cls = "ModedMillLaw") (hst : st.length ≤ 4) (hh : M.2.2.2.2 = []) (hL : L0 < 1000000) (hk : 0 ≤ k) (kk : zXp (scX sa L0 xs w0) G M (d' + 1) av w0 Q (pc + 3) L (zI (cellX L0 xs k) :: st) w) : zXp (scX sa L0 xs w0) G M (d' + 1) av w0 Q pc L (zI k :: zR sa :: st) w := by
  intro p e s m below meth c H ls locs hC hX hY
  have hY : zDy G M w0 L (([zR sa, zI k] : List zV).reverse ++ st) w s H ls locs := hY
  obtain ⟨hfa, hY2⟩ := zfits_args (p := p) hY
  have hc : zCS M.1.cls 138 zm_L_cell 2 := by rw [hm]; exact zc_L_138
  obtain ⟨⟨i1, i2, i3, i4, i5⟩, c1, c2⟩ := hc
  have hts := hC.2.2.2.2.1
  have hMet := c_cellX (G := G) (d := d') (w := w) (sa := sa) (L0 := L0) (xs := xs) hL hk hfa
  have hws := zws_code i1
  have hGd : GoodIn (zws M) (zws zm_L_cell) := zGood fun x hx => by
    rw [hws] at hx
    rcases List.mem_cons.mp hx with rfl | hx
    · exact i3
    · exact hx
  have hrun := vx_runS (e := e) (below := below) (meth := meth) (locs := locs) (As := [zR sa, zI k].map zv) (rest := st.map zv) (Ts := zws M) (own := M.1.cls) (g := F0 m pc ls (([zR sa, zI k].reverse ++ st).map zv)) ⟨hC.1, hC.2.1, hC.2.2.1, hC.2.2.2.2.2.1, hts⟩ hMet
    ⟨callB_of 2 hts hGd hws rfl rfl (hts _ (List.mem_cons_of_mem _ i2)) (hts _ (List.mem_cons_of_mem _ c1)) i4 (zroom_call (w0 := w0) i5), hts _ (List.mem_cons_of_mem _ c2)⟩
    ⟨scX_blind, fun U hU hW => ⟨rfl, zPre_of hC hY2 hU hW, by
      obtain ⟨x1, x2, x3⟩ := hX
      have e1 : U.heap[sa]? = s.heap[sa]? := by rw [hU]; exact hY2.1.2.1 sa x2 x3
      refine ⟨va_X.kept (va_X.moved hW.alike x1) e1, by rw [hU]; exact Nat.lt_of_lt_of_le x2 hY2.1.1, fun hz => ?_⟩
      rcases hz with hz | hz
      · exact x3 (hY2.2.2.1 sa hz)
      · rw [← hY2.2.1.1] at hz
        exact absurd (Nat.lt_of_lt_of_le x2 hY2.1.1) (Nat.not_lt.mpr hz)⟩⟩ rfl rfl hY2.2.2.2.2.2.1.1 (by simp) (lv_room (zsum hst)) hd (by
      obtain ⟨-, z2, -, z4, z5, -, -⟩ := hY2
      obtain ⟨-, -, z6, z7, -⟩ := z2
      exact ⟨by show w.2.1 - w0.2.1 + (G.2.2.2.2.1 - w.2.1) ≤ G.2.2.2.2.1 - w0.2.1; omega, by show w.2.2 - w0.2.2 + (G.2.2.2.2.2 - w.2.2) ≤ G.2.2.2.2.2 - w0.2.2; omega⟩)
  exact z_after hC hY2 hrun (fun v' w' H' locs' hq' hY' => by
    obtain ⟨e1, e2⟩ := hq'
    cases e1
    subst e2
    exact kk p e s m below meth c H' ls locs' hC hX hY') (fun i w' H' locs' q ce hi hq' hY' h1 h2 h3 => by cases hq'.1)
end SCX
