/-! Own rows: what the law finds outside itself at its entry: statics, casts, classes. Printed by wip/p37/m_end.py. -/
theorem nc_in : ∀ i, i < 6 → ∀ j, j < 6 → i ≠ j → Cond.not (.castable (zXn i) (zXn j)) ∈ flatC (Jvm.Cond.and given_1 narrow_1) := by decide +kernel
theorem mi_in : Cond.isRef (.mirror "[Ljava/lang/Object;") ∈ flatC (Jvm.Cond.and given_1 narrow_1) := by decide +kernel
theorem us_in : Cond.isRef (.static Bundle.tN "UNASSIGNED_STACK" Bundle.steD) ∈ flatC (Jvm.Cond.and given_1 narrow_1) := by decide +kernel
theorem ss_in : Cond.isRef (.static Bundle.tN "SUPPRESSED_SENTINEL" Bundle.listD) ∈ flatC (Jvm.Cond.and given_1 narrow_1) := by decide +kernel
theorem dl_in : Cond.eq (.length (.static "java/util/ArrayList" "DEFAULTCAPACITY_EMPTY_ELEMENTDATA" "[Ljava/lang/Object;")) (.int 0) ∈ flatC (Jvm.Cond.and given_1 narrow_1) := by decide +kernel
theorem da_in : Cond.arrayOf (.static "java/util/ArrayList" "DEFAULTCAPACITY_EMPTY_ELEMENTDATA" "[Ljava/lang/Object;") (.object "java/lang/Object") ∈ flatC (Jvm.Cond.and given_1 narrow_1) := by decide +kernel
theorem o_AO {C0 : String} {u : State} (h : va_AO C0 u) : ∃ cA : ClassId, ArrOfT u cA (.object C0) ∧ va_RA u cA (.object C0) := by
  obtain ⟨comp, cA, kA, h1, -, h2, h3, h4⟩ := Cond.arrayOver_spec (va_AO.use (A := #[]) h)
  exact ⟨cA, fun n z => ⟨(fun k9 h9 => by cases h9), kA, h2, comp, h3⟩, kA, comp, h2, h3, h1, h4⟩
theorem o_AC {ty : FieldType} {u : State} {args : Array Value} (h : (Cond.arrayClass ty).before args u = true) : ∃ cA : ClassId, ArrOfT u cA ty ∧ u.vm.findClass ("[" ++ ty.toString) = some cA := by
  obtain ⟨cA, kA, comp, h1, h2, h3⟩ := Cond.arrayClass_spec h
  exact ⟨cA, fun n z => ⟨(fun k9 h9 => by cases h9), kA, h2, comp, h3⟩, h1⟩
theorem law_env {s : State} {b : Addr} (hts : ∀ w ∈ lw_tbl, w.before #[Value.ref b] s = true) (hgv : (Jvm.Cond.and given_1 narrow_1).before #[Value.ref b] s = true) : ∃ e0 mi : Nat, zEn e0 mi (fun q : Nat => s.heap.size ≤ q) s s.heap := by
  have hs := flat_of_before _ hgv
  have hA : ∀ a : Nat, a < s.heap.size → ¬ (fun q : Nat => s.heap.size ≤ q) a := fun a h => Nat.not_le.mpr h
  have z0 : vx_Zq Bundle.tN "UNASSIGNED_STACK" Bundle.steD (fun q : Nat => s.heap.size ≤ q) s s.heap := vx_Zqof (args := #[Value.ref b]) (hts _ (lw_ch_in 1 _ (List.mem_of_getElem? (i := 124) rfl))) (hts _ (lw_ch_in 1 _ (List.mem_of_getElem? (i := 7) rfl))) (hs _ us_in) hA
  have z1 : vx_Zq Bundle.tN "SUPPRESSED_SENTINEL" Bundle.listD (fun q : Nat => s.heap.size ≤ q) s s.heap := vx_Zqof (args := #[Value.ref b]) (hts _ (lw_ch_in 1 _ (List.mem_of_getElem? (i := 126) rfl))) (hts _ (lw_ch_in 1 _ (List.mem_of_getElem? (i := 7) rfl))) (hs _ ss_in) hA
  obtain ⟨y, y1, y2⟩ := Cond.eq_one (hs _ dl_in)
  obtain ⟨a, cell, y3, y4, y5⟩ := Term.length_spec y1
  have y6 : (Value.int (0 : Int32)) = y := Option.some.inj y2
  subst y6
  obtain ⟨h1, h2, -, -⟩ := State.arrayAt?_spec y4
  obtain ⟨h3, -⟩ := Cond.arrayOf_spec (hs _ da_in) y3 h1
  have hl : a < s.heap.size := (Array.getElem?_eq_some_iff.mp h1).1
  have z2 : va_Z "java/util/ArrayList" "DEFAULTCAPACITY_EMPTY_ELEMENTDATA" "[Ljava/lang/Object;" (.ref a) (fun q : Nat => s.heap.size ≤ q) s s.heap := va_Zof (args := #[Value.ref b]) (hts _ (lw_ch_in 2 _ (List.mem_of_getElem? (i := 226) rfl))) (hts _ (lw_ch_in 1 _ (List.mem_of_getElem? (i := 25) rfl))) y3 hA
  obtain ⟨mi, hmi⟩ := va_Mi.of (hs _ mi_in)
  refine ⟨a, mi, z0, z1, z2, ⟨cell, h1, h3, (Value.int.inj y5).symm, hl, hA a hl⟩, fun w hw hn => va_tabs (zNw_tab hn) rfl (hts w hw), fun C hC => ?_, fun i j hi hj hij => va_Nc.of (hs _ (nc_in i hi j hj hij)), hmi⟩
  rcases hC with rfl | rfl | rfl
  · exact va_AO.of (hts _ (lw_ch_in 5 _ (List.mem_of_getElem? (i := 178) rfl)))
  · exact va_AO.of (hts _ (lw_ch_in 5 _ (List.mem_of_getElem? (i := 180) rfl)))
  · exact va_AO.of (hts _ (lw_ch_in 5 _ (List.mem_of_getElem? (i := 54) rfl)))
theorem law_know {s : State} {b : Addr} (hts : ∀ w ∈ lw_tbl, w.before #[Value.ref b] s = true) {e0 mi : Nat} {A : Nat → Prop} (hE : zEn e0 mi A s s.heap) : ∃ (D : va_G) (k : Nat → ClassId), va_K D vwCl (zTy k) s ∧ k 5 = mi := by
  obtain ⟨c0, i0, n0⟩ := u_known (C := RX0) (T := TX0) (N := 15) (n := 15) hts (fun w h => (List.mem_filter.mp (zu_X0 w h)).1) (hts _ (lw_ch_in 3 _ (List.mem_of_getElem? (i := 107) rfl)))
  obtain ⟨c1, i1, n1⟩ := u_known (C := RX1) (T := TX1) (N := 9) (n := 9) hts (fun w h => (List.mem_filter.mp (zu_X1 w h)).1) (hts _ (lw_ch_in 5 _ (List.mem_of_getElem? (i := 162) rfl)))
  obtain ⟨c2, i2, n2⟩ := u_known (C := RX2) (T := TX2) (N := 10) (n := 10) hts (fun w h => (List.mem_filter.mp (zu_X2 w h)).1) (hts _ (lw_ch_in 7 _ (List.mem_of_getElem? (i := 38) rfl)))
  obtain ⟨c3, i3, n3⟩ := u_known (C := RX3) (T := TX3) (N := 4) (n := 4) hts (fun w h => (List.mem_filter.mp (zu_X3 w h)).1) (hts _ (lw_ch_in 4 _ (List.mem_of_getElem? (i := 195) rfl)))
  obtain ⟨c4, i4, n4⟩ := u_known (C := RX4) (T := TX4) (N := 12) (n := 12) hts (fun w h => (List.mem_filter.mp (zu_X4 w h)).1) (hts _ (lw_ch_in 3 _ (List.mem_of_getElem? (i := 60) rfl)))
  obtain ⟨c5, i5, n5⟩ := u_known (C := RX5) (T := TX5) (N := 9) (n := 9) hts (fun w h => (List.mem_filter.mp (zu_X5 w h)).1) (hts _ (lw_ch_in 5 _ (List.mem_of_getElem? (i := 98) rfl)))
  obtain ⟨c6, i6, n6⟩ := u_known (C := RX6) (T := TX6) (N := 5) (n := 5) hts (fun w h => (List.mem_filter.mp (zu_X6 w h)).1) (hts _ (lw_ch_in 4 _ (List.mem_of_getElem? (i := 181) rfl)))
  obtain ⟨c7, i7, n7⟩ := u_known (C := RX7) (T := TX7) (N := 3) (n := 3) hts (fun w h => (List.mem_filter.mp (zu_X7 w h)).1) (hts _ (lw_ch_in 2 _ (List.mem_of_getElem? (i := 208) rfl)))
  obtain ⟨c8, i8, n8⟩ := u_known (C := RX8) (T := TX8) (N := 10) (n := 10) hts (fun w h => (List.mem_filter.mp (zu_X8 w h)).1) (hts _ (lw_ch_in 3 _ (List.mem_of_getElem? (i := 10) rfl)))
  obtain ⟨c9, i9, n9⟩ := u_known (C := RX9) (T := TX9) (N := 3) (n := 3) hts (fun w h => (List.mem_filter.mp (zu_X9 w h)).1) (hts _ (lw_ch_in 1 _ (List.mem_of_getElem? (i := 54) rfl)))
  obtain ⟨c10, i10, n10⟩ := u_known (C := RX10) (T := TX10) (N := 5) (n := 5) hts (fun w h => (List.mem_filter.mp (zu_X10 w h)).1) (hts _ (lw_ch_in 1 _ (List.mem_of_getElem? (i := 48) rfl)))
  obtain ⟨c11, i11, n11⟩ := u_known (C := RX11) (T := TX11) (N := 9) (n := 9) hts (fun w h => (List.mem_filter.mp (zu_X11 w h)).1) (hts _ (lw_ch_in 1 _ (List.mem_of_getElem? (i := 40) rfl)))
  obtain ⟨c12, i12, n12⟩ := u_known (C := RJx4a65c) (T := TJx4a65c) (N := 3) (n := 3) hts (fun w h => (List.mem_filter.mp (zu_Jx4a65c w h)).1) (hts _ (lw_ch_in 2 _ (List.mem_of_getElem? (i := 214) rfl)))
  obtain ⟨t0, a0, b0⟩ := o_AC (hts (.arrayClass .int) (lw_ch_in 1 _ (List.mem_of_getElem? (i := 70) rfl)))
  obtain ⟨t1, a1, b1⟩ := o_AC (hts (.arrayClass .long) (lw_ch_in 2 _ (List.mem_of_getElem? (i := 206) rfl)))
  obtain ⟨t2, a2, b2⟩ := o_AO (hE.2.2.2.2.2.1 _ (Or.inl rfl))
  obtain ⟨t3, a3, b3⟩ := o_AO (hE.2.2.2.2.2.1 _ (Or.inr (Or.inl rfl)))
  obtain ⟨t4, a4, b4⟩ := o_AO (hE.2.2.2.2.2.1 _ (Or.inr (Or.inr rfl)))
  refine ⟨(fun k => ([c0, c1, c2, c3, c4, c5, c6, c7, c8, c9, c10, c11, c12] : List ClassId).getD k 0, fun k => ([i0, i1, i2, i3, i4, i5, i6, i7, i8, i9, i10, i11, i12] : List (Nat → Nat)).getD k i0), fun k => ([t0, t1, t2, t3, t4, mi] : List ClassId).getD k 0, ⟨?_, ?_⟩, rfl⟩
  · intro k q hq
    match k, hq with
    | 0, hq => cases hq; exact n0
    | 1, hq => cases hq; exact n1
    | 2, hq => cases hq; exact n2
    | 3, hq => cases hq; exact n3
    | 4, hq => cases hq; exact n4
    | 5, hq => cases hq; exact n5
    | 6, hq => cases hq; exact n6
    | 7, hq => cases hq; exact n7
    | 8, hq => cases hq; exact n8
    | 9, hq => cases hq; exact n9
    | 10, hq => cases hq; exact n10
    | 11, hq => cases hq; exact n11
    | 12, hq => cases hq; exact n12
    | k + 13, hq => simp [vwCl] at hq
  · intro k q hq
    match k, hq with
    | 0, hq => cases hq; exact ⟨a0, b0⟩
    | 1, hq => cases hq; exact ⟨a1, b1⟩
    | 2, hq => cases hq; exact ⟨a2, b2⟩
    | 3, hq => cases hq; exact ⟨a3, b3⟩
    | 4, hq => cases hq; exact ⟨a4, b4⟩
    | k + 5, hq => simp [zTy] at hq
