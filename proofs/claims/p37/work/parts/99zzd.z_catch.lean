/-! Own rows: methods with a table of handlers: entry, calls that catch, calls of them. By hand. -/
def zHd (own : String) (tb : List ExceptionTableEntry) (pc i h : Nat) : Prop := ∃ (pre suf : List ExceptionTableEntry) (x : ExceptionTableEntry), tb = pre ++ x :: suf ∧ covers x pc = true ∧ x.catchType ≠ 0 ∧ x.handlerPc = h ∧ Cond.classLink own x.catchType (zXn i) ∈ zWS ∧ Cond.castable (zXn i) (zXn i) ∈ lw_tbl ∧ ∀ z ∈ pre, covers z pc = false ∨ (z.catchType ≠ 0 ∧ ∃ j, j < 6 ∧ i ≠ j ∧ Cond.classLink own z.catchType (zXn j) ∈ zWS)
theorem zws_codeW {M : zMd} (h : M.2.2.2.2 ≠ []) : zws M = Cond.codeWith M.1 M.2.1 M.2.2.1 M.2.2.2.1 M.2.2.2.2 :: zWS := by unfold zws; rw [if_neg h]
section ZCATCH
variable {G : zG} {M : zMd} {d : Nat} {av : List zV} {w0 : zW} {Q : zQ} {pc : Nat} {L : List (Option zV)} {st : List zV} {w : zW}
theorem z_caught {p : Program} {e : Env} {s : State} {m : MethodId} {below : List Frame} {meth : Method} {c : Code} {H : Heap} {ls : Array Slot} {locs : List Loc} {i h : Nat} {q : Addr} {ce : Cell} (hC : zC G M av w0 p s m meth c) (hY : zDy G M w0 L st w s H ls locs) (hd : zHd M.1.cls (tableOf M.2.2.2.2) pc i h) (hi : i < 6) (hce : H[q]? = some ce) (hcv : ce.vm = .none) (hcl : s.vm.findClass (zXn i) = some ce.cls) (k : zX G M d av w0 Q h L [zR q] w) :
    vx_W p G.1 e (zrm G d w0) s m (av.map zv).toArray below meth c H locs (w.2.1 - w0.2.1) (w.2.2 - w0.2.2) (vx_MQ below (zQr G w0 Q) (zQx G w0 Q) (av.map zv).toArray s (G.2.2.2.2.1 - w0.2.1) (G.2.2.2.2.2 - w0.2.2) (zA w0)) (F0 m pc ls (st.map zv)) q := by
  obtain ⟨pre, suf, x, h1, h2, h3, h4, h5, h6, h7⟩ := hd
  have hE := hC.2.2.2.2.2.2.2.2.2.2.2.2
  have hts := hC.2.2.2.2.1
  have ht : c.exceptionTable.toList = tableOf M.2.2.2.2 := hC.2.2.2.2.2.2.2.2.1
  refine vx_catch hC.2.2.2.2.2.1 pre x suf (by rw [ht]; exact h1) (fun z hz => ?_) h2 h3 (hts _ (List.mem_cons_of_mem _ h5)) (va_Nw.use rfl (hE.2.2.2.2.1 _ h6 rfl)) hce hcv hcl ?_
  · rcases h7 z hz with a | ⟨a, j, b1, b2, b3⟩
    · exact Or.inl a
    · exact Or.inr ⟨a, zXn j, hts _ (List.mem_cons_of_mem _ b3), hE.2.2.2.2.2.2.1 i j hi b1 b2⟩
  · rw [h4]
    obtain ⟨y1, y2, y3, y4, y5, y6, -⟩ := hY
    exact k p e s m below meth c H ls locs hC ⟨y1, y2, y3, y4, y5, y6, fun v hv => by rw [List.mem_singleton.mp hv]; trivial⟩
/-- a call whose throws are caught here -/
theorem zx_ivC {idx n d' b : Nat} {ob : zO} {q : vw_C} {M' : zMd} {As : List zV} {Q' : zQ} (hd : decode M.2.1 pc = .ok (.invokevirtual idx, 3)) (hc : zCV M.1.cls idx M' n) (hb : w.1 b = some ob) (hq : vwCl[zcls ob.1]? = some q) (hq1 : q.1 = M'.1.cls) (hn : As.length = n) (hst : st.length ≤ 4)
    (hM : zM G M' d' (zR b :: As) w Q') (kr : ∀ v w', Q' (.inl v) w' → zX G M (d' + 1) av w0 Q (pc + 3) L (v.toList ++ st) w') (kx : ∀ i w', i < 6 → Q' (.inr i) w' → ∃ h, zHd M.1.cls (tableOf M.2.2.2.2) pc i h ∧ ∀ q : Nat, zX G M (d' + 1) av w0 Q h L [zR q] w') : zX G M (d' + 1) av w0 Q pc L (As.reverse ++ zR b :: st) w := by
  intro p e s m below meth c H ls locs hC hY
  obtain ⟨hfa, hY1⟩ := zfits_args (p := p) hY
  obtain ⟨-, hY2⟩ := zY_pop hY1
  obtain ⟨⟨i1, i2, i3, i4, i5⟩, c1, c2, c3⟩ := hc
  have hts := hC.2.2.2.2.1
  have hMet := hM (fun v hv => (List.mem_cons.mp hv).elim (fun e => e ▸ trivial) (hfa v))
  have hws := zws_code i1
  have hGd : GoodIn (zws M) (wsV M.1.cls idx M'.1.cls M'.1 (zws M')) := zGood fun x hx => by
    unfold wsV at hx
    rw [hws] at hx
    simp only [List.cons_append, List.nil_append, List.mem_cons] at hx
    rcases hx with rfl | rfl | rfl | rfl | rfl | hx
    · exact c1
    · exact c2
    · exact c3
    · exact i2
    · exact i3
    · exact hx
  have hK := hC.2.2.2.2.2.2.2.2.2.2.2.1
  have hrun := vx_runV (e := e) (below := below) (meth := meth) (locs := locs) (As := As.map zv) (rest := st.map zv) (Ts := zws M) (own := M.1.cls) (g := F0 m pc ls ((As.reverse ++ zR b :: st).map zv)) ⟨hC.1, hC.2.1, hC.2.2.1, hC.2.2.2.2.2.1, hts⟩ hMet
    (cwV n hts hGd hws rfl rfl ⟨rfl, i4⟩ (zroom_call (w0 := w0) i5))
    ⟨zPre_blind, by rw [← hq1]; exact zat_recv (hY2.2.1.2.2.2.2 b ob hb).1 hK hq, fun U hU hW => ⟨rfl, zPre_of hC hY2 hU hW⟩⟩ rfl (by rw [List.length_map]; exact hn) hY2.2.2.2.2.2.1.1 (by simp [zv]) (lv_room (zsum hst)) hd (by
      obtain ⟨-, z2, -, z4, z5, -, -⟩ := hY2
      obtain ⟨-, -, z6, z7, -⟩ := z2
      exact ⟨by show w.2.1 - w0.2.1 + (G.2.2.2.2.1 - w.2.1) ≤ G.2.2.2.2.1 - w0.2.1; omega, by show w.2.2 - w0.2.2 + (G.2.2.2.2.2 - w.2.2) ≤ G.2.2.2.2.2 - w0.2.2; omega⟩)
  exact z_after hC hY2 hrun (fun v w' H' locs' hq' hY' => kr v w' hq' p e s m below meth c H' ls locs' hC hY') (fun i w' H' locs' q ce hi hq' hY' h1 h2 h3 => by
    obtain ⟨h, k1, k2⟩ := kx i w' hi hq'
    exact z_caught hC hY' k1 hi h1 h2 h3 (k2 q))
/-- the entry of a method with handlers -/
theorem zx_enterH (hy : plainName M.1.cls = true) (hh : M.2.2.2.2 ≠ []) (hlen : (lg_sl (av.map zv)).length ≤ M.2.2.1) (k : zX G M d av w Q 0 (zin0 av M.2.2.1) [] w) : zM G M d av w Q := by
  intro hfa
  refine vx_ofWH (cc := M.2.1) (maxL := M.2.2.1) (ret := M.2.2.2.1) (hh := M.2.2.2.2) hy (zws_codeW hh) ?_
  intro p e s m args below meth c s₁ B hml hv
  obtain ⟨rfl, hH, hK, hE⟩ := hv
  have hl := lv_entry (av.map zv) (n := M.2.2.1) hlen
  rw [lg_entry_eq]
  have hsz : s.heap.size = w.2.1 := hH.1
  have htt : zTot s.heap = w.2.2 := hH.2.1
  have hall := atoms_spec (ws := zws M) B.pre
  have kk := k p e s m below meth c s.heap _ [] ⟨B.exec, B.bytes, hml, B.returns, hall, findClass_of_methodNamed B.named, B.notSynchronized, (name_of_methodNamed B.named B.method).1, vx_table (x := M.1) B (hall _ (by rw [zws_codeW hh]; exact List.mem_cons_self)), hsz, htt, hK, hE⟩
    ⟨va_S.rf, hH, fun q hq => Or.inl hq, Nat.le_refl _, Nat.le_refl _, ⟨hl.1, hl.2.1, fun i v hi => ?_⟩, fun v hv => absurd hv List.not_mem_nil⟩
  · rw [Nat.sub_self, Nat.sub_self] at kk
    exact kk
  · obtain ⟨l, hl0⟩ : ∃ l, l = (av.flatMap fun v => match v with | .inr (.inr _) => [some v, none] | _ => [some v]) := ⟨_, rfl⟩
    have hi : (l ++ List.replicate (M.2.2.1 - l.length) none)[i]? = some (some v) := by rw [hl0]; exact hi
    by_cases c : i < l.length
    · rw [List.getElem?_append_left c, hl0] at hi
      obtain ⟨h1, h2⟩ := zin0_args av 0 i v hi
      rw [Nat.zero_add] at h1
      exact ⟨hl.2.2 (i, zv v) h1, hfa v h2⟩
    · rw [List.getElem?_append_right (by omega)] at hi
      simp only [List.getElem?_replicate] at hi
      split at hi <;> simp at hi
def zCH (own : String) (idx : Nat) (M' : zMd) (n : Nat) : Prop := (M'.2.2.2.2 ≠ [] ∧ Cond.initialized M'.1.cls ∈ zWS ∧ Cond.codeWith M'.1 M'.2.1 M'.2.2.1 M'.2.2.2.1 M'.2.2.2.2 ∈ zWS ∧ (M'.1.cls ≠ "java/lang/invoke/MethodHandle" ∧ M'.1.cls ≠ "java/lang/invoke/VarHandle" ∧ (parseMethodDescriptor M'.1.desc).map (fun d => d.parameters.length) = some n) ∧ M'.2.2.1 ≤ 20) ∧ Cond.methodLink own idx M'.1 ∈ zWS ∧ Cond.static M'.1 ∈ zWS
/-- a call of a static method with handlers -/
theorem zx_isH {idx n d' : Nat} {M' : zMd} {As : List zV} {Q' : zQ} (hd : decode M.2.1 pc = .ok (.invokestatic idx, 3)) (hc : zCH M.1.cls idx M' n) (hn : As.length = n) (hst : st.length ≤ 4) (hh : M.2.2.2.2 = [])
    (hM : zM G M' d' As w Q') (kr : ∀ v w', Q' (.inl v) w' → zX G M (d' + 1) av w0 Q (pc + 3) L (v.toList ++ st) w') (kx : ∀ i w', Q' (.inr i) w' → Q (.inr i) w') : zX G M (d' + 1) av w0 Q pc L (As.reverse ++ st) w := by
  intro p e s m below meth c H ls locs hC hY
  obtain ⟨hfa, hY2⟩ := zfits_args (p := p) hY
  obtain ⟨⟨i1, i2, i3, i4, i5⟩, c1, c2⟩ := hc
  have hts := hC.2.2.2.2.1
  have hMet := hM hfa
  have hws := zws_codeW i1
  have hGd : GoodIn (zws M) (va_wsS M.1.cls idx M'.1 (zws M')) := zGood fun x hx => by
    unfold va_wsS at hx
    rw [hws] at hx
    simp only [List.cons_append, List.nil_append, List.mem_cons] at hx
    rcases hx with rfl | rfl | rfl | rfl | hx
    · exact c1
    · exact c2
    · exact i2
    · exact i3
    · exact hx
  have hrun := vx_runSX (e := e) (below := below) (meth := meth) (locs := locs) (As := As.map zv) (rest := st.map zv) (Ts := zws M) (own := M.1.cls) (g := F0 m pc ls ((As.reverse ++ st).map zv)) ⟨hC.1, hC.2.1, hC.2.2.1, hC.2.2.2.2.2.1, hts⟩ hMet
    (vx_cwSW n hts hGd hws rfl rfl i4 (zroom_call (w0 := w0) i5))
    ⟨zPre_blind, fun U hU hW => ⟨rfl, zPre_of hC hY2 hU hW⟩⟩ rfl (by rw [List.length_map]; exact hn) hY2.2.2.2.2.2.1.1 (by simp) (lv_room (zsum hst)) hd (by
      obtain ⟨-, z2, -, z4, z5, -, -⟩ := hY2
      obtain ⟨-, -, z6, z7, -⟩ := z2
      exact ⟨by show w.2.1 - w0.2.1 + (G.2.2.2.2.1 - w.2.1) ≤ G.2.2.2.2.1 - w0.2.1; omega, by show w.2.2 - w0.2.2 + (G.2.2.2.2.2 - w.2.2) ≤ G.2.2.2.2.2 - w0.2.2; omega⟩)
  exact z_after hC hY2 hrun (fun v w' H' locs' hq' hY' => kr v w' hq' p e s m below meth c H' ls locs' hC hY') (fun i w' H' locs' q ce hi hq' hY' h1 h2 h3 => z_out hC hY' hh hi (kx i w' hq') h1 h2 h3)
end ZCATCH
