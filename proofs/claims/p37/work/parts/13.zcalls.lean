/-! Own rows: calls, throws, a method's entry, over worlds that are maps. -/
theorem zws_code {M : zMd} (h : M.2.2.2.2 = []) : zws M = Cond.code M.1 M.2.1 M.2.2.1 M.2.2.2.1 :: zWS := by unfold zws; rw [if_pos h]
theorem zGood {M : zMd} {ws : List Cond} (h : ∀ w ∈ ws, w ∈ zWS) : GoodIn (zws M) ws := fun w hw => ⟨List.mem_cons_of_mem _ (h w hw), good_of_word (List.mem_filter.mp (h w hw)).2⟩
/-- what the tables say of a method that is called by the entry idx of the class own: n arguments beside the receiver -/
def zCI (M' : zMd) (n : Nat) : Prop := M'.2.2.2.2 = [] ∧ Cond.initialized M'.1.cls ∈ zWS ∧ Cond.code M'.1 M'.2.1 M'.2.2.1 M'.2.2.2.1 ∈ zWS ∧ (M'.1.cls ≠ "java/lang/invoke/MethodHandle" ∧ M'.1.cls ≠ "java/lang/invoke/VarHandle" ∧ (parseMethodDescriptor M'.1.desc).map (fun d => d.parameters.length) = some n) ∧ M'.2.2.1 ≤ 20
def zCV (own : String) (idx : Nat) (M' : zMd) (n : Nat) : Prop := zCI M' n ∧ Cond.methodLink own idx M'.1 ∈ zWS ∧ Cond.instanceMethod M'.1 ∈ zWS ∧ Cond.selects M'.1.cls M'.1 M'.1 ∈ zWS
def zCS (own : String) (idx : Nat) (M' : zMd) (n : Nat) : Prop := zCI M' n ∧ Cond.methodLink own idx M'.1 ∈ zWS ∧ Cond.static M'.1 ∈ zWS
def zCC (own : String) (idx : Nat) (M' : zMd) (n : Nat) : Prop := zCI M' n ∧ Cond.methodLink own idx M'.1 ∈ zWS ∧ Cond.instanceMethod M'.1 ∈ zWS ∧ M'.1.name = "<init>" ∧ M'.2.2.2.1 = none
def zCN (own : String) (idx : Nat) (M' : zMd) (n : Nat) : Prop := zCI M' n ∧ (∃ host, Cond.methodLinkNest own idx M'.1 host ∈ lw_tbl) ∧ Cond.static M'.1 ∈ zWS
/-- the class of what lies behind a tag -/
def zcls (t : Nat) : Nat := if t < 100 then t else if 130 ≤ t ∧ t < 160 then 9 else if 160 ≤ t ∧ t < 190 then 12 else 1000
theorem vx_toMet {l : Launch} {y : MethodName} {ws : List Cond} {rm : Room} {Pc : Array Value → State → Prop} {Qc : Array Value → State → Outcome → State → Prop} {XC : String → State → State → Prop} {mc ms : Nat} {free : Addr → Prop} (h : vx_Met l y ws rm Pc Qc XC mc ms free) (hx : ∀ E st t, ¬ XC E st t) : Met l y ws rm Pc Qc mc ms free := by
  intro p e ha hc hk s m args below hf hap hP hK
  obtain ⟨n, o, h1, h2, h3, h4⟩ := h p e ha hc hk s m args below hf hap hP hK
  refine ⟨n, o, h1, h2, h3, ?_⟩
  rcases h4 with h4 | ⟨q, -, E, ce, L, h5, -⟩
  · exact h4
  · exact absurd h5 (hx _ _ _)
theorem zQx_no {G : zG} {w : zW} {Q : zQ} (h : ∀ i w', ¬ Q (.inr i) w') : ∀ E st t, ¬ zQx G w Q E st t := fun _ _ _ ⟨i, w', _, _, h3, _⟩ => h i w' h3
section ZCALL
variable {G : zG} {M : zMd} {d : Nat} {av : List zV} {w0 : zW} {Q : zQ} {pc : Nat} {L : List (Option zV)} {st : List zV} {w : zW}
theorem zat_recv {D : va_G} {k : Nat → ClassId} {e0 : Nat} {m : Nat → Option zO} {a : Nat} {ob : zO} {H : Heap} {s : State} {q : vw_C} (h : zat D k e0 m a ob H) (hK : va_K D vwCl (zTy k) s) (hq : vwCl[zcls ob.1]? = some q) : ∃ cell : Cell, H[a]? = some cell ∧ cell.vm.isStatics = false ∧ s.vm.findClass q.1 = some cell.cls := by
  have go : ∀ fs : List Value, va_at D vwCl (a, .inr (zcls ob.1, fs)) H → ∃ cell : Cell, H[a]? = some cell ∧ cell.vm.isStatics = false ∧ s.vm.findClass q.1 = some cell.cls := fun fs hh =>
    va_recv (ws := [(a, .inr (zcls ob.1, fs))]) hK (fun i x hx => by
      cases i with
      | zero => cases hx; exact hh
      | succ i => cases hx) hq (q0 := 0) rfl
  obtain ⟨-, h2⟩ := h
  unfold zcls at go hq
  by_cases c1 : ob.1 < 100
  · simp only [if_pos c1] at h2 go; exact go _ h2
  · simp only [if_neg c1] at h2 go hq
    by_cases c6 : 130 ≤ ob.1 ∧ ob.1 < 160
    · simp only [if_neg (show ¬ ob.1 < 120 by omega), if_neg (show ¬ ob.1 < 125 by omega), if_neg (show ¬ ob.1 = 125 by omega), if_neg (show ¬ ob.1 = 126 by omega), if_neg (show ¬ ob.1 = 127 by omega), if_pos c6.2] at h2
      simp only [if_pos c6] at go
      obtain ⟨cols, lines, cap, x, g, xs, q1, q2, q3, q4, q5, q6, q7, q8, q9, q10⟩ := h2
      exact go _ q8
    · simp only [if_neg c6] at go hq
      by_cases c7 : 160 ≤ ob.1 ∧ ob.1 < 190
      · simp only [if_neg (show ¬ ob.1 < 120 by omega), if_neg (show ¬ ob.1 < 125 by omega), if_neg (show ¬ ob.1 = 125 by omega), if_neg (show ¬ ob.1 = 126 by omega), if_neg (show ¬ ob.1 = 127 by omega), if_neg (show ¬ ob.1 < 160 by omega), if_pos c7.2] at h2
        simp only [if_pos c7] at go
        obtain ⟨cap, mc, x, ys, g, q1, q2, q3, q4, q5, q6⟩ := h2
        exact go _ q4
      · simp only [if_neg c7] at hq
        exact absurd hq (by simp)
theorem zPre_blind {G : zG} {w : zW} {a : List Value} : FrameBlind (va_Pc a (zPre G w)) := fun b U g mk q => by
  obtain ⟨q0, q1, q2, q3⟩ := q
  exact ⟨q0, q1, va_K.moved (u := U) (U := U.calling g mk b) (Vm.Alike.refl U.vm) q2, zEn.same (u := U) (U := U.calling g mk b) rfl q3⟩
theorem zPre_of {p : Program} {s U : State} {m : MethodId} {meth : Method} {c : Code} {H : Heap} {ls : Array Slot} {locs : List Loc} (hC : zC G M av w0 p s m meth c) (hY : zDy G M w0 L st w s H ls locs) (hU : U.heap = H) (hW : s.WarmedH U.vm) : zPre G w U := by
  have hK := hC.2.2.2.2.2.2.2.2.2.2.2.1
  have hE := hC.2.2.2.2.2.2.2.2.2.2.2.2
  have h0 := hC.2.2.2.2.2.2.2.2.2.1
  refine ⟨by rw [hU]; exact hY.2.1, va_K.moved hW.alike hK, zEn.call hE hY.1 (fun x hx => ?_) hW hU (fun x hx => Or.inr (by rw [← h0]; exact hx))⟩
  rcases hx with hx | hx
  · exact Or.inl (hY.2.2.1 x hx)
  · exact Or.inr (by rw [hY.2.1.1]; exact hx)
theorem z_after {p : Program} {e : Env} {s : State} {m : MethodId} {below : List Frame} {meth : Method} {c : Code} {H : Heap} {ls : Array Slot} {locs : List Loc} {st0 : List Value} {a : Array Value} {Q' : zQ} {Qw : State → Prop}
    (hC : zC G M av w0 p s m meth c) (hY : zDy G M w0 L st w s H ls locs)
    (hr : vx_Run p G.1 e (zrm G d w0) s m (av.map zv).toArray below meth c H locs (w.2.1 - w0.2.1) (w.2.2 - w0.2.2) (G.2.2.2.2.1 - w.2.1) (G.2.2.2.2.2 - w.2.2) (F0 m pc ls st0) (st.map zv) (zQr G w Q' a) (zQx G w Q') (zA w))
    (kk : ∀ (v : Option zV) (w' : zW) (H' : Heap) (locs' : List Loc), Q' (.inl v) w' → zDy G M w0 L (v.toList ++ st) w' s H' ls locs' → W p G.1 e (zrm G d w0) s m (av.map zv).toArray below meth c H' locs' (w'.2.1 - w0.2.1) (w'.2.2 - w0.2.2) Qw (F0 m (pc + 3) ls ((v.toList ++ st).map zv)))
    (kx : ∀ (i : Nat) (w' : zW) (H' : Heap) (locs' : List Loc) (q : Addr) (ce : Cell), i < 6 → Q' (.inr i) w' → zDy G M w0 L st w' s H' ls locs' → H'[q]? = some ce → ce.vm = .none → s.vm.findClass (zXn i) = some ce.cls → vx_W p G.1 e (zrm G d w0) s m (av.map zv).toArray below meth c H' locs' (w'.2.1 - w0.2.1) (w'.2.2 - w0.2.2) Qw (F0 m pc ls (st.map zv)) q) :
    W p G.1 e (zrm G d w0) s m (av.map zv).toArray below meth c H locs (w.2.1 - w0.2.1) (w.2.2 - w0.2.2) Qw (F0 m pc ls st0) := by
  have h0 := hC.2.2.2.2.2.2.2.2.2.1
  have h01 := hC.2.2.2.2.2.2.2.2.2.2.1
  obtain ⟨y1, y2, y3, y4, y5, y6, y7⟩ := hY
  have hAA : ∀ q, zA w q → zA w0 q := fun q hq => hq.elim (y3 q) (fun h => Or.inr (Nat.le_trans y4 h))
  have mk : ∀ (st₀ t : State) (w' : zW) (L' : List Loc), st₀.heap = H → zEnd G w w' st₀ t → (∀ z ∈ L', zA w z.base) → va_S (zA w0) s.heap t.heap (locs ++ L') ∧ zHp G w' t.heap ∧ (∀ q, w'.1 q ≠ none → zA w0 q) ∧ w0.2.1 ≤ w'.2.1 ∧ w0.2.2 ≤ w'.2.2 := by
    intro st₀ t w' L' e0 ⟨z1, z2, z3, z4, z5, z6⟩ hL
    rw [va_F, e0] at z6
    refine ⟨⟨Nat.le_trans y1.1 z6.1, fun q h1 h2 => ?_, fun z hz => ?_⟩, z1, fun q hq => hAA q (z3 q hq), Nat.le_trans y4 z4, Nat.le_trans y5 z5⟩
    · rw [z6.2 q (Nat.lt_of_lt_of_le h1 y1.1) (fun h => h2 (hAA q h))]; exact y1.2.1 q h1 h2
    · rcases List.mem_append.mp hz with h | h
      · exact y1.2.2 z h
      · exact hAA _ (hL z h)
  intro T hT X
  rcases hr T hT X with ⟨v, st₀, t, T', L', e0, X', hL, e1, e2, ⟨v', w', hv, hq, hfit, hend⟩, go⟩ | ⟨q, st₀, t, T', L', E, ce, e0, X', hL, e1, e2, ⟨i, w', hi, hE, hq, hend⟩, hce, hcv, hcl, go⟩
  · obtain ⟨m1, m2, m3, m4, m5⟩ := mk st₀ t w' L' e0 hend hL
    cases hv
    have hY' : zDy G M w0 L (v'.toList ++ st) w' s t.heap ls (locs ++ L') := by
      refine ⟨m1, m2, m3, m4, m5, y6, fun x hx => ?_⟩
      rcases List.mem_append.mp hx with h | h
      · exact hfit x (by simpa using h)
      · exact y7 x h
    have hk := kk v' w' t.heap (locs ++ L') hq hY'
    obtain ⟨t2, a1, b1⟩ := hk T' e1 (z_stand X' (by rw [e1, m2.1, h0]; omega) (by rw [e1, m2.2.1, h01]; omega))
    refine ⟨t2, go t2 ?_, b1⟩
    rw [List.map_append] at a1
    have e9 : (v'.map zv).toList ++ st.map zv = v'.toList.map zv ++ st.map zv := by cases v' <;> rfl
    rw [e9]
    exact a1
  · obtain ⟨m1, m2, m3, m4, m5⟩ := mk st₀ t w' L' e0 hend hL
    subst hE
    obtain ⟨t2, a1, b1⟩ := kx i w' t.heap (locs ++ L') q ce hi hq ⟨m1, m2, m3, m4, m5, y6, y7⟩ hce hcv hcl T' e1 (z_stand X' (by rw [e1, m2.1, h0]; omega) (by rw [e1, m2.2.1, h01]; omega))
    exact ⟨t2, go.trans a1, b1⟩
/-- not caught: it goes on to the caller -/
theorem z_out {p : Program} {e : Env} {s : State} {m : MethodId} {below : List Frame} {meth : Method} {c : Code} {H : Heap} {ls : Array Slot} {locs : List Loc} {i : Nat} {q : Addr} {ce : Cell} (hC : zC G M av w0 p s m meth c) (hY : zDy G M w0 L st w s H ls locs) (hh : M.2.2.2.2 = []) (hi : i < 6) (hQ : Q (.inr i) w) (hce : H[q]? = some ce) (hcv : ce.vm = .none) (hcl : s.vm.findClass (zXn i) = some ce.cls) :
    vx_W p G.1 e (zrm G d w0) s m (av.map zv).toArray below meth c H locs (w.2.1 - w0.2.1) (w.2.2 - w0.2.2) (vx_MQ below (zQr G w0 Q) (zQx G w0 Q) (av.map zv).toArray s (G.2.2.2.2.1 - w0.2.1) (G.2.2.2.2.2 - w0.2.2) (zA w0)) (F0 m pc ls (st.map zv)) q := by
  have ht : c.exceptionTable.toList = tableOf M.2.2.2.2 := hC.2.2.2.2.2.2.2.2.1
  refine vx_out (fun x hx => ?_) hC.2.2.2.2.2.2.1 hce hcv hcl (fun t ht hal => ⟨i, w, hi, rfl, hQ, zY_end hC hY ht hal⟩) hY.1.2.2 (zY_room hY).1 (zY_room hY).2
  rw [ht, hh] at hx
  cases hx
theorem zsum {st : List zV} (h : st.length ≤ 4) : ((st.map zv).map fun v => v.category).sum ≤ 8 := by
  have go : ∀ st : List zV, ((st.map zv).map fun v => v.category).sum ≤ 2 * st.length := by
    intro st
    induction st with
    | nil => simp
    | cons v st ih =>
      have hv : (zv v).category ≤ 2 := by
        rcases v with a | (_ | q) | a <;> simp [zv, Value.category]
      simp only [List.map_cons, List.sum_cons, List.length_cons]
      omega
  have := go st
  omega
theorem zroom_call {G : zG} {d' : Nat} {M' : zMd} {w w0 : zW} (hm : M'.2.2.1 ≤ 20) : (zrm G d' w).frames + 1 ≤ (zrm G (d' + 1) w0).frames ∧ 8 + (M'.2.2.1 + 11) + (zrm G d' w).locals ≤ (zrm G (d' + 1) w0).locals := ⟨by show 10 + d' + 1 ≤ 10 + (d' + 1); omega, by show 8 + (M'.2.2.1 + 11) + (110 + 40 * d') ≤ 110 + 40 * (d' + 1); omega⟩
theorem zfits_args {As : List zV} {p : Program} {s : State} {H : Heap} {ls : Array Slot} {locs : List Loc} (hY : zDy G M w0 L (As.reverse ++ st) w s H ls locs) : (∀ v ∈ As, zfit v) ∧ zDy G M w0 L st w s H ls locs := by
  obtain ⟨h1, h2, h3, h4, h5, h6, h7⟩ := hY
  exact ⟨fun v hv => h7 v (List.mem_append_left _ (List.mem_reverse.mpr hv)), h1, h2, h3, h4, h5, h6, fun v hv => h7 v (List.mem_append_right _ hv)⟩
theorem zx_invokevirtual {idx n d' b : Nat} {ob : zO} {q : vw_C} {M' : zMd} {As : List zV} {Q' : zQ} (hd : decode M.2.1 pc = .ok (.invokevirtual idx, 3)) (hc : zCV M.1.cls idx M' n) (hb : w.1 b = some ob) (hq : vwCl[zcls ob.1]? = some q) (hq1 : q.1 = M'.1.cls) (hn : As.length = n) (hst : st.length ≤ 4) (hh : M.2.2.2.2 = [])
    (hM : zM G M' d' (zR b :: As) w Q') (kr : ∀ v w', Q' (.inl v) w' → zX G M (d' + 1) av w0 Q (pc + 3) L (v.toList ++ st) w') (kx : ∀ i w', Q' (.inr i) w' → Q (.inr i) w') : zX G M (d' + 1) av w0 Q pc L (As.reverse ++ zR b :: st) w := by
  intro p e s m below meth c H ls locs hC hY
  obtain ⟨hfa, hY1⟩ := zfits_args (p := p) hY
  obtain ⟨-, hY2⟩ := zY_pop hY1
  obtain ⟨⟨i1, i2, i3, i4, i5⟩, c1, c2, c3⟩ := hc
  have hts := hC.2.2.2.2.1
  have hMet := hM (fun v hv => (List.mem_cons.mp hv).elim (fun e => e ▸ trivial) (hfa v))
  have hws := zws_code i1
  have hGd : GoodIn (zws M) (wsV M.1.cls idx M'.1.cls M'.1 (zws M')) := zGood fun x hx => by
    unfold wsV at hx
    rw [hws] at hx
    simp only [List.cons_append, List.nil_append, List.mem_cons] at hx
    rcases hx with rfl | rfl | rfl | rfl | rfl | hx
    · exact c1
    · exact c2
    · exact c3
    · exact i2
    · exact i3
    · exact hx
  have hK := hC.2.2.2.2.2.2.2.2.2.2.2.1
  have hrun := vx_runV (e := e) (below := below) (meth := meth) (locs := locs) (As := As.map zv) (rest := st.map zv) (Ts := zws M) (own := M.1.cls) (g := F0 m pc ls ((As.reverse ++ zR b :: st).map zv)) ⟨hC.1, hC.2.1, hC.2.2.1, hC.2.2.2.2.2.1, hts⟩ hMet
    (cwV n hts hGd hws rfl rfl ⟨rfl, i4⟩ (zroom_call (w0 := w0) i5))
    ⟨zPre_blind, by rw [← hq1]; exact zat_recv (hY2.2.1.2.2.2.2 b ob hb).1 hK hq, fun U hU hW => ⟨rfl, zPre_of hC hY2 hU hW⟩⟩ rfl (by rw [List.length_map]; exact hn) hY2.2.2.2.2.2.1.1 (by simp [zv]) (lv_room (zsum hst)) hd (by
      obtain ⟨-, z2, -, z4, z5, -, -⟩ := hY2
      obtain ⟨-, -, z6, z7, -⟩ := z2
      exact ⟨by show w.2.1 - w0.2.1 + (G.2.2.2.2.1 - w.2.1) ≤ G.2.2.2.2.1 - w0.2.1; omega, by show w.2.2 - w0.2.2 + (G.2.2.2.2.2 - w.2.2) ≤ G.2.2.2.2.2 - w0.2.2; omega⟩)
  exact z_after hC hY2 hrun (fun v w' H' locs' hq' hY' => kr v w' hq' p e s m below meth c H' ls locs' hC hY') (fun i w' H' locs' q ce hi hq' hY' h1 h2 h3 => z_out hC hY' hh hi (kx i w' hq') h1 h2 h3)
theorem zx_invokestatic {idx n d' : Nat} {M' : zMd} {As : List zV} {Q' : zQ} (hd : decode M.2.1 pc = .ok (.invokestatic idx, 3)) (hc : zCS M.1.cls idx M' n) (hn : As.length = n) (hst : st.length ≤ 4) (hh : M.2.2.2.2 = [])
    (hM : zM G M' d' As w Q') (kr : ∀ v w', Q' (.inl v) w' → zX G M (d' + 1) av w0 Q (pc + 3) L (v.toList ++ st) w') (kx : ∀ i w', Q' (.inr i) w' → Q (.inr i) w') : zX G M (d' + 1) av w0 Q pc L (As.reverse ++ st) w := by
  intro p e s m below meth c H ls locs hC hY
  obtain ⟨hfa, hY2⟩ := zfits_args (p := p) hY
  obtain ⟨⟨i1, i2, i3, i4, i5⟩, c1, c2⟩ := hc
  have hts := hC.2.2.2.2.1
  have hMet := hM hfa
  have hws := zws_code i1
  have hGd : GoodIn (zws M) (zws M') := zGood fun x hx => by
    rw [hws] at hx
    rcases List.mem_cons.mp hx with rfl | hx
    · exact i3
    · exact hx
  have hrun := vx_runS (e := e) (below := below) (meth := meth) (locs := locs) (As := As.map zv) (rest := st.map zv) (Ts := zws M) (own := M.1.cls) (g := F0 m pc ls ((As.reverse ++ st).map zv)) ⟨hC.1, hC.2.1, hC.2.2.1, hC.2.2.2.2.2.1, hts⟩ hMet
    ⟨callB_of n hts hGd hws rfl rfl (hts _ (List.mem_cons_of_mem _ i2)) (hts _ (List.mem_cons_of_mem _ c1)) i4 (zroom_call (w0 := w0) i5), hts _ (List.mem_cons_of_mem _ c2)⟩
    ⟨zPre_blind, fun U hU hW => ⟨rfl, zPre_of hC hY2 hU hW⟩⟩ rfl (by rw [List.length_map]; exact hn) hY2.2.2.2.2.2.1.1 (by simp) (lv_room (zsum hst)) hd (by
      obtain ⟨-, z2, -, z4, z5, -, -⟩ := hY2
      obtain ⟨-, -, z6, z7, -⟩ := z2
      exact ⟨by show w.2.1 - w0.2.1 + (G.2.2.2.2.1 - w.2.1) ≤ G.2.2.2.2.1 - w0.2.1; omega, by show w.2.2 - w0.2.2 + (G.2.2.2.2.2 - w.2.2) ≤ G.2.2.2.2.2 - w0.2.2; omega⟩)
  exact z_after hC hY2 hrun (fun v w' H' locs' hq' hY' => kr v w' hq' p e s m below meth c H' ls locs' hC hY') (fun i w' H' locs' q ce hi hq' hY' h1 h2 h3 => z_out hC hY' hh hi (kx i w' hq') h1 h2 h3)
/-- a private static method of the nest's host -/
theorem zx_invokestaticN {idx n d' : Nat} {M' : zMd} {As : List zV} {Q' : zQ} (hd : decode M.2.1 pc = .ok (.invokestatic idx, 3)) (hc : zCN M.1.cls idx M' n) (hn : As.length = n) (hst : st.length ≤ 4) (hh : M.2.2.2.2 = [])
    (hM : zM G M' d' As w Q') (kr : ∀ v w', Q' (.inl v) w' → zX G M (d' + 1) av w0 Q (pc + 3) L (v.toList ++ st) w') (kx : ∀ i w', ¬ Q' (.inr i) w') : zX G M (d' + 1) av w0 Q pc L (As.reverse ++ st) w := by
  intro p e s m below meth c H ls locs hC hY
  obtain ⟨hfa, hY2⟩ := zfits_args (p := p) hY
  obtain ⟨⟨i1, i2, i3, i4, i5⟩, ⟨host, c1⟩, c2⟩ := hc
  have hts := hC.2.2.2.2.1
  have hMet := vx_toMet (hM hfa) (zQx_no kx)
  have hws := zws_code i1
  have hE := hC.2.2.2.2.2.2.2.2.2.2.2.2
  have hGd : GoodIn (zws M) (zws M') := zGood fun x hx => by
    rw [hws] at hx
    rcases List.mem_cons.mp hx with rfl | hx
    · exact i3
    · exact hx
  have hrun := va_runSN (e := e) (below := below) (meth := meth) (locs := locs) (host := host) (As := As.map zv) (rest := st.map zv) (Ts := zws M) (own := M.1.cls) (g := F0 m pc ls ((As.reverse ++ st).map zv)) ⟨hC.1, hC.2.1, hC.2.2.1, hC.2.2.2.2.2.1, hts⟩ hMet
    ⟨va_cnB n hts hGd hws rfl rfl (hE.2.2.2.2.1 _ c1 rfl) (hts _ (List.mem_cons_of_mem _ i2)) i4 (zroom_call (w0 := w0) i5), hts _ (List.mem_cons_of_mem _ c2), trivial⟩
    ⟨zPre_blind, fun U hU hW => ⟨rfl, zPre_of hC hY2 hU hW⟩⟩ rfl (by rw [List.length_map]; exact hn) hY2.2.2.2.2.2.1.1 (by simp) (lv_room (zsum hst)) hd (by
      obtain ⟨-, z2, -, z4, z5, -, -⟩ := hY2
      obtain ⟨-, -, z6, z7, -⟩ := z2
      exact ⟨by show w.2.1 - w0.2.1 + (G.2.2.2.2.1 - w.2.1) ≤ G.2.2.2.2.1 - w0.2.1; omega, by show w.2.2 - w0.2.2 + (G.2.2.2.2.2 - w.2.2) ≤ G.2.2.2.2.2 - w0.2.2; omega⟩)
  exact z_after hC hY2 (fun T hT X => Or.inl (hrun T hT X)) (fun v w' H' locs' hq' hY' => kr v w' hq' p e s m below meth c H' ls locs' hC hY') (fun i w' H' locs' q ce hi hq' hY' h1 h2 h3 => absurd hq' (kx i w'))
/-- a constructor -/
theorem zx_invokespecial {idx n d' b : Nat} {M' : zMd} {As : List zV} {Q' : zQ} (hd : decode M.2.1 pc = .ok (.invokespecial idx, 3)) (hc : zCC M.1.cls idx M' n) (hn : As.length = n) (hst : st.length ≤ 4) (hh : M.2.2.2.2 = [])
    (hM : zM G M' d' (zR b :: As) w Q') (kr : ∀ v w', Q' (.inl v) w' → zX G M (d' + 1) av w0 Q (pc + 3) L (v.toList ++ st) w') (kx : ∀ i w', ¬ Q' (.inr i) w') : zX G M (d' + 1) av w0 Q pc L (As.reverse ++ zR b :: st) w := by
  intro p e s m below meth c H ls locs hC hY
  obtain ⟨hfa, hY1⟩ := zfits_args (p := p) hY
  obtain ⟨-, hY2⟩ := zY_pop hY1
  obtain ⟨⟨i1, i2, i3, i4, i5⟩, c1, c2, c3, c4⟩ := hc
  have hts := hC.2.2.2.2.1
  have hMet := vx_toMet (hM (fun v hv => (List.mem_cons.mp hv).elim (fun e => e ▸ trivial) (hfa v))) (zQx_no kx)
  have hws := zws_code i1
  have hGd : GoodIn (zws M) (zws M') := zGood fun x hx => by
    rw [hws] at hx
    rcases List.mem_cons.mp hx with rfl | hx
    · exact i3
    · exact hx
  rw [c4] at hws
  have hrun := va_runI (e := e) (below := below) (meth := meth) (locs := locs) (b := b) (As := As.map zv) (rest := st.map zv) (Ts := zws M) (own := M.1.cls) (g := F0 m pc ls ((As.reverse ++ zR b :: st).map zv)) ⟨hC.1, hC.2.1, hC.2.2.1, hC.2.2.2.2.2.1, hts⟩ hMet
    (cwI n hts hGd hws rfl rfl (hts _ (List.mem_cons_of_mem _ i2)) (hts _ (List.mem_cons_of_mem _ c1)) (hts _ (List.mem_cons_of_mem _ c2)) c3 i4 (zroom_call (w0 := w0) i5))
    ⟨zPre_blind, fun U hU hW => ⟨rfl, zPre_of hC hY2 hU hW⟩⟩ rfl (by rw [List.length_map]; exact hn) hY2.2.2.2.2.2.1.1 (by simp [zv]) (lv_room (zsum hst)) hd (by
      obtain ⟨-, z2, -, z4, z5, -, -⟩ := hY2
      obtain ⟨-, -, z6, z7, -⟩ := z2
      exact ⟨by show w.2.1 - w0.2.1 + (G.2.2.2.2.1 - w.2.1) ≤ G.2.2.2.2.1 - w0.2.1; omega, by show w.2.2 - w0.2.2 + (G.2.2.2.2.2 - w.2.2) ≤ G.2.2.2.2.2 - w0.2.2; omega⟩)
  exact z_after hC hY2 (fun T hT X => Or.inl (hrun T hT X)) (fun v w' H' locs' hq' hY' => kr v w' hq' p e s m below meth c H' ls locs' hC hY') (fun i w' H' locs' q ce hi hq' hY' h1 h2 h3 => absurd hq' (kx i w'))
/-- Object's constructor: nothing -/
theorem zx_objInit {idx : Nat} {a : Nat} (hd : decode M.2.1 pc = .ok (.invokespecial idx, 3)) (hl : Cond.methodLink M.1.cls idx Lib.objectInit ∈ zWS) (hi : Cond.instanceMethod Lib.objectInit ∈ zWS) (hcd : Cond.code Lib.objectInit ⟨#[0xb1]⟩ 1 none ∈ zWS) (hst : st.length ≤ 4) (k : zX G M d av w0 Q (pc + 3) L st w) : zX G M d av w0 Q pc L (zR a :: st) w := by
  intro p e s m below meth c H ls locs hC hY
  obtain ⟨-, hY1⟩ := zY_pop hY
  have hts := hC.2.2.2.2.1
  have hs := zsum hst
  exact W.objInit hC.1 hC.2.1 hC.2.2.2.2.2.1 (hts _ (List.mem_cons_of_mem _ hl)) (hts _ (List.mem_cons_of_mem _ hi)) (hts _ (List.mem_cons_of_mem _ hcd)) rfl (hY1.2.2.2.2.2.1.1.trans hC.2.2.1.symm) rfl hd (show 1 ≤ 10 + d by omega) (by
    show 2 * 0 + ((st.map zv).map fun v => v.category).sum + 12 ≤ 110 + 40 * d
    omega) (k p e s m below meth c H ls locs hC hY1)
theorem zx_max {idx : Nat} {a b v : Int} (hd : decode M.2.1 pc = .ok (.invokestatic idx, 3)) (hl : Cond.methodLink M.1.cls idx Lib.Math.max.name ∈ zWS) (hs0 : Cond.static Lib.Math.max.name ∈ zWS) (hi : Cond.initialized "java/lang/Math" ∈ zWS) (hcd : Cond.code Lib.Math.max.name Lib.Math.max.code 2 (some .int) ∈ zWS) (hst : st.length ≤ 4) (hv : v = max a b) (k : zX G M d av w0 Q (pc + 3) L (zI v :: st) w) : zX G M d av w0 Q pc L (zI b :: zI a :: st) w := by
  intro p e s m below meth c H ls locs hC hY
  obtain ⟨hfb, hY1⟩ := zY_pop hY
  obtain ⟨hfa, hY2⟩ := zY_pop hY1
  have hfb : z32 b := hfb
  have hfa : z32 a := hfa
  have hts := hC.2.2.2.2.1
  have hs := zsum hst
  have hf : zfit (zI v) := by
    show z32 v
    rw [hv, Int.max_def]
    split
    · exact hfb
    · exact hfa
  have e1 : (if Int32.ofInt a < Int32.ofInt b then Int32.ofInt b else Int32.ofInt a) = Int32.ofInt v := by
    rw [hv, Int.max_def]
    by_cases c : a < b
    · rw [if_pos ((zi_lt hfa hfb).mpr c), if_pos (by omega)]
    · rw [if_neg (fun h => c ((zi_lt hfa hfb).mp h))]
      by_cases c2 : a ≤ b
      · rw [if_pos c2, show a = b by omega]
      · rw [if_neg c2]
  refine va_mmax hC.1 hC.2.1 (hC.2.2.1.trans hY1.2.2.2.2.2.1.1.symm) hC.2.2.2.2.2.1 (hts _ (List.mem_cons_of_mem _ hl)) (hts _ (List.mem_cons_of_mem _ hs0)) (hts _ (List.mem_cons_of_mem _ hi)) (hts _ (List.mem_cons_of_mem _ hcd)) (show 1 ≤ 10 + d by omega) (show ((st.map zv).map fun v => v.category).sum + 13 ≤ 110 + 40 * d by omega) (zY_room hY).1 (zY_room hY).2 hd ?_
  rw [e1]
  exact k p e s m below meth c H ls locs hC (zY_push hf hY2)
theorem zx_min {idx : Nat} {a b v : Int} (hd : decode M.2.1 pc = .ok (.invokestatic idx, 3)) (hl : Cond.methodLink M.1.cls idx Lib.Math.min.name ∈ zWS) (hs0 : Cond.static Lib.Math.min.name ∈ zWS) (hi : Cond.initialized "java/lang/Math" ∈ zWS) (hcd : Cond.code Lib.Math.min.name Lib.Math.min.code 2 (some .int) ∈ zWS) (hst : st.length ≤ 4) (hv : v = min a b) (k : zX G M d av w0 Q (pc + 3) L (zI v :: st) w) : zX G M d av w0 Q pc L (zI b :: zI a :: st) w := by
  intro p e s m below meth c H ls locs hC hY
  obtain ⟨hfb, hY1⟩ := zY_pop hY
  obtain ⟨hfa, hY2⟩ := zY_pop hY1
  have hfb : z32 b := hfb
  have hfa : z32 a := hfa
  have hts := hC.2.2.2.2.1
  have hs := zsum hst
  have hf : zfit (zI v) := by
    show z32 v
    rw [hv, Int.min_def]
    split
    · exact hfa
    · exact hfb
  have e1 : (if Int32.ofInt b < Int32.ofInt a then Int32.ofInt b else Int32.ofInt a) = Int32.ofInt v := by
    rw [hv, Int.min_def]
    by_cases c : b < a
    · rw [if_pos ((zi_lt hfb hfa).mpr c), if_neg (by omega)]
    · rw [if_neg (fun h => c ((zi_lt hfb hfa).mp h)), if_pos (by omega)]
  refine va_mmin hC.1 hC.2.1 (hC.2.2.1.trans hY1.2.2.2.2.2.1.1.symm) hC.2.2.2.2.2.1 (hts _ (List.mem_cons_of_mem _ hl)) (hts _ (List.mem_cons_of_mem _ hs0)) (hts _ (List.mem_cons_of_mem _ hi)) (hts _ (List.mem_cons_of_mem _ hcd)) (show 1 ≤ 10 + d by omega) (show ((st.map zv).map fun v => v.category).sum + 13 ≤ 110 + 40 * d by omega) (zY_room hY).1 (zY_room hY).2 hd ?_
  rw [e1]
  exact k p e s m below meth c H ls locs hC (zY_push hf hY2)
/-- a cast of what is of the class: nothing -/
theorem zx_checkcast {idx a : Nat} {ob : zO} {q : vw_C} (hd : decode M.2.1 pc = .ok (.checkcast idx, 3)) (hb : w.1 a = some ob) (hq : vwCl[zcls ob.1]? = some q) (hl : Cond.classLink M.1.cls idx q.1 ∈ zWS) (hcs : Cond.castable q.1 q.1 ∈ lw_tbl) (k : zX G M d av w0 Q (pc + 3) L (zR a :: st) w) : zX G M d av w0 Q pc L (zR a :: st) w := by
  intro p e s m below meth c H ls locs hC hY
  obtain ⟨-, hY1⟩ := zY_pop hY
  exact va_castY hC.1 hC.2.1 hC.2.2.2.2.2.1 (hC.2.2.2.2.1 _ (List.mem_cons_of_mem _ hl)) (hC.2.2.2.2.2.2.2.2.2.2.2.2.2.2.2.2.1 _ hcs rfl) (zat_recv (hY1.2.1.2.2.2.2 a ob hb).1 hC.2.2.2.2.2.2.2.2.2.2.2.1 hq) hd (k p e s m below meth c H ls locs hC hY)
/-- a method's entry -/
def zin0 (av : List zV) (n : Nat) : List (Option zV) :=
  let l := av.flatMap fun v => match v with | .inr (.inr _) => [some v, none] | _ => [some v]
  l ++ List.replicate (n - l.length) none
theorem zin0_args : ∀ (av : List zV) (i : Nat) (j : Nat) (v : zV), (av.flatMap fun v => match v with | .inr (.inr _) => [some v, none] | _ => [some v])[j]? = some (some v) → (i + j, zv v) ∈ lv_args i (av.map zv) ∧ v ∈ av
  | [], _, _, _, h => by simp at h
  | x :: av, i, j, v, h => by
    rcases x with a | (_ | q) | a
    · cases j with
      | zero => simp at h; subst h; exact ⟨by simp [lv_args, zv], List.mem_cons_self⟩
      | succ j =>
        obtain ⟨h1, h2⟩ := zin0_args av (i + 1) j v (by simpa using h)
        exact ⟨by rw [show i + (j + 1) = i + 1 + j by omega]; show (i + 1 + j, zv v) ∈ (i, _) :: lv_args (i + 1) (av.map zv); exact List.mem_cons_of_mem _ h1, List.mem_cons_of_mem _ h2⟩
    · cases j with
      | zero => simp at h; subst h; exact ⟨by simp [lv_args, zv], List.mem_cons_self⟩
      | succ j =>
        obtain ⟨h1, h2⟩ := zin0_args av (i + 1) j v (by simpa using h)
        exact ⟨by rw [show i + (j + 1) = i + 1 + j by omega]; show (i + 1 + j, zv v) ∈ (i, _) :: lv_args (i + 1) (av.map zv); exact List.mem_cons_of_mem _ h1, List.mem_cons_of_mem _ h2⟩
    · cases j with
      | zero => simp at h; subst h; exact ⟨by simp [lv_args, zv], List.mem_cons_self⟩
      | succ j =>
        obtain ⟨h1, h2⟩ := zin0_args av (i + 1) j v (by simpa using h)
        exact ⟨by rw [show i + (j + 1) = i + 1 + j by omega]; show (i + 1 + j, zv v) ∈ (i, _) :: lv_args (i + 1) (av.map zv); exact List.mem_cons_of_mem _ h1, List.mem_cons_of_mem _ h2⟩
    · match j, h with
      | 0, h => simp at h; subst h; exact ⟨by simp [lv_args, zv], List.mem_cons_self⟩
      | 1, h => simp at h
      | j + 2, h =>
        obtain ⟨h1, h2⟩ := zin0_args av (i + 2) j v (by simpa using h)
        exact ⟨by rw [show i + (j + 2) = i + 2 + j by omega]; show (i + 2 + j, zv v) ∈ (i, _) :: lv_args (i + 2) (av.map zv); exact List.mem_cons_of_mem _ h1, List.mem_cons_of_mem _ h2⟩
theorem zx_enter (hy : plainName M.1.cls = true) (hh : M.2.2.2.2 = []) (hlen : (lg_sl (av.map zv)).length ≤ M.2.2.1) (k : zX G M d av w Q 0 (zin0 av M.2.2.1) [] w) : zM G M d av w Q := by
  intro hfa
  refine vx_ofW (cc := M.2.1) (maxL := M.2.2.1) (ret := M.2.2.2.1) hy (zws_code hh) ?_
  intro p e s m args below meth c s₁ B hml hno hv
  obtain ⟨rfl, hH, hK, hE⟩ := hv
  have hl := lv_entry (av.map zv) (n := M.2.2.1) hlen
  rw [lg_entry_eq]
  have hsz : s.heap.size = w.2.1 := hH.1
  have htt : zTot s.heap = w.2.2 := hH.2.1
  have kk := k p e s m below meth c s.heap _ [] ⟨B.exec, B.bytes, hml, B.returns, atoms_spec (ws := zws M) B.pre, findClass_of_methodNamed B.named, B.notSynchronized, (name_of_methodNamed B.named B.method).1, by
      rw [hh]
      exact List.eq_nil_iff_forall_not_mem.mpr fun x hx => hno x hx, hsz, htt, hK, hE⟩
    ⟨va_S.rf, hH, fun q hq => Or.inl hq, Nat.le_refl _, Nat.le_refl _, ⟨hl.1, hl.2.1, fun i v hi => ?_⟩, fun v hv => absurd hv List.not_mem_nil⟩
  · rw [Nat.sub_self, Nat.sub_self] at kk
    exact kk
  · unfold zin0 at hi
    by_cases c : i < (av.flatMap fun v => match v with | .inr (.inr _) => [some v, none] | _ => [some v]).length
    · rw [List.getElem?_append_left c] at hi
      obtain ⟨h1, h2⟩ := zin0_args av 0 i v hi
      rw [Nat.zero_add] at h1
      exact ⟨hl.2.2 (i, zv v) h1, hfa v h2⟩
    · rw [List.getElem?_append_right (by omega)] at hi
      simp only [List.getElem?_replicate] at hi
      split at hi <;> simp at hi
/-- 'throw new E()' -/
theorem zx_throw {i ik ic : Nat} (hi : i < 6) (hd0 : decode M.2.1 pc = .ok (.new ik, 3)) (hd3 : decode M.2.1 (pc + 3) = .ok (.dup, 1)) (hd4 : decode M.2.1 (pc + 4) = .ok (.invokespecial ic, 3)) (hd7 : decode M.2.1 (pc + 7) = .ok (.athrow, 1)) (hh : M.2.2.2.2 = [])
    (hk : Cond.classLink M.1.cls ik (zXn i) ∈ zWS) (hini : Cond.initialized (zXn i) ∈ zWS) (hgd : ∀ x ∈ (vx_at0 M.1.cls ic (zXn i) ["java/lang/RuntimeException", "java/lang/Exception"]).filter goodWord, x ∈ zWS) (hbd : ∀ x ∈ (vx_at0 M.1.cls ic (zXn i) ["java/lang/RuntimeException", "java/lang/Exception"]).filter (fun x => !goodWord x), x ∈ lw_tbl ∧ zNw x = true)
    (hgood : ∀ x ∈ Cond.classLink M.1.cls ik (zXn i) :: Cond.initialized (zXn i) :: vx_at0 M.1.cls ic (zXn i) ["java/lang/RuntimeException", "java/lang/Exception"], vx_ot x = true) (hcls : Bundle.fit (zXn i) = true) (hl : G.1.stackTraces = false) (hst : st.length ≤ 4) (b1 : w.2.1 + 1 ≤ G.2.2.2.2.1) (b2 : w.2.2 + 6 ≤ G.2.2.2.2.2)
    (k : ∀ z t, w.2.1 ≤ z → z ≤ w.2.1 + 1 → w.2.2 ≤ t → t ≤ w.2.2 + 6 → Q (.inr i) (w.1, z, t)) : zX G M d av w0 Q pc L st w := by
  intro p e s m below meth c H ls locs hC hY
  have hts := hC.2.2.2.2.1
  have hE := hC.2.2.2.2.2.2.2.2.2.2.2.2
  have hs := zsum hst
  have h4 := hY.2.2.2.1
  have h5 := hY.2.2.2.2.1
  have hno : ∀ x ∈ c.exceptionTable.toList, covers x (pc + 7) = false := fun x hx => by
    rw [hC.2.2.2.2.2.2.2.2.1, hh] at hx
    cases hx
  have hat : ∀ x ∈ vx_at0 M.1.cls ic (zXn i) ["java/lang/RuntimeException", "java/lang/Exception"], x.before (av.map zv).toArray s = true := fun x hx => by
    cases hg : goodWord x with
    | true => exact hts _ (List.mem_cons_of_mem _ (hgd x (List.mem_filter.mpr ⟨hx, hg⟩)))
    | false =>
      obtain ⟨q1, q2⟩ := hbd x (List.mem_filter.mpr ⟨hx, by simp [hg]⟩)
      exact va_Nw.use (zNw_tab q2) (hE.2.2.2.2.1 x q1 q2)
  refine vx_throwZ (names := ["java/lang/RuntimeException", "java/lang/Exception"]) hC.1 hC.2.1 hl hC.2.2.2.2.2.1 hcls (by intro n hn; simp at hn; rcases hn with rfl | rfl <;> decide +kernel) (hts _ (List.mem_cons_of_mem _ hk)) (hts _ (List.mem_cons_of_mem _ hini)) hat hgood hE.1 hE.2.1 hY.1 (hY.2.2.2.2.2.1.1.trans hC.2.2.1.symm) hd0 hd3 hd4 hd7 hno (show 2 + 3 < 10 + d by omega) (show ((st.map zv).map fun v => v.category).sum + (13 * (2 + 1) + 42) ≤ 110 + 40 * d by omega) (show w.2.1 - w0.2.1 + 1 ≤ G.2.2.2.2.1 - w0.2.1 by omega) (show w.2.2 - w0.2.2 + 6 ≤ G.2.2.2.2.2 - w0.2.2 by omega) hC.2.2.2.2.2.2.1 (fun t hal g1 g2 g3 g4 g5 => ?_) hY.1.2.2 (show w.2.1 - w0.2.1 + 1 ≤ G.2.2.2.2.1 - w0.2.1 by omega) (show w.2.2 - w0.2.2 + 6 ≤ G.2.2.2.2.2 - w0.2.2 by omega)
  obtain ⟨y1, y2, y3, -, -, -, -⟩ := hY
  have e1 : H.size = w.2.1 := y2.1
  have e2 : zTot H = w.2.2 := y2.2.1
  refine ⟨i, (w.1, t.heap.size, zTot t.heap), hi, rfl, k _ _ (by omega) (by omega) (by omega) (by omega), ⟨rfl, rfl, show t.heap.size ≤ G.2.2.2.2.1 by omega, show zTot t.heap ≤ G.2.2.2.2.2 by omega, fun a ob ha => ?_⟩, va_K.moved hal hC.2.2.2.2.2.2.2.2.2.2.2.1, y3, show w0.2.1 ≤ t.heap.size by omega, show w0.2.2 ≤ zTot t.heap by omega, ?_⟩
  · have hz := y2.2.2.2.2 a ob ha
    exact ⟨zat_frame hz.1 (g3 a hz.2) (fun x hx => ⟨g3 x (y2.2.2.2.2 x _ hx).2, hx⟩), by omega⟩
  · exact ⟨Nat.le_trans y1.1 g1, fun q hq hn => (g3 q (Nat.lt_of_lt_of_le hq y1.1)).trans (y1.2.1 q hq hn)⟩
end ZCALL
