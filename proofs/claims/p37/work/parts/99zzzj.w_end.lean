/-! THE CLAIM OUT OF ONE WALK OF THE LAW'S BODY. Your part is whole_start (and what it stands on); all else here is the same for every law, but numbers. -/
def R_law : String := "ModedMillLaw"
def lw_P (b : Addr) (xs : List Int32) (args : Array Value) (s : State) : Prop := args = #[.ref b] ∧ s.IntsAt b xs ∧ xs.length ≤ 260 ∧ (Jvm.Cond.and given_1 narrow_1).before args s = true
def lw_Q (_ : Array Value) (s : State) (o : Outcome) (t : State) : Prop := o = .returned (some (.int 1)) ∧ Framed s o t [] 601638 7290093
def lw_Z (below : List Frame) (a : Array Value) (s : State) : State → Prop := fun t => ∃ o, t.status = .running ∧ Ended t below o ∧ lw_Q a s o t
/-- what holds at the law's entry: the machine, the code, the tables' words (any of lw_tbl by 'hts w (by decide +kernel)'), the script of L ints xs at the cell b, what the Statement gives of the start (any of its parts by flat_of_before) -/
def lw_At (p : Program) (s : State) (m : MethodId) (meth : Method) (c : Code) (b L : Nat) (xs : Nat → Int32) : Prop :=
  p.tables.exec = Jvm.exec ∧ c.code = code ∧ meth.sig.returnType = ret ∧ c.maxLocals = 17 ∧ s.vm.findClass R_law = some m.cls ∧ (∀ w ∈ lw_tbl, w.before #[Value.ref b] s = true) ∧ va_X b L xs s s.heap ∧ b < s.heap.size ∧ meth.locks = false ∧ (Jvm.Cond.and given_1 narrow_1).before #[Value.ref b] s = true
/-- the law from its entry, the table's word of its own code and its name's beside what the kit tells -/
theorem whole_start {p : Program} {e : Env} {s : State} {m : MethodId} {below : List Frame} {meth : Method} {c : Code} (l : Launch) (hflags : l.flags = flags0) {b L : Nat} {xs : Nat → Int32} (hL : L ≤ 260) (C0 : lw_At p s m meth c b L xs) (hcw : (Jvm.Cond.code x code maxLocals ret).before #[Value.ref b] s = true) (hnm : meth.name = zm_L_law.1.name) (hex : c.exceptionTable.toList = []) : W p l e room_1 s m #[Value.ref b] below meth c s.heap [] 0 0 (lw_Z below #[Value.ref b] s) (entryFrame m ([Value.ref b] : List Value).toArray 17) := by
  have hl0 : l.stackTraces = false := by
    unfold Launch.stackTraces; rw [hflags]; decide
  obtain ⟨hx, hb, hr, hml, hown, hts, hX, hbl, hlocks, hgv⟩ := id C0
  obtain ⟨e0, mi, hE⟩ := law_env hts hgv
  obtain ⟨D, k, hK, hk5⟩ := law_know hts hE
  obtain ⟨w0, hw0⟩ : ∃ w0 : zW, w0 = (fun _ => none, s.heap.size, zTot s.heap) := ⟨_, rfl⟩
  have w1 : w0.2.1 = s.heap.size := by rw [hw0]
  have w2 : w0.2.2 = zTot s.heap := by rw [hw0]
  have w3 : ∀ q, w0.1 q = none := fun q => by rw [hw0]
  have wA : ∀ q, zA w0 q → s.heap.size ≤ q := fun q h => h.elim (fun h => absurd (w3 q) h) (fun h => by rw [w1] at h; exact h)
  have wB : ∀ q, s.heap.size ≤ q → zA w0 q := fun q h => Or.inr (by rw [w1]; exact h)
  obtain ⟨G, hG⟩ : ∃ G : zG, G = (l, e0, D, k, s.heap.size + 601638, zTot s.heap + 7290093) := ⟨_, rfl⟩
  have g1 : G.1 = l := by rw [hG]
  have g2 : G.2.2.2.2.1 = s.heap.size + 601638 := by rw [hG]
  have g3 : G.2.2.2.2.2 = zTot s.heap + 7290093 := by rw [hG]
  have hE' : zEn G.2.1 (G.2.2.2.1 5) (zA w0) s s.heap := by
    have eA : zA w0 = fun q : Nat => s.heap.size ≤ q := funext fun q => propext ⟨wA q, wB q⟩
    rw [eA, hG]
    show zEn e0 (k 5) _ s s.heap
    rw [hk5]
    exact hE
  have hK' : va_K G.2.2.1 vwCl (zTy G.2.2.2.1) s := by rw [hG]; exact hK
  have hC : zC G zm_L_law [zR b] w0 p s m meth c := by
    refine ⟨hx, hb, hml, hr, fun w hw => ?_, hown, hlocks, hnm, hex, w1.symm, w2.symm, hK', hE'⟩
    rw [zws_code rfl] at hw
    rcases List.mem_cons.mp hw with rfl | hw
    · exact hcw
    · exact hts w (List.mem_filter.mp hw).1
  have hXs : scX b L xs w0 s := ⟨hX, hbl, fun h => absurd (wA b h) (Nat.not_le.mpr hbl)⟩
  have hlen : (lg_sl ([zR b].map zv)).length ≤ 17 := by rw [zlg_len]; exact Nat.le_of_ble_eq_true rfl
  have hl := lv_entry ([zR b].map zv) (n := 17) hlen
  have hQ : ∀ w' : zW, (fun (out : Option zV ⊕ Nat) (_ : zW) => out = .inl (some (zI 1))) (.inl (some (zI 1))) w' := fun _ => rfl
  have hst0 : G.1.stackTraces = false := by rw [g1]; exact hl0
  have kk : zXp (scX b L xs w0) G zm_L_law (2023 + 15) [zR b] w0 (fun out _ => out = .inl (some (zI 1))) 0 [some (zR b), none, none, none, none, none, none, none, none, none, none, none, none, none, none, none, none] [] w0 := sr_0 (L0 := L) (by omega) hst0 hQ ⟨by omega, by omega⟩
  have kk2 := kk p e s m below meth c s.heap ((lg_sl ([zR b].map zv) ++ List.replicate (17 - (lg_sl ([zR b].map zv)).length) Slot.unset).toArray) [] hC hXs
    ⟨va_S.rf, ⟨w1.symm, w2.symm, by omega, by omega, fun a ob h => by rw [w3 a] at h; cases h⟩, fun q h => absurd (w3 q) h, Nat.le_refl _, Nat.le_refl _, ⟨hl.1, hl.2.1, fun i v hi => ?_⟩, fun v hv => absurd hv List.not_mem_nil⟩
  · rw [Nat.sub_self, Nat.sub_self, g1] at kk2
    have he : entryFrame m ([Value.ref b] : List Value).toArray 17 = F0 m 0 ((lg_sl ([zR b].map zv) ++ List.replicate (17 - (lg_sl ([zR b].map zv)).length) Slot.unset).toArray) (([] : List zV).map zv) := lg_entry_eq m ([zR b].map zv) 17
    rw [he]
    intro T hT X
    have e1 : (zrm G (2023 + 15) w0).frames = 2048 := rfl
    have e2 : (zrm G (2023 + 15) w0).cells = 601638 := by show G.2.2.2.2.1 - w0.2.1 = 601638; omega
    have e3 : (zrm G (2023 + 15) w0).slots = 7290093 := by show G.2.2.2.2.2 - w0.2.2 = 7290093; omega
    have e4 : (zrm G (2023 + 15) w0).locals = 81630 := rfl
    have f1 : room_1.frames = 2048 := rfl
    have f2 : room_1.cells = 601638 := rfl
    have f3 : room_1.slots = 7290093 := rfl
    have f4 : room_1.locals = 94400 := rfl
    have hroom : s.hasRoom e.platform (zrm G (2023 + 15) w0) = true := by
      have h := X.room
      simp only [State.hasRoom, Bool.and_eq_true, decide_eq_true_eq] at h ⊢
      obtain ⟨⟨⟨⟨h1, h2, h3, h4, h5, h6⟩, h7⟩, h8⟩, h9⟩ := h
      exact ⟨⟨⟨⟨by omega, by omega, by omega, by omega, by omega, h6⟩, by omega⟩, by omega⟩, h9⟩
    obtain ⟨t, st, o, r1, r2, hq⟩ := kk2 T hT { X with room := hroom }
    refine ⟨t, st, o, r1, r2, ?_⟩
    rcases hq with ⟨⟨v, w', q1, q2, -, -⟩, Lf, hF, hb2⟩ | ⟨q, -, E, ce, Lx, ⟨i, w', -, -, q2, -⟩, -⟩
    · have q2 : (Sum.inl v : Option zV ⊕ Nat) = .inl (some (zI 1)) := q2
      cases q2
      subst q1
      refine ⟨rfl, ⟨_, rfl⟩, hF.2.1, hF.2.2.weaken (fun y hy hlt => absurd hlt (Nat.not_lt.mpr (wA _ (hb2 y hy)))) (by omega) (by omega)⟩
    · cases q2
  · have hi : (zin0 [zR b] 17)[i]? = some (some v) := hi
    rcases i with _ | i
    · have e : (some (some (zR b)) : Option (Option zV)) = some (some v) := hi
      cases e
      exact ⟨hl.2.2 (0, .ref b) List.mem_cons_self, trivial⟩
    · have e : (List.replicate 16 (none : Option zV))[i]? = some (some v) := hi
      rw [List.getElem?_replicate] at e
      split at e <;> simp at e
set_option maxHeartbeats 4000000 in
theorem lw_walk (l : Launch) (hflags : l.flags = flags0) (b : Addr) (xs : List Int32) : MetFree l x (headSpec (Jvm.Cond.code x code maxLocals ret :: tables_1) room_1) (lw_P b xs) (fun _ _ _ _ _ => True) lw_Q := by
  refine MetFree.of_bodyS (code := code) (maxLocals := maxLocals) (ret := ret) (by decide) ?_ ?_
  · intro args s m h hn
    obtain ⟨meth, c, h1, h2, h3, h4, h5, h6, -, -⟩ := Cond.code_spec hn (atoms_spec (ws := Jvm.Cond.code x code maxLocals ret :: tables_1) h _ List.mem_cons_self)
    exact ⟨meth, c, h1, h2, h3, h4, h5, h6⟩
  · intro p e s m args below meth c s₁ B hml0 hP _
    obtain ⟨rfl, hx, hbd, hgv⟩ := hP
    obtain ⟨scr, harrAt, hlist, hof, hsmall⟩ := hx
    obtain ⟨hcb, hkn, -, -⟩ := State.arrayAt?_spec harrAt
    have hown : s.vm.findClass R_law = some m.cls := findClass_of_methodNamed B.named
    have hts0 : ∀ c ∈ (Jvm.Cond.code x code maxLocals ret :: tables_1), c.before #[Value.ref b] s = true := atoms_spec (ws := Jvm.Cond.code x code maxLocals ret :: tables_1) B.pre
    have hts : ∀ w ∈ lw_tbl, w.before #[Value.ref b] s = true := k2_hts_sels lw_privs (fun w hw => hts0 w (List.mem_cons_of_mem _ hw)) lw_privs_ok
    have hml : c.maxLocals = 17 := B.maxLocals_eq (hts0 _ List.mem_cons_self)
    have hext : c.exceptionTable.toList = [] := by
      obtain ⟨meth9, c9, h1, h2, -, -, -, -, h7, -⟩ := Cond.code_spec B.named (hts0 _ List.mem_cons_self)
      cases Option.some.inj (h1.symm.trans B.method)
      cases Option.some.inj (h2.symm.trans (Stand.of_body B).code)
      rw [Array.isEmpty_iff.mp h7]
    have X₀ : Stand p l e room_1 s m #[Value.ref b] below meth c s₁ [] 0 0 := Stand.of_body B
    have hh0 : s₁.heap = s.heap := by rw [B.state]; rfl
    have hsz : scr.slots.size = xs.length := by rw [← Array.length_toList, hlist, List.length_map]
    have hval : ∀ j : Nat, j < xs.length → scr.slots[j]? = some (.int (xs.getD j 0)) := fun j hj => by
      rw [← Array.getElem?_toList, hlist]
      simp [hj]
    have hbl : b < s.heap.size := (Array.getElem?_eq_some_iff.mp hcb).1
    have hX : va_X b xs.length (fun j => xs.getD j 0) s s.heap := ⟨scr, hcb, hof, hkn, hsz, hval⟩
    have K : W p l e room_1 s m #[Value.ref b] below meth c s₁.heap [] 0 0 (lw_Z below #[Value.ref b] s) (entryFrame m ([Value.ref b] : List Value).toArray 17) := by
      rw [hh0]
      exact whole_start l hflags hbd ⟨B.exec, B.bytes, B.returns, hml, hown, hts, hX, hbl, B.notSynchronized, hgv⟩ (hts0 _ List.mem_cons_self) (name_of_methodNamed B.named B.method).1 hext
    obtain ⟨t, a1, o, b1, b2, b3⟩ := K s₁ rfl X₀
    exact ⟨t, o, a1, b1, b2, b3⟩
theorem lw_pre_spec {args : Array Value} {s : State} (h : (Jvm.Cond.and given_1 narrow_1).before args s = true) (hr : rest_1_c.before args s = true) : ∃ (b : Addr) (xs : List Int32), lw_P b xs args s := by
  have hs := flat_of_before _ h
  have hq := flat_of_before _ hr
  have hc : (Cond.count 1).before args s = true := hs _ (by decide +kernel)
  have harr : (Cond.arrayOf (.arg 0) .int).before args s = true := hs _ (by decide +kernel)
  have hle : (Cond.le (.length (.arg 0)) (.int 260)).before args s = true := hs _ (by decide +kernel)
  have hlen : (Cond.isInt (.length (.arg 0))).before args s = true := hq _ (by decide +kernel)
  have hall : (Cond.all (.arg 0) (.isInt (.elem (.arg 0) (.index 0)))).before args s = true := hq _ (by decide +kernel)
  obtain ⟨b, xs, hb, hx⟩ := State.ints_of_pre rfl harr hlen hall
  have hsm : xs.length < 2 ^ 31 := hx.choose_spec.2.2.2
  have hev : (Term.length (.arg 0)).eval args s none [] s = some (.int xs.length.toInt32) := hx.length_eval hb
  have hv := Cond.le_ints hev (show (Term.int 260).eval args s none [] s = some (.int 260) from rfl)
  have hd : xs.length.toInt32 ≤ 260 := by
    simpa [Cond.before, Cond.holds, hv] using hle
  have hN : xs.length ≤ 260 := (Int32.ofNat_le_ofNat hsm (by decide)).mp (show Int32.ofNat xs.length ≤ Int32.ofNat 260 from hd)
  exact ⟨b, xs, Cond.one_arg hc (show args[0]? = some (.ref b) from hb), hx, hN, h⟩
theorem lw_comes (l : Launch) (hflags : l.flags = flags0) : Comes l x (Jvm.Cond.code x code maxLocals ret :: tables_1) room_1 (fun tb e args s => Calls_1 tb e args s ∧ rest_1 tb e args s ∧ Pre_1 tb e args s)
    (fun _ _ args s o t => lw_Q args s o t) := by
  intro p e ha hc hk s m args below hf hfit hheap happ hpre
  obtain ⟨b, xs, hP⟩ := lw_pre_spec hpre.2.2 hpre.2.1
  obtain ⟨k, o, h1, h2, h3, hQ⟩ := lw_walk l hflags b xs p e ha hc hk s m args below hf ((Spec.applies_iff_loose hf).mp happ).1 hP trivial
  exact ⟨k, o, h1, h2, h3, hQ⟩
theorem lw_frame {s t : State} {o : Outcome} {args : Array Value} (h : Framed s o t [] 601638 7290093) :
    Framed s o t (fieldLocs frame_1_writes args s ++ arrayLocs frame_1_arrays args s ++ staticLocs frame_1_statics s) 601638 7290093 := h
theorem lw_limb (L : Cond) (hL : ∀ (args : Array Value) (s t : State), L.after args s (.returned (some (.int 1))) t = true) :
    ArmFor flags0 classFile x code maxLocals ret World_1 tables_1 room_1 Calls_1 rest_1 Pre_1
      (fun tb e a s o t => postC L tb e a s o t ∧ Framed s o t (fieldLocs frame_1_writes a s ++ arrayLocs frame_1_arrays a s ++ staticLocs frame_1_statics s) 601638 7290093) := by
  intro l hflags _ _ p e ha hc hk s m args below hf hfit hheap happ hpre
  obtain ⟨k, o, h1, h2, h3, rfl, hF⟩ := lw_comes l hflags p e ha hc hk s m args below hf hfit hheap happ hpre
  exact ⟨k, _, h1, h2, h3, hL args s _, lw_frame hF⟩
theorem i_vc : Claimed_1_1 ∧ Claimed_1_2 := ⟨lw_limb limb_1_1 (fun args s t => by simp [limb_1_1, Cond.after, Cond.holds, Cond.value]), lw_limb limb_1_2 (fun args s t => Cond.after_iff.mpr (by
  first | (rw [show limb_1_2 = Cond.eq .result (.int 1) from rfl, Cond.eq_ints (x := 1) (y := 1) rfl rfl]; simp; done) | (simp [limb_1_2, Cond.value, Term.eval]; done)))⟩
