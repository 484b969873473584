/-! Own rows: calls whose outcome is told by a property of the world behind. -/
def zVal (P : zV → zW → Prop) : zQ := fun o w' => ∃ v, o = .inl (some v) ∧ P v w'
def zVoid (P : zW → Prop) : zQ := fun o w' => o = .inl none ∧ P w'
def zFr (T : List Nat) (w w' : zW) : Prop := ∀ a ob, w.1 a = some ob → ob.1 ∉ T → w'.1 a = some ob
theorem zFr_re {T : List Nat} {w : zW} : zFr T w w := fun _ _ h _ => h
theorem zFr_tr {T : List Nat} {w w1 w2 : zW} (h1 : zFr T w w1) (h2 : zFr T w1 w2) : zFr T w w2 := fun a ob h hn => h2 a ob (h1 a ob h hn) hn
theorem zFr_le {T T' : List Nat} {w w1 : zW} (h : zFr T w w1) (hs : ∀ x ∈ T, x ∈ T') : zFr T' w w1 := fun a ob ha hn => h a ob ha (fun hx => hn (hs _ hx))
theorem zFr_put {T : List Nat} {w : zW} {a : Nat} {x y : zO} (ha : w.1 a = some x) (ht : x.1 ∈ T) : zFr T w (zput w a y) := fun b ob hb hn => zput_to (fun e => by rw [e, ha] at hb; cases hb; exact hn ht) hb
theorem zFr_new {T : List Nat} {w : zW} {n : Nat} {y : zO} (ok : zOk w) : zFr T w (znew w y n) := fun b ob hb _ => znew_to (ok b ob hb) hb
section ZREL
variable {G : zG} {M : zMd} {d : Nat} {av : List zV} {w0 : zW} {Q : zQ} {pc : Nat} {L : List (Option zV)} {st : List zV} {w : zW}
theorem zx_ivV {idx n d' b : Nat} {ob : zO} {q : vw_C} {M' : zMd} {As : List zV} {P : zV → zW → Prop} (hd : decode M.2.1 pc = .ok (.invokevirtual idx, 3)) (hc : zCV M.1.cls idx M' n) (hb : w.1 b = some ob) (hq : vwCl[zcls ob.1]? = some q) (hq1 : q.1 = M'.1.cls) (hn : As.length = n) (hst : st.length ≤ 4) (hh : M.2.2.2.2 = [])
    (hM : zM G M' d' (zR b :: As) w (zVal P)) (k : ∀ v w1, P v w1 → zX G M (d' + 1) av w0 Q (pc + 3) L (v :: st) w1) : zX G M (d' + 1) av w0 Q pc L (As.reverse ++ zR b :: st) w :=
  zx_invokevirtual hd hc hb hq hq1 hn hst hh hM (fun v' w' q => by obtain ⟨v, e1, e2⟩ := q; cases e1; exact k v w' e2) (fun i w' q => by obtain ⟨v, e1, -⟩ := q; cases e1)
theorem zx_ivN {idx n d' b : Nat} {ob : zO} {q : vw_C} {M' : zMd} {As : List zV} {P : zW → Prop} (hd : decode M.2.1 pc = .ok (.invokevirtual idx, 3)) (hc : zCV M.1.cls idx M' n) (hb : w.1 b = some ob) (hq : vwCl[zcls ob.1]? = some q) (hq1 : q.1 = M'.1.cls) (hn : As.length = n) (hst : st.length ≤ 4) (hh : M.2.2.2.2 = [])
    (hM : zM G M' d' (zR b :: As) w (zVoid P)) (k : ∀ w1, P w1 → zX G M (d' + 1) av w0 Q (pc + 3) L st w1) : zX G M (d' + 1) av w0 Q pc L (As.reverse ++ zR b :: st) w :=
  zx_invokevirtual hd hc hb hq hq1 hn hst hh hM (fun v' w' q => by obtain ⟨e1, e2⟩ := q; cases e1; exact k w' e2) (fun i w' q => by cases q.1)
theorem zx_isV {idx n d' : Nat} {M' : zMd} {As : List zV} {P : zV → zW → Prop} (hd : decode M.2.1 pc = .ok (.invokestatic idx, 3)) (hc : zCS M.1.cls idx M' n) (hn : As.length = n) (hst : st.length ≤ 4) (hh : M.2.2.2.2 = [])
    (hM : zM G M' d' As w (zVal P)) (k : ∀ v w1, P v w1 → zX G M (d' + 1) av w0 Q (pc + 3) L (v :: st) w1) : zX G M (d' + 1) av w0 Q pc L (As.reverse ++ st) w :=
  zx_invokestatic hd hc hn hst hh hM (fun v' w' q => by obtain ⟨v, e1, e2⟩ := q; cases e1; exact k v w' e2) (fun i w' q => by obtain ⟨v, e1, -⟩ := q; cases e1)
theorem zx_icN {idx n d' b : Nat} {M' : zMd} {As : List zV} {P : zW → Prop} (hd : decode M.2.1 pc = .ok (.invokespecial idx, 3)) (hc : zCC M.1.cls idx M' n) (hn : As.length = n) (hst : st.length ≤ 4) (hh : M.2.2.2.2 = [])
    (hM : zM G M' d' (zR b :: As) w (zVoid P)) (k : ∀ w1, P w1 → zX G M (d' + 1) av w0 Q (pc + 3) L st w1) : zX G M (d' + 1) av w0 Q pc L (As.reverse ++ zR b :: st) w :=
  zx_invokespecial hd hc hn hst hh hM (fun v' w' q => by obtain ⟨e1, e2⟩ := q; cases e1; exact k w' e2) (fun i w' q => by cases q.1)
/-- two ways meet again with a number chosen -/
theorem zx_joinI {x y : Int} {c : Prop} [Decidable c] {pcj : Nat} {stj : List zV} (k : zX G M d av w0 Q pcj L (zI (if c then x else y) :: stj) w) (j : (c → zX G M d av w0 Q pcj L (zI x :: stj) w) → (¬ c → zX G M d av w0 Q pcj L (zI y :: stj) w) → zX G M d av w0 Q pc L st w) : zX G M d av w0 Q pc L st w :=
  j (fun h => by rw [if_pos h] at k; exact k) (fun h => by rw [if_neg h] at k; exact k)
/-- a cast to the object's own class -/
theorem zx_castR {idx a : Nat} {ob : zO} {q : vw_C} (hd : decode M.2.1 pc = .ok (.checkcast idx, 3)) (hb : w.1 a = some ob) (hq : vwCl[zcls ob.1]? = some q) (hl : Cond.classLink M.1.cls idx q.1 ∈ zWS) (k : zX G M d av w0 Q (pc + 3) L (zR a :: st) w) : zX G M d av w0 Q pc L (zR a :: st) w := by
  intro p e s m below meth c H ls locs hC hY
  obtain ⟨-, hY1⟩ := zY_pop hY
  obtain ⟨cell, h1, h2, h3⟩ := zat_recv (hY1.2.1.2.2.2.2 a ob hb).1 hC.2.2.2.2.2.2.2.2.2.2.2.1 hq
  have kk := k p e s m below meth c H ls locs hC hY
  have f3 : s.vm.assignable cell.cls cell.cls = true := by
    unfold Vm.assignable Vm.assignableAux
    simp
  intro T hT X
  obtain ⟨vm', X', stp⟩ := X.checkcastYes hC.1 hC.2.2.2.2.2.1 (hC.2.2.2.2.1 _ (List.mem_cons_of_mem _ hl)) (by rw [hT]; exact h1) h2 h3 f3 (g := F0 m pc ls (.ref a :: st.map zv)) rfl rfl (by rw [hC.2.1]; exact hd)
  obtain ⟨t, a1, b1⟩ := kk (T.setVm vm') hT X'
  exact ⟨t, stp t a1, b1⟩
end ZREL
