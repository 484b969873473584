/-! Own rows: fields, arrays, makings, over worlds that are maps. -/
theorem zat_frame {D : va_G} {k : Nat → ClassId} {e0 : Nat} {m m' : Nat → Option zO} {H H' : Heap} {b : Nat} {ob : zO} (h : zat D k e0 m b ob H) (hb : H'[b]? = H[b]?) (hh : ∀ x, m x = some (199, b, []) → H'[x]? = H[x]? ∧ m' x = some (199, b, [])) : zat D k e0 m' b ob H' := by
  obtain ⟨h1, h2⟩ := h
  refine ⟨h1, ?_⟩
  by_cases c1 : ob.1 < 100
  · rw [if_pos c1] at h2 ⊢; exact h2.kept hb
  rw [if_neg c1] at h2 ⊢
  by_cases c2 : ob.1 < 120
  · rw [if_pos c2] at h2 ⊢; exact hb.trans h2
  rw [if_neg c2] at h2 ⊢
  by_cases c3 : ob.1 < 125
  · rw [if_pos c3] at h2 ⊢; exact hb.trans h2
  rw [if_neg c3] at h2 ⊢
  by_cases c4 : ob.1 = 125
  · rw [if_pos c4] at h2 ⊢; exact hb.trans h2
  rw [if_neg c4] at h2 ⊢
  by_cases c5 : ob.1 = 126
  · rw [if_pos c5] at h2 ⊢; exact hb.trans h2
  rw [if_neg c5] at h2 ⊢
  by_cases c5b : ob.1 = 127
  · rw [if_pos c5b] at h2 ⊢; exact hb.trans h2
  rw [if_neg c5b] at h2 ⊢
  by_cases c6 : ob.1 < 160
  · rw [if_pos c6] at h2 ⊢
    obtain ⟨cols, lines, cap, x, g, xs, q1, q2, q3, q4, q5, q6, q7, q8, q9, q10⟩ := h2
    obtain ⟨r1, r2⟩ := hh x q10
    exact ⟨cols, lines, cap, x, g, xs, q1, q2, q3, q4, q5, q6, q7, q8.kept hb, r1.trans q9, r2⟩
  rw [if_neg c6] at h2 ⊢
  by_cases c7 : ob.1 < 190
  · rw [if_pos c7] at h2 ⊢
    obtain ⟨cap, mc, x, ys, g, q1, q2, q3, q4, q5, q6⟩ := h2
    refine ⟨cap, mc, x, ys, g, q1, q2, q3, q4.kept hb, q5, ?_⟩
    rcases q6 with q6 | ⟨q6, q7, q8⟩
    · exact Or.inl q6
    · obtain ⟨r1, r2⟩ := hh x q8
      exact Or.inr ⟨q6, r1.trans q7, r2⟩
  · rw [if_neg c7]; trivial
theorem zHp_put {G : zG} {w : zW} {H H' : Heap} {a : Nat} {ob ob' : zO} (hH : zHp G w H) (ha : w.1 a = some ob) (hob : ob.1 ≠ 199) (e2 : H'.size = H.size) (et : zTot H' = zTot H) (e3 : ∀ q, q ≠ a → H'[q]? = H[q]?) (hn : zat G.2.2.1 G.2.2.2.1 G.2.1 (zup w.1 a ob') a ob' H') : zHp G (zput w a ob') H' := by
  obtain ⟨h1, h2, h3, h4, h5⟩ := hH
  refine ⟨e2.trans h1, et.trans h2, h3, h4, fun b o hb => ?_⟩
  unfold zput zup at hb
  by_cases c : b = a
  · simp only [if_pos c] at hb
    cases hb
    subst c
    exact ⟨hn, by rw [e2]; exact (h5 b ob ha).2⟩
  · simp only [if_neg c] at hb
    refine ⟨zat_frame (h5 b o hb).1 (e3 b c) fun x hx => ?_, by rw [e2]; exact (h5 b o hb).2⟩
    have hxa : x ≠ a := fun e => by
      rw [e, ha] at hx
      cases hx
      exact hob rfl
    exact ⟨e3 x hxa, by unfold zput zup; simp only [if_neg hxa]; exact hx⟩
theorem zHp_new {G : zG} {w : zW} {H : Heap} {c : Cell} {ob : zO} {n : Nat} (hH : zHp G w H) (hn : c.slots.size = n) (b1 : w.2.1 + 1 ≤ G.2.2.2.2.1) (b2 : w.2.2 + n ≤ G.2.2.2.2.2) (ho : zat G.2.2.1 G.2.2.2.1 G.2.1 (zup w.1 w.2.1 ob) w.2.1 ob (H.push c)) : zHp G (znew w ob n) (H.push c) := by
  obtain ⟨h1, h2, h3, h4, h5⟩ := hH
  refine ⟨by simp [znew, h1], by rw [zTot_push, h2, hn]; rfl, b1, b2, fun b o hb => ?_⟩
  unfold znew zup at hb
  by_cases e : b = w.2.1
  · simp only [if_pos e] at hb
    cases hb
    subst e
    exact ⟨ho, by simp [h1]⟩
  · simp only [if_neg e] at hb
    have hlt := (h5 b o hb).2
    refine ⟨zat_frame (h5 b o hb).1 (by rw [Array.getElem?_push, if_neg (Nat.ne_of_lt hlt)]) fun x hx => ?_, by simp; omega⟩
    have hxl := (h5 x _ hx).2
    exact ⟨by rw [Array.getElem?_push, if_neg (Nat.ne_of_lt hxl)], by unfold znew zup; simp only [if_neg (show x ≠ w.2.1 by omega)]; exact hx⟩
theorem zY_put {G : zG} {M : zMd} {w0 : zW} {L : List (Option zV)} {st : List zV} {w : zW} {s : State} {H H' : Heap} {ls : Array Slot} {locs : List Loc} {a j : Nat} {ob ob' : zO} (hY : zDy G M w0 L st w s H ls locs) (ha : w.1 a = some ob) (hob : ob.1 ≠ 199) (e2 : H'.size = H.size) (et : zTot H' = zTot H) (e3 : ∀ q, q ≠ a → H'[q]? = H[q]?) (hn : zat G.2.2.1 G.2.2.2.1 G.2.1 (zup w.1 a ob') a ob' H') : zDy G M w0 L st (zput w a ob') s H' ls (locs ++ [⟨a, j⟩]) := by
  obtain ⟨h1, h2, h3, h4, h5, h6, h7⟩ := hY
  refine ⟨h1.put e2 e3 (h3 a (by rw [ha]; simp)), zHp_put h2 ha hob e2 et e3 hn, fun q hq => ?_, h4, h5, h6, h7⟩
  by_cases c : q = a
  · rw [c]; exact h3 a (by rw [ha]; simp)
  · exact h3 q (by unfold zput zup at hq; simp only [if_neg c] at hq; exact hq)
theorem zY_new {G : zG} {M : zMd} {w0 : zW} {L : List (Option zV)} {st : List zV} {w : zW} {s : State} {H : Heap} {ls : Array Slot} {locs : List Loc} {c : Cell} {ob : zO} {n : Nat} (hY : zDy G M w0 L st w s H ls locs) (hn : c.slots.size = n) (b1 : w.2.1 + 1 ≤ G.2.2.2.2.1) (b2 : w.2.2 + n ≤ G.2.2.2.2.2) (ho : zat G.2.2.1 G.2.2.2.1 G.2.1 (zup w.1 w.2.1 ob) w.2.1 ob (H.push c)) : zDy G M w0 L (zR w.2.1 :: st) (znew w ob n) s (H.push c) ls locs := by
  refine zY_push (v := zR w.2.1) trivial ?_
  obtain ⟨h1, h2, h3, h4, h5, h6, h7⟩ := hY
  have hsz := h2.1
  refine ⟨⟨Nat.le_trans h1.1 (by simp), fun q hq hA => ?_, h1.2.2⟩, zHp_new h2 hn b1 b2 ho, fun q hq => ?_, Nat.le_trans h4 (Nat.le_succ _), Nat.le_trans h5 (Nat.le_add_right _ _), h6, h7⟩
  · rw [Array.getElem?_push, if_neg (Nat.ne_of_lt (Nat.lt_of_lt_of_le hq h1.1))]; exact h1.2.1 q hq hA
  · by_cases c : q = w.2.1
    · rw [c]; exact Or.inr h4
    · exact h3 q (by unfold znew zup at hq; simp only [if_neg c] at hq; exact hq)
/-! fields -/
def zFI (own : String) (idx ci kf : Nat) (fin : Bool) (fty : FieldType) : Prop :=
  ∃ (C : String) (T : u_T) (N : Nat) (ty : Nat → FieldType), vwCl[ci]? = some (C, T, N) ∧ ci < 100 ∧ (∀ w ∈ u_ws C T N, w ∈ zWS) ∧ (∀ k, k < N → parseFieldDescriptor (T k).2.2.1 = some (ty k)) ∧ (∀ a, a < N → ∀ b, b < N → a ≠ b → (T a).2.1 ≠ (T b).2.1) ∧ kf < N ∧
    (Cond.fieldLink own idx (T kf).1 (T kf).2.1 (T kf).2.2.1 ∈ zWS ∨ ∃ host, Cond.fieldLinkNest own idx (T kf).1 (T kf).2.1 (T kf).2.2.1 host ∈ lw_tbl) ∧ (T kf).2.2.2 = fin ∧ ty kf = fty
def zFt (ty : FieldType) (v : zV) : Prop := narrow ty (zv v) = zv v ∧ fits ty (zv v) = true
theorem zFt_int (a : Int) : zFt .int (zI a) := ⟨rfl, rfl⟩
theorem zFt_bool {a : Int} (h : a = 0 ∨ a = 1) : zFt .boolean (zI a) := by rcases h with h | h <;> subst h <;> exact ⟨by decide +kernel, by decide +kernel⟩
theorem zFt_char (a : Nat) (h : a < 65536) : zFt .char (zI a) := pk_charN h
theorem zFt_obj (C : String) (a : Option Nat) : zFt (.object C) (Sum.inr (Sum.inl a)) := by cases a <;> exact ⟨rfl, rfl⟩
theorem zFt_arr (t : FieldType) (a : Option Nat) : zFt (.array t) (Sum.inr (Sum.inl a)) := by cases a <;> exact ⟨rfl, rfl⟩
theorem zFt_long (a : Int) : zFt .long (zJ a) := ⟨rfl, rfl⟩
section ZHEAP
variable {G : zG} {M : zMd} {d : Nat} {av : List zV} {w0 : zW} {Q : zQ} {pc : Nat} {L : List (Option zV)} {st : List zV} {w : zW}
theorem zat_obj {D : va_G} {k : Nat → ClassId} {e0 : Nat} {m : Nat → Option zO} {a ci ow : Nat} {fs : List zV} {H : Heap} (h : zat D k e0 m a (ci, ow, fs) H) (hc : ci < 100) : va_at D vwCl (a, .inr (ci, fs.map zv)) H := by
  have h2 := h.2
  rw [if_pos hc] at h2
  exact h2
theorem zx_getfield {idx ci kf a ow : Nat} {fs : List zV} {v : zV} {fin : Bool} {fty : FieldType} (hd : decode M.2.1 pc = .ok (.getfield idx, 3)) (hf : zFI M.1.cls idx ci kf fin fty) (ha : w.1 a = some (ci, ow, fs)) (hv : fs[kf]? = some v) (k : zX G M d av w0 Q (pc + 3) L (v :: st) w) : zX G M d av w0 Q pc L (zR a :: st) w := by
  intro p e s m below meth c H ls locs hC hY
  obtain ⟨-, hY1⟩ := zY_pop hY
  have hz := (hY1.2.1.2.2.2.2 a _ ha).1
  have hfit : zfit v := hz.1 v (List.mem_of_getElem? hv)
  obtain ⟨C, T, N, ty, f1, f2, f3, f4, f5, f6, f7, f8, f9⟩ := hf
  have hP : va_P G.2.2.1 vwCl [(a, .inr (ci, fs.map zv))] H := fun q x hq => by
    cases q with
    | zero => cases hq; exact zat_obj hz f2
    | succ q => cases hq
  have kk := k p e s m below meth c H ls locs hC (zY_push hfit hY1)
  have hK := hC.2.2.2.2.2.2.2.2.2.2.2.1
  have hin : ∀ w ∈ u_ws C T N, w ∈ zws M := fun x hx => List.mem_cons_of_mem _ (f3 x hx)
  have hvv : (fs.map zv)[kf]? = some (zv v) := by rw [List.getElem?_map, hv]; rfl
  rcases f7 with f7 | ⟨host, f7⟩
  · exact va_get hC.1 hC.2.1 hC.2.2.2.2.1 hin hC.2.2.2.2.2.1 hK hP 0 rfl f1 kf f6 (hC.2.2.2.2.1 _ (List.mem_cons_of_mem _ f7)) (fun _ h => h) hvv hd kk
  · exact va_getN hC.1 hC.2.1 hC.2.2.2.2.1 hin hC.2.2.2.2.2.1 hK hP 0 rfl f1 kf f6 (va_Nw.use rfl (hC.2.2.2.2.2.2.2.2.2.2.2.2.2.2.2.2.1 _ f7 rfl)) (fun _ h => h) hvv hd kk
theorem zV_set {fs : List zV} {kf : Nat} {v : zV} (hk : kf < fs.length) (j : Nat) : updV (vp_V (fs.map zv)) kf (zv v) j = vp_V ((fs.set kf v).map zv) j := by
  rw [List.map_set]
  exact vp_updV_set (by simpa using hk) (zv v) j
theorem zx_putfield {idx ci kf a ow : Nat} {fs : List zV} {v : zV} {fin : Bool} {fty : FieldType} (hd : decode M.2.1 pc = .ok (.putfield idx, 3)) (hf : zFI M.1.cls idx ci kf fin fty) (ha : w.1 a = some (ci, ow, fs)) (hk : kf < fs.length) (hft : zFt fty v) (hfin : fin = true → M.1.name = "<init>" ∧ ∀ q, vwCl[ci]? = some q → (q.2.1 kf).1 = M.1.cls) (k : zX G M d av w0 Q (pc + 3) L st (zput w a (ci, ow, fs.set kf v))) : zX G M d av w0 Q pc L (v :: zR a :: st) w := by
  intro p e s m below meth c H ls locs hC hY
  obtain ⟨hfit, hY1⟩ := zY_pop hY
  obtain ⟨-, hY2⟩ := zY_pop hY1
  have hz := (hY2.2.1.2.2.2.2 a _ ha).1
  obtain ⟨C, T, N, ty, f1, f2, f3, f4, f5, f6, f7, f8, f9⟩ := hf
  have hK := hC.2.2.2.2.2.2.2.2.2.2.2.1
  have hin : ∀ w ∈ u_ws C T N, w ∈ zws M := fun x hx => List.mem_cons_of_mem _ (f3 x hx)
  have hts := hC.2.2.2.2.1
  have hown := hC.2.2.2.2.2.1
  have hap := va_apart (own := M.1.cls) hts hin ty f4 f5 hK f1
  obtain ⟨r, h1, cell, q1, q2, q3, q4⟩ := zat_obj hz f2
  have hr : r = (C, T, N) := Option.some.inj (h1.symm.trans f1)
  subst hr
  obtain ⟨hS, hfc, kC, hkC, hkind⟩ := hK.1 ci _ f1
  obtain ⟨cf, kcf, fi, f, hi, hsl⟩ := hS kf f6
  have hst := (u_facts hfc hkC (u_lays hts hin f6) hi).1
  have hlt : f.slot < cell.slots.size := by rw [hsl]; exact k2_hasslot (q4 kf f6)
  have after : ∀ H' : Heap, H'[a]? = some (cell.setSlot f.slot (zv v)) → H'.size = H.size → (∀ q, q ≠ a → H'[q]? = H[q]?) → W p G.1 e (zrm G d w0) s m (av.map zv).toArray below meth c H' (locs ++ [⟨a, f.slot⟩]) (w.2.1 - w0.2.1) (w.2.2 - w0.2.2) (vx_MQ below (zQr G w0 Q) (zQx G w0 Q) (av.map zv).toArray s (G.2.2.2.2.1 - w0.2.1) (G.2.2.2.2.2 - w0.2.2) (zA w0)) (F0 m (pc + 3) ls (st.map zv)) := by
    intro H' e1 e2 e3
    refine k p e s m below meth c H' ls _ hC (zY_put hY2 ha (show ci ≠ 199 by omega) e2 (zTot_set q1 e1 (k2_slotsz _ _ _) e3) e3 ⟨fun x hx => ?_, ?_⟩)
    · rcases List.mem_or_eq_of_mem_set hx with h | h
      · exact hz.1 x h
      · rw [h]; exact hfit
    · rw [if_pos f2]
      rw [hsl] at e1
      exact ⟨_, f1, t_OB.to (V := updV (vp_V (fs.map zv)) kf (zv v)) ⟨_, e1, q2, q3, t_set q4 hap f6 (zv v)⟩ (fun j _ => zV_set hk j)⟩
  have hlay := hts _ (hin _ (u_in_lay f6))
  unfold u_lay at hlay
  cases fin with
  | false =>
    rw [if_neg (by rw [f8]; decide)] at hlay
    have h6 := u_store hfc hkC hkind hlay hi (f4 kf f6) (by rw [f9]; exact hft.1) (by rw [f9]; exact hft.2)
    rcases f7 with f7 | ⟨host, f7⟩
    · exact W.putK hC.1 hC.2.1 (f := f) ⟨hown, hts _ (List.mem_cons_of_mem _ f7), ⟨_, _, _, hi⟩, hst⟩ (by rw [q2]; exact h6) q1 q3 hlt rfl rfl hd after
    · exact va_WputK hC.1 hC.2.1 (f := f) hown (va_Nw.use rfl (hC.2.2.2.2.2.2.2.2.2.2.2.2.2.2.2.2.1 _ f7 rfl)) hi hst (by rw [q2]; exact h6) q1 q3 hlt rfl rfl hd after
  | true =>
    rw [if_pos f8] at hlay
    have h6 := u_fits hfc hkC hkind (Or.inr hlay) hi (f4 kf f6) (by rw [f9]; exact hft.1) (by rw [f9]; exact hft.2)
    have hcf : m.cls = cf := by
      obtain ⟨_, _, c', _, _, _, -, -, hf', -, -, -, hown2, -⟩ := Cond.laysFinal_spec hlay
      have e1 : c' = cf := by have := hi.symm.trans hf'; simp at this; exact this.1.symm
      rw [show (T kf).1 = M.1.cls from (hfin rfl).2 _ f1] at hown2
      rw [← e1]; exact Option.some.inj (hown.symm.trans hown2)
    rcases f7 with f7 | ⟨host, f7⟩
    · exact W.putFinK hC.1 hC.2.1 hown (hts _ (List.mem_cons_of_mem _ f7)) hi hst hcf (hC.2.2.2.2.2.2.2.1.trans (hfin rfl).1) (by rw [q2]; exact h6) q1 q3 hlt rfl rfl hd after
    · have ha' : a < H.size := (Array.getElem?_eq_some_iff.mp q1).1
      refine va_Wputf hC.1 hC.2.1 hown (va_Nw.use rfl (hC.2.2.2.2.2.2.2.2.2.2.2.2.2.2.2.2.1 _ f7 rfl)) hi hst (Or.inr ⟨hcf, hC.2.2.2.2.2.2.2.1.trans (hfin rfl).1⟩) q1 (by rw [q3]; exact fun h => by cases h) hlt h6.1 (by rw [q3, q2]; exact h6.2) rfl rfl hd (after _ ?_ ?_ ?_)
      · simp [Array.getElem?_setIfInBounds, ha']
      · simp
      · intro q hq
        simp [Array.getElem?_setIfInBounds, Ne.symm hq]
/-! arrays -/
theorem z_clamp {i : Int} (h : z32 i) : (Int32.ofInt i).toNatClampNeg = i.toNat := by
  show (Int32.ofInt i).toInt.toNat = i.toNat
  rw [show (Int32.ofInt i).toInt = i from zw_id h]
theorem z_in {i : Int} {n : Nat} (h : z32 i) (h0 : 0 ≤ i) (hn : i.toNat < n) : ¬ (Int32.ofInt i < 0 ∨ n ≤ (Int32.ofInt i).toNatClampNeg) := by
  rw [z_clamp h]
  intro q
  rcases q with q | q
  · have := (zi_lt h (z32_lit (by decide) (by decide) : z32 0)).mp q
    omega
  · omega
theorem zArr_set {cA : ClassId} {fs : List zV} {j : Nat} {v : zV} (hj : j < fs.length) : (arrV cA fs.length (fun i => zv (fs.getD i zN))).setSlot j (zv v) = arrV cA (fs.set j v).length (fun i => zv ((fs.set j v).getD i zN)) := by
  rw [arrV_store, List.length_set]
  congr 1
  funext q
  unfold updV
  by_cases c : q = j
  · subst c
    rw [if_pos rfl]
    simp [List.getD_eq_getElem?_getD, hj]
  · rw [if_neg c]
    simp [List.getD_eq_getElem?_getD, List.getElem?_set, Ne.symm c]
theorem zat_arr {D : va_G} {k : Nat → ClassId} {e0 : Nat} {m : Nat → Option zO} {a t ow : Nat} {fs : List zV} {H : Heap} (h : zat D k e0 m a (t, ow, fs) H) {ka : Nat} (hk : (100 ≤ t ∧ t < 120 ∧ ka = 0) ∨ (120 ≤ t ∧ t < 125 ∧ ka = 1) ∨ (t = 125 ∧ ka = 2) ∨ (t = 126 ∧ ka = 3) ∨ (t = 127 ∧ ka = 4)) : zArrA (k ka) fs a H := by
  have h2 := h.2
  rcases hk with ⟨h3, h4, rfl⟩ | ⟨h3, h4, rfl⟩ | ⟨rfl, rfl⟩ | ⟨rfl, rfl⟩ | ⟨rfl, rfl⟩
  · simp only [if_neg (show ¬ t < 100 by omega), if_pos h4] at h2; exact h2
  · simp only [if_neg (show ¬ t < 100 by omega), if_neg (show ¬ t < 120 by omega), if_pos h4] at h2; exact h2
  · simp at h2; exact h2
  · simp at h2; exact h2
  · simp at h2; exact h2
theorem zat_mk {D : va_G} {k : Nat → ClassId} {e0 : Nat} {m : Nat → Option zO} {a t ow : Nat} {fs : List zV} {H : Heap} (hf : ∀ v ∈ fs, zfit v) {ka : Nat} (hk : (100 ≤ t ∧ t < 120 ∧ ka = 0) ∨ (120 ≤ t ∧ t < 125 ∧ ka = 1) ∨ (t = 125 ∧ ka = 2) ∨ (t = 126 ∧ ka = 3) ∨ (t = 127 ∧ ka = 4)) (h : zArrA (k ka) fs a H) : zat D k e0 m a (t, ow, fs) H := by
  refine ⟨hf, ?_⟩
  rcases hk with ⟨h3, h4, rfl⟩ | ⟨h3, h4, rfl⟩ | ⟨rfl, rfl⟩ | ⟨rfl, rfl⟩ | ⟨rfl, rfl⟩
  · simp only [if_neg (show ¬ t < 100 by omega), if_pos h4]; exact h
  · simp only [if_neg (show ¬ t < 100 by omega), if_neg (show ¬ t < 120 by omega), if_pos h4]; exact h
  · simp; exact h
  · simp; exact h
  · simp; exact h
theorem z_arrOf {k : Nat → ClassId} {D : va_G} {s : State} (hK : va_K D vwCl (zTy k) s) (ka : Nat) {ty : FieldType} (h : (zTy k)[ka]? = some (k ka, ty)) (n : Nat) (f : Nat → Value) : s.isArrayOf (arrV (k ka) n f) ty := (hK.2 ka _ h).1 n f
theorem z_fits_set {fs : List zV} {j : Nat} {v : zV} (h : ∀ x ∈ fs, zfit x) (hv : zfit v) : ∀ x ∈ fs.set j v, zfit x := fun x hx => (List.mem_or_eq_of_mem_set hx).elim (h x) (fun e => e ▸ hv)
theorem zx_alen {a t ow n : Nat} {fs : List zV} (hd : decode M.2.1 pc = .ok (.arraylength, 1)) (ha : w.1 a = some (t, ow, fs)) (ht : 100 ≤ t ∧ t < 128) (hn : fs.length = n) (hb : n < 2000000000) (k : zX G M d av w0 Q (pc + 1) L (zI n :: st) w) : zX G M d av w0 Q pc L (zR a :: st) w := by
  intro p e s m below meth c H ls locs hC hY
  obtain ⟨-, hY1⟩ := zY_pop hY
  have hz := (hY1.2.1.2.2.2.2 a _ ha).1
  have hK := hC.2.2.2.2.2.2.2.2.2.2.2.1
  have kk := k p e s m below meth c H ls locs hC (zY_push (v := zI n) ⟨by omega, by omega⟩ hY1)
  have he : (arrV 0 fs.length (fun i => zv (fs.getD i zN))).slots.size.toInt32 = Int32.ofInt n := by rw [arrV_size, hn]; rfl
  have h4 : t < 120 ∨ (120 ≤ t ∧ t < 125) ∨ t = 125 ∨ t = 126 ∨ t = 127 := by omega
  rcases h4 with h4 | h4 | h4 | h4 | h4
  · exact W.alen hC.1 hC.2.1 (zat_arr hz (Or.inl ⟨ht.1, h4, rfl⟩)) (z_arrOf hK 0 rfl _ _) (by rw [arrV_size, hn]; rfl) rfl rfl hd kk
  · exact W.alen hC.1 hC.2.1 (zat_arr hz (Or.inr (Or.inl ⟨h4.1, h4.2, rfl⟩))) (z_arrOf hK 1 rfl _ _) (by rw [arrV_size, hn]; rfl) rfl rfl hd kk
  · exact W.alen hC.1 hC.2.1 (zat_arr hz (Or.inr (Or.inr (Or.inl ⟨h4, rfl⟩)))) (z_arrOf hK 2 rfl _ _) (by rw [arrV_size, hn]; rfl) rfl rfl hd kk
  · exact W.alen hC.1 hC.2.1 (zat_arr hz (Or.inr (Or.inr (Or.inr (Or.inl ⟨h4, rfl⟩))))) (z_arrOf hK 3 rfl _ _) (by rw [arrV_size, hn]; rfl) rfl rfl hd kk
  · exact W.alen hC.1 hC.2.1 (zat_arr hz (Or.inr (Or.inr (Or.inr (Or.inr ⟨h4, rfl⟩))))) (z_arrOf hK 4 rfl _ _) (by rw [arrV_size, hn]; rfl) rfl rfl hd kk
theorem zx_iaload {a t ow : Nat} {i : Int} {fs : List zV} {v : zV} (hd : decode M.2.1 pc = .ok (.iaload, 1)) (ha : w.1 a = some (t, ow, fs)) (ht : 100 ≤ t ∧ t < 120) (h0 : 0 ≤ i) (hv : fs[i.toNat]? = some v) (k : zX G M d av w0 Q (pc + 1) L (v :: st) w) : zX G M d av w0 Q pc L (zI i :: zR a :: st) w := by
  intro p e s m below meth c H ls locs hC hY
  obtain ⟨hi, hY1⟩ := zY_pop hY
  obtain ⟨-, hY2⟩ := zY_pop hY1
  have hz := (hY2.2.1.2.2.2.2 a _ ha).1
  have hl := (List.getElem?_eq_some_iff.mp hv).1
  refine W.iald hC.1 hC.2.1 (v := zv v) (zat_arr hz (Or.inl ⟨ht.1, ht.2, rfl⟩)) (z_arrOf hC.2.2.2.2.2.2.2.2.2.2.2.1 0 rfl _ _) (fun h => by cases h) (by rw [arrV_size]; exact z_in hi h0 hl) ?_ rfl rfl hd (k p e s m below meth c H ls locs hC (zY_push (hz.1 v (List.mem_of_getElem? hv)) hY2))
  rw [z_clamp hi, arrV_read _ _ hl, List.getD_eq_getElem?_getD, hv]
  rfl
theorem zx_iastore {a t ow : Nat} {i x : Int} {fs : List zV} (hd : decode M.2.1 pc = .ok (.iastore, 1)) (ha : w.1 a = some (t, ow, fs)) (ht : 100 ≤ t ∧ t < 120) (h0 : 0 ≤ i) (hl : i.toNat < fs.length) (k : zX G M d av w0 Q (pc + 1) L st (zput w a (t, ow, fs.set i.toNat (zI x)))) : zX G M d av w0 Q pc L (zI x :: zI i :: zR a :: st) w := by
  intro p e s m below meth c H ls locs hC hY
  obtain ⟨hx, hY1⟩ := zY_pop hY
  obtain ⟨hi, hY2⟩ := zY_pop hY1
  obtain ⟨-, hY3⟩ := zY_pop hY2
  have hz := (hY3.2.1.2.2.2.2 a _ ha).1
  have hc := zat_arr hz (Or.inl ⟨ht.1, ht.2, rfl⟩)
  refine W.iast hC.1 hC.2.1 hc (z_arrOf hC.2.2.2.2.2.2.2.2.2.2.2.1 0 rfl _ _) (fun h => by cases h) (by rw [arrV_size]; exact z_in hi h0 hl) rfl rfl hd fun H' e1 e2 e3 => ?_
  refine k p e s m below meth c H' ls _ hC (zY_put hY3 ha (show t ≠ 199 by omega) e2 (zTot_set hc e1 (k2_slotsz _ _ _) e3) e3 (zat_mk (z_fits_set hz.1 hx) (Or.inl ⟨ht.1, ht.2, rfl⟩) ?_))
  unfold zArrA
  rw [e1, z_clamp hi]
  exact congrArg some (zArr_set (v := zI x) hl)
theorem zx_laload {a t ow : Nat} {i : Int} {fs : List zV} {v : zV} (hd : decode M.2.1 pc = .ok (.laload, 1)) (ha : w.1 a = some (t, ow, fs)) (ht : 120 ≤ t ∧ t < 125) (h0 : 0 ≤ i) (hv : fs[i.toNat]? = some v) (k : zX G M d av w0 Q (pc + 1) L (v :: st) w) : zX G M d av w0 Q pc L (zI i :: zR a :: st) w := by
  intro p e s m below meth c H ls locs hC hY
  obtain ⟨hi, hY1⟩ := zY_pop hY
  obtain ⟨-, hY2⟩ := zY_pop hY1
  have hz := (hY2.2.1.2.2.2.2 a _ ha).1
  have hl := (List.getElem?_eq_some_iff.mp hv).1
  refine W.lald hC.1 hC.2.1 (v := zv v) (zat_arr hz (Or.inr (Or.inl ⟨ht.1, ht.2, rfl⟩))) (z_arrOf hC.2.2.2.2.2.2.2.2.2.2.2.1 1 rfl _ _) (fun h => by cases h) (by rw [arrV_size]; exact z_in hi h0 hl) ?_ rfl rfl hd (k p e s m below meth c H ls locs hC (zY_push (hz.1 v (List.mem_of_getElem? hv)) hY2))
  rw [z_clamp hi, arrV_read _ _ hl, List.getD_eq_getElem?_getD, hv]
  rfl
theorem zx_lastore {a t ow : Nat} {i x : Int} {fs : List zV} (hd : decode M.2.1 pc = .ok (.lastore, 1)) (ha : w.1 a = some (t, ow, fs)) (ht : 120 ≤ t ∧ t < 125) (h0 : 0 ≤ i) (hl : i.toNat < fs.length) (k : zX G M d av w0 Q (pc + 1) L st (zput w a (t, ow, fs.set i.toNat (zJ x)))) : zX G M d av w0 Q pc L (zJ x :: zI i :: zR a :: st) w := by
  intro p e s m below meth c H ls locs hC hY
  obtain ⟨hx, hY1⟩ := zY_pop hY
  obtain ⟨hi, hY2⟩ := zY_pop hY1
  obtain ⟨-, hY3⟩ := zY_pop hY2
  have hz := (hY3.2.1.2.2.2.2 a _ ha).1
  have hc := zat_arr hz (Or.inr (Or.inl ⟨ht.1, ht.2, rfl⟩))
  refine W.last hC.1 hC.2.1 hc (z_arrOf hC.2.2.2.2.2.2.2.2.2.2.2.1 1 rfl _ _) (fun h => by cases h) (by rw [arrV_size]; exact z_in hi h0 hl) rfl rfl hd fun H' e1 e2 e3 => ?_
  refine k p e s m below meth c H' ls _ hC (zY_put hY3 ha (show t ≠ 199 by omega) e2 (zTot_set hc e1 (k2_slotsz _ _ _) e3) e3 (zat_mk (z_fits_set hz.1 hx) (Or.inr (Or.inl ⟨ht.1, ht.2, rfl⟩)) ?_))
  unfold zArrA
  rw [e1, z_clamp hi]
  exact congrArg some (zArr_set (v := zJ x) hl)
theorem zx_aaload {a t ow : Nat} {i : Int} {fs : List zV} {v : zV} (hd : decode M.2.1 pc = .ok (.aaload, 1)) (ha : w.1 a = some (t, ow, fs)) (ht : t = 125 ∨ t = 126 ∨ t = 127) (h0 : 0 ≤ i) (hv : fs[i.toNat]? = some v) (k : zX G M d av w0 Q (pc + 1) L (v :: st) w) : zX G M d av w0 Q pc L (zI i :: zR a :: st) w := by
  intro p e s m below meth c H ls locs hC hY
  obtain ⟨hi, hY1⟩ := zY_pop hY
  obtain ⟨-, hY2⟩ := zY_pop hY1
  have hz := (hY2.2.1.2.2.2.2 a _ ha).1
  have hl := (List.getElem?_eq_some_iff.mp hv).1
  have kk := k p e s m below meth c H ls locs hC (zY_push (hz.1 v (List.mem_of_getElem? hv)) hY2)
  rcases ht with ht | ht | ht
  · refine W.aald hC.1 hC.2.1 (v := zv v) (zat_arr hz (Or.inr (Or.inr (Or.inl ⟨ht, rfl⟩)))) (z_arrOf hC.2.2.2.2.2.2.2.2.2.2.2.1 2 rfl _ _) rfl (fun h => by cases h) (by rw [arrV_size]; exact z_in hi h0 hl) ?_ rfl rfl hd kk
    rw [z_clamp hi, arrV_read _ _ hl, List.getD_eq_getElem?_getD, hv]
    rfl
  · refine W.aald hC.1 hC.2.1 (v := zv v) (zat_arr hz (Or.inr (Or.inr (Or.inr (Or.inl ⟨ht, rfl⟩))))) (z_arrOf hC.2.2.2.2.2.2.2.2.2.2.2.1 3 rfl _ _) rfl (fun h => by cases h) (by rw [arrV_size]; exact z_in hi h0 hl) ?_ rfl rfl hd kk
    rw [z_clamp hi, arrV_read _ _ hl, List.getD_eq_getElem?_getD, hv]
    rfl
  · refine W.aald hC.1 hC.2.1 (v := zv v) (zat_arr hz (Or.inr (Or.inr (Or.inr (Or.inr ⟨ht, rfl⟩))))) (z_arrOf hC.2.2.2.2.2.2.2.2.2.2.2.1 4 rfl _ _) rfl (fun h => by cases h) (by rw [arrV_size]; exact z_in hi h0 hl) ?_ rfl rfl hd kk
    rw [z_clamp hi, arrV_read _ _ hl, List.getD_eq_getElem?_getD, hv]
    rfl
/-- null is put into an array of goals or modes -/
theorem zx_aastoreN {a t ow : Nat} {i : Int} {fs : List zV} (hd : decode M.2.1 pc = .ok (.aastore, 1)) (ha : w.1 a = some (t, ow, fs)) (ht : t = 125 ∨ t = 126) (h0 : 0 ≤ i) (hl : i.toNat < fs.length) (k : zX G M d av w0 Q (pc + 1) L st (zput w a (t, ow, fs.set i.toNat zN))) : zX G M d av w0 Q pc L (zN :: zI i :: zR a :: st) w := by
  intro p e s m below meth c H ls locs hC hY
  obtain ⟨hx, hY1⟩ := zY_pop hY
  obtain ⟨hi, hY2⟩ := zY_pop hY1
  obtain ⟨-, hY3⟩ := zY_pop hY2
  have hz := (hY3.2.1.2.2.2.2 a _ ha).1
  rcases ht with ht | ht
  · have hc := zat_arr hz (Or.inr (Or.inr (Or.inl ⟨ht, rfl⟩)))
    refine va_WaastN hC.1 hC.2.1 hc (z_arrOf hC.2.2.2.2.2.2.2.2.2.2.2.1 2 rfl _ _) (fun h => by cases h) (by rw [arrV_size]; exact z_in hi h0 hl) rfl rfl hd fun H' e1 e2 e3 => ?_
    refine k p e s m below meth c H' ls _ hC (zY_put hY3 ha (show t ≠ 199 by omega) e2 (zTot_set hc e1 (k2_slotsz _ _ _) e3) e3 (zat_mk (z_fits_set hz.1 hx) (Or.inr (Or.inr (Or.inl ⟨ht, rfl⟩))) ?_))
    unfold zArrA
    rw [e1, z_clamp hi]
    exact congrArg some (zArr_set (v := zN) hl)
  · have hc := zat_arr hz (Or.inr (Or.inr (Or.inr (Or.inl ⟨ht, rfl⟩))))
    refine va_WaastN hC.1 hC.2.1 hc (z_arrOf hC.2.2.2.2.2.2.2.2.2.2.2.1 3 rfl _ _) (fun h => by cases h) (by rw [arrV_size]; exact z_in hi h0 hl) rfl rfl hd fun H' e1 e2 e3 => ?_
    refine k p e s m below meth c H' ls _ hC (zY_put hY3 ha (show t ≠ 199 by omega) e2 (zTot_set hc e1 (k2_slotsz _ _ _) e3) e3 (zat_mk (z_fits_set hz.1 hx) (Or.inr (Or.inr (Or.inr (Or.inl ⟨ht, rfl⟩)))) ?_))
    unfold zArrA
    rw [e1, z_clamp hi]
    exact congrArg some (zArr_set (v := zN) hl)
/-- a goal or a mode is put into its array -/
theorem zx_aastore {a t ow q cq owq : Nat} {i : Int} {fs fq : List zV} (hd : decode M.2.1 pc = .ok (.aastore, 1)) (ha : w.1 a = some (t, ow, fs)) (hq : w.1 q = some (cq, owq, fq)) (ht : (t = 125 ∧ cq = 3) ∨ (t = 126 ∧ cq = 5)) (h0 : 0 ≤ i) (hl : i.toNat < fs.length) (k : zX G M d av w0 Q (pc + 1) L st (zput w a (t, ow, fs.set i.toNat (zR q)))) : zX G M d av w0 Q pc L (zR q :: zI i :: zR a :: st) w := by
  intro p e s m below meth c H ls locs hC hY
  obtain ⟨hx, hY1⟩ := zY_pop hY
  obtain ⟨hi, hY2⟩ := zY_pop hY1
  obtain ⟨-, hY3⟩ := zY_pop hY2
  have hz := (hY3.2.1.2.2.2.2 a _ ha).1
  have hzq := (hY3.2.1.2.2.2.2 q _ hq).1
  have hK := hC.2.2.2.2.2.2.2.2.2.2.2.1
  have hin2 : ¬ Int32.ofInt i < 0 ∧ (Int32.ofInt i).toNatClampNeg < fs.length := by
    have := z_in hi h0 hl
    exact ⟨fun h => this (Or.inl h), by rw [z_clamp hi]; exact hl⟩
  obtain ⟨r, h1, cv, q1, q2, q3, -⟩ := zat_obj hzq (show cq < 100 by omega)
  obtain ⟨-, hfc, kC, hkC, hkind⟩ := hK.1 cq _ h1
  rcases ht with ⟨rfl, rfl⟩ | ⟨rfl, rfl⟩
  · have hc := zat_arr hz (Or.inr (Or.inr (Or.inl ⟨rfl, rfl⟩)))
    obtain ⟨kA, comp, g1, g2, g3, g4⟩ := (hK.2 2 _ rfl).2
    have hcmp : comp = G.2.2.1.1 3 := by
      have e1 : r = (RX3, TX3, 4) := Option.some.inj (h1.symm.trans rfl)
      rw [e1] at hfc
      exact Option.some.inj (g3.symm.trans hfc)
    refine W.aast hC.1 hC.2.1 hc (fun _ h => by cases h) (fun h => by cases h) g1 g2 rfl (by rw [hcmp]; exact hkC) (by rw [arrV_size]; exact hin2) q1 (fun _ h => by rw [q3] at h; cases h) (by rw [q2]; exact hkC) (by rw [q2, hcmp]; exact Vm.assignable_self _ _) rfl rfl hd fun H' e1 e2 e3 => ?_
    refine k p e s m below meth c H' ls _ hC (zY_put hY3 ha (show (125 : Nat) ≠ 199 by omega) e2 (zTot_set hc e1 (k2_slotsz _ _ _) e3) e3 (zat_mk (z_fits_set hz.1 hx) (Or.inr (Or.inr (Or.inl ⟨rfl, rfl⟩))) ?_))
    unfold zArrA
    rw [e1, z_clamp hi]
    exact congrArg some (zArr_set (v := zR q) hl)
  · have hc := zat_arr hz (Or.inr (Or.inr (Or.inr (Or.inl ⟨rfl, rfl⟩))))
    obtain ⟨kA, comp, g1, g2, g3, g4⟩ := (hK.2 3 _ rfl).2
    have hcmp : comp = G.2.2.1.1 5 := by
      have e1 : r = (RX5, TX5, 9) := Option.some.inj (h1.symm.trans rfl)
      rw [e1] at hfc
      exact Option.some.inj (g3.symm.trans hfc)
    refine W.aast hC.1 hC.2.1 hc (fun _ h => by cases h) (fun h => by cases h) g1 g2 rfl (by rw [hcmp]; exact hkC) (by rw [arrV_size]; exact hin2) q1 (fun _ h => by rw [q3] at h; cases h) (by rw [q2]; exact hkC) (by rw [q2, hcmp]; exact Vm.assignable_self _ _) rfl rfl hd fun H' e1 e2 e3 => ?_
    refine k p e s m below meth c H' ls _ hC (zY_put hY3 ha (show (126 : Nat) ≠ 199 by omega) e2 (zTot_set hc e1 (k2_slotsz _ _ _) e3) e3 (zat_mk (z_fits_set hz.1 hx) (Or.inr (Or.inr (Or.inr (Or.inl ⟨rfl, rfl⟩)))) ?_))
    unfold zArrA
    rw [e1, z_clamp hi]
    exact congrArg some (zArr_set (v := zR q) hl)
/-! makings -/
def zNI (own : String) (idx ci N : Nat) (fs : List zV) : Prop :=
  ∃ (C : String) (T : u_T) (ty : Nat → FieldType), vwCl[ci]? = some (C, T, N) ∧ ci < 100 ∧ (∀ w ∈ u_ws C T N, w ∈ zWS) ∧ (∀ k, k < N → parseFieldDescriptor (T k).2.2.1 = some (ty k)) ∧ Cond.classLink own idx C ∈ zWS ∧ Cond.instantiable C N ∈ zWS ∧ Cond.initialized C ∈ zWS ∧ (∀ j, j < N → defaultValue (ty j) = vp_V (fs.map zv) j) ∧ ∀ v ∈ fs, zfit v
theorem zx_new {idx ci N : Nat} {fs : List zV} (hd : decode M.2.1 pc = .ok (.new idx, 3)) (hn : zNI M.1.cls idx ci N fs) (b1 : w.2.1 + 1 ≤ G.2.2.2.2.1) (b2 : w.2.2 + N ≤ G.2.2.2.2.2) (k : zX G M d av w0 Q (pc + 3) L (zR w.2.1 :: st) (znew w (ci, 0, fs) N)) : zX G M d av w0 Q pc L st w := by
  intro p e s m below meth c H ls locs hC hY
  obtain ⟨C, T, ty, f1, f2, f3, f4, f5, f6, f7, f8, f9⟩ := hn
  have hts := hC.2.2.2.2.1
  have hin : ∀ w ∈ u_ws C T N, w ∈ zws M := fun x hx => List.mem_cons_of_mem _ (f3 x hx)
  have hK := hC.2.2.2.2.2.2.2.2.2.2.2.1
  have h4 := hY.2.2.2.1
  have h5 := hY.2.2.2.2.1
  have hsz : H.size = w.2.1 := hY.2.1.1
  refine W.newc hC.1 hC.2.1 hC.2.2.2.2.2.1 (hts _ (List.mem_cons_of_mem _ f5)) (hts _ (List.mem_cons_of_mem _ f6)) (hts _ (List.mem_cons_of_mem _ f7)) rfl hd (show w.2.1 - w0.2.1 + 1 ≤ G.2.2.2.2.1 - w0.2.1 by omega) (show w.2.2 - w0.2.2 + N ≤ G.2.2.2.2.2 - w0.2.2 by omega) fun cC kC g1 g2 g3 g4 => ?_
  have hkn := hK.1 ci _ f1
  have hc1 : cC = G.2.2.1.1 ci := Option.some.inj (g1.symm.trans hkn.2.1)
  subst hc1
  have hZ : zDy G M w0 L (zR w.2.1 :: st) (znew w (ci, 0, fs) N) s (H.push { cls := G.2.2.1.1 ci, slots := kC.instanceTypes.map defaultValue, vm := .none }) ls locs := by
    refine zY_new hY (by simpa using g4) b1 b2 ⟨f9, ?_⟩
    rw [if_pos f2]
    refine ⟨_, f1, t_OB.to (u_born ty hts hin hkn g2 ?_ f4) f8⟩
    rw [← hsz]
    simp [blank]
  have kk := k p e s m below meth c _ ls locs hC hZ
  rw [← hsz] at kk
  have e1 : (znew w (ci, 0, fs) N).2.1 - w0.2.1 = w.2.1 - w0.2.1 + 1 := by show w.2.1 + 1 - w0.2.1 = _; omega
  have e2 : (znew w (ci, 0, fs) N).2.2 - w0.2.2 = w.2.2 - w0.2.2 + N := by show w.2.2 + N - w0.2.2 = _; omega
  rw [e1, e2] at kk
  exact kk
theorem z_arrName {k : Nat → ClassId} {D : va_G} {s : State} (hK : va_K D vwCl (zTy k) s) : s.vm.findClass ("[" ++ FieldType.int.toString) = some (k 0) ∧ s.vm.findClass ("[" ++ FieldType.long.toString) = some (k 1) ∧ s.vm.findClass ("[" ++ (FieldType.object "ModedMill$Goal").toString) = some (k 2) ∧ s.vm.findClass ("[" ++ (FieldType.object "ModedMill$Mode").toString) = some (k 3) ∧ s.vm.findClass ("[" ++ (FieldType.object "java/lang/Object").toString) = some (k 4) := by
  obtain ⟨_, _, _, _, _, h2⟩ := (hK.2 2 _ rfl).2
  obtain ⟨_, _, _, _, _, h3⟩ := (hK.2 3 _ rfl).2
  obtain ⟨_, _, _, _, _, h4⟩ := (hK.2 4 _ rfl).2
  exact ⟨(hK.2 0 _ rfl).2, (hK.2 1 _ rfl).2, h2, h3, h4⟩
theorem zArr_rep {cA : ClassId} {n : Nat} {v : zV} {x : Value} (h : zv v = x) : ({ cls := cA, slots := Array.replicate n x, vm := .none } : Cell) = arrV cA (List.replicate n v).length (fun i => zv ((List.replicate n v).getD i zN)) := by
  rw [arrV_new, List.length_replicate]
  unfold arrV
  congr 1
  apply Array.ext
  · simp
  · intro j h1 h2
    simp at h1
    simp [h, List.getD_eq_getElem?_getD, h1]
theorem zx_newarray {n : Nat} {i : Int} (t : Nat) (hd : decode M.2.1 pc = .ok (.newarray .int, 2)) (hw : Cond.arrayClass .int ∈ zWS) (ht : 100 ≤ t ∧ t < 120) (hi : i = n) (hn : n < 100000000) (b1 : w.2.1 + 1 ≤ G.2.2.2.2.1) (b2 : w.2.2 + n ≤ G.2.2.2.2.2) (k : zX G M d av w0 Q (pc + 2) L (zR w.2.1 :: st) (znew w (t, 0, List.replicate n (zI 0)) n)) : zX G M d av w0 Q pc L (zI i :: st) w := by
  intro p e s m below meth c H ls locs hC hY
  subst hi
  obtain ⟨hf, hY1⟩ := zY_pop hY
  have hts := hC.2.2.2.2.1
  have hK := hC.2.2.2.2.2.2.2.2.2.2.2.1
  have h4 := hY.2.2.2.1
  have h5 := hY.2.2.2.2.1
  have hsz : H.size = w.2.1 := hY.2.1.1
  have hcl : (Int32.ofInt n).toNatClampNeg = n := by rw [z_clamp hf]; simp
  refine W.newa (atype := .int) hC.1 hC.2.1 (hts _ (List.mem_cons_of_mem _ hw)) rfl hd rfl (fun h => by have := (zi_lt hf (z32_lit (by decide) (by decide) : z32 0)).mp h; omega) (by rw [hcl]; show n * 4 ≤ _; omega) (show w.2.1 - w0.2.1 + 1 ≤ G.2.2.2.2.1 - w0.2.1 by omega) (by rw [hcl]; show w.2.2 - w0.2.2 + n ≤ G.2.2.2.2.2 - w0.2.2; omega) fun cA kA comp g1 g2 g3 => ?_
  rw [hcl]
  have hc1 : cA = G.2.2.2.1 0 := Option.some.inj (g1.symm.trans (z_arrName hK).1)
  subst hc1
  have kk := k p e s m below meth c _ ls locs hC (zY_new (c := { cls := G.2.2.2.1 0, slots := Array.replicate n (defaultValue (newarray.typeOf .int)), vm := .none }) hY1 (by simp) b1 b2 (zat_mk (fun v hv => by rw [List.eq_of_mem_replicate hv]; exact z32_lit (by decide) (by decide)) (Or.inl ⟨ht.1, ht.2, rfl⟩) (by
    unfold zArrA
    rw [← hsz, ← zArr_rep (v := zI 0) (show zv (zI 0) = defaultValue (newarray.typeOf .int) from rfl)]
    simp)))
  rw [← hsz] at kk
  have e1 : (znew w (t, 0, List.replicate n (zI 0)) n).2.1 - w0.2.1 = w.2.1 - w0.2.1 + 1 := by show w.2.1 + 1 - w0.2.1 = _; omega
  have e2 : (znew w (t, 0, List.replicate n (zI 0)) n).2.2 - w0.2.2 = w.2.2 - w0.2.2 + n := by show w.2.2 + n - w0.2.2 = _; omega
  rw [e1, e2] at kk
  exact kk
theorem zx_newarrayL {n : Nat} {i : Int} (hd : decode M.2.1 pc = .ok (.newarray .long, 2)) (hw : Cond.arrayClass .long ∈ zWS) (hi : i = n) (hn : n < 10000000) (b1 : w.2.1 + 1 ≤ G.2.2.2.2.1) (b2 : w.2.2 + n ≤ G.2.2.2.2.2) (k : zX G M d av w0 Q (pc + 2) L (zR w.2.1 :: st) (znew w (120, 0, List.replicate n (zJ 0)) n)) : zX G M d av w0 Q pc L (zI i :: st) w := by
  intro p e s m below meth c H ls locs hC hY
  subst hi
  obtain ⟨hf, hY1⟩ := zY_pop hY
  have hts := hC.2.2.2.2.1
  have hK := hC.2.2.2.2.2.2.2.2.2.2.2.1
  have h4 := hY.2.2.2.1
  have h5 := hY.2.2.2.2.1
  have hsz : H.size = w.2.1 := hY.2.1.1
  have hcl : (Int32.ofInt n).toNatClampNeg = n := by rw [z_clamp hf]; simp
  refine W.newa (atype := .long) hC.1 hC.2.1 (hts _ (List.mem_cons_of_mem _ hw)) rfl hd rfl (fun h => by have := (zi_lt hf (z32_lit (by decide) (by decide) : z32 0)).mp h; omega) (by rw [hcl]; show n * 8 ≤ _; omega) (show w.2.1 - w0.2.1 + 1 ≤ G.2.2.2.2.1 - w0.2.1 by omega) (by rw [hcl]; show w.2.2 - w0.2.2 + n ≤ G.2.2.2.2.2 - w0.2.2; omega) fun cA kA comp g1 g2 g3 => ?_
  rw [hcl]
  have hc1 : cA = G.2.2.2.1 1 := Option.some.inj (g1.symm.trans (z_arrName hK).2.1)
  subst hc1
  have kk := k p e s m below meth c _ ls locs hC (zY_new (c := { cls := G.2.2.2.1 1, slots := Array.replicate n (defaultValue (newarray.typeOf .long)), vm := .none }) hY1 (by simp) b1 b2 (zat_mk (fun v hv => by rw [List.eq_of_mem_replicate hv]; exact ⟨by decide, by decide⟩) (Or.inr (Or.inl ⟨by omega, by omega, rfl⟩)) (by
    unfold zArrA
    rw [← hsz, ← zArr_rep (v := zJ 0) (show zv (zJ 0) = defaultValue (newarray.typeOf .long) from rfl)]
    simp)))
  rw [← hsz] at kk
  have e1 : (znew w (120, 0, List.replicate n (zJ 0)) n).2.1 - w0.2.1 = w.2.1 - w0.2.1 + 1 := by show w.2.1 + 1 - w0.2.1 = _; omega
  have e2 : (znew w (120, 0, List.replicate n (zJ 0)) n).2.2 - w0.2.2 = w.2.2 - w0.2.2 + n := by show w.2.2 + n - w0.2.2 = _; omega
  rw [e1, e2] at kk
  exact kk
/-- an array of goals (125) or modes (126) -/
theorem zx_anewarray {n idx : Nat} {i : Int} {C : String} {ka : Nat} (t : Nat) (hd : decode M.2.1 pc = .ok (.anewarray idx, 3)) (hw : Cond.classLink M.1.cls idx C ∈ zWS) (ht : (t = 125 ∧ ka = 2 ∧ C = "ModedMill$Goal") ∨ (t = 126 ∧ ka = 3 ∧ C = "ModedMill$Mode") ∨ (t = 127 ∧ ka = 4 ∧ C = "java/lang/Object")) (hi : i = n) (hn : n < 100000000) (b1 : w.2.1 + 1 ≤ G.2.2.2.2.1) (b2 : w.2.2 + n ≤ G.2.2.2.2.2) (k : zX G M d av w0 Q (pc + 3) L (zR w.2.1 :: st) (znew w (t, 0, List.replicate n zN) n)) : zX G M d av w0 Q pc L (zI i :: st) w := by
  intro p e s m below meth c H ls locs hC hY
  subst hi
  obtain ⟨hf, hY1⟩ := zY_pop hY
  have hts := hC.2.2.2.2.1
  have hK := hC.2.2.2.2.2.2.2.2.2.2.2.1
  have hE := hC.2.2.2.2.2.2.2.2.2.2.2.2
  have h4 := hY.2.2.2.1
  have h5 := hY.2.2.2.2.1
  have hsz : H.size = w.2.1 := hY.2.1.1
  have hcl : (Int32.ofInt n).toNatClampNeg = n := by rw [z_clamp hf]; simp
  have hao : va_AO C s := hE.2.2.2.2.2.1 C (by rcases ht with ⟨-, -, h⟩ | ⟨-, -, h⟩ | ⟨-, -, h⟩ <;> rw [h]; exact Or.inl rfl; exact Or.inr (Or.inl rfl); exact Or.inr (Or.inr rfl))
  refine W.anew hC.1 hC.2.1 hC.2.2.2.2.2.1 (hts _ (List.mem_cons_of_mem _ hw)) (va_AO.use hao) rfl hd rfl (fun h => by have := (zi_lt hf (z32_lit (by decide) (by decide) : z32 0)).mp h; omega) (by rw [hcl]; omega) (show w.2.1 - w0.2.1 + 1 ≤ G.2.2.2.2.1 - w0.2.1 by omega) (by rw [hcl]; show w.2.2 - w0.2.2 + n ≤ G.2.2.2.2.2 - w0.2.2; omega) fun cA kA comp g1 g2 g3 g4 => ?_
  rw [hcl]
  have hc1 : cA = G.2.2.2.1 ka := by
    rcases ht with ⟨-, h2, h3⟩ | ⟨-, h2, h3⟩ | ⟨-, h2, h3⟩ <;> subst h2 <;> subst h3
    · exact Option.some.inj (g1.symm.trans (z_arrName hK).2.2.1)
    · exact Option.some.inj (g1.symm.trans (z_arrName hK).2.2.2.1)
    · exact Option.some.inj (g1.symm.trans (z_arrName hK).2.2.2.2)
  subst hc1
  have kk := k p e s m below meth c _ ls locs hC (zY_new (c := { cls := G.2.2.2.1 ka, slots := Array.replicate n .null, vm := .none }) hY1 (by simp) b1 b2 (zat_mk (ka := ka) (fun v hv => by rw [List.eq_of_mem_replicate hv]; exact trivial) (by rcases ht with ⟨h1, h2, -⟩ | ⟨h1, h2, -⟩ | ⟨h1, h2, -⟩; exact Or.inr (Or.inr (Or.inl ⟨h1, h2⟩)); exact Or.inr (Or.inr (Or.inr (Or.inl ⟨h1, h2⟩))); exact Or.inr (Or.inr (Or.inr (Or.inr ⟨h1, h2⟩)))) (by
    unfold zArrA
    rw [← hsz, ← zArr_rep (v := zN) (show zv zN = Value.null from rfl)]
    simp)))
  rw [← hsz] at kk
  have e1 : (znew w (t, 0, List.replicate n zN) n).2.1 - w0.2.1 = w.2.1 - w0.2.1 + 1 := by show w.2.1 + 1 - w0.2.1 = _; omega
  have e2 : (znew w (t, 0, List.replicate n zN) n).2.2 - w0.2.2 = w.2.2 - w0.2.2 + n := by show w.2.2 + n - w0.2.2 = _; omega
  rw [e1, e2] at kk
  exact kk
/-- the owner of a cell is told anew (nothing happens) -/
theorem zx_own {a : Nat} {t t' ow ow' : Nat} {fs : List zV} (ha : w.1 a = some (t, ow, fs)) (ht : t = t' ∨ (130 ≤ t ∧ t < 160 ∧ 130 ≤ t' ∧ t' < 160) ∨ (160 ≤ t ∧ t < 190 ∧ 160 ≤ t' ∧ t' < 190) ∨ (100 ≤ t ∧ t < 120 ∧ 100 ≤ t' ∧ t' < 120)) (hh : t ≠ 199) (k : zX G M d av w0 Q pc L st (zput w a (t', ow', fs))) : zX G M d av w0 Q pc L st w := by
  intro p e s m below meth c H ls locs hC hY
  refine k p e s m below meth c H ls locs hC ?_
  obtain ⟨h1, h2, h3, h4, h5, h6, h7⟩ := hY
  have hz := (h2.2.2.2.2 a _ ha).1
  have hkeep : ∀ x, w.1 x = some (199, a, []) → H[x]? = H[x]? ∧ zup w.1 a (t', ow', fs) x = some (199, a, []) := fun x hx => by
    have hxa : x ≠ a := fun e => by
      rw [e, ha] at hx
      cases hx
      exact hh rfl
    exact ⟨rfl, by unfold zup; rw [if_neg hxa]; exact hx⟩
  have hz' := zat_frame (m' := zup w.1 a (t', ow', fs)) (H' := H) hz rfl hkeep
  have hz2 : zat G.2.2.1 G.2.2.2.1 G.2.1 (zup w.1 a (t', ow', fs)) a (t', ow', fs) H := by
    refine ⟨hz'.1, ?_⟩
    have h9 := hz'.2
    rcases ht with ht | ⟨a1, a2, a3, a4⟩ | ⟨a1, a2, a3, a4⟩ | ⟨a1, a2, a3, a4⟩
    · subst ht; exact h9
    · simp only [if_neg (show ¬ t < 100 by omega), if_neg (show ¬ t < 120 by omega), if_neg (show ¬ t < 125 by omega), if_neg (show ¬ t = 125 by omega), if_neg (show ¬ t = 126 by omega), if_neg (show ¬ t = 127 by omega), if_pos a2] at h9
      simp only [if_neg (show ¬ t' < 100 by omega), if_neg (show ¬ t' < 120 by omega), if_neg (show ¬ t' < 125 by omega), if_neg (show ¬ t' = 125 by omega), if_neg (show ¬ t' = 126 by omega), if_neg (show ¬ t' = 127 by omega), if_pos a4]
      exact h9
    · simp only [if_neg (show ¬ t < 100 by omega), if_neg (show ¬ t < 120 by omega), if_neg (show ¬ t < 125 by omega), if_neg (show ¬ t = 125 by omega), if_neg (show ¬ t = 126 by omega), if_neg (show ¬ t = 127 by omega), if_neg (show ¬ t < 160 by omega), if_pos a2] at h9
      simp only [if_neg (show ¬ t' < 100 by omega), if_neg (show ¬ t' < 120 by omega), if_neg (show ¬ t' < 125 by omega), if_neg (show ¬ t' = 125 by omega), if_neg (show ¬ t' = 126 by omega), if_neg (show ¬ t' = 127 by omega), if_neg (show ¬ t' < 160 by omega), if_pos a4]
      exact h9
    · simp only [if_neg (show ¬ t < 100 by omega), if_pos a2] at h9
      simp only [if_neg (show ¬ t' < 100 by omega), if_pos a4]
      exact h9
  refine ⟨h1, zHp_put h2 ha hh rfl rfl (fun _ _ => rfl) hz2, fun q hq => ?_, h4, h5, h6, h7⟩
  by_cases c : q = a
  · rw [c]; exact h3 a (by rw [ha]; simp)
  · exact h3 q (by unfold zput zup at hq; simp only [if_neg c] at hq; exact hq)
/-- a weaker end -/
theorem zx_conseq {Q' : zQ} (h : ∀ o w', Q' o w' → Q o w') (k : zX G M d av w0 Q' pc L st w) : zX G M d av w0 Q pc L st w := by
  intro p e s m below meth c H ls locs hC hY T hT X
  obtain ⟨t, a1, o, b1, b2, b3⟩ := k p e s m below meth c H ls locs hC hY T hT X
  refine ⟨t, a1, o, b1, b2, ?_⟩
  rcases b3 with ⟨⟨v, w', c1, c2, c3⟩, c4⟩ | ⟨q, c1, E, ce, L', ⟨i, w', d1, d2, d3, d4⟩, c2⟩
  · exact Or.inl ⟨⟨v, w', c1, h _ _ c2, c3⟩, c4⟩
  · exact Or.inr ⟨q, c1, E, ce, L', ⟨i, w', d1, d2, h _ _ d3, d4⟩, c2⟩
end ZHEAP
