/-! Own rows: tables and lists, seen from inside. -/
def zTb (cols cap : Nat) (xs : List Int) : List zV := zI cols :: zI cap :: xs.map Sum.inl
def zLs (cap : Nat) (ys : List Nat) : List zV := zI cap :: ys.map (fun y => zR y)
theorem zTb_inj {c c' k k' : Nat} {xs ys : List Int} (h : zTb c k xs = zTb c' k' ys) : c = c' ∧ k = k' ∧ xs = ys := by
  simp only [zTb, List.cons.injEq, Sum.inl.injEq] at h
  obtain ⟨h1, h2, h3⟩ := h
  refine ⟨by omega, by omega, ?_⟩
  exact (List.map_inj_right (fun _ _ e => Sum.inl.inj e)).mp h3
theorem zLs_inj {k k' : Nat} {xs ys : List Nat} (h : zLs k xs = zLs k' ys) : k = k' ∧ xs = ys := by
  simp only [zLs, List.cons.injEq, Sum.inl.injEq] at h
  obtain ⟨h2, h3⟩ := h
  refine ⟨by omega, ?_⟩
  exact (List.map_inj_right (fun _ _ e => by cases e; rfl)).mp h3
theorem z_arrC {cA : ClassId} {n m : Nat} {f g : Nat → Value} (h : n = m) (e : ∀ i, i < n → f i = g i) : arrV cA n f = arrV cA m g := by
  subst h
  unfold arrV
  congr 1
  apply Array.ext
  · simp
  · intro i h1 h2
    simp at h1
    simp [e i h1]
section ZOPEN
variable {G : zG} {M : zMd} {d : Nat} {av : List zV} {w0 : zW} {Q : zQ} {pc : Nat} {L : List (Option zV)} {st : List zV} {w : zW}
/-- one heap seen as two worlds of one size -/
theorem zY_see {m' : Nat → Option zO} {s : State} {H : Heap} {ls : Array Slot} {locs : List Loc} (hY : zDy G M w0 L st w s H ls locs) (hd : ∀ q, m' q ≠ none → w.1 q ≠ none ∨ zA w0 q) (hz : ∀ a ob, m' a = some ob → zat G.2.2.1 G.2.2.2.1 G.2.1 m' a ob H ∧ a < H.size) : zDy G M w0 L st (m', w.2) s H ls locs := by
  obtain ⟨h1, h2, h3, h4, h5, h6, h7⟩ := hY
  exact ⟨h1, ⟨h2.1, h2.2.1, h2.2.2.1, h2.2.2.2.1, hz⟩, fun q hq => (hd q hq).elim (h3 q) id, h4, h5, h6, h7⟩
theorem zat_tab {D : va_G} {k : Nat → ClassId} {e0 : Nat} {m : Nat → Option zO} {a t ow : Nat} {fs : List zV} {H : Heap} (h : zat D k e0 m a (t, ow, fs) H) (ht : 130 ≤ t ∧ t < 160) : zTab D k m a fs H := by
  have h2 := h.2
  simp only [if_neg (show ¬ t < 100 by omega), if_neg (show ¬ t < 120 by omega), if_neg (show ¬ t < 125 by omega), if_neg (show ¬ t = 125 by omega), if_neg (show ¬ t = 126 by omega), if_neg (show ¬ t = 127 by omega), if_pos ht.2] at h2
  exact h2
theorem zat_tabM {D : va_G} {k : Nat → ClassId} {e0 : Nat} {m : Nat → Option zO} {a t ow : Nat} {fs : List zV} {H : Heap} (hf : ∀ v ∈ fs, zfit v) (ht : 130 ≤ t ∧ t < 160) (h : zTab D k m a fs H) : zat D k e0 m a (t, ow, fs) H := by
  refine ⟨hf, ?_⟩
  simp only [if_neg (show ¬ t < 100 by omega), if_neg (show ¬ t < 120 by omega), if_neg (show ¬ t < 125 by omega), if_neg (show ¬ t = 125 by omega), if_neg (show ¬ t = 126 by omega), if_neg (show ¬ t = 127 by omega), if_pos ht.2]
  exact h
theorem zat_lst {D : va_G} {k : Nat → ClassId} {e0 : Nat} {m : Nat → Option zO} {a t ow : Nat} {fs : List zV} {H : Heap} (h : zat D k e0 m a (t, ow, fs) H) (ht : 160 ≤ t ∧ t < 190) : zLst D k e0 m a fs H := by
  have h2 := h.2
  simp only [if_neg (show ¬ t < 100 by omega), if_neg (show ¬ t < 120 by omega), if_neg (show ¬ t < 125 by omega), if_neg (show ¬ t = 125 by omega), if_neg (show ¬ t = 126 by omega), if_neg (show ¬ t = 127 by omega), if_neg (show ¬ t < 160 by omega), if_pos ht.2] at h2
  exact h2
theorem zat_lstM {D : va_G} {k : Nat → ClassId} {e0 : Nat} {m : Nat → Option zO} {a t ow : Nat} {fs : List zV} {H : Heap} (hf : ∀ v ∈ fs, zfit v) (ht : 160 ≤ t ∧ t < 190) (h : zLst D k e0 m a fs H) : zat D k e0 m a (t, ow, fs) H := by
  refine ⟨hf, ?_⟩
  simp only [if_neg (show ¬ t < 100 by omega), if_neg (show ¬ t < 120 by omega), if_neg (show ¬ t < 125 by omega), if_neg (show ¬ t = 125 by omega), if_neg (show ¬ t = 126 by omega), if_neg (show ¬ t = 127 by omega), if_neg (show ¬ t < 160 by omega), if_pos ht.2]
  exact h
theorem zat_objM {D : va_G} {k : Nat → ClassId} {e0 : Nat} {m : Nat → Option zO} {a ci ow : Nat} {fs : List zV} {H : Heap} (hf : ∀ v ∈ fs, zfit v) (hc : ci < 100) (h : va_at D vwCl (a, .inr (ci, fs.map zv)) H) : zat D k e0 m a (ci, ow, fs) H := by
  refine ⟨hf, ?_⟩
  rw [if_pos hc]
  exact h
theorem zat_hid {D : va_G} {k : Nat → ClassId} {e0 : Nat} {m : Nat → Option zO} {a ow : Nat} {H : Heap} : zat D k e0 m a (199, ow, []) H := by
  refine ⟨fun v hv => absurd hv List.not_mem_nil, ?_⟩
  simp
/-- two places are seen anew -/
theorem zY_two {a h : Nat} {obA obH : zO} {s : State} {H : Heap} {ls : Array Slot} {locs : List Loc} (hY : zDy G M w0 L st w s H ls locs) {oa oh : zO} (ha : w.1 a = some oa) (hh : w.1 h = some oh) (hne : a ≠ h) (hoa : oa.1 ≠ 199) (hoh : oh.1 ≠ 199 ∨ oh = (199, a, []))
    (zA' : zat G.2.2.1 G.2.2.2.1 G.2.1 (zup (zup w.1 a obA) h obH) a obA H) (zH' : zat G.2.2.1 G.2.2.2.1 G.2.1 (zup (zup w.1 a obA) h obH) h obH H) : zDy G M w0 L st (zput (zput w a obA) h obH) s H ls locs := by
  have hz := hY.2.1.2.2.2.2
  show zDy G M w0 L st (zup (zup w.1 a obA) h obH, w.2) s H ls locs
  refine zY_see (w := w) (m' := zup (zup w.1 a obA) h obH) hY (fun q hq => ?_) (fun b ob hb => ?_)
  · unfold zup at hq
    by_cases c1 : q = h
    · left; rw [c1, hh]; simp
    · by_cases c2 : q = a
      · left; rw [c2, ha]; simp
      · simp only [c1, c2, if_false] at hq
        exact Or.inl hq
  · by_cases c1 : b = h
    · subst c1
      have e : ob = obH := by
        unfold zup at hb
        simp at hb
        exact hb.symm
      rw [e]
      exact ⟨zH', (hz b _ hh).2⟩
    · by_cases c2 : b = a
      · subst c2
        have e : ob = obA := by
          unfold zup at hb
          simp [hne] at hb
          exact hb.symm
        rw [e]
        exact ⟨zA', (hz b _ ha).2⟩
      · have hb1 : w.1 b = some ob := by
          unfold zup at hb
          simpa [c1, c2] using hb
        refine ⟨zat_frame (hz b ob hb1).1 rfl (fun x hx => ⟨rfl, ?_⟩), (hz b ob hb1).2⟩
        have x1 : x ≠ h := fun e => by
          rw [e, hh] at hx
          cases hx
          rcases hoh with q | q
          · exact q rfl
          · simp at q; exact c2 q
        have x2 : x ≠ a := fun e => by
          rw [e, ha] at hx
          cases hx
          exact hoa rfl
        unfold zup
        simp [x1, x2, hx]
/-- a cell is told of no more -/
theorem zx_hide {a : Nat} {ob : zO} (ow : Nat) (ha : w.1 a = some ob) (hne : ob.1 ≠ 199) (k : zX G M d av w0 Q pc L st (zput w a (199, ow, []))) : zX G M d av w0 Q pc L st w := by
  intro p e s m below meth c H ls locs hC hY
  refine k p e s m below meth c H ls locs hC ?_
  obtain ⟨h1, h2, h3, h4, h5, h6, h7⟩ := hY
  refine ⟨h1, zHp_put h2 ha hne rfl rfl (fun _ _ => rfl) zat_hid, fun q hq => ?_, h4, h5, h6, h7⟩
  by_cases c : q = a
  · rw [c]; exact h3 a (by rw [ha]; simp)
  · exact h3 q (by unfold zput zup at hq; simp only [if_neg c] at hq; exact hq)
/-- a table is opened -/
theorem zx_open {a t ow cols cap : Nat} {xs : List Int} (ha : w.1 a = some (t, ow, zTb cols cap xs)) (ht : 130 ≤ t ∧ t < 160)
    (k : ∀ (h lines : Nat) (gs : List Int), gs.length = cap → xs.length = lines * cols → gs.take (lines * cols) = xs → lines * cols ≤ cap → 0 < cols → cap < 2000000000 → a ≠ h → w.1 h = some (199, a, []) → z32 cols → zX G M d av w0 Q pc L st (zput (zput w a (9, ow, [zI cols, zR h, zI lines])) h (100, a, gs.map Sum.inl))) : zX G M d av w0 Q pc L st w := by
  intro p e s m below meth c H ls locs hC hY
  have hz := (hY.2.1.2.2.2.2 a _ ha).1
  obtain ⟨cols', lines, cap', h, g, xs', e1, e2, e3, e4, e5, e6, e7, e8, e9, e10⟩ := zat_tab hz ht
  obtain ⟨rfl, rfl, rfl⟩ := zTb_inj e1
  have hne : a ≠ h := fun q => by rw [← q, ha] at e10; cases e10
  have hcz : z32 cols := hz.1 (zI cols) (by simp [zTb])
  have hlz : lines ≤ lines * cols := Nat.le_mul_of_pos_right _ e4
  refine k h lines ((List.range cap).map g) (by simp) e2 ?_ e3 e4 e5 hne e10 hcz p e s m below meth c H ls locs hC (zY_two hY ha e10 hne (show t ≠ 199 by omega) (Or.inr rfl) (zat_objM ?_ (by decide) e8) (zat_mk (ka := 0) ?_ (Or.inl ⟨by decide, by decide, rfl⟩) ?_))
  · apply List.ext_getElem?
    intro i
    by_cases c1 : i < lines * cols
    · rw [List.getElem?_take_of_lt c1, List.getElem?_map, List.getElem?_range (by omega)]
      have := e7 i c1
      simp only [Option.map_some, this, List.getD_eq_getElem?_getD]
      rw [List.getElem?_eq_getElem (by omega)]
      rfl
    · rw [List.getElem?_eq_none (by simp; omega), List.getElem?_eq_none (by omega)]
  · intro v hv
    simp only [List.mem_cons, List.not_mem_nil, or_false] at hv
    rcases hv with rfl | rfl | rfl
    · exact hcz
    · exact trivial
    · exact ⟨by omega, by omega⟩
  · intro v hv
    simp only [List.mem_map] at hv
    obtain ⟨y, ⟨i, -, rfl⟩, rfl⟩ := hv
    exact e6 i
  · unfold zArrA
    rw [e9]
    refine congrArg some (z_arrC (by simp) fun i hi => ?_)
    simp [List.getD_eq_getElem?_getD, List.getElem?_map, hi, zv]
/-- and closed -/
theorem zx_close {a h ow oh t ow' cols cap lines : Nat} {gs : List Int} (ha : w.1 a = some (9, ow, [zI cols, zR h, zI lines])) (hh : w.1 h = some (100, oh, gs.map Sum.inl)) (hc : gs.length = cap) (hl : lines * cols ≤ cap) (h0 : 0 < cols) (hcap : cap < 2000000000) (ht : 130 ≤ t ∧ t < 160)
    (k : zX G M d av w0 Q pc L st (zput (zput w a (t, ow', zTb cols cap (gs.take (lines * cols)))) h (199, a, []))) : zX G M d av w0 Q pc L st w := by
  intro p e s m below meth c H ls locs hC hY
  have hz := (hY.2.1.2.2.2.2 a _ ha).1
  have hzh := (hY.2.1.2.2.2.2 h _ hh).1
  have hne : a ≠ h := fun q => by rw [← q, ha] at hh; cases hh
  have hcz : z32 cols := hz.1 (zI cols) (by simp)
  have hgz : ∀ x, x ∈ gs → z32 x := fun x hx => hzh.1 (Sum.inl x) (List.mem_map.mpr ⟨x, hx, rfl⟩)
  have hA := zat_obj hz (by decide)
  have hH := zat_arr hzh (Or.inl ⟨by decide, by decide, rfl⟩)
  refine k p e s m below meth c H ls locs hC (zY_two hY ha hh hne (by simp) (Or.inl (by simp)) (zat_tabM ?_ ht ⟨cols, lines, cap, h, fun i => gs.getD i 0, gs.take (lines * cols), rfl, ?_, hl, h0, hcap, ?_, ?_, hA, ?_, ?_⟩) zat_hid)
  · intro v hv
    simp only [zTb, List.mem_cons] at hv
    rcases hv with rfl | rfl | hv
    · exact hcz
    · exact ⟨by omega, by omega⟩
    · obtain ⟨y, hy, rfl⟩ := List.mem_map.mp hv
      exact hgz y (List.mem_of_mem_take hy)
  · rw [List.length_take]; omega
  · intro i
    by_cases q : i < gs.length
    · simp only [List.getD_eq_getElem?_getD, List.getElem?_eq_getElem q, Option.getD_some]
      exact hgz _ (List.getElem_mem _)
    · simp only [List.getD_eq_getElem?_getD, List.getElem?_eq_none (show gs.length ≤ i by omega), Option.getD_none]
      exact ⟨by decide, by decide⟩
  · intro i hi
    simp only [List.getD_eq_getElem?_getD, List.getElem?_take_of_lt hi]
  · rw [show H[h]? = _ from hH]
    refine congrArg some (z_arrC (by simp [hc]) fun i hi => ?_)
    have hi : i < gs.length := by simpa using hi
    simp [List.getD_eq_getElem?_getD, List.getElem?_map, hi, zv]
  · unfold zup; simp
/-- a list is opened: an array of its own, or the empty one of all -/
theorem zx_lopen {a t ow cap : Nat} {ys : List Nat} (ha : w.1 a = some (t, ow, zLs cap ys)) (ht : 160 ≤ t ∧ t < 190) (hpos : ys ≠ [])
    (k : ∀ (h : Nat) (mc : Int) (os : List (Option Nat)), os.length = cap → os.take ys.length = ys.map some → ys.length ≤ cap → 1 < cap → cap < 40000 → a ≠ h → w.1 h = some (199, a, []) → z32 mc → zX G M d av w0 Q pc L st (zput (zput w a (12, ow, [zI mc, zR h, zI ys.length])) h (127, a, os.map (fun o => Sum.inr (Sum.inl o))))) : zX G M d av w0 Q pc L st w := by
  intro p e s m below meth c H ls locs hC hY
  have hz := (hY.2.1.2.2.2.2 a _ ha).1
  obtain ⟨cap', mc0, h, ys', g, e1, e2, e3, e4, e5, e6⟩ := zat_lst hz ht
  obtain ⟨rfl, rfl⟩ := zLs_inj e1
  have hl : 0 < ys.length := List.length_pos_iff.mpr hpos
  rcases e6 with ⟨-, e6⟩ | ⟨e6, e7, e8⟩
  · omega
  have hne : a ≠ h := fun q => by rw [← q, ha] at e8; cases e8
  have e4' : va_at G.2.2.1 vwCl (a, .inr (12, ([zI (zw mc0), zR h, zI ys.length] : List zV).map zv)) H := by
    show va_at G.2.2.1 vwCl (a, .inr (12, [.int (Int32.ofInt (zw mc0)), .ref h, .int (Int32.ofInt ys.length)])) H
    rw [zw_of]
    exact e4
  refine k h (zw mc0) ((List.range cap).map g) (by simp) ?_ e2 e6 e3 hne e8 (zw_fit _) p e s m below meth c H ls locs hC (zY_two hY ha e8 hne (show t ≠ 199 by omega) (Or.inr rfl) (zat_objM ?_ (by decide) e4') (zat_mk (ka := 4) ?_ (Or.inr (Or.inr (Or.inr (Or.inr ⟨rfl, rfl⟩)))) ?_))
  · apply List.ext_getElem?
    intro i
    by_cases c1 : i < ys.length
    · rw [List.getElem?_take_of_lt c1, List.getElem?_map, List.getElem?_range (by omega)]
      have := e5 i c1
      simp only [Option.map_some, this, List.getD_eq_getElem?_getD, List.getElem?_map, List.getElem?_eq_getElem c1, Option.getD_some]
    · rw [List.getElem?_eq_none (by simp; omega), List.getElem?_eq_none (by simp; omega)]
  · intro v hv
    simp only [List.mem_cons, List.not_mem_nil, or_false] at hv
    rcases hv with rfl | rfl | rfl
    · exact zw_fit _
    · exact trivial
    · exact ⟨by omega, by omega⟩
  · intro v hv
    simp only [List.mem_map] at hv
    obtain ⟨y, ⟨i, -, rfl⟩, rfl⟩ := hv
    cases g i <;> exact trivial
  · unfold zArrA
    rw [e7]
    refine congrArg some (z_arrC (by simp) fun i hi => ?_)
    simp only [List.getD_eq_getElem?_getD, List.getElem?_map, List.getElem?_range hi, Option.map_some, Option.getD_some]
    cases g i <;> rfl
theorem zx_lclose {a h ow oh t ow' cap : Nat} {mc : Int} {ys : List Nat} {os : List (Option Nat)} (ha : w.1 a = some (12, ow, [zI mc, zR h, zI ys.length])) (hh : w.1 h = some (127, oh, os.map (fun o => Sum.inr (Sum.inl o)))) (hc : os.length = cap) (ho : os.take ys.length = ys.map some) (hl : ys.length ≤ cap) (h1 : 1 < cap) (hcap : cap < 40000) (ht : 160 ≤ t ∧ t < 190)
    (k : zX G M d av w0 Q pc L st (zput (zput w a (t, ow', zLs cap ys)) h (199, a, []))) : zX G M d av w0 Q pc L st w := by
  intro p e s m below meth c H ls locs hC hY
  have hz := (hY.2.1.2.2.2.2 a _ ha).1
  have hzh := (hY.2.1.2.2.2.2 h _ hh).1
  have hne : a ≠ h := fun q => by rw [← q, ha] at hh; cases hh
  have hA := zat_obj hz (by decide)
  have hH := zat_arr hzh (Or.inr (Or.inr (Or.inr (Or.inr ⟨rfl, rfl⟩))))
  refine k p e s m below meth c H ls locs hC (zY_two hY ha hh hne (by simp) (Or.inl (by simp)) (zat_lstM ?_ ht ⟨cap, mc, h, ys, fun i => os.getD i none, rfl, hl, hcap, hA, ?_, Or.inr ⟨h1, ?_, ?_⟩⟩) zat_hid)
  · intro v hv
    simp only [zLs, List.mem_cons] at hv
    rcases hv with rfl | hv
    · exact ⟨by omega, by omega⟩
    · obtain ⟨y, -, rfl⟩ := List.mem_map.mp hv
      exact trivial
  · intro i hi
    have q : (os.take ys.length)[i]? = (ys.map some)[i]? := by rw [ho]
    rw [List.getElem?_take_of_lt hi, List.getElem?_map, List.getElem?_eq_getElem hi] at q
    simp only [List.getD_eq_getElem?_getD, q, List.getElem?_eq_getElem hi, Option.map_some, Option.getD_some]
  · rw [show H[h]? = _ from hH]
    refine congrArg some (z_arrC (by simp [hc]) fun i hi => ?_)
    have hi : i < os.length := by simpa using hi
    simp only [List.getD_eq_getElem?_getD, List.getElem?_map, List.getElem?_eq_getElem hi, Option.map_some, Option.getD_some]
    cases os[i] <;> rfl
  · unfold zup; simp
end ZOPEN
