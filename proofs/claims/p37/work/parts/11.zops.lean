/-! Own rows: an instruction a row, over worlds that are maps. -/
theorem zY_push {G : zG} {M : zMd} {w0 : zW} {L : List (Option zV)} {st : List zV} {w : zW} {s : State} {H : Heap} {ls : Array Slot} {locs : List Loc} {v : zV} (hv : zfit v) (h : zDy G M w0 L st w s H ls locs) : zDy G M w0 L (v :: st) w s H ls locs := by
  obtain ⟨h1, h2, h3, h4, h5, h6, h7⟩ := h
  exact ⟨h1, h2, h3, h4, h5, h6, fun x hx => (List.mem_cons.mp hx).elim (fun e => e ▸ hv) (h7 x)⟩
theorem zY_pop {G : zG} {M : zMd} {w0 : zW} {L : List (Option zV)} {st : List zV} {w : zW} {s : State} {H : Heap} {ls : Array Slot} {locs : List Loc} {v : zV} (h : zDy G M w0 L (v :: st) w s H ls locs) : zfit v ∧ zDy G M w0 L st w s H ls locs := by
  obtain ⟨h1, h2, h3, h4, h5, h6, h7⟩ := h
  exact ⟨h7 v List.mem_cons_self, h1, h2, h3, h4, h5, h6, fun x hx => h7 x (List.mem_cons_of_mem _ hx)⟩
theorem zY_loc {G : zG} {M : zMd} {w0 : zW} {L : List (Option zV)} {st : List zV} {w : zW} {s : State} {H : Heap} {ls : Array Slot} {locs : List Loc} {i : Nat} {v : zV} (h : zDy G M w0 L st w s H ls locs) (hl : L[i]? = some (some v)) : ls[i]? = some (.val (zv v)) ∧ zfit v := h.2.2.2.2.2.1.2.2 i v hl
theorem zY_set {G : zG} {M : zMd} {w0 : zW} {L L' : List (Option zV)} {st : List zV} {w : zW} {s : State} {H : Heap} {ls ls' : Array Slot} {locs : List Loc} (h : zDy G M w0 L st w s H ls locs) (h' : zLv ls' M.2.2.1 L') : zDy G M w0 L' st w s H ls' locs := by
  obtain ⟨h1, h2, h3, h4, h5, h6, h7⟩ := h
  exact ⟨h1, h2, h3, h4, h5, h', h7⟩
def zLl (L : List (Option zV)) : List (Nat × Value) := (List.range L.length).filterMap fun i => match L[i]? with | some (some v) => some (i, zv v) | _ => none
theorem zLl_mem {L : List (Option zV)} {i : Nat} {x : Value} : (i, x) ∈ zLl L ↔ ∃ v, L[i]? = some (some v) ∧ x = zv v := by
  unfold zLl
  rw [List.mem_filterMap]
  constructor
  · intro ⟨j, hj, h⟩
    split at h
    · rename_i v hv
      cases h
      exact ⟨v, hv, rfl⟩
    · cases h
  · intro ⟨v, hv, hx⟩
    refine ⟨i, List.mem_range.mpr (List.getElem?_eq_some_iff.mp hv).1, ?_⟩
    rw [hv, hx]
theorem zLv_has {ls : Array Slot} {n : Nat} {L : List (Option zV)} (h : zLv ls n L) : lv_has ls n (zLl L) := ⟨h.1, h.2.1, fun q hq => by
  obtain ⟨i, x⟩ := q
  obtain ⟨v, hv, rfl⟩ := zLl_mem.mp hq
  exact (h.2.2 i v hv).1⟩
/-- no long lies just ahead of a local -/
def zpl (L : List (Option zV)) : Nat → Bool
  | 0 => true
  | j + 1 => match L[j]? with | some (some (Sum.inr (Sum.inr _))) => false | _ => true
theorem zpl_s {L : List (Option zV)} {j : Nat} {a : Int} (h : zpl L (j + 1) = true) (e : L[j]? = some (some (zJ a))) : False := by
  simp [zpl, e] at h
theorem zLv_set1 {ls ls' : Array Slot} {n i : Nat} {L : List (Option zV)} {v : zV} (h : zLv ls n L) (hv : zfit v) (hp : zpl L i = true) (h' : lv_has ls' n ((i, zv v) :: (zLl L).filter (fun q => !(q.1 == i) && !(q.1 + 1 == i && q.2.category == 2)))) : zLv ls' n (L.set i (some v)) := by
  refine ⟨h'.1, h'.2.1, fun j u hj => ?_⟩
  rw [List.getElem?_set] at hj
  by_cases hji : i = j
  · rw [if_pos hji] at hj
    split at hj
    · have hj := Option.some.inj (Option.some.inj hj)
      subst hj
      subst hji
      exact ⟨h'.2.2 (i, zv v) List.mem_cons_self, hv⟩
    · cases hj
  · rw [if_neg hji] at hj
    refine ⟨h'.2.2 (j, zv u) (List.mem_cons_of_mem _ (List.mem_filter.mpr ⟨zLl_mem.mpr ⟨u, hj, rfl⟩, ?_⟩)), (h.2.2 j u hj).2⟩
    have e1 : (j == i) = false := by simp [Ne.symm hji]
    simp only [e1, Bool.not_false, Bool.true_and, Bool.not_eq_true', Bool.and_eq_false_iff]
    by_cases e2 : j + 1 = i
    · right
      subst e2
      rw [zcat u (fun a e => zpl_s hp (by rw [hj, e]))]
      rfl
    · left; simp [e2]
theorem zLv_set2 {ls ls' : Array Slot} {n i : Nat} {L : List (Option zV)} {v : zV} (h : zLv ls n L) (hv : zfit v) (hp : zpl L i = true) (h' : lv_has ls' n ((i, zv v) :: (zLl L).filter (fun q => !(q.1 == i) && (!(q.1 == i + 1) && !(q.1 + 1 == i && q.2.category == 2))))) : zLv ls' n ((L.set i (some v)).set (i + 1) none) := by
  refine ⟨h'.1, h'.2.1, fun j u hj => ?_⟩
  rw [List.getElem?_set] at hj
  by_cases hj1 : i + 1 = j
  · rw [if_pos hj1] at hj
    split at hj <;> simp at hj
  rw [if_neg hj1, List.getElem?_set] at hj
  by_cases hji : i = j
  · rw [if_pos hji] at hj
    split at hj
    · have hj := Option.some.inj (Option.some.inj hj)
      subst hj
      subst hji
      exact ⟨h'.2.2 (i, zv v) List.mem_cons_self, hv⟩
    · cases hj
  · rw [if_neg hji] at hj
    refine ⟨h'.2.2 (j, zv u) (List.mem_cons_of_mem _ (List.mem_filter.mpr ⟨zLl_mem.mpr ⟨u, hj, rfl⟩, ?_⟩)), (h.2.2 j u hj).2⟩
    have e1 : (j == i) = false := by simp [Ne.symm hji]
    have e3 : (j == i + 1) = false := by simp [Ne.symm hj1]
    simp only [e1, e3, Bool.not_false, Bool.true_and, Bool.not_eq_true', Bool.and_eq_false_iff]
    by_cases e2 : j + 1 = i
    · right
      subst e2
      rw [zcat u (fun a e => zpl_s hp (by rw [hj, e]))]
      rfl
    · left; simp [e2]
def zand (a b : Int) : Int := (Int32.ofInt a &&& Int32.ofInt b).toInt
def zor (a b : Int) : Int := (Int32.ofInt a ||| Int32.ofInt b).toInt
def zxor (a b : Int) : Int := (Int32.ofInt a ^^^ Int32.ofInt b).toInt
def zshl (a b : Int) : Int := (Int32.ofInt a <<< (Int32.ofInt b &&& 31)).toInt
def zshr (a b : Int) : Int := (Int32.ofInt a >>> (Int32.ofInt b &&& 31)).toInt
def zdiv (a b : Int) : Int := (Int32.ofInt a / Int32.ofInt b).toInt
def zrem (a b : Int) : Int := (Int32.ofInt a - Int32.ofInt a / Int32.ofInt b * Int32.ofInt b).toInt
def zi2c (a : Int) : Int := ((Int32.ofInt a).toUInt32 % 65536).toInt32.toInt
theorem z_fit32 (x : Int32) : z32 x.toInt := ⟨Int32.le_toInt _, by have := Int32.toInt_lt x; omega⟩
theorem z_fit64 (x : Int64) : z64 x.toInt := ⟨Int64.le_toInt _, by have := Int64.toInt_lt x; omega⟩
section ZROWS
variable {G : zG} {M : zMd} {d : Nat} {av : List zV} {w0 : zW} {Q : zQ} {pc : Nat} {L : List (Option zV)} {st : List zV} {w : zW}
theorem zx_iload_n {i : Nat} {q : Fin 4} {a : Int} (hd : decode M.2.1 pc = .ok (.iload_n q, 1)) (hi : (q : Nat) = i) (hl : L[i]? = some (some (zI a))) (k : zX G M d av w0 Q (pc + 1) L (zI a :: st) w) : zX G M d av w0 Q pc L st w := by
  intro p e s m below meth c H ls locs hC hY
  exact lv_iload_n hC.1 hC.2.1 hd hi (zY_loc hY hl).1 (k p e s m below meth c H ls locs hC (zY_push (zY_loc hY hl).2 hY))
theorem zx_iload {i : Nat} {a : Int} (hd : decode M.2.1 pc = .ok (.iload i, 2)) (hl : L[i]? = some (some (zI a))) (k : zX G M d av w0 Q (pc + 2) L (zI a :: st) w) : zX G M d av w0 Q pc L st w := by
  intro p e s m below meth c H ls locs hC hY
  exact lv_iload hC.1 hC.2.1 hd (zY_loc hY hl).1 (k p e s m below meth c H ls locs hC (zY_push (zY_loc hY hl).2 hY))
theorem zx_lload_n {i : Nat} {q : Fin 4} {a : Int} (hd : decode M.2.1 pc = .ok (.lload_n q, 1)) (hi : (q : Nat) = i) (hl : L[i]? = some (some (zJ a))) (k : zX G M d av w0 Q (pc + 1) L (zJ a :: st) w) : zX G M d av w0 Q pc L st w := by
  intro p e s m below meth c H ls locs hC hY
  exact lv_lload_n hC.1 hC.2.1 hd hi (zY_loc hY hl).1 (k p e s m below meth c H ls locs hC (zY_push (zY_loc hY hl).2 hY))
theorem zx_lload {i : Nat} {a : Int} (hd : decode M.2.1 pc = .ok (.lload i, 2)) (hl : L[i]? = some (some (zJ a))) (k : zX G M d av w0 Q (pc + 2) L (zJ a :: st) w) : zX G M d av w0 Q pc L st w := by
  intro p e s m below meth c H ls locs hC hY
  exact lv_lload hC.1 hC.2.1 hd (zY_loc hY hl).1 (k p e s m below meth c H ls locs hC (zY_push (zY_loc hY hl).2 hY))
theorem zx_aload_n {i : Nat} {q : Fin 4} {a : Option Nat} (hd : decode M.2.1 pc = .ok (.aload_n q, 1)) (hi : (q : Nat) = i) (hl : L[i]? = some (some (Sum.inr (Sum.inl a)))) (k : zX G M d av w0 Q (pc + 1) L (Sum.inr (Sum.inl a) :: st) w) : zX G M d av w0 Q pc L st w := by
  intro p e s m below meth c H ls locs hC hY
  have h1 := (zY_loc hY hl).1
  have h2 := k p e s m below meth c H ls locs hC (zY_push (zY_loc hY hl).2 hY)
  cases a with
  | none => exact lv_aload_nN hC.1 hC.2.1 hd hi h1 h2
  | some a => exact lv_aload_n hC.1 hC.2.1 hd hi h1 h2
theorem zx_aload {i : Nat} {a : Option Nat} (hd : decode M.2.1 pc = .ok (.aload i, 2)) (hl : L[i]? = some (some (Sum.inr (Sum.inl a)))) (k : zX G M d av w0 Q (pc + 2) L (Sum.inr (Sum.inl a) :: st) w) : zX G M d av w0 Q pc L st w := by
  intro p e s m below meth c H ls locs hC hY
  have h1 := (zY_loc hY hl).1
  have h2 := k p e s m below meth c H ls locs hC (zY_push (zY_loc hY hl).2 hY)
  cases a with
  | none => exact lv_aloadN hC.1 hC.2.1 hd h1 h2
  | some a => exact lv_aload hC.1 hC.2.1 hd h1 h2
theorem zx_istore_n {i : Nat} {q : Fin 4} {a : Int} (hd : decode M.2.1 pc = .ok (.istore_n q, 1)) (hi : (q : Nat) = i) (hn : i < M.2.2.1) (hp : zpl L i = true) (k : zX G M d av w0 Q (pc + 1) (L.set i (some (zI a))) st w) : zX G M d av w0 Q pc L (zI a :: st) w := by
  intro p e s m below meth c H ls locs hC hY
  obtain ⟨hv, hY⟩ := zY_pop hY
  exact lv_istore_n hC.1 hC.2.1 hd hi (zLv_has hY.2.2.2.2.2.1) hn rfl fun ls1 h1 => k p e s m below meth c H ls1 locs hC (zY_set hY (zLv_set1 hY.2.2.2.2.2.1 hv hp h1))
theorem zx_istore {i : Nat} {a : Int} (hd : decode M.2.1 pc = .ok (.istore i, 2)) (hn : i < M.2.2.1) (hp : zpl L i = true) (k : zX G M d av w0 Q (pc + 2) (L.set i (some (zI a))) st w) : zX G M d av w0 Q pc L (zI a :: st) w := by
  intro p e s m below meth c H ls locs hC hY
  obtain ⟨hv, hY⟩ := zY_pop hY
  exact lv_istore hC.1 hC.2.1 hd (zLv_has hY.2.2.2.2.2.1) hn rfl fun ls1 h1 => k p e s m below meth c H ls1 locs hC (zY_set hY (zLv_set1 hY.2.2.2.2.2.1 hv hp h1))
theorem zx_lstore_n {i : Nat} {q : Fin 4} {a : Int} (hd : decode M.2.1 pc = .ok (.lstore_n q, 1)) (hi : (q : Nat) = i) (hn : i + 1 < M.2.2.1) (hp : zpl L i = true) (k : zX G M d av w0 Q (pc + 1) ((L.set i (some (zJ a))).set (i + 1) none) st w) : zX G M d av w0 Q pc L (zJ a :: st) w := by
  intro p e s m below meth c H ls locs hC hY
  obtain ⟨hv, hY⟩ := zY_pop hY
  exact lv_lstore_n hC.1 hC.2.1 hd hi (zLv_has hY.2.2.2.2.2.1) hn rfl fun ls1 h1 => k p e s m below meth c H ls1 locs hC (zY_set hY (zLv_set2 hY.2.2.2.2.2.1 hv hp h1))
theorem zx_lstore {i : Nat} {a : Int} (hd : decode M.2.1 pc = .ok (.lstore i, 2)) (hn : i + 1 < M.2.2.1) (hp : zpl L i = true) (k : zX G M d av w0 Q (pc + 2) ((L.set i (some (zJ a))).set (i + 1) none) st w) : zX G M d av w0 Q pc L (zJ a :: st) w := by
  intro p e s m below meth c H ls locs hC hY
  obtain ⟨hv, hY⟩ := zY_pop hY
  exact lv_lstore hC.1 hC.2.1 hd (zLv_has hY.2.2.2.2.2.1) hn rfl fun ls1 h1 => k p e s m below meth c H ls1 locs hC (zY_set hY (zLv_set2 hY.2.2.2.2.2.1 hv hp h1))
theorem zx_astore_n {i : Nat} {q : Fin 4} {a : Option Nat} (hd : decode M.2.1 pc = .ok (.astore_n q, 1)) (hi : (q : Nat) = i) (hn : i < M.2.2.1) (hp : zpl L i = true) (k : zX G M d av w0 Q (pc + 1) (L.set i (some (Sum.inr (Sum.inl a)))) st w) : zX G M d av w0 Q pc L (Sum.inr (Sum.inl a) :: st) w := by
  intro p e s m below meth c H ls locs hC hY
  obtain ⟨hv, hY1⟩ := zY_pop hY
  cases a with
  | none => exact lv_astore_nN hC.1 hC.2.1 hd hi (zLv_has hY1.2.2.2.2.2.1) hn rfl fun ls1 h1 => k p e s m below meth c H ls1 locs hC (zY_set hY1 (zLv_set1 hY1.2.2.2.2.2.1 hv hp h1))
  | some a => exact lv_astore_n hC.1 hC.2.1 hd hi (zLv_has hY1.2.2.2.2.2.1) hn rfl fun ls1 h1 => k p e s m below meth c H ls1 locs hC (zY_set hY1 (zLv_set1 hY1.2.2.2.2.2.1 hv hp h1))
theorem zx_astore {i : Nat} {a : Option Nat} (hd : decode M.2.1 pc = .ok (.astore i, 2)) (hn : i < M.2.2.1) (hp : zpl L i = true) (k : zX G M d av w0 Q (pc + 2) (L.set i (some (Sum.inr (Sum.inl a)))) st w) : zX G M d av w0 Q pc L (Sum.inr (Sum.inl a) :: st) w := by
  intro p e s m below meth c H ls locs hC hY
  obtain ⟨hv, hY1⟩ := zY_pop hY
  cases a with
  | none => exact lv_astoreN hC.1 hC.2.1 hd (zLv_has hY1.2.2.2.2.2.1) hn rfl fun ls1 h1 => k p e s m below meth c H ls1 locs hC (zY_set hY1 (zLv_set1 hY1.2.2.2.2.2.1 hv hp h1))
  | some a => exact lv_astore hC.1 hC.2.1 hd (zLv_has hY1.2.2.2.2.2.1) hn rfl fun ls1 h1 => k p e s m below meth c H ls1 locs hC (zY_set hY1 (zLv_set1 hY1.2.2.2.2.2.1 hv hp h1))
theorem zx_iinc {i : Nat} {a n v : Int} (hd : decode M.2.1 pc = .ok (.iinc i n, 3)) (hl : L[i]? = some (some (zI a))) (hv : zw (a + n) = v) (hn : i < M.2.2.1) (hp : zpl L i = true) (k : zX G M d av w0 Q (pc + 3) (L.set i (some (zI v))) st w) : zX G M d av w0 Q pc L st w := by
  intro p e s m below meth c H ls locs hC hY
  obtain ⟨j, hj⟩ := List.getElem?_of_mem (zLl_mem.mpr ⟨_, hl, rfl⟩)
  have hv2 : Int32.ofInt a + Int32.ofInt n = Int32.ofInt v := by rw [← hv, zw_of, Int32.ofInt_add]
  exact lv_iinc (v := Int32.ofInt v) hC.1 hC.2.1 hd (zLv_has hY.2.2.2.2.2.1) hj hv2 hn rfl fun ls1 h1 => k p e s m below meth c H ls1 locs hC (zY_set hY (zLv_set1 (v := zI v) hY.2.2.2.2.2.1 (by rw [← hv]; exact zw_fit _) hp h1))
theorem zx_iconst {n v : Int} (hd : decode M.2.1 pc = .ok (.iconst n, 1)) (hv : n = v) (hf : z32 v) (k : zX G M d av w0 Q (pc + 1) L (zI v :: st) w) : zX G M d av w0 Q pc L st w := by
  intro p e s m below meth c H ls locs hC hY
  subst hv
  exact lv_iconst hC.1 hC.2.1 hd rfl (k p e s m below meth c H ls locs hC (zY_push (v := zI n) hf hY))
theorem zx_bipush {n v : Int} (hd : decode M.2.1 pc = .ok (.bipush n, 2)) (hv : (Int8.ofInt n).toInt32 = Int32.ofInt v) (hf : z32 v) (k : zX G M d av w0 Q (pc + 2) L (zI v :: st) w) : zX G M d av w0 Q pc L st w := by
  intro p e s m below meth c H ls locs hC hY
  exact lv_bipush hC.1 hC.2.1 hd hv (k p e s m below meth c H ls locs hC (zY_push (v := zI v) hf hY))
theorem zx_sipush {n v : Int} (hd : decode M.2.1 pc = .ok (.sipush n, 3)) (hv : (Int16.ofInt n).toInt32 = Int32.ofInt v) (hf : z32 v) (k : zX G M d av w0 Q (pc + 3) L (zI v :: st) w) : zX G M d av w0 Q pc L st w := by
  intro p e s m below meth c H ls locs hC hY
  exact lv_sipush hC.1 hC.2.1 hd hv (k p e s m below meth c H ls locs hC (zY_push (v := zI v) hf hY))
theorem zx_lconst {n : Fin 2} {v : Int} (hd : decode M.2.1 pc = .ok (.lconst n, 1)) (hv : Int64.ofNat (n : Nat) = Int64.ofInt v) (hf : z64 v) (k : zX G M d av w0 Q (pc + 1) L (zJ v :: st) w) : zX G M d av w0 Q pc L st w := by
  intro p e s m below meth c H ls locs hC hY
  exact lv_lconst hC.1 hC.2.1 hd hv (k p e s m below meth c H ls locs hC (zY_push (v := zJ v) hf hY))
theorem zx_null  (hd : decode M.2.1 pc = .ok (.aconst_null, 1)) (k : zX G M d av w0 Q (pc + 1) L (zN :: st) w) : zX G M d av w0 Q pc L st w := by
  intro p e s m below meth c H ls locs hC hY
  exact lv_null hC.1 hC.2.1 hd (k p e s m below meth c H ls locs hC (zY_push (v := zN) trivial hY))
theorem zx_ldc {i : Nat} {x : Int32} {v : Int} (hd : decode M.2.1 pc = .ok (.ldc i, 2)) (hw : Cond.constant M.1.cls i x ∈ zWS) (hv : x = Int32.ofInt v) (hf : z32 v) (k : zX G M d av w0 Q (pc + 2) L (zI v :: st) w) : zX G M d av w0 Q pc L st w := by
  intro p e s m below meth c H ls locs hC hY
  subst hv
  exact lv_ldc hC.1 hC.2.1 hC.2.2.2.2.2.1 (hC.2.2.2.2.1 _ (List.mem_cons_of_mem _ hw)) hd (k p e s m below meth c H ls locs hC (zY_push (v := zI v) hf hY))
theorem zx_ldc2 {i : Nat} {x : Int64} {v : Int} (hd : decode M.2.1 pc = .ok (.ldc2_w i, 3)) (hw : Cond.constantLong M.1.cls i x ∈ zWS) (hv : x = Int64.ofInt v) (hf : z64 v) (k : zX G M d av w0 Q (pc + 3) L (zJ v :: st) w) : zX G M d av w0 Q pc L st w := by
  intro p e s m below meth c H ls locs hC hY
  subst hv
  exact lv_ldc2 hC.1 hC.2.1 hC.2.2.2.2.2.1 (hC.2.2.2.2.1 _ (List.mem_cons_of_mem _ hw)) hd (k p e s m below meth c H ls locs hC (zY_push (v := zJ v) hf hY))
theorem zx_dup {v : zV} (hd : decode M.2.1 pc = .ok (.dup, 1)) (hv : ∀ a, v ≠ zJ a) (k : zX G M d av w0 Q (pc + 1) L (v :: v :: st) w) : zX G M d av w0 Q pc L (v :: st) w := by
  intro p e s m below meth c H ls locs hC hY
  exact lv_dup hC.1 hC.2.1 hd (zcat v hv) (k p e s m below meth c H ls locs hC (zY_push (zY_pop hY).1 hY))
theorem zx_pop {v : zV} (hd : decode M.2.1 pc = .ok (.pop, 1)) (hv : ∀ a, v ≠ zJ a) (k : zX G M d av w0 Q (pc + 1) L st w) : zX G M d av w0 Q pc L (v :: st) w := by
  intro p e s m below meth c H ls locs hC hY
  exact lv_pop hC.1 hC.2.1 hd (zcat v hv) (k p e s m below meth c H ls locs hC (zY_pop hY).2)
theorem zx_iadd {a b v : Int} (hd : decode M.2.1 pc = .ok (.iadd, 1)) (hv : zw (a + b) = v) (k : zX G M d av w0 Q (pc + 1) L (zI v :: st) w) : zX G M d av w0 Q pc L (zI b :: zI a :: st) w := by
  intro p e s m below meth c H ls locs hC hY
  have hY1 := (zY_pop (zY_pop hY).2).2
  have hf : zfit (zI v) := by
    rw [← hv]; exact zw_fit _
  have he : Int32.ofInt a + Int32.ofInt b = Int32.ofInt v := by rw [← hv, zw_of, Int32.ofInt_add]
  have h := k p e s m below meth c H ls locs hC (zY_push hf hY1)
  refine lv_iadd hC.1 hC.2.1 hd ?_
  rw [he]
  exact h
theorem zx_isub {a b v : Int} (hd : decode M.2.1 pc = .ok (.isub, 1)) (hv : zw (a - b) = v) (k : zX G M d av w0 Q (pc + 1) L (zI v :: st) w) : zX G M d av w0 Q pc L (zI b :: zI a :: st) w := by
  intro p e s m below meth c H ls locs hC hY
  have hY1 := (zY_pop (zY_pop hY).2).2
  have hf : zfit (zI v) := by
    rw [← hv]; exact zw_fit _
  have he : Int32.ofInt a - Int32.ofInt b = Int32.ofInt v := by rw [← hv, zw_of, Int32.ofInt_sub]
  have h := k p e s m below meth c H ls locs hC (zY_push hf hY1)
  refine lv_isub hC.1 hC.2.1 hd ?_
  rw [he]
  exact h
theorem zx_imul {a b v : Int} (hd : decode M.2.1 pc = .ok (.imul, 1)) (hv : zw (a * b) = v) (k : zX G M d av w0 Q (pc + 1) L (zI v :: st) w) : zX G M d av w0 Q pc L (zI b :: zI a :: st) w := by
  intro p e s m below meth c H ls locs hC hY
  have hY1 := (zY_pop (zY_pop hY).2).2
  have hf : zfit (zI v) := by
    rw [← hv]; exact zw_fit _
  have he : Int32.ofInt a * Int32.ofInt b = Int32.ofInt v := by rw [← hv, zw_of, Int32.ofInt_mul]
  have h := k p e s m below meth c H ls locs hC (zY_push hf hY1)
  refine lv_imul hC.1 hC.2.1 hd ?_
  rw [he]
  exact h
theorem zx_iand {a b v : Int} (hd : decode M.2.1 pc = .ok (.iand, 1)) (hv : zand a b = v) (k : zX G M d av w0 Q (pc + 1) L (zI v :: st) w) : zX G M d av w0 Q pc L (zI b :: zI a :: st) w := by
  intro p e s m below meth c H ls locs hC hY
  have hY1 := (zY_pop (zY_pop hY).2).2
  have hf : zfit (zI v) := by
    rw [← hv]; exact z_fit32 _
  have he : Int32.ofInt a &&& Int32.ofInt b = Int32.ofInt v := by rw [← hv]; exact (Int32.ofInt_toInt _).symm
  have h := k p e s m below meth c H ls locs hC (zY_push hf hY1)
  refine lv_iand hC.1 hC.2.1 hd ?_
  rw [he]
  exact h
theorem zx_ior {a b v : Int} (hd : decode M.2.1 pc = .ok (.ior, 1)) (hv : zor a b = v) (k : zX G M d av w0 Q (pc + 1) L (zI v :: st) w) : zX G M d av w0 Q pc L (zI b :: zI a :: st) w := by
  intro p e s m below meth c H ls locs hC hY
  have hY1 := (zY_pop (zY_pop hY).2).2
  have hf : zfit (zI v) := by
    rw [← hv]; exact z_fit32 _
  have he : Int32.ofInt a ||| Int32.ofInt b = Int32.ofInt v := by rw [← hv]; exact (Int32.ofInt_toInt _).symm
  have h := k p e s m below meth c H ls locs hC (zY_push hf hY1)
  refine lv_ior hC.1 hC.2.1 hd ?_
  rw [he]
  exact h
theorem zx_ixor {a b v : Int} (hd : decode M.2.1 pc = .ok (.ixor, 1)) (hv : zxor a b = v) (k : zX G M d av w0 Q (pc + 1) L (zI v :: st) w) : zX G M d av w0 Q pc L (zI b :: zI a :: st) w := by
  intro p e s m below meth c H ls locs hC hY
  have hY1 := (zY_pop (zY_pop hY).2).2
  have hf : zfit (zI v) := by
    rw [← hv]; exact z_fit32 _
  have he : Int32.ofInt a ^^^ Int32.ofInt b = Int32.ofInt v := by rw [← hv]; exact (Int32.ofInt_toInt _).symm
  have h := k p e s m below meth c H ls locs hC (zY_push hf hY1)
  refine lv_ixor hC.1 hC.2.1 hd ?_
  rw [he]
  exact h
theorem zx_ishl {a b v : Int} (hd : decode M.2.1 pc = .ok (.ishl, 1)) (hv : zshl a b = v) (k : zX G M d av w0 Q (pc + 1) L (zI v :: st) w) : zX G M d av w0 Q pc L (zI b :: zI a :: st) w := by
  intro p e s m below meth c H ls locs hC hY
  have hY1 := (zY_pop (zY_pop hY).2).2
  have hf : zfit (zI v) := by
    rw [← hv]; exact z_fit32 _
  have he : Int32.ofInt a <<< (Int32.ofInt b &&& 31) = Int32.ofInt v := by rw [← hv]; exact (Int32.ofInt_toInt _).symm
  have h := k p e s m below meth c H ls locs hC (zY_push hf hY1)
  refine lv_ishl hC.1 hC.2.1 hd ?_
  rw [he]
  exact h
theorem zx_ishr {a b v : Int} (hd : decode M.2.1 pc = .ok (.ishr, 1)) (hv : zshr a b = v) (k : zX G M d av w0 Q (pc + 1) L (zI v :: st) w) : zX G M d av w0 Q pc L (zI b :: zI a :: st) w := by
  intro p e s m below meth c H ls locs hC hY
  have hY1 := (zY_pop (zY_pop hY).2).2
  have hf : zfit (zI v) := by
    rw [← hv]; exact z_fit32 _
  have he : Int32.ofInt a >>> (Int32.ofInt b &&& 31) = Int32.ofInt v := by rw [← hv]; exact (Int32.ofInt_toInt _).symm
  have h := k p e s m below meth c H ls locs hC (zY_push hf hY1)
  refine lv_ishr hC.1 hC.2.1 hd ?_
  rw [he]
  exact h
theorem zx_idiv {a b v : Int} (hd : decode M.2.1 pc = .ok (.idiv, 1)) (hb : b ≠ 0) (hv : zdiv a b = v) (k : zX G M d av w0 Q (pc + 1) L (zI v :: st) w) : zX G M d av w0 Q pc L (zI b :: zI a :: st) w := by
  intro p e s m below meth c H ls locs hC hY
  have hY1 := (zY_pop (zY_pop hY).2).2
  have hfb : z32 b := (zY_pop hY).1
  have hf : zfit (zI v) := by
    rw [← hv]; exact z_fit32 _
  have he : Int32.ofInt a / Int32.ofInt b = Int32.ofInt v := by rw [← hv]; exact (Int32.ofInt_toInt _).symm
  have h := k p e s m below meth c H ls locs hC (zY_push hf hY1)
  refine lv_idiv hC.1 hC.2.1 hd (fun q => hb ((zi_eq hfb (z32_lit (by decide) (by decide) : z32 0)).mp q)) ?_
  rw [he]
  exact h
theorem zx_irem {a b v : Int} (hd : decode M.2.1 pc = .ok (.irem, 1)) (hb : b ≠ 0) (hv : zrem a b = v) (k : zX G M d av w0 Q (pc + 1) L (zI v :: st) w) : zX G M d av w0 Q pc L (zI b :: zI a :: st) w := by
  intro p e s m below meth c H ls locs hC hY
  have hY1 := (zY_pop (zY_pop hY).2).2
  have hfb : z32 b := (zY_pop hY).1
  have hf : zfit (zI v) := by
    rw [← hv]; exact z_fit32 _
  have he : Int32.ofInt a - Int32.ofInt a / Int32.ofInt b * Int32.ofInt b = Int32.ofInt v := by rw [← hv]; exact (Int32.ofInt_toInt _).symm
  have h := k p e s m below meth c H ls locs hC (zY_push hf hY1)
  refine lv_irem hC.1 hC.2.1 hd (fun q => hb ((zi_eq hfb (z32_lit (by decide) (by decide) : z32 0)).mp q)) ?_
  rw [he]
  exact h
theorem zx_ladd {a b v : Int} (hd : decode M.2.1 pc = .ok (.ladd, 1)) (hv : zwl (a + b) = v) (k : zX G M d av w0 Q (pc + 1) L (zJ v :: st) w) : zX G M d av w0 Q pc L (zJ b :: zJ a :: st) w := by
  intro p e s m below meth c H ls locs hC hY
  have hY1 := (zY_pop (zY_pop hY).2).2
  have hf : zfit (zJ v) := by
    rw [← hv]; exact zwl_fit _
  have he : Int64.ofInt a + Int64.ofInt b = Int64.ofInt v := by rw [← hv, zwl_of, Int64.ofInt_add]
  have h := k p e s m below meth c H ls locs hC (zY_push hf hY1)
  refine lv_ladd hC.1 hC.2.1 hd ?_
  rw [he]
  exact h
theorem zx_lmul {a b v : Int} (hd : decode M.2.1 pc = .ok (.lmul, 1)) (hv : zwl (a * b) = v) (k : zX G M d av w0 Q (pc + 1) L (zJ v :: st) w) : zX G M d av w0 Q pc L (zJ b :: zJ a :: st) w := by
  intro p e s m below meth c H ls locs hC hY
  have hY1 := (zY_pop (zY_pop hY).2).2
  have hf : zfit (zJ v) := by
    rw [← hv]; exact zwl_fit _
  have he : Int64.ofInt a * Int64.ofInt b = Int64.ofInt v := by rw [← hv, zwl_of, Int64.ofInt_mul]
  have h := k p e s m below meth c H ls locs hC (zY_push hf hY1)
  refine lv_lmul hC.1 hC.2.1 hd ?_
  rw [he]
  exact h
theorem zx_i2l {a : Int} (hd : decode M.2.1 pc = .ok (.i2l, 1)) (k : zX G M d av w0 Q (pc + 1) L (zJ a :: st) w) : zX G M d av w0 Q pc L (zI a :: st) w := by
  intro p e s m below meth c H ls locs hC hY
  obtain ⟨h1, hY1⟩ := zY_pop hY
  have h1 : z32 a := h1
  have hf : zfit (zJ a) := ⟨by have := h1.1; omega, by have := h1.2; omega⟩
  have he : (Int32.ofInt a).toInt64 = Int64.ofInt a := by
    rw [← Int64.toInt_inj, Int32.toInt_toInt64]; show zw a = zwl a; rw [zw_id h1, zwl_id hf]
  exact lv_i2l hC.1 hC.2.1 hd he (k p e s m below meth c H ls locs hC (zY_push hf hY1))
theorem zx_i2c {a v : Int} (hd : decode M.2.1 pc = .ok (.i2c, 1)) (hv : zi2c a = v) (k : zX G M d av w0 Q (pc + 1) L (zI v :: st) w) : zX G M d av w0 Q pc L (zI a :: st) w := by
  intro p e s m below meth c H ls locs hC hY
  obtain ⟨h1, hY1⟩ := zY_pop hY
  have hf : zfit (zI v) := by
    rw [← hv]; exact z_fit32 _
  exact lv_i2c (v := Int32.ofInt v) hC.1 hC.2.1 hd (by rw [← hv]; exact (Int32.ofInt_toInt _).symm) (k p e s m below meth c H ls locs hC (zY_push hf hY1))
theorem zx_icmp_eq {a b : Int} {off : Int} {tgt : Nat} (hd : decode M.2.1 pc = .ok (.if_icmp .eq off, 3)) (ht : (pc : Int) + off = (tgt : Int)) (kt : a = b → zX G M d av w0 Q tgt L st w) (kf : ¬ a = b → zX G M d av w0 Q (pc + 3) L st w) : zX G M d av w0 Q pc L (zI b :: zI a :: st) w := by
  intro p e s m below meth c H ls locs hC hY
  have hb : z32 b := (zY_pop hY).1
  have ha : z32 a := (zY_pop (zY_pop hY).2).1
  have hY1 := (zY_pop (zY_pop hY).2).2
  exact lv_icmp_eq hC.1 hC.2.1 hd ht (fun h => kt ((zi_eq ha hb).mp h) p e s m below meth c H ls locs hC hY1) (fun h => kf (fun q => h ((zi_eq ha hb).mpr q)) p e s m below meth c H ls locs hC hY1)
theorem zx_if_eq {a : Int} {off : Int} {tgt : Nat} (hd : decode M.2.1 pc = .ok (.ifCond .eq off, 3)) (ht : (pc : Int) + off = (tgt : Int)) (kt : a = 0 → zX G M d av w0 Q tgt L st w) (kf : ¬ a = 0 → zX G M d av w0 Q (pc + 3) L st w) : zX G M d av w0 Q pc L (zI a :: st) w := by
  intro p e s m below meth c H ls locs hC hY
  have hb : z32 0 := z32_lit (by decide) (by decide)
  have ha : z32 a := (zY_pop hY).1
  have hY1 := (zY_pop hY).2
  exact lv_if_eq hC.1 hC.2.1 hd ht (fun h => kt ((zi_eq ha hb).mp h) p e s m below meth c H ls locs hC hY1) (fun h => kf (fun q => h ((zi_eq ha hb).mpr q)) p e s m below meth c H ls locs hC hY1)
theorem zx_icmp_ne {a b : Int} {off : Int} {tgt : Nat} (hd : decode M.2.1 pc = .ok (.if_icmp .ne off, 3)) (ht : (pc : Int) + off = (tgt : Int)) (kt : a ≠ b → zX G M d av w0 Q tgt L st w) (kf : ¬ a ≠ b → zX G M d av w0 Q (pc + 3) L st w) : zX G M d av w0 Q pc L (zI b :: zI a :: st) w := by
  intro p e s m below meth c H ls locs hC hY
  have hb : z32 b := (zY_pop hY).1
  have ha : z32 a := (zY_pop (zY_pop hY).2).1
  have hY1 := (zY_pop (zY_pop hY).2).2
  exact lv_icmp_ne hC.1 hC.2.1 hd ht (fun h => kt (fun q => h ((zi_eq ha hb).mpr q)) p e s m below meth c H ls locs hC hY1) (fun h => kf (fun q => q ((zi_eq ha hb).mp h)) p e s m below meth c H ls locs hC hY1)
theorem zx_if_ne {a : Int} {off : Int} {tgt : Nat} (hd : decode M.2.1 pc = .ok (.ifCond .ne off, 3)) (ht : (pc : Int) + off = (tgt : Int)) (kt : a ≠ 0 → zX G M d av w0 Q tgt L st w) (kf : ¬ a ≠ 0 → zX G M d av w0 Q (pc + 3) L st w) : zX G M d av w0 Q pc L (zI a :: st) w := by
  intro p e s m below meth c H ls locs hC hY
  have hb : z32 0 := z32_lit (by decide) (by decide)
  have ha : z32 a := (zY_pop hY).1
  have hY1 := (zY_pop hY).2
  exact lv_if_ne hC.1 hC.2.1 hd ht (fun h => kt (fun q => h ((zi_eq ha hb).mpr q)) p e s m below meth c H ls locs hC hY1) (fun h => kf (fun q => q ((zi_eq ha hb).mp h)) p e s m below meth c H ls locs hC hY1)
theorem zx_icmp_lt {a b : Int} {off : Int} {tgt : Nat} (hd : decode M.2.1 pc = .ok (.if_icmp .lt off, 3)) (ht : (pc : Int) + off = (tgt : Int)) (kt : a < b → zX G M d av w0 Q tgt L st w) (kf : ¬ a < b → zX G M d av w0 Q (pc + 3) L st w) : zX G M d av w0 Q pc L (zI b :: zI a :: st) w := by
  intro p e s m below meth c H ls locs hC hY
  have hb : z32 b := (zY_pop hY).1
  have ha : z32 a := (zY_pop (zY_pop hY).2).1
  have hY1 := (zY_pop (zY_pop hY).2).2
  exact lv_icmp_lt hC.1 hC.2.1 hd ht (fun h => kt ((zi_lt ha hb).mp h) p e s m below meth c H ls locs hC hY1) (fun h => kf (fun q => h ((zi_lt ha hb).mpr q)) p e s m below meth c H ls locs hC hY1)
theorem zx_if_lt {a : Int} {off : Int} {tgt : Nat} (hd : decode M.2.1 pc = .ok (.ifCond .lt off, 3)) (ht : (pc : Int) + off = (tgt : Int)) (kt : a < 0 → zX G M d av w0 Q tgt L st w) (kf : ¬ a < 0 → zX G M d av w0 Q (pc + 3) L st w) : zX G M d av w0 Q pc L (zI a :: st) w := by
  intro p e s m below meth c H ls locs hC hY
  have hb : z32 0 := z32_lit (by decide) (by decide)
  have ha : z32 a := (zY_pop hY).1
  have hY1 := (zY_pop hY).2
  exact lv_if_lt hC.1 hC.2.1 hd ht (fun h => kt ((zi_lt ha hb).mp h) p e s m below meth c H ls locs hC hY1) (fun h => kf (fun q => h ((zi_lt ha hb).mpr q)) p e s m below meth c H ls locs hC hY1)
theorem zx_icmp_ge {a b : Int} {off : Int} {tgt : Nat} (hd : decode M.2.1 pc = .ok (.if_icmp .ge off, 3)) (ht : (pc : Int) + off = (tgt : Int)) (kt : b ≤ a → zX G M d av w0 Q tgt L st w) (kf : ¬ b ≤ a → zX G M d av w0 Q (pc + 3) L st w) : zX G M d av w0 Q pc L (zI b :: zI a :: st) w := by
  intro p e s m below meth c H ls locs hC hY
  have hb : z32 b := (zY_pop hY).1
  have ha : z32 a := (zY_pop (zY_pop hY).2).1
  have hY1 := (zY_pop (zY_pop hY).2).2
  exact lv_icmp_ge hC.1 hC.2.1 hd ht (fun h => kt ((zi_le hb ha).mp h) p e s m below meth c H ls locs hC hY1) (fun h => kf (fun q => h ((zi_le hb ha).mpr q)) p e s m below meth c H ls locs hC hY1)
theorem zx_if_ge {a : Int} {off : Int} {tgt : Nat} (hd : decode M.2.1 pc = .ok (.ifCond .ge off, 3)) (ht : (pc : Int) + off = (tgt : Int)) (kt : 0 ≤ a → zX G M d av w0 Q tgt L st w) (kf : ¬ 0 ≤ a → zX G M d av w0 Q (pc + 3) L st w) : zX G M d av w0 Q pc L (zI a :: st) w := by
  intro p e s m below meth c H ls locs hC hY
  have hb : z32 0 := z32_lit (by decide) (by decide)
  have ha : z32 a := (zY_pop hY).1
  have hY1 := (zY_pop hY).2
  exact lv_if_ge hC.1 hC.2.1 hd ht (fun h => kt ((zi_le hb ha).mp h) p e s m below meth c H ls locs hC hY1) (fun h => kf (fun q => h ((zi_le hb ha).mpr q)) p e s m below meth c H ls locs hC hY1)
theorem zx_icmp_gt {a b : Int} {off : Int} {tgt : Nat} (hd : decode M.2.1 pc = .ok (.if_icmp .gt off, 3)) (ht : (pc : Int) + off = (tgt : Int)) (kt : b < a → zX G M d av w0 Q tgt L st w) (kf : ¬ b < a → zX G M d av w0 Q (pc + 3) L st w) : zX G M d av w0 Q pc L (zI b :: zI a :: st) w := by
  intro p e s m below meth c H ls locs hC hY
  have hb : z32 b := (zY_pop hY).1
  have ha : z32 a := (zY_pop (zY_pop hY).2).1
  have hY1 := (zY_pop (zY_pop hY).2).2
  exact lv_icmp_gt hC.1 hC.2.1 hd ht (fun h => kt ((zi_lt hb ha).mp h) p e s m below meth c H ls locs hC hY1) (fun h => kf (fun q => h ((zi_lt hb ha).mpr q)) p e s m below meth c H ls locs hC hY1)
theorem zx_if_gt {a : Int} {off : Int} {tgt : Nat} (hd : decode M.2.1 pc = .ok (.ifCond .gt off, 3)) (ht : (pc : Int) + off = (tgt : Int)) (kt : 0 < a → zX G M d av w0 Q tgt L st w) (kf : ¬ 0 < a → zX G M d av w0 Q (pc + 3) L st w) : zX G M d av w0 Q pc L (zI a :: st) w := by
  intro p e s m below meth c H ls locs hC hY
  have hb : z32 0 := z32_lit (by decide) (by decide)
  have ha : z32 a := (zY_pop hY).1
  have hY1 := (zY_pop hY).2
  exact lv_if_gt hC.1 hC.2.1 hd ht (fun h => kt ((zi_lt hb ha).mp h) p e s m below meth c H ls locs hC hY1) (fun h => kf (fun q => h ((zi_lt hb ha).mpr q)) p e s m below meth c H ls locs hC hY1)
theorem zx_icmp_le {a b : Int} {off : Int} {tgt : Nat} (hd : decode M.2.1 pc = .ok (.if_icmp .le off, 3)) (ht : (pc : Int) + off = (tgt : Int)) (kt : a ≤ b → zX G M d av w0 Q tgt L st w) (kf : ¬ a ≤ b → zX G M d av w0 Q (pc + 3) L st w) : zX G M d av w0 Q pc L (zI b :: zI a :: st) w := by
  intro p e s m below meth c H ls locs hC hY
  have hb : z32 b := (zY_pop hY).1
  have ha : z32 a := (zY_pop (zY_pop hY).2).1
  have hY1 := (zY_pop (zY_pop hY).2).2
  exact lv_icmp_le hC.1 hC.2.1 hd ht (fun h => kt ((zi_le ha hb).mp h) p e s m below meth c H ls locs hC hY1) (fun h => kf (fun q => h ((zi_le ha hb).mpr q)) p e s m below meth c H ls locs hC hY1)
theorem zx_if_le {a : Int} {off : Int} {tgt : Nat} (hd : decode M.2.1 pc = .ok (.ifCond .le off, 3)) (ht : (pc : Int) + off = (tgt : Int)) (kt : a ≤ 0 → zX G M d av w0 Q tgt L st w) (kf : ¬ a ≤ 0 → zX G M d av w0 Q (pc + 3) L st w) : zX G M d av w0 Q pc L (zI a :: st) w := by
  intro p e s m below meth c H ls locs hC hY
  have hb : z32 0 := z32_lit (by decide) (by decide)
  have ha : z32 a := (zY_pop hY).1
  have hY1 := (zY_pop hY).2
  exact lv_if_le hC.1 hC.2.1 hd ht (fun h => kt ((zi_le ha hb).mp h) p e s m below meth c H ls locs hC hY1) (fun h => kf (fun q => h ((zi_le ha hb).mpr q)) p e s m below meth c H ls locs hC hY1)
theorem zx_goto {off : Int} {tgt : Nat} (hd : decode M.2.1 pc = .ok (.goto off, 3)) (ht : (pc : Int) + off = (tgt : Int)) (k : zX G M d av w0 Q tgt L st w) : zX G M d av w0 Q pc L st w := fun p e s m below meth c H ls locs hC hY => lv_goto hC.1 hC.2.1 hd ht (k p e s m below meth c H ls locs hC hY)
theorem zx_ifnull {a : Option Nat} {off : Int} {tgt : Nat} (hd : decode M.2.1 pc = .ok (.ifnull off, 3)) (ht : (pc : Int) + off = (tgt : Int)) (kt : a = none → zX G M d av w0 Q tgt L st w) (kf : a ≠ none → zX G M d av w0 Q (pc + 3) L st w) : zX G M d av w0 Q pc L (Sum.inr (Sum.inl a) :: st) w := by
  intro p e s m below meth c H ls locs hC hY
  have hY1 := (zY_pop hY).2
  cases a with
  | none => exact lv_ifnullN hC.1 hC.2.1 hd ht (kt rfl p e s m below meth c H ls locs hC hY1)
  | some a => exact lv_ifnull hC.1 hC.2.1 hd (kf (by simp) p e s m below meth c H ls locs hC hY1)
theorem zx_ifnonnull {a : Option Nat} {off : Int} {tgt : Nat} (hd : decode M.2.1 pc = .ok (.ifnonnull off, 3)) (ht : (pc : Int) + off = (tgt : Int)) (kt : a ≠ none → zX G M d av w0 Q tgt L st w) (kf : a = none → zX G M d av w0 Q (pc + 3) L st w) : zX G M d av w0 Q pc L (Sum.inr (Sum.inl a) :: st) w := by
  intro p e s m below meth c H ls locs hC hY
  have hY1 := (zY_pop hY).2
  cases a with
  | none => exact lv_ifnonnullN hC.1 hC.2.1 hd (kf rfl p e s m below meth c H ls locs hC hY1)
  | some a => exact lv_ifnonnull hC.1 hC.2.1 hd ht (kt (by simp) p e s m below meth c H ls locs hC hY1)
theorem zx_tableIn {dflt lo hi : Int} {offs : Array Int} {len : Nat} {a off : Int} {tgt : Nat} (hd : decode M.2.1 pc = .ok (.tableswitch dflt lo hi offs, len)) (h1 : lo ≤ a) (h2 : a ≤ hi) (ho : offs[(a - lo).toNat]? = some off) (ht : (pc : Int) + off = (tgt : Int)) (k : zX G M d av w0 Q tgt L st w) : zX G M d av w0 Q pc L (zI a :: st) w := by
  intro p e s m below meth c H ls locs hC hY
  obtain ⟨hf, hY1⟩ := zY_pop hY
  have e1 : (Int32.ofInt a).toInt = a := zw_id hf
  exact lv_tableIn hC.1 hC.2.1 hd (by rw [e1]; omega) (by rw [e1]; omega) (by rw [e1]; exact ho) ht (k p e s m below meth c H ls locs hC hY1)
theorem zx_tableOut {dflt lo hi : Int} {offs : Array Int} {len : Nat} {a : Int} {tgt : Nat} (hd : decode M.2.1 pc = .ok (.tableswitch dflt lo hi offs, len)) (h : a < lo ∨ hi < a) (ht : (pc : Int) + dflt = (tgt : Int)) (k : zX G M d av w0 Q tgt L st w) : zX G M d av w0 Q pc L (zI a :: st) w := by
  intro p e s m below meth c H ls locs hC hY
  obtain ⟨hf, hY1⟩ := zY_pop hY
  have e1 : (Int32.ofInt a).toInt = a := zw_id hf
  exact lv_tableOut hC.1 hC.2.1 hd (by rw [e1]; exact h) ht (k p e s m below meth c H ls locs hC hY1)
theorem zY_end {s t : State} {H : Heap} {ls : Array Slot} {locs : List Loc} {p : Program} {m : MethodId} {meth : Method} {c : Code} (hC : zC G M av w0 p s m meth c) (hY : zDy G M w0 L st w s H ls locs) (ht : t.heap = H) (hW : s.vm.Alike t.vm) : zEnd G w0 w s t := by
  obtain ⟨h1, h2, h3, h4, h5, -, -⟩ := hY
  exact ⟨by rw [ht]; exact h2, va_K.moved hW hC.2.2.2.2.2.2.2.2.2.2.2.1, h3, h4, h5, h1.F ht⟩
theorem zY_room {s : State} {H : Heap} {ls : Array Slot} {locs : List Loc} (hY : zDy G M w0 L st w s H ls locs) : w.2.1 - w0.2.1 ≤ G.2.2.2.2.1 - w0.2.1 ∧ w.2.2 - w0.2.2 ≤ G.2.2.2.2.2 - w0.2.2 := by
  obtain ⟨-, h2, -⟩ := hY
  obtain ⟨-, -, h3, h4, -⟩ := h2
  exact ⟨by omega, by omega⟩
theorem zx_ireturn {a : Int} {ty : FieldType} (hd : decode M.2.1 pc = .ok (.ireturn, 1)) (hr : M.2.2.2.1 = some ty) (hn : narrow ty (.int (Int32.ofInt a)) = .int (Int32.ofInt a)) (k : Q (.inl (some (zI a))) w) : zX G M d av w0 Q pc L [zI a] w := by
  intro p e s m below meth c H ls locs hC hY
  have hlocks : meth.locks = false := hC.2.2.2.2.2.2.1
  refine vx_ret (W.widen (zY_room hY).1 (zY_room hY).2 ?_)
  exact W.zret hC.1 hC.2.1 (hC.2.2.2.1.trans hr) hn (fun t ht hW => ⟨some (zI a), w, rfl, k, fun x hx => by cases hx; exact (zY_pop hY).1, zY_end hC hY ht hW.alike⟩) hY.1.2.2 hd hlocks
theorem zx_lreturn {a : Int} (hd : decode M.2.1 pc = .ok (.lreturn, 1)) (hr : M.2.2.2.1 = some .long) (k : Q (.inl (some (zJ a))) w) : zX G M d av w0 Q pc L [zJ a] w := by
  intro p e s m below meth c H ls locs hC hY
  have hlocks : meth.locks = false := hC.2.2.2.2.2.2.1
  refine vx_ret (W.widen (zY_room hY).1 (zY_room hY).2 ?_)
  exact W.lret hC.1 hC.2.1 (hC.2.2.2.1.trans hr) (fun t ht hW => ⟨some (zJ a), w, rfl, k, fun x hx => by cases hx; exact (zY_pop hY).1, zY_end hC hY ht hW.alike⟩) hY.1.2.2 hd hlocks
theorem zx_areturn {a : Option Nat} {rt : FieldType} (hd : decode M.2.1 pc = .ok (.areturn, 1)) (hr : M.2.2.2.1 = some rt) (hrt : (∃ n, rt = .object n) ∨ ∃ t, rt = .array t) (k : Q (.inl (some (Sum.inr (Sum.inl a)))) w) : zX G M d av w0 Q pc L [Sum.inr (Sum.inl a)] w := by
  intro p e s m below meth c H ls locs hC hY
  have hlocks : meth.locks = false := hC.2.2.2.2.2.2.1
  refine vx_ret (W.widen (zY_room hY).1 (zY_room hY).2 ?_)
  refine W.aret hC.1 hC.2.1 (hC.2.2.2.1.trans hr) hrt (v := zv (Sum.inr (Sum.inl a))) (by cases a; exact Or.inl rfl; exact Or.inr ⟨_, rfl⟩) (fun t ht hW => ⟨some (Sum.inr (Sum.inl a)), w, rfl, k, fun x hx => by cases hx; exact trivial, zY_end hC hY ht hW.alike⟩) hY.1.2.2 hd hlocks
theorem zx_return (hd : decode M.2.1 pc = .ok (.return_, 1)) (hr : M.2.2.2.1 = none) (k : Q (.inl none) w) : zX G M d av w0 Q pc L [] w := by
  intro p e s m below meth c H ls locs hC hY
  have hlocks : meth.locks = false := hC.2.2.2.2.2.2.1
  refine vx_ret (W.widen (zY_room hY).1 (zY_room hY).2 ?_)
  exact W.vret hC.1 hC.2.1 (hC.2.2.2.1.trans hr) (fun t ht hW => ⟨none, w, rfl, k, fun x hx => (by cases hx), zY_end hC hY ht hW.alike⟩) hY.1.2.2 hd hlocks
end ZROWS
