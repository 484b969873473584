/-! Own rows: a method's walk over a world that is a map from addresses to contents; numbers are integers; heap size and slots are counted exactly, so that a call costs what it makes. -/
abbrev zV : Type := Int ⊕ Option Nat ⊕ Int
abbrev zI (a : Int) : zV := Sum.inl a
abbrev zR (a : Nat) : zV := Sum.inr (Sum.inl (some a))
abbrev zN : zV := Sum.inr (Sum.inl none)
abbrev zJ (a : Int) : zV := Sum.inr (Sum.inr a)
def zv : zV → Value
  | .inl a => .int (Int32.ofInt a)
  | .inr (.inl none) => .null
  | .inr (.inl (some q)) => .ref q
  | .inr (.inr a) => .long (Int64.ofInt a)
def z32 (a : Int) : Prop := -2147483648 ≤ a ∧ a ≤ 2147483647
def z64 (a : Int) : Prop := -9223372036854775808 ≤ a ∧ a ≤ 9223372036854775807
def zfit : zV → Prop
  | .inl a => z32 a
  | .inr (.inl _) => True
  | .inr (.inr a) => z64 a
def zw (a : Int) : Int := (Int32.ofInt a).toInt
def zwl (a : Int) : Int := (Int64.ofInt a).toInt
theorem zw_id {a : Int} (h : z32 a) : zw a = a := Int32.toInt_ofInt_of_le h.1 (by have := h.2; omega)
theorem zwl_id {a : Int} (h : z64 a) : zwl a = a := Int64.toInt_ofInt_of_le h.1 (by have := h.2; omega)
theorem zw_fit (a : Int) : z32 (zw a) := ⟨Int32.le_toInt _, by have := Int32.toInt_lt (Int32.ofInt a); unfold zw; omega⟩
theorem zwl_fit (a : Int) : z64 (zwl a) := ⟨Int64.le_toInt _, by have := Int64.toInt_lt (Int64.ofInt a); unfold zwl; omega⟩
theorem zw_of (a : Int) : Int32.ofInt (zw a) = Int32.ofInt a := Int32.ofInt_toInt _
theorem zwl_of (a : Int) : Int64.ofInt (zwl a) = Int64.ofInt a := Int64.ofInt_toInt _
theorem zw_eq {a b : Int} (h : a = b) (h1 : -2147483648 ≤ b) (h2 : b ≤ 2147483647) : zw a = b := by rw [h]; exact zw_id ⟨h1, h2⟩
theorem zi_lt {a b : Int} (ha : z32 a) (hb : z32 b) : Int32.ofInt a < Int32.ofInt b ↔ a < b := by
  rw [Int32.lt_iff_toInt_lt]; show zw a < zw b ↔ _; rw [zw_id ha, zw_id hb]
theorem zi_le {a b : Int} (ha : z32 a) (hb : z32 b) : Int32.ofInt a ≤ Int32.ofInt b ↔ a ≤ b := by
  rw [Int32.le_iff_toInt_le]; show zw a ≤ zw b ↔ _; rw [zw_id ha, zw_id hb]
theorem zi_eq {a b : Int} (ha : z32 a) (hb : z32 b) : Int32.ofInt a = Int32.ofInt b ↔ a = b := by
  rw [← Int32.toInt_inj]; show zw a = zw b ↔ _; rw [zw_id ha, zw_id hb]
theorem zl_eq {a b : Int} (ha : z64 a) (hb : z64 b) : Int64.ofInt a = Int64.ofInt b ↔ a = b := by
  rw [← Int64.toInt_inj]; show zwl a = zwl b ↔ _; rw [zwl_id ha, zwl_id hb]
theorem z32_lit {a : Int} (h : -2147483648 ≤ a) (h2 : a ≤ 2147483647) : z32 a := ⟨h, h2⟩
theorem zcat (v : zV) (h : ∀ a, v ≠ zJ a) : (zv v).category = 1 := by
  rcases v with a | (_ | q) | a
  · rfl
  · rfl
  · rfl
  · exact absurd rfl (h a)
/-! the heap's size in slots -/
def zTot (H : Heap) : Nat := (H.toList.map (fun c => c.slots.size)).sum
theorem zTot_ext {H H' : Heap} (h : ∀ q : Nat, (H'[q]?).map (fun c => c.slots.size) = (H[q]?).map (fun c => c.slots.size)) : zTot H' = zTot H := by
  unfold zTot
  congr 1
  apply List.ext_getElem?
  intro q
  simpa using h q
theorem zTot_push (H : Heap) (c : Cell) : zTot (H.push c) = zTot H + c.slots.size := by simp [zTot]
theorem zPush {H H' : Heap} {c : Cell} {h : Nat} (hh : H.size = h) (h1 : H'[h]? = some c) (h2 : H'.size = h + 1) (h3 : ∀ q, q < h → H'[q]? = H[q]?) : H' = H.push c := by
  subst hh
  apply Array.ext_getElem?
  intro q
  rcases Nat.lt_trichotomy q H.size with e | e | e
  · rw [h3 q e, Array.getElem?_push, if_neg (Nat.ne_of_lt e)]
  · rw [e, h1]; simp
  · rw [Array.getElem?_eq_none (by omega), Array.getElem?_eq_none (by simp; omega)]
theorem zTot_set {H H' : Heap} {a : Nat} {c c' : Cell} (hc : H[a]? = some c) (h1 : H'[a]? = some c') (hs : c'.slots.size = c.slots.size) (h3 : ∀ q, q ≠ a → H'[q]? = H[q]?) : zTot H' = zTot H := by
  apply zTot_ext
  intro q
  by_cases e : q = a
  · rw [e, hc, h1]; simp [hs]
  · rw [h3 q e]
theorem zSum_take_drop (l : List Cell) (n : Nat) : (l.map (fun c => c.slots.size)).sum = ((l.take n).map (fun c => c.slots.size)).sum + ((l.drop n).map (fun c => c.slots.size)).sum := by
  induction l generalizing n with
  | nil => simp
  | cons x l ih =>
    cases n with
    | zero => simp
    | succ n =>
      have q := ih n
      simp only [List.take_succ_cons, List.drop_succ_cons, List.map_cons, List.sum_cons]
      omega
section NARROW
variable {p : Program} {l : Launch} {e : Env} {R : Room} {s : State} {m : MethodId} {args : Array Value} {below : List Frame} {meth : Method} {c : Code} {H : Heap} {locs : List Loc} {cells slots : Nat} {Q : State → Prop}
theorem z_tot {U : State} {k n : Nat} {L : List Loc} (h : s.sameButNew U L k n) : zTot U.heap ≤ zTot s.heap + n ∧ zTot s.heap ≤ zTot U.heap ∧ U.heap.size ≤ s.heap.size + k ∧ ((U.heap.toList.drop s.heap.size).map (fun c => c.slots.size)).sum + zTot s.heap = zTot U.heap := by
  obtain ⟨-, -, a3, -, a5, a6⟩ := h
  have e1 : ((U.heap.toList.take s.heap.size).map (fun c => c.slots.size)).sum = zTot s.heap := by
    unfold zTot
    congr 1
    apply List.ext_getElem?
    intro q
    by_cases hq : q < s.heap.size
    · obtain ⟨c', b1, -, b3, -⟩ := a6 q _ (Array.getElem?_eq_getElem hq)
      have hq2 : q < U.heap.size := (Array.getElem?_eq_some_iff.mp b1).1
      have b4 : U.heap[q] = c' := (Array.getElem?_eq_some_iff.mp b1).2
      simp [hq, hq2, b4, b3]
    · simp [hq]
      omega
  have e2 := zSum_take_drop U.heap.toList s.heap.size
  rw [e1] at e2
  have e3 : zTot U.heap = (U.heap.toList.map (fun c => c.slots.size)).sum := rfl
  exact ⟨by omega, by omega, a3, by omega⟩
theorem z_stand {T : State} {k n : Nat} (X : Stand p l e R s m args below meth c T locs cells slots) (h1 : T.heap.size ≤ s.heap.size + k) (h2 : zTot T.heap ≤ zTot s.heap + n) : Stand p l e R s m args below meth c T locs k n := by
  obtain ⟨-, -, -, e4⟩ := z_tot X.same
  have e4 : ((T.heap.toList.drop s.heap.size).map (fun c => c.slots.size)).sum + zTot s.heap = zTot T.heap := e4
  refine { X with same := ?_ }
  obtain ⟨a1, a2, a3, a4, a5, a6⟩ := X.same
  refine ⟨a1, a2, h1, a4, ?_, a6⟩
  show ((T.heap.toList.drop s.heap.size).map (fun c => c.slots.size)).sum ≤ n
  omega
theorem z_narrow {k n : Nat} {g : JFrame} (h1 : H.size ≤ s.heap.size + k) (h2 : zTot H ≤ zTot s.heap + n) (kk : W p l e R s m args below meth c H locs k n Q g) : W p l e R s m args below meth c H locs cells slots Q g :=
  fun T hT X => kk T hT (z_stand X (by rw [hT]; exact h1) (by rw [hT]; exact h2))
theorem z_narrowX {k n : Nat} {g : JFrame} {q : Addr} (h1 : H.size ≤ s.heap.size + k) (h2 : zTot H ≤ zTot s.heap + n) (kk : vx_W p l e R s m args below meth c H locs k n Q g q) : vx_W p l e R s m args below meth c H locs cells slots Q g q :=
  fun T hT X => kk T hT (z_stand X (by rw [hT]; exact h1) (by rw [hT]; exact h2))
end NARROW
/-! what lies outside a world -/
def zXn (i : Nat) : String := if i = 0 then "java/lang/IndexOutOfBoundsException" else if i = 1 then "java/lang/IllegalArgumentException" else if i = 2 then "java/lang/IllegalStateException" else if i = 3 then "java/lang/UnsupportedOperationException" else if i = 4 then "java/util/NoSuchElementException" else "java/lang/ArithmeticException"
theorem zNc_moved {C T : String} {u U : State} (hal : u.vm.Alike U.vm) (h : va_Nc C T u) : va_Nc C T U := by
  obtain ⟨c, t, h1, h2, h3⟩ := h
  exact ⟨c, t, by rw [hal.findClass]; exact h1, by rw [hal.findClass]; exact h2, by rw [hal.assignable]; exact h3⟩
def zNw : Cond → Bool
  | .fieldLinkNest .. | .methodLinkNest .. | .castable .. | .declares .. => true
  | _ => false
theorem zNw_moved {w : Cond} {s U : State} (hW : s.WarmedH U.vm) (hw : zNw w = true) (h : va_Nw w s) : va_Nw w U := by
  cases w <;> first
    | exact va_Nw.warmF hW h
    | exact va_Nw.warmM hW h
    | exact va_Nw.warmC hW h
    | exact va_Nw.warmD hW h
    | (simp [zNw] at hw)
theorem zNw_tab {w : Cond} (hw : zNw w = true) : w.onTables = true := by
  cases w <;> first | rfl | (simp [zNw] at hw)
def zArr (C : String) : Prop := C = "ModedMill$Goal" ∨ C = "ModedMill$Mode" ∨ C = "java/lang/Object"
/-- the statics that a throw and a new list read (e0: the list's empty array), the words that don't keep -/
def zEn (e0 mi : Nat) (A : Nat → Prop) (U : State) (H : Heap) : Prop :=
  vx_Zq Bundle.tN "UNASSIGNED_STACK" Bundle.steD A U H ∧ vx_Zq Bundle.tN "SUPPRESSED_SENTINEL" Bundle.listD A U H ∧ va_Z "java/util/ArrayList" "DEFAULTCAPACITY_EMPTY_ELEMENTDATA" "[Ljava/lang/Object;" (.ref e0) A U H ∧ (∃ cell : Cell, H[e0]? = some cell ∧ U.isArrayOf cell (.object "java/lang/Object") ∧ cell.slots.size.toInt32 = 0 ∧ e0 < H.size ∧ ¬ A e0) ∧ (∀ w ∈ lw_tbl, zNw w = true → va_Nw w U) ∧ (∀ C, zArr C → va_AO C U) ∧ (∀ i j, i < 6 → j < 6 → i ≠ j → va_Nc (zXn i) (zXn j) U) ∧ va_Mi "[Ljava/lang/Object;" mi U
theorem zEn.same {e0 mi : Nat} {A : Nat → Prop} {u U : State} {H : Heap} (h : u.vm = U.vm) (q : zEn e0 mi A u H) : zEn e0 mi A U H := by
  have hal : u.vm.Alike U.vm := by rw [h]; exact Vm.Alike.refl _
  obtain ⟨h1, h2, h3, ⟨cell, h4, h5, h6⟩, h7, h8, h9, h90⟩ := q
  exact ⟨vx_Zq.moved hal h1, vx_Zq.moved hal h2, va_Z.moved hal h3, ⟨cell, h4, State.isArrayOf_alike hal h5, h6⟩, fun w hw hn => va_Nw.same (zNw_tab hn) h (h7 w hw hn), fun C hC => va_AO.moved hal (h8 C hC), fun i j hi hj hij => zNc_moved hal (h9 i j hi hj hij), va_Mi.moved hal h90⟩
theorem zEn.call {e0 mi : Nat} {A A1 : Nat → Prop} {s U : State} {H : Heap} {locs : List Loc} (q : zEn e0 mi A s s.heap) (hS : va_S A s.heap H locs) (hA : ∀ x, A1 x → A x ∨ H.size ≤ x) (hW : s.WarmedH U.vm) (hU : U.heap = H) (hAA : ∀ x, s.heap.size ≤ x → A x) : zEn e0 mi A1 U U.heap := by
  have hal := hW.alike
  have hA : ∀ x, A1 x → A x := fun x hx => (hA x hx).elim id (fun h => hAA x (Nat.le_trans hS.1 h))
  obtain ⟨h1, h2, h3, ⟨cell, h4, h5, h6, h7, h8⟩, h9, h10, h11, h12⟩ := q
  have hk : ∀ a : Nat, a < s.heap.size → ¬ A a → H[a]? = s.heap[a]? := hS.2.1
  rw [hU]
  exact ⟨((vx_Zq.moved hal h1).kept hk).narrow hA, ((vx_Zq.moved hal h2).kept hk).narrow hA, ((va_Z.moved hal h3).kept hk).narrow hA, ⟨cell, by rw [hk e0 h7 h8]; exact h4, State.isArrayOf_alike hal h5, h6, Nat.lt_of_lt_of_le h7 hS.1, fun z => h8 (hA e0 z)⟩, fun w hw hn => zNw_moved hW hn (h9 w hw hn), fun C hC => va_AO.moved hal (h10 C hC), fun i j hi hj hij => zNc_moved hal (h11 i j hi hj hij), va_Mi.moved hal h12⟩
/-! worlds: what lies at an address: a tag, an owner, the contents. Tags: below 100 the number of the class in vwCl; 100 to 119 ints; 120 to 124 longs; 125 goals; 126 modes; 127 objects; 130 to 159 tables (columns, room, numbers); 160 to 189 lists (room, elements); 199 a cell of a table or a list -/
abbrev zO : Type := Nat × Nat × List zV
abbrev zW : Type := (Nat → Option zO) × Nat × Nat
abbrev zG : Type := Launch × Nat × va_G × (Nat → ClassId) × Nat × Nat
abbrev zMd : Type := MethodName × ByteArray × Nat × Option FieldType × List (Nat × Nat × Nat × Nat)
abbrev zQ : Type := Option zV ⊕ Nat → zW → Prop
abbrev zTy (k : Nat → ClassId) : List (ClassId × FieldType) := [(k 0, .int), (k 1, .long), (k 2, .object "ModedMill$Goal"), (k 3, .object "ModedMill$Mode"), (k 4, .object "java/lang/Object")]
def zArrA (cA : ClassId) (fs : List zV) (a : Nat) (H : Heap) : Prop := H[a]? = some (arrV cA fs.length (fun i => zv (fs.getD i zN)))
def zTab (D : va_G) (k : Nat → ClassId) (m : Nat → Option zO) (a : Nat) (fs : List zV) (H : Heap) : Prop :=
  ∃ (cols lines cap h : Nat) (g : Nat → Int) (xs : List Int), fs = zI cols :: zI cap :: xs.map Sum.inl ∧ xs.length = lines * cols ∧ lines * cols ≤ cap ∧ 0 < cols ∧ cap < 2000000000 ∧ (∀ i, z32 (g i)) ∧ (∀ i, i < lines * cols → g i = xs.getD i 0) ∧
    va_at D vwCl (a, .inr (9, [.int (Int32.ofInt cols), .ref h, .int (Int32.ofInt lines)])) H ∧ H[h]? = some (arrV (k 0) cap (fun i => .int (Int32.ofInt (g i)))) ∧ m h = some (199, a, [])
def zLst (D : va_G) (k : Nat → ClassId) (e0 : Nat) (m : Nat → Option zO) (a : Nat) (fs : List zV) (H : Heap) : Prop :=
  ∃ (cap : Nat) (mc : Int) (h : Nat) (ys : List Nat) (g : Nat → Option Nat), fs = zI cap :: ys.map (fun y => zR y) ∧ ys.length ≤ cap ∧ cap < 40000 ∧
    va_at D vwCl (a, .inr (12, [.int (Int32.ofInt mc), .ref h, .int (Int32.ofInt ys.length)])) H ∧ (∀ i, i < ys.length → g i = some (ys.getD i 0)) ∧
    ((h = e0 ∧ cap = 0) ∨ (1 < cap ∧ H[h]? = some (arrV (k 4) cap (fun i => va_rf (g i))) ∧ m h = some (199, a, [])))
def zat (D : va_G) (k : Nat → ClassId) (e0 : Nat) (m : Nat → Option zO) (a : Nat) (ob : zO) (H : Heap) : Prop :=
  (∀ v ∈ ob.2.2, zfit v) ∧
  if ob.1 < 100 then va_at D vwCl (a, .inr (ob.1, ob.2.2.map zv)) H
  else if ob.1 < 120 then zArrA (k 0) ob.2.2 a H
  else if ob.1 < 125 then zArrA (k 1) ob.2.2 a H
  else if ob.1 = 125 then zArrA (k 2) ob.2.2 a H
  else if ob.1 = 126 then zArrA (k 3) ob.2.2 a H
  else if ob.1 = 127 then zArrA (k 4) ob.2.2 a H
  else if ob.1 < 160 then zTab D k m a ob.2.2 H
  else if ob.1 < 190 then zLst D k e0 m a ob.2.2 H
  else True
def zHp (G : zG) (w : zW) (H : Heap) : Prop := H.size = w.2.1 ∧ zTot H = w.2.2 ∧ w.2.1 ≤ G.2.2.2.2.1 ∧ w.2.2 ≤ G.2.2.2.2.2 ∧ ∀ a ob, w.1 a = some ob → zat G.2.2.1 G.2.2.2.1 G.2.1 w.1 a ob H ∧ a < H.size
def zA (w : zW) : Nat → Prop := fun q => w.1 q ≠ none ∨ w.2.1 ≤ q
def zup (m : Nat → Option zO) (a : Nat) (ob : zO) : Nat → Option zO := fun b => if b = a then some ob else m b
def zput (w : zW) (a : Nat) (ob : zO) : zW := (zup w.1 a ob, w.2)
/-- a new cell of n slots -/
def znew (w : zW) (ob : zO) (n : Nat) : zW := (zup w.1 w.2.1 ob, w.2.1 + 1, w.2.2 + n)
def zws (M : zMd) : List Cond := (if M.2.2.2.2 = [] then Cond.code M.1 M.2.1 M.2.2.1 M.2.2.2.1 else Cond.codeWith M.1 M.2.1 M.2.2.1 M.2.2.2.1 M.2.2.2.2) :: zWS
def zrm (G : zG) (d : Nat) (w : zW) : Room := { frames := 10 + d, cells := G.2.2.2.2.1 - w.2.1, slots := G.2.2.2.2.2 - w.2.2, locals := 110 + 40 * d }
def zLv (ls : Array Slot) (n : Nat) (L : List (Option zV)) : Prop := ls.size = n ∧ lv_wf ls ∧ ∀ (i : Nat) (v : zV), L[i]? = some (some v) → ls[i]? = some (Slot.val (zv v)) ∧ zfit v
def zEnd (G : zG) (w0 w' : zW) (st t : State) : Prop := zHp G w' t.heap ∧ va_K G.2.2.1 vwCl (zTy G.2.2.2.1) t ∧ (∀ q, w'.1 q ≠ none → zA w0 q) ∧ w0.2.1 ≤ w'.2.1 ∧ w0.2.2 ≤ w'.2.2 ∧ va_F (zA w0) st t
def zQr (G : zG) (w0 : zW) (Q : zQ) : Array Value → State → Outcome → State → Prop := fun _ st oc t => ∃ (v : Option zV) (w' : zW), oc = .returned (v.map zv) ∧ Q (.inl v) w' ∧ (∀ x, v = some x → zfit x) ∧ zEnd G w0 w' st t
def zQx (G : zG) (w0 : zW) (Q : zQ) : String → State → State → Prop := fun E st t => ∃ (i : Nat) (w' : zW), i < 6 ∧ E = zXn i ∧ Q (.inr i) w' ∧ zEnd G w0 w' st t
def zPre (G : zG) (w : zW) (U : State) : Prop := zHp G w U.heap ∧ va_K G.2.2.1 vwCl (zTy G.2.2.2.1) U ∧ zEn G.2.1 (G.2.2.2.1 5) (zA w) U U.heap
/-- a method's contract -/
def zM (G : zG) (M : zMd) (d : Nat) (av : List zV) (w : zW) (Q : zQ) : Prop :=
  (∀ v ∈ av, zfit v) → vx_Met G.1 M.1 (zws M) (zrm G d w) (va_Pc (av.map zv) (zPre G w)) (zQr G w Q) (zQx G w Q) (G.2.2.2.2.1 - w.2.1) (G.2.2.2.2.2 - w.2.2) (zA w)
def zC (G : zG) (M : zMd) (av : List zV) (w0 : zW) (p : Program) (s : State) (m : MethodId) (meth : Method) (c : Code) : Prop :=
  p.tables.exec = Jvm.exec ∧ c.code = M.2.1 ∧ c.maxLocals = M.2.2.1 ∧ meth.sig.returnType = M.2.2.2.1 ∧ (∀ w ∈ zws M, w.before (av.map zv).toArray s = true) ∧ s.vm.findClass M.1.cls = some m.cls ∧ meth.locks = false ∧ meth.name = M.1.name ∧ c.exceptionTable.toList = tableOf M.2.2.2.2 ∧
  s.heap.size = w0.2.1 ∧ zTot s.heap = w0.2.2 ∧ va_K G.2.2.1 vwCl (zTy G.2.2.2.1) s ∧ zEn G.2.1 (G.2.2.2.1 5) (zA w0) s s.heap
def zDy (G : zG) (M : zMd) (w0 : zW) (L : List (Option zV)) (st : List zV) (w : zW) (s : State) (H : Heap) (ls : Array Slot) (locs : List Loc) : Prop :=
  va_S (zA w0) s.heap H locs ∧ zHp G w H ∧ (∀ q, w.1 q ≠ none → zA w0 q) ∧ w0.2.1 ≤ w.2.1 ∧ w0.2.2 ≤ w.2.2 ∧ zLv ls M.2.2.1 L ∧ ∀ v ∈ st, zfit v
/-- the walk goes on from pc, and the end is in Q -/
def zX (G : zG) (M : zMd) (d : Nat) (av : List zV) (w0 : zW) (Q : zQ) (pc : Nat) (L : List (Option zV)) (st : List zV) (w : zW) : Prop :=
  ∀ (p : Program) (e : Env) (s : State) (m : MethodId) (below : List Frame) (meth : Method) (c : Code) (H : Heap) (ls : Array Slot) (locs : List Loc), zC G M av w0 p s m meth c → zDy G M w0 L st w s H ls locs →
    W p G.1 e (zrm G d w0) s m (av.map zv).toArray below meth c H locs (w.2.1 - w0.2.1) (w.2.2 - w0.2.2) (vx_MQ below (zQr G w0 Q) (zQx G w0 Q) (av.map zv).toArray s (G.2.2.2.2.1 - w0.2.1) (G.2.2.2.2.2 - w0.2.2) (zA w0)) (F0 m pc ls (st.map zv))
/-! the kit's row of a throw (vx_throw0), with what it makes told -/
section ZTHROW
variable {p : Program} {l : Launch} {e : Env} {R : Room} {s : State} {m : MethodId} {args : Array Value} {below : List Frame} {meth : Method} {c : Code} {H : Heap} {locs : List Loc} {cells slots : Nat} {Q : State → Prop}
variable {mc ms : Nat} {free : Addr → Prop} {A0 A1 : Nat → Prop} {H0 : Heap} {a : Array Value} {ls : Array Slot} {st0 rest : List Value}
variable {Qc : Array Value → State → Outcome → State → Prop} {XC : String → State → State → Prop}
theorem vx_throwZ {cc : ByteArray} {pc : Nat} (hexec : p.tables.exec = Jvm.exec) (hb : c.code = cc) (hl : l.stackTraces = false) {own cls : String} {names : List String} {ik ic mc ms : Nat} {A : Nat → Prop}
    (hown : s.vm.findClass own = some m.cls) (hcls : Bundle.fit cls = true) (hnames : ∀ n ∈ names, Bundle.fit n = true)
    (hk : (Cond.classLink own ik cls).before args s = true) (hini : (Cond.initialized cls).before args s = true) (hat : ∀ w ∈ vx_at0 own ic cls names, w.before args s = true)
    (hgood : ∀ w ∈ Cond.classLink own ik cls :: Cond.initialized cls :: vx_at0 own ic cls names, vx_ot w = true)
    (hU : vx_Zq Bundle.tN "UNASSIGNED_STACK" Bundle.steD A s s.heap) (hN : vx_Zq Bundle.tN "SUPPRESSED_SENTINEL" Bundle.listD A s s.heap) (hS : va_S A s.heap H locs) (hsize : ls.size = c.maxLocals)
    (d0 : decode cc pc = .ok (.new ik, 3)) (d3 : decode cc (pc + 3) = .ok (.dup, 1)) (d4 : decode cc (pc + 4) = .ok (.invokespecial ic, 3)) (d7 : decode cc (pc + 7) = .ok (.athrow, 1))
    (hout : ∀ x ∈ c.exceptionTable.toList, covers x (pc + 7) = false)
    (hRframes : names.length + 3 < R.frames) (hRlocals : (rest.map fun v => v.category).sum + (13 * (names.length + 1) + 42) ≤ R.locals) (hRcells : cells + 1 ≤ R.cells) (hRslots : slots + 6 ≤ R.slots) (hlocks : meth.locks = false)
    (hx : ∀ t : State, s.vm.Alike t.vm → H.size ≤ t.heap.size → t.heap.size ≤ H.size + 1 → (∀ q : Nat, q < H.size → t.heap[q]? = H[q]?) → zTot H ≤ zTot t.heap → zTot t.heap ≤ zTot H + 6 → XC cls s t)
    (hf : ∀ z ∈ locs, free z.base) (hc : cells + 1 ≤ mc) (hs : slots + 6 ≤ ms) :
    W p l e R s m args below meth c H locs cells slots (vx_MQ below Qc XC args s mc ms free) (F0 m pc ls rest) := by
  intro T hT X
  have htr : e.platform.stackTraces = false := (show e.platform.stackTraces = l.stackTraces by rw [X.admits.platform]).trans hl
  have Y := vx_rebase X (R' := { frames := R.frames, locals := R.locals, cells := 1, slots := 6 }) (Nat.le_refl _) (Nat.le_refl _) hRcells hRslots
  obtain ⟨s', hA⟩ : ∃ z, z = (T.setVm s.vm).setFrames (.invoking m args :: below) := ⟨_, rfl⟩
  rw [← hA] at Y
  have hvm : s'.vm = s.vm := by rw [hA]; rfl
  have hhp : s'.heap = H := by rw [hA]; exact hT
  have hW0 : s.WarmedH s'.vm := by rw [hvm]; exact State.WarmedH.refl s
  have hat' : ∀ w ∈ vx_at0 own ic cls names, w.before args s' = true := fun w hw => vx_ot_at hW0 hvm.symm (hgood w (List.mem_cons_of_mem _ (List.mem_cons_of_mem _ hw))) (hat w hw)
  have hk' : (Cond.classLink own ik cls).before args s' = true := vx_ot_at hW0 hvm.symm (hgood _ List.mem_cons_self) hk
  have hini' : (Cond.initialized cls).before args s' = true := vx_ot_at hW0 hvm.symm (hgood _ (List.mem_cons_of_mem _ List.mem_cons_self)) hini
  have hU' : vx_Zq Bundle.tN "UNASSIGNED_STACK" Bundle.steD A s' s'.heap := by rw [hhp]; exact vx_Zq.moved hW0.alike (hU.kept hS.2.1)
  have hN' : vx_Zq Bundle.tN "SUPPRESSED_SENTINEL" Bundle.listD A s' s'.heap := by rw [hhp]; exact vx_Zq.moved hW0.alike (hN.kept hS.2.1)
  have h : ∀ w ∈ Bundle.ownAtoms0 own ic cls names, w.before args s' = true := vx_own hat' (vx_isRefq hU'.1) (vx_isRefq hN'.1) hU'.2.word hN'.2.word
  have hown' : s'.vm.findClass own = some m.cls := by rw [hvm]; exact hown
  have hins : (Cond.instantiable cls 6).before args s' = true := h _ (by simp [Bundle.ownAtoms0])
  obtain ⟨vm₁, cX, kX, hfX, hkX, -, -, X₁, st1⟩ := Y.newCold hexec (own := own) (C := cls) (index := ik) (n := 6) hown' hk' hins hini'
    (g := F0 m pc ls rest) rfl (by rw [hb]; exact d0) (Nat.le_refl _) (Nat.le_refl _)
  generalize hT1 : (T.setVm vm₁).pushCell { cls := cX, slots := kX.instanceTypes.map defaultValue, vm := .none } = T1 at X₁ st1
  have hcat : (Value.ref T.heap.size).category = 1 := rfl
  have hcellA : T1.heap[T.heap.size]? = some (freshCell cX kX) := by rw [← hT1]; exact State.heap_pushCell_size _ _
  have d3' : decode c.code (pc + 3) = .ok (.dup, 1) := by rw [hb]; exact d3
  obtain ⟨U, hsteps, hrun, hend, hW, hsame, ce, hce, hO⟩ := X₁.ctorThrow0 hexec htr (own := own) (cls := cls) (names := names) (ic := ic) hown' hcls hnames h (fun x hx => nomatch hx) hfX hkX hcellA (by rw [hhp, hT]; exact Nat.le_refl _)
    (g := { method := m, pc := pc + 4, locals := ls, stack := .ref T.heap.size :: .ref T.heap.size :: rest, locked := none }) rfl hsize rfl rfl (rest := rest) rfl
    (by rw [hb]; exact d4) (by rw [hb]; exact d7) hout hRframes (by simp only [List.map_cons, List.sum_cons, hcat]; omega) hlocks
  obtain ⟨f1, f2⟩ := vx_frame hsame
  obtain ⟨t1, t2, t3, -⟩ := z_tot hsame
  have t1 : zTot U.heap ≤ zTot s'.heap + 6 := t1
  have t2 : zTot s'.heap ≤ zTot U.heap := t2
  have t3 : U.heap.size ≤ s'.heap.size + 1 := t3
  rw [hhp] at t1 t2 t3
  rw [hhp] at f1 f2
  have hWs : s.WarmedH U.vm := State.WarmedH.trans hW0 hW
  have hcl : s.vm.findClass cls = some ce.cls := by
    have h9 := hO.cls
    rw [hvm] at h9
    exact h9
  have hall : s.sameButNew ({ U with vm := s.vm } : State) locs mc ms := by
    subst hA
    obtain ⟨e1, e2⟩ := hsame
    rw [State.setFrames_setFrames] at e1
    have h2 : (T.setVm s.vm).sameButNew ({ U with vm := s.vm } : State) [] (0 + 1) (0 + 6) := ⟨e1, e2⟩
    have h3 := X.same.trans h2
    rw [List.append_nil] at h3
    exact h3.mono hc hs
  refine ⟨U, ?_, .threw T.heap.size, hrun, hend, Or.inr ⟨T.heap.size, rfl, cls, ce, locs, hx U hWs.alike f1 t3 (fun q hq => f2 q hq (fun z hz => nomatch hz)) t2 t1, hce, hO.vm, hcl, hWs, hall, hf⟩⟩
  refine st1 _ ?_
  show Steps p.tables e below (T1.setTop { method := m, pc := pc + 3, locals := ls, stack := .ref T.heap.size :: rest, locked := none }) _
  jvm_step X₁.here [X₁.here.top, hexec, d3', Value.category]
  exact hsteps
end ZTHROW
