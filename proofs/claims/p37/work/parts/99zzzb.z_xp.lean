/-! Own rows: rows over worlds where something is known of the state at the entry. Turned by program (wip/p37/m_xp.py) from the rows zx_ of earlier parts. -/
/-- the walk goes on from pc, and the end is in Q, if X holds of the state at the entry -/
def zXp (X : State → Prop) (G : zG) (M : zMd) (d : Nat) (av : List zV) (w0 : zW) (Q : zQ) (pc : Nat) (L : List (Option zV)) (st : List zV) (w : zW) : Prop :=
  ∀ (p : Program) (e : Env) (s : State) (m : MethodId) (below : List Frame) (meth : Method) (c : Code) (H : Heap) (ls : Array Slot) (locs : List Loc), zC G M av w0 p s m meth c → X s → zDy G M w0 L st w s H ls locs →
    W p G.1 e (zrm G d w0) s m (av.map zv).toArray below meth c H locs (w.2.1 - w0.2.1) (w.2.2 - w0.2.2) (vx_MQ below (zQr G w0 Q) (zQx G w0 Q) (av.map zv).toArray s (G.2.2.2.2.1 - w0.2.1) (G.2.2.2.2.2 - w0.2.2) (zA w0)) (F0 m pc ls (st.map zv))
section XP
variable {X : State → Prop} {G : zG} {M : zMd} {d : Nat} {av : List zV} {w0 : zW} {Q : zQ} {pc : Nat} {L : List (Option zV)} {st : List zV} {w : zW}
theorem zp_iload_n {i : Nat} {q : Fin 4} {a : Int} (hd : decode M.2.1 pc = .ok (.iload_n q, 1)) (hi : (q : Nat) = i) (hl : L[i]? = some (some (zI a))) (k : zXp X G M d av w0 Q (pc + 1) L (zI a :: st) w) : zXp X G M d av w0 Q pc L st w := by
  intro p e s m below meth c H ls locs hC hX hY
  exact lv_iload_n hC.1 hC.2.1 hd hi (zY_loc hY hl).1 (k p e s m below meth c H ls locs hC hX (zY_push (zY_loc hY hl).2 hY))
theorem zp_iload {i : Nat} {a : Int} (hd : decode M.2.1 pc = .ok (.iload i, 2)) (hl : L[i]? = some (some (zI a))) (k : zXp X G M d av w0 Q (pc + 2) L (zI a :: st) w) : zXp X G M d av w0 Q pc L st w := by
  intro p e s m below meth c H ls locs hC hX hY
  exact lv_iload hC.1 hC.2.1 hd (zY_loc hY hl).1 (k p e s m below meth c H ls locs hC hX (zY_push (zY_loc hY hl).2 hY))
theorem zp_lload {i : Nat} {a : Int} (hd : decode M.2.1 pc = .ok (.lload i, 2)) (hl : L[i]? = some (some (zJ a))) (k : zXp X G M d av w0 Q (pc + 2) L (zJ a :: st) w) : zXp X G M d av w0 Q pc L st w := by
  intro p e s m below meth c H ls locs hC hX hY
  exact lv_lload hC.1 hC.2.1 hd (zY_loc hY hl).1 (k p e s m below meth c H ls locs hC hX (zY_push (zY_loc hY hl).2 hY))
theorem zp_aload_n {i : Nat} {q : Fin 4} {a : Option Nat} (hd : decode M.2.1 pc = .ok (.aload_n q, 1)) (hi : (q : Nat) = i) (hl : L[i]? = some (some (Sum.inr (Sum.inl a)))) (k : zXp X G M d av w0 Q (pc + 1) L (Sum.inr (Sum.inl a) :: st) w) : zXp X G M d av w0 Q pc L st w := by
  intro p e s m below meth c H ls locs hC hX hY
  have h1 := (zY_loc hY hl).1
  have h2 := k p e s m below meth c H ls locs hC hX (zY_push (zY_loc hY hl).2 hY)
  cases a with
  | none => exact lv_aload_nN hC.1 hC.2.1 hd hi h1 h2
  | some a => exact lv_aload_n hC.1 hC.2.1 hd hi h1 h2
theorem zp_istore_n {i : Nat} {q : Fin 4} {a : Int} (hd : decode M.2.1 pc = .ok (.istore_n q, 1)) (hi : (q : Nat) = i) (hn : i < M.2.2.1) (hp : zpl L i = true) (k : zXp X G M d av w0 Q (pc + 1) (L.set i (some (zI a))) st w) : zXp X G M d av w0 Q pc L (zI a :: st) w := by
  intro p e s m below meth c H ls locs hC hX hY
  obtain ⟨hv, hY⟩ := zY_pop hY
  exact lv_istore_n hC.1 hC.2.1 hd hi (zLv_has hY.2.2.2.2.2.1) hn rfl fun ls1 h1 => k p e s m below meth c H ls1 locs hC hX (zY_set hY (zLv_set1 hY.2.2.2.2.2.1 hv hp h1))
theorem zp_istore {i : Nat} {a : Int} (hd : decode M.2.1 pc = .ok (.istore i, 2)) (hn : i < M.2.2.1) (hp : zpl L i = true) (k : zXp X G M d av w0 Q (pc + 2) (L.set i (some (zI a))) st w) : zXp X G M d av w0 Q pc L (zI a :: st) w := by
  intro p e s m below meth c H ls locs hC hX hY
  obtain ⟨hv, hY⟩ := zY_pop hY
  exact lv_istore hC.1 hC.2.1 hd (zLv_has hY.2.2.2.2.2.1) hn rfl fun ls1 h1 => k p e s m below meth c H ls1 locs hC hX (zY_set hY (zLv_set1 hY.2.2.2.2.2.1 hv hp h1))
theorem zp_lstore {i : Nat} {a : Int} (hd : decode M.2.1 pc = .ok (.lstore i, 2)) (hn : i + 1 < M.2.2.1) (hp : zpl L i = true) (k : zXp X G M d av w0 Q (pc + 2) ((L.set i (some (zJ a))).set (i + 1) none) st w) : zXp X G M d av w0 Q pc L (zJ a :: st) w := by
  intro p e s m below meth c H ls locs hC hX hY
  obtain ⟨hv, hY⟩ := zY_pop hY
  exact lv_lstore hC.1 hC.2.1 hd (zLv_has hY.2.2.2.2.2.1) hn rfl fun ls1 h1 => k p e s m below meth c H ls1 locs hC hX (zY_set hY (zLv_set2 hY.2.2.2.2.2.1 hv hp h1))
theorem zp_astore_n {i : Nat} {q : Fin 4} {a : Option Nat} (hd : decode M.2.1 pc = .ok (.astore_n q, 1)) (hi : (q : Nat) = i) (hn : i < M.2.2.1) (hp : zpl L i = true) (k : zXp X G M d av w0 Q (pc + 1) (L.set i (some (Sum.inr (Sum.inl a)))) st w) : zXp X G M d av w0 Q pc L (Sum.inr (Sum.inl a) :: st) w := by
  intro p e s m below meth c H ls locs hC hX hY
  obtain ⟨hv, hY1⟩ := zY_pop hY
  cases a with
  | none => exact lv_astore_nN hC.1 hC.2.1 hd hi (zLv_has hY1.2.2.2.2.2.1) hn rfl fun ls1 h1 => k p e s m below meth c H ls1 locs hC hX (zY_set hY1 (zLv_set1 hY1.2.2.2.2.2.1 hv hp h1))
  | some a => exact lv_astore_n hC.1 hC.2.1 hd hi (zLv_has hY1.2.2.2.2.2.1) hn rfl fun ls1 h1 => k p e s m below meth c H ls1 locs hC hX (zY_set hY1 (zLv_set1 hY1.2.2.2.2.2.1 hv hp h1))
theorem zp_iinc {i : Nat} {a n v : Int} (hd : decode M.2.1 pc = .ok (.iinc i n, 3)) (hl : L[i]? = some (some (zI a))) (hv : zw (a + n) = v) (hn : i < M.2.2.1) (hp : zpl L i = true) (k : zXp X G M d av w0 Q (pc + 3) (L.set i (some (zI v))) st w) : zXp X G M d av w0 Q pc L st w := by
  intro p e s m below meth c H ls locs hC hX hY
  obtain ⟨j, hj⟩ := List.getElem?_of_mem (zLl_mem.mpr ⟨_, hl, rfl⟩)
  have hv2 : Int32.ofInt a + Int32.ofInt n = Int32.ofInt v := by rw [← hv, zw_of, Int32.ofInt_add]
  exact lv_iinc (v := Int32.ofInt v) hC.1 hC.2.1 hd (zLv_has hY.2.2.2.2.2.1) hj hv2 hn rfl fun ls1 h1 => k p e s m below meth c H ls1 locs hC hX (zY_set hY (zLv_set1 (v := zI v) hY.2.2.2.2.2.1 (by rw [← hv]; exact zw_fit _) hp h1))
theorem zp_iconst {n v : Int} (hd : decode M.2.1 pc = .ok (.iconst n, 1)) (hv : n = v) (hf : z32 v) (k : zXp X G M d av w0 Q (pc + 1) L (zI v :: st) w) : zXp X G M d av w0 Q pc L st w := by
  intro p e s m below meth c H ls locs hC hX hY
  subst hv
  exact lv_iconst hC.1 hC.2.1 hd rfl (k p e s m below meth c H ls locs hC hX (zY_push (v := zI n) hf hY))
theorem zp_bipush {n v : Int} (hd : decode M.2.1 pc = .ok (.bipush n, 2)) (hv : (Int8.ofInt n).toInt32 = Int32.ofInt v) (hf : z32 v) (k : zXp X G M d av w0 Q (pc + 2) L (zI v :: st) w) : zXp X G M d av w0 Q pc L st w := by
  intro p e s m below meth c H ls locs hC hX hY
  exact lv_bipush hC.1 hC.2.1 hd hv (k p e s m below meth c H ls locs hC hX (zY_push (v := zI v) hf hY))
theorem zp_sipush {n v : Int} (hd : decode M.2.1 pc = .ok (.sipush n, 3)) (hv : (Int16.ofInt n).toInt32 = Int32.ofInt v) (hf : z32 v) (k : zXp X G M d av w0 Q (pc + 3) L (zI v :: st) w) : zXp X G M d av w0 Q pc L st w := by
  intro p e s m below meth c H ls locs hC hX hY
  exact lv_sipush hC.1 hC.2.1 hd hv (k p e s m below meth c H ls locs hC hX (zY_push (v := zI v) hf hY))
theorem zp_lconst {n : Fin 2} {v : Int} (hd : decode M.2.1 pc = .ok (.lconst n, 1)) (hv : Int64.ofNat (n : Nat) = Int64.ofInt v) (hf : z64 v) (k : zXp X G M d av w0 Q (pc + 1) L (zJ v :: st) w) : zXp X G M d av w0 Q pc L st w := by
  intro p e s m below meth c H ls locs hC hX hY
  exact lv_lconst hC.1 hC.2.1 hd hv (k p e s m below meth c H ls locs hC hX (zY_push (v := zJ v) hf hY))
theorem zp_ldc {i : Nat} {x : Int32} {v : Int} (hd : decode M.2.1 pc = .ok (.ldc i, 2)) (hw : Cond.constant M.1.cls i x ∈ zWS) (hv : x = Int32.ofInt v) (hf : z32 v) (k : zXp X G M d av w0 Q (pc + 2) L (zI v :: st) w) : zXp X G M d av w0 Q pc L st w := by
  intro p e s m below meth c H ls locs hC hX hY
  subst hv
  exact lv_ldc hC.1 hC.2.1 hC.2.2.2.2.2.1 (hC.2.2.2.2.1 _ (List.mem_cons_of_mem _ hw)) hd (k p e s m below meth c H ls locs hC hX (zY_push (v := zI v) hf hY))
theorem zp_dup {v : zV} (hd : decode M.2.1 pc = .ok (.dup, 1)) (hv : ∀ a, v ≠ zJ a) (k : zXp X G M d av w0 Q (pc + 1) L (v :: v :: st) w) : zXp X G M d av w0 Q pc L (v :: st) w := by
  intro p e s m below meth c H ls locs hC hX hY
  exact lv_dup hC.1 hC.2.1 hd (zcat v hv) (k p e s m below meth c H ls locs hC hX (zY_push (zY_pop hY).1 hY))
theorem zp_iadd {a b v : Int} (hd : decode M.2.1 pc = .ok (.iadd, 1)) (hv : zw (a + b) = v) (k : zXp X G M d av w0 Q (pc + 1) L (zI v :: st) w) : zXp X G M d av w0 Q pc L (zI b :: zI a :: st) w := by
  intro p e s m below meth c H ls locs hC hX hY
  have hY1 := (zY_pop (zY_pop hY).2).2
  have hf : zfit (zI v) := by
    rw [← hv]; exact zw_fit _
  have he : Int32.ofInt a + Int32.ofInt b = Int32.ofInt v := by rw [← hv, zw_of, Int32.ofInt_add]
  have h := k p e s m below meth c H ls locs hC hX (zY_push hf hY1)
  refine lv_iadd hC.1 hC.2.1 hd ?_
  rw [he]
  exact h
theorem zp_imul {a b v : Int} (hd : decode M.2.1 pc = .ok (.imul, 1)) (hv : zw (a * b) = v) (k : zXp X G M d av w0 Q (pc + 1) L (zI v :: st) w) : zXp X G M d av w0 Q pc L (zI b :: zI a :: st) w := by
  intro p e s m below meth c H ls locs hC hX hY
  have hY1 := (zY_pop (zY_pop hY).2).2
  have hf : zfit (zI v) := by
    rw [← hv]; exact zw_fit _
  have he : Int32.ofInt a * Int32.ofInt b = Int32.ofInt v := by rw [← hv, zw_of, Int32.ofInt_mul]
  have h := k p e s m below meth c H ls locs hC hX (zY_push hf hY1)
  refine lv_imul hC.1 hC.2.1 hd ?_
  rw [he]
  exact h
theorem zp_ishr {a b v : Int} (hd : decode M.2.1 pc = .ok (.ishr, 1)) (hv : zshr a b = v) (k : zXp X G M d av w0 Q (pc + 1) L (zI v :: st) w) : zXp X G M d av w0 Q pc L (zI b :: zI a :: st) w := by
  intro p e s m below meth c H ls locs hC hX hY
  have hY1 := (zY_pop (zY_pop hY).2).2
  have hf : zfit (zI v) := by
    rw [← hv]; exact z_fit32 _
  have he : Int32.ofInt a >>> (Int32.ofInt b &&& 31) = Int32.ofInt v := by rw [← hv]; exact (Int32.ofInt_toInt _).symm
  have h := k p e s m below meth c H ls locs hC hX (zY_push hf hY1)
  refine lv_ishr hC.1 hC.2.1 hd ?_
  rw [he]
  exact h
theorem zp_ladd {a b v : Int} (hd : decode M.2.1 pc = .ok (.ladd, 1)) (hv : zwl (a + b) = v) (k : zXp X G M d av w0 Q (pc + 1) L (zJ v :: st) w) : zXp X G M d av w0 Q pc L (zJ b :: zJ a :: st) w := by
  intro p e s m below meth c H ls locs hC hX hY
  have hY1 := (zY_pop (zY_pop hY).2).2
  have hf : zfit (zJ v) := by
    rw [← hv]; exact zwl_fit _
  have he : Int64.ofInt a + Int64.ofInt b = Int64.ofInt v := by rw [← hv, zwl_of, Int64.ofInt_add]
  have h := k p e s m below meth c H ls locs hC hX (zY_push hf hY1)
  refine lv_ladd hC.1 hC.2.1 hd ?_
  rw [he]
  exact h
theorem zp_icmp_eq {a b : Int} {off : Int} {tgt : Nat} (hd : decode M.2.1 pc = .ok (.if_icmp .eq off, 3)) (ht : (pc : Int) + off = (tgt : Int)) (kt : a = b → zXp X G M d av w0 Q tgt L st w) (kf : ¬ a = b → zXp X G M d av w0 Q (pc + 3) L st w) : zXp X G M d av w0 Q pc L (zI b :: zI a :: st) w := by
  intro p e s m below meth c H ls locs hC hX hY
  have hb : z32 b := (zY_pop hY).1
  have ha : z32 a := (zY_pop (zY_pop hY).2).1
  have hY1 := (zY_pop (zY_pop hY).2).2
  exact lv_icmp_eq hC.1 hC.2.1 hd ht (fun h => kt ((zi_eq ha hb).mp h) p e s m below meth c H ls locs hC hX hY1) (fun h => kf (fun q => h ((zi_eq ha hb).mpr q)) p e s m below meth c H ls locs hC hX hY1)
theorem zp_if_eq {a : Int} {off : Int} {tgt : Nat} (hd : decode M.2.1 pc = .ok (.ifCond .eq off, 3)) (ht : (pc : Int) + off = (tgt : Int)) (kt : a = 0 → zXp X G M d av w0 Q tgt L st w) (kf : ¬ a = 0 → zXp X G M d av w0 Q (pc + 3) L st w) : zXp X G M d av w0 Q pc L (zI a :: st) w := by
  intro p e s m below meth c H ls locs hC hX hY
  have hb : z32 0 := z32_lit (by decide) (by decide)
  have ha : z32 a := (zY_pop hY).1
  have hY1 := (zY_pop hY).2
  exact lv_if_eq hC.1 hC.2.1 hd ht (fun h => kt ((zi_eq ha hb).mp h) p e s m below meth c H ls locs hC hX hY1) (fun h => kf (fun q => h ((zi_eq ha hb).mpr q)) p e s m below meth c H ls locs hC hX hY1)
theorem zp_icmp_ne {a b : Int} {off : Int} {tgt : Nat} (hd : decode M.2.1 pc = .ok (.if_icmp .ne off, 3)) (ht : (pc : Int) + off = (tgt : Int)) (kt : a ≠ b → zXp X G M d av w0 Q tgt L st w) (kf : ¬ a ≠ b → zXp X G M d av w0 Q (pc + 3) L st w) : zXp X G M d av w0 Q pc L (zI b :: zI a :: st) w := by
  intro p e s m below meth c H ls locs hC hX hY
  have hb : z32 b := (zY_pop hY).1
  have ha : z32 a := (zY_pop (zY_pop hY).2).1
  have hY1 := (zY_pop (zY_pop hY).2).2
  exact lv_icmp_ne hC.1 hC.2.1 hd ht (fun h => kt (fun q => h ((zi_eq ha hb).mpr q)) p e s m below meth c H ls locs hC hX hY1) (fun h => kf (fun q => q ((zi_eq ha hb).mp h)) p e s m below meth c H ls locs hC hX hY1)
theorem zp_if_ne {a : Int} {off : Int} {tgt : Nat} (hd : decode M.2.1 pc = .ok (.ifCond .ne off, 3)) (ht : (pc : Int) + off = (tgt : Int)) (kt : a ≠ 0 → zXp X G M d av w0 Q tgt L st w) (kf : ¬ a ≠ 0 → zXp X G M d av w0 Q (pc + 3) L st w) : zXp X G M d av w0 Q pc L (zI a :: st) w := by
  intro p e s m below meth c H ls locs hC hX hY
  have hb : z32 0 := z32_lit (by decide) (by decide)
  have ha : z32 a := (zY_pop hY).1
  have hY1 := (zY_pop hY).2
  exact lv_if_ne hC.1 hC.2.1 hd ht (fun h => kt (fun q => h ((zi_eq ha hb).mpr q)) p e s m below meth c H ls locs hC hX hY1) (fun h => kf (fun q => q ((zi_eq ha hb).mp h)) p e s m below meth c H ls locs hC hX hY1)
theorem zp_icmp_lt {a b : Int} {off : Int} {tgt : Nat} (hd : decode M.2.1 pc = .ok (.if_icmp .lt off, 3)) (ht : (pc : Int) + off = (tgt : Int)) (kt : a < b → zXp X G M d av w0 Q tgt L st w) (kf : ¬ a < b → zXp X G M d av w0 Q (pc + 3) L st w) : zXp X G M d av w0 Q pc L (zI b :: zI a :: st) w := by
  intro p e s m below meth c H ls locs hC hX hY
  have hb : z32 b := (zY_pop hY).1
  have ha : z32 a := (zY_pop (zY_pop hY).2).1
  have hY1 := (zY_pop (zY_pop hY).2).2
  exact lv_icmp_lt hC.1 hC.2.1 hd ht (fun h => kt ((zi_lt ha hb).mp h) p e s m below meth c H ls locs hC hX hY1) (fun h => kf (fun q => h ((zi_lt ha hb).mpr q)) p e s m below meth c H ls locs hC hX hY1)
theorem zp_if_lt {a : Int} {off : Int} {tgt : Nat} (hd : decode M.2.1 pc = .ok (.ifCond .lt off, 3)) (ht : (pc : Int) + off = (tgt : Int)) (kt : a < 0 → zXp X G M d av w0 Q tgt L st w) (kf : ¬ a < 0 → zXp X G M d av w0 Q (pc + 3) L st w) : zXp X G M d av w0 Q pc L (zI a :: st) w := by
  intro p e s m below meth c H ls locs hC hX hY
  have hb : z32 0 := z32_lit (by decide) (by decide)
  have ha : z32 a := (zY_pop hY).1
  have hY1 := (zY_pop hY).2
  exact lv_if_lt hC.1 hC.2.1 hd ht (fun h => kt ((zi_lt ha hb).mp h) p e s m below meth c H ls locs hC hX hY1) (fun h => kf (fun q => h ((zi_lt ha hb).mpr q)) p e s m below meth c H ls locs hC hX hY1)
theorem zp_icmp_ge {a b : Int} {off : Int} {tgt : Nat} (hd : decode M.2.1 pc = .ok (.if_icmp .ge off, 3)) (ht : (pc : Int) + off = (tgt : Int)) (kt : b ≤ a → zXp X G M d av w0 Q tgt L st w) (kf : ¬ b ≤ a → zXp X G M d av w0 Q (pc + 3) L st w) : zXp X G M d av w0 Q pc L (zI b :: zI a :: st) w := by
  intro p e s m below meth c H ls locs hC hX hY
  have hb : z32 b := (zY_pop hY).1
  have ha : z32 a := (zY_pop (zY_pop hY).2).1
  have hY1 := (zY_pop (zY_pop hY).2).2
  exact lv_icmp_ge hC.1 hC.2.1 hd ht (fun h => kt ((zi_le hb ha).mp h) p e s m below meth c H ls locs hC hX hY1) (fun h => kf (fun q => h ((zi_le hb ha).mpr q)) p e s m below meth c H ls locs hC hX hY1)
theorem zp_if_ge {a : Int} {off : Int} {tgt : Nat} (hd : decode M.2.1 pc = .ok (.ifCond .ge off, 3)) (ht : (pc : Int) + off = (tgt : Int)) (kt : 0 ≤ a → zXp X G M d av w0 Q tgt L st w) (kf : ¬ 0 ≤ a → zXp X G M d av w0 Q (pc + 3) L st w) : zXp X G M d av w0 Q pc L (zI a :: st) w := by
  intro p e s m below meth c H ls locs hC hX hY
  have hb : z32 0 := z32_lit (by decide) (by decide)
  have ha : z32 a := (zY_pop hY).1
  have hY1 := (zY_pop hY).2
  exact lv_if_ge hC.1 hC.2.1 hd ht (fun h => kt ((zi_le hb ha).mp h) p e s m below meth c H ls locs hC hX hY1) (fun h => kf (fun q => h ((zi_le hb ha).mpr q)) p e s m below meth c H ls locs hC hX hY1)
theorem zp_icmp_gt {a b : Int} {off : Int} {tgt : Nat} (hd : decode M.2.1 pc = .ok (.if_icmp .gt off, 3)) (ht : (pc : Int) + off = (tgt : Int)) (kt : b < a → zXp X G M d av w0 Q tgt L st w) (kf : ¬ b < a → zXp X G M d av w0 Q (pc + 3) L st w) : zXp X G M d av w0 Q pc L (zI b :: zI a :: st) w := by
  intro p e s m below meth c H ls locs hC hX hY
  have hb : z32 b := (zY_pop hY).1
  have ha : z32 a := (zY_pop (zY_pop hY).2).1
  have hY1 := (zY_pop (zY_pop hY).2).2
  exact lv_icmp_gt hC.1 hC.2.1 hd ht (fun h => kt ((zi_lt hb ha).mp h) p e s m below meth c H ls locs hC hX hY1) (fun h => kf (fun q => h ((zi_lt hb ha).mpr q)) p e s m below meth c H ls locs hC hX hY1)
theorem zp_if_gt {a : Int} {off : Int} {tgt : Nat} (hd : decode M.2.1 pc = .ok (.ifCond .gt off, 3)) (ht : (pc : Int) + off = (tgt : Int)) (kt : 0 < a → zXp X G M d av w0 Q tgt L st w) (kf : ¬ 0 < a → zXp X G M d av w0 Q (pc + 3) L st w) : zXp X G M d av w0 Q pc L (zI a :: st) w := by
  intro p e s m below meth c H ls locs hC hX hY
  have hb : z32 0 := z32_lit (by decide) (by decide)
  have ha : z32 a := (zY_pop hY).1
  have hY1 := (zY_pop hY).2
  exact lv_if_gt hC.1 hC.2.1 hd ht (fun h => kt ((zi_lt hb ha).mp h) p e s m below meth c H ls locs hC hX hY1) (fun h => kf (fun q => h ((zi_lt hb ha).mpr q)) p e s m below meth c H ls locs hC hX hY1)
theorem zp_icmp_le {a b : Int} {off : Int} {tgt : Nat} (hd : decode M.2.1 pc = .ok (.if_icmp .le off, 3)) (ht : (pc : Int) + off = (tgt : Int)) (kt : a ≤ b → zXp X G M d av w0 Q tgt L st w) (kf : ¬ a ≤ b → zXp X G M d av w0 Q (pc + 3) L st w) : zXp X G M d av w0 Q pc L (zI b :: zI a :: st) w := by
  intro p e s m below meth c H ls locs hC hX hY
  have hb : z32 b := (zY_pop hY).1
  have ha : z32 a := (zY_pop (zY_pop hY).2).1
  have hY1 := (zY_pop (zY_pop hY).2).2
  exact lv_icmp_le hC.1 hC.2.1 hd ht (fun h => kt ((zi_le ha hb).mp h) p e s m below meth c H ls locs hC hX hY1) (fun h => kf (fun q => h ((zi_le ha hb).mpr q)) p e s m below meth c H ls locs hC hX hY1)
theorem zp_if_le {a : Int} {off : Int} {tgt : Nat} (hd : decode M.2.1 pc = .ok (.ifCond .le off, 3)) (ht : (pc : Int) + off = (tgt : Int)) (kt : a ≤ 0 → zXp X G M d av w0 Q tgt L st w) (kf : ¬ a ≤ 0 → zXp X G M d av w0 Q (pc + 3) L st w) : zXp X G M d av w0 Q pc L (zI a :: st) w := by
  intro p e s m below meth c H ls locs hC hX hY
  have hb : z32 0 := z32_lit (by decide) (by decide)
  have ha : z32 a := (zY_pop hY).1
  have hY1 := (zY_pop hY).2
  exact lv_if_le hC.1 hC.2.1 hd ht (fun h => kt ((zi_le ha hb).mp h) p e s m below meth c H ls locs hC hX hY1) (fun h => kf (fun q => h ((zi_le ha hb).mpr q)) p e s m below meth c H ls locs hC hX hY1)
theorem zp_goto {off : Int} {tgt : Nat} (hd : decode M.2.1 pc = .ok (.goto off, 3)) (ht : (pc : Int) + off = (tgt : Int)) (k : zXp X G M d av w0 Q tgt L st w) : zXp X G M d av w0 Q pc L st w := fun p e s m below meth c H ls locs hC hX hY => lv_goto hC.1 hC.2.1 hd ht (k p e s m below meth c H ls locs hC hX hY)
theorem zp_ireturn {a : Int} {ty : FieldType} (hd : decode M.2.1 pc = .ok (.ireturn, 1)) (hr : M.2.2.2.1 = some ty) (hn : narrow ty (.int (Int32.ofInt a)) = .int (Int32.ofInt a)) (k : Q (.inl (some (zI a))) w) : zXp X G M d av w0 Q pc L [zI a] w := by
  intro p e s m below meth c H ls locs hC hX hY
  have hlocks : meth.locks = false := hC.2.2.2.2.2.2.1
  refine vx_ret (W.widen (zY_room hY).1 (zY_room hY).2 ?_)
  exact W.zret hC.1 hC.2.1 (hC.2.2.2.1.trans hr) hn (fun t ht hW => ⟨some (zI a), w, rfl, k, fun x hx => by cases hx; exact (zY_pop hY).1, zY_end hC hY ht hW.alike⟩) hY.1.2.2 hd hlocks
theorem zp_new {idx ci N : Nat} {fs : List zV} (hd : decode M.2.1 pc = .ok (.new idx, 3)) (hn : zNI M.1.cls idx ci N fs) (b1 : w.2.1 + 1 ≤ G.2.2.2.2.1) (b2 : w.2.2 + N ≤ G.2.2.2.2.2) (k : zXp X G M d av w0 Q (pc + 3) L (zR w.2.1 :: st) (znew w (ci, 0, fs) N)) : zXp X G M d av w0 Q pc L st w := by
  intro p e s m below meth c H ls locs hC hX hY
  obtain ⟨C, T, ty, f1, f2, f3, f4, f5, f6, f7, f8, f9⟩ := hn
  have hts := hC.2.2.2.2.1
  have hin : ∀ w ∈ u_ws C T N, w ∈ zws M := fun x hx => List.mem_cons_of_mem _ (f3 x hx)
  have hK := hC.2.2.2.2.2.2.2.2.2.2.2.1
  have h4 := hY.2.2.2.1
  have h5 := hY.2.2.2.2.1
  have hsz : H.size = w.2.1 := hY.2.1.1
  refine W.newc hC.1 hC.2.1 hC.2.2.2.2.2.1 (hts _ (List.mem_cons_of_mem _ f5)) (hts _ (List.mem_cons_of_mem _ f6)) (hts _ (List.mem_cons_of_mem _ f7)) rfl hd (show w.2.1 - w0.2.1 + 1 ≤ G.2.2.2.2.1 - w0.2.1 by omega) (show w.2.2 - w0.2.2 + N ≤ G.2.2.2.2.2 - w0.2.2 by omega) fun cC kC g1 g2 g3 g4 => ?_
  have hkn := hK.1 ci _ f1
  have hc1 : cC = G.2.2.1.1 ci := Option.some.inj (g1.symm.trans hkn.2.1)
  subst hc1
  have hZ : zDy G M w0 L (zR w.2.1 :: st) (znew w (ci, 0, fs) N) s (H.push { cls := G.2.2.1.1 ci, slots := kC.instanceTypes.map defaultValue, vm := .none }) ls locs := by
    refine zY_new hY (by simpa using g4) b1 b2 ⟨f9, ?_⟩
    rw [if_pos f2]
    refine ⟨_, f1, t_OB.to (u_born ty hts hin hkn g2 ?_ f4) f8⟩
    rw [← hsz]
    simp [blank]
  have kk := k p e s m below meth c _ ls locs hC hX hZ
  rw [← hsz] at kk
  have e1 : (znew w (ci, 0, fs) N).2.1 - w0.2.1 = w.2.1 - w0.2.1 + 1 := by show w.2.1 + 1 - w0.2.1 = _; omega
  have e2 : (znew w (ci, 0, fs) N).2.2 - w0.2.2 = w.2.2 - w0.2.2 + N := by show w.2.2 + N - w0.2.2 = _; omega
  rw [e1, e2] at kk
  exact kk
theorem zp_invokevirtual {idx n d' b : Nat} {ob : zO} {q : vw_C} {M' : zMd} {As : List zV} {Q' : zQ} (hd : decode M.2.1 pc = .ok (.invokevirtual idx, 3)) (hc : zCV M.1.cls idx M' n) (hb : w.1 b = some ob) (hq : vwCl[zcls ob.1]? = some q) (hq1 : q.1 = M'.1.cls) (hn : As.length = n) (hst : st.length ≤ 4) (hh : M.2.2.2.2 = [])
    (hM : zM G M' d' (zR b :: As) w Q') (kr : ∀ v w', Q' (.inl v) w' → zXp X G M (d' + 1) av w0 Q (pc + 3) L (v.toList ++ st) w') (kx : ∀ i w', Q' (.inr i) w' → Q (.inr i) w') : zXp X G M (d' + 1) av w0 Q pc L (As.reverse ++ zR b :: st) w := by
  intro p e s m below meth c H ls locs hC hX hY
  obtain ⟨hfa, hY1⟩ := zfits_args (p := p) hY
  obtain ⟨-, hY2⟩ := zY_pop hY1
  obtain ⟨⟨i1, i2, i3, i4, i5⟩, c1, c2, c3⟩ := hc
  have hts := hC.2.2.2.2.1
  have hMet := hM (fun v hv => (List.mem_cons.mp hv).elim (fun e => e ▸ trivial) (hfa v))
  have hws := zws_code i1
  have hGd : GoodIn (zws M) (wsV M.1.cls idx M'.1.cls M'.1 (zws M')) := zGood fun x hx => by
    unfold wsV at hx
    rw [hws] at hx
    simp only [List.cons_append, List.nil_append, List.mem_cons] at hx
    rcases hx with rfl | rfl | rfl | rfl | rfl | hx
    · exact c1
    · exact c2
    · exact c3
    · exact i2
    · exact i3
    · exact hx
  have hK := hC.2.2.2.2.2.2.2.2.2.2.2.1
  have hrun := vx_runV (e := e) (below := below) (meth := meth) (locs := locs) (As := As.map zv) (rest := st.map zv) (Ts := zws M) (own := M.1.cls) (g := F0 m pc ls ((As.reverse ++ zR b :: st).map zv)) ⟨hC.1, hC.2.1, hC.2.2.1, hC.2.2.2.2.2.1, hts⟩ hMet
    (cwV n hts hGd hws rfl rfl ⟨rfl, i4⟩ (zroom_call (w0 := w0) i5))
    ⟨zPre_blind, by rw [← hq1]; exact zat_recv (hY2.2.1.2.2.2.2 b ob hb).1 hK hq, fun U hU hW => ⟨rfl, zPre_of hC hY2 hU hW⟩⟩ rfl (by rw [List.length_map]; exact hn) hY2.2.2.2.2.2.1.1 (by simp [zv]) (lv_room (zsum hst)) hd (by
      obtain ⟨-, z2, -, z4, z5, -, -⟩ := hY2
      obtain ⟨-, -, z6, z7, -⟩ := z2
      exact ⟨by show w.2.1 - w0.2.1 + (G.2.2.2.2.1 - w.2.1) ≤ G.2.2.2.2.1 - w0.2.1; omega, by show w.2.2 - w0.2.2 + (G.2.2.2.2.2 - w.2.2) ≤ G.2.2.2.2.2 - w0.2.2; omega⟩)
  exact z_after hC hY2 hrun (fun v w' H' locs' hq' hY' => kr v w' hq' p e s m below meth c H' ls locs' hC hX hY') (fun i w' H' locs' q ce hi hq' hY' h1 h2 h3 => z_out hC hY' hh hi (kx i w' hq') h1 h2 h3)
theorem zp_invokestatic {idx n d' : Nat} {M' : zMd} {As : List zV} {Q' : zQ} (hd : decode M.2.1 pc = .ok (.invokestatic idx, 3)) (hc : zCS M.1.cls idx M' n) (hn : As.length = n) (hst : st.length ≤ 4) (hh : M.2.2.2.2 = [])
    (hM : zM G M' d' As w Q') (kr : ∀ v w', Q' (.inl v) w' → zXp X G M (d' + 1) av w0 Q (pc + 3) L (v.toList ++ st) w') (kx : ∀ i w', Q' (.inr i) w' → Q (.inr i) w') : zXp X G M (d' + 1) av w0 Q pc L (As.reverse ++ st) w := by
  intro p e s m below meth c H ls locs hC hX hY
  obtain ⟨hfa, hY2⟩ := zfits_args (p := p) hY
  obtain ⟨⟨i1, i2, i3, i4, i5⟩, c1, c2⟩ := hc
  have hts := hC.2.2.2.2.1
  have hMet := hM hfa
  have hws := zws_code i1
  have hGd : GoodIn (zws M) (zws M') := zGood fun x hx => by
    rw [hws] at hx
    rcases List.mem_cons.mp hx with rfl | hx
    · exact i3
    · exact hx
  have hrun := vx_runS (e := e) (below := below) (meth := meth) (locs := locs) (As := As.map zv) (rest := st.map zv) (Ts := zws M) (own := M.1.cls) (g := F0 m pc ls ((As.reverse ++ st).map zv)) ⟨hC.1, hC.2.1, hC.2.2.1, hC.2.2.2.2.2.1, hts⟩ hMet
    ⟨callB_of n hts hGd hws rfl rfl (hts _ (List.mem_cons_of_mem _ i2)) (hts _ (List.mem_cons_of_mem _ c1)) i4 (zroom_call (w0 := w0) i5), hts _ (List.mem_cons_of_mem _ c2)⟩
    ⟨zPre_blind, fun U hU hW => ⟨rfl, zPre_of hC hY2 hU hW⟩⟩ rfl (by rw [List.length_map]; exact hn) hY2.2.2.2.2.2.1.1 (by simp) (lv_room (zsum hst)) hd (by
      obtain ⟨-, z2, -, z4, z5, -, -⟩ := hY2
      obtain ⟨-, -, z6, z7, -⟩ := z2
      exact ⟨by show w.2.1 - w0.2.1 + (G.2.2.2.2.1 - w.2.1) ≤ G.2.2.2.2.1 - w0.2.1; omega, by show w.2.2 - w0.2.2 + (G.2.2.2.2.2 - w.2.2) ≤ G.2.2.2.2.2 - w0.2.2; omega⟩)
  exact z_after hC hY2 hrun (fun v w' H' locs' hq' hY' => kr v w' hq' p e s m below meth c H' ls locs' hC hX hY') (fun i w' H' locs' q ce hi hq' hY' h1 h2 h3 => z_out hC hY' hh hi (kx i w' hq') h1 h2 h3)
theorem zp_invokespecial {idx n d' b : Nat} {M' : zMd} {As : List zV} {Q' : zQ} (hd : decode M.2.1 pc = .ok (.invokespecial idx, 3)) (hc : zCC M.1.cls idx M' n) (hn : As.length = n) (hst : st.length ≤ 4) (hh : M.2.2.2.2 = [])
    (hM : zM G M' d' (zR b :: As) w Q') (kr : ∀ v w', Q' (.inl v) w' → zXp X G M (d' + 1) av w0 Q (pc + 3) L (v.toList ++ st) w') (kx : ∀ i w', ¬ Q' (.inr i) w') : zXp X G M (d' + 1) av w0 Q pc L (As.reverse ++ zR b :: st) w := by
  intro p e s m below meth c H ls locs hC hX hY
  obtain ⟨hfa, hY1⟩ := zfits_args (p := p) hY
  obtain ⟨-, hY2⟩ := zY_pop hY1
  obtain ⟨⟨i1, i2, i3, i4, i5⟩, c1, c2, c3, c4⟩ := hc
  have hts := hC.2.2.2.2.1
  have hMet := vx_toMet (hM (fun v hv => (List.mem_cons.mp hv).elim (fun e => e ▸ trivial) (hfa v))) (zQx_no kx)
  have hws := zws_code i1
  have hGd : GoodIn (zws M) (zws M') := zGood fun x hx => by
    rw [hws] at hx
    rcases List.mem_cons.mp hx with rfl | hx
    · exact i3
    · exact hx
  rw [c4] at hws
  have hrun := va_runI (e := e) (below := below) (meth := meth) (locs := locs) (b := b) (As := As.map zv) (rest := st.map zv) (Ts := zws M) (own := M.1.cls) (g := F0 m pc ls ((As.reverse ++ zR b :: st).map zv)) ⟨hC.1, hC.2.1, hC.2.2.1, hC.2.2.2.2.2.1, hts⟩ hMet
    (cwI n hts hGd hws rfl rfl (hts _ (List.mem_cons_of_mem _ i2)) (hts _ (List.mem_cons_of_mem _ c1)) (hts _ (List.mem_cons_of_mem _ c2)) c3 i4 (zroom_call (w0 := w0) i5))
    ⟨zPre_blind, fun U hU hW => ⟨rfl, zPre_of hC hY2 hU hW⟩⟩ rfl (by rw [List.length_map]; exact hn) hY2.2.2.2.2.2.1.1 (by simp [zv]) (lv_room (zsum hst)) hd (by
      obtain ⟨-, z2, -, z4, z5, -, -⟩ := hY2
      obtain ⟨-, -, z6, z7, -⟩ := z2
      exact ⟨by show w.2.1 - w0.2.1 + (G.2.2.2.2.1 - w.2.1) ≤ G.2.2.2.2.1 - w0.2.1; omega, by show w.2.2 - w0.2.2 + (G.2.2.2.2.2 - w.2.2) ≤ G.2.2.2.2.2 - w0.2.2; omega⟩)
  exact z_after hC hY2 (fun T hT X => Or.inl (hrun T hT X)) (fun v w' H' locs' hq' hY' => kr v w' hq' p e s m below meth c H' ls locs' hC hX hY') (fun i w' H' locs' q ce hi hq' hY' h1 h2 h3 => absurd hq' (kx i w'))
theorem zp_ok (k : zOk w → zXp X G M d av w0 Q pc L st w) : zXp X G M d av w0 Q pc L st w := by
  intro p e s m below meth c H ls locs hC hX hY
  refine k (fun a ob ha => ?_) p e s m below meth c H ls locs hC hX hY
  have h1 := (hY.2.1.2.2.2.2 a ob ha).2
  rw [hY.2.1.1] at h1
  exact h1
theorem zp_fitst (k : (∀ v ∈ st, zfit v) → zXp X G M d av w0 Q pc L st w) : zXp X G M d av w0 Q pc L st w := by
  intro p e s m below meth c H ls locs hC hX hY
  exact k hY.2.2.2.2.2.2 p e s m below meth c H ls locs hC hX hY
theorem zp_fitl (k : (∀ (i : Nat) (v : zV), L[i]? = some (some v) → zfit v) → zXp X G M d av w0 Q pc L st w) : zXp X G M d av w0 Q pc L st w := by
  intro p e s m below meth c H ls locs hC hX hY
  exact k (fun i v hv => (hY.2.2.2.2.2.1.2.2 i v hv).2) p e s m below meth c H ls locs hC hX hY
theorem zp_pc {pc1 : Nat} (h : pc = pc1) (k : zXp X G M d av w0 Q pc1 L st w) : zXp X G M d av w0 Q pc L st w := by rw [h]; exact k
theorem zp_st {st1 : List zV} (h : st = st1) (k : zXp X G M d av w0 Q pc L st1 w) : zXp X G M d av w0 Q pc L st w := by rw [h]; exact k
theorem zp_L {L1 : List (Option zV)} (h : L = L1) (k : zXp X G M d av w0 Q pc L1 st w) : zXp X G M d av w0 Q pc L st w := by rw [h]; exact k
theorem zp_zret {a : Int} (hd : decode M.2.1 pc = .ok (.ireturn, 1)) (hr : M.2.2.2.1 = some .boolean) (h : a = 0 ∨ a = 1) (k : Q (.inl (some (zI a))) w) : zXp X G M d av w0 Q pc L [zI a] w := zp_ireturn hd hr (zFt_bool h).1 k
theorem zp_iret {a : Int} (hd : decode M.2.1 pc = .ok (.ireturn, 1)) (hr : M.2.2.2.1 = some .int) (k : Q (.inl (some (zI a))) w) : zXp X G M d av w0 Q pc L [zI a] w := zp_ireturn hd hr rfl k
theorem zp_iv {idx n d' b : Nat} {ob : zO} {q : vw_C} {M' : zMd} {As : List zV} {v : Option zV} {w1 : zW} (hd : decode M.2.1 pc = .ok (.invokevirtual idx, 3)) (hc : zCV M.1.cls idx M' n) (hb : w.1 b = some ob) (hq : vwCl[zcls ob.1]? = some q) (hq1 : q.1 = M'.1.cls) (hn : As.length = n) (hst : st.length ≤ 4) (hh : M.2.2.2.2 = [])
    (hM : zM G M' d' (zR b :: As) w (zRet v w1)) (k : zXp X G M (d' + 1) av w0 Q (pc + 3) L (v.toList ++ st) w1) : zXp X G M (d' + 1) av w0 Q pc L (As.reverse ++ zR b :: st) w :=
  zp_invokevirtual hd hc hb hq hq1 hn hst hh hM (fun v' w' q => by obtain ⟨e1, e2⟩ := q; cases e1; subst e2; exact k) (fun i w' q => by cases q.1)
theorem zp_is {idx n d' : Nat} {M' : zMd} {As : List zV} {v : Option zV} {w1 : zW} (hd : decode M.2.1 pc = .ok (.invokestatic idx, 3)) (hc : zCS M.1.cls idx M' n) (hn : As.length = n) (hst : st.length ≤ 4) (hh : M.2.2.2.2 = [])
    (hM : zM G M' d' As w (zRet v w1)) (k : zXp X G M (d' + 1) av w0 Q (pc + 3) L (v.toList ++ st) w1) : zXp X G M (d' + 1) av w0 Q pc L (As.reverse ++ st) w :=
  zp_invokestatic hd hc hn hst hh hM (fun v' w' q => by obtain ⟨e1, e2⟩ := q; cases e1; subst e2; exact k) (fun i w' q => by cases q.1)
theorem zp_icN {idx n d' b : Nat} {M' : zMd} {As : List zV} {P : zW → Prop} (hd : decode M.2.1 pc = .ok (.invokespecial idx, 3)) (hc : zCC M.1.cls idx M' n) (hn : As.length = n) (hst : st.length ≤ 4) (hh : M.2.2.2.2 = [])
    (hM : zM G M' d' (zR b :: As) w (zVoid P)) (k : ∀ w1, P w1 → zXp X G M (d' + 1) av w0 Q (pc + 3) L st w1) : zXp X G M (d' + 1) av w0 Q pc L (As.reverse ++ zR b :: st) w :=
  zp_invokespecial hd hc hn hst hh hM (fun v' w' q => by obtain ⟨e1, e2⟩ := q; cases e1; exact k w' e2) (fun i w' q => by cases q.1)
theorem zp_isH {idx n d' : Nat} {M' : zMd} {As : List zV} {Q' : zQ} (hd : decode M.2.1 pc = .ok (.invokestatic idx, 3)) (hc : zCH M.1.cls idx M' n) (hn : As.length = n) (hst : st.length ≤ 4) (hh : M.2.2.2.2 = [])
    (hM : zM G M' d' As w Q') (kr : ∀ v w', Q' (.inl v) w' → zXp X G M (d' + 1) av w0 Q (pc + 3) L (v.toList ++ st) w') (kx : ∀ i w', Q' (.inr i) w' → Q (.inr i) w') : zXp X G M (d' + 1) av w0 Q pc L (As.reverse ++ st) w := by
  intro p e s m below meth c H ls locs hC hX hY
  obtain ⟨hfa, hY2⟩ := zfits_args (p := p) hY
  obtain ⟨⟨i1, i2, i3, i4, i5⟩, c1, c2⟩ := hc
  have hts := hC.2.2.2.2.1
  have hMet := hM hfa
  have hws := zws_codeW i1
  have hGd : GoodIn (zws M) (va_wsS M.1.cls idx M'.1 (zws M')) := zGood fun x hx => by
    unfold va_wsS at hx
    rw [hws] at hx
    simp only [List.cons_append, List.nil_append, List.mem_cons] at hx
    rcases hx with rfl | rfl | rfl | rfl | hx
    · exact c1
    · exact c2
    · exact i2
    · exact i3
    · exact hx
  have hrun := vx_runSX (e := e) (below := below) (meth := meth) (locs := locs) (As := As.map zv) (rest := st.map zv) (Ts := zws M) (own := M.1.cls) (g := F0 m pc ls ((As.reverse ++ st).map zv)) ⟨hC.1, hC.2.1, hC.2.2.1, hC.2.2.2.2.2.1, hts⟩ hMet
    (vx_cwSW n hts hGd hws rfl rfl i4 (zroom_call (w0 := w0) i5))
    ⟨zPre_blind, fun U hU hW => ⟨rfl, zPre_of hC hY2 hU hW⟩⟩ rfl (by rw [List.length_map]; exact hn) hY2.2.2.2.2.2.1.1 (by simp) (lv_room (zsum hst)) hd (by
      obtain ⟨-, z2, -, z4, z5, -, -⟩ := hY2
      obtain ⟨-, -, z6, z7, -⟩ := z2
      exact ⟨by show w.2.1 - w0.2.1 + (G.2.2.2.2.1 - w.2.1) ≤ G.2.2.2.2.1 - w0.2.1; omega, by show w.2.2 - w0.2.2 + (G.2.2.2.2.2 - w.2.2) ≤ G.2.2.2.2.2 - w0.2.2; omega⟩)
  exact z_after hC hY2 hrun (fun v w' H' locs' hq' hY' => kr v w' hq' p e s m below meth c H' ls locs' hC hX hY') (fun i w' H' locs' q ce hi hq' hY' h1 h2 h3 => z_out hC hY' hh hi (kx i w' hq') h1 h2 h3)
theorem zp_Lw {L1 : List (Option zV)} (h : zlw L1 L) (k : zXp X G M d av w0 Q pc L1 st w) : zXp X G M d av w0 Q pc L st w := by
  intro p e s m below meth c H ls locs hC hX hY
  obtain ⟨a1, a2, a3, a4, a5, ⟨b1, b2, b3⟩, a7⟩ := hY
  exact k p e s m below meth c H ls locs hC hX ⟨a1, a2, a3, a4, a5, ⟨b1, b2, fun i v hi => b3 i v (zlw_at _ _ h i v hi)⟩, a7⟩
theorem zp_lcmp0 {a : Int} (hd : decode M.2.1 pc = .ok (.lcmp, 1)) (k : zXp X G M d av w0 Q (pc + 1) L (zI 0 :: st) w) : zXp X G M d av w0 Q pc L (zJ a :: zJ a :: st) w := by
  intro p e s m below meth c H ls locs hC hX hY
  have hY1 := (zY_pop (zY_pop hY).2).2
  have h := k p e s m below meth c H ls locs hC hX (zY_push (z32_lit (by decide) (by decide) : zfit (zI 0)) hY1)
  refine W.lcmp hC.1 hC.2.1 hd ?_
  have e1 : lg_cmp (Int64.ofInt a) (Int64.ofInt a) = Int32.ofInt 0 := by
    have e0 : lg_cmp (Int64.ofInt a) (Int64.ofInt a) = 0 := by simp [lg_cmp]
    rw [e0]
    decide
  rw [e1]
  exact h
theorem zp_is6 {idx n d' : Nat} {M' : zMd} {As : List zV} {v : Option zV} {w1 : zW} (hd : decode M.2.1 pc = .ok (.invokestatic idx, 3)) (hc : zCS M.1.cls idx M' n) (hn : As.length = n) (hst : ((st.map zv).map fun v => v.category).sum ≤ 8) (hh : M.2.2.2.2 = [])
    (hM : zM G M' d' As w (zRet v w1)) (k : zXp X G M (d' + 1) av w0 Q (pc + 3) L (v.toList ++ st) w1) : zXp X G M (d' + 1) av w0 Q pc L (As.reverse ++ st) w := by
  intro p e s m below meth c H ls locs hC hX hY
  obtain ⟨hfa, hY2⟩ := zfits_args (p := p) hY
  obtain ⟨⟨i1, i2, i3, i4, i5⟩, c1, c2⟩ := hc
  have hts := hC.2.2.2.2.1
  have hMet := hM hfa
  have hws := zws_code i1
  have hGd : GoodIn (zws M) (zws M') := zGood fun x hx => by
    rw [hws] at hx
    rcases List.mem_cons.mp hx with rfl | hx
    · exact i3
    · exact hx
  have hrun := vx_runS (e := e) (below := below) (meth := meth) (locs := locs) (As := As.map zv) (rest := st.map zv) (Ts := zws M) (own := M.1.cls) (g := F0 m pc ls ((As.reverse ++ st).map zv)) ⟨hC.1, hC.2.1, hC.2.2.1, hC.2.2.2.2.2.1, hts⟩ hMet
    ⟨callB_of n hts hGd hws rfl rfl (hts _ (List.mem_cons_of_mem _ i2)) (hts _ (List.mem_cons_of_mem _ c1)) i4 (zroom_call (w0 := w0) i5), hts _ (List.mem_cons_of_mem _ c2)⟩
    ⟨zPre_blind, fun U hU hW => ⟨rfl, zPre_of hC hY2 hU hW⟩⟩ rfl (by rw [List.length_map]; exact hn) hY2.2.2.2.2.2.1.1 (by simp) (lv_room hst) hd (by
      obtain ⟨-, z2, -, z4, z5, -, -⟩ := hY2
      obtain ⟨-, -, z6, z7, -⟩ := z2
      exact ⟨by show w.2.1 - w0.2.1 + (G.2.2.2.2.1 - w.2.1) ≤ G.2.2.2.2.1 - w0.2.1; omega, by show w.2.2 - w0.2.2 + (G.2.2.2.2.2 - w.2.2) ≤ G.2.2.2.2.2 - w0.2.2; omega⟩)
  exact z_after hC hY2 hrun (fun v' w' H' locs' hq' hY' => by
    obtain ⟨e1, e2⟩ := hq'
    cases e1
    subst e2
    exact k p e s m below meth c H' ls locs' hC hX hY') (fun i w' H' locs' q ce hi hq' hY' h1 h2 h3 => by cases hq'.1)
theorem zp_cl {d' o k1 k2 : Nat} {P : Int ⊕ Nat → whS → Prop} {a1 a2 a3 a4 a5 a6 a7 : zV} (hm : M.1.cls = "ModedMillLaw") (hd : decode M.2.1 pc = .ok (.invokestatic 128, 3)) (hst : st.length ≤ 4) (hh : M.2.2.2.2 = []) (hM : zM G zm_L_call d' [a1, a2, a3, a4, a5, a6, a7] w (lwQ w o k1 k2 P)) (k : ∀ (r : Int ⊕ Nat) (S' : whS) (w' : zW), P r S' → whW w' o k1 k2 S' → zSc w w' → zXp X G M (d' + 1) av w0 Q (pc + 3) L (zI (rvN r) :: st) w') : zXp X G M (d' + 1) av w0 Q pc L (a7 :: a6 :: a5 :: a4 :: a3 :: a2 :: a1 :: st) w := by
  refine zp_isH (As := [a1, a2, a3, a4, a5, a6, a7]) (st := st) hd (by rw [hm]; exact zc_L_128) rfl hst hh hM (fun v w' hq => ?_) (fun i w' hq => ?_)
  · obtain ⟨r, S', p, ⟨q1, q2⟩, e⟩ := hq
    cases e
    exact k r S' w' p q1 q2
  · obtain ⟨r, S', -, -, e⟩ := hq
    cases e
theorem zp_te {G : zG} {M : zMd} {d : Nat} {av : List zV} {w0 : zW} {Q : zQ} {pc : Nat} {L : List (Option zV)} {st : List zV} {w : zW} {o k1 k2 : Nat} {S : whS} {of : List zV} (hm : M.1.cls = "ModedMillLaw") (hd : decode M.2.1 pc = .ok (.invokevirtual 134, 3)) (h : whW w o k1 k2 S) (ho : w.1 o = some (11, 0, of)) (hst : st.length ≤ 4) (hh : M.2.2.2.2 = []) (k : ∀ w', whW w' o (k1 + 60) (k2 + 6) S → zSc w w' → zXp X G M (d + 14) av w0 Q (pc + 3) L (zI (S.2.1.length : Int) :: st) w') : zXp X G M (d + 14) av w0 Q pc L (zR o :: st) w := by
  obtain ⟨⟨ty, C⟩, tm, R, ⟨comp, asked, sum⟩, ⟨mo, ⟨I, An, Nt⟩, ⟨sc, cc, dc, en, bk, bc⟩⟩⟩ := S
  refine zp_invokevirtual (b := o) (As := []) (st := st) hd (by rw [hm]; exact zc_L_134) ho rfl rfl rfl hst hh (w_te (d := d + 11) h) (fun v w' q => ?_) (fun i w' q => ?_)
  · obtain ⟨⟨q1, q2⟩, e⟩ := q
    cases e
    exact k w' q1 q2
  · obtain ⟨-, e⟩ := q
    cases e
end XP
