/-! Own rows: what lists are made of: the empty array of all, class objects, copies of references. -/
section ZLIST
variable {G : zG} {M : zMd} {d : Nat} {av : List zV} {w0 : zW} {Q : zQ} {pc : Nat} {L : List (Option zV)} {st : List zV} {w : zW}
theorem zx_dupx1 {a b : zV} (hd : decode M.2.1 pc = .ok (.dup_x1, 1)) (ha : ∀ x, a ≠ zJ x) (hb : ∀ x, b ≠ zJ x) (k : zX G M d av w0 Q (pc + 1) L (a :: b :: a :: st) w) : zX G M d av w0 Q pc L (a :: b :: st) w := by
  intro p e s m below meth c H ls locs hC hY
  obtain ⟨h1, hY1⟩ := zY_pop hY
  obtain ⟨h2, hY2⟩ := zY_pop hY1
  exact lv_dup_x1 hC.1 hC.2.1 hd (zcat a ha) (zcat b hb) (k p e s m below meth c H ls locs hC (zY_push h1 (zY_push h2 (zY_push h1 hY2))))
theorem zva_rf (o : Option Nat) : zv (Sum.inr (Sum.inl o)) = va_rf o := by cases o <;> rfl
theorem zx_acmp_eq {a b : Option Nat} {off : Int} {tgt : Nat} (hd : decode M.2.1 pc = .ok (.if_acmp .eq off, 3)) (ht : (pc : Int) + off = (tgt : Int)) (kt : a = b → zX G M d av w0 Q tgt L st w) (kf : ¬ a = b → zX G M d av w0 Q (pc + 3) L st w) : zX G M d av w0 Q pc L (Sum.inr (Sum.inl b) :: Sum.inr (Sum.inl a) :: st) w := by
  intro p e s m below meth c H ls locs hC hY
  have hY1 := (zY_pop (zY_pop hY).2).2
  rw [List.map_cons, List.map_cons, zva_rf, zva_rf]
  exact lv_acmp_eq hC.1 hC.2.1 hd ht (fun h => kt h p e s m below meth c H ls locs hC hY1) (fun h => kf h p e s m below meth c H ls locs hC hY1)
theorem zx_acmp_ne {a b : Option Nat} {off : Int} {tgt : Nat} (hd : decode M.2.1 pc = .ok (.if_acmp .ne off, 3)) (ht : (pc : Int) + off = (tgt : Int)) (kt : ¬ a = b → zX G M d av w0 Q tgt L st w) (kf : a = b → zX G M d av w0 Q (pc + 3) L st w) : zX G M d av w0 Q pc L (Sum.inr (Sum.inl b) :: Sum.inr (Sum.inl a) :: st) w := by
  intro p e s m below meth c H ls locs hC hY
  have hY1 := (zY_pop (zY_pop hY).2).2
  rw [List.map_cons, List.map_cons, zva_rf, zva_rf]
  exact lv_acmp_ne hC.1 hC.2.1 hd ht (fun h => kt h p e s m below meth c H ls locs hC hY1) (fun h => kf h p e s m below meth c H ls locs hC hY1)
/-- the empty array of all lists -/
theorem zx_gets0 {idx : Nat} (hd : decode M.2.1 pc = .ok (.getstatic idx, 3)) (hl : Cond.fieldLink M.1.cls idx "java/util/ArrayList" "DEFAULTCAPACITY_EMPTY_ELEMENTDATA" "[Ljava/lang/Object;" ∈ zWS) (k : zX G M d av w0 Q (pc + 3) L (zR G.2.1 :: st) w) : zX G M d av w0 Q pc L st w := by
  intro p e s m below meth c H ls locs hC hY
  have hE := hC.2.2.2.2.2.2.2.2.2.2.2.2
  exact va_gets hC.1 hC.2.1 hE.2.2.1 hY.1 hC.2.2.2.2.2.1 (hC.2.2.2.2.1 _ (List.mem_cons_of_mem _ hl)) (fun _ h => h) hd (k p e s m below meth c H ls locs hC (zY_push (v := zR G.2.1) trivial hY))
theorem zx_alen0 (hd : decode M.2.1 pc = .ok (.arraylength, 1)) (k : zX G M d av w0 Q (pc + 1) L (zI 0 :: st) w) : zX G M d av w0 Q pc L (zR G.2.1 :: st) w := by
  intro p e s m below meth c H ls locs hC hY
  obtain ⟨-, hY1⟩ := zY_pop hY
  obtain ⟨cell, h4, h5, h6, h7, h8⟩ := hC.2.2.2.2.2.2.2.2.2.2.2.2.2.2.2.1
  have kk := k p e s m below meth c H ls locs hC (zY_push (v := zI 0) ⟨by decide, by decide⟩ hY1)
  exact W.alen hC.1 hC.2.1 (show H[G.2.1]? = some cell by rw [hY1.1.2.1 _ h7 h8]; exact h4) h5 (show cell.slots.size.toInt32 = Int32.ofInt 0 from h6) rfl rfl hd kk
/-- class objects -/
theorem zx_ldcM {idx : Nat} (hd : decode M.2.1 pc = .ok (.ldc idx, 2)) (hl : Cond.classLink M.1.cls idx "[Ljava/lang/Object;" ∈ zWS) (k : zX G M d av w0 Q (pc + 2) L (zR (G.2.2.2.1 5) :: st) w) : zX G M d av w0 Q pc L st w := by
  intro p e s m below meth c H ls locs hC hY
  have hE := hC.2.2.2.2.2.2.2.2.2.2.2.2
  exact va_ldcM hC.1 hC.2.1 hC.2.2.2.2.2.1 (hC.2.2.2.2.1 _ (List.mem_cons_of_mem _ hl)) hE.2.2.2.2.2.2.2 hd (k p e s m below meth c H ls locs hC (zY_push (v := zR (G.2.2.2.1 5)) trivial hY))
theorem zx_getC {idx a ow : Nat} {fs : List zV} (hd : decode M.2.1 pc = .ok (.invokevirtual idx, 3)) (hl : Cond.methodLink M.1.cls idx ⟨"java/lang/Object", "getClass", "()Ljava/lang/Class;"⟩ ∈ zWS) (hdc : Cond.declares ⟨"java/lang/Object", "getClass", "()Ljava/lang/Class;"⟩ ∈ lw_tbl)
    (hsel : Cond.selects "[Ljava/lang/Object;" ⟨"java/lang/Object", "getClass", "()Ljava/lang/Class;"⟩ ⟨"java/lang/Object", "getClass", "()Ljava/lang/Class;"⟩ ∈ zWS) (hin : Cond.instanceMethod ⟨"java/lang/Object", "getClass", "()Ljava/lang/Class;"⟩ ∈ zWS) (hna : Cond.native ⟨"java/lang/Object", "getClass", "()Ljava/lang/Class;"⟩ ∈ zWS) (ha : w.1 a = some (127, ow, fs)) (hst : st.length ≤ 4)
    (k : zX G M d av w0 Q (pc + 3) L (zR (G.2.2.2.1 5) :: st) w) : zX G M d av w0 Q pc L (zR a :: st) w := by
  intro p e s m below meth c H ls locs hC hY
  obtain ⟨-, hY1⟩ := zY_pop hY
  have hz := (hY1.2.1.2.2.2.2 a _ ha).1
  have hE := hC.2.2.2.2.2.2.2.2.2.2.2.2
  have hts := hC.2.2.2.2.1
  have hs := zsum hst
  have hc := zat_arr hz (Or.inr (Or.inr (Or.inr (Or.inr ⟨rfl, rfl⟩))))
  refine va_getC hC.1 hC.2.1 (hC.2.2.1.trans hY1.2.2.2.2.2.1.1.symm) hC.2.2.2.2.2.1 (hts _ (List.mem_cons_of_mem _ hl)) (va_Nw.use rfl (hE.2.2.2.2.1 _ hdc rfl)) (hts _ (List.mem_cons_of_mem _ hsel)) (hts _ (List.mem_cons_of_mem _ hin)) (hts _ (List.mem_cons_of_mem _ hna)) hE.2.2.2.2.2.2.2 ⟨_, hc, rfl, (z_arrName hC.2.2.2.2.2.2.2.2.2.2.2.1).2.2.2.2⟩ (show 1 ≤ 10 + d by omega) (show ((st.map zv).map fun v => v.category).sum + 14 ≤ 110 + 40 * d by omega) hd (k p e s m below meth c H ls locs hC (zY_push (v := zR (G.2.2.2.1 5)) trivial hY1))
/-- a copy of references -/
theorem zx_arraycopyO {idx a b oa ob n : Nat} {os ps : List (Option Nat)} (hd : decode M.2.1 pc = .ok (.invokestatic idx, 3)) (hl : Cond.methodLink M.1.cls idx arraycopyName ∈ zWS) (ha : w.1 a = some (127, oa, os.map (fun o => Sum.inr (Sum.inl o)))) (hb : w.1 b = some (127, ob, ps.map (fun o => Sum.inr (Sum.inl o)))) (hn : n ≤ os.length) (hn2 : n ≤ ps.length) (hst : st.length ≤ 4)
    (hel : ∀ i y, i < n → os[i]? = some (some y) → ∃ cq oq fq r, w.1 y = some (cq, oq, fq) ∧ cq < 100 ∧ vwCl[cq]? = some r ∧ Cond.castable r.1 "java/lang/Object" ∈ lw_tbl)
    (k : zX G M d av w0 Q (pc + 3) L st (zput w b (127, ob, (os.take n ++ ps.drop n).map (fun o => Sum.inr (Sum.inl o))))) : zX G M d av w0 Q pc L (zI n :: zI 0 :: zR b :: zI 0 :: zR a :: st) w := by
  intro p e s m below meth c H ls locs hC hY
  obtain ⟨hnz, hY1⟩ := zY_pop hY
  obtain ⟨-, hY2⟩ := zY_pop hY1
  obtain ⟨-, hY3⟩ := zY_pop hY2
  obtain ⟨-, hY4⟩ := zY_pop hY3
  obtain ⟨-, hY5⟩ := zY_pop hY4
  have hza := (hY5.2.1.2.2.2.2 a _ ha).1
  have hzb := (hY5.2.1.2.2.2.2 b _ hb).1
  have hK := hC.2.2.2.2.2.2.2.2.2.2.2.1
  have hE := hC.2.2.2.2.2.2.2.2.2.2.2.2
  have hts := hC.2.2.2.2.1
  have mkv : ∀ (xs : List (Option Nat)), arrV (G.2.2.2.1 4) (xs.map (fun o => (Sum.inr (Sum.inl o) : zV))).length (fun i => zv ((xs.map (fun o => (Sum.inr (Sum.inl o) : zV))).getD i zN)) = arrV (G.2.2.2.1 4) xs.length (fun i => va_rf (xs.getD i none)) := fun xs => z_arrC (by simp) fun i hi => by
    have hi : i < xs.length := by simpa using hi
    simp only [List.getD_eq_getElem?_getD, List.getElem?_map, List.getElem?_eq_getElem hi, Option.map_some, Option.getD_some]
    exact zva_rf _
  have hca : H[a]? = some (arrV (G.2.2.2.1 4) os.length (fun i => va_rf (os.getD i none))) := by rw [← mkv]; exact zat_arr hza (Or.inr (Or.inr (Or.inr (Or.inr ⟨rfl, rfl⟩))))
  have hcb : H[b]? = some (arrV (G.2.2.2.1 4) ps.length (fun i => va_rf (ps.getD i none))) := by rw [← mkv]; exact zat_arr hzb (Or.inr (Or.inr (Or.inr (Or.inr ⟨rfl, rfl⟩))))
  have hs := zsum hst
  obtain ⟨-, k0, hk0, cm0, hkk0⟩ := z_arrOf hK 4 rfl os.length (fun i => va_rf (os.getD i none))
  obtain ⟨-, k1, hk1, cm1, hkk1⟩ := z_arrOf hK 4 rfl ps.length (fun i => va_rf (ps.getD i none))
  have hcl : (Int32.ofInt (n : Int)).toNatClampNeg = n := by rw [z_clamp hnz]; simp
  have h00 : (Int32.ofInt 0).toNatClampNeg = 0 := by decide
  have nneg : ¬ Int32.ofInt (n : Int) < 0 := fun h => by have := (zi_lt hnz (z32_lit (by decide) (by decide) : z32 0)).mp h; omega
  have nint : (Int32.ofInt (n : Int)).toInt = (n : Int) := zw_id hnz
  have zint : (Int32.ofInt 0).toInt = 0 := zw_id ⟨by decide, by decide⟩
  have hsz : ls.size = c.maxLocals := hY.2.2.2.2.2.1.1.trans hC.2.2.1.symm
  intro T hT X
  obtain ⟨vm', X', step⟩ := X.arraycopy hC.1 hC.2.2.2.2.2.1 (hts _ (List.mem_cons_of_mem _ hl)) (hts _ (List.mem_cons_of_mem _ zy_nat)) (hts _ (List.mem_cons_of_mem _ zy_stat)) (hts _ (List.mem_cons_of_mem _ zy_ini)) (src := a) (dst := b) (srcPos := Int32.ofInt 0) (destPos := Int32.ofInt 0) (n := Int32.ofInt (n : Int)) (by rw [hT]; exact hca) (by rw [hT]; exact hcb)
    (fun _ h => by cases h) (fun _ h => by cases h) (fun h => by cases h) (fun h => by cases h) hk0 hk1 hkk0 hkk1 (by rfl) (by decide) (by decide) nneg
    (by rw [zint, nint]; show ¬ _ > ((arrV _ os.length _).slots.size : Int); rw [arrV_size]; omega)
    (by rw [zint, nint]; show ¬ _ > ((arrV _ ps.length _).slots.size : Int); rw [arrV_size]; omega)
    (fun vm₁ hal i hi => by
      rw [h00, hcl] at *
      have hi : i < n := hi
      have e : (arrV (G.2.2.2.1 4) os.length (fun i => va_rf (os.getD i none))).slots.getD (0 + i) .null = va_rf os[i] := by
        rw [Array.getD_eq_getD_getElem?, arrV_read _ _ (by omega), Nat.zero_add, List.getD_eq_getElem?_getD, List.getElem?_eq_getElem (by omega), Option.getD_some, Option.getD_some]
      rw [e]
      cases hy : os[i] with
      | none => exact ⟨rfl, trivial⟩
      | some y =>
        obtain ⟨cq, oq, fq, r, q1, q2, q3, q4⟩ := hel i y hi (by rw [List.getElem?_eq_getElem (by omega), hy])
        obtain ⟨r', r1, cv, r2, r3, r4, -⟩ := zat_obj (hY5.2.1.2.2.2.2 y _ q1).1 q2
        have hrr : r' = r := Option.some.inj (r1.symm.trans q3)
        subst hrr
        obtain ⟨-, hfc, kC, hkC, hkind⟩ := hK.1 cq _ r1
        obtain ⟨kA, comp, g1, g2, g3, -⟩ := (hK.2 4 _ rfl).2
        cases hk1.symm.trans g1
        cases hkk1.symm.trans g2
        obtain ⟨c1, c2, f1, f2, f3⟩ := Cond.castable_spec (va_Nw.use (A := #[]) rfl (hE.2.2.2.2.1 _ q4 rfl))
        cases f1.symm.trans hfc
        cases f2.symm.trans g3
        obtain ⟨kE, hkE⟩ := Vm.classAt_of_findClass g3
        obtain ⟨kC', hkC', -⟩ := hal.2.2 _ _ hkC
        obtain ⟨kE', hkE', -⟩ := hal.2.2 _ _ hkE
        refine ⟨rfl, cv, (show T.heap[y]? = some cv by rw [hT]; exact r2), (fun q h => by rw [r4] at h; cases h), ⟨kC', by rw [r3]; exact hkC'⟩, ⟨kE', hkE'⟩, ?_⟩
        show vm₁.assignable _ _ = true
        rw [r3, hal.assignable]
        exact f3)
    (g := F0 m pc ls (.int (Int32.ofInt (n : Int)) :: .int (Int32.ofInt 0) :: .ref b :: .int (Int32.ofInt 0) :: .ref a :: st.map zv)) rfl (by rw [← hsz]) (rest := st.map zv) rfl (by rw [hC.2.1]; exact hd) (show 1 ≤ 10 + d by omega) (by show 2 * 0 + ((st.map zv).map fun v => v.category).sum + (nativeFrameWords "java/lang/System" "arraycopy" 5 + 11) ≤ 110 + 40 * d; have hw : nativeFrameWords "java/lang/System" "arraycopy" 5 ≤ 30 := (by decide); omega)
  have e1 : copied (arrV (G.2.2.2.1 4) os.length (fun i => va_rf (os.getD i none))) (arrV (G.2.2.2.1 4) ps.length (fun i => va_rf (ps.getD i none))) (Int32.ofInt 0) (Int32.ofInt 0) (Int32.ofInt (n : Int)) = arrV (G.2.2.2.1 4) (os.take n ++ ps.drop n).length (fun i => va_rf ((os.take n ++ ps.drop n).getD i none)) := by
    refine (va_copied (fun z : Value => z) (G.2.2.2.1 4) (G.2.2.2.1 4) (fun i => va_rf (os.getD i none)) (fun i => va_rf (ps.getD i none)) (by rw [h00, hcl]; omega)).trans (z_arrC (by simp; omega) fun i hi => ?_)
    rw [h00, hcl]
    unfold va_cpy
    by_cases c1 : i < n
    · rw [if_pos (by omega)]
      simp only [Nat.sub_zero, Nat.zero_add, List.getD_eq_getElem?_getD]
      rw [List.getElem?_append_left (by simp; omega), List.getElem?_take_of_lt c1]
    · rw [if_neg (by omega)]
      simp only [List.getD_eq_getElem?_getD]
      rw [List.getElem?_append_right (by simp; omega), List.getElem?_drop]
      congr 3
      simp
      omega
  rw [e1] at X' step
  have hl2 : b < H.size := (Array.getElem?_eq_some_iff.mp hcb).1
  generalize hnc : arrV (G.2.2.2.1 4) (os.take n ++ ps.drop n).length (fun i => va_rf ((os.take n ++ ps.drop n).getD i none)) = nc at X' step e1
  have hheap : ((T.setVm vm').setCell b nc).heap = H.setIfInBounds b nc := by rw [← hT]; rfl
  have oq : ∀ q : Nat, q ≠ b → (H.setIfInBounds b nc)[q]? = H[q]? := fun q hq => by simp [Array.getElem?_setIfInBounds, Ne.symm hq]
  have hnew : (H.setIfInBounds b nc)[b]? = some nc := by simp [Array.getElem?_setIfInBounds, hl2]
  obtain ⟨y1, y2, y3, y4, y5, y6, y7⟩ := hY5
  have hS' : ∀ locs' : List Loc, (∀ z ∈ locs', z.base = b) → va_S (zA w0) s.heap (H.setIfInBounds b nc) (locs ++ locs') := fun locs' hl' => ⟨by simp; exact y1.1, fun q g1 g2 => by
      rw [oq q (fun e => g2 (by rw [e]; exact y3 b (by rw [hb]; simp)))]
      exact y1.2.1 q g1 g2, fun q hq => by
      rcases List.mem_append.mp hq with h | h
      · exact y1.2.2 q h
      · rw [hl' q h]
        exact y3 b (by rw [hb]; simp)⟩
  have hH' : zHp G (zput w b (127, ob, (os.take n ++ ps.drop n).map (fun o => Sum.inr (Sum.inl o)))) (H.setIfInBounds b nc) := zHp_put y2 hb (show (127 : Nat) ≠ 199 by omega) (by simp) (zTot_set hcb hnew (by rw [← hnc, arrV_size, arrV_size]; simp; omega) oq) oq (zat_mk (ka := 4) (fun v hv => by
      obtain ⟨o, -, rfl⟩ := List.mem_map.mp hv
      exact trivial) (Or.inr (Or.inr (Or.inr (Or.inr ⟨rfl, rfl⟩)))) (by unfold zArrA; rw [hnew, mkv, hnc]))
  obtain ⟨t, a1, b1⟩ := k p e s m below meth c (H.setIfInBounds b nc) ls _ hC ⟨hS' _ (fun z hz => by
      obtain ⟨z', -, hz⟩ := List.mem_map.mp hz
      rw [← hz]), hH', fun q hq => by
      by_cases c1 : q = b
      · rw [c1]; exact y3 b (by rw [hb]; simp)
      · exact y3 q (by unfold zput zup at hq; simp only [if_neg c1] at hq; exact hq), y4, y5, y6, y7⟩ _ hheap X'
  exact ⟨t, step t a1, b1⟩
end ZLIST
