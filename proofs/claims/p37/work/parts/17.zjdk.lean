/-! Own rows: the JDK's members: facts by places; a copy of an array of numbers. Printed by program (wip/p37/m_jdk.py). -/
abbrev zm_J7_rangeCheck_23922 : zMd := (yJ7_rangeCheck_23922, cJ7_rangeCheck_23922, 3, none, [])
abbrev zm_J7_copyOf_59c91 : zMd := (yJ7_copyOf_59c91, cJ7_copyOf_59c91, 3, (some (.array .int)), [])
theorem zc_J7_13 : zCS "java/util/Arrays" 13 zm_J7_rangeCheck_23922 3 := ⟨⟨rfl, zin 1 4 rfl rfl, zin 1 96 rfl rfl, by decide +kernel, by decide⟩, zin 1 94 rfl rfl, zin 1 95 rfl rfl⟩
theorem zc_X9_23 : zCS "ModedMill$Table" 23 zm_J7_copyOf_59c91 2 := ⟨⟨rfl, zin 1 4 rfl rfl, zin 1 77 rfl rfl, by decide +kernel, by decide⟩, zin 1 75 rfl rfl, zin 1 76 rfl rfl⟩
theorem zo_J7_304 : Cond.methodLink "java/util/Arrays" 304 Lib.Math.min.name ∈ zWS := zin 1 85 rfl rfl
theorem zy_link : Cond.methodLink "java/util/Arrays" 150 arraycopyName ∈ zWS := zin 1 88 rfl rfl
theorem zy_nat : Cond.native arraycopyName ∈ zWS := zin 1 90 rfl rfl
theorem zy_stat : Cond.static arraycopyName ∈ zWS := zin 1 89 rfl rfl
theorem zy_ini : Cond.initialized "java/lang/System" ∈ zWS := zin 1 6 rfl rfl

def zcp (xs ys : List zV) (n : Nat) : List zV := xs.take n ++ ys.drop n
section ZJDK
variable {G : zG} {M : zMd} {d : Nat} {av : List zV} {w0 : zW} {Q : zQ} {pc : Nat} {L : List (Option zV)} {st : List zV} {w : zW}
/-- System.arraycopy(from, 0, to, 0, n) of numbers, the whole of the first -/
theorem zx_arraycopy {idx a b ta oa tb ob n : Nat} {fs gs : List zV} (hd : decode M.2.1 pc = .ok (.invokestatic idx, 3)) (hl : Cond.methodLink M.1.cls idx arraycopyName ∈ zWS) (ha : w.1 a = some (ta, oa, fs)) (hb : w.1 b = some (tb, ob, gs)) (hta : 100 ≤ ta ∧ ta < 120) (htb : 100 ≤ tb ∧ tb < 120) (hfi : ∀ v ∈ fs, ∃ x, v = zI x) (hn : n ≤ fs.length) (hn2 : n ≤ gs.length) (hst : st.length ≤ 4) (hml : M.2.2.1 ≤ 20)
    (k : zX G M d av w0 Q (pc + 3) L st (zput w b (tb, ob, zcp fs gs n))) : zX G M d av w0 Q pc L (zI n :: zI 0 :: zR b :: zI 0 :: zR a :: st) w := by
  intro p e s m below meth c H ls locs hC hY
  obtain ⟨hnz, hY1⟩ := zY_pop hY
  obtain ⟨-, hY2⟩ := zY_pop hY1
  obtain ⟨-, hY3⟩ := zY_pop hY2
  obtain ⟨-, hY4⟩ := zY_pop hY3
  obtain ⟨-, hY5⟩ := zY_pop hY4
  have hza := (hY5.2.1.2.2.2.2 a _ ha).1
  have hzb := (hY5.2.1.2.2.2.2 b _ hb).1
  have hK := hC.2.2.2.2.2.2.2.2.2.2.2.1
  have hts := hC.2.2.2.2.1
  have hca := zat_arr hza (Or.inl ⟨hta.1, hta.2, rfl⟩)
  have hcb := zat_arr hzb (Or.inl ⟨htb.1, htb.2, rfl⟩)
  have hs := zsum hst
  obtain ⟨-, k0, hk0, cm0, hkk0⟩ := z_arrOf hK 0 rfl fs.length (fun i => zv (fs.getD i zN))
  obtain ⟨-, k1, hk1, cm1, hkk1⟩ := z_arrOf hK 0 rfl gs.length (fun i => zv (gs.getD i zN))
  have hcl : (Int32.ofInt (n : Int)).toNatClampNeg = n := by rw [z_clamp hnz]; simp
  have h00 : (Int32.ofInt 0).toNatClampNeg = 0 := by decide
  have nneg : ¬ Int32.ofInt (n : Int) < 0 := fun h => by have := (zi_lt hnz (z32_lit (by decide) (by decide) : z32 0)).mp h; omega
  have nint : (Int32.ofInt (n : Int)).toInt = (n : Int) := zw_id hnz
  have zint : (Int32.ofInt 0).toInt = 0 := zw_id ⟨by decide, by decide⟩
  have hsz : ls.size = c.maxLocals := hY.2.2.2.2.2.1.1.trans hC.2.2.1.symm
  intro T hT X
  obtain ⟨vm', X', step⟩ := X.arraycopy hC.1 hC.2.2.2.2.2.1 (hts _ (List.mem_cons_of_mem _ hl)) (hts _ (List.mem_cons_of_mem _ zy_nat)) (hts _ (List.mem_cons_of_mem _ zy_stat)) (hts _ (List.mem_cons_of_mem _ zy_ini)) (src := a) (dst := b) (srcPos := Int32.ofInt 0) (destPos := Int32.ofInt 0) (n := Int32.ofInt (n : Int)) (by rw [hT]; exact hca) (by rw [hT]; exact hcb)
    (fun _ h => by cases h) (fun _ h => by cases h) (fun h => by cases h) (fun h => by cases h) hk0 hk1 hkk0 hkk1 (by rfl) (by decide) (by decide) nneg
    (by rw [zint, nint]; show ¬ _ > ((arrV _ fs.length _).slots.size : Int); rw [arrV_size]; omega)
    (by rw [zint, nint]; show ¬ _ > ((arrV _ gs.length _).slots.size : Int); rw [arrV_size]; omega)
    (fun vm₁ _ i hi => by
      rw [h00, hcl] at *
      have hi : i < n := hi
      obtain ⟨x, hx⟩ := hfi fs[i] (List.getElem_mem _)
      have e : (arrV (G.2.2.2.1 0) fs.length (fun i => zv (fs.getD i zN))).slots.getD (0 + i) .null = .int (Int32.ofInt x) := by
        rw [Array.getD_eq_getD_getElem?, arrV_read _ _ (by omega), Nat.zero_add, List.getD_eq_getElem?_getD, List.getElem?_eq_getElem (by omega), Option.getD_some]
        show zv fs[i] = _
        rw [hx]; rfl
      refine ⟨?_, ?_⟩
      · rw [e]; rfl
      · rw [e]; exact trivial)
    (g := F0 m pc ls (.int (Int32.ofInt (n : Int)) :: .int (Int32.ofInt 0) :: .ref b :: .int (Int32.ofInt 0) :: .ref a :: st.map zv)) rfl (by rw [← hsz]) (rest := st.map zv) rfl (by rw [hC.2.1]; exact hd) (show 1 ≤ 10 + d by omega) (by show 2 * 0 + ((st.map zv).map fun v => v.category).sum + (nativeFrameWords "java/lang/System" "arraycopy" 5 + 11) ≤ 110 + 40 * d; have hw : nativeFrameWords "java/lang/System" "arraycopy" 5 ≤ 30 := (by decide); omega)
  have e1 : copied (arrV (G.2.2.2.1 0) fs.length (fun i => zv (fs.getD i zN))) (arrV (G.2.2.2.1 0) gs.length (fun i => zv (gs.getD i zN))) (Int32.ofInt 0) (Int32.ofInt 0) (Int32.ofInt (n : Int)) = arrV (G.2.2.2.1 0) (zcp fs gs n).length (fun i => zv ((zcp fs gs n).getD i zN)) := by
    refine (va_copied (fun z : Value => z) (G.2.2.2.1 0) (G.2.2.2.1 0) (fun i => zv (fs.getD i zN)) (fun i => zv (gs.getD i zN)) (by rw [h00, hcl]; omega)).trans (z_arrC (by simp [zcp]; omega) fun i hi => ?_)
    rw [h00, hcl]
    unfold va_cpy zcp
    by_cases c1 : i < n
    · rw [if_pos (by omega)]
      simp only [Nat.sub_zero, Nat.zero_add, List.getD_eq_getElem?_getD]
      rw [List.getElem?_append_left (by simp; omega), List.getElem?_take_of_lt c1]
    · rw [if_neg (by omega)]
      simp only [List.getD_eq_getElem?_getD]
      rw [List.getElem?_append_right (by simp; omega), List.getElem?_drop]
      congr 3
      simp
      omega
  rw [e1] at X' step
  have hl2 : b < H.size := (Array.getElem?_eq_some_iff.mp hcb).1
  generalize hnc : arrV (G.2.2.2.1 0) (zcp fs gs n).length (fun i => zv ((zcp fs gs n).getD i zN)) = nc at X' step e1
  have hheap : ((T.setVm vm').setCell b nc).heap = H.setIfInBounds b nc := by rw [← hT]; rfl
  have oq : ∀ q : Nat, q ≠ b → (H.setIfInBounds b nc)[q]? = H[q]? := fun q hq => by simp [Array.getElem?_setIfInBounds, Ne.symm hq]
  have hnew : (H.setIfInBounds b nc)[b]? = some nc := by simp [Array.getElem?_setIfInBounds, hl2]
  obtain ⟨y1, y2, y3, y4, y5, y6, y7⟩ := hY5
  have hfit : ∀ v ∈ zcp fs gs n, zfit v := fun v hv => by
    rcases List.mem_append.mp hv with h | h
    · exact hza.1 v (List.mem_of_mem_take h)
    · exact hzb.1 v (List.mem_of_mem_drop h)
  have hS' : ∀ locs' : List Loc, (∀ z ∈ locs', z.base = b) → va_S (zA w0) s.heap (H.setIfInBounds b nc) (locs ++ locs') := fun locs' hl' => ⟨by simp; exact y1.1, fun q g1 g2 => by
      rw [oq q (fun e => g2 (by rw [e]; exact y3 b (by rw [hb]; simp)))]
      exact y1.2.1 q g1 g2, fun q hq => by
      rcases List.mem_append.mp hq with h | h
      · exact y1.2.2 q h
      · rw [hl' q h]
        exact y3 b (by rw [hb]; simp)⟩
  have hH' : zHp G (zput w b (tb, ob, zcp fs gs n)) (H.setIfInBounds b nc) := zHp_put y2 hb (show tb ≠ 199 by omega) (by simp) (zTot_set hcb hnew (by rw [← hnc, arrV_size, arrV_size]; simp [zcp]; omega) oq) oq (zat_mk hfit (Or.inl ⟨htb.1, htb.2, rfl⟩) (by unfold zArrA; rw [hnew, hnc]))
  obtain ⟨t, a1, b1⟩ := k p e s m below meth c (H.setIfInBounds b nc) ls _ hC ⟨hS' _ (fun z hz => by
      obtain ⟨z', -, hz⟩ := List.mem_map.mp hz
      rw [← hz]), hH', fun q hq => by
      by_cases c1 : q = b
      · rw [c1]; exact y3 b (by rw [hb]; simp)
      · exact y3 q (by unfold zput zup at hq; simp only [if_neg c1] at hq; exact hq), y4, y5, y6, y7⟩ _ hheap X'
  exact ⟨t, step t a1, b1⟩
end ZJDK

