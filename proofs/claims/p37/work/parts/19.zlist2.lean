/-! Own rows: lists, closed and empty; a field by the name of a class below its own. -/
theorem zk_same : Cond.sameField "java/util/ArrayList" "java/util/AbstractList" "modCount" "I" ∈ zWS := zin 2 231 rfl rfl
section ZLIST2
variable {G : zG} {M : zMd} {d : Nat} {av : List zV} {w0 : zW} {Q : zQ} {pc : Nat} {L : List (Option zV)} {st : List zV} {w : zW}
theorem zx_getmc {idx a ow : Nat} {fs : List zV} {v : zV} (hd : decode M.2.1 pc = .ok (.getfield idx, 3)) (hl : Cond.fieldLink M.1.cls idx "java/util/ArrayList" "modCount" "I" ∈ zWS) (ha : w.1 a = some (12, ow, fs)) (hv : fs[0]? = some v) (k : zX G M d av w0 Q (pc + 3) L (v :: st) w) : zX G M d av w0 Q pc L (zR a :: st) w := by
  intro p e s m below meth c H ls locs hC hY
  obtain ⟨-, hY1⟩ := zY_pop hY
  have hz := (hY1.2.1.2.2.2.2 a _ ha).1
  have hfit : zfit v := hz.1 v (List.mem_of_getElem? hv)
  have hP : va_P G.2.2.1 vwCl [(a, .inr (12, fs.map zv))] H := fun q x hq => by
    cases q with
    | zero => cases hq; exact zat_obj hz (by decide)
    | succ q => cases hq
  have kk := k p e s m below meth c H ls locs hC (zY_push hfit hY1)
  have hK := hC.2.2.2.2.2.2.2.2.2.2.2.1
  have hts := hC.2.2.2.2.1
  have hin : ∀ w ∈ u_ws RJx4a65c TJx4a65c 3, w ∈ zws M := fun x hx => List.mem_cons_of_mem _ (zu_Jx4a65c x hx)
  have hvv : (fs.map zv)[0]? = some (zv v) := by rw [List.getElem?_map, hv]; rfl
  exact va_get hC.1 hC.2.1 hts hin hC.2.2.2.2.2.1 hK hP 0 rfl (ci := 12) rfl 0 (by decide) (hts _ (List.mem_cons_of_mem _ hl)) (fun x h => u_same (hts _ (List.mem_cons_of_mem _ zk_same)) x h) hvv hd kk
theorem zx_putmc {idx a ow : Nat} {fs : List zV} {x : Int} (hd : decode M.2.1 pc = .ok (.putfield idx, 3)) (hl : Cond.fieldLink M.1.cls idx "java/util/ArrayList" "modCount" "I" ∈ zWS) (ha : w.1 a = some (12, ow, fs)) (hk : 0 < fs.length) (k : zX G M d av w0 Q (pc + 3) L st (zput w a (12, ow, fs.set 0 (zI x)))) : zX G M d av w0 Q pc L (zI x :: zR a :: st) w := by
  intro p e s m below meth c H ls locs hC hY
  obtain ⟨hfit, hY1⟩ := zY_pop hY
  obtain ⟨-, hY2⟩ := zY_pop hY1
  have hz := (hY2.2.1.2.2.2.2 a _ ha).1
  have hK := hC.2.2.2.2.2.2.2.2.2.2.2.1
  have hts := hC.2.2.2.2.1
  have hin : ∀ w ∈ u_ws RJx4a65c TJx4a65c 3, w ∈ zws M := fun x hx => List.mem_cons_of_mem _ (zu_Jx4a65c x hx)
  have hown := hC.2.2.2.2.2.1
  have f1 : vwCl[12]? = some (RJx4a65c, TJx4a65c, 3) := rfl
  have f6 : 0 < 3 := by decide
  have hap := va_apart (own := M.1.cls) hts hin tyJx4a65c tyJx4a65c_ok nmJx4a65c hK f1
  obtain ⟨r, h1, cell, q1, q2, q3, q4⟩ := zat_obj hz (by decide)
  have hr : r = (RJx4a65c, TJx4a65c, 3) := Option.some.inj (h1.symm.trans f1)
  subst hr
  obtain ⟨hS, hfc, kC, hkC, hkind⟩ := hK.1 12 _ f1
  obtain ⟨cf, kcf, fi, f, hi, hsl⟩ := hS 0 f6
  have hst := (u_facts hfc hkC (u_lays hts hin f6) hi).1
  have hlt : f.slot < cell.slots.size := by rw [hsl]; exact k2_hasslot (q4 0 f6)
  have after : ∀ H' : Heap, H'[a]? = some (cell.setSlot f.slot (.int (Int32.ofInt x))) → H'.size = H.size → (∀ q, q ≠ a → H'[q]? = H[q]?) → W p G.1 e (zrm G d w0) s m (av.map zv).toArray below meth c H' (locs ++ [⟨a, f.slot⟩]) (w.2.1 - w0.2.1) (w.2.2 - w0.2.2) (vx_MQ below (zQr G w0 Q) (zQx G w0 Q) (av.map zv).toArray s (G.2.2.2.2.1 - w0.2.1) (G.2.2.2.2.2 - w0.2.2) (zA w0)) (F0 m (pc + 3) ls (st.map zv)) := by
    intro H' e1 e2 e3
    refine k p e s m below meth c H' ls _ hC (zY_put hY2 ha (show (12 : Nat) ≠ 199 by omega) e2 (zTot_set q1 e1 (k2_slotsz _ _ _) e3) e3 ⟨fun y hy => ?_, ?_⟩)
    · rcases List.mem_or_eq_of_mem_set hy with h | h
      · exact hz.1 y h
      · rw [h]; exact hfit
    · rw [if_pos (show (12 : Nat) < 100 by decide)]
      rw [hsl] at e1
      exact ⟨_, f1, t_OB.to (V := updV (vp_V (fs.map zv)) 0 (zv (zI x))) ⟨_, e1, q2, q3, t_set q4 hap f6 (zv (zI x))⟩ (fun j _ => zV_set hk j)⟩
  have hlay := hts _ (hin _ (u_in_lay f6))
  unfold u_lay at hlay
  rw [if_neg (by decide)] at hlay
  have h6 := u_store hfc hkC hkind hlay hi (tyJx4a65c_ok 0 f6) (show narrow (tyJx4a65c 0) (.int (Int32.ofInt x)) = .int (Int32.ofInt x) from rfl) rfl
  exact W.putK hC.1 hC.2.1 (f := f) ⟨hown, hts _ (List.mem_cons_of_mem _ hl), ⟨_, _, _, u_same (hts _ (List.mem_cons_of_mem _ zk_same)) _ hi⟩, hst⟩ (by rw [q2]; exact h6) q1 q3 hlt rfl rfl hd after
/-- one place is seen anew -/
theorem zY_one {a : Nat} {obA oa : zO} {s : State} {H : Heap} {ls : Array Slot} {locs : List Loc} (hY : zDy G M w0 L st w s H ls locs) (ha : w.1 a = some oa) (hoa : oa.1 ≠ 199) (hz' : zat G.2.2.1 G.2.2.2.1 G.2.1 (zup w.1 a obA) a obA H) : zDy G M w0 L st (zput w a obA) s H ls locs := by
  obtain ⟨h1, h2, h3, h4, h5, h6, h7⟩ := hY
  refine ⟨h1, zHp_put h2 ha hoa rfl rfl (fun _ _ => rfl) hz', fun q hq => ?_, h4, h5, h6, h7⟩
  by_cases c : q = a
  · rw [c]; exact h3 a (by rw [ha]; simp)
  · exact h3 q (by unfold zput zup at hq; simp only [if_neg c] at hq; exact hq)
/-- the number of elements, read in a closed list -/
theorem zx_lsize {a t ow cap idx : Nat} {ys : List Nat} {fin : Bool} {fty : FieldType} (hd : decode M.2.1 pc = .ok (.getfield idx, 3)) (hf : zFI M.1.cls idx 12 2 fin fty) (ha : w.1 a = some (t, ow, zLs cap ys)) (ht : 160 ≤ t ∧ t < 190) (k : zX G M d av w0 Q (pc + 3) L (zI (ys.length : Int) :: st) w) : zX G M d av w0 Q pc L (zR a :: st) w := by
  intro p e s m below meth c H ls locs hC hY
  have hz := (hY.2.1.2.2.2.2 a _ ha).1
  obtain ⟨cap', mc0, h, ys', g, e1, e2, e3, e4, -⟩ := zat_lst hz ht
  obtain ⟨rfl, rfl⟩ := zLs_inj e1
  obtain ⟨-, hY1⟩ := zY_pop hY
  have hP : va_P G.2.2.1 vwCl [(a, .inr (12, [.int (Int32.ofInt mc0), .ref h, .int (Int32.ofInt ys.length)]))] H := fun q x hq => by
    cases q with
    | zero => cases hq; exact e4
    | succ q => cases hq
  obtain ⟨C, T, N, ty, f1, f2, f3, f4, f5, f6, f7, f8, f9⟩ := hf
  have kk := k p e s m below meth c H ls locs hC (zY_push (v := zI (ys.length : Int)) ⟨by omega, by omega⟩ hY1)
  have hK := hC.2.2.2.2.2.2.2.2.2.2.2.1
  have hin : ∀ w ∈ u_ws C T N, w ∈ zws M := fun x hx => List.mem_cons_of_mem _ (f3 x hx)
  rcases f7 with f7 | ⟨host, f7⟩
  · exact va_get hC.1 hC.2.1 hC.2.2.2.2.1 hin hC.2.2.2.2.2.1 hK hP 0 rfl f1 2 f6 (hC.2.2.2.2.1 _ (List.mem_cons_of_mem _ f7)) (fun _ h => h) rfl hd kk
  · exact va_getN hC.1 hC.2.1 hC.2.2.2.2.1 hin hC.2.2.2.2.2.1 hK hP 0 rfl f1 2 f6 (va_Nw.use rfl (hC.2.2.2.2.2.2.2.2.2.2.2.2.2.2.2.2.1 _ f7 rfl)) (fun _ h => h) rfl hd kk
/-- an empty list, with the empty array of all, is opened and closed -/
theorem zx_lopen0 {a t ow : Nat} (ha : w.1 a = some (t, ow, zLs 0 [])) (ht : 160 ≤ t ∧ t < 190) (k : ∀ mc : Int, z32 mc → zX G M d av w0 Q pc L st (zput w a (12, ow, [zI mc, zR G.2.1, zI 0]))) : zX G M d av w0 Q pc L st w := by
  intro p e s m below meth c H ls locs hC hY
  have hz := (hY.2.1.2.2.2.2 a _ ha).1
  obtain ⟨cap', mc0, h, ys', g, e1, e2, e3, e4, e5, e6⟩ := zat_lst hz ht
  obtain ⟨rfl, rfl⟩ := zLs_inj e1
  rcases e6 with ⟨rfl, -⟩ | ⟨e6, -⟩
  · refine k (zw mc0) (zw_fit _) p e s m below meth c H ls locs hC (zY_one hY ha (show t ≠ 199 by omega) (zat_objM ?_ (by decide) ?_))
    · intro v hv
      simp only [List.mem_cons, List.not_mem_nil, or_false] at hv
      rcases hv with rfl | rfl | rfl
      · exact zw_fit _
      · exact trivial
      · exact ⟨by decide, by decide⟩
    · show va_at G.2.2.1 vwCl (a, .inr (12, [.int (Int32.ofInt (zw mc0)), .ref G.2.1, .int (Int32.ofInt 0)])) H
      rw [zw_of]
      exact e4
  · omega
theorem zx_lclose0 {a ow : Nat} {mc : Int} (t ow' : Nat) (ha : w.1 a = some (12, ow, [zI mc, zR G.2.1, zI 0])) (ht : 160 ≤ t ∧ t < 190) (k : zX G M d av w0 Q pc L st (zput w a (t, ow', zLs 0 []))) : zX G M d av w0 Q pc L st w := by
  intro p e s m below meth c H ls locs hC hY
  have hz := (hY.2.1.2.2.2.2 a _ ha).1
  refine k p e s m below meth c H ls locs hC (zY_one hY ha (show (12 : Nat) ≠ 199 by decide) (zat_lstM ?_ ht ⟨0, mc, G.2.1, [], fun _ => none, rfl, Nat.le_refl _, by decide, zat_obj hz (by decide), fun i hi => absurd hi (Nat.not_lt_zero _), Or.inl ⟨rfl, rfl⟩⟩))
  intro v hv
  simp only [zLs, List.map_nil, List.mem_singleton] at hv
  subst hv
  exact ⟨by decide, by decide⟩
end ZLIST2
