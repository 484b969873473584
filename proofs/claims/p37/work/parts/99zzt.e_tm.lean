/-! Own rows: types, constructors, terms at the level of the object. By hand. -/
/-- what a call of term tells -/
def tmQ (S : whS) (x : smG) (r : Int ⊕ Nat) (S' : whS) : Prop := (∃ (n : Nat) (tm' : List smG), r = .inl (n : Int) ∧ S' = (S.1, tm', S.2.2) ∧ tm'[n]? = some x ∧ tm'.Nodup ∧ (tm' = S.2.1 ∨ (tm' = S.2.1 ++ [x] ∧ n = S.2.1.length ∧ x ∉ S.2.1 ∧ S.2.1.length < 200))) ∨ (∃ i, i < 5 ∧ r = .inr i ∧ S' = S ∧ 200 ≤ S.2.1.length ∧ x ∉ S.2.1)
theorem tOk_ap {c : Nat} {rows : List (List Int)} {r : List Int} (h : tOk c rows) (hr : r.length = c) : tOk c (rows ++ [r]) := ⟨h.1, fun x hx => by
  rcases List.mem_append.mp hx with k | k
  · exact h.2 x k
  · have e : x = r := by simpa using k
    rw [e]
    exact hr⟩
theorem tmFp_n {C N : List (List Int)} {c i x : Int} (h : tmTy C c i = -1) (e : x = 0) : tmFp C N c i x := by
  show (if tmTy C c i = -1 then x = 0 else tg C (tg N x 0) 0 = tmTy C c i)
  rw [if_pos h]
  exact e
section TMS
variable {G : zG} {d : Nat} {w : zW} {o k1 k2 : Nat} {ty : Int} {C : List (List Int)} {tm : List smG} {R : pgR} {comp asked sum : Int} {La : whL}
theorem w_ty (h : whW w o k1 k2 ((ty, C), tm, R, (comp, asked, sum), La)) (hst0 : G.1.stackTraces = false) (hr : w.2.1 + 100 ≤ G.2.2.2.2.1 ∧ w.2.2 + 1000 ≤ G.2.2.2.2.2) (hty : ty = 0) (hc : comp = 0) : zM G zm_X11_addType (d + 3) [zR o] w (fwQ w o k1 k2 (fun r S' => r = .inl 0 ∧ S' = ((1, C), tm, R, (comp, asked, sum), La))) := by
  obtain ⟨A, T, Sp, M, B, hW, h1, h2⟩ := id h
  obtain ⟨⟨t, tc, tn, th, tz⟩, pg, ⟨mc, fa, ca, ta⟩, ⟨⟨la, lai, laa, lan⟩, ⟨sp, spi, spa, spn⟩⟩, br, ⟨nd, va, ce, li⟩, ⟨ro, bi, le, wk⟩⟩ := A
  obtain ⟨N, H, Sz⟩ := T
  obtain ⟨ho, -, ⟨hT, htm⟩, ⟨hPg, hQ⟩, -⟩ := id hW
  obtain ⟨ht0, ⟨htc, okTC⟩, ⟨htn, okN⟩, ⟨hth, okH⟩, htz, hSz⟩ := id hT
  subst hty
  refine zM_any (f_at_ok (d := d) ho hT (by decide) hc hst0 (by omega) (by omega)) (fun out w' q => ?_)
  obtain ⟨e1, e2⟩ := q
  have f : zFr [10, 120, 130, 131, 132] w w' := by
    rw [e2]
    exact zFr_put ht0 (by simp)
  refine ⟨.inl 0, _, ⟨rfl, rfl⟩, ⟨⟨_, (N, H, Sz), Sp, M, B, whP_tm (ty := 1) (C := C) f hW ⟨?_, ⟨?_, okTC⟩, ⟨?_, okN⟩, ⟨?_, okH⟩, ?_, hSz⟩ htm, ?_, ?_⟩, zSc_fr f (by decide)⟩, e1⟩
  · rw [e2]
    exact zput_at
  · rw [e2]
    exact zput_tg ht0 htc (by simp)
  · rw [e2]
    exact zput_tg ht0 htn (by simp)
  · rw [e2]
    exact zput_tg ht0 hth (by simp)
  · rw [e2]
    exact zput_tg ht0 htz (by simp)
  · rw [e2]
    exact h1
  · rw [e2]
    exact h2
theorem w_ac (h : whW w o k1 k2 ((ty, C), tm, R, (comp, asked, sum), La)) (hst0 : G.1.stackTraces = false) (hr : w.2.1 + 100 ≤ G.2.2.2.2.1 ∧ w.2.2 + 1000 ≤ G.2.2.2.2.2) (hty : ty = 1) (hc : comp = 0) (hl : C.length < 10) (f : Int) (hf : f = -1 ∨ f = 0) : zM G zm_X11_addConstructor (d + 4) [zR o, zI 0, zI f, zI (-1)] w (fwQ w o k1 k2 (fun r S' => r = .inl (C.length : Int) ∧ S' = ((1, C ++ [[0, f, -1]]), tm, R, (comp, asked, sum), La))) := by
  obtain ⟨A, T, Sp, M, B, hW, h1, h2⟩ := id h
  obtain ⟨⟨t, tc, tn, th, tz⟩, pg, ⟨mc, fa, ca, ta⟩, ⟨⟨la, lai, laa, lan⟩, ⟨sp, spi, spa, spn⟩⟩, br, ⟨nd, va, ce, li⟩, ⟨ro, bi, le, wk⟩⟩ := A
  obtain ⟨N, H, Sz⟩ := T
  obtain ⟨ho, -, ⟨hT, htm⟩, ⟨hPg, hQ⟩, -⟩ := id hW
  obtain ⟨ht0, ⟨htc, okTC⟩, ⟨htn, okN⟩, ⟨hth, okH⟩, htz, hSz⟩ := id hT
  subst hty
  refine zM_any (f_ac_ok (d := d) ho hT 0 f (-1) (by decide) (by omega) (Or.inl rfl) (fun _ => rfl) hl hc hst0 (by omega) (by omega)) (fun out w' q => ?_)
  obtain ⟨e1, e2⟩ := q
  have fr : zFr [10, 120, 130, 131, 132] w w' := by
    rw [e2]
    exact zFr_put htc (by simp)
  refine ⟨.inl (C.length : Int), _, ⟨rfl, rfl⟩, ⟨⟨_, (N, H, Sz), Sp, M, B, whP_tm (ty := 1) (C := C ++ [[0, f, -1]]) fr hW ⟨?_, ⟨?_, tOk_ap okTC rfl⟩, ⟨?_, okN⟩, ⟨?_, okH⟩, ?_, hSz⟩ htm, ?_, ?_⟩, zSc_fr fr (by decide)⟩, e1⟩
  · rw [e2]
    exact zput_tg htc ht0 (by simp)
  · rw [e2]
    exact zput_at
  · rw [e2]
    exact zput_tg htc htn (by simp)
  · rw [e2]
    exact zput_tg htc hth (by simp)
  · rw [e2]
    exact zput_tg htc htz (by simp)
  · rw [e2]
    exact h1
  · rw [e2]
    exact h2
theorem w_tm (h : whW w o k1 k2 ((ty, C), tm, R, (comp, asked, sum), La)) (hst0 : G.1.stackTraces = false) (hr : w.2.1 + 100 ≤ G.2.2.2.2.1 ∧ w.2.2 + 1000 ≤ G.2.2.2.2.2) (hC : C = C3) {c f : Nat} {y : smG} (hc : c < 3) (h1 : c = 1 → tm[f]? = some y) (h0 : c ≠ 1 → f = 0) : zM G zm_X11_term (d + 4) [zR o, zI (c : Int), zI (f : Int), zI 0] w (fwQ w o (k1 + 60) (k2 + 6) (tmQ ((ty, C), tm, R, (comp, asked, sum), La) (smB c y))) := by
  obtain ⟨A, T, Sp, M, B, hW, r1, r2⟩ := id h
  obtain ⟨⟨t, tc, tn, th, tz⟩, pg, ⟨mc, fa, ca, ta⟩, ⟨⟨la, lai, laa, lan⟩, ⟨sp, spi, spa, spn⟩⟩, br, ⟨nd, va, ce, li⟩, ⟨ro, bi, le, wk⟩⟩ := A
  obtain ⟨N, H, Sz⟩ := T
  obtain ⟨ho, -, ⟨hT, htm⟩, ⟨hPg, hQ⟩, -⟩ := id hW
  obtain ⟨ht0, ⟨htc, okTC⟩, ⟨htn, okN⟩, ⟨hth, okH⟩, htz, hSz⟩ := id hT
  subst hC
  have hNl := htm.2.1
  have hnd := htm.2.2.1
  have hpc := tmPc3 hc
  have hcl : 0 ≤ (c : Int) ∧ (c : Int) < (C3.length : Int) := ⟨Int.natCast_nonneg c, by show (c : Int) < 3; omega⟩
  have hp : (tmPc C3 (c : Int) < 1 ∨ (0 ≤ (f : Int) ∧ (f : Int) < (N.length : Int))) ∧ (tmPc C3 (c : Int) < 2 ∨ (0 ≤ (0 : Int) ∧ (0 : Int) < (N.length : Int))) := by
    rw [hpc]
    by_cases e : c = 1
    · have hlt := (List.getElem?_eq_some_iff.mp (h1 e)).1
      rw [if_pos e]
      exact ⟨Or.inr ⟨Int.natCast_nonneg f, by omega⟩, Or.inl (by decide)⟩
    · rw [if_neg e]
      exact ⟨Or.inl (by decide), Or.inl (by decide)⟩
  have hf : tmFp C3 N (c : Int) 0 (f : Int) ∧ tmFp C3 N (c : Int) 1 0 := by
    rcases (show c = 0 ∨ c = 1 ∨ c = 2 by omega) with e | e | e
    · subst e
      rw [h0 (by decide)]
      exact ⟨tmFp_n (by decide) rfl, tmFp_n (by decide) rfl⟩
    · subst e
      obtain ⟨a02, ⟨ff, nx, q1, -⟩, -⟩ := htm.2.2.2.2.2 f y (h1 rfl)
      have e0 : tg N (f : Int) 0 = (smHd y : Int) := tg_at (j := 0) q1
      refine ⟨?_, tmFp_n (by decide) rfl⟩
      show (if tmTy C3 ((1 : Nat) : Int) 0 = -1 then (f : Int) = 0 else tg C3 (tg N (f : Int) 0) 0 = tmTy C3 ((1 : Nat) : Int) 0)
      rw [if_neg (by decide), e0]
      have h3 : smHd y = 0 ∨ smHd y = 1 ∨ smHd y = 2 := by
        unfold smHd
        split
        · rcases a02 with e | e
          · exact Or.inl e
          · exact Or.inr (Or.inr e)
        · exact Or.inr (Or.inl rfl)
      rcases h3 with e | e | e <;> rw [e] <;> decide
    · subst e
      rw [h0 (by decide)]
      exact ⟨tmFp_n (by decide) rfl, tmFp_n (by decide) rfl⟩
  rcases tm_find htm h1 h0 with ⟨hfd, hx⟩ | ⟨n, hfd, hx⟩
  · by_cases hl : tm.length < 200
    · refine zM_any (f_tm_new (d := d) ho hT (c : Int) (f : Int) 0 hcl hp hf hfd (by omega) hst0 (by omega) (by omega)) (fun out w' q => ?_)
      obtain ⟨e1, e2⟩ := q
      have hth1 := zput_tg (ob := (131, t, tTb 4 800 (N ++ [[(c : Int), (f : Int), 0, tg H (tmCh (c : Int) (f : Int) 0) 0]]))) htn hth (by simp)
      have htz1 := zput_tg (ob := (131, t, tTb 4 800 (N ++ [[(c : Int), (f : Int), 0, tg H (tmCh (c : Int) (f : Int) 0) 0]]))) htn htz (by simp)
      have htz2 := zput_tg (ob := (132, t, tTb 1 64 (ts H (tmCh (c : Int) (f : Int) 0) 0 (N.length : Int)))) hth1 htz1 (by simp)
      have ht01 := zput_tg (ob := (131, t, tTb 4 800 (N ++ [[(c : Int), (f : Int), 0, tg H (tmCh (c : Int) (f : Int) 0) 0]]))) htn ht0 (by simp)
      have ht02 := zput_tg (ob := (132, t, tTb 1 64 (ts H (tmCh (c : Int) (f : Int) 0) 0 (N.length : Int)))) hth1 ht01 (by simp)
      have htc1 := zput_tg (ob := (131, t, tTb 4 800 (N ++ [[(c : Int), (f : Int), 0, tg H (tmCh (c : Int) (f : Int) 0) 0]]))) htn htc (by simp)
      have htc2 := zput_tg (ob := (132, t, tTb 1 64 (ts H (tmCh (c : Int) (f : Int) 0) 0 (N.length : Int)))) hth1 htc1 (by simp)
      have htn2 : (zput (zput w tn (131, t, tTb 4 800 (N ++ [[(c : Int), (f : Int), 0, tg H (tmCh (c : Int) (f : Int) 0) 0]]))) th (132, t, tTb 1 64 (ts H (tmCh (c : Int) (f : Int) 0) 0 (N.length : Int)))).1 tn = some (131, t, tTb 4 800 (N ++ [[(c : Int), (f : Int), 0, tg H (tmCh (c : Int) (f : Int) 0) 0]])) := zput_tg hth1 zput_at (by simp)
      have fr : zFr [10, 120, 130, 131, 132] w w' := by
        rw [e2]
        exact zFr_tr (zFr_put htn (by simp)) (zFr_tr (zFr_put hth1 (by simp)) (zFr_put htz2 (by simp)))
      have hS2 : (Sz.set N.length (tmNs C3 Sz (c : Int) (f : Int) 0)).length = 200 := by rw [List.length_set]; exact hSz
      have htm' := tm_new htm hc h1 h0 hx hl
      refine ⟨.inl (N.length : Int), _, Or.inl ⟨tm.length, tm ++ [smB c y], by rw [hNl], rfl, by rw [List.getElem?_append_right (Nat.le_refl _), Nat.sub_self]; rfl, htm'.2.2.1, Or.inr ⟨rfl, rfl, hx, hl⟩⟩, ⟨⟨_, (_, _, _), Sp, M, B, whP_tm (ty := ty) (C := C3) fr hW ⟨?_, ⟨?_, okTC⟩, ⟨?_, tOk_ap okN rfl⟩, ⟨?_, tOk_ts okH⟩, ?_, hS2⟩ htm', ?_, ?_⟩, zSc_fr fr (by decide)⟩, e1⟩
      · rw [e2]
        exact zput_tg htz2 ht02 (by simp)
      · rw [e2]
        exact zput_tg htz2 htc2 (by simp)
      · rw [e2]
        exact zput_tg htz2 htn2 (by simp)
      · rw [e2]
        exact zput_tg htz2 zput_at (by simp)
      · rw [e2]
        exact zput_at
      · rw [e2]
        show 60 * w.2.1 ≤ _
        omega
      · rw [e2]
        show w.2.2 ≤ _
        omega
    · refine zM_any (f_tm_x2 (d := d) ho hT (c : Int) (f : Int) 0 hcl hp hf hfd (by omega) hst0 (by omega) (by omega)) (fun out w' q => ?_)
      exact ⟨.inr 2, _, Or.inr ⟨2, by decide, rfl, rfl, by show 200 ≤ tm.length; omega, hx⟩, ⟨whW_x (i := 2) h ⟨rfl, q.2⟩, zSc_eq q.2.1⟩, by decide, q.1⟩
  · refine zM_any (f_tm_old (d := d) ho hT (c : Int) (f : Int) 0 hcl hp hf hfd (Int.natCast_nonneg n) hst0 (by omega) (by omega)) (fun out w' q => ?_)
    obtain ⟨e1, e2⟩ := q
    rw [e2]
    exact ⟨.inl (n : Int), _, Or.inl ⟨n, tm, rfl, rfl, hx, hnd, Or.inl rfl⟩, ⟨whW_le h (by omega) (by omega), zSc_re⟩, e1⟩
end TMS
