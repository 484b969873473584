/-! Own rows: newClause. Walked by program (wip/p37/m_newc.py). -/
def pgNC (R : pgR) (pr c : Nat) (r : clR) : pgR := (R.1, (R.2.1.1, R.2.1.2.1, lCap R.2.1.2.2 R.2.2.1.2.2), (R.2.2.1.1, R.2.2.1.2.1, R.2.2.1.2.2 ++ [c]), (fun z => if z = pr then ((R.2.2.2.1 pr).1, (R.2.2.2.1 pr).2.1, (R.2.2.2.1 pr).2.2.1, (lCap (R.2.2.2.1 pr).2.2.2.1 (R.2.2.2.1 pr).2.2.2.2, (R.2.2.2.1 pr).2.2.2.2 ++ [c])) else R.2.2.2.1 z), R.2.2.2.2.1, (fun z => if z = c then r else R.2.2.2.2.2.1 z), R.2.2.2.2.2.2)
def clN (n : Int) (pr c : Nat) (T : List (List Int)) : clR := ((n, pr), (c + 1, c + 3, c + 4, c + 5, c + 6, c + 7, c + 8), crow T 8, (0, []), (List.replicate 2 0, List.replicate 10 0, List.replicate 10 0), (List.replicate 10 none, List.replicate 10 none))
theorem pgW_newC {w w' : zW} {pg pr c : Nat} {R : pgR} {r : clR} (hP : pgW w pg R) (hpr : pr ∈ R.2.2.1.1) (hy : ∀ ob, w.1 c ≠ some ob) (hr : r.2.2.2.1.2 = []) (hfr : ∀ b ob, b ≠ R.1.2.2 → b ≠ (R.2.2.2.1 pr).1.2.2.2.1 → w.1 b = some ob → w'.1 b = some ob) (h1 : w'.1 R.1.2.2 = some (162, pg, zLs (lCap R.2.1.2.2 R.2.2.1.2.2) (R.2.2.1.2.2 ++ [c]))) (h2 : w'.1 (R.2.2.2.1 pr).1.2.2.2.1 = some (164, pr, zLs (lCap (R.2.2.2.1 pr).2.2.2.1 (R.2.2.2.1 pr).2.2.2.2) ((R.2.2.2.1 pr).2.2.2.2 ++ [c]))) (h3 : clV w' c r) : pgW w' pg (pgNC R pr c r) := by
  obtain ⟨hpg, hps, hms, hcs, hPr, hMo, hCl⟩ := hP
  have hml := (hPr pr hpr).1.2.2.2
  have fr : ∀ a ob, w.1 a = some ob → ob.1 ≠ 162 → ¬ (ob.1 = 164 ∧ ob.2.1 = pr) → w'.1 a = some ob := fun a ob ha hn hn2 => hfr a ob (fun e => by rw [e, hcs] at ha; cases ha; exact hn rfl) (fun e => by rw [e, hml] at ha; cases ha; exact hn2 ⟨rfl, rfl⟩) ha
  refine ⟨fr _ _ hpg (by simp) (by simp), fr _ _ hps (by simp) (by simp), fr _ _ hms (by simp) (by simp), h1, ?_, ?_, ?_⟩
  · intro z hz
    obtain ⟨⟨a1, ⟨a2, a3⟩, a4, a5⟩, b1, b2, b3⟩ := hPr z hz
    by_cases e : z = pr
    · subst e
      have e2 : (pgNC R z c r).2.2.2.1 z = ((R.2.2.2.1 z).1, (R.2.2.2.1 z).2.1, (R.2.2.2.1 z).2.2.1, (lCap (R.2.2.2.1 z).2.2.2.1 (R.2.2.2.1 z).2.2.2.2, (R.2.2.2.1 z).2.2.2.2 ++ [c])) := if_pos rfl
      rw [e2]
      refine ⟨⟨fr _ _ a1 (by simp) (by simp), ⟨fr _ _ a2 (by simp) (by simp), a3⟩, fr _ _ a4 (by simp) (by simp), h2⟩, b1, ?_, b3⟩
      intro x hx
      rcases List.mem_append.mp hx with h | h
      · exact List.mem_append_left _ (b2 x h)
      · exact List.mem_append_right _ h
    · have e2 : (pgNC R pr c r).2.2.2.1 z = R.2.2.2.1 z := if_neg e
      rw [e2]
      exact ⟨⟨fr _ _ a1 (by simp) (by simp), ⟨fr _ _ a2 (by simp) (by simp), a3⟩, fr _ _ a4 (by simp) (by simp), fr _ _ a5 (by simp) (by simp [e])⟩, b1, (fun x hx => List.mem_append_left _ (b2 x hx)), b3⟩
  · intro z hz
    exact fr _ _ (hMo z hz) (by simp) (by simp)
  · intro z hz
    rcases List.mem_append.mp (show z ∈ R.2.2.1.2.2 ++ [c] from hz) with h | h
    · obtain ⟨a, b⟩ := hCl z h
      obtain ⟨a0, ⟨a1, a2⟩, a3, ⟨a4, a5⟩, ⟨a6, a7⟩, ⟨a8, a9⟩, ⟨a10, a11⟩, ⟨a12, a13⟩⟩ := a
      have e : z ≠ c := fun e => hy _ (by rw [← e]; exact a0)
      have e2 : (pgNC R pr c r).2.2.2.2.2.1 z = R.2.2.2.2.2.1 z := if_neg e
      rw [e2]
      refine ⟨⟨fr _ _ a0 (by simp) (by simp), ⟨fr _ _ a1 (by simp) (by simp), a2⟩, fr _ _ a3 (by simp) (by simp), ⟨fr _ _ a4 (by simp) (by simp), a5⟩, ⟨fr _ _ a6 (by simp) (by simp), a7⟩, ⟨fr _ _ a8 (by simp) (by simp), a9⟩, ⟨fr _ _ a10 (by simp) (by simp), a11⟩, ⟨fr _ _ a12 (by simp) (by simp), a13⟩⟩, fun g hg => ?_⟩
      obtain ⟨g1, g2, g3⟩ := b g hg
      exact ⟨fr _ _ g1 (by simp) (by simp), fr _ _ g2 (by simp) (by simp), g3⟩
    · have e : z = c := by simpa using h
      subst e
      have e2 : (pgNC R pr z r).2.2.2.2.2.1 z = r := if_pos rfl
      rw [e2]
      exact ⟨h3, fun g hg => by rw [hr] at hg; cases hg⟩
section CNEWC
variable {G : zG} {d : Nat} {w : zW} {pg : Nat} {R : pgR}
theorem c_X7_newClause (hP : pgW w pg R) {pr : Nat} (hpr : pr ∈ R.2.2.1.1) (h0a : (R.2.2.2.1 pr).2.2.2.2 = [] → (R.2.2.2.1 pr).2.2.2.1 = 0) (hcpa : (R.2.2.2.1 pr).2.2.2.2.length ≤ (R.2.2.2.1 pr).2.2.2.1) (hl2a : (R.2.2.2.1 pr).2.2.2.2.length < 20000) (h0b : R.2.2.1.2.2 = [] → R.2.1.2.2 = 0) (hcpb : R.2.2.1.2.2.length ≤ R.2.1.2.2) (hl2b : R.2.2.1.2.2.length < 20000) (r1 : w.2.1 + 11 ≤ G.2.2.2.2.1) (r2 : w.2.2 + (85 + R.2.1.2.2 + R.2.1.2.2 / 2 + (R.2.2.2.1 pr).2.2.2.1 + (R.2.2.2.1 pr).2.2.2.1 / 2) ≤ G.2.2.2.2.2) : zM G zm_X7_newClause (d + 6) [zR pg, zR pr] w (zVal fun v w' => v = zI (R.2.2.1.2.2.length : Int) ∧ pgW w' pg (pgNC R pr w.2.1 (clN (R.2.2.1.2.2.length : Int) pr w.2.1 (R.2.2.2.1 pr).2.1)) ∧ (∀ b ob, b ≠ R.1.2.2 → b ≠ (R.2.2.2.1 pr).1.2.2.2.1 → w.1 b = some ob → w'.1 b = some ob) ∧ w.2.1 ≤ w'.2.1 ∧ w'.2.1 ≤ w.2.1 + 11 ∧ w.2.2 ≤ w'.2.2 ∧ w'.2.2 ≤ w.2.2 + (85 + R.2.1.2.2 + R.2.1.2.2 / 2 + (R.2.2.2.1 pr).2.2.2.1 + (R.2.2.2.1 pr).2.2.2.1 / 2)) := by
  refine zx_ent (by decide +kernel) rfl (Nat.le_of_ble_eq_true rfl) ?_
  refine zx_ok (fun ok0 => ?_)
  obtain ⟨hpg, hps, hms, hcs, hPr, hMo, hCl⟩ := id hP
  obtain ⟨⟨hpy, htt, hml, hcl⟩, -, hsubC, -⟩ := hPr pr hpr
  refine zx_L (L1 := [some (zR pg), some (zR pr), none]) rfl ?_
  refine zx_ok (fun ok_1 => ?_)
  refine zx_new dX7_newClause_0 zn_X7_34 (by omega) (by omega) ?_
  obtain ⟨w_2, hw_3⟩ : ∃ ww, ww = znew w (1, 0, [zI 0, zN, zN, zN, zN, zN, zN, zN, zN]) 9 := ⟨_, rfl⟩
  obtain ⟨a_4, ha_5⟩ : ∃ ww, ww = w.2.1 := ⟨_, rfl⟩
  rw [← hw_3, ← ha_5]
  have q_6 : w_2.2.1 = w.2.1 + 1 ∧ w_2.2.2 = w.2.2 + 9 := by rw [hw_3]; exact ⟨rfl, rfl⟩
  have h_7 : w_2.1 a_4 = some (1, 0, [zI 0, zN, zN, zN, zN, zN, zN, zN, zN]) := by rw [hw_3, ha_5]; exact znew_at
  refine zx_dup dX7_newClause_3 (fun a h => by cases h) ?_
  refine zx_aload_n (i := 0) dX7_newClause_4 rfl rfl ?_
  have h_8 : w_2.1 pg = some (7, 0, [zR R.1.1, zR R.1.2.1, zR R.1.2.2]) := by
    rw [hw_3]; exact znew_to (ok_1 _ _ hpg) hpg
  refine zx_getfield dX7_newClause_5 zf_X7_21 h_8 rfl ?_
  have h_9 : w_2.1 R.1.2.2 = some (162, pg, zLs R.2.1.2.2 R.2.2.1.2.2) := by
    rw [hw_3]; exact znew_to (ok_1 _ _ hcs) hcs
  refine zx_iv (b := R.1.2.2) (As := []) (st := [zR a_4, zR a_4]) (v := (some (zI (R.2.2.1.2.2.length : Int)))) (w1 := w_2) dX7_newClause_8 zc_X7_24 h_9 (z_cls12 (by decide)) rfl rfl (Nat.le_of_ble_eq_true rfl) rfl (c_list_size h_9 (by decide)) ?_
  refine zx_st (st1 := [zI (R.2.2.1.2.2.length : Int), zR a_4, zR a_4]) rfl ?_
  refine zx_aload_n (i := 1) dX7_newClause_11 rfl rfl ?_
  have h_10 : w_2.1 pr = some (6, 0, [zI (R.2.2.2.1 pr).1.1, zR (R.2.2.2.1 pr).1.2.1, zR (R.2.2.2.1 pr).1.2.2.1, zR (R.2.2.2.1 pr).1.2.2.2.1, zR (R.2.2.2.1 pr).1.2.2.2.2]) := by
    rw [hw_3]; exact znew_to (ok_1 _ _ hpy) hpy
  have h_11 : w_2.1 ((R.2.2.2.1 pr).1.2.1) = some (134, pr, tTb 1 3 ((R.2.2.2.1 pr).2.1)) := by
    rw [hw_3]; exact znew_to (ok_1 _ _ htt.1) htt.1
  refine zx_icN (b := a_4) (As := [zI (R.2.2.1.2.2.length : Int), zR pr]) (st := [zR a_4]) dX7_newClause_12 zc_X7_61 rfl (Nat.le_of_ble_eq_true rfl) rfl (c_X1_init h_7 h_10 h_11 htt.2 (by omega) (by omega) _) (fun w2 hq => ?_)
  obtain ⟨e0, e7, e8, e9⟩ := hq
  have ew : w_2.2.1 = a_4 + 1 := by omega
  rw [ew] at e0
  have hcl0 : clV w2 a_4 (clN (R.2.2.1.2.2.length : Int) pr a_4 (R.2.2.2.1 pr).2.1) := e0
  have hya : lEl w2 a_4 := lEl1 hcl0.1
  have hyla := hya
  have old : ∀ b ob, w.1 b = some ob → w2.1 b = some ob := fun b ob h => by
    have h2 := ok0 _ _ h
    have h3 := znew_to (ob := (1, 0, [zI 0, zN, zN, zN, zN, zN, zN, zN, zN])) (n := 9) h2 h
    rw [← hw_3] at h3
    exact e9 b ob (by omega) h3
  have holdA : ∀ z, z ∈ R.2.2.1.2.2 → lEl w2 z := fun z hz => lEl1 (old _ _ (hCl z hz).1.1)
  have hysa : ∀ z ∈ (R.2.2.2.1 pr).2.2.2.2, lEl w2 z := fun z hz => holdA z (hsubC z hz)
  refine zx_astore_n (i := 2) dX7_newClause_15 rfl (by decide) rfl ?_
  refine zx_L (L1 := [some (zR pg), some (zR pr), some (zR a_4)]) rfl ?_
  refine zx_aload_n (i := 1) dX7_newClause_16 rfl rfl ?_
  have h_12 : w2.1 pr = some (6, 0, [zI (R.2.2.2.1 pr).1.1, zR (R.2.2.2.1 pr).1.2.1, zR (R.2.2.2.1 pr).1.2.2.1, zR (R.2.2.2.1 pr).1.2.2.2.1, zR (R.2.2.2.1 pr).1.2.2.2.2]) := e9 _ _ (zne_tg h_7 h_10 (by simp)) h_10
  refine zx_getfield dX7_newClause_17 zf_X7_64 h_12 rfl ?_
  have h_13 : w_2.1 ((R.2.2.2.1 pr).1.2.2.2.1) = some (164, pr, zLs (R.2.2.2.1 pr).2.2.2.1 ((R.2.2.2.1 pr).2.2.2.2)) := by
    rw [hw_3]; exact znew_to (ok_1 _ _ hcl) hcl
  have h_14 : w2.1 ((R.2.2.2.1 pr).1.2.2.2.1) = some (164, pr, zLs (R.2.2.2.1 pr).2.2.2.1 ((R.2.2.2.1 pr).2.2.2.2)) := e9 _ _ (zne_tg h_7 h_13 (by simp)) h_13
  refine zx_aload_n (i := 2) dX7_newClause_20 rfl rfl ?_
  refine zx_pc (pc1 := 21) rfl ?_
  refine zx_ok (fun ok_15 => ?_)
  obtain ⟨w_16, hw_17⟩ : ∃ ww, ww = lAw w2 ((R.2.2.2.1 pr).1.2.2.2.1) 164 pr ((R.2.2.2.1 pr).2.2.2.1) ((R.2.2.2.1 pr).2.2.2.2) a_4 := ⟨_, rfl⟩
  have h_18 : w_16.1 ((R.2.2.2.1 pr).1.2.2.2.1) = some (164, pr, zLs (lCap ((R.2.2.2.1 pr).2.2.2.1) ((R.2.2.2.1 pr).2.2.2.2)) (((R.2.2.2.1 pr).2.2.2.2) ++ [a_4])) := by rw [hw_17]; exact lAw_at
  refine zx_iv (b := (R.2.2.2.1 pr).1.2.2.2.1) (As := [zR a_4]) (st := []) (v := (some (zI 1))) (w1 := w_16) dX7_newClause_21 zc_X7_47 h_14 (z_cls12 (by decide)) rfl rfl (Nat.le_of_ble_eq_true rfl) rfl (by rw [hw_17]; exact (c_list_add h_14 (by decide) h0a hcpa hl2a hyla hysa (Or.inr ⟨by omega, by omega⟩))) ?_
  refine zx_st (st1 := [zI 1]) rfl ?_
  refine zx_pop dX7_newClause_24 (fun a h => by cases h) ?_
  refine zx_aload_n (i := 0) dX7_newClause_25 rfl rfl ?_
  have h_19 : w2.1 pg = some (7, 0, [zR R.1.1, zR R.1.2.1, zR R.1.2.2]) := e9 _ _ (zne_tg h_7 h_8 (by simp)) h_8
  have h_20 : w_16.1 pg = some (7, 0, [zR R.1.1, zR R.1.2.1, zR R.1.2.2]) := by
    rw [hw_17]; exact (lAw_to ok_15 (zne_tg h_14 h_19 (by simp)) h_19)
  refine zx_getfield dX7_newClause_26 zf_X7_21 h_20 rfl ?_
  refine zx_aload_n (i := 2) dX7_newClause_29 rfl rfl ?_
  have hlzA := lAw_sz (w := w2) (a := (R.2.2.2.1 pr).1.2.2.2.1) (t := 164) (ow := pr) (cap := (R.2.2.2.1 pr).2.2.2.1) (y := a_4) (ys := (R.2.2.2.1 pr).2.2.2.2)
  rw [← hw_17] at hlzA
  have hmlA := h_14
  have holdB : ∀ z, lEl w2 z → lEl w_16 z := fun z hz => by
    have hne := lEl_ne hz hmlA (by omega)
    obtain ⟨cq, oq, fq, rq, y1, y2, y3, y4⟩ := hz
    exact ⟨cq, oq, fq, rq, by rw [hw_17]; exact lAw_to ok_15 hne y1, y2, y3, y4⟩
  have hylb : lEl w_16 a_4 := holdB _ hya
  have hysb : ∀ z ∈ R.2.2.1.2.2, lEl w_16 z := fun z hz => holdB z (holdA z hz)
  have h_21 : w2.1 R.1.2.2 = some (162, pg, zLs R.2.1.2.2 R.2.2.1.2.2) := e9 _ _ (zne_tg h_7 h_9 (by simp)) h_9
  have h_22 : w_16.1 R.1.2.2 = some (162, pg, zLs R.2.1.2.2 R.2.2.1.2.2) := by
    rw [hw_17]; exact (lAw_to ok_15 (zne_tg h_14 h_21 (by simp)) h_21)
  refine zx_ok (fun ok_23 => ?_)
  obtain ⟨w_24, hw_25⟩ : ∃ ww, ww = lAw w_16 R.1.2.2 162 pg R.2.1.2.2 R.2.2.1.2.2 a_4 := ⟨_, rfl⟩
  have h_26 : w_24.1 R.1.2.2 = some (162, pg, zLs (lCap R.2.1.2.2 R.2.2.1.2.2) (R.2.2.1.2.2 ++ [a_4])) := by rw [hw_25]; exact lAw_at
  refine zx_iv (b := R.1.2.2) (As := [zR a_4]) (st := []) (v := (some (zI 1))) (w1 := w_24) dX7_newClause_30 zc_X7_47 h_22 (z_cls12 (by decide)) rfl rfl (Nat.le_of_ble_eq_true rfl) rfl (by rw [hw_25]; exact (c_list_add h_22 (by decide) h0b hcpb hl2b hylb hysb (Or.inr ⟨by omega, by omega⟩))) ?_
  refine zx_st (st1 := [zI 1]) rfl ?_
  refine zx_pop dX7_newClause_33 (fun a h => by cases h) ?_
  refine zx_aload_n (i := 2) dX7_newClause_34 rfl rfl ?_
  have h_27 : w_16.1 a_4 = some (1, 0, [zI (R.2.2.1.2.2.length : Int), zR pr, zR (a_4 + 1), zR (a_4 + 3), zR (a_4 + 4), zR (a_4 + 5), zR (a_4 + 6), zR (a_4 + 7), zR (a_4 + 8)]) := by
    rw [hw_17]; exact (lAw_to ok_15 (zne_tg h_14 hcl0.1 (by simp)) hcl0.1)
  have h_28 : w_24.1 a_4 = some (1, 0, [zI (R.2.2.1.2.2.length : Int), zR pr, zR (a_4 + 1), zR (a_4 + 3), zR (a_4 + 4), zR (a_4 + 5), zR (a_4 + 6), zR (a_4 + 7), zR (a_4 + 8)]) := by
    rw [hw_25]; exact (lAw_to ok_23 (zne_tg h_22 h_27 (by simp)) h_27)
  refine zx_getfield dX7_newClause_35 zf_X7_65 h_28 rfl ?_
  refine zx_iret dX7_newClause_38 rfl ?_
  have hlzB := lAw_sz (w := w_16) (a := R.1.2.2) (t := 162) (ow := pg) (cap := R.2.1.2.2) (y := a_4) (ys := R.2.2.1.2.2)
  rw [← hw_25] at hlzB
  have hL : ∀ b ob, b ≠ R.1.2.2 → b ≠ (R.2.2.2.1 pr).1.2.2.2.1 → w2.1 b = some ob → w_24.1 b = some ob := fun b ob hb1 hb2 h => by
    rw [hw_25]
    refine lAw_to ok_23 hb1 ?_
    rw [hw_17]
    exact lAw_to ok_15 hb2 h
  have hfr : ∀ b ob, b ≠ R.1.2.2 → b ≠ (R.2.2.2.1 pr).1.2.2.2.1 → w.1 b = some ob → w_24.1 b = some ob := fun b ob hb1 hb2 h => hL b ob hb1 hb2 (old b ob h)
  have l1 := ok0 _ _ hcs
  have l2 := ok0 _ _ hcl
  have hcs2 := old _ _ hcs
  have hcl2 := old _ _ hcl
  have hL2 : ∀ b ob, w2.1 b = some ob → ob.1 ≠ 162 → ob.1 ≠ 164 → w_24.1 b = some ob := fun b ob h n1 n2 => hL b ob (fun e => by rw [e, hcs2] at h; cases h; exact n1 rfl) (fun e => by rw [e, hcl2] at h; cases h; exact n2 rfl) h
  refine ⟨_, rfl, rfl, ?_, hfr, by omega, by omega, by omega, by omega⟩
  obtain ⟨c0, ⟨c1, c2⟩, c3, ⟨c4, c5⟩, ⟨c6, c7⟩, ⟨c8, c9⟩, ⟨c10, c11⟩, ⟨c12, c13⟩⟩ := hcl0
  have h_29 : w_24.1 ((R.2.2.2.1 pr).1.2.2.2.1) = some (164, pr, zLs (lCap ((R.2.2.2.1 pr).2.2.2.1) ((R.2.2.2.1 pr).2.2.2.2)) (((R.2.2.2.1 pr).2.2.2.2) ++ [a_4])) := by
    rw [hw_25]; exact (lAw_to ok_23 (zne_tg h_22 h_18 (by simp)) h_18)
  refine pgW_newC (r := clN (R.2.2.1.2.2.length : Int) pr a_4 (R.2.2.2.1 pr).2.1) hP hpr (fun ob h => by have := ok0 _ _ h; omega) rfl hfr h_26 h_29 ?_
  exact ⟨hL2 _ _ c0 (by simp) (by simp), ⟨hL2 _ _ c1 (by simp) (by simp), c2⟩, hL2 _ _ c3 (by simp) (by simp), ⟨hL2 _ _ c4 (by simp) (by simp), c5⟩, ⟨hL2 _ _ c6 (by simp) (by simp), c7⟩, ⟨hL2 _ _ c8 (by simp) (by simp), c9⟩, ⟨hL2 _ _ c10 (by simp) (by simp), c11⟩, ⟨hL2 _ _ c12 (by simp) (by simp), c13⟩⟩
end CNEWC
