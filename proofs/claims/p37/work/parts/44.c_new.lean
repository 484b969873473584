/-! Own rows: newPredicate. Walked by program (wip/p37/m_new.py). -/
def pgNP (R : pgR) (p : Nat) (f s t : Int) : pgR := (R.1, (lCap R.2.1.1 R.2.2.1.1, R.2.1.2), (R.2.2.1.1 ++ [p], R.2.2.1.2), (fun y => if y = p then (((R.2.2.1.1.length : Int), p + 1, p + 3, p + 4, p + 5), prT f s t, (0, []), (0, [])) else R.2.2.2.1 y), R.2.2.2.2)
theorem pgW_newP {w w' : zW} {pg p : Nat} {R : pgR} {f s t : Int} (hP : pgW w pg R) (hp : ∀ ob, w.1 p ≠ some ob) (hfr : ∀ b ob, b ≠ R.1.1 → w.1 b = some ob → w'.1 b = some ob) (hl : w'.1 R.1.1 = some (160, pg, zLs (lCap R.2.1.1 R.2.2.1.1) (R.2.2.1.1 ++ [p]))) (hn : prW w' p (((R.2.2.1.1.length : Int), p + 1, p + 3, p + 4, p + 5), prT f s t, (0, []), (0, []))) : pgW w' pg (pgNP R p f s t) := by
  obtain ⟨hpg, hps, hms, hcs, hPr, hMo, hCl⟩ := hP
  have fr : ∀ a ob, w.1 a = some ob → ob.1 ≠ 160 → w'.1 a = some ob := fun a ob ha hn => hfr a ob (fun e => by rw [e, hps] at ha; cases ha; exact hn rfl) ha
  refine ⟨fr _ _ hpg (by simp), hl, fr _ _ hms (by simp), fr _ _ hcs (by simp), ?_, ?_, ?_⟩
  · intro z hz
    rcases List.mem_append.mp (show z ∈ R.2.2.1.1 ++ [p] from hz) with h | h
    · obtain ⟨⟨a1, ⟨a2, a3⟩, a4, a5⟩, b⟩ := hPr z h
      have e : z ≠ p := fun e => hp _ (by rw [← e]; exact a1)
      have e2 : (pgNP R p f s t).2.2.2.1 z = R.2.2.2.1 z := if_neg e
      rw [e2]
      exact ⟨⟨fr _ _ a1 (by simp), ⟨fr _ _ a2 (by simp), a3⟩, fr _ _ a4 (by simp), fr _ _ a5 (by simp)⟩, b⟩
    · have e : z = p := by simpa using h
      subst e
      have e2 : (pgNP R z f s t).2.2.2.1 z = (((R.2.2.1.1.length : Int), z + 1, z + 3, z + 4, z + 5), prT f s t, (0, []), (0, [])) := if_pos rfl
      rw [e2]
      exact ⟨hn, (fun _ h => by cases h), (fun _ h => by cases h), by simp⟩
  · intro z hz
    exact fr _ _ (hMo z hz) (by simp)
  · intro z hz
    obtain ⟨a, b⟩ := hCl z hz
    obtain ⟨a0, ⟨a1, a2⟩, a3, ⟨a4, a5⟩, ⟨a6, a7⟩, ⟨a8, a9⟩, ⟨a10, a11⟩, ⟨a12, a13⟩⟩ := a
    refine ⟨⟨fr _ _ a0 (by simp), ⟨fr _ _ a1 (by simp), a2⟩, fr _ _ a3 (by simp), ⟨fr _ _ a4 (by simp), a5⟩, ⟨fr _ _ a6 (by simp), a7⟩, ⟨fr _ _ a8 (by simp), a9⟩, ⟨fr _ _ a10 (by simp), a11⟩, ⟨fr _ _ a12 (by simp), a13⟩⟩, fun g hg => ?_⟩
    obtain ⟨g1, g2, g3⟩ := b g hg
    exact ⟨fr _ _ g1 (by simp), fr _ _ g2 (by simp), g3⟩
section CNEW
variable {G : zG} {d : Nat} {w : zW} {pg : Nat} {R : pgR}
theorem c_X7_newPredicate (hP : pgW w pg R) (h0c : R.2.2.1.1 = [] → R.2.1.1 = 0) (hcp : R.2.2.1.1.length ≤ R.2.1.1) (hl20 : R.2.2.1.1.length < 20000) (r1 : w.2.1 + 8 ≤ G.2.2.2.2.1) (r2 : w.2.2 + (34 + R.2.1.1 + R.2.1.1 / 2) ≤ G.2.2.2.2.2) (f0 s0 t0 : Int) : zM G zm_X7_newPredicate (d + 6) [zR pg, zI f0, zI s0, zI t0] w (zVal fun v w' => v = zI (R.2.2.1.1.length : Int) ∧ pgW w' pg (pgNP R w.2.1 f0 s0 t0) ∧ w'.1 (w.2.1 + 5) = some (3, 0, [zI 2, zI (R.2.2.1.1.length : Int), zI ((prT f0 s0 t0).length : Int), zR (w.2.1 + 6)]) ∧ w'.1 (w.2.1 + 6) = some (100, w.2.1 + 5, [zI 0, zI 1, zI 2]) ∧ (∀ b ob, b ≠ R.1.1 → w.1 b = some ob → w'.1 b = some ob) ∧ w.2.1 ≤ w'.2.1 ∧ w'.2.1 ≤ w.2.1 + 8 ∧ w.2.2 ≤ w'.2.2 ∧ w'.2.2 ≤ w.2.2 + (34 + R.2.1.1 + R.2.1.1 / 2)) := by
  refine zx_ent (by decide +kernel) rfl (Nat.le_of_ble_eq_true rfl) ?_
  refine zx_ok (fun ok0 => ?_)
  obtain ⟨hpg, hps, hms, hcs, hPr, hMo, hCl⟩ := id hP
  refine zx_L (L1 := [some (zR pg), some (zI f0), some (zI s0), some (zI t0)]) rfl ?_
  refine zx_aload_n (i := 0) dX7_newPredicate_0 rfl rfl ?_
  refine zx_getfield dX7_newPredicate_1 zf_X7_12 hpg rfl ?_
  refine zx_ok (fun ok_1 => ?_)
  refine zx_new dX7_newPredicate_4 zn_X7_32 (by omega) (by omega) ?_
  obtain ⟨w_2, hw_3⟩ : ∃ ww, ww = znew w (6, 0, [zI 0, zN, zN, zN, zN]) 5 := ⟨_, rfl⟩
  obtain ⟨a_4, ha_5⟩ : ∃ ww, ww = w.2.1 := ⟨_, rfl⟩
  rw [← hw_3, ← ha_5]
  have q_6 : w_2.2.1 = w.2.1 + 1 ∧ w_2.2.2 = w.2.2 + 5 := by rw [hw_3]; exact ⟨rfl, rfl⟩
  have h_7 : w_2.1 a_4 = some (6, 0, [zI 0, zN, zN, zN, zN]) := by rw [hw_3, ha_5]; exact znew_at
  refine zx_dup dX7_newPredicate_7 (fun a h => by cases h) ?_
  refine zx_aload_n (i := 0) dX7_newPredicate_8 rfl rfl ?_
  have h_8 : w_2.1 pg = some (7, 0, [zR R.1.1, zR R.1.2.1, zR R.1.2.2]) := by
    rw [hw_3]; exact znew_to (ok_1 _ _ hpg) hpg
  refine zx_getfield dX7_newPredicate_9 zf_X7_12 h_8 rfl ?_
  have h_9 : w_2.1 R.1.1 = some (160, pg, zLs R.2.1.1 R.2.2.1.1) := by
    rw [hw_3]; exact znew_to (ok_1 _ _ hps) hps
  refine zx_iv (b := R.1.1) (As := []) (st := [zR a_4, zR a_4, zR R.1.1]) (v := (some (zI (R.2.2.1.1.length : Int)))) (w1 := w_2) dX7_newPredicate_12 zc_X7_24 h_9 (z_cls12 (by decide)) rfl rfl (Nat.le_of_ble_eq_true rfl) rfl (c_list_size h_9 (by decide)) ?_
  refine zx_st (st1 := [zI (R.2.2.1.1.length : Int), zR a_4, zR a_4, zR R.1.1]) rfl ?_
  refine zx_iload_n (i := 1) dX7_newPredicate_15 rfl rfl ?_
  refine zx_iload_n (i := 2) dX7_newPredicate_16 rfl rfl ?_
  refine zx_iload_n (i := 3) dX7_newPredicate_17 rfl rfl ?_
  refine zx_icN (b := a_4) (As := [zI (R.2.2.1.1.length : Int), zI f0, zI s0, zI t0]) (st := [zR a_4, zR R.1.1]) dX7_newPredicate_18 zc_X7_44 rfl (Nat.le_of_ble_eq_true rfl) rfl (c_X6_init h_7 (by omega) (by omega) _ _ _ _) (fun w2 hq => ?_)
  obtain ⟨e0, ⟨e1, e2⟩, e3, e4, e5, e6, e7, e8, e9⟩ := hq
  have hyl : lEl w2 a_4 := lEl6 e0
  have hys1 : ∀ z ∈ R.2.2.1.1, lEl w2 z := fun z hz => by
    obtain ⟨⟨h, -⟩, -⟩ := hPr z hz
    have h2 := ok0 _ _ h
    have h3 := znew_to (ob := (6, 0, [zI 0, zN, zN, zN, zN])) (n := 5) h2 h
    rw [← hw_3] at h3
    exact lEl6 (e9 _ _ (by omega) h3)
  refine zx_pc (pc1 := 21) rfl ?_
  have h_10 : w2.1 R.1.1 = some (160, pg, zLs R.2.1.1 R.2.2.1.1) := e9 _ _ (zne_tg h_7 h_9 (by simp)) h_9
  refine zx_ok (fun ok_11 => ?_)
  obtain ⟨w_12, hw_13⟩ : ∃ ww, ww = lAw w2 R.1.1 160 pg R.2.1.1 R.2.2.1.1 a_4 := ⟨_, rfl⟩
  have h_14 : w_12.1 R.1.1 = some (160, pg, zLs (lCap R.2.1.1 R.2.2.1.1) (R.2.2.1.1 ++ [a_4])) := by rw [hw_13]; exact lAw_at
  refine zx_iv (b := R.1.1) (As := [zR a_4]) (st := []) (v := (some (zI 1))) (w1 := w_12) dX7_newPredicate_21 zc_X7_47 h_10 (z_cls12 (by decide)) rfl rfl (Nat.le_of_ble_eq_true rfl) rfl (by rw [hw_13]; exact (c_list_add h_10 (by decide) h0c hcp hl20 hyl hys1 (Or.inr ⟨by omega, by omega⟩))) ?_
  refine zx_st (st1 := [zI 1]) rfl ?_
  refine zx_pop dX7_newPredicate_24 (fun a h => by cases h) ?_
  refine zx_aload_n (i := 0) dX7_newPredicate_25 rfl rfl ?_
  have h_15 : w2.1 pg = some (7, 0, [zR R.1.1, zR R.1.2.1, zR R.1.2.2]) := e9 _ _ (zne_tg h_7 h_8 (by simp)) h_8
  have h_16 : w_12.1 pg = some (7, 0, [zR R.1.1, zR R.1.2.1, zR R.1.2.2]) := by
    rw [hw_13]; exact (lAw_to ok_11 (zne_tg h_10 h_15 (by simp)) h_15)
  refine zx_getfield dX7_newPredicate_26 zf_X7_12 h_16 rfl ?_
  refine zx_iv (b := R.1.1) (As := []) (st := []) (v := (some (zI ((R.2.2.1.1 ++ [a_4]).length : Int)))) (w1 := w_12) dX7_newPredicate_29 zc_X7_24 h_14 (z_cls12 (by decide)) rfl rfl (Nat.le_of_ble_eq_true rfl) rfl (c_list_size h_14 (by decide)) ?_
  refine zx_st (st1 := [zI ((R.2.2.1.1 ++ [a_4]).length : Int)]) rfl ?_
  refine zx_iconst (v := 1) dX7_newPredicate_32 rfl (z32_lit (by decide) (by decide)) ?_
  refine zx_isub (v := (R.2.2.1.1.length : Int)) dX7_newPredicate_33 (zw_eq (by simp) (by omega) (by omega)) ?_
  refine zx_iret dX7_newPredicate_34 rfl ?_
  have hv : zI (R.2.2.1.1.length : Int) = zI (R.2.2.1.1.length : Int) := rfl
  have ead : a_4 = w.2.1 := by omega
  have hlz := lAw_sz (w := w2) (a := R.1.1) (t := 160) (ow := pg) (cap := R.2.1.1) (y := a_4) (ys := R.2.2.1.1)
  rw [← hw_13] at hlz
  have hL : ∀ b ob, b ≠ R.1.1 → w2.1 b = some ob → w_12.1 b = some ob := fun b ob hb h => by
    rw [hw_13]
    exact lAw_to ok_11 hb h
  have hpsl := ok0 _ _ hps
  have hfr : ∀ b ob, b ≠ R.1.1 → w.1 b = some ob → w_12.1 b = some ob := fun b ob hb h => by
    have h2 := ok0 _ _ h
    have h3 := znew_to (ob := (6, 0, [zI 0, zN, zN, zN, zN])) (n := 5) h2 h
    rw [← hw_3] at h3
    exact hL b ob hb (e9 b ob (by omega) h3)
  have ew : w_2.2.1 = a_4 + 1 := by omega
  rw [ew] at e0 e1 e3 e4 e5 e6
  refine ⟨_, rfl, rfl, ?_, hL _ _ (by omega) e5, hL _ _ (by omega) e6, hfr, by omega, by omega, by omega, by omega⟩
  refine pgW_newP hP (fun ob h => by have := ok0 _ _ h; omega) hfr ?_ ⟨hL a_4 _ (by omega) e0, ⟨hL (a_4 + 1) _ (by omega) e1, e2⟩, hL (a_4 + 3) _ (by omega) e3, hL (a_4 + 4) _ (by omega) e4⟩
  exact h_14
end CNEW
