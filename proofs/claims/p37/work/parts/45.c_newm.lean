/-! Own rows: newMode. Walked by program (wip/p37/m_newm.py). -/
def pgNM (R : pgR) (pr y : Nat) (r : moR) : pgR := (R.1, (R.2.1.1, lCap R.2.1.2.1 R.2.2.1.2.1, R.2.1.2.2), (R.2.2.1.1, R.2.2.1.2.1 ++ [y], R.2.2.1.2.2), (fun z => if z = pr then ((R.2.2.2.1 pr).1, (R.2.2.2.1 pr).2.1, (lCap (R.2.2.2.1 pr).2.2.1.1 (R.2.2.2.1 pr).2.2.1.2, (R.2.2.2.1 pr).2.2.1.2 ++ [y]), (R.2.2.2.1 pr).2.2.2) else R.2.2.2.1 z), (fun z => if z = y then r else R.2.2.2.2.1 z), R.2.2.2.2.2)
theorem pgW_newM {w w' : zW} {pg pr y : Nat} {R : pgR} {r : moR} (hP : pgW w pg R) (hpr : pr ∈ R.2.2.1.1) (hy : ∀ ob, w.1 y ≠ some ob) (hlen : (R.2.2.2.1 pr).2.2.1.2.length < 999) (hfr : ∀ b ob, b ≠ R.1.2.1 → b ≠ (R.2.2.2.1 pr).1.2.2.1 → w.1 b = some ob → w'.1 b = some ob) (h1 : w'.1 R.1.2.1 = some (161, pg, zLs (lCap R.2.1.2.1 R.2.2.1.2.1) (R.2.2.1.2.1 ++ [y]))) (h2 : w'.1 (R.2.2.2.1 pr).1.2.2.1 = some (163, pr, zLs (lCap (R.2.2.2.1 pr).2.2.1.1 (R.2.2.2.1 pr).2.2.1.2) ((R.2.2.2.1 pr).2.2.1.2 ++ [y]))) (h3 : moW w' y r) : pgW w' pg (pgNM R pr y r) := by
  obtain ⟨hpg, hps, hms, hcs, hPr, hMo, hCl⟩ := hP
  have hml := (hPr pr hpr).1.2.2.1
  have fr : ∀ a ob, w.1 a = some ob → ob.1 ≠ 161 → ¬ (ob.1 = 163 ∧ ob.2.1 = pr) → w'.1 a = some ob := fun a ob ha hn hn2 => hfr a ob (fun e => by rw [e, hms] at ha; cases ha; exact hn rfl) (fun e => by rw [e, hml] at ha; cases ha; exact hn2 ⟨rfl, rfl⟩) ha
  refine ⟨fr _ _ hpg (by simp) (by simp), fr _ _ hps (by simp) (by simp), h1, fr _ _ hcs (by simp) (by simp), ?_, ?_, ?_⟩
  · intro z hz
    obtain ⟨⟨a1, ⟨a2, a3⟩, a4, a5⟩, b1, b2, b3⟩ := hPr z hz
    by_cases e : z = pr
    · subst e
      have e2 : (pgNM R z y r).2.2.2.1 z = ((R.2.2.2.1 z).1, (R.2.2.2.1 z).2.1, (lCap (R.2.2.2.1 z).2.2.1.1 (R.2.2.2.1 z).2.2.1.2, (R.2.2.2.1 z).2.2.1.2 ++ [y]), (R.2.2.2.1 z).2.2.2) := if_pos rfl
      rw [e2]
      refine ⟨⟨fr _ _ a1 (by simp) (by simp), ⟨fr _ _ a2 (by simp) (by simp), a3⟩, h2, fr _ _ a5 (by simp) (by simp)⟩, ?_, b2, ?_⟩
      · intro x hx
        rcases List.mem_append.mp hx with h | h
        · exact List.mem_append_left _ (b1 x h)
        · exact List.mem_append_right _ h
      · show ((R.2.2.2.1 z).2.2.1.2 ++ [y]).length < 1000
        rw [List.length_append, List.length_singleton]
        omega
    · have e2 : (pgNM R pr y r).2.2.2.1 z = R.2.2.2.1 z := if_neg e
      rw [e2]
      exact ⟨⟨fr _ _ a1 (by simp) (by simp), ⟨fr _ _ a2 (by simp) (by simp), a3⟩, fr _ _ a4 (by simp) (by simp [e]), fr _ _ a5 (by simp) (by simp)⟩, (fun x hx => List.mem_append_left _ (b1 x hx)), b2, b3⟩
  · intro z hz
    rcases List.mem_append.mp (show z ∈ R.2.2.1.2.1 ++ [y] from hz) with h | h
    · have a1 := hMo z h
      have e : z ≠ y := fun e => hy _ (by rw [← e]; exact a1)
      have e2 : (pgNM R pr y r).2.2.2.2.1 z = R.2.2.2.2.1 z := if_neg e
      rw [e2]
      exact fr _ _ a1 (by simp) (by simp)
    · have e : z = y := by simpa using h
      subst e
      have e2 : (pgNM R pr z r).2.2.2.2.1 z = r := if_pos rfl
      rw [e2]
      exact h3
  · intro z hz
    obtain ⟨a, b⟩ := hCl z hz
    obtain ⟨a0, ⟨a1, a2⟩, a3, ⟨a4, a5⟩, ⟨a6, a7⟩, ⟨a8, a9⟩, ⟨a10, a11⟩, ⟨a12, a13⟩⟩ := a
    refine ⟨⟨fr _ _ a0 (by simp) (by simp), ⟨fr _ _ a1 (by simp) (by simp), a2⟩, fr _ _ a3 (by simp) (by simp), ⟨fr _ _ a4 (by simp) (by simp), a5⟩, ⟨fr _ _ a6 (by simp) (by simp), a7⟩, ⟨fr _ _ a8 (by simp) (by simp), a9⟩, ⟨fr _ _ a10 (by simp) (by simp), a11⟩, ⟨fr _ _ a12 (by simp) (by simp), a13⟩⟩, fun g hg => ?_⟩
    obtain ⟨g1, g2, g3⟩ := b g hg
    exact ⟨fr _ _ g1 (by simp) (by simp), fr _ _ g2 (by simp) (by simp), g3⟩
theorem zn_X7_51 : zNI "ModedMill$Program" 51 5 9 [zN, zI 0, zI 0, zI 0, zI 0, zI 0, zI 0, zI 0, zI 0] := ⟨RX5, TX5, tyX5, rfl, by decide, zu_X5, tyX5_ok, zin 5 97 rfl rfl, zin 5 98 rfl rfl, zin 1 35 rfl rfl, fun j hj => by rcases (show j = 0 ∨ j = 1 ∨ j = 2 ∨ j = 3 ∨ j = 4 ∨ j = 5 ∨ j = 6 ∨ j = 7 ∨ j = 8 by omega) with rfl | rfl | rfl | rfl | rfl | rfl | rfl | rfl | rfl <;> rfl, zfit_all (by decide)⟩
theorem zn_X7_34 : zNI "ModedMill$Program" 34 1 9 [zI 0, zN, zN, zN, zN, zN, zN, zN, zN] := ⟨RX1, TX1, tyX1, rfl, by decide, zu_X1, tyX1_ok, zin 5 161 rfl rfl, zin 5 162 rfl rfl, zin 1 36 rfl rfl, fun j hj => by rcases (show j = 0 ∨ j = 1 ∨ j = 2 ∨ j = 3 ∨ j = 4 ∨ j = 5 ∨ j = 6 ∨ j = 7 ∨ j = 8 by omega) with rfl | rfl | rfl | rfl | rfl | rfl | rfl | rfl | rfl <;> rfl, zfit_all (by decide)⟩
section CNEWM
variable {G : zG} {d : Nat} {w : zW} {pg : Nat} {R : pgR}
theorem c_X7_newMode (hP : pgW w pg R) {pr : Nat} (hpr : pr ∈ R.2.2.1.1) (h0a : (R.2.2.2.1 pr).2.2.1.2 = [] → (R.2.2.2.1 pr).2.2.1.1 = 0) (hcpa : (R.2.2.2.1 pr).2.2.1.2.length ≤ (R.2.2.2.1 pr).2.2.1.1) (hlen : (R.2.2.2.1 pr).2.2.1.2.length < 999) (h0b : R.2.2.1.2.1 = [] → R.2.1.2.1 = 0) (hcpb : R.2.2.1.2.1.length ≤ R.2.1.2.1) (hl2b : R.2.2.1.2.1.length < 20000) (r1 : w.2.1 + 3 ≤ G.2.2.2.2.1) (r2 : w.2.2 + (29 + R.2.1.2.1 + R.2.1.2.1 / 2 + (R.2.2.2.1 pr).2.2.1.1 + (R.2.2.2.1 pr).2.2.1.1 / 2) ≤ G.2.2.2.2.2) (ins : Int) (pm : Nat) (hpm : pm < 65536) : zM G zm_X7_newMode (d + 6) [zR pg, zR pr, zI ins, zI (pm : Int)] w (zVal fun v w' => v = zI ((R.2.2.2.1 pr).2.2.1.2.length : Int) ∧ pgW w' pg (pgNM R pr w.2.1 (pr, ((R.2.2.2.1 pr).2.2.1.2.length : Int), ins, (pm : Int), 0, 0, 0, 0, -1)) ∧ (∀ b ob, b ≠ R.1.2.1 → b ≠ (R.2.2.2.1 pr).1.2.2.1 → w.1 b = some ob → w'.1 b = some ob) ∧ w.2.1 ≤ w'.2.1 ∧ w'.2.1 ≤ w.2.1 + 3 ∧ w.2.2 ≤ w'.2.2 ∧ w'.2.2 ≤ w.2.2 + (29 + R.2.1.2.1 + R.2.1.2.1 / 2 + (R.2.2.2.1 pr).2.2.1.1 + (R.2.2.2.1 pr).2.2.1.1 / 2)) := by
  refine zx_ent (by decide +kernel) rfl (Nat.le_of_ble_eq_true rfl) ?_
  refine zx_ok (fun ok0 => ?_)
  obtain ⟨hpg, hps, hms, hcs, hPr, hMo, hCl⟩ := id hP
  obtain ⟨⟨hpy, htt, hml, hcl⟩, hsubM, -, -⟩ := hPr pr hpr
  have hl2a : (R.2.2.2.1 pr).2.2.1.2.length < 20000 := by omega
  refine zx_L (L1 := [some (zR pg), some (zR pr), some (zI ins), some (zI (pm : Int)), none]) rfl ?_
  refine zx_ok (fun ok_1 => ?_)
  refine zx_new dX7_newMode_0 zn_X7_51 (by omega) (by omega) ?_
  obtain ⟨w_2, hw_3⟩ : ∃ ww, ww = znew w (5, 0, [zN, zI 0, zI 0, zI 0, zI 0, zI 0, zI 0, zI 0, zI 0]) 9 := ⟨_, rfl⟩
  obtain ⟨a_4, ha_5⟩ : ∃ ww, ww = w.2.1 := ⟨_, rfl⟩
  rw [← hw_3, ← ha_5]
  have q_6 : w_2.2.1 = w.2.1 + 1 ∧ w_2.2.2 = w.2.2 + 9 := by rw [hw_3]; exact ⟨rfl, rfl⟩
  have h_7 : w_2.1 a_4 = some (5, 0, [zN, zI 0, zI 0, zI 0, zI 0, zI 0, zI 0, zI 0, zI 0]) := by rw [hw_3, ha_5]; exact znew_at
  refine zx_dup dX7_newMode_3 (fun a h => by cases h) ?_
  refine zx_aload_n (i := 1) dX7_newMode_4 rfl rfl ?_
  refine zx_aload_n (i := 1) dX7_newMode_5 rfl rfl ?_
  have h_8 : w_2.1 pr = some (6, 0, [zI (R.2.2.2.1 pr).1.1, zR (R.2.2.2.1 pr).1.2.1, zR (R.2.2.2.1 pr).1.2.2.1, zR (R.2.2.2.1 pr).1.2.2.2.1, zR (R.2.2.2.1 pr).1.2.2.2.2]) := by
    rw [hw_3]; exact znew_to (ok_1 _ _ hpy) hpy
  refine zx_getfield dX7_newMode_6 zf_X7_53 h_8 rfl ?_
  have h_9 : w_2.1 ((R.2.2.2.1 pr).1.2.2.1) = some (163, pr, zLs (R.2.2.2.1 pr).2.2.1.1 ((R.2.2.2.1 pr).2.2.1.2)) := by
    rw [hw_3]; exact znew_to (ok_1 _ _ hml) hml
  refine zx_iv (b := (R.2.2.2.1 pr).1.2.2.1) (As := []) (st := [zR pr, zR a_4, zR a_4]) (v := (some (zI (((R.2.2.2.1 pr).2.2.1.2).length : Int)))) (w1 := w_2) dX7_newMode_9 zc_X7_24 h_9 (z_cls12 (by decide)) rfl rfl (Nat.le_of_ble_eq_true rfl) rfl (c_list_size h_9 (by decide)) ?_
  refine zx_st (st1 := [zI (((R.2.2.2.1 pr).2.2.1.2).length : Int), zR pr, zR a_4, zR a_4]) rfl ?_
  refine zx_iload_n (i := 2) dX7_newMode_12 rfl rfl ?_
  refine zx_iload_n (i := 3) dX7_newMode_13 rfl rfl ?_
  obtain ⟨w_10, hw_11⟩ : ∃ ww, ww = zput w_2 a_4 (5, 0, [zR pr, zI ((R.2.2.2.1 pr).2.2.1.2.length : Int), zI ins, zI (pm : Int), zI 0, zI 0, zI 0, zI 0, zI (-1)]) := ⟨_, rfl⟩
  have q_12 : w_10.2.1 = w_2.2.1 ∧ w_10.2.2 = w_2.2.2 := by rw [hw_11]; exact ⟨rfl, rfl⟩
  have h_13 : w_10.1 a_4 = some (5, 0, [zR pr, zI ((R.2.2.2.1 pr).2.2.1.2.length : Int), zI ins, zI (pm : Int), zI 0, zI 0, zI 0, zI 0, zI (-1)]) := by rw [hw_11]; exact zput_at
  refine zx_ic (b := a_4) (As := [zR pr, zI (((R.2.2.2.1 pr).2.2.1.2).length : Int), zI ins, zI (pm : Int)]) (st := [zR a_4]) (w1 := w_10) dX7_newMode_14 zc_X7_54 rfl (Nat.le_of_ble_eq_true rfl) rfl (by rw [hw_11]; exact (c_X5_init h_7 _ _ pm hpm)) ?_
  refine zx_astore (i := 4) dX7_newMode_17 (by decide) rfl ?_
  refine zx_L (L1 := [some (zR pg), some (zR pr), some (zI ins), some (zI (pm : Int)), some (zR a_4)]) rfl ?_
  refine zx_aload_n (i := 1) dX7_newMode_19 rfl rfl ?_
  refine zx_pc (pc1 := 20) rfl ?_
  have h_14 : w_10.1 pr = some (6, 0, [zI (R.2.2.2.1 pr).1.1, zR (R.2.2.2.1 pr).1.2.1, zR (R.2.2.2.1 pr).1.2.2.1, zR (R.2.2.2.1 pr).1.2.2.2.1, zR (R.2.2.2.1 pr).1.2.2.2.2]) := by
    rw [hw_11]; exact zput_tg h_7 h_8 (by simp)
  refine zx_getfield dX7_newMode_20 zf_X7_53 h_14 rfl ?_
  refine zx_aload (i := 4) dX7_newMode_23 rfl ?_
  have hya : lEl w_10 a_4 := lEl5 h_13
  have hyla := hya
  have holdA : ∀ z, z ∈ R.2.2.1.2.1 → lEl w_10 z := fun z hz => by
    have h := hMo z hz
    have h2 := ok0 _ _ h
    rw [hw_11, hw_3]
    exact lEl5 (zput_to (by omega) (znew_to h2 h))
  have hysa : ∀ z ∈ (R.2.2.2.1 pr).2.2.1.2, lEl w_10 z := fun z hz => holdA z (hsubM z hz)
  have h_15 : w_10.1 ((R.2.2.2.1 pr).1.2.2.1) = some (163, pr, zLs (R.2.2.2.1 pr).2.2.1.1 ((R.2.2.2.1 pr).2.2.1.2)) := by
    rw [hw_11]; exact zput_tg h_7 h_9 (by simp)
  refine zx_ok (fun ok_16 => ?_)
  obtain ⟨w_17, hw_18⟩ : ∃ ww, ww = lAw w_10 ((R.2.2.2.1 pr).1.2.2.1) 163 pr ((R.2.2.2.1 pr).2.2.1.1) ((R.2.2.2.1 pr).2.2.1.2) a_4 := ⟨_, rfl⟩
  have h_19 : w_17.1 ((R.2.2.2.1 pr).1.2.2.1) = some (163, pr, zLs (lCap ((R.2.2.2.1 pr).2.2.1.1) ((R.2.2.2.1 pr).2.2.1.2)) (((R.2.2.2.1 pr).2.2.1.2) ++ [a_4])) := by rw [hw_18]; exact lAw_at
  refine zx_iv (b := (R.2.2.2.1 pr).1.2.2.1) (As := [zR a_4]) (st := []) (v := (some (zI 1))) (w1 := w_17) dX7_newMode_25 zc_X7_47 h_15 (z_cls12 (by decide)) rfl rfl (Nat.le_of_ble_eq_true rfl) rfl (by rw [hw_18]; exact (c_list_add h_15 (by decide) h0a hcpa hl2a hyla hysa (Or.inr ⟨by omega, by omega⟩))) ?_
  refine zx_st (st1 := [zI 1]) rfl ?_
  refine zx_pop dX7_newMode_28 (fun a h => by cases h) ?_
  refine zx_aload_n (i := 0) dX7_newMode_29 rfl rfl ?_
  have h_20 : w_2.1 pg = some (7, 0, [zR R.1.1, zR R.1.2.1, zR R.1.2.2]) := by
    rw [hw_3]; exact znew_to (ok_1 _ _ hpg) hpg
  have h_21 : w_10.1 pg = some (7, 0, [zR R.1.1, zR R.1.2.1, zR R.1.2.2]) := by
    rw [hw_11]; exact zput_tg h_7 h_20 (by simp)
  have h_22 : w_17.1 pg = some (7, 0, [zR R.1.1, zR R.1.2.1, zR R.1.2.2]) := by
    rw [hw_18]; exact (lAw_to ok_16 (zne_tg h_15 h_21 (by simp)) h_21)
  refine zx_getfield dX7_newMode_30 zf_X7_18 h_22 rfl ?_
  refine zx_aload (i := 4) dX7_newMode_33 rfl ?_
  have hlzA := lAw_sz (w := w_10) (a := (R.2.2.2.1 pr).1.2.2.1) (t := 163) (ow := pr) (cap := (R.2.2.2.1 pr).2.2.1.1) (y := a_4) (ys := (R.2.2.2.1 pr).2.2.1.2)
  rw [← hw_18] at hlzA
  have hmlA := h_15
  have holdB : ∀ z, lEl w_10 z → lEl w_17 z := fun z hz => by
    have hne := lEl_ne hz hmlA (by omega)
    obtain ⟨cq, oq, fq, rq, y1, y2, y3, y4⟩ := hz
    exact ⟨cq, oq, fq, rq, by rw [hw_18]; exact lAw_to ok_16 hne y1, y2, y3, y4⟩
  have hylb : lEl w_17 a_4 := holdB _ hya
  have hysb : ∀ z ∈ R.2.2.1.2.1, lEl w_17 z := fun z hz => holdB z (holdA z hz)
  have h_23 : w_2.1 R.1.2.1 = some (161, pg, zLs R.2.1.2.1 R.2.2.1.2.1) := by
    rw [hw_3]; exact znew_to (ok_1 _ _ hms) hms
  have h_24 : w_10.1 R.1.2.1 = some (161, pg, zLs R.2.1.2.1 R.2.2.1.2.1) := by
    rw [hw_11]; exact zput_tg h_7 h_23 (by simp)
  have h_25 : w_17.1 R.1.2.1 = some (161, pg, zLs R.2.1.2.1 R.2.2.1.2.1) := by
    rw [hw_18]; exact (lAw_to ok_16 (zne_tg h_15 h_24 (by simp)) h_24)
  refine zx_ok (fun ok_26 => ?_)
  obtain ⟨w_27, hw_28⟩ : ∃ ww, ww = lAw w_17 R.1.2.1 161 pg R.2.1.2.1 R.2.2.1.2.1 a_4 := ⟨_, rfl⟩
  have h_29 : w_27.1 R.1.2.1 = some (161, pg, zLs (lCap R.2.1.2.1 R.2.2.1.2.1) (R.2.2.1.2.1 ++ [a_4])) := by rw [hw_28]; exact lAw_at
  refine zx_iv (b := R.1.2.1) (As := [zR a_4]) (st := []) (v := (some (zI 1))) (w1 := w_27) dX7_newMode_35 zc_X7_47 h_25 (z_cls12 (by decide)) rfl rfl (Nat.le_of_ble_eq_true rfl) rfl (by rw [hw_28]; exact (c_list_add h_25 (by decide) h0b hcpb hl2b hylb hysb (Or.inr ⟨by omega, by omega⟩))) ?_
  refine zx_st (st1 := [zI 1]) rfl ?_
  refine zx_pop dX7_newMode_38 (fun a h => by cases h) ?_
  refine zx_aload (i := 4) dX7_newMode_39 rfl ?_
  have h_30 : w_17.1 a_4 = some (5, 0, [zR pr, zI ((R.2.2.2.1 pr).2.2.1.2.length : Int), zI ins, zI (pm : Int), zI 0, zI 0, zI 0, zI 0, zI (-1)]) := by
    rw [hw_18]; exact (lAw_to ok_16 (zne_tg h_15 h_13 (by simp)) h_13)
  have h_31 : w_27.1 a_4 = some (5, 0, [zR pr, zI ((R.2.2.2.1 pr).2.2.1.2.length : Int), zI ins, zI (pm : Int), zI 0, zI 0, zI 0, zI 0, zI (-1)]) := by
    rw [hw_28]; exact (lAw_to ok_26 (zne_tg h_25 h_30 (by simp)) h_30)
  refine zx_getfield dX7_newMode_41 zf_X7_57 h_31 rfl ?_
  refine zx_iret dX7_newMode_44 rfl ?_
  have hlzB := lAw_sz (w := w_17) (a := R.1.2.1) (t := 161) (ow := pg) (cap := R.2.1.2.1) (y := a_4) (ys := R.2.2.1.2.1)
  rw [← hw_28] at hlzB
  have hfr : ∀ b ob, b ≠ R.1.2.1 → b ≠ (R.2.2.2.1 pr).1.2.2.1 → w.1 b = some ob → w_27.1 b = some ob := fun b ob hb1 hb2 h => by
    have h2 := ok0 _ _ h
    rw [hw_28]
    refine lAw_to ok_26 hb1 ?_
    rw [hw_18]
    refine lAw_to ok_16 hb2 ?_
    rw [hw_11, hw_3]
    exact zput_to (by omega) (znew_to h2 h)
  refine ⟨_, rfl, rfl, ?_, hfr, by omega, by omega, by omega, by omega⟩
  have h_32 : w_27.1 ((R.2.2.2.1 pr).1.2.2.1) = some (163, pr, zLs (lCap ((R.2.2.2.1 pr).2.2.1.1) ((R.2.2.2.1 pr).2.2.1.2)) (((R.2.2.2.1 pr).2.2.1.2) ++ [a_4])) := by
    rw [hw_28]; exact (lAw_to ok_26 (zne_tg h_25 h_19 (by simp)) h_19)
  exact pgW_newM (r := (pr, ((R.2.2.2.1 pr).2.2.1.2.length : Int), ins, (pm : Int), 0, 0, 0, 0, -1)) hP hpr (fun ob h => by have := ok0 _ _ h; omega) hlen hfr h_29 h_32 h_31
end CNEWM
