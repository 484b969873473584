/-! Own rows: a predicate, a mode, a clause more, at the level of the object. By hand. -/
/-- what the law's programs keep: all types are 0 or open, good is a flag -/
def lwT (R : pgR) : Prop := pgI R ∧ (∀ a, a ∈ R.2.2.1.2.2 → (R.2.2.2.2.2.1 a).2.2.1.length = 8 ∧ ∀ k : Nat, tg (R.2.2.2.2.2.1 a).2.2.1 (k : Int) 0 = -1 ∨ tg (R.2.2.2.2.2.1 a).2.2.1 (k : Int) 0 = 0) ∧ ∀ y, y ∈ R.2.2.1.2.1 → moG (R.2.2.2.2.1 y) = 0 ∨ moG (R.2.2.2.2.1 y) = 1
/-- what a call that builds tells -/
def bdQ (S : whS) (e : Nat) (r : Int ⊕ Nat) (S' : whS) : Prop := (S.2.2.2.1.1 = 0 ∧ ∃ (R' : pgR) (n : Nat), r = .inl (n : Int) ∧ S' = (S.1, S.2.1, R', S.2.2.2) ∧ lwT R' ∧ R'.2.2.1.1.length = S.2.2.1.2.2.1.1.length + e) ∨ (∃ i, i < 5 ∧ r = .inr i ∧ S' = S)
theorem tg_crow {TP : List (List Int)} {k : Nat} : tg (crow TP 8) (k : Int) 0 = if k < 8 then tg TP (k : Int) 0 else -1 := by
  by_cases c : k < 8
  · rw [if_pos c]
    have e : (crow TP 8)[k]? = some [tg TP (k : Int) 0] := by
      unfold crow
      rw [List.getElem?_map, List.getElem?_range c]
      rfl
    exact tg_at (j := 0) e
  · rw [if_neg c]
    have e : (crow TP 8)[k]? = none := List.getElem?_eq_none (by rw [crow_len]; omega)
    unfold tg
    rw [if_pos ⟨Int.natCast_nonneg k, Int.le_refl 0⟩, Int.toNat_natCast, e]
    rfl
theorem tg_out {rows : List (List Int)} {k : Nat} (h : rows.length ≤ k) : tg rows (k : Int) 0 = -1 := by
  unfold tg
  rw [if_pos ⟨Int.natCast_nonneg k, Int.le_refl 0⟩, Int.toNat_natCast, List.getElem?_eq_none h]
  rfl
/-- the types of a predicate are 0 -/
theorem pr_0 {R : pgR} (h : pgI R) {y : Nat} (hy : y ∈ R.2.2.1.1) : (R.2.2.2.1 y).2.1.length ≤ 3 ∧ ∀ k : Nat, tg (R.2.2.2.1 y).2.1 (k : Int) 0 = if k < (R.2.2.2.1 y).2.1.length then 0 else -1 := by
  obtain ⟨p, hp⟩ := pgP_mem hy
  obtain ⟨-, -, a, b⟩ := h.1.1 p y hp
  refine ⟨a, fun k => ?_⟩
  by_cases c : k < (R.2.2.2.1 y).2.1.length
  · rw [if_pos c]
    exact b k c
  · rw [if_neg c]
    exact tg_out (by omega)
theorem zVal_n {G : zG} {M : zMd} {d : Nat} {av : List zV} {w : zW} {Q : zV → zW → Prop} (h : zM G M d av w (zVal Q)) (hn : ∀ v w', Q v w' → ∃ n : Int, v = zI n) : zM G M d av w (zVal fun v w' => ∃ n : Int, v = zI n ∧ Q v w') := zM_any h (fun out w' q => by
  obtain ⟨v, e1, e2⟩ := q
  obtain ⟨n, e⟩ := hn v w' e2
  exact ⟨v, e1, n, e, e2⟩)
section ADD
variable {G : zG} {d : Nat} {w : zW} {o k1 k2 : Nat} {ty : Int} {C : List (List Int)} {tm : List smG} {R : pgR} {comp asked sum : Int} {La : whL}
/-- a throw of a call that builds -/
theorem bd_x {S : whS} {e i : Nat} (h : whW w o k1 k2 S) (hi : i < 5) : ∀ out w', zXw i w out w' → fwQ w o (k1 + 1000) (k2 + 200) (bdQ S e) out w' := fun out w' q => by
  refine ⟨.inr i, S, Or.inr ⟨i, hi, rfl, rfl⟩, ⟨whW_le (whW_x (i := i) h ⟨rfl, q.2⟩) (by omega) (by omega), zSc_eq q.2.1⟩, hi, q.1⟩
theorem w_ap (h : whW w o k1 k2 ((ty, C), tm, R, (comp, asked, sum), La)) (hst0 : G.1.stackTraces = false) (hr : w.2.1 + 100 ≤ G.2.2.2.2.1 ∧ w.2.2 + 1000 ≤ G.2.2.2.2.2) (hty : ty = 1) (hI : lwT R) (f s : Int) (hf : f = -1 ∨ f = 0) (hs : s = -1 ∨ s = 0) : zM G zm_X11_addPredicate (d + 7) [zR o, zI f, zI s, zI (-1)] w (fwQ w o (k1 + 1000) (k2 + 200) (bdQ ((ty, C), tm, R, (comp, asked, sum), La) 1)) := by
  refine zM_ok (fun ok => ?_)
  obtain ⟨A, T, Sp, M, B, hW, h1, h2⟩ := id h
  obtain ⟨⟨t, tc, tn, th, tz⟩, pg, ⟨mc, fa, ca, ta⟩, ⟨⟨la, lai, laa, lan⟩, ⟨sp, spi, spa, spn⟩⟩, br, ⟨nd, va, ce, li⟩, ⟨ro, bi, le, wk⟩⟩ := A
  obtain ⟨N, H, Sz⟩ := T
  obtain ⟨ho, -, ⟨hT, htm⟩, ⟨hPg, hQ⟩, -⟩ := id hW
  subst hty
  by_cases hfs : f = -1 → s = -1
  · by_cases hl : R.2.2.1.1.length < 5
    · by_cases hc : comp = 0
      · obtain ⟨⟨a1, a2⟩, -⟩ := hI.1.2.2.2.2.2.2.2
        obtain ⟨b1, b2, b3⟩ := lcI_b a1 (by omega)
        have key := f_ap_ok (G := G) (d := d) ho hT hPg f s (-1) (by omega) (by omega) (Or.inl rfl) ⟨hfs, fun _ => rfl⟩ hl hc (zVal_n (c_X7_newPredicate (G := G) (d := d) hPg b1 b2 (by omega) (by omega) (by omega) f s (-1)) (fun v w' q => ⟨_, q.1⟩)) hst0 (by omega) (by omega)
        refine zM_any key (fun out w' q => ?_)
        obtain ⟨v, e1, e2, q1, q2, q3, q4, q5, q6, q7, q8⟩ := q
        subst e2
        have fr : zFr [160] w w' := fun a ob ha hn => q4 _ _ (fun e => hn (by rw [e, hPg.2.1] at ha; cases ha; simp)) ha
        have hpn : w.2.1 ∉ R.2.2.1.1 := fun hm => Nat.lt_irrefl _ (ok _ _ ((hPg.2.2.2.2.1 _ hm).1.1))
        have hQ' : pgQ w' (pgNP R w.2.1 f s (-1)) := fun y hy => by
          have q0 := pgQ_fr fr (by decide) hQ
          by_cases e : y = w.2.1
          · subst e
            have e2 : (pgNP R w.2.1 f s (-1)).2.2.2.1 w.2.1 = (((R.2.2.1.1.length : Int), w.2.1 + 1, w.2.1 + 3, w.2.1 + 4, w.2.1 + 5), prT f s (-1), (0, []), (0, [])) := if_pos rfl
            rw [e2]
            have hp3 := (prT_ok hf hs (Or.inl rfl : (-1 : Int) = -1 ∨ (-1 : Int) = 0)).1
            exact ⟨w.2.1 + 6, ⟨q2, q3, Nat.le_of_ble_eq_true rfl, ⟨Int.natCast_nonneg _, by show ((prT f s (-1)).length : Int) ≤ 3; omega⟩, ⟨by show (0 : Int) ≤ 2; decide, by show (2 : Int) ≤ 3; decide⟩⟩, hp3⟩
          · have e2 : (pgNP R w.2.1 f s (-1)).2.2.2.1 y = R.2.2.2.1 y := if_neg e
            rw [e2]
            rcases List.mem_append.mp (show y ∈ R.2.2.1.1 ++ [w.2.1] from hy) with k | k
            · exact q0 y k
            · exact absurd (by simpa using k) e
        refine ⟨.inl (R.2.2.1.1.length : Int), _, Or.inl ⟨hc, pgNP R w.2.1 f s (-1), R.2.2.1.1.length, rfl, rfl, ⟨pgI_NP hI.1 hpn hl hf hs (Or.inl rfl), hI.2.1, hI.2.2⟩, ?_⟩, ⟨⟨_, (N, H, Sz), Sp, M, B, whP_pg fr (by decide) hW q1 hQ', by omega, by omega⟩, zSc_fr fr (by decide)⟩, e1⟩
        show (R.2.2.1.1 ++ [w.2.1]).length = _
        rw [List.length_append, List.length_singleton]
      · exact zM_any (f_ap_x2 (d := d) (P := fun _ _ => True) ho hT hPg f s (-1) (by omega) (by omega) (Or.inl rfl) ⟨hfs, fun _ => rfl⟩ (Or.inr hc) hst0 (by omega) (by omega)) (bd_x h (by decide))
    · exact zM_any (f_ap_x2 (d := d) (P := fun _ _ => True) ho hT hPg f s (-1) (by omega) (by omega) (Or.inl rfl) ⟨hfs, fun _ => rfl⟩ (Or.inl (by omega)) hst0 (by omega) (by omega)) (bd_x h (by decide))
  · exact zM_any (f_ap_x1 (d := d) (P := fun _ _ => True) ho hT hPg f s (-1) (by omega) (by omega) (Or.inl rfl) (Or.inl (by omega)) hst0 (by omega) (by omega)) (bd_x h (by decide))
theorem w_am (h : whW w o k1 k2 ((ty, C), tm, R, (comp, asked, sum), La)) (hst0 : G.1.stackTraces = false) (hr : w.2.1 + 100 ≤ G.2.2.2.2.1 ∧ w.2.2 + 1000 ≤ G.2.2.2.2.2) (hI : lwT R) (i ins : Int) (pm : Nat) (hq : pm = 100 ∨ pm = 115 ∨ pm = 109 ∨ pm = 110) : zM G zm_X11_addMode (d + 7) [zR o, zI i, zI ins, zI (pm : Int)] w (fwQ w o (k1 + 1000) (k2 + 200) (bdQ ((ty, C), tm, R, (comp, asked, sum), La) 0)) := by
  refine zM_ok (fun ok => ?_)
  obtain ⟨A, T, Sp, M, B, hW, h1, h2⟩ := id h
  obtain ⟨⟨t, tc, tn, th, tz⟩, pg, ⟨mc, fa, ca, ta⟩, ⟨⟨la, lai, laa, lan⟩, ⟨sp, spi, spa, spn⟩⟩, br, ⟨nd, va, ce, li⟩, ⟨ro, bi, le, wk⟩⟩ := A
  obtain ⟨N, H, Sz⟩ := T
  obtain ⟨ho, -, ⟨hT, htm⟩, ⟨hPg, hQ⟩, -⟩ := id hW
  have hq' : (pm : Int) = 100 ∨ (pm : Int) = 115 ∨ (pm : Int) = 109 ∨ (pm : Int) = 110 := by omega
  cases hy : lAt R.2.2.1.1 i with
  | none => exact zM_any (f_am_x0 (d := d) ho hPg i hy ins (pm : Int) hst0 (by omega) (by omega)) (bd_x h (by decide))
  | some y =>
    have hym := lAt_mem hy
    by_cases hz : zand ins (zxor (zw (zshl 1 ((R.2.2.2.1 y).2.1.length : Int) - 1)) (-1)) = 0
    · by_cases hl : (R.2.2.2.1 y).2.2.1.2.length < 2
      · by_cases hc : comp = 0
        · obtain ⟨⟨a1, a2⟩, ⟨a3, a4⟩, -, a6, -⟩ := hI.1.2.2.2.2.2.2.2
          obtain ⟨⟨a7, -⟩, -⟩ := a6 y hym
          obtain ⟨b1, b2, b3⟩ := lcI_b a3 (by omega)
          obtain ⟨c1, c2, c3⟩ := lcI_b a7 (by omega)
          have key := f_am_ok (G := G) (d := d) ho hPg i hy ins (pm : Int) hq' hz hl hc (zVal_n (c_X7_newMode (G := G) (d := d) hPg hym c1 c2 (by omega) b1 b2 (by omega) (by omega) (by omega) ins pm (by omega)) (fun v w' q => ⟨_, q.1⟩)) hst0 (by omega) (by omega)
          refine zM_any key (fun out w' q => ?_)
          obtain ⟨v, e1, e2, q1, q4, q5, q6, q7, q8⟩ := q
          subst e2
          have hpa := (hPg.2.2.2.2.1 y hym).1.2.2.1
          have fr : zFr [161, 163] w w' := fun a ob ha hn => q4 _ _ (fun e => hn (by rw [e, hPg.2.2.1] at ha; cases ha; simp)) (fun e => hn (by rw [e, hpa] at ha; cases ha; simp)) ha
          have hyn : w.2.1 ∉ R.2.2.1.2.1 := fun hm => Nat.lt_irrefl _ (ok _ _ (hPg.2.2.2.2.2.1 _ hm))
          have hn3 := (pr_0 hI.1 hym).1
          have hpgI := pgI_NM (r := (y, ((R.2.2.2.1 y).2.2.1.2.length : Int), ins, (pm : Int), 0, 0, 0, 0, -1)) hI.1 hym hyn hl (pgI_mc hI.1 hym hl) rfl rfl (fun v hv hb => by
            have q := sub_bI.mp hz v hv hb
            rw [bI_low (by omega) hv] at q
            exact of_decide_eq_true q)
          have hQ' : pgQ w' (pgNM R y w.2.1 (y, ((R.2.2.2.1 y).2.2.1.2.length : Int), ins, (pm : Int), 0, 0, 0, 0, -1)) := fun z hzm => by
            obtain ⟨v, q0, q9⟩ := pgQ_fr fr (by decide) hQ z hzm
            have e2 : ((pgNM R y w.2.1 (y, ((R.2.2.2.1 y).2.2.1.2.length : Int), ins, (pm : Int), 0, 0, 0, 0, -1)).2.2.2.1 z).1 = (R.2.2.2.1 z).1 ∧ ((pgNM R y w.2.1 (y, ((R.2.2.2.1 y).2.2.1.2.length : Int), ins, (pm : Int), 0, 0, 0, 0, -1)).2.2.2.1 z).2.1 = (R.2.2.2.1 z).2.1 := by
              by_cases e : z = y
              · subst e
                have e3 : (pgNM R z w.2.1 (z, ((R.2.2.2.1 z).2.2.1.2.length : Int), ins, (pm : Int), 0, 0, 0, 0, -1)).2.2.2.1 z = ((R.2.2.2.1 z).1, (R.2.2.2.1 z).2.1, (lCap (R.2.2.2.1 z).2.2.1.1 (R.2.2.2.1 z).2.2.1.2, (R.2.2.2.1 z).2.2.1.2 ++ [w.2.1]), (R.2.2.2.1 z).2.2.2) := if_pos rfl
                rw [e3]
                exact ⟨rfl, rfl⟩
              · have e3 : (pgNM R y w.2.1 (y, ((R.2.2.2.1 y).2.2.1.2.length : Int), ins, (pm : Int), 0, 0, 0, 0, -1)).2.2.2.1 z = R.2.2.2.1 z := if_neg e
                rw [e3]
                exact ⟨rfl, rfl⟩
            rw [e2.1, e2.2]
            exact ⟨v, q0, q9⟩
          refine ⟨.inl ((R.2.2.2.1 y).2.2.1.2.length : Int), _, Or.inl ⟨hc, _, (R.2.2.2.1 y).2.2.1.2.length, rfl, rfl, ⟨hpgI, hI.2.1, fun z hzm => ?_⟩, rfl⟩, ⟨⟨_, (N, H, Sz), Sp, M, B, whP_pg fr (by decide) hW q1 hQ', by omega, by omega⟩, zSc_fr fr (by decide)⟩, e1⟩
          by_cases e : z = w.2.1
          · have e2 : (pgNM R y w.2.1 (y, ((R.2.2.2.1 y).2.2.1.2.length : Int), ins, (pm : Int), 0, 0, 0, 0, -1)).2.2.2.2.1 z = (y, ((R.2.2.2.1 y).2.2.1.2.length : Int), ins, (pm : Int), 0, 0, 0, 0, -1) := if_pos e
            rw [e2]
            exact Or.inl rfl
          · have e2 : (pgNM R y w.2.1 (y, ((R.2.2.2.1 y).2.2.1.2.length : Int), ins, (pm : Int), 0, 0, 0, 0, -1)).2.2.2.2.1 z = R.2.2.2.2.1 z := if_neg e
            rw [e2]
            rcases List.mem_append.mp (show z ∈ R.2.2.1.2.1 ++ [w.2.1] from hzm) with k | k
            · exact hI.2.2 z k
            · exact absurd (by simpa using k) e
        · exact zM_any (f_am_x2 (d := d) (P := fun _ _ => True) ho hPg i hy ins (pm : Int) hq' hz (Or.inr hc) hst0 (by omega) (by omega)) (bd_x h (by decide))
      · exact zM_any (f_am_x2 (d := d) (P := fun _ _ => True) ho hPg i hy ins (pm : Int) hq' hz (Or.inl (by omega)) hst0 (by omega) (by omega)) (bd_x h (by decide))
    · exact zM_any (f_am_x1 (d := d) (P := fun _ _ => True) ho hPg i hy ins (pm : Int) hq' hz hst0 (by omega) (by omega)) (bd_x h (by decide))
theorem w_al (h : whW w o k1 k2 ((ty, C), tm, R, (comp, asked, sum), La)) (hst0 : G.1.stackTraces = false) (hr : w.2.1 + 100 ≤ G.2.2.2.2.1 ∧ w.2.2 + 1000 ≤ G.2.2.2.2.2) (hI : lwT R) (i : Int) : zM G zm_X11_addClause (d + 7) [zR o, zI i] w (fwQ w o (k1 + 1000) (k2 + 200) (bdQ ((ty, C), tm, R, (comp, asked, sum), La) 0)) := by
  refine zM_ok (fun ok => ?_)
  obtain ⟨A, T, Sp, M, B, hW, h1, h2⟩ := id h
  obtain ⟨⟨t, tc, tn, th, tz⟩, pg, ⟨mc, fa, ca, ta⟩, ⟨⟨la, lai, laa, lan⟩, ⟨sp, spi, spa, spn⟩⟩, br, ⟨nd, va, ce, li⟩, ⟨ro, bi, le, wk⟩⟩ := A
  obtain ⟨N, H, Sz⟩ := T
  obtain ⟨ho, -, ⟨hT, htm⟩, ⟨hPg, hQ⟩, -⟩ := id hW
  cases hy : lAt R.2.2.1.1 i with
  | none => exact zM_any (f_al_x0 (d := d) ho hPg i hy hst0 (by omega) (by omega)) (bd_x h (by decide))
  | some y =>
    have hym := lAt_mem hy
    by_cases hl : R.2.2.1.2.2.length < 12
    · by_cases hc : comp = 0
      · obtain ⟨-, -, ⟨a3, a4⟩, a6, -⟩ := hI.1.2.2.2.2.2.2.2
        obtain ⟨-, a7⟩ := a6 y hym
        obtain ⟨p, hp⟩ := pgP_mem hym
        have h12 := (hI.1.1.2.2.1 p y hp).2.1
        obtain ⟨b1, b2, b3⟩ := lcI_b a3 (by omega)
        obtain ⟨c1, c2, c3⟩ := lcI_b a7 (by omega)
        have key := f_al_ok (G := G) (d := d) ho hPg i hy hl hc (zVal_n (c_X7_newClause (G := G) (d := d) hPg hym c1 c2 (by omega) b1 b2 (by omega) (by omega) (by omega)) (fun v w' q => ⟨_, q.1⟩)) hst0 (by omega) (by omega)
        refine zM_any key (fun out w' q => ?_)
        obtain ⟨v, e1, e2, q1, q4, q5, q6, q7, q8⟩ := q
        subst e2
        have hpa := (hPg.2.2.2.2.1 y hym).1.2.2.2
        have fr : zFr [162, 164] w w' := fun a ob ha hn => q4 _ _ (fun e => hn (by rw [e, hPg.2.2.2.1] at ha; cases ha; simp)) (fun e => hn (by rw [e, hpa] at ha; cases ha; simp)) ha
        have hyn : w.2.1 ∉ R.2.2.1.2.2 := fun hm => Nat.lt_irrefl _ (ok _ _ (hPg.2.2.2.2.2.2 _ hm).1.1)
        have hpgI := pgI_NC hI.1 hym hyn hl
        have hQ' : pgQ w' (pgNC R y w.2.1 (clN (R.2.2.1.2.2.length : Int) y w.2.1 (R.2.2.2.1 y).2.1)) := fun z hzm => by
          obtain ⟨v, q0, q9⟩ := pgQ_fr fr (by decide) hQ z hzm
          have e2 : ((pgNC R y w.2.1 (clN (R.2.2.1.2.2.length : Int) y w.2.1 (R.2.2.2.1 y).2.1)).2.2.2.1 z).1 = (R.2.2.2.1 z).1 ∧ ((pgNC R y w.2.1 (clN (R.2.2.1.2.2.length : Int) y w.2.1 (R.2.2.2.1 y).2.1)).2.2.2.1 z).2.1 = (R.2.2.2.1 z).2.1 := by
            by_cases e : z = y
            · subst e
              have e3 : (pgNC R z w.2.1 (clN (R.2.2.1.2.2.length : Int) z w.2.1 (R.2.2.2.1 z).2.1)).2.2.2.1 z = ((R.2.2.2.1 z).1, (R.2.2.2.1 z).2.1, (R.2.2.2.1 z).2.2.1, (lCap (R.2.2.2.1 z).2.2.2.1 (R.2.2.2.1 z).2.2.2.2, (R.2.2.2.1 z).2.2.2.2 ++ [w.2.1])) := if_pos rfl
              rw [e3]
              exact ⟨rfl, rfl⟩
            · have e3 : (pgNC R y w.2.1 (clN (R.2.2.1.2.2.length : Int) y w.2.1 (R.2.2.2.1 y).2.1)).2.2.2.1 z = R.2.2.2.1 z := if_neg e
              rw [e3]
              exact ⟨rfl, rfl⟩
          rw [e2.1, e2.2]
          exact ⟨v, q0, q9⟩
        refine ⟨.inl (R.2.2.1.2.2.length : Int), _, Or.inl ⟨hc, _, R.2.2.1.2.2.length, rfl, rfl, ⟨hpgI, fun z hzm => ?_, hI.2.2⟩, rfl⟩, ⟨⟨_, (N, H, Sz), Sp, M, B, whP_pg fr (by decide) hW q1 hQ', by omega, by omega⟩, zSc_fr fr (by decide)⟩, e1⟩
        by_cases e : z = w.2.1
        · have e2 : (pgNC R y w.2.1 (clN (R.2.2.1.2.2.length : Int) y w.2.1 (R.2.2.2.1 y).2.1)).2.2.2.2.2.1 z = clN (R.2.2.1.2.2.length : Int) y w.2.1 (R.2.2.2.1 y).2.1 := if_pos e
          rw [e2]
          refine ⟨crow_len, fun k => ?_⟩
          show tg (crow (R.2.2.2.1 y).2.1 8) (k : Int) 0 = -1 ∨ tg (crow (R.2.2.2.1 y).2.1 8) (k : Int) 0 = 0
          rw [tg_crow]
          split
          · rw [(pr_0 hI.1 hym).2 k]
            split
            · exact Or.inr rfl
            · exact Or.inl rfl
          · exact Or.inl rfl
        · have e2 : (pgNC R y w.2.1 (clN (R.2.2.1.2.2.length : Int) y w.2.1 (R.2.2.2.1 y).2.1)).2.2.2.2.2.1 z = R.2.2.2.2.2.1 z := if_neg e
          rw [e2]
          rcases List.mem_append.mp (show z ∈ R.2.2.1.2.2 ++ [w.2.1] from hzm) with k | k
          · exact hI.2.1 z k
          · exact absurd (by simpa using k) e
      · exact zM_any (f_al_x2 (d := d) (P := fun _ _ => True) ho hPg i hy (Or.inr hc) hst0 (by omega) (by omega)) (bd_x h (by decide))
    · exact zM_any (f_al_x2 (d := d) (P := fun _ _ => True) ho hPg i hy (Or.inl (by omega)) hst0 (by omega) (by omega)) (bd_x h (by decide))
end ADD
