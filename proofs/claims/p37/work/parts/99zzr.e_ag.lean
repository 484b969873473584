/-! Own rows: a goal more, at the level of the object. By hand. -/
theorem zOk_put {w : zW} {a : Nat} {x y : zO} (ok : zOk w) (ha : w.1 a = some x) : zOk (zput w a y) := fun b ob hb => by
  rw [zput_b] at hb
  show b < w.2.1
  by_cases e : b = a
  · rw [e]
    exact ok _ _ ha
  · rw [if_neg e] at hb
    exact ok _ _ hb
theorem zVa3 {u0 u1 u2 : Int} (h0 : 0 ≤ u0 ∧ u0 < 8) (h1 : 0 ≤ u1 ∧ u1 < 8) (h2 : 0 ≤ u2 ∧ u2 < 8) (k : Int) : 0 ≤ zVa [u0, u1, u2] k ∧ zVa [u0, u1, u2] k < 8 := by
  unfold zVa
  split
  · rename_i h
    have h3 : k.toNat < 3 := h.2
    rcases (show k.toNat = 0 ∨ k.toNat = 1 ∨ k.toNat = 2 by omega) with e | e | e
    · rw [e]
      exact h0
    · rw [e]
      exact h1
    · rw [e]
      exact h2
  · decide
theorem smv3 {k su n u0 u1 u2 : Int} {va : Nat} {j : Nat} (hj : j < 3) : smv (gL (k, su, n, va, [u0, u1, u2])) j = (zVa [u0, u1, u2] (j : Int)).toNat := by
  rcases (show j = 0 ∨ j = 1 ∨ j = 2 by omega) with e | e | e <;> subst e <;> rfl
/-- the types behind a new goal -/
theorem ngT_ok {xs : List Int} {a b c : Int} : ∀ (n q : Nat) (T : List (List Int)), (∀ j, j < n → pk ((q + j : Nat) : Int) a b c = 0) → (∀ k : Int, 0 ≤ zVa xs k ∧ zVa xs k < 8) → T.length = 8 → tOk 1 T →
    (ngT xs a b c n q T).length = 8 ∧ tOk 1 (ngT xs a b c n q T) ∧ (∀ k : Nat, tg (ngT xs a b c n q T) (k : Int) 0 = 0 ∨ tg (ngT xs a b c n q T) (k : Int) 0 = tg T (k : Int) 0) ∧ ∀ j, j < n → tg (ngT xs a b c n q T) (zVa xs ((q + j : Nat) : Int)) 0 = 0
  | 0, q, T, _, _, hl, ho => ⟨hl, ho, fun _ => Or.inr rfl, fun j h => absurd h (Nat.not_lt_zero j)⟩
  | n + 1, q, T, hp, hv, hl, ho => by
    rw [ngT_s]
    have hq : pk (q : Int) a b c = 0 := hp 0 (by omega)
    obtain ⟨v, hv1, hv2⟩ : ∃ v : Nat, zVa xs (q : Int) = (v : Int) ∧ v < 8 := by
      obtain ⟨a1, a2⟩ := hv (q : Int)
      exact ⟨(zVa xs (q : Int)).toNat, by omega, by omega⟩
    rw [hq, hv1]
    obtain ⟨i1, i2, i3, i4⟩ := ngT_ok n (q + 1) (ts T (v : Int) 0 0) (fun j hj => by
      have := hp (j + 1) (by omega)
      rw [show q + 1 + j = q + (j + 1) by omega]
      exact this) hv (by rw [ts_len]; exact hl) (tOk_ts ho)
    have e0 : tg (ts T (v : Int) 0 0) (v : Int) 0 = 0 := tg_ts (by omega) ho.2
    have i5 : ∀ k : Nat, tg (ngT xs a b c n (q + 1) (ts T (v : Int) 0 0)) (k : Int) 0 = 0 ∨ tg (ngT xs a b c n (q + 1) (ts T (v : Int) 0 0)) (k : Int) 0 = tg T (k : Int) 0 := fun k => by
      rcases i3 k with h | h
      · exact Or.inl h
      · by_cases e : k = v
        · subst e
          rw [e0] at h
          exact Or.inl h
        · rw [tg_ts_ne e] at h
          exact Or.inr h
    refine ⟨i1, i2, i5, fun j hj => ?_⟩
    by_cases e : j = 0
    · subst e
      show tg (ngT xs a b c n (q + 1) (ts T (v : Int) 0 0)) (zVa xs (q : Int)) 0 = 0
      rw [hv1]
      rcases i3 v with h | h
      · exact h
      · rw [h]
        exact e0
    · have := i4 (j - 1) (by omega)
      rw [show q + 1 + (j - 1) = q + j by omega] at this
      exact this
section AG
variable {G : zG} {d : Nat} {w w2 : zW} {o k1 k2 : Nat} {ty : Int} {C : List (List Int)} {tm : List smG} {R : pgR} {comp asked sum : Int} {La : whL}
/-- a throw behind a goal that was made -/
theorem bd_x2 {S : whS} {e i g va : Nat} {k su n u0 u1 u2 : Int} (h : whW w o k1 k2 S) (hg : gMk w k su n u0 u1 u2 w2 g va) (hW2 : whW w2 o (k1 + 120) (k2 + 7) S) (hi : i < 5) : ∀ out w', zXw i w2 out w' → fwQ w o (k1 + 1000) (k2 + 200) (bdQ S e) out w' := fun out w' q => by
  refine ⟨.inr i, S, Or.inr ⟨i, hi, rfl, rfl⟩, ⟨whW_le (whW_x (i := i) hW2 ⟨rfl, q.2⟩) (by omega) (by omega), ?_⟩, hi, q.1⟩
  exact zSc_tr (fun a ob ha _ => hg.2.2.1 a ob ha) (zSc_eq q.2.1)
theorem w_ag (ok0 : zOk w) (h : whW w o k1 k2 ((ty, C), tm, R, (comp, asked, sum), La)) (hst0 : G.1.stackTraces = false) (hr : w.2.1 + 100 ≤ G.2.2.2.2.1 ∧ w.2.2 + 1000 ≤ G.2.2.2.2.2) (hI : lwT R) {c : Nat} (hcm : c ∈ R.2.2.1.2.2) {g va : Nat} {k su n u0 u1 u2 : Int} (hg : gMk w k su n u0 u1 u2 w2 g va) (hk : 0 ≤ k ∧ k ≤ 3) (hn : 0 ≤ n ∧ n ≤ 3) (a0 b0 e0 : Int) (hty : ∀ j : Nat, (j : Int) < n → pk (j : Int) a0 b0 e0 = 0) (h0 : 0 ≤ u0 ∧ u0 < 8) (h1 : 0 ≤ u1 ∧ u1 < 8) (h2 : 0 ≤ u2 ∧ u2 < 8) (hoc : gOkC (pgC R) (gL (k, su, n, va, [u0, u1, u2]))) (hsu : k ≠ 1 → 0 ≤ su) (hsub : 2 ≤ k → ∃ y, pgP R su.toNat = some y) : zM G zm_X11_addGoal (d + 7) [zR o, zR c, zR g, zI a0, zI b0, zI e0] w2 (fwQ w o (k1 + 1000) (k2 + 200) (bdQ ((ty, C), tm, R, (comp, asked, sum), La) 0)) := by
  refine zM_ok (fun ok => ?_)
  obtain ⟨A, T, Sp, M, B, hW, r1, r2⟩ := id h
  obtain ⟨⟨t, tc, tn, th, tz⟩, pg, ⟨mc, fa, ca, ta⟩, ⟨⟨la, lai, laa, lan⟩, ⟨sp, spi, spa, spn⟩⟩, br, ⟨nd, va', ce, li⟩, ⟨ro, bi, le, wk⟩⟩ := A
  obtain ⟨N, H, Sz⟩ := T
  obtain ⟨ho, -, ⟨hT, htm⟩, ⟨hPg, hQ⟩, -⟩ := id hW
  obtain ⟨g1, g2, g3, g4, g5, g6⟩ := id hg
  have f0 : zFr [] w w2 := fun a ob ha _ => g3 a ob ha
  have hP2 : pgW w2 pg R := pgW_fr f0 (by simp) hPg
  have hQ2 : pgQ w2 R := pgQ_fr f0 (by simp) hQ
  have hW2 := whP_pg f0 (by simp) hW hP2 hQ2
  have hWW : whW w2 o (k1 + 120) (k2 + 7) ((ty, C), tm, R, (comp, asked, sum), La) := ⟨_, (N, H, Sz), Sp, M, B, hW2, by omega, by omega⟩
  have ho2 := g3 _ _ ho
  have hC2 := (hP2.2.2.2.2.2.2 c hcm).1
  have hgs := (hP2.2.2.2.2.2.2 c hcm).2
  by_cases hb : gBare [u0, u1, u2] n
  · by_cases ht : tkOut (R.2.2.2.2.2.1 c).2.2.1 [u0, u1, u2] a0 b0 e0 n.toNat 0 = true
    · by_cases hl : (R.2.2.2.2.2.1 c).2.2.2.1.2.length < 5
      · by_cases hc : comp = 0
        · obtain ⟨-, -, -, -, a5⟩ := hI.1.2.2.2.2.2.2.2
          have a6 := a5 c hcm
          obtain ⟨b1, b2, b3⟩ := lcI_b a6 (by omega)
          obtain ⟨T', hT'⟩ : ∃ T', T' = ngT [u0, u1, u2] a0 b0 e0 n.toNat 0 (R.2.2.2.2.2.1 c).2.2.1 := ⟨_, rfl⟩
          obtain ⟨t1, t2⟩ := hI.2.1 c hcm
          have okT : tOk 1 (R.2.2.2.2.2.1 c).2.2.1 := hC2.2.1.2
          obtain ⟨n1, n2, n3, n4⟩ := ngT_ok (a := a0) (b := b0) (c := e0) n.toNat 0 (R.2.2.2.2.2.1 c).2.2.1 (fun j hj => by
            rw [Nat.zero_add]
            exact hty j (by omega)) (zVa3 h0 h1 h2) t1 okT
          rw [← hT'] at n1 n2 n3 n4
          obtain ⟨w1, hw1⟩ : ∃ w1, w1 = lAw (zput w2 (R.2.2.2.2.2.1 c).2.1.1 (133, c, tTb 1 8 T')) (R.2.2.2.2.2.1 c).2.1.2.1 165 c (R.2.2.2.2.2.1 c).2.2.2.1.1 (R.2.2.2.2.2.1 c).2.2.2.1.2 g := ⟨_, rfl⟩
          have key := f_ag_ok (G := G) (d := d) (w1 := w1) (n := ((R.2.2.2.2.2.1 c).2.2.2.1.2.length : Int)) ho2 hC2 g1 (xs := [u0, u1, u2]) g2 (Nat.le_of_ble_eq_true rfl) hn a0 b0 e0 hb ht hl hc (by
            have q := c_X1_newGoal (G := G) (d := d) hC2 g1 (xs := [u0, u1, u2]) g2 (Nat.le_of_ble_eq_true rfl) hn b1 b2 (by omega) (fun z hz => lEl3 (hgs z hz).1) (Or.inr ⟨by omega, by omega⟩) a0 b0 e0
            rw [← hT', ← hw1] at q
            exact q) hst0 (by omega) (by omega)
          refine zM_any key (fun out w' q => ?_)
          obtain ⟨e1, e2⟩ := q
          subst e2
          have hty0 : w2.1 (R.2.2.2.2.2.1 c).2.1.1 = some (133, c, tTb 1 8 (R.2.2.2.2.2.1 c).2.2.1) := hC2.2.1.1
          have hgs0 : w2.1 (R.2.2.2.2.2.1 c).2.1.2.1 = some (165, c, zLs (R.2.2.2.2.2.1 c).2.2.2.1.1 (R.2.2.2.2.2.1 c).2.2.2.1.2) := hC2.2.2.1
          have hne : (R.2.2.2.2.2.1 c).2.1.1 ≠ (R.2.2.2.2.2.1 c).2.1.2.1 := zne_tg hgs0 hty0 (by simp)
          have ok1 : zOk (zput w2 (R.2.2.2.2.2.1 c).2.1.1 (133, c, tTb 1 8 T')) := zOk_put ok hty0
          have keep : ∀ b ob, w2.1 b = some ob → b ≠ (R.2.2.2.2.2.1 c).2.1.1 → b ≠ (R.2.2.2.2.2.1 c).2.1.2.1 → w'.1 b = some ob := fun b ob hb x1 x2 => by
            rw [hw1]
            exact lAw_to ok1 x2 (zput_to x1 hb)
          have fr : zFr [133, 165] w2 w' := fun b ob hb hn => keep b ob hb (fun e => hn (by rw [e, hty0] at hb; cases hb; simp)) (fun e => hn (by rw [e, hgs0] at hb; cases hb; simp))
          have hnew : ∀ y, y ∈ R.2.2.1.2.2 → g ∉ (R.2.2.2.2.2.1 y).2.2.2.1.2 := fun y hy hm => by
            have x1 := ((hPg.2.2.2.2.2.2 y hy).2 g hm).1
            exact absurd (ok0 _ _ x1) (by omega)
          have hP3 : pgW w' pg (pgNG R c g T' (k, su, n, va, [u0, u1, u2])) := pgW_newG hP2 hcm hnew n2 (fun b ob hb x1 x2 => keep b ob hb (fun e => x1 (by rw [e, hty0] at hb; cases hb; exact ⟨rfl, rfl⟩)) (fun e => x2 (by rw [e, hgs0] at hb; cases hb; exact ⟨rfl, rfl⟩))) (by
              rw [hw1]
              exact lAw_to ok1 hne zput_at) (by
              rw [hw1]
              exact lAw_at) ⟨fr _ _ g1 (by simp), fr _ _ g2 (by simp), Nat.le_of_ble_eq_true rfl, hn, hk⟩
          have hgo : gOk (k, su, n, va, [u0, u1, u2]) := ⟨hk, hsu, hn, rfl, zVa3 h0 h1 h2⟩
          have hpgI := pgI_NG (T := T') hI.1 hcm hnew hl hgo hoc (fun q => hsub (by
            have q : 2 ≤ k.toNat := q
            omega)) (fun x hx => by
              rcases n3 x with e | e
              · rw [e]
                decide
              · rw [e]
                exact hx) (fun j hj _ => by
              have hj : j < n.toNat := hj
              rw [smv3 (by omega), Int.toNat_of_nonneg (zVa3 h0 h1 h2 (j : Int)).1]
              have q := n4 j hj
              rw [Nat.zero_add] at q
              rw [q]
              decide)
          have sz := lAw_sz (w := zput w2 (R.2.2.2.2.2.1 c).2.1.1 (133, c, tTb 1 8 T')) (a := (R.2.2.2.2.2.1 c).2.1.2.1) (t := 165) (ow := c) (cap := (R.2.2.2.2.2.1 c).2.2.2.1.1) (y := g) (ys := (R.2.2.2.2.2.1 c).2.2.2.1.2)
          rw [← hw1] at sz
          obtain ⟨s1, s2, s3, s4⟩ := sz
          have s2 : w'.2.1 ≤ w2.2.1 + 1 := s2
          have s4 : w'.2.2 ≤ w2.2.2 + (10 + (R.2.2.2.2.2.1 c).2.2.2.1.1 + (R.2.2.2.2.2.1 c).2.2.2.1.1 / 2) := s4
          refine ⟨.inl ((R.2.2.2.2.2.1 c).2.2.2.1.2.length : Int), _, Or.inl ⟨hc, _, (R.2.2.2.2.2.1 c).2.2.2.1.2.length, rfl, rfl, ⟨hpgI, fun z hz => ?_, hI.2.2⟩, rfl⟩, ⟨⟨_, (N, H, Sz), Sp, M, B, whP_pg fr (by decide) hW2 hP3 (pgQ_fr fr (by decide) hQ2), by omega, by omega⟩, zSc_tr (fun a ob ha _ => g3 a ob ha) (zSc_fr fr (by decide))⟩, e1⟩
          by_cases e : z = c
          · subst e
            have e2 : (pgNG R z g T' (k, su, n, va, [u0, u1, u2])).2.2.2.2.2.1 z = ngR (R.2.2.2.2.2.1 z) g T' := if_pos rfl
            rw [e2]
            refine ⟨n1, fun x => ?_⟩
            show tg T' (x : Int) 0 = -1 ∨ tg T' (x : Int) 0 = 0
            rcases n3 x with e | e
            · exact Or.inr e
            · rw [e]
              exact t2 x
          · have e2 : (pgNG R c g T' (k, su, n, va, [u0, u1, u2])).2.2.2.2.2.1 z = R.2.2.2.2.2.1 z := if_neg e
            rw [e2]
            exact hI.2.1 z hz
        · exact zM_any (f_ag_x2 (d := d) ho2 hC2 g1 (xs := [u0, u1, u2]) g2 (Nat.le_of_ble_eq_true rfl) hn a0 b0 e0 hb ht (Or.inr hc) hst0 (by omega) (by omega)) (bd_x2 h hg hWW (by decide))
      · exact zM_any (f_ag_x2 (d := d) ho2 hC2 g1 (xs := [u0, u1, u2]) g2 (Nat.le_of_ble_eq_true rfl) hn a0 b0 e0 hb ht (Or.inl (by omega)) hst0 (by omega) (by omega)) (bd_x2 h hg hWW (by decide))
    · exact zM_any (f_ag_x1t (d := d) ho2 hC2 g1 (xs := [u0, u1, u2]) g2 (Nat.le_of_ble_eq_true rfl) hn a0 b0 e0 hb ht hst0 (by omega) (by omega)) (bd_x2 h hg hWW (by decide))
  · exact zM_any (f_ag_x1b (d := d) ho2 hC2 g1 (xs := [u0, u1, u2]) g2 (Nat.le_of_ble_eq_true rfl) hn a0 b0 e0 hb hst0 (by omega) (by omega)) (bd_x2 h hg hWW (by decide))
end AG
