/-! Own rows: the law's call of a reader, all readers in one. Printed by wip/p37/m_krd.py. -/
/-- what a reader tells -/
def rdS (S : whS) (q : Nat) (i j : Int) : Int ⊕ Nat := match q with
  | 13 => (match mdAt S.2.2.1 i j with | none => .inr 0 | some md => if S.2.2.2.1.1 = 0 then .inr 2 else .inl (fsI (S.2.2.1.2.2.2.2.1 md)))
  | 14 => (match mdAt S.2.2.1 i j with | none => .inr 0 | some md => if S.2.2.2.1.1 = 0 then .inr 2 else .inl (S.2.2.1.2.2.2.2.1 md).2.2.2.2.2.1)
  | 15 => (match mdAt S.2.2.1 i j with | none => .inr 0 | some md => if S.2.2.2.1.1 = 0 then .inr 2 else if (S.2.2.1.2.2.2.2.1 md).2.2.2.2.2.1 = 0 then .inr 4 else .inl (if (S.2.2.1.2.2.2.2.1 md).2.2.2.2.2.2.2.1 = 0 then (if (S.2.2.1.2.2.2.2.1 md).2.2.2.2.2.2.1 = 0 then 100 else 115) else (if (S.2.2.1.2.2.2.2.1 md).2.2.2.2.2.2.1 = 0 then 109 else 110)))
  | 16 => (match mdAt S.2.2.1 i j with | none => .inr 0 | some md => if S.2.2.2.1.1 = 0 then .inr 2 else if (S.2.2.1.2.2.2.2.1 md).2.2.2.2.1 ≠ 0 ∨ (S.2.2.1.2.2.2.2.1 md).2.2.2.2.2.2.2.2 = -1 then .inr 4 else .inl (S.2.2.1.2.2.2.2.1 md).2.2.2.2.2.2.2.2)
  | 20 => if S.2.2.2.1.2.1 = 0 then .inr 4 else .inl S.2.2.2.2.2.2.2.2.2.1
  | 21 => if S.2.2.2.1.2.1 = 0 then .inr 4 else if (0 ≤ i ∧ i < (S.2.2.2.2.2.1.2.1.length : Int)) ∧ (0 ≤ j ∧ j < ((S.2.2.1.2.2.2.1 (S.2.2.1.2.2.2.2.1 (S.2.2.2.2.1.getD 0)).1).2.1.length : Int)) then .inl (tg S.2.2.2.2.2.1.2.1 i j) else .inr 0
  | 22 => if S.2.2.2.1.2.1 = 0 then .inr 4 else if 0 ≤ i ∧ i < (S.2.2.2.2.2.1.2.1.length : Int) then .inl (rpLike S.2.2.2.2.2.1.2.1 i S.2.2.2.2.2.1.2.1.length) else .inr 0
  | 23 => if S.2.2.2.1.2.1 = 0 then .inr 4 else if S.2.2.2.2.2.2.2.2.2.2.2 = -1 then .inr 3 else .inl S.2.2.2.2.2.2.2.2.2.2.2
  | 24 => if S.2.2.2.1.2.1 = 0 then .inr 4 else .inl S.2.2.2.2.2.2.1
  | 25 => if S.2.2.2.1.2.1 = 0 then .inr 4 else .inl S.2.2.2.2.2.2.2.1
  | 26 => if S.2.2.2.1.2.1 = 0 then .inr 4 else .inl S.2.2.2.2.2.2.2.2.1
  | 27 => if S.2.2.2.1.2.1 = 0 then .inr 4 else .inl (S.2.2.2.2.2.1.2.2.length : Int)
  | 28 => if S.2.2.2.1.2.1 = 0 then .inr 4 else if 0 ≤ i ∧ i < (S.2.2.2.2.2.1.2.2.length : Int) then .inl (tg S.2.2.2.2.2.1.2.2 i 0) else .inr 0
  | 29 => if S.2.2.2.1.2.1 = 0 then .inr 4 else if 0 ≤ i ∧ i < (S.2.2.2.2.2.1.2.2.length : Int) then .inl (tg S.2.2.2.2.2.1.2.2 i 1) else .inr 0
  | _ => .inr 0
theorem rdS_lt {S : whS} {q : Nat} {a b : Int} : ∀ i, rdS S q a b = .inr i → i < 5 := fun i h => by
  unfold rdS at h
  repeat' split at h
  all_goals first | (cases h; decide) | (cases h)
/-- what the readers ask of the object -/
def rdF (S : whS) : Prop := (∀ md, md ∈ S.2.2.1.2.2.1.2.1 → (S.2.2.1.2.2.2.2.1 md).2.2.2.2.2.1 = 0 ∨ (S.2.2.1.2.2.2.2.1 md).2.2.2.2.2.1 = 1) ∧ ((0 ≤ S.2.2.2.2.2.2.2.2.2.1 ∧ S.2.2.2.2.2.2.2.2.2.1 < 65536) ∧ S.2.2.2.2.2.1.2.1.length < 1000 ∧ ∀ i : Int, 0 ≤ i → i < (S.2.2.2.2.2.1.2.2.length : Int) → 0 ≤ tg S.2.2.2.2.2.1.2.2 i 0 ∧ tg S.2.2.2.2.2.1.2.2 i 0 < 65536) ∧ (S.2.2.2.1.2.1 ≠ 0 → ∃ md, S.2.2.2.2.1 = some md ∧ md ∈ S.2.2.1.2.2.1.2.1 ∧ (S.2.2.1.2.2.2.2.1 md).1 ∈ S.2.2.1.2.2.1.1)
theorem mdAt_mem {w : zW} {pg : Nat} {R : pgR} {i j : Int} {md : Nat} (hP : pgW w pg R) (h : mdAt R i j = some md) : md ∈ R.2.2.1.2.1 := by
  unfold mdAt at h
  cases hl : lAt R.2.2.1.1 i with
  | none => rw [hl] at h; cases h
  | some y =>
    rw [hl] at h
    have h : lAt (R.2.2.2.1 y).2.2.1.2 j = some md := h
    exact (hP.2.2.2.2.1 y (lAt_mem hl)).2.1 md (lAt_mem h)
section KRD
variable {G : zG} {d : Nat} {w : zW} {o k1 k2 : Nat} {S : whS}
theorem k_rd (h : whW w o k1 k2 S) (hF : rdF S) (hst0 : G.1.stackTraces = false) (hr : w.2.1 + 100 ≤ G.2.2.2.2.1 ∧ w.2.2 + 1000 ≤ G.2.2.2.2.2) {q : Nat} (hq : (13 ≤ q ∧ q ≤ 16) ∨ (20 ≤ q ∧ q ≤ 29)) (hb : q = 23 → S.2.2.2.1.2.1 ≠ 0 → S.2.2.2.2.2.2.2.2.2.2.1 ≠ 0) (a b c e1 e2 : Int) : zM G zm_L_call (d + 13) [zR o, zI (q : Int), zI a, zI b, zI c, zI e1, zI e2] w (lwQ w o (k1 + 60) (k2 + 6) (fun r S' => r = rdS S q a b ∧ S' = S)) := by
  obtain ⟨⟨ty, C⟩, tm, R, ⟨comp, asked, sum⟩, ⟨mo, ⟨I, An, Nt⟩, ⟨sc, cc, dc, en, bk, bc⟩⟩⟩ := S
  obtain ⟨of, ho, pg, hP⟩ : ∃ of, w.1 o = some (11, 0, of) ∧ ∃ pg, pgW w pg R := by
    obtain ⟨A, T, Sp, M, B, hP, -⟩ := h
    obtain ⟨⟨t, tc, tn, th, tz⟩, pg, ⟨mc, fa, ca, ta⟩, ⟨⟨la, lai, laa, lan⟩, ⟨sp, spi, spa, spn⟩⟩, br, ⟨nd, va, ce, li⟩, ⟨ro, bi, le, wk⟩⟩ := A
    obtain ⟨N, H, Sz⟩ := T
    exact ⟨_, hP.1, pg, hP.2.2.2.1.1⟩
  have hgd : ∀ md, mdAt R a b = some md → (R.2.2.2.2.1 md).2.2.2.2.2.1 = 0 ∨ (R.2.2.2.2.1 md).2.2.2.2.2.1 = 1 := fun md hm => hF.1 md (mdAt_mem hP hm)
  obtain ⟨j, hj⟩ : ∃ j : Nat, (q = 13 + j ∧ j < 4) ∨ (q = 20 + j ∧ j < 10) := by
    rcases hq with k | k
    · exact ⟨q - 13, by omega⟩
    · exact ⟨q - 20, by omega⟩
  rcases (show q = 13 ∨ q = 14 ∨ q = 15 ∨ q = 16 ∨ q = 20 ∨ q = 21 ∨ q = 22 ∨ q = 23 ∨ q = 24 ∨ q = 25 ∨ q = 26 ∨ q = 27 ∨ q = 28 ∨ q = 29 by omega) with rfl | rfl | rfl | rfl | rfl | rfl | rfl | rfl | rfl | rfl | rfl | rfl | rfl | rfl
  · exact zM_any (lc_fault (d := d + 12) ho fw_fc (zM_any (w_fa (d := d + 6) h hst0 hr a b) (fw_rd (rdS_lt (S := ((ty, C), tm, R, (comp, asked, sum), (mo, (I, An, Nt), (sc, cc, dc, en, bk, bc)))) (q := 13) (a := a) (b := b))))) lw_fw
  · refine zM_any (lc_isGood (d := d + 12) ho fw_fc (zM_any (w_ig (d := d + 6) h hst0 hr a b hgd) (fw_rd (rdS_lt (S := ((ty, C), tm, R, (comp, asked, sum), (mo, (I, An, Nt), (sc, cc, dc, en, bk, bc)))) (q := 14) (a := a) (b := b)))) (fun n w1 q => ?_)) lw_fw
    obtain ⟨r, S', ⟨e, -⟩, -, z⟩ := q
    cases r with
    | inr i => exact absurd z.2 (by simp)
    | inl m =>
      have z1 : some (zI n) = some (zI m) := Sum.inl.inj z
      have z2 : zI n = zI m := Option.some.inj z1
      have z3 : n = m := Sum.inl.inj z2
      subst z3
      cases hm : mdAt R a b with
      | none =>
        rw [hm] at e
        cases e
      | some md =>
        rw [hm] at e
        have e : (Sum.inl n : Int ⊕ Nat) = (if comp = 0 then .inr 2 else .inl (R.2.2.2.2.1 md).2.2.2.2.2.1) := e
        by_cases hc : comp = 0
        · rw [if_pos hc] at e
          cases e
        · rw [if_neg hc] at e
          rw [Sum.inl.inj e]
          exact hgd md hm
  · exact zM_any (lc_found (d := d + 12) ho fw_fc (zM_any (w_fo (d := d + 6) h hst0 hr a b) (fw_rd (rdS_lt (S := ((ty, C), tm, R, (comp, asked, sum), (mo, (I, An, Nt), (sc, cc, dc, en, bk, bc)))) (q := 15) (a := a) (b := b))))) lw_fw
  · exact zM_any (lc_switchOf (d := d + 12) ho fw_fc (zM_any (w_sw (d := d + 6) h hst0 hr a b) (fw_rd (rdS_lt (S := ((ty, C), tm, R, (comp, asked, sum), (mo, (I, An, Nt), (sc, cc, dc, en, bk, bc)))) (q := 16) (a := a) (b := b))))) lw_fw
  · exact zM_any (lc_ending (d := d + 12) ho fw_fc (zM_any (w_en (d := d + 7) h hst0 hr hF.2.1.1) (fw_rd (rdS_lt (S := ((ty, C), tm, R, (comp, asked, sum), (mo, (I, An, Nt), (sc, cc, dc, en, bk, bc)))) (q := 20) (a := a) (b := b))))) lw_fw
  · exact zM_any (lc_answerAt (d := d + 12) ho fw_fc (zM_any (w_aa (d := d + 6) h hst0 hr a b hF.2.2) (fw_rd (rdS_lt (S := ((ty, C), tm, R, (comp, asked, sum), (mo, (I, An, Nt), (sc, cc, dc, en, bk, bc)))) (q := 21) (a := a) (b := b))))) lw_fw
  · exact zM_any (lc_multiplicity (d := d + 12) ho fw_fc (zM_any (w_mu (d := d + 6) h hst0 hr hF.2.1.2.1 a) (fw_rd (rdS_lt (S := ((ty, C), tm, R, (comp, asked, sum), (mo, (I, An, Nt), (sc, cc, dc, en, bk, bc)))) (q := 22) (a := a) (b := b))))) lw_fw
  · exact zM_any (lc_answersByBreadth (d := d + 12) ho fw_fc (zM_any (w_bb (d := d + 7) h hst0 hr (hb rfl)) (fw_rd (rdS_lt (S := ((ty, C), tm, R, (comp, asked, sum), (mo, (I, An, Nt), (sc, cc, dc, en, bk, bc)))) (q := 23) (a := a) (b := b))))) lw_fw
  · exact zM_any (lc_steps (d := d + 12) ho fw_fc (zM_any (w_steps (d := d + 7) h hst0 hr) (fw_rd (rdS_lt (S := ((ty, C), tm, R, (comp, asked, sum), (mo, (I, An, Nt), (sc, cc, dc, en, bk, bc)))) (q := 24) (a := a) (b := b))))) lw_fw
  · exact zM_any (lc_choicePoints (d := d + 12) ho fw_fc (zM_any (w_cp (d := d + 7) h hst0 hr) (fw_rd (rdS_lt (S := ((ty, C), tm, R, (comp, asked, sum), (mo, (I, An, Nt), (sc, cc, dc, en, bk, bc)))) (q := 25) (a := a) (b := b))))) lw_fw
  · exact zM_any (lc_deepest (d := d + 12) ho fw_fc (zM_any (w_dp (d := d + 7) h hst0 hr) (fw_rd (rdS_lt (S := ((ty, C), tm, R, (comp, asked, sum), (mo, (I, An, Nt), (sc, cc, dc, en, bk, bc)))) (q := 26) (a := a) (b := b))))) lw_fw
  · exact zM_any (lc_recorded (d := d + 12) ho fw_fc (zM_any (w_rc (d := d + 7) h hst0 hr) (fw_rd (rdS_lt (S := ((ty, C), tm, R, (comp, asked, sum), (mo, (I, An, Nt), (sc, cc, dc, en, bk, bc)))) (q := 27) (a := a) (b := b))))) lw_fw
  · exact zM_any (lc_recordAt (d := d + 12) ho fw_fc (zM_any (w_ra (d := d + 6) h hst0 hr a (hF.2.1.2.2 a)) (fw_rd (rdS_lt (S := ((ty, C), tm, R, (comp, asked, sum), (mo, (I, An, Nt), (sc, cc, dc, en, bk, bc)))) (q := 28) (a := a) (b := b))))) lw_fw
  · exact zM_any (lc_whereAt (d := d + 12) ho fw_fc (zM_any (w_wa (d := d + 6) h hst0 hr a) (fw_rd (rdS_lt (S := ((ty, C), tm, R, (comp, asked, sum), (mo, (I, An, Nt), (sc, cc, dc, en, bk, bc)))) (q := 29) (a := a) (b := b))))) lw_fw
end KRD
