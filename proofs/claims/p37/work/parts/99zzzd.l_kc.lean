/-! Own rows: the law's calls of what changes the object; the law's invariant. By hand (printed by wip/p37/m_kc.py). -/
/-- the law's invariant: e calls have been made at most -/
def lwI (e : Nat) (S : whS) : Prop := S.1 = (1, C3) ∧ 3 ≤ S.2.1.length ∧ lwT S.2.2.1 ∧ (S.2.2.2.1.1 = 0 ∨ S.2.2.2.1.1 = 1) ∧ (S.2.2.2.1.1 ≠ 0 → cpF S.2.2.1) ∧ (0 ≤ S.2.2.2.1.2.1 ∧ S.2.2.2.1.2.1 ≤ (e : Int)) ∧ (0 ≤ S.2.2.2.1.2.2 ∧ S.2.2.2.1.2.2 ≤ 300 * (e : Int)) ∧ rdF S ∧ (S.2.2.2.1.2.1 ≠ 0 → S.2.2.2.1.1 ≠ 0 ∧ S.2.2.2.2.2.2.2.2.2.2.1 ≠ 0)
theorem lwI_le {e e' : Nat} {S : whS} (h : lwI e S) (he : e ≤ e') : lwI e' S := by
  obtain ⟨a1, a2, a3, a4, a5, a6, a7, a8, a9⟩ := h
  exact ⟨a1, a2, a3, a4, a5, ⟨a6.1, by omega⟩, ⟨a7.1, by omega⟩, a8, a9⟩
theorem rvN_l {n : Nat} : 0 ≤ rvN (.inl (n : Int)) := Int.natCast_nonneg n
theorem rvN_r {i : Nat} : rvN (.inr i) < 0 := by
  show -1001 - (i : Int) < 0
  omega
/-- behind a call that builds -/
theorem bd_st {e δ : Nat} {S S' : whS} {r : Int ⊕ Nat} (h : lwI e S) (q : bdQ S δ r S') : lwI (e + 1) S' ∧ ((0 ≤ rvN r ∧ S'.2.2.1.2.2.1.1.length = S.2.2.1.2.2.1.1.length + δ ∧ S'.2.2.2.1.1 = S.2.2.2.1.1) ∨ (rvN r < 0 ∧ S' = S)) := by
  rcases q with ⟨hc, R', n, e1, e2, e3, e4⟩ | ⟨i, hi, e1, e2⟩
  · subst e1
    subst e2
    obtain ⟨a1, a2, a3, a4, a5, a6, a7, a8, a9⟩ := h
    have ha : S.2.2.2.1.2.1 = 0 := Classical.byContradiction fun x => (a9 x).1 hc
    refine ⟨⟨a1, a2, e3, a4, fun x => absurd hc x, ⟨a6.1, by show S.2.2.2.1.2.1 ≤ _; omega⟩, ⟨a7.1, by show S.2.2.2.1.2.2 ≤ _; omega⟩, ⟨e3.2.2, a8.2.1, fun x => absurd ha x⟩, fun x => absurd ha x⟩, Or.inl ⟨rvN_l, e4, rfl⟩⟩
  · subst e1
    subst e2
    exact ⟨lwI_le h (by omega), Or.inr ⟨rvN_r, rfl⟩⟩
/-- behind compile -/
theorem cm_st {e : Nat} {S S' : whS} {r : Int ⊕ Nat} (h : lwI e S) (q : (S.2.2.2.1.1 = 0 ∧ ∃ (R' : pgR) (n : Nat), r = .inl (n : Int) ∧ S' = (S.1, S.2.1, R', (1, S.2.2.2.1.2.1, S.2.2.2.1.2.2), S.2.2.2.2) ∧ anR S.2.2.1 R') ∨ (S.2.2.2.1.1 ≠ 0 ∧ r = .inr 2 ∧ S' = S)) : lwI (e + 1) S' ∧ S'.2.2.1.2.2.1.1 = S.2.2.1.2.2.1.1 ∧ ((0 ≤ rvN r ∧ S'.2.2.2.1.1 = 1) ∨ (rvN r = -1003 ∧ S.2.2.2.1.1 = 1 ∧ S' = S)) := by
  obtain ⟨a1, a2, a3, a4, a5, a6, a7, a8, a9⟩ := id h
  rcases q with ⟨hc, R', n, e1, e2, d1, d2, d3, d4, d5⟩ | ⟨hc, e1, e2⟩
  · subst e1
    subst e2
    have ha : S.2.2.2.1.2.1 = 0 := Classical.byContradiction fun x => (a9 x).1 hc
    refine ⟨⟨a1, a2, ⟨d1, fun a haM => ?_, d5⟩, Or.inr rfl, fun _ => d2, ⟨a6.1, by show S.2.2.2.1.2.1 ≤ _; omega⟩, ⟨a7.1, by show S.2.2.2.1.2.2 ≤ _; omega⟩, ⟨d5, a8.2.1, fun x => absurd ha x⟩, fun x => absurd ha x⟩, by show R'.2.2.1.1 = _; rw [d3.1], Or.inl ⟨rvN_l, rfl⟩⟩
    have haM : a ∈ R'.2.2.1.2.2 := haM
    rw [d3.1] at haM
    show (R'.2.2.2.2.2.1 a).2.2.1.length = 8 ∧ ∀ k : Nat, tg (R'.2.2.2.2.2.1 a).2.2.1 (k : Int) 0 = -1 ∨ tg (R'.2.2.2.2.2.1 a).2.2.1 (k : Int) 0 = 0
    rw [d4 a]
    exact a3.2.1 a haM
  · subst e1
    subst e2
    exact ⟨lwI_le h (by omega), rfl, Or.inr ⟨rfl, a4.resolve_left hc, rfl⟩⟩
/-- behind open -/
theorem op_st {e : Nat} {S S' : whS} {r : Int ⊕ Nat} (h : lwI e S) (q : (S.2.2.2.1.1 ≠ 0 ∧ r = .inl S.2.2.2.1.2.1 ∧ S' = (S.1, S.2.1, S.2.2.1, (0, 0, 0), S.2.2.2.2)) ∨ (S.2.2.2.1.1 = 0 ∧ r = .inr 2 ∧ S' = S)) : lwI (e + 1) S' ∧ S'.2.2.1 = S.2.2.1 ∧ ((0 ≤ rvN r ∧ S'.2.2.2.1.1 = 0) ∨ (rvN r < 0 ∧ S.2.2.2.1.1 = 0 ∧ S' = S)) := by
  obtain ⟨a1, a2, a3, a4, a5, a6, a7, a8, a9⟩ := id h
  rcases q with ⟨hc, e1, e2⟩ | ⟨hc, e1, e2⟩
  · subst e1
    subst e2
    exact ⟨⟨a1, a2, a3, Or.inl rfl, fun x => absurd rfl x, ⟨Int.le_refl 0, by show (0 : Int) ≤ _; omega⟩, ⟨Int.le_refl 0, by show (0 : Int) ≤ _; omega⟩, ⟨a8.1, a8.2.1, fun x => absurd rfl x⟩, fun x => absurd rfl x⟩, rfl, Or.inl ⟨a6.1, rfl⟩⟩
  · subst e1
    subst e2
    exact ⟨lwI_le h (by omega), rfl, Or.inr ⟨rvN_r, hc, rfl⟩⟩
/-- behind term -/
theorem tm_st {e : Nat} {S S' : whS} {x : smG} {r : Int ⊕ Nat} (h : lwI e S) (q : tmQ S x r S') : lwI (e + 1) S' ∧ S'.2.2 = S.2.2 ∧ ((∃ n : Nat, rvN r = (n : Int) ∧ S'.2.1[n]? = some x ∧ S'.2.1.Nodup ∧ ∀ (k : Nat) (z : smG), S.2.1[k]? = some z → S'.2.1[k]? = some z) ∨ (rvN r < 0 ∧ S' = S)) := by
  obtain ⟨a1, a2, a3, a4, a5, a6, a7, a8, a9⟩ := id h
  rcases q with ⟨n, tm', e1, e2, e3, e4, e5⟩ | ⟨i, hi, e1, e2, -⟩
  · subst e1
    subst e2
    have hl : 3 ≤ tm'.length := by
      rcases e5 with e | ⟨e, -⟩
      · rw [e]
        exact a2
      · rw [e, List.length_append]
        omega
    exact ⟨⟨a1, hl, a3, a4, a5, ⟨a6.1, by show S.2.2.2.1.2.1 ≤ _; omega⟩, ⟨a7.1, by show S.2.2.2.1.2.2 ≤ _; omega⟩, a8, a9⟩, rfl, Or.inl ⟨n, rfl, e3, e4, fun k z hz => by
      show tm'[k]? = some z
      rcases e5 with e | ⟨e, -⟩
      · rw [e]
        exact hz
      · rw [e, List.getElem?_append_left (List.getElem?_eq_some_iff.mp hz).1]
        exact hz⟩⟩
  · subst e1
    subst e2
    exact ⟨lwI_le h (by omega), rfl, Or.inr ⟨rvN_r, rfl⟩⟩
/-- term, a second time -/
theorem tm_2 {S S' : whS} {x : smG} {r : Int ⊕ Nat} {n : Nat} (q : tmQ S x r S') (hn : S.2.1[n]? = some x) : rvN r = (n : Int) ∧ S' = S := by
  have hm : x ∈ S.2.1 := List.mem_of_getElem? hn
  rcases q with ⟨n', tm', e1, e2, e3, e4, e5⟩ | ⟨i, hi, e1, e2, -, e3⟩
  · rcases e5 with e | ⟨-, -, e, -⟩
    · rw [e] at e2 e3 e4
      subst e1
      refine ⟨?_, e2⟩
      rw [nd_inj e4 e3 hn]
      rfl
    · exact absurd hm e
  · exact absurd hm e3
section KC
variable {G : zG} {d : Nat} {w : zW} {o k1 k2 : Nat}
theorem k_ap {S : whS} {e : Nat} (hW : whW w o k1 k2 S) (hI : lwI e S) (hst0 : G.1.stackTraces = false) (hk : k1 + 6000000 ≤ 60 * G.2.2.2.2.1 ∧ k2 + 6830000 ≤ G.2.2.2.2.2) {a b : Int} (ha : a = -1 ∨ a = 0) (hb : b = -1 ∨ b = 0) {e1 e2 : Int} : zM G zm_L_call (d + 14) [zR o, zI 5, zI a, zI b, zI (-1), zI e1, zI e2] w (lwQ w o (k1 + 1000) (k2 + 200) (bdQ S 1)) := by
  obtain ⟨⟨ty, C⟩, tm, R, ⟨comp, asked, sum⟩, La⟩ := S
  obtain ⟨of, ho⟩ := whW_o hW
  have hr := whW_room hW hk.1 hk.2
  obtain ⟨a1, a2, a3, a4, a5, a6, a7, a8, a9⟩ := hI
  cases a1
  exact zM_any (lc_addPredicate (d := d + 13) ho fw_fc (w_ap (d := d + 6) hW hst0 hr rfl a3 a b ha hb)) lw_fw
theorem k_al {S : whS} {e : Nat} (hW : whW w o k1 k2 S) (hI : lwI e S) (hst0 : G.1.stackTraces = false) (hk : k1 + 6000000 ≤ 60 * G.2.2.2.2.1 ∧ k2 + 6830000 ≤ G.2.2.2.2.2) {a b c : Int} {e1 e2 : Int} : zM G zm_L_call (d + 14) [zR o, zI 7, zI a, zI b, zI c, zI e1, zI e2] w (lwQ w o (k1 + 1000) (k2 + 200) (bdQ S 0)) := by
  obtain ⟨⟨ty, C⟩, tm, R, ⟨comp, asked, sum⟩, La⟩ := S
  obtain ⟨of, ho⟩ := whW_o hW
  have hr := whW_room hW hk.1 hk.2
  obtain ⟨a1, a2, a3, a4, a5, a6, a7, a8, a9⟩ := hI
  cases a1
  exact zM_any (lc_addClause (d := d + 13) ho fw_fc (w_al (d := d + 6) hW hst0 hr a3 a)) lw_fw
theorem k_am {S : whS} {e : Nat} (hW : whW w o k1 k2 S) (hI : lwI e S) (hst0 : G.1.stackTraces = false) (hk : k1 + 6000000 ≤ 60 * G.2.2.2.2.1 ∧ k2 + 6830000 ≤ G.2.2.2.2.2) {a b : Int} {pm : Nat} (hq : pm = 100 ∨ pm = 115 ∨ pm = 110) {e1 e2 : Int} : zM G zm_L_call (d + 14) [zR o, zI 6, zI a, zI b, zI (pm : Int), zI e1, zI e2] w (lwQ w o (k1 + 1000) (k2 + 200) (bdQ S 0)) := by
  obtain ⟨⟨ty, C⟩, tm, R, ⟨comp, asked, sum⟩, La⟩ := S
  obtain ⟨of, ho⟩ := whW_o hW
  have hr := whW_room hW hk.1 hk.2
  obtain ⟨a1, a2, a3, a4, a5, a6, a7, a8, a9⟩ := hI
  cases a1
  have ec : zi2c (pm : Int) = (pm : Int) := by
    rcases hq with e | e | e <;> subst e <;> decide
  exact zM_any (lc_addMode (d := d + 13) ho fw_fc (by rw [ec]; exact w_am (d := d + 6) hW hst0 hr a3 a b pm (by omega))) lw_fw
theorem k_ab {S : whS} {e : Nat} (hW : whW w o k1 k2 S) (hI : lwI e S) (hst0 : G.1.stackTraces = false) (hk : k1 + 6000000 ≤ 60 * G.2.2.2.2.1 ∧ k2 + 6830000 ≤ G.2.2.2.2.2) {i x kc y z : Int} (hx : 0 ≤ x ∧ x < 8) (hkc : 0 ≤ kc ∧ kc < 3) (hy : 0 ≤ y ∧ y < 8) (hz : 0 ≤ z ∧ z < 8) : zM G zm_L_call (d + 14) [zR o, zI 8, zI i, zI x, zI kc, zI y, zI z] w (lwQ w o (k1 + 1000) (k2 + 200) (bdQ S 0)) := by
  obtain ⟨⟨ty, C⟩, tm, R, ⟨comp, asked, sum⟩, La⟩ := S
  obtain ⟨of, ho⟩ := whW_o hW
  have hr := whW_room hW hk.1 hk.2
  obtain ⟨a1, a2, a3, a4, a5, a6, a7, a8, a9⟩ := hI
  cases a1
  exact zM_any (lc_addBuild (d := d + 13) ho fw_fc (w_ab (d := d + 5) hW hst0 hr a3 rfl i x kc y z hx hkc hy hz)) lw_fw
theorem k_as {S : whS} {e : Nat} (hW : whW w o k1 k2 S) (hI : lwI e S) (hst0 : G.1.stackTraces = false) (hk : k1 + 6000000 ≤ 60 * G.2.2.2.2.1 ∧ k2 + 6830000 ≤ G.2.2.2.2.2) {i x z : Int} (hx : 0 ≤ x ∧ x < 8) (hz : 0 ≤ z ∧ z < 8) {e1 e2 : Int} : zM G zm_L_call (d + 14) [zR o, zI 9, zI i, zI x, zI z, zI e1, zI e2] w (lwQ w o (k1 + 1000) (k2 + 200) (bdQ S 0)) := by
  obtain ⟨⟨ty, C⟩, tm, R, ⟨comp, asked, sum⟩, La⟩ := S
  obtain ⟨of, ho⟩ := whW_o hW
  have hr := whW_room hW hk.1 hk.2
  obtain ⟨a1, a2, a3, a4, a5, a6, a7, a8, a9⟩ := hI
  cases a1
  exact zM_any (lc_addSame (d := d + 13) ho fw_fc (w_as (d := d + 5) hW hst0 hr a3 i x z hx hz)) lw_fw
theorem k_cl1 {S : whS} {e : Nat} (hW : whW w o k1 k2 S) (hI : lwI e S) (hst0 : G.1.stackTraces = false) (hk : k1 + 6000000 ≤ 60 * G.2.2.2.2.1 ∧ k2 + 6830000 ≤ G.2.2.2.2.2) {i j c e1 e2 : Int} (hx : 0 ≤ zdiv c 64 ∧ zdiv c 64 < 8) (hy : 0 ≤ zrem (zdiv c 8) 8 ∧ zrem (zdiv c 8) 8 < 8) (hz : 0 ≤ zrem c 8 ∧ zrem c 8 < 8) (he : e1 = 1) : zM G zm_L_call (d + 14) [zR o, zI 10, zI i, zI j, zI c, zI e1, zI e2] w (lwQ w o (k1 + 1000) (k2 + 200) (bdQ S 0)) := by
  obtain ⟨⟨ty, C⟩, tm, R, ⟨comp, asked, sum⟩, La⟩ := S
  obtain ⟨of, ho⟩ := whW_o hW
  have hr := whW_room hW hk.1 hk.2
  obtain ⟨a1, a2, a3, a4, a5, a6, a7, a8, a9⟩ := hI
  cases a1
  exact zM_any (lc_addCall1 (d := d + 13) ho fw_fc (w_cl (d := d + 5) hW hst0 hr a3 i j _ _ _ 1 hx hy hz) he) lw_fw
theorem k_cl0 {S : whS} {e : Nat} (hW : whW w o k1 k2 S) (hI : lwI e S) (hst0 : G.1.stackTraces = false) (hk : k1 + 6000000 ≤ 60 * G.2.2.2.2.1 ∧ k2 + 6830000 ≤ G.2.2.2.2.2) {i j c e1 e2 : Int} (hx : 0 ≤ zdiv c 64 ∧ zdiv c 64 < 8) (hy : 0 ≤ zrem (zdiv c 8) 8 ∧ zrem (zdiv c 8) 8 < 8) (hz : 0 ≤ zrem c 8 ∧ zrem c 8 < 8) (he : e1 ≠ 1) : zM G zm_L_call (d + 14) [zR o, zI 10, zI i, zI j, zI c, zI e1, zI e2] w (lwQ w o (k1 + 1000) (k2 + 200) (bdQ S 0)) := by
  obtain ⟨⟨ty, C⟩, tm, R, ⟨comp, asked, sum⟩, La⟩ := S
  obtain ⟨of, ho⟩ := whW_o hW
  have hr := whW_room hW hk.1 hk.2
  obtain ⟨a1, a2, a3, a4, a5, a6, a7, a8, a9⟩ := hI
  cases a1
  exact zM_any (lc_addCall0 (d := d + 13) ho fw_fc (w_cl (d := d + 5) hW hst0 hr a3 i j _ _ _ 0 hx hy hz) he) lw_fw
theorem k_cm {S : whS} {e : Nat} (hW : whW w o k1 k2 S) (hI : lwI e S) (hst0 : G.1.stackTraces = false) (hk : k1 + 6000000 ≤ 60 * G.2.2.2.2.1 ∧ k2 + 6830000 ≤ G.2.2.2.2.2) {a b c : Int} {e1 e2 : Int} : zM G zm_L_call (d + 14) [zR o, zI 11, zI a, zI b, zI c, zI e1, zI e2] w (lwQ w o (k1 + 60) (k2 + 6) (fun r S' => (S.2.2.2.1.1 = 0 ∧ ∃ (R' : pgR) (n : Nat), r = .inl (n : Int) ∧ S' = (S.1, S.2.1, R', (1, S.2.2.2.1.2.1, S.2.2.2.1.2.2), S.2.2.2.2) ∧ anR S.2.2.1 R') ∨ (S.2.2.2.1.1 ≠ 0 ∧ r = .inr 2 ∧ S' = S))) := by
  obtain ⟨⟨ty, C⟩, tm, R, ⟨comp, asked, sum⟩, La⟩ := S
  obtain ⟨of, ho⟩ := whW_o hW
  have hr := whW_room hW hk.1 hk.2
  obtain ⟨a1, a2, a3, a4, a5, a6, a7, a8, a9⟩ := hI
  cases a1
  exact zM_any (lc_compile (d := d + 13) ho fw_fc (w_cm (d := d + 2) hW hst0 hr rfl a3.1)) lw_fw
theorem k_op {S : whS} {e : Nat} (hW : whW w o k1 k2 S) (hI : lwI e S) (hst0 : G.1.stackTraces = false) (hk : k1 + 6000000 ≤ 60 * G.2.2.2.2.1 ∧ k2 + 6830000 ≤ G.2.2.2.2.2) {a b c : Int} {e1 e2 : Int} : zM G zm_L_call (d + 14) [zR o, zI 12, zI a, zI b, zI c, zI e1, zI e2] w (lwQ w o (k1 + 60) (k2 + 6) (fun r S' => (S.2.2.2.1.1 ≠ 0 ∧ r = .inl S.2.2.2.1.2.1 ∧ S' = (S.1, S.2.1, S.2.2.1, (0, 0, 0), S.2.2.2.2)) ∨ (S.2.2.2.1.1 = 0 ∧ r = .inr 2 ∧ S' = S))) := by
  obtain ⟨⟨ty, C⟩, tm, R, ⟨comp, asked, sum⟩, La⟩ := S
  obtain ⟨of, ho⟩ := whW_o hW
  have hr := whW_room hW hk.1 hk.2
  obtain ⟨a1, a2, a3, a4, a5, a6, a7, a8, a9⟩ := hI
  cases a1
  exact zM_any (lc_open (d := d + 13) ho fw_fc (w_op (d := d + 8) hW hst0 hr)) lw_fw
theorem k_tm {S : whS} {e : Nat} (hW : whW w o k1 k2 S) (hI : lwI e S) (hst0 : G.1.stackTraces = false) (hk : k1 + 6000000 ≤ 60 * G.2.2.2.2.1 ∧ k2 + 6830000 ≤ G.2.2.2.2.2) {f : Nat} {y : smG} (hf : S.2.1[f]? = some y) {e1 e2 : Int} : zM G zm_L_call (d + 14) [zR o, zI 2, zI 1, zI (f : Int), zI 0, zI e1, zI e2] w (lwQ w o (k1 + 60) (k2 + 6) (tmQ S (y.1 + 1, y.2))) := by
  obtain ⟨⟨ty, C⟩, tm, R, ⟨comp, asked, sum⟩, La⟩ := S
  obtain ⟨of, ho⟩ := whW_o hW
  have hr := whW_room hW hk.1 hk.2
  obtain ⟨a1, a2, a3, a4, a5, a6, a7, a8, a9⟩ := hI
  cases a1
  exact zM_any (lc_term (d := d + 13) ho fw_fc (w_tm (d := d + 9) hW hst0 hr rfl (c := 1) (f := f) (y := y) (by decide) (fun _ => hf) (fun q => absurd rfl q))) lw_fw
theorem k_po {S : whS} {e : Nat} (hW : whW w o k1 k2 S) (hI : lwI e S) (hst0 : G.1.stackTraces = false) (hk : k1 + 6000000 ≤ 60 * G.2.2.2.2.1 ∧ k2 + 6830000 ≤ G.2.2.2.2.2) {n : Nat} {g : smG} (hn : S.2.1[n]? = some g) (hg : 0 < g.1) {c e1 e2 : Int} : ∃ f : Nat, S.2.1[f]? = some (g.1 - 1, g.2) ∧ zM G zm_L_call (d + 14) [zR o, zI 4, zI (n : Int), zI 0, zI c, zI e1, zI e2] w (lwQ w o (k1 + 60) (k2 + 6) (fun r S' => r = .inl (f : Int) ∧ S' = S)) := by
  obtain ⟨⟨ty, C⟩, tm, R, ⟨comp, asked, sum⟩, ⟨mo, ⟨I, An, Nt⟩, ⟨sc, cc, dc, en, bk, bc⟩⟩⟩ := S
  obtain ⟨of, ho⟩ := whW_o hW
  have hr := whW_room hW hk.1 hk.2
  obtain ⟨a1, -⟩ := hI
  cases a1
  obtain ⟨f, q1, q2⟩ := w_po (G := G) (d := d + 10) hW rfl hst0 hr hn hg
  exact ⟨f, q1, zM_any (lc_partOf (d := d + 13) ho fw_fc (zM_any q2 (fw_rd (fun i q => by cases q)))) lw_fw⟩
theorem k_co {S : whS} {e : Nat} (hW : whW w o k1 k2 S) (hI : lwI e S) (hst0 : G.1.stackTraces = false) (hk : k1 + 6000000 ≤ 60 * G.2.2.2.2.1 ∧ k2 + 6830000 ≤ G.2.2.2.2.2) {b c e1 e2 : Int} : zM G zm_L_call (d + 14) [zR o, zI 3, zI (S.2.1.length : Int), zI b, zI c, zI e1, zI e2] w (lwQ w o (k1 + 60) (k2 + 6) (fun r S' => r = .inr 0 ∧ S' = S)) := by
  obtain ⟨⟨ty, C⟩, tm, R, ⟨comp, asked, sum⟩, ⟨mo, ⟨I, An, Nt⟩, ⟨sc, cc, dc, en, bk, bc⟩⟩⟩ := S
  obtain ⟨of, ho⟩ := whW_o hW
  have hr := whW_room hW hk.1 hk.2
  exact zM_any (lc_constructorOf (d := d + 13) ho fw_fc (zM_any (w_co (d := d + 8) hW hst0 hr) (fw_rd (fun i q => by cases q; decide)))) lw_fw
theorem k_ask {S : whS} {e : Nat} (hW : whW w o k1 k2 S) (hI : lwI e S) (hst0 : G.1.stackTraces = false) (hk : k1 + 6000000 ≤ 60 * G.2.2.2.2.1 ∧ k2 + 6830000 ≤ G.2.2.2.2.2) (he : e ≤ 100) {p m : Nat} {f s : Int} (hf : 0 ≤ f ∧ f < (S.2.1.length : Int)) (hs : 0 ≤ s ∧ s < (S.2.1.length : Int)) : zM G zm_L_call (d + 14) [zR o, zI 19, zI (p : Int), zI (m : Int), zI f, zI s, zI 0] w (lwQ w o (k1 + 60) (k2 + 6) (askQ S p m)) := by
  obtain ⟨⟨ty, C⟩, tm, R, ⟨comp, asked, sum⟩, La⟩ := S
  obtain ⟨of, ho⟩ := whW_o hW
  have hr := whW_room hW hk.1 hk.2
  obtain ⟨a1, a2, a3, a4, a5, a6, a7, a8, a9⟩ := hI
  cases a1
  have a6 : 0 ≤ asked ∧ asked ≤ (e : Int) := a6
  have a7 : 0 ≤ sum ∧ sum ≤ 300 * (e : Int) := a7
  exact zM_any (lc_ask (d := d + 13) ho fw_fc (w_ask (d := d + 3) hW hst0 hk.1 hk.2 rfl a3 a5 (by omega) (by omega) p m f s hf hs)) lw_fw
end KC
