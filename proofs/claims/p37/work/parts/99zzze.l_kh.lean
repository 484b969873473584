/-! Own rows: a question asked, and holds behind it. By hand. -/
theorem ask_st {e : Nat} {S S' : whS} {p m : Nat} {r : Int ⊕ Nat} (h : lwI e S) (q : askQ S p m r S') : (∃ n : Nat, r = .inl (n : Int)) ∨ (rvN r < 0 ∧ S' = S ∧ lwI (e + 1) S') := by
  rcases q with ⟨n, tm', La', e1, -⟩ | ⟨i, hi, e1, e2⟩
  · exact Or.inl ⟨n, e1⟩
  · subst e1
    subst e2
    exact Or.inr ⟨rvN_r, rfl, lwI_le h (by omega)⟩
theorem qs_rdF {R : pgR} (hI : lwT R) {tt : Int × List (List Int)} {tm : List smG} {fl : Int × Int × Int} {La : whL} {p m : Nat} (hq : qsF R La p m) : rdF (tt, tm, R, fl, La) := by
  obtain ⟨mo, ⟨I, An, Nt⟩, ⟨sc, cc, dc, en, bk, bc⟩⟩ := La
  obtain ⟨md, e1, hm, hg, n50, -, -, -, -, hen, nt, hNt, hnt⟩ := hq
  have n50 : An.length ≤ 50 := n50
  have hen : en = 101 ∨ en = 108 := hen
  have hNt : Nt = nt.map (fun e => [(e.1 : Int), (e.2 : Int)]) := hNt
  have hNl : Nt.length = nt.length := by rw [hNt, List.length_map]
  obtain ⟨y, hy, hym, hmdm, hmy, -⟩ := pgMo_in hI.1.1 hm
  refine ⟨hI.2.2, ⟨by show 0 ≤ en ∧ en < 65536; omega, by show An.length < 1000; omega, fun i h0 h1 => ?_⟩, fun _ => ⟨md, e1, hmdm, by show (R.2.2.2.2.1 md).1 ∈ R.2.2.1.1; rw [hmy]; exact hym⟩⟩
  show 0 ≤ tg Nt i 0 ∧ tg Nt i 0 < 65536
  have h1 : i < (Nt.length : Int) := h1
  obtain ⟨k, hk⟩ : ∃ k : Nat, i = (k : Int) := ⟨i.toNat, by omega⟩
  subst hk
  obtain ⟨x, hx⟩ : ∃ x, nt[k]? = some x := ⟨_, List.getElem?_eq_getElem (by omega)⟩
  have hr : Nt[k]? = some [(x.1 : Int), (x.2 : Int)] := by
    rw [hNt, List.getElem?_map, hx]
    rfl
  have e0 : tg Nt (k : Int) 0 = (x.1 : Int) := tg_at (j := 0) hr
  have h4 := (hnt.2.2.1 x (List.mem_of_getElem? hx)).1
  rw [e0]
  omega
theorem k_ho {G : zG} {d : Nat} {w : zW} {o k1 k2 e : Nat} {S S' : whS} {p m n : Nat} (hI : lwI e S) (hq : askQ S p m (.inl (n : Int)) S') (hW : whW w o k1 k2 S') (hst0 : G.1.stackTraces = false) (hk : k1 + 22000 + 6000000 ≤ 60 * G.2.2.2.2.1 ∧ k2 + 2200 + 6830000 ≤ G.2.2.2.2.2) : zM G zm_L_holds (d + 14) [zR o, zI (p : Int), zI (m : Int), zI (n : Int)] w (fun out w' => out = .inl (some (zI 1)) ∧ ∃ S2 : whS, whW w' o (k1 + 22000) (k2 + 2200) S2 ∧ lwI (e + 1) S2 ∧ S2.2.2.1 = S.2.2.1 ∧ S2.2.2.2.1.1 = S.2.2.2.1.1) := by
  rcases hq with ⟨n', tm', La', e1, hc, e2, ⟨t, ht⟩, hl, hq, hb, hn, hbk⟩ | ⟨i, hi, e1, e2⟩
  · have e1 : (n : Int) = (n' : Int) := Sum.inl.inj e1
    have e1 : n = n' := by omega
    subst e1
    subst e2
    obtain ⟨⟨ty, C⟩, tm, R, ⟨comp, asked, sum⟩, La⟩ := S
    obtain ⟨mo, ⟨I, An, Nt⟩, ⟨sc, cc, dc, en, bk, bc⟩⟩ := La'
    obtain ⟨a1, a2, a3, a4, a5, a6, a7, a8, a9⟩ := hI
    cases a1
    have hc : comp ≠ 0 := hc
    have a3 : lwT R := a3
    have a6 : 0 ≤ asked ∧ asked ≤ (e : Int) := a6
    have a7 : 0 ≤ sum ∧ sum ≤ 300 * (e : Int) := a7
    have hn : An.length = n := hn
    have a2 : 3 ≤ tm.length := a2
    have ht : tm' = tm ++ t := ht
    have hbk : bk = 0 := hbk
    have htl : 3 ≤ tm'.length := by
      rw [ht, List.length_append]
      omega
    have hF : rdF ((1, C3), tm', R, (comp, asked + 1, sum + sc), (mo, (I, An, Nt), (sc, cc, dc, en, bk, bc))) := qs_rdF a3 hq
    have hsc : 0 ≤ sc ∧ sc ≤ 300 := by
      obtain ⟨md, -, -, -, -, -, -, q, -⟩ := hq
      exact q
    have key := c_L_holds (G := G) (d := d) (w := w) (o := o) (k1 := k1) (k2 := k2) (pn := p) (mn := m) hW hst0 hk rfl a3 (a5 hc) hc (by omega) hbk (by omega) hF hq hb
    rw [hn] at key
    refine zM_any key (fun out w' q => ?_)
    obtain ⟨q1, bq, q2, -⟩ := q
    refine ⟨q1, _, q2, ⟨rfl, htl, a3, a4, a5, ?_, ?_, ?_, fun _ => ⟨hc, by show (1 : Int) ≠ 0; decide⟩⟩, rfl, rfl⟩
    · show 0 ≤ asked + 1 ∧ asked + 1 ≤ ((e + 1 : Nat) : Int)
      omega
    · show 0 ≤ sum + sc ∧ sum + sc ≤ 300 * ((e + 1 : Nat) : Int)
      omega
    · unfold rdF at hF ⊢
      exact hF
  · cases e1
/-- the law's state and holds, called from the law -/
theorem zp_stt {X : State → Prop} {G : zG} {M : zMd} {d : Nat} {av : List zV} {w0 : zW} {Q : zQ} {pc : Nat} {L : List (Option zV)} {st : List zV} {w : zW} {o k1 k2 e : Nat} {S : whS} (hm : M.1.cls = "ModedMillLaw") (hd : decode M.2.1 pc = .ok (.invokestatic 145, 3)) (hW : whW w o k1 k2 S) (hI : lwI e S) (hst0 : G.1.stackTraces = false) (hk : k1 + 3240 + 6000000 ≤ 60 * G.2.2.2.2.1 ∧ k2 + 324 + 6830000 ≤ G.2.2.2.2.2) (hst : st.length ≤ 4) (hh : M.2.2.2.2 = []) (k : ∀ w', whW w' o (k1 + 3240) (k2 + 324) S → zXp X G M (d + 15) av w0 Q (pc + 3) L (zJ (stF S) :: st) w') : zXp X G M (d + 15) av w0 Q pc L (zR o :: st) w := by
  obtain ⟨a1, a2, a3, a4, a5, a6, a7, a8, a9⟩ := hI
  refine zp_invokestatic (As := [zR o]) (st := st) hd (by rw [hm]; exact zc_L_145) rfl hst hh (c_L_state (d := d) hW a8 (fun x => (a9 x).2) hst0 hk) (fun v w' q => ?_) (fun i w' q => ?_)
  · obtain ⟨e1, q1, -⟩ := q
    cases e1
    exact k w' q1
  · cases q.1
theorem zp_hol {X : State → Prop} {G : zG} {M : zMd} {d : Nat} {av : List zV} {w0 : zW} {Q : zQ} {pc : Nat} {L : List (Option zV)} {st : List zV} {w : zW} {o k1 k2 e : Nat} {S S' : whS} {p m n : Nat} (hm : M.1.cls = "ModedMillLaw") (hd : decode M.2.1 pc = .ok (.invokestatic 153, 3)) (hI : lwI e S) (hq : askQ S p m (.inl (n : Int)) S') (hW : whW w o k1 k2 S') (hst0 : G.1.stackTraces = false) (hk : k1 + 22000 + 6000000 ≤ 60 * G.2.2.2.2.1 ∧ k2 + 2200 + 6830000 ≤ G.2.2.2.2.2) (hst : st.length ≤ 4) (hh : M.2.2.2.2 = []) (k : ∀ (S2 : whS) (w' : zW), whW w' o (k1 + 22000) (k2 + 2200) S2 → lwI (e + 1) S2 → S2.2.2.1 = S.2.2.1 → S2.2.2.2.1.1 = S.2.2.2.1.1 → zXp X G M (d + 15) av w0 Q (pc + 3) L (zI 1 :: st) w') : zXp X G M (d + 15) av w0 Q pc L (zI (n : Int) :: zI (m : Int) :: zI (p : Int) :: zR o :: st) w := by
  refine zp_invokestatic (As := [zR o, zI (p : Int), zI (m : Int), zI (n : Int)]) (st := st) hd (by rw [hm]; exact zc_L_153) rfl hst hh (k_ho (d := d) hI hq hW hst0 hk) (fun v w' q => ?_) (fun i w' q => ?_)
  · obtain ⟨e1, S2, q1, q2, q3, q4⟩ := q
    cases e1
    exact k S2 w' q1 q2 q3 q4
  · cases q.1
/-- sizeOf, called from the law -/
theorem zp_sz {X : State → Prop} {G : zG} {M : zMd} {d : Nat} {av : List zV} {w0 : zW} {Q : zQ} {pc : Nat} {L : List (Option zV)} {st : List zV} {w : zW} {o k1 k2 n : Nat} {S : whS} {g : smG} (hm : M.1.cls = "ModedMillLaw") (hd : decode M.2.1 pc = .ok (.invokevirtual 149, 3)) (hW : whW w o k1 k2 S) (hn : S.2.1[n]? = some g) (hst : st.length ≤ 4) (hh : M.2.2.2.2 = []) (k : zXp X G M (d + 14) av w0 Q (pc + 3) L (zJ ((g.1 : Int) + 1) :: st) w) : zXp X G M (d + 14) av w0 Q pc L (zI (n : Int) :: zR o :: st) w := by
  obtain ⟨of, ho⟩ := whW_o hW
  obtain ⟨⟨ty, C⟩, tm, R, ⟨comp, asked, sum⟩, ⟨mo, ⟨I, An, Nt⟩, ⟨sc, cc, dc, en, bk, bc⟩⟩⟩ := S
  exact zp_iv (b := o) (As := [zI (n : Int)]) (st := st) (v := some (zJ ((g.1 : Int) + 1))) (w1 := w) hd (by rw [hm]; exact zc_L_149) ho rfl rfl rfl hst hh (w_sz (d := d + 10) hW hn) k
