/-! Own rows: the law's holds, whole. Printed by wip/p37/m_lho2.py. -/
theorem hbv (r : Int ⊕ Nat) (bq : Int) (h1 : bq = -1 ∨ 0 ≤ bq) (er : r = if bq = -1 then .inr 3 else .inl bq) : (bq = -1 ∧ rvN r = -1004) ∨ (0 ≤ bq ∧ rvN r = bq) := by
  by_cases e : bq = -1
  · rw [if_pos e] at er
    rw [er]
    exact Or.inl ⟨e, rfl⟩
  · rw [if_neg e] at er
    rw [er]
    exact Or.inr ⟨h1.resolve_left e, rfl⟩
section LHOLD2
variable {G : zG} {d : Nat} {w : zW} {o k1 k2 : Nat} {ty : Int} {C : List (List Int)} {tm : List smG} {R : pgR} {comp asked sum : Int} {mo : Option Nat} {I An Nt : List (List Int)} {sc cc dc en bk bc : Int} {pn mn : Nat}
theorem c_L_holds (hW : whW w o k1 k2 ((ty, C), tm, R, (comp, asked, sum), (mo, (I, An, Nt), (sc, cc, dc, en, bk, bc)))) (hst0 : G.1.stackTraces = false) (hk : k1 + 22000 + 6000000 ≤ 60 * G.2.2.2.2.1 ∧ k2 + 2200 + 6830000 ≤ G.2.2.2.2.2) (hC : C = C3) (hI : lwT R) (hcp : cpF R) (hcomp : comp ≠ 0) (ha : asked ≠ 0) (hbk : bk = 0) (h0 : 0 < tm.length) (hF : rdF ((ty, C), tm, R, (comp, asked, sum), (mo, (I, An, Nt), (sc, cc, dc, en, bk, bc)))) (hq : qsF R (mo, (I, An, Nt), (sc, cc, dc, en, bk, bc)) pn mn) (hb : bdF R tm (mo, (I, An, Nt), (sc, cc, dc, en, bk, bc)) pn mn) : zM G zm_L_holds (d + 14) [zR o, zI (pn : Int), zI (mn : Int), zI (An.length : Int)] w (fun out w' => out = .inl (some (zI 1)) ∧ ∃ bq : Int, whW w' o (k1 + 22000) (k2 + 2200) ((ty, C), tm, R, (comp, asked, sum), (mo, (I, An, Nt), (sc, cc, dc, en, 1, bq))) ∧ zSc w w') := by
  refine zx_ent (by decide +kernel) rfl (Nat.le_of_ble_eq_true rfl) ?_
  refine zx_L (L1 := [some (zR o), some (zI (pn : Int)), some (zI (mn : Int)), some (zI (An.length : Int)), none, none, none, none, none, none, none, none]) rfl ?_
  obtain ⟨md, e1, hm, hg, n50, q2, q1, hsc, hdc, hen, nt, hNt, hnt⟩ := id hq
  have n50 : An.length ≤ 50 := n50
  have q2 : moF2 (R.2.2.2.2.1 md) = 0 → An.length ≤ 1 := q2
  have q1 : en = 101 → moF1 (R.2.2.2.2.1 md) = 0 → 1 ≤ An.length := q1
  have hsc : 0 ≤ sc ∧ sc ≤ 300 := hsc
  have hdc : 1 ≤ dc ∧ dc ≤ 30 := hdc
  have hNt : Nt = nt.map (fun e => [(e.1 : Int), (e.2 : Int)]) := hNt
  have hNl : Nt.length = nt.length := by rw [hNt, List.length_map]
  obtain ⟨y, hy, -⟩ := pgMo_in hI.1.1 hm
  have hp5 : pn < 1000 := by
    have := (hI.1.1.1 pn y hy).2.1
    omega
  obtain ⟨F1, hF1⟩ : ∃ F1, F1 = moF1 (R.2.2.2.2.1 md) := ⟨_, rfl⟩
  obtain ⟨F2, hF2⟩ : ∃ F2, F2 = moF2 (R.2.2.2.2.1 md) := ⟨_, rfl⟩
  rw [← hF2] at q2
  rw [← hF1] at q1
  have e15 : rvN (rdS ((ty, C), tm, R, (comp, asked, sum), (mo, (I, An, Nt), (sc, cc, dc, en, bk, bc))) 15 (pn : Int) (mn : Int)) = (if F2 = 0 then (if F1 = 0 then 100 else 115) else (if F1 = 0 then 109 else 110)) := by
    show rvN (match mdAt R (pn : Int) (mn : Int) with | none => .inr 0 | some md => if comp = 0 then .inr 2 else if (R.2.2.2.2.1 md).2.2.2.2.2.1 = 0 then .inr 4 else .inl (if (R.2.2.2.2.1 md).2.2.2.2.2.2.2.1 = 0 then (if (R.2.2.2.2.1 md).2.2.2.2.2.2.1 = 0 then 100 else 115) else (if (R.2.2.2.2.1 md).2.2.2.2.2.2.1 = 0 then 109 else 110))) = _
    rw [mdAt_pm, hm]
    show rvN (if comp = 0 then .inr 2 else if (R.2.2.2.2.1 md).2.2.2.2.2.1 = 0 then .inr 4 else .inl (if (R.2.2.2.2.1 md).2.2.2.2.2.2.2.1 = 0 then (if (R.2.2.2.2.1 md).2.2.2.2.2.2.1 = 0 then 100 else 115) else (if (R.2.2.2.2.1 md).2.2.2.2.2.2.1 = 0 then 109 else 110))) = _
    rw [if_neg hcomp, if_neg hg, hF1, hF2]
    rfl
  have e20 : rvN (rdS ((ty, C), tm, R, (comp, asked, sum), (mo, (I, An, Nt), (sc, cc, dc, en, bk, bc))) 20 0 0) = en := by
    show rvN (if asked = 0 then .inr 4 else .inl en) = en
    rw [if_neg ha]
    rfl
  have hF2 : ∀ bq : Int, rdF ((ty, C), tm, R, (comp, asked, sum), (mo, (I, An, Nt), (sc, cc, dc, en, 1, bq))) := fun bq => by
    unfold rdF at hF ⊢
    exact hF
  have e24 : ∀ bq : Int, rvN (rdS ((ty, C), tm, R, (comp, asked, sum), (mo, (I, An, Nt), (sc, cc, dc, en, 1, bq))) 24 0 0) ≤ 300 := fun bq => by
    show rvN (if asked = 0 then .inr 4 else .inl sc) ≤ 300
    rw [if_neg ha]
    exact hsc.2
  have e26 : ∀ bq : Int, 1 ≤ rvN (rdS ((ty, C), tm, R, (comp, asked, sum), (mo, (I, An, Nt), (sc, cc, dc, en, 1, bq))) 26 0 0) ∧ rvN (rdS ((ty, C), tm, R, (comp, asked, sum), (mo, (I, An, Nt), (sc, cc, dc, en, 1, bq))) 26 0 0) ≤ 30 := fun bq => by
    show 1 ≤ rvN (if asked = 0 then .inr 4 else .inl dc) ∧ rvN (if asked = 0 then .inr 4 else .inl dc) ≤ 30
    rw [if_neg ha]
    exact hdc
  have e27 : ∀ bq : Int, rvN (rdS ((ty, C), tm, R, (comp, asked, sum), (mo, (I, An, Nt), (sc, cc, dc, en, 1, bq))) 27 0 0) = (nt.length : Int) := fun bq => by
    show rvN (if asked = 0 then .inr 4 else .inl (Nt.length : Int)) = _
    rw [if_neg ha, hNl]
    rfl
  have e28 : ∀ bq : Int, ∀ (k : Nat) (x : Nat × Nat), nt[k]? = some x → rvN (rdS ((ty, C), tm, R, (comp, asked, sum), (mo, (I, An, Nt), (sc, cc, dc, en, 1, bq))) 28 (k : Int) 0) = (x.1 : Int) ∧ rvN (rdS ((ty, C), tm, R, (comp, asked, sum), (mo, (I, An, Nt), (sc, cc, dc, en, 1, bq))) 29 (k : Int) 0) = (x.2 : Int) := fun bq k x hx => by
    have hlt := (List.getElem?_eq_some_iff.mp hx).1
    have hr : Nt[k]? = some [(x.1 : Int), (x.2 : Int)] := by
      rw [hNt, List.getElem?_map, hx]
      rfl
    show rvN (if asked = 0 then .inr 4 else if 0 ≤ (k : Int) ∧ (k : Int) < (Nt.length : Int) then .inl (tg Nt (k : Int) 0) else .inr 0) = _ ∧ rvN (if asked = 0 then .inr 4 else if 0 ≤ (k : Int) ∧ (k : Int) < (Nt.length : Int) then .inl (tg Nt (k : Int) 1) else .inr 0) = _
    rw [if_neg ha, if_neg ha, if_pos (by omega), if_pos (by omega)]
    exact ⟨tg_at (j := 0) hr, tg_at (j := 1) hr⟩
  have e28z : ∀ bq : Int, rvN (rdS ((ty, C), tm, R, (comp, asked, sum), (mo, (I, An, Nt), (sc, cc, dc, en, 1, bq))) 28 (nt.length : Int) 0) = -1001 := fun bq => by
    show rvN (if asked = 0 then .inr 4 else if 0 ≤ (nt.length : Int) ∧ (nt.length : Int) < (Nt.length : Int) then .inl (tg Nt (nt.length : Int) 0) else .inr 0) = _
    rw [if_neg ha, if_neg (by omega)]
    rfl
  have h90 : ∀ (ov fd : Int), ((ov = 1 ∧ en = 101) ∨ (ov = 0 ∧ en ≠ 101)) → ∀ w5 : zW, whW w5 o (k1 + 60 + 60) (k2 + 6 + 6) ((ty, C), tm, R, (comp, asked, sum), (mo, (I, An, Nt), (sc, cc, dc, en, bk, bc))) → zSc w w5 → zX G zm_L_holds (d + 14) [zR o, zI (pn : Int), zI (mn : Int), zI (An.length : Int)] w (fun out w' => out = .inl (some (zI 1)) ∧ ∃ bq : Int, whW w' o (k1 + 22000) (k2 + 2200) ((ty, C), tm, R, (comp, asked, sum), (mo, (I, An, Nt), (sc, cc, dc, en, 1, bq))) ∧ zSc w w') 90 [some (zR o), some (zI (pn : Int)), some (zI (mn : Int)), some (zI (An.length : Int)), some (zI fd), some (zI ov), none, none, none, none, none, none] [] w5 := by
    intro ov fd hov w5 h5 s5
    have h5 : whW w5 o (k1 + 120) (k2 + 12) ((ty, C), tm, R, (comp, asked, sum), (mo, (I, An, Nt), (sc, cc, dc, en, bk, bc))) := whW_le h5 (by omega) (by omega)
    rcases hov with ⟨rfl, hen1⟩ | ⟨rfl, hen1⟩
    · skip
      refine zx_aload_n (i := 0) dL_holds_90 rfl rfl ?_
      refine zx_bipush (v := 23) dL_holds_91 (by decide +kernel) (z32_lit (by decide) (by decide)) ?_
      refine zx_iconst (v := 0) dL_holds_93 rfl (z32_lit (by decide) (by decide)) ?_
      refine zx_iconst (v := 0) dL_holds_94 rfl (z32_lit (by decide) (by decide)) ?_
      refine zx_iconst (v := 0) dL_holds_95 rfl (z32_lit (by decide) (by decide)) ?_
      refine zx_iconst (v := 0) dL_holds_96 rfl (z32_lit (by decide) (by decide)) ?_
      refine zx_iconst (v := 0) dL_holds_97 rfl (z32_lit (by decide) (by decide)) ?_
      obtain ⟨of5, ho5⟩ := whW_o h5
      refine zx_cl (d' := d + 13) (o := o) (k1 := k1 + 120 + 120) (k2 := k2 + 12 + 10) rfl dL_holds_98 (Nat.le_of_ble_eq_true rfl) rfl (zM_any (lc_answersByBreadth (d := d + 12) ho5 fw_fc (w_bbn (d := d + 4) h5 hst0 (by omega) (by omega) hC hI hcp ha hbk h0 hq hb)) lw_fw) (fun r S2 w6 q h6 s6 => ?_)
      obtain ⟨bq, eS2, hb1, hb2, er⟩ := q
      have eb := hbv r bq hb1 er
      have hb2 : en = 101 → bq = -1 ∨ bq = (An.length : Int) := hb2
      subst eS2
      refine zx_pc (pc1 := 101) rfl ?_
      refine zx_istore (i := 6) dL_holds_101 (by decide) rfl ?_
      refine zx_L (L1 := [some (zR o), some (zI (pn : Int)), some (zI (mn : Int)), some (zI (An.length : Int)), some (zI fd), some (zI 1), some (zI (rvN r)), none, none, none, none, none]) rfl ?_
      refine zx_iload (i := 5) dL_holds_103 rfl ?_
      refine zx_if_eq (tgt := 119) dL_holds_105 (by decide) (fun h105 => absurd h105 (by decide)) (fun h105 => ?_)
      refine zx_iload (i := 6) dL_holds_108 rfl ?_
      refine zx_if_lt (tgt := 119) dL_holds_110 (by decide) (fun h110 => ?_) (fun h110 => ?_)
      · refine zx_iload (i := 6) dL_holds_119 rfl ?_
        refine zx_sipush (v := -1005) dL_holds_121 (by decide +kernel) (z32_lit (by decide) (by decide)) ?_
        refine zx_icmp_ne (tgt := 129) dL_holds_124 (by decide) (fun h124 => ?_) (fun h124 => absurd (by omega) h124)
        exact ho_129 (hF2 bq) hst0 hnt rfl hp5 (e24 bq) (e26 bq) (e27 bq) (e28 bq) (e28z bq) h6 ⟨by omega, by omega⟩ (fun w7 h7 s7 => ⟨rfl, bq, whW_le h7 (by omega) (by omega), zSc_tr s5 (zSc_tr s6 s7)⟩)
      · refine zx_iload (i := 6) dL_holds_113 rfl ?_
        refine zx_iload_n (i := 3) dL_holds_115 rfl rfl ?_
        refine zx_icmp_ne (tgt := 127) dL_holds_116 (by decide) (fun h116 => absurd h116 (by omega)) (fun h116 => ?_)
        refine zx_iload (i := 6) dL_holds_119 rfl ?_
        refine zx_sipush (v := -1005) dL_holds_121 (by decide +kernel) (z32_lit (by decide) (by decide)) ?_
        refine zx_icmp_ne (tgt := 129) dL_holds_124 (by decide) (fun h124 => ?_) (fun h124 => absurd (by omega) h124)
        exact ho_129 (hF2 bq) hst0 hnt rfl hp5 (e24 bq) (e26 bq) (e27 bq) (e28 bq) (e28z bq) h6 ⟨by omega, by omega⟩ (fun w7 h7 s7 => ⟨rfl, bq, whW_le h7 (by omega) (by omega), zSc_tr s5 (zSc_tr s6 s7)⟩)
    · skip
      refine zx_aload_n (i := 0) dL_holds_90 rfl rfl ?_
      refine zx_bipush (v := 23) dL_holds_91 (by decide +kernel) (z32_lit (by decide) (by decide)) ?_
      refine zx_iconst (v := 0) dL_holds_93 rfl (z32_lit (by decide) (by decide)) ?_
      refine zx_iconst (v := 0) dL_holds_94 rfl (z32_lit (by decide) (by decide)) ?_
      refine zx_iconst (v := 0) dL_holds_95 rfl (z32_lit (by decide) (by decide)) ?_
      refine zx_iconst (v := 0) dL_holds_96 rfl (z32_lit (by decide) (by decide)) ?_
      refine zx_iconst (v := 0) dL_holds_97 rfl (z32_lit (by decide) (by decide)) ?_
      obtain ⟨of5, ho5⟩ := whW_o h5
      refine zx_cl (d' := d + 13) (o := o) (k1 := k1 + 120 + 120) (k2 := k2 + 12 + 10) rfl dL_holds_98 (Nat.le_of_ble_eq_true rfl) rfl (zM_any (lc_answersByBreadth (d := d + 12) ho5 fw_fc (w_bbn (d := d + 4) h5 hst0 (by omega) (by omega) hC hI hcp ha hbk h0 hq hb)) lw_fw) (fun r S2 w6 q h6 s6 => ?_)
      obtain ⟨bq, eS2, hb1, hb2, er⟩ := q
      have eb := hbv r bq hb1 er
      have hb2 : en = 101 → bq = -1 ∨ bq = (An.length : Int) := hb2
      subst eS2
      refine zx_pc (pc1 := 101) rfl ?_
      refine zx_istore (i := 6) dL_holds_101 (by decide) rfl ?_
      refine zx_L (L1 := [some (zR o), some (zI (pn : Int)), some (zI (mn : Int)), some (zI (An.length : Int)), some (zI fd), some (zI 0), some (zI (rvN r)), none, none, none, none, none]) rfl ?_
      refine zx_iload (i := 5) dL_holds_103 rfl ?_
      refine zx_if_eq (tgt := 119) dL_holds_105 (by decide) (fun h105 => ?_) (fun h105 => absurd (by decide) h105)
      refine zx_iload (i := 6) dL_holds_119 rfl ?_
      refine zx_sipush (v := -1005) dL_holds_121 (by decide +kernel) (z32_lit (by decide) (by decide)) ?_
      refine zx_icmp_ne (tgt := 129) dL_holds_124 (by decide) (fun h124 => ?_) (fun h124 => absurd (by omega) h124)
      exact ho_129 (hF2 bq) hst0 hnt rfl hp5 (e24 bq) (e26 bq) (e27 bq) (e28 bq) (e28z bq) h6 ⟨by omega, by omega⟩ (fun w7 h7 s7 => ⟨rfl, bq, whW_le h7 (by omega) (by omega), zSc_tr s5 (zSc_tr s6 s7)⟩)
  obtain ⟨S, hS⟩ : ∃ S : whS, S = ((ty, C), tm, R, (comp, asked, sum), (mo, (I, An, Nt), (sc, cc, dc, en, bk, bc))) := ⟨_, rfl⟩
  rw [← hS] at hW hF h90 e15 e20
  by_cases h2 : F2 = 0
  · by_cases h1 : F1 = 0
    · rw [if_pos h2, if_pos h1] at e15
      by_cases hov : en = 101
      · skip
        refine zx_aload_n (i := 0) dL_holds_0 rfl rfl ?_
        refine zx_bipush (v := 15) dL_holds_1 (by decide +kernel) (z32_lit (by decide) (by decide)) ?_
        refine zx_iload_n (i := 1) dL_holds_3 rfl rfl ?_
        refine zx_iload_n (i := 2) dL_holds_4 rfl rfl ?_
        refine zx_iconst (v := 0) dL_holds_5 rfl (z32_lit (by decide) (by decide)) ?_
        refine zx_iconst (v := 0) dL_holds_6 rfl (z32_lit (by decide) (by decide)) ?_
        refine zx_iconst (v := 0) dL_holds_7 rfl (z32_lit (by decide) (by decide)) ?_
        refine zx_rd (d := d) (o := o) (k1 := k1) (k2 := k2) (S := S) rfl dL_holds_8 (Nat.le_of_ble_eq_true rfl) rfl hW hF hst0 ⟨by omega, by omega⟩ 15 rfl (by decide) (fun q => absurd q (by decide)) (fun w_1 hW_2 sc_3 => ?_)
        refine zx_pc (pc1 := 11) rfl ?_
        refine zx_istore (i := 4) dL_holds_11 (by decide) rfl ?_
        refine zx_L (L1 := [some (zR o), some (zI (pn : Int)), some (zI (mn : Int)), some (zI (An.length : Int)), some (zI (rvN (rdS S 15 (pn : Int) (mn : Int)))), none, none, none, none, none, none, none]) rfl ?_
        refine zx_aload_n (i := 0) dL_holds_13 rfl rfl ?_
        refine zx_bipush (v := 20) dL_holds_14 (by decide +kernel) (z32_lit (by decide) (by decide)) ?_
        refine zx_iconst (v := 0) dL_holds_16 rfl (z32_lit (by decide) (by decide)) ?_
        refine zx_iconst (v := 0) dL_holds_17 rfl (z32_lit (by decide) (by decide)) ?_
        refine zx_iconst (v := 0) dL_holds_18 rfl (z32_lit (by decide) (by decide)) ?_
        refine zx_iconst (v := 0) dL_holds_19 rfl (z32_lit (by decide) (by decide)) ?_
        refine zx_iconst (v := 0) dL_holds_20 rfl (z32_lit (by decide) (by decide)) ?_
        refine zx_rd (d := d) (o := o) (k1 := (k1 + 60)) (k2 := (k2 + 6)) (S := S) rfl dL_holds_21 (Nat.le_of_ble_eq_true rfl) rfl hW_2 hF hst0 ⟨by omega, by omega⟩ 20 rfl (by decide) (fun q => absurd q (by decide)) (fun w_4 hW_5 sc_6 => ?_)
        refine zx_pc (pc1 := 24) rfl ?_
        refine zx_bipush (v := 101) dL_holds_24 (by decide +kernel) (z32_lit (by decide) (by decide)) ?_
        refine zx_icmp_ne (tgt := 33) dL_holds_26 (by decide) (fun h26 => absurd h26 (by omega)) (fun h26 => ?_)
        refine zx_iconst (v := 1) dL_holds_29 rfl (z32_lit (by decide) (by decide)) ?_
        refine zx_goto (tgt := 34) dL_holds_30 (by decide) ?_
        refine zx_istore (i := 5) dL_holds_34 (by decide) rfl ?_
        refine zx_L (L1 := [some (zR o), some (zI (pn : Int)), some (zI (mn : Int)), some (zI (An.length : Int)), some (zI (rvN (rdS S 15 (pn : Int) (mn : Int)))), some (zI 1), none, none, none, none, none, none]) rfl ?_
        refine zx_iload_n (i := 3) dL_holds_36 rfl rfl ?_
        refine zx_bipush (v := 50) dL_holds_37 (by decide +kernel) (z32_lit (by decide) (by decide)) ?_
        refine zx_icmp_gt (tgt := 88) dL_holds_39 (by decide) (fun h39 => absurd h39 (by omega)) (fun h39 => ?_)
        refine zx_iload_n (i := 3) dL_holds_42 rfl rfl ?_
        refine zx_if_lt (tgt := 88) dL_holds_43 (by decide) (fun h43 => absurd h43 (by omega)) (fun h43 => ?_)
        refine zx_iload (i := 4) dL_holds_46 rfl ?_
        refine zx_pc (pc1 := 48) rfl ?_
        refine zx_bipush (v := 100) dL_holds_48 (by decide +kernel) (z32_lit (by decide) (by decide)) ?_
        refine zx_icmp_eq (tgt := 60) dL_holds_50 (by decide) (fun h50 => ?_) (fun h50 => absurd (by omega) h50)
        refine zx_iload_n (i := 3) dL_holds_60 rfl rfl ?_
        refine zx_iconst (v := 1) dL_holds_61 rfl (z32_lit (by decide) (by decide)) ?_
        refine zx_icmp_gt (tgt := 88) dL_holds_62 (by decide) (fun h62 => absurd h62 (by omega)) (fun h62 => ?_)
        refine zx_iload (i := 5) dL_holds_65 rfl ?_
        refine zx_if_eq (tgt := 90) dL_holds_67 (by decide) (fun h67 => absurd h67 (by decide)) (fun h67 => ?_)
        refine zx_iload (i := 4) dL_holds_70 rfl ?_
        refine zx_bipush (v := 100) dL_holds_72 (by decide +kernel) (z32_lit (by decide) (by decide)) ?_
        refine zx_icmp_eq (tgt := 84) dL_holds_74 (by decide) (fun h74 => ?_) (fun h74 => absurd (by omega) h74)
        refine zx_iload_n (i := 3) dL_holds_84 rfl rfl ?_
        refine zx_if_ne (tgt := 90) dL_holds_85 (by decide) (fun h85 => ?_) (fun h85 => absurd (by omega) h85)
        exact h90 1 _ (by omega) w_4 hW_5 (zSc_tr sc_3 sc_6)
      · skip
        refine zx_aload_n (i := 0) dL_holds_0 rfl rfl ?_
        refine zx_bipush (v := 15) dL_holds_1 (by decide +kernel) (z32_lit (by decide) (by decide)) ?_
        refine zx_iload_n (i := 1) dL_holds_3 rfl rfl ?_
        refine zx_iload_n (i := 2) dL_holds_4 rfl rfl ?_
        refine zx_iconst (v := 0) dL_holds_5 rfl (z32_lit (by decide) (by decide)) ?_
        refine zx_iconst (v := 0) dL_holds_6 rfl (z32_lit (by decide) (by decide)) ?_
        refine zx_iconst (v := 0) dL_holds_7 rfl (z32_lit (by decide) (by decide)) ?_
        refine zx_rd (d := d) (o := o) (k1 := k1) (k2 := k2) (S := S) rfl dL_holds_8 (Nat.le_of_ble_eq_true rfl) rfl hW hF hst0 ⟨by omega, by omega⟩ 15 rfl (by decide) (fun q => absurd q (by decide)) (fun w_1 hW_2 sc_3 => ?_)
        refine zx_pc (pc1 := 11) rfl ?_
        refine zx_istore (i := 4) dL_holds_11 (by decide) rfl ?_
        refine zx_L (L1 := [some (zR o), some (zI (pn : Int)), some (zI (mn : Int)), some (zI (An.length : Int)), some (zI (rvN (rdS S 15 (pn : Int) (mn : Int)))), none, none, none, none, none, none, none]) rfl ?_
        refine zx_aload_n (i := 0) dL_holds_13 rfl rfl ?_
        refine zx_bipush (v := 20) dL_holds_14 (by decide +kernel) (z32_lit (by decide) (by decide)) ?_
        refine zx_iconst (v := 0) dL_holds_16 rfl (z32_lit (by decide) (by decide)) ?_
        refine zx_iconst (v := 0) dL_holds_17 rfl (z32_lit (by decide) (by decide)) ?_
        refine zx_iconst (v := 0) dL_holds_18 rfl (z32_lit (by decide) (by decide)) ?_
        refine zx_iconst (v := 0) dL_holds_19 rfl (z32_lit (by decide) (by decide)) ?_
        refine zx_iconst (v := 0) dL_holds_20 rfl (z32_lit (by decide) (by decide)) ?_
        refine zx_rd (d := d) (o := o) (k1 := (k1 + 60)) (k2 := (k2 + 6)) (S := S) rfl dL_holds_21 (Nat.le_of_ble_eq_true rfl) rfl hW_2 hF hst0 ⟨by omega, by omega⟩ 20 rfl (by decide) (fun q => absurd q (by decide)) (fun w_4 hW_5 sc_6 => ?_)
        refine zx_pc (pc1 := 24) rfl ?_
        refine zx_bipush (v := 101) dL_holds_24 (by decide +kernel) (z32_lit (by decide) (by decide)) ?_
        refine zx_icmp_ne (tgt := 33) dL_holds_26 (by decide) (fun h26 => ?_) (fun h26 => absurd (by omega) h26)
        refine zx_iconst (v := 0) dL_holds_33 rfl (z32_lit (by decide) (by decide)) ?_
        refine zx_istore (i := 5) dL_holds_34 (by decide) rfl ?_
        refine zx_L (L1 := [some (zR o), some (zI (pn : Int)), some (zI (mn : Int)), some (zI (An.length : Int)), some (zI (rvN (rdS S 15 (pn : Int) (mn : Int)))), some (zI 0), none, none, none, none, none, none]) rfl ?_
        refine zx_iload_n (i := 3) dL_holds_36 rfl rfl ?_
        refine zx_bipush (v := 50) dL_holds_37 (by decide +kernel) (z32_lit (by decide) (by decide)) ?_
        refine zx_icmp_gt (tgt := 88) dL_holds_39 (by decide) (fun h39 => absurd h39 (by omega)) (fun h39 => ?_)
        refine zx_iload_n (i := 3) dL_holds_42 rfl rfl ?_
        refine zx_if_lt (tgt := 88) dL_holds_43 (by decide) (fun h43 => absurd h43 (by omega)) (fun h43 => ?_)
        refine zx_iload (i := 4) dL_holds_46 rfl ?_
        refine zx_bipush (v := 100) dL_holds_48 (by decide +kernel) (z32_lit (by decide) (by decide)) ?_
        refine zx_pc (pc1 := 50) rfl ?_
        refine zx_icmp_eq (tgt := 60) dL_holds_50 (by decide) (fun h50 => ?_) (fun h50 => absurd (by omega) h50)
        refine zx_iload_n (i := 3) dL_holds_60 rfl rfl ?_
        refine zx_iconst (v := 1) dL_holds_61 rfl (z32_lit (by decide) (by decide)) ?_
        refine zx_icmp_gt (tgt := 88) dL_holds_62 (by decide) (fun h62 => absurd h62 (by omega)) (fun h62 => ?_)
        refine zx_iload (i := 5) dL_holds_65 rfl ?_
        refine zx_if_eq (tgt := 90) dL_holds_67 (by decide) (fun h67 => ?_) (fun h67 => absurd (by decide) h67)
        exact h90 0 _ (by omega) w_4 hW_5 (zSc_tr sc_3 sc_6)
    · rw [if_pos h2, if_neg h1] at e15
      by_cases hov : en = 101
      · skip
        refine zx_aload_n (i := 0) dL_holds_0 rfl rfl ?_
        refine zx_bipush (v := 15) dL_holds_1 (by decide +kernel) (z32_lit (by decide) (by decide)) ?_
        refine zx_iload_n (i := 1) dL_holds_3 rfl rfl ?_
        refine zx_iload_n (i := 2) dL_holds_4 rfl rfl ?_
        refine zx_iconst (v := 0) dL_holds_5 rfl (z32_lit (by decide) (by decide)) ?_
        refine zx_iconst (v := 0) dL_holds_6 rfl (z32_lit (by decide) (by decide)) ?_
        refine zx_iconst (v := 0) dL_holds_7 rfl (z32_lit (by decide) (by decide)) ?_
        refine zx_rd (d := d) (o := o) (k1 := k1) (k2 := k2) (S := S) rfl dL_holds_8 (Nat.le_of_ble_eq_true rfl) rfl hW hF hst0 ⟨by omega, by omega⟩ 15 rfl (by decide) (fun q => absurd q (by decide)) (fun w_1 hW_2 sc_3 => ?_)
        refine zx_pc (pc1 := 11) rfl ?_
        refine zx_istore (i := 4) dL_holds_11 (by decide) rfl ?_
        refine zx_L (L1 := [some (zR o), some (zI (pn : Int)), some (zI (mn : Int)), some (zI (An.length : Int)), some (zI (rvN (rdS S 15 (pn : Int) (mn : Int)))), none, none, none, none, none, none, none]) rfl ?_
        refine zx_aload_n (i := 0) dL_holds_13 rfl rfl ?_
        refine zx_bipush (v := 20) dL_holds_14 (by decide +kernel) (z32_lit (by decide) (by decide)) ?_
        refine zx_iconst (v := 0) dL_holds_16 rfl (z32_lit (by decide) (by decide)) ?_
        refine zx_iconst (v := 0) dL_holds_17 rfl (z32_lit (by decide) (by decide)) ?_
        refine zx_iconst (v := 0) dL_holds_18 rfl (z32_lit (by decide) (by decide)) ?_
        refine zx_iconst (v := 0) dL_holds_19 rfl (z32_lit (by decide) (by decide)) ?_
        refine zx_iconst (v := 0) dL_holds_20 rfl (z32_lit (by decide) (by decide)) ?_
        refine zx_rd (d := d) (o := o) (k1 := (k1 + 60)) (k2 := (k2 + 6)) (S := S) rfl dL_holds_21 (Nat.le_of_ble_eq_true rfl) rfl hW_2 hF hst0 ⟨by omega, by omega⟩ 20 rfl (by decide) (fun q => absurd q (by decide)) (fun w_4 hW_5 sc_6 => ?_)
        refine zx_pc (pc1 := 24) rfl ?_
        refine zx_bipush (v := 101) dL_holds_24 (by decide +kernel) (z32_lit (by decide) (by decide)) ?_
        refine zx_icmp_ne (tgt := 33) dL_holds_26 (by decide) (fun h26 => absurd h26 (by omega)) (fun h26 => ?_)
        refine zx_iconst (v := 1) dL_holds_29 rfl (z32_lit (by decide) (by decide)) ?_
        refine zx_goto (tgt := 34) dL_holds_30 (by decide) ?_
        refine zx_istore (i := 5) dL_holds_34 (by decide) rfl ?_
        refine zx_L (L1 := [some (zR o), some (zI (pn : Int)), some (zI (mn : Int)), some (zI (An.length : Int)), some (zI (rvN (rdS S 15 (pn : Int) (mn : Int)))), some (zI 1), none, none, none, none, none, none]) rfl ?_
        refine zx_iload_n (i := 3) dL_holds_36 rfl rfl ?_
        refine zx_bipush (v := 50) dL_holds_37 (by decide +kernel) (z32_lit (by decide) (by decide)) ?_
        refine zx_icmp_gt (tgt := 88) dL_holds_39 (by decide) (fun h39 => absurd h39 (by omega)) (fun h39 => ?_)
        refine zx_iload_n (i := 3) dL_holds_42 rfl rfl ?_
        refine zx_if_lt (tgt := 88) dL_holds_43 (by decide) (fun h43 => absurd h43 (by omega)) (fun h43 => ?_)
        refine zx_iload (i := 4) dL_holds_46 rfl ?_
        refine zx_pc (pc1 := 48) rfl ?_
        refine zx_bipush (v := 100) dL_holds_48 (by decide +kernel) (z32_lit (by decide) (by decide)) ?_
        refine zx_icmp_eq (tgt := 60) dL_holds_50 (by decide) (fun h50 => absurd h50 (by omega)) (fun h50 => ?_)
        refine zx_iload (i := 4) dL_holds_53 rfl ?_
        refine zx_bipush (v := 115) dL_holds_55 (by decide +kernel) (z32_lit (by decide) (by decide)) ?_
        refine zx_icmp_ne (tgt := 65) dL_holds_57 (by decide) (fun h57 => absurd h57 (by omega)) (fun h57 => ?_)
        refine zx_iload_n (i := 3) dL_holds_60 rfl rfl ?_
        refine zx_iconst (v := 1) dL_holds_61 rfl (z32_lit (by decide) (by decide)) ?_
        refine zx_icmp_gt (tgt := 88) dL_holds_62 (by decide) (fun h62 => absurd h62 (by omega)) (fun h62 => ?_)
        refine zx_iload (i := 5) dL_holds_65 rfl ?_
        refine zx_if_eq (tgt := 90) dL_holds_67 (by decide) (fun h67 => absurd h67 (by decide)) (fun h67 => ?_)
        refine zx_iload (i := 4) dL_holds_70 rfl ?_
        refine zx_bipush (v := 100) dL_holds_72 (by decide +kernel) (z32_lit (by decide) (by decide)) ?_
        refine zx_pc (pc1 := 74) rfl ?_
        refine zx_icmp_eq (tgt := 84) dL_holds_74 (by decide) (fun h74 => absurd h74 (by omega)) (fun h74 => ?_)
        refine zx_iload (i := 4) dL_holds_77 rfl ?_
        refine zx_bipush (v := 109) dL_holds_79 (by decide +kernel) (z32_lit (by decide) (by decide)) ?_
        refine zx_icmp_ne (tgt := 90) dL_holds_81 (by decide) (fun h81 => ?_) (fun h81 => absurd (by omega) h81)
        exact h90 1 _ (by omega) w_4 hW_5 (zSc_tr sc_3 sc_6)
      · skip
        refine zx_aload_n (i := 0) dL_holds_0 rfl rfl ?_
        refine zx_bipush (v := 15) dL_holds_1 (by decide +kernel) (z32_lit (by decide) (by decide)) ?_
        refine zx_iload_n (i := 1) dL_holds_3 rfl rfl ?_
        refine zx_iload_n (i := 2) dL_holds_4 rfl rfl ?_
        refine zx_iconst (v := 0) dL_holds_5 rfl (z32_lit (by decide) (by decide)) ?_
        refine zx_iconst (v := 0) dL_holds_6 rfl (z32_lit (by decide) (by decide)) ?_
        refine zx_iconst (v := 0) dL_holds_7 rfl (z32_lit (by decide) (by decide)) ?_
        refine zx_rd (d := d) (o := o) (k1 := k1) (k2 := k2) (S := S) rfl dL_holds_8 (Nat.le_of_ble_eq_true rfl) rfl hW hF hst0 ⟨by omega, by omega⟩ 15 rfl (by decide) (fun q => absurd q (by decide)) (fun w_1 hW_2 sc_3 => ?_)
        refine zx_pc (pc1 := 11) rfl ?_
        refine zx_istore (i := 4) dL_holds_11 (by decide) rfl ?_
        refine zx_L (L1 := [some (zR o), some (zI (pn : Int)), some (zI (mn : Int)), some (zI (An.length : Int)), some (zI (rvN (rdS S 15 (pn : Int) (mn : Int)))), none, none, none, none, none, none, none]) rfl ?_
        refine zx_aload_n (i := 0) dL_holds_13 rfl rfl ?_
        refine zx_bipush (v := 20) dL_holds_14 (by decide +kernel) (z32_lit (by decide) (by decide)) ?_
        refine zx_iconst (v := 0) dL_holds_16 rfl (z32_lit (by decide) (by decide)) ?_
        refine zx_iconst (v := 0) dL_holds_17 rfl (z32_lit (by decide) (by decide)) ?_
        refine zx_iconst (v := 0) dL_holds_18 rfl (z32_lit (by decide) (by decide)) ?_
        refine zx_iconst (v := 0) dL_holds_19 rfl (z32_lit (by decide) (by decide)) ?_
        refine zx_iconst (v := 0) dL_holds_20 rfl (z32_lit (by decide) (by decide)) ?_
        refine zx_rd (d := d) (o := o) (k1 := (k1 + 60)) (k2 := (k2 + 6)) (S := S) rfl dL_holds_21 (Nat.le_of_ble_eq_true rfl) rfl hW_2 hF hst0 ⟨by omega, by omega⟩ 20 rfl (by decide) (fun q => absurd q (by decide)) (fun w_4 hW_5 sc_6 => ?_)
        refine zx_pc (pc1 := 24) rfl ?_
        refine zx_bipush (v := 101) dL_holds_24 (by decide +kernel) (z32_lit (by decide) (by decide)) ?_
        refine zx_icmp_ne (tgt := 33) dL_holds_26 (by decide) (fun h26 => ?_) (fun h26 => absurd (by omega) h26)
        refine zx_iconst (v := 0) dL_holds_33 rfl (z32_lit (by decide) (by decide)) ?_
        refine zx_istore (i := 5) dL_holds_34 (by decide) rfl ?_
        refine zx_L (L1 := [some (zR o), some (zI (pn : Int)), some (zI (mn : Int)), some (zI (An.length : Int)), some (zI (rvN (rdS S 15 (pn : Int) (mn : Int)))), some (zI 0), none, none, none, none, none, none]) rfl ?_
        refine zx_iload_n (i := 3) dL_holds_36 rfl rfl ?_
        refine zx_bipush (v := 50) dL_holds_37 (by decide +kernel) (z32_lit (by decide) (by decide)) ?_
        refine zx_icmp_gt (tgt := 88) dL_holds_39 (by decide) (fun h39 => absurd h39 (by omega)) (fun h39 => ?_)
        refine zx_iload_n (i := 3) dL_holds_42 rfl rfl ?_
        refine zx_if_lt (tgt := 88) dL_holds_43 (by decide) (fun h43 => absurd h43 (by omega)) (fun h43 => ?_)
        refine zx_iload (i := 4) dL_holds_46 rfl ?_
        refine zx_bipush (v := 100) dL_holds_48 (by decide +kernel) (z32_lit (by decide) (by decide)) ?_
        refine zx_pc (pc1 := 50) rfl ?_
        refine zx_icmp_eq (tgt := 60) dL_holds_50 (by decide) (fun h50 => absurd h50 (by omega)) (fun h50 => ?_)
        refine zx_iload (i := 4) dL_holds_53 rfl ?_
        refine zx_bipush (v := 115) dL_holds_55 (by decide +kernel) (z32_lit (by decide) (by decide)) ?_
        refine zx_icmp_ne (tgt := 65) dL_holds_57 (by decide) (fun h57 => absurd h57 (by omega)) (fun h57 => ?_)
        refine zx_iload_n (i := 3) dL_holds_60 rfl rfl ?_
        refine zx_iconst (v := 1) dL_holds_61 rfl (z32_lit (by decide) (by decide)) ?_
        refine zx_icmp_gt (tgt := 88) dL_holds_62 (by decide) (fun h62 => absurd h62 (by omega)) (fun h62 => ?_)
        refine zx_iload (i := 5) dL_holds_65 rfl ?_
        refine zx_if_eq (tgt := 90) dL_holds_67 (by decide) (fun h67 => ?_) (fun h67 => absurd (by decide) h67)
        exact h90 0 _ (by omega) w_4 hW_5 (zSc_tr sc_3 sc_6)
  · by_cases h1 : F1 = 0
    · rw [if_neg h2, if_pos h1] at e15
      by_cases hov : en = 101
      · skip
        refine zx_aload_n (i := 0) dL_holds_0 rfl rfl ?_
        refine zx_bipush (v := 15) dL_holds_1 (by decide +kernel) (z32_lit (by decide) (by decide)) ?_
        refine zx_iload_n (i := 1) dL_holds_3 rfl rfl ?_
        refine zx_iload_n (i := 2) dL_holds_4 rfl rfl ?_
        refine zx_iconst (v := 0) dL_holds_5 rfl (z32_lit (by decide) (by decide)) ?_
        refine zx_iconst (v := 0) dL_holds_6 rfl (z32_lit (by decide) (by decide)) ?_
        refine zx_iconst (v := 0) dL_holds_7 rfl (z32_lit (by decide) (by decide)) ?_
        refine zx_rd (d := d) (o := o) (k1 := k1) (k2 := k2) (S := S) rfl dL_holds_8 (Nat.le_of_ble_eq_true rfl) rfl hW hF hst0 ⟨by omega, by omega⟩ 15 rfl (by decide) (fun q => absurd q (by decide)) (fun w_1 hW_2 sc_3 => ?_)
        refine zx_pc (pc1 := 11) rfl ?_
        refine zx_istore (i := 4) dL_holds_11 (by decide) rfl ?_
        refine zx_L (L1 := [some (zR o), some (zI (pn : Int)), some (zI (mn : Int)), some (zI (An.length : Int)), some (zI (rvN (rdS S 15 (pn : Int) (mn : Int)))), none, none, none, none, none, none, none]) rfl ?_
        refine zx_aload_n (i := 0) dL_holds_13 rfl rfl ?_
        refine zx_bipush (v := 20) dL_holds_14 (by decide +kernel) (z32_lit (by decide) (by decide)) ?_
        refine zx_iconst (v := 0) dL_holds_16 rfl (z32_lit (by decide) (by decide)) ?_
        refine zx_iconst (v := 0) dL_holds_17 rfl (z32_lit (by decide) (by decide)) ?_
        refine zx_iconst (v := 0) dL_holds_18 rfl (z32_lit (by decide) (by decide)) ?_
        refine zx_iconst (v := 0) dL_holds_19 rfl (z32_lit (by decide) (by decide)) ?_
        refine zx_iconst (v := 0) dL_holds_20 rfl (z32_lit (by decide) (by decide)) ?_
        refine zx_rd (d := d) (o := o) (k1 := (k1 + 60)) (k2 := (k2 + 6)) (S := S) rfl dL_holds_21 (Nat.le_of_ble_eq_true rfl) rfl hW_2 hF hst0 ⟨by omega, by omega⟩ 20 rfl (by decide) (fun q => absurd q (by decide)) (fun w_4 hW_5 sc_6 => ?_)
        refine zx_pc (pc1 := 24) rfl ?_
        refine zx_bipush (v := 101) dL_holds_24 (by decide +kernel) (z32_lit (by decide) (by decide)) ?_
        refine zx_icmp_ne (tgt := 33) dL_holds_26 (by decide) (fun h26 => absurd h26 (by omega)) (fun h26 => ?_)
        refine zx_iconst (v := 1) dL_holds_29 rfl (z32_lit (by decide) (by decide)) ?_
        refine zx_goto (tgt := 34) dL_holds_30 (by decide) ?_
        refine zx_istore (i := 5) dL_holds_34 (by decide) rfl ?_
        refine zx_L (L1 := [some (zR o), some (zI (pn : Int)), some (zI (mn : Int)), some (zI (An.length : Int)), some (zI (rvN (rdS S 15 (pn : Int) (mn : Int)))), some (zI 1), none, none, none, none, none, none]) rfl ?_
        refine zx_iload_n (i := 3) dL_holds_36 rfl rfl ?_
        refine zx_bipush (v := 50) dL_holds_37 (by decide +kernel) (z32_lit (by decide) (by decide)) ?_
        refine zx_icmp_gt (tgt := 88) dL_holds_39 (by decide) (fun h39 => absurd h39 (by omega)) (fun h39 => ?_)
        refine zx_iload_n (i := 3) dL_holds_42 rfl rfl ?_
        refine zx_if_lt (tgt := 88) dL_holds_43 (by decide) (fun h43 => absurd h43 (by omega)) (fun h43 => ?_)
        refine zx_iload (i := 4) dL_holds_46 rfl ?_
        refine zx_pc (pc1 := 48) rfl ?_
        refine zx_bipush (v := 100) dL_holds_48 (by decide +kernel) (z32_lit (by decide) (by decide)) ?_
        refine zx_icmp_eq (tgt := 60) dL_holds_50 (by decide) (fun h50 => absurd h50 (by omega)) (fun h50 => ?_)
        refine zx_iload (i := 4) dL_holds_53 rfl ?_
        refine zx_bipush (v := 115) dL_holds_55 (by decide +kernel) (z32_lit (by decide) (by decide)) ?_
        refine zx_icmp_ne (tgt := 65) dL_holds_57 (by decide) (fun h57 => ?_) (fun h57 => absurd (by omega) h57)
        refine zx_iload (i := 5) dL_holds_65 rfl ?_
        refine zx_if_eq (tgt := 90) dL_holds_67 (by decide) (fun h67 => absurd h67 (by decide)) (fun h67 => ?_)
        refine zx_iload (i := 4) dL_holds_70 rfl ?_
        refine zx_bipush (v := 100) dL_holds_72 (by decide +kernel) (z32_lit (by decide) (by decide)) ?_
        refine zx_icmp_eq (tgt := 84) dL_holds_74 (by decide) (fun h74 => absurd h74 (by omega)) (fun h74 => ?_)
        refine zx_iload (i := 4) dL_holds_77 rfl ?_
        refine zx_bipush (v := 109) dL_holds_79 (by decide +kernel) (z32_lit (by decide) (by decide)) ?_
        refine zx_pc (pc1 := 81) rfl ?_
        refine zx_icmp_ne (tgt := 90) dL_holds_81 (by decide) (fun h81 => absurd h81 (by omega)) (fun h81 => ?_)
        refine zx_iload_n (i := 3) dL_holds_84 rfl rfl ?_
        refine zx_if_ne (tgt := 90) dL_holds_85 (by decide) (fun h85 => ?_) (fun h85 => absurd (by omega) h85)
        exact h90 1 _ (by omega) w_4 hW_5 (zSc_tr sc_3 sc_6)
      · skip
        refine zx_aload_n (i := 0) dL_holds_0 rfl rfl ?_
        refine zx_bipush (v := 15) dL_holds_1 (by decide +kernel) (z32_lit (by decide) (by decide)) ?_
        refine zx_iload_n (i := 1) dL_holds_3 rfl rfl ?_
        refine zx_iload_n (i := 2) dL_holds_4 rfl rfl ?_
        refine zx_iconst (v := 0) dL_holds_5 rfl (z32_lit (by decide) (by decide)) ?_
        refine zx_iconst (v := 0) dL_holds_6 rfl (z32_lit (by decide) (by decide)) ?_
        refine zx_iconst (v := 0) dL_holds_7 rfl (z32_lit (by decide) (by decide)) ?_
        refine zx_rd (d := d) (o := o) (k1 := k1) (k2 := k2) (S := S) rfl dL_holds_8 (Nat.le_of_ble_eq_true rfl) rfl hW hF hst0 ⟨by omega, by omega⟩ 15 rfl (by decide) (fun q => absurd q (by decide)) (fun w_1 hW_2 sc_3 => ?_)
        refine zx_pc (pc1 := 11) rfl ?_
        refine zx_istore (i := 4) dL_holds_11 (by decide) rfl ?_
        refine zx_L (L1 := [some (zR o), some (zI (pn : Int)), some (zI (mn : Int)), some (zI (An.length : Int)), some (zI (rvN (rdS S 15 (pn : Int) (mn : Int)))), none, none, none, none, none, none, none]) rfl ?_
        refine zx_aload_n (i := 0) dL_holds_13 rfl rfl ?_
        refine zx_bipush (v := 20) dL_holds_14 (by decide +kernel) (z32_lit (by decide) (by decide)) ?_
        refine zx_iconst (v := 0) dL_holds_16 rfl (z32_lit (by decide) (by decide)) ?_
        refine zx_iconst (v := 0) dL_holds_17 rfl (z32_lit (by decide) (by decide)) ?_
        refine zx_iconst (v := 0) dL_holds_18 rfl (z32_lit (by decide) (by decide)) ?_
        refine zx_iconst (v := 0) dL_holds_19 rfl (z32_lit (by decide) (by decide)) ?_
        refine zx_iconst (v := 0) dL_holds_20 rfl (z32_lit (by decide) (by decide)) ?_
        refine zx_rd (d := d) (o := o) (k1 := (k1 + 60)) (k2 := (k2 + 6)) (S := S) rfl dL_holds_21 (Nat.le_of_ble_eq_true rfl) rfl hW_2 hF hst0 ⟨by omega, by omega⟩ 20 rfl (by decide) (fun q => absurd q (by decide)) (fun w_4 hW_5 sc_6 => ?_)
        refine zx_pc (pc1 := 24) rfl ?_
        refine zx_bipush (v := 101) dL_holds_24 (by decide +kernel) (z32_lit (by decide) (by decide)) ?_
        refine zx_icmp_ne (tgt := 33) dL_holds_26 (by decide) (fun h26 => ?_) (fun h26 => absurd (by omega) h26)
        refine zx_iconst (v := 0) dL_holds_33 rfl (z32_lit (by decide) (by decide)) ?_
        refine zx_istore (i := 5) dL_holds_34 (by decide) rfl ?_
        refine zx_L (L1 := [some (zR o), some (zI (pn : Int)), some (zI (mn : Int)), some (zI (An.length : Int)), some (zI (rvN (rdS S 15 (pn : Int) (mn : Int)))), some (zI 0), none, none, none, none, none, none]) rfl ?_
        refine zx_iload_n (i := 3) dL_holds_36 rfl rfl ?_
        refine zx_bipush (v := 50) dL_holds_37 (by decide +kernel) (z32_lit (by decide) (by decide)) ?_
        refine zx_icmp_gt (tgt := 88) dL_holds_39 (by decide) (fun h39 => absurd h39 (by omega)) (fun h39 => ?_)
        refine zx_iload_n (i := 3) dL_holds_42 rfl rfl ?_
        refine zx_if_lt (tgt := 88) dL_holds_43 (by decide) (fun h43 => absurd h43 (by omega)) (fun h43 => ?_)
        refine zx_iload (i := 4) dL_holds_46 rfl ?_
        refine zx_bipush (v := 100) dL_holds_48 (by decide +kernel) (z32_lit (by decide) (by decide)) ?_
        refine zx_pc (pc1 := 50) rfl ?_
        refine zx_icmp_eq (tgt := 60) dL_holds_50 (by decide) (fun h50 => absurd h50 (by omega)) (fun h50 => ?_)
        refine zx_iload (i := 4) dL_holds_53 rfl ?_
        refine zx_bipush (v := 115) dL_holds_55 (by decide +kernel) (z32_lit (by decide) (by decide)) ?_
        refine zx_icmp_ne (tgt := 65) dL_holds_57 (by decide) (fun h57 => ?_) (fun h57 => absurd (by omega) h57)
        refine zx_iload (i := 5) dL_holds_65 rfl ?_
        refine zx_if_eq (tgt := 90) dL_holds_67 (by decide) (fun h67 => ?_) (fun h67 => absurd (by decide) h67)
        exact h90 0 _ (by omega) w_4 hW_5 (zSc_tr sc_3 sc_6)
    · rw [if_neg h2, if_neg h1] at e15
      by_cases hov : en = 101
      · skip
        refine zx_aload_n (i := 0) dL_holds_0 rfl rfl ?_
        refine zx_bipush (v := 15) dL_holds_1 (by decide +kernel) (z32_lit (by decide) (by decide)) ?_
        refine zx_iload_n (i := 1) dL_holds_3 rfl rfl ?_
        refine zx_iload_n (i := 2) dL_holds_4 rfl rfl ?_
        refine zx_iconst (v := 0) dL_holds_5 rfl (z32_lit (by decide) (by decide)) ?_
        refine zx_iconst (v := 0) dL_holds_6 rfl (z32_lit (by decide) (by decide)) ?_
        refine zx_iconst (v := 0) dL_holds_7 rfl (z32_lit (by decide) (by decide)) ?_
        refine zx_rd (d := d) (o := o) (k1 := k1) (k2 := k2) (S := S) rfl dL_holds_8 (Nat.le_of_ble_eq_true rfl) rfl hW hF hst0 ⟨by omega, by omega⟩ 15 rfl (by decide) (fun q => absurd q (by decide)) (fun w_1 hW_2 sc_3 => ?_)
        refine zx_pc (pc1 := 11) rfl ?_
        refine zx_istore (i := 4) dL_holds_11 (by decide) rfl ?_
        refine zx_L (L1 := [some (zR o), some (zI (pn : Int)), some (zI (mn : Int)), some (zI (An.length : Int)), some (zI (rvN (rdS S 15 (pn : Int) (mn : Int)))), none, none, none, none, none, none, none]) rfl ?_
        refine zx_aload_n (i := 0) dL_holds_13 rfl rfl ?_
        refine zx_bipush (v := 20) dL_holds_14 (by decide +kernel) (z32_lit (by decide) (by decide)) ?_
        refine zx_iconst (v := 0) dL_holds_16 rfl (z32_lit (by decide) (by decide)) ?_
        refine zx_iconst (v := 0) dL_holds_17 rfl (z32_lit (by decide) (by decide)) ?_
        refine zx_iconst (v := 0) dL_holds_18 rfl (z32_lit (by decide) (by decide)) ?_
        refine zx_iconst (v := 0) dL_holds_19 rfl (z32_lit (by decide) (by decide)) ?_
        refine zx_iconst (v := 0) dL_holds_20 rfl (z32_lit (by decide) (by decide)) ?_
        refine zx_rd (d := d) (o := o) (k1 := (k1 + 60)) (k2 := (k2 + 6)) (S := S) rfl dL_holds_21 (Nat.le_of_ble_eq_true rfl) rfl hW_2 hF hst0 ⟨by omega, by omega⟩ 20 rfl (by decide) (fun q => absurd q (by decide)) (fun w_4 hW_5 sc_6 => ?_)
        refine zx_pc (pc1 := 24) rfl ?_
        refine zx_bipush (v := 101) dL_holds_24 (by decide +kernel) (z32_lit (by decide) (by decide)) ?_
        refine zx_icmp_ne (tgt := 33) dL_holds_26 (by decide) (fun h26 => absurd h26 (by omega)) (fun h26 => ?_)
        refine zx_iconst (v := 1) dL_holds_29 rfl (z32_lit (by decide) (by decide)) ?_
        refine zx_goto (tgt := 34) dL_holds_30 (by decide) ?_
        refine zx_istore (i := 5) dL_holds_34 (by decide) rfl ?_
        refine zx_L (L1 := [some (zR o), some (zI (pn : Int)), some (zI (mn : Int)), some (zI (An.length : Int)), some (zI (rvN (rdS S 15 (pn : Int) (mn : Int)))), some (zI 1), none, none, none, none, none, none]) rfl ?_
        refine zx_iload_n (i := 3) dL_holds_36 rfl rfl ?_
        refine zx_bipush (v := 50) dL_holds_37 (by decide +kernel) (z32_lit (by decide) (by decide)) ?_
        refine zx_icmp_gt (tgt := 88) dL_holds_39 (by decide) (fun h39 => absurd h39 (by omega)) (fun h39 => ?_)
        refine zx_iload_n (i := 3) dL_holds_42 rfl rfl ?_
        refine zx_if_lt (tgt := 88) dL_holds_43 (by decide) (fun h43 => absurd h43 (by omega)) (fun h43 => ?_)
        refine zx_iload (i := 4) dL_holds_46 rfl ?_
        refine zx_pc (pc1 := 48) rfl ?_
        refine zx_bipush (v := 100) dL_holds_48 (by decide +kernel) (z32_lit (by decide) (by decide)) ?_
        refine zx_icmp_eq (tgt := 60) dL_holds_50 (by decide) (fun h50 => absurd h50 (by omega)) (fun h50 => ?_)
        refine zx_iload (i := 4) dL_holds_53 rfl ?_
        refine zx_bipush (v := 115) dL_holds_55 (by decide +kernel) (z32_lit (by decide) (by decide)) ?_
        refine zx_icmp_ne (tgt := 65) dL_holds_57 (by decide) (fun h57 => ?_) (fun h57 => absurd (by omega) h57)
        refine zx_iload (i := 5) dL_holds_65 rfl ?_
        refine zx_if_eq (tgt := 90) dL_holds_67 (by decide) (fun h67 => absurd h67 (by decide)) (fun h67 => ?_)
        refine zx_iload (i := 4) dL_holds_70 rfl ?_
        refine zx_bipush (v := 100) dL_holds_72 (by decide +kernel) (z32_lit (by decide) (by decide)) ?_
        refine zx_icmp_eq (tgt := 84) dL_holds_74 (by decide) (fun h74 => absurd h74 (by omega)) (fun h74 => ?_)
        refine zx_iload (i := 4) dL_holds_77 rfl ?_
        refine zx_bipush (v := 109) dL_holds_79 (by decide +kernel) (z32_lit (by decide) (by decide)) ?_
        refine zx_pc (pc1 := 81) rfl ?_
        refine zx_icmp_ne (tgt := 90) dL_holds_81 (by decide) (fun h81 => ?_) (fun h81 => absurd (by omega) h81)
        exact h90 1 _ (by omega) w_4 hW_5 (zSc_tr sc_3 sc_6)
      · skip
        refine zx_aload_n (i := 0) dL_holds_0 rfl rfl ?_
        refine zx_bipush (v := 15) dL_holds_1 (by decide +kernel) (z32_lit (by decide) (by decide)) ?_
        refine zx_iload_n (i := 1) dL_holds_3 rfl rfl ?_
        refine zx_iload_n (i := 2) dL_holds_4 rfl rfl ?_
        refine zx_iconst (v := 0) dL_holds_5 rfl (z32_lit (by decide) (by decide)) ?_
        refine zx_iconst (v := 0) dL_holds_6 rfl (z32_lit (by decide) (by decide)) ?_
        refine zx_iconst (v := 0) dL_holds_7 rfl (z32_lit (by decide) (by decide)) ?_
        refine zx_rd (d := d) (o := o) (k1 := k1) (k2 := k2) (S := S) rfl dL_holds_8 (Nat.le_of_ble_eq_true rfl) rfl hW hF hst0 ⟨by omega, by omega⟩ 15 rfl (by decide) (fun q => absurd q (by decide)) (fun w_1 hW_2 sc_3 => ?_)
        refine zx_pc (pc1 := 11) rfl ?_
        refine zx_istore (i := 4) dL_holds_11 (by decide) rfl ?_
        refine zx_L (L1 := [some (zR o), some (zI (pn : Int)), some (zI (mn : Int)), some (zI (An.length : Int)), some (zI (rvN (rdS S 15 (pn : Int) (mn : Int)))), none, none, none, none, none, none, none]) rfl ?_
        refine zx_aload_n (i := 0) dL_holds_13 rfl rfl ?_
        refine zx_bipush (v := 20) dL_holds_14 (by decide +kernel) (z32_lit (by decide) (by decide)) ?_
        refine zx_iconst (v := 0) dL_holds_16 rfl (z32_lit (by decide) (by decide)) ?_
        refine zx_iconst (v := 0) dL_holds_17 rfl (z32_lit (by decide) (by decide)) ?_
        refine zx_iconst (v := 0) dL_holds_18 rfl (z32_lit (by decide) (by decide)) ?_
        refine zx_iconst (v := 0) dL_holds_19 rfl (z32_lit (by decide) (by decide)) ?_
        refine zx_iconst (v := 0) dL_holds_20 rfl (z32_lit (by decide) (by decide)) ?_
        refine zx_rd (d := d) (o := o) (k1 := (k1 + 60)) (k2 := (k2 + 6)) (S := S) rfl dL_holds_21 (Nat.le_of_ble_eq_true rfl) rfl hW_2 hF hst0 ⟨by omega, by omega⟩ 20 rfl (by decide) (fun q => absurd q (by decide)) (fun w_4 hW_5 sc_6 => ?_)
        refine zx_pc (pc1 := 24) rfl ?_
        refine zx_bipush (v := 101) dL_holds_24 (by decide +kernel) (z32_lit (by decide) (by decide)) ?_
        refine zx_icmp_ne (tgt := 33) dL_holds_26 (by decide) (fun h26 => ?_) (fun h26 => absurd (by omega) h26)
        refine zx_iconst (v := 0) dL_holds_33 rfl (z32_lit (by decide) (by decide)) ?_
        refine zx_istore (i := 5) dL_holds_34 (by decide) rfl ?_
        refine zx_L (L1 := [some (zR o), some (zI (pn : Int)), some (zI (mn : Int)), some (zI (An.length : Int)), some (zI (rvN (rdS S 15 (pn : Int) (mn : Int)))), some (zI 0), none, none, none, none, none, none]) rfl ?_
        refine zx_iload_n (i := 3) dL_holds_36 rfl rfl ?_
        refine zx_bipush (v := 50) dL_holds_37 (by decide +kernel) (z32_lit (by decide) (by decide)) ?_
        refine zx_icmp_gt (tgt := 88) dL_holds_39 (by decide) (fun h39 => absurd h39 (by omega)) (fun h39 => ?_)
        refine zx_iload_n (i := 3) dL_holds_42 rfl rfl ?_
        refine zx_if_lt (tgt := 88) dL_holds_43 (by decide) (fun h43 => absurd h43 (by omega)) (fun h43 => ?_)
        refine zx_iload (i := 4) dL_holds_46 rfl ?_
        refine zx_bipush (v := 100) dL_holds_48 (by decide +kernel) (z32_lit (by decide) (by decide)) ?_
        refine zx_pc (pc1 := 50) rfl ?_
        refine zx_icmp_eq (tgt := 60) dL_holds_50 (by decide) (fun h50 => absurd h50 (by omega)) (fun h50 => ?_)
        refine zx_iload (i := 4) dL_holds_53 rfl ?_
        refine zx_bipush (v := 115) dL_holds_55 (by decide +kernel) (z32_lit (by decide) (by decide)) ?_
        refine zx_icmp_ne (tgt := 65) dL_holds_57 (by decide) (fun h57 => ?_) (fun h57 => absurd (by omega) h57)
        refine zx_iload (i := 5) dL_holds_65 rfl ?_
        refine zx_if_eq (tgt := 90) dL_holds_67 (by decide) (fun h67 => ?_) (fun h67 => absurd (by decide) h67)
        exact h90 0 _ (by omega) w_4 hW_5 (zSc_tr sc_3 sc_6)
end LHOLD2
