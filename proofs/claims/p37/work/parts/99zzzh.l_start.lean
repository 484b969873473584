/-! Own rows: the law's start. Printed by wip/p37/m_start.py. -/
/-- what the object is when it is new -/
def La0 : whL := (none, ([], [], []), (0, 0, 0, 101, 0, 0))
theorem lwT_0 {a b c : Nat} : lwT (pgR0 a b c) := ⟨pgI_0, fun _ h => (nomatch h), fun _ h => (nomatch h)⟩
theorem lwI_0 {a b c : Nat} : lwI 0 ((1, C3), [(0, 0), (1, 0), (0, 2)], pgR0 a b c, (0, 0, 0), La0) :=
  ⟨rfl, Nat.le_refl 3, lwT_0, Or.inl rfl, fun h => absurd rfl h, ⟨Int.le_refl 0, Int.le_refl 0⟩, ⟨Int.le_refl 0, Int.le_refl 0⟩, ⟨fun _ h => (nomatch h), ⟨⟨(by decide : (0 : Int) ≤ 101), (by decide : (101 : Int) < 65536)⟩, (by decide : 0 < 1000), fun i h0 h1 => absurd (show (0 : Int) < 0 from Int.lt_of_le_of_lt h0 h1) (by decide)⟩, fun h => absurd rfl h⟩, fun h => absurd rfl h⟩
theorem tm_app {S S' : whS} {x : smG} {r : Int ⊕ Nat} (q : tmQ S x r S') (hx : x ∉ S.2.1) (hl : S.2.1.length < 200) : r = .inl (S.2.1.length : Int) ∧ S' = (S.1, S.2.1 ++ [x], S.2.2) := by
  rcases q with ⟨n', tm', e1, e2, e3, e4, e5⟩ | ⟨i, hi, e1, e2, e3, -⟩
  · rcases e5 with e | ⟨f1, f2, -, -⟩
    · rw [e] at e3
      exact absurd (List.mem_of_getElem? e3) hx
    · subst f2
      rw [f1] at e2
      exact ⟨e1, e2⟩
  · omega
section LST
variable {G : zG} {d : Nat} {w : zW} {o k1 k2 : Nat} {R : pgR} {La : whL}
theorem s_ty {C : List (List Int)} {tm : List smG} (hW : whW w o k1 k2 ((0, C), tm, R, (0, 0, 0), La)) (hst0 : G.1.stackTraces = false) (hk : k1 + 6000000 ≤ 60 * G.2.2.2.2.1 ∧ k2 + 6830000 ≤ G.2.2.2.2.2) {a b c e1 e2 : Int} : zM G zm_L_call (d + 14) [zR o, zI 0, zI a, zI b, zI c, zI e1, zI e2] w (lwQ w o k1 k2 (fun r S' => r = .inl 0 ∧ S' = ((1, C), tm, R, (0, 0, 0), La))) := by
  obtain ⟨of, ho⟩ := whW_o hW
  have hr := whW_room hW hk.1 hk.2
  exact zM_any (lc_addType (d := d + 13) ho fw_fc (w_ty (d := d + 10) hW hst0 hr rfl rfl)) lw_fw
theorem s_ac {C : List (List Int)} {tm : List smG} (hW : whW w o k1 k2 ((1, C), tm, R, (0, 0, 0), La)) (hst0 : G.1.stackTraces = false) (hk : k1 + 6000000 ≤ 60 * G.2.2.2.2.1 ∧ k2 + 6830000 ≤ G.2.2.2.2.2) (hl : C.length < 10) {f e1 e2 : Int} (hf : f = -1 ∨ f = 0) : zM G zm_L_call (d + 14) [zR o, zI 1, zI 0, zI f, zI (-1), zI e1, zI e2] w (lwQ w o k1 k2 (fun r S' => r = .inl (C.length : Int) ∧ S' = ((1, C ++ [[0, f, -1]]), tm, R, (0, 0, 0), La))) := by
  obtain ⟨of, ho⟩ := whW_o hW
  have hr := whW_room hW hk.1 hk.2
  exact zM_any (lc_addConstructor (d := d + 13) ho fw_fc (w_ac (d := d + 9) hW hst0 hr rfl rfl hl f hf)) lw_fw
theorem s_tm {tm : List smG} (hW : whW w o k1 k2 ((1, C3), tm, R, (0, 0, 0), La)) (hst0 : G.1.stackTraces = false) (hk : k1 + 6000000 ≤ 60 * G.2.2.2.2.1 ∧ k2 + 6830000 ≤ G.2.2.2.2.2) {c : Nat} {y : smG} (hc : c < 3) (h1 : c = 1 → tm[0]? = some y) {e1 e2 : Int} : zM G zm_L_call (d + 14) [zR o, zI 2, zI (c : Int), zI 0, zI 0, zI e1, zI e2] w (lwQ w o (k1 + 60) (k2 + 6) (tmQ ((1, C3), tm, R, (0, 0, 0), La) (smB c y))) := by
  obtain ⟨of, ho⟩ := whW_o hW
  have hr := whW_room hW hk.1 hk.2
  exact zM_any (lc_term (d := d + 13) ho fw_fc (w_tm (d := d + 9) hW hst0 hr rfl (c := c) (f := 0) (y := y) hc h1 (fun _ => rfl))) lw_fw
end LST
section LSX
variable {X : State → Prop} {G : zG} {d : Nat} {av : List zV} {w0 : zW} {Q : zQ} {w : zW} {sa o k1 k2 L0 a b c : Nat} {xs : Nat → Int32}
theorem sr_8 (hL : L0 < 1000000) (hst0 : G.1.stackTraces = false) (hQ : ∀ w', Q (.inl (some (zI 1))) w') (hW : whW w o k1 k2 ((0, []), [], pgR0 a b c, (0, 0, 0), La0)) (hk : k1 + 180 + 60 * 33000 + 6010000 ≤ 60 * G.2.2.2.2.1 ∧ k2 + 18 + 60 * 3700 + 6831000 ≤ G.2.2.2.2.2) : zXp (scX sa L0 xs w0) G zm_L_law (d + 15) av w0 Q 8 [some (zR sa), some (zR o), none, none, none, none, none, none, none, none, none, none, none, none, none, none, none] [] w := by
  refine zp_aload_n (i := 1) dL_law_8 rfl rfl ?_
  refine zp_iconst (v := 0) dL_law_9 rfl (z32_lit (by decide) (by decide)) ?_
  refine zp_iconst (v := 0) dL_law_10 rfl (z32_lit (by decide) (by decide)) ?_
  refine zp_iconst (v := 0) dL_law_11 rfl (z32_lit (by decide) (by decide)) ?_
  refine zp_iconst (v := 0) dL_law_12 rfl (z32_lit (by decide) (by decide)) ?_
  refine zp_iconst (v := 0) dL_law_13 rfl (z32_lit (by decide) (by decide)) ?_
  refine zp_iconst (v := 0) dL_law_14 rfl (z32_lit (by decide) (by decide)) ?_
  refine zp_cl (d' := d + 14) (o := o) rfl dL_law_15 (Nat.le_of_ble_eq_true rfl) rfl (s_ty hW hst0 ⟨by omega, by omega⟩) (fun r_1 S_2 w_3 q_4 hW_5 s_6 => ?_)
  obtain ⟨x1, x2⟩ := q_4
  subst x1
  subst x2
  refine zp_st (st1 := [zI 0]) rfl ?_
  refine zp_pc (pc1 := 18) rfl ?_
  refine zp_if_ne (tgt := 103) dL_law_18 (by decide) (fun h18 => absurd h18 (by decide)) (fun h18 => ?_)
  refine zp_aload_n (i := 1) dL_law_21 rfl rfl ?_
  refine zp_iconst (v := 1) dL_law_22 rfl (z32_lit (by decide) (by decide)) ?_
  refine zp_iconst (v := 0) dL_law_23 rfl (z32_lit (by decide) (by decide)) ?_
  refine zp_iconst (v := -1) dL_law_24 rfl (z32_lit (by decide) (by decide)) ?_
  refine zp_iconst (v := -1) dL_law_25 rfl (z32_lit (by decide) (by decide)) ?_
  refine zp_iconst (v := 0) dL_law_26 rfl (z32_lit (by decide) (by decide)) ?_
  refine zp_iconst (v := 0) dL_law_27 rfl (z32_lit (by decide) (by decide)) ?_
  refine zp_cl (d' := d + 14) (o := o) rfl dL_law_28 (Nat.le_of_ble_eq_true rfl) rfl (s_ac hW_5 hst0 ⟨by omega, by omega⟩ (by decide) (Or.inl rfl)) (fun r_7 S_8 w_9 q_10 hW_11 s_12 => ?_)
  obtain ⟨x1, x2⟩ := q_10
  subst x1
  subst x2
  refine zp_st (st1 := [zI 0]) rfl ?_
  refine zp_pc (pc1 := 31) rfl ?_
  refine zp_if_ne (tgt := 103) dL_law_31 (by decide) (fun h31 => absurd h31 (by decide)) (fun h31 => ?_)
  refine zp_aload_n (i := 1) dL_law_34 rfl rfl ?_
  refine zp_iconst (v := 1) dL_law_35 rfl (z32_lit (by decide) (by decide)) ?_
  refine zp_iconst (v := 0) dL_law_36 rfl (z32_lit (by decide) (by decide)) ?_
  refine zp_iconst (v := 0) dL_law_37 rfl (z32_lit (by decide) (by decide)) ?_
  refine zp_iconst (v := -1) dL_law_38 rfl (z32_lit (by decide) (by decide)) ?_
  refine zp_iconst (v := 0) dL_law_39 rfl (z32_lit (by decide) (by decide)) ?_
  refine zp_iconst (v := 0) dL_law_40 rfl (z32_lit (by decide) (by decide)) ?_
  refine zp_cl (d' := d + 14) (o := o) rfl dL_law_41 (Nat.le_of_ble_eq_true rfl) rfl (s_ac hW_11 hst0 ⟨by omega, by omega⟩ (by decide) (Or.inr rfl)) (fun r_13 S_14 w_15 q_16 hW_17 s_18 => ?_)
  obtain ⟨x1, x2⟩ := q_16
  subst x1
  subst x2
  refine zp_st (st1 := [zI 1]) rfl ?_
  refine zp_pc (pc1 := 44) rfl ?_
  refine zp_iconst (v := 1) dL_law_44 rfl (z32_lit (by decide) (by decide)) ?_
  refine zp_icmp_ne (tgt := 103) dL_law_45 (by decide) (fun h45 => absurd h45 (by decide)) (fun h45 => ?_)
  refine zp_aload_n (i := 1) dL_law_48 rfl rfl ?_
  refine zp_iconst (v := 1) dL_law_49 rfl (z32_lit (by decide) (by decide)) ?_
  refine zp_iconst (v := 0) dL_law_50 rfl (z32_lit (by decide) (by decide)) ?_
  refine zp_iconst (v := -1) dL_law_51 rfl (z32_lit (by decide) (by decide)) ?_
  refine zp_iconst (v := -1) dL_law_52 rfl (z32_lit (by decide) (by decide)) ?_
  refine zp_iconst (v := 0) dL_law_53 rfl (z32_lit (by decide) (by decide)) ?_
  refine zp_iconst (v := 0) dL_law_54 rfl (z32_lit (by decide) (by decide)) ?_
  refine zp_cl (d' := d + 14) (o := o) rfl dL_law_55 (Nat.le_of_ble_eq_true rfl) rfl (s_ac hW_17 hst0 ⟨by omega, by omega⟩ (by decide) (Or.inl rfl)) (fun r_19 S_20 w_21 q_22 hW_23 s_24 => ?_)
  obtain ⟨x1, x2⟩ := q_22
  subst x1
  subst x2
  refine zp_st (st1 := [zI 2]) rfl ?_
  refine zp_pc (pc1 := 58) rfl ?_
  refine zp_iconst (v := 2) dL_law_58 rfl (z32_lit (by decide) (by decide)) ?_
  refine zp_icmp_ne (tgt := 103) dL_law_59 (by decide) (fun h59 => absurd h59 (by decide)) (fun h59 => ?_)
  refine zp_aload_n (i := 1) dL_law_62 rfl rfl ?_
  refine zp_iconst (v := 2) dL_law_63 rfl (z32_lit (by decide) (by decide)) ?_
  refine zp_iconst (v := 0) dL_law_64 rfl (z32_lit (by decide) (by decide)) ?_
  refine zp_iconst (v := 0) dL_law_65 rfl (z32_lit (by decide) (by decide)) ?_
  refine zp_iconst (v := 0) dL_law_66 rfl (z32_lit (by decide) (by decide)) ?_
  refine zp_iconst (v := 0) dL_law_67 rfl (z32_lit (by decide) (by decide)) ?_
  refine zp_iconst (v := 0) dL_law_68 rfl (z32_lit (by decide) (by decide)) ?_
  refine zp_cl (d' := d + 14) (o := o) rfl dL_law_69 (Nat.le_of_ble_eq_true rfl) rfl (s_tm (c := 0) (y := (0, 0)) hW_23 hst0 ⟨by omega, by omega⟩ (by decide) (fun x => absurd x (by decide))) (fun r_25 S_26 w_27 q_28 hW_29 s_30 => ?_)
  obtain ⟨x1, x2⟩ := tm_app q_28 (show smB 0 (0, 0) ∉ ([] : List smG) by decide) (Nat.le_of_ble_eq_true rfl)
  subst x1
  subst x2
  refine zp_st (st1 := [zI 0]) rfl ?_
  refine zp_pc (pc1 := 72) rfl ?_
  refine zp_if_ne (tgt := 103) dL_law_72 (by decide) (fun h72 => absurd h72 (by decide)) (fun h72 => ?_)
  refine zp_aload_n (i := 1) dL_law_75 rfl rfl ?_
  refine zp_iconst (v := 2) dL_law_76 rfl (z32_lit (by decide) (by decide)) ?_
  refine zp_iconst (v := 1) dL_law_77 rfl (z32_lit (by decide) (by decide)) ?_
  refine zp_iconst (v := 0) dL_law_78 rfl (z32_lit (by decide) (by decide)) ?_
  refine zp_iconst (v := 0) dL_law_79 rfl (z32_lit (by decide) (by decide)) ?_
  refine zp_iconst (v := 0) dL_law_80 rfl (z32_lit (by decide) (by decide)) ?_
  refine zp_iconst (v := 0) dL_law_81 rfl (z32_lit (by decide) (by decide)) ?_
  refine zp_cl (d' := d + 14) (o := o) rfl dL_law_82 (Nat.le_of_ble_eq_true rfl) rfl (s_tm (c := 1) (y := (0, 0)) hW_29 hst0 ⟨by omega, by omega⟩ (by decide) (fun _ => rfl)) (fun r_31 S_32 w_33 q_34 hW_35 s_36 => ?_)
  obtain ⟨x1, x2⟩ := tm_app q_34 (show smB 1 (0, 0) ∉ ([(0, 0)] : List smG) by decide) (Nat.le_of_ble_eq_true rfl)
  subst x1
  subst x2
  refine zp_st (st1 := [zI 1]) rfl ?_
  refine zp_pc (pc1 := 85) rfl ?_
  refine zp_iconst (v := 1) dL_law_85 rfl (z32_lit (by decide) (by decide)) ?_
  refine zp_icmp_ne (tgt := 103) dL_law_86 (by decide) (fun h86 => absurd h86 (by decide)) (fun h86 => ?_)
  refine zp_aload_n (i := 1) dL_law_89 rfl rfl ?_
  refine zp_iconst (v := 2) dL_law_90 rfl (z32_lit (by decide) (by decide)) ?_
  refine zp_iconst (v := 2) dL_law_91 rfl (z32_lit (by decide) (by decide)) ?_
  refine zp_iconst (v := 0) dL_law_92 rfl (z32_lit (by decide) (by decide)) ?_
  refine zp_iconst (v := 0) dL_law_93 rfl (z32_lit (by decide) (by decide)) ?_
  refine zp_iconst (v := 0) dL_law_94 rfl (z32_lit (by decide) (by decide)) ?_
  refine zp_iconst (v := 0) dL_law_95 rfl (z32_lit (by decide) (by decide)) ?_
  refine zp_cl (d' := d + 14) (o := o) rfl dL_law_96 (Nat.le_of_ble_eq_true rfl) rfl (s_tm (c := 2) (y := (0, 0)) hW_35 hst0 ⟨by omega, by omega⟩ (by decide) (fun x => absurd x (by decide))) (fun r_37 S_38 w_39 q_40 hW_41 s_42 => ?_)
  obtain ⟨x1, x2⟩ := tm_app q_40 (show smB 2 (0, 0) ∉ ([(0, 0), (1, 0)] : List smG) by decide) (Nat.le_of_ble_eq_true rfl)
  subst x1
  subst x2
  refine zp_st (st1 := [zI 2]) rfl ?_
  refine zp_pc (pc1 := 99) rfl ?_
  refine zp_iconst (v := 2) dL_law_99 rfl (z32_lit (by decide) (by decide)) ?_
  refine zp_icmp_eq (tgt := 105) dL_law_100 (by decide) (fun h100 => ?_) (fun h100 => absurd (by decide) h100)
  refine zp_iconst (v := 0) dL_law_105 rfl (z32_lit (by decide) (by decide)) ?_
  refine zp_istore_n (i := 2) dL_law_106 rfl (by decide) rfl ?_
  refine zp_L (L1 := [some (zR sa), some (zR o), some (zI 0), none, none, none, none, none, none, none, none, none, none, none, none, none, none]) rfl ?_
  refine zp_iconst (v := 0) dL_law_107 rfl (z32_lit (by decide) (by decide)) ?_
  refine zp_istore_n (i := 3) dL_law_108 rfl (by decide) rfl ?_
  refine zp_L (L1 := [some (zR sa), some (zR o), some (zI 0), some (zI 0), none, none, none, none, none, none, none, none, none, none, none, none, none]) rfl ?_
  refine zp_iconst (v := 0) dL_law_109 rfl (z32_lit (by decide) (by decide)) ?_
  refine zp_istore (i := 4) dL_law_110 (by decide) rfl ?_
  refine zp_L (L1 := [some (zR sa), some (zR o), some (zI 0), some (zI 0), some (zI 0), none, none, none, none, none, none, none, none, none, none, none, none]) rfl ?_
  refine zp_L (L1 := [some (zR sa), some (zR o), some (zI ((0 : Nat) : Int)), some (zI 0), some (zI ((0 : Nat) : Int)), none, none, none, none, none, none, none, none, none, none, none, none]) rfl ?_
  exact bo_lp hL hst0 hQ 60 (e := 0) rfl lwI_0 hW_41 ⟨by omega, by omega⟩ rfl rfl
/-- the law, whole -/
theorem sr_0 (hL : L0 < 1000000) (hst0 : G.1.stackTraces = false) (hQ : ∀ w', Q (.inl (some (zI 1))) w') (hk : 60 * (w.2.1 + 50) + 180 + 60 * 33000 + 6010000 ≤ 60 * G.2.2.2.2.1 ∧ w.2.2 + 9 + 3562 + 18 + 60 * 3700 + 6831000 ≤ G.2.2.2.2.2) : zXp (scX sa L0 xs w0) G zm_L_law (d + 15) av w0 Q 0 [some (zR sa), none, none, none, none, none, none, none, none, none, none, none, none, none, none, none, none] [] w := by
  refine zp_new dL_law_0 zn_L_10 (by omega) (by omega) ?_
  refine zp_dup dL_law_3 (fun a h => by cases h) ?_
  obtain ⟨r1, r2⟩ : (znew w (11, 0, [zN, zN, zN, zN, zN, zN, zI 0, zI 0, zJ 0]) 9).2.1 = w.2.1 + 1 ∧ (znew w (11, 0, [zN, zN, zN, zN, zN, zN, zI 0, zI 0, zJ 0]) 9).2.2 = w.2.2 + 9 := ⟨rfl, rfl⟩
  refine zp_invokespecial (b := w.2.1) (As := []) (st := [zR w.2.1]) dL_law_4 zc_L_137 rfl (Nat.le_of_ble_eq_true rfl) rfl (c_X11_init (d := d + 9) znew_at (by omega) (by omega)) (fun v w' q => ?_) (fun i w' q => ?_)
  · obtain ⟨e1, ⟨a, b, c, hW⟩, -⟩ := q
    cases e1
    rw [r1, r2] at hW
    refine zp_st (st1 := [zR w.2.1]) rfl ?_
    refine zp_pc (pc1 := 7) rfl ?_
    refine zp_astore_n (i := 1) dL_law_7 rfl (by decide) rfl ?_
    refine zp_L (L1 := [some (zR sa), some (zR w.2.1), none, none, none, none, none, none, none, none, none, none, none, none, none, none, none]) rfl ?_
    exact sr_8 hL hst0 hQ hW ⟨by omega, by omega⟩
  · cases q.1
/-- the law's contract -/
theorem c_L_law (hL : L0 < 1000000) (hst0 : G.1.stackTraces = false) (hk : 60 * (w.2.1 + 50) + 180 + 60 * 33000 + 6010000 ≤ 60 * G.2.2.2.2.1 ∧ w.2.2 + 9 + 3562 + 18 + 60 * 3700 + 6831000 ≤ G.2.2.2.2.2) : zMp (scX sa L0 xs w) G zm_L_law (d + 15) [zR sa] w (fun out _ => out = .inl (some (zI 1))) := by
  refine zp_enter (by decide +kernel) rfl (by rw [zlg_len]; exact Nat.le_of_ble_eq_true rfl) ?_
  refine zp_L (L1 := [some (zR sa), none, none, none, none, none, none, none, none, none, none, none, none, none, none, none, none]) rfl ?_
  exact sr_0 hL hst0 (fun _ => rfl) hk
end LSX
