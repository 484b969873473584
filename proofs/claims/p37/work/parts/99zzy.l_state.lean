/-! Own rows: the law's state: a number of the object's state. Printed by wip/p37/m_lst.py. -/
/-- terms, from one of the law's own methods -/
theorem zx_te {G : zG} {M : zMd} {d : Nat} {av : List zV} {w0 : zW} {Q : zQ} {pc : Nat} {L : List (Option zV)} {st : List zV} {w : zW} {o k1 k2 : Nat} {S : whS} {of : List zV} (hm : M.1.cls = "ModedMillLaw") (hd : decode M.2.1 pc = .ok (.invokevirtual 134, 3)) (h : whW w o k1 k2 S) (ho : w.1 o = some (11, 0, of)) (hst : st.length ≤ 4) (hh : M.2.2.2.2 = []) (k : ∀ w', whW w' o (k1 + 60) (k2 + 6) S → zSc w w' → zX G M (d + 14) av w0 Q (pc + 3) L (zI (S.2.1.length : Int) :: st) w') : zX G M (d + 14) av w0 Q pc L (zR o :: st) w := by
  obtain ⟨⟨ty, C⟩, tm, R, ⟨comp, asked, sum⟩, ⟨mo, ⟨I, An, Nt⟩, ⟨sc, cc, dc, en, bk, bc⟩⟩⟩ := S
  refine zx_invokevirtual (b := o) (As := []) (st := st) hd (by rw [hm]; exact zc_L_134) ho rfl rfl rfl hst hh (w_te (d := d + 11) h) (fun v w' q => ?_) (fun i w' q => ?_)
  · obtain ⟨⟨q1, q2⟩, e⟩ := q
    cases e
    exact k w' q1 q2
  · obtain ⟨-, e⟩ := q
    cases e
def stB (S : whS) (p m h : Int) : Int := (zwl ((zwl (31 * (zwl ((zwl (31 * (zwl ((zwl (31 * (zwl ((zwl (31 * h)) + (rvN (rdS S 13 p m)))))) + (rvN (rdS S 14 p m)))))) + (rvN (rdS S 15 p m)))))) + (rvN (rdS S 16 p m))))
def stI (S : whS) (p : Int) : Nat → Int → Int → Int
  | 0, _, h => h
  | n + 1, m, h => stI S p n (m + 1) (stB S p m h)
def stO (S : whS) : Nat → Int → Int → Int
  | 0, _, h => h
  | n + 1, p, h => stO S n (p + 1) (stI S p 2 0 h)
def stC (S : whS) (x h : Int) : Int := (zwl ((zwl (31 * (zwl ((zwl (31 * h)) + (rvN (rdS S ((20 + x).toNat) 0 0)))))) + (rvN (rdS S 28 x 0))))
def stK (S : whS) : Nat → Int → Int → Int
  | 0, _, h => h
  | n + 1, x, h => stK S n (x + 1) (stC S x h)
def stD (S : whS) (h : Int) : Int := (zwl ((zwl (31 * (zwl ((zwl (31 * h)) + (rvN (rdS S 26 0 0)))))) + (S.2.1.length : Int)))
/-- the number -/
def stF (S : whS) : Int := stD S (stK S 6 0 (stO S 5 0 157))
section LSTATE
variable {G : zG} {d : Nat} {w0 : zW} {Q : zQ} {o : Nat} {S : whS} {av : List zV}
theorem st_li (hF : rdF S) (hst0 : G.1.stackTraces = false) : ∀ (n : Nat) (p m h : Int) (w : zW) (k1 k2 : Nat), 0 ≤ m → m + n = 2 → whW w o k1 k2 S → (k1 + 240 * n + 6000000 ≤ 60 * G.2.2.2.2.1 ∧ k2 + 24 * n + 6830000 ≤ G.2.2.2.2.2) → (∀ w', whW w' o (k1 + 240 * n) (k2 + 24 * n) S → zSc w w' → zX G zm_L_state (d + 14) av w0 Q 102 [some (zR o), some (zJ (stI S p n m h)), none, some (zI p), some (zI 2)] [] w') → zX G zm_L_state (d + 14) av w0 Q 14 [some (zR o), some (zJ h), none, some (zI p), some (zI m)] [] w
  | 0, p, m, h, w, k1, k2, hm0, hmn, hW, hk, k => by
    have e : m = 2 := by omega
    subst e
    refine zx_iload (i := 4) dL_state_14 rfl ?_
    refine zx_iconst (v := 2) dL_state_16 rfl (z32_lit (by decide) (by decide)) ?_
    refine zx_icmp_ge (tgt := 102) dL_state_17 (by decide) (fun h17 => ?_) (fun h17 => absurd (by decide) h17)
    exact k w (whW_le hW (by omega) (by omega)) zSc_re
  | n + 1, p, m, h, w, k1, k2, hm0, hmn, hW, hk, k => by
    refine zx_iload (i := 4) dL_state_14 rfl ?_
    refine zx_iconst (v := 2) dL_state_16 rfl (z32_lit (by decide) (by decide)) ?_
    refine zx_icmp_ge (tgt := 102) dL_state_17 (by decide) (fun h17 => absurd h17 (by omega)) (fun h17 => ?_)
    refine zx_ldc2 (v := 31) dL_state_20 zk_L_126 (by decide +kernel) ⟨by decide, by decide⟩ ?_
    refine zx_ldc2 (v := 31) dL_state_23 zk_L_126 (by decide +kernel) ⟨by decide, by decide⟩ ?_
    refine zx_ldc2 (v := 31) dL_state_26 zk_L_126 (by decide +kernel) ⟨by decide, by decide⟩ ?_
    refine zx_lload_n (i := 1) dL_state_29 rfl rfl ?_
    refine zx_lmul (v := zwl (31 * h)) dL_state_30 rfl ?_
    refine zx_aload_n (i := 0) dL_state_31 rfl rfl ?_
    refine zx_bipush (v := 13) dL_state_32 (by decide +kernel) (z32_lit (by decide) (by decide)) ?_
    refine zx_iload_n (i := 3) dL_state_34 rfl rfl ?_
    refine zx_pc (pc1 := 35) rfl ?_
    refine zx_iload (i := 4) dL_state_35 rfl ?_
    refine zx_iconst (v := 0) dL_state_37 rfl (z32_lit (by decide) (by decide)) ?_
    refine zx_iconst (v := 0) dL_state_38 rfl (z32_lit (by decide) (by decide)) ?_
    refine zx_iconst (v := 0) dL_state_39 rfl (z32_lit (by decide) (by decide)) ?_
    refine zx_rd (d := d) (o := o) (k1 := k1) (k2 := k2) (S := S) rfl dL_state_40 (Nat.le_of_ble_eq_true rfl) rfl hW hF hst0 ⟨by omega, by omega⟩ 13 rfl (by decide) (fun q => absurd q (by decide)) (fun w_1 hW_2 sc_3 => ?_)
    refine zx_pc (pc1 := 43) rfl ?_
    refine zx_i2l dL_state_43 ?_
    refine zx_ladd (v := zwl ((zwl (31 * h)) + (rvN (rdS S 13 p m)))) dL_state_44 rfl ?_
    refine zx_lmul (v := zwl (31 * (zwl ((zwl (31 * h)) + (rvN (rdS S 13 p m)))))) dL_state_45 rfl ?_
    refine zx_aload_n (i := 0) dL_state_46 rfl rfl ?_
    refine zx_bipush (v := 14) dL_state_47 (by decide +kernel) (z32_lit (by decide) (by decide)) ?_
    refine zx_iload_n (i := 3) dL_state_49 rfl rfl ?_
    refine zx_iload (i := 4) dL_state_50 rfl ?_
    refine zx_iconst (v := 0) dL_state_52 rfl (z32_lit (by decide) (by decide)) ?_
    refine zx_iconst (v := 0) dL_state_53 rfl (z32_lit (by decide) (by decide)) ?_
    refine zx_iconst (v := 0) dL_state_54 rfl (z32_lit (by decide) (by decide)) ?_
    refine zx_rd (d := d) (o := o) (k1 := (k1 + 60)) (k2 := (k2 + 6)) (S := S) rfl dL_state_55 (Nat.le_of_ble_eq_true rfl) rfl hW_2 hF hst0 ⟨by omega, by omega⟩ 14 rfl (by decide) (fun q => absurd q (by decide)) (fun w_4 hW_5 sc_6 => ?_)
    refine zx_pc (pc1 := 58) rfl ?_
    refine zx_i2l dL_state_58 ?_
    refine zx_ladd (v := zwl ((zwl (31 * (zwl ((zwl (31 * h)) + (rvN (rdS S 13 p m)))))) + (rvN (rdS S 14 p m)))) dL_state_59 rfl ?_
    refine zx_lmul (v := zwl (31 * (zwl ((zwl (31 * (zwl ((zwl (31 * h)) + (rvN (rdS S 13 p m)))))) + (rvN (rdS S 14 p m)))))) dL_state_60 rfl ?_
    refine zx_aload_n (i := 0) dL_state_61 rfl rfl ?_
    refine zx_bipush (v := 15) dL_state_62 (by decide +kernel) (z32_lit (by decide) (by decide)) ?_
    refine zx_iload_n (i := 3) dL_state_64 rfl rfl ?_
    refine zx_iload (i := 4) dL_state_65 rfl ?_
    refine zx_iconst (v := 0) dL_state_67 rfl (z32_lit (by decide) (by decide)) ?_
    refine zx_iconst (v := 0) dL_state_68 rfl (z32_lit (by decide) (by decide)) ?_
    refine zx_iconst (v := 0) dL_state_69 rfl (z32_lit (by decide) (by decide)) ?_
    refine zx_rd (d := d) (o := o) (k1 := ((k1 + 60) + 60)) (k2 := ((k2 + 6) + 6)) (S := S) rfl dL_state_70 (Nat.le_of_ble_eq_true rfl) rfl hW_5 hF hst0 ⟨by omega, by omega⟩ 15 rfl (by decide) (fun q => absurd q (by decide)) (fun w_7 hW_8 sc_9 => ?_)
    refine zx_pc (pc1 := 73) rfl ?_
    refine zx_i2l dL_state_73 ?_
    refine zx_ladd (v := zwl ((zwl (31 * (zwl ((zwl (31 * (zwl ((zwl (31 * h)) + (rvN (rdS S 13 p m)))))) + (rvN (rdS S 14 p m)))))) + (rvN (rdS S 15 p m)))) dL_state_74 rfl ?_
    refine zx_lstore_n (i := 1) dL_state_75 rfl (by decide) rfl ?_
    refine zx_L (L1 := [some (zR o), some (zJ (zwl ((zwl (31 * (zwl ((zwl (31 * (zwl ((zwl (31 * h)) + (rvN (rdS S 13 p m)))))) + (rvN (rdS S 14 p m)))))) + (rvN (rdS S 15 p m))))), none, some (zI p), some (zI m)]) rfl ?_
    refine zx_ldc2 (v := 31) dL_state_76 zk_L_126 (by decide +kernel) ⟨by decide, by decide⟩ ?_
    refine zx_lload_n (i := 1) dL_state_79 rfl rfl ?_
    refine zx_lmul (v := zwl (31 * (zwl ((zwl (31 * (zwl ((zwl (31 * (zwl ((zwl (31 * h)) + (rvN (rdS S 13 p m)))))) + (rvN (rdS S 14 p m)))))) + (rvN (rdS S 15 p m)))))) dL_state_80 rfl ?_
    refine zx_aload_n (i := 0) dL_state_81 rfl rfl ?_
    refine zx_bipush (v := 16) dL_state_82 (by decide +kernel) (z32_lit (by decide) (by decide)) ?_
    refine zx_iload_n (i := 3) dL_state_84 rfl rfl ?_
    refine zx_iload (i := 4) dL_state_85 rfl ?_
    refine zx_iconst (v := 0) dL_state_87 rfl (z32_lit (by decide) (by decide)) ?_
    refine zx_pc (pc1 := 88) rfl ?_
    refine zx_iconst (v := 0) dL_state_88 rfl (z32_lit (by decide) (by decide)) ?_
    refine zx_iconst (v := 0) dL_state_89 rfl (z32_lit (by decide) (by decide)) ?_
    refine zx_rd (d := d) (o := o) (k1 := (((k1 + 60) + 60) + 60)) (k2 := (((k2 + 6) + 6) + 6)) (S := S) rfl dL_state_90 (Nat.le_of_ble_eq_true rfl) rfl hW_8 hF hst0 ⟨by omega, by omega⟩ 16 rfl (by decide) (fun q => absurd q (by decide)) (fun w_10 hW_11 sc_12 => ?_)
    refine zx_pc (pc1 := 93) rfl ?_
    refine zx_i2l dL_state_93 ?_
    refine zx_ladd (v := zwl ((zwl (31 * (zwl ((zwl (31 * (zwl ((zwl (31 * (zwl ((zwl (31 * h)) + (rvN (rdS S 13 p m)))))) + (rvN (rdS S 14 p m)))))) + (rvN (rdS S 15 p m)))))) + (rvN (rdS S 16 p m)))) dL_state_94 rfl ?_
    refine zx_lstore_n (i := 1) dL_state_95 rfl (by decide) rfl ?_
    refine zx_L (L1 := [some (zR o), some (zJ (zwl ((zwl (31 * (zwl ((zwl (31 * (zwl ((zwl (31 * (zwl ((zwl (31 * h)) + (rvN (rdS S 13 p m)))))) + (rvN (rdS S 14 p m)))))) + (rvN (rdS S 15 p m)))))) + (rvN (rdS S 16 p m))))), none, some (zI p), some (zI m)]) rfl ?_
    refine zx_iinc (i := 4) (v := m + 1) dL_state_96 rfl (zw_id ⟨by omega, by omega⟩) (by decide) rfl ?_
    refine zx_L (L1 := [some (zR o), some (zJ (zwl ((zwl (31 * (zwl ((zwl (31 * (zwl ((zwl (31 * (zwl ((zwl (31 * h)) + (rvN (rdS S 13 p m)))))) + (rvN (rdS S 14 p m)))))) + (rvN (rdS S 15 p m)))))) + (rvN (rdS S 16 p m))))), none, some (zI p), some (zI (m + 1))]) rfl ?_
    refine zx_goto (tgt := 14) dL_state_99 (by decide) ?_
    refine st_li hF hst0 n p (m + 1) (zwl ((zwl (31 * (zwl ((zwl (31 * (zwl ((zwl (31 * (zwl ((zwl (31 * h)) + (rvN (rdS S 13 p m)))))) + (rvN (rdS S 14 p m)))))) + (rvN (rdS S 15 p m)))))) + (rvN (rdS S 16 p m)))) w_10 ((((k1 + 60) + 60) + 60) + 60) ((((k2 + 6) + 6) + 6) + 6) (by omega) (by omega) hW_11 ⟨by omega, by omega⟩ (fun w9 h9 s9 => k w9 (whW_le h9 (by omega) (by omega)) (zSc_tr sc_3 (zSc_tr sc_6 (zSc_tr sc_9 (zSc_tr sc_12 s9)))))
theorem st_lk (hF : rdF S) (hbk : S.2.2.2.1.2.1 ≠ 0 → S.2.2.2.2.2.2.2.2.2.2.1 ≠ 0) (hst0 : G.1.stackTraces = false) : ∀ (n : Nat) (x h : Int) (w : zW) (k1 k2 : Nat) (o5 : Option zV), 0 ≤ x → x + n = 6 → whW w o k1 k2 S → (k1 + 120 * n + 6000000 ≤ 60 * G.2.2.2.2.1 ∧ k2 + 12 * n + 6830000 ≤ G.2.2.2.2.2) → (∀ w', whW w' o (k1 + 120 * n) (k2 + 12 * n) S → zSc w w' → zX G zm_L_state (d + 14) av w0 Q 160 [some (zR o), some (zJ (stK S n x h)), none, some (zI 6), o5] [] w') → zX G zm_L_state (d + 14) av w0 Q 110 [some (zR o), some (zJ h), none, some (zI x), o5] [] w
  | 0, x, h, w, k1, k2, o5, hm0, hmn, hW, hk, k => by
    have e : x = 6 := by omega
    subst e
    refine zx_iload_n (i := 3) dL_state_110 rfl rfl ?_
    refine zx_bipush (v := 6) dL_state_111 (by decide +kernel) (z32_lit (by decide) (by decide)) ?_
    refine zx_icmp_ge (tgt := 160) dL_state_113 (by decide) (fun h113 => ?_) (fun h113 => absurd (by decide) h113)
    exact k w (whW_le hW (by omega) (by omega)) zSc_re
  | n + 1, x, h, w, k1, k2, o5, hm0, hmn, hW, hk, k => by
    refine zx_iload_n (i := 3) dL_state_110 rfl rfl ?_
    refine zx_bipush (v := 6) dL_state_111 (by decide +kernel) (z32_lit (by decide) (by decide)) ?_
    refine zx_icmp_ge (tgt := 160) dL_state_113 (by decide) (fun h113 => absurd h113 (by omega)) (fun h113 => ?_)
    refine zx_ldc2 (v := 31) dL_state_116 zk_L_126 (by decide +kernel) ⟨by decide, by decide⟩ ?_
    refine zx_ldc2 (v := 31) dL_state_119 zk_L_126 (by decide +kernel) ⟨by decide, by decide⟩ ?_
    refine zx_lload_n (i := 1) dL_state_122 rfl rfl ?_
    refine zx_lmul (v := zwl (31 * h)) dL_state_123 rfl ?_
    refine zx_aload_n (i := 0) dL_state_124 rfl rfl ?_
    refine zx_bipush (v := 20) dL_state_125 (by decide +kernel) (z32_lit (by decide) (by decide)) ?_
    refine zx_iload_n (i := 3) dL_state_127 rfl rfl ?_
    refine zx_iadd (v := 20 + x) dL_state_128 (zw_id ⟨by omega, by omega⟩) ?_
    refine zx_pc (pc1 := 129) rfl ?_
    refine zx_iconst (v := 0) dL_state_129 rfl (z32_lit (by decide) (by decide)) ?_
    refine zx_iconst (v := 0) dL_state_130 rfl (z32_lit (by decide) (by decide)) ?_
    refine zx_iconst (v := 0) dL_state_131 rfl (z32_lit (by decide) (by decide)) ?_
    refine zx_iconst (v := 0) dL_state_132 rfl (z32_lit (by decide) (by decide)) ?_
    refine zx_iconst (v := 0) dL_state_133 rfl (z32_lit (by decide) (by decide)) ?_
    refine zx_rd (d := d) (o := o) (k1 := k1) (k2 := k2) (S := S) rfl dL_state_134 (Nat.le_of_ble_eq_true rfl) rfl hW hF hst0 ⟨by omega, by omega⟩ (20 + x).toNat (by omega) (Or.inr (by omega)) (fun _ => hbk) (fun w_1 hW_2 sc_3 => ?_)
    refine zx_pc (pc1 := 137) rfl ?_
    refine zx_i2l dL_state_137 ?_
    refine zx_ladd (v := zwl ((zwl (31 * h)) + (rvN (rdS S ((20 + x).toNat) 0 0)))) dL_state_138 rfl ?_
    refine zx_lmul (v := zwl (31 * (zwl ((zwl (31 * h)) + (rvN (rdS S ((20 + x).toNat) 0 0)))))) dL_state_139 rfl ?_
    refine zx_aload_n (i := 0) dL_state_140 rfl rfl ?_
    refine zx_bipush (v := 28) dL_state_141 (by decide +kernel) (z32_lit (by decide) (by decide)) ?_
    refine zx_iload_n (i := 3) dL_state_143 rfl rfl ?_
    refine zx_iconst (v := 0) dL_state_144 rfl (z32_lit (by decide) (by decide)) ?_
    refine zx_iconst (v := 0) dL_state_145 rfl (z32_lit (by decide) (by decide)) ?_
    refine zx_iconst (v := 0) dL_state_146 rfl (z32_lit (by decide) (by decide)) ?_
    refine zx_iconst (v := 0) dL_state_147 rfl (z32_lit (by decide) (by decide)) ?_
    refine zx_rd (d := d) (o := o) (k1 := (k1 + 60)) (k2 := (k2 + 6)) (S := S) rfl dL_state_148 (Nat.le_of_ble_eq_true rfl) rfl hW_2 hF hst0 ⟨by omega, by omega⟩ 28 rfl (by decide) (fun q => absurd q (by decide)) (fun w_4 hW_5 sc_6 => ?_)
    refine zx_pc (pc1 := 151) rfl ?_
    refine zx_i2l dL_state_151 ?_
    refine zx_ladd (v := zwl ((zwl (31 * (zwl ((zwl (31 * h)) + (rvN (rdS S ((20 + x).toNat) 0 0)))))) + (rvN (rdS S 28 x 0)))) dL_state_152 rfl ?_
    refine zx_lstore_n (i := 1) dL_state_153 rfl (by decide) rfl ?_
    refine zx_L (L1 := [some (zR o), some (zJ (zwl ((zwl (31 * (zwl ((zwl (31 * h)) + (rvN (rdS S ((20 + x).toNat) 0 0)))))) + (rvN (rdS S 28 x 0))))), none, some (zI x), o5]) rfl ?_
    refine zx_iinc (i := 3) (v := x + 1) dL_state_154 rfl (zw_id ⟨by omega, by omega⟩) (by decide) rfl ?_
    refine zx_L (L1 := [some (zR o), some (zJ (zwl ((zwl (31 * (zwl ((zwl (31 * h)) + (rvN (rdS S ((20 + x).toNat) 0 0)))))) + (rvN (rdS S 28 x 0))))), none, some (zI (x + 1)), o5]) rfl ?_
    refine zx_goto (tgt := 110) dL_state_157 (by decide) ?_
    refine st_lk hF hbk hst0 n (x + 1) (zwl ((zwl (31 * (zwl ((zwl (31 * h)) + (rvN (rdS S ((20 + x).toNat) 0 0)))))) + (rvN (rdS S 28 x 0)))) w_4 ((k1 + 60) + 60) ((k2 + 6) + 6) o5 (by omega) (by omega) hW_5 ⟨by omega, by omega⟩ (fun w9 h9 s9 => k w9 (whW_le h9 (by omega) (by omega)) (zSc_tr sc_3 (zSc_tr sc_6 s9)))
theorem st_lo (hF : rdF S) (hst0 : G.1.stackTraces = false) : ∀ (n : Nat) (p h : Int) (w : zW) (k1 k2 : Nat) (o5 : Option zV), 0 ≤ p → p + n = 5 → whW w o k1 k2 S → (k1 + 480 * n + 6000000 ≤ 60 * G.2.2.2.2.1 ∧ k2 + 48 * n + 6830000 ≤ G.2.2.2.2.2) → (∀ (w' : zW) (o6 : Option zV), whW w' o (k1 + 480 * n) (k2 + 48 * n) S → zSc w w' → zX G zm_L_state (d + 14) av w0 Q 108 [some (zR o), some (zJ (stO S n p h)), none, some (zI 5), o6] [] w') → zX G zm_L_state (d + 14) av w0 Q 6 [some (zR o), some (zJ h), none, some (zI p), o5] [] w
  | 0, p, h, w, k1, k2, o5, hm0, hmn, hW, hk, k => by
    have e : p = 5 := by omega
    subst e
    refine zx_iload_n (i := 3) dL_state_6 rfl rfl ?_
    refine zx_iconst (v := 5) dL_state_7 rfl (z32_lit (by decide) (by decide)) ?_
    refine zx_icmp_ge (tgt := 108) dL_state_8 (by decide) (fun h8 => ?_) (fun h8 => absurd (by decide) h8)
    exact k w o5 (whW_le hW (by omega) (by omega)) zSc_re
  | n + 1, p, h, w, k1, k2, o5, hm0, hmn, hW, hk, k => by
    refine zx_iload_n (i := 3) dL_state_6 rfl rfl ?_
    refine zx_iconst (v := 5) dL_state_7 rfl (z32_lit (by decide) (by decide)) ?_
    refine zx_icmp_ge (tgt := 108) dL_state_8 (by decide) (fun h8 => absurd h8 (by omega)) (fun h8 => ?_)
    refine zx_iconst (v := 0) dL_state_11 rfl (z32_lit (by decide) (by decide)) ?_
    refine zx_istore (i := 4) dL_state_12 (by decide) rfl ?_
    refine zx_L (L1 := [some (zR o), some (zJ h), none, some (zI p), some (zI 0)]) rfl ?_
    refine st_li hF hst0 2 p 0 h w k1 k2 (by decide) (by decide) hW ⟨by omega, by omega⟩ (fun w1 h1 s1 => ?_)
    refine zx_iinc (i := 3) (v := p + 1) dL_state_102 rfl (zw_id ⟨by omega, by omega⟩) (by decide) rfl ?_
    refine zx_L (L1 := [some (zR o), some (zJ (stI S p 2 0 h)), none, some (zI (p + 1)), some (zI 2)]) rfl ?_
    refine zx_goto (tgt := 6) dL_state_105 (by decide) ?_
    exact st_lo hF hst0 n (p + 1) (stI S p 2 0 h) w1 (k1 + 480) (k2 + 48) (some (zI 2)) (by omega) (by omega) h1 ⟨by omega, by omega⟩ (fun w9 y9 h9 s9 => k w9 y9 (whW_le h9 (by omega) (by omega)) (zSc_tr s1 s9))
theorem c_L_state {w : zW} {k1 k2 : Nat} (hW : whW w o k1 k2 S) (hF : rdF S) (hbk : S.2.2.2.1.2.1 ≠ 0 → S.2.2.2.2.2.2.2.2.2.2.1 ≠ 0) (hst0 : G.1.stackTraces = false) (hk : k1 + 3240 + 6000000 ≤ 60 * G.2.2.2.2.1 ∧ k2 + 324 + 6830000 ≤ G.2.2.2.2.2) : zM G zm_L_state (d + 14) [zR o] w (fun out w' => out = .inl (some (zJ (stF S))) ∧ whW w' o (k1 + 3240) (k2 + 324) S ∧ zSc w w') := by
  refine zx_ent (by decide +kernel) rfl (Nat.le_of_ble_eq_true rfl) ?_
  refine zx_L (L1 := [some (zR o), none, none, none, none]) rfl ?_
  refine zx_ldc2 (v := 157) dL_state_0 zk_L_124 (by decide +kernel) ⟨by decide, by decide⟩ ?_
  refine zx_lstore_n (i := 1) dL_state_3 rfl (by decide) rfl ?_
  refine zx_L (L1 := [some (zR o), some (zJ 157), none, none, none]) rfl ?_
  refine zx_iconst (v := 0) dL_state_4 rfl (z32_lit (by decide) (by decide)) ?_
  refine zx_istore_n (i := 3) dL_state_5 rfl (by decide) rfl ?_
  refine zx_L (L1 := [some (zR o), some (zJ 157), none, some (zI 0), none]) rfl ?_
  refine st_lo hF hst0 5 0 157 w k1 k2 none (by decide) (by decide) hW ⟨by omega, by omega⟩ (fun w1 o5 h1 s1 => ?_)
  refine zx_iconst (v := 0) dL_state_108 rfl (z32_lit (by decide) (by decide)) ?_
  refine zx_istore_n (i := 3) dL_state_109 rfl (by decide) rfl ?_
  refine zx_L (L1 := [some (zR o), some (zJ (stO S 5 0 157)), none, some (zI 0), o5]) rfl ?_
  refine st_lk hF hbk hst0 6 0 (stO S 5 0 157) w1 (k1 + 2400) (k2 + 240) o5 (by decide) (by decide) h1 ⟨by omega, by omega⟩ (fun w2 h2 s2 => ?_)
  refine zx_ldc2 (v := 31) dL_state_160 zk_L_126 (by decide +kernel) ⟨by decide, by decide⟩ ?_
  refine zx_ldc2 (v := 31) dL_state_163 zk_L_126 (by decide +kernel) ⟨by decide, by decide⟩ ?_
  refine zx_lload_n (i := 1) dL_state_166 rfl rfl ?_
  refine zx_lmul (v := zwl (31 * (stK S 6 0 (stO S 5 0 157)))) dL_state_167 rfl ?_
  refine zx_aload_n (i := 0) dL_state_168 rfl rfl ?_
  refine zx_bipush (v := 26) dL_state_169 (by decide +kernel) (z32_lit (by decide) (by decide)) ?_
  refine zx_iconst (v := 0) dL_state_171 rfl (z32_lit (by decide) (by decide)) ?_
  refine zx_iconst (v := 0) dL_state_172 rfl (z32_lit (by decide) (by decide)) ?_
  refine zx_iconst (v := 0) dL_state_173 rfl (z32_lit (by decide) (by decide)) ?_
  refine zx_iconst (v := 0) dL_state_174 rfl (z32_lit (by decide) (by decide)) ?_
  refine zx_iconst (v := 0) dL_state_175 rfl (z32_lit (by decide) (by decide)) ?_
  refine zx_pc (pc1 := 176) rfl ?_
  refine zx_rd (d := d) (o := o) (k1 := (k1 + 2400 + 720)) (k2 := (k2 + 240 + 72)) (S := S) rfl dL_state_176 (Nat.le_of_ble_eq_true rfl) rfl h2 hF hst0 ⟨by omega, by omega⟩ 26 rfl (by decide) (fun q => absurd q (by decide)) (fun w_1 hW_2 sc_3 => ?_)
  refine zx_pc (pc1 := 179) rfl ?_
  refine zx_i2l dL_state_179 ?_
  refine zx_ladd (v := zwl ((zwl (31 * (stK S 6 0 (stO S 5 0 157)))) + (rvN (rdS S 26 0 0)))) dL_state_180 rfl ?_
  refine zx_lmul (v := zwl (31 * (zwl ((zwl (31 * (stK S 6 0 (stO S 5 0 157)))) + (rvN (rdS S 26 0 0)))))) dL_state_181 rfl ?_
  refine zx_aload_n (i := 0) dL_state_182 rfl rfl ?_
  obtain ⟨of_4, ho_5⟩ := whW_o hW_2
  refine zx_te (d := d) (o := o) (k1 := ((k1 + 2400 + 720) + 60)) (k2 := ((k2 + 240 + 72) + 6)) (S := S) rfl dL_state_183 hW_2 ho_5 (Nat.le_of_ble_eq_true rfl) rfl (fun w_6 hW_7 sc_8 => ?_)
  refine zx_pc (pc1 := 186) rfl ?_
  refine zx_i2l dL_state_186 ?_
  refine zx_ladd (v := zwl ((zwl (31 * (zwl ((zwl (31 * (stK S 6 0 (stO S 5 0 157)))) + (rvN (rdS S 26 0 0)))))) + (S.2.1.length : Int))) dL_state_187 rfl ?_
  refine zx_lreturn dL_state_188 rfl ?_
  exact ⟨rfl, whW_le hW_7 (by omega) (by omega), zSc_tr s1 (zSc_tr s2 (zSc_tr sc_3 (zSc_tr sc_8 zSc_re)))⟩
end LSTATE
