/-! Own rows: the law's loop. Printed by wip/p37/m_loop.py. -/
/-- the round behind this one -/
def lpK (X : State → Prop) (G : zG) (d : Nat) (av : List zV) (w0 : zW) (Q : zQ) (sa o : Nat) (e k1 k2 : Nat) : Prop := ∀ (S' : whS) (pn' ic' : Int) (w' : zW), whW w' o (k1 + 33000) (k2 + 3700) S' → lwI (e + 1) S' → pn' = (S'.2.2.1.2.2.1.1.length : Int) → ic' = S'.2.2.2.1.1 → zXp X G zm_L_law (d + 15) av w0 Q 112 [some (zR sa), some (zR o), some (zI pn'), some (zI ic'), some (zI ((e + 1 : Nat) : Int)), none, none, none, none, none, none, none, none, none, none, none, none] [] w'
section LLP
variable {X : State → Prop} {G : zG} {d : Nat} {av : List zV} {w0 : zW} {Q : zQ} {w : zW} {sa o k1 k2 e L0 : Nat} {xs : Nat → Int32} {S : whS} {pn ic g h cl srt was got : Int}
theorem bo_4 {K1 K2 : Nat} (hI : lwI (e + 1) S) (he : e < 60) (hst0 : G.1.stackTraces = false) (hW : whW w o K1 K2 S) (hK : K1 + 3300 ≤ k1 + 33000 ∧ K2 + 330 ≤ k2 + 3700) (hk : k1 + 33000 + 6010000 ≤ 60 * G.2.2.2.2.1 ∧ k2 + 3700 + 6831000 ≤ G.2.2.2.2.2) (hpn : pn = (S.2.2.1.2.2.1.1.length : Int)) (hic : ic = S.2.2.2.1.1) (hgot : 0 ≤ got ∨ was = stF S) (kk : lpK X G d av w0 Q sa o e k1 k2) : zXp X G zm_L_law (d + 15) av w0 Q 928 [some (zR sa), some (zR o), some (zI pn), some (zI ic), some (zI (e : Int)), none, none, none, none, none, some (zJ was), none, some (zI got), none, none, none, none] [] w := by
  refine zp_iload (i := 12) dL_law_928 rfl ?_
  refine zp_if_ge (tgt := 943) dL_law_930 (by decide) (fun h930 => ?_) (fun h930 => ?_)
  · refine zp_iload_n (i := 3) dL_law_943 rfl rfl ?_
    refine zp_if_eq (tgt := 966) dL_law_944 (by decide) (fun h944 => ?_) (fun h944 => ?_)
    · refine zp_iinc (i := 4) (v := ((e + 1 : Nat) : Int)) dL_law_966 rfl (by rw [zw_id ⟨by omega, by omega⟩]; omega) (by decide) rfl ?_
      refine zp_L (L1 := [some (zR sa), some (zR o), some (zI pn), some (zI ic), some (zI ((e + 1 : Nat) : Int)), none, none, none, none, none, some (zJ was), none, some (zI got), none, none, none, none]) rfl ?_
      refine zp_goto (tgt := 112) dL_law_969 (by decide) ?_
      refine zp_Lw (L1 := [some (zR sa), some (zR o), some (zI pn), some (zI ic), some (zI ((e + 1 : Nat) : Int)), none, none, none, none, none, none, none, none, none, none, none, none]) ⟨Or.inr rfl, Or.inr rfl, Or.inr rfl, Or.inr rfl, Or.inr rfl, Or.inr rfl, Or.inr rfl, Or.inr rfl, Or.inr rfl, Or.inr rfl, Or.inl rfl, Or.inr rfl, Or.inl rfl, Or.inr rfl, Or.inr rfl, Or.inr rfl, Or.inr rfl, trivial⟩ ?_
      exact kk _ _ _ w (whW_le hW (by omega) (by omega)) hI hpn hic
    · refine zp_aload_n (i := 1) dL_law_947 rfl rfl ?_
      refine zp_bipush (v := 11) dL_law_948 (by decide +kernel) (z32_lit (by decide) (by decide)) ?_
      refine zp_iconst (v := 0) dL_law_950 rfl (z32_lit (by decide) (by decide)) ?_
      refine zp_iconst (v := 0) dL_law_951 rfl (z32_lit (by decide) (by decide)) ?_
      refine zp_iconst (v := 0) dL_law_952 rfl (z32_lit (by decide) (by decide)) ?_
      refine zp_iconst (v := 0) dL_law_953 rfl (z32_lit (by decide) (by decide)) ?_
      refine zp_iconst (v := 0) dL_law_954 rfl (z32_lit (by decide) (by decide)) ?_
      refine zp_cl (d' := d + 14) (o := o) rfl dL_law_955 (Nat.le_of_ble_eq_true rfl) rfl (k_cm hW hI hst0 ⟨by omega, by omega⟩) (fun r_1 S_2 w_3 q_4 hW_5 s_6 => ?_)
      obtain ⟨hr2, hS2⟩ : r_1 = .inr 2 ∧ S_2 = S := by
        rcases q_4 with ⟨x1, -⟩ | ⟨-, x2, x3⟩
        · exact absurd (hic.trans x1) (by omega)
        · exact ⟨x2, x3⟩
      subst hr2
      rw [hS2] at hW_5
      refine zp_st (st1 := [zI (-1003)]) rfl ?_
      refine zp_pc (pc1 := 958) rfl ?_
      refine zp_sipush (v := -1003) dL_law_958 (by decide +kernel) (z32_lit (by decide) (by decide)) ?_
      refine zp_icmp_eq (tgt := 966) dL_law_961 (by decide) (fun h961 => ?_) (fun h961 => absurd (by decide) h961)
      refine zp_iinc (i := 4) (v := ((e + 1 : Nat) : Int)) dL_law_966 rfl (by rw [zw_id ⟨by omega, by omega⟩]; omega) (by decide) rfl ?_
      refine zp_L (L1 := [some (zR sa), some (zR o), some (zI pn), some (zI ic), some (zI ((e + 1 : Nat) : Int)), none, none, none, none, none, some (zJ was), none, some (zI got), none, none, none, none]) rfl ?_
      refine zp_goto (tgt := 112) dL_law_969 (by decide) ?_
      refine zp_Lw (L1 := [some (zR sa), some (zR o), some (zI pn), some (zI ic), some (zI ((e + 1 : Nat) : Int)), none, none, none, none, none, none, none, none, none, none, none, none]) ⟨Or.inr rfl, Or.inr rfl, Or.inr rfl, Or.inr rfl, Or.inr rfl, Or.inr rfl, Or.inr rfl, Or.inr rfl, Or.inr rfl, Or.inr rfl, Or.inl rfl, Or.inr rfl, Or.inl rfl, Or.inr rfl, Or.inr rfl, Or.inr rfl, Or.inr rfl, trivial⟩ ?_
      exact kk _ _ _ w_3 (whW_le hW_5 (by omega) (by omega)) hI hpn hic
  · refine zp_aload_n (i := 1) dL_law_933 rfl rfl ?_
    refine zp_stt (d := d) rfl dL_law_934 hW hI hst0 ⟨by omega, by omega⟩ (Nat.le_of_ble_eq_true rfl) rfl (fun w_7 hW_8 => ?_)
    refine zp_pc (pc1 := 937) rfl ?_
    refine zp_lload (i := 10) dL_law_937 rfl ?_
    have hws := hgot.resolve_left (by omega)
    refine zp_st (st1 := [zJ (stF S), zJ (stF S)]) (by rw [hws]) ?_
    refine zp_lcmp0 dL_law_939 ?_
    refine zp_if_ne (tgt := 964) dL_law_940 (by decide) (fun h940 => absurd h940 (by decide)) (fun h940 => ?_)
    refine zp_iload_n (i := 3) dL_law_943 rfl rfl ?_
    refine zp_if_eq (tgt := 966) dL_law_944 (by decide) (fun h944 => ?_) (fun h944 => ?_)
    · refine zp_iinc (i := 4) (v := ((e + 1 : Nat) : Int)) dL_law_966 rfl (by rw [zw_id ⟨by omega, by omega⟩]; omega) (by decide) rfl ?_
      refine zp_L (L1 := [some (zR sa), some (zR o), some (zI pn), some (zI ic), some (zI ((e + 1 : Nat) : Int)), none, none, none, none, none, some (zJ was), none, some (zI got), none, none, none, none]) rfl ?_
      refine zp_goto (tgt := 112) dL_law_969 (by decide) ?_
      refine zp_Lw (L1 := [some (zR sa), some (zR o), some (zI pn), some (zI ic), some (zI ((e + 1 : Nat) : Int)), none, none, none, none, none, none, none, none, none, none, none, none]) ⟨Or.inr rfl, Or.inr rfl, Or.inr rfl, Or.inr rfl, Or.inr rfl, Or.inr rfl, Or.inr rfl, Or.inr rfl, Or.inr rfl, Or.inr rfl, Or.inl rfl, Or.inr rfl, Or.inl rfl, Or.inr rfl, Or.inr rfl, Or.inr rfl, Or.inr rfl, trivial⟩ ?_
      exact kk _ _ _ w_7 (whW_le hW_8 (by omega) (by omega)) hI hpn hic
    · refine zp_aload_n (i := 1) dL_law_947 rfl rfl ?_
      refine zp_bipush (v := 11) dL_law_948 (by decide +kernel) (z32_lit (by decide) (by decide)) ?_
      refine zp_iconst (v := 0) dL_law_950 rfl (z32_lit (by decide) (by decide)) ?_
      refine zp_iconst (v := 0) dL_law_951 rfl (z32_lit (by decide) (by decide)) ?_
      refine zp_iconst (v := 0) dL_law_952 rfl (z32_lit (by decide) (by decide)) ?_
      refine zp_iconst (v := 0) dL_law_953 rfl (z32_lit (by decide) (by decide)) ?_
      refine zp_iconst (v := 0) dL_law_954 rfl (z32_lit (by decide) (by decide)) ?_
      refine zp_cl (d' := d + 14) (o := o) rfl dL_law_955 (Nat.le_of_ble_eq_true rfl) rfl (k_cm hW_8 hI hst0 ⟨by omega, by omega⟩) (fun r_9 S_10 w_11 q_12 hW_13 s_14 => ?_)
      obtain ⟨hr2, hS2⟩ : r_9 = .inr 2 ∧ S_10 = S := by
        rcases q_12 with ⟨x1, -⟩ | ⟨-, x2, x3⟩
        · exact absurd (hic.trans x1) (by omega)
        · exact ⟨x2, x3⟩
      subst hr2
      rw [hS2] at hW_13
      refine zp_st (st1 := [zI (-1003)]) rfl ?_
      refine zp_pc (pc1 := 958) rfl ?_
      refine zp_sipush (v := -1003) dL_law_958 (by decide +kernel) (z32_lit (by decide) (by decide)) ?_
      refine zp_icmp_eq (tgt := 966) dL_law_961 (by decide) (fun h961 => ?_) (fun h961 => absurd (by decide) h961)
      refine zp_iinc (i := 4) (v := ((e + 1 : Nat) : Int)) dL_law_966 rfl (by rw [zw_id ⟨by omega, by omega⟩]; omega) (by decide) rfl ?_
      refine zp_L (L1 := [some (zR sa), some (zR o), some (zI pn), some (zI ic), some (zI ((e + 1 : Nat) : Int)), none, none, none, none, none, some (zJ was), none, some (zI got), none, none, none, none]) rfl ?_
      refine zp_goto (tgt := 112) dL_law_969 (by decide) ?_
      refine zp_Lw (L1 := [some (zR sa), some (zR o), some (zI pn), some (zI ic), some (zI ((e + 1 : Nat) : Int)), none, none, none, none, none, none, none, none, none, none, none, none]) ⟨Or.inr rfl, Or.inr rfl, Or.inr rfl, Or.inr rfl, Or.inr rfl, Or.inr rfl, Or.inr rfl, Or.inr rfl, Or.inr rfl, Or.inr rfl, Or.inl rfl, Or.inr rfl, Or.inl rfl, Or.inr rfl, Or.inr rfl, Or.inr rfl, Or.inr rfl, trivial⟩ ?_
      exact kk _ _ _ w_11 (whW_le hW_13 (by omega) (by omega)) hI hpn hic
theorem bo_3 (hI : lwI e S) (he : e < 60) (hst0 : G.1.stackTraces = false) (hW : whW w o k1 k2 S) (hk : k1 + 33000 + 6010000 ≤ 60 * G.2.2.2.2.1 ∧ k2 + 3700 + 6831000 ≤ G.2.2.2.2.2) (hpn : pn = (S.2.2.1.2.2.1.1.length : Int)) (hic : ic = S.2.2.2.1.1) {pN : Nat} (hs : 0 ≤ srt) (kk : lpK X G d av w0 Q sa o e k1 k2) : zXp X G zm_L_law (d + 15) av w0 Q 261 [some (zR sa), some (zR o), some (zI pn), some (zI ic), some (zI (e : Int)), some (zI g), some (zI h), some (zI (pN : Int)), some (zI cl), some (zI srt), none, none, none, none, none, none, none] [] w := by
  refine zp_aload_n (i := 1) dL_law_261 rfl rfl ?_
  refine zp_stt (d := d) rfl dL_law_262 hW hI hst0 ⟨by omega, by omega⟩ (Nat.le_of_ble_eq_true rfl) rfl (fun w_1 hW_2 => ?_)
  refine zp_pc (pc1 := 265) rfl ?_
  refine zp_lstore (i := 10) dL_law_265 (by decide) rfl ?_
  refine zp_L (L1 := [some (zR sa), some (zR o), some (zI pn), some (zI ic), some (zI (e : Int)), some (zI g), some (zI h), some (zI (pN : Int)), some (zI cl), some (zI srt), some (zJ (stF S)), none, none, none, none, none, none]) rfl ?_
  refine zp_iconst (v := 0) dL_law_267 rfl (z32_lit (by decide) (by decide)) ?_
  refine zp_istore (i := 12) dL_law_268 (by decide) rfl ?_
  refine zp_L (L1 := [some (zR sa), some (zR o), some (zI pn), some (zI ic), some (zI (e : Int)), some (zI g), some (zI h), some (zI (pN : Int)), some (zI cl), some (zI srt), some (zJ (stF S)), none, some (zI 0), none, none, none, none]) rfl ?_
  have hk2 : k1 + 3240 + 30000 + 6000000 ≤ 60 * G.2.2.2.2.1 ∧ k2 + 324 + 3400 + 6830000 ≤ G.2.2.2.2.2 := ⟨by omega, by omega⟩
  have kv : evK X G d av w0 Q sa o (e : Int) (stF S) S e (k1 + 3240) (k2 + 324) := fun S2 pn2 ic2 got2 w2 q1 q2 q3 q4 q5 => bo_4 q2 he hst0 q1 ⟨by omega, by omega⟩ hk q3 q4 (q5.imp_right fun x => by rw [x]) kk
  rcases (show srt = 0 ∨ (0 < srt ∧ srt < 3) ∨ srt = 3 ∨ (3 < srt ∧ srt < 7) ∨ srt = 7 ∨ (7 < srt ∧ srt < 10) ∨ srt = 10 ∨ srt = 11 ∨ (11 < srt ∧ srt < 14) ∨ 13 < srt by omega) with x | x | x | x | x | x | x | x | x | x
  · exact ev_0 hI (by omega) hst0 hW_2 hk2 hpn hic x kv
  · exact ev_1 hI (by omega) hst0 hW_2 hk2 hpn hic x kv
  · exact ev_3 hI (by omega) hst0 hW_2 hk2 hpn hic x kv
  · exact ev_4 hI (by omega) hst0 hW_2 hk2 hpn hic x kv
  · exact ev_7 hI (by omega) hst0 hW_2 hk2 hpn hic x kv
  · exact ev_8 hI (by omega) hst0 hW_2 hk2 hpn hic x kv
  · exact ev_10 hI (by omega) hst0 hW_2 hk2 hpn hic x kv
  · exact ev_11 hI (by omega) hst0 hW_2 hk2 hpn hic x kv
  · exact ev_12 hI (by omega) hst0 hW_2 hk2 hpn hic x kv
  · exact ev_14 hI (by omega) hst0 hW_2 hk2 hpn hic x kv
theorem bo_2 (hI : lwI e S) (he : e < 60) (hst0 : G.1.stackTraces = false) (hW : whW w o k1 k2 S) (hk : k1 + 33000 + 6010000 ≤ 60 * G.2.2.2.2.1 ∧ k2 + 3700 + 6831000 ≤ G.2.2.2.2.2) (hpn : pn = (S.2.2.1.2.2.1.1.length : Int)) (hic : ic = S.2.2.2.1.1) {pN : Nat} (kk : lpK X G d av w0 Q sa o e k1 k2) : zXp X G zm_L_law (d + 15) av w0 Q 189 [some (zR sa), some (zR o), some (zI pn), some (zI ic), some (zI (e : Int)), some (zI g), some (zI h), some (zI (pN : Int)), some (zI cl), none, none, none, none, none, none, none, none] [] w := by
  have b6 := zlow_r (v := g) (n := 6) (by decide) (by decide)
  have b26 := zlow_r (v := g) (n := 26) (by decide) (by decide)
  refine zp_iload (i := 4) dL_law_189 rfl ?_
  refine zp_iconst (v := 3) dL_law_191 rfl (z32_lit (by decide) (by decide)) ?_
  refine zp_icmp_ge (tgt := 199) dL_law_192 (by decide) (fun h192 => ?_) (fun h192 => ?_)
  · refine zp_iload (i := 4) dL_law_199 rfl ?_
    refine zp_bipush (v := 7) dL_law_201 (by decide +kernel) (z32_lit (by decide) (by decide)) ?_
    refine zp_icmp_ge (tgt := 210) dL_law_203 (by decide) (fun h203 => ?_) (fun h203 => ?_)
    · refine zp_iload (i := 4) dL_law_210 rfl ?_
      refine zp_bipush (v := 12) dL_law_212 (by decide +kernel) (z32_lit (by decide) (by decide)) ?_
      refine zp_icmp_ge (tgt := 221) dL_law_214 (by decide) (fun h214 => ?_) (fun h214 => ?_)
      · refine zp_iload (i := 4) dL_law_221 rfl ?_
        refine zp_bipush (v := 30) dL_law_223 (by decide +kernel) (z32_lit (by decide) (by decide)) ?_
        refine zp_icmp_ge (tgt := 240) dL_law_225 (by decide) (fun h225 => ?_) (fun h225 => ?_)
        · refine zp_iload (i := 4) dL_law_240 rfl ?_
          refine zp_bipush (v := 30) dL_law_242 (by decide +kernel) (z32_lit (by decide) (by decide)) ?_
          refine zp_icmp_ne (tgt := 252) dL_law_244 (by decide) (fun h244 => ?_) (fun h244 => ?_)
          · refine zp_iload (i := 5) dL_law_252 rfl ?_
            refine zp_bipush (v := 26) dL_law_254 (by decide +kernel) (z32_lit (by decide) (by decide)) ?_
            refine zp_is6 (As := [zI g, zI 26]) (st := []) (v := some (zI (zrem (zand g 2147483647) 26))) (w1 := w) dL_law_256 zc_L_142 rfl (Nat.le_of_ble_eq_true rfl) rfl (c_L_low (d := d + 14) (by decide)) ?_
            refine zp_st (st1 := [zI (zrem (zand g 2147483647) 26)]) rfl ?_
            refine zp_istore (i := 9) dL_law_259 (by decide) rfl ?_
            refine zp_L (L1 := [some (zR sa), some (zR o), some (zI pn), some (zI ic), some (zI (e : Int)), some (zI g), some (zI h), some (zI (pN : Int)), some (zI cl), some (zI (zrem (zand g 2147483647) 26)), none, none, none, none, none, none, none]) rfl ?_
            exact bo_3 hI he hst0 hW hk hpn hic (by omega) kk
          · refine zp_bipush (v := 10) dL_law_247 (by decide +kernel) (z32_lit (by decide) (by decide)) ?_
            refine zp_goto (tgt := 259) dL_law_249 (by decide) ?_
            refine zp_istore (i := 9) dL_law_259 (by decide) rfl ?_
            refine zp_L (L1 := [some (zR sa), some (zR o), some (zI pn), some (zI ic), some (zI (e : Int)), some (zI g), some (zI h), some (zI (pN : Int)), some (zI cl), some (zI 10), none, none, none, none, none, none, none]) rfl ?_
            exact bo_3 hI he hst0 hW hk hpn hic (by decide) kk
        · refine zp_iconst (v := 4) dL_law_228 rfl (z32_lit (by decide) (by decide)) ?_
          refine zp_iload (i := 5) dL_law_229 rfl ?_
          refine zp_bipush (v := 6) dL_law_231 (by decide +kernel) (z32_lit (by decide) (by decide)) ?_
          refine zp_is6 (As := [zI g, zI 6]) (st := [zI 4]) (v := some (zI (zrem (zand g 2147483647) 6))) (w1 := w) dL_law_233 zc_L_142 rfl (Nat.le_of_ble_eq_true rfl) rfl (c_L_low (d := d + 14) (by decide)) ?_
          refine zp_st (st1 := [zI (zrem (zand g 2147483647) 6), zI 4]) rfl ?_
          refine zp_iadd (v := 4 + (zrem (zand g 2147483647) 6)) dL_law_236 (zw_id ⟨by omega, by omega⟩) ?_
          refine zp_goto (tgt := 259) dL_law_237 (by decide) ?_
          refine zp_istore (i := 9) dL_law_259 (by decide) rfl ?_
          refine zp_L (L1 := [some (zR sa), some (zR o), some (zI pn), some (zI ic), some (zI (e : Int)), some (zI g), some (zI h), some (zI (pN : Int)), some (zI cl), some (zI (4 + (zrem (zand g 2147483647) 6))), none, none, none, none, none, none, none]) rfl ?_
          exact bo_3 hI he hst0 hW hk hpn hic (by omega) kk
      · refine zp_iconst (v := 3) dL_law_217 rfl (z32_lit (by decide) (by decide)) ?_
        refine zp_goto (tgt := 259) dL_law_218 (by decide) ?_
        refine zp_istore (i := 9) dL_law_259 (by decide) rfl ?_
        refine zp_L (L1 := [some (zR sa), some (zR o), some (zI pn), some (zI ic), some (zI (e : Int)), some (zI g), some (zI h), some (zI (pN : Int)), some (zI cl), some (zI 3), none, none, none, none, none, none, none]) rfl ?_
        exact bo_3 hI he hst0 hW hk hpn hic (by decide) kk
    · refine zp_iconst (v := 1) dL_law_206 rfl (z32_lit (by decide) (by decide)) ?_
      refine zp_goto (tgt := 259) dL_law_207 (by decide) ?_
      refine zp_istore (i := 9) dL_law_259 (by decide) rfl ?_
      refine zp_L (L1 := [some (zR sa), some (zR o), some (zI pn), some (zI ic), some (zI (e : Int)), some (zI g), some (zI h), some (zI (pN : Int)), some (zI cl), some (zI 1), none, none, none, none, none, none, none]) rfl ?_
      exact bo_3 hI he hst0 hW hk hpn hic (by decide) kk
  · refine zp_iconst (v := 0) dL_law_195 rfl (z32_lit (by decide) (by decide)) ?_
    refine zp_goto (tgt := 259) dL_law_196 (by decide) ?_
    refine zp_istore (i := 9) dL_law_259 (by decide) rfl ?_
    refine zp_L (L1 := [some (zR sa), some (zR o), some (zI pn), some (zI ic), some (zI (e : Int)), some (zI g), some (zI h), some (zI (pN : Int)), some (zI cl), some (zI 0), none, none, none, none, none, none, none]) rfl ?_
    exact bo_3 hI he hst0 hW hk hpn hic (by decide) kk
theorem bo_1 (hL : L0 < 1000000) (hI : lwI e S) (he : e < 60) (hst0 : G.1.stackTraces = false) (hW : whW w o k1 k2 S) (hk : k1 + 33000 + 6010000 ≤ 60 * G.2.2.2.2.1 ∧ k2 + 3700 + 6831000 ≤ G.2.2.2.2.2) (hpn : pn = (S.2.2.1.2.2.1.1.length : Int)) (hic : ic = S.2.2.2.1.1) (kk : lpK (scX sa L0 xs w0) G d av w0 Q sa o e k1 k2) : zXp (scX sa L0 xs w0) G zm_L_law (d + 15) av w0 Q 112 [some (zR sa), some (zR o), some (zI pn), some (zI ic), some (zI (e : Int)), none, none, none, none, none, none, none, none, none, none, none, none] [] w := by
  have hp5 := lwI_p5 hI
  refine zp_iload (i := 4) dL_law_112 rfl ?_
  refine zp_bipush (v := 60) dL_law_114 (by decide +kernel) (z32_lit (by decide) (by decide)) ?_
  refine zp_icmp_ge (tgt := 972) dL_law_116 (by decide) (fun h116 => absurd h116 (by omega)) (fun h116 => ?_)
  refine zp_aload_n (i := 0) dL_law_119 rfl rfl ?_
  refine zp_iconst (v := 2) dL_law_120 rfl (z32_lit (by decide) (by decide)) ?_
  refine zp_iload (i := 4) dL_law_121 rfl ?_
  refine zp_imul (v := 2 * (e : Int)) dL_law_123 (zw_id ⟨by omega, by omega⟩) ?_
  refine zp_cell (d' := d + 14) dL_law_124 rfl (Nat.le_of_ble_eq_true rfl) rfl hL (by omega) ?_
  refine zp_pc (pc1 := 127) rfl ?_
  refine zp_istore (i := 5) dL_law_127 (by decide) rfl ?_
  refine zp_L (L1 := [some (zR sa), some (zR o), some (zI pn), some (zI ic), some (zI (e : Int)), some (zI (cellX L0 xs (2 * (e : Int)))), none, none, none, none, none, none, none, none, none, none, none]) rfl ?_
  refine zp_aload_n (i := 0) dL_law_129 rfl rfl ?_
  refine zp_iconst (v := 2) dL_law_130 rfl (z32_lit (by decide) (by decide)) ?_
  refine zp_iload (i := 4) dL_law_131 rfl ?_
  refine zp_imul (v := 2 * (e : Int)) dL_law_133 (zw_id ⟨by omega, by omega⟩) ?_
  refine zp_iconst (v := 1) dL_law_134 rfl (z32_lit (by decide) (by decide)) ?_
  refine zp_iadd (v := (2 * (e : Int)) + 1) dL_law_135 (zw_id ⟨by omega, by omega⟩) ?_
  refine zp_cell (d' := d + 14) dL_law_136 rfl (Nat.le_of_ble_eq_true rfl) rfl hL (by omega) ?_
  refine zp_pc (pc1 := 139) rfl ?_
  refine zp_istore (i := 6) dL_law_139 (by decide) rfl ?_
  refine zp_L (L1 := [some (zR sa), some (zR o), some (zI pn), some (zI ic), some (zI (e : Int)), some (zI (cellX L0 xs (2 * (e : Int)))), some (zI (cellX L0 xs ((2 * (e : Int)) + 1))), none, none, none, none, none, none, none, none, none, none]) rfl ?_
  refine zp_iload (i := 5) dL_law_141 rfl ?_
  refine zp_iconst (v := 5) dL_law_143 rfl (z32_lit (by decide) (by decide)) ?_
  refine zp_ishr (v := zshr (cellX L0 xs (2 * (e : Int))) 5) dL_law_144 rfl ?_
  refine zp_iload_n (i := 2) dL_law_145 rfl rfl ?_
  refine zp_iload (i := 5) dL_law_146 rfl ?_
  refine zp_bipush (v := 11) dL_law_148 (by decide +kernel) (z32_lit (by decide) (by decide)) ?_
  refine zp_is6 (As := [zI (cellX L0 xs (2 * (e : Int))), zI 11]) (st := [zI pn, zI (zshr (cellX L0 xs (2 * (e : Int))) 5)]) (v := some (zI (zrem (zand (cellX L0 xs (2 * (e : Int))) 2147483647) 11))) (w1 := w) dL_law_150 zc_L_142 rfl (Nat.le_of_ble_eq_true rfl) rfl (c_L_low (d := d + 14) (by decide)) ?_
  refine zp_st (st1 := [zI (zrem (zand (cellX L0 xs (2 * (e : Int))) 2147483647) 11), zI pn, zI (zshr (cellX L0 xs (2 * (e : Int))) 5)]) rfl ?_
  refine zp_if_ne (tgt := 160) dL_law_153 (by decide) (fun h153 => ?_) (fun h153 => ?_)
  · refine zp_iconst (v := 0) dL_law_160 rfl (z32_lit (by decide) (by decide)) ?_
    refine zp_iadd (v := pn + 0) dL_law_161 (zw_id ⟨by omega, by omega⟩) ?_
    refine zp_iload_n (i := 2) dL_law_162 rfl rfl ?_
    refine zp_if_ne (tgt := 170) dL_law_163 (by decide) (fun h163 => ?_) (fun h163 => ?_)
    · refine zp_iconst (v := 0) dL_law_170 rfl (z32_lit (by decide) (by decide)) ?_
      refine zp_iadd (v := (pn + 0) + 0) dL_law_171 (zw_id ⟨by omega, by omega⟩) ?_
      refine zp_is6 (As := [zI (zshr (cellX L0 xs (2 * (e : Int))) 5), zI ((pn + 0) + 0)]) (st := []) (v := some (zI (zrem (zand (zshr (cellX L0 xs (2 * (e : Int))) 5) 2147483647) ((pn + 0) + 0)))) (w1 := w) dL_law_172 zc_L_142 rfl (Nat.le_of_ble_eq_true rfl) rfl (c_L_low (d := d + 14) (by omega)) ?_
      refine zp_st (st1 := [zI (zrem (zand (zshr (cellX L0 xs (2 * (e : Int))) 5) 2147483647) ((pn + 0) + 0))]) rfl ?_
      obtain ⟨pN, e_pN⟩ : ∃ q : Nat, (zrem (zand (zshr (cellX L0 xs (2 * (e : Int))) 5) 2147483647) ((pn + 0) + 0)) = (q : Int) := ⟨Int.toNat ((zrem (zand (zshr (cellX L0 xs (2 * (e : Int))) 5) 2147483647) ((pn + 0) + 0))), (Int.toNat_of_nonneg (zlow_r (v := (zshr (cellX L0 xs (2 * (e : Int))) 5)) (n := ((pn + 0) + 0)) (by omega) (by omega)).1).symm⟩
      refine zp_st (st1 := [zI (pN : Int)]) (by rw [e_pN]) ?_
      refine zp_istore (i := 7) dL_law_175 (by decide) rfl ?_
      refine zp_L (L1 := [some (zR sa), some (zR o), some (zI pn), some (zI ic), some (zI (e : Int)), some (zI (cellX L0 xs (2 * (e : Int)))), some (zI (cellX L0 xs ((2 * (e : Int)) + 1))), some (zI (pN : Int)), none, none, none, none, none, none, none, none, none]) rfl ?_
      refine zp_iload (i := 5) dL_law_177 rfl ?_
      refine zp_bipush (v := 8) dL_law_179 (by decide +kernel) (z32_lit (by decide) (by decide)) ?_
      refine zp_ishr (v := zshr (cellX L0 xs (2 * (e : Int))) 8) dL_law_181 rfl ?_
      refine zp_bipush (v := 7) dL_law_182 (by decide +kernel) (z32_lit (by decide) (by decide)) ?_
      refine zp_is6 (As := [zI (zshr (cellX L0 xs (2 * (e : Int))) 8), zI 7]) (st := []) (v := some (zI (zrem (zand (zshr (cellX L0 xs (2 * (e : Int))) 8) 2147483647) 7))) (w1 := w) dL_law_184 zc_L_142 rfl (Nat.le_of_ble_eq_true rfl) rfl (c_L_low (d := d + 14) (by decide)) ?_
      refine zp_st (st1 := [zI (zrem (zand (zshr (cellX L0 xs (2 * (e : Int))) 8) 2147483647) 7)]) rfl ?_
      refine zp_istore (i := 8) dL_law_187 (by decide) rfl ?_
      refine zp_L (L1 := [some (zR sa), some (zR o), some (zI pn), some (zI ic), some (zI (e : Int)), some (zI (cellX L0 xs (2 * (e : Int)))), some (zI (cellX L0 xs ((2 * (e : Int)) + 1))), some (zI (pN : Int)), some (zI (zrem (zand (zshr (cellX L0 xs (2 * (e : Int))) 8) 2147483647) 7)), none, none, none, none, none, none, none, none]) rfl ?_
      exact bo_2 hI he hst0 hW hk hpn hic kk
    · refine zp_iconst (v := 1) dL_law_166 rfl (z32_lit (by decide) (by decide)) ?_
      refine zp_goto (tgt := 171) dL_law_167 (by decide) ?_
      refine zp_iadd (v := (pn + 0) + 1) dL_law_171 (zw_id ⟨by omega, by omega⟩) ?_
      refine zp_is6 (As := [zI (zshr (cellX L0 xs (2 * (e : Int))) 5), zI ((pn + 0) + 1)]) (st := []) (v := some (zI (zrem (zand (zshr (cellX L0 xs (2 * (e : Int))) 5) 2147483647) ((pn + 0) + 1)))) (w1 := w) dL_law_172 zc_L_142 rfl (Nat.le_of_ble_eq_true rfl) rfl (c_L_low (d := d + 14) (by omega)) ?_
      refine zp_st (st1 := [zI (zrem (zand (zshr (cellX L0 xs (2 * (e : Int))) 5) 2147483647) ((pn + 0) + 1))]) rfl ?_
      obtain ⟨pN, e_pN⟩ : ∃ q : Nat, (zrem (zand (zshr (cellX L0 xs (2 * (e : Int))) 5) 2147483647) ((pn + 0) + 1)) = (q : Int) := ⟨Int.toNat ((zrem (zand (zshr (cellX L0 xs (2 * (e : Int))) 5) 2147483647) ((pn + 0) + 1))), (Int.toNat_of_nonneg (zlow_r (v := (zshr (cellX L0 xs (2 * (e : Int))) 5)) (n := ((pn + 0) + 1)) (by omega) (by omega)).1).symm⟩
      refine zp_st (st1 := [zI (pN : Int)]) (by rw [e_pN]) ?_
      refine zp_istore (i := 7) dL_law_175 (by decide) rfl ?_
      refine zp_L (L1 := [some (zR sa), some (zR o), some (zI pn), some (zI ic), some (zI (e : Int)), some (zI (cellX L0 xs (2 * (e : Int)))), some (zI (cellX L0 xs ((2 * (e : Int)) + 1))), some (zI (pN : Int)), none, none, none, none, none, none, none, none, none]) rfl ?_
      refine zp_iload (i := 5) dL_law_177 rfl ?_
      refine zp_bipush (v := 8) dL_law_179 (by decide +kernel) (z32_lit (by decide) (by decide)) ?_
      refine zp_ishr (v := zshr (cellX L0 xs (2 * (e : Int))) 8) dL_law_181 rfl ?_
      refine zp_bipush (v := 7) dL_law_182 (by decide +kernel) (z32_lit (by decide) (by decide)) ?_
      refine zp_is6 (As := [zI (zshr (cellX L0 xs (2 * (e : Int))) 8), zI 7]) (st := []) (v := some (zI (zrem (zand (zshr (cellX L0 xs (2 * (e : Int))) 8) 2147483647) 7))) (w1 := w) dL_law_184 zc_L_142 rfl (Nat.le_of_ble_eq_true rfl) rfl (c_L_low (d := d + 14) (by decide)) ?_
      refine zp_st (st1 := [zI (zrem (zand (zshr (cellX L0 xs (2 * (e : Int))) 8) 2147483647) 7)]) rfl ?_
      refine zp_istore (i := 8) dL_law_187 (by decide) rfl ?_
      refine zp_L (L1 := [some (zR sa), some (zR o), some (zI pn), some (zI ic), some (zI (e : Int)), some (zI (cellX L0 xs (2 * (e : Int)))), some (zI (cellX L0 xs ((2 * (e : Int)) + 1))), some (zI (pN : Int)), some (zI (zrem (zand (zshr (cellX L0 xs (2 * (e : Int))) 8) 2147483647) 7)), none, none, none, none, none, none, none, none]) rfl ?_
      exact bo_2 hI he hst0 hW hk hpn hic kk
  · refine zp_iconst (v := 1) dL_law_156 rfl (z32_lit (by decide) (by decide)) ?_
    refine zp_goto (tgt := 161) dL_law_157 (by decide) ?_
    refine zp_iadd (v := pn + 1) dL_law_161 (zw_id ⟨by omega, by omega⟩) ?_
    refine zp_iload_n (i := 2) dL_law_162 rfl rfl ?_
    refine zp_if_ne (tgt := 170) dL_law_163 (by decide) (fun h163 => ?_) (fun h163 => ?_)
    · refine zp_iconst (v := 0) dL_law_170 rfl (z32_lit (by decide) (by decide)) ?_
      refine zp_iadd (v := (pn + 1) + 0) dL_law_171 (zw_id ⟨by omega, by omega⟩) ?_
      refine zp_is6 (As := [zI (zshr (cellX L0 xs (2 * (e : Int))) 5), zI ((pn + 1) + 0)]) (st := []) (v := some (zI (zrem (zand (zshr (cellX L0 xs (2 * (e : Int))) 5) 2147483647) ((pn + 1) + 0)))) (w1 := w) dL_law_172 zc_L_142 rfl (Nat.le_of_ble_eq_true rfl) rfl (c_L_low (d := d + 14) (by omega)) ?_
      refine zp_st (st1 := [zI (zrem (zand (zshr (cellX L0 xs (2 * (e : Int))) 5) 2147483647) ((pn + 1) + 0))]) rfl ?_
      obtain ⟨pN, e_pN⟩ : ∃ q : Nat, (zrem (zand (zshr (cellX L0 xs (2 * (e : Int))) 5) 2147483647) ((pn + 1) + 0)) = (q : Int) := ⟨Int.toNat ((zrem (zand (zshr (cellX L0 xs (2 * (e : Int))) 5) 2147483647) ((pn + 1) + 0))), (Int.toNat_of_nonneg (zlow_r (v := (zshr (cellX L0 xs (2 * (e : Int))) 5)) (n := ((pn + 1) + 0)) (by omega) (by omega)).1).symm⟩
      refine zp_st (st1 := [zI (pN : Int)]) (by rw [e_pN]) ?_
      refine zp_istore (i := 7) dL_law_175 (by decide) rfl ?_
      refine zp_L (L1 := [some (zR sa), some (zR o), some (zI pn), some (zI ic), some (zI (e : Int)), some (zI (cellX L0 xs (2 * (e : Int)))), some (zI (cellX L0 xs ((2 * (e : Int)) + 1))), some (zI (pN : Int)), none, none, none, none, none, none, none, none, none]) rfl ?_
      refine zp_iload (i := 5) dL_law_177 rfl ?_
      refine zp_bipush (v := 8) dL_law_179 (by decide +kernel) (z32_lit (by decide) (by decide)) ?_
      refine zp_ishr (v := zshr (cellX L0 xs (2 * (e : Int))) 8) dL_law_181 rfl ?_
      refine zp_bipush (v := 7) dL_law_182 (by decide +kernel) (z32_lit (by decide) (by decide)) ?_
      refine zp_is6 (As := [zI (zshr (cellX L0 xs (2 * (e : Int))) 8), zI 7]) (st := []) (v := some (zI (zrem (zand (zshr (cellX L0 xs (2 * (e : Int))) 8) 2147483647) 7))) (w1 := w) dL_law_184 zc_L_142 rfl (Nat.le_of_ble_eq_true rfl) rfl (c_L_low (d := d + 14) (by decide)) ?_
      refine zp_st (st1 := [zI (zrem (zand (zshr (cellX L0 xs (2 * (e : Int))) 8) 2147483647) 7)]) rfl ?_
      refine zp_istore (i := 8) dL_law_187 (by decide) rfl ?_
      refine zp_L (L1 := [some (zR sa), some (zR o), some (zI pn), some (zI ic), some (zI (e : Int)), some (zI (cellX L0 xs (2 * (e : Int)))), some (zI (cellX L0 xs ((2 * (e : Int)) + 1))), some (zI (pN : Int)), some (zI (zrem (zand (zshr (cellX L0 xs (2 * (e : Int))) 8) 2147483647) 7)), none, none, none, none, none, none, none, none]) rfl ?_
      exact bo_2 hI he hst0 hW hk hpn hic kk
    · refine zp_iconst (v := 1) dL_law_166 rfl (z32_lit (by decide) (by decide)) ?_
      refine zp_goto (tgt := 171) dL_law_167 (by decide) ?_
      refine zp_iadd (v := (pn + 1) + 1) dL_law_171 (zw_id ⟨by omega, by omega⟩) ?_
      refine zp_is6 (As := [zI (zshr (cellX L0 xs (2 * (e : Int))) 5), zI ((pn + 1) + 1)]) (st := []) (v := some (zI (zrem (zand (zshr (cellX L0 xs (2 * (e : Int))) 5) 2147483647) ((pn + 1) + 1)))) (w1 := w) dL_law_172 zc_L_142 rfl (Nat.le_of_ble_eq_true rfl) rfl (c_L_low (d := d + 14) (by omega)) ?_
      refine zp_st (st1 := [zI (zrem (zand (zshr (cellX L0 xs (2 * (e : Int))) 5) 2147483647) ((pn + 1) + 1))]) rfl ?_
      obtain ⟨pN, e_pN⟩ : ∃ q : Nat, (zrem (zand (zshr (cellX L0 xs (2 * (e : Int))) 5) 2147483647) ((pn + 1) + 1)) = (q : Int) := ⟨Int.toNat ((zrem (zand (zshr (cellX L0 xs (2 * (e : Int))) 5) 2147483647) ((pn + 1) + 1))), (Int.toNat_of_nonneg (zlow_r (v := (zshr (cellX L0 xs (2 * (e : Int))) 5)) (n := ((pn + 1) + 1)) (by omega) (by omega)).1).symm⟩
      refine zp_st (st1 := [zI (pN : Int)]) (by rw [e_pN]) ?_
      refine zp_istore (i := 7) dL_law_175 (by decide) rfl ?_
      refine zp_L (L1 := [some (zR sa), some (zR o), some (zI pn), some (zI ic), some (zI (e : Int)), some (zI (cellX L0 xs (2 * (e : Int)))), some (zI (cellX L0 xs ((2 * (e : Int)) + 1))), some (zI (pN : Int)), none, none, none, none, none, none, none, none, none]) rfl ?_
      refine zp_iload (i := 5) dL_law_177 rfl ?_
      refine zp_bipush (v := 8) dL_law_179 (by decide +kernel) (z32_lit (by decide) (by decide)) ?_
      refine zp_ishr (v := zshr (cellX L0 xs (2 * (e : Int))) 8) dL_law_181 rfl ?_
      refine zp_bipush (v := 7) dL_law_182 (by decide +kernel) (z32_lit (by decide) (by decide)) ?_
      refine zp_is6 (As := [zI (zshr (cellX L0 xs (2 * (e : Int))) 8), zI 7]) (st := []) (v := some (zI (zrem (zand (zshr (cellX L0 xs (2 * (e : Int))) 8) 2147483647) 7))) (w1 := w) dL_law_184 zc_L_142 rfl (Nat.le_of_ble_eq_true rfl) rfl (c_L_low (d := d + 14) (by decide)) ?_
      refine zp_st (st1 := [zI (zrem (zand (zshr (cellX L0 xs (2 * (e : Int))) 8) 2147483647) 7)]) rfl ?_
      refine zp_istore (i := 8) dL_law_187 (by decide) rfl ?_
      refine zp_L (L1 := [some (zR sa), some (zR o), some (zI pn), some (zI ic), some (zI (e : Int)), some (zI (cellX L0 xs (2 * (e : Int)))), some (zI (cellX L0 xs ((2 * (e : Int)) + 1))), some (zI (pN : Int)), some (zI (zrem (zand (zshr (cellX L0 xs (2 * (e : Int))) 8) 2147483647) 7)), none, none, none, none, none, none, none, none]) rfl ?_
      exact bo_2 hI he hst0 hW hk hpn hic kk
theorem bo_5 (hI : lwI 60 S) (he : e = 60) (hst0 : G.1.stackTraces = false) (hW : whW w o k1 k2 S) (hk : k1 + 6010000 ≤ 60 * G.2.2.2.2.1 ∧ k2 + 6831000 ≤ G.2.2.2.2.2) (hQ : ∀ w', Q (.inl (some (zI 1))) w') : zXp X G zm_L_law (d + 15) av w0 Q 112 [some (zR sa), some (zR o), some (zI pn), some (zI ic), some (zI (e : Int)), none, none, none, none, none, none, none, none, none, none, none, none] [] w := by
  have hp5 := lwI_p5 hI
  refine zp_iload (i := 4) dL_law_112 rfl ?_
  refine zp_bipush (v := 60) dL_law_114 (by decide +kernel) (z32_lit (by decide) (by decide)) ?_
  refine zp_icmp_ge (tgt := 972) dL_law_116 (by decide) (fun h116 => ?_) (fun h116 => absurd (by omega) h116)
  refine zp_aload_n (i := 1) dL_law_972 rfl rfl ?_
  refine zp_iconst (v := 3) dL_law_973 rfl (z32_lit (by decide) (by decide)) ?_
  refine zp_aload_n (i := 1) dL_law_974 rfl rfl ?_
  obtain ⟨of_1, ho_2⟩ := whW_o hW
  refine zp_te (d := d + 1) (o := o) rfl dL_law_975 hW ho_2 (Nat.le_of_ble_eq_true rfl) rfl (fun w_3 hW_4 s_5 => ?_)
  refine zp_pc (pc1 := 978) rfl ?_
  refine zp_iconst (v := 0) dL_law_978 rfl (z32_lit (by decide) (by decide)) ?_
  refine zp_iconst (v := 0) dL_law_979 rfl (z32_lit (by decide) (by decide)) ?_
  refine zp_iconst (v := 0) dL_law_980 rfl (z32_lit (by decide) (by decide)) ?_
  refine zp_iconst (v := 0) dL_law_981 rfl (z32_lit (by decide) (by decide)) ?_
  refine zp_cl (d' := d + 14) (o := o) rfl dL_law_982 (Nat.le_of_ble_eq_true rfl) rfl (k_co hW_4 hI hst0 ⟨by omega, by omega⟩) (fun r_6 S_7 w_8 q_9 hW_10 s_11 => ?_)
  obtain ⟨x1, x2⟩ := q_9
  subst x1
  rw [x2] at hW_10
  refine zp_st (st1 := [zI (-1001)]) rfl ?_
  refine zp_pc (pc1 := 985) rfl ?_
  refine zp_sipush (v := -1001) dL_law_985 (by decide +kernel) (z32_lit (by decide) (by decide)) ?_
  refine zp_icmp_ne (tgt := 1012) dL_law_988 (by decide) (fun h988 => absurd h988 (by decide)) (fun h988 => ?_)
  refine zp_aload_n (i := 1) dL_law_991 rfl rfl ?_
  refine zp_bipush (v := 13) dL_law_992 (by decide +kernel) (z32_lit (by decide) (by decide)) ?_
  refine zp_iconst (v := 5) dL_law_994 rfl (z32_lit (by decide) (by decide)) ?_
  refine zp_iconst (v := 0) dL_law_995 rfl (z32_lit (by decide) (by decide)) ?_
  refine zp_iconst (v := 0) dL_law_996 rfl (z32_lit (by decide) (by decide)) ?_
  refine zp_iconst (v := 0) dL_law_997 rfl (z32_lit (by decide) (by decide)) ?_
  refine zp_iconst (v := 0) dL_law_998 rfl (z32_lit (by decide) (by decide)) ?_
  have hrm := whW_room hW_10 (G := G) (by omega) (by omega)
  refine zp_cl (d' := d + 14) (o := o) rfl dL_law_999 (Nat.le_of_ble_eq_true rfl) rfl (k_rd (d := d + 1) hW_10 hI.2.2.2.2.2.2.2.1 hst0 hrm (q := 13) (Or.inl ⟨by decide, by decide⟩) (fun x => absurd x (by decide)) 5 0 0 0 0) (fun r_12 S_13 w_14 q_15 hW_16 s_17 => ?_)
  have x0 : rdS S 13 5 0 = .inr 0 := by
    unfold rdS
    simp only []
    rw [mdAt_n (lAt_out (Or.inr (by omega)))]
  obtain ⟨y1, y2⟩ := q_15
  rw [x0] at y1
  subst y1
  refine zp_st (st1 := [zI (-1001)]) rfl ?_
  refine zp_pc (pc1 := 1002) rfl ?_
  refine zp_sipush (v := -1001) dL_law_1002 (by decide +kernel) (z32_lit (by decide) (by decide)) ?_
  refine zp_icmp_ne (tgt := 1012) dL_law_1005 (by decide) (fun h1005 => absurd h1005 (by decide)) (fun h1005 => ?_)
  refine zp_iconst (v := 1) dL_law_1008 rfl (z32_lit (by decide) (by decide)) ?_
  refine zp_goto (tgt := 1013) dL_law_1009 (by decide) ?_
  refine zp_zret dL_law_1013 rfl (Or.inr rfl) ?_
  exact hQ _
/-- the loop -/
theorem bo_lp (hL : L0 < 1000000) (hst0 : G.1.stackTraces = false) (hQ : ∀ w', Q (.inl (some (zI 1))) w') : ∀ (n : Nat) {e : Nat}, e + n = 60 → ∀ {w : zW} {k1 k2 : Nat} {S : whS} {pn ic : Int}, lwI e S → whW w o k1 k2 S → (k1 + n * 33000 + 6010000 ≤ 60 * G.2.2.2.2.1 ∧ k2 + n * 3700 + 6831000 ≤ G.2.2.2.2.2) → pn = (S.2.2.1.2.2.1.1.length : Int) → ic = S.2.2.2.1.1 → zXp (scX sa L0 xs w0) G zm_L_law (d + 15) av w0 Q 112 [some (zR sa), some (zR o), some (zI pn), some (zI ic), some (zI (e : Int)), none, none, none, none, none, none, none, none, none, none, none, none] [] w
  | 0, e, he, w, k1, k2, S, pn, ic, hI, hW, hk, hpn, hic => by
    have he : e = 60 := by omega
    exact bo_5 (by rw [← he]; exact hI) he hst0 hW ⟨by omega, by omega⟩ hQ
  | n + 1, e, he, w, k1, k2, S, pn, ic, hI, hW, hk, hpn, hic =>
    bo_1 hL hI (by omega) hst0 hW ⟨by omega, by omega⟩ hpn hic (fun S' pn' ic' w' q1 q2 q3 q4 => bo_lp hL hst0 hQ n (by omega) q2 q1 ⟨by omega, by omega⟩ q3 q4)
end LLP
