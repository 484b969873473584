/-! Own rows: firstClause, told by the pure state. Walked by program (wip/p37/m_fc.py). -/
theorem fc_map {R : pgR} (hK : mkF R) {cs : List Nat} (hc : ∀ a ∈ cs, a ∈ R.2.2.1.2.2) : ((cs.map (fun a => (R.2.2.2.2.2.1 a).1.1.toNat)).head?).bind (pgCl R) = lAt cs 0 := by
  cases cs with
  | nil => rfl
  | cons a cs => exact rd_cl hK (hc a List.mem_cons_self)
/-- whether a clause's first goal is of a head -/
def fcP (R : pgR) (m hd : Nat) (c : Nat) : Bool := match ((pgC R).2.1.2 m c).head? with
  | none => false
  | some e => e.1.2.1 == hd
theorem fcP_e {R : pgR} {m hd c : Nat} {e : mmO} {os : List mmO} (h : (pgC R).2.1.2 m c = e :: os) : fcP R m hd c = (e.1.2.1 == hd) := by
  unfold fcP
  rw [h]
  rfl
section SFC
variable {pg : Nat}
variable {G : zG} {d : Nat} {w : zW} {b1 b2 : Nat} {R : pgR} {Fs : List Nat} {ov fu en : Int} {mc fa ca ta t tc tn th tz rp ri ra rn : Nat} {ty bk bc : Int} {C I : List (List Int)} {mo : Option Nat} {fr : List mmF} {cls : Nat → Option Nat} {V : mmV} {ch : mmH} {T : mmT} {cur den : Option Nat} {pl0 na ns nc0 dp0 : Nat} {flb : Bool} {tm : List smG} {nt : List (Nat × Nat)}
theorem s_firstClause (hP : pgW w pg R) (hK : mkF R) (hW : msW w b1 b2 ((mc, fa, ca, ta), (t, tc, tn, th, tz), (rp, ri, ra, rn), (ty, C), (mo, I, bk, bc)) R Fs (ov, fu, en) ((fr, cls, V, ch, T), (cur, pl0, den, flb), tm, (na, ns, nc0, dp0), nt)) {j yj : Nat} (hjf : j < fr.length) (hj : Fs[j]? = some yj) (hsF : ∀ s, (pgC R).2.2.1 (mmf fr j).1.1 (mmf fr j).1.2 = some s → V j s ≠ none ∧ ∀ c, c ∈ (pgC R).1.1.1 (mmf fr j).1.1 → ∃ e os, (pgC R).2.1.2 (mmf fr j).1.2 c = e :: os ∧ e.1.1 = 0) : zM G zm_X4_firstClause (d + 4) [zR mc, zR yj] w (zRet (some (zP ((mmFirst (pgC R) V (mmf fr j).1 j).bind (pgCl R)))) w) := by
  refine zx_ent (by decide +kernel) rfl (Nat.le_of_ble_eq_true rfl) ?_
  refine zx_L (L1 := [some (zR mc), some (zR yj), none, none, none, none, none]) rfl ?_
  obtain ⟨cap, fm, cc, CH, ct, TR, us, cu, pl, de, fl, N, H, Sz, A, Nt, sc, nc, dp, hM, hS⟩ := id hW
  obtain ⟨⟨hus, hfl, hJ, hcn, hFS⟩, ⟨hcu, hcuL, hpl, hde, hdeL, hfb⟩, ⟨hCH, hchL⟩, ⟨hTR, hTL⟩, htm, ⟨hA, hsc, hnc, hdp, hNt⟩⟩ := id hS
  subst hus hcu hpl hde hfb hCH hTR hsc hnc hdp hNt
  obtain ⟨hmc, hfa, ⟨hca, okC⟩, ⟨hta, okT⟩, hFr, ⟨ht0, ⟨htc, okTC⟩, ⟨htn, okN⟩, ⟨hth, okH⟩, htz, hSz⟩, ⟨hrp, ⟨hri, okI⟩, ⟨hra, okA⟩, ⟨hrn, okNt⟩⟩, hcap, hcct, hrm1, hrm2⟩ := id hM
  obtain ⟨⟨⟨va_j, md_j⟩, ⟨fca_j, fbt_j, fdp_j⟩, ⟨fcl_j, fdn_j, fod_j, fcb_j⟩, xs_j⟩, efm_j⟩ : ∃ r, fm yj = r := ⟨_, rfl⟩
  obtain ⟨hfy_j, hva_j, hx_j⟩ := hFr j yj hj
  rw [efm_j] at hfy_j hva_j hx_j
  have hx_j : xs_j.length = 8 := hx_j
  obtain ⟨hmd_j, ⟨hcb1_j, hcb2_j⟩, ⟨hcb3_j, hcb4_j, hcb5_j⟩, ⟨-, hxv_j⟩, hdq_j⟩ := hFS j yj hjf hj
  rw [efm_j] at hmd_j hcb1_j hcb3_j hxv_j
  simp only [Prod.mk.injEq] at hcb1_j hcb3_j
  obtain ⟨ea1_j, ea2_j, ea3_j⟩ := hcb1_j
  obtain ⟨eb1_j, eb2_j, eb3_j, eb4_j⟩ := hcb3_j
  subst ea1_j ea2_j ea3_j eb1_j eb2_j eb3_j eb4_j
  obtain ⟨pr_j, ins_j, pm_j, lo_j, gd_j, cf_j, cr_j, sw_j, emr_j, hmo_j, hpp_j, hpn_j, hpm_j, hm2_j, hin_j, hsw_j, hsr_j, hmm_j⟩ := md_get hK hP hmd_j
  obtain ⟨⟨hpy, ⟨htt, okTT⟩, hml, hcl0⟩, hsm, hsc2, -⟩ := hP.2.2.2.2.1 pr_j hpm_j
  rw [hpn_j] at hpy
  have helC : ∀ a ∈ (R.2.2.2.1 pr_j).2.2.2.2, ∃ x y, w.1 a = some ((1, x, y) : zO) := fun a ha => ⟨_, _, (hP.2.2.2.2.2.2 a (hsc2 a ha)).1.1⟩
  by_cases hs0 : sw_j = -1
  · have e0 : (pgC R).2.2.1 (mmf fr j).1.1 (mmf fr j).1.2 = none := by rw [hsw_j, if_pos hs0]
    have e1 : mmFirst (pgC R) V (mmf fr j).1 j = ((pgC R).1.1.1 (mmf fr j).1.1).head? := by unfold mmFirst; rw [e0]
    rw [e1, rd_cs hpp_j, fc_map hK hsc2]
    refine zx_aload_n (i := 1) dX4_firstClause_0 rfl rfl ?_
    refine zx_getfield dX4_firstClause_1 zf_X4_73 hfy_j rfl ?_
    refine zx_astore_n (i := 2) dX4_firstClause_4 rfl (by decide) rfl ?_
    refine zx_L (L1 := [some (zR mc), some (zR yj), some (zR md_j), none, none, none, none]) rfl ?_
    refine zx_aload_n (i := 2) dX4_firstClause_5 rfl rfl ?_
    refine zx_getfield dX4_firstClause_6 zf_X4_179 hmo_j rfl ?_
    refine zx_iconst (v := -1) dX4_firstClause_9 rfl (z32_lit (by decide) (by decide)) ?_
    refine zx_icmp_ne (tgt := 22) dX4_firstClause_10 (by decide) (fun h10 => absurd h10 (by omega)) (fun h10 => ?_)
    refine zx_aload_n (i := 2) dX4_firstClause_13 rfl rfl ?_
    refine zx_getfield dX4_firstClause_14 zf_X4_152 hmo_j rfl ?_
    refine zx_iconst (v := 0) dX4_firstClause_17 rfl (z32_lit (by decide) (by decide)) ?_
    refine zx_iv (b := pr_j) (As := [zI 0]) (st := []) (v := (some (zP (lAt (R.2.2.2.1 pr_j).2.2.2.2 0)))) (w1 := w) dX4_firstClause_18 zc_X4_199 hpy rfl rfl rfl (Nat.le_of_ble_eq_true rfl) rfl (c_X6_clauseAt hpy hcl0 helC 0) ?_
    refine zx_st (st1 := [zP (lAt (R.2.2.2.1 pr_j).2.2.2.2 0)]) rfl ?_
    refine zx_pc (pc1 := 21) rfl ?_
    refine zx_areturn dX4_firstClause_21 rfl (Or.inl ⟨_, rfl⟩) ?_
    exact zr_v rfl rfl
  · have e0 : (pgC R).2.2.1 (mmf fr j).1.1 (mmf fr j).1.2 = some sw_j.toNat := by rw [hsw_j, if_neg hs0]
    obtain ⟨hVs, hcf⟩ := hsF _ e0
    obtain ⟨hv, hhv⟩ : ∃ hv, V j sw_j.toNat = some hv := Option.ne_none_iff_exists'.mp hVs
    have hsn : sw_j = (sw_j.toNat : Int) := by omega
    have hs8 : sw_j.toNat < 8 := by omega
    have hvz := hxv_j _ hs8
    rw [← zVl_get hx_j hs8, hhv, ← hsn] at hvz
    have hhd := (tm_row htm hvz).1
    have hcl12 := (hK.2.2.1 pr_j hpm_j).1
    have e1 : mmFirst (pgC R) V (mmf fr j).1 j = (((R.2.2.2.1 pr_j).2.2.2.2.drop 0).map (fun a => (R.2.2.2.2.2.1 a).1.1.toNat)).find? (fcP R (mmf fr j).1.2 (smHd hv)) := by
      unfold mmFirst
      rw [e0, rd_cs hpp_j]
      show List.find? (fun c => match ((pgC R).2.1.2 (mmf fr j).1.2 c).head? with | none => false | some e => e.1.2.1 == smHd ((V j sw_j.toNat).getD (0, 0))) _ = _
      rw [hhv]
      rfl
    rw [e1]
    have loop : ∀ (n k : Nat) (o5 o6 : Option zV), k + n = (R.2.2.2.1 pr_j).2.2.2.2.length → zX G zm_X4_firstClause (d + 4) [zR mc, zR yj] w (zRet (some (zP ((((((R.2.2.2.1 pr_j).2.2.2.2.drop k).map (fun a => (R.2.2.2.2.2.1 a).1.1.toNat)).find? (fcP R (mmf fr j).1.2 (smHd hv))).bind (pgCl R))))) w) 41 [some (zR mc), some (zR yj), some (zR md_j), some (zI (smHd hv : Int)), some (zI (k : Int)), o5, o6] [] w := by
      intro n
      induction n with
      | zero =>
        intro k o5 o6 hk
        refine zx_iload (i := 4) dX4_firstClause_41 rfl ?_
        refine zx_aload_n (i := 2) dX4_firstClause_43 rfl rfl ?_
        refine zx_getfield dX4_firstClause_44 zf_X4_152 hmo_j rfl ?_
        refine zx_iv (b := pr_j) (As := []) (st := [zI (k : Int)]) (v := (some (zI ((R.2.2.2.1 pr_j).2.2.2.2.length : Int)))) (w1 := w) dX4_firstClause_47 zc_X4_182 hpy rfl rfl rfl (Nat.le_of_ble_eq_true rfl) rfl (c_X6_clauseCount hpy hcl0) ?_
        refine zx_st (st1 := [zI ((R.2.2.2.1 pr_j).2.2.2.2.length : Int), zI (k : Int)]) rfl ?_
        refine zx_icmp_ge (tgt := 108) dX4_firstClause_50 (by decide) (fun h50 => ?_) (fun h50 => absurd (by omega) h50)
        refine zx_null dX4_firstClause_108 ?_
        refine zx_areturn dX4_firstClause_109 rfl (Or.inl ⟨_, rfl⟩) ?_
        rw [List.drop_eq_nil_of_le (by omega)]
        exact zr_v rfl rfl
      | succ n ih =>
        intro k o5 o6 hk
        obtain ⟨a, hka⟩ : ∃ a, (R.2.2.2.1 pr_j).2.2.2.2[k]? = some a := ⟨_, List.getElem?_eq_getElem (by omega)⟩
        have hla : lAt (R.2.2.2.1 pr_j).2.2.2.2 (k : Int) = some a := lAt_in (by omega) (by rw [Int.toNat_natCast]; exact hka)
        have ham := List.mem_of_getElem? hka
        have hca2 := hsc2 a ham
        have hcN := rd_cl hK hca2
        have hC := (hP.2.2.2.2.2.2 a hca2).1
        obtain ⟨e, os, he1, he2⟩ := hcf _ (by rw [rd_cs hpp_j]; exact List.mem_map.mpr ⟨a, ham, rfl⟩)
        have he : ((pgC R).2.1.2 (mmf fr j).1.2 (R.2.2.2.2.2.1 a).1.1.toNat)[0]? = some e := by rw [he1]; rfl
        obtain ⟨g, hg0, hg1, hg2, hg3, hg4, -⟩ := rd_at hK hcN hm2_j he
        have hg0 : 0 ≤ csl (R.2.2.2.2.2.1 a).2.2.2.2.1.1 ((mmf fr j).1.2 : Int) 0 := hg0
        have hg1 : (R.2.2.2.2.2.1 a).2.2.2.2.2.1.getD (csl (R.2.2.2.2.2.1 a).2.2.2.2.1.1 ((mmf fr j).1.2 : Int) 0).toNat none = some g := hg1
        obtain ⟨hgo, hgv, hgx, hgn, hgk⟩ := (hP.2.2.2.2.2.2 a hca2).2 g hg2
        have hgs := go_s hg3 (by rw [← hg4, he2]; decide)
        rw [← hg4] at hgs
        rw [drop_cons hka, List.map_cons, List.find?_cons, fcP_e he1]
        by_cases hm : e.1.2.1 = smHd hv
        · rw [show (e.1.2.1 == smHd hv) = true by simpa using hm]
          show zX G zm_X4_firstClause (d + 4) [zR mc, zR yj] w (zRet (some (zP (pgCl R (R.2.2.2.2.2.1 a).1.1.toNat))) w) _ _ _ w
          rw [hcN]
          refine zx_iload (i := 4) dX4_firstClause_41 rfl ?_
          refine zx_aload_n (i := 2) dX4_firstClause_43 rfl rfl ?_
          refine zx_getfield dX4_firstClause_44 zf_X4_152 hmo_j rfl ?_
          refine zx_iv (b := pr_j) (As := []) (st := [zI (k : Int)]) (v := (some (zI ((R.2.2.2.1 pr_j).2.2.2.2.length : Int)))) (w1 := w) dX4_firstClause_47 zc_X4_182 hpy rfl rfl rfl (Nat.le_of_ble_eq_true rfl) rfl (c_X6_clauseCount hpy hcl0) ?_
          refine zx_st (st1 := [zI ((R.2.2.2.1 pr_j).2.2.2.2.length : Int), zI (k : Int)]) rfl ?_
          refine zx_icmp_ge (tgt := 108) dX4_firstClause_50 (by decide) (fun h50 => absurd h50 (by omega)) (fun h50 => ?_)
          refine zx_aload_n (i := 2) dX4_firstClause_53 rfl rfl ?_
          refine zx_getfield dX4_firstClause_54 zf_X4_152 hmo_j rfl ?_
          refine zx_iload (i := 4) dX4_firstClause_57 rfl ?_
          refine zx_iv (b := pr_j) (As := [zI (k : Int)]) (st := []) (v := (some (zR a))) (w1 := w) dX4_firstClause_59 zc_X4_199 hpy rfl rfl rfl (Nat.le_of_ble_eq_true rfl) rfl (by have q := c_X6_clauseAt (G := G) (d := d) hpy hcl0 helC (k : Int); rw [hla] at q; exact q) ?_
          refine zx_st (st1 := [zR a]) rfl ?_
          refine zx_astore (i := 5) dX4_firstClause_62 (by decide) rfl ?_
          refine zx_L (L1 := [some (zR mc), some (zR yj), some (zR md_j), some (zI (smHd hv : Int)), some (zI (k : Int)), some (zR a), o6]) rfl ?_
          refine zx_aload (i := 5) dX4_firstClause_64 rfl ?_
          refine zx_pc (pc1 := 66) rfl ?_
          refine zx_ifnonnull (tgt := 73) dX4_firstClause_66 (by decide) (fun _ => ?_) (fun h => by cases h)
          refine zx_aload (i := 5) dX4_firstClause_73 rfl ?_
          refine zx_aload_n (i := 2) dX4_firstClause_75 rfl rfl ?_
          refine zx_getfield dX4_firstClause_76 zf_X4_77 hmo_j rfl ?_
          refine zx_iconst (v := 0) dX4_firstClause_79 rfl (z32_lit (by decide) (by decide)) ?_
          refine zx_iv (b := a) (As := [zI ((mmf fr j).1.2 : Int), zI 0]) (st := []) (v := (some (zR g))) (w1 := w) dX4_firstClause_80 zc_X4_92 hC.1 rfl rfl rfl (Nat.le_of_ble_eq_true rfl) rfl (by have q := c_X1_goalIn (G := G) (d := d + 2) hC ((mmf fr j).1.2 : Int) 0; rw [if_pos hg0, hg1] at q; exact q) ?_
          refine zx_st (st1 := [zR g]) rfl ?_
          refine zx_astore (i := 6) dX4_firstClause_83 (by decide) rfl ?_
          refine zx_L (L1 := [some (zR mc), some (zR yj), some (zR md_j), some (zI (smHd hv : Int)), some (zI (k : Int)), some (zR a), some (zR g)]) rfl ?_
          refine zx_aload (i := 6) dX4_firstClause_85 rfl ?_
          refine zx_ifnull (tgt := 102) dX4_firstClause_87 (by decide) (fun h => by cases h) (fun _ => ?_)
          refine zx_aload (i := 6) dX4_firstClause_90 rfl ?_
          refine zx_getfield dX4_firstClause_92 zf_X4_209 hgo rfl ?_
          refine zx_iload_n (i := 3) dX4_firstClause_95 rfl rfl ?_
          refine zx_pc (pc1 := 96) rfl ?_
          refine zx_icmp_ne (tgt := 102) dX4_firstClause_96 (by decide) (fun h96 => absurd h96 (by omega)) (fun h96 => ?_)
          refine zx_aload (i := 5) dX4_firstClause_99 rfl ?_
          refine zx_areturn dX4_firstClause_101 rfl (Or.inl ⟨_, rfl⟩) ?_
          exact zr_v rfl rfl
        · rw [show (e.1.2.1 == smHd hv) = false by simpa using hm]
          show zX G zm_X4_firstClause (d + 4) [zR mc, zR yj] w (zRet (some (zP ((((((R.2.2.2.1 pr_j).2.2.2.2.drop (k + 1)).map (fun a => (R.2.2.2.2.2.1 a).1.1.toNat)).find? (fcP R (mmf fr j).1.2 (smHd hv))).bind (pgCl R))))) w) _ _ _ w
          refine zx_iload (i := 4) dX4_firstClause_41 rfl ?_
          refine zx_aload_n (i := 2) dX4_firstClause_43 rfl rfl ?_
          refine zx_getfield dX4_firstClause_44 zf_X4_152 hmo_j rfl ?_
          refine zx_iv (b := pr_j) (As := []) (st := [zI (k : Int)]) (v := (some (zI ((R.2.2.2.1 pr_j).2.2.2.2.length : Int)))) (w1 := w) dX4_firstClause_47 zc_X4_182 hpy rfl rfl rfl (Nat.le_of_ble_eq_true rfl) rfl (c_X6_clauseCount hpy hcl0) ?_
          refine zx_st (st1 := [zI ((R.2.2.2.1 pr_j).2.2.2.2.length : Int), zI (k : Int)]) rfl ?_
          refine zx_icmp_ge (tgt := 108) dX4_firstClause_50 (by decide) (fun h50 => absurd h50 (by omega)) (fun h50 => ?_)
          refine zx_aload_n (i := 2) dX4_firstClause_53 rfl rfl ?_
          refine zx_getfield dX4_firstClause_54 zf_X4_152 hmo_j rfl ?_
          refine zx_iload (i := 4) dX4_firstClause_57 rfl ?_
          refine zx_iv (b := pr_j) (As := [zI (k : Int)]) (st := []) (v := (some (zR a))) (w1 := w) dX4_firstClause_59 zc_X4_199 hpy rfl rfl rfl (Nat.le_of_ble_eq_true rfl) rfl (by have q := c_X6_clauseAt (G := G) (d := d) hpy hcl0 helC (k : Int); rw [hla] at q; exact q) ?_
          refine zx_st (st1 := [zR a]) rfl ?_
          refine zx_astore (i := 5) dX4_firstClause_62 (by decide) rfl ?_
          refine zx_L (L1 := [some (zR mc), some (zR yj), some (zR md_j), some (zI (smHd hv : Int)), some (zI (k : Int)), some (zR a), o6]) rfl ?_
          refine zx_aload (i := 5) dX4_firstClause_64 rfl ?_
          refine zx_pc (pc1 := 66) rfl ?_
          refine zx_ifnonnull (tgt := 73) dX4_firstClause_66 (by decide) (fun _ => ?_) (fun h => by cases h)
          refine zx_aload (i := 5) dX4_firstClause_73 rfl ?_
          refine zx_aload_n (i := 2) dX4_firstClause_75 rfl rfl ?_
          refine zx_getfield dX4_firstClause_76 zf_X4_77 hmo_j rfl ?_
          refine zx_iconst (v := 0) dX4_firstClause_79 rfl (z32_lit (by decide) (by decide)) ?_
          refine zx_iv (b := a) (As := [zI ((mmf fr j).1.2 : Int), zI 0]) (st := []) (v := (some (zR g))) (w1 := w) dX4_firstClause_80 zc_X4_92 hC.1 rfl rfl rfl (Nat.le_of_ble_eq_true rfl) rfl (by have q := c_X1_goalIn (G := G) (d := d + 2) hC ((mmf fr j).1.2 : Int) 0; rw [if_pos hg0, hg1] at q; exact q) ?_
          refine zx_st (st1 := [zR g]) rfl ?_
          refine zx_astore (i := 6) dX4_firstClause_83 (by decide) rfl ?_
          refine zx_L (L1 := [some (zR mc), some (zR yj), some (zR md_j), some (zI (smHd hv : Int)), some (zI (k : Int)), some (zR a), some (zR g)]) rfl ?_
          refine zx_aload (i := 6) dX4_firstClause_85 rfl ?_
          refine zx_ifnull (tgt := 102) dX4_firstClause_87 (by decide) (fun h => by cases h) (fun _ => ?_)
          refine zx_aload (i := 6) dX4_firstClause_90 rfl ?_
          refine zx_getfield dX4_firstClause_92 zf_X4_209 hgo rfl ?_
          refine zx_iload_n (i := 3) dX4_firstClause_95 rfl rfl ?_
          refine zx_pc (pc1 := 96) rfl ?_
          refine zx_icmp_ne (tgt := 102) dX4_firstClause_96 (by decide) (fun h96 => ?_) (fun h96 => absurd (by omega) h96)
          refine zx_iinc (i := 4) (v := ((k + 1 : Nat) : Int)) dX4_firstClause_102 rfl (zw_eq (by omega) (by omega) (by omega)) (by decide) rfl ?_
          refine zx_L (L1 := [some (zR mc), some (zR yj), some (zR md_j), some (zI (smHd hv : Int)), some (zI ((k + 1 : Nat) : Int)), some (zR a), some (zR g)]) rfl ?_
          refine zx_goto (tgt := 41) dX4_firstClause_105 (by decide) ?_
          exact ih (k + 1) _ _ (by omega)
    refine zx_aload_n (i := 1) dX4_firstClause_0 rfl rfl ?_
    refine zx_getfield dX4_firstClause_1 zf_X4_73 hfy_j rfl ?_
    refine zx_astore_n (i := 2) dX4_firstClause_4 rfl (by decide) rfl ?_
    refine zx_L (L1 := [some (zR mc), some (zR yj), some (zR md_j), none, none, none, none]) rfl ?_
    refine zx_aload_n (i := 2) dX4_firstClause_5 rfl rfl ?_
    refine zx_getfield dX4_firstClause_6 zf_X4_179 hmo_j rfl ?_
    refine zx_iconst (v := -1) dX4_firstClause_9 rfl (z32_lit (by decide) (by decide)) ?_
    refine zx_icmp_ne (tgt := 22) dX4_firstClause_10 (by decide) (fun h10 => ?_) (fun h10 => absurd (by omega) h10)
    refine zx_aload_n (i := 0) dX4_firstClause_22 rfl rfl ?_
    refine zx_getfield dX4_firstClause_23 zf_X4_9 hmc rfl ?_
    refine zx_aload_n (i := 1) dX4_firstClause_26 rfl rfl ?_
    refine zx_aload_n (i := 2) dX4_firstClause_27 rfl rfl ?_
    refine zx_pc (pc1 := 28) rfl ?_
    refine zx_getfield dX4_firstClause_28 zf_X4_179 hmo_j rfl ?_
    refine zx_iv (b := yj) (As := [zI sw_j]) (st := [zR t]) (v := (some (zI (zVl xs_j sw_j)))) (w1 := w) dX4_firstClause_31 zc_X4_203 hfy_j rfl rfl rfl (Nat.le_of_ble_eq_true rfl) rfl (c_X2_valueOf hfy_j hva_j (by omega) sw_j) ?_
    refine zx_st (st1 := [zI (zVl xs_j sw_j), zR t]) rfl ?_
    refine zx_iv (b := t) (As := [zI (zVl xs_j sw_j)]) (st := []) (v := (some (zI (smHd hv : Int)))) (w1 := w) dX4_firstClause_34 zc_X4_206 ht0 rfl rfl rfl (Nat.le_of_ble_eq_true rfl) rfl (by have q := c_X10_headOf (G := G) (d := d + 2) ⟨ht0, ⟨htc, okTC⟩, ⟨htn, okN⟩, ⟨hth, okH⟩, htz, hSz⟩ (zVl xs_j sw_j); rw [hhd] at q; exact q) ?_
    refine zx_st (st1 := [zI (smHd hv : Int)]) rfl ?_
    refine zx_istore_n (i := 3) dX4_firstClause_37 rfl (by decide) rfl ?_
    refine zx_L (L1 := [some (zR mc), some (zR yj), some (zR md_j), some (zI (smHd hv : Int)), none, none, none]) rfl ?_
    refine zx_iconst (v := 0) dX4_firstClause_38 rfl (z32_lit (by decide) (by decide)) ?_
    refine zx_istore (i := 4) dX4_firstClause_39 (by decide) rfl ?_
    refine zx_L (L1 := [some (zR mc), some (zR yj), some (zR md_j), some (zI (smHd hv : Int)), some (zI 0), none, none]) rfl ?_
    exact loop (R.2.2.2.1 pr_j).2.2.2.2.length 0 none none (by omega)
end SFC
