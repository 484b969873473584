/-! Own rows: what a machine reads of modes, predicates and goals; handsBack against mmHb. Walked by program (wip/p37/m_hb.py). -/
theorem md_get {w : zW} {pg : Nat} {R : pgR} (hK : mkF R) (hP : pgW w pg R) {p m md : Nat} (h : pgMo R p m = some md) : ∃ (pr : Nat) (ins pm lo gd cf cr sw : Int), R.2.2.2.2.1 md = (pr, (m : Int), ins, pm, lo, gd, cf, cr, sw) ∧ w.1 md = some (5, 0, [zR pr, zI (m : Int), zI ins, zI pm, zI lo, zI gd, zI cf, zI cr, zI sw]) ∧ pgP R p = some pr ∧ (R.2.2.2.1 pr).1.1 = (p : Int) ∧ pr ∈ R.2.2.1.1 ∧ m < 2 ∧ (∀ k, (pgC R).2.1.1 p m k = decide (k < 3 ∧ zand (zshr ins (k : Int)) 1 = 1)) ∧ (pgC R).2.2.1 p m = (if sw = -1 then none else some sw.toNat) ∧ (-1 ≤ sw ∧ sw < 8) ∧ md ∈ R.2.2.1.2.1 := by
  obtain ⟨h1, ⟨y, h2, h3, h4⟩, h5, h6, h7⟩ := hK.1 p m md h
  have h8 := hP.2.2.2.2.2.1 md h1
  unfold moW at h8
  obtain ⟨r, hr⟩ : ∃ r, R.2.2.2.2.1 md = r := ⟨_, rfl⟩
  have e1 := fun k => rd_in (k := k) h
  have e2 := rd_sw h
  have e3 := hK.2.2.2.2 md h1
  rw [hr] at h3 h5 h8 e2 e3
  obtain ⟨pr, nu, ins, pm, lo, gd, cf, cr, sw⟩ := r
  have h3 : pr = y := h3
  have h5 : nu = (m : Int) := h5
  subst h3 h5
  refine ⟨pr, ins, pm, lo, gd, cf, cr, sw, hr, h8, h2, h4, List.mem_of_getElem? h2, h6, fun k => ?_, e2, e3, h1⟩
  have := e1 k
  rw [hr] at this
  exact this
theorem go_v {g : goR} (h : gOk g) {k : Nat} (hk : k < 3) : zVa g.2.2.2.2 (k : Int) = ((smv (gL g) k : Nat) : Int) ∧ smv (gL g) k < 8 := by
  have h0 := h.2.2.2.2 (k : Int)
  rcases (show k = 0 ∨ k = 1 ∨ k = 2 by omega) with e | e | e <;> subst e
  · have e : smv (gL g) 0 = (zVa g.2.2.2.2 ((0 : Nat) : Int)).toNat := rfl
    rw [e]
    omega
  · have e : smv (gL g) 1 = (zVa g.2.2.2.2 ((1 : Nat) : Int)).toNat := rfl
    rw [e]
    omega
  · have e : smv (gL g) 2 = (zVa g.2.2.2.2 ((2 : Nat) : Int)).toNat := rfl
    rw [e]
    omega
theorem go_c {g : goR} (h : gOk g) : g.2.2.1 = (((gL g).2.2.1 : Nat) : Int) ∧ (gL g).2.2.1 ≤ 3 := by
  have h0 := h.2.2.1
  have e : (gL g).2.2.1 = g.2.2.1.toNat := rfl
  rw [e]
  omega
theorem go_k {g : goR} (h : gOk g) : g.1 = (((gL g).1 : Nat) : Int) ∧ (gL g).1 ≤ 3 := by
  have h0 := h.1
  have e : (gL g).1 = g.1.toNat := rfl
  rw [e]
  omega
theorem mmHb_i {inp : Nat → Bool} {j i : Nat} {g : smL} {k : Nat} {ks : List Nat} {V : mmV} {T : mmT} (h : inp k = true) : mmHb inp j i g (k :: ks) V T = mmHb inp j i g ks V T := if_pos h
theorem mmHb_y {inp : Nat → Bool} {j i : Nat} {g : smL} {k : Nat} {ks : List Nat} {V : mmV} {T : mmT} (h : inp k = false) (h2 : (mmAg V T i (smv g k) (V j k)).1 = true) : mmHb inp j i g (k :: ks) V T = mmHb inp j i g ks (mmAg V T i (smv g k) (V j k)).2.1 (mmAg V T i (smv g k) (V j k)).2.2 := by
  show (if inp k = true then _ else if _ then _ else _) = _
  rw [if_neg (by rw [h]; decide), if_pos h2]
theorem mmHb_n {inp : Nat → Bool} {j i : Nat} {g : smL} {k : Nat} {ks : List Nat} {V : mmV} {T : mmT} (h : inp k = false) (h2 : (mmAg V T i (smv g k) (V j k)).1 = false) : mmHb inp j i g (k :: ks) V T = mmAg V T i (smv g k) (V j k) := by
  show (if inp k = true then _ else if _ then _ else _) = _
  rw [if_neg (by rw [h]; decide), if_neg (by rw [h2]; decide)]
theorem mmAg_len {V : mmV} {T : mmT} {i x : Nat} {o : Option smG} : (mmAg V T i x o).2.2.length ≤ T.length + 1 := by
  unfold mmAg
  split
  · simp
  · simp

section SHB
variable {pg : Nat}
variable {G : zG} {d : Nat} {w : zW} {b1 b2 : Nat} {R : pgR} {Fs : List Nat} {ov fu en : Int} {mc fa ca ta t tc tn th tz rp ri ra rn : Nat} {ty bk bc : Int} {C I : List (List Int)} {mo : Option Nat} {fr : List mmF} {cls : Nat → Option Nat} {V : mmV} {ch : mmH} {T : mmT} {cur den : Option Nat} {pl0 na ns nc0 dp0 : Nat} {flb : Bool} {tm : List smG} {nt : List (Nat × Nat)}
theorem s_handsBack (hP : pgW w pg R) (hK : mkF R) (hW : msW w b1 b2 ((mc, fa, ca, ta), (t, tc, tn, th, tz), (rp, ri, ra, rn), (ty, C), (mo, I, bk, bc)) R Fs (ov, fu, en) ((fr, cls, V, ch, T), (cur, pl0, den, flb), tm, (na, ns, nc0, dp0), nt)) (hG1 : b1 + 1500000 ≤ 60 * G.2.2.2.2.1) (hG2 : b2 + 3150000 ≤ G.2.2.2.2.2) (hF3 : Fs.length ≤ 320) (hTl : T.length + 3 < 350000) {i j yi yj c a : Nat} (hif : i < fr.length) (hi : Fs[i]? = some yi) (hjf : j < fr.length) (hj : Fs[j]? = some yj) (hcl : cls i = some c) (hcA : pgCl R c = some a) {e : mmO} (he : ((pgC R).2.1.2 (mmf fr i).1.2 c)[(mmf fr j).2.1.2.1]? = some e) : zM G zm_X4_handsBack (d + 4) [zR mc, zR yj, zR yi] w (zVal fun r w' => r = zI (zB ((mmHb ((pgC R).2.1.1 (mmf fr j).1.1 (mmf fr j).1.2) j i e.1 (List.range e.1.2.2.1) V T).1 = true)) ∧ msW w' b1 b2 ((mc, fa, ca, ta), (t, tc, tn, th, tz), (rp, ri, ra, rn), (ty, C), (mo, I, bk, bc)) R Fs (ov, fu, en) ((fr, cls, (mmHb ((pgC R).2.1.1 (mmf fr j).1.1 (mmf fr j).1.2) j i e.1 (List.range e.1.2.2.1) V T).2.1, ch, (mmHb ((pgC R).2.1.1 (mmf fr j).1.1 (mmf fr j).1.2) j i e.1 (List.range e.1.2.2.1) V T).2.2), (cur, pl0, den, flb), tm, (na, ns, nc0, dp0), nt) ∧ mcF rp w w') := by
  refine zx_ent (by decide +kernel) rfl (Nat.le_of_ble_eq_true rfl) ?_
  refine zx_L (L1 := [some (zR mc), some (zR yj), some (zR yi), none, none, none, none]) rfl ?_
  obtain ⟨cap, fm, cc, CH, ct, TR, us, cu, pl, de, fl, N, H, Sz, A, Nt, sc, nc, dp, hM, hS⟩ := id hW
  obtain ⟨⟨hus, hfl, hJ, hcn, hFS⟩, ⟨hcu, hcuL, hpl, hde, hdeL, hfb⟩, ⟨hCH, hchL⟩, ⟨hTR, hTL⟩, htm, ⟨hA, hsc, hnc, hdp, hNt⟩⟩ := id hS
  subst hus hcu hpl hde hfb hCH hTR hsc hnc hdp hNt
  obtain ⟨hmc, hfa, ⟨hca, okC⟩, ⟨hta, okT⟩, hFr, ⟨ht0, ⟨htc, okTC⟩, ⟨htn, okN⟩, ⟨hth, okH⟩, htz, hSz⟩, ⟨hrp, ⟨hri, okI⟩, ⟨hra, okA⟩, ⟨hrn, okNt⟩⟩, hcap, hcct, hrm1, hrm2⟩ := id hM
  obtain ⟨⟨⟨va_i, md_i⟩, ⟨fca_i, fbt_i, fdp_i⟩, ⟨fcl_i, fdn_i, fod_i, fcb_i⟩, xs_i⟩, efm_i⟩ : ∃ r, fm yi = r := ⟨_, rfl⟩
  obtain ⟨hfy_i, hva_i, hx_i⟩ := hFr i yi hi
  rw [efm_i] at hfy_i hva_i hx_i
  have hx_i : xs_i.length = 8 := hx_i
  obtain ⟨hmd_i, ⟨hcb1_i, hcb2_i⟩, ⟨hcb3_i, hcb4_i, hcb5_i⟩, ⟨-, hxv_i⟩, hdq_i⟩ := hFS i yi hif hi
  rw [efm_i] at hmd_i hcb1_i hcb3_i hxv_i
  simp only [Prod.mk.injEq] at hcb1_i hcb3_i
  obtain ⟨ea1_i, ea2_i, ea3_i⟩ := hcb1_i
  obtain ⟨eb1_i, eb2_i, eb3_i, eb4_i⟩ := hcb3_i
  subst ea1_i ea2_i ea3_i eb1_i eb2_i eb3_i eb4_i
  have efc : ((cls i).bind (pgCl R)) = some a := by rw [hcl]; exact hcA
  rw [efc] at hfy_i
  obtain ⟨pr_i, ins_i, pm_i, lo_i, gd_i, cf_i, cr_i, sw_i, emr_i, hmo_i, hpp_i, hpn_i, hpm_i, hm2_i, hin_i, hsw_i, hsr_i, hmm_i⟩ := md_get hK hP hmd_i
  obtain ⟨⟨⟨va_j, md_j⟩, ⟨fca_j, fbt_j, fdp_j⟩, ⟨fcl_j, fdn_j, fod_j, fcb_j⟩, xs_j⟩, efm_j⟩ : ∃ r, fm yj = r := ⟨_, rfl⟩
  obtain ⟨hfy_j, hva_j, hx_j⟩ := hFr j yj hj
  rw [efm_j] at hfy_j hva_j hx_j
  have hx_j : xs_j.length = 8 := hx_j
  obtain ⟨hmd_j, ⟨hcb1_j, hcb2_j⟩, ⟨hcb3_j, hcb4_j, hcb5_j⟩, ⟨-, hxv_j⟩, hdq_j⟩ := hFS j yj hjf hj
  rw [efm_j] at hmd_j hcb1_j hcb3_j hxv_j
  simp only [Prod.mk.injEq] at hcb1_j hcb3_j
  obtain ⟨ea1_j, ea2_j, ea3_j⟩ := hcb1_j
  obtain ⟨eb1_j, eb2_j, eb3_j, eb4_j⟩ := hcb3_j
  subst ea1_j ea2_j ea3_j eb1_j eb2_j eb3_j eb4_j
  obtain ⟨g, hg0, hg1, hg2, hg3, hg4, hg5, -⟩ := rd_at hK hcA hm2_i he
  have ha := List.mem_of_getElem? hcA
  have hC := (hP.2.2.2.2.2.2 a ha).1
  obtain ⟨hgo, hgv, hgx, hgn, hgk⟩ := (hP.2.2.2.2.2.2 a ha).2 g hg2
  obtain ⟨hgc, hgc3⟩ := go_c hg3
  rw [← hg4] at hgc hgc3
  have loop : ∀ (n k : Nat) (V1 : mmV) (T1 : mmT) (w1 : zW) (o6 : Option zV), k + n = e.1.2.2.1 → T1.length + n < 350000 → msW w1 b1 b2 ((mc, fa, ca, ta), (t, tc, tn, th, tz), (rp, ri, ra, rn), (ty, C), (mo, I, bk, bc)) R Fs (ov, fu, en) ((fr, cls, V1, ch, T1), (cur, pl0, den, flb), tm, (na, ns, nc0, dp0), nt) → mcF rp w w1 → zX G zm_X4_handsBack (d + 4) [zR mc, zR yj, zR yi] w (zVal fun r w' => r = zI (zB ((mmHb ((pgC R).2.1.1 (mmf fr j).1.1 (mmf fr j).1.2) j i e.1 (List.range' k n) V1 T1).1 = true)) ∧ msW w' b1 b2 ((mc, fa, ca, ta), (t, tc, tn, th, tz), (rp, ri, ra, rn), (ty, C), (mo, I, bk, bc)) R Fs (ov, fu, en) ((fr, cls, (mmHb ((pgC R).2.1.1 (mmf fr j).1.1 (mmf fr j).1.2) j i e.1 (List.range' k n) V1 T1).2.1, ch, (mmHb ((pgC R).2.1.1 (mmf fr j).1.1 (mmf fr j).1.2) j i e.1 (List.range' k n) V1 T1).2.2), (cur, pl0, den, flb), tm, (na, ns, nc0, dp0), nt) ∧ mcF rp w w') 47 [some (zR mc), some (zR yj), some (zR yi), some (zR g), some (zI (R.2.2.2.2.2.2 g).2.2.1), some (zI (k : Int)), o6] [] w1 := by
    intro n
    induction n with
    | zero =>
      intro k V1 T1 w1 o6 hk hT1 hW1 hF1
      obtain ⟨cap1, fm1, cc1, CH1, ct1, TR1, us1, cu1, pl1, de1, fl1, N1, H1, Sz1, A1, Nt1, sc1, nc1, dp1, hM1, hS1⟩ := id hW1
      obtain ⟨⟨hus1, hfl1, hJ1, hcn1, hFS1⟩, ⟨hcu1, hcuL1, hpl1, hde1, hdeL1, hfb1⟩, ⟨hCH1, hchL1⟩, ⟨hTR1, hTL1⟩, htm1, ⟨hA1, hsc1, hnc1, hdp1, hNt1⟩⟩ := id hS1
      subst hus1 hcu1 hpl1 hde1 hfb1 hCH1 hTR1 hsc1 hnc1 hdp1 hNt1
      obtain ⟨hmc1, hfa1, ⟨hca1, okC1⟩, ⟨hta1, okT1⟩, hFr1, ⟨ht01, ⟨htc1, okTC1⟩, ⟨htn1, okN1⟩, ⟨hth1, okH1⟩, htz1, hSz1⟩, ⟨hrp1, ⟨hri1, okI1⟩, ⟨hra1, okA1⟩, ⟨hrn1, okNt1⟩⟩, hcap1, hcct1, hrm11, hrm21⟩ := id hM1
      have hgo1 := hF1 _ _ hgo (Or.inl (by simp))
      refine zx_iload (i := 5) dX4_handsBack_47 rfl ?_
      refine zx_iload (i := 4) dX4_handsBack_49 rfl ?_
      refine zx_icmp_ge (tgt := 106) dX4_handsBack_51 (by decide) (fun h51 => ?_) (fun h51 => absurd (by omega) h51)
      refine zx_iconst (v := 1) dX4_handsBack_106 rfl (z32_lit (by decide) (by decide)) ?_
      refine zx_zret dX4_handsBack_107 rfl (by first | exact Or.inl rfl | exact Or.inr rfl | exact zB_or | assumption) ?_
      rw [show List.range' k 0 = [] from rfl]
      exact ⟨_, rfl, by rw [show (mmHb ((pgC R).2.1.1 (mmf fr j).1.1 (mmf fr j).1.2) j i e.1 ([]) V1 T1).1 = true from rfl, zB_t rfl], hW1, hF1⟩
    | succ n ih =>
      intro k V1 T1 w1 o6 hk hT1 hW1 hF1
      have hP1 : pgW w1 pg R := pgW_TM hP (mcF_fr hF1)
      obtain ⟨cap1, fm1, cc1, CH1, ct1, TR1, us1, cu1, pl1, de1, fl1, N1, H1, Sz1, A1, Nt1, sc1, nc1, dp1, hM1, hS1⟩ := id hW1
      obtain ⟨⟨hus1, hfl1, hJ1, hcn1, hFS1⟩, ⟨hcu1, hcuL1, hpl1, hde1, hdeL1, hfb1⟩, ⟨hCH1, hchL1⟩, ⟨hTR1, hTL1⟩, htm1, ⟨hA1, hsc1, hnc1, hdp1, hNt1⟩⟩ := id hS1
      subst hus1 hcu1 hpl1 hde1 hfb1 hCH1 hTR1 hsc1 hnc1 hdp1 hNt1
      obtain ⟨hmc1, hfa1, ⟨hca1, okC1⟩, ⟨hta1, okT1⟩, hFr1, ⟨ht01, ⟨htc1, okTC1⟩, ⟨htn1, okN1⟩, ⟨hth1, okH1⟩, htz1, hSz1⟩, ⟨hrp1, ⟨hri1, okI1⟩, ⟨hra1, okA1⟩, ⟨hrn1, okNt1⟩⟩, hcap1, hcct1, hrm11, hrm21⟩ := id hM1
      have hgo1 := hF1 _ _ hgo (Or.inl (by simp))
      have hgv1 := hF1 _ _ hgv (Or.inl (by simp))
      have hgx1 := hgx
      obtain ⟨⟨⟨va_j, md_j⟩, ⟨fca_j, fbt_j, fdp_j⟩, ⟨fcl_j, fdn_j, fod_j, fcb_j⟩, xs_j⟩, efm_j⟩ : ∃ r, fm1 yj = r := ⟨_, rfl⟩
      obtain ⟨hfy_j, hva_j, hx_j⟩ := hFr1 j yj hj
      rw [efm_j] at hfy_j hva_j hx_j
      have hx_j : xs_j.length = 8 := hx_j
      obtain ⟨hmd_j, ⟨hcb1_j, hcb2_j⟩, ⟨hcb3_j, hcb4_j, hcb5_j⟩, ⟨-, hxv_j⟩, hdq_j⟩ := hFS1 j yj hjf hj
      rw [efm_j] at hmd_j hcb1_j hcb3_j hxv_j
      simp only [Prod.mk.injEq] at hcb1_j hcb3_j
      obtain ⟨ea1_j, ea2_j, ea3_j⟩ := hcb1_j
      obtain ⟨eb1_j, eb2_j, eb3_j, eb4_j⟩ := hcb3_j
      subst ea1_j ea2_j ea3_j eb1_j eb2_j eb3_j eb4_j
      obtain ⟨pr_j, ins_j, pm_j, lo_j, gd_j, cf_j, cr_j, sw_j, emr_j, hmo_j, hpp_j, hpn_j, hpm_j, hm2_j, hin_j, hsw_j, hsr_j, hmm_j⟩ := md_get hK hP1 hmd_j
      have hvk := go_v hg3 (k := k) (by omega)
      rw [← hg4] at hvk
      have hvv : ∀ k : Nat, k < 8 → tvE tm (zVl xs_j (k : Int)) (V1 j k) := fun k hk => by rw [zVl_get hx_j hk]; exact hxv_j k hk
      have hk8 : k < 8 := by omega
      rw [show List.range' k (n + 1) = k :: List.range' (k + 1) n from rfl]
      by_cases hz : 0 ≤ (k : Int) ∧ (k : Int) < 3 ∧ zand (zshr ins_j (k : Int)) 1 = 1
      · have hc : ((pgC R).2.1.1 (mmf fr j).1.1 (mmf fr j).1.2) k = true := by rw [hin_j k]; simp only [decide_eq_true_eq]; exact ⟨by omega, hz.2.2⟩
        refine zx_iload (i := 5) dX4_handsBack_47 rfl ?_
        refine zx_iload (i := 4) dX4_handsBack_49 rfl ?_
        refine zx_icmp_ge (tgt := 106) dX4_handsBack_51 (by decide) (fun h51 => absurd h51 (by omega)) (fun h51 => ?_)
        refine zx_aload_n (i := 1) dX4_handsBack_54 rfl rfl ?_
        refine zx_getfield dX4_handsBack_55 zf_X4_73 hfy_j rfl ?_
        refine zx_iload (i := 5) dX4_handsBack_58 rfl ?_
        refine zx_iv (b := md_j) (As := [zI (k : Int)]) (st := []) (v := (some (zI (zB (0 ≤ ((k : Int) : Int) ∧ ((k : Int) : Int) < 3 ∧ zand (zshr ins_j ((k : Int) : Int)) 1 = 1))))) (w1 := w1) dX4_handsBack_60 zc_X4_263 hmo_j rfl rfl rfl (Nat.le_of_ble_eq_true rfl) rfl (c_X5_isInput hmo_j (k : Int)) ?_
        refine zx_st (st1 := [zI (zB (0 ≤ ((k : Int) : Int) ∧ ((k : Int) : Int) < 3 ∧ zand (zshr ins_j ((k : Int) : Int)) 1 = 1))]) rfl ?_
        refine zx_if_ne (tgt := 70) dX4_handsBack_63 (by decide) (fun h63 => ?_) (fun h63 => absurd (by rw [zB_t hz]; decide) h63)
        refine zx_iconst (v := 0) dX4_handsBack_70 rfl (z32_lit (by decide) (by decide)) ?_
        refine zx_istore (i := 6) dX4_handsBack_71 (by decide) rfl ?_
        refine zx_L (L1 := [some (zR mc), some (zR yj), some (zR yi), some (zR g), some (zI (R.2.2.2.2.2.2 g).2.2.1), some (zI (k : Int)), some (zI 0)]) rfl ?_
        refine zx_iload (i := 6) dX4_handsBack_73 rfl ?_
        refine zx_pc (pc1 := 75) rfl ?_
        refine zx_if_eq (tgt := 100) dX4_handsBack_75 (by decide) (fun h75 => ?_) (fun h75 => absurd (by decide) h75)
        refine zx_iinc (i := 5) (v := ((k + 1 : Nat) : Int)) dX4_handsBack_100 rfl (zw_eq (by omega) (by omega) (by omega)) (by decide) rfl ?_
        refine zx_L (L1 := [some (zR mc), some (zR yj), some (zR yi), some (zR g), some (zI (R.2.2.2.2.2.2 g).2.2.1), some (zI ((k + 1 : Nat) : Int)), some (zI 0)]) rfl ?_
        refine zx_goto (tgt := 47) dX4_handsBack_103 (by decide) ?_
        rw [mmHb_i hc]
        exact ih (k + 1) V1 T1 w1 _ (by omega) (by omega) hW1 hF1
      · have hc : ((pgC R).2.1.1 (mmf fr j).1.1 (mmf fr j).1.2) k = false := by rw [hin_j k]; simp only [decide_eq_false_iff_not]; exact fun q => hz ⟨by omega, by omega, q.2⟩
        by_cases hy : (mmAg V1 T1 i (smv e.1 k) (V1 j k)).1 = true
        · skip
          refine zx_iload (i := 5) dX4_handsBack_47 rfl ?_
          refine zx_iload (i := 4) dX4_handsBack_49 rfl ?_
          refine zx_icmp_ge (tgt := 106) dX4_handsBack_51 (by decide) (fun h51 => absurd h51 (by omega)) (fun h51 => ?_)
          refine zx_aload_n (i := 1) dX4_handsBack_54 rfl rfl ?_
          refine zx_getfield dX4_handsBack_55 zf_X4_73 hfy_j rfl ?_
          refine zx_iload (i := 5) dX4_handsBack_58 rfl ?_
          refine zx_iv (b := md_j) (As := [zI (k : Int)]) (st := []) (v := (some (zI (zB (0 ≤ ((k : Int) : Int) ∧ ((k : Int) : Int) < 3 ∧ zand (zshr ins_j ((k : Int) : Int)) 1 = 1))))) (w1 := w1) dX4_handsBack_60 zc_X4_263 hmo_j rfl rfl rfl (Nat.le_of_ble_eq_true rfl) rfl (c_X5_isInput hmo_j (k : Int)) ?_
          refine zx_st (st1 := [zI (zB (0 ≤ ((k : Int) : Int) ∧ ((k : Int) : Int) < 3 ∧ zand (zshr ins_j ((k : Int) : Int)) 1 = 1))]) rfl ?_
          refine zx_if_ne (tgt := 70) dX4_handsBack_63 (by decide) (fun h63 => absurd h63 (by rw [zB_f hz]; decide)) (fun h63 => ?_)
          refine zx_iconst (v := 1) dX4_handsBack_66 rfl (z32_lit (by decide) (by decide)) ?_
          refine zx_goto (tgt := 71) dX4_handsBack_67 (by decide) ?_
          refine zx_istore (i := 6) dX4_handsBack_71 (by decide) rfl ?_
          refine zx_L (L1 := [some (zR mc), some (zR yj), some (zR yi), some (zR g), some (zI (R.2.2.2.2.2.2 g).2.2.1), some (zI (k : Int)), some (zI 1)]) rfl ?_
          refine zx_pc (pc1 := 73) rfl ?_
          refine zx_iload (i := 6) dX4_handsBack_73 rfl ?_
          refine zx_if_eq (tgt := 100) dX4_handsBack_75 (by decide) (fun h75 => absurd h75 (by decide)) (fun h75 => ?_)
          refine zx_aload_n (i := 0) dX4_handsBack_78 rfl rfl ?_
          refine zx_aload_n (i := 2) dX4_handsBack_79 rfl rfl ?_
          refine zx_aload_n (i := 3) dX4_handsBack_80 rfl rfl ?_
          refine zx_iload (i := 5) dX4_handsBack_81 rfl ?_
          refine zx_iv (b := g) (As := [zI (k : Int)]) (st := [zR yi, zR mc]) (v := (some (zI ((smv e.1 k : Nat) : Int)))) (w1 := w1) dX4_handsBack_83 zc_X4_267 hgo1 rfl rfl rfl (Nat.le_of_ble_eq_true rfl) rfl (by have q := c_X3_variableAt (G := G) (d := d + 3) hgo1 hgv1 hgx1 (k : Int); rw [hvk.1] at q; exact q) ?_
          refine zx_st (st1 := [zI ((smv e.1 k : Nat) : Int), zR yi, zR mc]) rfl ?_
          refine zx_aload_n (i := 1) dX4_handsBack_86 rfl rfl ?_
          refine zx_iload (i := 5) dX4_handsBack_87 rfl ?_
          refine zx_iv (b := yj) (As := [zI (k : Int)]) (st := [zI ((smv e.1 k : Nat) : Int), zR yi, zR mc]) (v := (some (zI (zVl xs_j (k : Int))))) (w1 := w1) dX4_handsBack_89 zc_X4_203 hfy_j rfl rfl rfl (Nat.le_of_ble_eq_true rfl) rfl (c_X2_valueOf hfy_j hva_j (by omega) (k : Int)) ?_
          refine zx_st (st1 := [zI (zVl xs_j (k : Int)), zI ((smv e.1 k : Nat) : Int), zR yi, zR mc]) rfl ?_
          refine zx_ivV (b := mc) (As := [zR yi, zI ((smv e.1 k : Nat) : Int), zI (zVl xs_j (k : Int))]) (st := []) dX4_handsBack_92 zc_X4_270 hmc1 rfl rfl rfl (Nat.le_of_ble_eq_true rfl) rfl (s_agrees hW1 hG1 hG2 hF3 (by omega) hif hi hvk.2 (hvv k hk8)) (fun v2 w2 hq => ?_)
          obtain ⟨ev2, hW2, hF2⟩ := hq
          subst ev2
          refine zx_if_ne (tgt := 100) dX4_handsBack_95 (by decide) (fun h95 => ?_) (fun h95 => absurd (by rw [zB_t hy]; decide) h95)
          refine zx_pc (pc1 := 100) rfl ?_
          refine zx_iinc (i := 5) (v := ((k + 1 : Nat) : Int)) dX4_handsBack_100 rfl (zw_eq (by omega) (by omega) (by omega)) (by decide) rfl ?_
          refine zx_L (L1 := [some (zR mc), some (zR yj), some (zR yi), some (zR g), some (zI (R.2.2.2.2.2.2 g).2.2.1), some (zI ((k + 1 : Nat) : Int)), some (zI 1)]) rfl ?_
          refine zx_goto (tgt := 47) dX4_handsBack_103 (by decide) ?_
          rw [mmHb_y hc hy]
          exact ih (k + 1) _ _ w2 _ (by omega) (by have := mmAg_len (V := V1) (T := T1) (i := i) (x := smv e.1 k) (o := V1 j k); omega) hW2 (mcF_tr hF1 hF2)
        · skip
          refine zx_iload (i := 5) dX4_handsBack_47 rfl ?_
          refine zx_iload (i := 4) dX4_handsBack_49 rfl ?_
          refine zx_icmp_ge (tgt := 106) dX4_handsBack_51 (by decide) (fun h51 => absurd h51 (by omega)) (fun h51 => ?_)
          refine zx_aload_n (i := 1) dX4_handsBack_54 rfl rfl ?_
          refine zx_getfield dX4_handsBack_55 zf_X4_73 hfy_j rfl ?_
          refine zx_iload (i := 5) dX4_handsBack_58 rfl ?_
          refine zx_iv (b := md_j) (As := [zI (k : Int)]) (st := []) (v := (some (zI (zB (0 ≤ ((k : Int) : Int) ∧ ((k : Int) : Int) < 3 ∧ zand (zshr ins_j ((k : Int) : Int)) 1 = 1))))) (w1 := w1) dX4_handsBack_60 zc_X4_263 hmo_j rfl rfl rfl (Nat.le_of_ble_eq_true rfl) rfl (c_X5_isInput hmo_j (k : Int)) ?_
          refine zx_st (st1 := [zI (zB (0 ≤ ((k : Int) : Int) ∧ ((k : Int) : Int) < 3 ∧ zand (zshr ins_j ((k : Int) : Int)) 1 = 1))]) rfl ?_
          refine zx_if_ne (tgt := 70) dX4_handsBack_63 (by decide) (fun h63 => absurd h63 (by rw [zB_f hz]; decide)) (fun h63 => ?_)
          refine zx_iconst (v := 1) dX4_handsBack_66 rfl (z32_lit (by decide) (by decide)) ?_
          refine zx_goto (tgt := 71) dX4_handsBack_67 (by decide) ?_
          refine zx_istore (i := 6) dX4_handsBack_71 (by decide) rfl ?_
          refine zx_L (L1 := [some (zR mc), some (zR yj), some (zR yi), some (zR g), some (zI (R.2.2.2.2.2.2 g).2.2.1), some (zI (k : Int)), some (zI 1)]) rfl ?_
          refine zx_pc (pc1 := 73) rfl ?_
          refine zx_iload (i := 6) dX4_handsBack_73 rfl ?_
          refine zx_if_eq (tgt := 100) dX4_handsBack_75 (by decide) (fun h75 => absurd h75 (by decide)) (fun h75 => ?_)
          refine zx_aload_n (i := 0) dX4_handsBack_78 rfl rfl ?_
          refine zx_aload_n (i := 2) dX4_handsBack_79 rfl rfl ?_
          refine zx_aload_n (i := 3) dX4_handsBack_80 rfl rfl ?_
          refine zx_iload (i := 5) dX4_handsBack_81 rfl ?_
          refine zx_iv (b := g) (As := [zI (k : Int)]) (st := [zR yi, zR mc]) (v := (some (zI ((smv e.1 k : Nat) : Int)))) (w1 := w1) dX4_handsBack_83 zc_X4_267 hgo1 rfl rfl rfl (Nat.le_of_ble_eq_true rfl) rfl (by have q := c_X3_variableAt (G := G) (d := d + 3) hgo1 hgv1 hgx1 (k : Int); rw [hvk.1] at q; exact q) ?_
          refine zx_st (st1 := [zI ((smv e.1 k : Nat) : Int), zR yi, zR mc]) rfl ?_
          refine zx_aload_n (i := 1) dX4_handsBack_86 rfl rfl ?_
          refine zx_iload (i := 5) dX4_handsBack_87 rfl ?_
          refine zx_iv (b := yj) (As := [zI (k : Int)]) (st := [zI ((smv e.1 k : Nat) : Int), zR yi, zR mc]) (v := (some (zI (zVl xs_j (k : Int))))) (w1 := w1) dX4_handsBack_89 zc_X4_203 hfy_j rfl rfl rfl (Nat.le_of_ble_eq_true rfl) rfl (c_X2_valueOf hfy_j hva_j (by omega) (k : Int)) ?_
          refine zx_st (st1 := [zI (zVl xs_j (k : Int)), zI ((smv e.1 k : Nat) : Int), zR yi, zR mc]) rfl ?_
          refine zx_ivV (b := mc) (As := [zR yi, zI ((smv e.1 k : Nat) : Int), zI (zVl xs_j (k : Int))]) (st := []) dX4_handsBack_92 zc_X4_270 hmc1 rfl rfl rfl (Nat.le_of_ble_eq_true rfl) rfl (s_agrees hW1 hG1 hG2 hF3 (by omega) hif hi hvk.2 (hvv k hk8)) (fun v2 w2 hq => ?_)
          obtain ⟨ev2, hW2, hF2⟩ := hq
          subst ev2
          refine zx_if_ne (tgt := 100) dX4_handsBack_95 (by decide) (fun h95 => absurd h95 (by rw [zB_f hy]; decide)) (fun h95 => ?_)
          refine zx_pc (pc1 := 98) rfl ?_
          refine zx_iconst (v := 0) dX4_handsBack_98 rfl (z32_lit (by decide) (by decide)) ?_
          refine zx_zret dX4_handsBack_99 rfl (by first | exact Or.inl rfl | exact Or.inr rfl | exact zB_or | assumption) ?_
          have hy : (mmAg V1 T1 i (smv e.1 k) (V1 j k)).1 = false := by simpa using hy
          rw [mmHb_n hc hy]
          exact ⟨_, rfl, by rw [zB_f (by rw [hy]; decide)], hW2, mcF_tr hF1 hF2⟩
  refine zx_aload_n (i := 2) dX4_handsBack_0 rfl rfl ?_
  refine zx_getfield dX4_handsBack_1 zf_X4_60 hfy_i rfl ?_
  refine zx_ifnonnull (tgt := 11) dX4_handsBack_4 (by decide) (fun _ => ?_) (fun h => by cases h)
  refine zx_aload_n (i := 2) dX4_handsBack_11 rfl rfl ?_
  refine zx_getfield dX4_handsBack_12 zf_X4_60 hfy_i rfl ?_
  refine zx_aload_n (i := 2) dX4_handsBack_15 rfl rfl ?_
  refine zx_getfield dX4_handsBack_16 zf_X4_73 hfy_i rfl ?_
  refine zx_getfield dX4_handsBack_19 zf_X4_77 hmo_i rfl ?_
  refine zx_aload_n (i := 1) dX4_handsBack_22 rfl rfl ?_
  refine zx_getfield dX4_handsBack_23 zf_X4_223 hfy_j rfl ?_
  refine zx_iv (b := a) (As := [zI ((mmf fr i).1.2 : Int), zI ((mmf fr j).2.1.2.1 : Int)]) (st := []) (v := (some (zR g))) (w1 := w) dX4_handsBack_26 zc_X4_92 hC.1 rfl rfl rfl (Nat.le_of_ble_eq_true rfl) rfl (by have q := c_X1_goalIn (G := G) (d := d + 2) hC ((mmf fr i).1.2 : Int) ((mmf fr j).2.1.2.1 : Int); rw [if_pos hg0, hg1] at q; exact q) ?_
  refine zx_st (st1 := [zR g]) rfl ?_
  refine zx_pc (pc1 := 29) rfl ?_
  refine zx_astore_n (i := 3) dX4_handsBack_29 rfl (by decide) rfl ?_
  refine zx_L (L1 := [some (zR mc), some (zR yj), some (zR yi), some (zR g), none, none, none]) rfl ?_
  refine zx_aload_n (i := 3) dX4_handsBack_30 rfl rfl ?_
  refine zx_ifnonnull (tgt := 38) dX4_handsBack_31 (by decide) (fun _ => ?_) (fun h => by cases h)
  refine zx_aload_n (i := 3) dX4_handsBack_38 rfl rfl ?_
  refine zx_getfield dX4_handsBack_39 zf_X4_261 hgo rfl ?_
  refine zx_istore (i := 4) dX4_handsBack_42 (by decide) rfl ?_
  refine zx_L (L1 := [some (zR mc), some (zR yj), some (zR yi), some (zR g), some (zI (R.2.2.2.2.2.2 g).2.2.1), none, none]) rfl ?_
  refine zx_iconst (v := 0) dX4_handsBack_44 rfl (z32_lit (by decide) (by decide)) ?_
  refine zx_istore (i := 5) dX4_handsBack_45 (by decide) rfl ?_
  refine zx_L (L1 := [some (zR mc), some (zR yj), some (zR yi), some (zR g), some (zI (R.2.2.2.2.2.2 g).2.2.1), some (zI 0), none]) rfl ?_
  have hst := loop (e.1.2.2.1) 0 V T w none (by omega) (by omega) hW mcF_re
  rw [show List.range e.1.2.2.1 = List.range' 0 e.1.2.2.1 from List.range_eq_range']
  exact hst
end SHB
