/-! Own rows: beginCall against mmGoal. Walked by program (wip/p37/m_bc.py). -/
def msPl (S : mmS) (p : Nat) : mmS := (S.1, (S.2.1.1, p, S.2.1.2.2), S.2.2)
/-- what a step leaves in the world -/
def stQ (w' : zW) (b1 b2 : Nat) (K : mcK) (R : pgR) (r : mmS ⊕ (Nat × mmS)) : Prop := ∃ Fs2 : List Nat, Fs2.length ≤ 320 ∧ match r with
  | .inl S' => msW w' b1 b2 K R Fs2 (0, 0, 101) S'
  | .inr r => ∃ p', msW w' b1 b2 K R Fs2 (if r.1 = 0 then (1, 0, 101) else if r.1 = 1 then (1, 0, 108) else (1, 1, 101)) (msPl r.2 p')
section MG
variable {C : mmC} {i : Nat} {e : mmO} {fr : List mmF} {cls : Nat → Option Nat} {V : mmV} {ch : mmH} {T : mmT} {cur den : Option Nat} {pl0 na ns nc0 dp0 : Nat} {flb : Bool} {tm : List smG} {nt : List (Nat × Nat)}
theorem mg_l (h : 300 ≤ ns) : mmGoal C i e ((fr, cls, V, ch, T), (cur, pl0, den, flb), tm, (na, ns, nc0, dp0), nt) = .inr (1, ((fr, cls, V, ch, T), (cur, pl0, den, flb), tm, (na, ns, nc0, dp0), nt)) := if_pos h
theorem mg_n (h : ¬ 300 ≤ ns) (hk : e.1.1 = 2 ∨ e.1.1 = 3) (hm : e.2.1 = none) : mmGoal C i e ((fr, cls, V, ch, T), (cur, pl0, den, flb), tm, (na, ns, nc0, dp0), nt) = .inr (1, ((fr, cls, V, ch, T), (cur, pl0, den, flb), tm, (na, (ns + 1), nc0, dp0), nt)) := by
  show (if _ then _ else _) = _
  rw [if_neg h, if_pos hk, hm]
theorem mg_d {m : Nat} (h : ¬ 300 ≤ ns) (hk : e.1.1 = 2 ∨ e.1.1 = 3) (hm : e.2.1 = some m) (hd : 30 ≤ (mmf fr i).2.1.2.2) : mmGoal C i e ((fr, cls, V, ch, T), (cur, pl0, den, flb), tm, (na, ns, nc0, dp0), nt) = .inr (1, ((fr, cls, V, ch, T), (cur, pl0, den, flb), tm, (na, (ns + 1), nc0, dp0), nt)) := by
  show (if _ then _ else _) = _
  rw [if_neg h, if_pos hk, hm]
  exact if_pos hd
theorem mg_3 {m : Nat} (h : ¬ 300 ≤ ns) (hk : e.1.1 = 3) (hm : e.2.1 = some m) (hd : ¬ 30 ≤ (mmf fr i).2.1.2.2) : mmGoal C i e ((fr, cls, V, ch, T), (cur, pl0, den, flb), tm, (na, ns, nc0, dp0), nt) = .inl (mmEnter C fr.length (((fr ++ [((e.1.2.1, m), (some i, pl0, (mmf fr i).2.1.2.2 + 1), true, den, ch.length)]), cls, (mmNew V fr.length (mmArgs (C.2.1.1 e.1.2.1 m) V i e.1)), ch, T), (cur, pl0, (some fr.length), flb), tm, (na, (ns + 1), nc0, dp0), nt)) := by
  show (if _ then _ else _) = _
  rw [if_neg h, if_pos (Or.inr hk), hm]
  show (if _ then _ else _) = _
  rw [if_neg hd, if_pos hk]
theorem mg_2 {m : Nat} (h : ¬ 300 ≤ ns) (hk : e.1.1 = 2) (hm : e.2.1 = some m) (hd : ¬ 30 ≤ (mmf fr i).2.1.2.2) : mmGoal C i e ((fr, cls, V, ch, T), (cur, pl0, den, flb), tm, (na, ns, nc0, dp0), nt) = .inl (mmEnter C fr.length (((fr ++ [((e.1.2.1, m), (some i, pl0, (mmf fr i).2.1.2.2 + 1), false, none, 0)]), cls, (mmNew V fr.length (mmArgs (C.2.1.1 e.1.2.1 m) V i e.1)), ch, T), (cur, pl0, den, flb), tm, (na, (ns + 1), nc0, dp0), nt)) := by
  show (if _ then _ else _) = _
  rw [if_neg h, if_pos (Or.inl hk), hm]
  show (if _ then _ else _) = _
  rw [if_neg hd, if_neg (by omega)]
theorem mg_e (h : ¬ 300 ≤ ns) (hk : ¬ (e.1.1 = 2 ∨ e.1.1 = 3)) : mmGoal C i e ((fr, cls, V, ch, T), (cur, pl0, den, flb), tm, (na, ns, nc0, dp0), nt) = (match mmEq V T tm i e.1 with | none => .inr (2, ((fr, cls, V, ch, T), (cur, pl0, den, flb), tm, (na, (ns + 1), nc0, dp0), nt)) | some r => .inl ((fr, cls, r.2.1, ch, r.2.2.1), (cur, (pl0 + 1), den, (!r.1)), r.2.2.2, (na, (ns + 1), nc0, dp0), nt)) := by
  show (if _ then _ else _) = _
  rw [if_neg h, if_neg hk]
  rfl
end MG
theorem pre_s {V : mmV} {j i k : Nat} {g : smL} {inp : Nat → Bool} (hij : i ≠ j) (h : inp k = true) : (fun a z => if a = j ∧ z = k then (mmNew V j (fun q => if q < k ∧ inp q = true then V i (smv g q) else none)) i (smv g k) else (mmNew V j (fun q => if q < k ∧ inp q = true then V i (smv g q) else none)) a z) = mmNew V j (fun q => if q < k + 1 ∧ inp q = true then V i (smv g q) else none) := by
  funext a z
  have e1 : ∀ o, mmNew V j o i (smv g k) = V i (smv g k) := fun o => if_neg hij
  rw [e1]
  by_cases c : a = j
  · subst c
    have e2 : ∀ o : Nat → Option smG, mmNew V a o a z = o z := fun o => if_pos rfl
    rw [e2, e2]
    by_cases c2 : z = k
    · rw [if_pos ⟨rfl, c2⟩, c2, if_pos ⟨by omega, h⟩]
    · rw [if_neg (fun q => c2 q.2)]
      by_cases c3 : z < k
      · by_cases c4 : inp z = true
        · rw [if_pos ⟨c3, c4⟩, if_pos ⟨by omega, c4⟩]
        · rw [if_neg (fun q => c4 q.2), if_neg (fun q => c4 q.2)]
      · rw [if_neg (fun q => c3 q.1), if_neg (fun q => by have := q.1; omega)]
  · have e2 : ∀ o : Nat → Option smG, mmNew V j o a z = V a z := fun o => if_neg c
    rw [e2, e2, if_neg (fun q => c q.1)]
theorem pre_n {V : mmV} {j i k : Nat} {g : smL} {inp : Nat → Bool} (h : ¬ inp k = true) : mmNew V j (fun q => if q < k ∧ inp q = true then V i (smv g q) else none) = mmNew V j (fun q => if q < k + 1 ∧ inp q = true then V i (smv g q) else none) := by
  congr 1
  funext q
  by_cases c : q = k
  · subst c
    rw [if_neg (fun t => h t.2), if_neg (fun t => h t.2)]
  · by_cases c3 : q < k
    · by_cases c4 : inp q = true
      · rw [if_pos ⟨c3, c4⟩, if_pos ⟨by omega, c4⟩]
      · rw [if_neg (fun q => c4 q.2), if_neg (fun q => c4 q.2)]
    · rw [if_neg (fun q => c3 q.1), if_neg (fun q => by have := q.1; omega)]
section SBC
variable {pg : Nat}
variable {G : zG} {d : Nat} {w : zW} {b1 b2 : Nat} {R : pgR} {Fs : List Nat}  {mc fa ca ta t tc tn th tz rp ri ra rn : Nat} {ty bk bc : Int} {C I : List (List Int)} {mo : Option Nat} {fr : List mmF} {cls : Nat → Option Nat} {V : mmV} {ch : mmH} {T : mmT} {cur den : Option Nat} {pl0 na ns nc0 dp0 : Nat} {flb : Bool} {tm : List smG} {nt : List (Nat × Nat)}
theorem s_beginCall (hP : pgW w pg R) (hK : mkF R) (hW : msW w b1 b2 ((mc, fa, ca, ta), (t, tc, tn, th, tz), (rp, ri, ra, rn), (ty, C), (mo, I, bk, bc)) R Fs (0, 0, 101) ((fr, cls, V, ch, T), (cur, pl0, den, flb), tm, (na, (ns + 1), nc0, dp0), nt)) (hG1 : b1 + 1500000 ≤ 60 * G.2.2.2.2.1) (hG2 : b2 + 3150000 ≤ G.2.2.2.2.2) (hF3 : Fs.length ≤ 320) (hfl0 : fr.length < 310) (hns : ¬ 300 ≤ ns) (hch : ch.length < 319) (hnc : nc0 < 99999) {i yi c a g : Nat} (hif : i < fr.length) (hi : Fs[i]? = some yi) (hcl : cls i = some c) (hcA : pgCl R c = some a) {e : mmO} (he : ((pgC R).2.1.2 (mmf fr i).1.2 c)[pl0]? = some e) (hgW : goW w g (R.2.2.2.2.2.2 g)) (hg3 : gOk (R.2.2.2.2.2.2 g)) (hg4 : e.1 = gL (R.2.2.2.2.2.2 g)) (hk23 : e.1.1 = 2 ∨ e.1.1 = 3) (hcall : ∀ m, e.2.1 = some m → ∀ s, (pgC R).2.2.1 e.1.2.1 m = some s → mmArgs ((pgC R).2.1.1 e.1.2.1 m) V i e.1 s ≠ none ∧ ∀ c, c ∈ (pgC R).1.1.1 e.1.2.1 → ∃ e' os, (pgC R).2.1.2 m c = e' :: os ∧ e'.1.1 = 0) : zM G zm_X4_beginCall (d + 7) [zR mc, zR yi, zR g] w (zVoid fun w' => stQ w' b1 b2 ((mc, fa, ca, ta), (t, tc, tn, th, tz), (rp, ri, ra, rn), (ty, C), (mo, I, bk, bc)) R (mmGoal (pgC R) i e ((fr, cls, V, ch, T), (cur, pl0, den, flb), tm, (na, ns, nc0, dp0), nt)) ∧ mcF rp w w') := by
  refine zx_ent (by decide +kernel) rfl (Nat.le_of_ble_eq_true rfl) ?_
  refine zx_L (L1 := [some (zR mc), some (zR yi), some (zR g), none, none, none]) rfl ?_
  obtain ⟨cap, fm, cc, CH, ct, TR, us, cu, pl, de, fl, N, H, Sz, A, Nt, sc, nc, dp, hM, hS⟩ := id hW
  obtain ⟨⟨hus, hfl, hJ, hcn, hFS⟩, ⟨hcu, hcuL, hpl, hde, hdeL, hfb⟩, ⟨hCH, hchL⟩, ⟨hTR, hTL⟩, htm, ⟨hA, hsc, hnc, hdp, hNt⟩⟩ := id hS
  subst hus hcu hpl hde hfb hCH hTR hsc hnc hdp hNt
  obtain ⟨hmc, hfa, ⟨hca, okC⟩, ⟨hta, okT⟩, hFr, ⟨ht0, ⟨htc, okTC⟩, ⟨htn, okN⟩, ⟨hth, okH⟩, htz, hSz⟩, ⟨hrp, ⟨hri, okI⟩, ⟨hra, okA⟩, ⟨hrn, okNt⟩⟩, hcap, hcct, hrm1, hrm2⟩ := id hM
  obtain ⟨⟨⟨va_i, md_i⟩, ⟨fca_i, fbt_i, fdp_i⟩, ⟨fcl_i, fdn_i, fod_i, fcb_i⟩, xs_i⟩, efm_i⟩ : ∃ r, fm yi = r := ⟨_, rfl⟩
  obtain ⟨hfy_i, hva_i, hx_i⟩ := hFr i yi hi
  rw [efm_i] at hfy_i hva_i hx_i
  have hx_i : xs_i.length = 8 := hx_i
  obtain ⟨hmd_i, ⟨hcb1_i, hcb2_i⟩, ⟨hcb3_i, hcb4_i, hcb5_i⟩, ⟨-, hxv_i⟩, hdq_i⟩ := hFS i yi hif hi
  rw [efm_i] at hmd_i hcb1_i hcb3_i hxv_i
  simp only [Prod.mk.injEq] at hcb1_i hcb3_i
  obtain ⟨ea1_i, ea2_i, ea3_i⟩ := hcb1_i
  obtain ⟨eb1_i, eb2_i, eb3_i, eb4_i⟩ := hcb3_i
  subst ea1_i ea2_i ea3_i eb1_i eb2_i eb3_i eb4_i
  have hfy_i : w.1 yi = some (2, 0, [zI (i : Int), zR va_i, zR md_i, zP (oA Fs (mmf fr i).2.1.1), zI ((mmf fr i).2.1.2.1 : Int), zI ((mmf fr i).2.1.2.2 : Int), zP ((cls i).bind (pgCl R)), zI (if (mmf fr i).2.2.1 = true then 1 else 0), zP (oA Fs (mmf fr i).2.2.2.1), zI ((mmf fr i).2.2.2.2 : Int)]) := hfy_i
  have efc : ((cls i).bind (pgCl R)) = some a := by rw [hcl]; exact hcA
  rw [efc] at hfy_i
  obtain ⟨pr_i, ins_i, pm_i, lo_i, gd_i, cf_i, cr_i, sw_i, emr_i, hmo_i, hpp_i, hpn_i, hpm_i, hm2_i, hin_i, hsw_i, hsr_i, hmm_i⟩ := md_get hK hP hmd_i
  obtain ⟨-, hg0, -, -, -, -, -, hx0a⟩ := rd_at hK hcA hm2_i he
  have hC := (hP.2.2.2.2.2.2 a (List.mem_of_getElem? hcA)).1
  obtain ⟨hgo, hgv, hgx, hgn, hgk⟩ := hgW
  obtain ⟨hgc, hgc3⟩ := go_c hg3
  rw [← hg4] at hgc hgc3
  have hgkd := (go_k hg3).1
  rw [← hg4] at hgkd
  rcases hx0a with ⟨hx0, hm0⟩ | ⟨x, m, hx0, hm0, hmx⟩
  · skip
    refine zx_aload_n (i := 1) dX4_beginCall_0 rfl rfl ?_
    refine zx_getfield dX4_beginCall_1 zf_X4_60 hfy_i rfl ?_
    refine zx_ifnonnull (tgt := 11) dX4_beginCall_4 (by decide) (fun _ => ?_) (fun h => by cases h)
    refine zx_aload_n (i := 1) dX4_beginCall_11 rfl rfl ?_
    refine zx_getfield dX4_beginCall_12 zf_X4_60 hfy_i rfl ?_
    refine zx_aload_n (i := 1) dX4_beginCall_15 rfl rfl ?_
    refine zx_getfield dX4_beginCall_16 zf_X4_73 hfy_i rfl ?_
    refine zx_getfield dX4_beginCall_19 zf_X4_77 hmo_i rfl ?_
    refine zx_aload_n (i := 0) dX4_beginCall_22 rfl rfl ?_
    refine zx_getfield dX4_beginCall_23 zf_X4_69 hmc rfl ?_
    refine zx_iv (b := a) (As := [zI ((mmf fr i).1.2 : Int), zI (pl0 : Int)]) (st := []) (v := (some (zN))) (w1 := w) dX4_beginCall_26 zc_X4_294 hC.1 rfl rfl rfl (Nat.le_of_ble_eq_true rfl) rfl (by have q := c_X1_chosenIn (G := G) (d := d + 5) hC ((mmf fr i).1.2 : Int) (pl0 : Int); rw [if_pos hg0, hx0] at q; exact q) ?_
    refine zx_st (st1 := [zN]) rfl ?_
    refine zx_pc (pc1 := 29) rfl ?_
    refine zx_astore_n (i := 3) dX4_beginCall_29 rfl (by decide) rfl ?_
    refine zx_L (L1 := [some (zR mc), some (zR yi), some (zR g), some (zN), none, none]) rfl ?_
    refine zx_aload_n (i := 3) dX4_beginCall_30 rfl rfl ?_
    refine zx_ifnull (tgt := 43) dX4_beginCall_31 (by decide) (fun _ => ?_) (fun h => absurd rfl h)
    refine zx_aload_n (i := 0) dX4_beginCall_43 rfl rfl ?_
    refine zx_bipush (v := 108) dX4_beginCall_44 (by decide +kernel) (z32_lit (by decide) (by decide)) ?_
    refine zx_ivN (b := mc) (As := [zI 108]) (st := []) dX4_beginCall_46 zc_X4_232 hmc rfl rfl rfl (Nat.le_of_ble_eq_true rfl) rfl (c_X4_finish hM 108 (by decide)) (fun w5 hq => ?_)
    obtain ⟨hM5, hF5⟩ := hq
    refine zx_return dX4_beginCall_49 rfl ?_
    rw [mg_n hns hk23 hm0]
    exact ⟨rfl, ⟨Fs, hF3, pl0, ⟨_, _, _, _, _, _, _, _, _, _, _, _, _, _, _, _, _, _, _, hM5, ⟨⟨(by first | rfl | omega | simp), hfl, hJ, hcn, hFS⟩, ⟨rfl, hcuL, (by first | rfl | omega), rfl, hdeL, rfl⟩, ⟨rfl, hchL⟩, ⟨rfl, hTL⟩, htm, ⟨hA, (by first | rfl | omega), (by first | rfl | omega), (by first | rfl | omega), rfl⟩⟩⟩⟩, hF5⟩
  · by_cases hd30 : 30 ≤ (mmf fr i).2.1.2.2
    · skip
      refine zx_aload_n (i := 1) dX4_beginCall_0 rfl rfl ?_
      refine zx_getfield dX4_beginCall_1 zf_X4_60 hfy_i rfl ?_
      refine zx_ifnonnull (tgt := 11) dX4_beginCall_4 (by decide) (fun _ => ?_) (fun h => by cases h)
      refine zx_aload_n (i := 1) dX4_beginCall_11 rfl rfl ?_
      refine zx_getfield dX4_beginCall_12 zf_X4_60 hfy_i rfl ?_
      refine zx_aload_n (i := 1) dX4_beginCall_15 rfl rfl ?_
      refine zx_getfield dX4_beginCall_16 zf_X4_73 hfy_i rfl ?_
      refine zx_getfield dX4_beginCall_19 zf_X4_77 hmo_i rfl ?_
      refine zx_aload_n (i := 0) dX4_beginCall_22 rfl rfl ?_
      refine zx_getfield dX4_beginCall_23 zf_X4_69 hmc rfl ?_
      refine zx_iv (b := a) (As := [zI ((mmf fr i).1.2 : Int), zI (pl0 : Int)]) (st := []) (v := (some (zR x))) (w1 := w) dX4_beginCall_26 zc_X4_294 hC.1 rfl rfl rfl (Nat.le_of_ble_eq_true rfl) rfl (by have q := c_X1_chosenIn (G := G) (d := d + 5) hC ((mmf fr i).1.2 : Int) (pl0 : Int); rw [if_pos hg0, hx0] at q; exact q) ?_
      refine zx_st (st1 := [zR x]) rfl ?_
      refine zx_pc (pc1 := 29) rfl ?_
      refine zx_astore_n (i := 3) dX4_beginCall_29 rfl (by decide) rfl ?_
      refine zx_L (L1 := [some (zR mc), some (zR yi), some (zR g), some (zR x), none, none]) rfl ?_
      refine zx_aload_n (i := 3) dX4_beginCall_30 rfl rfl ?_
      refine zx_ifnull (tgt := 43) dX4_beginCall_31 (by decide) (fun h => by cases h) (fun _ => ?_)
      refine zx_aload_n (i := 1) dX4_beginCall_34 rfl rfl ?_
      refine zx_getfield dX4_beginCall_35 zf_X4_159 hfy_i rfl ?_
      refine zx_bipush (v := 30) dX4_beginCall_38 (by decide +kernel) (z32_lit (by decide) (by decide)) ?_
      refine zx_icmp_lt (tgt := 50) dX4_beginCall_40 (by decide) (fun h40 => absurd h40 (by omega)) (fun h40 => ?_)
      refine zx_aload_n (i := 0) dX4_beginCall_43 rfl rfl ?_
      refine zx_bipush (v := 108) dX4_beginCall_44 (by decide +kernel) (z32_lit (by decide) (by decide)) ?_
      refine zx_ivN (b := mc) (As := [zI 108]) (st := []) dX4_beginCall_46 zc_X4_232 hmc rfl rfl rfl (Nat.le_of_ble_eq_true rfl) rfl (c_X4_finish hM 108 (by decide)) (fun w5 hq => ?_)
      obtain ⟨hM5, hF5⟩ := hq
      refine zx_return dX4_beginCall_49 rfl ?_
      rw [mg_d hns hk23 hm0 hd30]
      exact ⟨rfl, ⟨Fs, hF3, pl0, ⟨_, _, _, _, _, _, _, _, _, _, _, _, _, _, _, _, _, _, _, hM5, ⟨⟨(by first | rfl | omega | simp), hfl, hJ, hcn, hFS⟩, ⟨rfl, hcuL, (by first | rfl | omega), rfl, hdeL, rfl⟩, ⟨rfl, hchL⟩, ⟨rfl, hTL⟩, htm, ⟨hA, (by first | rfl | omega), (by first | rfl | omega), (by first | rfl | omega), rfl⟩⟩⟩⟩, hF5⟩
    have loop : ∀ (Fs2 : List Nat) (yn : Nat) (w2 : zW), Fs2[fr.length]? = some yn → (∀ (q z : Nat), Fs[q]? = some z → Fs2[q]? = some z) → Fs2.length ≤ 320 → mcF rp w w2 → ∀ (n k : Nat) (w1 : zW), k + n = e.1.2.2.1 → msW w1 b1 b2 ((mc, fa, ca, ta), (t, tc, tn, th, tz), (rp, ri, ra, rn), (ty, C), (mo, I, bk, bc)) R Fs2 (0, 0, 101) (((fr ++ [((e.1.2.1, m), (some i, pl0, (mmf fr i).2.1.2.2 + 1), false, none, 0)]), cls, (mmNew V fr.length (fun q => if q < k ∧ (pgC R).2.1.1 e.1.2.1 m q = true then V i (smv e.1 q) else none)), ch, T), (cur, pl0, den, flb), tm, (na, (ns + 1), nc0, dp0), nt) → mcF rp w2 w1 → zX G zm_X4_beginCall (d + 7) [zR mc, zR yi, zR g] w (zVoid fun w' => stQ w' b1 b2 ((mc, fa, ca, ta), (t, tc, tn, th, tz), (rp, ri, ra, rn), (ty, C), (mo, I, bk, bc)) R (mmGoal (pgC R) i e ((fr, cls, V, ch, T), (cur, pl0, den, flb), tm, (na, ns, nc0, dp0), nt)) ∧ mcF rp w w') 61 [some (zR mc), some (zR yi), some (zR g), some (zR x), some (zR yn), some (zI (k : Int))] [] w1 := by
      intro Fs2 yn w2 hyn hpre hF32 hF2 n
      induction n with
      | zero =>
        intro k w1 hk hW1 hF1
        have hk' : k = e.1.2.2.1 := by omega
        have hVA : (mmNew V fr.length (fun q => if q < k ∧ (pgC R).2.1.1 e.1.2.1 m q = true then V i (smv e.1 q) else none)) = (mmNew V fr.length (mmArgs ((pgC R).2.1.1 e.1.2.1 m) V i e.1)) := by rw [hk']; rfl
        have hgo1 := hF1 _ _ (hF2 _ _ hgo (Or.inl (by simp))) (Or.inl (by simp))
        have hP1 : pgW w1 pg R := pgW_TM hP (mcF_fr (mcF_tr hF2 hF1))
        obtain ⟨cap1, fm1, cc1, CH1, ct1, TR1, us1, cu1, pl1, de1, fl1, N1, H1, Sz1, A1, Nt1, sc1, nc1, dp1, hM1, hS1⟩ := id hW1
        obtain ⟨⟨hus1, hfl1, hJ1, hcn1, hFS1⟩, ⟨hcu1, hcuL1, hpl1, hde1, hdeL1, hfb1⟩, ⟨hCH1, hchL1⟩, ⟨hTR1, hTL1⟩, htm1, ⟨hA1, hsc1, hnc1, hdp1, hNt1⟩⟩ := id hS1
        subst hus1 hcu1 hpl1 hde1 hfb1 hCH1 hTR1 hsc1 hnc1 hdp1 hNt1
        obtain ⟨hmc1, hfa1, ⟨hca1, okC1⟩, ⟨hta1, okT1⟩, hFr1, ⟨ht01, ⟨htc1, okTC1⟩, ⟨htn1, okN1⟩, ⟨hth1, okH1⟩, htz1, hSz1⟩, ⟨hrp1, ⟨hri1, okI1⟩, ⟨hra1, okA1⟩, ⟨hrn1, okNt1⟩⟩, hcap1, hcct1, hrm11, hrm21⟩ := id hM1
        have hi2 := hpre i yi hi
        have hif2 : i < (fr ++ [((e.1.2.1, m), (some i, pl0, (mmf fr i).2.1.2.2 + 1), false, none, 0)]).length := by rw [List.length_append]; omega
        have hnl : fr.length < (fr ++ [((e.1.2.1, m), (some i, pl0, (mmf fr i).2.1.2.2 + 1), false, none, 0)]).length := by simp
        obtain ⟨⟨⟨va_i, md_i⟩, ⟨fca_i, fbt_i, fdp_i⟩, ⟨fcl_i, fdn_i, fod_i, fcb_i⟩, xs_i⟩, efm_i⟩ : ∃ r, fm1 yi = r := ⟨_, rfl⟩
        obtain ⟨hfy_i, hva_i, hx_i⟩ := hFr1 i yi hi2
        rw [efm_i] at hfy_i hva_i hx_i
        have hx_i : xs_i.length = 8 := hx_i
        obtain ⟨hmd_i, ⟨hcb1_i, hcb2_i⟩, ⟨hcb3_i, hcb4_i, hcb5_i⟩, ⟨-, hxv_i⟩, hdq_i⟩ := hFS1 i yi hif2 hi2
        rw [efm_i] at hmd_i hcb1_i hcb3_i hxv_i
        simp only [Prod.mk.injEq] at hcb1_i hcb3_i
        obtain ⟨ea1_i, ea2_i, ea3_i⟩ := hcb1_i
        obtain ⟨eb1_i, eb2_i, eb3_i, eb4_i⟩ := hcb3_i
        subst ea1_i ea2_i ea3_i eb1_i eb2_i eb3_i eb4_i
        have hfy_i : w1.1 yi = some (2, 0, [zI (i : Int), zR va_i, zR md_i, zP (oA Fs2 (mmf (fr ++ [((e.1.2.1, m), (some i, pl0, (mmf fr i).2.1.2.2 + 1), false, none, 0)]) i).2.1.1), zI ((mmf (fr ++ [((e.1.2.1, m), (some i, pl0, (mmf fr i).2.1.2.2 + 1), false, none, 0)]) i).2.1.2.1 : Int), zI ((mmf (fr ++ [((e.1.2.1, m), (some i, pl0, (mmf fr i).2.1.2.2 + 1), false, none, 0)]) i).2.1.2.2 : Int), zP ((cls i).bind (pgCl R)), zI (if (mmf (fr ++ [((e.1.2.1, m), (some i, pl0, (mmf fr i).2.1.2.2 + 1), false, none, 0)]) i).2.2.1 = true then 1 else 0), zP (oA Fs2 (mmf (fr ++ [((e.1.2.1, m), (some i, pl0, (mmf fr i).2.1.2.2 + 1), false, none, 0)]) i).2.2.2.1), zI ((mmf (fr ++ [((e.1.2.1, m), (some i, pl0, (mmf fr i).2.1.2.2 + 1), false, none, 0)]) i).2.2.2.2 : Int)]) := hfy_i
        obtain ⟨⟨⟨va_n, md_n⟩, ⟨fca_n, fbt_n, fdp_n⟩, ⟨fcl_n, fdn_n, fod_n, fcb_n⟩, xs_n⟩, efm_n⟩ : ∃ r, fm1 yn = r := ⟨_, rfl⟩
        obtain ⟨hfy_n, hva_n, hx_n⟩ := hFr1 fr.length yn hyn
        rw [efm_n] at hfy_n hva_n hx_n
        have hx_n : xs_n.length = 8 := hx_n
        obtain ⟨hmd_n, ⟨hcb1_n, hcb2_n⟩, ⟨hcb3_n, hcb4_n, hcb5_n⟩, ⟨-, hxv_n⟩, hdq_n⟩ := hFS1 fr.length yn hnl hyn
        rw [efm_n] at hmd_n hcb1_n hcb3_n hxv_n
        simp only [Prod.mk.injEq] at hcb1_n hcb3_n
        obtain ⟨ea1_n, ea2_n, ea3_n⟩ := hcb1_n
        obtain ⟨eb1_n, eb2_n, eb3_n, eb4_n⟩ := hcb3_n
        subst ea1_n ea2_n ea3_n eb1_n eb2_n eb3_n eb4_n
        have hfy_n : w1.1 yn = some (2, 0, [zI (fr.length : Int), zR va_n, zR md_n, zP (oA Fs2 (mmf (fr ++ [((e.1.2.1, m), (some i, pl0, (mmf fr i).2.1.2.2 + 1), false, none, 0)]) fr.length).2.1.1), zI ((mmf (fr ++ [((e.1.2.1, m), (some i, pl0, (mmf fr i).2.1.2.2 + 1), false, none, 0)]) fr.length).2.1.2.1 : Int), zI ((mmf (fr ++ [((e.1.2.1, m), (some i, pl0, (mmf fr i).2.1.2.2 + 1), false, none, 0)]) fr.length).2.1.2.2 : Int), zP ((cls fr.length).bind (pgCl R)), zI (if (mmf (fr ++ [((e.1.2.1, m), (some i, pl0, (mmf fr i).2.1.2.2 + 1), false, none, 0)]) fr.length).2.2.1 = true then 1 else 0), zP (oA Fs2 (mmf (fr ++ [((e.1.2.1, m), (some i, pl0, (mmf fr i).2.1.2.2 + 1), false, none, 0)]) fr.length).2.2.2.1), zI ((mmf (fr ++ [((e.1.2.1, m), (some i, pl0, (mmf fr i).2.1.2.2 + 1), false, none, 0)]) fr.length).2.2.2.2 : Int)]) := hfy_n
        obtain ⟨pr_x, ins_x, pm_x, lo_x, gd_x, cf_x, cr_x, sw_x, emr_x, hmo_x, hpp_x, hpn_x, hpm_x, hm2_x, hin_x, hsw_x, hsr_x, hmm_x⟩ := md_get hK hP1 hmx
        have hCl : (ch.reverse.map (fun e => [(e.1 : Int), (e.2.1 : Int), (e.2.2 : Int)])).length = ch.length := by simp
        rcases hk23 with hk2 | hk3
        · skip
          refine zx_iload (i := 5) dX4_beginCall_61 rfl ?_
          refine zx_aload_n (i := 2) dX4_beginCall_63 rfl rfl ?_
          refine zx_getfield dX4_beginCall_64 zf_X4_261 hgo1 rfl ?_
          refine zx_icmp_ge (tgt := 102) dX4_beginCall_67 (by decide) (fun h67 => ?_) (fun h67 => absurd (by omega) h67)
          refine zx_aload_n (i := 2) dX4_beginCall_102 rfl rfl ?_
          refine zx_getfield dX4_beginCall_103 zf_X4_284 hgo1 rfl ?_
          refine zx_iconst (v := 3) dX4_beginCall_106 rfl (z32_lit (by decide) (by decide)) ?_
          refine zx_icmp_ne (tgt := 143) dX4_beginCall_107 (by decide) (fun h107 => ?_) (fun h107 => absurd (by omega) h107)
          refine zx_aload_n (i := 0) dX4_beginCall_143 rfl rfl ?_
          refine zx_aload (i := 4) dX4_beginCall_144 rfl ?_
          have hW9 : msW w1 b1 b2 ((mc, fa, ca, ta), (t, tc, tn, th, tz), (rp, ri, ra, rn), (ty, C), (mo, I, bk, bc)) R Fs2 (0, 0, 101) (((fr ++ [((e.1.2.1, m), (some i, pl0, (mmf fr i).2.1.2.2 + 1), false, none, 0)]), cls, (mmNew V fr.length (mmArgs ((pgC R).2.1.1 e.1.2.1 m) V i e.1)), ch, T), (cur, pl0, den, flb), tm, (na, (ns + 1), nc0, dp0), nt) := by rw [← hVA]; exact hW1
          have hP9 : pgW w1 pg R := pgW_TM hP (mcF_fr (mcF_tr hF2 hF1))
          refine zx_ivN (b := mc) (As := [zR yn]) (st := []) dX4_beginCall_146 zc_X4_128 hmc1 rfl rfl rfl (Nat.le_of_ble_eq_true rfl) rfl (s_enter hP9 hK hW9 hG1 hG2 hF32 (j := fr.length) (by simp) hyn (by
              rw [mmf_nw]
              intro s hs
              obtain ⟨c1, c2⟩ := hcall m hm0 s hs
              refine ⟨?_, c2⟩
              have e7 : (mmNew V fr.length (mmArgs ((pgC R).2.1.1 e.1.2.1 m) V i e.1)) fr.length s = mmArgs ((pgC R).2.1.1 e.1.2.1 m) V i e.1 s := if_pos rfl
              rw [e7]
              exact c1) (by omega) (by omega)) (fun w5 hq => ?_)
          obtain ⟨hW5, hF5⟩ := hq
          refine zx_pc (pc1 := 149) rfl ?_
          refine zx_return dX4_beginCall_149 rfl ?_
          rw [mg_2 hns hk2 hm0 hd30]
          exact ⟨rfl, ⟨Fs2, hF32, hW5⟩, (mcF_tr hF2 (mcF_tr hF1 hF5))⟩
        · skip
          refine zx_iload (i := 5) dX4_beginCall_61 rfl ?_
          refine zx_aload_n (i := 2) dX4_beginCall_63 rfl rfl ?_
          refine zx_getfield dX4_beginCall_64 zf_X4_261 hgo1 rfl ?_
          refine zx_icmp_ge (tgt := 102) dX4_beginCall_67 (by decide) (fun h67 => ?_) (fun h67 => absurd (by omega) h67)
          refine zx_aload_n (i := 2) dX4_beginCall_102 rfl rfl ?_
          refine zx_getfield dX4_beginCall_103 zf_X4_284 hgo1 rfl ?_
          refine zx_iconst (v := 3) dX4_beginCall_106 rfl (z32_lit (by decide) (by decide)) ?_
          refine zx_icmp_ne (tgt := 143) dX4_beginCall_107 (by decide) (fun h107 => absurd h107 (by omega)) (fun h107 => ?_)
          refine zx_aload (i := 4) dX4_beginCall_110 rfl ?_
          refine zx_iconst (v := 1) dX4_beginCall_112 rfl (z32_lit (by decide) (by decide)) ?_
          obtain ⟨w_1, hw_2⟩ : ∃ ww, ww = zput w1 yn (2, 0, [zI (fr.length : Int), zR va_n, zR md_n, zP (oA Fs2 (mmf (fr ++ [((e.1.2.1, m), (some i, pl0, (mmf fr i).2.1.2.2 + 1), false, none, 0)]) fr.length).2.1.1), zI ((mmf (fr ++ [((e.1.2.1, m), (some i, pl0, (mmf fr i).2.1.2.2 + 1), false, none, 0)]) fr.length).2.1.2.1 : Int), zI ((mmf (fr ++ [((e.1.2.1, m), (some i, pl0, (mmf fr i).2.1.2.2 + 1), false, none, 0)]) fr.length).2.1.2.2 : Int), zP ((cls fr.length).bind (pgCl R)), zI 1, zP (oA Fs2 (mmf (fr ++ [((e.1.2.1, m), (some i, pl0, (mmf fr i).2.1.2.2 + 1), false, none, 0)]) fr.length).2.2.2.1), zI ((mmf (fr ++ [((e.1.2.1, m), (some i, pl0, (mmf fr i).2.1.2.2 + 1), false, none, 0)]) fr.length).2.2.2.2 : Int)]) := ⟨_, rfl⟩
          refine zx_put (w1 := w_1) dX4_beginCall_113 zf_X4_246 hfy_n (Nat.le_of_ble_eq_true rfl) (zFt_bool (by first | exact Or.inl rfl | exact Or.inr rfl | exact zB_or | assumption)) (fun h => by cases h) hw_2.symm ?_
          have q_3 : w_1.2.1 = w1.2.1 ∧ w_1.2.2 = w1.2.2 := by rw [hw_2]; exact ⟨rfl, rfl⟩
          have h_4 : w_1.1 yn = some (2, 0, [zI (fr.length : Int), zR va_n, zR md_n, zP (oA Fs2 (mmf (fr ++ [((e.1.2.1, m), (some i, pl0, (mmf fr i).2.1.2.2 + 1), false, none, 0)]) fr.length).2.1.1), zI ((mmf (fr ++ [((e.1.2.1, m), (some i, pl0, (mmf fr i).2.1.2.2 + 1), false, none, 0)]) fr.length).2.1.2.1 : Int), zI ((mmf (fr ++ [((e.1.2.1, m), (some i, pl0, (mmf fr i).2.1.2.2 + 1), false, none, 0)]) fr.length).2.1.2.2 : Int), zP ((cls fr.length).bind (pgCl R)), zI 1, zP (oA Fs2 (mmf (fr ++ [((e.1.2.1, m), (some i, pl0, (mmf fr i).2.1.2.2 + 1), false, none, 0)]) fr.length).2.2.2.1), zI ((mmf (fr ++ [((e.1.2.1, m), (some i, pl0, (mmf fr i).2.1.2.2 + 1), false, none, 0)]) fr.length).2.2.2.2 : Int)]) := by rw [hw_2]; exact zput_at
          refine zx_pc (pc1 := 116) rfl ?_
          refine zx_aload (i := 4) dX4_beginCall_116 rfl ?_
          refine zx_aload_n (i := 0) dX4_beginCall_118 rfl rfl ?_
          have h_5 : w_1.1 mc = some (4, 0, [zR t, zR fa, zR ca, zR ta, zR rp, zI ((fr ++ [((e.1.2.1, m), (some i, pl0, (mmf fr i).2.1.2.2 + 1), false, none, 0)]).length : Int), zP (oA Fs2 cur), zI (pl0 : Int), zP (oA Fs2 den), zI (if flb = true then 1 else 0), zI 0, zI 0]) := by
            rw [hw_2]; exact zput_tg hfy_n hmc1 (by simp)
          refine zx_getfield dX4_beginCall_119 zf_X4_113 h_5 rfl ?_
          obtain ⟨w_6, hw_7⟩ : ∃ ww, ww = zput w_1 yn (2, 0, [zI (fr.length : Int), zR va_n, zR md_n, zP (oA Fs2 (mmf (fr ++ [((e.1.2.1, m), (some i, pl0, (mmf fr i).2.1.2.2 + 1), false, none, 0)]) fr.length).2.1.1), zI ((mmf (fr ++ [((e.1.2.1, m), (some i, pl0, (mmf fr i).2.1.2.2 + 1), false, none, 0)]) fr.length).2.1.2.1 : Int), zI ((mmf (fr ++ [((e.1.2.1, m), (some i, pl0, (mmf fr i).2.1.2.2 + 1), false, none, 0)]) fr.length).2.1.2.2 : Int), zP ((cls fr.length).bind (pgCl R)), zI 1, zP (oA Fs2 den), zI ((mmf (fr ++ [((e.1.2.1, m), (some i, pl0, (mmf fr i).2.1.2.2 + 1), false, none, 0)]) fr.length).2.2.2.2 : Int)]) := ⟨_, rfl⟩
          refine zx_put (w1 := w_6) dX4_beginCall_122 zf_X4_217 h_4 (Nat.le_of_ble_eq_true rfl) (zFt_obj _ _) (fun h => by cases h) hw_7.symm ?_
          have q_8 : w_6.2.1 = w_1.2.1 ∧ w_6.2.2 = w_1.2.2 := by rw [hw_7]; exact ⟨rfl, rfl⟩
          have h_9 : w_6.1 yn = some (2, 0, [zI (fr.length : Int), zR va_n, zR md_n, zP (oA Fs2 (mmf (fr ++ [((e.1.2.1, m), (some i, pl0, (mmf fr i).2.1.2.2 + 1), false, none, 0)]) fr.length).2.1.1), zI ((mmf (fr ++ [((e.1.2.1, m), (some i, pl0, (mmf fr i).2.1.2.2 + 1), false, none, 0)]) fr.length).2.1.2.1 : Int), zI ((mmf (fr ++ [((e.1.2.1, m), (some i, pl0, (mmf fr i).2.1.2.2 + 1), false, none, 0)]) fr.length).2.1.2.2 : Int), zP ((cls fr.length).bind (pgCl R)), zI 1, zP (oA Fs2 den), zI ((mmf (fr ++ [((e.1.2.1, m), (some i, pl0, (mmf fr i).2.1.2.2 + 1), false, none, 0)]) fr.length).2.2.2.2 : Int)]) := by rw [hw_7]; exact zput_at
          refine zx_aload (i := 4) dX4_beginCall_125 rfl ?_
          refine zx_aload_n (i := 0) dX4_beginCall_127 rfl rfl ?_
          have h_10 : w_6.1 mc = some (4, 0, [zR t, zR fa, zR ca, zR ta, zR rp, zI ((fr ++ [((e.1.2.1, m), (some i, pl0, (mmf fr i).2.1.2.2 + 1), false, none, 0)]).length : Int), zP (oA Fs2 cur), zI (pl0 : Int), zP (oA Fs2 den), zI (if flb = true then 1 else 0), zI 0, zI 0]) := by
            rw [hw_7]; exact zput_tg h_4 h_5 (by simp)
          refine zx_getfield dX4_beginCall_128 zf_X4_31 h_10 rfl ?_
          have h_11 : w_1.1 ca = some (138, mc, tTb 3 cc1 (ch.reverse.map (fun e => [(e.1 : Int), (e.2.1 : Int), (e.2.2 : Int)]))) := by
            rw [hw_2]; exact zput_tg hfy_n hca1 (by simp)
          have h_12 : w_6.1 ca = some (138, mc, tTb 3 cc1 (ch.reverse.map (fun e => [(e.1 : Int), (e.2.1 : Int), (e.2.2 : Int)]))) := by
            rw [hw_7]; exact zput_tg h_4 h_11 (by simp)
          refine zx_iv (b := ca) (As := []) (st := [zR yn]) (v := (some (zI (ch.length : Int)))) (w1 := w_6) dX4_beginCall_131 zc_X4_186 h_12 (z_cls9 (by decide)) rfl rfl (Nat.le_of_ble_eq_true rfl) rfl (by have q := c_X9_count (G := G) (d := d + 6) h_12 (by decide) okC1; rw [hCl] at q; exact q) ?_
          refine zx_st (st1 := [zI (ch.length : Int), zR yn]) rfl ?_
          obtain ⟨w_13, hw_14⟩ : ∃ ww, ww = zput w_6 yn (2, 0, [zI (fr.length : Int), zR va_n, zR md_n, zP (oA Fs2 (mmf (fr ++ [((e.1.2.1, m), (some i, pl0, (mmf fr i).2.1.2.2 + 1), false, none, 0)]) fr.length).2.1.1), zI ((mmf (fr ++ [((e.1.2.1, m), (some i, pl0, (mmf fr i).2.1.2.2 + 1), false, none, 0)]) fr.length).2.1.2.1 : Int), zI ((mmf (fr ++ [((e.1.2.1, m), (some i, pl0, (mmf fr i).2.1.2.2 + 1), false, none, 0)]) fr.length).2.1.2.2 : Int), zP ((cls fr.length).bind (pgCl R)), zI 1, zP (oA Fs2 den), zI (ch.length : Int)]) := ⟨_, rfl⟩
          refine zx_put (w1 := w_13) dX4_beginCall_134 zf_X4_214 h_9 (Nat.le_of_ble_eq_true rfl) (zFt_int _) (fun h => by cases h) hw_14.symm ?_
          have q_15 : w_13.2.1 = w_6.2.1 ∧ w_13.2.2 = w_6.2.2 := by rw [hw_14]; exact ⟨rfl, rfl⟩
          have h_16 : w_13.1 yn = some (2, 0, [zI (fr.length : Int), zR va_n, zR md_n, zP (oA Fs2 (mmf (fr ++ [((e.1.2.1, m), (some i, pl0, (mmf fr i).2.1.2.2 + 1), false, none, 0)]) fr.length).2.1.1), zI ((mmf (fr ++ [((e.1.2.1, m), (some i, pl0, (mmf fr i).2.1.2.2 + 1), false, none, 0)]) fr.length).2.1.2.1 : Int), zI ((mmf (fr ++ [((e.1.2.1, m), (some i, pl0, (mmf fr i).2.1.2.2 + 1), false, none, 0)]) fr.length).2.1.2.2 : Int), zP ((cls fr.length).bind (pgCl R)), zI 1, zP (oA Fs2 den), zI (ch.length : Int)]) := by rw [hw_14]; exact zput_at
          refine zx_aload_n (i := 0) dX4_beginCall_137 rfl rfl ?_
          refine zx_aload (i := 4) dX4_beginCall_138 rfl ?_
          have h_17 : w_13.1 mc = some (4, 0, [zR t, zR fa, zR ca, zR ta, zR rp, zI ((fr ++ [((e.1.2.1, m), (some i, pl0, (mmf fr i).2.1.2.2 + 1), false, none, 0)]).length : Int), zP (oA Fs2 cur), zI (pl0 : Int), zP (oA Fs2 den), zI (if flb = true then 1 else 0), zI 0, zI 0]) := by
            rw [hw_14]; exact zput_tg h_9 h_10 (by simp)
          obtain ⟨w_18, hw_19⟩ : ∃ ww, ww = zput w_13 mc (4, 0, [zR t, zR fa, zR ca, zR ta, zR rp, zI ((fr ++ [((e.1.2.1, m), (some i, pl0, (mmf fr i).2.1.2.2 + 1), false, none, 0)]).length : Int), zP (oA Fs2 cur), zI (pl0 : Int), zR yn, zI (if flb = true then 1 else 0), zI 0, zI 0]) := ⟨_, rfl⟩
          refine zx_put (w1 := w_18) dX4_beginCall_140 zf_X4_113 h_17 (Nat.le_of_ble_eq_true rfl) (zFt_obj _ _) (fun h => by cases h) hw_19.symm ?_
          have q_20 : w_18.2.1 = w_13.2.1 ∧ w_18.2.2 = w_13.2.2 := by rw [hw_19]; exact ⟨rfl, rfl⟩
          have h_21 : w_18.1 mc = some (4, 0, [zR t, zR fa, zR ca, zR ta, zR rp, zI ((fr ++ [((e.1.2.1, m), (some i, pl0, (mmf fr i).2.1.2.2 + 1), false, none, 0)]).length : Int), zP (oA Fs2 cur), zI (pl0 : Int), zR yn, zI (if flb = true then 1 else 0), zI 0, zI 0]) := by rw [hw_19]; exact zput_at
          refine zx_pc (pc1 := 143) rfl ?_
          refine zx_aload_n (i := 0) dX4_beginCall_143 rfl rfl ?_
          refine zx_aload (i := 4) dX4_beginCall_144 rfl ?_
          have hfaL9 : zFa [yn, mc] w1 w_18 := (zFa_put (zFa_put (zFa_put (zFa_put zFa_re (by simp) hw_2) (by simp) hw_7) (by simp) hw_14) (by simp) hw_19)
          have h_22 : w_18.1 yn = some (2, 0, [zI (fr.length : Int), zR va_n, zR md_n, zP (oA Fs2 (mmf (fr ++ [((e.1.2.1, m), (some i, pl0, (mmf fr i).2.1.2.2 + 1), false, none, 0)]) fr.length).2.1.1), zI ((mmf (fr ++ [((e.1.2.1, m), (some i, pl0, (mmf fr i).2.1.2.2 + 1), false, none, 0)]) fr.length).2.1.2.1 : Int), zI ((mmf (fr ++ [((e.1.2.1, m), (some i, pl0, (mmf fr i).2.1.2.2 + 1), false, none, 0)]) fr.length).2.1.2.2 : Int), zP ((cls fr.length).bind (pgCl R)), zI 1, zP (oA Fs2 den), zI (ch.length : Int)]) := by
            rw [hw_19]; exact zput_tg h_17 h_16 (by simp)
          have h_23 : w_1.1 va_n = some (104, yn, xs_n.map Sum.inl) := by
            rw [hw_2]; exact zput_tg hfy_n hva_n (by simp)
          have h_24 : w_6.1 va_n = some (104, yn, xs_n.map Sum.inl) := by
            rw [hw_7]; exact zput_tg h_4 h_23 (by simp)
          have h_25 : w_13.1 va_n = some (104, yn, xs_n.map Sum.inl) := by
            rw [hw_14]; exact zput_tg h_9 h_24 (by simp)
          have h_26 : w_18.1 va_n = some (104, yn, xs_n.map Sum.inl) := by
            rw [hw_19]; exact zput_tg h_17 h_25 (by simp)
          have hfry9 : fmW w_18 yn (fr.length : Int) ((va_n, md_n), ((oA Fs2 (mmf (fr ++ [((e.1.2.1, m), (some i, pl0, (mmf fr i).2.1.2.2 + 1), false, none, 0)]) fr.length).2.1.1), ((mmf (fr ++ [((e.1.2.1, m), (some i, pl0, (mmf fr i).2.1.2.2 + 1), false, none, 0)]) fr.length).2.1.2.1 : Int), ((mmf (fr ++ [((e.1.2.1, m), (some i, pl0, (mmf fr i).2.1.2.2 + 1), false, none, 0)]) fr.length).2.1.2.2 : Int)), (((cls fr.length).bind (pgCl R)), 1, (oA Fs2 den), (ch.length : Int)), xs_n) := ⟨h_22, h_26, by first | exact List.length_replicate | assumption | (unfold zVs; split <;> simp [hx]) | simp [hx]⟩
          have hFrr9 := fm_keep1 hFr1 hyn hfaL9 (zLc hfy_n (by simp) (zLc hmc1 (by simp) zLn)) hfry9
          have hmcF9 : mcF rp w1 w_18 := mcF_fa hfaL9 (zLc hfy_n (by simp [mcP]) (zLc hmc1 (by simp [mcP]) zLn))
          have h_27 : w_1.1 fa = some (166, mc, zLs cap1 Fs2) := by
            rw [hw_2]; exact zput_tg hfy_n hfa1 (by simp)
          have h_28 : w_6.1 fa = some (166, mc, zLs cap1 Fs2) := by
            rw [hw_7]; exact zput_tg h_4 h_27 (by simp)
          have h_29 : w_13.1 fa = some (166, mc, zLs cap1 Fs2) := by
            rw [hw_14]; exact zput_tg h_9 h_28 (by simp)
          have h_30 : w_18.1 fa = some (166, mc, zLs cap1 Fs2) := by
            rw [hw_19]; exact zput_tg h_17 h_29 (by simp)
          have h_31 : w_13.1 ca = some (138, mc, tTb 3 cc1 (ch.reverse.map (fun e => [(e.1 : Int), (e.2.1 : Int), (e.2.2 : Int)]))) := by
            rw [hw_14]; exact zput_tg h_9 h_12 (by simp)
          have h_32 : w_18.1 ca = some (138, mc, tTb 3 cc1 (ch.reverse.map (fun e => [(e.1 : Int), (e.2.1 : Int), (e.2.2 : Int)]))) := by
            rw [hw_19]; exact zput_tg h_17 h_31 (by simp)
          have h_33 : w_1.1 ta = some (139, mc, tTb 2 ct1 (T.reverse.map (fun e => [(e.1 : Int), (e.2 : Int)]))) := by
            rw [hw_2]; exact zput_tg hfy_n hta1 (by simp)
          have h_34 : w_6.1 ta = some (139, mc, tTb 2 ct1 (T.reverse.map (fun e => [(e.1 : Int), (e.2 : Int)]))) := by
            rw [hw_7]; exact zput_tg h_4 h_33 (by simp)
          have h_35 : w_13.1 ta = some (139, mc, tTb 2 ct1 (T.reverse.map (fun e => [(e.1 : Int), (e.2 : Int)]))) := by
            rw [hw_14]; exact zput_tg h_9 h_34 (by simp)
          have h_36 : w_18.1 ta = some (139, mc, tTb 2 ct1 (T.reverse.map (fun e => [(e.1 : Int), (e.2 : Int)]))) := by
            rw [hw_19]; exact zput_tg h_17 h_35 (by simp)
          have h_37 : w_1.1 t = some (10, 0, [zI ty, zR tc, zR tn, zR th, zR tz]) := by
            rw [hw_2]; exact zput_tg hfy_n ht01 (by simp)
          have h_38 : w_6.1 t = some (10, 0, [zI ty, zR tc, zR tn, zR th, zR tz]) := by
            rw [hw_7]; exact zput_tg h_4 h_37 (by simp)
          have h_39 : w_13.1 t = some (10, 0, [zI ty, zR tc, zR tn, zR th, zR tz]) := by
            rw [hw_14]; exact zput_tg h_9 h_38 (by simp)
          have h_40 : w_18.1 t = some (10, 0, [zI ty, zR tc, zR tn, zR th, zR tz]) := by
            rw [hw_19]; exact zput_tg h_17 h_39 (by simp)
          have h_41 : w_1.1 tc = some (130, t, tTb 3 30 C) := by
            rw [hw_2]; exact zput_tg hfy_n htc1 (by simp)
          have h_42 : w_6.1 tc = some (130, t, tTb 3 30 C) := by
            rw [hw_7]; exact zput_tg h_4 h_41 (by simp)
          have h_43 : w_13.1 tc = some (130, t, tTb 3 30 C) := by
            rw [hw_14]; exact zput_tg h_9 h_42 (by simp)
          have h_44 : w_18.1 tc = some (130, t, tTb 3 30 C) := by
            rw [hw_19]; exact zput_tg h_17 h_43 (by simp)
          have h_45 : w_1.1 tn = some (131, t, tTb 4 800 N1) := by
            rw [hw_2]; exact zput_tg hfy_n htn1 (by simp)
          have h_46 : w_6.1 tn = some (131, t, tTb 4 800 N1) := by
            rw [hw_7]; exact zput_tg h_4 h_45 (by simp)
          have h_47 : w_13.1 tn = some (131, t, tTb 4 800 N1) := by
            rw [hw_14]; exact zput_tg h_9 h_46 (by simp)
          have h_48 : w_18.1 tn = some (131, t, tTb 4 800 N1) := by
            rw [hw_19]; exact zput_tg h_17 h_47 (by simp)
          have h_49 : w_1.1 th = some (132, t, tTb 1 64 H1) := by
            rw [hw_2]; exact zput_tg hfy_n hth1 (by simp)
          have h_50 : w_6.1 th = some (132, t, tTb 1 64 H1) := by
            rw [hw_7]; exact zput_tg h_4 h_49 (by simp)
          have h_51 : w_13.1 th = some (132, t, tTb 1 64 H1) := by
            rw [hw_14]; exact zput_tg h_9 h_50 (by simp)
          have h_52 : w_18.1 th = some (132, t, tTb 1 64 H1) := by
            rw [hw_19]; exact zput_tg h_17 h_51 (by simp)
          have h_53 : w_1.1 tz = some (120, t, Sz1.map zJ) := by
            rw [hw_2]; exact zput_tg hfy_n htz1 (by simp)
          have h_54 : w_6.1 tz = some (120, t, Sz1.map zJ) := by
            rw [hw_7]; exact zput_tg h_4 h_53 (by simp)
          have h_55 : w_13.1 tz = some (120, t, Sz1.map zJ) := by
            rw [hw_14]; exact zput_tg h_9 h_54 (by simp)
          have h_56 : w_18.1 tz = some (120, t, Sz1.map zJ) := by
            rw [hw_19]; exact zput_tg h_17 h_55 (by simp)
          have h_57 : w_1.1 rp = some (8, 0, [zP mo, zR ri, zR ra, zR rn, zI (((ns + 1) : Nat) : Int), zI (nc0 : Int), zI (dp0 : Int), zI 101, zI bk, zI bc]) := by
            rw [hw_2]; exact zput_tg hfy_n hrp1 (by simp)
          have h_58 : w_6.1 rp = some (8, 0, [zP mo, zR ri, zR ra, zR rn, zI (((ns + 1) : Nat) : Int), zI (nc0 : Int), zI (dp0 : Int), zI 101, zI bk, zI bc]) := by
            rw [hw_7]; exact zput_tg h_4 h_57 (by simp)
          have h_59 : w_13.1 rp = some (8, 0, [zP mo, zR ri, zR ra, zR rn, zI (((ns + 1) : Nat) : Int), zI (nc0 : Int), zI (dp0 : Int), zI 101, zI bk, zI bc]) := by
            rw [hw_14]; exact zput_tg h_9 h_58 (by simp)
          have h_60 : w_18.1 rp = some (8, 0, [zP mo, zR ri, zR ra, zR rn, zI (((ns + 1) : Nat) : Int), zI (nc0 : Int), zI (dp0 : Int), zI 101, zI bk, zI bc]) := by
            rw [hw_19]; exact zput_tg h_17 h_59 (by simp)
          have h_61 : w_1.1 ri = some (135, rp, tTb 1 3 I) := by
            rw [hw_2]; exact zput_tg hfy_n hri1 (by simp)
          have h_62 : w_6.1 ri = some (135, rp, tTb 1 3 I) := by
            rw [hw_7]; exact zput_tg h_4 h_61 (by simp)
          have h_63 : w_13.1 ri = some (135, rp, tTb 1 3 I) := by
            rw [hw_14]; exact zput_tg h_9 h_62 (by simp)
          have h_64 : w_18.1 ri = some (135, rp, tTb 1 3 I) := by
            rw [hw_19]; exact zput_tg h_17 h_63 (by simp)
          have h_65 : w_1.1 ra = some (136, rp, tTb 3 150 A1) := by
            rw [hw_2]; exact zput_tg hfy_n hra1 (by simp)
          have h_66 : w_6.1 ra = some (136, rp, tTb 3 150 A1) := by
            rw [hw_7]; exact zput_tg h_4 h_65 (by simp)
          have h_67 : w_13.1 ra = some (136, rp, tTb 3 150 A1) := by
            rw [hw_14]; exact zput_tg h_9 h_66 (by simp)
          have h_68 : w_18.1 ra = some (136, rp, tTb 3 150 A1) := by
            rw [hw_19]; exact zput_tg h_17 h_67 (by simp)
          have h_69 : w_1.1 rn = some (137, rp, tTb 2 160 (nt.map (fun e => [(e.1 : Int), (e.2 : Int)]))) := by
            rw [hw_2]; exact zput_tg hfy_n hrn1 (by simp)
          have h_70 : w_6.1 rn = some (137, rp, tTb 2 160 (nt.map (fun e => [(e.1 : Int), (e.2 : Int)]))) := by
            rw [hw_7]; exact zput_tg h_4 h_69 (by simp)
          have h_71 : w_13.1 rn = some (137, rp, tTb 2 160 (nt.map (fun e => [(e.1 : Int), (e.2 : Int)]))) := by
            rw [hw_14]; exact zput_tg h_9 h_70 (by simp)
          have h_72 : w_18.1 rn = some (137, rp, tTb 2 160 (nt.map (fun e => [(e.1 : Int), (e.2 : Int)]))) := by
            rw [hw_19]; exact zput_tg h_17 h_71 (by simp)
          have hM9 : mcW w_18 b1 b2 ((mc, fa, ca, ta), (t, tc, tn, th, tz), (rp, ri, ra, rn), (ty, C), (mo, I, bk, bc)) (((cap1, Fs2), (fmUp fm1 yn ((va_n, md_n), ((oA Fs2 (mmf (fr ++ [((e.1.2.1, m), (some i, pl0, (mmf fr i).2.1.2.2 + 1), false, none, 0)]) fr.length).2.1.1), ((mmf (fr ++ [((e.1.2.1, m), (some i, pl0, (mmf fr i).2.1.2.2 + 1), false, none, 0)]) fr.length).2.1.2.1 : Int), ((mmf (fr ++ [((e.1.2.1, m), (some i, pl0, (mmf fr i).2.1.2.2 + 1), false, none, 0)]) fr.length).2.1.2.2 : Int)), (((cls fr.length).bind (pgCl R)), 1, (oA Fs2 den), (ch.length : Int)), xs_n))), (cc1, (ch.reverse.map (fun e => [(e.1 : Int), (e.2.1 : Int), (e.2.2 : Int)]))), (ct1, (T.reverse.map (fun e => [(e.1 : Int), (e.2 : Int)]))), (((fr ++ [((e.1.2.1, m), (some i, pl0, (mmf fr i).2.1.2.2 + 1), false, none, 0)]).length : Int), (oA Fs2 cur), (pl0 : Int), (some yn)), ((if flb = true then 1 else 0), 0, 0), (N1, H1, Sz1), (A1, (nt.map (fun e => [(e.1 : Int), (e.2 : Int)])), (((ns + 1) : Nat) : Int), (nc0 : Int), (dp0 : Int), 101)) := ⟨h_21, h_30, ⟨h_32, okC1⟩, ⟨h_36, okT1⟩, hFrr9, ⟨h_40, ⟨h_44, okTC1⟩, ⟨h_48, okN1⟩, ⟨h_52, okH1⟩, h_56, hSz1⟩, ⟨h_60, ⟨h_64, okI1⟩, ⟨h_68, okA1⟩, ⟨h_72, okNt1⟩⟩, hcap1, ⟨by omega, by omega, by omega, by omega⟩, by omega, by omega⟩
          have hFS9 : fsR R Fs2 tm (fmUp fm1 yn ((va_n, md_n), ((oA Fs2 (mmf (fr ++ [((e.1.2.1, m), (some i, pl0, (mmf fr i).2.1.2.2 + 1), false, none, 0)]) fr.length).2.1.1), ((mmf (fr ++ [((e.1.2.1, m), (some i, pl0, (mmf fr i).2.1.2.2 + 1), false, none, 0)]) fr.length).2.1.2.1 : Int), ((mmf (fr ++ [((e.1.2.1, m), (some i, pl0, (mmf fr i).2.1.2.2 + 1), false, none, 0)]) fr.length).2.1.2.2 : Int)), (((cls fr.length).bind (pgCl R)), 1, (oA Fs2 den), (ch.length : Int)), xs_n)) (fr ++ [((e.1.2.1, m), (some i, pl0, (mmf fr i).2.1.2.2 + 1), true, den, ch.length)]) cls (mmNew V fr.length (fun q => if q < k ∧ (pgC R).2.1.1 e.1.2.1 m q = true then V i (smv e.1 q) else none)) := fsR_last hFS1 hJ1 hyn efm_n (fun q => by
            obtain ⟨q1, ⟨q2, q3⟩, ⟨q4, q5, q6⟩, q7, q8⟩ := q
            rw [mmf_nw]
            exact ⟨q1, ⟨rfl, q3⟩, ⟨rfl, (fun z hz => hdeL z hz), q6⟩, q7, q8⟩)
          rw [← oA_some hyn] at hM9
          have e8 : (fr ++ [((e.1.2.1, m), (some i, pl0, (mmf fr i).2.1.2.2 + 1), false, none, 0)]).length = (fr ++ [((e.1.2.1, m), (some i, pl0, (mmf fr i).2.1.2.2 + 1), true, den, ch.length)]).length := by simp
          rw [e8] at hM9
          have hW9 : msW w_18 b1 b2 ((mc, fa, ca, ta), (t, tc, tn, th, tz), (rp, ri, ra, rn), (ty, C), (mo, I, bk, bc)) R Fs2 (0, 0, 101) (((fr ++ [((e.1.2.1, m), (some i, pl0, (mmf fr i).2.1.2.2 + 1), true, den, ch.length)]), cls, (mmNew V fr.length (mmArgs ((pgC R).2.1.1 e.1.2.1 m) V i e.1)), ch, T), (cur, pl0, (some fr.length), flb), tm, (na, (ns + 1), nc0, dp0), nt) := by
            rw [← hVA]
            exact ⟨cap1, (fmUp fm1 yn ((va_n, md_n), ((oA Fs2 (mmf (fr ++ [((e.1.2.1, m), (some i, pl0, (mmf fr i).2.1.2.2 + 1), false, none, 0)]) fr.length).2.1.1), ((mmf (fr ++ [((e.1.2.1, m), (some i, pl0, (mmf fr i).2.1.2.2 + 1), false, none, 0)]) fr.length).2.1.2.1 : Int), ((mmf (fr ++ [((e.1.2.1, m), (some i, pl0, (mmf fr i).2.1.2.2 + 1), false, none, 0)]) fr.length).2.1.2.2 : Int)), (((cls fr.length).bind (pgCl R)), 1, (oA Fs2 den), (ch.length : Int)), xs_n)), cc1, (ch.reverse.map (fun e => [(e.1 : Int), (e.2.1 : Int), (e.2.2 : Int)])), ct1, (T.reverse.map (fun e => [(e.1 : Int), (e.2 : Int)])), _, (oA Fs2 cur), (pl0 : Int), _, (if flb = true then 1 else 0), N1, H1, Sz1, A1, (nt.map (fun e => [(e.1 : Int), (e.2 : Int)])), (((ns + 1) : Nat) : Int), (nc0 : Int), (dp0 : Int), hM9, ⟨⟨rfl, (by rw [← e8]; exact hfl1), hJ1, (fun q hq => hcn1 q (by rw [e8]; exact hq)), hFS9⟩, ⟨rfl, (fun q hq => by rw [← e8]; exact hcuL1 q hq), (by first | rfl | omega), rfl, (fun q hq => by cases hq; simp), rfl⟩, ⟨rfl, (fun q hq => by rw [← e8]; exact hchL1 q hq)⟩, ⟨rfl, (fun q hq => by rw [← e8]; exact hTL1 q hq)⟩, htm1, ⟨hA1, (by first | rfl | omega), (by first | rfl | omega), (by first | rfl | omega), rfl⟩⟩⟩
          have hP9 : pgW w_18 pg R := pgW_TM hP (mcF_fr (mcF_tr hF2 (mcF_tr hF1 hmcF9)))
          refine zx_ivN (b := mc) (As := [zR yn]) (st := []) dX4_beginCall_146 zc_X4_128 h_21 rfl rfl rfl (Nat.le_of_ble_eq_true rfl) rfl (s_enter hP9 hK hW9 hG1 hG2 hF32 (j := fr.length) (by simp) hyn (by
              rw [mmf_nw]
              intro s hs
              obtain ⟨c1, c2⟩ := hcall m hm0 s hs
              refine ⟨?_, c2⟩
              have e7 : (mmNew V fr.length (mmArgs ((pgC R).2.1.1 e.1.2.1 m) V i e.1)) fr.length s = mmArgs ((pgC R).2.1.1 e.1.2.1 m) V i e.1 s := if_pos rfl
              rw [e7]
              exact c1) (by omega) (by omega)) (fun w5 hq => ?_)
          obtain ⟨hW5, hF5⟩ := hq
          refine zx_return dX4_beginCall_149 rfl ?_
          rw [mg_3 hns hk3 hm0 hd30]
          exact ⟨rfl, ⟨Fs2, hF32, hW5⟩, (mcF_tr hF2 (mcF_tr hF1 (mcF_tr hmcF9 hF5)))⟩
      | succ n ih =>
        intro k w1 hk hW1 hF1
        have hgo1 := hF1 _ _ (hF2 _ _ hgo (Or.inl (by simp))) (Or.inl (by simp))
        have hgv1 := hF1 _ _ (hF2 _ _ hgv (Or.inl (by simp))) (Or.inl (by simp))
        have hP1 : pgW w1 pg R := pgW_TM hP (mcF_fr (mcF_tr hF2 hF1))
        have hW1o := hW1
        obtain ⟨cap1, fm1, cc1, CH1, ct1, TR1, us1, cu1, pl1, de1, fl1, N1, H1, Sz1, A1, Nt1, sc1, nc1, dp1, hM1, hS1⟩ := id hW1
        obtain ⟨⟨hus1, hfl1, hJ1, hcn1, hFS1⟩, ⟨hcu1, hcuL1, hpl1, hde1, hdeL1, hfb1⟩, ⟨hCH1, hchL1⟩, ⟨hTR1, hTL1⟩, htm1, ⟨hA1, hsc1, hnc1, hdp1, hNt1⟩⟩ := id hS1
        subst hus1 hcu1 hpl1 hde1 hfb1 hCH1 hTR1 hsc1 hnc1 hdp1 hNt1
        obtain ⟨hmc1, hfa1, ⟨hca1, okC1⟩, ⟨hta1, okT1⟩, hFr1, ⟨ht01, ⟨htc1, okTC1⟩, ⟨htn1, okN1⟩, ⟨hth1, okH1⟩, htz1, hSz1⟩, ⟨hrp1, ⟨hri1, okI1⟩, ⟨hra1, okA1⟩, ⟨hrn1, okNt1⟩⟩, hcap1, hcct1, hrm11, hrm21⟩ := id hM1
        have hi2 := hpre i yi hi
        have hif2 : i < (fr ++ [((e.1.2.1, m), (some i, pl0, (mmf fr i).2.1.2.2 + 1), false, none, 0)]).length := by rw [List.length_append]; omega
        have hnl : fr.length < (fr ++ [((e.1.2.1, m), (some i, pl0, (mmf fr i).2.1.2.2 + 1), false, none, 0)]).length := by simp
        obtain ⟨⟨⟨va_i, md_i⟩, ⟨fca_i, fbt_i, fdp_i⟩, ⟨fcl_i, fdn_i, fod_i, fcb_i⟩, xs_i⟩, efm_i⟩ : ∃ r, fm1 yi = r := ⟨_, rfl⟩
        obtain ⟨hfy_i, hva_i, hx_i⟩ := hFr1 i yi hi2
        rw [efm_i] at hfy_i hva_i hx_i
        have hx_i : xs_i.length = 8 := hx_i
        obtain ⟨hmd_i, ⟨hcb1_i, hcb2_i⟩, ⟨hcb3_i, hcb4_i, hcb5_i⟩, ⟨-, hxv_i⟩, hdq_i⟩ := hFS1 i yi hif2 hi2
        rw [efm_i] at hmd_i hcb1_i hcb3_i hxv_i
        simp only [Prod.mk.injEq] at hcb1_i hcb3_i
        obtain ⟨ea1_i, ea2_i, ea3_i⟩ := hcb1_i
        obtain ⟨eb1_i, eb2_i, eb3_i, eb4_i⟩ := hcb3_i
        subst ea1_i ea2_i ea3_i eb1_i eb2_i eb3_i eb4_i
        have hfy_i : w1.1 yi = some (2, 0, [zI (i : Int), zR va_i, zR md_i, zP (oA Fs2 (mmf (fr ++ [((e.1.2.1, m), (some i, pl0, (mmf fr i).2.1.2.2 + 1), false, none, 0)]) i).2.1.1), zI ((mmf (fr ++ [((e.1.2.1, m), (some i, pl0, (mmf fr i).2.1.2.2 + 1), false, none, 0)]) i).2.1.2.1 : Int), zI ((mmf (fr ++ [((e.1.2.1, m), (some i, pl0, (mmf fr i).2.1.2.2 + 1), false, none, 0)]) i).2.1.2.2 : Int), zP ((cls i).bind (pgCl R)), zI (if (mmf (fr ++ [((e.1.2.1, m), (some i, pl0, (mmf fr i).2.1.2.2 + 1), false, none, 0)]) i).2.2.1 = true then 1 else 0), zP (oA Fs2 (mmf (fr ++ [((e.1.2.1, m), (some i, pl0, (mmf fr i).2.1.2.2 + 1), false, none, 0)]) i).2.2.2.1), zI ((mmf (fr ++ [((e.1.2.1, m), (some i, pl0, (mmf fr i).2.1.2.2 + 1), false, none, 0)]) i).2.2.2.2 : Int)]) := hfy_i
        obtain ⟨⟨⟨va_n, md_n⟩, ⟨fca_n, fbt_n, fdp_n⟩, ⟨fcl_n, fdn_n, fod_n, fcb_n⟩, xs_n⟩, efm_n⟩ : ∃ r, fm1 yn = r := ⟨_, rfl⟩
        obtain ⟨hfy_n, hva_n, hx_n⟩ := hFr1 fr.length yn hyn
        rw [efm_n] at hfy_n hva_n hx_n
        have hx_n : xs_n.length = 8 := hx_n
        obtain ⟨hmd_n, ⟨hcb1_n, hcb2_n⟩, ⟨hcb3_n, hcb4_n, hcb5_n⟩, ⟨-, hxv_n⟩, hdq_n⟩ := hFS1 fr.length yn hnl hyn
        rw [efm_n] at hmd_n hcb1_n hcb3_n hxv_n
        simp only [Prod.mk.injEq] at hcb1_n hcb3_n
        obtain ⟨ea1_n, ea2_n, ea3_n⟩ := hcb1_n
        obtain ⟨eb1_n, eb2_n, eb3_n, eb4_n⟩ := hcb3_n
        subst ea1_n ea2_n ea3_n eb1_n eb2_n eb3_n eb4_n
        have hfy_n : w1.1 yn = some (2, 0, [zI (fr.length : Int), zR va_n, zR md_n, zP (oA Fs2 (mmf (fr ++ [((e.1.2.1, m), (some i, pl0, (mmf fr i).2.1.2.2 + 1), false, none, 0)]) fr.length).2.1.1), zI ((mmf (fr ++ [((e.1.2.1, m), (some i, pl0, (mmf fr i).2.1.2.2 + 1), false, none, 0)]) fr.length).2.1.2.1 : Int), zI ((mmf (fr ++ [((e.1.2.1, m), (some i, pl0, (mmf fr i).2.1.2.2 + 1), false, none, 0)]) fr.length).2.1.2.2 : Int), zP ((cls fr.length).bind (pgCl R)), zI (if (mmf (fr ++ [((e.1.2.1, m), (some i, pl0, (mmf fr i).2.1.2.2 + 1), false, none, 0)]) fr.length).2.2.1 = true then 1 else 0), zP (oA Fs2 (mmf (fr ++ [((e.1.2.1, m), (some i, pl0, (mmf fr i).2.1.2.2 + 1), false, none, 0)]) fr.length).2.2.2.1), zI ((mmf (fr ++ [((e.1.2.1, m), (some i, pl0, (mmf fr i).2.1.2.2 + 1), false, none, 0)]) fr.length).2.2.2.2 : Int)]) := hfy_n
        obtain ⟨pr_x, ins_x, pm_x, lo_x, gd_x, cf_x, cr_x, sw_x, emr_x, hmo_x, hpp_x, hpn_x, hpm_x, hm2_x, hin_x, hsw_x, hsr_x, hmm_x⟩ := md_get hK hP1 hmx
        have hvk := go_v hg3 (k := k) (by omega)
        rw [← hg4] at hvk
        have hk8 : k < 8 := by omega
        have hne : yi ≠ yn := fun q => by
          have := hJ1 i fr.length yi hi2 (by rw [q]; exact hyn)
          omega
        by_cases hz : 0 ≤ (k : Int) ∧ (k : Int) < 3 ∧ zand (zshr ins_x (k : Int)) 1 = 1
        · have hc : (pgC R).2.1.1 e.1.2.1 m k = true := by rw [hin_x k]; simp only [decide_eq_true_eq]; exact ⟨by omega, hz.2.2⟩
          refine zx_iload (i := 5) dX4_beginCall_61 rfl ?_
          refine zx_aload_n (i := 2) dX4_beginCall_63 rfl rfl ?_
          refine zx_getfield dX4_beginCall_64 zf_X4_261 hgo1 rfl ?_
          refine zx_icmp_ge (tgt := 102) dX4_beginCall_67 (by decide) (fun h67 => absurd h67 (by omega)) (fun h67 => ?_)
          refine zx_aload_n (i := 3) dX4_beginCall_70 rfl rfl ?_
          refine zx_iload (i := 5) dX4_beginCall_71 rfl ?_
          refine zx_iv (b := x) (As := [zI (k : Int)]) (st := []) (v := (some (zI (zB (0 ≤ ((k : Int) : Int) ∧ ((k : Int) : Int) < 3 ∧ zand (zshr ins_x ((k : Int) : Int)) 1 = 1))))) (w1 := w1) dX4_beginCall_73 zc_X4_263 hmo_x rfl rfl rfl (Nat.le_of_ble_eq_true rfl) rfl (c_X5_isInput hmo_x (k : Int)) ?_
          refine zx_st (st1 := [zI (zB (0 ≤ ((k : Int) : Int) ∧ ((k : Int) : Int) < 3 ∧ zand (zshr ins_x ((k : Int) : Int)) 1 = 1))]) rfl ?_
          refine zx_if_eq (tgt := 96) dX4_beginCall_76 (by decide) (fun h76 => absurd h76 (by rw [zB_t hz]; decide)) (fun h76 => ?_)
          refine zx_aload (i := 4) dX4_beginCall_79 rfl ?_
          refine zx_iload (i := 5) dX4_beginCall_81 rfl ?_
          refine zx_aload_n (i := 1) dX4_beginCall_83 rfl rfl ?_
          refine zx_pc (pc1 := 84) rfl ?_
          refine zx_aload_n (i := 2) dX4_beginCall_84 rfl rfl ?_
          refine zx_iload (i := 5) dX4_beginCall_85 rfl ?_
          refine zx_iv (b := g) (As := [zI (k : Int)]) (st := [zR yi, zI (k : Int), zR yn]) (v := (some (zI ((smv e.1 k : Nat) : Int)))) (w1 := w1) dX4_beginCall_87 zc_X4_267 hgo1 rfl rfl rfl (Nat.le_of_ble_eq_true rfl) rfl (by have q := c_X3_variableAt (G := G) (d := d + 6) hgo1 hgv1 hgx (k : Int); rw [hvk.1] at q; exact q) ?_
          refine zx_st (st1 := [zI ((smv e.1 k : Nat) : Int), zR yi, zI (k : Int), zR yn]) rfl ?_
          refine zx_iv (b := yi) (As := [zI ((smv e.1 k : Nat) : Int)]) (st := [zI (k : Int), zR yn]) (v := (some (zI (zVl xs_i ((smv e.1 k : Nat) : Int))))) (w1 := w1) dX4_beginCall_90 zc_X4_203 hfy_i rfl rfl rfl (Nat.le_of_ble_eq_true rfl) rfl (c_X2_valueOf hfy_i hva_i (by omega) ((smv e.1 k : Nat) : Int)) ?_
          refine zx_st (st1 := [zI (zVl xs_i ((smv e.1 k : Nat) : Int)), zI (k : Int), zR yn]) rfl ?_
          obtain ⟨w_1, hw_2⟩ : ∃ ww, ww = zput w1 va_n (104, yn, (zVs xs_n (k : Int) (zVl xs_i ((smv e.1 k : Nat) : Int))).map Sum.inl) := ⟨_, rfl⟩
          have q_3 : w_1.2.1 = w1.2.1 ∧ w_1.2.2 = w1.2.2 := by rw [hw_2]; exact ⟨rfl, rfl⟩
          have h_4 : w_1.1 va_n = some (104, yn, (zVs xs_n (k : Int) (zVl xs_i ((smv e.1 k : Nat) : Int))).map Sum.inl) := by rw [hw_2]; exact zput_at
          refine zx_iv (b := yn) (As := [zI (k : Int), zI (zVl xs_i ((smv e.1 k : Nat) : Int))]) (st := []) (v := none) (w1 := w_1) dX4_beginCall_93 zc_X4_125 hfy_n rfl rfl rfl (Nat.le_of_ble_eq_true rfl) rfl (by rw [hw_2]; exact (c_X2_setValue hfy_n hva_n (by omega) (k : Int) (zVl xs_i ((smv e.1 k : Nat) : Int)))) ?_
          refine zx_st (st1 := []) rfl ?_
          refine zx_iinc (i := 5) (v := ((k + 1 : Nat) : Int)) dX4_beginCall_96 rfl (zw_eq (by omega) (by omega) (by omega)) (by decide) rfl ?_
          refine zx_L (L1 := [some (zR mc), some (zR yi), some (zR g), some (zR x), some (zR yn), some (zI ((k + 1 : Nat) : Int))]) rfl ?_
          refine zx_goto (tgt := 61) dX4_beginCall_99 (by decide) ?_
          have hxq : (zVs xs_n (k : Int) (zVl xs_i ((smv e.1 k : Nat) : Int))).length = 8 := by rw [zVs_len]; exact hx_n
          have hfaL9 : zFa [va_n] w1 w_1 := (zFa_put zFa_re (by simp) hw_2)
          have h_5 : w_1.1 yn = some (2, 0, [zI (fr.length : Int), zR va_n, zR md_n, zP (oA Fs2 (mmf (fr ++ [((e.1.2.1, m), (some i, pl0, (mmf fr i).2.1.2.2 + 1), false, none, 0)]) fr.length).2.1.1), zI ((mmf (fr ++ [((e.1.2.1, m), (some i, pl0, (mmf fr i).2.1.2.2 + 1), false, none, 0)]) fr.length).2.1.2.1 : Int), zI ((mmf (fr ++ [((e.1.2.1, m), (some i, pl0, (mmf fr i).2.1.2.2 + 1), false, none, 0)]) fr.length).2.1.2.2 : Int), zP ((cls fr.length).bind (pgCl R)), zI (if (mmf (fr ++ [((e.1.2.1, m), (some i, pl0, (mmf fr i).2.1.2.2 + 1), false, none, 0)]) fr.length).2.2.1 = true then 1 else 0), zP (oA Fs2 (mmf (fr ++ [((e.1.2.1, m), (some i, pl0, (mmf fr i).2.1.2.2 + 1), false, none, 0)]) fr.length).2.2.2.1), zI ((mmf (fr ++ [((e.1.2.1, m), (some i, pl0, (mmf fr i).2.1.2.2 + 1), false, none, 0)]) fr.length).2.2.2.2 : Int)]) := by
            rw [hw_2]; exact zput_tg hva_n hfy_n (by simp)
          have hfry9 : fmW w_1 yn (fr.length : Int) ((va_n, md_n), ((oA Fs2 (mmf (fr ++ [((e.1.2.1, m), (some i, pl0, (mmf fr i).2.1.2.2 + 1), false, none, 0)]) fr.length).2.1.1), ((mmf (fr ++ [((e.1.2.1, m), (some i, pl0, (mmf fr i).2.1.2.2 + 1), false, none, 0)]) fr.length).2.1.2.1 : Int), ((mmf (fr ++ [((e.1.2.1, m), (some i, pl0, (mmf fr i).2.1.2.2 + 1), false, none, 0)]) fr.length).2.1.2.2 : Int)), (((cls fr.length).bind (pgCl R)), (if (mmf (fr ++ [((e.1.2.1, m), (some i, pl0, (mmf fr i).2.1.2.2 + 1), false, none, 0)]) fr.length).2.2.1 = true then 1 else 0), (oA Fs2 (mmf (fr ++ [((e.1.2.1, m), (some i, pl0, (mmf fr i).2.1.2.2 + 1), false, none, 0)]) fr.length).2.2.2.1), ((mmf (fr ++ [((e.1.2.1, m), (some i, pl0, (mmf fr i).2.1.2.2 + 1), false, none, 0)]) fr.length).2.2.2.2 : Int)), (zVs xs_n (k : Int) (zVl xs_i ((smv e.1 k : Nat) : Int)))) := ⟨h_5, h_4, by first | exact List.length_replicate | assumption | (unfold zVs; split <;> simp [hx]) | simp [hx]⟩
          have hFrr9 := fm_keep1 hFr1 hyn hfaL9 (zLc hva_n (by simp) zLn) hfry9
          have hmcF9 : mcF rp w1 w_1 := mcF_fa hfaL9 (zLc hva_n (by simp [mcP]) zLn)
          have h_6 : w_1.1 mc = some (4, 0, [zR t, zR fa, zR ca, zR ta, zR rp, zI ((fr ++ [((e.1.2.1, m), (some i, pl0, (mmf fr i).2.1.2.2 + 1), false, none, 0)]).length : Int), zP (oA Fs2 cur), zI (pl0 : Int), zP (oA Fs2 den), zI (if flb = true then 1 else 0), zI 0, zI 0]) := by
            rw [hw_2]; exact zput_tg hva_n hmc1 (by simp)
          have h_7 : w_1.1 fa = some (166, mc, zLs cap1 Fs2) := by
            rw [hw_2]; exact zput_tg hva_n hfa1 (by simp)
          have h_8 : w_1.1 ca = some (138, mc, tTb 3 cc1 (ch.reverse.map (fun e => [(e.1 : Int), (e.2.1 : Int), (e.2.2 : Int)]))) := by
            rw [hw_2]; exact zput_tg hva_n hca1 (by simp)
          have h_9 : w_1.1 ta = some (139, mc, tTb 2 ct1 (T.reverse.map (fun e => [(e.1 : Int), (e.2 : Int)]))) := by
            rw [hw_2]; exact zput_tg hva_n hta1 (by simp)
          have h_10 : w_1.1 t = some (10, 0, [zI ty, zR tc, zR tn, zR th, zR tz]) := by
            rw [hw_2]; exact zput_tg hva_n ht01 (by simp)
          have h_11 : w_1.1 tc = some (130, t, tTb 3 30 C) := by
            rw [hw_2]; exact zput_tg hva_n htc1 (by simp)
          have h_12 : w_1.1 tn = some (131, t, tTb 4 800 N1) := by
            rw [hw_2]; exact zput_tg hva_n htn1 (by simp)
          have h_13 : w_1.1 th = some (132, t, tTb 1 64 H1) := by
            rw [hw_2]; exact zput_tg hva_n hth1 (by simp)
          have h_14 : w_1.1 tz = some (120, t, Sz1.map zJ) := by
            rw [hw_2]; exact zput_tg hva_n htz1 (by simp)
          have h_15 : w_1.1 rp = some (8, 0, [zP mo, zR ri, zR ra, zR rn, zI (((ns + 1) : Nat) : Int), zI (nc0 : Int), zI (dp0 : Int), zI 101, zI bk, zI bc]) := by
            rw [hw_2]; exact zput_tg hva_n hrp1 (by simp)
          have h_16 : w_1.1 ri = some (135, rp, tTb 1 3 I) := by
            rw [hw_2]; exact zput_tg hva_n hri1 (by simp)
          have h_17 : w_1.1 ra = some (136, rp, tTb 3 150 A1) := by
            rw [hw_2]; exact zput_tg hva_n hra1 (by simp)
          have h_18 : w_1.1 rn = some (137, rp, tTb 2 160 (nt.map (fun e => [(e.1 : Int), (e.2 : Int)]))) := by
            rw [hw_2]; exact zput_tg hva_n hrn1 (by simp)
          have hM9 : mcW w_1 b1 b2 ((mc, fa, ca, ta), (t, tc, tn, th, tz), (rp, ri, ra, rn), (ty, C), (mo, I, bk, bc)) (((cap1, Fs2), (fmUp fm1 yn ((va_n, md_n), ((oA Fs2 (mmf (fr ++ [((e.1.2.1, m), (some i, pl0, (mmf fr i).2.1.2.2 + 1), false, none, 0)]) fr.length).2.1.1), ((mmf (fr ++ [((e.1.2.1, m), (some i, pl0, (mmf fr i).2.1.2.2 + 1), false, none, 0)]) fr.length).2.1.2.1 : Int), ((mmf (fr ++ [((e.1.2.1, m), (some i, pl0, (mmf fr i).2.1.2.2 + 1), false, none, 0)]) fr.length).2.1.2.2 : Int)), (((cls fr.length).bind (pgCl R)), (if (mmf (fr ++ [((e.1.2.1, m), (some i, pl0, (mmf fr i).2.1.2.2 + 1), false, none, 0)]) fr.length).2.2.1 = true then 1 else 0), (oA Fs2 (mmf (fr ++ [((e.1.2.1, m), (some i, pl0, (mmf fr i).2.1.2.2 + 1), false, none, 0)]) fr.length).2.2.2.1), ((mmf (fr ++ [((e.1.2.1, m), (some i, pl0, (mmf fr i).2.1.2.2 + 1), false, none, 0)]) fr.length).2.2.2.2 : Int)), (zVs xs_n (k : Int) (zVl xs_i ((smv e.1 k : Nat) : Int)))))), (cc1, (ch.reverse.map (fun e => [(e.1 : Int), (e.2.1 : Int), (e.2.2 : Int)]))), (ct1, (T.reverse.map (fun e => [(e.1 : Int), (e.2 : Int)]))), (((fr ++ [((e.1.2.1, m), (some i, pl0, (mmf fr i).2.1.2.2 + 1), false, none, 0)]).length : Int), (oA Fs2 cur), (pl0 : Int), (oA Fs2 den)), ((if flb = true then 1 else 0), 0, 0), (N1, H1, Sz1), (A1, (nt.map (fun e => [(e.1 : Int), (e.2 : Int)])), (((ns + 1) : Nat) : Int), (nc0 : Int), (dp0 : Int), 101)) := ⟨h_6, h_7, ⟨h_8, okC1⟩, ⟨h_9, okT1⟩, hFrr9, ⟨h_10, ⟨h_11, okTC1⟩, ⟨h_12, okN1⟩, ⟨h_13, okH1⟩, h_14, hSz1⟩, ⟨h_15, ⟨h_16, okI1⟩, ⟨h_17, okA1⟩, ⟨h_18, okNt1⟩⟩, hcap1, ⟨by omega, by omega, by omega, by omega⟩, by omega, by omega⟩
          have hvq : tvE tm (zVl xs_i ((smv e.1 k : Nat) : Int)) ((mmNew V fr.length (fun q => if q < k ∧ (pgC R).2.1.1 e.1.2.1 m q = true then V i (smv e.1 q) else none)) i (smv e.1 k)) := by rw [zVl_get hx_i hvk.2]; exact hxv_i _ hvk.2
          have hFS9 := fsR_val hFS1 hJ1 hyn efm_n hk8 hvq
          rw [pre_s (Nat.ne_of_lt hif) hc] at hFS9
          have hW9 : msW w_1 b1 b2 ((mc, fa, ca, ta), (t, tc, tn, th, tz), (rp, ri, ra, rn), (ty, C), (mo, I, bk, bc)) R Fs2 (0, 0, 101) (((fr ++ [((e.1.2.1, m), (some i, pl0, (mmf fr i).2.1.2.2 + 1), false, none, 0)]), cls, (mmNew V fr.length (fun q => if q < (k + 1) ∧ (pgC R).2.1.1 e.1.2.1 m q = true then V i (smv e.1 q) else none)), ch, T), (cur, pl0, den, flb), tm, (na, (ns + 1), nc0, dp0), nt) := ⟨cap1, (fmUp fm1 yn ((va_n, md_n), ((oA Fs2 (mmf (fr ++ [((e.1.2.1, m), (some i, pl0, (mmf fr i).2.1.2.2 + 1), false, none, 0)]) fr.length).2.1.1), ((mmf (fr ++ [((e.1.2.1, m), (some i, pl0, (mmf fr i).2.1.2.2 + 1), false, none, 0)]) fr.length).2.1.2.1 : Int), ((mmf (fr ++ [((e.1.2.1, m), (some i, pl0, (mmf fr i).2.1.2.2 + 1), false, none, 0)]) fr.length).2.1.2.2 : Int)), (((cls fr.length).bind (pgCl R)), (if (mmf (fr ++ [((e.1.2.1, m), (some i, pl0, (mmf fr i).2.1.2.2 + 1), false, none, 0)]) fr.length).2.2.1 = true then 1 else 0), (oA Fs2 (mmf (fr ++ [((e.1.2.1, m), (some i, pl0, (mmf fr i).2.1.2.2 + 1), false, none, 0)]) fr.length).2.2.2.1), ((mmf (fr ++ [((e.1.2.1, m), (some i, pl0, (mmf fr i).2.1.2.2 + 1), false, none, 0)]) fr.length).2.2.2.2 : Int)), (zVs xs_n (k : Int) (zVl xs_i ((smv e.1 k : Nat) : Int))))), cc1, (ch.reverse.map (fun e => [(e.1 : Int), (e.2.1 : Int), (e.2.2 : Int)])), ct1, (T.reverse.map (fun e => [(e.1 : Int), (e.2 : Int)])), ((fr ++ [((e.1.2.1, m), (some i, pl0, (mmf fr i).2.1.2.2 + 1), false, none, 0)]).length : Int), (oA Fs2 cur), (pl0 : Int), (oA Fs2 den), (if flb = true then 1 else 0), N1, H1, Sz1, A1, (nt.map (fun e => [(e.1 : Int), (e.2 : Int)])), (((ns + 1) : Nat) : Int), (nc0 : Int), (dp0 : Int), hM9, ⟨⟨(by first | rfl | omega | simp), hfl1, hJ1, hcn1, hFS9⟩, ⟨rfl, hcuL1, (by first | rfl | omega), rfl, hdeL1, rfl⟩, ⟨rfl, hchL1⟩, ⟨rfl, hTL1⟩, htm1, ⟨hA1, (by first | rfl | omega), (by first | rfl | omega), (by first | rfl | omega), rfl⟩⟩⟩
          exact ih (k + 1) _ (by omega) hW9 (mcF_tr hF1 hmcF9)
        · have hc : ¬ (pgC R).2.1.1 e.1.2.1 m k = true := by rw [hin_x k]; simp only [decide_eq_true_eq]; exact fun q => hz ⟨by omega, by omega, q.2⟩
          refine zx_iload (i := 5) dX4_beginCall_61 rfl ?_
          refine zx_aload_n (i := 2) dX4_beginCall_63 rfl rfl ?_
          refine zx_getfield dX4_beginCall_64 zf_X4_261 hgo1 rfl ?_
          refine zx_icmp_ge (tgt := 102) dX4_beginCall_67 (by decide) (fun h67 => absurd h67 (by omega)) (fun h67 => ?_)
          refine zx_aload_n (i := 3) dX4_beginCall_70 rfl rfl ?_
          refine zx_iload (i := 5) dX4_beginCall_71 rfl ?_
          refine zx_iv (b := x) (As := [zI (k : Int)]) (st := []) (v := (some (zI (zB (0 ≤ ((k : Int) : Int) ∧ ((k : Int) : Int) < 3 ∧ zand (zshr ins_x ((k : Int) : Int)) 1 = 1))))) (w1 := w1) dX4_beginCall_73 zc_X4_263 hmo_x rfl rfl rfl (Nat.le_of_ble_eq_true rfl) rfl (c_X5_isInput hmo_x (k : Int)) ?_
          refine zx_st (st1 := [zI (zB (0 ≤ ((k : Int) : Int) ∧ ((k : Int) : Int) < 3 ∧ zand (zshr ins_x ((k : Int) : Int)) 1 = 1))]) rfl ?_
          refine zx_if_eq (tgt := 96) dX4_beginCall_76 (by decide) (fun h76 => ?_) (fun h76 => absurd (by rw [zB_f hz]) h76)
          refine zx_iinc (i := 5) (v := ((k + 1 : Nat) : Int)) dX4_beginCall_96 rfl (zw_eq (by omega) (by omega) (by omega)) (by decide) rfl ?_
          refine zx_L (L1 := [some (zR mc), some (zR yi), some (zR g), some (zR x), some (zR yn), some (zI ((k + 1 : Nat) : Int))]) rfl ?_
          refine zx_goto (tgt := 61) dX4_beginCall_99 (by decide) ?_
          rw [pre_n hc] at hW1
          exact ih (k + 1) w1 (by omega) hW1 hF1
    refine zx_aload_n (i := 1) dX4_beginCall_0 rfl rfl ?_
    refine zx_getfield dX4_beginCall_1 zf_X4_60 hfy_i rfl ?_
    refine zx_ifnonnull (tgt := 11) dX4_beginCall_4 (by decide) (fun _ => ?_) (fun h => by cases h)
    refine zx_aload_n (i := 1) dX4_beginCall_11 rfl rfl ?_
    refine zx_getfield dX4_beginCall_12 zf_X4_60 hfy_i rfl ?_
    refine zx_aload_n (i := 1) dX4_beginCall_15 rfl rfl ?_
    refine zx_getfield dX4_beginCall_16 zf_X4_73 hfy_i rfl ?_
    refine zx_getfield dX4_beginCall_19 zf_X4_77 hmo_i rfl ?_
    refine zx_aload_n (i := 0) dX4_beginCall_22 rfl rfl ?_
    refine zx_getfield dX4_beginCall_23 zf_X4_69 hmc rfl ?_
    refine zx_iv (b := a) (As := [zI ((mmf fr i).1.2 : Int), zI (pl0 : Int)]) (st := []) (v := (some (zR x))) (w1 := w) dX4_beginCall_26 zc_X4_294 hC.1 rfl rfl rfl (Nat.le_of_ble_eq_true rfl) rfl (by have q := c_X1_chosenIn (G := G) (d := d + 5) hC ((mmf fr i).1.2 : Int) (pl0 : Int); rw [if_pos hg0, hx0] at q; exact q) ?_
    refine zx_st (st1 := [zR x]) rfl ?_
    refine zx_pc (pc1 := 29) rfl ?_
    refine zx_astore_n (i := 3) dX4_beginCall_29 rfl (by decide) rfl ?_
    refine zx_L (L1 := [some (zR mc), some (zR yi), some (zR g), some (zR x), none, none]) rfl ?_
    refine zx_aload_n (i := 3) dX4_beginCall_30 rfl rfl ?_
    refine zx_ifnull (tgt := 43) dX4_beginCall_31 (by decide) (fun h => by cases h) (fun _ => ?_)
    refine zx_aload_n (i := 1) dX4_beginCall_34 rfl rfl ?_
    refine zx_getfield dX4_beginCall_35 zf_X4_159 hfy_i rfl ?_
    refine zx_bipush (v := 30) dX4_beginCall_38 (by decide +kernel) (z32_lit (by decide) (by decide)) ?_
    refine zx_icmp_lt (tgt := 50) dX4_beginCall_40 (by decide) (fun h40 => ?_) (fun h40 => absurd (by omega) h40)
    refine zx_aload_n (i := 0) dX4_beginCall_50 rfl rfl ?_
    refine zx_aload_n (i := 3) dX4_beginCall_51 rfl rfl ?_
    refine zx_aload_n (i := 1) dX4_beginCall_52 rfl rfl ?_
    refine zx_ivV (b := mc) (As := [zR x, zR yi]) (st := []) dX4_beginCall_53 zc_X4_116 hmc rfl rfl rfl (Nat.le_of_ble_eq_true rfl) rfl (s_newFrame1 hW hG1 hG2 hF3 hfl0 hmx hif hi (by omega)) (fun v2 w2 hq => ?_)
    obtain ⟨yn, Fs2, ev2, hyn, hpre, hF32, hW2, hF2⟩ := hq
    subst ev2
    refine zx_astore (i := 4) dX4_beginCall_56 (by decide) rfl ?_
    refine zx_L (L1 := [some (zR mc), some (zR yi), some (zR g), some (zR x), some (zR yn), none]) rfl ?_
    refine zx_pc (pc1 := 58) rfl ?_
    refine zx_iconst (v := 0) dX4_beginCall_58 rfl (z32_lit (by decide) (by decide)) ?_
    refine zx_istore (i := 5) dX4_beginCall_59 (by decide) rfl ?_
    refine zx_L (L1 := [some (zR mc), some (zR yi), some (zR g), some (zR x), some (zR yn), some (zI 0)]) rfl ?_
    have hP2 : pgW w2 pg R := pgW_TM hP (mcF_fr hF2)
    have e0 : mmNew V fr.length (fun _ => none) = (mmNew V fr.length (fun q => if q < 0 ∧ (pgC R).2.1.1 e.1.2.1 m q = true then V i (smv e.1 q) else none)) := by
      congr 1
    rw [e0] at hW2
    exact loop Fs2 yn w2 hyn hpre hF32 hF2 e.1.2.2.1 0 w2 (by omega) hW2 mcF_re
end SBC
