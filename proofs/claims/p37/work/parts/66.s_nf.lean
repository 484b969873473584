/-! Own rows: newFrame, told by the pure state. -/
section SNF
variable {G : zG} {d : Nat} {w : zW} {b1 b2 : Nat} {R : pgR} {Fs : List Nat} {ov fu en : Int} {mc fa ca ta t tc tn th tz rp ri ra rn : Nat} {ty bk bc : Int} {C I : List (List Int)} {mo : Option Nat} {fr : List mmF} {cls : Nat → Option Nat} {V : mmV} {ch : mmH} {T : mmT} {cur den : Option Nat} {pl0 na ns nc0 dp0 : Nat} {flb : Bool} {tm : List smG} {nt : List (Nat × Nat)}
theorem s_newFrame0 (hW : msW w b1 b2 ((mc, fa, ca, ta), (t, tc, tn, th, tz), (rp, ri, ra, rn), (ty, C), (mo, I, bk, bc)) R Fs (ov, fu, en) ((fr, cls, V, ch, T), (cur, pl0, den, flb), tm, (na, ns, nc0, dp0), nt)) (hG1 : b1 + 1500000 ≤ 60 * G.2.2.2.2.1) (hG2 : b2 + 3150000 ≤ G.2.2.2.2.2) (hF3 : Fs.length ≤ 320) (hfl0 : fr.length < 310) {p m md : Nat} (hmdn : pgMo R p m = some md) : zM G zm_X4_newFrame (d + 6) [zR mc, zR md, zN] w (zVal fun v w' => ∃ (y : Nat) (Fs2 : List Nat), v = zR y ∧ Fs2[fr.length]? = some y ∧ (∀ (q z : Nat), Fs[q]? = some z → Fs2[q]? = some z) ∧ Fs2.length ≤ 320 ∧ msW w' b1 b2 ((mc, fa, ca, ta), (t, tc, tn, th, tz), (rp, ri, ra, rn), (ty, C), (mo, I, bk, bc)) R Fs2 (ov, fu, en) (((fr ++ [((p, m), (none, pl0, 1), false, none, 0)]), cls, (mmNew V fr.length (fun _ => none)), ch, T), (cur, pl0, den, flb), tm, (na, ns, nc0, dp0), nt) ∧ mcF rp w w') := by
  obtain ⟨cap, fm, cc, CH, ct, TR, us, cu, pl, de, fl, N, H, Sz, A, Nt, sc, nc, dp, hM, hS⟩ := id hW
  obtain ⟨⟨hus, hfl, hJ, hcn, hFS⟩, ⟨hcu, hcuL, hpl, hde, hdeL, hfb⟩, ⟨hCH, hchL⟩, ⟨hTR, hTL⟩, htm, ⟨hA, hsc, hnc, hdp, hNt⟩⟩ := id hS
  subst hus hcu hpl hde hfb hCH hTR hsc hnc hdp hNt
  obtain ⟨hmc, hfa, ⟨hca, okC⟩, ⟨hta, okT⟩, hFr, ⟨ht0, ⟨htc, okTC⟩, ⟨htn, okN⟩, ⟨hth, okH⟩, htz, hSz⟩, ⟨hrp, ⟨hri, okI⟩, ⟨hra, okA⟩, ⟨hrn, okNt⟩⟩, hcap, hcct, hrm1, hrm2⟩ := id hM
  refine zM_mono (c_X4_newFrame0 hM hG1 hG2 hF3 hfl0 hfl md) (fun o w' q => ?_)
  obtain ⟨v, e0, y, va', cap', Fs2, e1, -, e2, e3, e4, hM9, hF9⟩ := q
  refine ⟨v, e0, y, Fs2, e1, e2, e3, by omega, ?_, hF9⟩
  have hJ2 : fsJ Fs2 := fun a b z h1 h2 => fm_inj hM9.2.2.2.2.1 h1 h2
  have hl2 : fr.length + 1 ≤ Fs2.length := by
    have := (List.getElem?_eq_some_iff.mp e2).1
    omega
  have e8 : ((fr ++ [((p, m), (none, pl0, 1), false, none, 0)]).length : Int) = (fr.length : Int) + 1 := by simp
  rw [← e8, ← oA_pre e3 (fun i h => by have := hcuL i h; omega), ← oA_pre e3 (fun i h => by have := hdeL i h; omega)] at hM9
  have hFS2 : fsR R Fs2 tm (fmUp fm y ((va', md), (none, (pl0 : Int), 1), (none, 0, none, 0), List.replicate 8 (-1))) (fr ++ [((p, m), (none, pl0, 1), false, none, 0)]) cls (mmNew V fr.length (fun _ => none)) := by
    refine fsR_new (fsR_pre hFS hfl e3) hJ2 e2 hcn ⟨hmdn, ⟨?_, ?_⟩, ⟨rfl, (fun i h => by cases h), (fun k h => by cases h)⟩, ⟨rfl, fun x hx => ?_⟩, ?_⟩
    · rfl
    · exact fun i h => by cases h
    · show tvE tm ((List.replicate 8 (-1 : Int)).getD x 0) none
      rw [List.getD_eq_getElem?_getD, List.getElem?_replicate, if_pos hx]
      rfl
    · exact ⟨(by decide : 1 ≤ 1), (by decide : 1 ≤ 30)⟩
  exact ⟨_, _, _, _, _, _, _, _, _, _, _, _, _, _, _, _, _, _, _, hM9, ⟨rfl, by rw [List.length_append, List.length_singleton]; exact hl2, hJ2, (fun j hj => hcn j (by rw [List.length_append, List.length_singleton] at hj; omega)), hFS2⟩, ⟨rfl, (fun i h => by have := hcuL i h; rw [List.length_append]; omega), rfl, rfl, (fun i h => by have := hdeL i h; rw [List.length_append]; omega), rfl⟩, ⟨rfl, (fun e he => by have := hchL e he; rw [List.length_append]; omega)⟩, ⟨rfl, (fun e he => by have := hTL e he; rw [List.length_append]; exact ⟨by omega, this.2⟩)⟩, htm, ⟨hA, rfl, rfl, rfl, rfl⟩⟩
theorem s_newFrame1 (hW : msW w b1 b2 ((mc, fa, ca, ta), (t, tc, tn, th, tz), (rp, ri, ra, rn), (ty, C), (mo, I, bk, bc)) R Fs (ov, fu, en) ((fr, cls, V, ch, T), (cur, pl0, den, flb), tm, (na, ns, nc0, dp0), nt)) (hG1 : b1 + 1500000 ≤ 60 * G.2.2.2.2.1) (hG2 : b2 + 3150000 ≤ G.2.2.2.2.2) (hF3 : Fs.length ≤ 320) (hfl0 : fr.length < 310) {p m md : Nat} (hmdn : pgMo R p m = some md) {i yi : Nat} (hif : i < fr.length) (hi : Fs[i]? = some yi) (hd30 : (mmf fr i).2.1.2.2 < 30) : zM G zm_X4_newFrame (d + 6) [zR mc, zR md, zR yi] w (zVal fun v w' => ∃ (y : Nat) (Fs2 : List Nat), v = zR y ∧ Fs2[fr.length]? = some y ∧ (∀ (q z : Nat), Fs[q]? = some z → Fs2[q]? = some z) ∧ Fs2.length ≤ 320 ∧ msW w' b1 b2 ((mc, fa, ca, ta), (t, tc, tn, th, tz), (rp, ri, ra, rn), (ty, C), (mo, I, bk, bc)) R Fs2 (ov, fu, en) (((fr ++ [((p, m), (some i, pl0, (mmf fr i).2.1.2.2 + 1), false, none, 0)]), cls, (mmNew V fr.length (fun _ => none)), ch, T), (cur, pl0, den, flb), tm, (na, ns, nc0, dp0), nt) ∧ mcF rp w w') := by
  obtain ⟨cap, fm, cc, CH, ct, TR, us, cu, pl, de, fl, N, H, Sz, A, Nt, sc, nc, dp, hM, hS⟩ := id hW
  obtain ⟨⟨hus, hfl, hJ, hcn, hFS⟩, ⟨hcu, hcuL, hpl, hde, hdeL, hfb⟩, ⟨hCH, hchL⟩, ⟨hTR, hTL⟩, htm, ⟨hA, hsc, hnc, hdp, hNt⟩⟩ := id hS
  subst hus hcu hpl hde hfb hCH hTR hsc hnc hdp hNt
  obtain ⟨hmc, hfa, ⟨hca, okC⟩, ⟨hta, okT⟩, hFr, ⟨ht0, ⟨htc, okTC⟩, ⟨htn, okN⟩, ⟨hth, okH⟩, htz, hSz⟩, ⟨hrp, ⟨hri, okI⟩, ⟨hra, okA⟩, ⟨hrn, okNt⟩⟩, hcap, hcct, hrm1, hrm2⟩ := id hM
  obtain ⟨⟨⟨va, mdi⟩, ⟨fca, fbt, fdp⟩, ⟨fcl, fdn, fod, fcb⟩, xs⟩, efm⟩ : ∃ r, fm yi = r := ⟨_, rfl⟩
  obtain ⟨hmd, ⟨hcb1, hcb2⟩, hcb3, hxv, hdq⟩ := hFS i yi hif hi
  rw [efm] at hcb1
  simp only [Prod.mk.injEq] at hcb1
  obtain ⟨ea1, ea2, ea3⟩ := hcb1
  subst ea3
  refine zM_mono (c_X4_newFrame1 hM hG1 hG2 hF3 hfl0 hi hif efm ⟨by omega, by omega⟩ hfl md) (fun o w' q => ?_)
  obtain ⟨v, e0, y, va', cap', Fs2, e1, -, e2, e3, e4, hM9, hF9⟩ := q
  refine ⟨v, e0, y, Fs2, e1, e2, e3, by omega, ?_, hF9⟩
  have hJ2 : fsJ Fs2 := fun a b z h1 h2 => fm_inj hM9.2.2.2.2.1 h1 h2
  have hl2 : fr.length + 1 ≤ Fs2.length := by
    have := (List.getElem?_eq_some_iff.mp e2).1
    omega
  have e8 : ((fr ++ [((p, m), (some i, pl0, (mmf fr i).2.1.2.2 + 1), false, none, 0)]).length : Int) = (fr.length : Int) + 1 := by simp
  rw [← e8, ← oA_pre e3 (fun i h => by have := hcuL i h; omega), ← oA_pre e3 (fun i h => by have := hdeL i h; omega)] at hM9
  have hFS2 : fsR R Fs2 tm (fmUp fm y ((va', md), (some yi, (pl0 : Int), ((mmf fr i).2.1.2.2 : Int) + 1), (none, 0, none, 0), List.replicate 8 (-1))) (fr ++ [((p, m), (some i, pl0, (mmf fr i).2.1.2.2 + 1), false, none, 0)]) cls (mmNew V fr.length (fun _ => none)) := by
    refine fsR_new (fsR_pre hFS hfl e3) hJ2 e2 hcn ⟨hmdn, ⟨?_, ?_⟩, ⟨rfl, (fun i h => by cases h), (fun k h => by cases h)⟩, ⟨rfl, fun x hx => ?_⟩, ?_⟩
    · show (some yi, (pl0 : Int), ((mmf fr i).2.1.2.2 : Int) + 1) = (oA Fs2 (some i), (pl0 : Int), (((mmf fr i).2.1.2.2 + 1 : Nat) : Int))
      rw [oA_some (e3 i yi hi)]
      rfl
    · exact fun i h => by cases h; exact hif
    · show tvE tm ((List.replicate 8 (-1 : Int)).getD x 0) none
      rw [List.getD_eq_getElem?_getD, List.getElem?_replicate, if_pos hx]
      rfl
    · exact ⟨by show 1 ≤ (mmf fr i).2.1.2.2 + 1; omega, by show (mmf fr i).2.1.2.2 + 1 ≤ 30; omega⟩
  exact ⟨_, _, _, _, _, _, _, _, _, _, _, _, _, _, _, _, _, _, _, hM9, ⟨rfl, by rw [List.length_append, List.length_singleton]; exact hl2, hJ2, (fun j hj => hcn j (by rw [List.length_append, List.length_singleton] at hj; omega)), hFS2⟩, ⟨rfl, (fun i h => by have := hcuL i h; rw [List.length_append]; omega), rfl, rfl, (fun i h => by have := hdeL i h; rw [List.length_append]; omega), rfl⟩, ⟨rfl, (fun e he => by have := hchL e he; rw [List.length_append]; omega)⟩, ⟨rfl, (fun e he => by have := hTL e he; rw [List.length_append]; exact ⟨by omega, this.2⟩)⟩, htm, ⟨hA, rfl, rfl, rfl, rfl⟩⟩
end SNF
