/-! Own rows: the machine in the world stands for a pure state; 'agrees' told so. -/
theorem zM_mono {G : zG} {M : zMd} {d : Nat} {av : List zV} {w : zW} {Q Q' : zQ} (h : zM G M d av w Q) (hq : ∀ o w', Q o w' → Q' o w') : zM G M d av w Q' := fun hv p e ha hf hc s m args below h1 h2 h3 h4 => by
  obtain ⟨n, o, a, b, c, q⟩ := h hv p e ha hf hc s m args below h1 h2 h3 h4
  refine ⟨n, o, a, b, c, ?_⟩
  rcases q with ⟨⟨v, w', q1, q2, q3⟩, q4⟩ | ⟨x, q1, E, ce, L, ⟨i, w', r1, r2, r3, r4⟩, r5⟩
  · exact Or.inl ⟨⟨v, w', q1, hq _ _ q2, q3⟩, q4⟩
  · exact Or.inr ⟨x, q1, E, ce, L, ⟨i, w', r1, r2, hq _ _ r3, r4⟩, r5⟩
def msW (w : zW) (b1 b2 : Nat) (K : mcK) (R : pgR) (Fs : List Nat) (z : Int × Int × Int) (S : mmS) : Prop :=
  ∃ (cap : Nat) (fm : Nat → fmR) (cc : Nat) (CH : List (List Int)) (ct : Nat) (TR : List (List Int)) (us : Int) (cu : Option Nat) (pl : Int) (de : Option Nat) (fl : Int) (N H : List (List Int)) (Sz : List Int) (A Nt : List (List Int)) (sc nc dp : Int),
    mcW w b1 b2 K (((cap, Fs), fm), (cc, CH), (ct, TR), (us, cu, pl, de), (fl, z.1, z.2.1), (N, H, Sz), (A, Nt, sc, nc, dp, z.2.2)) ∧ msR R (((cap, Fs), fm), (cc, CH), (ct, TR), (us, cu, pl, de), (fl, z.1, z.2.1), (N, H, Sz), (A, Nt, sc, nc, dp, z.2.2)) S
theorem mmAg_n {V : mmV} {T : mmT} {i x : Nat} {o : Option smG} (h : V i x = none) : mmAg V T i x o = (true, (fun j y => if j = i ∧ y = x then o else V j y), (i, x) :: T) := if_pos h
theorem mmAg_y {V : mmV} {T : mmT} {i x : Nat} {o : Option smG} (h : V i x ≠ none) : mmAg V T i x o = (decide (V i x = o), V, T) := if_neg h
section SAGR
variable {G : zG} {d : Nat} {w : zW} {b1 b2 : Nat} {R : pgR} {Fs : List Nat} {ov fu en : Int} {mc fa ca ta t tc tn th tz rp ri ra rn : Nat} {ty bk bc : Int} {C I : List (List Int)} {mo : Option Nat} {fr : List mmF} {cls : Nat → Option Nat} {V : mmV} {ch : mmH} {T : mmT} {cur den : Option Nat} {pl0 na ns nc0 dp0 : Nat} {flb : Bool} {tm : List smG} {nt : List (Nat × Nat)}
theorem s_agrees (hW : msW w b1 b2 ((mc, fa, ca, ta), (t, tc, tn, th, tz), (rp, ri, ra, rn), (ty, C), (mo, I, bk, bc)) R Fs (ov, fu, en) ((fr, cls, V, ch, T), (cur, pl0, den, flb), tm, (na, ns, nc0, dp0), nt)) (hG1 : b1 + 1500000 ≤ 60 * G.2.2.2.2.1) (hG2 : b2 + 3150000 ≤ G.2.2.2.2.2) (hF3 : Fs.length ≤ 320) (hTl : T.length < 350000) {k y x : Nat} {v : Int} {o : Option smG} (hkf : k < fr.length) (hk : Fs[k]? = some y) (hx8 : x < 8) (hv : tvE tm v o) : zM G zm_X4_agrees (d + 3) [zR mc, zR y, zI (x : Int), zI v] w (zVal fun r w' => r = zI (zB ((mmAg V T k x o).1 = true)) ∧ msW w' b1 b2 ((mc, fa, ca, ta), (t, tc, tn, th, tz), (rp, ri, ra, rn), (ty, C), (mo, I, bk, bc)) R Fs (ov, fu, en) ((fr, cls, (mmAg V T k x o).2.1, ch, (mmAg V T k x o).2.2), (cur, pl0, den, flb), tm, (na, ns, nc0, dp0), nt) ∧ mcF rp w w') := by
  obtain ⟨cap, fm, cc, CH, ct, TR, us, cu, pl, de, fl, N, H, Sz, A, Nt, sc, nc, dp, hM, hS⟩ := id hW
  obtain ⟨⟨hus, hfl, hJ, hcn, hFS⟩, ⟨hcu, hcuL, hpl, hde, hdeL, hfb⟩, ⟨hCH, hchL⟩, ⟨hTR, hTL⟩, htm, ⟨hA, hsc, hnc, hdp, hNt⟩⟩ := id hS
  subst hus hcu hpl hde hfb hCH hTR hsc hnc hdp hNt
  obtain ⟨hmc, hfa, ⟨hca, okC⟩, ⟨hta, okT⟩, hFr, ⟨ht0, ⟨htc, okTC⟩, ⟨htn, okN⟩, ⟨hth, okH⟩, htz, hSz⟩, ⟨hrp, ⟨hri, okI⟩, ⟨hra, okA⟩, ⟨hrn, okNt⟩⟩, hcap, hcct, hrm1, hrm2⟩ := id hM
  have hTRl : (T.reverse.map (fun e => [(e.1 : Int), (e.2 : Int)])).length = T.length := by simp
  obtain ⟨r, er⟩ : ∃ r, fm y = r := ⟨_, rfl⟩
  obtain ⟨hmd, hcb1, hcb3, ⟨hxl, hxv⟩, hdq⟩ := hFS k y hkf hk
  rw [er] at hxl hxv
  have hvl := zVl_get hxl hx8
  have hvx := hxv x hx8
  rw [← hvl] at hvx
  by_cases hn : V k x = none
  · rw [mmAg_n hn]
    refine zM_mono (c_X4_agrees0 hM hG1 hG2 hF3 (by omega) hk er (x : Int) v (by rw [hn] at hvx; exact hvx) ⟨by omega, by omega⟩) (fun oo w' q => ?_)
    obtain ⟨o', e1, e2, hM9, hF9⟩ := q
    refine ⟨o', e1, by rw [e2, zB_t rfl], ?_, hF9⟩
    have hFS2 := fsR_val hFS hJ hk er hx8 hv
    have hTR2 : (T.reverse.map (fun e => [(e.1 : Int), (e.2 : Int)])) ++ [[(k : Int), (x : Int)]] = ((k, x) :: T).reverse.map (fun e => [(e.1 : Int), (e.2 : Int)]) := by simp
    rw [hTR2] at hM9
    exact ⟨_, _, _, _, _, _, _, _, _, _, _, _, _, _, _, _, _, _, _, hM9, ⟨⟨(by first | rfl | omega | simp), hfl, hJ, hcn, hFS2⟩, ⟨rfl, hcuL, (by first | rfl | omega), rfl, hdeL, rfl⟩, ⟨rfl, hchL⟩, ⟨rfl, (fun e he => by
      rcases List.mem_cons.mp he with q | q
      · rw [q]; exact ⟨hkf, hx8⟩
      · exact hTL e q)⟩, htm, ⟨hA, (by first | rfl | omega), (by first | rfl | omega), (by first | rfl | omega), rfl⟩⟩⟩
  · rw [mmAg_y hn]
    have hz : zVl r.2.2.2 (x : Int) ≠ -1 := fun e => hn ((tvE_none hvx).mp e)
    refine zM_mono (c_X4_agrees1 hM hk er (x : Int) v hz) (fun oo w' q => ?_)
    obtain ⟨e1, e2⟩ := q
    subst e2
    refine ⟨_, e1, ?_, hW, mcF_re⟩
    have e3 := tvE_eq htm.2.2.1 hvx hv
    by_cases c : V k x = o
    · rw [zB_t (e3.mpr c), zB_t (by simpa using c)]
    · rw [zB_f (fun q => c (e3.mp q)), zB_f (by simpa using c)]
end SAGR
