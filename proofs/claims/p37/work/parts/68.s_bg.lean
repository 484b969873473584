/-! Own rows: beginGoal against mmGoal. Walked by program (wip/p37/m_bg.py). -/
theorem mmEq_ca {V : mmV} {T : mmT} {tm : List smG} {i : Nat} {g : smL} {h : smG} (hk : g.1 ≠ 1) (hx : V i (smv g 0) = some h) : mmEq V T tm i g = some ((caS V T i g h).1, (caS V T i g h).2.1, (caS V T i g h).2.2, tm) := by
  unfold mmEq caS
  rw [if_neg hk, hx]
  show (if _ then _ else _) = _
  by_cases c : h = smB g.2.1 (h.1 - 1, h.2)
  · rw [if_pos c, if_pos c]
    by_cases c2 : g.2.1 = 1
    · rw [if_pos c2, if_pos c2]
    · rw [if_neg c2, if_neg c2]
  · rw [if_neg c, if_neg c]
theorem mmEq_bd {V : mmV} {T : mmT} {tm : List smG} {i : Nat} {g : smL} {r : Bool × mmV × mmT × List smG} (hk : g.1 ≠ 1) (hx : V i (smv g 0) = none) (h : mmEq V T tm i g = some r) : r.1 = true := by
  unfold mmEq at h
  rw [if_neg hk, hx] at h
  have h : (if _ then _ else _) = _ := h
  split at h
  · cases h; rfl
  · split at h
    · cases h; rfl
    · cases h
theorem mmEq_sy {V : mmV} {T : mmT} {tm : List smG} {i : Nat} {g : smL} (hk : g.1 = 1) (hx : V i (smv g 0) ≠ none) : mmEq V T tm i g = some ((mmAg V T i (smv g 1) (V i (smv g 0))).1, (mmAg V T i (smv g 1) (V i (smv g 0))).2.1, (mmAg V T i (smv g 1) (V i (smv g 0))).2.2, tm) := by
  unfold mmEq
  rw [if_pos hk, if_pos hx]
theorem mmEq_sn {V : mmV} {T : mmT} {tm : List smG} {i : Nat} {g : smL} (hk : g.1 = 1) (hx : V i (smv g 0) = none) : mmEq V T tm i g = some ((mmAg V T i (smv g 0) (V i (smv g 1))).1, (mmAg V T i (smv g 0) (V i (smv g 1))).2.1, (mmAg V T i (smv g 0) (V i (smv g 1))).2.2, tm) := by
  unfold mmEq
  rw [if_pos hk, if_neg (fun q => q hx)]
section SBG
variable {pg : Nat}
variable {G : zG} {d : Nat} {w : zW} {b1 b2 : Nat} {R : pgR} {Fs : List Nat}  {mc fa ca ta t tc tn th tz rp ri ra rn : Nat} {ty bk bc : Int} {C I : List (List Int)} {mo : Option Nat} {fr : List mmF} {cls : Nat → Option Nat} {V : mmV} {ch : mmH} {T : mmT} {cur den : Option Nat} {pl0 na ns nc0 dp0 : Nat} {flb : Bool} {tm : List smG} {nt : List (Nat × Nat)}
theorem s_beginGoal (hP : pgW w pg R) (hK : mkF R) (hC : C = C3) (hW : msW w b1 b2 ((mc, fa, ca, ta), (t, tc, tn, th, tz), (rp, ri, ra, rn), (ty, C), (mo, I, bk, bc)) R Fs (0, 0, 101) ((fr, cls, V, ch, T), (cur, pl0, den, false), tm, (na, ns, nc0, dp0), nt)) (hG1 : b1 + 1500000 ≤ 60 * G.2.2.2.2.1) (hG2 : b2 + 3150000 ≤ G.2.2.2.2.2) (hF3 : Fs.length ≤ 320) (hTl : T.length + 3 < 350000) (hfl0 : fr.length < 310) (hch : ch.length < 319) (hnc : nc0 < 99999) (hpl1 : pl0 < 1000) {i yi c a g : Nat} (hif : i < fr.length) (hi : Fs[i]? = some yi) (hcl : cls i = some c) (hcA : pgCl R c = some a) {e : mmO} (he : ((pgC R).2.1.2 (mmf fr i).1.2 c)[pl0]? = some e) (hgW : goW w g (R.2.2.2.2.2.2 g)) (hg3 : gOk (R.2.2.2.2.2.2 g)) (hg4 : e.1 = gL (R.2.2.2.2.2.2 g)) (hcall : (e.1.1 = 2 ∨ e.1.1 = 3) → ∀ m, e.2.1 = some m → ∀ s, (pgC R).2.2.1 e.1.2.1 m = some s → mmArgs ((pgC R).2.1.1 e.1.2.1 m) V i e.1 s ≠ none ∧ ∀ c, c ∈ (pgC R).1.1.1 e.1.2.1 → ∃ e' os, (pgC R).2.1.2 m c = e' :: os ∧ e'.1.1 = 0) (hkz : e.1.1 = 0 → e.1.2.1 < 3 ∧ e.1.2.2.1 = (if e.1.2.1 = 1 then 2 else 1) ∧ (V i (smv e.1 0) = none → e.1.2.1 = 1 → V i (smv e.1 1) ≠ none)) : zM G zm_X4_beginGoal (d + 8) [zR mc, zR yi, zR g] w (zVoid fun w' => stQ w' b1 b2 ((mc, fa, ca, ta), (t, tc, tn, th, tz), (rp, ri, ra, rn), (ty, C), (mo, I, bk, bc)) R (mmGoal (pgC R) i e ((fr, cls, V, ch, T), (cur, pl0, den, false), tm, (na, ns, nc0, dp0), nt)) ∧ mcF rp w w') := by
  refine zx_ent (by decide +kernel) rfl (Nat.le_of_ble_eq_true rfl) ?_
  refine zx_L (L1 := [some (zR mc), some (zR yi), some (zR g), none, none, none, none]) rfl ?_
  obtain ⟨cap, fm, cc, CH, ct, TR, us, cu, pl, de, fl, N, H, Sz, A, Nt, sc, nc, dp, hM, hS⟩ := id hW
  obtain ⟨⟨hus, hfl, hJ, hcn, hFS⟩, ⟨hcu, hcuL, hpl, hde, hdeL, hfb⟩, ⟨hCH, hchL⟩, ⟨hTR, hTL⟩, htm, ⟨hA, hsc, hnc, hdp, hNt⟩⟩ := id hS
  subst hus hcu hpl hde hfb hCH hTR hsc hnc hdp hNt
  obtain ⟨hmc, hfa, ⟨hca, okC⟩, ⟨hta, okT⟩, hFr, ⟨ht0, ⟨htc, okTC⟩, ⟨htn, okN⟩, ⟨hth, okH⟩, htz, hSz⟩, ⟨hrp, ⟨hri, okI⟩, ⟨hra, okA⟩, ⟨hrn, okNt⟩⟩, hcap, hcct, hrm1, hrm2⟩ := id hM
  obtain ⟨⟨⟨va_i, md_i⟩, ⟨fca_i, fbt_i, fdp_i⟩, ⟨fcl_i, fdn_i, fod_i, fcb_i⟩, xs_i⟩, efm_i⟩ : ∃ r, fm yi = r := ⟨_, rfl⟩
  obtain ⟨hfy_i, hva_i, hx_i⟩ := hFr i yi hi
  rw [efm_i] at hfy_i hva_i hx_i
  have hx_i : xs_i.length = 8 := hx_i
  obtain ⟨hmd_i, ⟨hcb1_i, hcb2_i⟩, ⟨hcb3_i, hcb4_i, hcb5_i⟩, ⟨-, hxv_i⟩, hdq_i⟩ := hFS i yi hif hi
  rw [efm_i] at hmd_i hcb1_i hcb3_i hxv_i
  simp only [Prod.mk.injEq] at hcb1_i hcb3_i
  obtain ⟨ea1_i, ea2_i, ea3_i⟩ := hcb1_i
  obtain ⟨eb1_i, eb2_i, eb3_i, eb4_i⟩ := hcb3_i
  subst ea1_i ea2_i ea3_i eb1_i eb2_i eb3_i eb4_i
  have hfy_i : w.1 yi = some (2, 0, [zI (i : Int), zR va_i, zR md_i, zP (oA Fs (mmf fr i).2.1.1), zI ((mmf fr i).2.1.2.1 : Int), zI ((mmf fr i).2.1.2.2 : Int), zP ((cls i).bind (pgCl R)), zI (if (mmf fr i).2.2.1 = true then 1 else 0), zP (oA Fs (mmf fr i).2.2.2.1), zI ((mmf fr i).2.2.2.2 : Int)]) := hfy_i
  obtain ⟨hgo, hgv, hgx, -, -⟩ := id hgW
  have hgkd := (go_k hg3).1
  have hg13 := (go_k hg3).2
  rw [← hg4] at hgkd hg13
  rw [hgkd] at hgo
  have hvk : ∀ k : Nat, k < 3 → zVa (R.2.2.2.2.2.2 g).2.2.2.2 (k : Int) = ((smv e.1 k : Nat) : Int) ∧ smv e.1 k < 8 := fun k hk => by rw [hg4]; exact go_v hg3 hk
  have hvv : ∀ k : Nat, k < 3 → tvE tm (zVl xs_i ((smv e.1 k : Nat) : Int)) (V i (smv e.1 k)) := fun k hk => by rw [zVl_get hx_i (hvk k hk).2]; exact hxv_i _ (hvk k hk).2
  have hvn0 := tvE_none (hvv 0 (by omega))
  by_cases h300 : 300 ≤ ns
  · skip
    refine zx_aload_n (i := 2) dX4_beginGoal_0 rfl rfl ?_
    refine zx_ifnull (tgt := 17) dX4_beginGoal_1 (by decide) (fun h => by cases h) (fun _ => ?_)
    refine zx_aload_n (i := 0) dX4_beginGoal_4 rfl rfl ?_
    refine zx_getfield dX4_beginGoal_5 zf_X4_15 hmc rfl ?_
    refine zx_getfield dX4_beginGoal_8 zf_X4_274 hrp rfl ?_
    refine zx_sipush (v := 300) dX4_beginGoal_11 (by decide +kernel) (z32_lit (by decide) (by decide)) ?_
    refine zx_icmp_lt (tgt := 24) dX4_beginGoal_14 (by decide) (fun h14 => absurd h14 (by omega)) (fun h14 => ?_)
    refine zx_aload_n (i := 0) dX4_beginGoal_17 rfl rfl ?_
    refine zx_bipush (v := 108) dX4_beginGoal_18 (by decide +kernel) (z32_lit (by decide) (by decide)) ?_
    refine zx_ivN (b := mc) (As := [zI 108]) (st := []) dX4_beginGoal_20 zc_X4_232 hmc rfl rfl rfl (Nat.le_of_ble_eq_true rfl) rfl (c_X4_finish hM 108 (by decide)) (fun w5 hq => ?_)
    obtain ⟨hM5, hF5⟩ := hq
    refine zx_return dX4_beginGoal_23 rfl ?_
    rw [mg_l h300]
    exact ⟨rfl, ⟨Fs, hF3, pl0, ⟨_, _, _, _, _, _, _, _, _, _, _, _, _, _, _, _, _, _, _, hM5, ⟨⟨(by first | rfl | omega | simp), hfl, hJ, hcn, hFS⟩, ⟨rfl, hcuL, (by first | rfl | omega), rfl, hdeL, rfl⟩, ⟨rfl, hchL⟩, ⟨rfl, hTL⟩, htm, ⟨hA, (by first | rfl | omega), (by first | rfl | omega), (by first | rfl | omega), rfl⟩⟩⟩⟩, hF5⟩
  · by_cases hk23 : e.1.1 = 2 ∨ e.1.1 = 3
    · skip
      refine zx_aload_n (i := 2) dX4_beginGoal_0 rfl rfl ?_
      refine zx_ifnull (tgt := 17) dX4_beginGoal_1 (by decide) (fun h => by cases h) (fun _ => ?_)
      refine zx_aload_n (i := 0) dX4_beginGoal_4 rfl rfl ?_
      refine zx_getfield dX4_beginGoal_5 zf_X4_15 hmc rfl ?_
      refine zx_getfield dX4_beginGoal_8 zf_X4_274 hrp rfl ?_
      refine zx_sipush (v := 300) dX4_beginGoal_11 (by decide +kernel) (z32_lit (by decide) (by decide)) ?_
      refine zx_icmp_lt (tgt := 24) dX4_beginGoal_14 (by decide) (fun h14 => ?_) (fun h14 => absurd (by omega) h14)
      refine zx_aload_n (i := 0) dX4_beginGoal_24 rfl rfl ?_
      refine zx_getfield dX4_beginGoal_25 zf_X4_15 hmc rfl ?_
      refine zx_dup dX4_beginGoal_28 (fun a h => by cases h) ?_
      refine zx_getfield dX4_beginGoal_29 zf_X4_274 hrp rfl ?_
      refine zx_pc (pc1 := 32) rfl ?_
      refine zx_iconst (v := 1) dX4_beginGoal_32 rfl (z32_lit (by decide) (by decide)) ?_
      refine zx_iadd (v := ((ns : Int) + 1)) dX4_beginGoal_33 (zw_id ⟨by omega, by omega⟩) ?_
      obtain ⟨w_1, hw_2⟩ : ∃ ww, ww = zput w rp (8, 0, [zP mo, zR ri, zR ra, zR rn, zI ((ns : Int) + 1), zI (nc0 : Int), zI (dp0 : Int), zI 101, zI bk, zI bc]) := ⟨_, rfl⟩
      refine zx_put (w1 := w_1) dX4_beginGoal_34 zf_X4_274 hrp (Nat.le_of_ble_eq_true rfl) (zFt_int _) (fun h => by cases h) hw_2.symm ?_
      have q_3 : w_1.2.1 = w.2.1 ∧ w_1.2.2 = w.2.2 := by rw [hw_2]; exact ⟨rfl, rfl⟩
      have h_4 : w_1.1 rp = some (8, 0, [zP mo, zR ri, zR ra, zR rn, zI ((ns : Int) + 1), zI (nc0 : Int), zI (dp0 : Int), zI 101, zI bk, zI bc]) := by rw [hw_2]; exact zput_at
      have hfaL1 : zFa [rp] w w_1 := (zFa_put zFa_re (by simp) hw_2)
      have hFrr1 := fm_keep hFr hfaL1 (zLc hrp (by simp) zLn)
      have hmcF1 : mcF rp w w_1 := mcF_fa hfaL1 (zLc hrp (by simp [mcP]) zLn)
      have h_5 : w_1.1 mc = some (4, 0, [zR t, zR fa, zR ca, zR ta, zR rp, zI (fr.length : Int), zP (oA Fs cur), zI (pl0 : Int), zP (oA Fs den), zI (if false = true then 1 else 0), zI 0, zI 0]) := by
        rw [hw_2]; exact zput_tg hrp hmc (by simp)
      have h_6 : w_1.1 fa = some (166, mc, zLs cap Fs) := by
        rw [hw_2]; exact zput_tg hrp hfa (by simp)
      have h_7 : w_1.1 ca = some (138, mc, tTb 3 cc (ch.reverse.map (fun e => [(e.1 : Int), (e.2.1 : Int), (e.2.2 : Int)]))) := by
        rw [hw_2]; exact zput_tg hrp hca (by simp)
      have h_8 : w_1.1 ta = some (139, mc, tTb 2 ct (T.reverse.map (fun e => [(e.1 : Int), (e.2 : Int)]))) := by
        rw [hw_2]; exact zput_tg hrp hta (by simp)
      have h_9 : w_1.1 t = some (10, 0, [zI ty, zR tc, zR tn, zR th, zR tz]) := by
        rw [hw_2]; exact zput_tg hrp ht0 (by simp)
      have h_10 : w_1.1 tc = some (130, t, tTb 3 30 C) := by
        rw [hw_2]; exact zput_tg hrp htc (by simp)
      have h_11 : w_1.1 tn = some (131, t, tTb 4 800 N) := by
        rw [hw_2]; exact zput_tg hrp htn (by simp)
      have h_12 : w_1.1 th = some (132, t, tTb 1 64 H) := by
        rw [hw_2]; exact zput_tg hrp hth (by simp)
      have h_13 : w_1.1 tz = some (120, t, Sz.map zJ) := by
        rw [hw_2]; exact zput_tg hrp htz (by simp)
      have h_14 : w_1.1 ri = some (135, rp, tTb 1 3 I) := by
        rw [hw_2]; exact zput_tg hrp hri (by simp)
      have h_15 : w_1.1 ra = some (136, rp, tTb 3 150 A) := by
        rw [hw_2]; exact zput_tg hrp hra (by simp)
      have h_16 : w_1.1 rn = some (137, rp, tTb 2 160 (nt.map (fun e => [(e.1 : Int), (e.2 : Int)]))) := by
        rw [hw_2]; exact zput_tg hrp hrn (by simp)
      have hM1 : mcW w_1 b1 b2 ((mc, fa, ca, ta), (t, tc, tn, th, tz), (rp, ri, ra, rn), (ty, C), (mo, I, bk, bc)) (((cap, Fs), fm), (cc, (ch.reverse.map (fun e => [(e.1 : Int), (e.2.1 : Int), (e.2.2 : Int)]))), (ct, (T.reverse.map (fun e => [(e.1 : Int), (e.2 : Int)]))), ((fr.length : Int), (oA Fs cur), (pl0 : Int), (oA Fs den)), ((if false = true then 1 else 0), 0, 0), (N, H, Sz), (A, (nt.map (fun e => [(e.1 : Int), (e.2 : Int)])), ((ns : Int) + 1), (nc0 : Int), (dp0 : Int), 101)) := ⟨h_5, h_6, ⟨h_7, okC⟩, ⟨h_8, okT⟩, hFrr1, ⟨h_9, ⟨h_10, okTC⟩, ⟨h_11, okN⟩, ⟨h_12, okH⟩, h_13, hSz⟩, ⟨h_4, ⟨h_14, okI⟩, ⟨h_15, okA⟩, ⟨h_16, okNt⟩⟩, hcap, ⟨by omega, by omega, by omega, by omega⟩, by omega, by omega⟩
      have hW1 : msW w_1 b1 b2 ((mc, fa, ca, ta), (t, tc, tn, th, tz), (rp, ri, ra, rn), (ty, C), (mo, I, bk, bc)) R Fs (0, 0, 101) ((fr, cls, V, ch, T), (cur, pl0, den, false), tm, (na, (ns + 1), nc0, dp0), nt) := ⟨cap, fm, cc, (ch.reverse.map (fun e => [(e.1 : Int), (e.2.1 : Int), (e.2.2 : Int)])), ct, (T.reverse.map (fun e => [(e.1 : Int), (e.2 : Int)])), (fr.length : Int), (oA Fs cur), (pl0 : Int), (oA Fs den), (if false = true then 1 else 0), N, H, Sz, A, (nt.map (fun e => [(e.1 : Int), (e.2 : Int)])), ((ns : Int) + 1), (nc0 : Int), (dp0 : Int), hM1, ⟨⟨(by first | rfl | omega | simp), hfl, hJ, hcn, hFS⟩, ⟨rfl, hcuL, (by first | rfl | omega), rfl, hdeL, rfl⟩, ⟨rfl, hchL⟩, ⟨rfl, hTL⟩, htm, ⟨hA, (by first | rfl | omega), (by first | rfl | omega), (by first | rfl | omega), rfl⟩⟩⟩
      have hP1 : pgW w_1 pg R := pgW_TM hP (mcF_fr hmcF1)
      have hgW1 : goW w_1 g (R.2.2.2.2.2.2 g) := ⟨hmcF1 _ _ hgW.1 (Or.inl (by simp)), hmcF1 _ _ hgW.2.1 (Or.inl (by simp)), hgW.2.2⟩
      refine zx_aload_n (i := 2) dX4_beginGoal_37 rfl rfl ?_
      have h_17 : w_1.1 g = some (3, 0, [zI (e.1.1 : Int), zI (R.2.2.2.2.2.2 g).2.1, zI (R.2.2.2.2.2.2 g).2.2.1, zR (R.2.2.2.2.2.2 g).2.2.2.1]) := by
        rw [hw_2]; exact zput_tg hrp hgo (by simp)
      refine zx_iv (b := g) (As := []) (st := []) (v := (some (zI (zB ((e.1.1 : Int) = 2 ∨ (e.1.1 : Int) = 3))))) (w1 := w_1) dX4_beginGoal_38 zc_X4_277 h_17 rfl rfl rfl (Nat.le_of_ble_eq_true rfl) rfl (c_X3_isCalling h_17) ?_
      refine zx_st (st1 := [zI (zB ((e.1.1 : Int) = 2 ∨ (e.1.1 : Int) = 3))]) rfl ?_
      refine zx_if_eq (tgt := 51) dX4_beginGoal_41 (by decide) (fun h41 => absurd h41 (by rw [zB_t (by omega)]; decide)) (fun h41 => ?_)
      refine zx_aload_n (i := 0) dX4_beginGoal_44 rfl rfl ?_
      refine zx_aload_n (i := 1) dX4_beginGoal_45 rfl rfl ?_
      refine zx_aload_n (i := 2) dX4_beginGoal_46 rfl rfl ?_
      refine zx_ivN (b := mc) (As := [zR yi, zR g]) (st := []) dX4_beginGoal_47 zc_X4_281 h_5 rfl rfl rfl (Nat.le_of_ble_eq_true rfl) rfl (s_beginCall hP1 hK hW1 hG1 hG2 hF3 hfl0 h300 hch hnc hif hi hcl hcA he hgW1 hg3 hg4 hk23 (hcall hk23)) (fun w5 hq => ?_)
      obtain ⟨hW5, hF5⟩ := hq
      refine zx_return dX4_beginGoal_50 rfl ?_
      exact ⟨rfl, hW5, (mcF_tr hmcF1 hF5)⟩
    · by_cases hk1 : e.1.1 = 1
      · by_cases hv0 : V i (smv e.1 0) = none
        · skip
          cases hy : (mmAg V T i (smv e.1 0) (V i (smv e.1 1))).1 with
          | true =>
            refine zx_aload_n (i := 2) dX4_beginGoal_0 rfl rfl ?_
            refine zx_ifnull (tgt := 17) dX4_beginGoal_1 (by decide) (fun h => by cases h) (fun _ => ?_)
            refine zx_aload_n (i := 0) dX4_beginGoal_4 rfl rfl ?_
            refine zx_getfield dX4_beginGoal_5 zf_X4_15 hmc rfl ?_
            refine zx_getfield dX4_beginGoal_8 zf_X4_274 hrp rfl ?_
            refine zx_sipush (v := 300) dX4_beginGoal_11 (by decide +kernel) (z32_lit (by decide) (by decide)) ?_
            refine zx_icmp_lt (tgt := 24) dX4_beginGoal_14 (by decide) (fun h14 => ?_) (fun h14 => absurd (by omega) h14)
            refine zx_aload_n (i := 0) dX4_beginGoal_24 rfl rfl ?_
            refine zx_getfield dX4_beginGoal_25 zf_X4_15 hmc rfl ?_
            refine zx_dup dX4_beginGoal_28 (fun a h => by cases h) ?_
            refine zx_getfield dX4_beginGoal_29 zf_X4_274 hrp rfl ?_
            refine zx_pc (pc1 := 32) rfl ?_
            refine zx_iconst (v := 1) dX4_beginGoal_32 rfl (z32_lit (by decide) (by decide)) ?_
            refine zx_iadd (v := ((ns : Int) + 1)) dX4_beginGoal_33 (zw_id ⟨by omega, by omega⟩) ?_
            obtain ⟨w_1, hw_2⟩ : ∃ ww, ww = zput w rp (8, 0, [zP mo, zR ri, zR ra, zR rn, zI ((ns : Int) + 1), zI (nc0 : Int), zI (dp0 : Int), zI 101, zI bk, zI bc]) := ⟨_, rfl⟩
            refine zx_put (w1 := w_1) dX4_beginGoal_34 zf_X4_274 hrp (Nat.le_of_ble_eq_true rfl) (zFt_int _) (fun h => by cases h) hw_2.symm ?_
            have q_3 : w_1.2.1 = w.2.1 ∧ w_1.2.2 = w.2.2 := by rw [hw_2]; exact ⟨rfl, rfl⟩
            have h_4 : w_1.1 rp = some (8, 0, [zP mo, zR ri, zR ra, zR rn, zI ((ns : Int) + 1), zI (nc0 : Int), zI (dp0 : Int), zI 101, zI bk, zI bc]) := by rw [hw_2]; exact zput_at
            have hfaL1 : zFa [rp] w w_1 := (zFa_put zFa_re (by simp) hw_2)
            have hFrr1 := fm_keep hFr hfaL1 (zLc hrp (by simp) zLn)
            have hmcF1 : mcF rp w w_1 := mcF_fa hfaL1 (zLc hrp (by simp [mcP]) zLn)
            have h_5 : w_1.1 mc = some (4, 0, [zR t, zR fa, zR ca, zR ta, zR rp, zI (fr.length : Int), zP (oA Fs cur), zI (pl0 : Int), zP (oA Fs den), zI (if false = true then 1 else 0), zI 0, zI 0]) := by
              rw [hw_2]; exact zput_tg hrp hmc (by simp)
            have h_6 : w_1.1 fa = some (166, mc, zLs cap Fs) := by
              rw [hw_2]; exact zput_tg hrp hfa (by simp)
            have h_7 : w_1.1 ca = some (138, mc, tTb 3 cc (ch.reverse.map (fun e => [(e.1 : Int), (e.2.1 : Int), (e.2.2 : Int)]))) := by
              rw [hw_2]; exact zput_tg hrp hca (by simp)
            have h_8 : w_1.1 ta = some (139, mc, tTb 2 ct (T.reverse.map (fun e => [(e.1 : Int), (e.2 : Int)]))) := by
              rw [hw_2]; exact zput_tg hrp hta (by simp)
            have h_9 : w_1.1 t = some (10, 0, [zI ty, zR tc, zR tn, zR th, zR tz]) := by
              rw [hw_2]; exact zput_tg hrp ht0 (by simp)
            have h_10 : w_1.1 tc = some (130, t, tTb 3 30 C) := by
              rw [hw_2]; exact zput_tg hrp htc (by simp)
            have h_11 : w_1.1 tn = some (131, t, tTb 4 800 N) := by
              rw [hw_2]; exact zput_tg hrp htn (by simp)
            have h_12 : w_1.1 th = some (132, t, tTb 1 64 H) := by
              rw [hw_2]; exact zput_tg hrp hth (by simp)
            have h_13 : w_1.1 tz = some (120, t, Sz.map zJ) := by
              rw [hw_2]; exact zput_tg hrp htz (by simp)
            have h_14 : w_1.1 ri = some (135, rp, tTb 1 3 I) := by
              rw [hw_2]; exact zput_tg hrp hri (by simp)
            have h_15 : w_1.1 ra = some (136, rp, tTb 3 150 A) := by
              rw [hw_2]; exact zput_tg hrp hra (by simp)
            have h_16 : w_1.1 rn = some (137, rp, tTb 2 160 (nt.map (fun e => [(e.1 : Int), (e.2 : Int)]))) := by
              rw [hw_2]; exact zput_tg hrp hrn (by simp)
            have hM1 : mcW w_1 b1 b2 ((mc, fa, ca, ta), (t, tc, tn, th, tz), (rp, ri, ra, rn), (ty, C), (mo, I, bk, bc)) (((cap, Fs), fm), (cc, (ch.reverse.map (fun e => [(e.1 : Int), (e.2.1 : Int), (e.2.2 : Int)]))), (ct, (T.reverse.map (fun e => [(e.1 : Int), (e.2 : Int)]))), ((fr.length : Int), (oA Fs cur), (pl0 : Int), (oA Fs den)), ((if false = true then 1 else 0), 0, 0), (N, H, Sz), (A, (nt.map (fun e => [(e.1 : Int), (e.2 : Int)])), ((ns : Int) + 1), (nc0 : Int), (dp0 : Int), 101)) := ⟨h_5, h_6, ⟨h_7, okC⟩, ⟨h_8, okT⟩, hFrr1, ⟨h_9, ⟨h_10, okTC⟩, ⟨h_11, okN⟩, ⟨h_12, okH⟩, h_13, hSz⟩, ⟨h_4, ⟨h_14, okI⟩, ⟨h_15, okA⟩, ⟨h_16, okNt⟩⟩, hcap, ⟨by omega, by omega, by omega, by omega⟩, by omega, by omega⟩
            have hW1 : msW w_1 b1 b2 ((mc, fa, ca, ta), (t, tc, tn, th, tz), (rp, ri, ra, rn), (ty, C), (mo, I, bk, bc)) R Fs (0, 0, 101) ((fr, cls, V, ch, T), (cur, pl0, den, false), tm, (na, (ns + 1), nc0, dp0), nt) := ⟨cap, fm, cc, (ch.reverse.map (fun e => [(e.1 : Int), (e.2.1 : Int), (e.2.2 : Int)])), ct, (T.reverse.map (fun e => [(e.1 : Int), (e.2 : Int)])), (fr.length : Int), (oA Fs cur), (pl0 : Int), (oA Fs den), (if false = true then 1 else 0), N, H, Sz, A, (nt.map (fun e => [(e.1 : Int), (e.2 : Int)])), ((ns : Int) + 1), (nc0 : Int), (dp0 : Int), hM1, ⟨⟨(by first | rfl | omega | simp), hfl, hJ, hcn, hFS⟩, ⟨rfl, hcuL, (by first | rfl | omega), rfl, hdeL, rfl⟩, ⟨rfl, hchL⟩, ⟨rfl, hTL⟩, htm, ⟨hA, (by first | rfl | omega), (by first | rfl | omega), (by first | rfl | omega), rfl⟩⟩⟩
            have hP1 : pgW w_1 pg R := pgW_TM hP (mcF_fr hmcF1)
            have hgW1 : goW w_1 g (R.2.2.2.2.2.2 g) := ⟨hmcF1 _ _ hgW.1 (Or.inl (by simp)), hmcF1 _ _ hgW.2.1 (Or.inl (by simp)), hgW.2.2⟩
            refine zx_aload_n (i := 2) dX4_beginGoal_37 rfl rfl ?_
            have h_17 : w_1.1 g = some (3, 0, [zI (e.1.1 : Int), zI (R.2.2.2.2.2.2 g).2.1, zI (R.2.2.2.2.2.2 g).2.2.1, zR (R.2.2.2.2.2.2 g).2.2.2.1]) := by
              rw [hw_2]; exact zput_tg hrp hgo (by simp)
            refine zx_iv (b := g) (As := []) (st := []) (v := (some (zI (zB ((e.1.1 : Int) = 2 ∨ (e.1.1 : Int) = 3))))) (w1 := w_1) dX4_beginGoal_38 zc_X4_277 h_17 rfl rfl rfl (Nat.le_of_ble_eq_true rfl) rfl (c_X3_isCalling h_17) ?_
            refine zx_st (st1 := [zI (zB ((e.1.1 : Int) = 2 ∨ (e.1.1 : Int) = 3))]) rfl ?_
            refine zx_if_eq (tgt := 51) dX4_beginGoal_41 (by decide) (fun h41 => ?_) (fun h41 => absurd (zB_f (by omega)) h41)
            refine zx_aload_n (i := 2) dX4_beginGoal_51 rfl rfl ?_
            refine zx_iconst (v := 0) dX4_beginGoal_52 rfl (z32_lit (by decide) (by decide)) ?_
            have h_18 : w_1.1 ((R.2.2.2.2.2.2 g).2.2.2.1) = some (100, g, (R.2.2.2.2.2.2 g).2.2.2.2.map Sum.inl) := by
              rw [hw_2]; exact zput_tg hrp hgv (by simp)
            refine zx_iv (b := g) (As := [zI 0]) (st := []) (v := (some (zI ((smv e.1 0 : Nat) : Int)))) (w1 := w_1) dX4_beginGoal_53 zc_X4_267 h_17 rfl rfl rfl (Nat.le_of_ble_eq_true rfl) rfl (by have q := c_X3_variableAt (G := G) (d := d + 7) h_17 h_18 hgx (0 : Int); rw [show zVa (R.2.2.2.2.2.2 g).2.2.2.2 0 = _ from (hvk 0 (by omega)).1] at q; exact q) ?_
            refine zx_st (st1 := [zI ((smv e.1 0 : Nat) : Int)]) rfl ?_
            refine zx_istore_n (i := 3) dX4_beginGoal_56 rfl (by decide) rfl ?_
            refine zx_L (L1 := [some (zR mc), some (zR yi), some (zR g), some (zI ((smv e.1 0 : Nat) : Int)), none, none, none]) rfl ?_
            refine zx_aload_n (i := 2) dX4_beginGoal_57 rfl rfl ?_
            refine zx_iconst (v := 1) dX4_beginGoal_58 rfl (z32_lit (by decide) (by decide)) ?_
            refine zx_pc (pc1 := 59) rfl ?_
            refine zx_iv (b := g) (As := [zI 1]) (st := []) (v := (some (zI ((smv e.1 1 : Nat) : Int)))) (w1 := w_1) dX4_beginGoal_59 zc_X4_267 h_17 rfl rfl rfl (Nat.le_of_ble_eq_true rfl) rfl (by have q := c_X3_variableAt (G := G) (d := d + 7) h_17 h_18 hgx (1 : Int); rw [show zVa (R.2.2.2.2.2.2 g).2.2.2.2 1 = _ from (hvk 1 (by omega)).1] at q; exact q) ?_
            refine zx_st (st1 := [zI ((smv e.1 1 : Nat) : Int)]) rfl ?_
            refine zx_istore (i := 4) dX4_beginGoal_62 (by decide) rfl ?_
            refine zx_L (L1 := [some (zR mc), some (zR yi), some (zR g), some (zI ((smv e.1 0 : Nat) : Int)), some (zI ((smv e.1 1 : Nat) : Int)), none, none]) rfl ?_
            refine zx_aload_n (i := 2) dX4_beginGoal_64 rfl rfl ?_
            refine zx_getfield dX4_beginGoal_65 zf_X4_284 h_17 rfl ?_
            refine zx_iconst (v := 1) dX4_beginGoal_68 rfl (z32_lit (by decide) (by decide)) ?_
            refine zx_icmp_ne (tgt := 138) dX4_beginGoal_69 (by decide) (fun h69 => absurd h69 (by omega)) (fun h69 => ?_)
            refine zx_aload_n (i := 1) dX4_beginGoal_72 rfl rfl ?_
            refine zx_iload_n (i := 3) dX4_beginGoal_73 rfl rfl ?_
            have h_19 : w_1.1 va_i = some (104, yi, xs_i.map Sum.inl) := by
              rw [hw_2]; exact zput_tg hrp hva_i (by simp)
            have h_20 : w_1.1 yi = some (2, 0, [zI (i : Int), zR va_i, zR md_i, zP (oA Fs (mmf fr i).2.1.1), zI ((mmf fr i).2.1.2.1 : Int), zI ((mmf fr i).2.1.2.2 : Int), zP ((cls i).bind (pgCl R)), zI (if (mmf fr i).2.2.1 = true then 1 else 0), zP (oA Fs (mmf fr i).2.2.2.1), zI ((mmf fr i).2.2.2.2 : Int)]) := by
              rw [hw_2]; exact zput_tg hrp hfy_i (by simp)
            refine zx_iv (b := yi) (As := [zI ((smv e.1 0 : Nat) : Int)]) (st := []) (v := (some (zI (zVl xs_i ((smv e.1 0 : Nat) : Int))))) (w1 := w_1) dX4_beginGoal_74 zc_X4_203 h_20 rfl rfl rfl (Nat.le_of_ble_eq_true rfl) rfl (c_X2_valueOf h_20 h_19 (by omega) ((smv e.1 0 : Nat) : Int)) ?_
            refine zx_st (st1 := [zI (zVl xs_i ((smv e.1 0 : Nat) : Int))]) rfl ?_
            refine zx_iconst (v := -1) dX4_beginGoal_77 rfl (z32_lit (by decide) (by decide)) ?_
            refine zx_icmp_eq (tgt := 85) dX4_beginGoal_78 (by decide) (fun h78 => ?_) (fun h78 => absurd (hvn0.mpr hv0) h78)
            refine zx_iconst (v := 0) dX4_beginGoal_85 rfl (z32_lit (by decide) (by decide)) ?_
            refine zx_pc (pc1 := 86) rfl ?_
            refine zx_istore (i := 5) dX4_beginGoal_86 (by decide) rfl ?_
            refine zx_L (L1 := [some (zR mc), some (zR yi), some (zR g), some (zI ((smv e.1 0 : Nat) : Int)), some (zI ((smv e.1 1 : Nat) : Int)), some (zI 0), none]) rfl ?_
            refine zx_aload_n (i := 1) dX4_beginGoal_88 rfl rfl ?_
            refine zx_iload (i := 5) dX4_beginGoal_89 rfl ?_
            refine zx_if_eq (tgt := 98) dX4_beginGoal_91 (by decide) (fun h91 => ?_) (fun h91 => absurd (by decide) h91)
            refine zx_iload (i := 4) dX4_beginGoal_98 rfl ?_
            refine zx_iv (b := yi) (As := [zI ((smv e.1 1 : Nat) : Int)]) (st := []) (v := (some (zI (zVl xs_i ((smv e.1 1 : Nat) : Int))))) (w1 := w_1) dX4_beginGoal_100 zc_X4_203 h_20 rfl rfl rfl (Nat.le_of_ble_eq_true rfl) rfl (c_X2_valueOf h_20 h_19 (by omega) ((smv e.1 1 : Nat) : Int)) ?_
            refine zx_st (st1 := [zI (zVl xs_i ((smv e.1 1 : Nat) : Int))]) rfl ?_
            refine zx_istore (i := 6) dX4_beginGoal_103 (by decide) rfl ?_
            refine zx_L (L1 := [some (zR mc), some (zR yi), some (zR g), some (zI ((smv e.1 0 : Nat) : Int)), some (zI ((smv e.1 1 : Nat) : Int)), some (zI 0), some (zI (zVl xs_i ((smv e.1 1 : Nat) : Int)))]) rfl ?_
            refine zx_aload_n (i := 0) dX4_beginGoal_105 rfl rfl ?_
            refine zx_aload_n (i := 0) dX4_beginGoal_106 rfl rfl ?_
            refine zx_aload_n (i := 1) dX4_beginGoal_107 rfl rfl ?_
            refine zx_iload (i := 5) dX4_beginGoal_108 rfl ?_
            refine zx_if_eq (tgt := 118) dX4_beginGoal_110 (by decide) (fun h110 => ?_) (fun h110 => absurd (by decide) h110)
            refine zx_pc (pc1 := 118) rfl ?_
            refine zx_iload_n (i := 3) dX4_beginGoal_118 rfl rfl ?_
            refine zx_iload (i := 6) dX4_beginGoal_119 rfl ?_
            refine zx_ivV (b := mc) (As := [zR yi, zI ((smv e.1 0 : Nat) : Int), zI (zVl xs_i ((smv e.1 1 : Nat) : Int))]) (st := [zR mc]) dX4_beginGoal_121 zc_X4_270 h_5 rfl rfl rfl (Nat.le_of_ble_eq_true rfl) rfl (s_agrees hW1 hG1 hG2 hF3 (by omega) hif hi (hvk 0 (by omega)).2 (hvv 1 (by omega))) (fun v4 w4 hq => ?_)
            obtain ⟨ev4, hW4, hF4⟩ := hq
            subst ev4
            obtain ⟨cap4, fm4, cc4, CH4, ct4, TR4, us4, cu4, pl4, de4, fl4, N4, H4, Sz4, A4, Nt4, sc4, nc4, dp4, hM4, hS4⟩ := id hW4
            obtain ⟨⟨hus4, hfl4, hJ4, hcn4, hFS4⟩, ⟨hcu4, hcuL4, hpl4, hde4, hdeL4, hfb4⟩, ⟨hCH4, hchL4⟩, ⟨hTR4, hTL4⟩, htm4, ⟨hA4, hsc4, hnc4, hdp4, hNt4⟩⟩ := id hS4
            subst hus4 hcu4 hpl4 hde4 hfb4 hCH4 hTR4 hsc4 hnc4 hdp4 hNt4
            obtain ⟨hmc4, hfa4, ⟨hca4, okC4⟩, ⟨hta4, okT4⟩, hFr4, ⟨ht04, ⟨htc4, okTC4⟩, ⟨htn4, okN4⟩, ⟨hth4, okH4⟩, htz4, hSz4⟩, ⟨hrp4, ⟨hri4, okI4⟩, ⟨hra4, okA4⟩, ⟨hrn4, okNt4⟩⟩, hcap4, hcct4, hrm14, hrm24⟩ := id hM4
            refine zx_if_ne (tgt := 131) dX4_beginGoal_124 (by decide) (fun h124 => ?_) (fun h124 => absurd (by rw [zB_t hy]; decide) h124)
            refine zx_iconst (v := 0) dX4_beginGoal_131 rfl (z32_lit (by decide) (by decide)) ?_
            obtain ⟨w_21, hw_22⟩ : ∃ ww, ww = zput w4 mc (4, 0, [zR t, zR fa, zR ca, zR ta, zR rp, zI (fr.length : Int), zP (oA Fs cur), zI (pl0 : Int), zP (oA Fs den), zI 0, zI 0, zI 0]) := ⟨_, rfl⟩
            refine zx_put (w1 := w_21) dX4_beginGoal_132 zf_X4_57 hmc4 (Nat.le_of_ble_eq_true rfl) (zFt_bool (by first | exact Or.inl rfl | exact Or.inr rfl | exact zB_or | assumption)) (fun h => by cases h) hw_22.symm ?_
            have q_23 : w_21.2.1 = w4.2.1 ∧ w_21.2.2 = w4.2.2 := by rw [hw_22]; exact ⟨rfl, rfl⟩
            have h_24 : w_21.1 mc = some (4, 0, [zR t, zR fa, zR ca, zR ta, zR rp, zI (fr.length : Int), zP (oA Fs cur), zI (pl0 : Int), zP (oA Fs den), zI 0, zI 0, zI 0]) := by rw [hw_22]; exact zput_at
            refine zx_goto (tgt := 179) dX4_beginGoal_135 (by decide) ?_
            refine zx_aload_n (i := 0) dX4_beginGoal_179 rfl rfl ?_
            refine zx_dup dX4_beginGoal_180 (fun a h => by cases h) ?_
            refine zx_getfield dX4_beginGoal_181 zf_X4_69 h_24 rfl ?_
            refine zx_iconst (v := 1) dX4_beginGoal_184 rfl (z32_lit (by decide) (by decide)) ?_
            refine zx_iadd (v := ((pl0 : Int) + 1)) dX4_beginGoal_185 (zw_id ⟨by omega, by omega⟩) ?_
            refine zx_pc (pc1 := 186) rfl ?_
            obtain ⟨w_25, hw_26⟩ : ∃ ww, ww = zput w_21 mc (4, 0, [zR t, zR fa, zR ca, zR ta, zR rp, zI (fr.length : Int), zP (oA Fs cur), zI ((pl0 : Int) + 1), zP (oA Fs den), zI 0, zI 0, zI 0]) := ⟨_, rfl⟩
            refine zx_put (w1 := w_25) dX4_beginGoal_186 zf_X4_69 h_24 (Nat.le_of_ble_eq_true rfl) (zFt_int _) (fun h => by cases h) hw_26.symm ?_
            have q_27 : w_25.2.1 = w_21.2.1 ∧ w_25.2.2 = w_21.2.2 := by rw [hw_26]; exact ⟨rfl, rfl⟩
            have h_28 : w_25.1 mc = some (4, 0, [zR t, zR fa, zR ca, zR ta, zR rp, zI (fr.length : Int), zP (oA Fs cur), zI ((pl0 : Int) + 1), zP (oA Fs den), zI 0, zI 0, zI 0]) := by rw [hw_26]; exact zput_at
            refine zx_return dX4_beginGoal_189 rfl ?_
            have hfaL6 : zFa [mc] w4 w_25 := (zFa_put (zFa_put zFa_re (by simp) hw_22) (by simp) hw_26)
            have hFrr6 := fm_keep hFr4 hfaL6 (zLc hmc4 (by simp) zLn)
            have hmcF6 : mcF rp w4 w_25 := mcF_fa hfaL6 (zLc hmc4 (by simp [mcP]) zLn)
            have h_29 : w_21.1 fa = some (166, mc, zLs cap4 Fs) := by
              rw [hw_22]; exact zput_tg hmc4 hfa4 (by simp)
            have h_30 : w_25.1 fa = some (166, mc, zLs cap4 Fs) := by
              rw [hw_26]; exact zput_tg h_24 h_29 (by simp)
            have h_31 : w_21.1 ca = some (138, mc, tTb 3 cc4 (ch.reverse.map (fun e => [(e.1 : Int), (e.2.1 : Int), (e.2.2 : Int)]))) := by
              rw [hw_22]; exact zput_tg hmc4 hca4 (by simp)
            have h_32 : w_25.1 ca = some (138, mc, tTb 3 cc4 (ch.reverse.map (fun e => [(e.1 : Int), (e.2.1 : Int), (e.2.2 : Int)]))) := by
              rw [hw_26]; exact zput_tg h_24 h_31 (by simp)
            have h_33 : w_21.1 ta = some (139, mc, tTb 2 ct4 (((mmAg V T i (smv e.1 0) (V i (smv e.1 1))).2.2).reverse.map (fun e => [(e.1 : Int), (e.2 : Int)]))) := by
              rw [hw_22]; exact zput_tg hmc4 hta4 (by simp)
            have h_34 : w_25.1 ta = some (139, mc, tTb 2 ct4 (((mmAg V T i (smv e.1 0) (V i (smv e.1 1))).2.2).reverse.map (fun e => [(e.1 : Int), (e.2 : Int)]))) := by
              rw [hw_26]; exact zput_tg h_24 h_33 (by simp)
            have h_35 : w_21.1 t = some (10, 0, [zI ty, zR tc, zR tn, zR th, zR tz]) := by
              rw [hw_22]; exact zput_tg hmc4 ht04 (by simp)
            have h_36 : w_25.1 t = some (10, 0, [zI ty, zR tc, zR tn, zR th, zR tz]) := by
              rw [hw_26]; exact zput_tg h_24 h_35 (by simp)
            have h_37 : w_21.1 tc = some (130, t, tTb 3 30 C) := by
              rw [hw_22]; exact zput_tg hmc4 htc4 (by simp)
            have h_38 : w_25.1 tc = some (130, t, tTb 3 30 C) := by
              rw [hw_26]; exact zput_tg h_24 h_37 (by simp)
            have h_39 : w_21.1 tn = some (131, t, tTb 4 800 N4) := by
              rw [hw_22]; exact zput_tg hmc4 htn4 (by simp)
            have h_40 : w_25.1 tn = some (131, t, tTb 4 800 N4) := by
              rw [hw_26]; exact zput_tg h_24 h_39 (by simp)
            have h_41 : w_21.1 th = some (132, t, tTb 1 64 H4) := by
              rw [hw_22]; exact zput_tg hmc4 hth4 (by simp)
            have h_42 : w_25.1 th = some (132, t, tTb 1 64 H4) := by
              rw [hw_26]; exact zput_tg h_24 h_41 (by simp)
            have h_43 : w_21.1 tz = some (120, t, Sz4.map zJ) := by
              rw [hw_22]; exact zput_tg hmc4 htz4 (by simp)
            have h_44 : w_25.1 tz = some (120, t, Sz4.map zJ) := by
              rw [hw_26]; exact zput_tg h_24 h_43 (by simp)
            have h_45 : w_21.1 rp = some (8, 0, [zP mo, zR ri, zR ra, zR rn, zI (((ns + 1) : Nat) : Int), zI (nc0 : Int), zI (dp0 : Int), zI 101, zI bk, zI bc]) := by
              rw [hw_22]; exact zput_tg hmc4 hrp4 (by simp)
            have h_46 : w_25.1 rp = some (8, 0, [zP mo, zR ri, zR ra, zR rn, zI (((ns + 1) : Nat) : Int), zI (nc0 : Int), zI (dp0 : Int), zI 101, zI bk, zI bc]) := by
              rw [hw_26]; exact zput_tg h_24 h_45 (by simp)
            have h_47 : w_21.1 ri = some (135, rp, tTb 1 3 I) := by
              rw [hw_22]; exact zput_tg hmc4 hri4 (by simp)
            have h_48 : w_25.1 ri = some (135, rp, tTb 1 3 I) := by
              rw [hw_26]; exact zput_tg h_24 h_47 (by simp)
            have h_49 : w_21.1 ra = some (136, rp, tTb 3 150 A4) := by
              rw [hw_22]; exact zput_tg hmc4 hra4 (by simp)
            have h_50 : w_25.1 ra = some (136, rp, tTb 3 150 A4) := by
              rw [hw_26]; exact zput_tg h_24 h_49 (by simp)
            have h_51 : w_21.1 rn = some (137, rp, tTb 2 160 (nt.map (fun e => [(e.1 : Int), (e.2 : Int)]))) := by
              rw [hw_22]; exact zput_tg hmc4 hrn4 (by simp)
            have h_52 : w_25.1 rn = some (137, rp, tTb 2 160 (nt.map (fun e => [(e.1 : Int), (e.2 : Int)]))) := by
              rw [hw_26]; exact zput_tg h_24 h_51 (by simp)
            have hM6 : mcW w_25 b1 b2 ((mc, fa, ca, ta), (t, tc, tn, th, tz), (rp, ri, ra, rn), (ty, C), (mo, I, bk, bc)) (((cap4, Fs), fm4), (cc4, (ch.reverse.map (fun e => [(e.1 : Int), (e.2.1 : Int), (e.2.2 : Int)]))), (ct4, (((mmAg V T i (smv e.1 0) (V i (smv e.1 1))).2.2).reverse.map (fun e => [(e.1 : Int), (e.2 : Int)]))), ((fr.length : Int), (oA Fs cur), ((pl0 : Int) + 1), (oA Fs den)), (0, 0, 0), (N4, H4, Sz4), (A4, (nt.map (fun e => [(e.1 : Int), (e.2 : Int)])), (((ns + 1) : Nat) : Int), (nc0 : Int), (dp0 : Int), 101)) := ⟨h_28, h_30, ⟨h_32, okC4⟩, ⟨h_34, okT4⟩, hFrr6, ⟨h_36, ⟨h_38, okTC4⟩, ⟨h_40, okN4⟩, ⟨h_42, okH4⟩, h_44, hSz4⟩, ⟨h_46, ⟨h_48, okI4⟩, ⟨h_50, okA4⟩, ⟨h_52, okNt4⟩⟩, hcap4, ⟨by omega, by omega, by omega, by omega⟩, by omega, by omega⟩
            have hW6 : msW w_25 b1 b2 ((mc, fa, ca, ta), (t, tc, tn, th, tz), (rp, ri, ra, rn), (ty, C), (mo, I, bk, bc)) R Fs (0, 0, 101) ((fr, cls, (mmAg V T i (smv e.1 0) (V i (smv e.1 1))).2.1, ch, (mmAg V T i (smv e.1 0) (V i (smv e.1 1))).2.2), (cur, (pl0 + 1), den, (!(mmAg V T i (smv e.1 0) (V i (smv e.1 1))).1)), tm, (na, (ns + 1), nc0, dp0), nt) := ⟨cap4, fm4, cc4, (ch.reverse.map (fun e => [(e.1 : Int), (e.2.1 : Int), (e.2.2 : Int)])), ct4, (((mmAg V T i (smv e.1 0) (V i (smv e.1 1))).2.2).reverse.map (fun e => [(e.1 : Int), (e.2 : Int)])), (fr.length : Int), (oA Fs cur), ((pl0 : Int) + 1), (oA Fs den), 0, N4, H4, Sz4, A4, (nt.map (fun e => [(e.1 : Int), (e.2 : Int)])), (((ns + 1) : Nat) : Int), (nc0 : Int), (dp0 : Int), hM6, ⟨⟨(by first | rfl | omega | simp), hfl4, hJ4, hcn4, hFS4⟩, ⟨rfl, hcuL4, (by first | rfl | omega), rfl, hdeL4, (by rw [hy]; rfl)⟩, ⟨rfl, hchL4⟩, ⟨rfl, hTL4⟩, htm4, ⟨hA4, (by first | rfl | omega), (by first | rfl | omega), (by first | rfl | omega), rfl⟩⟩⟩
            rw [mg_e h300 hk23, mmEq_sn hk1 hv0]
            exact ⟨rfl, ⟨Fs, hF3, hW6⟩, (mcF_tr hmcF1 (mcF_tr hF4 hmcF6))⟩
          | false =>
            refine zx_aload_n (i := 2) dX4_beginGoal_0 rfl rfl ?_
            refine zx_ifnull (tgt := 17) dX4_beginGoal_1 (by decide) (fun h => by cases h) (fun _ => ?_)
            refine zx_aload_n (i := 0) dX4_beginGoal_4 rfl rfl ?_
            refine zx_getfield dX4_beginGoal_5 zf_X4_15 hmc rfl ?_
            refine zx_getfield dX4_beginGoal_8 zf_X4_274 hrp rfl ?_
            refine zx_sipush (v := 300) dX4_beginGoal_11 (by decide +kernel) (z32_lit (by decide) (by decide)) ?_
            refine zx_icmp_lt (tgt := 24) dX4_beginGoal_14 (by decide) (fun h14 => ?_) (fun h14 => absurd (by omega) h14)
            refine zx_aload_n (i := 0) dX4_beginGoal_24 rfl rfl ?_
            refine zx_getfield dX4_beginGoal_25 zf_X4_15 hmc rfl ?_
            refine zx_dup dX4_beginGoal_28 (fun a h => by cases h) ?_
            refine zx_getfield dX4_beginGoal_29 zf_X4_274 hrp rfl ?_
            refine zx_pc (pc1 := 32) rfl ?_
            refine zx_iconst (v := 1) dX4_beginGoal_32 rfl (z32_lit (by decide) (by decide)) ?_
            refine zx_iadd (v := ((ns : Int) + 1)) dX4_beginGoal_33 (zw_id ⟨by omega, by omega⟩) ?_
            obtain ⟨w_1, hw_2⟩ : ∃ ww, ww = zput w rp (8, 0, [zP mo, zR ri, zR ra, zR rn, zI ((ns : Int) + 1), zI (nc0 : Int), zI (dp0 : Int), zI 101, zI bk, zI bc]) := ⟨_, rfl⟩
            refine zx_put (w1 := w_1) dX4_beginGoal_34 zf_X4_274 hrp (Nat.le_of_ble_eq_true rfl) (zFt_int _) (fun h => by cases h) hw_2.symm ?_
            have q_3 : w_1.2.1 = w.2.1 ∧ w_1.2.2 = w.2.2 := by rw [hw_2]; exact ⟨rfl, rfl⟩
            have h_4 : w_1.1 rp = some (8, 0, [zP mo, zR ri, zR ra, zR rn, zI ((ns : Int) + 1), zI (nc0 : Int), zI (dp0 : Int), zI 101, zI bk, zI bc]) := by rw [hw_2]; exact zput_at
            have hfaL1 : zFa [rp] w w_1 := (zFa_put zFa_re (by simp) hw_2)
            have hFrr1 := fm_keep hFr hfaL1 (zLc hrp (by simp) zLn)
            have hmcF1 : mcF rp w w_1 := mcF_fa hfaL1 (zLc hrp (by simp [mcP]) zLn)
            have h_5 : w_1.1 mc = some (4, 0, [zR t, zR fa, zR ca, zR ta, zR rp, zI (fr.length : Int), zP (oA Fs cur), zI (pl0 : Int), zP (oA Fs den), zI (if false = true then 1 else 0), zI 0, zI 0]) := by
              rw [hw_2]; exact zput_tg hrp hmc (by simp)
            have h_6 : w_1.1 fa = some (166, mc, zLs cap Fs) := by
              rw [hw_2]; exact zput_tg hrp hfa (by simp)
            have h_7 : w_1.1 ca = some (138, mc, tTb 3 cc (ch.reverse.map (fun e => [(e.1 : Int), (e.2.1 : Int), (e.2.2 : Int)]))) := by
              rw [hw_2]; exact zput_tg hrp hca (by simp)
            have h_8 : w_1.1 ta = some (139, mc, tTb 2 ct (T.reverse.map (fun e => [(e.1 : Int), (e.2 : Int)]))) := by
              rw [hw_2]; exact zput_tg hrp hta (by simp)
            have h_9 : w_1.1 t = some (10, 0, [zI ty, zR tc, zR tn, zR th, zR tz]) := by
              rw [hw_2]; exact zput_tg hrp ht0 (by simp)
            have h_10 : w_1.1 tc = some (130, t, tTb 3 30 C) := by
              rw [hw_2]; exact zput_tg hrp htc (by simp)
            have h_11 : w_1.1 tn = some (131, t, tTb 4 800 N) := by
              rw [hw_2]; exact zput_tg hrp htn (by simp)
            have h_12 : w_1.1 th = some (132, t, tTb 1 64 H) := by
              rw [hw_2]; exact zput_tg hrp hth (by simp)
            have h_13 : w_1.1 tz = some (120, t, Sz.map zJ) := by
              rw [hw_2]; exact zput_tg hrp htz (by simp)
            have h_14 : w_1.1 ri = some (135, rp, tTb 1 3 I) := by
              rw [hw_2]; exact zput_tg hrp hri (by simp)
            have h_15 : w_1.1 ra = some (136, rp, tTb 3 150 A) := by
              rw [hw_2]; exact zput_tg hrp hra (by simp)
            have h_16 : w_1.1 rn = some (137, rp, tTb 2 160 (nt.map (fun e => [(e.1 : Int), (e.2 : Int)]))) := by
              rw [hw_2]; exact zput_tg hrp hrn (by simp)
            have hM1 : mcW w_1 b1 b2 ((mc, fa, ca, ta), (t, tc, tn, th, tz), (rp, ri, ra, rn), (ty, C), (mo, I, bk, bc)) (((cap, Fs), fm), (cc, (ch.reverse.map (fun e => [(e.1 : Int), (e.2.1 : Int), (e.2.2 : Int)]))), (ct, (T.reverse.map (fun e => [(e.1 : Int), (e.2 : Int)]))), ((fr.length : Int), (oA Fs cur), (pl0 : Int), (oA Fs den)), ((if false = true then 1 else 0), 0, 0), (N, H, Sz), (A, (nt.map (fun e => [(e.1 : Int), (e.2 : Int)])), ((ns : Int) + 1), (nc0 : Int), (dp0 : Int), 101)) := ⟨h_5, h_6, ⟨h_7, okC⟩, ⟨h_8, okT⟩, hFrr1, ⟨h_9, ⟨h_10, okTC⟩, ⟨h_11, okN⟩, ⟨h_12, okH⟩, h_13, hSz⟩, ⟨h_4, ⟨h_14, okI⟩, ⟨h_15, okA⟩, ⟨h_16, okNt⟩⟩, hcap, ⟨by omega, by omega, by omega, by omega⟩, by omega, by omega⟩
            have hW1 : msW w_1 b1 b2 ((mc, fa, ca, ta), (t, tc, tn, th, tz), (rp, ri, ra, rn), (ty, C), (mo, I, bk, bc)) R Fs (0, 0, 101) ((fr, cls, V, ch, T), (cur, pl0, den, false), tm, (na, (ns + 1), nc0, dp0), nt) := ⟨cap, fm, cc, (ch.reverse.map (fun e => [(e.1 : Int), (e.2.1 : Int), (e.2.2 : Int)])), ct, (T.reverse.map (fun e => [(e.1 : Int), (e.2 : Int)])), (fr.length : Int), (oA Fs cur), (pl0 : Int), (oA Fs den), (if false = true then 1 else 0), N, H, Sz, A, (nt.map (fun e => [(e.1 : Int), (e.2 : Int)])), ((ns : Int) + 1), (nc0 : Int), (dp0 : Int), hM1, ⟨⟨(by first | rfl | omega | simp), hfl, hJ, hcn, hFS⟩, ⟨rfl, hcuL, (by first | rfl | omega), rfl, hdeL, rfl⟩, ⟨rfl, hchL⟩, ⟨rfl, hTL⟩, htm, ⟨hA, (by first | rfl | omega), (by first | rfl | omega), (by first | rfl | omega), rfl⟩⟩⟩
            have hP1 : pgW w_1 pg R := pgW_TM hP (mcF_fr hmcF1)
            have hgW1 : goW w_1 g (R.2.2.2.2.2.2 g) := ⟨hmcF1 _ _ hgW.1 (Or.inl (by simp)), hmcF1 _ _ hgW.2.1 (Or.inl (by simp)), hgW.2.2⟩
            refine zx_aload_n (i := 2) dX4_beginGoal_37 rfl rfl ?_
            have h_17 : w_1.1 g = some (3, 0, [zI (e.1.1 : Int), zI (R.2.2.2.2.2.2 g).2.1, zI (R.2.2.2.2.2.2 g).2.2.1, zR (R.2.2.2.2.2.2 g).2.2.2.1]) := by
              rw [hw_2]; exact zput_tg hrp hgo (by simp)
            refine zx_iv (b := g) (As := []) (st := []) (v := (some (zI (zB ((e.1.1 : Int) = 2 ∨ (e.1.1 : Int) = 3))))) (w1 := w_1) dX4_beginGoal_38 zc_X4_277 h_17 rfl rfl rfl (Nat.le_of_ble_eq_true rfl) rfl (c_X3_isCalling h_17) ?_
            refine zx_st (st1 := [zI (zB ((e.1.1 : Int) = 2 ∨ (e.1.1 : Int) = 3))]) rfl ?_
            refine zx_if_eq (tgt := 51) dX4_beginGoal_41 (by decide) (fun h41 => ?_) (fun h41 => absurd (zB_f (by omega)) h41)
            refine zx_aload_n (i := 2) dX4_beginGoal_51 rfl rfl ?_
            refine zx_iconst (v := 0) dX4_beginGoal_52 rfl (z32_lit (by decide) (by decide)) ?_
            have h_18 : w_1.1 ((R.2.2.2.2.2.2 g).2.2.2.1) = some (100, g, (R.2.2.2.2.2.2 g).2.2.2.2.map Sum.inl) := by
              rw [hw_2]; exact zput_tg hrp hgv (by simp)
            refine zx_iv (b := g) (As := [zI 0]) (st := []) (v := (some (zI ((smv e.1 0 : Nat) : Int)))) (w1 := w_1) dX4_beginGoal_53 zc_X4_267 h_17 rfl rfl rfl (Nat.le_of_ble_eq_true rfl) rfl (by have q := c_X3_variableAt (G := G) (d := d + 7) h_17 h_18 hgx (0 : Int); rw [show zVa (R.2.2.2.2.2.2 g).2.2.2.2 0 = _ from (hvk 0 (by omega)).1] at q; exact q) ?_
            refine zx_st (st1 := [zI ((smv e.1 0 : Nat) : Int)]) rfl ?_
            refine zx_istore_n (i := 3) dX4_beginGoal_56 rfl (by decide) rfl ?_
            refine zx_L (L1 := [some (zR mc), some (zR yi), some (zR g), some (zI ((smv e.1 0 : Nat) : Int)), none, none, none]) rfl ?_
            refine zx_aload_n (i := 2) dX4_beginGoal_57 rfl rfl ?_
            refine zx_iconst (v := 1) dX4_beginGoal_58 rfl (z32_lit (by decide) (by decide)) ?_
            refine zx_pc (pc1 := 59) rfl ?_
            refine zx_iv (b := g) (As := [zI 1]) (st := []) (v := (some (zI ((smv e.1 1 : Nat) : Int)))) (w1 := w_1) dX4_beginGoal_59 zc_X4_267 h_17 rfl rfl rfl (Nat.le_of_ble_eq_true rfl) rfl (by have q := c_X3_variableAt (G := G) (d := d + 7) h_17 h_18 hgx (1 : Int); rw [show zVa (R.2.2.2.2.2.2 g).2.2.2.2 1 = _ from (hvk 1 (by omega)).1] at q; exact q) ?_
            refine zx_st (st1 := [zI ((smv e.1 1 : Nat) : Int)]) rfl ?_
            refine zx_istore (i := 4) dX4_beginGoal_62 (by decide) rfl ?_
            refine zx_L (L1 := [some (zR mc), some (zR yi), some (zR g), some (zI ((smv e.1 0 : Nat) : Int)), some (zI ((smv e.1 1 : Nat) : Int)), none, none]) rfl ?_
            refine zx_aload_n (i := 2) dX4_beginGoal_64 rfl rfl ?_
            refine zx_getfield dX4_beginGoal_65 zf_X4_284 h_17 rfl ?_
            refine zx_iconst (v := 1) dX4_beginGoal_68 rfl (z32_lit (by decide) (by decide)) ?_
            refine zx_icmp_ne (tgt := 138) dX4_beginGoal_69 (by decide) (fun h69 => absurd h69 (by omega)) (fun h69 => ?_)
            refine zx_aload_n (i := 1) dX4_beginGoal_72 rfl rfl ?_
            refine zx_iload_n (i := 3) dX4_beginGoal_73 rfl rfl ?_
            have h_19 : w_1.1 va_i = some (104, yi, xs_i.map Sum.inl) := by
              rw [hw_2]; exact zput_tg hrp hva_i (by simp)
            have h_20 : w_1.1 yi = some (2, 0, [zI (i : Int), zR va_i, zR md_i, zP (oA Fs (mmf fr i).2.1.1), zI ((mmf fr i).2.1.2.1 : Int), zI ((mmf fr i).2.1.2.2 : Int), zP ((cls i).bind (pgCl R)), zI (if (mmf fr i).2.2.1 = true then 1 else 0), zP (oA Fs (mmf fr i).2.2.2.1), zI ((mmf fr i).2.2.2.2 : Int)]) := by
              rw [hw_2]; exact zput_tg hrp hfy_i (by simp)
            refine zx_iv (b := yi) (As := [zI ((smv e.1 0 : Nat) : Int)]) (st := []) (v := (some (zI (zVl xs_i ((smv e.1 0 : Nat) : Int))))) (w1 := w_1) dX4_beginGoal_74 zc_X4_203 h_20 rfl rfl rfl (Nat.le_of_ble_eq_true rfl) rfl (c_X2_valueOf h_20 h_19 (by omega) ((smv e.1 0 : Nat) : Int)) ?_
            refine zx_st (st1 := [zI (zVl xs_i ((smv e.1 0 : Nat) : Int))]) rfl ?_
            refine zx_iconst (v := -1) dX4_beginGoal_77 rfl (z32_lit (by decide) (by decide)) ?_
            refine zx_icmp_eq (tgt := 85) dX4_beginGoal_78 (by decide) (fun h78 => ?_) (fun h78 => absurd (hvn0.mpr hv0) h78)
            refine zx_iconst (v := 0) dX4_beginGoal_85 rfl (z32_lit (by decide) (by decide)) ?_
            refine zx_pc (pc1 := 86) rfl ?_
            refine zx_istore (i := 5) dX4_beginGoal_86 (by decide) rfl ?_
            refine zx_L (L1 := [some (zR mc), some (zR yi), some (zR g), some (zI ((smv e.1 0 : Nat) : Int)), some (zI ((smv e.1 1 : Nat) : Int)), some (zI 0), none]) rfl ?_
            refine zx_aload_n (i := 1) dX4_beginGoal_88 rfl rfl ?_
            refine zx_iload (i := 5) dX4_beginGoal_89 rfl ?_
            refine zx_if_eq (tgt := 98) dX4_beginGoal_91 (by decide) (fun h91 => ?_) (fun h91 => absurd (by decide) h91)
            refine zx_iload (i := 4) dX4_beginGoal_98 rfl ?_
            refine zx_iv (b := yi) (As := [zI ((smv e.1 1 : Nat) : Int)]) (st := []) (v := (some (zI (zVl xs_i ((smv e.1 1 : Nat) : Int))))) (w1 := w_1) dX4_beginGoal_100 zc_X4_203 h_20 rfl rfl rfl (Nat.le_of_ble_eq_true rfl) rfl (c_X2_valueOf h_20 h_19 (by omega) ((smv e.1 1 : Nat) : Int)) ?_
            refine zx_st (st1 := [zI (zVl xs_i ((smv e.1 1 : Nat) : Int))]) rfl ?_
            refine zx_istore (i := 6) dX4_beginGoal_103 (by decide) rfl ?_
            refine zx_L (L1 := [some (zR mc), some (zR yi), some (zR g), some (zI ((smv e.1 0 : Nat) : Int)), some (zI ((smv e.1 1 : Nat) : Int)), some (zI 0), some (zI (zVl xs_i ((smv e.1 1 : Nat) : Int)))]) rfl ?_
            refine zx_aload_n (i := 0) dX4_beginGoal_105 rfl rfl ?_
            refine zx_aload_n (i := 0) dX4_beginGoal_106 rfl rfl ?_
            refine zx_aload_n (i := 1) dX4_beginGoal_107 rfl rfl ?_
            refine zx_iload (i := 5) dX4_beginGoal_108 rfl ?_
            refine zx_if_eq (tgt := 118) dX4_beginGoal_110 (by decide) (fun h110 => ?_) (fun h110 => absurd (by decide) h110)
            refine zx_pc (pc1 := 118) rfl ?_
            refine zx_iload_n (i := 3) dX4_beginGoal_118 rfl rfl ?_
            refine zx_iload (i := 6) dX4_beginGoal_119 rfl ?_
            refine zx_ivV (b := mc) (As := [zR yi, zI ((smv e.1 0 : Nat) : Int), zI (zVl xs_i ((smv e.1 1 : Nat) : Int))]) (st := [zR mc]) dX4_beginGoal_121 zc_X4_270 h_5 rfl rfl rfl (Nat.le_of_ble_eq_true rfl) rfl (s_agrees hW1 hG1 hG2 hF3 (by omega) hif hi (hvk 0 (by omega)).2 (hvv 1 (by omega))) (fun v4 w4 hq => ?_)
            obtain ⟨ev4, hW4, hF4⟩ := hq
            subst ev4
            obtain ⟨cap4, fm4, cc4, CH4, ct4, TR4, us4, cu4, pl4, de4, fl4, N4, H4, Sz4, A4, Nt4, sc4, nc4, dp4, hM4, hS4⟩ := id hW4
            obtain ⟨⟨hus4, hfl4, hJ4, hcn4, hFS4⟩, ⟨hcu4, hcuL4, hpl4, hde4, hdeL4, hfb4⟩, ⟨hCH4, hchL4⟩, ⟨hTR4, hTL4⟩, htm4, ⟨hA4, hsc4, hnc4, hdp4, hNt4⟩⟩ := id hS4
            subst hus4 hcu4 hpl4 hde4 hfb4 hCH4 hTR4 hsc4 hnc4 hdp4 hNt4
            obtain ⟨hmc4, hfa4, ⟨hca4, okC4⟩, ⟨hta4, okT4⟩, hFr4, ⟨ht04, ⟨htc4, okTC4⟩, ⟨htn4, okN4⟩, ⟨hth4, okH4⟩, htz4, hSz4⟩, ⟨hrp4, ⟨hri4, okI4⟩, ⟨hra4, okA4⟩, ⟨hrn4, okNt4⟩⟩, hcap4, hcct4, hrm14, hrm24⟩ := id hM4
            refine zx_if_ne (tgt := 131) dX4_beginGoal_124 (by decide) (fun h124 => absurd h124 (by rw [zB_f (by rw [hy]; decide)]; decide)) (fun h124 => ?_)
            refine zx_iconst (v := 1) dX4_beginGoal_127 rfl (z32_lit (by decide) (by decide)) ?_
            refine zx_goto (tgt := 132) dX4_beginGoal_128 (by decide) ?_
            obtain ⟨w_21, hw_22⟩ : ∃ ww, ww = zput w4 mc (4, 0, [zR t, zR fa, zR ca, zR ta, zR rp, zI (fr.length : Int), zP (oA Fs cur), zI (pl0 : Int), zP (oA Fs den), zI 1, zI 0, zI 0]) := ⟨_, rfl⟩
            refine zx_put (w1 := w_21) dX4_beginGoal_132 zf_X4_57 hmc4 (Nat.le_of_ble_eq_true rfl) (zFt_bool (by first | exact Or.inl rfl | exact Or.inr rfl | exact zB_or | assumption)) (fun h => by cases h) hw_22.symm ?_
            have q_23 : w_21.2.1 = w4.2.1 ∧ w_21.2.2 = w4.2.2 := by rw [hw_22]; exact ⟨rfl, rfl⟩
            have h_24 : w_21.1 mc = some (4, 0, [zR t, zR fa, zR ca, zR ta, zR rp, zI (fr.length : Int), zP (oA Fs cur), zI (pl0 : Int), zP (oA Fs den), zI 1, zI 0, zI 0]) := by rw [hw_22]; exact zput_at
            refine zx_goto (tgt := 179) dX4_beginGoal_135 (by decide) ?_
            refine zx_aload_n (i := 0) dX4_beginGoal_179 rfl rfl ?_
            refine zx_dup dX4_beginGoal_180 (fun a h => by cases h) ?_
            refine zx_getfield dX4_beginGoal_181 zf_X4_69 h_24 rfl ?_
            refine zx_iconst (v := 1) dX4_beginGoal_184 rfl (z32_lit (by decide) (by decide)) ?_
            refine zx_pc (pc1 := 185) rfl ?_
            refine zx_iadd (v := ((pl0 : Int) + 1)) dX4_beginGoal_185 (zw_id ⟨by omega, by omega⟩) ?_
            obtain ⟨w_25, hw_26⟩ : ∃ ww, ww = zput w_21 mc (4, 0, [zR t, zR fa, zR ca, zR ta, zR rp, zI (fr.length : Int), zP (oA Fs cur), zI ((pl0 : Int) + 1), zP (oA Fs den), zI 1, zI 0, zI 0]) := ⟨_, rfl⟩
            refine zx_put (w1 := w_25) dX4_beginGoal_186 zf_X4_69 h_24 (Nat.le_of_ble_eq_true rfl) (zFt_int _) (fun h => by cases h) hw_26.symm ?_
            have q_27 : w_25.2.1 = w_21.2.1 ∧ w_25.2.2 = w_21.2.2 := by rw [hw_26]; exact ⟨rfl, rfl⟩
            have h_28 : w_25.1 mc = some (4, 0, [zR t, zR fa, zR ca, zR ta, zR rp, zI (fr.length : Int), zP (oA Fs cur), zI ((pl0 : Int) + 1), zP (oA Fs den), zI 1, zI 0, zI 0]) := by rw [hw_26]; exact zput_at
            refine zx_return dX4_beginGoal_189 rfl ?_
            have hfaL6 : zFa [mc] w4 w_25 := (zFa_put (zFa_put zFa_re (by simp) hw_22) (by simp) hw_26)
            have hFrr6 := fm_keep hFr4 hfaL6 (zLc hmc4 (by simp) zLn)
            have hmcF6 : mcF rp w4 w_25 := mcF_fa hfaL6 (zLc hmc4 (by simp [mcP]) zLn)
            have h_29 : w_21.1 fa = some (166, mc, zLs cap4 Fs) := by
              rw [hw_22]; exact zput_tg hmc4 hfa4 (by simp)
            have h_30 : w_25.1 fa = some (166, mc, zLs cap4 Fs) := by
              rw [hw_26]; exact zput_tg h_24 h_29 (by simp)
            have h_31 : w_21.1 ca = some (138, mc, tTb 3 cc4 (ch.reverse.map (fun e => [(e.1 : Int), (e.2.1 : Int), (e.2.2 : Int)]))) := by
              rw [hw_22]; exact zput_tg hmc4 hca4 (by simp)
            have h_32 : w_25.1 ca = some (138, mc, tTb 3 cc4 (ch.reverse.map (fun e => [(e.1 : Int), (e.2.1 : Int), (e.2.2 : Int)]))) := by
              rw [hw_26]; exact zput_tg h_24 h_31 (by simp)
            have h_33 : w_21.1 ta = some (139, mc, tTb 2 ct4 (((mmAg V T i (smv e.1 0) (V i (smv e.1 1))).2.2).reverse.map (fun e => [(e.1 : Int), (e.2 : Int)]))) := by
              rw [hw_22]; exact zput_tg hmc4 hta4 (by simp)
            have h_34 : w_25.1 ta = some (139, mc, tTb 2 ct4 (((mmAg V T i (smv e.1 0) (V i (smv e.1 1))).2.2).reverse.map (fun e => [(e.1 : Int), (e.2 : Int)]))) := by
              rw [hw_26]; exact zput_tg h_24 h_33 (by simp)
            have h_35 : w_21.1 t = some (10, 0, [zI ty, zR tc, zR tn, zR th, zR tz]) := by
              rw [hw_22]; exact zput_tg hmc4 ht04 (by simp)
            have h_36 : w_25.1 t = some (10, 0, [zI ty, zR tc, zR tn, zR th, zR tz]) := by
              rw [hw_26]; exact zput_tg h_24 h_35 (by simp)
            have h_37 : w_21.1 tc = some (130, t, tTb 3 30 C) := by
              rw [hw_22]; exact zput_tg hmc4 htc4 (by simp)
            have h_38 : w_25.1 tc = some (130, t, tTb 3 30 C) := by
              rw [hw_26]; exact zput_tg h_24 h_37 (by simp)
            have h_39 : w_21.1 tn = some (131, t, tTb 4 800 N4) := by
              rw [hw_22]; exact zput_tg hmc4 htn4 (by simp)
            have h_40 : w_25.1 tn = some (131, t, tTb 4 800 N4) := by
              rw [hw_26]; exact zput_tg h_24 h_39 (by simp)
            have h_41 : w_21.1 th = some (132, t, tTb 1 64 H4) := by
              rw [hw_22]; exact zput_tg hmc4 hth4 (by simp)
            have h_42 : w_25.1 th = some (132, t, tTb 1 64 H4) := by
              rw [hw_26]; exact zput_tg h_24 h_41 (by simp)
            have h_43 : w_21.1 tz = some (120, t, Sz4.map zJ) := by
              rw [hw_22]; exact zput_tg hmc4 htz4 (by simp)
            have h_44 : w_25.1 tz = some (120, t, Sz4.map zJ) := by
              rw [hw_26]; exact zput_tg h_24 h_43 (by simp)
            have h_45 : w_21.1 rp = some (8, 0, [zP mo, zR ri, zR ra, zR rn, zI (((ns + 1) : Nat) : Int), zI (nc0 : Int), zI (dp0 : Int), zI 101, zI bk, zI bc]) := by
              rw [hw_22]; exact zput_tg hmc4 hrp4 (by simp)
            have h_46 : w_25.1 rp = some (8, 0, [zP mo, zR ri, zR ra, zR rn, zI (((ns + 1) : Nat) : Int), zI (nc0 : Int), zI (dp0 : Int), zI 101, zI bk, zI bc]) := by
              rw [hw_26]; exact zput_tg h_24 h_45 (by simp)
            have h_47 : w_21.1 ri = some (135, rp, tTb 1 3 I) := by
              rw [hw_22]; exact zput_tg hmc4 hri4 (by simp)
            have h_48 : w_25.1 ri = some (135, rp, tTb 1 3 I) := by
              rw [hw_26]; exact zput_tg h_24 h_47 (by simp)
            have h_49 : w_21.1 ra = some (136, rp, tTb 3 150 A4) := by
              rw [hw_22]; exact zput_tg hmc4 hra4 (by simp)
            have h_50 : w_25.1 ra = some (136, rp, tTb 3 150 A4) := by
              rw [hw_26]; exact zput_tg h_24 h_49 (by simp)
            have h_51 : w_21.1 rn = some (137, rp, tTb 2 160 (nt.map (fun e => [(e.1 : Int), (e.2 : Int)]))) := by
              rw [hw_22]; exact zput_tg hmc4 hrn4 (by simp)
            have h_52 : w_25.1 rn = some (137, rp, tTb 2 160 (nt.map (fun e => [(e.1 : Int), (e.2 : Int)]))) := by
              rw [hw_26]; exact zput_tg h_24 h_51 (by simp)
            have hM6 : mcW w_25 b1 b2 ((mc, fa, ca, ta), (t, tc, tn, th, tz), (rp, ri, ra, rn), (ty, C), (mo, I, bk, bc)) (((cap4, Fs), fm4), (cc4, (ch.reverse.map (fun e => [(e.1 : Int), (e.2.1 : Int), (e.2.2 : Int)]))), (ct4, (((mmAg V T i (smv e.1 0) (V i (smv e.1 1))).2.2).reverse.map (fun e => [(e.1 : Int), (e.2 : Int)]))), ((fr.length : Int), (oA Fs cur), ((pl0 : Int) + 1), (oA Fs den)), (1, 0, 0), (N4, H4, Sz4), (A4, (nt.map (fun e => [(e.1 : Int), (e.2 : Int)])), (((ns + 1) : Nat) : Int), (nc0 : Int), (dp0 : Int), 101)) := ⟨h_28, h_30, ⟨h_32, okC4⟩, ⟨h_34, okT4⟩, hFrr6, ⟨h_36, ⟨h_38, okTC4⟩, ⟨h_40, okN4⟩, ⟨h_42, okH4⟩, h_44, hSz4⟩, ⟨h_46, ⟨h_48, okI4⟩, ⟨h_50, okA4⟩, ⟨h_52, okNt4⟩⟩, hcap4, ⟨by omega, by omega, by omega, by omega⟩, by omega, by omega⟩
            have hW6 : msW w_25 b1 b2 ((mc, fa, ca, ta), (t, tc, tn, th, tz), (rp, ri, ra, rn), (ty, C), (mo, I, bk, bc)) R Fs (0, 0, 101) ((fr, cls, (mmAg V T i (smv e.1 0) (V i (smv e.1 1))).2.1, ch, (mmAg V T i (smv e.1 0) (V i (smv e.1 1))).2.2), (cur, (pl0 + 1), den, (!(mmAg V T i (smv e.1 0) (V i (smv e.1 1))).1)), tm, (na, (ns + 1), nc0, dp0), nt) := ⟨cap4, fm4, cc4, (ch.reverse.map (fun e => [(e.1 : Int), (e.2.1 : Int), (e.2.2 : Int)])), ct4, (((mmAg V T i (smv e.1 0) (V i (smv e.1 1))).2.2).reverse.map (fun e => [(e.1 : Int), (e.2 : Int)])), (fr.length : Int), (oA Fs cur), ((pl0 : Int) + 1), (oA Fs den), 1, N4, H4, Sz4, A4, (nt.map (fun e => [(e.1 : Int), (e.2 : Int)])), (((ns + 1) : Nat) : Int), (nc0 : Int), (dp0 : Int), hM6, ⟨⟨(by first | rfl | omega | simp), hfl4, hJ4, hcn4, hFS4⟩, ⟨rfl, hcuL4, (by first | rfl | omega), rfl, hdeL4, (by rw [hy]; rfl)⟩, ⟨rfl, hchL4⟩, ⟨rfl, hTL4⟩, htm4, ⟨hA4, (by first | rfl | omega), (by first | rfl | omega), (by first | rfl | omega), rfl⟩⟩⟩
            rw [mg_e h300 hk23, mmEq_sn hk1 hv0]
            exact ⟨rfl, ⟨Fs, hF3, hW6⟩, (mcF_tr hmcF1 (mcF_tr hF4 hmcF6))⟩
        · skip
          cases hy : (mmAg V T i (smv e.1 1) (V i (smv e.1 0))).1 with
          | true =>
            refine zx_aload_n (i := 2) dX4_beginGoal_0 rfl rfl ?_
            refine zx_ifnull (tgt := 17) dX4_beginGoal_1 (by decide) (fun h => by cases h) (fun _ => ?_)
            refine zx_aload_n (i := 0) dX4_beginGoal_4 rfl rfl ?_
            refine zx_getfield dX4_beginGoal_5 zf_X4_15 hmc rfl ?_
            refine zx_getfield dX4_beginGoal_8 zf_X4_274 hrp rfl ?_
            refine zx_sipush (v := 300) dX4_beginGoal_11 (by decide +kernel) (z32_lit (by decide) (by decide)) ?_
            refine zx_icmp_lt (tgt := 24) dX4_beginGoal_14 (by decide) (fun h14 => ?_) (fun h14 => absurd (by omega) h14)
            refine zx_aload_n (i := 0) dX4_beginGoal_24 rfl rfl ?_
            refine zx_getfield dX4_beginGoal_25 zf_X4_15 hmc rfl ?_
            refine zx_dup dX4_beginGoal_28 (fun a h => by cases h) ?_
            refine zx_getfield dX4_beginGoal_29 zf_X4_274 hrp rfl ?_
            refine zx_pc (pc1 := 32) rfl ?_
            refine zx_iconst (v := 1) dX4_beginGoal_32 rfl (z32_lit (by decide) (by decide)) ?_
            refine zx_iadd (v := ((ns : Int) + 1)) dX4_beginGoal_33 (zw_id ⟨by omega, by omega⟩) ?_
            obtain ⟨w_1, hw_2⟩ : ∃ ww, ww = zput w rp (8, 0, [zP mo, zR ri, zR ra, zR rn, zI ((ns : Int) + 1), zI (nc0 : Int), zI (dp0 : Int), zI 101, zI bk, zI bc]) := ⟨_, rfl⟩
            refine zx_put (w1 := w_1) dX4_beginGoal_34 zf_X4_274 hrp (Nat.le_of_ble_eq_true rfl) (zFt_int _) (fun h => by cases h) hw_2.symm ?_
            have q_3 : w_1.2.1 = w.2.1 ∧ w_1.2.2 = w.2.2 := by rw [hw_2]; exact ⟨rfl, rfl⟩
            have h_4 : w_1.1 rp = some (8, 0, [zP mo, zR ri, zR ra, zR rn, zI ((ns : Int) + 1), zI (nc0 : Int), zI (dp0 : Int), zI 101, zI bk, zI bc]) := by rw [hw_2]; exact zput_at
            have hfaL1 : zFa [rp] w w_1 := (zFa_put zFa_re (by simp) hw_2)
            have hFrr1 := fm_keep hFr hfaL1 (zLc hrp (by simp) zLn)
            have hmcF1 : mcF rp w w_1 := mcF_fa hfaL1 (zLc hrp (by simp [mcP]) zLn)
            have h_5 : w_1.1 mc = some (4, 0, [zR t, zR fa, zR ca, zR ta, zR rp, zI (fr.length : Int), zP (oA Fs cur), zI (pl0 : Int), zP (oA Fs den), zI (if false = true then 1 else 0), zI 0, zI 0]) := by
              rw [hw_2]; exact zput_tg hrp hmc (by simp)
            have h_6 : w_1.1 fa = some (166, mc, zLs cap Fs) := by
              rw [hw_2]; exact zput_tg hrp hfa (by simp)
            have h_7 : w_1.1 ca = some (138, mc, tTb 3 cc (ch.reverse.map (fun e => [(e.1 : Int), (e.2.1 : Int), (e.2.2 : Int)]))) := by
              rw [hw_2]; exact zput_tg hrp hca (by simp)
            have h_8 : w_1.1 ta = some (139, mc, tTb 2 ct (T.reverse.map (fun e => [(e.1 : Int), (e.2 : Int)]))) := by
              rw [hw_2]; exact zput_tg hrp hta (by simp)
            have h_9 : w_1.1 t = some (10, 0, [zI ty, zR tc, zR tn, zR th, zR tz]) := by
              rw [hw_2]; exact zput_tg hrp ht0 (by simp)
            have h_10 : w_1.1 tc = some (130, t, tTb 3 30 C) := by
              rw [hw_2]; exact zput_tg hrp htc (by simp)
            have h_11 : w_1.1 tn = some (131, t, tTb 4 800 N) := by
              rw [hw_2]; exact zput_tg hrp htn (by simp)
            have h_12 : w_1.1 th = some (132, t, tTb 1 64 H) := by
              rw [hw_2]; exact zput_tg hrp hth (by simp)
            have h_13 : w_1.1 tz = some (120, t, Sz.map zJ) := by
              rw [hw_2]; exact zput_tg hrp htz (by simp)
            have h_14 : w_1.1 ri = some (135, rp, tTb 1 3 I) := by
              rw [hw_2]; exact zput_tg hrp hri (by simp)
            have h_15 : w_1.1 ra = some (136, rp, tTb 3 150 A) := by
              rw [hw_2]; exact zput_tg hrp hra (by simp)
            have h_16 : w_1.1 rn = some (137, rp, tTb 2 160 (nt.map (fun e => [(e.1 : Int), (e.2 : Int)]))) := by
              rw [hw_2]; exact zput_tg hrp hrn (by simp)
            have hM1 : mcW w_1 b1 b2 ((mc, fa, ca, ta), (t, tc, tn, th, tz), (rp, ri, ra, rn), (ty, C), (mo, I, bk, bc)) (((cap, Fs), fm), (cc, (ch.reverse.map (fun e => [(e.1 : Int), (e.2.1 : Int), (e.2.2 : Int)]))), (ct, (T.reverse.map (fun e => [(e.1 : Int), (e.2 : Int)]))), ((fr.length : Int), (oA Fs cur), (pl0 : Int), (oA Fs den)), ((if false = true then 1 else 0), 0, 0), (N, H, Sz), (A, (nt.map (fun e => [(e.1 : Int), (e.2 : Int)])), ((ns : Int) + 1), (nc0 : Int), (dp0 : Int), 101)) := ⟨h_5, h_6, ⟨h_7, okC⟩, ⟨h_8, okT⟩, hFrr1, ⟨h_9, ⟨h_10, okTC⟩, ⟨h_11, okN⟩, ⟨h_12, okH⟩, h_13, hSz⟩, ⟨h_4, ⟨h_14, okI⟩, ⟨h_15, okA⟩, ⟨h_16, okNt⟩⟩, hcap, ⟨by omega, by omega, by omega, by omega⟩, by omega, by omega⟩
            have hW1 : msW w_1 b1 b2 ((mc, fa, ca, ta), (t, tc, tn, th, tz), (rp, ri, ra, rn), (ty, C), (mo, I, bk, bc)) R Fs (0, 0, 101) ((fr, cls, V, ch, T), (cur, pl0, den, false), tm, (na, (ns + 1), nc0, dp0), nt) := ⟨cap, fm, cc, (ch.reverse.map (fun e => [(e.1 : Int), (e.2.1 : Int), (e.2.2 : Int)])), ct, (T.reverse.map (fun e => [(e.1 : Int), (e.2 : Int)])), (fr.length : Int), (oA Fs cur), (pl0 : Int), (oA Fs den), (if false = true then 1 else 0), N, H, Sz, A, (nt.map (fun e => [(e.1 : Int), (e.2 : Int)])), ((ns : Int) + 1), (nc0 : Int), (dp0 : Int), hM1, ⟨⟨(by first | rfl | omega | simp), hfl, hJ, hcn, hFS⟩, ⟨rfl, hcuL, (by first | rfl | omega), rfl, hdeL, rfl⟩, ⟨rfl, hchL⟩, ⟨rfl, hTL⟩, htm, ⟨hA, (by first | rfl | omega), (by first | rfl | omega), (by first | rfl | omega), rfl⟩⟩⟩
            have hP1 : pgW w_1 pg R := pgW_TM hP (mcF_fr hmcF1)
            have hgW1 : goW w_1 g (R.2.2.2.2.2.2 g) := ⟨hmcF1 _ _ hgW.1 (Or.inl (by simp)), hmcF1 _ _ hgW.2.1 (Or.inl (by simp)), hgW.2.2⟩
            refine zx_aload_n (i := 2) dX4_beginGoal_37 rfl rfl ?_
            have h_17 : w_1.1 g = some (3, 0, [zI (e.1.1 : Int), zI (R.2.2.2.2.2.2 g).2.1, zI (R.2.2.2.2.2.2 g).2.2.1, zR (R.2.2.2.2.2.2 g).2.2.2.1]) := by
              rw [hw_2]; exact zput_tg hrp hgo (by simp)
            refine zx_iv (b := g) (As := []) (st := []) (v := (some (zI (zB ((e.1.1 : Int) = 2 ∨ (e.1.1 : Int) = 3))))) (w1 := w_1) dX4_beginGoal_38 zc_X4_277 h_17 rfl rfl rfl (Nat.le_of_ble_eq_true rfl) rfl (c_X3_isCalling h_17) ?_
            refine zx_st (st1 := [zI (zB ((e.1.1 : Int) = 2 ∨ (e.1.1 : Int) = 3))]) rfl ?_
            refine zx_if_eq (tgt := 51) dX4_beginGoal_41 (by decide) (fun h41 => ?_) (fun h41 => absurd (zB_f (by omega)) h41)
            refine zx_aload_n (i := 2) dX4_beginGoal_51 rfl rfl ?_
            refine zx_iconst (v := 0) dX4_beginGoal_52 rfl (z32_lit (by decide) (by decide)) ?_
            have h_18 : w_1.1 ((R.2.2.2.2.2.2 g).2.2.2.1) = some (100, g, (R.2.2.2.2.2.2 g).2.2.2.2.map Sum.inl) := by
              rw [hw_2]; exact zput_tg hrp hgv (by simp)
            refine zx_iv (b := g) (As := [zI 0]) (st := []) (v := (some (zI ((smv e.1 0 : Nat) : Int)))) (w1 := w_1) dX4_beginGoal_53 zc_X4_267 h_17 rfl rfl rfl (Nat.le_of_ble_eq_true rfl) rfl (by have q := c_X3_variableAt (G := G) (d := d + 7) h_17 h_18 hgx (0 : Int); rw [show zVa (R.2.2.2.2.2.2 g).2.2.2.2 0 = _ from (hvk 0 (by omega)).1] at q; exact q) ?_
            refine zx_st (st1 := [zI ((smv e.1 0 : Nat) : Int)]) rfl ?_
            refine zx_istore_n (i := 3) dX4_beginGoal_56 rfl (by decide) rfl ?_
            refine zx_L (L1 := [some (zR mc), some (zR yi), some (zR g), some (zI ((smv e.1 0 : Nat) : Int)), none, none, none]) rfl ?_
            refine zx_aload_n (i := 2) dX4_beginGoal_57 rfl rfl ?_
            refine zx_iconst (v := 1) dX4_beginGoal_58 rfl (z32_lit (by decide) (by decide)) ?_
            refine zx_pc (pc1 := 59) rfl ?_
            refine zx_iv (b := g) (As := [zI 1]) (st := []) (v := (some (zI ((smv e.1 1 : Nat) : Int)))) (w1 := w_1) dX4_beginGoal_59 zc_X4_267 h_17 rfl rfl rfl (Nat.le_of_ble_eq_true rfl) rfl (by have q := c_X3_variableAt (G := G) (d := d + 7) h_17 h_18 hgx (1 : Int); rw [show zVa (R.2.2.2.2.2.2 g).2.2.2.2 1 = _ from (hvk 1 (by omega)).1] at q; exact q) ?_
            refine zx_st (st1 := [zI ((smv e.1 1 : Nat) : Int)]) rfl ?_
            refine zx_istore (i := 4) dX4_beginGoal_62 (by decide) rfl ?_
            refine zx_L (L1 := [some (zR mc), some (zR yi), some (zR g), some (zI ((smv e.1 0 : Nat) : Int)), some (zI ((smv e.1 1 : Nat) : Int)), none, none]) rfl ?_
            refine zx_aload_n (i := 2) dX4_beginGoal_64 rfl rfl ?_
            refine zx_getfield dX4_beginGoal_65 zf_X4_284 h_17 rfl ?_
            refine zx_iconst (v := 1) dX4_beginGoal_68 rfl (z32_lit (by decide) (by decide)) ?_
            refine zx_icmp_ne (tgt := 138) dX4_beginGoal_69 (by decide) (fun h69 => absurd h69 (by omega)) (fun h69 => ?_)
            refine zx_aload_n (i := 1) dX4_beginGoal_72 rfl rfl ?_
            refine zx_iload_n (i := 3) dX4_beginGoal_73 rfl rfl ?_
            have h_19 : w_1.1 va_i = some (104, yi, xs_i.map Sum.inl) := by
              rw [hw_2]; exact zput_tg hrp hva_i (by simp)
            have h_20 : w_1.1 yi = some (2, 0, [zI (i : Int), zR va_i, zR md_i, zP (oA Fs (mmf fr i).2.1.1), zI ((mmf fr i).2.1.2.1 : Int), zI ((mmf fr i).2.1.2.2 : Int), zP ((cls i).bind (pgCl R)), zI (if (mmf fr i).2.2.1 = true then 1 else 0), zP (oA Fs (mmf fr i).2.2.2.1), zI ((mmf fr i).2.2.2.2 : Int)]) := by
              rw [hw_2]; exact zput_tg hrp hfy_i (by simp)
            refine zx_iv (b := yi) (As := [zI ((smv e.1 0 : Nat) : Int)]) (st := []) (v := (some (zI (zVl xs_i ((smv e.1 0 : Nat) : Int))))) (w1 := w_1) dX4_beginGoal_74 zc_X4_203 h_20 rfl rfl rfl (Nat.le_of_ble_eq_true rfl) rfl (c_X2_valueOf h_20 h_19 (by omega) ((smv e.1 0 : Nat) : Int)) ?_
            refine zx_st (st1 := [zI (zVl xs_i ((smv e.1 0 : Nat) : Int))]) rfl ?_
            refine zx_iconst (v := -1) dX4_beginGoal_77 rfl (z32_lit (by decide) (by decide)) ?_
            refine zx_icmp_eq (tgt := 85) dX4_beginGoal_78 (by decide) (fun h78 => absurd h78 ((fun q => hv0 (hvn0.mp q)))) (fun h78 => ?_)
            refine zx_iconst (v := 1) dX4_beginGoal_81 rfl (z32_lit (by decide) (by decide)) ?_
            refine zx_pc (pc1 := 82) rfl ?_
            refine zx_goto (tgt := 86) dX4_beginGoal_82 (by decide) ?_
            refine zx_istore (i := 5) dX4_beginGoal_86 (by decide) rfl ?_
            refine zx_L (L1 := [some (zR mc), some (zR yi), some (zR g), some (zI ((smv e.1 0 : Nat) : Int)), some (zI ((smv e.1 1 : Nat) : Int)), some (zI 1), none]) rfl ?_
            refine zx_aload_n (i := 1) dX4_beginGoal_88 rfl rfl ?_
            refine zx_iload (i := 5) dX4_beginGoal_89 rfl ?_
            refine zx_if_eq (tgt := 98) dX4_beginGoal_91 (by decide) (fun h91 => absurd h91 (by decide)) (fun h91 => ?_)
            refine zx_iload_n (i := 3) dX4_beginGoal_94 rfl rfl ?_
            refine zx_goto (tgt := 100) dX4_beginGoal_95 (by decide) ?_
            refine zx_iv (b := yi) (As := [zI ((smv e.1 0 : Nat) : Int)]) (st := []) (v := (some (zI (zVl xs_i ((smv e.1 0 : Nat) : Int))))) (w1 := w_1) dX4_beginGoal_100 zc_X4_203 h_20 rfl rfl rfl (Nat.le_of_ble_eq_true rfl) rfl (c_X2_valueOf h_20 h_19 (by omega) ((smv e.1 0 : Nat) : Int)) ?_
            refine zx_st (st1 := [zI (zVl xs_i ((smv e.1 0 : Nat) : Int))]) rfl ?_
            refine zx_istore (i := 6) dX4_beginGoal_103 (by decide) rfl ?_
            refine zx_L (L1 := [some (zR mc), some (zR yi), some (zR g), some (zI ((smv e.1 0 : Nat) : Int)), some (zI ((smv e.1 1 : Nat) : Int)), some (zI 1), some (zI (zVl xs_i ((smv e.1 0 : Nat) : Int)))]) rfl ?_
            refine zx_aload_n (i := 0) dX4_beginGoal_105 rfl rfl ?_
            refine zx_aload_n (i := 0) dX4_beginGoal_106 rfl rfl ?_
            refine zx_aload_n (i := 1) dX4_beginGoal_107 rfl rfl ?_
            refine zx_pc (pc1 := 108) rfl ?_
            refine zx_iload (i := 5) dX4_beginGoal_108 rfl ?_
            refine zx_if_eq (tgt := 118) dX4_beginGoal_110 (by decide) (fun h110 => absurd h110 (by decide)) (fun h110 => ?_)
            refine zx_iload (i := 4) dX4_beginGoal_113 rfl ?_
            refine zx_goto (tgt := 119) dX4_beginGoal_115 (by decide) ?_
            refine zx_iload (i := 6) dX4_beginGoal_119 rfl ?_
            refine zx_ivV (b := mc) (As := [zR yi, zI ((smv e.1 1 : Nat) : Int), zI (zVl xs_i ((smv e.1 0 : Nat) : Int))]) (st := [zR mc]) dX4_beginGoal_121 zc_X4_270 h_5 rfl rfl rfl (Nat.le_of_ble_eq_true rfl) rfl (s_agrees hW1 hG1 hG2 hF3 (by omega) hif hi (hvk 1 (by omega)).2 (hvv 0 (by omega))) (fun v4 w4 hq => ?_)
            obtain ⟨ev4, hW4, hF4⟩ := hq
            subst ev4
            obtain ⟨cap4, fm4, cc4, CH4, ct4, TR4, us4, cu4, pl4, de4, fl4, N4, H4, Sz4, A4, Nt4, sc4, nc4, dp4, hM4, hS4⟩ := id hW4
            obtain ⟨⟨hus4, hfl4, hJ4, hcn4, hFS4⟩, ⟨hcu4, hcuL4, hpl4, hde4, hdeL4, hfb4⟩, ⟨hCH4, hchL4⟩, ⟨hTR4, hTL4⟩, htm4, ⟨hA4, hsc4, hnc4, hdp4, hNt4⟩⟩ := id hS4
            subst hus4 hcu4 hpl4 hde4 hfb4 hCH4 hTR4 hsc4 hnc4 hdp4 hNt4
            obtain ⟨hmc4, hfa4, ⟨hca4, okC4⟩, ⟨hta4, okT4⟩, hFr4, ⟨ht04, ⟨htc4, okTC4⟩, ⟨htn4, okN4⟩, ⟨hth4, okH4⟩, htz4, hSz4⟩, ⟨hrp4, ⟨hri4, okI4⟩, ⟨hra4, okA4⟩, ⟨hrn4, okNt4⟩⟩, hcap4, hcct4, hrm14, hrm24⟩ := id hM4
            refine zx_if_ne (tgt := 131) dX4_beginGoal_124 (by decide) (fun h124 => ?_) (fun h124 => absurd (by rw [zB_t hy]; decide) h124)
            refine zx_iconst (v := 0) dX4_beginGoal_131 rfl (z32_lit (by decide) (by decide)) ?_
            obtain ⟨w_21, hw_22⟩ : ∃ ww, ww = zput w4 mc (4, 0, [zR t, zR fa, zR ca, zR ta, zR rp, zI (fr.length : Int), zP (oA Fs cur), zI (pl0 : Int), zP (oA Fs den), zI 0, zI 0, zI 0]) := ⟨_, rfl⟩
            refine zx_put (w1 := w_21) dX4_beginGoal_132 zf_X4_57 hmc4 (Nat.le_of_ble_eq_true rfl) (zFt_bool (by first | exact Or.inl rfl | exact Or.inr rfl | exact zB_or | assumption)) (fun h => by cases h) hw_22.symm ?_
            have q_23 : w_21.2.1 = w4.2.1 ∧ w_21.2.2 = w4.2.2 := by rw [hw_22]; exact ⟨rfl, rfl⟩
            have h_24 : w_21.1 mc = some (4, 0, [zR t, zR fa, zR ca, zR ta, zR rp, zI (fr.length : Int), zP (oA Fs cur), zI (pl0 : Int), zP (oA Fs den), zI 0, zI 0, zI 0]) := by rw [hw_22]; exact zput_at
            refine zx_goto (tgt := 179) dX4_beginGoal_135 (by decide) ?_
            refine zx_aload_n (i := 0) dX4_beginGoal_179 rfl rfl ?_
            refine zx_dup dX4_beginGoal_180 (fun a h => by cases h) ?_
            refine zx_pc (pc1 := 181) rfl ?_
            refine zx_getfield dX4_beginGoal_181 zf_X4_69 h_24 rfl ?_
            refine zx_iconst (v := 1) dX4_beginGoal_184 rfl (z32_lit (by decide) (by decide)) ?_
            refine zx_iadd (v := ((pl0 : Int) + 1)) dX4_beginGoal_185 (zw_id ⟨by omega, by omega⟩) ?_
            obtain ⟨w_25, hw_26⟩ : ∃ ww, ww = zput w_21 mc (4, 0, [zR t, zR fa, zR ca, zR ta, zR rp, zI (fr.length : Int), zP (oA Fs cur), zI ((pl0 : Int) + 1), zP (oA Fs den), zI 0, zI 0, zI 0]) := ⟨_, rfl⟩
            refine zx_put (w1 := w_25) dX4_beginGoal_186 zf_X4_69 h_24 (Nat.le_of_ble_eq_true rfl) (zFt_int _) (fun h => by cases h) hw_26.symm ?_
            have q_27 : w_25.2.1 = w_21.2.1 ∧ w_25.2.2 = w_21.2.2 := by rw [hw_26]; exact ⟨rfl, rfl⟩
            have h_28 : w_25.1 mc = some (4, 0, [zR t, zR fa, zR ca, zR ta, zR rp, zI (fr.length : Int), zP (oA Fs cur), zI ((pl0 : Int) + 1), zP (oA Fs den), zI 0, zI 0, zI 0]) := by rw [hw_26]; exact zput_at
            refine zx_return dX4_beginGoal_189 rfl ?_
            have hfaL6 : zFa [mc] w4 w_25 := (zFa_put (zFa_put zFa_re (by simp) hw_22) (by simp) hw_26)
            have hFrr6 := fm_keep hFr4 hfaL6 (zLc hmc4 (by simp) zLn)
            have hmcF6 : mcF rp w4 w_25 := mcF_fa hfaL6 (zLc hmc4 (by simp [mcP]) zLn)
            have h_29 : w_21.1 fa = some (166, mc, zLs cap4 Fs) := by
              rw [hw_22]; exact zput_tg hmc4 hfa4 (by simp)
            have h_30 : w_25.1 fa = some (166, mc, zLs cap4 Fs) := by
              rw [hw_26]; exact zput_tg h_24 h_29 (by simp)
            have h_31 : w_21.1 ca = some (138, mc, tTb 3 cc4 (ch.reverse.map (fun e => [(e.1 : Int), (e.2.1 : Int), (e.2.2 : Int)]))) := by
              rw [hw_22]; exact zput_tg hmc4 hca4 (by simp)
            have h_32 : w_25.1 ca = some (138, mc, tTb 3 cc4 (ch.reverse.map (fun e => [(e.1 : Int), (e.2.1 : Int), (e.2.2 : Int)]))) := by
              rw [hw_26]; exact zput_tg h_24 h_31 (by simp)
            have h_33 : w_21.1 ta = some (139, mc, tTb 2 ct4 (((mmAg V T i (smv e.1 1) (V i (smv e.1 0))).2.2).reverse.map (fun e => [(e.1 : Int), (e.2 : Int)]))) := by
              rw [hw_22]; exact zput_tg hmc4 hta4 (by simp)
            have h_34 : w_25.1 ta = some (139, mc, tTb 2 ct4 (((mmAg V T i (smv e.1 1) (V i (smv e.1 0))).2.2).reverse.map (fun e => [(e.1 : Int), (e.2 : Int)]))) := by
              rw [hw_26]; exact zput_tg h_24 h_33 (by simp)
            have h_35 : w_21.1 t = some (10, 0, [zI ty, zR tc, zR tn, zR th, zR tz]) := by
              rw [hw_22]; exact zput_tg hmc4 ht04 (by simp)
            have h_36 : w_25.1 t = some (10, 0, [zI ty, zR tc, zR tn, zR th, zR tz]) := by
              rw [hw_26]; exact zput_tg h_24 h_35 (by simp)
            have h_37 : w_21.1 tc = some (130, t, tTb 3 30 C) := by
              rw [hw_22]; exact zput_tg hmc4 htc4 (by simp)
            have h_38 : w_25.1 tc = some (130, t, tTb 3 30 C) := by
              rw [hw_26]; exact zput_tg h_24 h_37 (by simp)
            have h_39 : w_21.1 tn = some (131, t, tTb 4 800 N4) := by
              rw [hw_22]; exact zput_tg hmc4 htn4 (by simp)
            have h_40 : w_25.1 tn = some (131, t, tTb 4 800 N4) := by
              rw [hw_26]; exact zput_tg h_24 h_39 (by simp)
            have h_41 : w_21.1 th = some (132, t, tTb 1 64 H4) := by
              rw [hw_22]; exact zput_tg hmc4 hth4 (by simp)
            have h_42 : w_25.1 th = some (132, t, tTb 1 64 H4) := by
              rw [hw_26]; exact zput_tg h_24 h_41 (by simp)
            have h_43 : w_21.1 tz = some (120, t, Sz4.map zJ) := by
              rw [hw_22]; exact zput_tg hmc4 htz4 (by simp)
            have h_44 : w_25.1 tz = some (120, t, Sz4.map zJ) := by
              rw [hw_26]; exact zput_tg h_24 h_43 (by simp)
            have h_45 : w_21.1 rp = some (8, 0, [zP mo, zR ri, zR ra, zR rn, zI (((ns + 1) : Nat) : Int), zI (nc0 : Int), zI (dp0 : Int), zI 101, zI bk, zI bc]) := by
              rw [hw_22]; exact zput_tg hmc4 hrp4 (by simp)
            have h_46 : w_25.1 rp = some (8, 0, [zP mo, zR ri, zR ra, zR rn, zI (((ns + 1) : Nat) : Int), zI (nc0 : Int), zI (dp0 : Int), zI 101, zI bk, zI bc]) := by
              rw [hw_26]; exact zput_tg h_24 h_45 (by simp)
            have h_47 : w_21.1 ri = some (135, rp, tTb 1 3 I) := by
              rw [hw_22]; exact zput_tg hmc4 hri4 (by simp)
            have h_48 : w_25.1 ri = some (135, rp, tTb 1 3 I) := by
              rw [hw_26]; exact zput_tg h_24 h_47 (by simp)
            have h_49 : w_21.1 ra = some (136, rp, tTb 3 150 A4) := by
              rw [hw_22]; exact zput_tg hmc4 hra4 (by simp)
            have h_50 : w_25.1 ra = some (136, rp, tTb 3 150 A4) := by
              rw [hw_26]; exact zput_tg h_24 h_49 (by simp)
            have h_51 : w_21.1 rn = some (137, rp, tTb 2 160 (nt.map (fun e => [(e.1 : Int), (e.2 : Int)]))) := by
              rw [hw_22]; exact zput_tg hmc4 hrn4 (by simp)
            have h_52 : w_25.1 rn = some (137, rp, tTb 2 160 (nt.map (fun e => [(e.1 : Int), (e.2 : Int)]))) := by
              rw [hw_26]; exact zput_tg h_24 h_51 (by simp)
            have hM6 : mcW w_25 b1 b2 ((mc, fa, ca, ta), (t, tc, tn, th, tz), (rp, ri, ra, rn), (ty, C), (mo, I, bk, bc)) (((cap4, Fs), fm4), (cc4, (ch.reverse.map (fun e => [(e.1 : Int), (e.2.1 : Int), (e.2.2 : Int)]))), (ct4, (((mmAg V T i (smv e.1 1) (V i (smv e.1 0))).2.2).reverse.map (fun e => [(e.1 : Int), (e.2 : Int)]))), ((fr.length : Int), (oA Fs cur), ((pl0 : Int) + 1), (oA Fs den)), (0, 0, 0), (N4, H4, Sz4), (A4, (nt.map (fun e => [(e.1 : Int), (e.2 : Int)])), (((ns + 1) : Nat) : Int), (nc0 : Int), (dp0 : Int), 101)) := ⟨h_28, h_30, ⟨h_32, okC4⟩, ⟨h_34, okT4⟩, hFrr6, ⟨h_36, ⟨h_38, okTC4⟩, ⟨h_40, okN4⟩, ⟨h_42, okH4⟩, h_44, hSz4⟩, ⟨h_46, ⟨h_48, okI4⟩, ⟨h_50, okA4⟩, ⟨h_52, okNt4⟩⟩, hcap4, ⟨by omega, by omega, by omega, by omega⟩, by omega, by omega⟩
            have hW6 : msW w_25 b1 b2 ((mc, fa, ca, ta), (t, tc, tn, th, tz), (rp, ri, ra, rn), (ty, C), (mo, I, bk, bc)) R Fs (0, 0, 101) ((fr, cls, (mmAg V T i (smv e.1 1) (V i (smv e.1 0))).2.1, ch, (mmAg V T i (smv e.1 1) (V i (smv e.1 0))).2.2), (cur, (pl0 + 1), den, (!(mmAg V T i (smv e.1 1) (V i (smv e.1 0))).1)), tm, (na, (ns + 1), nc0, dp0), nt) := ⟨cap4, fm4, cc4, (ch.reverse.map (fun e => [(e.1 : Int), (e.2.1 : Int), (e.2.2 : Int)])), ct4, (((mmAg V T i (smv e.1 1) (V i (smv e.1 0))).2.2).reverse.map (fun e => [(e.1 : Int), (e.2 : Int)])), (fr.length : Int), (oA Fs cur), ((pl0 : Int) + 1), (oA Fs den), 0, N4, H4, Sz4, A4, (nt.map (fun e => [(e.1 : Int), (e.2 : Int)])), (((ns + 1) : Nat) : Int), (nc0 : Int), (dp0 : Int), hM6, ⟨⟨(by first | rfl | omega | simp), hfl4, hJ4, hcn4, hFS4⟩, ⟨rfl, hcuL4, (by first | rfl | omega), rfl, hdeL4, (by rw [hy]; rfl)⟩, ⟨rfl, hchL4⟩, ⟨rfl, hTL4⟩, htm4, ⟨hA4, (by first | rfl | omega), (by first | rfl | omega), (by first | rfl | omega), rfl⟩⟩⟩
            rw [mg_e h300 hk23, mmEq_sy hk1 hv0]
            exact ⟨rfl, ⟨Fs, hF3, hW6⟩, (mcF_tr hmcF1 (mcF_tr hF4 hmcF6))⟩
          | false =>
            refine zx_aload_n (i := 2) dX4_beginGoal_0 rfl rfl ?_
            refine zx_ifnull (tgt := 17) dX4_beginGoal_1 (by decide) (fun h => by cases h) (fun _ => ?_)
            refine zx_aload_n (i := 0) dX4_beginGoal_4 rfl rfl ?_
            refine zx_getfield dX4_beginGoal_5 zf_X4_15 hmc rfl ?_
            refine zx_getfield dX4_beginGoal_8 zf_X4_274 hrp rfl ?_
            refine zx_sipush (v := 300) dX4_beginGoal_11 (by decide +kernel) (z32_lit (by decide) (by decide)) ?_
            refine zx_icmp_lt (tgt := 24) dX4_beginGoal_14 (by decide) (fun h14 => ?_) (fun h14 => absurd (by omega) h14)
            refine zx_aload_n (i := 0) dX4_beginGoal_24 rfl rfl ?_
            refine zx_getfield dX4_beginGoal_25 zf_X4_15 hmc rfl ?_
            refine zx_dup dX4_beginGoal_28 (fun a h => by cases h) ?_
            refine zx_getfield dX4_beginGoal_29 zf_X4_274 hrp rfl ?_
            refine zx_pc (pc1 := 32) rfl ?_
            refine zx_iconst (v := 1) dX4_beginGoal_32 rfl (z32_lit (by decide) (by decide)) ?_
            refine zx_iadd (v := ((ns : Int) + 1)) dX4_beginGoal_33 (zw_id ⟨by omega, by omega⟩) ?_
            obtain ⟨w_1, hw_2⟩ : ∃ ww, ww = zput w rp (8, 0, [zP mo, zR ri, zR ra, zR rn, zI ((ns : Int) + 1), zI (nc0 : Int), zI (dp0 : Int), zI 101, zI bk, zI bc]) := ⟨_, rfl⟩
            refine zx_put (w1 := w_1) dX4_beginGoal_34 zf_X4_274 hrp (Nat.le_of_ble_eq_true rfl) (zFt_int _) (fun h => by cases h) hw_2.symm ?_
            have q_3 : w_1.2.1 = w.2.1 ∧ w_1.2.2 = w.2.2 := by rw [hw_2]; exact ⟨rfl, rfl⟩
            have h_4 : w_1.1 rp = some (8, 0, [zP mo, zR ri, zR ra, zR rn, zI ((ns : Int) + 1), zI (nc0 : Int), zI (dp0 : Int), zI 101, zI bk, zI bc]) := by rw [hw_2]; exact zput_at
            have hfaL1 : zFa [rp] w w_1 := (zFa_put zFa_re (by simp) hw_2)
            have hFrr1 := fm_keep hFr hfaL1 (zLc hrp (by simp) zLn)
            have hmcF1 : mcF rp w w_1 := mcF_fa hfaL1 (zLc hrp (by simp [mcP]) zLn)
            have h_5 : w_1.1 mc = some (4, 0, [zR t, zR fa, zR ca, zR ta, zR rp, zI (fr.length : Int), zP (oA Fs cur), zI (pl0 : Int), zP (oA Fs den), zI (if false = true then 1 else 0), zI 0, zI 0]) := by
              rw [hw_2]; exact zput_tg hrp hmc (by simp)
            have h_6 : w_1.1 fa = some (166, mc, zLs cap Fs) := by
              rw [hw_2]; exact zput_tg hrp hfa (by simp)
            have h_7 : w_1.1 ca = some (138, mc, tTb 3 cc (ch.reverse.map (fun e => [(e.1 : Int), (e.2.1 : Int), (e.2.2 : Int)]))) := by
              rw [hw_2]; exact zput_tg hrp hca (by simp)
            have h_8 : w_1.1 ta = some (139, mc, tTb 2 ct (T.reverse.map (fun e => [(e.1 : Int), (e.2 : Int)]))) := by
              rw [hw_2]; exact zput_tg hrp hta (by simp)
            have h_9 : w_1.1 t = some (10, 0, [zI ty, zR tc, zR tn, zR th, zR tz]) := by
              rw [hw_2]; exact zput_tg hrp ht0 (by simp)
            have h_10 : w_1.1 tc = some (130, t, tTb 3 30 C) := by
              rw [hw_2]; exact zput_tg hrp htc (by simp)
            have h_11 : w_1.1 tn = some (131, t, tTb 4 800 N) := by
              rw [hw_2]; exact zput_tg hrp htn (by simp)
            have h_12 : w_1.1 th = some (132, t, tTb 1 64 H) := by
              rw [hw_2]; exact zput_tg hrp hth (by simp)
            have h_13 : w_1.1 tz = some (120, t, Sz.map zJ) := by
              rw [hw_2]; exact zput_tg hrp htz (by simp)
            have h_14 : w_1.1 ri = some (135, rp, tTb 1 3 I) := by
              rw [hw_2]; exact zput_tg hrp hri (by simp)
            have h_15 : w_1.1 ra = some (136, rp, tTb 3 150 A) := by
              rw [hw_2]; exact zput_tg hrp hra (by simp)
            have h_16 : w_1.1 rn = some (137, rp, tTb 2 160 (nt.map (fun e => [(e.1 : Int), (e.2 : Int)]))) := by
              rw [hw_2]; exact zput_tg hrp hrn (by simp)
            have hM1 : mcW w_1 b1 b2 ((mc, fa, ca, ta), (t, tc, tn, th, tz), (rp, ri, ra, rn), (ty, C), (mo, I, bk, bc)) (((cap, Fs), fm), (cc, (ch.reverse.map (fun e => [(e.1 : Int), (e.2.1 : Int), (e.2.2 : Int)]))), (ct, (T.reverse.map (fun e => [(e.1 : Int), (e.2 : Int)]))), ((fr.length : Int), (oA Fs cur), (pl0 : Int), (oA Fs den)), ((if false = true then 1 else 0), 0, 0), (N, H, Sz), (A, (nt.map (fun e => [(e.1 : Int), (e.2 : Int)])), ((ns : Int) + 1), (nc0 : Int), (dp0 : Int), 101)) := ⟨h_5, h_6, ⟨h_7, okC⟩, ⟨h_8, okT⟩, hFrr1, ⟨h_9, ⟨h_10, okTC⟩, ⟨h_11, okN⟩, ⟨h_12, okH⟩, h_13, hSz⟩, ⟨h_4, ⟨h_14, okI⟩, ⟨h_15, okA⟩, ⟨h_16, okNt⟩⟩, hcap, ⟨by omega, by omega, by omega, by omega⟩, by omega, by omega⟩
            have hW1 : msW w_1 b1 b2 ((mc, fa, ca, ta), (t, tc, tn, th, tz), (rp, ri, ra, rn), (ty, C), (mo, I, bk, bc)) R Fs (0, 0, 101) ((fr, cls, V, ch, T), (cur, pl0, den, false), tm, (na, (ns + 1), nc0, dp0), nt) := ⟨cap, fm, cc, (ch.reverse.map (fun e => [(e.1 : Int), (e.2.1 : Int), (e.2.2 : Int)])), ct, (T.reverse.map (fun e => [(e.1 : Int), (e.2 : Int)])), (fr.length : Int), (oA Fs cur), (pl0 : Int), (oA Fs den), (if false = true then 1 else 0), N, H, Sz, A, (nt.map (fun e => [(e.1 : Int), (e.2 : Int)])), ((ns : Int) + 1), (nc0 : Int), (dp0 : Int), hM1, ⟨⟨(by first | rfl | omega | simp), hfl, hJ, hcn, hFS⟩, ⟨rfl, hcuL, (by first | rfl | omega), rfl, hdeL, rfl⟩, ⟨rfl, hchL⟩, ⟨rfl, hTL⟩, htm, ⟨hA, (by first | rfl | omega), (by first | rfl | omega), (by first | rfl | omega), rfl⟩⟩⟩
            have hP1 : pgW w_1 pg R := pgW_TM hP (mcF_fr hmcF1)
            have hgW1 : goW w_1 g (R.2.2.2.2.2.2 g) := ⟨hmcF1 _ _ hgW.1 (Or.inl (by simp)), hmcF1 _ _ hgW.2.1 (Or.inl (by simp)), hgW.2.2⟩
            refine zx_aload_n (i := 2) dX4_beginGoal_37 rfl rfl ?_
            have h_17 : w_1.1 g = some (3, 0, [zI (e.1.1 : Int), zI (R.2.2.2.2.2.2 g).2.1, zI (R.2.2.2.2.2.2 g).2.2.1, zR (R.2.2.2.2.2.2 g).2.2.2.1]) := by
              rw [hw_2]; exact zput_tg hrp hgo (by simp)
            refine zx_iv (b := g) (As := []) (st := []) (v := (some (zI (zB ((e.1.1 : Int) = 2 ∨ (e.1.1 : Int) = 3))))) (w1 := w_1) dX4_beginGoal_38 zc_X4_277 h_17 rfl rfl rfl (Nat.le_of_ble_eq_true rfl) rfl (c_X3_isCalling h_17) ?_
            refine zx_st (st1 := [zI (zB ((e.1.1 : Int) = 2 ∨ (e.1.1 : Int) = 3))]) rfl ?_
            refine zx_if_eq (tgt := 51) dX4_beginGoal_41 (by decide) (fun h41 => ?_) (fun h41 => absurd (zB_f (by omega)) h41)
            refine zx_aload_n (i := 2) dX4_beginGoal_51 rfl rfl ?_
            refine zx_iconst (v := 0) dX4_beginGoal_52 rfl (z32_lit (by decide) (by decide)) ?_
            have h_18 : w_1.1 ((R.2.2.2.2.2.2 g).2.2.2.1) = some (100, g, (R.2.2.2.2.2.2 g).2.2.2.2.map Sum.inl) := by
              rw [hw_2]; exact zput_tg hrp hgv (by simp)
            refine zx_iv (b := g) (As := [zI 0]) (st := []) (v := (some (zI ((smv e.1 0 : Nat) : Int)))) (w1 := w_1) dX4_beginGoal_53 zc_X4_267 h_17 rfl rfl rfl (Nat.le_of_ble_eq_true rfl) rfl (by have q := c_X3_variableAt (G := G) (d := d + 7) h_17 h_18 hgx (0 : Int); rw [show zVa (R.2.2.2.2.2.2 g).2.2.2.2 0 = _ from (hvk 0 (by omega)).1] at q; exact q) ?_
            refine zx_st (st1 := [zI ((smv e.1 0 : Nat) : Int)]) rfl ?_
            refine zx_istore_n (i := 3) dX4_beginGoal_56 rfl (by decide) rfl ?_
            refine zx_L (L1 := [some (zR mc), some (zR yi), some (zR g), some (zI ((smv e.1 0 : Nat) : Int)), none, none, none]) rfl ?_
            refine zx_aload_n (i := 2) dX4_beginGoal_57 rfl rfl ?_
            refine zx_iconst (v := 1) dX4_beginGoal_58 rfl (z32_lit (by decide) (by decide)) ?_
            refine zx_pc (pc1 := 59) rfl ?_
            refine zx_iv (b := g) (As := [zI 1]) (st := []) (v := (some (zI ((smv e.1 1 : Nat) : Int)))) (w1 := w_1) dX4_beginGoal_59 zc_X4_267 h_17 rfl rfl rfl (Nat.le_of_ble_eq_true rfl) rfl (by have q := c_X3_variableAt (G := G) (d := d + 7) h_17 h_18 hgx (1 : Int); rw [show zVa (R.2.2.2.2.2.2 g).2.2.2.2 1 = _ from (hvk 1 (by omega)).1] at q; exact q) ?_
            refine zx_st (st1 := [zI ((smv e.1 1 : Nat) : Int)]) rfl ?_
            refine zx_istore (i := 4) dX4_beginGoal_62 (by decide) rfl ?_
            refine zx_L (L1 := [some (zR mc), some (zR yi), some (zR g), some (zI ((smv e.1 0 : Nat) : Int)), some (zI ((smv e.1 1 : Nat) : Int)), none, none]) rfl ?_
            refine zx_aload_n (i := 2) dX4_beginGoal_64 rfl rfl ?_
            refine zx_getfield dX4_beginGoal_65 zf_X4_284 h_17 rfl ?_
            refine zx_iconst (v := 1) dX4_beginGoal_68 rfl (z32_lit (by decide) (by decide)) ?_
            refine zx_icmp_ne (tgt := 138) dX4_beginGoal_69 (by decide) (fun h69 => absurd h69 (by omega)) (fun h69 => ?_)
            refine zx_aload_n (i := 1) dX4_beginGoal_72 rfl rfl ?_
            refine zx_iload_n (i := 3) dX4_beginGoal_73 rfl rfl ?_
            have h_19 : w_1.1 va_i = some (104, yi, xs_i.map Sum.inl) := by
              rw [hw_2]; exact zput_tg hrp hva_i (by simp)
            have h_20 : w_1.1 yi = some (2, 0, [zI (i : Int), zR va_i, zR md_i, zP (oA Fs (mmf fr i).2.1.1), zI ((mmf fr i).2.1.2.1 : Int), zI ((mmf fr i).2.1.2.2 : Int), zP ((cls i).bind (pgCl R)), zI (if (mmf fr i).2.2.1 = true then 1 else 0), zP (oA Fs (mmf fr i).2.2.2.1), zI ((mmf fr i).2.2.2.2 : Int)]) := by
              rw [hw_2]; exact zput_tg hrp hfy_i (by simp)
            refine zx_iv (b := yi) (As := [zI ((smv e.1 0 : Nat) : Int)]) (st := []) (v := (some (zI (zVl xs_i ((smv e.1 0 : Nat) : Int))))) (w1 := w_1) dX4_beginGoal_74 zc_X4_203 h_20 rfl rfl rfl (Nat.le_of_ble_eq_true rfl) rfl (c_X2_valueOf h_20 h_19 (by omega) ((smv e.1 0 : Nat) : Int)) ?_
            refine zx_st (st1 := [zI (zVl xs_i ((smv e.1 0 : Nat) : Int))]) rfl ?_
            refine zx_iconst (v := -1) dX4_beginGoal_77 rfl (z32_lit (by decide) (by decide)) ?_
            refine zx_icmp_eq (tgt := 85) dX4_beginGoal_78 (by decide) (fun h78 => absurd h78 ((fun q => hv0 (hvn0.mp q)))) (fun h78 => ?_)
            refine zx_iconst (v := 1) dX4_beginGoal_81 rfl (z32_lit (by decide) (by decide)) ?_
            refine zx_pc (pc1 := 82) rfl ?_
            refine zx_goto (tgt := 86) dX4_beginGoal_82 (by decide) ?_
            refine zx_istore (i := 5) dX4_beginGoal_86 (by decide) rfl ?_
            refine zx_L (L1 := [some (zR mc), some (zR yi), some (zR g), some (zI ((smv e.1 0 : Nat) : Int)), some (zI ((smv e.1 1 : Nat) : Int)), some (zI 1), none]) rfl ?_
            refine zx_aload_n (i := 1) dX4_beginGoal_88 rfl rfl ?_
            refine zx_iload (i := 5) dX4_beginGoal_89 rfl ?_
            refine zx_if_eq (tgt := 98) dX4_beginGoal_91 (by decide) (fun h91 => absurd h91 (by decide)) (fun h91 => ?_)
            refine zx_iload_n (i := 3) dX4_beginGoal_94 rfl rfl ?_
            refine zx_goto (tgt := 100) dX4_beginGoal_95 (by decide) ?_
            refine zx_iv (b := yi) (As := [zI ((smv e.1 0 : Nat) : Int)]) (st := []) (v := (some (zI (zVl xs_i ((smv e.1 0 : Nat) : Int))))) (w1 := w_1) dX4_beginGoal_100 zc_X4_203 h_20 rfl rfl rfl (Nat.le_of_ble_eq_true rfl) rfl (c_X2_valueOf h_20 h_19 (by omega) ((smv e.1 0 : Nat) : Int)) ?_
            refine zx_st (st1 := [zI (zVl xs_i ((smv e.1 0 : Nat) : Int))]) rfl ?_
            refine zx_istore (i := 6) dX4_beginGoal_103 (by decide) rfl ?_
            refine zx_L (L1 := [some (zR mc), some (zR yi), some (zR g), some (zI ((smv e.1 0 : Nat) : Int)), some (zI ((smv e.1 1 : Nat) : Int)), some (zI 1), some (zI (zVl xs_i ((smv e.1 0 : Nat) : Int)))]) rfl ?_
            refine zx_aload_n (i := 0) dX4_beginGoal_105 rfl rfl ?_
            refine zx_aload_n (i := 0) dX4_beginGoal_106 rfl rfl ?_
            refine zx_aload_n (i := 1) dX4_beginGoal_107 rfl rfl ?_
            refine zx_pc (pc1 := 108) rfl ?_
            refine zx_iload (i := 5) dX4_beginGoal_108 rfl ?_
            refine zx_if_eq (tgt := 118) dX4_beginGoal_110 (by decide) (fun h110 => absurd h110 (by decide)) (fun h110 => ?_)
            refine zx_iload (i := 4) dX4_beginGoal_113 rfl ?_
            refine zx_goto (tgt := 119) dX4_beginGoal_115 (by decide) ?_
            refine zx_iload (i := 6) dX4_beginGoal_119 rfl ?_
            refine zx_ivV (b := mc) (As := [zR yi, zI ((smv e.1 1 : Nat) : Int), zI (zVl xs_i ((smv e.1 0 : Nat) : Int))]) (st := [zR mc]) dX4_beginGoal_121 zc_X4_270 h_5 rfl rfl rfl (Nat.le_of_ble_eq_true rfl) rfl (s_agrees hW1 hG1 hG2 hF3 (by omega) hif hi (hvk 1 (by omega)).2 (hvv 0 (by omega))) (fun v4 w4 hq => ?_)
            obtain ⟨ev4, hW4, hF4⟩ := hq
            subst ev4
            obtain ⟨cap4, fm4, cc4, CH4, ct4, TR4, us4, cu4, pl4, de4, fl4, N4, H4, Sz4, A4, Nt4, sc4, nc4, dp4, hM4, hS4⟩ := id hW4
            obtain ⟨⟨hus4, hfl4, hJ4, hcn4, hFS4⟩, ⟨hcu4, hcuL4, hpl4, hde4, hdeL4, hfb4⟩, ⟨hCH4, hchL4⟩, ⟨hTR4, hTL4⟩, htm4, ⟨hA4, hsc4, hnc4, hdp4, hNt4⟩⟩ := id hS4
            subst hus4 hcu4 hpl4 hde4 hfb4 hCH4 hTR4 hsc4 hnc4 hdp4 hNt4
            obtain ⟨hmc4, hfa4, ⟨hca4, okC4⟩, ⟨hta4, okT4⟩, hFr4, ⟨ht04, ⟨htc4, okTC4⟩, ⟨htn4, okN4⟩, ⟨hth4, okH4⟩, htz4, hSz4⟩, ⟨hrp4, ⟨hri4, okI4⟩, ⟨hra4, okA4⟩, ⟨hrn4, okNt4⟩⟩, hcap4, hcct4, hrm14, hrm24⟩ := id hM4
            refine zx_if_ne (tgt := 131) dX4_beginGoal_124 (by decide) (fun h124 => absurd h124 (by rw [zB_f (by rw [hy]; decide)]; decide)) (fun h124 => ?_)
            refine zx_iconst (v := 1) dX4_beginGoal_127 rfl (z32_lit (by decide) (by decide)) ?_
            refine zx_goto (tgt := 132) dX4_beginGoal_128 (by decide) ?_
            obtain ⟨w_21, hw_22⟩ : ∃ ww, ww = zput w4 mc (4, 0, [zR t, zR fa, zR ca, zR ta, zR rp, zI (fr.length : Int), zP (oA Fs cur), zI (pl0 : Int), zP (oA Fs den), zI 1, zI 0, zI 0]) := ⟨_, rfl⟩
            refine zx_put (w1 := w_21) dX4_beginGoal_132 zf_X4_57 hmc4 (Nat.le_of_ble_eq_true rfl) (zFt_bool (by first | exact Or.inl rfl | exact Or.inr rfl | exact zB_or | assumption)) (fun h => by cases h) hw_22.symm ?_
            have q_23 : w_21.2.1 = w4.2.1 ∧ w_21.2.2 = w4.2.2 := by rw [hw_22]; exact ⟨rfl, rfl⟩
            have h_24 : w_21.1 mc = some (4, 0, [zR t, zR fa, zR ca, zR ta, zR rp, zI (fr.length : Int), zP (oA Fs cur), zI (pl0 : Int), zP (oA Fs den), zI 1, zI 0, zI 0]) := by rw [hw_22]; exact zput_at
            refine zx_goto (tgt := 179) dX4_beginGoal_135 (by decide) ?_
            refine zx_aload_n (i := 0) dX4_beginGoal_179 rfl rfl ?_
            refine zx_pc (pc1 := 180) rfl ?_
            refine zx_dup dX4_beginGoal_180 (fun a h => by cases h) ?_
            refine zx_getfield dX4_beginGoal_181 zf_X4_69 h_24 rfl ?_
            refine zx_iconst (v := 1) dX4_beginGoal_184 rfl (z32_lit (by decide) (by decide)) ?_
            refine zx_iadd (v := ((pl0 : Int) + 1)) dX4_beginGoal_185 (zw_id ⟨by omega, by omega⟩) ?_
            obtain ⟨w_25, hw_26⟩ : ∃ ww, ww = zput w_21 mc (4, 0, [zR t, zR fa, zR ca, zR ta, zR rp, zI (fr.length : Int), zP (oA Fs cur), zI ((pl0 : Int) + 1), zP (oA Fs den), zI 1, zI 0, zI 0]) := ⟨_, rfl⟩
            refine zx_put (w1 := w_25) dX4_beginGoal_186 zf_X4_69 h_24 (Nat.le_of_ble_eq_true rfl) (zFt_int _) (fun h => by cases h) hw_26.symm ?_
            have q_27 : w_25.2.1 = w_21.2.1 ∧ w_25.2.2 = w_21.2.2 := by rw [hw_26]; exact ⟨rfl, rfl⟩
            have h_28 : w_25.1 mc = some (4, 0, [zR t, zR fa, zR ca, zR ta, zR rp, zI (fr.length : Int), zP (oA Fs cur), zI ((pl0 : Int) + 1), zP (oA Fs den), zI 1, zI 0, zI 0]) := by rw [hw_26]; exact zput_at
            refine zx_return dX4_beginGoal_189 rfl ?_
            have hfaL6 : zFa [mc] w4 w_25 := (zFa_put (zFa_put zFa_re (by simp) hw_22) (by simp) hw_26)
            have hFrr6 := fm_keep hFr4 hfaL6 (zLc hmc4 (by simp) zLn)
            have hmcF6 : mcF rp w4 w_25 := mcF_fa hfaL6 (zLc hmc4 (by simp [mcP]) zLn)
            have h_29 : w_21.1 fa = some (166, mc, zLs cap4 Fs) := by
              rw [hw_22]; exact zput_tg hmc4 hfa4 (by simp)
            have h_30 : w_25.1 fa = some (166, mc, zLs cap4 Fs) := by
              rw [hw_26]; exact zput_tg h_24 h_29 (by simp)
            have h_31 : w_21.1 ca = some (138, mc, tTb 3 cc4 (ch.reverse.map (fun e => [(e.1 : Int), (e.2.1 : Int), (e.2.2 : Int)]))) := by
              rw [hw_22]; exact zput_tg hmc4 hca4 (by simp)
            have h_32 : w_25.1 ca = some (138, mc, tTb 3 cc4 (ch.reverse.map (fun e => [(e.1 : Int), (e.2.1 : Int), (e.2.2 : Int)]))) := by
              rw [hw_26]; exact zput_tg h_24 h_31 (by simp)
            have h_33 : w_21.1 ta = some (139, mc, tTb 2 ct4 (((mmAg V T i (smv e.1 1) (V i (smv e.1 0))).2.2).reverse.map (fun e => [(e.1 : Int), (e.2 : Int)]))) := by
              rw [hw_22]; exact zput_tg hmc4 hta4 (by simp)
            have h_34 : w_25.1 ta = some (139, mc, tTb 2 ct4 (((mmAg V T i (smv e.1 1) (V i (smv e.1 0))).2.2).reverse.map (fun e => [(e.1 : Int), (e.2 : Int)]))) := by
              rw [hw_26]; exact zput_tg h_24 h_33 (by simp)
            have h_35 : w_21.1 t = some (10, 0, [zI ty, zR tc, zR tn, zR th, zR tz]) := by
              rw [hw_22]; exact zput_tg hmc4 ht04 (by simp)
            have h_36 : w_25.1 t = some (10, 0, [zI ty, zR tc, zR tn, zR th, zR tz]) := by
              rw [hw_26]; exact zput_tg h_24 h_35 (by simp)
            have h_37 : w_21.1 tc = some (130, t, tTb 3 30 C) := by
              rw [hw_22]; exact zput_tg hmc4 htc4 (by simp)
            have h_38 : w_25.1 tc = some (130, t, tTb 3 30 C) := by
              rw [hw_26]; exact zput_tg h_24 h_37 (by simp)
            have h_39 : w_21.1 tn = some (131, t, tTb 4 800 N4) := by
              rw [hw_22]; exact zput_tg hmc4 htn4 (by simp)
            have h_40 : w_25.1 tn = some (131, t, tTb 4 800 N4) := by
              rw [hw_26]; exact zput_tg h_24 h_39 (by simp)
            have h_41 : w_21.1 th = some (132, t, tTb 1 64 H4) := by
              rw [hw_22]; exact zput_tg hmc4 hth4 (by simp)
            have h_42 : w_25.1 th = some (132, t, tTb 1 64 H4) := by
              rw [hw_26]; exact zput_tg h_24 h_41 (by simp)
            have h_43 : w_21.1 tz = some (120, t, Sz4.map zJ) := by
              rw [hw_22]; exact zput_tg hmc4 htz4 (by simp)
            have h_44 : w_25.1 tz = some (120, t, Sz4.map zJ) := by
              rw [hw_26]; exact zput_tg h_24 h_43 (by simp)
            have h_45 : w_21.1 rp = some (8, 0, [zP mo, zR ri, zR ra, zR rn, zI (((ns + 1) : Nat) : Int), zI (nc0 : Int), zI (dp0 : Int), zI 101, zI bk, zI bc]) := by
              rw [hw_22]; exact zput_tg hmc4 hrp4 (by simp)
            have h_46 : w_25.1 rp = some (8, 0, [zP mo, zR ri, zR ra, zR rn, zI (((ns + 1) : Nat) : Int), zI (nc0 : Int), zI (dp0 : Int), zI 101, zI bk, zI bc]) := by
              rw [hw_26]; exact zput_tg h_24 h_45 (by simp)
            have h_47 : w_21.1 ri = some (135, rp, tTb 1 3 I) := by
              rw [hw_22]; exact zput_tg hmc4 hri4 (by simp)
            have h_48 : w_25.1 ri = some (135, rp, tTb 1 3 I) := by
              rw [hw_26]; exact zput_tg h_24 h_47 (by simp)
            have h_49 : w_21.1 ra = some (136, rp, tTb 3 150 A4) := by
              rw [hw_22]; exact zput_tg hmc4 hra4 (by simp)
            have h_50 : w_25.1 ra = some (136, rp, tTb 3 150 A4) := by
              rw [hw_26]; exact zput_tg h_24 h_49 (by simp)
            have h_51 : w_21.1 rn = some (137, rp, tTb 2 160 (nt.map (fun e => [(e.1 : Int), (e.2 : Int)]))) := by
              rw [hw_22]; exact zput_tg hmc4 hrn4 (by simp)
            have h_52 : w_25.1 rn = some (137, rp, tTb 2 160 (nt.map (fun e => [(e.1 : Int), (e.2 : Int)]))) := by
              rw [hw_26]; exact zput_tg h_24 h_51 (by simp)
            have hM6 : mcW w_25 b1 b2 ((mc, fa, ca, ta), (t, tc, tn, th, tz), (rp, ri, ra, rn), (ty, C), (mo, I, bk, bc)) (((cap4, Fs), fm4), (cc4, (ch.reverse.map (fun e => [(e.1 : Int), (e.2.1 : Int), (e.2.2 : Int)]))), (ct4, (((mmAg V T i (smv e.1 1) (V i (smv e.1 0))).2.2).reverse.map (fun e => [(e.1 : Int), (e.2 : Int)]))), ((fr.length : Int), (oA Fs cur), ((pl0 : Int) + 1), (oA Fs den)), (1, 0, 0), (N4, H4, Sz4), (A4, (nt.map (fun e => [(e.1 : Int), (e.2 : Int)])), (((ns + 1) : Nat) : Int), (nc0 : Int), (dp0 : Int), 101)) := ⟨h_28, h_30, ⟨h_32, okC4⟩, ⟨h_34, okT4⟩, hFrr6, ⟨h_36, ⟨h_38, okTC4⟩, ⟨h_40, okN4⟩, ⟨h_42, okH4⟩, h_44, hSz4⟩, ⟨h_46, ⟨h_48, okI4⟩, ⟨h_50, okA4⟩, ⟨h_52, okNt4⟩⟩, hcap4, ⟨by omega, by omega, by omega, by omega⟩, by omega, by omega⟩
            have hW6 : msW w_25 b1 b2 ((mc, fa, ca, ta), (t, tc, tn, th, tz), (rp, ri, ra, rn), (ty, C), (mo, I, bk, bc)) R Fs (0, 0, 101) ((fr, cls, (mmAg V T i (smv e.1 1) (V i (smv e.1 0))).2.1, ch, (mmAg V T i (smv e.1 1) (V i (smv e.1 0))).2.2), (cur, (pl0 + 1), den, (!(mmAg V T i (smv e.1 1) (V i (smv e.1 0))).1)), tm, (na, (ns + 1), nc0, dp0), nt) := ⟨cap4, fm4, cc4, (ch.reverse.map (fun e => [(e.1 : Int), (e.2.1 : Int), (e.2.2 : Int)])), ct4, (((mmAg V T i (smv e.1 1) (V i (smv e.1 0))).2.2).reverse.map (fun e => [(e.1 : Int), (e.2 : Int)])), (fr.length : Int), (oA Fs cur), ((pl0 : Int) + 1), (oA Fs den), 1, N4, H4, Sz4, A4, (nt.map (fun e => [(e.1 : Int), (e.2 : Int)])), (((ns + 1) : Nat) : Int), (nc0 : Int), (dp0 : Int), hM6, ⟨⟨(by first | rfl | omega | simp), hfl4, hJ4, hcn4, hFS4⟩, ⟨rfl, hcuL4, (by first | rfl | omega), rfl, hdeL4, (by rw [hy]; rfl)⟩, ⟨rfl, hchL4⟩, ⟨rfl, hTL4⟩, htm4, ⟨hA4, (by first | rfl | omega), (by first | rfl | omega), (by first | rfl | omega), rfl⟩⟩⟩
            rw [mg_e h300 hk23, mmEq_sy hk1 hv0]
            exact ⟨rfl, ⟨Fs, hF3, hW6⟩, (mcF_tr hmcF1 (mcF_tr hF4 hmcF6))⟩
      · have hk0 : e.1.1 = 0 := by omega
        cases hv0 : V i (smv e.1 0) with
        | some hv =>
          have hvz0 := hvv 0 (by omega)
          rw [hv0] at hvz0
          cases hy : (caS V T i e.1 hv).1 with
          | true =>
            refine zx_aload_n (i := 2) dX4_beginGoal_0 rfl rfl ?_
            refine zx_ifnull (tgt := 17) dX4_beginGoal_1 (by decide) (fun h => by cases h) (fun _ => ?_)
            refine zx_aload_n (i := 0) dX4_beginGoal_4 rfl rfl ?_
            refine zx_getfield dX4_beginGoal_5 zf_X4_15 hmc rfl ?_
            refine zx_getfield dX4_beginGoal_8 zf_X4_274 hrp rfl ?_
            refine zx_sipush (v := 300) dX4_beginGoal_11 (by decide +kernel) (z32_lit (by decide) (by decide)) ?_
            refine zx_icmp_lt (tgt := 24) dX4_beginGoal_14 (by decide) (fun h14 => ?_) (fun h14 => absurd (by omega) h14)
            refine zx_aload_n (i := 0) dX4_beginGoal_24 rfl rfl ?_
            refine zx_getfield dX4_beginGoal_25 zf_X4_15 hmc rfl ?_
            refine zx_dup dX4_beginGoal_28 (fun a h => by cases h) ?_
            refine zx_getfield dX4_beginGoal_29 zf_X4_274 hrp rfl ?_
            refine zx_pc (pc1 := 32) rfl ?_
            refine zx_iconst (v := 1) dX4_beginGoal_32 rfl (z32_lit (by decide) (by decide)) ?_
            refine zx_iadd (v := ((ns : Int) + 1)) dX4_beginGoal_33 (zw_id ⟨by omega, by omega⟩) ?_
            obtain ⟨w_1, hw_2⟩ : ∃ ww, ww = zput w rp (8, 0, [zP mo, zR ri, zR ra, zR rn, zI ((ns : Int) + 1), zI (nc0 : Int), zI (dp0 : Int), zI 101, zI bk, zI bc]) := ⟨_, rfl⟩
            refine zx_put (w1 := w_1) dX4_beginGoal_34 zf_X4_274 hrp (Nat.le_of_ble_eq_true rfl) (zFt_int _) (fun h => by cases h) hw_2.symm ?_
            have q_3 : w_1.2.1 = w.2.1 ∧ w_1.2.2 = w.2.2 := by rw [hw_2]; exact ⟨rfl, rfl⟩
            have h_4 : w_1.1 rp = some (8, 0, [zP mo, zR ri, zR ra, zR rn, zI ((ns : Int) + 1), zI (nc0 : Int), zI (dp0 : Int), zI 101, zI bk, zI bc]) := by rw [hw_2]; exact zput_at
            have hfaL1 : zFa [rp] w w_1 := (zFa_put zFa_re (by simp) hw_2)
            have hFrr1 := fm_keep hFr hfaL1 (zLc hrp (by simp) zLn)
            have hmcF1 : mcF rp w w_1 := mcF_fa hfaL1 (zLc hrp (by simp [mcP]) zLn)
            have h_5 : w_1.1 mc = some (4, 0, [zR t, zR fa, zR ca, zR ta, zR rp, zI (fr.length : Int), zP (oA Fs cur), zI (pl0 : Int), zP (oA Fs den), zI (if false = true then 1 else 0), zI 0, zI 0]) := by
              rw [hw_2]; exact zput_tg hrp hmc (by simp)
            have h_6 : w_1.1 fa = some (166, mc, zLs cap Fs) := by
              rw [hw_2]; exact zput_tg hrp hfa (by simp)
            have h_7 : w_1.1 ca = some (138, mc, tTb 3 cc (ch.reverse.map (fun e => [(e.1 : Int), (e.2.1 : Int), (e.2.2 : Int)]))) := by
              rw [hw_2]; exact zput_tg hrp hca (by simp)
            have h_8 : w_1.1 ta = some (139, mc, tTb 2 ct (T.reverse.map (fun e => [(e.1 : Int), (e.2 : Int)]))) := by
              rw [hw_2]; exact zput_tg hrp hta (by simp)
            have h_9 : w_1.1 t = some (10, 0, [zI ty, zR tc, zR tn, zR th, zR tz]) := by
              rw [hw_2]; exact zput_tg hrp ht0 (by simp)
            have h_10 : w_1.1 tc = some (130, t, tTb 3 30 C) := by
              rw [hw_2]; exact zput_tg hrp htc (by simp)
            have h_11 : w_1.1 tn = some (131, t, tTb 4 800 N) := by
              rw [hw_2]; exact zput_tg hrp htn (by simp)
            have h_12 : w_1.1 th = some (132, t, tTb 1 64 H) := by
              rw [hw_2]; exact zput_tg hrp hth (by simp)
            have h_13 : w_1.1 tz = some (120, t, Sz.map zJ) := by
              rw [hw_2]; exact zput_tg hrp htz (by simp)
            have h_14 : w_1.1 ri = some (135, rp, tTb 1 3 I) := by
              rw [hw_2]; exact zput_tg hrp hri (by simp)
            have h_15 : w_1.1 ra = some (136, rp, tTb 3 150 A) := by
              rw [hw_2]; exact zput_tg hrp hra (by simp)
            have h_16 : w_1.1 rn = some (137, rp, tTb 2 160 (nt.map (fun e => [(e.1 : Int), (e.2 : Int)]))) := by
              rw [hw_2]; exact zput_tg hrp hrn (by simp)
            have hM1 : mcW w_1 b1 b2 ((mc, fa, ca, ta), (t, tc, tn, th, tz), (rp, ri, ra, rn), (ty, C), (mo, I, bk, bc)) (((cap, Fs), fm), (cc, (ch.reverse.map (fun e => [(e.1 : Int), (e.2.1 : Int), (e.2.2 : Int)]))), (ct, (T.reverse.map (fun e => [(e.1 : Int), (e.2 : Int)]))), ((fr.length : Int), (oA Fs cur), (pl0 : Int), (oA Fs den)), ((if false = true then 1 else 0), 0, 0), (N, H, Sz), (A, (nt.map (fun e => [(e.1 : Int), (e.2 : Int)])), ((ns : Int) + 1), (nc0 : Int), (dp0 : Int), 101)) := ⟨h_5, h_6, ⟨h_7, okC⟩, ⟨h_8, okT⟩, hFrr1, ⟨h_9, ⟨h_10, okTC⟩, ⟨h_11, okN⟩, ⟨h_12, okH⟩, h_13, hSz⟩, ⟨h_4, ⟨h_14, okI⟩, ⟨h_15, okA⟩, ⟨h_16, okNt⟩⟩, hcap, ⟨by omega, by omega, by omega, by omega⟩, by omega, by omega⟩
            have hW1 : msW w_1 b1 b2 ((mc, fa, ca, ta), (t, tc, tn, th, tz), (rp, ri, ra, rn), (ty, C), (mo, I, bk, bc)) R Fs (0, 0, 101) ((fr, cls, V, ch, T), (cur, pl0, den, false), tm, (na, (ns + 1), nc0, dp0), nt) := ⟨cap, fm, cc, (ch.reverse.map (fun e => [(e.1 : Int), (e.2.1 : Int), (e.2.2 : Int)])), ct, (T.reverse.map (fun e => [(e.1 : Int), (e.2 : Int)])), (fr.length : Int), (oA Fs cur), (pl0 : Int), (oA Fs den), (if false = true then 1 else 0), N, H, Sz, A, (nt.map (fun e => [(e.1 : Int), (e.2 : Int)])), ((ns : Int) + 1), (nc0 : Int), (dp0 : Int), hM1, ⟨⟨(by first | rfl | omega | simp), hfl, hJ, hcn, hFS⟩, ⟨rfl, hcuL, (by first | rfl | omega), rfl, hdeL, rfl⟩, ⟨rfl, hchL⟩, ⟨rfl, hTL⟩, htm, ⟨hA, (by first | rfl | omega), (by first | rfl | omega), (by first | rfl | omega), rfl⟩⟩⟩
            have hP1 : pgW w_1 pg R := pgW_TM hP (mcF_fr hmcF1)
            have hgW1 : goW w_1 g (R.2.2.2.2.2.2 g) := ⟨hmcF1 _ _ hgW.1 (Or.inl (by simp)), hmcF1 _ _ hgW.2.1 (Or.inl (by simp)), hgW.2.2⟩
            refine zx_aload_n (i := 2) dX4_beginGoal_37 rfl rfl ?_
            have h_17 : w_1.1 g = some (3, 0, [zI (e.1.1 : Int), zI (R.2.2.2.2.2.2 g).2.1, zI (R.2.2.2.2.2.2 g).2.2.1, zR (R.2.2.2.2.2.2 g).2.2.2.1]) := by
              rw [hw_2]; exact zput_tg hrp hgo (by simp)
            refine zx_iv (b := g) (As := []) (st := []) (v := (some (zI (zB ((e.1.1 : Int) = 2 ∨ (e.1.1 : Int) = 3))))) (w1 := w_1) dX4_beginGoal_38 zc_X4_277 h_17 rfl rfl rfl (Nat.le_of_ble_eq_true rfl) rfl (c_X3_isCalling h_17) ?_
            refine zx_st (st1 := [zI (zB ((e.1.1 : Int) = 2 ∨ (e.1.1 : Int) = 3))]) rfl ?_
            refine zx_if_eq (tgt := 51) dX4_beginGoal_41 (by decide) (fun h41 => ?_) (fun h41 => absurd (zB_f (by omega)) h41)
            refine zx_aload_n (i := 2) dX4_beginGoal_51 rfl rfl ?_
            refine zx_iconst (v := 0) dX4_beginGoal_52 rfl (z32_lit (by decide) (by decide)) ?_
            have h_18 : w_1.1 ((R.2.2.2.2.2.2 g).2.2.2.1) = some (100, g, (R.2.2.2.2.2.2 g).2.2.2.2.map Sum.inl) := by
              rw [hw_2]; exact zput_tg hrp hgv (by simp)
            refine zx_iv (b := g) (As := [zI 0]) (st := []) (v := (some (zI ((smv e.1 0 : Nat) : Int)))) (w1 := w_1) dX4_beginGoal_53 zc_X4_267 h_17 rfl rfl rfl (Nat.le_of_ble_eq_true rfl) rfl (by have q := c_X3_variableAt (G := G) (d := d + 7) h_17 h_18 hgx (0 : Int); rw [show zVa (R.2.2.2.2.2.2 g).2.2.2.2 0 = _ from (hvk 0 (by omega)).1] at q; exact q) ?_
            refine zx_st (st1 := [zI ((smv e.1 0 : Nat) : Int)]) rfl ?_
            refine zx_istore_n (i := 3) dX4_beginGoal_56 rfl (by decide) rfl ?_
            refine zx_L (L1 := [some (zR mc), some (zR yi), some (zR g), some (zI ((smv e.1 0 : Nat) : Int)), none, none, none]) rfl ?_
            refine zx_aload_n (i := 2) dX4_beginGoal_57 rfl rfl ?_
            refine zx_iconst (v := 1) dX4_beginGoal_58 rfl (z32_lit (by decide) (by decide)) ?_
            refine zx_pc (pc1 := 59) rfl ?_
            refine zx_iv (b := g) (As := [zI 1]) (st := []) (v := (some (zI ((smv e.1 1 : Nat) : Int)))) (w1 := w_1) dX4_beginGoal_59 zc_X4_267 h_17 rfl rfl rfl (Nat.le_of_ble_eq_true rfl) rfl (by have q := c_X3_variableAt (G := G) (d := d + 7) h_17 h_18 hgx (1 : Int); rw [show zVa (R.2.2.2.2.2.2 g).2.2.2.2 1 = _ from (hvk 1 (by omega)).1] at q; exact q) ?_
            refine zx_st (st1 := [zI ((smv e.1 1 : Nat) : Int)]) rfl ?_
            refine zx_istore (i := 4) dX4_beginGoal_62 (by decide) rfl ?_
            refine zx_L (L1 := [some (zR mc), some (zR yi), some (zR g), some (zI ((smv e.1 0 : Nat) : Int)), some (zI ((smv e.1 1 : Nat) : Int)), none, none]) rfl ?_
            refine zx_aload_n (i := 2) dX4_beginGoal_64 rfl rfl ?_
            refine zx_getfield dX4_beginGoal_65 zf_X4_284 h_17 rfl ?_
            refine zx_iconst (v := 1) dX4_beginGoal_68 rfl (z32_lit (by decide) (by decide)) ?_
            refine zx_icmp_ne (tgt := 138) dX4_beginGoal_69 (by decide) (fun h69 => ?_) (fun h69 => absurd (by omega) h69)
            refine zx_aload_n (i := 1) dX4_beginGoal_138 rfl rfl ?_
            refine zx_iload_n (i := 3) dX4_beginGoal_139 rfl rfl ?_
            have h_19 : w_1.1 va_i = some (104, yi, xs_i.map Sum.inl) := by
              rw [hw_2]; exact zput_tg hrp hva_i (by simp)
            have h_20 : w_1.1 yi = some (2, 0, [zI (i : Int), zR va_i, zR md_i, zP (oA Fs (mmf fr i).2.1.1), zI ((mmf fr i).2.1.2.1 : Int), zI ((mmf fr i).2.1.2.2 : Int), zP ((cls i).bind (pgCl R)), zI (if (mmf fr i).2.2.1 = true then 1 else 0), zP (oA Fs (mmf fr i).2.2.2.1), zI ((mmf fr i).2.2.2.2 : Int)]) := by
              rw [hw_2]; exact zput_tg hrp hfy_i (by simp)
            refine zx_iv (b := yi) (As := [zI ((smv e.1 0 : Nat) : Int)]) (st := []) (v := (some (zI (zVl xs_i ((smv e.1 0 : Nat) : Int))))) (w1 := w_1) dX4_beginGoal_140 zc_X4_203 h_20 rfl rfl rfl (Nat.le_of_ble_eq_true rfl) rfl (c_X2_valueOf h_20 h_19 (by omega) ((smv e.1 0 : Nat) : Int)) ?_
            refine zx_st (st1 := [zI (zVl xs_i ((smv e.1 0 : Nat) : Int))]) rfl ?_
            refine zx_iconst (v := -1) dX4_beginGoal_143 rfl (z32_lit (by decide) (by decide)) ?_
            refine zx_icmp_ne (tgt := 156) dX4_beginGoal_144 (by decide) (fun h144 => ?_) (fun h144 => absurd ((fun q => by have := hvn0.mp q; rw [hv0] at this; cases this)) h144)
            refine zx_aload_n (i := 0) dX4_beginGoal_156 rfl rfl ?_
            refine zx_pc (pc1 := 157) rfl ?_
            refine zx_aload_n (i := 0) dX4_beginGoal_157 rfl rfl ?_
            refine zx_aload_n (i := 1) dX4_beginGoal_158 rfl rfl ?_
            refine zx_aload_n (i := 2) dX4_beginGoal_159 rfl rfl ?_
            refine zx_aload_n (i := 1) dX4_beginGoal_160 rfl rfl ?_
            refine zx_iload_n (i := 3) dX4_beginGoal_161 rfl rfl ?_
            refine zx_iv (b := yi) (As := [zI ((smv e.1 0 : Nat) : Int)]) (st := [zR g, zR yi, zR mc, zR mc]) (v := (some (zI (zVl xs_i ((smv e.1 0 : Nat) : Int))))) (w1 := w_1) dX4_beginGoal_162 zc_X4_203 h_20 rfl rfl rfl (Nat.le_of_ble_eq_true rfl) rfl (c_X2_valueOf h_20 h_19 (by omega) ((smv e.1 0 : Nat) : Int)) ?_
            refine zx_st (st1 := [zI (zVl xs_i ((smv e.1 0 : Nat) : Int)), zR g, zR yi, zR mc, zR mc]) rfl ?_
            have hcA1 := s_comesApart (G := G) (d := d + 3) hP1 hW1 hG1 hG2 hF3 (by omega) hif hi hgW1 hg3 (by rw [← hg4]; exact hk0) (by rw [← hg4]; exact (hkz hk0).1) (by rw [← hg4]; exact (hkz hk0).2.1) hvz0
            rw [← hg4] at hcA1
            refine zx_ivV (b := mc) (As := [zR yi, zR g, zI (zVl xs_i ((smv e.1 0 : Nat) : Int))]) (st := [zR mc]) dX4_beginGoal_165 zc_X4_290 h_5 rfl rfl rfl (Nat.le_of_ble_eq_true rfl) rfl hcA1 (fun v4 w4 hq => ?_)
            obtain ⟨ev4, hW4, hF4⟩ := hq
            subst ev4
            obtain ⟨cap4, fm4, cc4, CH4, ct4, TR4, us4, cu4, pl4, de4, fl4, N4, H4, Sz4, A4, Nt4, sc4, nc4, dp4, hM4, hS4⟩ := id hW4
            obtain ⟨⟨hus4, hfl4, hJ4, hcn4, hFS4⟩, ⟨hcu4, hcuL4, hpl4, hde4, hdeL4, hfb4⟩, ⟨hCH4, hchL4⟩, ⟨hTR4, hTL4⟩, htm4, ⟨hA4, hsc4, hnc4, hdp4, hNt4⟩⟩ := id hS4
            subst hus4 hcu4 hpl4 hde4 hfb4 hCH4 hTR4 hsc4 hnc4 hdp4 hNt4
            obtain ⟨hmc4, hfa4, ⟨hca4, okC4⟩, ⟨hta4, okT4⟩, hFr4, ⟨ht04, ⟨htc4, okTC4⟩, ⟨htn4, okN4⟩, ⟨hth4, okH4⟩, htz4, hSz4⟩, ⟨hrp4, ⟨hri4, okI4⟩, ⟨hra4, okA4⟩, ⟨hrn4, okNt4⟩⟩, hcap4, hcct4, hrm14, hrm24⟩ := id hM4
            refine zx_if_ne (tgt := 175) dX4_beginGoal_168 (by decide) (fun h168 => ?_) (fun h168 => absurd (by rw [zB_t hy]; decide) h168)
            refine zx_iconst (v := 0) dX4_beginGoal_175 rfl (z32_lit (by decide) (by decide)) ?_
            obtain ⟨w_21, hw_22⟩ : ∃ ww, ww = zput w4 mc (4, 0, [zR t, zR fa, zR ca, zR ta, zR rp, zI (fr.length : Int), zP (oA Fs cur), zI (pl0 : Int), zP (oA Fs den), zI 0, zI 0, zI 0]) := ⟨_, rfl⟩
            refine zx_put (w1 := w_21) dX4_beginGoal_176 zf_X4_57 hmc4 (Nat.le_of_ble_eq_true rfl) (zFt_bool (by first | exact Or.inl rfl | exact Or.inr rfl | exact zB_or | assumption)) (fun h => by cases h) hw_22.symm ?_
            have q_23 : w_21.2.1 = w4.2.1 ∧ w_21.2.2 = w4.2.2 := by rw [hw_22]; exact ⟨rfl, rfl⟩
            have h_24 : w_21.1 mc = some (4, 0, [zR t, zR fa, zR ca, zR ta, zR rp, zI (fr.length : Int), zP (oA Fs cur), zI (pl0 : Int), zP (oA Fs den), zI 0, zI 0, zI 0]) := by rw [hw_22]; exact zput_at
            refine zx_aload_n (i := 0) dX4_beginGoal_179 rfl rfl ?_
            refine zx_dup dX4_beginGoal_180 (fun a h => by cases h) ?_
            refine zx_pc (pc1 := 181) rfl ?_
            refine zx_getfield dX4_beginGoal_181 zf_X4_69 h_24 rfl ?_
            refine zx_iconst (v := 1) dX4_beginGoal_184 rfl (z32_lit (by decide) (by decide)) ?_
            refine zx_iadd (v := ((pl0 : Int) + 1)) dX4_beginGoal_185 (zw_id ⟨by omega, by omega⟩) ?_
            obtain ⟨w_25, hw_26⟩ : ∃ ww, ww = zput w_21 mc (4, 0, [zR t, zR fa, zR ca, zR ta, zR rp, zI (fr.length : Int), zP (oA Fs cur), zI ((pl0 : Int) + 1), zP (oA Fs den), zI 0, zI 0, zI 0]) := ⟨_, rfl⟩
            refine zx_put (w1 := w_25) dX4_beginGoal_186 zf_X4_69 h_24 (Nat.le_of_ble_eq_true rfl) (zFt_int _) (fun h => by cases h) hw_26.symm ?_
            have q_27 : w_25.2.1 = w_21.2.1 ∧ w_25.2.2 = w_21.2.2 := by rw [hw_26]; exact ⟨rfl, rfl⟩
            have h_28 : w_25.1 mc = some (4, 0, [zR t, zR fa, zR ca, zR ta, zR rp, zI (fr.length : Int), zP (oA Fs cur), zI ((pl0 : Int) + 1), zP (oA Fs den), zI 0, zI 0, zI 0]) := by rw [hw_26]; exact zput_at
            refine zx_return dX4_beginGoal_189 rfl ?_
            have hfaL6 : zFa [mc] w4 w_25 := (zFa_put (zFa_put zFa_re (by simp) hw_22) (by simp) hw_26)
            have hFrr6 := fm_keep hFr4 hfaL6 (zLc hmc4 (by simp) zLn)
            have hmcF6 : mcF rp w4 w_25 := mcF_fa hfaL6 (zLc hmc4 (by simp [mcP]) zLn)
            have h_29 : w_21.1 fa = some (166, mc, zLs cap4 Fs) := by
              rw [hw_22]; exact zput_tg hmc4 hfa4 (by simp)
            have h_30 : w_25.1 fa = some (166, mc, zLs cap4 Fs) := by
              rw [hw_26]; exact zput_tg h_24 h_29 (by simp)
            have h_31 : w_21.1 ca = some (138, mc, tTb 3 cc4 (ch.reverse.map (fun e => [(e.1 : Int), (e.2.1 : Int), (e.2.2 : Int)]))) := by
              rw [hw_22]; exact zput_tg hmc4 hca4 (by simp)
            have h_32 : w_25.1 ca = some (138, mc, tTb 3 cc4 (ch.reverse.map (fun e => [(e.1 : Int), (e.2.1 : Int), (e.2.2 : Int)]))) := by
              rw [hw_26]; exact zput_tg h_24 h_31 (by simp)
            have h_33 : w_21.1 ta = some (139, mc, tTb 2 ct4 (((caS V T i e.1 hv).2.2).reverse.map (fun e => [(e.1 : Int), (e.2 : Int)]))) := by
              rw [hw_22]; exact zput_tg hmc4 hta4 (by simp)
            have h_34 : w_25.1 ta = some (139, mc, tTb 2 ct4 (((caS V T i e.1 hv).2.2).reverse.map (fun e => [(e.1 : Int), (e.2 : Int)]))) := by
              rw [hw_26]; exact zput_tg h_24 h_33 (by simp)
            have h_35 : w_21.1 t = some (10, 0, [zI ty, zR tc, zR tn, zR th, zR tz]) := by
              rw [hw_22]; exact zput_tg hmc4 ht04 (by simp)
            have h_36 : w_25.1 t = some (10, 0, [zI ty, zR tc, zR tn, zR th, zR tz]) := by
              rw [hw_26]; exact zput_tg h_24 h_35 (by simp)
            have h_37 : w_21.1 tc = some (130, t, tTb 3 30 C) := by
              rw [hw_22]; exact zput_tg hmc4 htc4 (by simp)
            have h_38 : w_25.1 tc = some (130, t, tTb 3 30 C) := by
              rw [hw_26]; exact zput_tg h_24 h_37 (by simp)
            have h_39 : w_21.1 tn = some (131, t, tTb 4 800 N4) := by
              rw [hw_22]; exact zput_tg hmc4 htn4 (by simp)
            have h_40 : w_25.1 tn = some (131, t, tTb 4 800 N4) := by
              rw [hw_26]; exact zput_tg h_24 h_39 (by simp)
            have h_41 : w_21.1 th = some (132, t, tTb 1 64 H4) := by
              rw [hw_22]; exact zput_tg hmc4 hth4 (by simp)
            have h_42 : w_25.1 th = some (132, t, tTb 1 64 H4) := by
              rw [hw_26]; exact zput_tg h_24 h_41 (by simp)
            have h_43 : w_21.1 tz = some (120, t, Sz4.map zJ) := by
              rw [hw_22]; exact zput_tg hmc4 htz4 (by simp)
            have h_44 : w_25.1 tz = some (120, t, Sz4.map zJ) := by
              rw [hw_26]; exact zput_tg h_24 h_43 (by simp)
            have h_45 : w_21.1 rp = some (8, 0, [zP mo, zR ri, zR ra, zR rn, zI (((ns + 1) : Nat) : Int), zI (nc0 : Int), zI (dp0 : Int), zI 101, zI bk, zI bc]) := by
              rw [hw_22]; exact zput_tg hmc4 hrp4 (by simp)
            have h_46 : w_25.1 rp = some (8, 0, [zP mo, zR ri, zR ra, zR rn, zI (((ns + 1) : Nat) : Int), zI (nc0 : Int), zI (dp0 : Int), zI 101, zI bk, zI bc]) := by
              rw [hw_26]; exact zput_tg h_24 h_45 (by simp)
            have h_47 : w_21.1 ri = some (135, rp, tTb 1 3 I) := by
              rw [hw_22]; exact zput_tg hmc4 hri4 (by simp)
            have h_48 : w_25.1 ri = some (135, rp, tTb 1 3 I) := by
              rw [hw_26]; exact zput_tg h_24 h_47 (by simp)
            have h_49 : w_21.1 ra = some (136, rp, tTb 3 150 A4) := by
              rw [hw_22]; exact zput_tg hmc4 hra4 (by simp)
            have h_50 : w_25.1 ra = some (136, rp, tTb 3 150 A4) := by
              rw [hw_26]; exact zput_tg h_24 h_49 (by simp)
            have h_51 : w_21.1 rn = some (137, rp, tTb 2 160 (nt.map (fun e => [(e.1 : Int), (e.2 : Int)]))) := by
              rw [hw_22]; exact zput_tg hmc4 hrn4 (by simp)
            have h_52 : w_25.1 rn = some (137, rp, tTb 2 160 (nt.map (fun e => [(e.1 : Int), (e.2 : Int)]))) := by
              rw [hw_26]; exact zput_tg h_24 h_51 (by simp)
            have hM6 : mcW w_25 b1 b2 ((mc, fa, ca, ta), (t, tc, tn, th, tz), (rp, ri, ra, rn), (ty, C), (mo, I, bk, bc)) (((cap4, Fs), fm4), (cc4, (ch.reverse.map (fun e => [(e.1 : Int), (e.2.1 : Int), (e.2.2 : Int)]))), (ct4, (((caS V T i e.1 hv).2.2).reverse.map (fun e => [(e.1 : Int), (e.2 : Int)]))), ((fr.length : Int), (oA Fs cur), ((pl0 : Int) + 1), (oA Fs den)), (0, 0, 0), (N4, H4, Sz4), (A4, (nt.map (fun e => [(e.1 : Int), (e.2 : Int)])), (((ns + 1) : Nat) : Int), (nc0 : Int), (dp0 : Int), 101)) := ⟨h_28, h_30, ⟨h_32, okC4⟩, ⟨h_34, okT4⟩, hFrr6, ⟨h_36, ⟨h_38, okTC4⟩, ⟨h_40, okN4⟩, ⟨h_42, okH4⟩, h_44, hSz4⟩, ⟨h_46, ⟨h_48, okI4⟩, ⟨h_50, okA4⟩, ⟨h_52, okNt4⟩⟩, hcap4, ⟨by omega, by omega, by omega, by omega⟩, by omega, by omega⟩
            have hW6 : msW w_25 b1 b2 ((mc, fa, ca, ta), (t, tc, tn, th, tz), (rp, ri, ra, rn), (ty, C), (mo, I, bk, bc)) R Fs (0, 0, 101) ((fr, cls, (caS V T i e.1 hv).2.1, ch, (caS V T i e.1 hv).2.2), (cur, (pl0 + 1), den, (!(caS V T i e.1 hv).1)), tm, (na, (ns + 1), nc0, dp0), nt) := ⟨cap4, fm4, cc4, (ch.reverse.map (fun e => [(e.1 : Int), (e.2.1 : Int), (e.2.2 : Int)])), ct4, (((caS V T i e.1 hv).2.2).reverse.map (fun e => [(e.1 : Int), (e.2 : Int)])), (fr.length : Int), (oA Fs cur), ((pl0 : Int) + 1), (oA Fs den), 0, N4, H4, Sz4, A4, (nt.map (fun e => [(e.1 : Int), (e.2 : Int)])), (((ns + 1) : Nat) : Int), (nc0 : Int), (dp0 : Int), hM6, ⟨⟨(by first | rfl | omega | simp), hfl4, hJ4, hcn4, hFS4⟩, ⟨rfl, hcuL4, (by first | rfl | omega), rfl, hdeL4, (by rw [hy]; rfl)⟩, ⟨rfl, hchL4⟩, ⟨rfl, hTL4⟩, htm4, ⟨hA4, (by first | rfl | omega), (by first | rfl | omega), (by first | rfl | omega), rfl⟩⟩⟩
            rw [mg_e h300 hk23, mmEq_ca (by omega) hv0]
            exact ⟨rfl, ⟨Fs, hF3, hW6⟩, (mcF_tr hmcF1 (mcF_tr hF4 hmcF6))⟩
          | false =>
            refine zx_aload_n (i := 2) dX4_beginGoal_0 rfl rfl ?_
            refine zx_ifnull (tgt := 17) dX4_beginGoal_1 (by decide) (fun h => by cases h) (fun _ => ?_)
            refine zx_aload_n (i := 0) dX4_beginGoal_4 rfl rfl ?_
            refine zx_getfield dX4_beginGoal_5 zf_X4_15 hmc rfl ?_
            refine zx_getfield dX4_beginGoal_8 zf_X4_274 hrp rfl ?_
            refine zx_sipush (v := 300) dX4_beginGoal_11 (by decide +kernel) (z32_lit (by decide) (by decide)) ?_
            refine zx_icmp_lt (tgt := 24) dX4_beginGoal_14 (by decide) (fun h14 => ?_) (fun h14 => absurd (by omega) h14)
            refine zx_aload_n (i := 0) dX4_beginGoal_24 rfl rfl ?_
            refine zx_getfield dX4_beginGoal_25 zf_X4_15 hmc rfl ?_
            refine zx_dup dX4_beginGoal_28 (fun a h => by cases h) ?_
            refine zx_getfield dX4_beginGoal_29 zf_X4_274 hrp rfl ?_
            refine zx_pc (pc1 := 32) rfl ?_
            refine zx_iconst (v := 1) dX4_beginGoal_32 rfl (z32_lit (by decide) (by decide)) ?_
            refine zx_iadd (v := ((ns : Int) + 1)) dX4_beginGoal_33 (zw_id ⟨by omega, by omega⟩) ?_
            obtain ⟨w_1, hw_2⟩ : ∃ ww, ww = zput w rp (8, 0, [zP mo, zR ri, zR ra, zR rn, zI ((ns : Int) + 1), zI (nc0 : Int), zI (dp0 : Int), zI 101, zI bk, zI bc]) := ⟨_, rfl⟩
            refine zx_put (w1 := w_1) dX4_beginGoal_34 zf_X4_274 hrp (Nat.le_of_ble_eq_true rfl) (zFt_int _) (fun h => by cases h) hw_2.symm ?_
            have q_3 : w_1.2.1 = w.2.1 ∧ w_1.2.2 = w.2.2 := by rw [hw_2]; exact ⟨rfl, rfl⟩
            have h_4 : w_1.1 rp = some (8, 0, [zP mo, zR ri, zR ra, zR rn, zI ((ns : Int) + 1), zI (nc0 : Int), zI (dp0 : Int), zI 101, zI bk, zI bc]) := by rw [hw_2]; exact zput_at
            have hfaL1 : zFa [rp] w w_1 := (zFa_put zFa_re (by simp) hw_2)
            have hFrr1 := fm_keep hFr hfaL1 (zLc hrp (by simp) zLn)
            have hmcF1 : mcF rp w w_1 := mcF_fa hfaL1 (zLc hrp (by simp [mcP]) zLn)
            have h_5 : w_1.1 mc = some (4, 0, [zR t, zR fa, zR ca, zR ta, zR rp, zI (fr.length : Int), zP (oA Fs cur), zI (pl0 : Int), zP (oA Fs den), zI (if false = true then 1 else 0), zI 0, zI 0]) := by
              rw [hw_2]; exact zput_tg hrp hmc (by simp)
            have h_6 : w_1.1 fa = some (166, mc, zLs cap Fs) := by
              rw [hw_2]; exact zput_tg hrp hfa (by simp)
            have h_7 : w_1.1 ca = some (138, mc, tTb 3 cc (ch.reverse.map (fun e => [(e.1 : Int), (e.2.1 : Int), (e.2.2 : Int)]))) := by
              rw [hw_2]; exact zput_tg hrp hca (by simp)
            have h_8 : w_1.1 ta = some (139, mc, tTb 2 ct (T.reverse.map (fun e => [(e.1 : Int), (e.2 : Int)]))) := by
              rw [hw_2]; exact zput_tg hrp hta (by simp)
            have h_9 : w_1.1 t = some (10, 0, [zI ty, zR tc, zR tn, zR th, zR tz]) := by
              rw [hw_2]; exact zput_tg hrp ht0 (by simp)
            have h_10 : w_1.1 tc = some (130, t, tTb 3 30 C) := by
              rw [hw_2]; exact zput_tg hrp htc (by simp)
            have h_11 : w_1.1 tn = some (131, t, tTb 4 800 N) := by
              rw [hw_2]; exact zput_tg hrp htn (by simp)
            have h_12 : w_1.1 th = some (132, t, tTb 1 64 H) := by
              rw [hw_2]; exact zput_tg hrp hth (by simp)
            have h_13 : w_1.1 tz = some (120, t, Sz.map zJ) := by
              rw [hw_2]; exact zput_tg hrp htz (by simp)
            have h_14 : w_1.1 ri = some (135, rp, tTb 1 3 I) := by
              rw [hw_2]; exact zput_tg hrp hri (by simp)
            have h_15 : w_1.1 ra = some (136, rp, tTb 3 150 A) := by
              rw [hw_2]; exact zput_tg hrp hra (by simp)
            have h_16 : w_1.1 rn = some (137, rp, tTb 2 160 (nt.map (fun e => [(e.1 : Int), (e.2 : Int)]))) := by
              rw [hw_2]; exact zput_tg hrp hrn (by simp)
            have hM1 : mcW w_1 b1 b2 ((mc, fa, ca, ta), (t, tc, tn, th, tz), (rp, ri, ra, rn), (ty, C), (mo, I, bk, bc)) (((cap, Fs), fm), (cc, (ch.reverse.map (fun e => [(e.1 : Int), (e.2.1 : Int), (e.2.2 : Int)]))), (ct, (T.reverse.map (fun e => [(e.1 : Int), (e.2 : Int)]))), ((fr.length : Int), (oA Fs cur), (pl0 : Int), (oA Fs den)), ((if false = true then 1 else 0), 0, 0), (N, H, Sz), (A, (nt.map (fun e => [(e.1 : Int), (e.2 : Int)])), ((ns : Int) + 1), (nc0 : Int), (dp0 : Int), 101)) := ⟨h_5, h_6, ⟨h_7, okC⟩, ⟨h_8, okT⟩, hFrr1, ⟨h_9, ⟨h_10, okTC⟩, ⟨h_11, okN⟩, ⟨h_12, okH⟩, h_13, hSz⟩, ⟨h_4, ⟨h_14, okI⟩, ⟨h_15, okA⟩, ⟨h_16, okNt⟩⟩, hcap, ⟨by omega, by omega, by omega, by omega⟩, by omega, by omega⟩
            have hW1 : msW w_1 b1 b2 ((mc, fa, ca, ta), (t, tc, tn, th, tz), (rp, ri, ra, rn), (ty, C), (mo, I, bk, bc)) R Fs (0, 0, 101) ((fr, cls, V, ch, T), (cur, pl0, den, false), tm, (na, (ns + 1), nc0, dp0), nt) := ⟨cap, fm, cc, (ch.reverse.map (fun e => [(e.1 : Int), (e.2.1 : Int), (e.2.2 : Int)])), ct, (T.reverse.map (fun e => [(e.1 : Int), (e.2 : Int)])), (fr.length : Int), (oA Fs cur), (pl0 : Int), (oA Fs den), (if false = true then 1 else 0), N, H, Sz, A, (nt.map (fun e => [(e.1 : Int), (e.2 : Int)])), ((ns : Int) + 1), (nc0 : Int), (dp0 : Int), hM1, ⟨⟨(by first | rfl | omega | simp), hfl, hJ, hcn, hFS⟩, ⟨rfl, hcuL, (by first | rfl | omega), rfl, hdeL, rfl⟩, ⟨rfl, hchL⟩, ⟨rfl, hTL⟩, htm, ⟨hA, (by first | rfl | omega), (by first | rfl | omega), (by first | rfl | omega), rfl⟩⟩⟩
            have hP1 : pgW w_1 pg R := pgW_TM hP (mcF_fr hmcF1)
            have hgW1 : goW w_1 g (R.2.2.2.2.2.2 g) := ⟨hmcF1 _ _ hgW.1 (Or.inl (by simp)), hmcF1 _ _ hgW.2.1 (Or.inl (by simp)), hgW.2.2⟩
            refine zx_aload_n (i := 2) dX4_beginGoal_37 rfl rfl ?_
            have h_17 : w_1.1 g = some (3, 0, [zI (e.1.1 : Int), zI (R.2.2.2.2.2.2 g).2.1, zI (R.2.2.2.2.2.2 g).2.2.1, zR (R.2.2.2.2.2.2 g).2.2.2.1]) := by
              rw [hw_2]; exact zput_tg hrp hgo (by simp)
            refine zx_iv (b := g) (As := []) (st := []) (v := (some (zI (zB ((e.1.1 : Int) = 2 ∨ (e.1.1 : Int) = 3))))) (w1 := w_1) dX4_beginGoal_38 zc_X4_277 h_17 rfl rfl rfl (Nat.le_of_ble_eq_true rfl) rfl (c_X3_isCalling h_17) ?_
            refine zx_st (st1 := [zI (zB ((e.1.1 : Int) = 2 ∨ (e.1.1 : Int) = 3))]) rfl ?_
            refine zx_if_eq (tgt := 51) dX4_beginGoal_41 (by decide) (fun h41 => ?_) (fun h41 => absurd (zB_f (by omega)) h41)
            refine zx_aload_n (i := 2) dX4_beginGoal_51 rfl rfl ?_
            refine zx_iconst (v := 0) dX4_beginGoal_52 rfl (z32_lit (by decide) (by decide)) ?_
            have h_18 : w_1.1 ((R.2.2.2.2.2.2 g).2.2.2.1) = some (100, g, (R.2.2.2.2.2.2 g).2.2.2.2.map Sum.inl) := by
              rw [hw_2]; exact zput_tg hrp hgv (by simp)
            refine zx_iv (b := g) (As := [zI 0]) (st := []) (v := (some (zI ((smv e.1 0 : Nat) : Int)))) (w1 := w_1) dX4_beginGoal_53 zc_X4_267 h_17 rfl rfl rfl (Nat.le_of_ble_eq_true rfl) rfl (by have q := c_X3_variableAt (G := G) (d := d + 7) h_17 h_18 hgx (0 : Int); rw [show zVa (R.2.2.2.2.2.2 g).2.2.2.2 0 = _ from (hvk 0 (by omega)).1] at q; exact q) ?_
            refine zx_st (st1 := [zI ((smv e.1 0 : Nat) : Int)]) rfl ?_
            refine zx_istore_n (i := 3) dX4_beginGoal_56 rfl (by decide) rfl ?_
            refine zx_L (L1 := [some (zR mc), some (zR yi), some (zR g), some (zI ((smv e.1 0 : Nat) : Int)), none, none, none]) rfl ?_
            refine zx_aload_n (i := 2) dX4_beginGoal_57 rfl rfl ?_
            refine zx_iconst (v := 1) dX4_beginGoal_58 rfl (z32_lit (by decide) (by decide)) ?_
            refine zx_pc (pc1 := 59) rfl ?_
            refine zx_iv (b := g) (As := [zI 1]) (st := []) (v := (some (zI ((smv e.1 1 : Nat) : Int)))) (w1 := w_1) dX4_beginGoal_59 zc_X4_267 h_17 rfl rfl rfl (Nat.le_of_ble_eq_true rfl) rfl (by have q := c_X3_variableAt (G := G) (d := d + 7) h_17 h_18 hgx (1 : Int); rw [show zVa (R.2.2.2.2.2.2 g).2.2.2.2 1 = _ from (hvk 1 (by omega)).1] at q; exact q) ?_
            refine zx_st (st1 := [zI ((smv e.1 1 : Nat) : Int)]) rfl ?_
            refine zx_istore (i := 4) dX4_beginGoal_62 (by decide) rfl ?_
            refine zx_L (L1 := [some (zR mc), some (zR yi), some (zR g), some (zI ((smv e.1 0 : Nat) : Int)), some (zI ((smv e.1 1 : Nat) : Int)), none, none]) rfl ?_
            refine zx_aload_n (i := 2) dX4_beginGoal_64 rfl rfl ?_
            refine zx_getfield dX4_beginGoal_65 zf_X4_284 h_17 rfl ?_
            refine zx_iconst (v := 1) dX4_beginGoal_68 rfl (z32_lit (by decide) (by decide)) ?_
            refine zx_icmp_ne (tgt := 138) dX4_beginGoal_69 (by decide) (fun h69 => ?_) (fun h69 => absurd (by omega) h69)
            refine zx_aload_n (i := 1) dX4_beginGoal_138 rfl rfl ?_
            refine zx_iload_n (i := 3) dX4_beginGoal_139 rfl rfl ?_
            have h_19 : w_1.1 va_i = some (104, yi, xs_i.map Sum.inl) := by
              rw [hw_2]; exact zput_tg hrp hva_i (by simp)
            have h_20 : w_1.1 yi = some (2, 0, [zI (i : Int), zR va_i, zR md_i, zP (oA Fs (mmf fr i).2.1.1), zI ((mmf fr i).2.1.2.1 : Int), zI ((mmf fr i).2.1.2.2 : Int), zP ((cls i).bind (pgCl R)), zI (if (mmf fr i).2.2.1 = true then 1 else 0), zP (oA Fs (mmf fr i).2.2.2.1), zI ((mmf fr i).2.2.2.2 : Int)]) := by
              rw [hw_2]; exact zput_tg hrp hfy_i (by simp)
            refine zx_iv (b := yi) (As := [zI ((smv e.1 0 : Nat) : Int)]) (st := []) (v := (some (zI (zVl xs_i ((smv e.1 0 : Nat) : Int))))) (w1 := w_1) dX4_beginGoal_140 zc_X4_203 h_20 rfl rfl rfl (Nat.le_of_ble_eq_true rfl) rfl (c_X2_valueOf h_20 h_19 (by omega) ((smv e.1 0 : Nat) : Int)) ?_
            refine zx_st (st1 := [zI (zVl xs_i ((smv e.1 0 : Nat) : Int))]) rfl ?_
            refine zx_iconst (v := -1) dX4_beginGoal_143 rfl (z32_lit (by decide) (by decide)) ?_
            refine zx_icmp_ne (tgt := 156) dX4_beginGoal_144 (by decide) (fun h144 => ?_) (fun h144 => absurd ((fun q => by have := hvn0.mp q; rw [hv0] at this; cases this)) h144)
            refine zx_aload_n (i := 0) dX4_beginGoal_156 rfl rfl ?_
            refine zx_pc (pc1 := 157) rfl ?_
            refine zx_aload_n (i := 0) dX4_beginGoal_157 rfl rfl ?_
            refine zx_aload_n (i := 1) dX4_beginGoal_158 rfl rfl ?_
            refine zx_aload_n (i := 2) dX4_beginGoal_159 rfl rfl ?_
            refine zx_aload_n (i := 1) dX4_beginGoal_160 rfl rfl ?_
            refine zx_iload_n (i := 3) dX4_beginGoal_161 rfl rfl ?_
            refine zx_iv (b := yi) (As := [zI ((smv e.1 0 : Nat) : Int)]) (st := [zR g, zR yi, zR mc, zR mc]) (v := (some (zI (zVl xs_i ((smv e.1 0 : Nat) : Int))))) (w1 := w_1) dX4_beginGoal_162 zc_X4_203 h_20 rfl rfl rfl (Nat.le_of_ble_eq_true rfl) rfl (c_X2_valueOf h_20 h_19 (by omega) ((smv e.1 0 : Nat) : Int)) ?_
            refine zx_st (st1 := [zI (zVl xs_i ((smv e.1 0 : Nat) : Int)), zR g, zR yi, zR mc, zR mc]) rfl ?_
            have hcA1 := s_comesApart (G := G) (d := d + 3) hP1 hW1 hG1 hG2 hF3 (by omega) hif hi hgW1 hg3 (by rw [← hg4]; exact hk0) (by rw [← hg4]; exact (hkz hk0).1) (by rw [← hg4]; exact (hkz hk0).2.1) hvz0
            rw [← hg4] at hcA1
            refine zx_ivV (b := mc) (As := [zR yi, zR g, zI (zVl xs_i ((smv e.1 0 : Nat) : Int))]) (st := [zR mc]) dX4_beginGoal_165 zc_X4_290 h_5 rfl rfl rfl (Nat.le_of_ble_eq_true rfl) rfl hcA1 (fun v4 w4 hq => ?_)
            obtain ⟨ev4, hW4, hF4⟩ := hq
            subst ev4
            obtain ⟨cap4, fm4, cc4, CH4, ct4, TR4, us4, cu4, pl4, de4, fl4, N4, H4, Sz4, A4, Nt4, sc4, nc4, dp4, hM4, hS4⟩ := id hW4
            obtain ⟨⟨hus4, hfl4, hJ4, hcn4, hFS4⟩, ⟨hcu4, hcuL4, hpl4, hde4, hdeL4, hfb4⟩, ⟨hCH4, hchL4⟩, ⟨hTR4, hTL4⟩, htm4, ⟨hA4, hsc4, hnc4, hdp4, hNt4⟩⟩ := id hS4
            subst hus4 hcu4 hpl4 hde4 hfb4 hCH4 hTR4 hsc4 hnc4 hdp4 hNt4
            obtain ⟨hmc4, hfa4, ⟨hca4, okC4⟩, ⟨hta4, okT4⟩, hFr4, ⟨ht04, ⟨htc4, okTC4⟩, ⟨htn4, okN4⟩, ⟨hth4, okH4⟩, htz4, hSz4⟩, ⟨hrp4, ⟨hri4, okI4⟩, ⟨hra4, okA4⟩, ⟨hrn4, okNt4⟩⟩, hcap4, hcct4, hrm14, hrm24⟩ := id hM4
            refine zx_if_ne (tgt := 175) dX4_beginGoal_168 (by decide) (fun h168 => absurd h168 (by rw [zB_f (by rw [hy]; decide)]; decide)) (fun h168 => ?_)
            refine zx_iconst (v := 1) dX4_beginGoal_171 rfl (z32_lit (by decide) (by decide)) ?_
            refine zx_goto (tgt := 176) dX4_beginGoal_172 (by decide) ?_
            obtain ⟨w_21, hw_22⟩ : ∃ ww, ww = zput w4 mc (4, 0, [zR t, zR fa, zR ca, zR ta, zR rp, zI (fr.length : Int), zP (oA Fs cur), zI (pl0 : Int), zP (oA Fs den), zI 1, zI 0, zI 0]) := ⟨_, rfl⟩
            refine zx_put (w1 := w_21) dX4_beginGoal_176 zf_X4_57 hmc4 (Nat.le_of_ble_eq_true rfl) (zFt_bool (by first | exact Or.inl rfl | exact Or.inr rfl | exact zB_or | assumption)) (fun h => by cases h) hw_22.symm ?_
            have q_23 : w_21.2.1 = w4.2.1 ∧ w_21.2.2 = w4.2.2 := by rw [hw_22]; exact ⟨rfl, rfl⟩
            have h_24 : w_21.1 mc = some (4, 0, [zR t, zR fa, zR ca, zR ta, zR rp, zI (fr.length : Int), zP (oA Fs cur), zI (pl0 : Int), zP (oA Fs den), zI 1, zI 0, zI 0]) := by rw [hw_22]; exact zput_at
            refine zx_aload_n (i := 0) dX4_beginGoal_179 rfl rfl ?_
            refine zx_pc (pc1 := 180) rfl ?_
            refine zx_dup dX4_beginGoal_180 (fun a h => by cases h) ?_
            refine zx_getfield dX4_beginGoal_181 zf_X4_69 h_24 rfl ?_
            refine zx_iconst (v := 1) dX4_beginGoal_184 rfl (z32_lit (by decide) (by decide)) ?_
            refine zx_iadd (v := ((pl0 : Int) + 1)) dX4_beginGoal_185 (zw_id ⟨by omega, by omega⟩) ?_
            obtain ⟨w_25, hw_26⟩ : ∃ ww, ww = zput w_21 mc (4, 0, [zR t, zR fa, zR ca, zR ta, zR rp, zI (fr.length : Int), zP (oA Fs cur), zI ((pl0 : Int) + 1), zP (oA Fs den), zI 1, zI 0, zI 0]) := ⟨_, rfl⟩
            refine zx_put (w1 := w_25) dX4_beginGoal_186 zf_X4_69 h_24 (Nat.le_of_ble_eq_true rfl) (zFt_int _) (fun h => by cases h) hw_26.symm ?_
            have q_27 : w_25.2.1 = w_21.2.1 ∧ w_25.2.2 = w_21.2.2 := by rw [hw_26]; exact ⟨rfl, rfl⟩
            have h_28 : w_25.1 mc = some (4, 0, [zR t, zR fa, zR ca, zR ta, zR rp, zI (fr.length : Int), zP (oA Fs cur), zI ((pl0 : Int) + 1), zP (oA Fs den), zI 1, zI 0, zI 0]) := by rw [hw_26]; exact zput_at
            refine zx_return dX4_beginGoal_189 rfl ?_
            have hfaL6 : zFa [mc] w4 w_25 := (zFa_put (zFa_put zFa_re (by simp) hw_22) (by simp) hw_26)
            have hFrr6 := fm_keep hFr4 hfaL6 (zLc hmc4 (by simp) zLn)
            have hmcF6 : mcF rp w4 w_25 := mcF_fa hfaL6 (zLc hmc4 (by simp [mcP]) zLn)
            have h_29 : w_21.1 fa = some (166, mc, zLs cap4 Fs) := by
              rw [hw_22]; exact zput_tg hmc4 hfa4 (by simp)
            have h_30 : w_25.1 fa = some (166, mc, zLs cap4 Fs) := by
              rw [hw_26]; exact zput_tg h_24 h_29 (by simp)
            have h_31 : w_21.1 ca = some (138, mc, tTb 3 cc4 (ch.reverse.map (fun e => [(e.1 : Int), (e.2.1 : Int), (e.2.2 : Int)]))) := by
              rw [hw_22]; exact zput_tg hmc4 hca4 (by simp)
            have h_32 : w_25.1 ca = some (138, mc, tTb 3 cc4 (ch.reverse.map (fun e => [(e.1 : Int), (e.2.1 : Int), (e.2.2 : Int)]))) := by
              rw [hw_26]; exact zput_tg h_24 h_31 (by simp)
            have h_33 : w_21.1 ta = some (139, mc, tTb 2 ct4 (((caS V T i e.1 hv).2.2).reverse.map (fun e => [(e.1 : Int), (e.2 : Int)]))) := by
              rw [hw_22]; exact zput_tg hmc4 hta4 (by simp)
            have h_34 : w_25.1 ta = some (139, mc, tTb 2 ct4 (((caS V T i e.1 hv).2.2).reverse.map (fun e => [(e.1 : Int), (e.2 : Int)]))) := by
              rw [hw_26]; exact zput_tg h_24 h_33 (by simp)
            have h_35 : w_21.1 t = some (10, 0, [zI ty, zR tc, zR tn, zR th, zR tz]) := by
              rw [hw_22]; exact zput_tg hmc4 ht04 (by simp)
            have h_36 : w_25.1 t = some (10, 0, [zI ty, zR tc, zR tn, zR th, zR tz]) := by
              rw [hw_26]; exact zput_tg h_24 h_35 (by simp)
            have h_37 : w_21.1 tc = some (130, t, tTb 3 30 C) := by
              rw [hw_22]; exact zput_tg hmc4 htc4 (by simp)
            have h_38 : w_25.1 tc = some (130, t, tTb 3 30 C) := by
              rw [hw_26]; exact zput_tg h_24 h_37 (by simp)
            have h_39 : w_21.1 tn = some (131, t, tTb 4 800 N4) := by
              rw [hw_22]; exact zput_tg hmc4 htn4 (by simp)
            have h_40 : w_25.1 tn = some (131, t, tTb 4 800 N4) := by
              rw [hw_26]; exact zput_tg h_24 h_39 (by simp)
            have h_41 : w_21.1 th = some (132, t, tTb 1 64 H4) := by
              rw [hw_22]; exact zput_tg hmc4 hth4 (by simp)
            have h_42 : w_25.1 th = some (132, t, tTb 1 64 H4) := by
              rw [hw_26]; exact zput_tg h_24 h_41 (by simp)
            have h_43 : w_21.1 tz = some (120, t, Sz4.map zJ) := by
              rw [hw_22]; exact zput_tg hmc4 htz4 (by simp)
            have h_44 : w_25.1 tz = some (120, t, Sz4.map zJ) := by
              rw [hw_26]; exact zput_tg h_24 h_43 (by simp)
            have h_45 : w_21.1 rp = some (8, 0, [zP mo, zR ri, zR ra, zR rn, zI (((ns + 1) : Nat) : Int), zI (nc0 : Int), zI (dp0 : Int), zI 101, zI bk, zI bc]) := by
              rw [hw_22]; exact zput_tg hmc4 hrp4 (by simp)
            have h_46 : w_25.1 rp = some (8, 0, [zP mo, zR ri, zR ra, zR rn, zI (((ns + 1) : Nat) : Int), zI (nc0 : Int), zI (dp0 : Int), zI 101, zI bk, zI bc]) := by
              rw [hw_26]; exact zput_tg h_24 h_45 (by simp)
            have h_47 : w_21.1 ri = some (135, rp, tTb 1 3 I) := by
              rw [hw_22]; exact zput_tg hmc4 hri4 (by simp)
            have h_48 : w_25.1 ri = some (135, rp, tTb 1 3 I) := by
              rw [hw_26]; exact zput_tg h_24 h_47 (by simp)
            have h_49 : w_21.1 ra = some (136, rp, tTb 3 150 A4) := by
              rw [hw_22]; exact zput_tg hmc4 hra4 (by simp)
            have h_50 : w_25.1 ra = some (136, rp, tTb 3 150 A4) := by
              rw [hw_26]; exact zput_tg h_24 h_49 (by simp)
            have h_51 : w_21.1 rn = some (137, rp, tTb 2 160 (nt.map (fun e => [(e.1 : Int), (e.2 : Int)]))) := by
              rw [hw_22]; exact zput_tg hmc4 hrn4 (by simp)
            have h_52 : w_25.1 rn = some (137, rp, tTb 2 160 (nt.map (fun e => [(e.1 : Int), (e.2 : Int)]))) := by
              rw [hw_26]; exact zput_tg h_24 h_51 (by simp)
            have hM6 : mcW w_25 b1 b2 ((mc, fa, ca, ta), (t, tc, tn, th, tz), (rp, ri, ra, rn), (ty, C), (mo, I, bk, bc)) (((cap4, Fs), fm4), (cc4, (ch.reverse.map (fun e => [(e.1 : Int), (e.2.1 : Int), (e.2.2 : Int)]))), (ct4, (((caS V T i e.1 hv).2.2).reverse.map (fun e => [(e.1 : Int), (e.2 : Int)]))), ((fr.length : Int), (oA Fs cur), ((pl0 : Int) + 1), (oA Fs den)), (1, 0, 0), (N4, H4, Sz4), (A4, (nt.map (fun e => [(e.1 : Int), (e.2 : Int)])), (((ns + 1) : Nat) : Int), (nc0 : Int), (dp0 : Int), 101)) := ⟨h_28, h_30, ⟨h_32, okC4⟩, ⟨h_34, okT4⟩, hFrr6, ⟨h_36, ⟨h_38, okTC4⟩, ⟨h_40, okN4⟩, ⟨h_42, okH4⟩, h_44, hSz4⟩, ⟨h_46, ⟨h_48, okI4⟩, ⟨h_50, okA4⟩, ⟨h_52, okNt4⟩⟩, hcap4, ⟨by omega, by omega, by omega, by omega⟩, by omega, by omega⟩
            have hW6 : msW w_25 b1 b2 ((mc, fa, ca, ta), (t, tc, tn, th, tz), (rp, ri, ra, rn), (ty, C), (mo, I, bk, bc)) R Fs (0, 0, 101) ((fr, cls, (caS V T i e.1 hv).2.1, ch, (caS V T i e.1 hv).2.2), (cur, (pl0 + 1), den, (!(caS V T i e.1 hv).1)), tm, (na, (ns + 1), nc0, dp0), nt) := ⟨cap4, fm4, cc4, (ch.reverse.map (fun e => [(e.1 : Int), (e.2.1 : Int), (e.2.2 : Int)])), ct4, (((caS V T i e.1 hv).2.2).reverse.map (fun e => [(e.1 : Int), (e.2 : Int)])), (fr.length : Int), (oA Fs cur), ((pl0 : Int) + 1), (oA Fs den), 1, N4, H4, Sz4, A4, (nt.map (fun e => [(e.1 : Int), (e.2 : Int)])), (((ns + 1) : Nat) : Int), (nc0 : Int), (dp0 : Int), hM6, ⟨⟨(by first | rfl | omega | simp), hfl4, hJ4, hcn4, hFS4⟩, ⟨rfl, hcuL4, (by first | rfl | omega), rfl, hdeL4, (by rw [hy]; rfl)⟩, ⟨rfl, hchL4⟩, ⟨rfl, hTL4⟩, htm4, ⟨hA4, (by first | rfl | omega), (by first | rfl | omega), (by first | rfl | omega), rfl⟩⟩⟩
            rw [mg_e h300 hk23, mmEq_ca (by omega) hv0]
            exact ⟨rfl, ⟨Fs, hF3, hW6⟩, (mcF_tr hmcF1 (mcF_tr hF4 hmcF6))⟩
        | none =>
          cases hme : mmEq V T tm i e.1 with
          | none =>
            refine zx_aload_n (i := 2) dX4_beginGoal_0 rfl rfl ?_
            refine zx_ifnull (tgt := 17) dX4_beginGoal_1 (by decide) (fun h => by cases h) (fun _ => ?_)
            refine zx_aload_n (i := 0) dX4_beginGoal_4 rfl rfl ?_
            refine zx_getfield dX4_beginGoal_5 zf_X4_15 hmc rfl ?_
            refine zx_getfield dX4_beginGoal_8 zf_X4_274 hrp rfl ?_
            refine zx_sipush (v := 300) dX4_beginGoal_11 (by decide +kernel) (z32_lit (by decide) (by decide)) ?_
            refine zx_icmp_lt (tgt := 24) dX4_beginGoal_14 (by decide) (fun h14 => ?_) (fun h14 => absurd (by omega) h14)
            refine zx_aload_n (i := 0) dX4_beginGoal_24 rfl rfl ?_
            refine zx_getfield dX4_beginGoal_25 zf_X4_15 hmc rfl ?_
            refine zx_dup dX4_beginGoal_28 (fun a h => by cases h) ?_
            refine zx_getfield dX4_beginGoal_29 zf_X4_274 hrp rfl ?_
            refine zx_pc (pc1 := 32) rfl ?_
            refine zx_iconst (v := 1) dX4_beginGoal_32 rfl (z32_lit (by decide) (by decide)) ?_
            refine zx_iadd (v := ((ns : Int) + 1)) dX4_beginGoal_33 (zw_id ⟨by omega, by omega⟩) ?_
            obtain ⟨w_1, hw_2⟩ : ∃ ww, ww = zput w rp (8, 0, [zP mo, zR ri, zR ra, zR rn, zI ((ns : Int) + 1), zI (nc0 : Int), zI (dp0 : Int), zI 101, zI bk, zI bc]) := ⟨_, rfl⟩
            refine zx_put (w1 := w_1) dX4_beginGoal_34 zf_X4_274 hrp (Nat.le_of_ble_eq_true rfl) (zFt_int _) (fun h => by cases h) hw_2.symm ?_
            have q_3 : w_1.2.1 = w.2.1 ∧ w_1.2.2 = w.2.2 := by rw [hw_2]; exact ⟨rfl, rfl⟩
            have h_4 : w_1.1 rp = some (8, 0, [zP mo, zR ri, zR ra, zR rn, zI ((ns : Int) + 1), zI (nc0 : Int), zI (dp0 : Int), zI 101, zI bk, zI bc]) := by rw [hw_2]; exact zput_at
            have hfaL1 : zFa [rp] w w_1 := (zFa_put zFa_re (by simp) hw_2)
            have hFrr1 := fm_keep hFr hfaL1 (zLc hrp (by simp) zLn)
            have hmcF1 : mcF rp w w_1 := mcF_fa hfaL1 (zLc hrp (by simp [mcP]) zLn)
            have h_5 : w_1.1 mc = some (4, 0, [zR t, zR fa, zR ca, zR ta, zR rp, zI (fr.length : Int), zP (oA Fs cur), zI (pl0 : Int), zP (oA Fs den), zI (if false = true then 1 else 0), zI 0, zI 0]) := by
              rw [hw_2]; exact zput_tg hrp hmc (by simp)
            have h_6 : w_1.1 fa = some (166, mc, zLs cap Fs) := by
              rw [hw_2]; exact zput_tg hrp hfa (by simp)
            have h_7 : w_1.1 ca = some (138, mc, tTb 3 cc (ch.reverse.map (fun e => [(e.1 : Int), (e.2.1 : Int), (e.2.2 : Int)]))) := by
              rw [hw_2]; exact zput_tg hrp hca (by simp)
            have h_8 : w_1.1 ta = some (139, mc, tTb 2 ct (T.reverse.map (fun e => [(e.1 : Int), (e.2 : Int)]))) := by
              rw [hw_2]; exact zput_tg hrp hta (by simp)
            have h_9 : w_1.1 t = some (10, 0, [zI ty, zR tc, zR tn, zR th, zR tz]) := by
              rw [hw_2]; exact zput_tg hrp ht0 (by simp)
            have h_10 : w_1.1 tc = some (130, t, tTb 3 30 C) := by
              rw [hw_2]; exact zput_tg hrp htc (by simp)
            have h_11 : w_1.1 tn = some (131, t, tTb 4 800 N) := by
              rw [hw_2]; exact zput_tg hrp htn (by simp)
            have h_12 : w_1.1 th = some (132, t, tTb 1 64 H) := by
              rw [hw_2]; exact zput_tg hrp hth (by simp)
            have h_13 : w_1.1 tz = some (120, t, Sz.map zJ) := by
              rw [hw_2]; exact zput_tg hrp htz (by simp)
            have h_14 : w_1.1 ri = some (135, rp, tTb 1 3 I) := by
              rw [hw_2]; exact zput_tg hrp hri (by simp)
            have h_15 : w_1.1 ra = some (136, rp, tTb 3 150 A) := by
              rw [hw_2]; exact zput_tg hrp hra (by simp)
            have h_16 : w_1.1 rn = some (137, rp, tTb 2 160 (nt.map (fun e => [(e.1 : Int), (e.2 : Int)]))) := by
              rw [hw_2]; exact zput_tg hrp hrn (by simp)
            have hM1 : mcW w_1 b1 b2 ((mc, fa, ca, ta), (t, tc, tn, th, tz), (rp, ri, ra, rn), (ty, C), (mo, I, bk, bc)) (((cap, Fs), fm), (cc, (ch.reverse.map (fun e => [(e.1 : Int), (e.2.1 : Int), (e.2.2 : Int)]))), (ct, (T.reverse.map (fun e => [(e.1 : Int), (e.2 : Int)]))), ((fr.length : Int), (oA Fs cur), (pl0 : Int), (oA Fs den)), ((if false = true then 1 else 0), 0, 0), (N, H, Sz), (A, (nt.map (fun e => [(e.1 : Int), (e.2 : Int)])), ((ns : Int) + 1), (nc0 : Int), (dp0 : Int), 101)) := ⟨h_5, h_6, ⟨h_7, okC⟩, ⟨h_8, okT⟩, hFrr1, ⟨h_9, ⟨h_10, okTC⟩, ⟨h_11, okN⟩, ⟨h_12, okH⟩, h_13, hSz⟩, ⟨h_4, ⟨h_14, okI⟩, ⟨h_15, okA⟩, ⟨h_16, okNt⟩⟩, hcap, ⟨by omega, by omega, by omega, by omega⟩, by omega, by omega⟩
            have hW1 : msW w_1 b1 b2 ((mc, fa, ca, ta), (t, tc, tn, th, tz), (rp, ri, ra, rn), (ty, C), (mo, I, bk, bc)) R Fs (0, 0, 101) ((fr, cls, V, ch, T), (cur, pl0, den, false), tm, (na, (ns + 1), nc0, dp0), nt) := ⟨cap, fm, cc, (ch.reverse.map (fun e => [(e.1 : Int), (e.2.1 : Int), (e.2.2 : Int)])), ct, (T.reverse.map (fun e => [(e.1 : Int), (e.2 : Int)])), (fr.length : Int), (oA Fs cur), (pl0 : Int), (oA Fs den), (if false = true then 1 else 0), N, H, Sz, A, (nt.map (fun e => [(e.1 : Int), (e.2 : Int)])), ((ns : Int) + 1), (nc0 : Int), (dp0 : Int), hM1, ⟨⟨(by first | rfl | omega | simp), hfl, hJ, hcn, hFS⟩, ⟨rfl, hcuL, (by first | rfl | omega), rfl, hdeL, rfl⟩, ⟨rfl, hchL⟩, ⟨rfl, hTL⟩, htm, ⟨hA, (by first | rfl | omega), (by first | rfl | omega), (by first | rfl | omega), rfl⟩⟩⟩
            have hP1 : pgW w_1 pg R := pgW_TM hP (mcF_fr hmcF1)
            have hgW1 : goW w_1 g (R.2.2.2.2.2.2 g) := ⟨hmcF1 _ _ hgW.1 (Or.inl (by simp)), hmcF1 _ _ hgW.2.1 (Or.inl (by simp)), hgW.2.2⟩
            refine zx_aload_n (i := 2) dX4_beginGoal_37 rfl rfl ?_
            have h_17 : w_1.1 g = some (3, 0, [zI (e.1.1 : Int), zI (R.2.2.2.2.2.2 g).2.1, zI (R.2.2.2.2.2.2 g).2.2.1, zR (R.2.2.2.2.2.2 g).2.2.2.1]) := by
              rw [hw_2]; exact zput_tg hrp hgo (by simp)
            refine zx_iv (b := g) (As := []) (st := []) (v := (some (zI (zB ((e.1.1 : Int) = 2 ∨ (e.1.1 : Int) = 3))))) (w1 := w_1) dX4_beginGoal_38 zc_X4_277 h_17 rfl rfl rfl (Nat.le_of_ble_eq_true rfl) rfl (c_X3_isCalling h_17) ?_
            refine zx_st (st1 := [zI (zB ((e.1.1 : Int) = 2 ∨ (e.1.1 : Int) = 3))]) rfl ?_
            refine zx_if_eq (tgt := 51) dX4_beginGoal_41 (by decide) (fun h41 => ?_) (fun h41 => absurd (zB_f (by omega)) h41)
            refine zx_aload_n (i := 2) dX4_beginGoal_51 rfl rfl ?_
            refine zx_iconst (v := 0) dX4_beginGoal_52 rfl (z32_lit (by decide) (by decide)) ?_
            have h_18 : w_1.1 ((R.2.2.2.2.2.2 g).2.2.2.1) = some (100, g, (R.2.2.2.2.2.2 g).2.2.2.2.map Sum.inl) := by
              rw [hw_2]; exact zput_tg hrp hgv (by simp)
            refine zx_iv (b := g) (As := [zI 0]) (st := []) (v := (some (zI ((smv e.1 0 : Nat) : Int)))) (w1 := w_1) dX4_beginGoal_53 zc_X4_267 h_17 rfl rfl rfl (Nat.le_of_ble_eq_true rfl) rfl (by have q := c_X3_variableAt (G := G) (d := d + 7) h_17 h_18 hgx (0 : Int); rw [show zVa (R.2.2.2.2.2.2 g).2.2.2.2 0 = _ from (hvk 0 (by omega)).1] at q; exact q) ?_
            refine zx_st (st1 := [zI ((smv e.1 0 : Nat) : Int)]) rfl ?_
            refine zx_istore_n (i := 3) dX4_beginGoal_56 rfl (by decide) rfl ?_
            refine zx_L (L1 := [some (zR mc), some (zR yi), some (zR g), some (zI ((smv e.1 0 : Nat) : Int)), none, none, none]) rfl ?_
            refine zx_aload_n (i := 2) dX4_beginGoal_57 rfl rfl ?_
            refine zx_iconst (v := 1) dX4_beginGoal_58 rfl (z32_lit (by decide) (by decide)) ?_
            refine zx_pc (pc1 := 59) rfl ?_
            refine zx_iv (b := g) (As := [zI 1]) (st := []) (v := (some (zI ((smv e.1 1 : Nat) : Int)))) (w1 := w_1) dX4_beginGoal_59 zc_X4_267 h_17 rfl rfl rfl (Nat.le_of_ble_eq_true rfl) rfl (by have q := c_X3_variableAt (G := G) (d := d + 7) h_17 h_18 hgx (1 : Int); rw [show zVa (R.2.2.2.2.2.2 g).2.2.2.2 1 = _ from (hvk 1 (by omega)).1] at q; exact q) ?_
            refine zx_st (st1 := [zI ((smv e.1 1 : Nat) : Int)]) rfl ?_
            refine zx_istore (i := 4) dX4_beginGoal_62 (by decide) rfl ?_
            refine zx_L (L1 := [some (zR mc), some (zR yi), some (zR g), some (zI ((smv e.1 0 : Nat) : Int)), some (zI ((smv e.1 1 : Nat) : Int)), none, none]) rfl ?_
            refine zx_aload_n (i := 2) dX4_beginGoal_64 rfl rfl ?_
            refine zx_getfield dX4_beginGoal_65 zf_X4_284 h_17 rfl ?_
            refine zx_iconst (v := 1) dX4_beginGoal_68 rfl (z32_lit (by decide) (by decide)) ?_
            refine zx_icmp_ne (tgt := 138) dX4_beginGoal_69 (by decide) (fun h69 => ?_) (fun h69 => absurd (by omega) h69)
            refine zx_aload_n (i := 1) dX4_beginGoal_138 rfl rfl ?_
            refine zx_iload_n (i := 3) dX4_beginGoal_139 rfl rfl ?_
            have h_19 : w_1.1 va_i = some (104, yi, xs_i.map Sum.inl) := by
              rw [hw_2]; exact zput_tg hrp hva_i (by simp)
            have h_20 : w_1.1 yi = some (2, 0, [zI (i : Int), zR va_i, zR md_i, zP (oA Fs (mmf fr i).2.1.1), zI ((mmf fr i).2.1.2.1 : Int), zI ((mmf fr i).2.1.2.2 : Int), zP ((cls i).bind (pgCl R)), zI (if (mmf fr i).2.2.1 = true then 1 else 0), zP (oA Fs (mmf fr i).2.2.2.1), zI ((mmf fr i).2.2.2.2 : Int)]) := by
              rw [hw_2]; exact zput_tg hrp hfy_i (by simp)
            refine zx_iv (b := yi) (As := [zI ((smv e.1 0 : Nat) : Int)]) (st := []) (v := (some (zI (zVl xs_i ((smv e.1 0 : Nat) : Int))))) (w1 := w_1) dX4_beginGoal_140 zc_X4_203 h_20 rfl rfl rfl (Nat.le_of_ble_eq_true rfl) rfl (c_X2_valueOf h_20 h_19 (by omega) ((smv e.1 0 : Nat) : Int)) ?_
            refine zx_st (st1 := [zI (zVl xs_i ((smv e.1 0 : Nat) : Int))]) rfl ?_
            refine zx_iconst (v := -1) dX4_beginGoal_143 rfl (z32_lit (by decide) (by decide)) ?_
            refine zx_icmp_ne (tgt := 156) dX4_beginGoal_144 (by decide) (fun h144 => absurd h144 ((fun q => q (hvn0.mpr hv0)))) (fun h144 => ?_)
            refine zx_aload_n (i := 0) dX4_beginGoal_147 rfl rfl ?_
            refine zx_pc (pc1 := 148) rfl ?_
            refine zx_aload_n (i := 1) dX4_beginGoal_148 rfl rfl ?_
            refine zx_aload_n (i := 2) dX4_beginGoal_149 rfl rfl ?_
            have hbd1 := s_build (G := G) (d := d + 3) hP1 hC hW1 hG1 hG2 hF3 (by omega) hif hi hgW1 hg3 (by rw [← hg4]; exact hk0) (by rw [← hg4]; exact (hkz hk0).1) (by rw [← hg4]; exact (hkz hk0).2.1) (by rw [← hg4]; exact hv0) (by rw [← hg4]; exact (hkz hk0).2.2 hv0)
            rw [← hg4, hme] at hbd1
            refine zx_ivN (b := mc) (As := [zR yi, zR g]) (st := []) dX4_beginGoal_150 zc_X4_287 h_5 rfl rfl rfl (Nat.le_of_ble_eq_true rfl) rfl hbd1 (fun w4 hq => ?_)
            obtain ⟨hW4, hF4⟩ := hq
            obtain ⟨cap4, fm4, cc4, CH4, ct4, TR4, us4, cu4, pl4, de4, fl4, N4, H4, Sz4, A4, Nt4, sc4, nc4, dp4, hM4, hS4⟩ := id hW4
            obtain ⟨⟨hus4, hfl4, hJ4, hcn4, hFS4⟩, ⟨hcu4, hcuL4, hpl4, hde4, hdeL4, hfb4⟩, ⟨hCH4, hchL4⟩, ⟨hTR4, hTL4⟩, htm4, ⟨hA4, hsc4, hnc4, hdp4, hNt4⟩⟩ := id hS4
            subst hus4 hcu4 hpl4 hde4 hfb4 hCH4 hTR4 hsc4 hnc4 hdp4 hNt4
            obtain ⟨hmc4, hfa4, ⟨hca4, okC4⟩, ⟨hta4, okT4⟩, hFr4, ⟨ht04, ⟨htc4, okTC4⟩, ⟨htn4, okN4⟩, ⟨hth4, okH4⟩, htz4, hSz4⟩, ⟨hrp4, ⟨hri4, okI4⟩, ⟨hra4, okA4⟩, ⟨hrn4, okNt4⟩⟩, hcap4, hcct4, hrm14, hrm24⟩ := id hM4
            refine zx_goto (tgt := 179) dX4_beginGoal_153 (by decide) ?_
            refine zx_aload_n (i := 0) dX4_beginGoal_179 rfl rfl ?_
            refine zx_dup dX4_beginGoal_180 (fun a h => by cases h) ?_
            refine zx_getfield dX4_beginGoal_181 zf_X4_69 hmc4 rfl ?_
            refine zx_iconst (v := 1) dX4_beginGoal_184 rfl (z32_lit (by decide) (by decide)) ?_
            refine zx_iadd (v := ((pl0 : Int) + 1)) dX4_beginGoal_185 (zw_id ⟨by omega, by omega⟩) ?_
            obtain ⟨w_21, hw_22⟩ : ∃ ww, ww = zput w4 mc (4, 0, [zR t, zR fa, zR ca, zR ta, zR rp, zI (fr.length : Int), zP (oA Fs cur), zI ((pl0 : Int) + 1), zP (oA Fs den), zI (if false = true then 1 else 0), zI 1, zI 1]) := ⟨_, rfl⟩
            refine zx_put (w1 := w_21) dX4_beginGoal_186 zf_X4_69 hmc4 (Nat.le_of_ble_eq_true rfl) (zFt_int _) (fun h => by cases h) hw_22.symm ?_
            have q_23 : w_21.2.1 = w4.2.1 ∧ w_21.2.2 = w4.2.2 := by rw [hw_22]; exact ⟨rfl, rfl⟩
            have h_24 : w_21.1 mc = some (4, 0, [zR t, zR fa, zR ca, zR ta, zR rp, zI (fr.length : Int), zP (oA Fs cur), zI ((pl0 : Int) + 1), zP (oA Fs den), zI (if false = true then 1 else 0), zI 1, zI 1]) := by rw [hw_22]; exact zput_at
            refine zx_return dX4_beginGoal_189 rfl ?_
            have hfaL6 : zFa [mc] w4 w_21 := (zFa_put zFa_re (by simp) hw_22)
            have hFrr6 := fm_keep hFr4 hfaL6 (zLc hmc4 (by simp) zLn)
            have hmcF6 : mcF rp w4 w_21 := mcF_fa hfaL6 (zLc hmc4 (by simp [mcP]) zLn)
            have h_25 : w_21.1 fa = some (166, mc, zLs cap4 Fs) := by
              rw [hw_22]; exact zput_tg hmc4 hfa4 (by simp)
            have h_26 : w_21.1 ca = some (138, mc, tTb 3 cc4 (ch.reverse.map (fun e => [(e.1 : Int), (e.2.1 : Int), (e.2.2 : Int)]))) := by
              rw [hw_22]; exact zput_tg hmc4 hca4 (by simp)
            have h_27 : w_21.1 ta = some (139, mc, tTb 2 ct4 (T.reverse.map (fun e => [(e.1 : Int), (e.2 : Int)]))) := by
              rw [hw_22]; exact zput_tg hmc4 hta4 (by simp)
            have h_28 : w_21.1 t = some (10, 0, [zI ty, zR tc, zR tn, zR th, zR tz]) := by
              rw [hw_22]; exact zput_tg hmc4 ht04 (by simp)
            have h_29 : w_21.1 tc = some (130, t, tTb 3 30 C) := by
              rw [hw_22]; exact zput_tg hmc4 htc4 (by simp)
            have h_30 : w_21.1 tn = some (131, t, tTb 4 800 N4) := by
              rw [hw_22]; exact zput_tg hmc4 htn4 (by simp)
            have h_31 : w_21.1 th = some (132, t, tTb 1 64 H4) := by
              rw [hw_22]; exact zput_tg hmc4 hth4 (by simp)
            have h_32 : w_21.1 tz = some (120, t, Sz4.map zJ) := by
              rw [hw_22]; exact zput_tg hmc4 htz4 (by simp)
            have h_33 : w_21.1 rp = some (8, 0, [zP mo, zR ri, zR ra, zR rn, zI (((ns + 1) : Nat) : Int), zI (nc0 : Int), zI (dp0 : Int), zI 101, zI bk, zI bc]) := by
              rw [hw_22]; exact zput_tg hmc4 hrp4 (by simp)
            have h_34 : w_21.1 ri = some (135, rp, tTb 1 3 I) := by
              rw [hw_22]; exact zput_tg hmc4 hri4 (by simp)
            have h_35 : w_21.1 ra = some (136, rp, tTb 3 150 A4) := by
              rw [hw_22]; exact zput_tg hmc4 hra4 (by simp)
            have h_36 : w_21.1 rn = some (137, rp, tTb 2 160 (nt.map (fun e => [(e.1 : Int), (e.2 : Int)]))) := by
              rw [hw_22]; exact zput_tg hmc4 hrn4 (by simp)
            have hM6 : mcW w_21 b1 b2 ((mc, fa, ca, ta), (t, tc, tn, th, tz), (rp, ri, ra, rn), (ty, C), (mo, I, bk, bc)) (((cap4, Fs), fm4), (cc4, (ch.reverse.map (fun e => [(e.1 : Int), (e.2.1 : Int), (e.2.2 : Int)]))), (ct4, (T.reverse.map (fun e => [(e.1 : Int), (e.2 : Int)]))), ((fr.length : Int), (oA Fs cur), ((pl0 : Int) + 1), (oA Fs den)), ((if false = true then 1 else 0), 1, 1), (N4, H4, Sz4), (A4, (nt.map (fun e => [(e.1 : Int), (e.2 : Int)])), (((ns + 1) : Nat) : Int), (nc0 : Int), (dp0 : Int), 101)) := ⟨h_24, h_25, ⟨h_26, okC4⟩, ⟨h_27, okT4⟩, hFrr6, ⟨h_28, ⟨h_29, okTC4⟩, ⟨h_30, okN4⟩, ⟨h_31, okH4⟩, h_32, hSz4⟩, ⟨h_33, ⟨h_34, okI4⟩, ⟨h_35, okA4⟩, ⟨h_36, okNt4⟩⟩, hcap4, ⟨by omega, by omega, by omega, by omega⟩, by omega, by omega⟩
            have hW6 : msW w_21 b1 b2 ((mc, fa, ca, ta), (t, tc, tn, th, tz), (rp, ri, ra, rn), (ty, C), (mo, I, bk, bc)) R Fs (1, 1, 101) ((fr, cls, V, ch, T), (cur, (pl0 + 1), den, false), tm, (na, (ns + 1), nc0, dp0), nt) := ⟨cap4, fm4, cc4, (ch.reverse.map (fun e => [(e.1 : Int), (e.2.1 : Int), (e.2.2 : Int)])), ct4, (T.reverse.map (fun e => [(e.1 : Int), (e.2 : Int)])), (fr.length : Int), (oA Fs cur), ((pl0 : Int) + 1), (oA Fs den), (if false = true then 1 else 0), N4, H4, Sz4, A4, (nt.map (fun e => [(e.1 : Int), (e.2 : Int)])), (((ns + 1) : Nat) : Int), (nc0 : Int), (dp0 : Int), hM6, ⟨⟨(by first | rfl | omega | simp), hfl4, hJ4, hcn4, hFS4⟩, ⟨rfl, hcuL4, (by first | rfl | omega), rfl, hdeL4, rfl⟩, ⟨rfl, hchL4⟩, ⟨rfl, hTL4⟩, htm4, ⟨hA4, (by first | rfl | omega), (by first | rfl | omega), (by first | rfl | omega), rfl⟩⟩⟩
            rw [mg_e h300 hk23, hme]
            exact ⟨rfl, ⟨Fs, hF3, pl0 + 1, hW6⟩, (mcF_tr hmcF1 (mcF_tr hF4 hmcF6))⟩
          | some r =>
            refine zx_aload_n (i := 2) dX4_beginGoal_0 rfl rfl ?_
            refine zx_ifnull (tgt := 17) dX4_beginGoal_1 (by decide) (fun h => by cases h) (fun _ => ?_)
            refine zx_aload_n (i := 0) dX4_beginGoal_4 rfl rfl ?_
            refine zx_getfield dX4_beginGoal_5 zf_X4_15 hmc rfl ?_
            refine zx_getfield dX4_beginGoal_8 zf_X4_274 hrp rfl ?_
            refine zx_sipush (v := 300) dX4_beginGoal_11 (by decide +kernel) (z32_lit (by decide) (by decide)) ?_
            refine zx_icmp_lt (tgt := 24) dX4_beginGoal_14 (by decide) (fun h14 => ?_) (fun h14 => absurd (by omega) h14)
            refine zx_aload_n (i := 0) dX4_beginGoal_24 rfl rfl ?_
            refine zx_getfield dX4_beginGoal_25 zf_X4_15 hmc rfl ?_
            refine zx_dup dX4_beginGoal_28 (fun a h => by cases h) ?_
            refine zx_getfield dX4_beginGoal_29 zf_X4_274 hrp rfl ?_
            refine zx_pc (pc1 := 32) rfl ?_
            refine zx_iconst (v := 1) dX4_beginGoal_32 rfl (z32_lit (by decide) (by decide)) ?_
            refine zx_iadd (v := ((ns : Int) + 1)) dX4_beginGoal_33 (zw_id ⟨by omega, by omega⟩) ?_
            obtain ⟨w_1, hw_2⟩ : ∃ ww, ww = zput w rp (8, 0, [zP mo, zR ri, zR ra, zR rn, zI ((ns : Int) + 1), zI (nc0 : Int), zI (dp0 : Int), zI 101, zI bk, zI bc]) := ⟨_, rfl⟩
            refine zx_put (w1 := w_1) dX4_beginGoal_34 zf_X4_274 hrp (Nat.le_of_ble_eq_true rfl) (zFt_int _) (fun h => by cases h) hw_2.symm ?_
            have q_3 : w_1.2.1 = w.2.1 ∧ w_1.2.2 = w.2.2 := by rw [hw_2]; exact ⟨rfl, rfl⟩
            have h_4 : w_1.1 rp = some (8, 0, [zP mo, zR ri, zR ra, zR rn, zI ((ns : Int) + 1), zI (nc0 : Int), zI (dp0 : Int), zI 101, zI bk, zI bc]) := by rw [hw_2]; exact zput_at
            have hfaL1 : zFa [rp] w w_1 := (zFa_put zFa_re (by simp) hw_2)
            have hFrr1 := fm_keep hFr hfaL1 (zLc hrp (by simp) zLn)
            have hmcF1 : mcF rp w w_1 := mcF_fa hfaL1 (zLc hrp (by simp [mcP]) zLn)
            have h_5 : w_1.1 mc = some (4, 0, [zR t, zR fa, zR ca, zR ta, zR rp, zI (fr.length : Int), zP (oA Fs cur), zI (pl0 : Int), zP (oA Fs den), zI (if false = true then 1 else 0), zI 0, zI 0]) := by
              rw [hw_2]; exact zput_tg hrp hmc (by simp)
            have h_6 : w_1.1 fa = some (166, mc, zLs cap Fs) := by
              rw [hw_2]; exact zput_tg hrp hfa (by simp)
            have h_7 : w_1.1 ca = some (138, mc, tTb 3 cc (ch.reverse.map (fun e => [(e.1 : Int), (e.2.1 : Int), (e.2.2 : Int)]))) := by
              rw [hw_2]; exact zput_tg hrp hca (by simp)
            have h_8 : w_1.1 ta = some (139, mc, tTb 2 ct (T.reverse.map (fun e => [(e.1 : Int), (e.2 : Int)]))) := by
              rw [hw_2]; exact zput_tg hrp hta (by simp)
            have h_9 : w_1.1 t = some (10, 0, [zI ty, zR tc, zR tn, zR th, zR tz]) := by
              rw [hw_2]; exact zput_tg hrp ht0 (by simp)
            have h_10 : w_1.1 tc = some (130, t, tTb 3 30 C) := by
              rw [hw_2]; exact zput_tg hrp htc (by simp)
            have h_11 : w_1.1 tn = some (131, t, tTb 4 800 N) := by
              rw [hw_2]; exact zput_tg hrp htn (by simp)
            have h_12 : w_1.1 th = some (132, t, tTb 1 64 H) := by
              rw [hw_2]; exact zput_tg hrp hth (by simp)
            have h_13 : w_1.1 tz = some (120, t, Sz.map zJ) := by
              rw [hw_2]; exact zput_tg hrp htz (by simp)
            have h_14 : w_1.1 ri = some (135, rp, tTb 1 3 I) := by
              rw [hw_2]; exact zput_tg hrp hri (by simp)
            have h_15 : w_1.1 ra = some (136, rp, tTb 3 150 A) := by
              rw [hw_2]; exact zput_tg hrp hra (by simp)
            have h_16 : w_1.1 rn = some (137, rp, tTb 2 160 (nt.map (fun e => [(e.1 : Int), (e.2 : Int)]))) := by
              rw [hw_2]; exact zput_tg hrp hrn (by simp)
            have hM1 : mcW w_1 b1 b2 ((mc, fa, ca, ta), (t, tc, tn, th, tz), (rp, ri, ra, rn), (ty, C), (mo, I, bk, bc)) (((cap, Fs), fm), (cc, (ch.reverse.map (fun e => [(e.1 : Int), (e.2.1 : Int), (e.2.2 : Int)]))), (ct, (T.reverse.map (fun e => [(e.1 : Int), (e.2 : Int)]))), ((fr.length : Int), (oA Fs cur), (pl0 : Int), (oA Fs den)), ((if false = true then 1 else 0), 0, 0), (N, H, Sz), (A, (nt.map (fun e => [(e.1 : Int), (e.2 : Int)])), ((ns : Int) + 1), (nc0 : Int), (dp0 : Int), 101)) := ⟨h_5, h_6, ⟨h_7, okC⟩, ⟨h_8, okT⟩, hFrr1, ⟨h_9, ⟨h_10, okTC⟩, ⟨h_11, okN⟩, ⟨h_12, okH⟩, h_13, hSz⟩, ⟨h_4, ⟨h_14, okI⟩, ⟨h_15, okA⟩, ⟨h_16, okNt⟩⟩, hcap, ⟨by omega, by omega, by omega, by omega⟩, by omega, by omega⟩
            have hW1 : msW w_1 b1 b2 ((mc, fa, ca, ta), (t, tc, tn, th, tz), (rp, ri, ra, rn), (ty, C), (mo, I, bk, bc)) R Fs (0, 0, 101) ((fr, cls, V, ch, T), (cur, pl0, den, false), tm, (na, (ns + 1), nc0, dp0), nt) := ⟨cap, fm, cc, (ch.reverse.map (fun e => [(e.1 : Int), (e.2.1 : Int), (e.2.2 : Int)])), ct, (T.reverse.map (fun e => [(e.1 : Int), (e.2 : Int)])), (fr.length : Int), (oA Fs cur), (pl0 : Int), (oA Fs den), (if false = true then 1 else 0), N, H, Sz, A, (nt.map (fun e => [(e.1 : Int), (e.2 : Int)])), ((ns : Int) + 1), (nc0 : Int), (dp0 : Int), hM1, ⟨⟨(by first | rfl | omega | simp), hfl, hJ, hcn, hFS⟩, ⟨rfl, hcuL, (by first | rfl | omega), rfl, hdeL, rfl⟩, ⟨rfl, hchL⟩, ⟨rfl, hTL⟩, htm, ⟨hA, (by first | rfl | omega), (by first | rfl | omega), (by first | rfl | omega), rfl⟩⟩⟩
            have hP1 : pgW w_1 pg R := pgW_TM hP (mcF_fr hmcF1)
            have hgW1 : goW w_1 g (R.2.2.2.2.2.2 g) := ⟨hmcF1 _ _ hgW.1 (Or.inl (by simp)), hmcF1 _ _ hgW.2.1 (Or.inl (by simp)), hgW.2.2⟩
            refine zx_aload_n (i := 2) dX4_beginGoal_37 rfl rfl ?_
            have h_17 : w_1.1 g = some (3, 0, [zI (e.1.1 : Int), zI (R.2.2.2.2.2.2 g).2.1, zI (R.2.2.2.2.2.2 g).2.2.1, zR (R.2.2.2.2.2.2 g).2.2.2.1]) := by
              rw [hw_2]; exact zput_tg hrp hgo (by simp)
            refine zx_iv (b := g) (As := []) (st := []) (v := (some (zI (zB ((e.1.1 : Int) = 2 ∨ (e.1.1 : Int) = 3))))) (w1 := w_1) dX4_beginGoal_38 zc_X4_277 h_17 rfl rfl rfl (Nat.le_of_ble_eq_true rfl) rfl (c_X3_isCalling h_17) ?_
            refine zx_st (st1 := [zI (zB ((e.1.1 : Int) = 2 ∨ (e.1.1 : Int) = 3))]) rfl ?_
            refine zx_if_eq (tgt := 51) dX4_beginGoal_41 (by decide) (fun h41 => ?_) (fun h41 => absurd (zB_f (by omega)) h41)
            refine zx_aload_n (i := 2) dX4_beginGoal_51 rfl rfl ?_
            refine zx_iconst (v := 0) dX4_beginGoal_52 rfl (z32_lit (by decide) (by decide)) ?_
            have h_18 : w_1.1 ((R.2.2.2.2.2.2 g).2.2.2.1) = some (100, g, (R.2.2.2.2.2.2 g).2.2.2.2.map Sum.inl) := by
              rw [hw_2]; exact zput_tg hrp hgv (by simp)
            refine zx_iv (b := g) (As := [zI 0]) (st := []) (v := (some (zI ((smv e.1 0 : Nat) : Int)))) (w1 := w_1) dX4_beginGoal_53 zc_X4_267 h_17 rfl rfl rfl (Nat.le_of_ble_eq_true rfl) rfl (by have q := c_X3_variableAt (G := G) (d := d + 7) h_17 h_18 hgx (0 : Int); rw [show zVa (R.2.2.2.2.2.2 g).2.2.2.2 0 = _ from (hvk 0 (by omega)).1] at q; exact q) ?_
            refine zx_st (st1 := [zI ((smv e.1 0 : Nat) : Int)]) rfl ?_
            refine zx_istore_n (i := 3) dX4_beginGoal_56 rfl (by decide) rfl ?_
            refine zx_L (L1 := [some (zR mc), some (zR yi), some (zR g), some (zI ((smv e.1 0 : Nat) : Int)), none, none, none]) rfl ?_
            refine zx_aload_n (i := 2) dX4_beginGoal_57 rfl rfl ?_
            refine zx_iconst (v := 1) dX4_beginGoal_58 rfl (z32_lit (by decide) (by decide)) ?_
            refine zx_pc (pc1 := 59) rfl ?_
            refine zx_iv (b := g) (As := [zI 1]) (st := []) (v := (some (zI ((smv e.1 1 : Nat) : Int)))) (w1 := w_1) dX4_beginGoal_59 zc_X4_267 h_17 rfl rfl rfl (Nat.le_of_ble_eq_true rfl) rfl (by have q := c_X3_variableAt (G := G) (d := d + 7) h_17 h_18 hgx (1 : Int); rw [show zVa (R.2.2.2.2.2.2 g).2.2.2.2 1 = _ from (hvk 1 (by omega)).1] at q; exact q) ?_
            refine zx_st (st1 := [zI ((smv e.1 1 : Nat) : Int)]) rfl ?_
            refine zx_istore (i := 4) dX4_beginGoal_62 (by decide) rfl ?_
            refine zx_L (L1 := [some (zR mc), some (zR yi), some (zR g), some (zI ((smv e.1 0 : Nat) : Int)), some (zI ((smv e.1 1 : Nat) : Int)), none, none]) rfl ?_
            refine zx_aload_n (i := 2) dX4_beginGoal_64 rfl rfl ?_
            refine zx_getfield dX4_beginGoal_65 zf_X4_284 h_17 rfl ?_
            refine zx_iconst (v := 1) dX4_beginGoal_68 rfl (z32_lit (by decide) (by decide)) ?_
            refine zx_icmp_ne (tgt := 138) dX4_beginGoal_69 (by decide) (fun h69 => ?_) (fun h69 => absurd (by omega) h69)
            refine zx_aload_n (i := 1) dX4_beginGoal_138 rfl rfl ?_
            refine zx_iload_n (i := 3) dX4_beginGoal_139 rfl rfl ?_
            have h_19 : w_1.1 va_i = some (104, yi, xs_i.map Sum.inl) := by
              rw [hw_2]; exact zput_tg hrp hva_i (by simp)
            have h_20 : w_1.1 yi = some (2, 0, [zI (i : Int), zR va_i, zR md_i, zP (oA Fs (mmf fr i).2.1.1), zI ((mmf fr i).2.1.2.1 : Int), zI ((mmf fr i).2.1.2.2 : Int), zP ((cls i).bind (pgCl R)), zI (if (mmf fr i).2.2.1 = true then 1 else 0), zP (oA Fs (mmf fr i).2.2.2.1), zI ((mmf fr i).2.2.2.2 : Int)]) := by
              rw [hw_2]; exact zput_tg hrp hfy_i (by simp)
            refine zx_iv (b := yi) (As := [zI ((smv e.1 0 : Nat) : Int)]) (st := []) (v := (some (zI (zVl xs_i ((smv e.1 0 : Nat) : Int))))) (w1 := w_1) dX4_beginGoal_140 zc_X4_203 h_20 rfl rfl rfl (Nat.le_of_ble_eq_true rfl) rfl (c_X2_valueOf h_20 h_19 (by omega) ((smv e.1 0 : Nat) : Int)) ?_
            refine zx_st (st1 := [zI (zVl xs_i ((smv e.1 0 : Nat) : Int))]) rfl ?_
            refine zx_iconst (v := -1) dX4_beginGoal_143 rfl (z32_lit (by decide) (by decide)) ?_
            refine zx_icmp_ne (tgt := 156) dX4_beginGoal_144 (by decide) (fun h144 => absurd h144 ((fun q => q (hvn0.mpr hv0)))) (fun h144 => ?_)
            refine zx_aload_n (i := 0) dX4_beginGoal_147 rfl rfl ?_
            refine zx_pc (pc1 := 148) rfl ?_
            refine zx_aload_n (i := 1) dX4_beginGoal_148 rfl rfl ?_
            refine zx_aload_n (i := 2) dX4_beginGoal_149 rfl rfl ?_
            have hbd1 := s_build (G := G) (d := d + 3) hP1 hC hW1 hG1 hG2 hF3 (by omega) hif hi hgW1 hg3 (by rw [← hg4]; exact hk0) (by rw [← hg4]; exact (hkz hk0).1) (by rw [← hg4]; exact (hkz hk0).2.1) (by rw [← hg4]; exact hv0) (by rw [← hg4]; exact (hkz hk0).2.2 hv0)
            rw [← hg4, hme] at hbd1
            refine zx_ivN (b := mc) (As := [zR yi, zR g]) (st := []) dX4_beginGoal_150 zc_X4_287 h_5 rfl rfl rfl (Nat.le_of_ble_eq_true rfl) rfl hbd1 (fun w4 hq => ?_)
            obtain ⟨hW4, hF4⟩ := hq
            obtain ⟨cap4, fm4, cc4, CH4, ct4, TR4, us4, cu4, pl4, de4, fl4, N4, H4, Sz4, A4, Nt4, sc4, nc4, dp4, hM4, hS4⟩ := id hW4
            obtain ⟨⟨hus4, hfl4, hJ4, hcn4, hFS4⟩, ⟨hcu4, hcuL4, hpl4, hde4, hdeL4, hfb4⟩, ⟨hCH4, hchL4⟩, ⟨hTR4, hTL4⟩, htm4, ⟨hA4, hsc4, hnc4, hdp4, hNt4⟩⟩ := id hS4
            subst hus4 hcu4 hpl4 hde4 hfb4 hCH4 hTR4 hsc4 hnc4 hdp4 hNt4
            obtain ⟨hmc4, hfa4, ⟨hca4, okC4⟩, ⟨hta4, okT4⟩, hFr4, ⟨ht04, ⟨htc4, okTC4⟩, ⟨htn4, okN4⟩, ⟨hth4, okH4⟩, htz4, hSz4⟩, ⟨hrp4, ⟨hri4, okI4⟩, ⟨hra4, okA4⟩, ⟨hrn4, okNt4⟩⟩, hcap4, hcct4, hrm14, hrm24⟩ := id hM4
            refine zx_goto (tgt := 179) dX4_beginGoal_153 (by decide) ?_
            refine zx_aload_n (i := 0) dX4_beginGoal_179 rfl rfl ?_
            refine zx_dup dX4_beginGoal_180 (fun a h => by cases h) ?_
            refine zx_getfield dX4_beginGoal_181 zf_X4_69 hmc4 rfl ?_
            refine zx_iconst (v := 1) dX4_beginGoal_184 rfl (z32_lit (by decide) (by decide)) ?_
            refine zx_iadd (v := ((pl0 : Int) + 1)) dX4_beginGoal_185 (zw_id ⟨by omega, by omega⟩) ?_
            obtain ⟨w_21, hw_22⟩ : ∃ ww, ww = zput w4 mc (4, 0, [zR t, zR fa, zR ca, zR ta, zR rp, zI (fr.length : Int), zP (oA Fs cur), zI ((pl0 : Int) + 1), zP (oA Fs den), zI (if false = true then 1 else 0), zI 0, zI 0]) := ⟨_, rfl⟩
            refine zx_put (w1 := w_21) dX4_beginGoal_186 zf_X4_69 hmc4 (Nat.le_of_ble_eq_true rfl) (zFt_int _) (fun h => by cases h) hw_22.symm ?_
            have q_23 : w_21.2.1 = w4.2.1 ∧ w_21.2.2 = w4.2.2 := by rw [hw_22]; exact ⟨rfl, rfl⟩
            have h_24 : w_21.1 mc = some (4, 0, [zR t, zR fa, zR ca, zR ta, zR rp, zI (fr.length : Int), zP (oA Fs cur), zI ((pl0 : Int) + 1), zP (oA Fs den), zI (if false = true then 1 else 0), zI 0, zI 0]) := by rw [hw_22]; exact zput_at
            refine zx_return dX4_beginGoal_189 rfl ?_
            have hfaL6 : zFa [mc] w4 w_21 := (zFa_put zFa_re (by simp) hw_22)
            have hFrr6 := fm_keep hFr4 hfaL6 (zLc hmc4 (by simp) zLn)
            have hmcF6 : mcF rp w4 w_21 := mcF_fa hfaL6 (zLc hmc4 (by simp [mcP]) zLn)
            have h_25 : w_21.1 fa = some (166, mc, zLs cap4 Fs) := by
              rw [hw_22]; exact zput_tg hmc4 hfa4 (by simp)
            have h_26 : w_21.1 ca = some (138, mc, tTb 3 cc4 (ch.reverse.map (fun e => [(e.1 : Int), (e.2.1 : Int), (e.2.2 : Int)]))) := by
              rw [hw_22]; exact zput_tg hmc4 hca4 (by simp)
            have h_27 : w_21.1 ta = some (139, mc, tTb 2 ct4 (r.2.2.1.reverse.map (fun e => [(e.1 : Int), (e.2 : Int)]))) := by
              rw [hw_22]; exact zput_tg hmc4 hta4 (by simp)
            have h_28 : w_21.1 t = some (10, 0, [zI ty, zR tc, zR tn, zR th, zR tz]) := by
              rw [hw_22]; exact zput_tg hmc4 ht04 (by simp)
            have h_29 : w_21.1 tc = some (130, t, tTb 3 30 C) := by
              rw [hw_22]; exact zput_tg hmc4 htc4 (by simp)
            have h_30 : w_21.1 tn = some (131, t, tTb 4 800 N4) := by
              rw [hw_22]; exact zput_tg hmc4 htn4 (by simp)
            have h_31 : w_21.1 th = some (132, t, tTb 1 64 H4) := by
              rw [hw_22]; exact zput_tg hmc4 hth4 (by simp)
            have h_32 : w_21.1 tz = some (120, t, Sz4.map zJ) := by
              rw [hw_22]; exact zput_tg hmc4 htz4 (by simp)
            have h_33 : w_21.1 rp = some (8, 0, [zP mo, zR ri, zR ra, zR rn, zI (((ns + 1) : Nat) : Int), zI (nc0 : Int), zI (dp0 : Int), zI 101, zI bk, zI bc]) := by
              rw [hw_22]; exact zput_tg hmc4 hrp4 (by simp)
            have h_34 : w_21.1 ri = some (135, rp, tTb 1 3 I) := by
              rw [hw_22]; exact zput_tg hmc4 hri4 (by simp)
            have h_35 : w_21.1 ra = some (136, rp, tTb 3 150 A4) := by
              rw [hw_22]; exact zput_tg hmc4 hra4 (by simp)
            have h_36 : w_21.1 rn = some (137, rp, tTb 2 160 (nt.map (fun e => [(e.1 : Int), (e.2 : Int)]))) := by
              rw [hw_22]; exact zput_tg hmc4 hrn4 (by simp)
            have hM6 : mcW w_21 b1 b2 ((mc, fa, ca, ta), (t, tc, tn, th, tz), (rp, ri, ra, rn), (ty, C), (mo, I, bk, bc)) (((cap4, Fs), fm4), (cc4, (ch.reverse.map (fun e => [(e.1 : Int), (e.2.1 : Int), (e.2.2 : Int)]))), (ct4, (r.2.2.1.reverse.map (fun e => [(e.1 : Int), (e.2 : Int)]))), ((fr.length : Int), (oA Fs cur), ((pl0 : Int) + 1), (oA Fs den)), ((if false = true then 1 else 0), 0, 0), (N4, H4, Sz4), (A4, (nt.map (fun e => [(e.1 : Int), (e.2 : Int)])), (((ns + 1) : Nat) : Int), (nc0 : Int), (dp0 : Int), 101)) := ⟨h_24, h_25, ⟨h_26, okC4⟩, ⟨h_27, okT4⟩, hFrr6, ⟨h_28, ⟨h_29, okTC4⟩, ⟨h_30, okN4⟩, ⟨h_31, okH4⟩, h_32, hSz4⟩, ⟨h_33, ⟨h_34, okI4⟩, ⟨h_35, okA4⟩, ⟨h_36, okNt4⟩⟩, hcap4, ⟨by omega, by omega, by omega, by omega⟩, by omega, by omega⟩
            have hW6 : msW w_21 b1 b2 ((mc, fa, ca, ta), (t, tc, tn, th, tz), (rp, ri, ra, rn), (ty, C), (mo, I, bk, bc)) R Fs (0, 0, 101) ((fr, cls, r.2.1, ch, r.2.2.1), (cur, (pl0 + 1), den, false), r.2.2.2, (na, (ns + 1), nc0, dp0), nt) := ⟨cap4, fm4, cc4, (ch.reverse.map (fun e => [(e.1 : Int), (e.2.1 : Int), (e.2.2 : Int)])), ct4, (r.2.2.1.reverse.map (fun e => [(e.1 : Int), (e.2 : Int)])), (fr.length : Int), (oA Fs cur), ((pl0 : Int) + 1), (oA Fs den), (if false = true then 1 else 0), N4, H4, Sz4, A4, (nt.map (fun e => [(e.1 : Int), (e.2 : Int)])), (((ns + 1) : Nat) : Int), (nc0 : Int), (dp0 : Int), hM6, ⟨⟨(by first | rfl | omega | simp), hfl4, hJ4, hcn4, hFS4⟩, ⟨rfl, hcuL4, (by first | rfl | omega), rfl, hdeL4, rfl⟩, ⟨rfl, hchL4⟩, ⟨rfl, hTL4⟩, htm4, ⟨hA4, (by first | rfl | omega), (by first | rfl | omega), (by first | rfl | omega), rfl⟩⟩⟩
            have hr1 := mmEq_bd (by omega) hv0 hme
            rw [mg_e h300 hk23, hme]
            refine ⟨rfl, ⟨Fs, hF3, ?_⟩, (mcF_tr hmcF1 (mcF_tr hF4 hmcF6))⟩
            show msW w_21 b1 b2 ((mc, fa, ca, ta), (t, tc, tn, th, tz), (rp, ri, ra, rn), (ty, C), (mo, I, bk, bc)) R Fs (0, 0, 101) ((fr, cls, r.2.1, ch, r.2.2.1), (cur, (pl0 + 1), den, (!r.1)), r.2.2.2, (na, (ns + 1), nc0, dp0), nt)
            rw [hr1]
            exact hW6
end SBG
