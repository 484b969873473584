/-! Own rows: the class's object is made, in pieces. Walked by program (wip/p37/m_mk.py). -/
/-- all but one address stands -/
def zKp (o : Nat) (w w' : zW) : Prop := ∀ b ob, b ≠ o → w.1 b = some ob → w'.1 b = some ob
theorem zKp_tr {o : Nat} {w w1 w2 : zW} (h : zKp o w w1) (k : zKp o w1 w2) : zKp o w w2 := fun b ob hb hob => k b ob hb (h b ob hb hob)
section KP
variable {o oo : Nat} {fs : List zV} {w w' : zW}
theorem kp_at (f : zKp o w w') (ho : w.1 o = some (11, oo, fs)) {a x ow : Nat} {c : List zV} (ha : w.1 a = some (x, ow, c)) (hx : x ≠ 11) : w'.1 a = some (x, ow, c) := f _ _ (zne_tg ho ha (fun e => hx e.symm)) ha
theorem tmW_kp (f : zKp o w w') (ho : w.1 o = some (11, oo, fs)) {t tc tn th tz : Nat} {ty : Int} {C N H : List (List Int)} {S : List Int} (h : tmW w t tc tn th tz ty C N H S) : tmW w' t tc tn th tz ty C N H S := by
  obtain ⟨h0, ⟨h1, o1⟩, ⟨h2, o2⟩, ⟨h3, o3⟩, h4, h5⟩ := h
  exact ⟨kp_at f ho h0 (by decide), ⟨kp_at f ho h1 (by decide), o1⟩, ⟨kp_at f ho h2 (by decide), o2⟩, ⟨kp_at f ho h3 (by decide), o3⟩, kp_at f ho h4 (by decide), h5⟩
theorem rpW_kp (f : zKp o w w') (ho : w.1 o = some (11, oo, fs)) {r ti ta tn : Nat} {mo : Option Nat} {I A N : List (List Int)} {sc cc dc en bk bc : Int} (h : rpW w r ti ta tn mo I A N sc cc dc en bk bc) : rpW w' r ti ta tn mo I A N sc cc dc en bk bc := by
  obtain ⟨h0, ⟨h1, o1⟩, ⟨h2, o2⟩, ⟨h3, o3⟩⟩ := h
  exact ⟨kp_at f ho h0 (by decide), ⟨kp_at f ho h1 (by decide), o1⟩, ⟨kp_at f ho h2 (by decide), o2⟩, ⟨kp_at f ho h3 (by decide), o3⟩⟩
/-- the machine's own: its object, frames, tables -/
def maW (w : zW) (mc fa ca ta t r0 : Nat) (cap : Nat) (Fs : List Nat) (fm : Nat → fmR) (cc : Nat) (CH : List (List Int)) (ct : Nat) (TR : List (List Int)) (us : Int) (cu : Option Nat) (pl : Int) (de : Option Nat) (fl ov fu : Int) : Prop :=
  w.1 mc = some (4, 0, [zR t, zR fa, zR ca, zR ta, zR r0, zI us, zP cu, zI pl, zP de, zI fl, zI ov, zI fu]) ∧ w.1 fa = some (166, mc, zLs cap Fs) ∧ (w.1 ca = some (138, mc, tTb 3 cc CH) ∧ tOk 3 CH) ∧ (w.1 ta = some (139, mc, tTb 2 ct TR) ∧ tOk 2 TR) ∧ (∀ (i y : Nat), Fs[i]? = some y → fmW w y (i : Int) (fm y)) ∧
  ((Fs = [] → cap = 0) ∧ Fs.length ≤ cap ∧ cap ≤ 10 + 2 * Fs.length ∧ (Fs ≠ [] → 10 ≤ cap)) ∧ (90 ≤ cc ∧ 60 ≤ ct ∧ cc ≤ 4000 ∧ ct ≤ 1400100)
theorem maW_kp0 (f : zKp o w w') (ho : w.1 o = some (11, oo, fs)) {mc fa ca ta t r0 cap cc ct : Nat} {fm : Nat → fmR} {CH TR : List (List Int)} {us pl fl ov fu : Int} {cu de : Option Nat} (h : maW w mc fa ca ta t r0 cap [] fm cc CH ct TR us cu pl de fl ov fu) : maW w' mc fa ca ta t r0 cap [] fm cc CH ct TR us cu pl de fl ov fu := by
  obtain ⟨h0, h1, ⟨h2, o2⟩, ⟨h3, o3⟩, -, h5, h6⟩ := h
  exact ⟨kp_at f ho h0 (by decide), kp_at f ho h1 (by decide), ⟨kp_at f ho h2 (by decide), o2⟩, ⟨kp_at f ho h3 (by decide), o3⟩, fun i y hy => (by cases hy), h5, h6⟩
/-- breadth's own: its object and tables -/
def baW (w : zW) : bbK → bbR → Prop
  | ((br, pg, t), (nd, va, ce, li), (ro, bi, le, wk)), (((cN, NN), (cV, VV), (cC, CC), (cL, LL)), ((cR, RR), (cB, BB), (cE, EE), (cW, WW)), (gc, fr, tk, rs, rd)) =>
    w.1 br = some (0, 0, [zR pg, zR t, zR nd, zI gc, zR va, zR ce, zR li, zR ro, zI fr, zR bi, zR le, zR wk, zI tk, zI rs, zI rd]) ∧
    ((w.1 nd = some (140, br, tTb 5 cN NN) ∧ tOk 5 NN) ∧ (w.1 va = some (141, br, tTb 1 cV VV) ∧ tOk 1 VV) ∧ (w.1 ce = some (142, br, tTb 3 cC CC) ∧ tOk 3 CC) ∧ (w.1 li = some (143, br, tTb 4 cL LL) ∧ tOk 4 LL)) ∧
    ((w.1 ro = some (144, br, tTb 6 cR RR) ∧ tOk 6 RR) ∧ (w.1 bi = some (145, br, tTb 2 cB BB) ∧ tOk 2 BB) ∧ (w.1 le = some (146, br, tTb 4 cE EE) ∧ tOk 4 EE) ∧ (w.1 wk = some (147, br, tTb 3 cW WW) ∧ tOk 3 WW)) ∧
    ((30 ≤ cN ∧ 30 ≤ cV ∧ 30 ≤ cC ∧ 30 ≤ cL) ∧ (30 ≤ cR ∧ 30 ≤ cB ∧ 30 ≤ cE ∧ 30 ≤ cW)) ∧
    ((cN ≤ 40000 ∧ cV ≤ 40000 ∧ cC ≤ 690000 ∧ cL ≤ 4000) ∧ (cR ≤ 40000 ∧ cB ≤ 940000 ∧ cE ≤ 4000 ∧ cW ≤ 40000))
theorem baW_kp (f : zKp o w w') (ho : w.1 o = some (11, oo, fs)) {K : bbK} {B : bbR} (h : baW w K B) : baW w' K B := by
  obtain ⟨⟨br, pg, t⟩, ⟨nd, va, ce, li⟩, ⟨ro, bi, le, wk⟩⟩ := K
  obtain ⟨⟨⟨cN, NN⟩, ⟨cV, VV⟩, ⟨cC, CC⟩, ⟨cL, LL⟩⟩, ⟨⟨cR, RR⟩, ⟨cB, BB⟩, ⟨cE, EE⟩, ⟨cW, WW⟩⟩, ⟨gc, fr, tk, rs, rd⟩⟩ := B
  obtain ⟨h0, ⟨⟨a1, b1⟩, ⟨a2, b2⟩, ⟨a3, b3⟩, ⟨a4, b4⟩⟩, ⟨⟨a5, b5⟩, ⟨a6, b6⟩, ⟨a7, b7⟩, ⟨a8, b8⟩⟩, h3⟩ := h
  exact ⟨kp_at f ho h0 (by decide), ⟨⟨kp_at f ho a1 (by decide), b1⟩, ⟨kp_at f ho a2 (by decide), b2⟩, ⟨kp_at f ho a3 (by decide), b3⟩, ⟨kp_at f ho a4 (by decide), b4⟩⟩, ⟨⟨kp_at f ho a5 (by decide), b5⟩, ⟨kp_at f ho a6 (by decide), b6⟩, ⟨kp_at f ho a7 (by decide), b7⟩, ⟨kp_at f ho a8 (by decide), b8⟩⟩, h3⟩
end KP
/-- an empty program -/
def pgR0 (a b c : Nat) : pgR := ((a, b, c), (0, 0, 0), ([], [], []), (fun _ => ((0, 0, 0, 0, 0), [], (0, []), (0, []))), (fun _ => (0, 0, 0, 0, 0, 0, 0, 0, 0)), (fun _ => ((0, 0), (0, 0, 0, 0, 0, 0, 0), [], (0, []), ([], [], []), ([], []))), fun _ => (0, 0, 0, 0, []))
theorem pgI_0 {a b c : Nat} : pgI (pgR0 a b c) := by
  refine ⟨pF_mk (fun p y h => ?_) (fun k x h => ?_), fun x hx => (nomatch hx), fun x hx => (nomatch hx), fun x hx => (nomatch hx), fun x hx => (nomatch hx), List.nodup_nil, fun x hx => (nomatch hx), ⟨⟨rfl, Nat.zero_le _⟩, ⟨rfl, Nat.zero_le _⟩, ⟨rfl, Nat.zero_le _⟩, fun x hx => (nomatch hx), fun x hx => (nomatch hx)⟩⟩
  · cases h
  · cases h
section CMK
variable {G : zG} {d : Nat} {w w0 : zW} {o : Nat} {Q : zQ}
theorem xi_1 {zz : Nat} (ho : w.1 o = some (11, 0, [zN, zN, zN, zN, zN, zN, zI 0, zI 0, zJ 0])) (r1 : w.2.1 + 8 ≤ G.2.2.2.2.1) (r2 : w.2.2 + 1108 ≤ G.2.2.2.2.2) (k : ∀ (w3 : zW) (a tc tn th tz : Nat), w3.1 o = some (11, 0, [zR a, zN, zN, zN, zN, zN, zI 0, zI 0, zJ 0]) → tmW w3 a tc tn th tz 0 [] [] (List.replicate 64 [-1]) (List.replicate 200 0) → zKp o w w3 → w3.2.1 = w.2.1 + 8 → w3.2.2 = w.2.2 + 1108 → zX G zm_X11_init (d + 5) [zR o] w0 Q 15 [some (zR o)] [] w3) : zX G zm_X11_init (d + 5) [zR o] w0 Q 4 [some (zR o)] [] w := by
  refine zx_ok (fun ok0 => ?_)
  refine zx_aload_n (i := 0) dX11_init_4 rfl rfl ?_
  refine zx_ok (fun ok_1 => ?_)
  refine zx_new dX11_init_5 zn_X11_7 (by omega) (by omega) ?_
  obtain ⟨w_2, hw_3⟩ : ∃ ww, ww = znew w (10, 0, [zI 0, zN, zN, zN, zN]) 5 := ⟨_, rfl⟩
  obtain ⟨a_4, ha_5⟩ : ∃ ww, ww = w.2.1 := ⟨_, rfl⟩
  rw [← hw_3, ← ha_5]
  have q_6 : w_2.2.1 = w.2.1 + 1 ∧ w_2.2.2 = w.2.2 + 5 := by rw [hw_3]; exact ⟨rfl, rfl⟩
  have h_7 : w_2.1 a_4 = some (10, 0, [zI 0, zN, zN, zN, zN]) := by rw [hw_3, ha_5]; exact znew_at
  refine zx_dup dX11_init_8 (fun a h => by cases h) ?_
  have h_8 : w_2.1 o = some (11, 0, [zN, zN, zN, zN, zN, zN, zI 0, zI 0, zJ 0]) := by
    rw [hw_3]; exact znew_to (ok_1 _ _ ho) ho
  refine zx_icN (b := a_4) (As := []) (st := [zR a_4, zR o]) dX11_init_9 zc_X11_9 rfl (Nat.le_of_ble_eq_true rfl) rfl (c_X10_init h_7 (by omega) (by omega)) (fun w2 hq => ?_)
  obtain ⟨q0, q1, q2, q3⟩ := hq
  have ho2 : w2.1 o = some (11, 0, [zN, zN, zN, zN, zN, zN, zI 0, zI 0, zJ 0]) := q3 _ _ (zne_tg h_7 h_8 (by simp)) h_8
  obtain ⟨w_9, hw_10⟩ : ∃ ww, ww = zput w2 o (11, 0, [zR a_4, zN, zN, zN, zN, zN, zI 0, zI 0, zJ 0]) := ⟨_, rfl⟩
  refine zx_put (w1 := w_9) dX11_init_12 zf_X11_10 ho2 (Nat.le_of_ble_eq_true rfl) (zFt_obj _ _) (fun _ => ⟨rfl, fun q h => by cases h; rfl⟩) hw_10.symm ?_
  have q_11 : w_9.2.1 = w2.2.1 ∧ w_9.2.2 = w2.2.2 := by rw [hw_10]; exact ⟨rfl, rfl⟩
  have h_12 : w_9.1 o = some (11, 0, [zR a_4, zN, zN, zN, zN, zN, zI 0, zI 0, zJ 0]) := by rw [hw_10]; exact zput_at
  have hkp : zKp o w w_9 := fun b ob hb h => by
    have hlt := ok0 _ _ h
    have h1 := znew_to (ob := (10, 0, [zI 0, zN, zN, zN, zN])) (n := 5) hlt h
    rw [← hw_3] at h1
    have h2 := q3 b ob (by omega) h1
    rw [hw_10]
    exact zput_to hb h2
  have hk2 : zKp o w2 w_9 := fun b ob hb h => by
    rw [hw_10]
    exact zput_to hb h
  exact k w_9 a_4 _ _ _ _ h_12 (tmW_kp hk2 ho2 q0) hkp (by omega) (by omega)
theorem xi_2 {t : Nat} (ho : w.1 o = some (11, 0, [zR t, zN, zN, zN, zN, zN, zI 0, zI 0, zJ 0])) (r1 : w.2.1 + 4 ≤ G.2.2.2.2.1) (r2 : w.2.2 + 12 ≤ G.2.2.2.2.2) (k : ∀ (w3 : zW) (a l1 l2 l3 : Nat), w3.1 o = some (11, 0, [zR t, zR a, zN, zN, zN, zN, zI 0, zI 0, zJ 0]) → pgW w3 a (pgR0 l1 l2 l3) → zKp o w w3 → w3.2.1 = w.2.1 + 4 → w3.2.2 = w.2.2 + 12 → zX G zm_X11_init (d + 5) [zR o] w0 Q 26 [some (zR o)] [] w3) : zX G zm_X11_init (d + 5) [zR o] w0 Q 15 [some (zR o)] [] w := by
  refine zx_ok (fun ok0 => ?_)
  refine zx_aload_n (i := 0) dX11_init_15 rfl rfl ?_
  refine zx_ok (fun ok_1 => ?_)
  refine zx_new dX11_init_16 zn_X11_16 (by omega) (by omega) ?_
  obtain ⟨w_2, hw_3⟩ : ∃ ww, ww = znew w (7, 0, [zN, zN, zN]) 3 := ⟨_, rfl⟩
  obtain ⟨a_4, ha_5⟩ : ∃ ww, ww = w.2.1 := ⟨_, rfl⟩
  rw [← hw_3, ← ha_5]
  have q_6 : w_2.2.1 = w.2.1 + 1 ∧ w_2.2.2 = w.2.2 + 3 := by rw [hw_3]; exact ⟨rfl, rfl⟩
  have h_7 : w_2.1 a_4 = some (7, 0, [zN, zN, zN]) := by rw [hw_3, ha_5]; exact znew_at
  refine zx_dup dX11_init_19 (fun a h => by cases h) ?_
  have h_8 : w_2.1 o = some (11, 0, [zR t, zN, zN, zN, zN, zN, zI 0, zI 0, zJ 0]) := by
    rw [hw_3]; exact znew_to (ok_1 _ _ ho) ho
  refine zx_icN (b := a_4) (As := []) (st := [zR a_4, zR o]) dX11_init_20 zc_X11_18 rfl (Nat.le_of_ble_eq_true rfl) rfl (c_X7_init h_7 (by omega) (by omega)) (fun w2 hq => ?_)
  obtain ⟨q0, q1, q2, q3, q4, q5, q6⟩ := hq
  have ho2 : w2.1 o = some (11, 0, [zR t, zN, zN, zN, zN, zN, zI 0, zI 0, zJ 0]) := q6 _ _ (zne_tg h_7 h_8 (by simp)) h_8
  obtain ⟨w_9, hw_10⟩ : ∃ ww, ww = zput w2 o (11, 0, [zR t, zR a_4, zN, zN, zN, zN, zI 0, zI 0, zJ 0]) := ⟨_, rfl⟩
  refine zx_put (w1 := w_9) dX11_init_23 zf_X11_19 ho2 (Nat.le_of_ble_eq_true rfl) (zFt_obj _ _) (fun _ => ⟨rfl, fun q h => by cases h; rfl⟩) hw_10.symm ?_
  have q_11 : w_9.2.1 = w2.2.1 ∧ w_9.2.2 = w2.2.2 := by rw [hw_10]; exact ⟨rfl, rfl⟩
  have h_12 : w_9.1 o = some (11, 0, [zR t, zR a_4, zN, zN, zN, zN, zI 0, zI 0, zJ 0]) := by rw [hw_10]; exact zput_at
  have hkp : zKp o w w_9 := fun b ob hb h => by
    have hlt := ok0 _ _ h
    have h1 := znew_to (ob := (7, 0, [zN, zN, zN])) (n := 3) hlt h
    rw [← hw_3] at h1
    have h2 := q6 b ob (by omega) h1
    rw [hw_10]
    exact zput_to hb h2
  have hk2 : zKp o w2 w_9 := fun b ob hb h => by
    rw [hw_10]
    exact zput_to hb h
  exact k w_9 a_4 _ _ _ h_12 ⟨kp_at hk2 ho2 q0 (by decide), kp_at hk2 ho2 q1 (by decide), kp_at hk2 ho2 q2 (by decide), kp_at hk2 ho2 q3 (by decide), fun y hy => (nomatch hy), fun y hy => (nomatch hy), fun y hy => (nomatch hy)⟩ hkp (by omega) (by omega)
theorem xi_3 {t pg : Nat} (ho : w.1 o = some (11, 0, [zR t, zR pg, zN, zN, zN, zN, zI 0, zI 0, zJ 0])) (r1 : w.2.1 + 7 ≤ G.2.2.2.2.1) (r2 : w.2.2 + 332 ≤ G.2.2.2.2.2) (k : ∀ (w3 : zW) (a ri ra rn : Nat), w3.1 o = some (11, 0, [zR t, zR pg, zN, zN, zR a, zN, zI 0, zI 0, zJ 0]) → rpW w3 a ri ra rn none [] [] [] 0 0 0 101 0 0 → zKp o w w3 → w3.2.1 = w.2.1 + 7 → w3.2.2 = w.2.2 + 332 → zX G zm_X11_init (d + 5) [zR o] w0 Q 37 [some (zR o)] [] w3) : zX G zm_X11_init (d + 5) [zR o] w0 Q 26 [some (zR o)] [] w := by
  refine zx_ok (fun ok0 => ?_)
  refine zx_aload_n (i := 0) dX11_init_26 rfl rfl ?_
  refine zx_ok (fun ok_1 => ?_)
  refine zx_new dX11_init_27 zn_X11_23 (by omega) (by omega) ?_
  obtain ⟨w_2, hw_3⟩ : ∃ ww, ww = znew w (8, 0, [zN, zN, zN, zN, zI 0, zI 0, zI 0, zI 0, zI 0, zI 0]) 10 := ⟨_, rfl⟩
  obtain ⟨a_4, ha_5⟩ : ∃ ww, ww = w.2.1 := ⟨_, rfl⟩
  rw [← hw_3, ← ha_5]
  have q_6 : w_2.2.1 = w.2.1 + 1 ∧ w_2.2.2 = w.2.2 + 10 := by rw [hw_3]; exact ⟨rfl, rfl⟩
  have h_7 : w_2.1 a_4 = some (8, 0, [zN, zN, zN, zN, zI 0, zI 0, zI 0, zI 0, zI 0, zI 0]) := by rw [hw_3, ha_5]; exact znew_at
  refine zx_dup dX11_init_30 (fun a h => by cases h) ?_
  have h_8 : w_2.1 o = some (11, 0, [zR t, zR pg, zN, zN, zN, zN, zI 0, zI 0, zJ 0]) := by
    rw [hw_3]; exact znew_to (ok_1 _ _ ho) ho
  refine zx_icN (b := a_4) (As := []) (st := [zR a_4, zR o]) dX11_init_31 zc_X11_25 rfl (Nat.le_of_ble_eq_true rfl) rfl (c_X8_init h_7 (by omega) (by omega)) (fun w2 hq => ?_)
  obtain ⟨q0, q1, q2, q3⟩ := hq
  have ho2 : w2.1 o = some (11, 0, [zR t, zR pg, zN, zN, zN, zN, zI 0, zI 0, zJ 0]) := q3 _ _ (zne_tg h_7 h_8 (by simp)) h_8
  obtain ⟨w_9, hw_10⟩ : ∃ ww, ww = zput w2 o (11, 0, [zR t, zR pg, zN, zN, zR a_4, zN, zI 0, zI 0, zJ 0]) := ⟨_, rfl⟩
  refine zx_put (w1 := w_9) dX11_init_34 zf_X11_26 ho2 (Nat.le_of_ble_eq_true rfl) (zFt_obj _ _) (fun h => by cases h) hw_10.symm ?_
  have q_11 : w_9.2.1 = w2.2.1 ∧ w_9.2.2 = w2.2.2 := by rw [hw_10]; exact ⟨rfl, rfl⟩
  have h_12 : w_9.1 o = some (11, 0, [zR t, zR pg, zN, zN, zR a_4, zN, zI 0, zI 0, zJ 0]) := by rw [hw_10]; exact zput_at
  have hkp : zKp o w w_9 := fun b ob hb h => by
    have hlt := ok0 _ _ h
    have h1 := znew_to (ob := (8, 0, [zN, zN, zN, zN, zI 0, zI 0, zI 0, zI 0, zI 0, zI 0])) (n := 10) hlt h
    rw [← hw_3] at h1
    have h2 := q3 b ob (by omega) h1
    rw [hw_10]
    exact zput_to hb h2
  have hk2 : zKp o w2 w_9 := fun b ob hb h => by
    rw [hw_10]
    exact zput_to hb h
  exact k w_9 a_4 _ _ _ h_12 (rpW_kp hk2 ho2 q0) hkp (by omega) (by omega)
theorem xi_4 {t pg la : Nat} (ho : w.1 o = some (11, 0, [zR t, zR pg, zN, zN, zR la, zN, zI 0, zI 0, zJ 0])) (r1 : w.2.1 + 7 ≤ G.2.2.2.2.1) (r2 : w.2.2 + 332 ≤ G.2.2.2.2.2) (k : ∀ (w3 : zW) (a ri ra rn : Nat), w3.1 o = some (11, 0, [zR t, zR pg, zN, zN, zR la, zR a, zI 0, zI 0, zJ 0]) → (rpW w3 a ri ra rn none [] [] [] 0 0 0 101 0 0 ∧ w.2.1 ≤ a) → zKp o w w3 → w3.2.1 = w.2.1 + 7 → w3.2.2 = w.2.2 + 332 → zX G zm_X11_init (d + 5) [zR o] w0 Q 48 [some (zR o)] [] w3) : zX G zm_X11_init (d + 5) [zR o] w0 Q 37 [some (zR o)] [] w := by
  refine zx_ok (fun ok0 => ?_)
  refine zx_aload_n (i := 0) dX11_init_37 rfl rfl ?_
  refine zx_ok (fun ok_1 => ?_)
  refine zx_new dX11_init_38 zn_X11_23 (by omega) (by omega) ?_
  obtain ⟨w_2, hw_3⟩ : ∃ ww, ww = znew w (8, 0, [zN, zN, zN, zN, zI 0, zI 0, zI 0, zI 0, zI 0, zI 0]) 10 := ⟨_, rfl⟩
  obtain ⟨a_4, ha_5⟩ : ∃ ww, ww = w.2.1 := ⟨_, rfl⟩
  rw [← hw_3, ← ha_5]
  have q_6 : w_2.2.1 = w.2.1 + 1 ∧ w_2.2.2 = w.2.2 + 10 := by rw [hw_3]; exact ⟨rfl, rfl⟩
  have h_7 : w_2.1 a_4 = some (8, 0, [zN, zN, zN, zN, zI 0, zI 0, zI 0, zI 0, zI 0, zI 0]) := by rw [hw_3, ha_5]; exact znew_at
  refine zx_dup dX11_init_41 (fun a h => by cases h) ?_
  have h_8 : w_2.1 o = some (11, 0, [zR t, zR pg, zN, zN, zR la, zN, zI 0, zI 0, zJ 0]) := by
    rw [hw_3]; exact znew_to (ok_1 _ _ ho) ho
  refine zx_icN (b := a_4) (As := []) (st := [zR a_4, zR o]) dX11_init_42 zc_X11_25 rfl (Nat.le_of_ble_eq_true rfl) rfl (c_X8_init h_7 (by omega) (by omega)) (fun w2 hq => ?_)
  obtain ⟨q0, q1, q2, q3⟩ := hq
  have ho2 : w2.1 o = some (11, 0, [zR t, zR pg, zN, zN, zR la, zN, zI 0, zI 0, zJ 0]) := q3 _ _ (zne_tg h_7 h_8 (by simp)) h_8
  obtain ⟨w_9, hw_10⟩ : ∃ ww, ww = zput w2 o (11, 0, [zR t, zR pg, zN, zN, zR la, zR a_4, zI 0, zI 0, zJ 0]) := ⟨_, rfl⟩
  refine zx_put (w1 := w_9) dX11_init_45 zf_X11_30 ho2 (Nat.le_of_ble_eq_true rfl) (zFt_obj _ _) (fun h => by cases h) hw_10.symm ?_
  have q_11 : w_9.2.1 = w2.2.1 ∧ w_9.2.2 = w2.2.2 := by rw [hw_10]; exact ⟨rfl, rfl⟩
  have h_12 : w_9.1 o = some (11, 0, [zR t, zR pg, zN, zN, zR la, zR a_4, zI 0, zI 0, zJ 0]) := by rw [hw_10]; exact zput_at
  have hkp : zKp o w w_9 := fun b ob hb h => by
    have hlt := ok0 _ _ h
    have h1 := znew_to (ob := (8, 0, [zN, zN, zN, zN, zI 0, zI 0, zI 0, zI 0, zI 0, zI 0])) (n := 10) hlt h
    rw [← hw_3] at h1
    have h2 := q3 b ob (by omega) h1
    rw [hw_10]
    exact zput_to hb h2
  have hk2 : zKp o w2 w_9 := fun b ob hb h => by
    rw [hw_10]
    exact zput_to hb h
  exact k w_9 a_4 _ _ _ h_12 ⟨rpW_kp hk2 ho2 q0, by omega⟩ hkp (by omega) (by omega)
theorem xi_5 {t pg la sp : Nat} (ho : w.1 o = some (11, 0, [zR t, zR pg, zN, zN, zR la, zR sp, zI 0, zI 0, zJ 0])) (r1 : w.2.1 + 6 ≤ G.2.2.2.2.1) (r2 : w.2.2 + 171 ≤ G.2.2.2.2.2) (k : ∀ (w3 : zW) (a fa ca ta : Nat), w3.1 o = some (11, 0, [zR t, zR pg, zR a, zN, zR la, zR sp, zI 0, zI 0, zJ 0]) → maW w3 a fa ca ta t sp 0 [] (fun _ => default) 90 [] 60 [] 0 none 0 none 0 0 0 → zKp o w w3 → w3.2.1 = w.2.1 + 6 → w3.2.2 = w.2.2 + 171 → zX G zm_X11_init (d + 5) [zR o] w0 Q 67 [some (zR o)] [] w3) : zX G zm_X11_init (d + 5) [zR o] w0 Q 48 [some (zR o)] [] w := by
  refine zx_ok (fun ok0 => ?_)
  refine zx_aload_n (i := 0) dX11_init_48 rfl rfl ?_
  refine zx_ok (fun ok_1 => ?_)
  refine zx_new dX11_init_49 zn_X11_33 (by omega) (by omega) ?_
  obtain ⟨w_2, hw_3⟩ : ∃ ww, ww = znew w (4, 0, [zN, zN, zN, zN, zN, zI 0, zN, zI 0, zN, zI 0, zI 0, zI 0]) 12 := ⟨_, rfl⟩
  obtain ⟨a_4, ha_5⟩ : ∃ ww, ww = w.2.1 := ⟨_, rfl⟩
  rw [← hw_3, ← ha_5]
  have q_6 : w_2.2.1 = w.2.1 + 1 ∧ w_2.2.2 = w.2.2 + 12 := by rw [hw_3]; exact ⟨rfl, rfl⟩
  have h_7 : w_2.1 a_4 = some (4, 0, [zN, zN, zN, zN, zN, zI 0, zN, zI 0, zN, zI 0, zI 0, zI 0]) := by rw [hw_3, ha_5]; exact znew_at
  refine zx_dup dX11_init_52 (fun a h => by cases h) ?_
  refine zx_aload_n (i := 0) dX11_init_53 rfl rfl ?_
  have h_8 : w_2.1 o = some (11, 0, [zR t, zR pg, zN, zN, zR la, zR sp, zI 0, zI 0, zJ 0]) := by
    rw [hw_3]; exact znew_to (ok_1 _ _ ho) ho
  refine zx_getfield dX11_init_54 zf_X11_10 h_8 rfl ?_
  refine zx_aload_n (i := 0) dX11_init_57 rfl rfl ?_
  refine zx_getfield dX11_init_58 zf_X11_30 h_8 rfl ?_
  refine zx_icN (b := a_4) (As := [zR t, zR sp]) (st := [zR a_4, zR o]) dX11_init_61 zc_X11_35 rfl (Nat.le_of_ble_eq_true rfl) rfl (c_X4_init h_7 (by omega) (by omega)) (fun w2 hq => ?_)
  obtain ⟨q0, q1, ⟨q2, q3⟩, ⟨q4, q5⟩, q6, q7, q8⟩ := hq
  have ho2 : w2.1 o = some (11, 0, [zR t, zR pg, zN, zN, zR la, zR sp, zI 0, zI 0, zJ 0]) := q8 _ _ (zne_tg h_7 h_8 (by simp)) h_8
  obtain ⟨w_9, hw_10⟩ : ∃ ww, ww = zput w2 o (11, 0, [zR t, zR pg, zR a_4, zN, zR la, zR sp, zI 0, zI 0, zJ 0]) := ⟨_, rfl⟩
  refine zx_put (w1 := w_9) dX11_init_64 zf_X11_38 ho2 (Nat.le_of_ble_eq_true rfl) (zFt_obj _ _) (fun _ => ⟨rfl, fun q h => by cases h; rfl⟩) hw_10.symm ?_
  have q_11 : w_9.2.1 = w2.2.1 ∧ w_9.2.2 = w2.2.2 := by rw [hw_10]; exact ⟨rfl, rfl⟩
  have h_12 : w_9.1 o = some (11, 0, [zR t, zR pg, zR a_4, zN, zR la, zR sp, zI 0, zI 0, zJ 0]) := by rw [hw_10]; exact zput_at
  have hkp : zKp o w w_9 := fun b ob hb h => by
    have hlt := ok0 _ _ h
    have h1 := znew_to (ob := (4, 0, [zN, zN, zN, zN, zN, zI 0, zN, zI 0, zN, zI 0, zI 0, zI 0])) (n := 12) hlt h
    rw [← hw_3] at h1
    have h2 := q8 b ob (by omega) h1
    rw [hw_10]
    exact zput_to hb h2
  have hk2 : zKp o w2 w_9 := fun b ob hb h => by
    rw [hw_10]
    exact zput_to hb h
  exact k w_9 a_4 _ _ _ h_12 (maW_kp0 hk2 ho2 ⟨q0, q1, ⟨q2, q3⟩, ⟨q4, q5⟩, fun i y hy => (by cases hy), ⟨fun _ => rfl, Nat.le_refl _, Nat.zero_le _, fun h => absurd rfl h⟩, by decide⟩) hkp (by omega) (by omega)
theorem xi_6 {t pg la sp mc : Nat} (ho : w.1 o = some (11, 0, [zR t, zR pg, zR mc, zN, zR la, zR sp, zI 0, zI 0, zJ 0])) (r1 : w.2.1 + 17 ≤ G.2.2.2.2.1) (r2 : w.2.2 + 1607 ≤ G.2.2.2.2.2) (k : ∀ (w3 : zW) (a nd va ce li ro bi le wk : Nat), w3.1 o = some (11, 0, [zR t, zR pg, zR mc, zR a, zR la, zR sp, zI 0, zI 0, zJ 0]) → baW w3 ((a, pg, t), (nd, va, ce, li), (ro, bi, le, wk)) (((320, []), (64, []), (192, []), (256, [])), ((384, []), (128, []), (32, []), (192, [])), (0, 0, 0, 0, 0)) → zKp o w w3 → w3.2.1 = w.2.1 + 17 → w3.2.2 = w.2.2 + 1607 → zX G zm_X11_init (d + 5) [zR o] w0 Q 86 [some (zR o)] [] w3) : zX G zm_X11_init (d + 5) [zR o] w0 Q 67 [some (zR o)] [] w := by
  refine zx_ok (fun ok0 => ?_)
  refine zx_aload_n (i := 0) dX11_init_67 rfl rfl ?_
  refine zx_ok (fun ok_1 => ?_)
  refine zx_new dX11_init_68 zn_X11_42 (by omega) (by omega) ?_
  obtain ⟨w_2, hw_3⟩ : ∃ ww, ww = znew w (0, 0, [zN, zN, zN, zI 0, zN, zN, zN, zN, zI 0, zN, zN, zN, zI 0, zI 0, zI 0]) 15 := ⟨_, rfl⟩
  obtain ⟨a_4, ha_5⟩ : ∃ ww, ww = w.2.1 := ⟨_, rfl⟩
  rw [← hw_3, ← ha_5]
  have q_6 : w_2.2.1 = w.2.1 + 1 ∧ w_2.2.2 = w.2.2 + 15 := by rw [hw_3]; exact ⟨rfl, rfl⟩
  have h_7 : w_2.1 a_4 = some (0, 0, [zN, zN, zN, zI 0, zN, zN, zN, zN, zI 0, zN, zN, zN, zI 0, zI 0, zI 0]) := by rw [hw_3, ha_5]; exact znew_at
  refine zx_dup dX11_init_71 (fun a h => by cases h) ?_
  refine zx_aload_n (i := 0) dX11_init_72 rfl rfl ?_
  have h_8 : w_2.1 o = some (11, 0, [zR t, zR pg, zR mc, zN, zR la, zR sp, zI 0, zI 0, zJ 0]) := by
    rw [hw_3]; exact znew_to (ok_1 _ _ ho) ho
  refine zx_getfield dX11_init_73 zf_X11_19 h_8 rfl ?_
  refine zx_aload_n (i := 0) dX11_init_76 rfl rfl ?_
  refine zx_getfield dX11_init_77 zf_X11_10 h_8 rfl ?_
  refine zx_icN (b := a_4) (As := [zR pg, zR t]) (st := [zR a_4, zR o]) dX11_init_80 zc_X11_44 rfl (Nat.le_of_ble_eq_true rfl) rfl (c_X0_init h_7 (by omega) (by omega)) (fun w2 hq => ?_)
  obtain ⟨q0, q1, q2, q3, q4, q5, q6, q7, q8, q9, q10, q11⟩ := hq
  have ho2 : w2.1 o = some (11, 0, [zR t, zR pg, zR mc, zN, zR la, zR sp, zI 0, zI 0, zJ 0]) := q11 _ _ (zne_tg h_7 h_8 (by simp)) h_8
  obtain ⟨w_9, hw_10⟩ : ∃ ww, ww = zput w2 o (11, 0, [zR t, zR pg, zR mc, zR a_4, zR la, zR sp, zI 0, zI 0, zJ 0]) := ⟨_, rfl⟩
  refine zx_put (w1 := w_9) dX11_init_83 zf_X11_47 ho2 (Nat.le_of_ble_eq_true rfl) (zFt_obj _ _) (fun _ => ⟨rfl, fun q h => by cases h; rfl⟩) hw_10.symm ?_
  have q_11 : w_9.2.1 = w2.2.1 ∧ w_9.2.2 = w2.2.2 := by rw [hw_10]; exact ⟨rfl, rfl⟩
  have h_12 : w_9.1 o = some (11, 0, [zR t, zR pg, zR mc, zR a_4, zR la, zR sp, zI 0, zI 0, zJ 0]) := by rw [hw_10]; exact zput_at
  have hkp : zKp o w w_9 := fun b ob hb h => by
    have hlt := ok0 _ _ h
    have h1 := znew_to (ob := (0, 0, [zN, zN, zN, zI 0, zN, zN, zN, zN, zI 0, zN, zN, zN, zI 0, zI 0, zI 0])) (n := 15) hlt h
    rw [← hw_3] at h1
    have h2 := q11 b ob (by omega) h1
    rw [hw_10]
    exact zput_to hb h2
  have hk2 : zKp o w2 w_9 := fun b ob hb h => by
    rw [hw_10]
    exact zput_to hb h
  exact k w_9 a_4 _ _ _ _ _ _ _ _ h_12 (baW_kp hk2 ho2 ⟨q0, ⟨q1, q2, q3, q4⟩, ⟨q5, q6, q7, q8⟩, by decide⟩) hkp (by omega) (by omega)
theorem xi_7 {t pg la sp mc br : Nat} (ho : w.1 o = some (11, 0, [zR t, zR pg, zR mc, zR br, zR la, zR sp, zI 0, zI 0, zJ 0])) (k : ∀ w3 : zW, w3.1 o = some (11, 0, [zR t, zR pg, zR mc, zR br, zR la, zR sp, zI 0, zI 0, zJ 0]) → zKp o w w3 → w3.2 = w.2 → Q (.inl none) w3) : zX G zm_X11_init (d + 5) [zR o] w0 Q 86 [some (zR o)] [] w := by
  refine zx_aload_n (i := 0) dX11_init_86 rfl rfl ?_
  refine zx_iconst (v := 0) dX11_init_87 rfl (z32_lit (by decide) (by decide)) ?_
  obtain ⟨w_1, hw_2⟩ : ∃ ww, ww = zput w o (11, 0, [zR t, zR pg, zR mc, zR br, zR la, zR sp, zI 0, zI 0, zJ 0]) := ⟨_, rfl⟩
  refine zx_put (w1 := w_1) dX11_init_88 zf_X11_51 ho (Nat.le_of_ble_eq_true rfl) (zFt_bool (by first | exact Or.inl rfl | exact Or.inr rfl | exact zB_or | assumption)) (fun h => by cases h) hw_2.symm ?_
  have h_3 : w_1.1 o = some (11, 0, [zR t, zR pg, zR mc, zR br, zR la, zR sp, zI 0, zI 0, zJ 0]) := by rw [hw_2]; exact zput_at
  refine zx_aload_n (i := 0) dX11_init_91 rfl rfl ?_
  refine zx_iconst (v := 0) dX11_init_92 rfl (z32_lit (by decide) (by decide)) ?_
  obtain ⟨w_4, hw_5⟩ : ∃ ww, ww = zput w_1 o (11, 0, [zR t, zR pg, zR mc, zR br, zR la, zR sp, zI 0, zI 0, zJ 0]) := ⟨_, rfl⟩
  refine zx_put (w1 := w_4) dX11_init_93 zf_X11_55 h_3 (Nat.le_of_ble_eq_true rfl) (zFt_int _) (fun h => by cases h) hw_5.symm ?_
  have h_6 : w_4.1 o = some (11, 0, [zR t, zR pg, zR mc, zR br, zR la, zR sp, zI 0, zI 0, zJ 0]) := by rw [hw_5]; exact zput_at
  refine zx_aload_n (i := 0) dX11_init_96 rfl rfl ?_
  refine zx_lconst (v := 0) dX11_init_97 (by decide +kernel) ⟨by decide, by decide⟩ ?_
  obtain ⟨w_7, hw_8⟩ : ∃ ww, ww = zput w_4 o (11, 0, [zR t, zR pg, zR mc, zR br, zR la, zR sp, zI 0, zI 0, zJ 0]) := ⟨_, rfl⟩
  refine zx_put (w1 := w_7) dX11_init_98 zf_X11_59 h_6 (Nat.le_of_ble_eq_true rfl) (zFt_long _) (fun h => by cases h) hw_8.symm ?_
  have h_9 : w_7.1 o = some (11, 0, [zR t, zR pg, zR mc, zR br, zR la, zR sp, zI 0, zI 0, zJ 0]) := by rw [hw_8]; exact zput_at
  refine zx_return dX11_init_101 rfl ?_
  refine k w_7 h_9 (fun b ob hb h => ?_) (by rw [hw_8, hw_5, hw_2]; rfl)
  rw [hw_8, hw_5, hw_2]
  exact zput_to hb (zput_to hb (zput_to hb h))
end CMK
