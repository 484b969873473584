/-! Own rows: analyse, whole. Walked by program (wip/p37/m_an2.py). -/
abbrev T5 : List Nat := [5, 101, 102, 103, 125, 126]
theorem tmW_zFr {w w' : zW} {t tc tn th tz : Nat} {ty : Int} {C N H : List (List Int)} {S : List Int} (h : tmW w t tc tn th tz ty C N H S) (f : zFr T5 w w') : tmW w' t tc tn th tz ty C N H S := by
  obtain ⟨h0, ⟨hc, okC⟩, ⟨hn, okN⟩, ⟨hh, okH⟩, hz, hS⟩ := h
  exact ⟨f _ _ h0 (by simp), ⟨f _ _ hc (by simp), okC⟩, ⟨f _ _ hn (by simp), okN⟩, ⟨f _ _ hh (by simp), okH⟩, f _ _ hz (by simp), hS⟩
theorem pioS_fr {m : Nat} {ins : Int} {pr pg : Nat} : ∀ {cs : List Nat} {b : Bool} {w : zW} {R : pgR}, pgW w pg R → (∀ c ∈ cs, c ∈ R.2.2.1.2.2) → zFr T5 w (pioS m ins pr cs b w R).2.1
  | [], _, _, _, _, _ => zFr_re
  | c :: cs, b, w, R, h, hs => by
    rw [pioS_c]
    have hc := hs c List.mem_cons_self
    have hC := (h.2.2.2.2.2.2 c hc).1
    have hsm := ordO_sm (m := m) (ins := ins) hC
    refine zFr_tr ?_ (pioS_fr (pgW_clPut h hc hsm) (fun x hx => hs x (List.mem_cons_of_mem _ hx)))
    intro a ob ha hn
    exact clPut_fr hC hsm.2.1 ha (fun q => by
      obtain ⟨q1, -⟩ := q
      apply hn
      rcases q1 with e | e | e | e | e <;> rw [e] <;> simp)
def anK (pg : Nat) (w : zW) (R : pgR) (w' : zW) (R' : pgR) : Prop := zFr T5 w w' ∧ pgW w' pg R' ∧ pgO R' ∧ pgN R' ∧ pgL R' ∧ R'.2.2.1 = R.2.2.1
theorem anK_re {pg : Nat} {w : zW} {R : pgR} (h1 : pgW w pg R) (h2 : pgO R) (h3 : pgN R) (h4 : pgL R) : anK pg w R w R := ⟨zFr_re, h1, h2, h3, h4, rfl⟩
theorem anK_tr {pg : Nat} {w w1 w2 : zW} {R R1 R2 : pgR} (h : anK pg w R w1 R1) (h2 : anK pg w1 R1 w2 R2) : anK pg w R w2 R2 := ⟨zFr_tr h.1 h2.1, h2.2.1, h2.2.2.1, h2.2.2.2.1, h2.2.2.2.2.1, h2.2.2.2.2.2.trans h.2.2.2.2.2⟩
theorem anK_mo {pg y : Nat} {w : zW} {R : pgR} {r : moR} (h1 : pgW w pg R) (h2 : pgO R) (h3 : pgN R) (h4 : pgL R) (hy : y ∈ R.2.2.1.2.1) (hr1 : r.1 = (R.2.2.2.2.1 y).1) (hr2 : r.2.1 = (R.2.2.2.2.1 y).2.1) : anK pg w R (zput w y (5, 0, moF r)) (pgSetM R y r) :=
  ⟨zFr_put (h1.2.2.2.2.2.1 y hy) (by simp), pgW_moPut h1 hy, pgO_setM h2, pgN_set h3 hr1 hr2, pgL_setM h4, rfl⟩
theorem an1_keep {pg : Nat} : ∀ {l : List Nat} {w : zW} {R : pgR}, pgW w pg R → pgO R → pgN R → pgL R → (∀ y ∈ l, y ∈ R.2.2.1.2.1) → anK pg w R (an1 l w R).1 (an1 l w R).2
  | [], _, _, h1, h2, h3, h4, _ => anK_re h1 h2 h3 h4
  | y :: l, w, R, h1, h2, h3, h4, hs => by
    rw [an1_c]
    have hy := hs y List.mem_cons_self
    obtain ⟨hpr, hnu, hlen⟩ := h3 y hy
    have hsub := (h1.2.2.2.2.1 _ hpr).2.2.1
    have hgl : ∀ c ∈ (R.2.2.2.1 (R.2.2.2.2.1 y).1).2.2.2.2, (R.2.2.2.2.2.1 c).2.2.2.1.2.length ≤ 5 := fun c hc => h4 c (hsub c hc)
    have k1 : anK pg w R (anP w R (R.2.2.2.2.1 y)).2.1 (anP w R (R.2.2.2.2.1 y)).2.2 := by
      have q := pioS_keep (m := (R.2.2.2.2.1 y).2.1.toNat) (ins := (R.2.2.2.2.1 y).2.2.1) (pr := (R.2.2.2.2.1 y).1) (b := true) h1 h2 hsub hgl
      exact ⟨pioS_fr h1 hsub, q.1, q.2.1, pgN_sm h3 q.2.2, pgL_sm h4 q.2.2, q.2.2.2.2.1⟩
    have k0 := (pioS_keep (m := (R.2.2.2.2.1 y).2.1.toNat) (ins := (R.2.2.2.2.1 y).2.2.1) (pr := (R.2.2.2.2.1 y).1) (b := true) h1 h2 hsub hgl).2.2.2.2.2.2.1
    have k2 := anK_mo (pg := pg) (y := y) (r := setSw (anM (R.2.2.2.2.1 y) (if (anP w R (R.2.2.2.2.1 y)).1 = true then 0 else 1)) (fsS (pgSetM (anP w R (R.2.2.2.2.1 y)).2.2 y (anM (R.2.2.2.2.1 y) (if (anP w R (R.2.2.2.2.1 y)).1 = true then 0 else 1))) (R.2.2.2.2.1 y).2.2.1 (R.2.2.2.2.1 y).2.1 (R.2.2.2.1 (R.2.2.2.2.1 y).1).2.2.2.2 (-1) 0)) k1.2.1 k1.2.2.1 k1.2.2.2.1 k1.2.2.2.2.1 (by rw [k1.2.2.2.2.2]; exact hy) (by rw [show (anP w R (R.2.2.2.2.1 y)).2.2.2.2.2.2.1 = R.2.2.2.2.1 from k0]; rfl) (by rw [show (anP w R (R.2.2.2.2.1 y)).2.2.2.2.2.2.1 = R.2.2.2.2.1 from k0]; rfl)
    have k3 := anK_tr k1 k2
    exact anK_tr k3 (an1_keep k3.2.1 k3.2.2.1 k3.2.2.2.1 k3.2.2.2.2.1 (fun x hx => by rw [k3.2.2.2.2.2]; exact hs x (List.mem_cons_of_mem _ hx)))
theorem spF_keep {pg : Nat} : ∀ {l : List Nat} {b : Bool} {w : zW} {R : pgR}, pgW w pg R → pgO R → pgN R → pgL R → (∀ y ∈ l, y ∈ R.2.2.1.2.1) → anK pg w R (spF l b w R).2.1 (spF l b w R).2.2
  | [], _, _, _, h1, h2, h3, h4, _ => anK_re h1 h2 h3 h4
  | y :: l, b, w, R, h1, h2, h3, h4, hs => by
    by_cases hb : (R.2.2.2.2.1 y).2.2.2.2.2.1 ≠ 0 ∧ badM R y = true
    · rw [spF_y hb]
      have k := anK_mo (pg := pg) (y := y) (r := setGd (R.2.2.2.2.1 y) 0) h1 h2 h3 h4 (hs y List.mem_cons_self) rfl rfl
      exact anK_tr k (spF_keep k.2.1 k.2.2.1 k.2.2.2.1 k.2.2.2.2.1 (fun x hx => by rw [k.2.2.2.2.2]; exact hs x (List.mem_cons_of_mem _ hx)))
    · rw [spF_n hb]
      exact spF_keep h1 h2 h3 h4 (fun x hx => hs x (List.mem_cons_of_mem _ hx))
theorem spG_keep {pg : Nat} {C : List (List Int)} : ∀ {l : List Nat} {b : Bool} {w : zW} {R : pgR}, pgW w pg R → pgO R → pgN R → pgL R → (∀ y ∈ l, y ∈ R.2.2.1.2.1) → anK pg w R (spG C l b w R).2.1 (spG C l b w R).2.2
  | [], _, _, _, h1, h2, h3, h4, _ => anK_re h1 h2 h3 h4
  | y :: l, b, w, R, h1, h2, h3, h4, hs => by
    rw [spG_c]
    have k := anK_mo (pg := pg) (y := y) (r := frR R C (R.2.2.2.2.1 y)) h1 h2 h3 h4 (hs y List.mem_cons_self) rfl rfl
    exact anK_tr k (spG_keep k.2.1 k.2.2.1 k.2.2.2.1 k.2.2.2.2.1 (fun x hx => by rw [k.2.2.2.2.2]; exact hs x (List.mem_cons_of_mem _ hx)))
def sf2 (Ms : List Nat) : Nat → Bool → zW → pgR → zW × pgR
  | 0, _, w, R => (w, R)
  | n + 1, b, w, R => if b = true then sf2 Ms n (spF Ms false w R).1 (spF Ms false w R).2.1 (spF Ms false w R).2.2 else (w, R)
def sf3 (C : List (List Int)) (Ms : List Nat) : Nat → Bool → zW → pgR → zW × pgR
  | 0, _, w, R => (w, R)
  | n + 1, b, w, R => if b = true then sf3 C Ms n (spG C Ms false w R).1 (spG C Ms false w R).2.1 (spG C Ms false w R).2.2 else (w, R)
theorem sf2_t {Ms : List Nat} {n : Nat} {w : zW} {R : pgR} : sf2 Ms (n + 1) true w R = sf2 Ms n (spF Ms false w R).1 (spF Ms false w R).2.1 (spF Ms false w R).2.2 := rfl
theorem sf3_t {C : List (List Int)} {Ms : List Nat} {n : Nat} {w : zW} {R : pgR} : sf3 C Ms (n + 1) true w R = sf3 C Ms n (spG C Ms false w R).1 (spG C Ms false w R).2.1 (spG C Ms false w R).2.2 := rfl
theorem sf2_f {Ms : List Nat} {n : Nat} {w : zW} {R : pgR} : sf2 Ms n false w R = (w, R) := by cases n <;> rfl
theorem sf3_f {C : List (List Int)} {Ms : List Nat} {n : Nat} {w : zW} {R : pgR} : sf3 C Ms n false w R = (w, R) := by cases n <;> rfl
theorem sf2_keep {pg : Nat} {Ms : List Nat} : ∀ {n : Nat} {b : Bool} {w : zW} {R : pgR}, pgW w pg R → pgO R → pgN R → pgL R → R.2.2.1.2.1 = Ms → anK pg w R (sf2 Ms n b w R).1 (sf2 Ms n b w R).2
  | 0, _, _, _, h1, h2, h3, h4, _ => anK_re h1 h2 h3 h4
  | n + 1, b, w, R, h1, h2, h3, h4, hs => by
    cases b with
    | false => rw [sf2_f]; exact anK_re h1 h2 h3 h4
    | true =>
      rw [sf2_t]
      have k := spF_keep (b := false) h1 h2 h3 h4 (l := Ms) (fun y hy => by rw [hs]; exact hy)
      exact anK_tr k (sf2_keep k.2.1 k.2.2.1 k.2.2.2.1 k.2.2.2.2.1 (by rw [k.2.2.2.2.2]; exact hs))
theorem sf3_keep {pg : Nat} {C : List (List Int)} {Ms : List Nat} : ∀ {n : Nat} {b : Bool} {w : zW} {R : pgR}, pgW w pg R → pgO R → pgN R → pgL R → R.2.2.1.2.1 = Ms → anK pg w R (sf3 C Ms n b w R).1 (sf3 C Ms n b w R).2
  | 0, _, _, _, h1, h2, h3, h4, _ => anK_re h1 h2 h3 h4
  | n + 1, b, w, R, h1, h2, h3, h4, hs => by
    cases b with
    | false => rw [sf3_f]; exact anK_re h1 h2 h3 h4
    | true =>
      rw [sf3_t]
      have k := spG_keep (C := C) (b := false) h1 h2 h3 h4 (l := Ms) (fun y hy => by rw [hs]; exact hy)
      exact anK_tr k (sf3_keep k.2.1 k.2.2.1 k.2.2.2.1 k.2.2.2.2.1 (by rw [k.2.2.2.2.2]; exact hs))
section CAN2
variable {G : zG} {d : Nat} {w : zW} {pg : Nat} {R : pgR} {Q : zQ}
theorem c_an2 {Ms : List Nat} {av : List zV} {w0 : zW} (hlen : Ms.length < 1000) {t tc tn th tz : Nat} {ty : Int} {C N H : List (List Int)} {S : List Int} (hT : tmW w t tc tn th tz ty C N H S) (hC10 : C.length < 1000) : ∀ (n q : Nat) (b : Bool) (w1 : zW) (R1 : pgR), q + n = Ms.length + 1 → pgW w1 pg R1 → pgO R1 → pgN R1 → pgL R1 → R1.2.2.1.2.1 = Ms → zFr T5 w w1 → (∀ x y : zV, zX G zm_X7_analyse (d + 10) av w0 Q 112 [some (zR pg), some (zR t), some x, some y] [] (sf2 Ms n b w1 R1).1) → zX G zm_X7_analyse (d + 10) av w0 Q 86 [some (zR pg), some (zR t), some (zI (zB (b = true))), some (zI (q : Int))] [] w1 := by
  intro n
  induction n with
  | zero =>
    intro q b w1 R1 hq hP1 hO1 hN1 hL1 hMs hF1 kk
    obtain ⟨hpg1, -, hms1, -⟩ := id hP1
    rw [hMs] at hms1
    refine zx_iload_n (i := 3) dX7_analyse_86 rfl rfl ?_
    refine zx_aload_n (i := 0) dX7_analyse_87 rfl rfl ?_
    refine zx_getfield dX7_analyse_88 zf_X7_18 hpg1 rfl ?_
    refine zx_iv (b := R1.1.2.1) (As := []) (st := [zI (q : Int)]) (v := (some (zI (Ms.length : Int)))) (w1 := w1) dX7_analyse_91 zc_X7_24 hms1 (z_cls12 (by decide)) rfl rfl (Nat.le_of_ble_eq_true rfl) rfl (c_list_size hms1 (by decide)) ?_
    refine zx_st (st1 := [zI (Ms.length : Int), zI (q : Int)]) rfl ?_
    refine zx_icmp_gt (tgt := 112) dX7_analyse_94 (by decide) (fun h94 => ?_) (fun h94 => absurd (by omega) h94)
    exact kk _ _
  | succ n ih =>
    intro q b w1 R1 hq hP1 hO1 hN1 hL1 hMs hF1 kk
    obtain ⟨hpg1, -, hms1, -⟩ := id hP1
    rw [hMs] at hms1
    cases b with
    | true =>
      refine zx_iload_n (i := 3) dX7_analyse_86 rfl rfl ?_
      refine zx_aload_n (i := 0) dX7_analyse_87 rfl rfl ?_
      refine zx_getfield dX7_analyse_88 zf_X7_18 hpg1 rfl ?_
      refine zx_iv (b := R1.1.2.1) (As := []) (st := [zI (q : Int)]) (v := (some (zI (Ms.length : Int)))) (w1 := w1) dX7_analyse_91 zc_X7_24 hms1 (z_cls12 (by decide)) rfl rfl (Nat.le_of_ble_eq_true rfl) rfl (c_list_size hms1 (by decide)) ?_
      refine zx_st (st1 := [zI (Ms.length : Int), zI (q : Int)]) rfl ?_
      refine zx_icmp_gt (tgt := 112) dX7_analyse_94 (by decide) (fun h94 => absurd h94 (by omega)) (fun h94 => ?_)
      refine zx_iload_n (i := 2) dX7_analyse_97 rfl rfl ?_
      refine zx_if_eq (tgt := 112) dX7_analyse_98 (by decide) (fun h98 => absurd h98 (by rw [zB_t rfl]; decide)) (fun h98 => ?_)
      refine zx_aload_n (i := 0) dX7_analyse_101 rfl rfl ?_
      refine zx_iv (b := pg) (As := []) (st := []) (v := (some (zI (zB ((spF Ms false w1 R1).1 = true))))) (w1 := (spF Ms false w1 R1).2.1) dX7_analyse_102 zc_X7_94 hpg1 rfl rfl rfl (Nat.le_of_ble_eq_true rfl) rfl (c_X7_spreadFaults (d := d + 3) hP1 hO1 hN1 hMs hlen) ?_
      refine zx_st (st1 := [zI (zB ((spF Ms false w1 R1).1 = true))]) rfl ?_
      refine zx_istore_n (i := 2) dX7_analyse_105 rfl (by decide) rfl ?_
      refine zx_L (L1 := [some (zR pg), some (zR t), some (zI (zB ((spF Ms false w1 R1).1 = true))), some (zI (q : Int))]) rfl ?_
      refine zx_iinc (i := 3) (v := ((q + 1 : Nat) : Int)) dX7_analyse_106 rfl (zw_eq (by omega) (by omega) (by omega)) (by decide) rfl ?_
      refine zx_L (L1 := [some (zR pg), some (zR t), some (zI (zB ((spF Ms false w1 R1).1 = true))), some (zI ((q + 1 : Nat) : Int))]) rfl ?_
      refine zx_pc (pc1 := 109) rfl ?_
      refine zx_goto (tgt := 86) dX7_analyse_109 (by decide) ?_
      have k := spF_keep (b := false) hP1 hO1 hN1 hL1 (l := Ms) (fun y hy => by rw [hMs]; exact hy)
      rw [sf2_t] at kk
      exact ih (q + 1) _ _ _ (by omega) k.2.1 k.2.2.1 k.2.2.2.1 k.2.2.2.2.1 (by rw [k.2.2.2.2.2]; exact hMs) (zFr_tr hF1 k.1) kk
    | false =>
      refine zx_iload_n (i := 3) dX7_analyse_86 rfl rfl ?_
      refine zx_aload_n (i := 0) dX7_analyse_87 rfl rfl ?_
      refine zx_getfield dX7_analyse_88 zf_X7_18 hpg1 rfl ?_
      refine zx_iv (b := R1.1.2.1) (As := []) (st := [zI (q : Int)]) (v := (some (zI (Ms.length : Int)))) (w1 := w1) dX7_analyse_91 zc_X7_24 hms1 (z_cls12 (by decide)) rfl rfl (Nat.le_of_ble_eq_true rfl) rfl (c_list_size hms1 (by decide)) ?_
      refine zx_st (st1 := [zI (Ms.length : Int), zI (q : Int)]) rfl ?_
      refine zx_icmp_gt (tgt := 112) dX7_analyse_94 (by decide) (fun h94 => absurd h94 (by omega)) (fun h94 => ?_)
      refine zx_iload_n (i := 2) dX7_analyse_97 rfl rfl ?_
      refine zx_if_eq (tgt := 112) dX7_analyse_98 (by decide) (fun h98 => ?_) (fun h98 => absurd (zB_f (by simp)) h98)
      rw [sf2_f] at kk
      exact kk _ _
theorem c_an3 {Ms : List Nat} {av : List zV} {w0 : zW} (hlen : Ms.length < 1000) {t tc tn th tz : Nat} {ty : Int} {C N H : List (List Int)} {S : List Int} (hT : tmW w t tc tn th tz ty C N H S) (hC10 : C.length < 1000) : ∀ (n q : Nat) (b : Bool) (w1 : zW) (R1 : pgR), q + n = 2 * Ms.length + 1 → pgW w1 pg R1 → pgO R1 → pgN R1 → pgL R1 → R1.2.2.1.2.1 = Ms → zFr T5 w w1 → (∀ x y : zV, zX G zm_X7_analyse (d + 10) av w0 Q 145 [some (zR pg), some (zR t), some x, some y] [] (sf3 C Ms n b w1 R1).1) → zX G zm_X7_analyse (d + 10) av w0 Q 116 [some (zR pg), some (zR t), some (zI (zB (b = true))), some (zI (q : Int))] [] w1 := by
  intro n
  induction n with
  | zero =>
    intro q b w1 R1 hq hP1 hO1 hN1 hL1 hMs hF1 kk
    obtain ⟨hpg1, -, hms1, -⟩ := id hP1
    rw [hMs] at hms1
    refine zx_iload_n (i := 3) dX7_analyse_116 rfl rfl ?_
    refine zx_iconst (v := 2) dX7_analyse_117 rfl (z32_lit (by decide) (by decide)) ?_
    refine zx_aload_n (i := 0) dX7_analyse_118 rfl rfl ?_
    refine zx_getfield dX7_analyse_119 zf_X7_18 hpg1 rfl ?_
    refine zx_iv (b := R1.1.2.1) (As := []) (st := [zI 2, zI (q : Int)]) (v := (some (zI (Ms.length : Int)))) (w1 := w1) dX7_analyse_122 zc_X7_24 hms1 (z_cls12 (by decide)) rfl rfl (Nat.le_of_ble_eq_true rfl) rfl (c_list_size hms1 (by decide)) ?_
    refine zx_st (st1 := [zI (Ms.length : Int), zI 2, zI (q : Int)]) rfl ?_
    refine zx_imul (v := 2 * (Ms.length : Int)) dX7_analyse_125 (zw_id ⟨by omega, by omega⟩) ?_
    refine zx_icmp_gt (tgt := 145) dX7_analyse_126 (by decide) (fun h126 => ?_) (fun h126 => absurd (by omega) h126)
    exact kk _ _
  | succ n ih =>
    intro q b w1 R1 hq hP1 hO1 hN1 hL1 hMs hF1 kk
    obtain ⟨hpg1, -, hms1, -⟩ := id hP1
    rw [hMs] at hms1
    cases b with
    | true =>
      refine zx_iload_n (i := 3) dX7_analyse_116 rfl rfl ?_
      refine zx_iconst (v := 2) dX7_analyse_117 rfl (z32_lit (by decide) (by decide)) ?_
      refine zx_aload_n (i := 0) dX7_analyse_118 rfl rfl ?_
      refine zx_getfield dX7_analyse_119 zf_X7_18 hpg1 rfl ?_
      refine zx_iv (b := R1.1.2.1) (As := []) (st := [zI 2, zI (q : Int)]) (v := (some (zI (Ms.length : Int)))) (w1 := w1) dX7_analyse_122 zc_X7_24 hms1 (z_cls12 (by decide)) rfl rfl (Nat.le_of_ble_eq_true rfl) rfl (c_list_size hms1 (by decide)) ?_
      refine zx_st (st1 := [zI (Ms.length : Int), zI 2, zI (q : Int)]) rfl ?_
      refine zx_imul (v := 2 * (Ms.length : Int)) dX7_analyse_125 (zw_id ⟨by omega, by omega⟩) ?_
      refine zx_icmp_gt (tgt := 145) dX7_analyse_126 (by decide) (fun h126 => absurd h126 (by omega)) (fun h126 => ?_)
      refine zx_iload_n (i := 2) dX7_analyse_129 rfl rfl ?_
      refine zx_if_eq (tgt := 145) dX7_analyse_130 (by decide) (fun h130 => absurd h130 (by rw [zB_t rfl]; decide)) (fun h130 => ?_)
      refine zx_aload_n (i := 0) dX7_analyse_133 rfl rfl ?_
      refine zx_aload_n (i := 1) dX7_analyse_134 rfl rfl ?_
      refine zx_pc (pc1 := 135) rfl ?_
      refine zx_iv (b := pg) (As := [zR t]) (st := []) (v := (some (zI (zB ((spG C Ms false w1 R1).1 = true))))) (w1 := (spG C Ms false w1 R1).2.1) dX7_analyse_135 zc_X7_98 hpg1 rfl rfl rfl (Nat.le_of_ble_eq_true rfl) rfl (c_X7_spreadFound (d := d + 2) hP1 hO1 hN1 hMs hlen (tmW_zFr hT hF1) hC10) ?_
      refine zx_st (st1 := [zI (zB ((spG C Ms false w1 R1).1 = true))]) rfl ?_
      refine zx_istore_n (i := 2) dX7_analyse_138 rfl (by decide) rfl ?_
      refine zx_L (L1 := [some (zR pg), some (zR t), some (zI (zB ((spG C Ms false w1 R1).1 = true))), some (zI (q : Int))]) rfl ?_
      refine zx_iinc (i := 3) (v := ((q + 1 : Nat) : Int)) dX7_analyse_139 rfl (zw_eq (by omega) (by omega) (by omega)) (by decide) rfl ?_
      refine zx_L (L1 := [some (zR pg), some (zR t), some (zI (zB ((spG C Ms false w1 R1).1 = true))), some (zI ((q + 1 : Nat) : Int))]) rfl ?_
      refine zx_goto (tgt := 116) dX7_analyse_142 (by decide) ?_
      have k := spG_keep (C := C) (b := false) hP1 hO1 hN1 hL1 (l := Ms) (fun y hy => by rw [hMs]; exact hy)
      rw [sf3_t] at kk
      exact ih (q + 1) _ _ _ (by omega) k.2.1 k.2.2.1 k.2.2.2.1 k.2.2.2.2.1 (by rw [k.2.2.2.2.2]; exact hMs) (zFr_tr hF1 k.1) kk
    | false =>
      refine zx_iload_n (i := 3) dX7_analyse_116 rfl rfl ?_
      refine zx_iconst (v := 2) dX7_analyse_117 rfl (z32_lit (by decide) (by decide)) ?_
      refine zx_aload_n (i := 0) dX7_analyse_118 rfl rfl ?_
      refine zx_getfield dX7_analyse_119 zf_X7_18 hpg1 rfl ?_
      refine zx_iv (b := R1.1.2.1) (As := []) (st := [zI 2, zI (q : Int)]) (v := (some (zI (Ms.length : Int)))) (w1 := w1) dX7_analyse_122 zc_X7_24 hms1 (z_cls12 (by decide)) rfl rfl (Nat.le_of_ble_eq_true rfl) rfl (c_list_size hms1 (by decide)) ?_
      refine zx_st (st1 := [zI (Ms.length : Int), zI 2, zI (q : Int)]) rfl ?_
      refine zx_imul (v := 2 * (Ms.length : Int)) dX7_analyse_125 (zw_id ⟨by omega, by omega⟩) ?_
      refine zx_icmp_gt (tgt := 145) dX7_analyse_126 (by decide) (fun h126 => absurd h126 (by omega)) (fun h126 => ?_)
      refine zx_iload_n (i := 2) dX7_analyse_129 rfl rfl ?_
      refine zx_if_eq (tgt := 145) dX7_analyse_130 (by decide) (fun h130 => ?_) (fun h130 => absurd (zB_f (by simp)) h130)
      rw [sf3_f] at kk
      exact kk _ _
def anW (C : List (List Int)) (Ms : List Nat) (w : zW) (R : pgR) : zW × pgR := sf3 C Ms (2 * Ms.length + 1) true (sf2 Ms (Ms.length + 1) true (an1 Ms w R).1 (an1 Ms w R).2).1 (sf2 Ms (Ms.length + 1) true (an1 Ms w R).1 (an1 Ms w R).2).2
theorem c_X7_analyse {Ms : List Nat} (hP : pgW w pg R) (hO : pgO R) (hN : pgN R) (hL : pgL R) (hMs : R.2.2.1.2.1 = Ms) (hlen : Ms.length < 1000) {t tc tn th tz : Nat} {ty : Int} {C N H : List (List Int)} {S : List Int} (hT : tmW w t tc tn th tz ty C N H S) (hC10 : C.length < 1000) : zM G zm_X7_analyse (d + 10) [zR pg, zR t] w (zRet none (anW C Ms w R).1) := by
  refine zx_ent (by decide +kernel) rfl (Nat.le_of_ble_eq_true rfl) ?_
  have k1 := an1_keep (l := Ms) hP hO hN hL (fun y hy => by rw [hMs]; exact hy)
  have k2 := sf2_keep (Ms := Ms) (n := Ms.length + 1) (b := true) k1.2.1 k1.2.2.1 k1.2.2.2.1 k1.2.2.2.2.1 (by rw [k1.2.2.2.2.2]; exact hMs)
  refine zx_L (L1 := [some (zR pg), some (zR t), none, none]) rfl ?_
  refine zx_iconst (v := 0) dX7_analyse_0 rfl (z32_lit (by decide) (by decide)) ?_
  refine zx_istore_n (i := 2) dX7_analyse_1 rfl (by decide) rfl ?_
  refine zx_L (L1 := [some (zR pg), some (zR t), some (zI 0), none]) rfl ?_
  refine c_an1 (d := d) hlen Ms.length 0 none w R (by omega) hP hO hN hL hMs (fun x o3 => ?_)
  rw [List.drop_zero]
  refine zx_iconst (v := 1) dX7_analyse_82 rfl (z32_lit (by decide) (by decide)) ?_
  refine zx_istore_n (i := 2) dX7_analyse_83 rfl (by decide) rfl ?_
  refine zx_L (L1 := [some (zR pg), some (zR t), some (zI 1), o3]) rfl ?_
  refine zx_iconst (v := 0) dX7_analyse_84 rfl (z32_lit (by decide) (by decide)) ?_
  refine zx_istore_n (i := 3) dX7_analyse_85 rfl (by decide) rfl ?_
  refine zx_L (L1 := [some (zR pg), some (zR t), some (zI 1), some (zI 0)]) rfl ?_
  refine c_an2 (d := d) hlen hT hC10 (Ms.length + 1) 0 true (an1 Ms w R).1 (an1 Ms w R).2 (by omega) k1.2.1 k1.2.2.1 k1.2.2.2.1 k1.2.2.2.2.1 (by rw [k1.2.2.2.2.2]; exact hMs) k1.1 (fun x2 y2 => ?_)
  refine zx_iconst (v := 1) dX7_analyse_112 rfl (z32_lit (by decide) (by decide)) ?_
  refine zx_istore_n (i := 2) dX7_analyse_113 rfl (by decide) rfl ?_
  refine zx_L (L1 := [some (zR pg), some (zR t), some (zI 1), some y2]) rfl ?_
  refine zx_iconst (v := 0) dX7_analyse_114 rfl (z32_lit (by decide) (by decide)) ?_
  refine zx_istore_n (i := 3) dX7_analyse_115 rfl (by decide) rfl ?_
  refine zx_L (L1 := [some (zR pg), some (zR t), some (zI 1), some (zI 0)]) rfl ?_
  refine c_an3 (d := d) hlen hT hC10 (2 * Ms.length + 1) 0 true (sf2 Ms (Ms.length + 1) true (an1 Ms w R).1 (an1 Ms w R).2).1 (sf2 Ms (Ms.length + 1) true (an1 Ms w R).1 (an1 Ms w R).2).2 (by omega) k2.2.1 k2.2.2.1 k2.2.2.2.1 k2.2.2.2.2.1 (by rw [k2.2.2.2.2.2, k1.2.2.2.2.2]; exact hMs) (zFr_tr k1.1 k2.1) (fun x3 y3 => ?_)
  refine zx_return dX7_analyse_145 rfl ?_
  exact zr_n rfl
end CAN2
