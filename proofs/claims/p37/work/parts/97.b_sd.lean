/-! Own rows: breadth's scan, whole. By hand (printed by wip/p37/m_bsd.py). -/
theorem mkV_s {g rd n z : Nat} {mk : Nat → Int} {v : Int} : mkV g rd (fun m => if m = n then v else mk m) z = if z < g then 1 else max ((if z = n then v else mk z) - 3 * (rd : Int)) (-1) := rfl
section BSD
variable {G : zG} {d : Nat} {w w0 : zW} {b1 b2 g rd st0 : Nat} {br pg t nd va ce li ro bi le wk : Nat} {cN cV cC cL cR cB cE cW : Nat} {NN VV CC LL RR BB EE WW : List (List Int)} {fr tk rs : Int} {tc tn th tz : Nat} {ty : Int} {TN TH : List (List Int)} {TS : List Int} {N : bNT} {bd : bBD} {mk : Nat → Int} {PQ : zV → zW → Prop}
theorem sc_down (hk : bWk N g bd) (hgt : ∀ n, n < g → bhd N n ≠ none) (hp : ∀ n, bhd N n = some 1 → bfs N n < n) (hcc : ∀ n c, bhd N n = some c → c < 3) (hN : N.length ≤ 4000) (hrd : rd < 1000000) (hG1 : b1 + 1800000 ≤ 30 * G.2.2.2.2.1) (hG2 : b2 + 3700000 ≤ G.2.2.2.2.2) :
    ∀ (c n q cW1 : Nat) (W0 NN1 : List (List Int)) (mk1 : Nat → Int) (o3 o4 o5 o6 o7 o8 : Option zV) (w1 : zW), n < N.length → bd n = none → (∃ k e, bend N bd k n = some e ∧ e.1 = c) → mkI N bd rd mk1 c → W0.length + c < 5000 → q + 3 * (c + 1) ≤ 800000 →
      tmW w1 t tc tn th tz ty C3 TN TH TS → bbW w1 b1 b2 ((br, pg, t), (nd, va, ce, li), (ro, bi, le, wk)) (((cN, NN1), (cV, VV), (cC, CC), (cL, LL)), ((cR, RR), (cB, BB), (cE, EE), (cW1, (W0 ++ [[(n : Int), 0, 1]]))), ((g : Int), fr, tk, rs, (rd : Int))) → ndM NN1 N bd mk1 →
      (∀ (q2 cW2 : Nat) (NN2 : List (List Int)) (mk2 : Nat → Int) (o3 o4 o5 o6 o7 o8 : Option zV) (w2 : zW), q2 ≤ q + 3 * (c + 1) → bbW w2 b1 b2 ((br, pg, t), (nd, va, ce, li), (ro, bi, le, wk)) (((cN, NN2), (cV, VV), (cC, CC), (cL, LL)), ((cR, RR), (cB, BB), (cE, EE), (cW2, W0)), ((g : Int), fr, tk, rs, (rd : Int))) → ndM NN2 N bd mk2 → mkX N bd rd mk1 mk2 → okM N bd rd (mk2 n) n → zFr TB w1 w2 → zX G zm_X0_scan (d + 3) [zR br, zI (st0 : Int)] w0 (zVal PQ) 21 [some (zR br), some (zI (st0 : Int)), some (zI ((q2 : Nat) : Int)), o3, o4, o5, o6, o7, o8] [] w2) →
      zX G zm_X0_scan (d + 3) [zR br, zI (st0 : Int)] w0 (zVal PQ) 21 [some (zR br), some (zI (st0 : Int)), some (zI ((q : Nat) : Int)), o3, o4, o5, o6, o7, o8] [] w1 := by
  intro c
  induction c with
  | zero =>
    intro n q cW1 W0 NN1 mk1 o3 o4 o5 o6 o7 o8 w1 hn h0 hc hI hl hq hT hB hM k
    obtain ⟨k0, e, h1, h2⟩ := hc
    have hne : bhd N n ≠ some 1 := fun hh => by
      cases k0 with
      | zero => cases h1
      | succ k0 =>
        rw [bend_built h0 hh] at h1
        obtain ⟨e', -, q2⟩ := Option.map_eq_some_iff.mp h1
        rw [← q2] at h2
        have h2 : e'.1 + 1 = 0 := h2
        omega
    have fin : ∀ (v : Int) (w' : zW) (o3 o4 o5 o6 o7 o8 : Option zV), okM N bd rd (3 * (rd : Int) + v) n → bbW w' b1 b2 ((br, pg, t), (nd, va, ce, li), (ro, bi, le, wk)) (((cN, (ts NN1 (n : Int) 4 (3 * (rd : Int) + v))), (cV, VV), (cC, CC), (cL, LL)), ((cR, RR), (cB, BB), (cE, EE), (cW1, W0)), ((g : Int), fr, tk, rs, (rd : Int))) → zFr TB w1 w' → zX G zm_X0_scan (d + 3) [zR br, zI (st0 : Int)] w0 (zVal PQ) 21 [some (zR br), some (zI (st0 : Int)), some (zI ((q + 1 : Nat) : Int)), o3, o4, o5, o6, o7, o8] [] w' := fun v w' o3 o4 o5 o6 o7 o8 hv hB' hF' => by
      refine k (q + 1) cW1 _ (fun m => if m = n then 3 * (rd : Int) + v else mk1 m) o3 o4 o5 o6 o7 o8 w' (by omega) hB' (ndM_m hM n _) (fun m hm => ?_) (by show okM N bd rd (if n = n then _ else _) n; rw [if_pos rfl]; exact hv) hF'
      show (if m = n then 3 * (rd : Int) + v else mk1 m) = mk1 m ∨ okM N bd rd (if m = n then 3 * (rd : Int) + v else mk1 m) m
      by_cases cm : m = n
      · rw [if_pos cm, cm]
        exact Or.inr hv
      · rw [if_neg cm]
        exact Or.inl rfl
    by_cases hu : bhd N n = none
    · exact sc_pop2 hB hG1 hG2 hT hM hn hrd (by omega) (by omega) hu (fun o3 o4 o5 o6 o7 o8 w' hB' hF' => fin 2 w' o3 o4 o5 o6 o7 o8 (Or.inr ⟨rfl, 1, (0, n), bend_last h0 hne, hu⟩) hB' hF')
    · obtain ⟨c1, hc1⟩ := Option.ne_none_iff_exists'.mp hu
      exact sc_pop1 hB hG1 hG2 hT hM hn hrd (by omega) (by omega) hc1 ⟨hcc n c1 hc1, fun q => hne (by rw [hc1, q])⟩ (fun o3 o4 o5 o6 o7 o8 w' hB' hF' => fin 1 w' o3 o4 o5 o6 o7 o8 (Or.inl ⟨rfl, 1, (0, n), bend_last h0 hne, hu⟩) hB' hF')
  | succ c ih =>
    intro n q cW1 W0 NN1 mk1 o3 o4 o5 o6 o7 o8 w1 hn h0 hc hI hl hq hT hB hM k
    have hh : bhd N n = some 1 := by
      obtain ⟨k0, e, h1, h2⟩ := hc
      cases k0 with
      | zero => cases h1
      | succ k0 =>
        by_cases hh : bhd N n = some 1
        · exact hh
        · rw [bend_last h0 hh] at h1
          cases h1
          cases h2
    have hx : bfs N n < N.length := by have := hp n hh; omega
    obtain ⟨z, hz⟩ := hk.1 (bfs N n)
    have hzN := bRp_lt hk hx hz
    obtain ⟨⟨kz, hzt⟩, hz0⟩ := hz
    have hzc : ∃ k e, bend N bd k z = some e ∧ e.1 = c := by
      have a1 := (bend_b (P := fun e => e.1 = c + 1) h0 hh).mp hc
      have a2 := (bend_t (P := fun e => e.1 + 1 = c + 1) kz (bfs N n) hzt).mp a1
      obtain ⟨k1, e, a3, a4⟩ := a2
      exact ⟨k1, e, a3, by omega⟩
    have hzn : z ≠ n := fun q => by
      obtain ⟨k1, e1, a1, a2⟩ := hzc
      obtain ⟨k2, e2, a3, a4⟩ := hc
      rw [q] at a1
      have := bend_one a1 a3
      rw [this, a4] at a2
      omega
    have hgz : (gnd N bd z → gnd N bd n) ∧ (unk N bd z → unk N bd n) := by
      obtain ⟨a1, a2⟩ := gnd_b (bd := bd) h0 hh
      obtain ⟨a3, a4⟩ := gnd_t (N := N) hzt
      exact ⟨fun q => a1.mpr (a3.mpr q), fun q => a2.mpr (a4.mpr q)⟩
    -- the child is marked
    have tail : ∀ (q1 cW2 : Nat) (v : Int) (NN2 : List (List Int)) (mk2 : Nat → Int) (o3 o4 o5 o6 o7 o8 : Option zV) (w2 : zW), q1 + 2 ≤ q + 3 * (c + 1 + 1) → bbW w2 b1 b2 ((br, pg, t), (nd, va, ce, li), (ro, bi, le, wk)) (((cN, NN2), (cV, VV), (cC, CC), (cL, LL)), ((cR, RR), (cB, BB), (cE, EE), (cW2, (W0 ++ [[(n : Int), 0, 1]]))), ((g : Int), fr, tk, rs, (rd : Int))) → ndM NN2 N bd mk2 → (∀ m, m < N.length → m ≠ n → mk2 m = mk1 m ∨ okM N bd rd (mk2 m) m) → (-1 ≤ mk2 z ∧ mk2 z < 3 * (rd : Int) + 3) → mkV g rd mk2 z = v → (v = 1 ∧ gnd N bd z ∨ v = 2 ∧ unk N bd z) → zFr TB w1 w2 → zX G zm_X0_scan (d + 3) [zR br, zI (st0 : Int)] w0 (zVal PQ) 21 [some (zR br), some (zI (st0 : Int)), some (zI ((q1 : Nat) : Int)), o3, o4, o5, o6, o7, o8] [] w2 := by
      intro q1 cW2 v NN2 mk2 o3 o4 o5 o6 o7 o8 w2 hq1 hB2 hM2 hX2 hmz hv hvg hF2
      have ev : mkV g rd (fun m => if m = n then 3 * (rd : Int) + 0 else mk2 m) z = v := by
        rw [← hv, mkV_s, if_neg hzn]
        rfl
      refine sc_set hB2 hG1 hG2 (tmW_TB hT hF2) hM2 hn hrd (by omega) (by omega) hk hh (by omega) hx ⟨⟨kz, hzt⟩, hz0⟩ (by rw [if_neg hzn]; exact hmz) ev (by omega) (fun o3 o4 o5 o6 o7 o8 w3 hB3 hF3 => ?_)
      refine sc_popv hB3 hG1 hG2 (tmW_TB hT (zFr_tr hF2 hF3)) (ndM_m hM2 n _) hn hrd (by omega) (by omega) hh (by omega) (fun o3 o4 o5 o6 o7 o8 w4 hB4 hF4 => ?_)
      have hok : okM N bd rd (3 * (rd : Int) + v) n := by
        rcases hvg with ⟨a, b⟩ | ⟨a, b⟩
        · exact Or.inl ⟨by rw [a], hgz.1 b⟩
        · exact Or.inr ⟨by rw [a], hgz.2 b⟩
      refine k (q1 + 1 + 1) cW2 _ _ o3 o4 o5 o6 o7 o8 w4 (by omega) hB4 (ndM_m (ndM_m hM2 n _) n _) (fun m hm => ?_) (by show okM N bd rd (if n = n then _ else _) n; rw [if_pos rfl]; exact hok) (zFr_tr hF2 (zFr_tr hF3 hF4))
      show (if m = n then 3 * (rd : Int) + v else if m = n then _ else mk2 m) = mk1 m ∨ okM N bd rd (if m = n then 3 * (rd : Int) + v else if m = n then _ else mk2 m) m
      by_cases cm : m = n
      · rw [if_pos cm, cm]
        exact Or.inr hok
      · rw [if_neg cm, if_neg cm]
        exact hX2 m hm cm
    have hterm := gnd_lt hk hgt hp
    obtain ⟨i1, i2⟩ := hI z hzN
    have bd3 : ∀ m v, okM N bd rd v m → v < 3 * (rd : Int) + 3 := fun m v h => by rcases h with ⟨a, -⟩ | ⟨a, -⟩ <;> omega
    by_cases cg : z < g
    · refine tail q cW1 1 NN1 mk1 o3 o4 o5 o6 o7 o8 w1 (by omega) hB hM (fun m hm _ => Or.inl rfl) ⟨i1, ?_⟩ (by unfold mkV; rw [if_pos cg]) (Or.inl ⟨rfl, hterm z cg⟩) zFr_re
      rcases i2 with a | a | ⟨a, -⟩
      · omega
      · exact bd3 _ _ a
      · omega
    rcases i2 with a | a | ⟨a, k1, e1, a1, a2⟩
    · have hmv : mkV g rd (fun m => if m = n then 3 * (rd : Int) + 0 else mk1 m) z = -1 := by
        rw [mkV_s, if_neg cg, if_neg hzn]
        omega
      refine sc_push hB hG1 hG2 hT hM hn hrd (by omega) (by omega) hk hh (by omega) hx ⟨⟨kz, hzt⟩, hz0⟩ (by rw [if_neg hzn]; exact ⟨i1, by omega⟩) hmv (fun o3 o4 o5 o6 o7 o8 w2 hB2 hF2 => ?_)
      refine ih z (q + 1) _ (W0 ++ [[(n : Int), 0, 1]]) _ _ o3 o4 o5 o6 o7 o8 w2 hzN hz0 hzc (fun m hm => ?_) (by rw [List.length_append, List.length_singleton]; omega) (by omega) (tmW_TB hT hF2) hB2 (ndM_m hM n _) (fun q2 cW2 NN2 mk2 o3 o4 o5 o6 o7 o8 w3 hq2 hB3 hM3 hX3 hok3 hF3 => ?_)
      · show -1 ≤ (if m = n then 3 * (rd : Int) + 0 else mk1 m) ∧ _
        by_cases cm : m = n
        · rw [if_pos cm]
          refine ⟨by omega, Or.inr (Or.inr ⟨by omega, ?_⟩)⟩
          obtain ⟨k2, e2, a3, a4⟩ := hc
          rw [cm]
          exact ⟨k2, e2, a3, by omega⟩
        · rw [if_neg cm]
          obtain ⟨j1, j2⟩ := hI m hm
          refine ⟨j1, ?_⟩
          rcases j2 with b | b | ⟨b, k2, e2, b1, b2⟩
          · exact Or.inl b
          · exact Or.inr (Or.inl b)
          · exact Or.inr (Or.inr ⟨b, k2, e2, b1, by omega⟩)
      · obtain ⟨v, hv1, hv2⟩ := okM_v (g := g) (mk := mk2) hok3 (fun q => hterm z q)
        refine tail q2 cW2 v NN2 mk2 o3 o4 o5 o6 o7 o8 w3 (by omega) hB3 hM3 (fun m hm cm => ?_) ⟨?_, bd3 _ _ hok3⟩ hv2 hv1 (zFr_tr hF2 hF3)
        · have q := hX3 m hm
          simp only [if_neg cm] at q
          exact q
        · rcases hok3 with ⟨a, -⟩ | ⟨a, -⟩ <;> omega
    · obtain ⟨v, hv1, hv2⟩ := okM_v (g := g) (mk := mk1) a (fun q => hterm z q)
      exact tail q cW1 v NN1 mk1 o3 o4 o5 o6 o7 o8 w1 (by omega) hB hM (fun m hm _ => Or.inl rfl) ⟨i1, bd3 _ _ a⟩ hv2 hv1 zFr_re
    · exfalso
      obtain ⟨k2, e2, a3, a4⟩ := hzc
      have := bend_one a1 a3
      rw [this] at a2
      omega
theorem sc_inf (hk : bWk N g bd) (hgt : ∀ n, n < g → bhd N n ≠ none) (hp : ∀ n, bhd N n = some 1 → bfs N n < n) (hN : N.length ≤ 4000) (hrd : rd < 1000000) (hG1 : b1 + 1800000 ≤ 30 * G.2.2.2.2.1) (hG2 : b2 + 3700000 ≤ G.2.2.2.2.2)
    (kF : ∀ (cW2 : Nat) (NN2 WW2 : List (List Int)) (mk2 : Nat → Int) (w2 : zW), bbW w2 b1 b2 ((br, pg, t), (nd, va, ce, li), (ro, bi, le, wk)) (((cN, NN2), (cV, VV), (cC, CC), (cL, LL)), ((cR, RR), (cB, BB), (cE, EE), (cW2, WW2)), ((g : Int), fr, tk, rs, (rd : Int))) → ndM NN2 N bd mk2 → (∀ m, m < N.length → -1 ≤ mk2 m ∧ mk2 m < 3 * (rd : Int) + 3) → zFr TB w w2 → PQ (zI 0) w2) :
    ∀ (m0 n q cW1 : Nat) (st : List Nat) (NN1 : List (List Int)) (mk1 : Nat → Int) (o3 o4 o5 o6 o7 o8 : Option zV) (w1 : zW), n < N.length → bd n = none → ¬ bFin N bd n → st.Nodup → n ∉ st → (∀ a, a ∈ st → a < N.length) → (∀ m, m < N.length → -1 ≤ mk1 m ∧ ((m ∈ st ∧ mk1 m = 3 * (rd : Int)) ∨ (m ∉ st ∧ mk1 m < 3 * (rd : Int)))) → st.length + m0 = N.length → q + m0 ≤ 800000 →
      tmW w1 t tc tn th tz ty C3 TN TH TS → bbW w1 b1 b2 ((br, pg, t), (nd, va, ce, li), (ro, bi, le, wk)) (((cN, NN1), (cV, VV), (cC, CC), (cL, LL)), ((cR, RR), (cB, BB), (cE, EE), (cW1, ((st.map fun (a : Nat) => [(a : Int), 0, 1]) ++ [[(n : Int), 0, 1]]))), ((g : Int), fr, tk, rs, (rd : Int))) → ndM NN1 N bd mk1 → zFr TB w w1 →
      zX G zm_X0_scan (d + 3) [zR br, zI (st0 : Int)] w0 (zVal PQ) 21 [some (zR br), some (zI (st0 : Int)), some (zI ((q : Nat) : Int)), o3, o4, o5, o6, o7, o8] [] w1 := by
  intro m0
  induction m0 with
  | zero =>
    intro n q cW1 st NN1 mk1 o3 o4 o5 o6 o7 o8 w1 hn h0 hf hd hns hlt hI hl
    have q := nd_le N.length (n :: st) (List.nodup_cons.mpr ⟨hns, hd⟩) (fun a ha => by
      rcases List.mem_cons.mp ha with e | e
      · rw [e]; exact hn
      · exact hlt a e)
    rw [List.length_cons] at q
    omega
  | succ m0 ih =>
    intro n q cW1 st NN1 mk1 o3 o4 o5 o6 o7 o8 w1 hn h0 hf hd hns hlt hI hl hq hT hB hM hF
    have hh : bhd N n = some 1 := by
      by_cases hh : bhd N n = some 1
      · exact hh
      · exact absurd ⟨1, (0, n), bend_last h0 hh⟩ hf
    have hx : bfs N n < N.length := by have := hp n hh; omega
    obtain ⟨z, hz⟩ := hk.1 (bfs N n)
    have hzN := bRp_lt hk hx hz
    have hzf : ¬ bFin N bd z := fun q => by
      obtain ⟨⟨kz, hzt⟩, -⟩ := hz
      exact hf ((bFin_one h0 hh).mpr ((bFin_t kz _ _ hzt).mpr q))
    have cg : ¬ z < g := fun q => hzf (gnd_fin (gnd_lt hk hgt hp z q))
    have hWl : (st.map fun (a : Nat) => [(a : Int), 0, 1]).length = st.length := List.length_map _
    have hb3 : -1 ≤ (if z = n then 3 * (rd : Int) else mk1 z) ∧ (if z = n then 3 * (rd : Int) else mk1 z) < 3 * (rd : Int) + 3 := by
      by_cases c : z = n
      · rw [if_pos c]; omega
      · rw [if_neg c]
        obtain ⟨j1, j2⟩ := hI z hzN
        omega
    have hM1 := ndM_m hM n (3 * (rd : Int) + 0)
    by_cases c : z = n ∨ z ∈ st
    · have hmv : mkV g rd (fun m => if m = n then 3 * (rd : Int) + 0 else mk1 m) z = 0 := by
        rw [mkV_s, if_neg cg]
        by_cases c1 : z = n
        · rw [if_pos c1]; omega
        · rw [if_neg c1]
          obtain ⟨j1, ⟨j2, j3⟩ | ⟨j2, -⟩⟩ := hI z hzN
          · omega
          · exact absurd (c.resolve_left c1) j2
      refine sc_stop hB hG1 hG2 hT hM hn hrd (by omega) (by rw [hWl]; omega) hk hh (by omega) hx hz hb3 hmv (fun w2 hB2 hF2 => ?_)
      refine kF _ _ _ _ w2 hB2 hM1 (fun m hm => ?_) (zFr_tr hF hF2)
      show -1 ≤ (if m = n then 3 * (rd : Int) + 0 else mk1 m) ∧ (if m = n then 3 * (rd : Int) + 0 else mk1 m) < 3 * (rd : Int) + 3
      by_cases c1 : m = n
      · rw [if_pos c1]; omega
      · rw [if_neg c1]
        obtain ⟨j1, j2⟩ := hI m hm
        omega
    · have c1 : z ≠ n := fun q => c (Or.inl q)
      have c2 : z ∉ st := fun q => c (Or.inr q)
      have hmv : mkV g rd (fun m => if m = n then 3 * (rd : Int) + 0 else mk1 m) z = -1 := by
        rw [mkV_s, if_neg cg, if_neg c1]
        obtain ⟨j1, ⟨j2, -⟩ | ⟨-, j3⟩⟩ := hI z hzN
        · exact absurd j2 c2
        · omega
      refine sc_push hB hG1 hG2 hT hM hn hrd (by omega) (by rw [hWl]; omega) hk hh (by omega) hx hz hb3 hmv (fun o3 o4 o5 o6 o7 o8 w2 hB2 hF2 => ?_)
      have eW : (st.map fun (a : Nat) => [(a : Int), 0, 1]) ++ [[(n : Int), 0, 1]] = (st ++ [n]).map fun (a : Nat) => [(a : Int), 0, 1] := by rw [List.map_append]; rfl
      rw [eW] at hB2
      refine ih z (q + 1) _ (st ++ [n]) _ _ o3 o4 o5 o6 o7 o8 w2 hzN hz.2 hzf ?_ ?_ (fun a ha => ?_) (fun m hm => ?_) (by rw [List.length_append, List.length_singleton]; omega) (by omega) (tmW_TB hT hF2) hB2 hM1 (zFr_tr hF hF2)
      · rw [List.nodup_append]
        refine ⟨hd, by simp, fun a ha b hb => ?_⟩
        rw [List.mem_singleton.mp hb]
        exact fun q => hns (q ▸ ha)
      · intro q
        rcases List.mem_append.mp q with q | q
        · exact c2 q
        · exact c1 (List.mem_singleton.mp q)
      · rcases List.mem_append.mp ha with q | q
        · exact hlt a q
        · rw [List.mem_singleton.mp q]; exact hn
      · show -1 ≤ (if m = n then 3 * (rd : Int) + 0 else mk1 m) ∧ _
        by_cases cm : m = n
        · rw [if_pos cm]
          exact ⟨by omega, Or.inl ⟨by rw [cm]; simp, by omega⟩⟩
        · rw [if_neg cm]
          obtain ⟨j1, ⟨j2, j3⟩ | ⟨j2, j3⟩⟩ := hI m hm
          · exact ⟨j1, Or.inl ⟨List.mem_append_left _ j2, j3⟩⟩
          · refine ⟨j1, Or.inr ⟨fun q => ?_, j3⟩⟩
            rcases List.mem_append.mp q with q | q
            · exact j2 q
            · exact cm (List.mem_singleton.mp q)
/-- the scan of a node that does not contain itself -/
theorem c_scan_t (hB : bbW w b1 b2 ((br, pg, t), (nd, va, ce, li), (ro, bi, le, wk)) (((cN, NN), (cV, VV), (cC, CC), (cL, LL)), ((cR, RR), (cB, BB), (cE, EE), (cW, WW)), ((g : Int), fr, tk, rs, (rd : Int)))) (hT : tmW w t tc tn th tz ty C3 TN TH TS) (hM : ndM NN N bd mk) (hk : bWk N g bd) (hgt : ∀ n, n < g → bhd N n ≠ none) (hp : ∀ n, bhd N n = some 1 → bfs N n < n) (hcc : ∀ n c, bhd N n = some c → c < 3) (hN : N.length ≤ 4000) (hrd : rd < 1000000) (hG1 : b1 + 1800000 ≤ 30 * G.2.2.2.2.1) (hG2 : b2 + 3700000 ≤ G.2.2.2.2.2) (hn : st0 < N.length) (h0 : bd st0 = none) (hf : bFin N bd st0) (hI : ∀ m, m < N.length → -1 ≤ mk m ∧ (mk m < 3 * (rd : Int) ∨ okM N bd rd (mk m) m)) :
    zM G zm_X0_scan (d + 3) [zR br, zI (st0 : Int)] w (zVal fun o w' => o = zI 1 ∧ (∃ (cW' : Nat) (NN' WW' : List (List Int)) (mk' : Nat → Int), bbW w' b1 b2 ((br, pg, t), (nd, va, ce, li), (ro, bi, le, wk)) (((cN, NN'), (cV, VV), (cC, CC), (cL, LL)), ((cR, RR), (cB, BB), (cE, EE), (cW', WW')), ((g : Int), fr, tk, rs, (rd : Int))) ∧ ndM NN' N bd mk' ∧ mkX N bd rd mk mk' ∧ okM N bd rd (mk' st0) st0) ∧ zFr TB w w') := by
  obtain ⟨k0, e, he⟩ := hf
  have hc := bend_cnt he
  refine sc_start hB hG1 hG2 (fun w1 hB1 hF1 => ?_)
  refine sc_down hk hgt hp hcc hN hrd hG1 hG2 e.1 st0 0 _ [] NN mk none none none none none none w1 hn h0 ⟨k0, e, he, rfl⟩ (fun m hm => ?_) (by show 0 + e.1 < 5000; omega) (by omega) (tmW_TB hT hF1) hB1 hM (fun q2 cW2 NN2 mk2 o3 o4 o5 o6 o7 o8 w2 hq2 hB2 hM2 hX2 hok hF2 => ?_)
  · obtain ⟨a, b⟩ := hI m hm
    exact ⟨a, b.elim Or.inl fun c => Or.inr (Or.inl c)⟩
  · exact sc_end hB2 (by omega) ⟨rfl, ⟨cW2, NN2, [], mk2, hB2, hM2, hX2, hok⟩, zFr_tr hF1 hF2⟩
/-- the scan of a node that contains itself -/
theorem c_scan_f (hB : bbW w b1 b2 ((br, pg, t), (nd, va, ce, li), (ro, bi, le, wk)) (((cN, NN), (cV, VV), (cC, CC), (cL, LL)), ((cR, RR), (cB, BB), (cE, EE), (cW, WW)), ((g : Int), fr, tk, rs, (rd : Int)))) (hT : tmW w t tc tn th tz ty C3 TN TH TS) (hM : ndM NN N bd mk) (hk : bWk N g bd) (hgt : ∀ n, n < g → bhd N n ≠ none) (hp : ∀ n, bhd N n = some 1 → bfs N n < n) (hN : N.length ≤ 4000) (hrd : rd < 1000000) (hG1 : b1 + 1800000 ≤ 30 * G.2.2.2.2.1) (hG2 : b2 + 3700000 ≤ G.2.2.2.2.2) (hn : st0 < N.length) (h0 : bd st0 = none) (hf : ¬ bFin N bd st0) (hI : ∀ m, m < N.length → -1 ≤ mk m ∧ mk m < 3 * (rd : Int)) :
    zM G zm_X0_scan (d + 3) [zR br, zI (st0 : Int)] w (zVal fun o w' => o = zI 0 ∧ (∃ (cW' : Nat) (NN' WW' : List (List Int)) (mk' : Nat → Int), bbW w' b1 b2 ((br, pg, t), (nd, va, ce, li), (ro, bi, le, wk)) (((cN, NN'), (cV, VV), (cC, CC), (cL, LL)), ((cR, RR), (cB, BB), (cE, EE), (cW', WW')), ((g : Int), fr, tk, rs, (rd : Int))) ∧ ndM NN' N bd mk' ∧ ∀ m, m < N.length → -1 ≤ mk' m ∧ mk' m < 3 * (rd : Int) + 3) ∧ zFr TB w w') := by
  refine sc_start hB hG1 hG2 (fun w1 hB1 hF1 => ?_)
  exact sc_inf hk hgt hp hN hrd hG1 hG2 (fun cW2 NN2 WW2 mk2 w2 hB2 hM2 hI2 hF2 => ⟨rfl, ⟨cW2, NN2, WW2, mk2, hB2, hM2, hI2⟩, hF2⟩) N.length st0 0 _ [] NN mk none none none none none none w1 hn h0 hf List.nodup_nil List.not_mem_nil (fun a ha => absurd ha List.not_mem_nil) (fun m hm => ⟨(hI m hm).1, Or.inr ⟨List.not_mem_nil, (hI m hm).2⟩⟩) (by show 0 + N.length = N.length; omega) (by omega) (tmW_TB hT hF1) hB1 hM hF1
end BSD
