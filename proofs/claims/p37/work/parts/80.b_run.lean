/-! Own rows: BREADTH: a run; its count is the machine's. By hand; nothing of the bytecode. -/
/-- so many turns, to the tables and the count at the end -/
def bRunF (C : mmC) (tv : Nat → Nat → Bool) (g : Nat) : Nat → bS → bTS → Option Nat → Prop
  | 0, _, _, _ => False
  | n + 1, S, F, m => (bTurn C tv g S (.inr m) ∧ F = tS S) ∨ ∃ S', bTurn C tv g S (.inl S') ∧ bRunF C tv g n S' F m
theorem bSt_pre {N N' : bNT} (hN : bPre N N') {ν : Nat → smG} (h : bSt N' ν) : bSt N ν := fun n c hc => by
  have hl : n < N.length := bhd_lt hc
  rw [← bfs_pre hN hl]
  exact h n c (by rw [bhd_pre hN hl]; exact hc)
theorem b_empty {N : bNT} {g : Nat} (hp : ∀ n, bhd N n = some 1 → bfs N n < n) : bWF N g (fun _ => none) := by
  refine ⟨⟨fun x => ⟨x, bRp_self rfl⟩, (fun n m c h => by cases h), (fun n m h => by cases h)⟩, (fun n m h => by cases h), fun n => ?_⟩
  induction n using Nat.strongRecOn with
  | _ n ih =>
    by_cases c : bhd N n = some 1
    · obtain ⟨k, e, he⟩ := ih _ (hp n c)
      exact ⟨k + 1, (e.1 + 1, e.2), by rw [bend_built rfl c, he]; rfl⟩
    · exact ⟨1, (0, n), bend_last rfl c⟩
section BRUN
variable {C : mmC} {Gd : Nat × Nat → Prop} {tv : Nat → Nat → Bool} {g : Nat} {F : bTS}
theorem b_run_w : ∀ (n : Nat) (S : bS) (m : Option Nat), sIn g S → bRunF C tv g n S F m → tPre (tS S) F ∧ tW g F
  | 0, _, _, _, h => h.elim
  | n + 1, S, m, hS, h => by
    rcases h with ⟨-, rfl⟩ | ⟨S', h1, h2⟩
    · exact ⟨tPre_re _, hS.1⟩
    · obtain ⟨k1, k2⟩ := sIn_turn hS h1
      obtain ⟨q1, q2⟩ := b_run_w n S' m k1 h2
      exact ⟨tPre_tr k2 q1, q2⟩
theorem b_run (hF : mmFa C Gd) (hA3 : ∀ p, C.1.2 p ≤ 3) (hCC : bCC C tv) (hFb : bF F.1.1 g) (hwF : tW g F) : ∀ (n : Nat) (S : bS) (m : Nat), bIn C Gd g F S → bRunF C tv g n S F (some m) →
    S.2.2.2.2.2 ≤ m ∧ smGood C.1.1 (roNd C F (S.2.1.2.1.drop S.2.1.2.2)) (lvNd C F S.2.1.2.1 S.2.2.2.1) (m - S.2.2.2.2.2)
  | 0, _, _, _, h => h.elim
  | n + 1, S, m, hI, h => by
    rcases h with ⟨h1, rfl⟩ | ⟨S', h1, h2⟩
    · obtain ⟨e, q⟩ := b_last (F := tS S) h1
      subst e
      exact ⟨Nat.le_refl _, by rw [Nat.sub_self]; exact q⟩
    · obtain ⟨q1, -⟩ := b_run_w n S' (some m) (sIn_turn hI.2.1 h1).1 h2
      obtain ⟨a1, a2, a3⟩ := b_turn hF hA3 hCC hFb hwF hI h1 q1
      obtain ⟨b1, b2⟩ := b_run hF hA3 hCC hFb hwF n S' m a1 h2
      refine ⟨Nat.le_trans a2 b1, ?_⟩
      have := a3 _ b2
      rwa [show m - S'.2.2.2.2.2 + (S'.2.2.2.2.2 - S.2.2.2.2.2) = m - S.2.2.2.2.2 by omega] at this
/-- the question's node, as the start of the row -/
theorem b_seed {p g : Nat} {o : Nat → Option smG} (har : C.1.2 p ≤ 3) (hp : ∀ n, bhd F.1.1 n = some 1 → bfs F.1.1 n < n) (ho : ∀ k, o k ≠ none → k < C.1.2 p)
    (hV : ∀ k, k < C.1.2 p → ∃ n, bNo F.1.2.1 0 k = some n ∧ (∀ u, o k = some u → ∀ ν, bSt F.1.1 ν → ν n = u) ∧ (o k = none → bhd F.1.1 n = none))
    (hVi : ∀ k k' n, k < C.1.2 p → k' < C.1.2 p → o k = none → bNo F.1.2.1 0 k = some n → bNo F.1.2.1 0 k' = some n → k = k') :
    smRf C.1.1 ([(0, smQ p (C.1.2 p))], smQz 0 o) [([(0, smQ p (C.1.2 p))], bZ F.1.1 F.1.2.1 (fun _ => none))] := by
  have enc : nvc (smQ p (C.1.2 p)) = C.1.2 p := by
    unfold nvc smQ
    rw [if_neg (by show ¬ 2 = 0; decide), if_neg (by show ¬ 2 = 1; decide)]
  refine smRf_sim (pg := C.1.1) (Q := [(0, 0, smQ p (C.1.2 p))]) (fun q hq => ?_) (fun v hv => ?_) (fun w hw => ?_)
  · rw [List.mem_singleton.mp hq]
    show 2 ≤ 3
    decide
  · obtain ⟨ν, y1, y2, y3⟩ := b_sat (g := g) (b_empty hp) (fun n => match (List.range (C.1.2 p)).find? (fun x => decide (bNo F.1.2.1 0 x = some n)) with | some x => v 0 x | none => (0, 0))
    refine ⟨bVal F.1.2.1 ν v, bZ_mk y1 y2, fun q hq k hk => ?_⟩
    rw [List.mem_singleton.mp hq] at hk ⊢
    have hk : k < nvc (smQ p (C.1.2 p)) := hk
    rw [enc] at hk
    show v 0 (smv (smQ p (C.1.2 p)) k) = bVal F.1.2.1 ν v (2 * 0) (smv (smQ p (C.1.2 p)) k)
    rw [smQ_v (by omega)]
    obtain ⟨n, h1, h2, h3⟩ := hV k hk
    rw [bVal_e h1]
    cases hu : o k with
    | some u =>
      rw [h2 u hu ν y1]
      exact hv k u hu
    | none =>
      rw [y3 n rfl (h3 hu)]
      cases hf : (List.range (C.1.2 p)).find? (fun x => decide (bNo F.1.2.1 0 x = some n)) with
      | none => exact absurd (decide_eq_true h1) (List.find?_eq_none.mp hf k (List.mem_range.mpr hk))
      | some x' =>
        have q1 := of_decide_eq_true (List.find?_some (p := fun x => decide (bNo F.1.2.1 0 x = some n)) hf)
        have q2 := List.mem_range.mp (List.mem_of_find?_eq_some hf)
        have := hVi k x' n hk q2 hu h1 q1
        subst this
        rfl
  · refine ⟨w, fun x u hx => ?_, fun q hq k hk => by rw [List.mem_singleton.mp hq]⟩
    obtain ⟨ν, z1, z2, z3⟩ := hw
    obtain ⟨n, h1, h2, -⟩ := hV x (ho x (by rw [hx]; simp))
    rw [← h2 u hx ν z1]
    exact z3 0 x n h1
theorem b_top (hF : mmFa C Gd) (hA3 : ∀ p, C.1.2 p ≤ 3) (hCC : bCC C tv) {p md : Nat} {o : Nat → Option smG} {N0 : bNT} {Vr0 : List (Option Nat)} {tt : Nat → smG} (hgd : Gd (p, md)) (ho : ∀ k, o k ≠ none ↔ C.2.1.1 p md k = true)
    (hw0 : tW g ((N0, Vr0, [(60 + p, 0, none)]), [], [])) (hval : ∀ ν, bSt N0 ν → ∀ n, n < g → ν n = tt n) (hinj : ∀ a b, a < g → b < g → tt a = tt b → a = b)
    (hV : ∀ k, k < C.1.2 p → ∃ n, bNo Vr0 0 k = some n ∧ (∀ u, o k = some u → n < g ∧ tt n = u) ∧ (o k = none → bhd N0 n = none))
    (hVi : ∀ k k' n, k < C.1.2 p → k' < C.1.2 p → o k = none → bNo Vr0 0 k = some n → bNo Vr0 0 k' = some n → k = k')
    {n m : Nat} (hr : bRunF C tv g n ((N0, Vr0, [(60 + p, 0, none)]), ([], [(none, (0, 0), some 0, none, 0)], 0), [], [], (0, 0)) F (some m)) :
    smGood C.1.1 [([(0, smQ p (C.1.2 p))], smQz 0 o)] [] m := by
  have hS : sIn g ((N0, Vr0, [(60 + p, 0, none)]), ([], [(none, (0, 0), some 0, none, 0)], 0), [], [], (0, 0)) := by
    refine ⟨hw0, fun en hen => ?_, fun l hl => absurd hl List.not_mem_nil, rfl⟩
    rw [List.mem_singleton.mp hen]
    exact ⟨(fun q hq => by cases hq), Nat.le_refl _, Nat.le_refl _⟩
  obtain ⟨h1, hwF⟩ := b_run_w n _ _ hS hr
  have h1 : tPre ((N0, Vr0, [(60 + p, 0, none)]), [], []) F := h1
  have hFb : bF F.1.1 g := ⟨⟨hwF.1, fun n _ hn => by have := hwF.2.2.1 n hn; have := bhd_lt hn; omega⟩, hwF.2.2.1, fun ν hν a b ha hb e => by
    have hν0 := bSt_pre h1.1 hν
    rw [hval ν hν0 a ha, hval ν hν0 b hb] at e
    exact hinj a b ha hb e⟩
  have hV' : ∀ k, k < C.1.2 p → ∃ n, bNo Vr0 0 k = some n ∧ n < N0.length ∧ (∀ u, o k = some u → n < g ∧ tt n = u) ∧ (o k = none → bhd N0 n = none) := fun k hk => by
    obtain ⟨n, a1, a2, a3⟩ := hV k hk
    exact ⟨n, a1, bNo_lt hw0 a1, a2, a3⟩
  have hbd : bdE F (none, (0, 0), some 0, none, 0) = fun _ => none := by
    unfold bdE
    show bdOf ((F.2.2.take 0).drop 0 ++ bPb F.2.1 F.2.2 150 none) = _
    rw [List.take_zero, List.drop_nil, List.nil_append]
    rfl
  have hq : bG C (60 + p) = some (smQ p (C.1.2 p)) := by
    unfold bG
    rw [if_pos (by omega), show 60 + p - 60 = p by omega]
  have hit : bIt C F.1.2.2 0 = (0, smQ p (C.1.2 p)) := bIt_eq (Ce := [(60 + p, 0, none)]) (e := (60 + p, 0, none)) h1.2.2.1 rfl hq
  have hch : bCh [((60 + p, 0, none) : Nat × Nat × Option Nat)] (some 0) [0] := ⟨rfl, _, rfl, rfl⟩
  have hbo : ∀ k, k < C.1.2 p → ∀ n, bNo Vr0 0 k = some n → bNo F.1.2.1 0 k = some n := fun k hk n hn => bNo_pre h1.2.1 hn
  have hI : bIn C Gd g F ((N0, Vr0, [(60 + p, 0, none)]), ([], [(none, (0, 0), some 0, none, 0)], 0), [], [], (0, 0)) := by
    refine ⟨h1, hS, fun en hen => ?_, fun l hl => absurd hl List.not_mem_nil, trivial, Nat.zero_le _⟩
    have hen : en ∈ [((none, (0, 0), some 0, none, 0) : bEn)] := hen
    rw [List.mem_singleton.mp hen]
    refine ⟨[0], hch, Or.inl ⟨rfl, ?_⟩⟩
    rw [hbd]
    refine ⟨b_empty hwF.2.2.1, (fun n m h => by cases h), fun c hc => ?_, ?_⟩
    · rw [List.mem_singleton.mp hc]
      refine ⟨(60 + p, 0, none), _, rfl, hq, ⟨(by show 2 ≤ 3; decide), hA3 p, (fun h => by cases h), (fun h => by cases h), fun _ => rfl⟩, fun k hk => ?_⟩
      have hk : k < C.1.2 p := hk
      obtain ⟨n, a1, -⟩ := hV' k hk
      have := hA3 p
      exact ⟨n, by rw [smQ_v (by omega)]; exact a1⟩
    · rw [List.map_cons, List.map_nil, hit]
      refine bJ_ask hgd (hA3 p) (fun k hk hi v w hv hw => ?_)
      obtain ⟨n, a1, a2, a3, -⟩ := hV' k hk
      obtain ⟨u, hu⟩ := Option.ne_none_iff_exists'.mp ((ho k).mpr hi)
      obtain ⟨ν, z1, z2, z3⟩ := hv
      obtain ⟨ν', y1, y2, y3⟩ := hw
      have e1 := z3 0 k n (hbo k hk n a1)
      have e2 := y3 0 k n (hbo k hk n a1)
      rw [hval ν (bSt_pre h1.1 z1) n (a3 u hu).1] at e1
      rw [hval ν' (bSt_pre h1.1 y1) n (a3 u hu).1] at e2
      exact e1.trans e2.symm
  obtain ⟨-, gd⟩ := b_run hF hA3 hCC hFb hwF n _ m hI hr
  have gd : smGood C.1.1 (roNd C F [((none, (0, 0), some 0, none, 0) : bEn)]) [] (m - 0) := gd
  have e1 : enNd C F (none, (0, 0), some 0, none, 0) = [([(0, smQ p (C.1.2 p))], bZ F.1.1 F.1.2.1 (fun _ => none))] := by
    have e2 := enNd_n (C := C) (F := F) (en := (none, (0, 0), some 0, none, 0)) rfl (cs := [0]) (bCh_pre h1.2.2.1 _ _ hch)
    rw [hbd, List.map_cons, List.map_nil, hit] at e2
    exact e2
  rw [roNd_one, e1, Nat.sub_zero] at gd
  refine smGood_rf (B := []) (b_seed (g := g) (hA3 p) hwF.2.2.1 (fun k hk => hF.2.1 p md k ((ho k).mp hk)) (fun k hk => ?_) (fun k k' n hk hk' hu h2 h3 => ?_)) gd
  · obtain ⟨n, a1, a2, a3, a4⟩ := hV' k hk
    refine ⟨n, hbo k hk n a1, fun u hu ν hν => ?_, fun hu => ?_⟩
    · rw [hval ν (bSt_pre h1.1 hν) n (a3 u hu).1]
      exact (a3 u hu).2
    · rw [bhd_pre h1.1 a2]
      exact a4 hu
  · obtain ⟨n1, a1, -⟩ := hV' k hk
    obtain ⟨n2, b1, -⟩ := hV' k' hk'
    have e1 := hbo k hk n1 a1
    have e2 := hbo k' hk' n2 b1
    rw [e1] at h2
    rw [e2] at h3
    cases h2
    cases h3
    exact hVi k k' _ hk hk' hu a1 b1
/-- both ways to search find as much -/
theorem b_same (hF : mmFa C Gd) (hA3 : ∀ p, C.1.2 p ≤ 3) (hCC : bCC C tv) {p md : Nat} {o : Nat → Option smG} {N0 : bNT} {Vr0 : List (Option Nat)} {tt : Nat → smG} (hgd : Gd (p, md)) (ho : ∀ k, o k ≠ none ↔ C.2.1.1 p md k = true)
    (hw0 : tW g ((N0, Vr0, [(60 + p, 0, none)]), [], [])) (hval : ∀ ν, bSt N0 ν → ∀ n, n < g → ν n = tt n) (hinj : ∀ a b, a < g → b < g → tt a = tt b → a = b)
    (hV : ∀ k, k < C.1.2 p → ∃ n, bNo Vr0 0 k = some n ∧ (∀ u, o k = some u → n < g ∧ tt n = u) ∧ (o k = none → bhd N0 n = none))
    (hVi : ∀ k k' n, k < C.1.2 p → k' < C.1.2 p → o k = none → bNo Vr0 0 k = some n → bNo Vr0 0 k' = some n → k = k')
    {n m : Nat} (hr : bRunF C tv g n ((N0, Vr0, [(60 + p, 0, none)]), ([], [(none, (0, 0), some 0, none, 0)], 0), [], [], (0, 0)) F (some m))
    {tm : List smG} {n' : Nat} {r : Nat × mmS} (hm : mmRun C n' (mmStart C tm (p, md) o) = some r) (h0 : r.1 = 0) : mmNa r.2 = m := by
  obtain ⟨G, top, an, k1, k2, k3⟩ := mm_root hF (tm := tm) (pm := (p, md)) (o := o) hgd (hA3 p) ho
  obtain ⟨q1, q2⟩ := mm_run hF n' G top [] an _ r k1 hm h0
  have q3 := k3 _ q2
  rw [k2, Nat.sub_zero] at q3
  exact smGood_eq q3 (b_top hF hA3 hCC hgd ho hw0 hval hinj hV hVi hr)
end BRUN
