/-! Own rows: the other facts of a program: what breadth and the machine ask of its records. By hand; nothing of the bytecode. -/
section AKF
variable {R : pgR}
theorem pgP_mem {y : Nat} (h : y ∈ R.2.2.1.1) : ∃ p, pgP R p = some y := List.getElem?_of_mem h
theorem pF_bkF (hF : pF R) : bkF R := ⟨fun p y hp => ⟨(hF.1 p y hp).1, (hF.1 p y hp).2.1⟩, fun c a hc => by
  obtain ⟨f1, f2, f3, f3b, f4, f5⟩ := hF.2.2.2 c a hc
  exact ⟨f2, f4, f1, fun x hx => (f5 x hx).1⟩⟩
theorem pF_bkL (hF : pF R) : bkL R := fun y hy => by
  obtain ⟨p, hp⟩ := pgP_mem hy
  exact ⟨(hF.2.2.1 p y hp).2.1, (hF.2.2.1 p y hp).2.2⟩
theorem pF_A3 (hF : pF R) : ∀ p, (pgC R).1.2 p ≤ 3 := fun p => by
  cases hp : pgP R p with
  | none =>
    have e : (pgC R).1.2 p = 0 := by
      show (match pgP R p with | none => 0 | some y => (R.2.2.2.1 y).2.1.length) = _
      rw [hp]
    rw [e]
    exact Nat.zero_le _
  | some y =>
    rw [pC_ar hp]
    exact (hF.1 p y hp).2.2.1
theorem bG_in {n : Nat} {gl : smL} (h : bG (pgC R) n = some gl) : (gl = smQ (n - 60) ((pgC R).1.2 (n - 60)) ∧ 60 ≤ n) ∨ ∃ a g, pgCl R (n / 5) = some a ∧ g ∈ (R.2.2.2.2.2.1 a).2.2.2.1.2 ∧ gl = gL (R.2.2.2.2.2.2 g) := by
  unfold bG at h
  by_cases c : 60 ≤ n
  · rw [if_pos c] at h
    exact Or.inl ⟨(Option.some.inj h).symm, c⟩
  · rw [if_neg c] at h
    cases ha : pgCl R (n / 5) with
    | none =>
      have e : (pgC R).1.1.2 (n / 5) = [] := by
        show (match pgCl R (n / 5) with | none => [] | some a => (R.2.2.2.2.2.1 a).2.2.2.1.2.map (fun g => gL (R.2.2.2.2.2.2 g))) = _
        rw [ha]
      rw [e] at h
      cases h
    | some a =>
      rw [pC_cl ha] at h
      obtain ⟨g, hg, e⟩ := List.mem_map.mp (List.mem_of_getElem? h)
      exact Or.inr ⟨a, g, rfl, hg, e.symm⟩
theorem pF_A (hF : pF R) : ∀ n gl, bG (pgC R) n = some gl → gl.2.2.1 ≤ 3 := fun n gl h => by
  rcases bG_in h with ⟨e, -⟩ | ⟨a, g, h1, h2, e⟩
  · rw [e]
    exact pF_A3 hF _
  · rw [e]
    exact (go_1 ((hF.2.2.2 _ a h1).2.2.2.2.2 g h2).1).2.2.2.1
theorem pF_pd (hF : pF R) : ∀ n gl, bG (pgC R) n = some gl → gl.1 = 3 → ∃ y, pgP R gl.2.1 = some y := fun n gl h h3 => by
  rcases bG_in h with ⟨e, -⟩ | ⟨a, g, h1, h2, e⟩
  · rw [e] at h3
    cases h3
  · rw [e] at h3 ⊢
    exact ((hF.2.2.2 _ a h1).2.2.2.2.2 g h2).2.2.1 (by omega)
theorem pF_CC (hF : pF R) : bCC (pgC R) (tvR R) := fun p c hc => by
  obtain ⟨y, a, hp, ha, hca⟩ := pC_mem hF hc
  obtain ⟨f1, f2, f3, f3b, f4, f5⟩ := hF.2.2.2 c a hca
  rw [pC_cl hca, List.length_map]
  refine ⟨f2, f4, fun gg hgg => ?_⟩
  obtain ⟨g, hg, e⟩ := List.mem_map.mp hgg
  obtain ⟨q1, q2, q3, q4⟩ := f5 g hg
  rw [← e]
  refine ⟨q2, fun k hk => ⟨(go_v q1 (by have := (go_1 q1).2.2.2.1; omega)).2, fun har => ?_⟩⟩
  rw [tvR_eq hca]
  refine q4 k hk ?_
  rw [pC_ar hp] at har
  rw [f3b.2 p y hp ha]
  exact har
/-- a part of an order, sound as far as it goes -/
def plP (R : pgR) (Gs : List Nat) (r : clR) (s : Nat) : Prop := ∃ g, r.2.2.2.2.2.1.getD s none = some g ∧ g ∈ Gs ∧ ∀ x, r.2.2.2.2.2.2.getD s none = some x → ∃ kn, chM R (R.2.2.2.2.2.2 g) kn = some x
def ordP (R : pgR) (m a : Nat) : Prop := ∃ n : Nat, (R.2.2.2.2.2.1 a).2.2.2.2.1.1.getD m 0 = (n : Int) ∧ n ≤ 5 ∧ ∀ q, q < n → plP R (R.2.2.2.2.2.1 a).2.2.2.1.2 (R.2.2.2.2.2.1 a) (m * 5 + q)
theorem plP_q {R' : pgR} (h : pgSa R R') {Gs : List Nat} {r r' : clR} {s : Nat} (e1 : r'.2.2.2.2.2.1.getD s none = r.2.2.2.2.2.1.getD s none) (e2 : r'.2.2.2.2.2.2.getD s none = r.2.2.2.2.2.2.getD s none) (k : plP R Gs r s) : plP R' Gs r' s := by
  obtain ⟨g, k1, k2, k3⟩ := k
  refine ⟨g, by rw [e1]; exact k1, k2, fun x hx => ?_⟩
  rw [e2] at hx
  obtain ⟨kn, hk⟩ := k3 x hx
  exact ⟨kn, by rw [h.2.2.1, pgSa_ch h]; exact hk⟩
theorem ordP_q {R' : pgR} (h : pgSa R R') {m a : Nat} (ho : clEq m (R.2.2.2.2.2.1 a) (R'.2.2.2.2.2.1 a)) (k : ordP R m a) : ordP R' m a := by
  obtain ⟨n, k1, k2, k3⟩ := k
  obtain ⟨o1, o2, o3⟩ := ho
  unfold ordP
  rw [o1, o2]
  refine ⟨n, k1, k2, fun q hq => ?_⟩
  obtain ⟨a1, a2, -⟩ := o3 (m * 5 + q) (by omega) (by omega)
  exact plP_q h a1 a2 (k3 q hq)
theorem ord_pt {Gs : List Nat} {m : Nat} (hGl : Gs.length ≤ 5) (hm : m < 2) : ∀ (n q : Nat) (tk kn : Int) (r : clR), q + n ≤ 5 → clAr r → r.2.2.2.2.1.1.getD m 0 = (q : Int) → (∀ s, s < q → plP R Gs r (m * 5 + s)) →
    ∃ n' : Nat, (ordS R m Gs n q tk kn r).2.2.2.2.2.2.1.1.getD m 0 = (n' : Int) ∧ n' ≤ 5 ∧ ∀ s, s < n' → plP R Gs (ordS R m Gs n q tk kn r).2.2 (m * 5 + s)
  | 0, q, tk, kn, r, hq, _, hle, hv => ⟨q, hle, by omega, hv⟩
  | n + 1, q, tk, kn, r, hq, hr, hle, hv => by
    rcases ngN_ok (R := R) (Gs := Gs) (tk := tk) (kn := kn) Gs.length 0 with hn | ⟨i, -, hi, hn, htk, hcb⟩
    · have hl : lAt Gs (ngN R Gs tk kn Gs.length 0) = none := by rw [hn]; exact lAt_out (Or.inl (by decide))
      rw [ordS_n hl]
      exact ⟨q, hle, by omega, hv⟩
    · have hi : i < Gs.length := by omega
      have hg : Gs.getD i 0 = Gs[i]'hi := by rw [List.getD_eq_getElem?_getD, List.getElem?_eq_getElem hi]; rfl
      have hl : lAt Gs (ngN R Gs tk kn Gs.length 0) = some (Gs.getD i 0) := by
        rw [hn]
        exact lAt_in (by omega) (by rw [Int.toNat_natCast, hg, List.getElem?_eq_getElem hi])
      rw [ordS_y hl, hn]
      obtain ⟨r1, r2, r3, r4, r5⟩ := hr
      have e1 : (takeR r m q (i : Int) kn (Gs.getD i 0) (chM R (R.2.2.2.2.2.2 (Gs.getD i 0)) kn)).2.2.2.2.1.1 = r.2.2.2.2.1.1.set m ((q + 1 : Nat) : Int) := rfl
      have e2 : (takeR r m q (i : Int) kn (Gs.getD i 0) (chM R (R.2.2.2.2.2.2 (Gs.getD i 0)) kn)).2.2.2.2.2.1 = r.2.2.2.2.2.1.set (m * 5 + q) (some (Gs.getD i 0)) := rfl
      have e3 : (takeR r m q (i : Int) kn (Gs.getD i 0) (chM R (R.2.2.2.2.2.2 (Gs.getD i 0)) kn)).2.2.2.2.2.2 = r.2.2.2.2.2.2.set (m * 5 + q) (chM R (R.2.2.2.2.2.2 (Gs.getD i 0)) kn) := rfl
      have hr2 : clAr (takeR r m q (i : Int) kn (Gs.getD i 0) (chM R (R.2.2.2.2.2.2 (Gs.getD i 0)) kn)) := by
        unfold takeR clSet
        exact ⟨by simpa using r1, by simpa using r2, by simpa using r3, by simpa using r4, by simpa using r5⟩
      refine ord_pt hGl hm n (q + 1) _ _ _ (by omega) hr2 (by rw [e1, getD_set (by omega), if_pos rfl]) (fun s hs => ?_)
      by_cases c : s = q
      · subst c
        refine ⟨Gs.getD i 0, by rw [e2, getD_set (by omega), if_pos rfl], by rw [hg]; exact List.getElem_mem hi, fun x hx => ?_⟩
        rw [e3, getD_set (by omega), if_pos rfl] at hx
        exact ⟨kn, hx⟩
      · obtain ⟨g, k1, k2, k3⟩ := hv s (by omega)
        refine ⟨g, by rw [e2, getD_set (by omega), if_neg (by omega)]; exact k1, k2, fun x hx => ?_⟩
        rw [e3, getD_set (by omega), if_neg (by omega)] at hx
        exact k3 x hx
theorem ordO_pt {m c : Nat} {ins : Int} (hm : m < 2) (hr : clAr (R.2.2.2.2.2.1 c)) (h5 : (R.2.2.2.2.2.1 c).2.2.2.1.2.length ≤ 5) : ∃ n' : Nat, (ordO R m c ins).2.2.2.2.2.2.1.1.getD m 0 = (n' : Int) ∧ n' ≤ 5 ∧ ∀ s, s < n' → plP R (R.2.2.2.2.2.1 c).2.2.2.1.2 (ordO R m c ins).2.2 (m * 5 + s) := by
  obtain ⟨r1, r2, r3, r4, r5⟩ := id hr
  have e0 : (orC (R.2.2.2.2.2.1 c) m).2.2.2.2.1.1 = (R.2.2.2.2.2.1 c).2.2.2.2.1.1.set m 0 := rfl
  exact ord_pt h5 hm _ 0 0 ins (orC (R.2.2.2.2.2.1 c) m) (by omega) ⟨by rw [e0, List.length_set]; exact r1, r2, r3, r4, r5⟩ (by rw [e0, getD_set (by omega), if_pos rfl]; rfl) (fun s hs => absurd hs (Nat.not_lt_zero _))
end AKF
theorem pio_pt {m pr : Nat} {ins : Int} (hm : m < 2) : ∀ (cs : List Nat) (b : Bool) (w : zW) (R : pgR), cs.Nodup → (∀ c, c ∈ cs → clAr (R.2.2.2.2.2.1 c) ∧ (R.2.2.2.2.2.1 c).2.2.2.1.2.length ≤ 5) → (R.2.2.2.1 pr).2.1.length < 4 → ∀ c, c ∈ cs → ordP (pioS m ins pr cs b w R).2.2 m c
  | [], b, w, R, _, _, _, c, h => absurd h List.not_mem_nil
  | c :: cs, b, w, R, hn, hc, ha, c', hc' => by
    rw [List.nodup_cons] at hn
    rw [pioS_c]
    obtain ⟨hr, h5⟩ := hc c List.mem_cons_self
    obtain ⟨o1, o2, -⟩ := ordO_ok (ins := ins) hm hr h5
    obtain ⟨R1, hR1⟩ : ∃ R1, R1 = pgSetC R c (ordO R m c ins).2.2 := ⟨_, rfl⟩
    have hsa : pgSa R R1 := by rw [hR1]; exact pgSa_setC
    have hat : R1.2.2.2.2.2.1 c = (ordO R m c ins).2.2 := by
      rw [hR1]
      show (if c = c then _ else _) = _
      rw [if_pos rfl]
    have hnat : ∀ c', c' ≠ c → R1.2.2.2.2.2.1 c' = R.2.2.2.2.2.1 c' := fun c' h => by
      rw [hR1]
      show (if c' = c then _ else _) = _
      rw [if_neg h]
    rw [← hR1]
    have hne : ∀ c', c' ∈ cs → c' ≠ c := fun c' h e => hn.1 (e ▸ h)
    have hcs : ∀ c', c' ∈ cs → clAr (R1.2.2.2.2.2.1 c') ∧ (R1.2.2.2.2.2.1 c').2.2.2.1.2.length ≤ 5 := fun c' h => by rw [hnat c' (hne c' h)]; exact hc c' (List.mem_cons_of_mem _ h)
    have ha1 : (R1.2.2.2.1 pr).2.1.length < 4 := by rw [hsa.2.1]; exact ha
    rcases List.mem_cons.mp hc' with e | e
    · subst e
      obtain ⟨⟨i1, -⟩, i2, -⟩ := pio_ok (pr := pr) (ins := ins) hm cs (b && decide (orV (R.2.2.2.1 pr).2.1 (ordO R m c' ins) ≠ 0)) (clPut w c' (ordO R m c' ins).2.2) R1 hn.2 hcs ha1
      refine ordP_q (R := R1) i1 (by rw [i2 c' hn.1]; exact clEq_re) ?_
      obtain ⟨n', k1, k2, k3⟩ := ordO_pt (ins := ins) hm hr h5
      unfold ordP
      rw [hat, o2.2.2.2.1]
      exact ⟨n', k1, k2, fun q hq => plP_q hsa rfl rfl (k3 q hq)⟩
    · exact pio_pt hm cs _ _ R1 hn.2 hcs ha1 c' e
/-- all parts of orders are sound -/
def ordA (R : pgR) : Prop := ∀ p, p ∈ R.2.2.1.1 → ∀ a, a ∈ (R.2.2.2.1 p).2.2.2.2 → ∀ m, m < 2 → ordP R m a
theorem an_stepP {w : zW} {R : pgR} {y : Nat} (hy : y ∈ R.2.2.1.2.1) (hN : pgN R) (hM : pgM2 R) (hA : ordA R) (R3 : pgR) (e3 : R3 = (anS w R (R.2.2.2.2.1 y) y (anP w R (R.2.2.2.2.1 y))).2) : ordA R3 := by
  obtain ⟨n1, n2, -⟩ := hN y hy
  obtain ⟨d1, d2, d3⟩ := hM
  obtain ⟨p1, p2, p3⟩ := d3 _ n1
  obtain ⟨r, hr⟩ : ∃ r, r = R.2.2.2.2.1 y := ⟨_, rfl⟩
  rw [← hr] at n1 n2 p1 p2 p3 e3
  obtain ⟨m, hm⟩ : ∃ m : Nat, r.2.1 = (m : Int) := ⟨r.2.1.toNat, by omega⟩
  have hm2 : m < 2 := by omega
  have hmt : r.2.1.toNat = m := by omega
  obtain ⟨⟨q1, q1b⟩, q2, q3, -⟩ := pio_ok (m := m) (pr := r.1) (ins := r.2.2.1) hm2 (R.2.2.2.1 r.1).2.2.2.2 true w R p1 p3 p2
  have q5 := pio_pt (m := m) (pr := r.1) (ins := r.2.2.1) hm2 (R.2.2.2.1 r.1).2.2.2.2 true w R p1 p3 p2
  obtain ⟨P, hP⟩ : ∃ P, P = pioS m r.2.2.1 r.1 (R.2.2.2.1 r.1).2.2.2.2 true w R := ⟨_, rfl⟩
  have hP2 : anP w R r = P := by
    rw [hP]
    unfold anP
    rw [hmt]
  rw [hP2] at e3
  rw [← hP] at q1 q1b q2 q3 q5
  have hc3 : ∀ c, R3.2.2.2.2.2.1 c = P.2.2.2.2.2.2.2.1 c := fun c => by rw [e3]; rfl
  have hsa : pgSa P.2.2 R3 := by
    rw [e3]
    refine ⟨rfl, rfl, rfl, fun z => ?_⟩
    show (if z = y then _ else P.2.2.2.2.2.2.1 z).2.2.1 = _
    by_cases c : z = y
    · rw [if_pos c, c, show P.2.2.2.2.2.2.1 = R.2.2.2.2.1 from q1b, ← hr]
      rfl
    · rw [if_neg c]
  have hs := pgSa_tr q1 hsa
  intro p hp a ha m' hm'
  rw [hs.1] at hp
  rw [hs.2.1] at ha
  by_cases hc : a ∈ (R.2.2.2.1 r.1).2.2.2.2
  · by_cases e : m' = m
    · rw [e]
      exact ordP_q hsa (by rw [hc3]; exact clEq_re) (q5 a hc)
    · exact ordP_q hs (by rw [hc3]; exact clOt_eq (q3 a hc).1 e) (hA p hp a ha m' hm')
  · exact ordP_q hs (by rw [hc3, q2 a hc]; exact clEq_re) (hA p hp a ha m' hm')
theorem an1_pt : ∀ (l : List Nat) (w : zW) (R : pgR), (∀ y, y ∈ l → y ∈ R.2.2.1.2.1) → pgN R → pgM2 R → ordA R → ordA (an1 l w R).2
  | [], w, R, _, _, _, h => h
  | y :: l, w, R, hs, hN, hM, hA => by
    rw [an1_c]
    have hyM := hs y List.mem_cons_self
    obtain ⟨R3, e3⟩ : ∃ R3, R3 = (anS w R (R.2.2.2.2.1 y) y (anP w R (R.2.2.2.2.1 y))).2 := ⟨_, rfl⟩
    obtain ⟨s1, s2, s3, s4, s5, s6, s7⟩ := an_step hyM hN hM R3 e3
    have hA3 := an_stepP hyM hN hM hA R3 e3
    rw [← e3]
    have mo : ∀ z, (R3.2.2.2.2.1 z).1 = (R.2.2.2.2.1 z).1 ∧ (R3.2.2.2.2.1 z).2.1 = (R.2.2.2.2.1 z).2.1 := fun z => by
      by_cases c : z = y
      · rw [c]; exact ⟨s3, s4⟩
      · rw [s2 z c]; exact ⟨rfl, rfl⟩
    exact an1_pt l _ R3 (fun z hz => by rw [s1.1]; exact hs z (List.mem_cons_of_mem _ hz)) (pgN_sa s1 mo hN) (pgM2_sa s1 mo s5 hM) hA3
theorem fsS_r {R : pgR} {ins m : Int} : ∀ (cs : List Nat) (f k : Int), (-1 ≤ f ∧ f < 8) → (∀ c, c ∈ cs → ∀ g, odA (R.2.2.2.2.2.1 c) m 0 = some g → 0 ≤ zVa (R.2.2.2.2.2.2 g).2.2.2.2 0 ∧ zVa (R.2.2.2.2.2.2 g).2.2.2.2 0 < 8) → -1 ≤ fsS R ins m cs f k ∧ fsS R ins m cs f k < 8
  | [], f, k, h, _ => h
  | c :: cs, f, k, h, hg => by
    cases ho : odA (R.2.2.2.2.2.1 c) m 0 with
    | none => rw [fsS_n ho]; decide
    | some g =>
      rw [fsS_s ho]
      have h0 := hg c List.mem_cons_self g ho
      split
      · split
        · decide
        · exact fsS_r cs _ _ ⟨by omega, h0.2⟩ (fun c' hc' => hg c' (List.mem_cons_of_mem _ hc'))
      · decide
/-- what the compiler leaves, of parts of orders and of switches -/
theorem anW_pt {C : List (List Int)} {Ms : List Nat} {w : zW} {R : pgR} (hMs : R.2.2.1.2.1 = Ms) (hnd : Ms.Nodup) (hN : pgN R) (hM : pgM2 R) (hA : ordA R) (hO : pgO (anW C Ms w R).2) (hg : ∀ c, c ∈ R.2.2.1.2.2 → ∀ g, g ∈ (R.2.2.2.2.2.1 c).2.2.2.1.2 → gOk (R.2.2.2.2.2.2 g)) (hcl : ∀ p, p ∈ R.2.2.1.1 → ∀ a, a ∈ (R.2.2.2.1 p).2.2.2.2 → a ∈ R.2.2.1.2.2) : ordA (anW C Ms w R).2 ∧ ∀ y, y ∈ Ms → -1 ≤ ((anW C Ms w R).2.2.2.2.2.1 y).2.2.2.2.2.2.2.2 ∧ ((anW C Ms w R).2.2.2.2.2.1 y).2.2.2.2.2.2.2.2 < 8 := by
  obtain ⟨w1, hw1⟩ : ∃ w1, w1 = (an1 Ms w R).1 := ⟨_, rfl⟩
  obtain ⟨R1, hR1⟩ : ∃ R1, R1 = (an1 Ms w R).2 := ⟨_, rfl⟩
  obtain ⟨w2, hw2⟩ : ∃ w2, w2 = (sf2 Ms (Ms.length + 1) true w1 R1).1 := ⟨_, rfl⟩
  obtain ⟨R2, hR2⟩ : ∃ R2, R2 = (sf2 Ms (Ms.length + 1) true w1 R1).2 := ⟨_, rfl⟩
  obtain ⟨R', hR'⟩ : ∃ R', R' = (anW C Ms w R).2 := ⟨_, rfl⟩
  have hR3 : R' = (sf3 C Ms (2 * Ms.length + 1) true w2 R2).2 := by rw [hR', hw2, hR2, hw1, hR1]; rfl
  rw [← hR'] at hO ⊢
  obtain ⟨a1, a2, a3, -, -, a6⟩ := an1_ok Ms w R hnd (fun y hy => by rw [hMs]; exact hy) hN hM
  have hA1 := an1_pt Ms w R (fun y hy => by rw [hMs]; exact hy) hN hM hA
  rw [← hR1] at a1 a2 a3 a6 hA1
  obtain ⟨b1, b2⟩ := sf2_ok (Ms := Ms) (Ms.length + 1) w1 R1 (Nat.lt_succ_of_le (List.length_filter_le _ _))
  rw [← hR2] at b1 b2
  have hf2 : flI Ms R2 := fun y hy => by
    obtain ⟨lost, e, -⟩ := a6 y hy
    rcases b1.2 y with k | k <;> rw [k, e] <;> exact ⟨Or.inl rfl, Or.inl rfl⟩
  have l1 := List.length_filter_le (fun y => decide (moF1 (R2.2.2.2.2.1 y) = 0)) Ms
  have l2 := List.length_filter_le (fun y => decide (moF2 (R2.2.2.2.2.1 y) = 0)) Ms
  obtain ⟨c1, c2, c3⟩ := sf3_ok (C := C) (Ms := Ms) (2 * Ms.length + 1) w2 R2 hf2 (by omega)
  rw [← hR3] at c1 c2 c3
  have s13 := pgSa_tr (gK_sa b1) (fK_sa c1)
  have hcl2 : R2.2.2.2.2.2.1 = R1.2.2.2.2.2.1 := congrArg Prod.fst b1.1.2.2
  have hcl3 : R'.2.2.2.2.2.1 = R2.2.2.2.2.2.1 := congrArg Prod.fst c1.1.2.2
  have s03 := pgSa_tr a1 s13
  refine ⟨fun p hp a ha m hm => ?_, fun y hy => ?_⟩
  · rw [s13.1] at hp
    rw [s13.2.1] at ha
    exact ordP_q s13 (by rw [hcl3, hcl2]; exact clEq_re) (hA1 p hp a ha m hm)
  · obtain ⟨f, v, e⟩ := c1.2 y
    obtain ⟨lost, k1, -⟩ := a6 y hy
    have esw : (R'.2.2.2.2.1 y).2.2.2.2.2.2.2.2 = fsS R1 (R.2.2.2.2.1 y).2.2.1 (R.2.2.2.2.1 y).2.1 (R.2.2.2.1 (R.2.2.2.2.1 y).1).2.2.2.2 (-1) 0 := by
      rcases b1.2 y with k | k <;> rw [e, k, k1] <;> rfl
    rw [esw]
    obtain ⟨n1, -, -⟩ := hN y (by rw [hMs]; exact hy)
    refine fsS_r _ _ _ (by decide) (fun c hc g hod => ?_)
    have hcm := hcl _ n1 c hc
    have hg1 : some g ∈ (R1.2.2.2.2.2.1 c).2.2.2.2.2.1 := odA_mem hod
    have hO1 := (hO c (by rw [s03.1]; exact hcm)).1 g (by rw [hcl3, hcl2]; exact hg1)
    have e5 : (R'.2.2.2.2.2.1 c).2.2.2.1 = (R.2.2.2.2.2.1 c).2.2.2.1 := by rw [hcl3, hcl2]; exact (a3 c).1.2.2.2
    rw [e5] at hO1
    have q := (hg c hcm g hO1).2.2.2.2 0
    rw [a1.2.2.1]
    exact q
