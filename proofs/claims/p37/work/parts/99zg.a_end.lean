/-! Own rows: a compiled program. By hand; nothing of the bytecode. -/
theorem pF_mkF {R : pgR} (hF : pF R) (hA : ordA R) (hS : ∀ y, y ∈ R.2.2.1.2.1 → -1 ≤ (R.2.2.2.2.1 y).2.2.2.2.2.2.2.2 ∧ (R.2.2.2.2.1 y).2.2.2.2.2.2.2.2 < 8) : mkF R := by
  refine ⟨fun p m md h => ?_, fun c a hc => ?_, fun y hy => ?_, fun c a hc m hm => ?_, hS⟩
  · cases hp : pgP R p with
    | none => unfold pgMo at h; rw [hp] at h; cases h
    | some y =>
      have hmm : (R.2.2.2.1 y).2.2.1.2[m]? = some md := by
        unfold pgMo at h
        rw [hp] at h
        exact h
      obtain ⟨f1, f2, f3, f4, -⟩ := hF.2.1 p y hp m md hmm
      exact ⟨f1, ⟨y, rfl, f2, (hF.1 p y hp).1⟩, f3, f4, (hF.1 p y hp).2.1⟩
  · obtain ⟨f1, f2, f3, -⟩ := hF.2.2.2 c a hc
    exact ⟨f1, f3⟩
  · obtain ⟨p, hp⟩ := pgP_mem hy
    exact ⟨(hF.2.2.1 p y hp).2.1, (hF.1 p y hp).2.2.1⟩
  · obtain ⟨f1, f2, f3, f3b, f4, f5⟩ := hF.2.2.2 c a hc
    obtain ⟨n, k1, k2, k3⟩ := hA _ f3 a f3b.1 m hm
    refine ⟨n, k1, k2, fun q hq => ?_⟩
    obtain ⟨g, g1, g2, g3⟩ := k3 q hq
    refine ⟨g, g1, g2, (f5 g g2).1, fun x hx => ?_⟩
    obtain ⟨kn, hk⟩ := g3 x hx
    obtain ⟨-, y, m', -, hmo, -⟩ := chM_ok hF (f5 g g2).1 hk
    exact ⟨m', hmo⟩
theorem pgP_sa {R R' : pgR} (h : pgSa R R') (p : Nat) : pgP R' p = pgP R p := by unfold pgP; rw [h.1]
theorem pgCl_sa {R R' : pgR} (h : pgSa R R') (c : Nat) : pgCl R' c = pgCl R c := by unfold pgCl; rw [h.1]
theorem pgMo_sa {R R' : pgR} (h : pgSa R R') (p m : Nat) : pgMo R' p m = pgMo R p m := by unfold pgMo; rw [pgP_sa h, h.2.1]
theorem pC_ar_sa {R R' : pgR} (h : pgSa R R') : (pgC R').1.2 = (pgC R).1.2 := by
  funext p
  show (match pgP R' p with | none => 0 | some y => (R'.2.2.2.1 y).2.1.length) = (match pgP R p with | none => 0 | some y => (R.2.2.2.1 y).2.1.length)
  rw [pgP_sa h, h.2.1]
theorem pF_sa {R R' : pgR} (h : pgSa R R') (hn : ∀ y, (R'.2.2.2.2.1 y).1 = (R.2.2.2.2.1 y).1 ∧ (R'.2.2.2.2.1 y).2.1 = (R.2.2.2.2.1 y).2.1) (hk : ∀ c, clKp (R.2.2.2.2.2.1 c) (R'.2.2.2.2.2.1 c)) (hF : pF R) : pF R' := by
  obtain ⟨f1, f2, f3, f4⟩ := hF
  refine ⟨fun p y hp => ?_, fun p y hp m md hm => ?_, fun p y hp => ?_, fun c a hc => ?_⟩
  · rw [pgP_sa h] at hp
    rw [h.2.1]
    exact f1 p y hp
  · rw [pgP_sa h] at hp
    rw [h.2.1] at hm ⊢
    rw [h.1, (hn md).1, (hn md).2, h.2.2.2]
    exact f2 p y hp m md hm
  · rw [pgP_sa h] at hp
    rw [h.2.1]
    obtain ⟨a, b, c⟩ := f3 p y hp
    exact ⟨a, b, fun x hx => by obtain ⟨c', hc'⟩ := c x hx; exact ⟨c', by rw [pgCl_sa h]; exact hc'⟩⟩
  · rw [pgCl_sa h] at hc
    obtain ⟨k1, k2, k3, k4⟩ := hk a
    rw [k1, k3, k4, h.1, h.2.1, h.2.2.1]
    obtain ⟨g1, g2, g3, g4, g5, g6⟩ := f4 c a hc
    refine ⟨g1, g2, g3, ⟨g4.1, fun p y hp => g4.2 p y (by rw [pgP_sa h] at hp; exact hp)⟩, g5, fun g hg => ?_⟩
    obtain ⟨q1, q2, q3, q4⟩ := g6 g hg
    refine ⟨q1, ?_, fun hh => ?_, q4⟩
    · unfold gOkC at q2 ⊢
      rw [pC_ar_sa h]
      exact q2
    · rw [pgP_sa h]
      exact q3 hh
/-- a program that is compiled -/
def cpF (R : pgR) : Prop := pF R ∧ mmFa (pgC R) (gdR R) ∧ mkF R ∧ flI R.2.2.1.2.1 R ∧ pgN R
theorem pF_M2 {R : pgR} (hF : pF R) (hcl : ∀ c, c ∈ R.2.2.1.2.2 → clAr (R.2.2.2.2.2.1 c)) (hms : ∀ y, y ∈ R.2.2.1.2.1 → ∃ m : Nat, (R.2.2.2.1 (R.2.2.2.2.1 y).1).2.2.1.2[m]? = some y) (hN : pgN R) : pgM2 R := by
  refine ⟨fun y y' hy hy' e e' => ?_, fun p p' c hp hp' hc hc' => ?_, fun p hp => ?_⟩
  · obtain ⟨m, hm⟩ := hms y hy
    obtain ⟨m', hm'⟩ := hms y' hy'
    obtain ⟨p, hp⟩ := pgP_mem (hN y hy).1
    obtain ⟨p', hp'⟩ := pgP_mem (hN y' hy').1
    have a1 := (hF.2.1 p _ hp m y hm).2.2.1
    have a2 := (hF.2.1 p' _ hp' m' y' hm').2.2.1
    rw [← e] at hm'
    have : m = m' := by omega
    rw [this, hm'] at hm
    exact (Option.some.inj hm).symm
  · obtain ⟨q, hq⟩ := pgP_mem hp
    obtain ⟨q', hq'⟩ := pgP_mem hp'
    obtain ⟨k, hk⟩ := (hF.2.2.1 q p hq).2.2 c hc
    obtain ⟨-, -, -, f, -⟩ := hF.2.2.2 k c hk
    rw [← f.2 q p hq hc, ← f.2 q' p' hq' hc']
  · obtain ⟨q, hq⟩ := pgP_mem hp
    obtain ⟨k1, k2, k3⟩ := hF.2.2.1 q p hq
    refine ⟨k1, by have := (hF.1 q p hq).2.2.1; omega, fun c hc => ?_⟩
    obtain ⟨k, hk⟩ := k3 c hc
    exact ⟨hcl c (List.mem_of_getElem? hk), (hF.2.2.2 k c hk).2.2.2.2.1⟩
/-- the compiler makes such a program -/
theorem anW_cp {pg : Nat} {w : zW} {R : pgR} (hF : pF R) (hP : pgW w pg R) (hO : pgO R) (hN : pgN R) (hL : pgL R) (hnd : R.2.2.1.2.1.Nodup) (hms : ∀ y, y ∈ R.2.2.1.2.1 → ∃ m : Nat, (R.2.2.2.1 (R.2.2.2.2.1 y).1).2.2.1.2[m]? = some y) (hA : ordA R) (R' : pgR) (hR' : R' = (anW C3 R.2.2.1.2.1 w R).2) :
    cpF R' ∧ pgSa R R' ∧ (∀ y, (R'.2.2.2.2.1 y).1 = (R.2.2.2.2.1 y).1 ∧ (R'.2.2.2.2.1 y).2.1 = (R.2.2.2.2.1 y).2.1) ∧ anK pg w R (anW C3 R.2.2.1.2.1 w R).1 R' := by
  have hcl : ∀ c, c ∈ R.2.2.1.2.2 → clAr (R.2.2.2.2.2.1 c) := fun c hc => clV_len (hP.2.2.2.2.2.2 c hc).1
  have hM := pF_M2 hF hcl hms hN
  obtain ⟨a1, a2, a3, a4, a5⟩ := anW_ok (C := C3) (w := w) (R := R) rfl hnd hN hM R' hR'
  have k1 := an1_keep (pg := pg) (l := R.2.2.1.2.1) hP hO hN hL (fun y hy => hy)
  have k2 := sf2_keep (Ms := R.2.2.1.2.1) (n := R.2.2.1.2.1.length + 1) (b := true) k1.2.1 k1.2.2.1 k1.2.2.2.1 k1.2.2.2.2.1 (by rw [k1.2.2.2.2.2])
  have k3 := sf3_keep (C := C3) (Ms := R.2.2.1.2.1) (n := 2 * R.2.2.1.2.1.length + 1) (b := true) k2.2.1 k2.2.2.1 k2.2.2.2.1 k2.2.2.2.2.1 (by rw [k2.2.2.2.2.2, k1.2.2.2.2.2])
  have hK : anK pg w R (anW C3 R.2.2.1.2.1 w R).1 (anW C3 R.2.2.1.2.1 w R).2 := anK_tr k1 (anK_tr k2 k3)
  have hF' := pF_sa a1 a2 (fun c => (a3 c).1) hF
  have hgo : ∀ c, c ∈ R.2.2.1.2.2 → ∀ g, g ∈ (R.2.2.2.2.2.1 c).2.2.2.1.2 → gOk (R.2.2.2.2.2.2 g) := fun c hc g hg => by
    obtain ⟨k, hk⟩ := List.getElem?_of_mem hc
    exact ((hF.2.2.2 k c hk).2.2.2.2.2 g hg).1
  obtain ⟨b1, b2⟩ := anW_pt (C := C3) (w := w) (R := R) rfl hnd hN hM hA hK.2.2.1 hgo (fun p hp a ha => by
    obtain ⟨q, hq⟩ := pgP_mem hp
    obtain ⟨k, hk⟩ := (hF.2.2.1 q p hq).2.2 a ha
    exact List.mem_of_getElem? hk)
  rw [← hR'] at b1 b2 hK
  refine ⟨⟨hF', pC_fa hF' (fun p m md hm hg => a5 md ?_ hg), pF_mkF hF' b1 (fun y hy => b2 y (by rw [a1.1] at hy; exact hy)), by rw [a1.1]; exact a4, hK.2.2.2.1⟩, a1, a2, hK⟩
  rw [pgMo_sa a1] at hm
  cases hp : pgP R p with
  | none => unfold pgMo at hm; rw [hp] at hm; cases hm
  | some y =>
    exact (hF.2.1 p y hp m md (by unfold pgMo at hm; rw [hp] at hm; exact hm)).1
