/-! Own rows: a goal more; a program compiled. By hand; nothing of the bytecode. -/
theorem pgI_NG {R : pgR} {c g : Nat} {T : List (List Int)} {gr : goR} (h : pgI R) (hc : c ∈ R.2.2.1.2.2) (hg : ∀ y, y ∈ R.2.2.1.2.2 → g ∉ (R.2.2.2.2.2.1 y).2.2.2.1.2) (hl : (R.2.2.2.2.2.1 c).2.2.2.1.2.length < 5) (ho : gOk gr) (hoc : gOkC (pgC R) (gL gr)) (hsub : 2 ≤ (gL gr).1 → ∃ y, pgP R (gL gr).2.1 = some y) (hT1 : ∀ k : Nat, tg (R.2.2.2.2.2.1 c).2.2.1 (k : Int) 0 ≠ -1 → tg T (k : Int) 0 ≠ -1) (hT2 : ∀ k, k < (gL gr).2.2.1 → (R.2.2.2.1 (R.2.2.2.2.2.1 c).1.2).2.1.length ≤ smv (gL gr) k → tg T ((smv (gL gr) k : Nat) : Int) 0 ≠ -1) : pgI (pgNG R c g T gr) := by
  obtain ⟨hF, hO, hN, hL, hA, hnd, hms, ⟨k1, k2, k3, k4, k5⟩⟩ := h
  obtain ⟨R', hR'⟩ : ∃ R', R' = pgNG R c g T gr := ⟨_, rfl⟩
  rw [← hR']
  have e1 : R'.2.2.1 = R.2.2.1 := by rw [hR']; rfl
  have e2 : R'.2.2.2.1 = R.2.2.2.1 := by rw [hR']; rfl
  have e5 : R'.2.2.2.2.1 = R.2.2.2.2.1 := by rw [hR']; rfl
  have e6 : R'.2.1 = R.2.1 := by rw [hR']; rfl
  have e7 : ∀ z, z ≠ c → R'.2.2.2.2.2.1 z = R.2.2.2.2.2.1 z := fun z hz => by rw [hR']; exact if_neg hz
  have e8 : R'.2.2.2.2.2.1 c = ngR (R.2.2.2.2.2.1 c) g T := by rw [hR']; exact if_pos rfl
  have e9 : ∀ z, z ≠ g → R'.2.2.2.2.2.2 z = R.2.2.2.2.2.2 z := fun z hz => by rw [hR']; exact if_neg hz
  have e10 : R'.2.2.2.2.2.2 g = gr := by rw [hR']; exact if_pos rfl
  clear hR'
  have hPe : ∀ q, pgP R' q = pgP R q := fun q => by unfold pgP; rw [e1]
  have hCe : ∀ q, pgCl R' q = pgCl R q := fun q => by unfold pgCl; rw [e1]
  have hG : pgG R R' := ⟨fun q z hq => by rw [hPe]; exact hq, fun z hz => by
      rw [e2]
      exact ⟨rfl, rfl, fun _ h => h⟩, fun q a hq => by rw [hCe]; exact hq, fun z hz => by
      rw [e1, e5]
      exact ⟨hz, rfl⟩⟩
  have hmo : ∀ z, z ∈ R.2.2.1.1 → ∃ l, (R'.2.2.2.1 z).2.2.1.2 = (R.2.2.2.1 z).2.2.1.2 ++ l := fun z hz => ⟨[], by rw [e2, List.append_nil]⟩
  have hold : ∀ a, a ∈ R.2.2.1.2.2 → ∀ x, x ∈ (R.2.2.2.2.2.1 a).2.2.2.1.2 → R'.2.2.2.2.2.2 x = R.2.2.2.2.2.2 x := fun a ha x hx => e9 x (fun q => hg a ha (q ▸ hx))
  have q1 : ∀ z, (R'.2.2.2.2.2.1 z).1 = (R.2.2.2.2.2.1 z).1 ∧ (R'.2.2.2.2.2.1 z).2.2.2.2 = (R.2.2.2.2.2.1 z).2.2.2.2 ∧ ∀ x, x ∈ (R.2.2.2.2.2.1 z).2.2.2.1.2 → x ∈ (R'.2.2.2.2.2.1 z).2.2.2.1.2 := fun z => by
    by_cases q : z = c
    · rw [q, e8]
      exact ⟨rfl, rfl, fun x hx => List.mem_append_left _ hx⟩
    · rw [e7 z q]
      exact ⟨rfl, rfl, fun x hx => hx⟩
  have hin : ∀ z, z ∈ R.2.2.1.1 → ∀ a, a ∈ (R.2.2.2.1 z).2.2.2.2 → a ∈ R.2.2.1.2.2 := fun z hz a ha => by
    obtain ⟨q, hq⟩ := pgP_mem hz
    obtain ⟨k, hk⟩ := (hF.2.2.1 q z hq).2.2 a ha
    exact List.mem_of_getElem? hk
  refine ⟨pF_mk (fun q z hq => ?_) (fun k a hk => ?_), fun a ha => ?_, fun z hz => ?_, fun a ha => ?_, fun q hq a ha m hm => ?_, ?_, fun z hz => ?_, ⟨?_, ?_, ?_, fun z hz => ?_, fun a ha => ?_⟩⟩
  · rw [hPe] at hq
    have hz := List.mem_of_getElem? hq
    exact ⟨prA_keep hG hz (hF.1 q z hq), prB_keep hG hz (by rw [e2]) (hF.2.1 q z hq), prC_keep hG (by rw [e2]) (hF.2.2.1 q z hq)⟩
  · rw [hCe] at hk
    have ham := List.mem_of_getElem? hk
    by_cases qa : a = c
    · rw [qa] at hk ham ⊢
      obtain ⟨h1, h2, h3, ⟨h4, h5⟩, h6, h7⟩ := hF.2.2.2 k c hk
      have gar : ∀ gl : smL, gOkC (pgC R) gl → (2 ≤ gl.1 → ∃ y, pgP R gl.2.1 = some y) → gOkC (pgC R') gl := fun gl k1 k2 => gOkC_ar k1 (fun q => by
        obtain ⟨y, hy⟩ := k2 q
        exact ar_eq hy (hG.1 _ _ hy) (by rw [e2]))
      unfold clI
      rw [e8, e1, e2]
      refine ⟨h1, h2, h3, ⟨h4, fun q z hq ha => h5 q z (by rw [← hPe]; exact hq) ha⟩, ?_, fun x hx => ?_⟩
      · show ((R.2.2.2.2.2.1 c).2.2.2.1.2 ++ [g]).length ≤ 5
        rw [List.length_append, List.length_singleton]
        exact hl
      · rcases List.mem_append.mp hx with j | j
        · obtain ⟨g1, g2, g3, g4⟩ := h7 x j
          rw [hold c hc x j]
          exact ⟨g1, gar _ g2 g3, fun q => by
            obtain ⟨y, hy⟩ := g3 q
            exact ⟨y, hG.1 _ _ hy⟩, fun i hi hi2 => hT1 _ (g4 i hi hi2)⟩
        · rw [List.mem_singleton.mp j, e10]
          exact ⟨ho, gar _ hoc hsub, fun q => by
            obtain ⟨y, hy⟩ := hsub q
            exact ⟨y, hG.1 _ _ hy⟩, hT2⟩
    · exact clI_keep hG (e7 a qa) (hold a ham) (fun q z hq ha => ⟨q, by rw [← hPe]; exact hq, by rw [e2] at ha; exact ha⟩) (hF.2.2.2 k a hk)
  · rw [e1] at ha
    obtain ⟨a1, a2, a3⟩ := hO a ha
    rw [(q1 a).2.1, e1]
    exact ⟨fun x hx => (q1 a).2.2 x (a1 x hx), a2, a3⟩
  · rw [e1] at hz
    rw [e5, e1, e2]
    exact hN z hz
  · rw [e1] at ha
    by_cases qa : a = c
    · rw [qa, e8]
      show ((R.2.2.2.2.2.1 c).2.2.2.1.2 ++ [g]).length ≤ 5
      rw [List.length_append, List.length_singleton]
      exact hl
    · rw [e7 a qa]
      exact hL a ha
  · rw [e1] at hq
    rw [e2] at ha
    have ham := hin q hq a ha
    exact ordP_keep hG hmo (pF_B hF) (q1 a).2.1 (fun x hx => ⟨(q1 a).2.2 x hx, hold a ham x hx⟩) (hA q hq a ha m hm)
  · rw [e1]
    exact hnd
  · rw [e1] at hz
    rw [e5, e2]
    exact hms z hz
  · rw [e6, e1]
    exact k1
  · rw [e6, e1]
    exact k2
  · rw [e6, e1]
    exact k3
  · rw [e1] at hz
    rw [e2]
    exact k4 z hz
  · rw [e1] at ha
    by_cases qa : a = c
    · rw [qa, e8]
      exact lcI_add (k5 c hc) (by omega)
    · rw [e7 a qa]
      exact k5 a ha
/-- what the compiler leaves: the counters, the lists' addresses and rooms -/
def anH (w : zW) (R : pgR) (w' : zW) (R' : pgR) : Prop := w'.2 = w.2 ∧ R'.1 = R.1 ∧ R'.2.1 = R.2.1
theorem anH_tr {w w1 w2 : zW} {R R1 R2 : pgR} (h : anH w R w1 R1) (k : anH w1 R1 w2 R2) : anH w R w2 R2 := ⟨k.1.trans h.1, k.2.1.trans h.2.1, k.2.2.trans h.2.2⟩
theorem pioS_h {m : Nat} {ins : Int} {pr : Nat} : ∀ (cs : List Nat) (b : Bool) (w : zW) (R : pgR), anH w R (pioS m ins pr cs b w R).2.1 (pioS m ins pr cs b w R).2.2
  | [], _, _, _ => ⟨rfl, rfl, rfl⟩
  | c :: cs, b, w, R => by
    rw [pioS_c]
    exact anH_tr ⟨rfl, rfl, rfl⟩ (pioS_h cs _ _ _)
theorem anS_h {w : zW} {R : pgR} {r : moR} {y : Nat} {P : Bool × zW × pgR} (h : anH w R P.2.1 P.2.2) : anH w R (anS w R r y P).1 (anS w R r y P).2 := anH_tr h ⟨rfl, rfl, rfl⟩
theorem an1_h : ∀ (l : List Nat) (w : zW) (R : pgR), anH w R (an1 l w R).1 (an1 l w R).2
  | [], _, _ => ⟨rfl, rfl, rfl⟩
  | y :: l, w, R => by
    rw [an1_c]
    exact anH_tr (anS_h (pioS_h _ _ _ _)) (an1_h l _ _)
theorem spF_h : ∀ (l : List Nat) (b : Bool) (w : zW) (R : pgR), anH w R (spF l b w R).2.1 (spF l b w R).2.2
  | [], _, _, _ => ⟨rfl, rfl, rfl⟩
  | y :: l, b, w, R => by
    by_cases hb : (R.2.2.2.2.1 y).2.2.2.2.2.1 ≠ 0 ∧ badM R y = true
    · rw [spF_y hb]
      exact anH_tr ⟨rfl, rfl, rfl⟩ (spF_h l _ _ _)
    · rw [spF_n hb]
      exact spF_h l _ _ _
theorem spG_h {C : List (List Int)} : ∀ (l : List Nat) (b : Bool) (w : zW) (R : pgR), anH w R (spG C l b w R).2.1 (spG C l b w R).2.2
  | [], _, _, _ => ⟨rfl, rfl, rfl⟩
  | y :: l, b, w, R => by
    rw [spG_c]
    exact anH_tr ⟨rfl, rfl, rfl⟩ (spG_h l _ _ _)
theorem sf2_h {Ms : List Nat} : ∀ (n : Nat) (b : Bool) (w : zW) (R : pgR), anH w R (sf2 Ms n b w R).1 (sf2 Ms n b w R).2
  | 0, _, _, _ => ⟨rfl, rfl, rfl⟩
  | n + 1, true, w, R => by
    rw [sf2_t]
    exact anH_tr (spF_h Ms _ _ _) (sf2_h n _ _ _)
  | n + 1, false, w, R => by
    rw [sf2_f]
    exact ⟨rfl, rfl, rfl⟩
theorem sf3_h {C : List (List Int)} {Ms : List Nat} : ∀ (n : Nat) (b : Bool) (w : zW) (R : pgR), anH w R (sf3 C Ms n b w R).1 (sf3 C Ms n b w R).2
  | 0, _, _, _ => ⟨rfl, rfl, rfl⟩
  | n + 1, true, w, R => by
    rw [sf3_t]
    exact anH_tr (spG_h Ms _ _ _) (sf3_h n _ _ _)
  | n + 1, false, w, R => by
    rw [sf3_f]
    exact ⟨rfl, rfl, rfl⟩
theorem anW_h {C : List (List Int)} {Ms : List Nat} {w : zW} {R : pgR} : anH w R (anW C Ms w R).1 (anW C Ms w R).2 := anH_tr (an1_h Ms w R) (anH_tr (sf2_h _ _ _ _) (sf3_h _ _ _ _))
/-- a compiled program is a program -/
theorem anW_I {pg : Nat} {w : zW} {R : pgR} (h : pgI R) (hP : pgW w pg R) (w' : zW) (R' : pgR) (hw' : w' = (anW C3 R.2.2.1.2.1 w R).1) (hR' : R' = (anW C3 R.2.2.1.2.1 w R).2) :
    pgI R' ∧ cpF R' ∧ pgSa R R' ∧ (∀ y, (R'.2.2.2.2.1 y).1 = (R.2.2.2.2.1 y).1 ∧ (R'.2.2.2.2.1 y).2.1 = (R.2.2.2.2.1 y).2.1) ∧ pgW w' pg R' ∧ zFr T5 w w' ∧ w'.2 = w.2 := by
  obtain ⟨hF, hO, hN, hL, hA, hnd, hms, ⟨k1, k2, k3, k4, k5⟩⟩ := h
  obtain ⟨c1, c2, c3, c4⟩ := anW_cp hF hP hO hN hL hnd hms hA R' hR'
  rw [← hw'] at c4
  obtain ⟨d1, d2, d3, d4, d5, d6⟩ := c4
  obtain ⟨h1, h2, h3⟩ := anW_h (C := C3) (Ms := R.2.2.1.2.1) (w := w) (R := R)
  rw [← hw'] at h1
  rw [← hR'] at h2 h3
  have hcl : ∀ c, c ∈ R.2.2.1.2.2 → clAr (R.2.2.2.2.2.1 c) := fun c hc => clV_len (hP.2.2.2.2.2.2 c hc).1
  have hM := pF_M2 hF hcl hms hN
  obtain ⟨-, -, a3, -⟩ := anW_ok (C := C3) (w := w) (R := R) rfl hnd hN hM R' hR'
  have hgo : ∀ c, c ∈ R.2.2.1.2.2 → ∀ g, g ∈ (R.2.2.2.2.2.1 c).2.2.2.1.2 → gOk (R.2.2.2.2.2.2 g) := fun c hc g hg => by
    obtain ⟨k, hk⟩ := List.getElem?_of_mem hc
    exact ((hF.2.2.2 k c hk).2.2.2.2.2 g hg).1
  have hA' : ordA R' := by
    rw [hR'] at d3 ⊢
    exact (anW_pt (C := C3) (w := w) (R := R) rfl hnd hN hM hA d3 hgo (fun p hp a ha => by
      obtain ⟨q, hq⟩ := pgP_mem hp
      obtain ⟨k, hk⟩ := (hF.2.2.1 q p hq).2.2 a ha
      exact List.mem_of_getElem? hk)).1
  have e2 := c2.2.1
  refine ⟨⟨c1.1, d3, d4, d5, hA', by rw [d6]; exact hnd, fun y hy => ?_, ⟨?_, ?_, ?_, fun y hy => ?_, fun c hc => ?_⟩⟩, c1, c2, c3, d2, d1, h1⟩
  · rw [d6] at hy
    rw [(c3 y).1, e2]
    exact hms y hy
  · rw [h3, d6]
    exact k1
  · rw [h3, d6]
    exact k2
  · rw [h3, d6]
    exact k3
  · rw [d6] at hy
    rw [e2]
    exact k4 y hy
  · rw [d6] at hc
    rw [(a3 c).1.2.2.2]
    exact k5 c hc
