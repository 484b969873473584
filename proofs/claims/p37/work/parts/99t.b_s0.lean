/-! Own rows: BREADTH: what stands at the start. By hand; nothing of the bytecode. -/
theorem getD_of {T : Type} {l : List T} {n : Nat} {x d : T} (h : l[n]? = some x) : l.getD n d = x := by
  rw [List.getD_eq_getElem?_getD, h]
  rfl
section BS0
variable {C : mmC} {pv : Nat → Prop} {TN TH : List (List Int)} {TS : List Int} {tm : List smG} {inp : Nat → Option Nat} {p ar : Nat}
theorem tN_len : (tN TN).length = TN.length := by
  unfold tN
  rw [List.length_map, List.length_range]
theorem st_tn (htm : tmR TN TH TS tm) {n : Nat} {g : smG} (h : tm[n]? = some g) : ∃ f, (tN TN)[n]? = some (some (smHd g), f) ∧ (0 < g.1 → f < n ∧ tm[f]? = some (g.1 - 1, g.2)) := by
  obtain ⟨-, h2, -, -, -, h6⟩ := htm
  obtain ⟨-, ⟨f, nx, q1, q2, q3⟩, -⟩ := h6 n g h
  have hl : n < TN.length := (List.getElem?_eq_some_iff.mp q1).1
  refine ⟨f, ?_, q3⟩
  unfold tN
  rw [List.getElem?_map, List.getElem?_range hl]
  show some (some (tg TN (n : Int) 0).toNat, (tg TN (n : Int) 1).toNat) = _
  have e0 : tg TN (n : Int) 0 = (smHd g : Int) := tg_at (j := 0) q1
  have e1 : tg TN (n : Int) 1 = (f : Int) := tg_at (j := 1) q1
  rw [e0, e1]
  rfl
theorem st_ex (htm : tmR TN TH TS tm) {n : Nat} (h : n < TN.length) : ∃ g, tm[n]? = some g := ⟨_, List.getElem?_eq_getElem (by rw [← htm.2.1]; exact h)⟩
theorem st_hd (htm : tmR TN TH TS tm) {n : Nat} {g : smG} (h : tm[n]? = some g) : bhd (bgR inp (List.range ar) (tN TN) []).1 n = some (smHd g) ∧ (0 < g.1 → bfs (bgR inp (List.range ar) (tN TN) []).1 n < n ∧ tm[bfs (bgR inp (List.range ar) (tN TN) []).1 n]? = some (g.1 - 1, g.2)) := by
  obtain ⟨f, q1, q2⟩ := st_tn htm h
  have hp := (bgR_pre (inp := inp) (List.range ar) (tN TN) []).1
  obtain ⟨a, b⟩ := bhd_at (bPre_some hp q1)
  rw [a, b]
  exact ⟨rfl, q2⟩
theorem st_in (htm : tmR TN TH TS tm) {n c : Nat} (h : bhd (bgR inp (List.range ar) (tN TN) []).1 n = some c) : ∃ g, tm[n]? = some g ∧ c = smHd g := by
  by_cases hl : n < TN.length
  · obtain ⟨g, hg⟩ := st_ex htm hl
    refine ⟨g, hg, ?_⟩
    rw [(st_hd htm hg).1] at h
    exact (Option.some.inj h).symm
  · rw [bgR_hd _ _ _ _ (by rw [tN_len]; omega)] at h
    cases h
theorem smHd_1 {g : smG} (h : g.2 = 0 ∨ g.2 = 2) : smHd g = 1 ↔ 0 < g.1 := by
  unfold smHd
  by_cases c : g.1 = 0
  · rw [if_pos c]
    omega
  · rw [if_neg c]
    omega
theorem st_tW (htm : tmR TN TH TS tm) (h0 : 0 < TN.length) (hin : ∀ k v, inp k = some v → v < TN.length) {Ce : List (Nat × Nat × Option Nat)} : tW TN.length (((bgR inp (List.range ar) (tN TN) []).1, (bgR inp (List.range ar) (tN TN) []).2, Ce), [], []) := by
  obtain ⟨p1, p2, p3, p4⟩ := bgR_pre (inp := inp) (List.range ar) (tN TN) []
  refine ⟨fun n hn => ?_, ⟨h0, ?_⟩, fun n hn => ?_, fun i n hi => ?_, fun l e he => by cases he⟩
  · obtain ⟨g, hg⟩ := st_ex htm hn
    show bhd (bgR inp (List.range ar) (tN TN) []).1 n ≠ none
    rw [(st_hd htm hg).1]
    simp
  · have := bPre_len p1
    rw [tN_len] at this
    exact this
  · have hn : bhd (bgR inp (List.range ar) (tN TN) []).1 n = some 1 := hn
    obtain ⟨g, hg, e⟩ := st_in htm hn
    exact ((st_hd htm hg).2 ((smHd_1 (htm.2.2.2.2.2 n g hg).1).mp e.symm)).1
  · have hi : (bgR inp (List.range ar) (tN TN) []).2[i]? = some (some n) := hi
    have hil := (List.getElem?_eq_some_iff.mp hi).1
    rw [p4, List.length_range] at hil
    have hil : i < ar := by
      have : ([] : List (Option Nat)).length = 0 := rfl
      omega
    obtain ⟨n2, a, b, c⟩ := bgR_at (inp := inp) (List.range ar) (tN TN) [] i i (List.getElem?_range hil)
    have a : (bgR inp (List.range ar) (tN TN) []).2[0 + i]? = some (some n2) := a
    rw [Nat.zero_add, hi] at a
    have e : n = n2 := Option.some.inj (Option.some.inj a)
    show n < (bgR inp (List.range ar) (tN TN) []).1.length
    cases hv : inp i with
    | none => rw [e]; exact (c hv).2
    | some v =>
      have h1 := b v hv
      have h2 := hin i v hv
      have h3 := bPre_len p1
      rw [tN_len] at h3
      omega
theorem st_val (htm : tmR TN TH TS tm) {ν : Nat → smG} (hs : bSt (bgR inp (List.range ar) (tN TN) []).1 ν) : ∀ n, n < TN.length → ν n = tm.getD n (0, 0) := by
  intro n
  induction n using Nat.strongRecOn with
  | _ n ih =>
    intro hn
    obtain ⟨g, hg⟩ := st_ex htm hn
    obtain ⟨q1, q2⟩ := st_hd (inp := inp) (ar := ar) htm hg
    obtain ⟨hc, -⟩ := htm.2.2.2.2.2 n g hg
    rw [hs n _ q1, getD_of hg]
    by_cases c : 0 < g.1
    · obtain ⟨q3, q4⟩ := q2 c
      rw [ih _ q3 (by omega), getD_of q4, (smHd_1 hc).mpr c]
      show ((g.1 - 1) + 1, g.2) = g
      rw [show g.1 - 1 + 1 = g.1 by omega]
    · have e0 : g.1 = 0 := by omega
      have e1 : smHd g = g.2 := if_pos e0
      rw [e1]
      unfold smB
      rw [if_neg (by omega), ← e0]
theorem st_inj (htm : tmR TN TH TS tm) : ∀ a b, a < TN.length → b < TN.length → tm.getD a (0, 0) = tm.getD b (0, 0) → a = b := fun a b ha hb h => by
  obtain ⟨x, hx⟩ := st_ex htm ha
  obtain ⟨y, hy⟩ := st_ex htm hb
  rw [getD_of hx, getD_of hy] at h
  rw [h] at hx
  exact nd_inj htm.2.2.1 hx hy
def inV (tm : List smG) (inp : Nat → Option Nat) (k : Nat) : Option smG := (inp k).bind fun v => tm[v]?
theorem inV_none (htm : tmR TN TH TS tm) (hin : ∀ k v, inp k = some v → v < TN.length) {k : Nat} : inV tm inp k = none ↔ inp k = none := by
  unfold inV
  cases hv : inp k with
  | none => exact ⟨fun _ => rfl, fun _ => rfl⟩
  | some v =>
    obtain ⟨g, hg⟩ := st_ex htm (hin k v hv)
    show tm[v]? = none ↔ _
    rw [hg]
    simp
theorem st_V (htm : tmR TN TH TS tm) (hin : ∀ k v, inp k = some v → v < TN.length) : ∀ k, k < ar → ∃ n, bNo (bgR inp (List.range ar) (tN TN) []).2 0 k = some n ∧ (∀ u, inV tm inp k = some u → n < TN.length ∧ tm.getD n (0, 0) = u) ∧ (inV tm inp k = none → bhd (bgR inp (List.range ar) (tN TN) []).1 n = none) := fun k hk => by
  obtain ⟨n, a, b, c⟩ := bgR_at (inp := inp) (List.range ar) (tN TN) [] k k (List.getElem?_range hk)
  refine ⟨n, bNo_iff.mpr a, fun u hu => ?_, fun h => ?_⟩
  · unfold inV at hu
    cases hv : inp k with
    | none => rw [hv] at hu; cases hu
    | some v =>
      rw [hv] at hu
      have hu : tm[v]? = some u := hu
      rw [b v hv]
      exact ⟨hin k v hv, getD_of hu⟩
  · rw [inV_none htm hin] at h
    have h1 := (c h).1
    exact bgR_hd _ _ _ _ h1
theorem st_Vi (htm : tmR TN TH TS tm) (hin : ∀ k v, inp k = some v → v < TN.length) : ∀ k k' n, k < ar → k' < ar → inV tm inp k = none → bNo (bgR inp (List.range ar) (tN TN) []).2 0 k = some n → bNo (bgR inp (List.range ar) (tN TN) []).2 0 k' = some n → k = k' := fun k k' n hk hk' h e e' =>
  bgR_df (inp := inp) (List.range ar) (tN TN) [] (fun a v _ hv => by rw [tN_len]; exact hin a v hv) k k' k k' n (List.getElem?_range hk) (List.getElem?_range hk') ((inV_none htm hin).mp h) (bNo_iff.mp e) (bNo_iff.mp e')
theorem st_inv (htm : tmR TN TH TS tm) (h0 : 0 < TN.length) (hin : ∀ k v, inp k = some v → v < TN.length) (hA3 : C.1.2 p ≤ 3) (hp : pv p) :
    cInv C pv TN.length (TN.length + 3) (((bgR inp (List.range (C.1.2 p)) (tN TN) []).1, (bgR inp (List.range (C.1.2 p)) (tN TN) []).2, [(60 + p, 0, none)]), ([], [(none, (0, 0), some 0, none, 0)], 0), [], [], (0, 0)) := by
  obtain ⟨p1, p2, p3, p4⟩ := bgR_pre (inp := inp) (List.range (C.1.2 p)) (tN TN) []
  rw [List.length_range] at p3 p4
  rw [tN_len] at p3
  have p4 : (bgR inp (List.range (C.1.2 p)) (tN TN) []).2.length = 0 + C.1.2 p := p4
  have hw := st_tW (ar := C.1.2 p) htm h0 hin (Ce := [(60 + p, 0, none)])
  refine ⟨⟨⟨hw, fun en hen => ?_, fun l hl => (by cases hl), rfl⟩, fun e he => (by cases he), fun l hl => absurd hl (Nat.not_lt_zero _), fun en hen => ?_⟩, ⟨fun c e he => ?_, fun en hen => ?_, fun l hl => (by cases hl), trivial, Nat.zero_le _⟩, ⟨?_, ?_, ?_⟩, ⟨⟨fun en hen => ?_, fun l hl => (by cases hl)⟩, ?_⟩, fun n c hn => ?_, Nat.zero_le _⟩
  · rw [List.mem_singleton.mp hen]
    exact ⟨fun q hq => (by cases hq), Nat.le_refl _, Nat.zero_le _⟩
  · rw [List.mem_singleton.mp hen]
    have e0 : enP (tS (((bgR inp (List.range (C.1.2 p)) (tN TN) []).1, (bgR inp (List.range (C.1.2 p)) (tN TN) []).2, [(60 + p, 0, none)]), ([], [(none, (0, 0), some 0, none, 0)], 0), [], [], (0, 0))) (none, (0, 0), some 0, none, 0) = [] := by
      show ([] : List (Nat × Nat)) ++ bPb [] [] 150 none = []
      rw [bPb_none]
      rfl
    rw [e0]
    exact ⟨b_empty hw.2.2.1, List.nodup_nil⟩
  · cases c with
    | succ c => cases he
    | zero =>
      have he : ((60 + p, 0, none) : Nat × Nat × Option Nat) = e := by simpa using he
      subst he
      refine ⟨⟨smQ p (C.1.2 p), ?_, ⟨?_, hA3, (fun h => by cases h), (fun h => by cases h), fun _ => rfl⟩, fun k hk => ?_⟩, fun _ => ?_⟩
      · unfold bG
        rw [if_pos (by omega), show 60 + p - 60 = p by omega]
      · show 2 ≤ 3
        decide
      · have hk : k < C.1.2 p := hk
        rw [smQ_v (by omega)]
        obtain ⟨n, hn, -⟩ := st_V (ar := C.1.2 p) htm hin k hk
        exact ⟨n, hn⟩
      · show pv (60 + p - 60)
        rw [show 60 + p - 60 = p by omega]
        exact hp
  · have hen : en ∈ [((none, (0, 0), some 0, none, 0) : bEn)] := hen
    rw [List.mem_singleton.mp hen]
    intro cc hc
    cases hc
  · show 1 + 0 + 0 ≤ 1 + 2 * 0
    decide
  · show (bgR inp (List.range (C.1.2 p)) (tN TN) []).1.length + 0 ≤ TN.length + 3 + 9 * 0
    omega
  · show (bgR inp (List.range (C.1.2 p)) (tN TN) []).2.length + 0 ≤ 3 + 11 * 0
    omega
  · have hen : en ∈ [((none, (0, 0), some 0, none, 0) : bEn)] := hen
    rw [List.mem_singleton.mp hen]
    exact ⟨[0], ⟨rfl, (60 + p, 0, none), rfl, rfl⟩, Nat.le_refl _⟩
  · show 2 * 1 ≤ 2 + 0
    decide
  · obtain ⟨g, hg, e⟩ := st_in htm hn
    have := (htm.2.2.2.2.2 n g hg).1
    rw [e]
    unfold smHd
    split <;> omega
end BS0
