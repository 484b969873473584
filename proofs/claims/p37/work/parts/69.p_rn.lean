/-! Own rows: THE MACHINE ENDS: a measure that every turn makes less; what a turn asks for. By hand; nothing of the bytecode. -/
/-- the denied calls that are not over -/
def dlR (fr : List mmF) : Nat → Option Nat → Prop
  | 0, den => den = none
  | n + 1, den => ∃ d, den = some d ∧ d < fr.length ∧ dlR fr n (mmf fr d).2.2.2.1
def mCh (C : mmC) (fr : List mmF) : mmH → Nat
  | [] => 0
  | c :: ch => ((C.1.1.1 (mmf fr c.1).1.1).length - c.2.1) + mCh C fr ch
def curD (fr : List mmF) : Option Nat → Nat
  | none => 0
  | some i => (mmf fr i).2.1.2.2 + 1
def mPh (C : mmC) (n : Nat) : mmS → Nat
  | ((fr, _, _, ch, _), (cur, _, _, fl), _, (_, ns, _, _), _) => 386 * (300 - ns) + 32 * mCh C fr ch + 32 * n + (if fl = true then 0 else curD fr cur)
def rN (C : mmC) (x : Nat) : mmS → Prop
  | ((fr, cls, V, ch, T), (cur, pl, den, fl), tm, (na, ns, nc, dp), nt) =>
    ∃ n, dlR fr n den ∧ mPh C n ((fr, cls, V, ch, T), (cur, pl, den, fl), tm, (na, ns, nc, dp), nt) ≤ x ∧ T.length + 3 * x ≤ 349000 ∧ fr.length ≤ ns + 1 ∧ ns ≤ 300 ∧ ch.length ≤ ns + 1 ∧ nc ≤ ns + 1 ∧ (∀ j, j < fr.length → 1 ≤ (mmf fr j).2.1.2.2 ∧ (mmf fr j).2.1.2.2 ≤ 30 ∧ (mmf fr j).2.1.2.1 ≤ 4 ∧ ∀ i, (mmf fr j).2.1.1 = some i → i < fr.length) ∧ pl ≤ 5 ∧ (∀ e, e ∈ ch → e.1 < fr.length) ∧ ∀ i, cur = some i → i < fr.length
theorem mm_ap {fr : List mmF} {f : mmF} {i : Nat} (h : i < fr.length) : mmf (fr ++ [f]) i = mmf fr i := by
  unfold mmf
  rw [List.getD_eq_getElem?_getD, List.getElem?_append_left h, ← List.getD_eq_getElem?_getD]
theorem mm_nw {fr : List mmF} {f : mmF} : mmf (fr ++ [f]) fr.length = f := by
  unfold mmf
  rw [List.getD_eq_getElem?_getD]
  simp
theorem dlR_app {fr : List mmF} {f : mmF} : ∀ (n : Nat) (den : Option Nat), dlR fr n den → dlR (fr ++ [f]) n den
  | 0, _, h => h
  | n + 1, _, ⟨d, h1, h2, h3⟩ => ⟨d, h1, by rw [List.length_append]; omega, by rw [mm_ap h2]; exact dlR_app n _ h3⟩
theorem mCh_app {C : mmC} {fr : List mmF} {f : mmF} : ∀ (ch : mmH), (∀ e, e ∈ ch → e.1 < fr.length) → mCh C (fr ++ [f]) ch = mCh C fr ch
  | [], _ => rfl
  | c :: ch, h => by
    unfold mCh
    rw [mm_ap (h c List.mem_cons_self), mCh_app ch (fun e he => h e (List.mem_cons_of_mem _ he))]
theorem mCh_drop {C : mmC} {fr : List mmF} : ∀ (ch : mmH) (n : Nat), mCh C fr (ch.drop n) ≤ mCh C fr ch
  | [], n => by rw [List.drop_nil]; exact Nat.le_refl _
  | c :: ch, 0 => Nat.le_refl _
  | c :: ch, n + 1 => by
    have := mCh_drop ch n (C := C) (fr := fr)
    rw [List.drop_succ_cons]
    show mCh C fr (ch.drop n) ≤ ((C.1.1.1 (mmf fr c.1).1.1).length - c.2.1) + mCh C fr ch
    omega
section RN
variable {C : mmC} {Gd : Nat × Nat → Prop}
theorem rn_cur {fr : List mmF} (h : ∀ j, j < fr.length → 1 ≤ (mmf fr j).2.1.2.2 ∧ (mmf fr j).2.1.2.2 ≤ 30 ∧ (mmf fr j).2.1.2.1 ≤ 4 ∧ ∀ i, (mmf fr j).2.1.1 = some i → i < fr.length) {cur : Option Nat} (hc : ∀ i, cur = some i → i < fr.length) : curD fr cur ≤ 31 := by
  cases cur with
  | none => exact Nat.zero_le _
  | some i =>
    have := (h i (hc i rfl)).2.1
    show (mmf fr i).2.1.2.2 + 1 ≤ 31
    omega
theorem rn_pop {x : Nat} {fr : List mmF} {cls : Nat → Option Nat} {V : mmV} {ch : mmH} {T : mmT} {cur den : Option Nat} {pl na ns nc dp : Nat} {fl : Bool} {tm : List smG} {nt : List (Nat × Nat)} {S' : mmS}
    (hR : rN C x ((fr, cls, V, ch, T), (cur, pl, den, fl), tm, (na, ns, nc, dp), nt)) (hx : 0 < x) (hpop : ∀ f k t0 ch1, ch = (f, k, t0) :: ch1 → t0 ≤ T.length ∧ k < (C.1.1.1 (mmf fr f).1.1).length)
    (h : mmPop C ((fr, cls, V, ch, T), (cur, pl, den, fl), tm, (na, ns, nc, dp), nt) = .inl S') : rN C (x - 1) S' := by
  cases ch with
  | nil => cases h
  | cons e ch1 =>
    obtain ⟨f, k, t0⟩ := e
    obtain ⟨ht, hk⟩ := hpop f k t0 ch1 rfl
    cases h
    obtain ⟨n, h1, h2, h3, h4, h5, h6, h7, h8, h9, h10, h11⟩ := hR
    have hf := h10 (f, k, t0) List.mem_cons_self
    have hd := h8 f hf
    have hlen : ch1.length + 1 ≤ ns + 1 := h6
    refine ⟨n, h1, ?_, by rw [List.length_drop]; omega, h4, h5, ?_, h7, h8, Nat.zero_le _, ?_, fun i hi => by cases hi; exact hf⟩
    · have h2 : 386 * (300 - ns) + 32 * (((C.1.1.1 (mmf fr f).1.1).length - k) + mCh C fr ch1) + 32 * n + (if fl = true then 0 else curD fr cur) ≤ x := h2
      show 386 * (300 - ns) + 32 * mCh C fr (if k + 1 < (C.1.1.1 (mmf fr f).1.1).length then (f, k + 1, t0) :: ch1 else ch1) + 32 * n + ((mmf fr f).2.1.2.2 + 1) ≤ x - 1
      have e : mCh C fr (if k + 1 < (C.1.1.1 (mmf fr f).1.1).length then (f, k + 1, t0) :: ch1 else ch1) + 1 ≤ ((C.1.1.1 (mmf fr f).1.1).length - k) + mCh C fr ch1 := by
        by_cases c : k + 1 < (C.1.1.1 (mmf fr f).1.1).length
        · rw [if_pos c]
          show ((C.1.1.1 (mmf fr f).1.1).length - (k + 1)) + mCh C fr ch1 + 1 ≤ _
          omega
        · rw [if_neg c]
          omega
      omega
    · by_cases c : k + 1 < (C.1.1.1 (mmf fr f).1.1).length
      · rw [if_pos c]; exact hlen
      · rw [if_neg c]; omega
    · intro e he
      by_cases c : k + 1 < (C.1.1.1 (mmf fr f).1.1).length
      · rw [if_pos c] at he
        rcases List.mem_cons.mp he with q | q
        · rw [q]; exact hf
        · exact h10 e (List.mem_cons_of_mem _ q)
      · rw [if_neg c] at he
        exact h10 e (List.mem_cons_of_mem _ he)
theorem rn_back {x : Nat} {fr : List mmF} {cls : Nat → Option Nat} {V : mmV} {ch : mmH} {T : mmT} {cur den : Option Nat} {pl na ns nc dp : Nat} {fl : Bool} {tm : List smG} {nt : List (Nat × Nat)} {S' : mmS}
    (hR : rN C x ((fr, cls, V, ch, T), (cur, pl, den, fl), tm, (na, ns, nc, dp), nt)) (hx : 0 < x) (hpop : ∀ f k t0 ch1, ch = (f, k, t0) :: ch1 → t0 ≤ T.length ∧ k < (C.1.1.1 (mmf fr f).1.1).length)
    (h : mmBack C ((fr, cls, V, ch, T), (cur, pl, den, fl), tm, (na, ns, nc, dp), nt) = .inl S') : rN C (x - 1) S' := by
  cases den with
  | none => exact rn_pop hR hx hpop h
  | some d =>
    by_cases c : ch.length ≤ (mmf fr d).2.2.2.2
    · have e : mmBack C ((fr, cls, V, ch, T), (cur, pl, some d, fl), tm, (na, ns, nc, dp), nt) = .inl ((fr, cls, V, ch, T), ((mmf fr d).2.1.1, (mmf fr d).2.1.2.1 + 1, (mmf fr d).2.2.2.1, false), tm, (na, ns, nc, dp), nt) := if_pos c
      rw [e] at h
      cases h
      obtain ⟨n, h1, h2, h3, h4, h5, h6, h7, h8, h9, h10, h11⟩ := hR
      cases n with
      | zero => cases h1
      | succ n =>
        obtain ⟨d', e1, e2, e3⟩ := h1
        cases e1
        have hd := h8 d e2
        refine ⟨n, e3, ?_, by omega, h4, h5, h6, h7, h8, by omega, h10, fun i hi => hd.2.2.2 i hi⟩
        have hcm := rn_cur h8 (cur := (mmf fr d).2.1.1) (fun i hi => hd.2.2.2 i hi)
        have h2 : 386 * (300 - ns) + 32 * mCh C fr ch + 32 * (n + 1) + (if fl = true then 0 else curD fr cur) ≤ x := h2
        show 386 * (300 - ns) + 32 * mCh C fr ch + 32 * n + curD fr (mmf fr d).2.1.1 ≤ x - 1
        omega
    · have e : mmBack C ((fr, cls, V, ch, T), (cur, pl, some d, fl), tm, (na, ns, nc, dp), nt) = mmPop C ((fr, cls, V, ch, T), (cur, pl, some d, fl), tm, (na, ns, nc, dp), nt) := if_neg c
      rw [e] at h
      exact rn_pop hR hx hpop h
theorem mmHb_len {inp : Nat → Bool} {j i : Nat} {g : smL} : ∀ (ks : List Nat) (V : mmV) (T : mmT), (mmHb inp j i g ks V T).2.2.length ≤ T.length + ks.length
  | [], _, T => Nat.le_refl _
  | k :: ks, V, T => by
    by_cases c : inp k = true
    · rw [show mmHb inp j i g (k :: ks) V T = mmHb inp j i g ks V T from if_pos c]
      have := mmHb_len ks V T (inp := inp) (j := j) (i := i) (g := g)
      simp only [List.length_cons]
      omega
    · have e : mmHb inp j i g (k :: ks) V T = if (mmAg V T i (smv g k) (V j k)).1 = true then mmHb inp j i g ks (mmAg V T i (smv g k) (V j k)).2.1 (mmAg V T i (smv g k) (V j k)).2.2 else mmAg V T i (smv g k) (V j k) := if_neg c
      have hl := mmAg_len (V := V) (T := T) (i := i) (x := smv g k) (o := V j k)
      rw [e]
      simp only [List.length_cons]
      split
      · have := mmHb_len ks (mmAg V T i (smv g k) (V j k)).2.1 (mmAg V T i (smv g k) (V j k)).2.2 (inp := inp) (j := j) (i := i) (g := g)
        omega
      · omega
theorem rn_leave {x : Nat} {fr : List mmF} {cls : Nat → Option Nat} {V : mmV} {ch : mmH} {T : mmT} {den : Option Nat} {pl na ns nc dp j : Nat} {tm : List smG} {nt : List (Nat × Nat)} {S' : mmS}
    (hR : rN C x ((fr, cls, V, ch, T), (some j, pl, den, false), tm, (na, ns, nc, dp), nt)) (hx : 0 < x) (hden : (mmf fr j).2.2.1 = true → (mmf fr j).2.1.1 ≠ none → den = some j) (hdp : ∀ i, (mmf fr j).2.1.1 = some i → (mmf fr j).2.1.2.2 = (mmf fr i).2.1.2.2 + 1) (hcnt : ∀ i, (mmf fr j).2.1.1 = some i → (mmBy C fr cls j i).2.2.1 ≤ 3)
    (h : mmLeave C j ((fr, cls, V, ch, T), (some j, pl, den, false), tm, (na, ns, nc, dp), nt) = .inl S') : rN C (x - 1) S' := by
  obtain ⟨n, h1, h2, h3, h4, h5, h6, h7, h8, h9, h10, h11⟩ := hR
  have hj := h8 j (h11 j rfl)
  have h2 : 386 * (300 - ns) + 32 * mCh C fr ch + 32 * n + ((mmf fr j).2.1.2.2 + 1) ≤ x := h2
  cases hcal : (mmf fr j).2.1.1 with
  | none =>
    by_cases c : 50 ≤ na
    · rw [mmLeave_0 hcal c] at h; cases h
    · rw [mmLeave_1 hcal c] at h
      cases h
      refine ⟨n, h1, ?_, by omega, h4, h5, h6, h7, h8, h9, h10, h11⟩
      show 386 * (300 - ns) + 32 * mCh C fr ch + 32 * n + 0 ≤ x - 1
      omega
  | some i =>
    have hi := hj.2.2.2 i hcal
    have hdi := hdp i hcal
    have hc3 := hcnt i hcal
    have hT := mmHb_len (inp := C.2.1.1 (mmf fr j).1.1 (mmf fr j).1.2) (j := j) (i := i) (g := mmBy C fr cls j i) (List.range (mmBy C fr cls j i).2.2.1) V T
    rw [List.length_range] at hT
    by_cases hd : (mmf fr j).2.2.1 = true
    · have hde := hden hd (by rw [hcal]; simp)
      subst hde
      cases n with
      | zero => cases h1
      | succ n =>
        obtain ⟨d', e1, e2, e3⟩ := id h1
        cases e1
        by_cases hb : (mmHb (C.2.1.1 (mmf fr j).1.1 (mmf fr j).1.2) j i (mmBy C fr cls j i) (List.range (mmBy C fr cls j i).2.2.1) V T).1 = true
        · rw [mmLeave_2 hcal rfl hd hb] at h
          cases h
          refine ⟨n, e3, ?_, by omega, h4, h5, by rw [List.length_drop]; omega, h7, h8, h9, fun e he => h10 e (List.mem_of_mem_drop he), h11⟩
          have := mCh_drop ch (ch.length - (mmf fr j).2.2.2.2) (C := C) (fr := fr)
          show 386 * (300 - ns) + 32 * mCh C fr (ch.drop (ch.length - (mmf fr j).2.2.2.2)) + 32 * n + 0 ≤ x - 1
          omega
        · rw [mmLeave_3 hcal rfl hd hb] at h
          cases h
          refine ⟨n + 1, h1, ?_, by omega, h4, h5, h6, h7, h8, h9, h10, h11⟩
          show 386 * (300 - ns) + 32 * mCh C fr ch + 32 * (n + 1) + 0 ≤ x - 1
          omega
    · rw [mmLeave_4 hcal rfl hd] at h
      cases h
      refine ⟨n, h1, ?_, by omega, h4, h5, h6, h7, h8, by omega, h10, fun q hq => by cases hq; exact hi⟩
      show 386 * (300 - ns) + 32 * mCh C fr ch + 32 * n + (if (!(mmHb (C.2.1.1 (mmf fr j).1.1 (mmf fr j).1.2) j i (mmBy C fr cls j i) (List.range (mmBy C fr cls j i).2.2.1) V T).1) = true then 0 else (mmf fr i).2.1.2.2 + 1) ≤ x - 1
      split
      · omega
      · omega
theorem rn_enter {x : Nat} {fr : List mmF} {cls : Nat → Option Nat} {V : mmV} {ch : mmH} {T : mmT} {cur den : Option Nat} {pl na ns nc dp j n : Nat} {tm : List smG} {nt : List (Nat × Nat)}
    (hn : dlR fr n den) (hx : 386 * (300 - ns) + 32 * (mCh C fr ch + 11) + 32 * n + ((mmf fr j).2.1.2.2 + 1) ≤ x) (hT : T.length + 3 * x ≤ 349000) (hl : fr.length ≤ ns + 1) (hs : ns ≤ 300) (hch : ch.length ≤ ns) (hnc : nc ≤ ns) (h8 : ∀ j, j < fr.length → 1 ≤ (mmf fr j).2.1.2.2 ∧ (mmf fr j).2.1.2.2 ≤ 30 ∧ (mmf fr j).2.1.2.1 ≤ 4 ∧ ∀ i, (mmf fr j).2.1.1 = some i → i < fr.length) (hpl : pl ≤ 5) (h10 : ∀ e, e ∈ ch → e.1 < fr.length) (h11 : ∀ i, cur = some i → i < fr.length) (hj : j < fr.length) (h12 : (C.1.1.1 (mmf fr j).1.1).length ≤ 12) :
    rN C x (mmEnter C j ((fr, cls, V, ch, T), (cur, pl, den, false), tm, (na, ns, nc, dp), nt)) := by
  cases hm : mmFirst C V (mmf fr j).1 j with
  | none =>
    rw [mmEnter_0 hm]
    refine ⟨n, hn, ?_, hT, hl, hs, by omega, by omega, h8, hpl, h10, h11⟩
    show 386 * (300 - ns) + 32 * mCh C fr ch + 32 * n + 0 ≤ x
    omega
  | some c =>
    by_cases hs2 : C.2.2.1 (mmf fr j).1.1 (mmf fr j).1.2 = none ∧ 1 < (C.1.1.1 (mmf fr j).1.1).length
    · rw [mmEnter_1 hm hs2]
      refine ⟨n, hn, ?_, hT, hl, hs, by simp only [List.length_cons]; omega, by omega, h8, Nat.zero_le _, fun e he => ?_, fun i hi => by cases hi; exact hj⟩
      · show 386 * (300 - ns) + 32 * (((C.1.1.1 (mmf fr j).1.1).length - 1) + mCh C fr ch) + 32 * n + ((mmf fr j).2.1.2.2 + 1) ≤ x
        omega
      · rcases List.mem_cons.mp he with q | q
        · rw [q]; exact hj
        · exact h10 e q
    · rw [mmEnter_2 hm hs2]
      refine ⟨n, hn, ?_, hT, hl, hs, by omega, by omega, h8, Nat.zero_le _, h10, fun i hi => by cases hi; exact hj⟩
      show 386 * (300 - ns) + 32 * mCh C fr ch + 32 * n + ((mmf fr j).2.1.2.2 + 1) ≤ x
      omega
theorem mmEq_len {V : mmV} {T : mmT} {tm : List smG} {i : Nat} {g : smL} {r : Bool × mmV × mmT × List smG} (h : mmEq V T tm i g = some r) : r.2.2.1.length ≤ T.length + 1 := by
  by_cases hk : g.1 = 1
  · by_cases hx : V i (smv g 0) = none
    · rw [mmEq_sn hk hx] at h
      cases h
      exact mmAg_len
    · rw [mmEq_sy hk hx] at h
      cases h
      exact mmAg_len
  · cases hx : V i (smv g 0) with
    | some hv =>
      rw [mmEq_ca hk hx] at h
      cases h
      show (caS V T i g hv).2.2.length ≤ _
      unfold caS
      split
      · split
        · exact mmAg_len
        · exact Nat.le_succ _
      · exact Nat.le_succ _
    | none =>
      unfold mmEq at h
      rw [if_neg hk, hx] at h
      have h : (if _ then _ else _) = _ := h
      split at h
      · cases h; exact mmAg_len
      · split at h
        · cases h; exact mmAg_len
        · cases h
theorem rn_goal (h12 : ∀ p, (C.1.1.1 p).length ≤ 12) {x : Nat} {fr : List mmF} {cls : Nat → Option Nat} {V : mmV} {ch : mmH} {T : mmT} {den : Option Nat} {pl na ns nc dp i : Nat} {tm : List smG} {nt : List (Nat × Nat)} {e : mmO} {S' : mmS}
    (hR : rN C x ((fr, cls, V, ch, T), (some i, pl, den, false), tm, (na, ns, nc, dp), nt)) (hx : 0 < x) (hpl : pl ≤ 4)
    (h : mmGoal C i e ((fr, cls, V, ch, T), (some i, pl, den, false), tm, (na, ns, nc, dp), nt) = .inl S') : rN C (x - 1) S' := by
  obtain ⟨n, h1, h2, h3, h4, h5, h6, h7, h8, h9, h10, h11⟩ := hR
  have hi := h11 i rfl
  have hd := h8 i hi
  have h2 : 386 * (300 - ns) + 32 * mCh C fr ch + 32 * n + ((mmf fr i).2.1.2.2 + 1) ≤ x := h2
  by_cases hns : 300 ≤ ns
  · rw [mg_l hns] at h; cases h
  · by_cases hk : e.1.1 = 2 ∨ e.1.1 = 3
    · cases hm : e.2.1 with
      | none => rw [mg_n hns hk hm] at h; cases h
      | some m =>
        by_cases hdq : 30 ≤ (mmf fr i).2.1.2.2
        · rw [mg_d hns hk hm hdq] at h; cases h
        · have go : ∀ (f : mmF) (den' : Option Nat) (n' : Nat), f.2.1 = (some i, pl, (mmf fr i).2.1.2.2 + 1) → dlR (fr ++ [f]) n' den' → n' ≤ n + 1 → rN C (x - 1) (mmEnter C fr.length ((fr ++ [f], cls, mmNew V fr.length (mmArgs (C.2.1.1 e.1.2.1 m) V i e.1), ch, T), (some i, pl, den', false), tm, (na, ns + 1, nc, dp), nt)) := by
            intro f den' n' hf hdl hn'
            refine rn_enter hdl ?_ (by omega) (by rw [List.length_append, List.length_singleton]; omega) (by omega) h6 h7 (fun q hq => ?_) h9 (fun c hc => by have := h10 c hc; rw [List.length_append]; omega) (fun q hq => by have := h11 q hq; rw [List.length_append]; omega) (by simp) (h12 _)
            · rw [mm_nw, mCh_app ch h10, hf]
              show 386 * (300 - (ns + 1)) + 32 * (mCh C fr ch + 11) + 32 * n' + ((mmf fr i).2.1.2.2 + 1 + 1) ≤ x - 1
              omega
            · rw [List.length_append, List.length_singleton] at hq ⊢
              by_cases c : q < fr.length
              · rw [mm_ap c]
                have := h8 q c
                exact ⟨this.1, this.2.1, this.2.2.1, fun z hz => by have := this.2.2.2 z hz; omega⟩
              · have e0 : q = fr.length := by omega
                subst e0
                rw [mm_nw, hf]
                exact ⟨by show 1 ≤ _ + 1; omega, by show _ + 1 ≤ 30; omega, hpl, fun z hz => by cases hz; omega⟩
          rcases hk with hk | hk
          · rw [mg_2 hns hk hm hdq] at h
            cases h
            exact go _ _ n rfl (dlR_app n _ h1) (by omega)
          · rw [mg_3 hns hk hm hdq] at h
            cases h
            exact go _ _ (n + 1) rfl ⟨fr.length, rfl, by simp, by rw [mm_nw]; exact dlR_app n _ h1⟩ (Nat.le_refl _)
    · rw [mg_e hns hk] at h
      cases hq : mmEq V T tm i e.1 with
      | none => rw [hq] at h; cases h
      | some r =>
        rw [hq] at h
        cases h
        have hl := mmEq_len hq
        refine ⟨n, h1, ?_, by omega, by omega, by omega, by omega, by omega, h8, by omega, h10, h11⟩
        show 386 * (300 - (ns + 1)) + 32 * mCh C fr ch + 32 * n + (if (!r.1) = true then 0 else (mmf fr i).2.1.2.2 + 1) ≤ x - 1
        split
        · omega
        · omega
/-! what a turn asks for -/
theorem lv_dl {fr : List mmF} {G : mmGh} {cls : Nat → Option Nat} {V : mmV} {T : mmT} : ∀ (lv : List (mmLG × List mmCG)) (top : List mmCG) (ch : mmH) (den : Option Nat), mmLv fr G top lv ch den → (∀ l, l ∈ lv → mmLo C Gd fr G cls V T l.1) → dlR fr lv.length den
  | [], _, _, _, h, _ => h.1
  | (l, outer) :: lv, top, ch, den, h, hl => by
    obtain ⟨h1, -, -, -, ch', -, -, h2⟩ := h
    have h3 := (hl (l, outer) List.mem_cons_self).1
    exact ⟨l.1, h1, (h3.2 _ h3.1).1, lv_dl lv outer ch' _ h2 (fun q hq => hl q (List.mem_cons_of_mem _ hq))⟩
theorem in_pop {G : mmGh} {top : List mmCG} {lv : List (mmLG × List mmCG)} {an : Option (Nat × Nat)} {fr : List mmF} {cls : Nat → Option Nat} {V : mmV} {ch : mmH} {T : mmT} {cur den : Option Nat} {pl : Nat} {fl : Bool} {tm : List smG} {nn : Nat × Nat × Nat × Nat} {nt : List (Nat × Nat)} (hI : mmIn C Gd G top lv an ((fr, cls, V, ch, T), (cur, pl, den, fl), tm, nn, nt)) : ∀ f k t0 ch1, ch = (f, k, t0) :: ch1 → t0 ≤ T.length ∧ k < (C.1.1.1 (mmf fr f).1.1).length := by
  intro f k t0 ch1 e
  obtain ⟨h1, h2, -⟩ := hI
  have h3 := mmLv_mem lv top ch den h1
  have h4 : (f, k, t0) ∈ (top ++ lv.flatMap (fun l => l.2)).map (fun c => c.1) := by rw [← h3, e]; exact List.mem_cons_self
  obtain ⟨c, hc, ec⟩ := List.mem_map.mp h4
  obtain ⟨-, -, q1, -, q2, -⟩ := h2 c hc
  rw [ec] at q1 q2
  exact ⟨q2, q1⟩
theorem in_leave {G : mmGh} {top : List mmCG} {lv : List (mmLG × List mmCG)} {an : Option (Nat × Nat)} {fr : List mmF} {cls : Nat → Option Nat} {V : mmV} {ch : mmH} {T : mmT} {den : Option Nat} {pl j : Nat} {tm : List smG} {nn : Nat × Nat × Nat × Nat} {nt : List (Nat × Nat)} (hI : mmIn C Gd G top lv an ((fr, cls, V, ch, T), (some j, pl, den, false), tm, nn, nt)) :
    (∀ i, (mmf fr j).2.1.1 = some i → (mmf fr j).2.1.2.2 = (mmf fr i).2.1.2.2 + 1 ∧ ∃ c e, cls i = some c ∧ (C.2.1.2 (mmf fr i).1.2 c)[(mmf fr j).2.1.2.1]? = some e ∧ e.1.2.1 = (mmf fr j).1.1 ∧ (e.1.1 = 2 ∨ e.1.1 = 3) ∧ c ∈ C.1.1.1 (mmf fr i).1.1 ∧ Gd (mmf fr i).1) ∧ ((mmf fr j).2.2.1 = true → (mmf fr j).2.1.1 ≠ none → den = some j) := by
  obtain ⟨h1, h2, h3, h4, -, h5⟩ := hI
  obtain ⟨i0, c0, -, e2, hac, hbs⟩ := h5 rfl
  cases e2
  obtain ⟨hcn, hdn, -⟩ := hac
  have hck := hcn.2 _ hcn.1
  refine ⟨fun i hi => ?_, fun hd hn => ?_⟩
  · rcases hck.2.2 with ⟨q, -⟩ | ⟨i', q1, q2, q3, q4, q5, q6, e, q7, q8, q9, q10, -⟩
    · rw [q] at hi; cases hi
    · rw [q1] at hi
      cases hi
      have hcl := (hdn _ hcn.1 i q1).1
      have hgi := (hcn.2 i (by rw [q3]; exact List.mem_cons_of_mem _ q4)).2.1
      refine ⟨q6, G.2.2 j, e, hcl, q7, q8, ?_, q5, hgi⟩
      rw [q10]
      split
      · exact Or.inr rfl
      · exact Or.inl rfl
  · cases lv with
    | nil =>
      have := hbs j hcn.1
      rw [hd] at this
      cases this
    | cons l lv =>
      obtain ⟨l, outer⟩ := l
      have hb : mmBs fr G (some l.1) j := hbs
      have hle := mmLv_le ((l, outer) :: lv) top ch den j h1 h3 hcn hbs (l, outer) List.mem_cons_self
      rcases Nat.lt_or_ge l.1 j with c | c
      · have := hb.2 j hcn.1 c
        rw [hd] at this
        cases this
      · rw [h1.1]
        congr 1
        have := hle.1
        simp only at this
        omega
theorem in_goal (hF : mmFa C Gd) {G : mmGh} {top : List mmCG} {lv : List (mmLG × List mmCG)} {an : Option (Nat × Nat)} {fr : List mmF} {cls : Nat → Option Nat} {V : mmV} {ch : mmH} {T : mmT} {den : Option Nat} {pl i c : Nat} {tm : List smG} {nn : Nat × Nat × Nat × Nat} {nt : List (Nat × Nat)} (hI : mmIn C Gd G top lv an ((fr, cls, V, ch, T), (some i, pl, den, false), tm, nn, nt)) (hc : cls i = some c) {e : mmO} (he : (C.2.1.2 (mmf fr i).1.2 c)[pl]? = some e) :
    (∀ m, e.2.1 = some m → (e.1.1 = 2 ∨ e.1.1 = 3) → ∀ s, C.2.2.1 e.1.2.1 m = some s → mmArgs (C.2.1.1 e.1.2.1 m) V i e.1 s ≠ none ∧ ∀ c, c ∈ C.1.1.1 e.1.2.1 → ∃ e' os, C.2.1.2 m c = e' :: os ∧ e'.1.1 = 0) ∧
    (e.1.1 = 0 → e.1.2.1 < 3 ∧ e.1.2.2.1 = (if e.1.2.1 = 1 then 2 else 1) ∧ (V i (smv e.1 0) = none → e.1.2.1 = 1 → V i (smv e.1 1) ≠ none)) := by
  obtain ⟨-, -, -, -, -, h5⟩ := hI
  obtain ⟨i0, c0, -, e2, hac, -⟩ := h5 rfl
  cases e2
  obtain ⟨hcn, -, hcl, hcm, hpl, hkn⟩ := hac
  rw [hc] at hcl
  cases hcl
  have hg := (hcn.2 _ hcn.1).2.1
  obtain ⟨f1, -⟩ := hF.2.2 _ hg
  have hgo := (f1 c hcm).2.1 pl e he
  refine ⟨fun m hm hk s hs => ?_, fun h0 => ?_⟩
  · rcases hgo with ⟨q, -⟩ | ⟨q, -⟩ | ⟨-, m', q1, q2, q3, q4, -⟩
    · omega
    · omega
    · rw [hm] at q1
      cases q1
      obtain ⟨-, g2, -⟩ := hF.2.2 _ q2
      obtain ⟨g3, g4, -⟩ := g2 s hs
      have hlt := hF.2.1 _ _ _ g3
      refine ⟨?_, fun c' hc' => ?_⟩
      · unfold mmArgs
        rw [if_pos ⟨by rw [q3]; exact hlt, g3⟩]
        exact (hkn _).mpr (q4 s (by rw [q3]; exact hlt) g3)
      · obtain ⟨e', os, a1, a2, -⟩ := g4 c' hc'
        exact ⟨e', os, a1, a2⟩
  · rcases hgo with ⟨-, q1, q2, q3⟩ | ⟨q, -⟩ | ⟨q, -⟩
    · refine ⟨q1, q2, fun hv h1 => ?_⟩
      rcases q3 with q3 | q3
      · exact absurd hv ((hkn _).mpr q3)
      · exact (hkn _).mpr (q3 h1)
    · omega
    · omega
end RN
