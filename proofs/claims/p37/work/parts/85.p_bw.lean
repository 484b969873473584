/-! Own rows: breadth's tables stand for the pure state's; a list's bindings stand in the nodes. By hand. -/
def oI : Option Nat → Int
  | none => -1
  | some n => (n : Int)
theorem oI_ne {n : Nat} : oI (some n) ≠ -1 := by
  show (n : Int) ≠ -1
  omega
theorem oI_inj {a b : Option Nat} (h : oI a = oI b) : a = b := by
  cases a with
  | none => cases b with
    | none => rfl
    | some m => exact absurd h.symm oI_ne
  | some n => cases b with
    | none => exact absurd h oI_ne
    | some m =>
      have h : (n : Int) = (m : Int) := h
      congr 1
      omega
theorem oI_ge {o : Option Nat} : -1 ≤ oI o := by
  cases o with
  | none => exact Int.le_refl _
  | some n =>
    show -1 ≤ (n : Int)
    omega
def rwC (e : Nat × Nat × Option Nat) : List Int := [(e.1 : Int), (e.2.1 : Int), oI e.2.2]
def rwL (e : Option Nat × Nat × Nat × Option Nat) : List Int := [oI e.1, (e.2.1 : Int), (e.2.2.1 : Int), oI e.2.2.2]
def rwE (e : bEn) : List Int := [oI e.1, (e.2.1.1 : Int), (e.2.1.2 : Int), oI e.2.2.1, oI e.2.2.2.1, (e.2.2.2.2 : Int)]
def rwB (e : Nat × Nat) : List Int := [(e.1 : Int), (e.2 : Int)]
def rwV (e : Nat × Nat × Nat × Option Nat) : List Int := [(e.1 : Int), (e.2.1 : Int), (e.2.2.1 : Int), oI e.2.2.2]
theorem tg_map {T : Type} {f : T → List Int} {xs : List T} {n j : Nat} {x : T} (h : xs[n]? = some x) : tg (xs.map f) (n : Int) (j : Int) = ((f x)[j]?).getD (-1) := tg_at (by rw [List.getElem?_map, h]; rfl)
theorem ts_in {rows : List (List Int)} {n j : Nat} {v : Int} : ts rows (n : Int) (j : Int) v = rows.set n ((rows.getD n []).set j v) := by
  unfold ts
  rw [if_pos ⟨by omega, by omega⟩, Int.toNat_natCast, Int.toNat_natCast]
/-- the nodes: heads, parts; what each is bound to; marks under a bound -/
def ndR (NN : List (List Int)) (N : bNT) (bd : bBD) (mb : Int) : Prop := NN.length = N.length ∧ ∀ (n : Nat) (x : Option Nat × Nat), N[n]? = some x → ∃ fs sc mk : Int, NN[n]? = some [oI x.1, fs, sc, oI (bd n), mk] ∧ (x.1 = some 1 → fs = (x.2 : Int)) ∧ -1 ≤ mk ∧ mk < mb
theorem ndR_b {NN : List (List Int)} {N : bNT} {bd : bBD} {mb : Int} (h : ndR NN N bd mb) (a : Nat) (o : Option Nat) : ndR (ts NN (a : Int) 3 (oI o)) N (fun n => if n = a then o else bd n) mb := by
  refine ⟨by rw [ts_len]; exact h.1, fun n x hx => ?_⟩
  obtain ⟨fs, sc, mk, h1, h2⟩ := h.2 n x hx
  have e3 : ts NN (a : Int) 3 (oI o) = NN.set a ((NN.getD a []).set 3 (oI o)) := ts_in (j := 3)
  refine ⟨fs, sc, mk, ?_, h2⟩
  rw [e3]
  show (NN.set a ((NN.getD a []).set 3 (oI o)))[n]? = some [oI x.1, fs, sc, oI (if n = a then o else bd n), mk]
  by_cases c : n = a
  · subst c
    have hl := (List.getElem?_eq_some_iff.mp h1).1
    rw [if_pos rfl, List.getElem?_set_self hl, List.getD_eq_getElem?_getD, h1]
    rfl
  · rw [if_neg c, List.getElem?_set_ne (by omega)]
    exact h1
theorem ndR_le {NN : List (List Int)} {N : bNT} {bd : bBD} {mb mb' : Int} (h : ndR NN N bd mb) (hm : mb ≤ mb') : ndR NN N bd mb' := ⟨h.1, fun n x hx => by
  obtain ⟨fs, sc, mk, h1, h2, h3, h4⟩ := h.2 n x hx
  exact ⟨fs, sc, mk, h1, h2, h3, by omega⟩⟩
def bUpS (seg : List (Nat × Nat)) (bd : bBD) : bBD := seg.foldl (fun b e n => if n = e.1 then some e.2 else b n) bd
def bDnS (seg : List (Nat × Nat)) (bd : bBD) : bBD := seg.foldl (fun b e n => if n = e.1 then none else b n) bd
theorem bUpS_app {a b : List (Nat × Nat)} {bd : bBD} : bUpS (a ++ b) bd = bUpS b (bUpS a bd) := List.foldl_append
theorem bDnS_app {a b : List (Nat × Nat)} {bd : bBD} : bDnS (a ++ b) bd = bDnS b (bDnS a bd) := List.foldl_append
theorem bdOf_c {e : Nat × Nat} {pb : List (Nat × Nat)} {n : Nat} : bdOf (e :: pb) n = if n = e.1 then some e.2 else bdOf pb n := by
  unfold bdOf
  rw [List.find?_cons]
  by_cases c : n = e.1
  · rw [if_pos c, c, beq_self_eq_true]
    rfl
  · rw [if_neg c]
    have : (e.1 == n) = false := by rw [beq_eq_false_iff_ne]; exact fun q => c q.symm
    rw [this]
theorem bdOf_no : ∀ {pb : List (Nat × Nat)} {n : Nat}, (∀ e, e ∈ pb → e.1 ≠ n) → bdOf pb n = none
  | [], _, _ => rfl
  | e :: pb, n, h => by
    rw [bdOf_c, if_neg (fun q => h e List.mem_cons_self q.symm)]
    exact bdOf_no fun x hx => h x (List.mem_cons_of_mem _ hx)
theorem bUpS_at : ∀ (pb : List (Nat × Nat)) (bd : bBD), (pb.map fun e => e.1).Nodup → ∀ n, bUpS pb bd n = (match bdOf pb n with | some m => some m | none => bd n)
  | [], _, _, _ => rfl
  | e :: pb, bd, hn, n => by
    rw [List.map_cons, List.nodup_cons] at hn
    show bUpS pb (fun x => if x = e.1 then some e.2 else bd x) n = _
    rw [bUpS_at pb _ hn.2 n, bdOf_c]
    by_cases c : n = e.1
    · rw [if_pos c, bdOf_no (fun x hx q => hn.1 (List.mem_map.mpr ⟨x, hx, by rw [q, c]⟩)), if_pos c]
    · rw [if_neg c, if_neg c]
theorem bUpS_of {pb : List (Nat × Nat)} (hn : (pb.map fun e => e.1).Nodup) : bUpS pb (fun _ => none) = bdOf pb := by
  funext n
  rw [bUpS_at pb _ hn n]
  cases bdOf pb n with
  | none => rfl
  | some m => rfl
theorem bDnS_at : ∀ (pb : List (Nat × Nat)) (bd : bBD) (n : Nat), (bd n ≠ none → ∃ e, e ∈ pb ∧ e.1 = n) → bDnS pb bd n = none
  | [], bd, n, h => by
    cases c : bd n with
    | none => exact c
    | some m =>
      obtain ⟨e, he, -⟩ := h (by rw [c]; simp)
      cases he
  | e :: pb, bd, n, h => by
    show bDnS pb (fun x => if x = e.1 then none else bd x) n = none
    refine bDnS_at pb _ n (fun q => ?_)
    by_cases c : n = e.1
    · rw [if_pos c] at q
      exact absurd rfl q
    · rw [if_neg c] at q
      obtain ⟨x, hx, ex⟩ := h q
      rcases List.mem_cons.mp hx with r | r
      · rw [r] at ex
        exact absurd ex.symm c
      · exact ⟨x, r, ex⟩
theorem bDnS_of {pb : List (Nat × Nat)} : bDnS pb (bdOf pb) = fun _ => none := by
  funext n
  refine bDnS_at pb _ n (fun q => ?_)
  have go : ∀ (pb : List (Nat × Nat)), bdOf pb n ≠ none → ∃ e, e ∈ pb ∧ e.1 = n := by
    intro pb
    induction pb with
    | nil => exact fun h => absurd rfl h
    | cons e pb ih =>
      intro h
      rw [bdOf_c] at h
      by_cases c : n = e.1
      · exact ⟨e, List.mem_cons_self, c.symm⟩
      · rw [if_neg c] at h
        obtain ⟨x, hx, ex⟩ := ih h
        exact ⟨x, List.mem_cons_of_mem _ hx, ex⟩
  exact go pb q
theorem seg_c {T : Type} {xs : List T} {i k : Nat} {x : T} (h : xs[i]? = some x) : (xs.take (i + (k + 1))).drop i = x :: (xs.take (i + 1 + k)).drop (i + 1) := by
  rw [show i + (k + 1) = i + 1 + k by omega]
  exact drop_cons (by rw [List.getElem?_take_of_lt (by omega)]; exact h)
/-- a stretch of bindings is bound -/
theorem bnd_on {N : bNT} {mb : Int} {Bi : List (Nat × Nat)} : ∀ (k i : Nat) (NN : List (List Int)) (bd : bBD), i + k ≤ Bi.length → ndR NN N bd mb → ndR (bndN (Bi.map rwB) true k i NN) N (bUpS ((Bi.take (i + k)).drop i) bd) mb
  | 0, i, NN, bd, _, h => by
    rw [Nat.add_zero, List.drop_eq_nil_of_le (by rw [List.length_take]; omega)]
    exact h
  | k + 1, i, NN, bd, hi, h => by
    obtain ⟨e, he⟩ : ∃ e, Bi[i]? = some e := ⟨_, List.getElem?_eq_getElem (by omega)⟩
    rw [seg_c he]
    show ndR (bndN (Bi.map rwB) true k (i + 1) (ts NN (tg (Bi.map rwB) (i : Int) 0) 3 (if true = true then tg (Bi.map rwB) (i : Int) 1 else -1))) N _ mb
    have e0 : tg (Bi.map rwB) (i : Int) 0 = (e.1 : Int) := tg_map (j := 0) he
    have e1 : tg (Bi.map rwB) (i : Int) 1 = (e.2 : Int) := tg_map (j := 1) he
    rw [if_pos rfl, e0, e1]
    exact bnd_on k (i + 1) _ _ (by omega) (ndR_b h e.1 (some e.2))
theorem bnd_off {N : bNT} {mb : Int} {Bi : List (Nat × Nat)} : ∀ (k i : Nat) (NN : List (List Int)) (bd : bBD), i + k ≤ Bi.length → ndR NN N bd mb → ndR (bndN (Bi.map rwB) false k i NN) N (bDnS ((Bi.take (i + k)).drop i) bd) mb
  | 0, i, NN, bd, _, h => by
    rw [Nat.add_zero, List.drop_eq_nil_of_le (by rw [List.length_take]; omega)]
    exact h
  | k + 1, i, NN, bd, hi, h => by
    obtain ⟨e, he⟩ : ∃ e, Bi[i]? = some e := ⟨_, List.getElem?_eq_getElem (by omega)⟩
    rw [seg_c he]
    show ndR (bndN (Bi.map rwB) false k (i + 1) (ts NN (tg (Bi.map rwB) (i : Int) 0) 3 (if false = true then tg (Bi.map rwB) (i : Int) 1 else -1))) N _ mb
    have e0 : tg (Bi.map rwB) (i : Int) 0 = (e.1 : Int) := tg_map (j := 0) he
    rw [if_neg (by decide), e0]
    exact bnd_off k (i + 1) _ _ (by omega) (ndR_b h e.1 none)
section BPATH
variable {N : bNT} {mb : Int} {Ls : bLs} {Bi : List (Nat × Nat)}
theorem rwL_at {l : Nat} {e : Option Nat × Nat × Nat × Option Nat} (h : Ls[l]? = some e) : tg (Ls.map rwL) (l : Int) 0 = oI e.1 ∧ tg (Ls.map rwL) (l : Int) 1 = (e.2.1 : Int) ∧ tg (Ls.map rwL) (l : Int) 2 = (e.2.2.1 : Int) ∧ tg (Ls.map rwL) (l : Int) 3 = oI e.2.2.2 := ⟨tg_map (j := 0) h, tg_map (j := 1) h, tg_map (j := 2) h, tg_map (j := 3) h⟩
theorem bpT_ok (hw : bLw Ls Bi.length) (hb : Bi.length < 1000000) : ∀ (k : Nat) (o : Option Nat), (∀ l, o = some l → l < Ls.length) → bpT (Ls.map rwL) k (oI o)
  | 0, _, _ => trivial
  | k + 1, none, _ => fun h => absurd rfl h
  | k + 1, some l, ho => fun _ => by
    obtain ⟨e, he⟩ : ∃ e, Ls[l]? = some e := ⟨_, List.getElem?_eq_getElem (ho l rfl)⟩
    obtain ⟨q0, q1, q2, -⟩ := rwL_at he
    obtain ⟨a1, a2, a3⟩ := hw l e he
    show (0 ≤ tg (Ls.map rwL) (l : Int) 1 ∧ tg (Ls.map rwL) (l : Int) 1 ≤ tg (Ls.map rwL) (l : Int) 2 ∧ tg (Ls.map rwL) (l : Int) 2 < 1000000) ∧ bpT (Ls.map rwL) k (tg (Ls.map rwL) (l : Int) 0)
    rw [q0, q1, q2]
    exact ⟨⟨by omega, by omega, by omega⟩, bpT_ok hw hb k e.1 (fun p hp => by have := a1 p hp; have := ho l rfl; omega)⟩
theorem bp_on (hw : bLw Ls Bi.length) : ∀ (k : Nat) (o : Option Nat) (NN : List (List Int)) (bd : bBD), (∀ l, o = some l → l < Ls.length) → ndR NN N bd mb → ndR (bpN (Ls.map rwL) (Bi.map rwB) true k (oI o) NN) N (bUpS (bPb Ls Bi k o) bd) mb
  | 0, _, _, _, _, h => h
  | k + 1, none, NN, bd, _, h => by
    rw [show oI none = -1 from rfl, bpN_e, bPb_none]
    exact h
  | k + 1, some l, NN, bd, ho, h => by
    obtain ⟨e, he⟩ : ∃ e, Ls[l]? = some e := ⟨_, List.getElem?_eq_getElem (ho l rfl)⟩
    obtain ⟨q0, q1, q2, -⟩ := rwL_at he
    obtain ⟨a1, a2, a3⟩ := hw l e he
    rw [bPb_some he, bUpS_app, bpN_s oI_ne]
    show ndR (bpN (Ls.map rwL) (Bi.map rwB) true k (tg (Ls.map rwL) (l : Int) 0) (bndN (Bi.map rwB) true (tg (Ls.map rwL) (l : Int) 2 - tg (Ls.map rwL) (l : Int) 1).toNat (tg (Ls.map rwL) (l : Int) 1).toNat NN)) N _ mb
    rw [q0, q1, q2, Int.toNat_natCast, show ((e.2.2.1 : Int) - (e.2.1 : Int)).toNat = e.2.2.1 - e.2.1 by omega]
    refine bp_on hw k e.1 _ _ (fun p hp => by have := a1 p hp; have := ho l rfl; omega) ?_
    have q := bnd_on (Bi := Bi) (e.2.2.1 - e.2.1) e.2.1 NN bd (by omega) h
    rwa [show e.2.1 + (e.2.2.1 - e.2.1) = e.2.2.1 by omega] at q
theorem bp_off (hw : bLw Ls Bi.length) : ∀ (k : Nat) (o : Option Nat) (NN : List (List Int)) (bd : bBD), (∀ l, o = some l → l < Ls.length) → ndR NN N bd mb → ndR (bpN (Ls.map rwL) (Bi.map rwB) false k (oI o) NN) N (bDnS (bPb Ls Bi k o) bd) mb
  | 0, _, _, _, _, h => h
  | k + 1, none, NN, bd, _, h => by
    rw [show oI none = -1 from rfl, bpN_e, bPb_none]
    exact h
  | k + 1, some l, NN, bd, ho, h => by
    obtain ⟨e, he⟩ : ∃ e, Ls[l]? = some e := ⟨_, List.getElem?_eq_getElem (ho l rfl)⟩
    obtain ⟨q0, q1, q2, -⟩ := rwL_at he
    obtain ⟨a1, a2, a3⟩ := hw l e he
    rw [bPb_some he, bDnS_app, bpN_s oI_ne]
    show ndR (bpN (Ls.map rwL) (Bi.map rwB) false k (tg (Ls.map rwL) (l : Int) 0) (bndN (Bi.map rwB) false (tg (Ls.map rwL) (l : Int) 2 - tg (Ls.map rwL) (l : Int) 1).toNat (tg (Ls.map rwL) (l : Int) 1).toNat NN)) N _ mb
    rw [q0, q1, q2, Int.toNat_natCast, show ((e.2.2.1 : Int) - (e.2.1 : Int)).toNat = e.2.2.1 - e.2.1 by omega]
    refine bp_off hw k e.1 _ _ (fun p hp => by have := a1 p hp; have := ho l rfl; omega) ?_
    have q := bnd_off (Bi := Bi) (e.2.2.1 - e.2.1) e.2.1 NN bd (by omega) h
    rwa [show e.2.1 + (e.2.2.1 - e.2.1) = e.2.2.1 by omega] at q
/-- another list's bindings stand in the nodes -/
theorem nd_restore (hw : bLw Ls Bi.length) {NN : List (List Int)} {rs : Option Nat} {l : Nat} (hrs : ∀ q, rs = some q → q < Ls.length) (hl : l < Ls.length) (hn : ((bPb Ls Bi 150 (some l)).map fun e => e.1).Nodup) (h : ndR NN N (bdOf (bPb Ls Bi 150 rs)) mb) : ndR (bpN (Ls.map rwL) (Bi.map rwB) true 150 (l : Int) (bpN (Ls.map rwL) (Bi.map rwB) false 150 (oI rs) NN)) N (bdOf (bPb Ls Bi 150 (some l))) mb := by
  have h1 := bp_off hw 150 rs NN _ hrs h
  rw [bDnS_of] at h1
  have h2 := bp_on hw 150 (some l) _ _ (fun q hq => by cases hq; exact hl) h1
  rw [bUpS_of hn] at h2
  exact h2
end BPATH
