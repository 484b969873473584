/-! Own rows: the machine's records stand for the pure machine's state. By hand; nothing of the bytecode. -/
def pgP (R : pgR) (p : Nat) : Option Nat := R.2.2.1.1[p]?
def pgMo (R : pgR) (p m : Nat) : Option Nat := match pgP R p with
  | none => none
  | some y => (R.2.2.2.1 y).2.2.1.2[m]?
def pgCl (R : pgR) (c : Nat) : Option Nat := R.2.2.1.2.2[c]?
def gL (g : goR) : smL := (g.1.toNat, g.2.1.toNat, g.2.2.1.toNat, (zVa g.2.2.2.2 0).toNat, (zVa g.2.2.2.2 1).toNat, (zVa g.2.2.2.2 2).toNat)
/-- an order's place: the goal, the mode chosen -/
def pgOe (R : pgR) (r : clR) (m q : Nat) : mmO := (gL (R.2.2.2.2.2.2 ((r.2.2.2.2.2.1.getD (m * 5 + q) none).getD 0)), (r.2.2.2.2.2.2.getD (m * 5 + q) none).map (fun x => (R.2.2.2.2.1 x).2.1.toNat), 0)
def pgOr (R : pgR) (r : clR) (m : Nat) : List mmO := (List.range (r.2.2.2.2.1.1.getD m 0).toNat).map (pgOe R r m)
/-- the pure program -/
def pgC (R : pgR) : mmC :=
  (((fun p => match pgP R p with | none => [] | some y => (R.2.2.2.1 y).2.2.2.2.map (fun a => (R.2.2.2.2.2.1 a).1.1.toNat),
     fun c => match pgCl R c with | none => [] | some a => (R.2.2.2.2.2.1 a).2.2.2.1.2.map (fun g => gL (R.2.2.2.2.2.2 g))),
    fun p => match pgP R p with | none => 0 | some y => (R.2.2.2.1 y).2.1.length),
   (fun p m k => match pgMo R p m with | none => false | some md => decide (k < 3 ∧ zand (zshr (R.2.2.2.2.1 md).2.2.1 (k : Int)) 1 = 1),
    fun m c => match pgCl R c with | none => [] | some a => pgOr R (R.2.2.2.2.2.1 a) m),
   (fun p m => match pgMo R p m with | none => none | some md => if (R.2.2.2.2.1 md).2.2.2.2.2.2.2.2 = -1 then none else some (R.2.2.2.2.1 md).2.2.2.2.2.2.2.2.toNat),
   (fun p m => match pgMo R p m with | none => false | some md => decide ((R.2.2.2.2.1 md).2.2.2.2.2.2.1 ≠ 0)),
   (fun p m => match pgMo R p m with | none => false | some md => decide ((R.2.2.2.2.1 md).2.2.2.2.2.2.2.1 ≠ 0)))
def gOk (g : goR) : Prop := (0 ≤ g.1 ∧ g.1 ≤ 3) ∧ (g.1 ≠ 1 → 0 ≤ g.2.1) ∧ (0 ≤ g.2.2.1 ∧ g.2.2.1 ≤ 3) ∧ g.2.2.2.2.length = 3 ∧ ∀ k : Int, 0 ≤ zVa g.2.2.2.2 k ∧ zVa g.2.2.2.2 k < 8
/-- what the program's records keep -/
def mkF (R : pgR) : Prop :=
  (∀ p m md, pgMo R p m = some md → md ∈ R.2.2.1.2.1 ∧ (∃ y, pgP R p = some y ∧ (R.2.2.2.2.1 md).1 = y ∧ (R.2.2.2.1 y).1.1 = (p : Int)) ∧ (R.2.2.2.2.1 md).2.1 = (m : Int) ∧ m < 2 ∧ p < 5) ∧
  (∀ c a, pgCl R c = some a → (R.2.2.2.2.2.1 a).1.1 = (c : Int) ∧ (R.2.2.2.2.2.1 a).1.2 ∈ R.2.2.1.1) ∧
  (∀ y, y ∈ R.2.2.1.1 → (R.2.2.2.1 y).2.2.2.2.length ≤ 12 ∧ (R.2.2.2.1 y).2.1.length ≤ 3) ∧
  (∀ c a, pgCl R c = some a → ∀ m, m < 2 → ∃ n : Nat, (R.2.2.2.2.2.1 a).2.2.2.2.1.1.getD m 0 = (n : Int) ∧ n ≤ 5 ∧ ∀ q, q < n → ∃ g, (R.2.2.2.2.2.1 a).2.2.2.2.2.1.getD (m * 5 + q) none = some g ∧ g ∈ (R.2.2.2.2.2.1 a).2.2.2.1.2 ∧ gOk (R.2.2.2.2.2.2 g) ∧ ∀ x, (R.2.2.2.2.2.1 a).2.2.2.2.2.2.getD (m * 5 + q) none = some x → ∃ k, pgMo R (R.2.2.2.2.2.2 g).2.1.toNat k = some x) ∧
  (∀ md, md ∈ R.2.2.1.2.1 → -1 ≤ (R.2.2.2.2.1 md).2.2.2.2.2.2.2.2 ∧ (R.2.2.2.2.1 md).2.2.2.2.2.2.2.2 < 8)
def oA (Fs : List Nat) (o : Option Nat) : Option Nat := o.bind (fun i => Fs[i]?)
def fmE (R : pgR) (Fs : List Nat) (tm : List smG) (n : Nat) (r : fmR) (f : mmF) (c : Option Nat) (V : Nat → Option smG) : Prop :=
  pgMo R f.1.1 f.1.2 = some r.1.2 ∧ (r.2.1 = (oA Fs f.2.1.1, (f.2.1.2.1 : Int), (f.2.1.2.2 : Int)) ∧ ∀ i, f.2.1.1 = some i → i < n) ∧ (r.2.2.1 = (c.bind (pgCl R), (if f.2.2.1 = true then 1 else 0), oA Fs f.2.2.2.1, (f.2.2.2.2 : Int)) ∧ (∀ i, f.2.2.2.1 = some i → i < n) ∧ ∀ k, c = some k → pgCl R k ≠ none) ∧ (r.2.2.2.length = 8 ∧ ∀ x, x < 8 → tvE tm (r.2.2.2.getD x 0) (V x)) ∧ (1 ≤ f.2.1.2.2 ∧ f.2.1.2.2 ≤ 30)
def fsR (R : pgR) (Fs : List Nat) (tm : List smG) (fm : Nat → fmR) (fr : List mmF) (cls : Nat → Option Nat) (V : mmV) : Prop :=
  ∀ i y, i < fr.length → Fs[i]? = some y → fmE R Fs tm i (fm y) (mmf fr i) (cls i) (V i)
def fsJ (Fs : List Nat) : Prop := ∀ i j y : Nat, Fs[i]? = some y → Fs[j]? = some y → i = j
def msR (R : pgR) : mcR → mmS → Prop
  | (((cap, Fs), fm), (cc, CH), (ct, TR), (us, cu, pl, de), (fl, ov, fu), (N, H, Sz), (A, Nt, sc, nc, dp, en)), ((fr, cls, V, ch, T), (cur, pl0, den, flb), tm, (na, ns, nc0, dp0), nt) =>
    (us = (fr.length : Int) ∧ fr.length ≤ Fs.length ∧ fsJ Fs ∧ (∀ j, fr.length ≤ j → cls j = none) ∧ fsR R Fs tm fm fr cls V) ∧
    (cu = oA Fs cur ∧ (∀ i, cur = some i → i < fr.length) ∧ pl = (pl0 : Int) ∧ de = oA Fs den ∧ (∀ i, den = some i → i < fr.length) ∧ fl = (if flb = true then 1 else 0)) ∧
    (CH = ch.reverse.map (fun e => [(e.1 : Int), (e.2.1 : Int), (e.2.2 : Int)]) ∧ ∀ e, e ∈ ch → e.1 < fr.length) ∧
    (TR = T.reverse.map (fun e => [(e.1 : Int), (e.2 : Int)]) ∧ ∀ e, e ∈ T → e.1 < fr.length ∧ e.2 < 8) ∧
    tmR N H Sz tm ∧
    (A.length = na ∧ sc = (ns : Int) ∧ nc = (nc0 : Int) ∧ dp = (dp0 : Int) ∧ Nt = nt.map (fun e => [(e.1 : Int), (e.2 : Int)]))
theorem oA_some {Fs : List Nat} {i y : Nat} (h : Fs[i]? = some y) : oA Fs (some i) = some y := h
theorem oA_pre {Fs Fs' : List Nat} (h : ∀ (i z : Nat), Fs[i]? = some z → Fs'[i]? = some z) {o : Option Nat} (ho : ∀ i, o = some i → i < Fs.length) : oA Fs' o = oA Fs o := by
  cases o with
  | none => rfl
  | some i =>
    obtain ⟨y, hy⟩ : ∃ y, Fs[i]? = some y := ⟨_, List.getElem?_eq_getElem (ho i rfl)⟩
    rw [oA_some hy, oA_some (h i y hy)]
theorem fsR_up {R : pgR} {Fs : List Nat} {tm : List smG} {fm : Nat → fmR} {fr fr' : List mmF} {cls cls' : Nat → Option Nat} {V V' : mmV} {k y : Nat} {r : fmR} (h : fsR R Fs tm fm fr cls V) (hI : fsJ Fs) (hk : Fs[k]? = some y) (hn : k < fr'.length → fmE R Fs tm k r (mmf fr' k) (cls' k) (V' k)) (hs : ∀ i, i ≠ k → i < fr'.length → i < fr.length ∧ mmf fr' i = mmf fr i ∧ cls' i = cls i ∧ V' i = V i) : fsR R Fs tm (fmUp fm y r) fr' cls' V' := fun i z hi hz => by
  by_cases e : i = k
  · subst e
    rw [hk] at hz
    cases hz
    rw [fmUp_at]
    exact hn hi
  · obtain ⟨a, b, c, d⟩ := hs i e hi
    rw [fmUp_ne (fun q => e (hI i k _ hz (by rw [q]; exact hk))), b, c, d]
    exact h i z a hz
theorem fsR_pre {R : pgR} {Fs Fs' : List Nat} {tm : List smG} {fm : Nat → fmR} {fr : List mmF} {cls : Nat → Option Nat} {V : mmV} (h : fsR R Fs tm fm fr cls V) (hl : fr.length ≤ Fs.length) (hp : ∀ (i z : Nat), Fs[i]? = some z → Fs'[i]? = some z) : fsR R Fs' tm fm fr cls V := fun i z hi hz => by
  obtain ⟨y, hy⟩ : ∃ y, Fs[i]? = some y := ⟨_, List.getElem?_eq_getElem (by omega)⟩
  have := hp i y hy
  rw [hz] at this
  cases this
  obtain ⟨a, ⟨b, b2⟩, ⟨c, c2, c3⟩, d⟩ := h i z hi hy
  refine ⟨a, ⟨?_, b2⟩, ⟨?_, c2, c3⟩, d⟩
  · rw [b, oA_pre hp (fun j hj => by have := b2 j hj; omega)]
  · rw [c, oA_pre hp (fun j hj => by have := c2 j hj; omega)]
theorem fsR_tm {R : pgR} {Fs : List Nat} {tm : List smG} {fm : Nat → fmR} {fr : List mmF} {cls : Nat → Option Nat} {V : mmV} {x : smG} (h : fsR R Fs tm fm fr cls V) : fsR R Fs (tm ++ [x]) fm fr cls V := fun i z hi hz => by
  obtain ⟨a, b, c, ⟨d, d2⟩, e⟩ := h i z hi hz
  exact ⟨a, b, c, ⟨d, fun x hx => tvE_app (d2 x hx)⟩, e⟩
theorem zVs_get {xs : List Int} {x k : Nat} {v : Int} (h : xs.length = 8) (hx : x < 8) (hk : k < 8) : (zVs xs (x : Int) v).getD k 0 = if k = x then v else xs.getD k 0 := by
  unfold zVs
  rw [if_pos ⟨by omega, by omega⟩, Int.toNat_natCast, List.getD_eq_getElem?_getD, List.getElem?_set]
  by_cases e : x = k
  · rw [if_pos e, if_pos (by omega), if_pos e.symm]
    rfl
  · rw [if_neg e, if_neg (Ne.symm e), List.getD_eq_getElem?_getD]
theorem zVs_len {xs : List Int} {x v : Int} : (zVs xs x v).length = xs.length := by
  unfold zVs
  split
  · rw [List.length_set]
  · rfl
theorem zVl_get {xs : List Int} {x : Nat} (h : xs.length = 8) (hx : x < 8) : zVl xs (x : Int) = xs.getD x 0 := by
  unfold zVl
  rw [if_pos ⟨by omega, by omega⟩, Int.toNat_natCast]
/-- a frame's value is set -/
theorem fsR_val {R : pgR} {Fs : List Nat} {tm : List smG} {fm : Nat → fmR} {fr : List mmF} {cls : Nat → Option Nat} {V : mmV} {k y x : Nat} {r : fmR} {v : Int} {o : Option smG} (h : fsR R Fs tm fm fr cls V) (hI : fsJ Fs) (hk : Fs[k]? = some y) (er : fm y = r) (hx : x < 8) (hv : tvE tm v o) : fsR R Fs tm (fmUp fm y (r.1, r.2.1, r.2.2.1, zVs r.2.2.2 (x : Int) v)) fr cls (fun j z => if j = k ∧ z = x then o else V j z) := by
  refine fsR_up h hI hk (fun hlt => ?_) (fun i hi hlt => ⟨hlt, rfl, rfl, ?_⟩)
  · obtain ⟨a, b, c, ⟨d, d2⟩, e⟩ := h k y hlt hk
    rw [er] at a b c d d2
    refine ⟨a, b, c, ⟨by rw [zVs_len]; exact d, fun z hz => ?_⟩, e⟩
    show tvE tm ((zVs r.2.2.2 (x : Int) v).getD z 0) (if k = k ∧ z = x then o else V k z)
    rw [zVs_get d hx hz]
    by_cases q : z = x
    · rw [if_pos q, if_pos ⟨rfl, q⟩]; exact hv
    · rw [if_neg q, if_neg (fun t => q t.2)]; exact d2 z hz
  · funext z
    rw [if_neg (fun t => hi t.1)]
/-- a clause is tried -/
theorem fsR_cls {R : pgR} {Fs : List Nat} {tm : List smG} {fm : Nat → fmR} {fr : List mmF} {cls : Nat → Option Nat} {V : mmV} {k y c a : Nat} {r : fmR} (h : fsR R Fs tm fm fr cls V) (hI : fsJ Fs) (hk : Fs[k]? = some y) (er : fm y = r) (hc : pgCl R c = some a) : fsR R Fs tm (fmUp fm y (r.1, r.2.1, (some a, r.2.2.1.2), r.2.2.2)) fr (mmUp cls k c) V := by
  refine fsR_up h hI hk (fun hlt => ?_) (fun i hi hlt => ⟨hlt, rfl, if_neg hi, rfl⟩)
  obtain ⟨a1, b, ⟨c1, c2, c3⟩, d, e⟩ := h k y hlt hk
  rw [er] at a1 b c1 d
  have e1 : mmUp cls k c k = some c := if_pos rfl
  rw [e1]
  refine ⟨a1, b, ⟨?_, c2, fun q hq => ?_⟩, d, e⟩
  · rw [c1]
    show (some a, _) = ((some c).bind (pgCl R), _)
    rw [show (some c).bind (pgCl R) = pgCl R c from rfl, hc]
  · cases hq
    rw [hc]
    simp
/-- the next frame -/
theorem mmf_ap {fr : List mmF} {f : mmF} {i : Nat} (h : i < fr.length) : mmf (fr ++ [f]) i = mmf fr i := by
  unfold mmf
  rw [List.getD_eq_getElem?_getD, List.getElem?_append_left h, ← List.getD_eq_getElem?_getD]
theorem mmf_nw {fr : List mmF} {f : mmF} : mmf (fr ++ [f]) fr.length = f := by
  unfold mmf
  rw [List.getD_eq_getElem?_getD]
  simp
theorem fsR_new {R : pgR} {Fs : List Nat} {tm : List smG} {fm : Nat → fmR} {fr : List mmF} {cls : Nat → Option Nat} {V : mmV} {y : Nat} {r : fmR} {f : mmF} {o : Nat → Option smG} (h : fsR R Fs tm fm fr cls V) (hI : fsJ Fs) (hk : Fs[fr.length]? = some y) (hc : ∀ j, fr.length ≤ j → cls j = none) (hn : fmE R Fs tm fr.length r f none o) : fsR R Fs tm (fmUp fm y r) (fr ++ [f]) cls (mmNew V fr.length o) := by
  refine fsR_up h hI hk (fun hlt => ?_) (fun i hi hlt => ?_)
  · rw [mmf_nw, hc _ (Nat.le_refl _)]
    have e : mmNew V fr.length o fr.length = o := by
      funext x
      exact if_pos rfl
    rw [e]
    exact hn
  · rw [List.length_append, List.length_singleton] at hlt
    refine ⟨by omega, mmf_ap (by omega), rfl, ?_⟩
    funext x
    exact if_neg hi
/-- a frame's words change, its values and clause stay -/
theorem fsR_last {R : pgR} {Fs : List Nat} {tm : List smG} {fm : Nat → fmR} {fr : List mmF} {cls : Nat → Option Nat} {V : mmV} {y : Nat} {r r' : fmR} {f f' : mmF} (h : fsR R Fs tm fm (fr ++ [f]) cls V) (hI : fsJ Fs) (hk : Fs[fr.length]? = some y) (er : fm y = r) (hn : fmE R Fs tm fr.length r f (cls fr.length) (V fr.length) → fmE R Fs tm fr.length r' f' (cls fr.length) (V fr.length)) : fsR R Fs tm (fmUp fm y r') (fr ++ [f']) cls V := by
  refine fsR_up h hI hk (fun hlt => ?_) (fun i hi hlt => ?_)
  · rw [mmf_nw]
    have := h fr.length y (by simp) hk
    rw [mmf_nw, er] at this
    exact hn this
  · rw [List.length_append, List.length_singleton] at hlt
    exact ⟨by rw [List.length_append, List.length_singleton]; omega, by rw [mmf_ap (by omega), mmf_ap (by omega)], rfl, rfl⟩
/-! what the compiler found, as it is read -/
theorem rd_or {R : pgR} {c a m : Nat} (h : pgCl R c = some a) : (pgC R).2.1.2 m c = pgOr R (R.2.2.2.2.2.1 a) m := by
  show (match pgCl R c with | none => [] | some a => pgOr R (R.2.2.2.2.2.1 a) m) = _
  rw [h]
theorem rd_in {R : pgR} {p m md k : Nat} (h : pgMo R p m = some md) : (pgC R).2.1.1 p m k = decide (k < 3 ∧ zand (zshr (R.2.2.2.2.1 md).2.2.1 (k : Int)) 1 = 1) := by
  show (match pgMo R p m with | none => false | some md => decide (k < 3 ∧ zand (zshr (R.2.2.2.2.1 md).2.2.1 (k : Int)) 1 = 1)) = _
  rw [h]
theorem rd_sw {R : pgR} {p m md : Nat} (h : pgMo R p m = some md) : (pgC R).2.2.1 p m = if (R.2.2.2.2.1 md).2.2.2.2.2.2.2.2 = -1 then none else some (R.2.2.2.2.1 md).2.2.2.2.2.2.2.2.toNat := by
  show (match pgMo R p m with | none => none | some md => if (R.2.2.2.2.1 md).2.2.2.2.2.2.2.2 = -1 then none else some (R.2.2.2.2.1 md).2.2.2.2.2.2.2.2.toNat) = _
  rw [h]
theorem rd_cs {R : pgR} {p y : Nat} (h : pgP R p = some y) : (pgC R).1.1.1 p = (R.2.2.2.1 y).2.2.2.2.map (fun a => (R.2.2.2.2.2.1 a).1.1.toNat) := by
  show (match pgP R p with | none => [] | some y => (R.2.2.2.1 y).2.2.2.2.map (fun a => (R.2.2.2.2.2.1 a).1.1.toNat)) = _
  rw [h]
theorem rd_ar {R : pgR} {p y : Nat} (h : pgP R p = some y) : (pgC R).1.2 p = (R.2.2.2.1 y).2.1.length := by
  show (match pgP R p with | none => 0 | some y => (R.2.2.2.1 y).2.1.length) = _
  rw [h]
/-- a clause's address by its number -/
theorem rd_cl {R : pgR} (hK : mkF R) {a : Nat} (ha : a ∈ R.2.2.1.2.2) : pgCl R (R.2.2.2.2.2.1 a).1.1.toNat = some a := by
  obtain ⟨c, hc⟩ := List.mem_iff_getElem?.mp ha
  have := (hK.2.1 c a hc).1
  rw [this, Int.toNat_natCast]
  exact hc
/-- an order's place as the machine reads it -/
theorem rd_at {R : pgR} (hK : mkF R) {c a m pl : Nat} (h : pgCl R c = some a) (hm : m < 2) {e : mmO} (he : ((pgC R).2.1.2 m c)[pl]? = some e) :
    ∃ g, 0 ≤ csl (R.2.2.2.2.2.1 a).2.2.2.2.1.1 (m : Int) (pl : Int) ∧ (R.2.2.2.2.2.1 a).2.2.2.2.2.1.getD (csl (R.2.2.2.2.2.1 a).2.2.2.2.1.1 (m : Int) (pl : Int)).toNat none = some g ∧ g ∈ (R.2.2.2.2.2.1 a).2.2.2.1.2 ∧ gOk (R.2.2.2.2.2.2 g) ∧ e.1 = gL (R.2.2.2.2.2.2 g) ∧ (pl : Int) < cln (R.2.2.2.2.2.1 a).2.2.2.2.1.1 (m : Int) ∧
      (((R.2.2.2.2.2.1 a).2.2.2.2.2.2.getD (csl (R.2.2.2.2.2.1 a).2.2.2.2.1.1 (m : Int) (pl : Int)).toNat none = none ∧ e.2.1 = none) ∨ ∃ x k, (R.2.2.2.2.2.1 a).2.2.2.2.2.2.getD (csl (R.2.2.2.2.2.1 a).2.2.2.2.1.1 (m : Int) (pl : Int)).toNat none = some x ∧ e.2.1 = some k ∧ pgMo R e.1.2.1 k = some x) := by
  obtain ⟨n, h1, h2, h3⟩ := hK.2.2.2.1 c a h m hm
  rw [rd_or h] at he
  unfold pgOr at he
  rw [List.getElem?_map, h1, Int.toNat_natCast] at he
  have hlt : pl < n := by
    rcases Nat.lt_or_ge pl n with q | q
    · exact q
    · rw [List.getElem?_eq_none (by simp; exact q)] at he
      cases he
  rw [List.getElem?_range hlt] at he
  have he : pgOe R (R.2.2.2.2.2.1 a) m pl = e := by simpa using he
  have ecs : csl (R.2.2.2.2.2.1 a).2.2.2.2.1.1 (m : Int) (pl : Int) = ((m * 5 + pl : Nat) : Int) := by
    unfold csl
    rw [Int.toNat_natCast, h1, if_pos ⟨by omega, by omega, by omega, by omega, by omega⟩]
    omega
  obtain ⟨g, g1, g2, g3, g4⟩ := h3 pl hlt
  rw [ecs, Int.toNat_natCast]
  have e1 : e.1 = gL (R.2.2.2.2.2.2 g) := by
    rw [← he]
    unfold pgOe
    simp only [g1, Option.getD_some]
  refine ⟨g, by omega, g1, g2, g3, e1, ?_, ?_⟩
  · unfold cln
    rw [Int.toNat_natCast, h1, if_pos ⟨by omega, by omega⟩]
    omega
  · cases hx : (R.2.2.2.2.2.1 a).2.2.2.2.2.2.getD (m * 5 + pl) none with
    | none =>
      refine Or.inl ⟨rfl, ?_⟩
      rw [← he]
      unfold pgOe
      simp only [hx, Option.map_none]
    | some x =>
      obtain ⟨k, hk⟩ := g4 x hx
      refine Or.inr ⟨x, k, rfl, ?_, ?_⟩
      · rw [← he]
        unfold pgOe
        simp only [hx, Option.map_some]
        rw [(hK.1 _ _ _ hk).2.2.1, Int.toNat_natCast]
      · rw [e1]
        exact hk
theorem rd_end {R : pgR} (hK : mkF R) {c a m pl : Nat} (h : pgCl R c = some a) (hm : m < 2) (he : ((pgC R).2.1.2 m c)[pl]? = none) : cln (R.2.2.2.2.2.1 a).2.2.2.2.1.1 (m : Int) ≤ (pl : Int) := by
  obtain ⟨n, h1, h2, h3⟩ := hK.2.2.2.1 c a h m hm
  rw [rd_or h] at he
  unfold pgOr at he
  rw [List.getElem?_eq_none_iff, List.length_map, List.length_range, h1, Int.toNat_natCast] at he
  unfold cln
  rw [Int.toNat_natCast, h1, if_pos ⟨by omega, by omega⟩]
  omega

