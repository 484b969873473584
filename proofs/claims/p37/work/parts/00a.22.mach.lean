/-! Own rows: THE MACHINE, as a pure thing: frames, choice points, a trail. Static: what the compiler found. Nothing of the bytecode here. -/
abbrev mmO : Type := smL × Option Nat × Nat
/-- ((clauses, goals), arities), (inputs, orders), switches, can fail, can repeat -/
abbrev mmC : Type := (smP × (Nat → Nat)) × ((Nat → Nat → Nat → Bool) × (Nat → Nat → List mmO)) × (Nat → Nat → Option Nat) × (Nat → Nat → Bool) × (Nat → Nat → Bool)
/-- (predicate, mode), (caller, place, depth), denied, the denied one outside, choices before -/
abbrev mmF : Type := (Nat × Nat) × (Option Nat × Nat × Nat) × Bool × Option Nat × Nat
abbrev mmV : Type := Nat → Nat → Option smG
abbrev mmT : Type := List (Nat × Nat)
abbrev mmH : Type := List (Nat × Nat × Nat)
/-- frames, their clauses, values, choices (top first), trail (latest first) | current, place, denied, failing | terms | answers, steps, choice points, deepest | notes -/
abbrev mmS : Type := (List mmF × (Nat → Option Nat) × mmV × mmH × mmT) × (Option Nat × Nat × Option Nat × Bool) × List smG × (Nat × Nat × Nat × Nat) × List (Nat × Nat)
def mmf (fr : List mmF) (i : Nat) : mmF := fr.getD i ((0, 0), (none, 0, 0), false, none, 0)
def smHd (g : smG) : Nat := if g.1 = 0 then g.2 else 1
def mmNote (nt : List (Nat × Nat)) (s p d : Nat) : List (Nat × Nat) := if nt.length < 80 then nt ++ [(s, 100 * p + d)] else nt
def mmAg (V : mmV) (T : mmT) (i x : Nat) (o : Option smG) : Bool × mmV × mmT := if V i x = none then (true, (fun j y => if j = i ∧ y = x then o else V j y), (i, x) :: T) else (decide (V i x = o), V, T)
def mmHb (inp : Nat → Bool) (j i : Nat) (g : smL) : List Nat → mmV → mmT → Bool × mmV × mmT
  | [], V, T => (true, V, T)
  | k :: ks, V, T => if inp k = true then mmHb inp j i g ks V T else if (mmAg V T i (smv g k) (V j k)).1 = true then mmHb inp j i g ks (mmAg V T i (smv g k) (V j k)).2.1 (mmAg V T i (smv g k) (V j k)).2.2 else mmAg V T i (smv g k) (V j k)
def mmUn (V : mmV) (T : mmT) (t : Nat) : mmV := fun j x => if (j, x) ∈ T.take (T.length - t) then none else V j x
/-- a goal that is no call: whether it holds, values, trail, terms; none: no number is left -/
def mmEq (V : mmV) (T : mmT) (tm : List smG) (i : Nat) (g : smL) : Option (Bool × mmV × mmT × List smG) :=
  if g.1 = 1 then
    if V i (smv g 0) ≠ none then some ((mmAg V T i (smv g 1) (V i (smv g 0))).1, (mmAg V T i (smv g 1) (V i (smv g 0))).2.1, (mmAg V T i (smv g 1) (V i (smv g 0))).2.2, tm)
    else some ((mmAg V T i (smv g 0) (V i (smv g 1))).1, (mmAg V T i (smv g 0) (V i (smv g 1))).2.1, (mmAg V T i (smv g 0) (V i (smv g 1))).2.2, tm)
  else match V i (smv g 0) with
    | none =>
      if smB g.2.1 ((V i (smv g 1)).getD (0, 0)) ∈ tm then some (true, (mmAg V T i (smv g 0) (some (smB g.2.1 ((V i (smv g 1)).getD (0, 0))))).2.1, (mmAg V T i (smv g 0) (some (smB g.2.1 ((V i (smv g 1)).getD (0, 0))))).2.2, tm)
      else if tm.length < 200 then some (true, (mmAg V T i (smv g 0) (some (smB g.2.1 ((V i (smv g 1)).getD (0, 0))))).2.1, (mmAg V T i (smv g 0) (some (smB g.2.1 ((V i (smv g 1)).getD (0, 0))))).2.2, tm ++ [smB g.2.1 ((V i (smv g 1)).getD (0, 0))])
      else none
    | some h =>
      if h = smB g.2.1 (h.1 - 1, h.2) then
        if g.2.1 = 1 then some ((mmAg V T i (smv g 1) (some (h.1 - 1, h.2))).1, (mmAg V T i (smv g 1) (some (h.1 - 1, h.2))).2.1, (mmAg V T i (smv g 1) (some (h.1 - 1, h.2))).2.2, tm) else some (true, V, T, tm)
      else some (false, V, T, tm)
def mmFirst (C : mmC) (V : mmV) (pm : Nat × Nat) (i : Nat) : Option Nat :=
  match C.2.2.1 pm.1 pm.2 with
  | none => (C.1.1.1 pm.1).head?
  | some s => (C.1.1.1 pm.1).find? fun c => match (C.2.1.2 pm.2 c).head? with
    | none => false
    | some e => e.1.2.1 == smHd ((V i s).getD (0, 0))
def mmUp (cls : Nat → Option Nat) (i c : Nat) : Nat → Option Nat := fun j => if j = i then some c else cls j
def mmEnter (C : mmC) (j : Nat) : mmS → mmS
  | ((fr, cls, V, ch, T), (cur, pl, den, fl), tm, (na, ns, nc, dp), nt) =>
    match mmFirst C V (mmf fr j).1 j with
    | none => ((fr, cls, V, ch, T), (cur, pl, den, true), tm, (na, ns, nc, max dp (mmf fr j).2.1.2.2), mmNote (mmNote nt 99 (mmf fr j).1.1 (mmf fr j).2.1.2.2) 102 (mmf fr j).1.1 (mmf fr j).2.1.2.2)
    | some c =>
      if C.2.2.1 (mmf fr j).1.1 (mmf fr j).1.2 = none ∧ 1 < (C.1.1.1 (mmf fr j).1.1).length then ((fr, mmUp cls j c, V, (j, 1, T.length) :: ch, T), (some j, 0, den, fl), tm, (na, ns, nc + 1, max dp (mmf fr j).2.1.2.2), mmNote nt 99 (mmf fr j).1.1 (mmf fr j).2.1.2.2)
      else ((fr, mmUp cls j c, V, ch, T), (some j, 0, den, fl), tm, (na, ns, nc, max dp (mmf fr j).2.1.2.2), mmNote nt 99 (mmf fr j).1.1 (mmf fr j).2.1.2.2)
/-- back to the latest choice -/
def mmPop (C : mmC) : mmS → mmS ⊕ (Nat × mmS)
  | ((fr, cls, V, ch, T), (cur, pl, den, _), tm, nn, nt) =>
    match ch with
    | [] => .inr (0, ((fr, cls, V, ch, T), (cur, pl, den, false), tm, nn, nt))
    | (f, k, t) :: ch' => .inl ((fr, mmUp cls f ((C.1.1.1 (mmf fr f).1.1).getD k 0), mmUn V T t, (if k + 1 < (C.1.1.1 (mmf fr f).1.1).length then (f, k + 1, t) :: ch' else ch'), T.drop (T.length - t)), (some f, 0, den, false), tm, nn, mmNote nt 114 (mmf fr f).1.1 (mmf fr f).2.1.2.2)
def mmBack (C : mmC) : mmS → mmS ⊕ (Nat × mmS)
  | ((fr, cls, V, ch, T), (cur, pl, den, fl), tm, nn, nt) =>
    match den with
    | none => mmPop C ((fr, cls, V, ch, T), (cur, pl, den, fl), tm, nn, nt)
    | some d => if ch.length ≤ (mmf fr d).2.2.2.2 then .inl ((fr, cls, V, ch, T), ((mmf fr d).2.1.1, (mmf fr d).2.1.2.1 + 1, (mmf fr d).2.2.2.1, false), tm, nn, nt) else mmPop C ((fr, cls, V, ch, T), (cur, pl, den, fl), tm, nn, nt)
/-- the goal that a frame was called by -/
def mmBy (C : mmC) (fr : List mmF) (cls : Nat → Option Nat) (j i : Nat) : smL := ((C.2.1.2 (mmf fr i).1.2 ((cls i).getD 0)).getD (mmf fr j).2.1.2.1 ((0, 0, 0, 0, 0, 0), none, 0)).1
def mmLeave (C : mmC) (j : Nat) : mmS → mmS ⊕ (Nat × mmS)
  | ((fr, cls, V, ch, T), (cur, pl, den, fl), tm, (na, ns, nc, dp), nt) =>
    match (mmf fr j).2.1.1 with
    | none => if 50 ≤ na then .inr (1, ((fr, cls, V, ch, T), (cur, pl, den, fl), tm, (na, ns, nc, dp), mmNote nt 120 (mmf fr j).1.1 (mmf fr j).2.1.2.2)) else .inl ((fr, cls, V, ch, T), (cur, pl, den, true), tm, (na + 1, ns, nc, dp), mmNote nt 120 (mmf fr j).1.1 (mmf fr j).2.1.2.2)
    | some i =>
      let r := mmHb (C.2.1.1 (mmf fr j).1.1 (mmf fr j).1.2) j i (mmBy C fr cls j i) (List.range (mmBy C fr cls j i).2.2.1) V T
      if (mmf fr j).2.2.1 = true then
        if r.1 = true then .inl ((fr, cls, r.2.1, ch.drop (ch.length - (mmf fr j).2.2.2.2), r.2.2), (cur, pl, (mmf fr j).2.2.2.1, true), tm, (na, ns, nc, dp), mmNote nt 120 (mmf fr j).1.1 (mmf fr j).2.1.2.2)
        else .inl ((fr, cls, r.2.1, ch, r.2.2), (cur, pl, den, true), tm, (na, ns, nc, dp), mmNote nt 120 (mmf fr j).1.1 (mmf fr j).2.1.2.2)
      else .inl ((fr, cls, r.2.1, ch, r.2.2), (some i, (mmf fr j).2.1.2.1 + 1, den, !r.1), tm, (na, ns, nc, dp), mmNote nt 120 (mmf fr j).1.1 (mmf fr j).2.1.2.2)
/-- a new frame for a call: its values -/
def mmArgs (inp : Nat → Bool) (V : mmV) (i : Nat) (g : smL) (k : Nat) : Option smG := if k < g.2.2.1 ∧ inp k = true then V i (smv g k) else none
def mmNew (V : mmV) (j : Nat) (o : Nat → Option smG) : mmV := fun i x => if i = j then o x else V i x
def mmGoal (C : mmC) (i : Nat) (e : mmO) : mmS → mmS ⊕ (Nat × mmS)
  | ((fr, cls, V, ch, T), (cur, pl, den, fl), tm, (na, ns, nc, dp), nt) =>
    if 300 ≤ ns then .inr (1, ((fr, cls, V, ch, T), (cur, pl, den, fl), tm, (na, ns, nc, dp), nt))
    else if e.1.1 = 2 ∨ e.1.1 = 3 then
      match e.2.1 with
      | none => .inr (1, ((fr, cls, V, ch, T), (cur, pl, den, fl), tm, (na, ns + 1, nc, dp), nt))
      | some m =>
        if 30 ≤ (mmf fr i).2.1.2.2 then .inr (1, ((fr, cls, V, ch, T), (cur, pl, den, fl), tm, (na, ns + 1, nc, dp), nt))
        else if e.1.1 = 3 then .inl (mmEnter C fr.length ((fr ++ [((e.1.2.1, m), (some i, pl, (mmf fr i).2.1.2.2 + 1), true, den, ch.length)], cls, mmNew V fr.length (mmArgs (C.2.1.1 e.1.2.1 m) V i e.1), ch, T), (cur, pl, some fr.length, fl), tm, (na, ns + 1, nc, dp), nt))
        else .inl (mmEnter C fr.length ((fr ++ [((e.1.2.1, m), (some i, pl, (mmf fr i).2.1.2.2 + 1), false, none, 0)], cls, mmNew V fr.length (mmArgs (C.2.1.1 e.1.2.1 m) V i e.1), ch, T), (cur, pl, den, fl), tm, (na, ns + 1, nc, dp), nt))
    else match mmEq V T tm i e.1 with
      | none => .inr (2, ((fr, cls, V, ch, T), (cur, pl, den, fl), tm, (na, ns + 1, nc, dp), nt))
      | some r => .inl ((fr, cls, r.2.1, ch, r.2.2.1), (cur, pl + 1, den, !r.1), r.2.2.2, (na, ns + 1, nc, dp), nt)
def mmStep (C : mmC) : mmS → mmS ⊕ (Nat × mmS)
  | ((fr, cls, V, ch, T), (cur, pl, den, fl), tm, nn, nt) =>
    match fl, cur, cur.bind cls with
    | false, some i, some c => match (C.2.1.2 (mmf fr i).1.2 c)[pl]? with
      | none => mmLeave C i ((fr, cls, V, ch, T), (cur, pl, den, fl), tm, nn, nt)
      | some e => mmGoal C i e ((fr, cls, V, ch, T), (cur, pl, den, fl), tm, nn, nt)
    | _, _, _ => mmBack C ((fr, cls, V, ch, T), (cur, pl, den, fl), tm, nn, nt)
def mmRun (C : mmC) : Nat → mmS → Option (Nat × mmS)
  | 0, _ => none
  | n + 1, S => match mmStep C S with
    | .inl S' => mmRun C n S'
    | .inr r => some r
/-- a question's start -/
def mmStart (C : mmC) (tm : List smG) (pm : Nat × Nat) (o : Nat → Option smG) : mmS := mmEnter C 0 (([(pm, (none, 0, 1), false, none, 0)], fun _ => none, mmNew (fun _ _ => none) 0 o, [], []), (none, 0, none, false), tm, (0, 0, 0, 0), [])
/-! what the compiler owes -/
def mmKn (C : mmC) (pm : Nat × Nat) (os : List mmO) (x : Nat) : Prop := C.2.1.1 pm.1 pm.2 x = true ∨ ∃ e, e ∈ os ∧ ∃ k, k < e.1.2.2.1 ∧ smv e.1 k = x
def mmGo (C : mmC) (Gd : Nat × Nat → Prop) (S : Nat → Prop) (e : mmO) : Prop :=
  (e.1.1 = 0 ∧ e.1.2.1 < 3 ∧ e.1.2.2.1 = (if e.1.2.1 = 1 then 2 else 1) ∧ (S (smv e.1 0) ∨ (e.1.2.1 = 1 → S (smv e.1 1)))) ∨
  (e.1.1 = 1 ∧ e.1.2.2.1 = 2 ∧ (S (smv e.1 0) ∨ S (smv e.1 1))) ∨
  ((e.1.1 = 2 ∨ e.1.1 = 3) ∧ ∃ m, e.2.1 = some m ∧ Gd (e.1.2.1, m) ∧ e.1.2.2.1 = C.1.2 e.1.2.1 ∧ (∀ k, k < e.1.2.2.1 → C.2.1.1 e.1.2.1 m k = true → S (smv e.1 k)) ∧ (e.1.1 = 3 → ∀ k, k < e.1.2.2.1 → S (smv e.1 k)))
/-- outputs of a call that have no value, and are unlike -/
def mmFree (inp : Nat → Bool) (S : Nat → Prop) (g : smL) : Prop := ∀ k, k < g.2.2.1 → inp k = false → ¬ S (smv g k) ∧ ∀ k', k' < k → inp k' = false → smv g k' ≠ smv g k
/-- a goal that cannot fail -/
def mmNf (C : mmC) (S : Nat → Prop) (e : mmO) : Prop :=
  (e.1.1 = 0 ∧ ¬ S (smv e.1 0)) ∨ (e.1.1 = 1 ∧ ¬ (S (smv e.1 0) ∧ S (smv e.1 1))) ∨ (e.1.1 = 2 ∧ ∀ m, e.2.1 = some m → C.2.2.2.1 e.1.2.1 m = false ∧ mmFree (C.2.1.1 e.1.2.1 m) S e.1)
def mmFa (C : mmC) (Gd : Nat × Nat → Prop) : Prop :=
  (∀ p, (C.1.1.1 p).Nodup ∧ (C.1.1.1 p).length ≤ 12) ∧ (∀ p m k, C.2.1.1 p m k = true → k < C.1.2 p) ∧
  ∀ pm, Gd pm →
    (∀ c, c ∈ C.1.1.1 pm.1 → ((C.2.1.2 pm.2 c).map (fun e => e.1)).Perm (C.1.1.2 c) ∧ (∀ i e, (C.2.1.2 pm.2 c)[i]? = some e → mmGo C Gd (mmKn C pm ((C.2.1.2 pm.2 c).take i)) e) ∧ ∀ k, k < C.1.2 pm.1 → mmKn C pm (C.2.1.2 pm.2 c) k) ∧
    (∀ s, C.2.2.1 pm.1 pm.2 = some s → C.2.1.1 pm.1 pm.2 s = true ∧ (∀ c, c ∈ C.1.1.1 pm.1 → ∃ e os, C.2.1.2 pm.2 c = e :: os ∧ e.1.1 = 0 ∧ smv e.1 0 = s) ∧ ∀ c c', c ∈ C.1.1.1 pm.1 → c' ∈ C.1.1.1 pm.1 → ∀ e e', (C.2.1.2 pm.2 c).head? = some e → (C.2.1.2 pm.2 c').head? = some e' → e.1.2.1 = e'.1.2.1 → c = c') ∧
    (C.2.2.2.2 pm.1 pm.2 = false → (C.2.2.1 pm.1 pm.2 ≠ none ∨ (C.1.1.1 pm.1).length ≤ 1) ∧ ∀ c, c ∈ C.1.1.1 pm.1 → ∀ e, e ∈ C.2.1.2 pm.2 c → e.1.1 = 2 → ∀ m, e.2.1 = some m → C.2.2.2.2 e.1.2.1 m = false) ∧
    (C.2.2.2.1 pm.1 pm.2 = false →
      (C.2.2.1 pm.1 pm.2 = none → ∃ c, c ∈ C.1.1.1 pm.1 ∧ ∀ i e, (C.2.1.2 pm.2 c)[i]? = some e → mmNf C (mmKn C pm ((C.2.1.2 pm.2 c).take i)) e) ∧
      ∀ s, C.2.2.1 pm.1 pm.2 = some s → (∀ h, h < 3 → ∃ c, c ∈ C.1.1.1 pm.1 ∧ ∃ e, (C.2.1.2 pm.2 c).head? = some e ∧ e.1.2.1 = h) ∧
        ∀ c, c ∈ C.1.1.1 pm.1 → (∀ e, (C.2.1.2 pm.2 c).head? = some e → e.1.2.1 = 1 → ¬ mmKn C pm [] (smv e.1 1)) ∧ ∀ i e, (C.2.1.2 pm.2 c)[i + 1]? = some e → mmNf C (mmKn C pm ((C.2.1.2 pm.2 c).take (i + 1))) e)
/-! what the nodes are -/
/-- ghosts: what is left behind a frame, the frames that are alive with it, the caller's clause -/
abbrev mmGh : Type := (Nat → List smI) × (Nat → List Nat) × (Nat → Nat)
abbrev mmCG : Type := (Nat × Nat × Nat) × mmV
abbrev mmLG : Type := Nat × Nat × mmV
def mmZ (V : mmV) (L : List Nat) : smV → Prop := fun v => ∀ i, i ∈ L → ∀ x g, V i x = some g → v i x = g
def mmIt (i : Nat) (os : List mmO) : List smI := os.map fun e => (i, e.1)
def mmOut (inp : Nat → Bool) (j i : Nat) (g : smL) (ks : List Nat) : List smI := (ks.filter fun k => !inp k).map fun k => (j, (4, i, 2, k, smv g k, 0))
def mmCk (C : mmC) (Gd : Nat × Nat → Prop) (fr : List mmF) (G : mmGh) (j : Nat) : Prop :=
  j < fr.length ∧ Gd (mmf fr j).1 ∧
  (((mmf fr j).2.1.1 = none ∧ G.1 j = [] ∧ G.2.1 j = [j] ∧ (mmf fr j).2.2.1 = false ∧ (mmf fr j).2.1.2.2 = 1) ∨
   ∃ i, (mmf fr j).2.1.1 = some i ∧ i < j ∧ G.2.1 j = j :: G.2.1 i ∧ i ∈ G.2.1 i ∧ G.2.2 j ∈ C.1.1.1 (mmf fr i).1.1 ∧ (mmf fr j).2.1.2.2 = (mmf fr i).2.1.2.2 + 1 ∧ ∃ e, (C.2.1.2 (mmf fr i).1.2 (G.2.2 j))[(mmf fr j).2.1.2.1]? = some e ∧ e.1.2.1 = (mmf fr j).1.1 ∧ e.2.1 = some (mmf fr j).1.2 ∧ e.1.1 = (if (mmf fr j).2.2.1 = true then 3 else 2) ∧
     G.1 j = mmOut (C.2.1.1 (mmf fr j).1.1 (mmf fr j).1.2) j i e.1 (List.range e.1.2.2.1) ++ (if (mmf fr j).2.2.1 = true then [] else mmIt i ((C.2.1.2 (mmf fr i).1.2 (G.2.2 j)).drop ((mmf fr j).2.1.2.1 + 1)) ++ G.1 i))
def mmCn (C : mmC) (Gd : Nat × Nat → Prop) (fr : List mmF) (G : mmGh) (j : Nat) : Prop := j ∈ G.2.1 j ∧ ∀ i, i ∈ G.2.1 j → mmCk C Gd fr G i
def mmDn (C : mmC) (fr : List mmF) (G : mmGh) (cls : Nat → Option Nat) (V : mmV) (j : Nat) : Prop :=
  ∀ j', j' ∈ G.2.1 j → ∀ i, (mmf fr j').2.1.1 = some i → cls i = some (G.2.2 j') ∧ ∀ x, V i x ≠ none ↔ mmKn C (mmf fr i).1 ((C.2.1.2 (mmf fr i).1.2 (G.2.2 j')).take (mmf fr j').2.1.2.1) x
def mmCo (C : mmC) (Gd : Nat × Nat → Prop) (fr : List mmF) (G : mmGh) (cls : Nat → Option Nat) (V : mmV) (T : mmT) (c : mmCG) : Prop :=
  mmCn C Gd fr G c.1.1 ∧ mmDn C fr G cls c.2 c.1.1 ∧ c.1.2.1 < (C.1.1.1 (mmf fr c.1.1).1.1).length ∧ C.2.2.1 (mmf fr c.1.1).1.1 (mmf fr c.1.1).1.2 = none ∧ c.1.2.2 ≤ T.length ∧ (∀ i, i ∈ G.2.1 c.1.1 → ∀ x, mmUn V T c.1.2.2 i x = c.2 i x) ∧ ∀ x, c.2 c.1.1 x ≠ none ↔ C.2.1.1 (mmf fr c.1.1).1.1 (mmf fr c.1.1).1.2 x = true
def mmLo (C : mmC) (Gd : Nat × Nat → Prop) (fr : List mmF) (G : mmGh) (cls : Nat → Option Nat) (V : mmV) (T : mmT) (l : mmLG) : Prop :=
  mmCn C Gd fr G l.1 ∧ mmDn C fr G cls V l.1 ∧ (mmf fr l.1).2.2.1 = true ∧ (∃ a, (mmf fr l.1).2.1.1 = some a ∧ ∀ i, i ∈ G.2.1 a → ∀ x, V i x = l.2.2 i x) ∧ l.2.1 ≤ T.length ∧ ∀ e, e ∈ T.take (T.length - l.2.1) → l.1 ≤ e.1
def mmAc (C : mmC) (Gd : Nat × Nat → Prop) (fr : List mmF) (G : mmGh) (cls : Nat → Option Nat) (V : mmV) (i c pl : Nat) : Prop :=
  mmCn C Gd fr G i ∧ mmDn C fr G cls V i ∧ cls i = some c ∧ c ∈ C.1.1.1 (mmf fr i).1.1 ∧ pl ≤ (C.2.1.2 (mmf fr i).1.2 c).length ∧ ∀ x, V i x ≠ none ↔ mmKn C (mmf fr i).1 ((C.2.1.2 (mmf fr i).1.2 c).take pl) x
def mmNd (C : mmC) (fr : List mmF) (G : mmGh) (V : mmV) (i c pl : Nat) : smND := (mmIt i ((C.2.1.2 (mmf fr i).1.2 c).drop pl) ++ G.1 i, mmZ V (G.2.1 i))
def mmCd (C : mmC) (fr : List mmF) (G : mmGh) (c : mmCG) : List smND := ((C.1.1.1 (mmf fr c.1.1).1.1).drop c.1.2.1).map fun cc => mmNd C fr G c.2 c.1.1 cc 0
def mmSt (C : mmC) (fr : List mmF) (G : mmGh) (lv : List (mmLG × List mmCG)) : List (smND × List smND) := lv.map fun l => (mmNd C fr G l.1.2.2 ((mmf fr l.1.1).2.1.1.getD 0) (G.2.2 l.1.1) ((mmf fr l.1.1).2.1.2.1 + 1), l.2.flatMap (mmCd C fr G))
/-- no denied frame is alive between a frame and its level's -/
def mmBs (fr : List mmF) (G : mmGh) : Option Nat → Nat → Prop
  | none, i => ∀ j, j ∈ G.2.1 i → (mmf fr j).2.2.1 = false
  | some d, i => d ∈ G.2.1 i ∧ ∀ j, j ∈ G.2.1 i → d < j → (mmf fr j).2.2.1 = false
abbrev mmHd (lv : List (mmLG × List mmCG)) : Option Nat := lv.head?.map fun l => l.1.1
/-- choices in their levels -/
def mmLv (fr : List mmF) (G : mmGh) : List mmCG → List (mmLG × List mmCG) → mmH → Option Nat → Prop
  | top, [], ch, den => den = none ∧ (∀ c, c ∈ top → mmBs fr G none c.1.1) ∧ ch = top.map (fun c => c.1)
  | top, (l, outer) :: lv, ch, den => den = some l.1 ∧ (∀ c, c ∈ top → mmBs fr G (some l.1) c.1.1 ∧ l.2.1 ≤ c.1.2.2) ∧ (∀ a, (mmf fr l.1).2.1.1 = some a → mmBs fr G (mmHd lv) a) ∧ (∀ l', l' ∈ lv.head? → l'.1.2.1 ≤ l.2.1) ∧ ∃ ch', ch = top.map (fun c => c.1) ++ ch' ∧ ch'.length = (mmf fr l.1).2.2.2.2 ∧ mmLv fr G outer lv ch' (mmf fr l.1).2.2.2.1
def mmPw (ch : mmH) : Prop := ch.Pairwise fun a b => b.1 < a.1 ∧ b.2.2 ≤ a.2.2
/-- the whole invariant; an: the active frame and its clause, none if the machine fails -/
def mmIn (C : mmC) (Gd : Nat × Nat → Prop) (G : mmGh) (top : List mmCG) (lv : List (mmLG × List mmCG)) (an : Option (Nat × Nat)) : mmS → Prop
  | ((fr, cls, V, ch, T), (cur, pl, den, fl), _, _, _) =>
    mmLv fr G top lv ch den ∧ (∀ c, c ∈ top ++ lv.flatMap (fun l => l.2) → mmCo C Gd fr G cls V T c) ∧ (∀ l, l ∈ lv → mmLo C Gd fr G cls V T l.1) ∧ mmPw ch ∧
    (fl = true → an = none) ∧ (fl = false → ∃ i c, an = some (i, c) ∧ cur = some i ∧ mmAc C Gd fr G cls V i c pl ∧ mmBs fr G (mmHd lv) i)
def mmNs (C : mmC) (G : mmGh) (top : List mmCG) (an : Option (Nat × Nat)) : mmS → List smND
  | ((fr, _, V, _, _), (_, pl, _, _), _, _, _) => (match an with | none => [] | some ic => [mmNd C fr G V ic.1 ic.2 pl]) ++ top.flatMap (mmCd C fr G)
