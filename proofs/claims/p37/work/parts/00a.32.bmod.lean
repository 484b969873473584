/-! Own rows: BREADTH as a pure thing: nodes, variables, cells; lists, the row; bindings; levels. -/
/-- nodes, variables, cells (goal, base, next) -/
abbrev bTb : Type := bNT × List (Option Nat) × List (Nat × Nat × Option Nat)
abbrev bLs : Type := List (Option Nat × Nat × Nat × Option Nat)
/-- parent, (from, to), cell, call, clause -/
abbrev bEn : Type := Option Nat × (Nat × Nat) × Option Nat × Option Nat × Nat
/-- front, row's end, waiting list, rest; innermost first -/
abbrev bLv : Type := List (Nat × Nat × Nat × Option Nat)
/-- tables; lists, row, front; bindings; levels; taken, answers -/
abbrev bS : Type := bTb × (bLs × List bEn × Nat) × List (Nat × Nat) × bLv × (Nat × Nat)
def bG (C : mmC) (n : Nat) : Option smL := if 60 ≤ n then some (smQ (n - 60) (C.1.2 (n - 60))) else (C.1.1.2 (n / 5))[n % 5]?
def bNo (Vr : List (Option Nat)) (b x : Nat) : Option Nat := (Vr[b + x]?).bind id
def bOv (tv : Nat → Bool) (cnt : Nat) (arg : Nat → Option Nat) : List Nat → bNT → List (Option Nat) → bNT × List (Option Nat)
  | [], N, Vr => (N, Vr)
  | x :: xs, N, Vr => if x < cnt then bOv tv cnt arg xs N (Vr ++ [arg x]) else if tv x = true then bOv tv cnt arg xs (N ++ [(none, 0)]) (Vr ++ [some N.length]) else bOv tv cnt arg xs N (Vr ++ [none])
def bOc (c base : Nat) : Nat → Option Nat → List (Nat × Nat × Option Nat) → List (Nat × Nat × Option Nat) × Option Nat
  | 0, r, Ce => (Ce, r)
  | k + 1, r, Ce => bOc c base k (some Ce.length) (Ce ++ [(c * 5 + k, base, r)])
def bPb (Ls : bLs) (Bi : List (Nat × Nat)) : Nat → Option Nat → List (Nat × Nat)
  | 0, _ => []
  | _ + 1, none => []
  | k + 1, some l => match Ls[l]? with
    | none => []
    | some e => (Bi.take e.2.2.1).drop e.2.1 ++ bPb Ls Bi k e.1
def bdOf (pb : List (Nat × Nat)) : bBD := fun n => (pb.find? fun e => e.1 == n).map fun e => e.2
def bCh (Ce : List (Nat × Nat × Option Nat)) : Option Nat → List Nat → Prop
  | o, [] => o = none
  | o, c :: cs => o = some c ∧ ∃ e, Ce[c]? = some e ∧ bCh Ce e.2.2 cs
/-- a goal is ground -/
def bGr (N : bNT) (Vr : List (Option Nat)) (bd : bBD) (b : Nat) (g : smL) : Prop := ∀ k, k < g.2.2.1 → ∃ n, bNo Vr b (smv g k) = some n ∧ ∃ j e, bend N bd j n = some e ∧ bhd N e.2 ≠ none
def bOk (C : mmC) (N : bNT) (Vr : List (Option Nat)) (Ce : List (Nat × Nat × Option Nat)) (bd : bBD) (cc : Nat) : Prop := ∃ e g, Ce[cc]? = some e ∧ bG C e.1 = some g ∧ (g.1 ≠ 3 ∨ bGr N Vr bd e.2.1 g)
/-- the cells ahead of a cell, copied -/
def bWo (Ce : List (Nat × Nat × Option Nat)) (r : Option Nat) : List Nat → Nat → List (Nat × Nat × Option Nat)
  | [], _ => []
  | a :: as, n => ((Ce.getD a (0, 0, none)).1, (Ce.getD a (0, 0, none)).2.1, if as = [] then r else some (n + 1)) :: bWo Ce r as (n + 1)
/-- a list, whose first cell is h, is resolved -/
def bRes (C : mmC) (g l h : Nat) : bS → bS → Prop
  | ((N, Vr, Ce), (Ls, Ro, fr), Bi, lv, tn), S' =>
    ∃ cs, bCh Ce (some h) cs ∧
      (((∀ c, c ∈ cs → ¬ bOk C N Vr Ce (bdOf (bPb Ls Bi 150 (some l))) c) ∧ S' = ((N, Vr, Ce), (Ls, Ro, fr), Bi, lv, tn)) ∨
       ∃ A cc B e gl, cs = A ++ cc :: B ∧ (∀ c, c ∈ A → ¬ bOk C N Vr Ce (bdOf (bPb Ls Bi 150 (some l))) c) ∧ bOk C N Vr Ce (bdOf (bPb Ls Bi 150 (some l))) cc ∧ Ce[cc]? = some e ∧ bG C e.1 = some gl ∧
        ∃ Ce1 r, Ce1 = Ce ++ bWo Ce e.2.2 A Ce.length ∧ r = (if A = [] then e.2.2 else some Ce.length) ∧
         ((gl.1 = 2 ∧ S' = ((N, Vr, Ce1), (Ls, if C.1.1.1 gl.2.1 = [] then Ro else Ro ++ [(some l, (0, 0), r, some cc, 0)], fr), Bi, lv, tn)) ∨
          (gl.1 = 3 ∧ S' = ((N, Vr ++ (List.range gl.2.2.1).map (fun k => bNo Vr e.2.1 (smv gl k)), Ce1 ++ [(60 + gl.2.1, Vr.length, none)]), (Ls, Ro ++ [(some l, (0, 0), some Ce1.length, none, 0)], Ro.length), Bi, (fr, Ro.length, l, r) :: lv, tn)) ∨
          (gl.1 ≤ 1 ∧ ∃ x y N1 k rr, bNo Vr e.2.1 (smv gl 0) = some x ∧
            ((gl.1 = 1 ∧ bNo Vr e.2.1 (smv gl 1) = some y ∧ N1 = N) ∨ (gl.1 = 0 ∧ y = N.length ∧ N1 = N ++ [(some gl.2.1, if gl.2.1 = 1 then (bNo Vr e.2.1 (smv gl 1)).getD 0 else 0)])) ∧
            bUn N1 g k (bdOf (bPb Ls Bi 150 (some l))) x y rr ∧
            ((rr.1 = true ∧ bFin N1 rr.2.1 x ∧ S' = ((N1, Vr, Ce1), (Ls, Ro ++ [(some l, (Bi.length, Bi.length + rr.2.2.length), r, none, 0)], fr), Bi ++ rr.2.2, lv, tn)) ∨
             (¬ (rr.1 = true ∧ bFin N1 rr.2.1 x) ∧ S' = ((N1, Vr, Ce1), (Ls, Ro, fr), Bi, lv, tn))))))
/-- a list is taken off the row -/
def bTake (C : mmC) (tv : Nat → Nat → Bool) : bS → Option Nat → bS → Prop
  | ((N, Vr, Ce), (Ls, Ro, fr), Bi, lv, (tk, na)), h, S' =>
    ∃ en, Ro[fr]? = some en ∧
      ((en.2.2.2.1 = none ∧ h = en.2.2.1 ∧ S' = ((N, Vr, Ce), (Ls ++ [(en.1, en.2.1.1, en.2.1.2, h)], Ro, fr + 1), Bi, lv, (tk + 1, na))) ∨
       ∃ cc e gl c, en.2.2.2.1 = some cc ∧ Ce[cc]? = some e ∧ bG C e.1 = some gl ∧ (C.1.1.1 gl.2.1)[en.2.2.2.2]? = some c ∧
        h = (bOc c Vr.length (C.1.1.2 c).length en.2.2.1 Ce).2 ∧
        S' = (((bOv (tv c) gl.2.2.1 (fun k => bNo Vr e.2.1 (smv gl k)) (List.range 8) N Vr).1, (bOv (tv c) gl.2.2.1 (fun k => bNo Vr e.2.1 (smv gl k)) (List.range 8) N Vr).2, (bOc c Vr.length (C.1.1.2 c).length en.2.2.1 Ce).1), (Ls ++ [(en.1, en.2.1.1, en.2.1.2, h)], Ro.set fr (en.1, en.2.1, en.2.2.1, en.2.2.2.1, en.2.2.2.2 + 1), if en.2.2.2.2 + 1 < (C.1.1.1 gl.2.1).length then fr else fr + 1), Bi, lv, (tk + 1, na)))
/-- a turn: on, or the count (none: not told) -/
def bTurn (C : mmC) (tv : Nat → Nat → Bool) (g : Nat) : bS → bS ⊕ Option Nat → Prop
  | ((N, Vr, Ce), (Ls, Ro, fr), Bi, lv, (tk, na)), R =>
    (Ro.length ≤ fr ∧ ((lv = [] ∧ R = .inr (some na)) ∨ ∃ l lv', lv = l :: lv' ∧ R = .inl ((N, Vr, Ce), (Ls, Ro.take l.2.1 ++ [(some l.2.2.1, (0, 0), l.2.2.2, none, 0)], l.1), Bi, lv', (tk, na)))) ∨
    (fr < Ro.length ∧ 150 ≤ tk ∧ R = .inr none) ∨
    (fr < Ro.length ∧ tk < 150 ∧ ∃ h S1, bTake C tv ((N, Vr, Ce), (Ls, Ro, fr), Bi, lv, (tk, na)) h S1 ∧
      ((h = none ∧ ((lv = [] ∧ R = .inl (S1.1, S1.2.1, S1.2.2.1, lv, (tk + 1, na + 1))) ∨ ∃ l lv', lv = l :: lv' ∧ R = .inl (S1.1, (S1.2.1.1, S1.2.1.2.1.take l.2.1, l.1), S1.2.2.1, lv', (tk + 1, na)))) ∨
       ∃ c S2, h = some c ∧ R = .inl S2 ∧ bRes C g Ls.length c S1 S2))
