/-! Own rows: BREADTH in the world: its tables, and what stays when it works. By hand (printed by wip/p37/m_bb.py). -/
abbrev bbK : Type := (Nat × Nat × Nat) × (Nat × Nat × Nat × Nat) × (Nat × Nat × Nat × Nat)
abbrev bbT : Type := Nat × List (List Int)
/-- nodes, variables, cells, lists; row, bindings, levels, work; ground, front, taken, restored, round -/
abbrev bbR : Type := (bbT × bbT × bbT × bbT) × (bbT × bbT × bbT × bbT) × (Int × Int × Int × Int × Int)
def bbW (w : zW) (b1 b2 : Nat) : bbK → bbR → Prop
  | ((br, pg, t), (nd, va, ce, li), (ro, bi, le, wk)), (((cN, NN), (cV, VV), (cC, CC), (cL, LL)), ((cR, RR), (cB, BB), (cE, EE), (cW, WW)), (gc, fr, tk, rs, rd)) =>
    w.1 br = some (0, 0, [zR pg, zR t, zR nd, zI gc, zR va, zR ce, zR li, zR ro, zI fr, zR bi, zR le, zR wk, zI tk, zI rs, zI rd]) ∧
    ((w.1 nd = some (140, br, tTb 5 cN NN) ∧ tOk 5 NN) ∧ (w.1 va = some (141, br, tTb 1 cV VV) ∧ tOk 1 VV) ∧ (w.1 ce = some (142, br, tTb 3 cC CC) ∧ tOk 3 CC) ∧ (w.1 li = some (143, br, tTb 4 cL LL) ∧ tOk 4 LL)) ∧
    ((w.1 ro = some (144, br, tTb 6 cR RR) ∧ tOk 6 RR) ∧ (w.1 bi = some (145, br, tTb 2 cB BB) ∧ tOk 2 BB) ∧ (w.1 le = some (146, br, tTb 4 cE EE) ∧ tOk 4 EE) ∧ (w.1 wk = some (147, br, tTb 3 cW WW) ∧ tOk 3 WW)) ∧
    ((30 ≤ cN ∧ 30 ≤ cV ∧ 30 ≤ cC ∧ 30 ≤ cL) ∧ (30 ≤ cR ∧ 30 ≤ cB ∧ 30 ≤ cE ∧ 30 ≤ cW)) ∧
    ((cN ≤ 40000 ∧ cV ≤ 40000 ∧ cC ≤ 690000 ∧ cL ≤ 4000) ∧ (cR ≤ 40000 ∧ cB ≤ 940000 ∧ cE ≤ 4000 ∧ cW ≤ 40000)) ∧
    30 * w.2.1 ≤ b1 + (cN + cV + cC + cL + cR + cB + cE + cW) ∧ w.2.2 ≤ b2 + 2 * (cN + cV + cC + cL + cR + cB + cE + cW)
abbrev TB : List Nat := [0, 140, 141, 142, 143, 144, 145, 146, 147]
theorem tAw_sz3 {w : zW} {a t ow c cap : Nat} {rows : List (List Int)} {r : List Int} (hc : 30 ≤ cap) : w.2.1 ≤ (tAw w a t ow c cap rows r).2.1 ∧ w.2.2 ≤ (tAw w a t ow c cap rows r).2.2 ∧ 30 * (tAw w a t ow c cap rows r).2.1 + cap ≤ 30 * w.2.1 + tCap c cap rows ∧ (tAw w a t ow c cap rows r).2.2 + 2 * cap ≤ w.2.2 + 2 * tCap c cap rows ∧ cap ≤ tCap c cap rows ∧ (tCap c cap rows = cap ∨ tCap c cap rows = 2 * (rows.length * c + c)) := by
  unfold tAw tCap
  split
  · exact ⟨Nat.le_refl _, Nat.le_refl _, Nat.le_refl _, Nat.le_refl _, Nat.le_refl _, Or.inl rfl⟩
  · refine ⟨Nat.le_succ _, Nat.le_add_right _ _, ?_, ?_, by omega, Or.inr rfl⟩
    · show 30 * (w.2.1 + 1) + cap ≤ _
      omega
    · show w.2.2 + _ + 2 * cap ≤ _
      omega
theorem pgW_TB {w w' : zW} {pg : Nat} {R : pgR} (hP : pgW w pg R) (f : zFr TB w w') : pgW w' pg R := pgW_zFr hP f (by decide)

