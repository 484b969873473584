/-! Own rows: the object as a whole. By hand. -/
/-- a report: mode; inputs, answers, notes; steps, choices, depth, end, breadth -/
abbrev whL : Type := Option Nat × (List (List Int) × List (List Int) × List (List Int)) × (Int × Int × Int × Int × Int × Int)
/-- types and constructors; terms; program; compiled, asked, sum; the last report -/
abbrev whS : Type := (Int × List (List Int)) × List smG × pgR × (Int × Int × Int) × whL
def rpL (w : zW) (r ti ta tn : Nat) : whL → Prop
  | (mo, (I, A, N), (sc, cc, dc, en, bk, bc)) => rpW w r ti ta tn mo I A N sc cc dc en bk bc
def bPot : bbR → Nat
  | (((cN, _), (cV, _), (cC, _), (cL, _)), ((cR, _), (cB, _), (cE, _), (cW, _)), _) => cN + cV + cC + cL + cR + cB + cE + cW
/-- the machine's records, all -/
abbrev maR : Type := (Nat × Nat × List Nat × (Nat → fmR)) × (Nat × List (List Int)) × (Nat × List (List Int)) × (Int × Option Nat × Int × Option Nat) × (Int × Int × Int)
def maV (w : zW) (mc fa ca ta t : Nat) : maR → Prop
  | ((r0, cap, Fs, fm), (cc, CH), (ct, TR), (us, cu, pl, de), (fl, ov, fu)) => maW w mc fa ca ta t r0 cap Fs fm cc CH ct TR us cu pl de fl ov fu ∧ Fs.length ≤ 320
def mPot1 (M : maR) : Nat := 180 * M.1.2.2.1.length + M.2.1.1 + M.2.2.1.1
def mPot2 (M : maR) : Nat := 1000 * M.1.2.2.1.length + 2 * M.2.1.1 + 2 * M.2.2.1.1
/-- the addresses: types' store; machine; last and spare report; breadth -/
abbrev whA : Type := (Nat × Nat × Nat × Nat × Nat) × Nat × (Nat × Nat × Nat × Nat) × ((Nat × Nat × Nat × Nat) × (Nat × Nat × Nat × Nat)) × Nat × (Nat × Nat × Nat × Nat) × (Nat × Nat × Nat × Nat)
def whP (w : zW) (o : Nat) : whA → whS → (List (List Int) × List (List Int) × List Int) → whL → maR → bbR → Prop
  | ((t, tc, tn, th, tz), pg, (mc, fa, ca, ta), ((la, lai, laa, lan), (sp, spi, spa, spn)), br, (nd, va, ce, li), (ro, bi, le, wk)), ((ty, C), tm, R, (comp, asked, sum), La), (N, H, Sz), Sp, M, B =>
    w.1 o = some (11, 0, [zR t, zR pg, zR mc, zR br, zR la, zR sp, zI comp, zI asked, zJ sum]) ∧ la ≠ sp ∧ (tmW w t tc tn th tz ty C N H Sz ∧ tmR N H Sz tm) ∧ (pgW w pg R ∧ pgQ w R) ∧ rpL w la lai laa lan La ∧ rpL w sp spi spa spn Sp ∧ maV w mc fa ca ta t M ∧ baW w ((br, pg, t), (nd, va, ce, li), (ro, bi, le, wk)) B
/-- the object, and what has been used -/
def whW (w : zW) (o k1 k2 : Nat) (S : whS) : Prop := ∃ A T Sp M B, whP w o A S T Sp M B ∧ 60 * w.2.1 ≤ k1 + mPot1 M + 2 * bPot B ∧ w.2.2 ≤ k2 + mPot2 M + 2 * bPot B
theorem tmR_0 : tmR [] (List.replicate 64 [-1]) (List.replicate 200 0) [] := by
  refine ⟨⟨List.length_replicate, fun r hr => by rw [List.eq_of_mem_replicate hr]; rfl, fun h hh => ⟨[], ?_, fun n => ⟨fun q => (nomatch q), fun q => absurd q.1 (Nat.not_lt_zero n)⟩⟩⟩, rfl, List.nodup_nil, Nat.zero_le _, List.length_replicate, fun n g h => (nomatch h)⟩
  have e : tg (List.replicate 64 [-1]) (h : Int) 0 = -1 := by
    unfold tg
    rw [if_pos ⟨Int.natCast_nonneg h, Int.le_refl 0⟩, Int.toNat_natCast, List.getElem?_replicate, if_pos hh]
    rfl
  exact e
section CINI
variable {G : zG} {d : Nat} {w : zW} {o : Nat}
theorem c_X11_init (ho : w.1 o = some (11, 0, [zN, zN, zN, zN, zN, zN, zI 0, zI 0, zJ 0])) (r1 : w.2.1 + 49 ≤ G.2.2.2.2.1) (r2 : w.2.2 + 3562 ≤ G.2.2.2.2.2) : zM G zm_X11_init (d + 5) [zR o] w (zVoid fun w' => (∃ a b c : Nat, whW w' o (60 * (w.2.1 + 49)) (w.2.2 + 3562) ((0, []), [], pgR0 a b c, (0, 0, 0), (none, ([], [], []), (0, 0, 0, 101, 0, 0)))) ∧ zKp o w w') := by
  refine zx_ent (by decide +kernel) rfl (Nat.le_of_ble_eq_true rfl) ?_
  refine zx_L (L1 := [some (zR o)]) rfl ?_
  refine zx_aload_n (i := 0) dX11_init_0 rfl rfl ?_
  refine zx_objInit dX11_init_1 zo_X11_1 zk_oi1 zk_oi2 (Nat.le_of_ble_eq_true rfl) ?_
  refine zx_pc (pc1 := 4) rfl ?_
  refine xi_1 (d := d) (zz := 0) ho (by omega) (by omega) (fun w1 t tc tn th tz o1 T1 f1 a1 b1 => ?_)
  refine xi_2 o1 (by omega) (by omega) (fun w2 pg l1 l2 l3 o2 P2 f2 a2 b2 => ?_)
  refine xi_3 o2 (by omega) (by omega) (fun w3 la lai laa lan o3 L3 f3 a3 b3 => ?_)
  refine zx_ok (fun ok3 => ?_)
  refine xi_4 o3 (by omega) (by omega) (fun w4 sp spi spa spn o4 L4 f4 a4 b4 => ?_)
  refine xi_5 o4 (by omega) (by omega) (fun w5 mc fa ca ta o5 M5 f5 a5 b5 => ?_)
  refine xi_6 o5 (by omega) (by omega) (fun w6 br nd va ce li ro bi le wk o6 B6 f6 a6 b6 => ?_)
  refine xi_7 o6 (fun w7 o7 f7 e7 => ⟨rfl, ⟨l1, l2, l3, ?_⟩, zKp_tr f1 (zKp_tr f2 (zKp_tr f3 (zKp_tr f4 (zKp_tr f5 (zKp_tr f6 f7)))))⟩)
  have hla := ok3 _ _ L3.1
  have hls : la ≠ sp := by have := L4.2; omega
  have T7 := tmW_kp f7 o6 (tmW_kp f6 o5 (tmW_kp f5 o4 (tmW_kp f4 o3 (tmW_kp f3 o2 (tmW_kp f2 o1 T1)))))
  have L7 := rpW_kp f7 o6 (rpW_kp f6 o5 (rpW_kp f5 o4 (rpW_kp f4 o3 L3)))
  have S7 := rpW_kp f7 o6 (rpW_kp f6 o5 (rpW_kp f5 o4 L4.1))
  have M7 := maW_kp0 f7 o6 (maW_kp0 f6 o5 M5)
  have B7 := baW_kp f7 o6 B6
  have P7 : pgW w7 pg (pgR0 l1 l2 l3) := by
    obtain ⟨p0, p1, p2, p3, -⟩ := P2
    have g : ∀ {a x ow : Nat} {c : List zV}, w2.1 a = some (x, ow, c) → x ≠ 11 → w7.1 a = some (x, ow, c) := fun ha hx => kp_at f7 o6 (kp_at f6 o5 (kp_at f5 o4 (kp_at f4 o3 (kp_at f3 o2 ha hx) hx) hx) hx) hx
    exact ⟨g p0 (by decide), g p1 (by decide), g p2 (by decide), g p3 (by decide), fun y hy => (nomatch hy), fun y hy => (nomatch hy), fun y hy => (nomatch hy)⟩
  refine ⟨((t, tc, tn, th, tz), pg, (mc, fa, ca, ta), ((la, lai, laa, lan), (sp, spi, spa, spn)), br, (nd, va, ce, li), (ro, bi, le, wk)), ([], List.replicate 64 [-1], List.replicate 200 0), (none, ([], [], []), (0, 0, 0, 101, 0, 0)), ((sp, 0, [], fun _ => default), (90, []), (60, []), (0, none, 0, none), (0, 0, 0)), (((320, []), (64, []), (192, []), (256, [])), ((384, []), (128, []), (32, []), (192, [])), (0, 0, 0, 0, 0)), ⟨o7, hls, ⟨T7, tmR_0⟩, ⟨P7, fun y hy => (nomatch hy)⟩, L7, S7, ⟨M7, Nat.zero_le _⟩, B7⟩, ?_, ?_⟩
  · rw [e7]
    omega
  · rw [e7]
    omega
end CINI
