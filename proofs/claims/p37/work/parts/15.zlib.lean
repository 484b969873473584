/-! Own rows: worlds written and read; contracts that tell one outcome; tables and lists opened. -/
/-- one outcome -/
def zRet (v : Option zV) (w1 : zW) : zQ := fun o w' => o = .inl v ∧ w' = w1
def zB (p : Prop) [Decidable p] : Int := if p then 1 else 0
theorem zB_t {p : Prop} [Decidable p] (h : p) : zB p = 1 := if_pos h
theorem zB_f {p : Prop} [Decidable p] (h : ¬ p) : zB p = 0 := if_neg h
theorem zB_or {p : Prop} [Decidable p] : zB p = 0 ∨ zB p = 1 := by unfold zB; split <;> simp
theorem zB_one {p : Prop} [Decidable p] : zB p = 1 ↔ p := by unfold zB; split <;> simp_all
theorem zB_zero {p : Prop} [Decidable p] : zB p = 0 ↔ ¬ p := by unfold zB; split <;> simp_all
theorem zr_i {a b : Int} {w : zW} (h : a = b) : zRet (some (zI b)) w (.inl (some (zI a))) w := ⟨by rw [h], rfl⟩
theorem zr_t {p : Prop} [Decidable p] {w : zW} (h : p) : zRet (some (zI (zB p))) w (.inl (some (zI 1))) w := zr_i (zB_t h).symm
theorem zr_f {p : Prop} [Decidable p] {w : zW} (h : ¬ p) : zRet (some (zI (zB p))) w (.inl (some (zI 0))) w := zr_i (zB_f h).symm
theorem zr_v {v v' : zV} {w w' : zW} (h : v = v') (h2 : w = w') : zRet (some v') w' (.inl (some v)) w := ⟨by rw [h], h2⟩
theorem zr_n {w w' : zW} (h2 : w = w') : zRet none w' (.inl none) w := ⟨rfl, h2⟩
theorem zput_at {w : zW} {a : Nat} {ob : zO} : (zput w a ob).1 a = some ob := by simp [zput, zup]
theorem zput_ne {w : zW} {a b : Nat} {ob : zO} (h : b ≠ a) : (zput w a ob).1 b = w.1 b := by simp [zput, zup, h]
theorem zne_tg {w : zW} {a b : Nat} {x y : zO} (ha : w.1 a = some x) (hb : w.1 b = some y) (h : x.1 ≠ y.1) : b ≠ a := fun e => by rw [e, ha] at hb; cases hb; exact h rfl
theorem zne_ow {w : zW} {a b : Nat} {x y : zO} (ha : w.1 a = some x) (hb : w.1 b = some y) (h : x.2.1 ≠ y.2.1) : b ≠ a := fun e => by rw [e, ha] at hb; cases hb; exact h rfl
theorem zput_tg {w : zW} {a b : Nat} {ob x y : zO} (ha : w.1 a = some x) (hb : w.1 b = some y) (h : x.1 ≠ y.1) : (zput w a ob).1 b = some y := by rw [zput_ne (zne_tg ha hb h)]; exact hb
theorem zput_ow {w : zW} {a b : Nat} {ob x y : zO} (ha : w.1 a = some x) (hb : w.1 b = some y) (h : x.2.1 ≠ y.2.1) : (zput w a ob).1 b = some y := by rw [zput_ne (zne_ow ha hb h)]; exact hb
theorem zput_to {w : zW} {a b : Nat} {ob y : zO} (h : b ≠ a) (hb : w.1 b = some y) : (zput w a ob).1 b = some y := by rw [zput_ne h]; exact hb
theorem zup_up {m : Nat → Option zO} {a : Nat} {x y : zO} : zup (zup m a x) a y = zup m a y := by
  funext b; unfold zup; by_cases c : b = a <;> simp [c]
theorem zput_put {w : zW} {a : Nat} {x y : zO} : zput (zput w a x) a y = zput w a y := by unfold zput; rw [zup_up]
theorem zput_comm {w : zW} {a b : Nat} {x y : zO} (h : a ≠ b) : zput (zput w a x) b y = zput (zput w b y) a x := by
  unfold zput zup
  congr 1
  funext c
  by_cases c1 : c = a
  · subst c1; simp [h]
  · simp [c1]
theorem zput_id {w : zW} {a : Nat} {x : zO} (h : w.1 a = some x) : zput w a x = w := by
  unfold zput zup
  refine Prod.ext ?_ rfl
  funext c
  by_cases c1 : c = a
  · subst c1; simp [h]
  · simp [c1]
theorem znew_at {w : zW} {ob : zO} {n : Nat} : (znew w ob n).1 w.2.1 = some ob := by simp [znew, zup]
theorem znew_ne {w : zW} {ob : zO} {n b : Nat} (h : b ≠ w.2.1) : (znew w ob n).1 b = w.1 b := by simp [znew, zup, h]
theorem znew_to {w : zW} {ob y : zO} {n b : Nat} (h : b < w.2.1) (hb : w.1 b = some y) : (znew w ob n).1 b = some y := by rw [znew_ne (Nat.ne_of_lt h)]; exact hb
theorem znew_put {w : zW} {x y : zO} {n : Nat} : zput (znew w x n) w.2.1 y = znew w y n := by unfold zput znew; rw [zup_up]
/-- every address of a world lies in the heap -/
def zOk (w : zW) : Prop := ∀ a ob, w.1 a = some ob → a < w.2.1
section ZLIB
variable {G : zG} {M : zMd} {d : Nat} {av : List zV} {w0 : zW} {Q : zQ} {pc : Nat} {L : List (Option zV)} {st : List zV} {w : zW}
theorem zx_ok (k : zOk w → zX G M d av w0 Q pc L st w) : zX G M d av w0 Q pc L st w := by
  intro p e s m below meth c H ls locs hC hY
  refine k (fun a ob ha => ?_) p e s m below meth c H ls locs hC hY
  have h1 := (hY.2.1.2.2.2.2 a ob ha).2
  rw [hY.2.1.1] at h1
  exact h1
/-- the numbers in an object's contents fit -/
theorem zx_fits {a : Nat} {ob : zO} (ha : w.1 a = some ob) (k : (∀ v ∈ ob.2.2, zfit v) → zX G M d av w0 Q pc L st w) : zX G M d av w0 Q pc L st w := by
  intro p e s m below meth c H ls locs hC hY
  exact k (hY.2.1.2.2.2.2 a ob ha).1.1 p e s m below meth c H ls locs hC hY
/-- what lies on the stack, or in a local, fits -/
theorem zx_fitst (k : (∀ v ∈ st, zfit v) → zX G M d av w0 Q pc L st w) : zX G M d av w0 Q pc L st w := by
  intro p e s m below meth c H ls locs hC hY
  exact k hY.2.2.2.2.2.2 p e s m below meth c H ls locs hC hY
theorem zx_fitl (k : (∀ (i : Nat) (v : zV), L[i]? = some (some v) → zfit v) → zX G M d av w0 Q pc L st w) : zX G M d av w0 Q pc L st w := by
  intro p e s m below meth c H ls locs hC hY
  exact k (fun i v hv => (hY.2.2.2.2.2.1.2.2 i v hv).2) p e s m below meth c H ls locs hC hY
theorem zx_w {w1 : zW} (h : w = w1) (k : zX G M d av w0 Q pc L st w1) : zX G M d av w0 Q pc L st w := by rw [h]; exact k
theorem zx_pc {pc1 : Nat} (h : pc = pc1) (k : zX G M d av w0 Q pc1 L st w) : zX G M d av w0 Q pc L st w := by rw [h]; exact k
theorem zx_st {st1 : List zV} (h : st = st1) (k : zX G M d av w0 Q pc L st1 w) : zX G M d av w0 Q pc L st w := by rw [h]; exact k
theorem zlg_len : ∀ av : List zV, (lg_sl (av.map zv)).length = (av.flatMap fun v => match v with | .inr (.inr _) => [some v, none] | _ => [some v]).length
  | [] => rfl
  | v :: av => by
    have ih := zlg_len av
    unfold lg_sl at ih ⊢
    rw [List.map_cons, List.flatMap_cons, List.flatMap_cons, List.length_append, List.length_append, ih]
    congr 1
    rcases v with a | (_ | q) | a <;> rfl
theorem zx_ent (hy : plainName M.1.cls = true) (hh : M.2.2.2.2 = []) (hlen : (av.flatMap fun v => match v with | .inr (.inr _) => [some v, none] | _ => [some v]).length ≤ M.2.2.1) (k : zX G M d av w Q 0 (zin0 av M.2.2.1) [] w) : zM G M d av w Q := zx_enter hy hh (by rw [zlg_len]; exact hlen) k
theorem zx_L {L1 : List (Option zV)} (h : L = L1) (k : zX G M d av w0 Q pc L1 st w) : zX G M d av w0 Q pc L st w := by rw [h]; exact k
theorem zx_put {idx ci kf a ow : Nat} {fs : List zV} {v : zV} {fin : Bool} {fty : FieldType} {w1 : zW} (hd : decode M.2.1 pc = .ok (.putfield idx, 3)) (hf : zFI M.1.cls idx ci kf fin fty) (ha : w.1 a = some (ci, ow, fs)) (hk : kf < fs.length) (hft : zFt fty v) (hfin : fin = true → M.1.name = "<init>" ∧ ∀ q, vwCl[ci]? = some q → (q.2.1 kf).1 = M.1.cls) (hw : zput w a (ci, ow, fs.set kf v) = w1) (k : zX G M d av w0 Q (pc + 3) L st w1) : zX G M d av w0 Q pc L (v :: zR a :: st) w :=
  zx_putfield hd hf ha hk hft hfin (by rw [hw]; exact k)
theorem zx_ias {a t ow : Nat} {i x : Int} {fs : List zV} {w1 : zW} (hd : decode M.2.1 pc = .ok (.iastore, 1)) (ha : w.1 a = some (t, ow, fs)) (ht : 100 ≤ t ∧ t < 120) (h0 : 0 ≤ i) (hl : i.toNat < fs.length) (hw : zput w a (t, ow, fs.set i.toNat (zI x)) = w1) (k : zX G M d av w0 Q (pc + 1) L st w1) : zX G M d av w0 Q pc L (zI x :: zI i :: zR a :: st) w :=
  zx_iastore hd ha ht h0 hl (by rw [hw]; exact k)
theorem zx_zret {a : Int} (hd : decode M.2.1 pc = .ok (.ireturn, 1)) (hr : M.2.2.2.1 = some .boolean) (h : a = 0 ∨ a = 1) (k : Q (.inl (some (zI a))) w) : zX G M d av w0 Q pc L [zI a] w := zx_ireturn hd hr (zFt_bool h).1 k
theorem zx_iret {a : Int} (hd : decode M.2.1 pc = .ok (.ireturn, 1)) (hr : M.2.2.2.1 = some .int) (k : Q (.inl (some (zI a))) w) : zX G M d av w0 Q pc L [zI a] w := zx_ireturn hd hr rfl k
theorem zx_cret {a : Int} (hd : decode M.2.1 pc = .ok (.ireturn, 1)) (hr : M.2.2.2.1 = some .char) (h : 0 ≤ a ∧ a < 65536) (k : Q (.inl (some (zI a))) w) : zX G M d av w0 Q pc L [zI a] w := by
  obtain ⟨n, rfl⟩ : ∃ n : Nat, a = n := ⟨a.toNat, by omega⟩
  exact zx_ireturn hd hr (zFt_char n (by omega)).1 k
/-! calls with one outcome -/
theorem zx_iv {idx n d' b : Nat} {ob : zO} {q : vw_C} {M' : zMd} {As : List zV} {v : Option zV} {w1 : zW} (hd : decode M.2.1 pc = .ok (.invokevirtual idx, 3)) (hc : zCV M.1.cls idx M' n) (hb : w.1 b = some ob) (hq : vwCl[zcls ob.1]? = some q) (hq1 : q.1 = M'.1.cls) (hn : As.length = n) (hst : st.length ≤ 4) (hh : M.2.2.2.2 = [])
    (hM : zM G M' d' (zR b :: As) w (zRet v w1)) (k : zX G M (d' + 1) av w0 Q (pc + 3) L (v.toList ++ st) w1) : zX G M (d' + 1) av w0 Q pc L (As.reverse ++ zR b :: st) w :=
  zx_invokevirtual hd hc hb hq hq1 hn hst hh hM (fun v' w' q => by obtain ⟨e1, e2⟩ := q; cases e1; subst e2; exact k) (fun i w' q => by cases q.1)
theorem zx_is {idx n d' : Nat} {M' : zMd} {As : List zV} {v : Option zV} {w1 : zW} (hd : decode M.2.1 pc = .ok (.invokestatic idx, 3)) (hc : zCS M.1.cls idx M' n) (hn : As.length = n) (hst : st.length ≤ 4) (hh : M.2.2.2.2 = [])
    (hM : zM G M' d' As w (zRet v w1)) (k : zX G M (d' + 1) av w0 Q (pc + 3) L (v.toList ++ st) w1) : zX G M (d' + 1) av w0 Q pc L (As.reverse ++ st) w :=
  zx_invokestatic hd hc hn hst hh hM (fun v' w' q => by obtain ⟨e1, e2⟩ := q; cases e1; subst e2; exact k) (fun i w' q => by cases q.1)
theorem zx_iN {idx n d' : Nat} {M' : zMd} {As : List zV} {v : Option zV} {w1 : zW} (hd : decode M.2.1 pc = .ok (.invokestatic idx, 3)) (hc : zCN M.1.cls idx M' n) (hn : As.length = n) (hst : st.length ≤ 4) (hh : M.2.2.2.2 = [])
    (hM : zM G M' d' As w (zRet v w1)) (k : zX G M (d' + 1) av w0 Q (pc + 3) L (v.toList ++ st) w1) : zX G M (d' + 1) av w0 Q pc L (As.reverse ++ st) w :=
  zx_invokestaticN hd hc hn hst hh hM (fun v' w' q => by obtain ⟨e1, e2⟩ := q; cases e1; subst e2; exact k) (fun i w' q => by cases q.1)
theorem zx_ic {idx n d' b : Nat} {M' : zMd} {As : List zV} {w1 : zW} (hd : decode M.2.1 pc = .ok (.invokespecial idx, 3)) (hc : zCC M.1.cls idx M' n) (hn : As.length = n) (hst : st.length ≤ 4) (hh : M.2.2.2.2 = [])
    (hM : zM G M' d' (zR b :: As) w (zRet none w1)) (k : zX G M (d' + 1) av w0 Q (pc + 3) L st w1) : zX G M (d' + 1) av w0 Q pc L (As.reverse ++ zR b :: st) w :=
  zx_invokespecial hd hc hn hst hh hM (fun v' w' q => by obtain ⟨e1, e2⟩ := q; cases e1; subst e2; exact k) (fun i w' q => by cases q.1)
/-! an object is put into a list's array -/
theorem zx_aastoreO {a ow q cq owq : Nat} {i : Int} {fs fq : List zV} {r : vw_C} (hd : decode M.2.1 pc = .ok (.aastore, 1)) (ha : w.1 a = some (127, ow, fs)) (hq : w.1 q = some (cq, owq, fq)) (hcq : cq < 100) (hr : vwCl[cq]? = some r) (hcs : Cond.castable r.1 "java/lang/Object" ∈ lw_tbl) (h0 : 0 ≤ i) (hl : i.toNat < fs.length) (k : zX G M d av w0 Q (pc + 1) L st (zput w a (127, ow, fs.set i.toNat (zR q)))) : zX G M d av w0 Q pc L (zR q :: zI i :: zR a :: st) w := by
  intro p e s m below meth c H ls locs hC hY
  obtain ⟨hx, hY1⟩ := zY_pop hY
  obtain ⟨hi, hY2⟩ := zY_pop hY1
  obtain ⟨-, hY3⟩ := zY_pop hY2
  have hz := (hY3.2.1.2.2.2.2 a _ ha).1
  have hzq := (hY3.2.1.2.2.2.2 q _ hq).1
  have hK := hC.2.2.2.2.2.2.2.2.2.2.2.1
  have hin2 : ¬ Int32.ofInt i < 0 ∧ (Int32.ofInt i).toNatClampNeg < fs.length := by
    have := z_in hi h0 hl
    exact ⟨fun h => this (Or.inl h), by rw [z_clamp hi]; exact hl⟩
  obtain ⟨r', h1, cv, q1, q2, q3, -⟩ := zat_obj hzq hcq
  have hrr : r' = r := Option.some.inj (h1.symm.trans hr)
  subst hrr
  obtain ⟨-, hfc, kC, hkC, hkind⟩ := hK.1 cq _ h1
  have hc := zat_arr hz (Or.inr (Or.inr (Or.inr (Or.inr ⟨rfl, rfl⟩))))
  obtain ⟨kA, comp, g1, g2, g3, g4⟩ := (hK.2 4 _ rfl).2
  have hcw : va_Nw (Cond.castable r'.1 "java/lang/Object") s := hC.2.2.2.2.2.2.2.2.2.2.2.2.2.2.2.2.1 _ hcs rfl
  obtain ⟨c1, c2, f1, f2, f3⟩ := Cond.castable_spec (va_Nw.use (A := #[]) rfl hcw)
  have e1 : c1 = G.2.2.1.1 cq := Option.some.inj (f1.symm.trans hfc)
  have e2 : c2 = comp := Option.some.inj (f2.symm.trans g3)
  subst e1; subst e2
  obtain ⟨kO, hkO⟩ : ∃ kO, s.vm.classes[c2]? = some kO := Vm.classAt_of_findClass g3
  refine W.aast hC.1 hC.2.1 hc (fun _ h => by cases h) (fun h => by cases h) g1 g2 rfl hkO (by rw [arrV_size]; exact hin2) q1 (fun _ h => by rw [q3] at h; cases h) (by rw [q2]; exact hkC) (by rw [q2]; exact f3) rfl rfl hd fun H' e1 e2 e3 => ?_
  refine k p e s m below meth c H' ls _ hC (zY_put hY3 ha (show (127 : Nat) ≠ 199 by omega) e2 (zTot_set hc e1 (k2_slotsz _ _ _) e3) e3 (zat_mk (z_fits_set hz.1 hx) (Or.inr (Or.inr (Or.inr (Or.inr ⟨rfl, rfl⟩)))) ?_))
  unfold zArrA
  rw [e1, z_clamp hi]
  exact congrArg some (zArr_set (v := zR q) hl)
end ZLIB
