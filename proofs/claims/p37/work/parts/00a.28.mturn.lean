/-! Own rows: a turn of the machine, and the run. -/
section MT
variable {C : mmC} {Gd : Nat × Nat → Prop}
/-- ghosts with a frame more -/
def mmGn (C : mmC) (fr : List mmF) (G : mmGh) (i c pl m : Nat) (e : mmO) (dn : Bool) : mmGh :=
  (fun x => if x = fr.length then mmOut (C.2.1.1 e.1.2.1 m) fr.length i e.1 (List.range e.1.2.2.1) ++ (if dn = true then [] else mmIt i ((C.2.1.2 (mmf fr i).1.2 c).drop (pl + 1)) ++ G.1 i) else G.1 x,
   fun x => if x = fr.length then fr.length :: G.2.1 i else G.2.1 x, fun x => if x = fr.length then c else G.2.2 x)
section CALL
variable {fr : List mmF} {G : mmGh} {cls : Nat → Option Nat} {V : mmV} {T : mmT} {i c pl m : Nat} {e : mmO} {dn : Bool} {o : Option Nat} {cb : Nat}
theorem mmGn_ex {f : mmF} : mmEx fr G (fr ++ [f]) (mmGn C fr G i c pl m e dn) := by
  refine ⟨by simp, fun x hx => ⟨mmf_lt hx, ?_⟩⟩
  have : x ≠ fr.length := by omega
  simp only [mmGn, if_neg this, and_self]
theorem mmGn_cn (hac : mmAc C Gd fr G cls V i c pl) (he : (C.2.1.2 (mmf fr i).1.2 c)[pl]? = some e) (hm : e.2.1 = some m) (hg : Gd (e.1.2.1, m)) (hk : e.1.1 = if dn = true then 3 else 2) :
    mmCn C Gd (fr ++ [((e.1.2.1, m), (some i, pl, (mmf fr i).2.1.2.2 + 1), dn, o, cb)]) (mmGn C fr G i c pl m e dn) fr.length := by
  obtain ⟨a1, a2, a3, a4, a5, a6⟩ := hac
  have hi := mmCn_lt a1
  have hx := mmGn_ex (C := C) (fr := fr) (G := G) (i := i) (c := c) (pl := pl) (m := m) (e := e) (dn := dn) (f := ((e.1.2.1, m), (some i, pl, (mmf fr i).2.1.2.2 + 1), dn, o, cb))
  obtain ⟨x1, x2, x3, x4⟩ := hx.2 i hi
  have l1 : (mmGn C fr G i c pl m e dn).2.1 fr.length = fr.length :: G.2.1 i := by simp [mmGn]
  have l2 : (mmGn C fr G i c pl m e dn).2.2 fr.length = c := by simp [mmGn]
  have l3 : (mmGn C fr G i c pl m e dn).1 fr.length = mmOut (C.2.1.1 e.1.2.1 m) fr.length i e.1 (List.range e.1.2.2.1) ++ (if dn = true then [] else mmIt i ((C.2.1.2 (mmf fr i).1.2 c).drop (pl + 1)) ++ G.1 i) := by simp [mmGn]
  refine ⟨by rw [l1]; exact List.mem_cons_self, fun x hxm => ?_⟩
  rw [l1] at hxm
  rcases List.mem_cons.mp hxm with e1 | hxm
  · rw [e1]
    unfold mmCk
    rw [mmf_new]
    refine ⟨by simp, hg, Or.inr ⟨i, rfl, hi, ?_, ?_, ?_, ?_, e, ?_, rfl, hm, hk, ?_⟩⟩
    · rw [l1, x3]
    · rw [x3]; exact a1.1
    · rw [l2, x1]; exact a4
    · rw [x1]
    · rw [l2, x1]; exact he
    · rw [l2, l3, x1, x2]
  · exact mmEx_ck hx (a1.2 x hxm)
theorem mmGn_dn {f : mmF} (hf : f.2.1.1 = some i ∧ f.2.1.2.1 = pl) {ar : Nat → Option smG} (hac : mmAc C Gd fr G cls V i c pl) : mmDn C (fr ++ [f]) (mmGn C fr G i c pl m e dn) cls (mmNew V fr.length ar) fr.length := by
  obtain ⟨a1, a2, a3, a4, a5, a6⟩ := hac
  have hi := mmCn_lt a1
  have hx := mmGn_ex (C := C) (fr := fr) (G := G) (i := i) (c := c) (pl := pl) (m := m) (e := e) (dn := dn) (f := f)
  have l1 : (mmGn C fr G i c pl m e dn).2.1 fr.length = fr.length :: G.2.1 i := by simp [mmGn]
  have l2 : (mmGn C fr G i c pl m e dn).2.2 fr.length = c := by simp [mmGn]
  have hV : ∀ x, x < fr.length → ∀ y, mmNew V fr.length ar x y = V x y := fun x hx y => by
    unfold mmNew
    rw [if_neg (by omega)]
  intro j' hj' a ha
  rw [l1] at hj'
  rcases List.mem_cons.mp hj' with e1 | hj'
  · rw [e1, mmf_new, hf.1] at ha
    cases ha
    rw [e1, l2, mmf_new, hf.2, (hx.2 i hi).1]
    exact ⟨a3, fun x => by rw [hV i hi]; exact a6 x⟩
  · have q := mmEx_dn (cls := cls) hx hV a1 a2 j' (by rw [(hx.2 i hi).2.2.1]; exact hj') a ha
    exact q
theorem mmNew_in (hin : ∀ k, k < e.1.2.2.1 → C.2.1.1 e.1.2.1 m k = true → V i (smv e.1 k) ≠ none) (hF : mmFa C Gd) (hcnt : e.1.2.2.1 = C.1.2 e.1.2.1) (j x : Nat) : mmNew V j (mmArgs (C.2.1.1 e.1.2.1 m) V i e.1) j x ≠ none ↔ C.2.1.1 e.1.2.1 m x = true := by
  unfold mmNew mmArgs
  rw [if_pos rfl]
  constructor
  · intro h
    split at h
    · rename_i q; exact q.2
    · exact absurd rfl h
  · intro h
    have := hF.2.1 _ _ _ h
    rw [if_pos ⟨by omega, h⟩]
    exact hin x (by omega) h
end CALL
theorem mm_goal (hF : mmFa C Gd) {fr : List mmF} {cls : Nat → Option Nat} {V : mmV} {ch : mmH} {T : mmT} {cur den : Option Nat} {pl na ns nc dp : Nat} {tm : List smG} {nt : List (Nat × Nat)} {G : mmGh} {top : List mmCG} {lv : List (mmLG × List mmCG)} {i c : Nat} {e : mmO}
    (hlv : mmLv fr G top lv ch den) (hco : ∀ c, c ∈ top ++ lv.flatMap (fun l => l.2) → mmCo C Gd fr G cls V T c) (hlo : ∀ l, l ∈ lv → mmLo C Gd fr G cls V T l.1) (hpw : mmPw ch) (hac : mmAc C Gd fr G cls V i c pl) (hbs : mmBs fr G (mmHd lv) i) (hcur : cur = some i) (he : (C.2.1.2 (mmf fr i).1.2 c)[pl]? = some e) :
    match mmGoal C i e ((fr, cls, V, ch, T), (cur, pl, den, false), tm, (na, ns, nc, dp), nt) with
    | .inl S' => mmNx C Gd G top lv (some (i, c)) ((fr, cls, V, ch, T), (cur, pl, den, false), tm, (na, ns, nc, dp), nt) S'
    | .inr r => r.1 ≠ 0 := by
  have hac0 := hac
  obtain ⟨a1, a2, a3, a4, a5, a6⟩ := hac
  have hgd : Gd (mmf fr i).1 := (a1.2 i a1.1).2.1
  have hgo := ((hF.2.2 _ hgd).1 c a4).2.1 _ e he
  have hil := mmCn_lt a1
  have hle := mmLv_le lv top ch den i hlv hlo a1 hbs
  have hnode := mmNd_drop (G := G) (V := V) he
  unfold mmGoal
  by_cases h300 : 300 ≤ ns
  · simp only [if_pos h300]
    exact Nat.one_ne_zero
  simp only [if_neg h300]
  by_cases hk : e.1.1 = 2 ∨ e.1.1 = 3
  · simp only [if_pos hk]
    obtain ⟨m, g1, g2, g3, g4, g5⟩ : ∃ m, e.2.1 = some m ∧ Gd (e.1.2.1, m) ∧ e.1.2.2.1 = C.1.2 e.1.2.1 ∧ (∀ k, k < e.1.2.2.1 → C.2.1.1 e.1.2.1 m k = true → mmKn C (mmf fr i).1 ((C.2.1.2 (mmf fr i).1.2 c).take pl) (smv e.1 k)) ∧ (e.1.1 = 3 → ∀ k, k < e.1.2.2.1 → mmKn C (mmf fr i).1 ((C.2.1.2 (mmf fr i).1.2 c).take pl) (smv e.1 k)) := by
      rcases hgo with ⟨h, -⟩ | ⟨h, -⟩ | ⟨-, h⟩
      · omega
      · omega
      · exact h
    simp only [g1]
    by_cases h30 : 30 ≤ (mmf fr i).2.1.2.2
    · simp only [if_pos h30]
      exact Nat.one_ne_zero
    simp only [if_neg h30]
    have hin : ∀ k, k < e.1.2.2.1 → C.2.1.1 e.1.2.1 m k = true → V i (smv e.1 k) ≠ none := fun k hk hb => (a6 _).mpr (g4 k hk hb)
    have hVn : ∀ x, x < fr.length → ∀ y, mmNew V fr.length (mmArgs (C.2.1.1 e.1.2.1 m) V i e.1) x y = V x y := fun x hx y => by
      unfold mmNew
      rw [if_neg (by omega)]
    have hchm : ∀ a, a ∈ ch → a.1 < fr.length ∧ a.2.2 ≤ T.length := fun a ha => by
      rw [mmLv_mem lv top ch den hlv] at ha
      obtain ⟨x, hx, rfl⟩ := List.mem_map.mp ha
      obtain ⟨b1, -, -, -, b5, -⟩ := hco x hx
      exact ⟨mmCn_lt b1, b5⟩
    have hjL : fr.length ∉ G.2.1 i := fun h => by have := mmCn_le a1 h; omega
    have hbk : ∀ c', c' ∈ C.1.1.1 e.1.2.1 → ∀ g, g ∈ C.1.1.2 c' → g.1 ≤ 3 := fun c' hc' g hg => mmFa_bkind hF g2 hc' hg
    have hZi : ∀ v w : smV, (∀ x, x ≠ fr.length → v x = w x) → mmZ V (G.2.1 i) v → mmZ V (G.2.1 i) w := fun v w hvw hv x hx y g hg => by
      rw [← hvw x (fun e => hjL (e ▸ hx))]
      exact hv x hx y g hg
    have hkid : ∀ (dn : Bool) (o : Option Nat) (cb kk : Nat), ∀ c', c' ∈ C.1.1.1 e.1.2.1 → smRf C.1.1 (smKid C.1.1 [] (if dn = true then [] else mmIt i ((C.2.1.2 (mmf fr i).1.2 c).drop (pl + 1)) ++ G.1 i) (i, (kk, e.1.2)) (mmZ V (G.2.1 i)) fr.length c')
        [mmNd C (fr ++ [((e.1.2.1, m), (some i, pl, (mmf fr i).2.1.2.2 + 1), dn, o, cb)]) (mmGn C fr G i c pl m e dn) (mmNew V fr.length (mmArgs (C.2.1.1 e.1.2.1 m) V i e.1)) fr.length c' 0] := fun dn o cb kk c' hc' => by
      have q := mmRf_kid (C := C) (i := i) (j := fr.length) (kk := kk) (m := m) (c := c') (g := e.1) (B := if dn = true then [] else mmIt i ((C.2.1.2 (mmf fr i).1.2 c).drop (pl + 1)) ++ G.1 i) (V := V) (L := G.2.1 i) (((hF.2.2 _ g2).1 c' hc').1) hin a1.1 hjL
      have e1 : mmNd C (fr ++ [((e.1.2.1, m), (some i, pl, (mmf fr i).2.1.2.2 + 1), dn, o, cb)]) (mmGn C fr G i c pl m e dn) (mmNew V fr.length (mmArgs (C.2.1.1 e.1.2.1 m) V i e.1)) fr.length c' 0 = (mmIt fr.length (C.2.1.2 m c') ++ (mmOut (C.2.1.1 e.1.2.1 m) fr.length i e.1 (List.range e.1.2.2.1) ++ (if dn = true then [] else mmIt i ((C.2.1.2 (mmf fr i).1.2 c).drop (pl + 1)) ++ G.1 i)), mmZ (mmNew V fr.length (mmArgs (C.2.1.1 e.1.2.1 m) V i e.1)) (fr.length :: G.2.1 i)) := by
        unfold mmNd
        rw [mmf_new, List.drop_zero]
        simp [mmGn]
      rw [e1]
      exact q
    by_cases h3 : e.1.1 = 3
    · simp only [if_pos h3]
      have hx := mmGn_ex (C := C) (fr := fr) (G := G) (i := i) (c := c) (pl := pl) (m := m) (e := e) (dn := true) (f := ((e.1.2.1, m), (some i, pl, (mmf fr i).2.1.2.2 + 1), true, den, ch.length))
      have hcn := mmGn_cn (dn := true) (o := den) (cb := ch.length) hac0 he g1 g2 (by rw [if_pos rfl]; exact h3)
      have hdn := mmGn_dn (C := C) (m := m) (e := e) (dn := true) (f := ((e.1.2.1, m), (some i, pl, (mmf fr i).2.1.2.2 + 1), true, den, ch.length)) ⟨rfl, rfl⟩ (ar := mmArgs (C.2.1.1 e.1.2.1 m) V i e.1) hac0
      have hl1 : (mmGn C fr G i c pl m e true).2.1 fr.length = fr.length :: G.2.1 i := by simp [mmGn]
      have hl2 : (mmGn C fr G i c pl m e true).2.2 fr.length = c := by simp [mmGn]
      have hlo' : ∀ l, l ∈ (((fr.length, T.length, V), top) :: lv) → mmLo C Gd (fr ++ [((e.1.2.1, m), (some i, pl, (mmf fr i).2.1.2.2 + 1), true, den, ch.length)]) (mmGn C fr G i c pl m e true) cls (mmNew V fr.length (mmArgs (C.2.1.1 e.1.2.1 m) V i e.1)) T l.1 := by
        intro l hl
        rcases List.mem_cons.mp hl with e1 | hl
        · rw [e1]
          refine ⟨hcn, hdn, by rw [mmf_new], ⟨i, by rw [mmf_new], fun x hxm y => ?_⟩, Nat.le_refl _, fun x hxm => ?_⟩
          · rw [(hx.2 i hil).2.2.1] at hxm
            exact hVn x (Nat.lt_of_le_of_lt (mmCn_le a1 hxm) hil) y
          · rw [Nat.sub_self, List.take_zero] at hxm
            cases hxm
        · exact mmEx_lo hx hVn (hlo l hl)
      have hco' : ∀ x, x ∈ [] ++ (((fr.length, T.length, V), top) :: lv).flatMap (fun l => l.2) → mmCo C Gd (fr ++ [((e.1.2.1, m), (some i, pl, (mmf fr i).2.1.2.2 + 1), true, den, ch.length)]) (mmGn C fr G i c pl m e true) cls (mmNew V fr.length (mmArgs (C.2.1.1 e.1.2.1 m) V i e.1)) T x ∧ x.1.1 < fr.length := by
        intro x hxm
        have hxm : x ∈ top ++ lv.flatMap (fun l => l.2) := by simpa using hxm
        exact ⟨mmEx_co hx hVn (hco x hxm), mmCn_lt (hco x hxm).1⟩
      have hlv' : mmLv (fr ++ [((e.1.2.1, m), (some i, pl, (mmf fr i).2.1.2.2 + 1), true, den, ch.length)]) (mmGn C fr G i c pl m e true) [] (((fr.length, T.length, V), top) :: lv) ch (some fr.length) := by
        refine ⟨rfl, fun x hxm => absurd hxm List.not_mem_nil, fun a ha => ?_, fun l' hl' => (hlo l' (List.mem_of_mem_head? hl')).2.2.2.2.1, ch, rfl, ?_, ?_⟩
        · have ha : (mmf (fr ++ [((e.1.2.1, m), (some i, pl, (mmf fr i).2.1.2.2 + 1), true, den, ch.length)]) fr.length).2.1.1 = some a := ha
          rw [mmf_new] at ha
          cases ha
          exact mmEx_bs hx a1 hbs
        · show ch.length = (mmf (fr ++ [((e.1.2.1, m), (some i, pl, (mmf fr i).2.1.2.2 + 1), true, den, ch.length)]) fr.length).2.2.2.2
          rw [mmf_new]
        · show mmLv _ _ top lv ch (mmf (fr ++ [((e.1.2.1, m), (some i, pl, (mmf fr i).2.1.2.2 + 1), true, den, ch.length)]) fr.length).2.2.2.1
          rw [mmf_new]
          exact mmEx_lv hx lv top ch den hco hlo hlv
      have hbs' : mmBs (fr ++ [((e.1.2.1, m), (some i, pl, (mmf fr i).2.1.2.2 + 1), true, den, ch.length)]) (mmGn C fr G i c pl m e true) (mmHd (((fr.length, T.length, V), top) :: lv)) fr.length :=
        ⟨hcn.1, fun x hxm hlt => by have := mmCn_le hcn hxm; have hlt : fr.length < x := hlt; omega⟩
      obtain ⟨top', an', r1, r2, r3, r4⟩ := mm_enter hF (cur := cur) (pl := pl) (na := na) (ns := ns + 1) (nc := nc) (dp := dp) (tm := tm) (nt := nt) hlv' hco' hlo' hpw hchm hcn hdn hbs' (fun x => by rw [mmf_new]; exact mmNew_in hin hF g3 _ x)
      refine ⟨_, top', _, an', r1, Nat.le_of_eq r2.symm, fun k g => ?_⟩
      have r2 : mmNa (mmEnter C fr.length ((fr ++ [((e.1.2.1, m), (some i, pl, (mmf fr i).2.1.2.2 + 1), true, den, ch.length)], cls, mmNew V fr.length (mmArgs (C.2.1.1 e.1.2.1 m) V i e.1), ch, T), (cur, pl, some fr.length, false), tm, (na, ns + 1, nc, dp), nt)) = na := r2
      have r3 : mmFr (mmEnter C fr.length ((fr ++ [((e.1.2.1, m), (some i, pl, (mmf fr i).2.1.2.2 + 1), true, den, ch.length)], cls, mmNew V fr.length (mmArgs (C.2.1.1 e.1.2.1 m) V i e.1), ch, T), (cur, pl, some fr.length, false), tm, (na, ns + 1, nc, dp), nt)) = _ := r3
      rw [r3] at g
      have g := r4 _ _ g
      rw [r2]
      show smGood C.1.1 ([mmNd C fr G V i c pl] ++ top.flatMap (mmCd C fr G)) (mmSt C fr G lv) (k + (na - na))
      rw [Nat.sub_self, Nat.add_zero, hnode]
      refine smGood_den (A := []) (q := (i, (2, e.1.2))) (a := (e.1.2.1, (List.range e.1.2.2.1).map fun k => (V i (smv e.1 k)).getD (0, 0))) (Zq := mmZ V (G.2.1 i)) h3 (fun v hv => ?_) rfl (fun v hv => ?_) (mmZ_sat _ _) ?_
      · show (e.1.2.1, (List.range e.1.2.2.1).map fun k => v i (smv e.1 k)) = _
        congr 1
        apply List.map_congr_left
        intro k hk
        obtain ⟨w, hw⟩ := Option.ne_none_iff_exists'.mp ((a6 _).mpr (g5 h3 k (List.mem_range.mp hk)))
        rw [hv i a1.1 _ w hw, hw, Option.getD_some]
      · show (e.1.2.1, (List.range e.1.2.2.1).map fun k => v i (smv e.1 k)) = _
        congr 1
        apply List.map_congr_left
        intro k hk
        obtain ⟨w, hw⟩ := Option.ne_none_iff_exists'.mp ((a6 _).mpr (g5 h3 k (List.mem_range.mp hk)))
        rw [hv i a1.1 _ w hw, hw, Option.getD_some]
      · have est : mmSt C (fr ++ [((e.1.2.1, m), (some i, pl, (mmf fr i).2.1.2.2 + 1), true, den, ch.length)]) (mmGn C fr G i c pl m e true) (((fr.length, T.length, V), top) :: lv) = ((([] : List smI) ++ (mmIt i ((C.2.1.2 (mmf fr i).1.2 c).drop (pl + 1)) ++ G.1 i), mmZ V (G.2.1 i)), top.flatMap (mmCd C fr G)) :: mmSt C fr G lv := by
          have e1 := mmEx_st hx (V := V) (T := T) (cls := cls) (Gd := Gd) (lv := lv) (fun x hxm => hco x (List.mem_append_right _ hxm)) hlo
          have e2 := mmEx_cds hx (C := C) (cs := top) (fun x hxm => mmCn_lt (hco x (List.mem_append_left _ hxm)).1)
          show (mmNd C _ _ V ((mmf (fr ++ [((e.1.2.1, m), (some i, pl, (mmf fr i).2.1.2.2 + 1), true, den, ch.length)]) fr.length).2.1.1.getD 0) ((mmGn C fr G i c pl m e true).2.2 fr.length) ((mmf (fr ++ [((e.1.2.1, m), (some i, pl, (mmf fr i).2.1.2.2 + 1), true, den, ch.length)]) fr.length).2.1.2.1 + 1), _) :: mmSt C _ _ lv = _
          rw [e1, e2, hl2, mmf_new]
          show (mmNd C _ _ V i c (pl + 1), _) :: _ = _
          rw [mmEx_nd hx hil]
          rfl
        rw [est] at g
        rw [mmf_new] at g
        refine smGood_rf (B := []) (smRf_call (A := []) (B := []) (j := fr.length) rfl (hF.1 _).1 hbk (fun x hxm => absurd hxm List.not_mem_nil) (fun x hxm => absurd hxm List.not_mem_nil) (show i ≠ fr.length by omega) hZi) ?_
        exact smGood_kids _ [] (hkid true den ch.length 2) g
    · simp only [if_neg h3]
      have h2 : e.1.1 = 2 := hk.resolve_right h3
      have hx := mmGn_ex (C := C) (fr := fr) (G := G) (i := i) (c := c) (pl := pl) (m := m) (e := e) (dn := false) (f := ((e.1.2.1, m), (some i, pl, (mmf fr i).2.1.2.2 + 1), false, none, 0))
      have hcn := mmGn_cn (dn := false) (o := none) (cb := 0) hac0 he g1 g2 (by rw [if_neg (by simp)]; exact h2)
      have hdn := mmGn_dn (C := C) (m := m) (e := e) (dn := false) (f := ((e.1.2.1, m), (some i, pl, (mmf fr i).2.1.2.2 + 1), false, none, 0)) ⟨rfl, rfl⟩ (ar := mmArgs (C.2.1.1 e.1.2.1 m) V i e.1) hac0
      have hl1 : (mmGn C fr G i c pl m e false).2.1 fr.length = fr.length :: G.2.1 i := by simp [mmGn]
      have hbs' : mmBs (fr ++ [((e.1.2.1, m), (some i, pl, (mmf fr i).2.1.2.2 + 1), false, none, 0)]) (mmGn C fr G i c pl m e false) (mmHd lv) fr.length := by
        have q := mmEx_bs hx a1 hbs
        have q3 := (hx.2 i hil).2.2.1
        cases ho : mmHd lv with
        | none =>
          rw [ho] at q
          intro x hxm
          rw [hl1] at hxm
          rcases List.mem_cons.mp hxm with e1 | hxm
          · rw [e1, mmf_new]
          · exact q x (by rw [q3]; exact hxm)
        | some d =>
          rw [ho] at q
          refine ⟨?_, fun x hxm hd => ?_⟩
          · rw [hl1]
            have := q.1
            rw [q3] at this
            exact List.mem_cons_of_mem _ this
          · rw [hl1] at hxm
            rcases List.mem_cons.mp hxm with e1 | hxm
            · rw [e1, mmf_new]
            · exact q.2 x (by rw [q3]; exact hxm) hd
      obtain ⟨top', an', r1, r2, r3, r4⟩ := mm_enter hF (cur := cur) (pl := pl) (na := na) (ns := ns + 1) (nc := nc) (dp := dp) (tm := tm) (nt := nt) (mmEx_lv hx lv top ch den hco hlo hlv) (fun x hxm => ⟨mmEx_co hx hVn (hco x hxm), mmCn_lt (hco x hxm).1⟩) (fun l hl => mmEx_lo hx hVn (hlo l hl)) hpw hchm hcn hdn hbs' (fun x => by rw [mmf_new]; exact mmNew_in hin hF g3 _ x)
      refine ⟨_, top', _, an', r1, Nat.le_of_eq r2.symm, fun k g => ?_⟩
      have r2 : mmNa (mmEnter C fr.length ((fr ++ [((e.1.2.1, m), (some i, pl, (mmf fr i).2.1.2.2 + 1), false, none, 0)], cls, mmNew V fr.length (mmArgs (C.2.1.1 e.1.2.1 m) V i e.1), ch, T), (cur, pl, den, false), tm, (na, ns + 1, nc, dp), nt)) = na := r2
      have r3 : mmFr (mmEnter C fr.length ((fr ++ [((e.1.2.1, m), (some i, pl, (mmf fr i).2.1.2.2 + 1), false, none, 0)], cls, mmNew V fr.length (mmArgs (C.2.1.1 e.1.2.1 m) V i e.1), ch, T), (cur, pl, den, false), tm, (na, ns + 1, nc, dp), nt)) = _ := r3
      rw [r3] at g
      have g := r4 _ _ g
      rw [r2]
      show smGood C.1.1 ([mmNd C fr G V i c pl] ++ top.flatMap (mmCd C fr G)) (mmSt C fr G lv) (k + (na - na))
      rw [Nat.sub_self, Nat.add_zero, hnode]
      rw [mmEx_st hx (V := V) (T := T) (cls := cls) (Gd := Gd) (lv := lv) (fun x hxm => hco x (List.mem_append_right _ hxm)) hlo, mmEx_cds hx (C := C) (cs := top) (fun x hxm => mmCn_lt (hco x (List.mem_append_left _ hxm)).1), mmf_new] at g
      refine smGood_rf (B := top.flatMap (mmCd C fr G)) (smRf_call (A := []) (B := mmIt i ((C.2.1.2 (mmf fr i).1.2 c).drop (pl + 1)) ++ G.1 i) (j := fr.length) h2 (hF.1 _).1 hbk (fun x hxm => absurd hxm List.not_mem_nil) (fun x hxm hj => ?_) (show i ≠ fr.length by omega) hZi) ?_
      · rcases List.mem_append.mp hxm with hxm | hxm
        · have := mmIt_in (fun e he => mmFa_kind hF hgd a4 (List.mem_of_mem_drop he)) hxm hj
          omega
        · exact hjL (mmK_in hF i i (Nat.le_refl _) a1 x hxm _ hj)
      · exact smGood_kids _ [] (hkid false none 0 e.1.1) g
  · simp only [if_neg hk]
    have hk01 : (e.1.1 = 0 ∧ e.1.2.2.1 = (if e.1.2.1 = 1 then 2 else 1) ∧ (V i (smv e.1 0) = none → e.1.2.1 = 1 → V i (smv e.1 1) ≠ none)) ∨ (e.1.1 = 1 ∧ e.1.2.2.1 = 2 ∧ (V i (smv e.1 0) = none → V i (smv e.1 1) ≠ none)) := by
      rcases hgo with ⟨h, -, h1, h2⟩ | ⟨h, h1, h2⟩ | ⟨h, -⟩
      · exact Or.inl ⟨h, h1, fun hx hc => (a6 _).mpr ((h2.resolve_left (fun h => absurd hx ((a6 _).mpr h))) hc)⟩
      · exact Or.inr ⟨h, h1, fun hx => (a6 _).mpr (h2.resolve_left (fun h => absurd hx ((a6 _).mpr h)))⟩
      · exact absurd h hk
    have k1 : e.1.1 = 0 ∨ e.1.1 = 1 := hk01.elim (fun h => Or.inl h.1) (fun h => Or.inr h.1)
    have k2 : e.1.2.2.1 = if e.1.1 = 1 ∨ e.1.2.1 = 1 then 2 else 1 := by
      rcases hk01 with ⟨h, h1, -⟩ | ⟨h, h1, -⟩
      · rw [h1]
        by_cases c1 : e.1.2.1 = 1
        · rw [if_pos c1, if_pos (Or.inr c1)]
        · rw [if_neg c1, if_neg (fun q => q.elim (by omega) c1)]
      · rw [h1, if_pos (Or.inl h)]
    have k3 : e.1.1 = 0 → V i (smv e.1 0) = none → e.1.2.1 = 1 → V i (smv e.1 1) ≠ none := fun h => hk01.elim (fun q => q.2.2) (fun q => by omega)
    have k4 : e.1.1 = 1 → V i (smv e.1 0) = none → V i (smv e.1 1) ≠ none := fun h => hk01.elim (fun q => by omega) (fun q => q.2.2)
    cases hr : mmEq V T tm i e.1 with
    | none => exact (show (2 : Nat) ≠ 0 by omega)
    | some r =>
      simp only
      have hwr := mmEq_wr hr
      have hrf := mmRf_eqg (pg := C.1.1) (L := G.2.1 i) (P := mmIt i ((C.2.1.2 (mmf fr i).1.2 c).drop (pl + 1)) ++ G.1 i) a1.1 k1 k3 k4 hr
      have hco' : ∀ x, x ∈ top ++ lv.flatMap (fun l => l.2) → mmCo C Gd fr G cls r.2.1 r.2.2.1 x := fun x hx => mmCo_wr hwr (hco x hx)
      have hlo' : ∀ l, l ∈ lv → mmLo C Gd fr G cls r.2.1 r.2.2.1 l.1 := fun l hl => mmLo_wr hwr (hle l hl).1 (hlo l hl)
      cases hb : r.1 with
      | true =>
        refine ⟨G, top, lv, some (i, c), ⟨hlv, hco', hlo', hpw, (by intro h; cases h), fun _ => ⟨i, c, rfl, hcur, ⟨a1, mmDn_wr hwr (Nat.le_refl _) a1 a2, a3, a4, ?_, fun y => ?_⟩, hbs⟩⟩, Nat.le_refl _, fun k g => ?_⟩
        · obtain ⟨q, -⟩ := List.getElem?_eq_some_iff.mp he
          exact q
        · rw [mmEq_dom k1 k2 k3 k4 hr hb y, mmKn_succ he, a6 y]
        · have g2 : smGood C.1.1 ([mmNd C fr G r.2.1 i c (pl + 1)] ++ top.flatMap (mmCd C fr G)) (mmSt C fr G lv) k := g
          show smGood C.1.1 ([mmNd C fr G V i c pl] ++ top.flatMap (mmCd C fr G)) (mmSt C fr G lv) (k + (na - na))
          rw [Nat.sub_self, Nat.add_zero, hnode]
          refine smGood_rf (B := top.flatMap (mmCd C fr G)) hrf ?_
          rw [hb, if_pos rfl]
          exact g2
      | false =>
        refine ⟨G, top, lv, none, ⟨hlv, hco', hlo', hpw, fun _ => rfl, fun h => by cases h⟩, Nat.le_refl _, fun k g => ?_⟩
        have g2 : smGood C.1.1 ([] ++ top.flatMap (mmCd C fr G)) (mmSt C fr G lv) k := g
        show smGood C.1.1 ([mmNd C fr G V i c pl] ++ top.flatMap (mmCd C fr G)) (mmSt C fr G lv) (k + (na - na))
        rw [Nat.sub_self, Nat.add_zero, hnode]
        refine smGood_rf (B := top.flatMap (mmCd C fr G)) hrf ?_
        rw [hb, if_neg (by simp)]
        exact g2
/-- a turn -/
theorem mm_step (hF : mmFa C Gd) {G : mmGh} {top : List mmCG} {lv : List (mmLG × List mmCG)} {an : Option (Nat × Nat)} {S : mmS} (hI : mmIn C Gd G top lv an S) :
    match mmStep C S with
    | .inl S' => mmNx C Gd G top lv an S S'
    | .inr r => r.1 = 0 → mmNa r.2 = mmNa S ∧ smGood C.1.1 (mmNs C G top an S) (mmSt C (mmFr S) G lv) 0 := by
  obtain ⟨⟨fr, cls, V, ch, T⟩, ⟨cur, pl, den, fl⟩, tm, ⟨na, ns, nc, dp⟩, nt⟩ := S
  cases fl with
  | true =>
    have q := mm_back hF hI rfl
    have e : mmStep C ((fr, cls, V, ch, T), (cur, pl, den, true), tm, (na, ns, nc, dp), nt) = mmBack C ((fr, cls, V, ch, T), (cur, pl, den, true), tm, (na, ns, nc, dp), nt) := rfl
    rw [e]
    cases hb : mmBack C ((fr, cls, V, ch, T), (cur, pl, den, true), tm, (na, ns, nc, dp), nt) with
    | inl S' => rw [hb] at q; exact q
    | inr r => rw [hb] at q; exact fun _ => q.2
  | false =>
    obtain ⟨hlv, hco, hlo, hpw, -, hac⟩ := hI
    obtain ⟨i, c, e1, e2, hac2, hbs⟩ := hac rfl
    subst e1; subst e2
    have hc := hac2.2.2.1
    have e : mmStep C ((fr, cls, V, ch, T), (some i, pl, den, false), tm, (na, ns, nc, dp), nt) = match (C.2.1.2 (mmf fr i).1.2 c)[pl]? with
      | none => mmLeave C i ((fr, cls, V, ch, T), (some i, pl, den, false), tm, (na, ns, nc, dp), nt)
      | some e => mmGoal C i e ((fr, cls, V, ch, T), (some i, pl, den, false), tm, (na, ns, nc, dp), nt) := by
      unfold mmStep
      simp only [Option.bind_some, hc]
      cases (C.2.1.2 (mmf fr i).1.2 c)[pl]? <;> rfl
    rw [e]
    cases hpl : (C.2.1.2 (mmf fr i).1.2 c)[pl]? with
    | none =>
      simp only
      have q := mm_leave hF (cur := some i) (den := den) (fl := false) (tm := tm) (na := na) (ns := ns) (nc := nc) (dp := dp) (nt := nt) hlv hco hlo hpw hac2 hbs hpl
      cases hb : mmLeave C i ((fr, cls, V, ch, T), (some i, pl, den, false), tm, (na, ns, nc, dp), nt) with
      | inl S' => rw [hb] at q; exact q
      | inr r => rw [hb] at q; exact fun h => absurd h q
    | some e =>
      simp only
      have q := mm_goal hF (cur := some i) (tm := tm) (na := na) (ns := ns) (nc := nc) (dp := dp) (nt := nt) hlv hco hlo hpw hac2 hbs rfl hpl
      cases hb : mmGoal C i e ((fr, cls, V, ch, T), (some i, pl, den, false), tm, (na, ns, nc, dp), nt) with
      | inl S' => rw [hb] at q; exact q
      | inr r => rw [hb] at q; exact fun h => absurd h q
theorem mm_run (hF : mmFa C Gd) : ∀ (n : Nat) (G : mmGh) (top : List mmCG) (lv : List (mmLG × List mmCG)) (an : Option (Nat × Nat)) (S : mmS) (r : Nat × mmS), mmIn C Gd G top lv an S → mmRun C n S = some r → r.1 = 0 → mmNa S ≤ mmNa r.2 ∧ smGood C.1.1 (mmNs C G top an S) (mmSt C (mmFr S) G lv) (mmNa r.2 - mmNa S) := by
  intro n
  induction n with
  | zero => intro G top lv an S r _ h; cases h
  | succ n ih =>
    intro G top lv an S r hI h h0
    have q := mm_step hF hI
    unfold mmRun at h
    cases hs : mmStep C S with
    | inl S' =>
      rw [hs] at q h
      obtain ⟨G', top', lv', an', q1, q2, q3⟩ := q
      obtain ⟨q4, q5⟩ := ih G' top' lv' an' S' r q1 h h0
      have q6 := q3 _ q5
      exact ⟨Nat.le_trans q2 q4, by rw [show mmNa r.2 - mmNa S = mmNa r.2 - mmNa S' + (mmNa S' - mmNa S) by omega]; exact q6⟩
    | inr r' =>
      rw [hs] at q h
      cases h
      obtain ⟨q1, q2⟩ := q h0
      rw [q1, Nat.sub_self]
      exact ⟨Nat.le_refl _, q2⟩
end MT
