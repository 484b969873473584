/-! Own rows: BREADTH: a list is resolved, as a step of the search. By hand; nothing of the bytecode. -/
section BRES
variable {C : mmC} {Gd : Nat × Nat → Prop} {g : Nat} {F : bTS}
/-- the items of a list that are left when all are denied and none is ground: there are none such -/
theorem res_none {T : bTS} {cs : List Nat} {h l : Nat} (hp : tPre T F) (hw : tW g T) (hl : l < T.2.1.length) (hcs : bCh T.1.2.2 (some h) cs) (hnd : ndOk C Gd g T F (bdL F l) cs) (hno : ∀ c, c ∈ cs → ¬ bOk C T.1.1 T.1.2.1 T.1.2.2 (bdOf (bPb T.2.1 T.2.2 150 (some l))) c) : False := by
  rw [bd_fin hp hw.2.2.2.2 hl] at hno
  obtain ⟨n1, n2, n3, n4⟩ := hnd
  cases cs with
  | nil => cases hcs
  | cons c cs =>
    have ok := fun x hx => n3 x hx
    have kind : ∀ x, x ∈ c :: cs → (bIt C F.1.2.2 x).2.1 = 3 := fun x hx => by
      obtain ⟨e, gl, q1, q2, q3, q4⟩ := ok x hx
      rw [bIt_eq hp.2.2.1 q1 q2]
      by_cases c3 : gl.1 = 3
      · exact c3
      · exact absurd ⟨e, gl, q1, q2, Or.inl c3⟩ (hno x hx)
    obtain ⟨e, gl, q1, q2, q3, q4⟩ := ok c List.mem_cons_self
    have eit := bIt_eq (C := C) hp.2.2.1 q1 q2
    have det : ∀ k, k < (bIt C F.1.2.2 c).2.2.2.1 → ∀ v w, bZ F.1.1 F.1.2.1 (bdL F l) v → bZ F.1.1 F.1.2.1 (bdL F l) w → v (bIt C F.1.2.2 c).1 (smv (bIt C F.1.2.2 c).2 k) = w (bIt C F.1.2.2 c).1 (smv (bIt C F.1.2.2 c).2 k) := fun k hk => bJ_left n4 (fun it hit => by
      obtain ⟨x, hx, rfl⟩ := List.mem_map.mp hit
      exact kind x hx) (it := bIt C F.1.2.2 c) (List.mem_map.mpr ⟨c, List.mem_cons_self, rfl⟩) hk
    rw [eit] at det
    refine hno c List.mem_cons_self ⟨e, gl, q1, q2, Or.inr fun k hk => ?_⟩
    obtain ⟨n, hn⟩ := q4 k hk
    refine ⟨n, hn, ?_⟩
    obtain ⟨j, e2, he2⟩ := n1.2.2 n
    have hlt := bNo_lt (N := T.1.1) (Vr := T.1.2.1) (Ce := T.1.2.2) (Ls := T.2.1) (Bi := T.2.2) hw hn
    have hparts : ∀ n, bhd T.1.1 n = some 1 → bfs T.1.1 n < T.1.1.length := fun n hn => by
      have := hw.2.2.1 n hn
      have := bhd_lt hn
      omega
    have he3 : bend T.1.1 (bdL F l) j n = some e2 := by rw [← bend_pre hp.1 hparts (fun a b hab => (n2 a b hab).2) j n hlt]; exact he2
    refine ⟨j, e2, he3, fun hnone => ?_⟩
    have he4 := bend_in n2 hw.2.2.1 j n e2 hlt he3
    have hnone' : bhd F.1.1 e2.2 = none := by rw [bhd_pre hp.1 he4]; exact hnone
    exact bz_two n1 (bNo_pre hp.2.1 hn) he2 hnone' (det k hk)
theorem bdOf_rr {pb rr : List (Nat × Nat)} {bd' : bBD} (h1 : (rr.map fun e => e.1).Nodup) (h2 : ∀ e, e ∈ rr → bdOf pb e.1 = none) (h3 : ∀ n m, bd' n = some m ↔ bdOf pb n = some m ∨ (n, m) ∈ rr) : bdOf (rr ++ pb) = bd' := by
  funext n
  have h4 := bdOf_app rr h1 h2 n
  cases hq : bd' n with
  | some m => exact (h4 m).mpr ((h3 n m).mp hq)
  | none =>
    cases hq2 : bdOf (rr ++ pb) n with
    | none => rfl
    | some m =>
      have := (h3 n m).mpr ((h4 m).mp hq2)
      rw [hq] at this
      cases this
theorem b_res (hF : mmFa C Gd) (hA3 : ∀ p, C.1.2 p ≤ 3) (hFb : bF F.1.1 g) {S S2 : bS} {l h : Nat} (hI : bIn C Gd g F S) (hl : l < S.2.1.1.length) {cs : List Nat} (hcs : bCh S.1.2.2 (some h) cs) (hnd : ndOk C Gd g (tS S) F (bdL F l) cs) (ht : bRes C g l h S S2) (hp2 : tPre (tS S2) F) :
    bIn C Gd g F S2 ∧ S2.2.2.2.2 = S.2.2.2.2 ∧ ∀ k, smGood C.1.1 (roNd C F (S2.2.1.2.1.drop S2.2.1.2.2)) (lvNd C F S2.2.1.2.1 S2.2.2.2.1) k → smGood C.1.1 ((cs.map (bIt C F.1.2.2), bZ F.1.1 F.1.2.1 (bdL F l)) :: roNd C F (S.2.1.2.1.drop S.2.1.2.2)) (lvNd C F S.2.1.2.1 S.2.2.2.1) k := by
  obtain ⟨r1, r2⟩ := sIn_res hI.2.1 hl ht
  obtain ⟨⟨N, Vr, Ce⟩, ⟨Ls, Ro, fr⟩, Bi, lv, tn⟩ := S
  obtain ⟨i1, i2, i3, i4, i5, i6⟩ := hI
  have hw : tW g ((N, Vr, Ce), Ls, Bi) := i2.1
  have i1 : tPre ((N, Vr, Ce), Ls, Bi) F := i1
  have hl : l < Ls.length := hl
  have hcs : bCh Ce (some h) cs := hcs
  have hnd : ndOk C Gd g ((N, Vr, Ce), Ls, Bi) F (bdL F l) cs := hnd
  have i6 : fr ≤ Ro.length := i6
  have i5 : lvB lv fr := i5
  have i3 : ∀ en, en ∈ Ro.drop fr → enOk C Gd g ((N, Vr, Ce), Ls, Bi) F en := i3
  obtain ⟨cs', hcs', hres⟩ := ht
  have ecs : cs' = cs := bCh_uniq _ _ _ hcs' hcs
  subst ecs
  have ebd := bd_fin i1 hw.2.2.2.2 hl
  have ebd : bdOf (bPb Ls Bi 150 (some l)) = bdL F l := ebd
  have hlvle : ∀ q, q ∈ lv → q.2.1 ≤ Ro.length := fun q hq => by have := lvB_mem i5 q hq; omega
  rcases hres with ⟨hno, -⟩ | ⟨A, cc, B, e, gl, eA, hA, hok, he, hg, Ce1, r, hCe1, hr, hk⟩
  · exact (res_none (T := ((N, Vr, Ce), Ls, Bi)) i1 hw hl hcs hnd hno).elim
  · subst eA
    have eit := bIt_eq (C := C) i1.2.2.1 he hg
    have eit : bIt C F.1.2.2 cc = (2 * e.2.1, gl) := eit
    obtain ⟨n1, n2, n3, n4⟩ := id hnd
    obtain ⟨e', gl', q1, q2, gok, gvar⟩ := n3 cc (List.mem_append_right _ List.mem_cons_self)
    have q1 : Ce[cc]? = some e' := q1
    rw [he] at q1
    cases q1
    rw [hg] at q2
    cases q2
    have gvar : ∀ k, k < gl.2.2.1 → ∃ n, bNo Vr e.2.1 (smv gl k) = some n := gvar
    have hce1F : bPre Ce1 F.1.2.2 := by
      rcases hk with ⟨-, rfl⟩ | ⟨-, rfl⟩ | ⟨-, x, y, N1, k, rr, -, -, -, ⟨-, -, rfl⟩ | ⟨-, rfl⟩⟩
      · exact hp2.2.2.1
      · exact bPre_trans (bPre_app _ _) hp2.2.2.1
      · exact hp2.2.2.1
      · exact hp2.2.2.1
    obtain ⟨cs2, c1, c2, c3⟩ := wo_it (C := C) (N := N) (Vr := Vr) (Ls := Ls) (Bi := Bi) hcs he hCe1 hce1F n3
    rw [← hr] at c1
    have eP : (A ++ cc :: B).map (bIt C F.1.2.2) = A.map (bIt C F.1.2.2) ++ (2 * e.2.1, gl) :: B.map (bIt C F.1.2.2) := by rw [List.map_append, List.map_cons, eit]
    rw [eP] at n4 ⊢
    have hperm : (A.map (bIt C F.1.2.2) ++ (2 * e.2.1, gl) :: B.map (bIt C F.1.2.2)).Perm ((2 * e.2.1, gl) :: (A.map (bIt C F.1.2.2) ++ B.map (bIt C F.1.2.2))) := List.perm_middle
    have hJ1 : bJ C Gd ((2 * e.2.1, gl) :: (A.map (bIt C F.1.2.2) ++ B.map (bIt C F.1.2.2))) (bZ F.1.1 F.1.2.1 (bdL F l)) := bJ_perm (fun it => hperm.symm.mem_iff) n4
    have eBi0 : ∀ q : Nat, bdE F (some l, (0, 0), r, some cc, q) = bdL F l := fun q => by
      unfold bdE bdL
      show bdOf ((F.2.2.take 0).drop 0 ++ _) = _
      rw [List.take_zero, List.drop_nil, List.nil_append]
    rcases hk with ⟨k2, rfl⟩ | ⟨k3, rfl⟩ | ⟨k01, x, y, N1, k, rr, hx, hy, hu, hend⟩
    · -- a call
      obtain ⟨m, hgd, -⟩ := (hJ1 _ List.mem_cons_self).2 k2
      have hgd : Gd (gl.2.1, m) := hgd
      have hb : ∀ c, c ∈ C.1.1.1 gl.2.1 → ∀ gg, gg ∈ C.1.1.2 c → gg.1 ≤ 3 := fun c hc gg hgg => mmFa_bkind hF hgd hc hgg
      have odd : ∀ x, x ∈ A.map (bIt C F.1.2.2) ++ B.map (bIt C F.1.2.2) → 1 ∉ smIn x := fun x hx q => by
        rw [← c2] at hx
        obtain ⟨z, hz, rfl⟩ := List.mem_map.mp hx
        obtain ⟨ez, gz, z1, z2, z3, -⟩ := c3 z hz
        rw [bIt_eq hce1F z1 z2] at q
        unfold smIn at q
        rw [if_pos z3.1] at q
        have := List.mem_singleton.mp q
        simp only at this
        omega
      have hrf : smRf C.1.1 (A.map (bIt C F.1.2.2) ++ (2 * e.2.1, gl) :: B.map (bIt C F.1.2.2), bZ F.1.1 F.1.2.1 (bdL F l)) ((C.1.1.1 gl.2.1).map (smKid C.1.1 [] (A.map (bIt C F.1.2.2) ++ B.map (bIt C F.1.2.2)) (2 * e.2.1, gl) (bZ F.1.1 F.1.2.1 (bdL F l)) 1)) :=
        smRf_one (smRf_perm hperm) (smRf_call (A := []) (j := 1) k2 (hF.1 gl.2.1).1 hb (fun x hx => absurd hx List.not_mem_nil) odd (by simp only; omega) bZ_odd)
      have hroN : roNd C F ((if C.1.1.1 gl.2.1 = [] then Ro else Ro ++ [(some l, (0, 0), r, some cc, 0)]).drop fr) = roNd C F (Ro.drop fr) ++ (C.1.1.1 gl.2.1).map (smKid C.1.1 [] (A.map (bIt C F.1.2.2) ++ B.map (bIt C F.1.2.2)) (2 * e.2.1, gl) (bZ F.1.1 F.1.2.1 (bdL F l)) 1) := by
        by_cases ce : C.1.1.1 gl.2.1 = []
        · rw [if_pos ce, ce, List.map_nil, List.append_nil]
        · rw [if_neg ce, List.drop_append_of_le_length i6, roNd_app, roNd_one]
          rw [enNd_s (cc := cc) rfl (bCh_pre hce1F _ _ c1), eBi0]
          show _ ++ List.map _ (List.drop 0 _) = _
          rw [List.drop_zero, c2, eit]
      have hlvN : lvNd C F (if C.1.1.1 gl.2.1 = [] then Ro else Ro ++ [(some l, (0, 0), r, some cc, 0)]) lv = lvNd C F Ro lv := by
        by_cases ce : C.1.1.1 gl.2.1 = []
        · rw [if_pos ce]
        · rw [if_neg ce, lvNd_app hlvle]
      have hsub : ∀ q : List bEn, q = (if C.1.1.1 gl.2.1 = [] then Ro else Ro ++ [(some l, (0, 0), r, some cc, 0)]) → ∀ n, n ≤ Ro.length → q.take n = Ro.take n := fun q hq n hn => by
        rw [hq]
        split
        · rfl
        · rw [List.take_append_of_le_length hn]
      refine ⟨⟨hp2, r1, fun en hen => ?_, fun q hq => ?_, i5, ?_⟩, rfl, fun k gk => ?_⟩
      · have hen : en ∈ (if C.1.1.1 gl.2.1 = [] then Ro else Ro ++ [(some l, (0, 0), r, some cc, 0)]).drop fr := hen
        by_cases ce : C.1.1.1 gl.2.1 = []
        · rw [if_pos ce] at hen
          exact enOk_pre r2 (i3 en hen)
        · rw [if_neg ce, List.drop_append_of_le_length i6] at hen
          rcases List.mem_append.mp hen with q | q
          · exact enOk_pre r2 (i3 en q)
          · rw [List.mem_singleton.mp q]
            refine ⟨cs2, c1, Or.inr ⟨cc, rfl, ?_, by rw [eit]; exact k2, ?_⟩⟩
            · rw [eBi0]
              refine ⟨n1, n2, fun c hc => ?_, ?_⟩
              · rcases List.mem_cons.mp hc with q | q
                · rw [q]; exact cOk_pre r2 (n3 cc (List.mem_append_right _ List.mem_cons_self))
                · exact c3 c q
              · rw [List.map_cons, eit, c2]
                exact hJ1
            · rw [eit]
              exact List.length_pos_iff.mpr ce
      · obtain ⟨j1, cs3, j2, j3⟩ := i4 q hq
        refine ⟨fun en hen => ?_, cs3, bCh_pre r2.2.2.1 _ _ j2, ndOk_pre r2 j3⟩
        have hen : en ∈ ((if C.1.1.1 gl.2.1 = [] then Ro else Ro ++ [(some l, (0, 0), r, some cc, 0)]).take q.2.1).drop q.1 := hen
        rw [hsub _ rfl _ (hlvle q hq)] at hen
        exact enOk_pre r2 (j1 en hen)
      · show fr ≤ (if C.1.1.1 gl.2.1 = [] then Ro else Ro ++ [(some l, (0, 0), r, some cc, 0)]).length
        split
        · exact i6
        · rw [List.length_append]; omega
      · have gk : smGood C.1.1 (roNd C F ((if C.1.1.1 gl.2.1 = [] then Ro else Ro ++ [(some l, (0, 0), r, some cc, 0)]).drop fr)) (lvNd C F (if C.1.1.1 gl.2.1 = [] then Ro else Ro ++ [(some l, (0, 0), r, some cc, 0)]) lv) k := gk
        rw [hroN, hlvN] at gk
        exact smGood_rf hrf (smGood_perm List.perm_append_comm gk)
    · -- a denied call
      have hgr : ∀ k, k < gl.2.2.1 → ∃ n, bNo Vr e.2.1 (smv gl k) = some n ∧ ∃ j e2, bend N (bdL F l) j n = some e2 ∧ bhd N e2.2 ≠ none := by
        obtain ⟨e', gl', q1, q2, q3⟩ := hok
        rw [he] at q1
        cases q1
        rw [hg] at q2
        cases q2
        rw [ebd] at q3
        rcases q3 with q3 | q3
        · exact absurd k3 q3
        · exact q3
      have hparts : ∀ n, bhd N n = some 1 → bfs N n < N.length := fun n hn => by
        have h1 : bfs N n < n := hw.2.2.1 n hn
        have := bhd_lt hn
        omega
      have hgrF : ∀ k, k < gl.2.2.1 → ∃ n, bNo F.1.2.1 e.2.1 (smv gl k) = some n ∧ ∃ j e2, bend F.1.1 (bdL F l) j n = some e2 ∧ bhd F.1.1 e2.2 ≠ none := fun k hk => by
        obtain ⟨n, h1, j, e2, h2, h3⟩ := hgr k hk
        have hlt := bNo_lt hw h1
        refine ⟨n, bNo_pre i1.2.1 h1, j, e2, ?_, ?_⟩
        · rw [bend_pre i1.1 hparts (fun a b hab => (n2 a b hab).2) j n hlt]; exact h2
        · rw [bhd_pre i1.1 (bend_in n2 hw.2.2.1 j n e2 hlt h2)]; exact h3
      have det := bz_gr n1 hgrF
      obtain ⟨v0, hv0⟩ := bZ_sat (Vr := F.1.2.1) n1
      have hcnt : gl.2.2.1 = C.1.2 gl.2.1 := gok.2.2.2.2 (by omega)
      have har3 : C.1.2 gl.2.1 ≤ 3 := hA3 _
      -- the question
      have hp2 : tPre ((N, Vr ++ (List.range gl.2.2.1).map (fun k => bNo Vr e.2.1 (smv gl k)), Ce1 ++ [(60 + gl.2.1, Vr.length, none)]), Ls, Bi) F := hp2
      have hqc : (Ce1 ++ [(60 + gl.2.1, Vr.length, none)])[Ce1.length]? = some (60 + gl.2.1, Vr.length, none) := by simp
      have hqg : bG C (60 + gl.2.1) = some (smQ gl.2.1 (C.1.2 gl.2.1)) := by
        unfold bG
        rw [if_pos (by omega), show 60 + gl.2.1 - 60 = gl.2.1 by omega]
      have hqi : bIt C F.1.2.2 Ce1.length = (2 * Vr.length, smQ gl.2.1 (C.1.2 gl.2.1)) := bIt_eq hp2.2.2.1 hqc hqg
      have hqch : bCh (Ce1 ++ [(60 + gl.2.1, Vr.length, none)]) (some Ce1.length) [Ce1.length] := ⟨rfl, _, hqc, rfl⟩
      have hqv : ∀ k, k < C.1.2 gl.2.1 → bNo (Vr ++ (List.range gl.2.2.1).map (fun k => bNo Vr e.2.1 (smv gl k))) Vr.length k = bNo Vr e.2.1 (smv gl k) := fun k hk => by
        unfold bNo
        rw [List.getElem?_append_right (by omega), show Vr.length + k - Vr.length = k by omega, List.getElem?_map, List.getElem?_range (by omega)]
        rfl
      have eBq : bdE F (some l, (0, 0), some Ce1.length, none, 0) = bdL F l := by
        unfold bdE bdL
        show bdOf ((F.2.2.take 0).drop 0 ++ _) = _
        rw [List.take_zero, List.drop_nil, List.nil_append]
      have hval : ∀ v, bZ F.1.1 F.1.2.1 (bdL F l) v → ∀ k, k < C.1.2 gl.2.1 → v (2 * Vr.length) k = v (2 * e.2.1) (smv gl k) := fun v ⟨ν, z1, z2, z3⟩ k hk => by
        obtain ⟨n, hn⟩ := gvar k (by omega)
        rw [z3 _ _ n (bNo_pre hp2.2.1 (by rw [hqv k hk]; exact hn)), z3 _ _ n (bNo_pre i1.2.1 hn)]
      have hqAt : ∀ v, bZ F.1.1 F.1.2.1 (bdL F l) v → smAt (smQ gl.2.1 (C.1.2 gl.2.1)) (v (2 * Vr.length)) = smAt gl (v0 (2 * e.2.1)) := fun v hv => by
        unfold smAt
        show (gl.2.1, (List.range (C.1.2 gl.2.1)).map fun k => v (2 * Vr.length) (smv (smQ gl.2.1 (C.1.2 gl.2.1)) k)) = (gl.2.1, (List.range gl.2.2.1).map fun k => v0 (2 * e.2.1) (smv gl k))
        rw [hcnt]
        congr 1
        refine List.map_congr_left fun k hk => ?_
        have hk := List.mem_range.mp hk
        rw [smQ_v (by omega), hval v hv k hk]
        exact det v v0 hv hv0 k (by omega)
      obtain ⟨⟨m, hgd⟩, -⟩ := (hJ1 _ List.mem_cons_self).1 k3
      have hgd : Gd (gl.2.1, m) := hgd
      have hend : (Ro ++ [(some l, (0, 0), some Ce1.length, none, 0)]).drop Ro.length = [((some l, (0, 0), some Ce1.length, none, 0) : bEn)] := List.drop_left
      have hen0 : enOk C Gd g ((N, Vr ++ (List.range gl.2.2.1).map (fun k => bNo Vr e.2.1 (smv gl k)), Ce1 ++ [(60 + gl.2.1, Vr.length, none)]), Ls, Bi) F (some l, (0, 0), some Ce1.length, none, 0) := by
        refine ⟨[Ce1.length], hqch, Or.inl ⟨rfl, ?_⟩⟩
        rw [eBq]
        refine ⟨n1, n2, fun c hc => ?_, ?_⟩
        · rw [List.mem_singleton.mp hc]
          refine ⟨_, _, hqc, hqg, ⟨(by show 2 ≤ 3; decide), har3, (fun h => by cases h), (fun h => by cases h), fun _ => rfl⟩, fun k hk => ?_⟩
          have hk : k < C.1.2 gl.2.1 := hk
          obtain ⟨n, hn⟩ := gvar k (by omega)
          exact ⟨n, by rw [smQ_v (by omega)]; exact (hqv k hk).trans hn⟩
        · rw [List.map_cons, List.map_nil, hqi]
          exact bJ_ask hgd har3 (fun k hk _ v w hv hw => by rw [hval v hv k hk, hval w hw k hk]; exact det v w hv hw k (by omega))
      refine ⟨⟨hp2, r1, fun en hen => ?_, fun q hq => ?_, ⟨i6, Nat.le_refl _, i5⟩, ?_⟩, rfl, fun k gk => ?_⟩
      · have hen : en ∈ (Ro ++ [(some l, (0, 0), some Ce1.length, none, 0)]).drop Ro.length := hen
        rw [hend, List.mem_singleton] at hen
        rw [hen]
        exact hen0
      · rcases List.mem_cons.mp hq with q0 | q0
        · rw [q0]
          refine ⟨fun en hen => ?_, cs2, bCh_pre (bPre_app _ _) _ _ c1, n1, n2, fun c hc => ?_, ?_⟩
          · have hen : en ∈ ((Ro ++ [(some l, (0, 0), some Ce1.length, none, 0)]).take Ro.length).drop fr := hen
            rw [List.take_left] at hen
            exact enOk_pre r2 (i3 en hen)
          · exact cOk_pre (T := ((N, Vr, Ce1), Ls, Bi)) ⟨bPre_refl _, bPre_app _ _, bPre_app _ _, bPre_refl _, bPre_refl _⟩ (c3 c hc)
          · rw [c2]
            exact bJ_den k3 hJ1
        · obtain ⟨j1, cs3, j2, j3⟩ := i4 q q0
          refine ⟨fun en hen => ?_, cs3, bCh_pre r2.2.2.1 _ _ j2, ndOk_pre r2 j3⟩
          have hen : en ∈ ((Ro ++ [(some l, (0, 0), some Ce1.length, none, 0)]).take q.2.1).drop q.1 := hen
          rw [List.take_append_of_le_length (hlvle q q0)] at hen
          exact enOk_pre r2 (j1 en hen)
      · show Ro.length ≤ (Ro ++ [_]).length
        rw [List.length_append]
        omega
      · have gk : smGood C.1.1 (roNd C F ((Ro ++ [(some l, (0, 0), some Ce1.length, none, 0)]).drop Ro.length)) (lvNd C F (Ro ++ [(some l, (0, 0), some Ce1.length, none, 0)]) ((fr, Ro.length, l, r) :: lv)) k := gk
        have elv : lvNd C F (Ro ++ [(some l, (0, 0), some Ce1.length, none, 0)]) ((fr, Ro.length, l, r) :: lv) = ((A.map (bIt C F.1.2.2) ++ B.map (bIt C F.1.2.2), bZ F.1.1 F.1.2.1 (bdL F l)), roNd C F (Ro.drop fr)) :: lvNd C F Ro lv := by
          show (((chO F.1.2.2 r).map (bIt C F.1.2.2), bZ F.1.1 F.1.2.1 (bdL F l)), roNd C F (((Ro ++ [(some l, (0, 0), some Ce1.length, none, 0)]).take Ro.length).drop fr)) :: lvNd C F (Ro ++ [(some l, (0, 0), some Ce1.length, none, 0)]) lv = _
          rw [chO_eq (bCh_pre hce1F _ _ c1), c2, List.take_left, lvNd_app hlvle]
        rw [hend, roNd_one, enNd_n rfl (bCh_pre hp2.2.2.1 _ _ hqch), eBq, elv, List.map_cons, List.map_nil, hqi] at gk
        exact smGood_den k3 (fun v hv => smAt_eq fun k hk => det v v0 hv hv0 k hk) rfl hqAt ⟨v0, hv0⟩ gk
    · -- an equation
      have hlx := bNo_lt hw hx
      have hy1 : tW g ((N1, Vr, Ce), Ls, Bi) ∧ bPre N N1 ∧ y < N1.length ∧ ∀ Nf, bPre N1 Nf → bRs Nf Vr e.2.1 gl y := by
        rcases hy with ⟨q0, y1, y2⟩ | ⟨q0, rfl, rfl⟩
        · rw [y2]
          exact ⟨hw, bPre_refl _, bNo_lt hw y1, fun Nf _ => Or.inl ⟨q0, y1⟩⟩
        · have hn1 : gl.2.1 = 1 → ∃ n, bNo Vr e.2.1 (smv gl 1) = some n := fun q => gvar 1 (by rw [(gok.2.2.1 q0).2, if_pos q]; omega)
          refine ⟨tW_node hw (fun q => ?_), bPre_app _ _, by simp, fun Nf hNf => Or.inr ⟨q0, ?_, fun q => ?_⟩⟩
          · have q : gl.2.1 = 1 := by simpa using q
            obtain ⟨n, hn⟩ := hn1 q
            show (if gl.2.1 = 1 then (bNo Vr e.2.1 (smv gl 1)).getD 0 else 0) < N.length
            rw [if_pos q, hn]
            exact bNo_lt hw hn
          · rw [bhd_pre hNf (by simp), bhd_new, if_neg (by omega), if_pos rfl]
          · obtain ⟨n, hn⟩ := hn1 q
            rw [bfs_pre hNf (by simp), bfs_new, if_neg (by omega), if_pos rfl]
            show _ = some (if gl.2.1 = 1 then (bNo Vr e.2.1 (smv gl 1)).getD 0 else 0)
            rw [if_pos q, hn]
            rfl
      obtain ⟨hw1, hN1, hly, hrs⟩ := hy1
      have hN1F : bPre N1 F.1.1 := by
        rcases hend with ⟨-, -, rfl⟩ | ⟨-, rfl⟩
        · exact hp2.1
        · exact hp2.1
      have hlx1 : x < N1.length := Nat.lt_of_lt_of_le hlx (bPre_len hN1)
      have hlF := bPre_len hN1F
      have hparts : ∀ n, bhd N1 n = some 1 → bfs N1 n < N1.length := fun n hn => by
        have := hw1.2.2.1 n hn
        have := bhd_lt hn
        have h1 : bfs N1 n < n := hw1.2.2.1 n hn
        omega
      have n2' : ∀ n m, bdL F l n = some m → n < N1.length ∧ m < N1.length := fun n m hnm => ⟨Nat.lt_of_lt_of_le (n2 n m hnm).1 (bPre_len hN1), Nat.lt_of_lt_of_le (n2 n m hnm).2 (bPre_len hN1)⟩
      rw [ebd] at hu
      have huF := bUn_pre hN1F hparts k _ x y rr (fun n m hnm => (n2' n m hnm).2) hlx1 hly hu
      have hk1 : bWk N1 g (bdL F l) := bWk_pre (T := ((N1, F.1.2.1, F.1.2.2), F.2)) (F := F) ⟨hN1F, bPre_refl _, bPre_refl _, bPre_refl _, bPre_refl _⟩ n1.1 n2'
      obtain ⟨u1, u2, u3, u4, u5⟩ := bun_ok (N := N1) ⟨hw1.1, fun n _ hn => hparts n hn⟩ k _ x y rr hu hk1 hlx1 hly
      have hfin : bFin F.1.1 rr.2.1 x ↔ bFin N1 rr.2.1 x := bFin_pre hN1F hparts (fun n m hnm => (u1.2.2 n m hnm).2.2) hlx1
      have hxF := bNo_pre i1.2.1 hx
      have hyF : bRs F.1.1 F.1.2.1 e.2.1 gl y := by
        rcases hrs F.1.1 hN1F with ⟨q0, q1⟩ | ⟨q0, q1, q2⟩
        · exact Or.inl ⟨q0, bNo_pre i1.2.1 q1⟩
        · exact Or.inr ⟨q0, q1, fun q => bNo_pre i1.2.1 (q2 q)⟩
      have hk2 : gl.1 ≠ 2 := by omega
      have hk3 : gl.1 ≠ 3 := by omega
      rcases hend with ⟨hrt, hrf, rfl⟩ | ⟨hrn, rfl⟩
      · obtain ⟨w1, w2⟩ := bz_ok hFb n1 huF (by omega) (by omega) hxF hyF hrt (hfin.mpr hrf)
        have eZ : bZ F.1.1 F.1.2.1 rr.2.1 = fun v => bZ F.1.1 F.1.2.1 (bdL F l) v ∧ smEq v (2 * e.2.1, gl) := funext fun v => propext (w2 v)
        have hp2 : tPre ((N1, Vr, Ce1), Ls, Bi ++ rr.2.2) F := hp2
        have eBn : bdE F (some l, (Bi.length, Bi.length + rr.2.2.length), r, none, 0) = rr.2.1 := by
          unfold bdE
          show bdOf ((F.2.2.take (Bi.length + rr.2.2.length)).drop Bi.length ++ bPb F.2.1 F.2.2 150 (some l)) = _
          rw [b_seg hp2.2.2.2.2 (j := Bi.length + rr.2.2.length) (by show _ ≤ (Bi ++ rr.2.2).length; rw [List.length_append]; exact Nat.le_refl _)]
          show bdOf (((Bi ++ rr.2.2).take (Bi.length + rr.2.2.length)).drop Bi.length ++ _) = _
          rw [List.take_of_length_le (by rw [List.length_append]; exact Nat.le_refl _), List.drop_left]
          exact bdOf_rr u4 u3 u2
        have hnew : enOk C Gd g ((N1, Vr, Ce1), Ls, Bi ++ rr.2.2) F (some l, (Bi.length, Bi.length + rr.2.2.length), r, none, 0) := by
          refine ⟨cs2, c1, Or.inl ⟨rfl, ?_⟩⟩
          rw [eBn]
          refine ⟨w1, fun n m hnm => (u1.2.2 n m hnm).2, fun c hc => ?_, ?_⟩
          · exact cOk_pre (T := ((N, Vr, Ce1), Ls, Bi)) ⟨hN1, bPre_refl _, bPre_refl _, bPre_refl _, bPre_app _ _⟩ (c3 c hc)
          · rw [c2, eZ]
            exact bJ_eq (by show gl.1 = 0 ∨ gl.1 = 1; omega) hJ1
        refine ⟨⟨hp2, r1, fun en hen => ?_, fun q hq => ?_, i5, ?_⟩, rfl, fun k gk => ?_⟩
        · have hen : en ∈ (Ro ++ [(some l, (Bi.length, Bi.length + rr.2.2.length), r, none, 0)]).drop fr := hen
          rw [List.drop_append_of_le_length i6] at hen
          rcases List.mem_append.mp hen with q | q
          · exact enOk_pre r2 (i3 en q)
          · rw [List.mem_singleton.mp q]
            exact hnew
        · obtain ⟨j1, cs3, j2, j3⟩ := i4 q hq
          refine ⟨fun en hen => ?_, cs3, bCh_pre r2.2.2.1 _ _ j2, ndOk_pre r2 j3⟩
          have hen : en ∈ ((Ro ++ [(some l, (Bi.length, Bi.length + rr.2.2.length), r, none, 0)]).take q.2.1).drop q.1 := hen
          rw [List.take_append_of_le_length (hlvle q hq)] at hen
          exact enOk_pre r2 (j1 en hen)
        · show fr ≤ (Ro ++ [_]).length
          rw [List.length_append]
          omega
        · have gk : smGood C.1.1 (roNd C F ((Ro ++ [(some l, (Bi.length, Bi.length + rr.2.2.length), r, none, 0)]).drop fr)) (lvNd C F (Ro ++ [(some l, (Bi.length, Bi.length + rr.2.2.length), r, none, 0)]) lv) k := gk
          rw [lvNd_app hlvle, List.drop_append_of_le_length i6, roNd_app, roNd_one, enNd_n rfl (bCh_pre hce1F _ _ c1), eBn, c2, eZ] at gk
          exact smGood_rf (smRf_eq (A := A.map (bIt C F.1.2.2)) (B := B.map (bIt C F.1.2.2)) (it := (2 * e.2.1, gl)) hk2 hk3) (smGood_perm List.perm_append_comm gk)
      · have hno := bz_no hFb n1 huF (by omega) (by omega) hxF hyF (fun q => hrn ⟨q.1, hfin.mp q.2⟩)
        refine ⟨⟨hp2, r1, fun en hen => enOk_pre r2 (i3 en hen), fun q hq => ?_, i5, i6⟩, rfl, fun k gk => ?_⟩
        · obtain ⟨j1, cs3, j2, j3⟩ := i4 q hq
          exact ⟨fun en hen => enOk_pre r2 (j1 en hen), cs3, bCh_pre r2.2.2.1 _ _ j2, ndOk_pre r2 j3⟩
        · exact smGood_rf (ms := []) (smRf_no (A := A.map (bIt C F.1.2.2)) (B := B.map (bIt C F.1.2.2)) (it := (2 * e.2.1, gl)) hk2 hk3 hno) gk
end BRES
