/-! Own rows: BREADTH: a list is resolved: what becomes of its node. By hand; nothing of the bytecode. -/
noncomputable def chO (Ce : List (Nat × Nat × Option Nat)) (o : Option Nat) : List Nat := @dite _ (∃ cs, bCh Ce o cs) (Classical.propDecidable _) (fun h => Classical.choose h) (fun _ => [])
theorem chO_eq {Ce : List (Nat × Nat × Option Nat)} {o : Option Nat} {cs : List Nat} (h : bCh Ce o cs) : chO Ce o = cs := by
  have hx : ∃ cs, bCh Ce o cs := ⟨cs, h⟩
  unfold chO
  rw [dif_pos hx]
  exact bCh_uniq _ _ _ (Classical.choose_spec hx) h
def bIt (C : mmC) (Ce : List (Nat × Nat × Option Nat)) (c : Nat) : smI := (2 * (Ce.getD c (0, 0, none)).2.1, (bG C (Ce.getD c (0, 0, none)).1).getD (0, 0, 0, 0, 0, 0))
theorem bIt_eq {C : mmC} {Ce Cf : List (Nat × Nat × Option Nat)} {c : Nat} {e : Nat × Nat × Option Nat} {gl : smL} (hp : bPre Ce Cf) (h : Ce[c]? = some e) (hg : bG C e.1 = some gl) : bIt C Cf c = (2 * e.2.1, gl) := by
  unfold bIt
  rw [List.getD_eq_getElem?_getD, bPre_some hp h]
  show (2 * e.2.1, (bG C e.1).getD _) = _
  rw [hg]
  rfl
def gOkC (C : mmC) (gl : smL) : Prop := gl.1 ≤ 3 ∧ gl.2.2.1 ≤ 3 ∧ (gl.1 = 0 → gl.2.1 < 3 ∧ gl.2.2.1 = if gl.2.1 = 1 then 2 else 1) ∧ (gl.1 = 1 → gl.2.2.1 = 2) ∧ (2 ≤ gl.1 → gl.2.2.1 = C.1.2 gl.2.1)
theorem nvc_eq {C : mmC} {gl : smL} (h : gOkC C gl) : nvc gl = gl.2.2.1 := by
  unfold nvc
  by_cases c : gl.1 = 0
  · rw [if_pos c, (h.2.2.1 c).2]
  · rw [if_neg c]
    by_cases c1 : gl.1 = 1
    · rw [if_pos c1, h.2.2.2.1 c1]
    · rw [if_neg c1]
def cOk (C : mmC) (T : bTS) (c : Nat) : Prop := ∃ e gl, T.1.2.2[c]? = some e ∧ bG C e.1 = some gl ∧ gOkC C gl ∧ ∀ k, k < gl.2.2.1 → ∃ n, bNo T.1.2.1 e.2.1 (smv gl k) = some n
theorem cOk_pre {C : mmC} {T U : bTS} {c : Nat} (h : tPre T U) (k : cOk C T c) : cOk C U c := by
  obtain ⟨e, gl, k1, k2, k3, k4⟩ := k
  exact ⟨e, gl, bPre_some h.2.2.1 k1, k2, k3, fun k hk => by
    obtain ⟨n, hn⟩ := k4 k hk
    exact ⟨n, bNo_pre h.2.1 hn⟩⟩
def bdE (F : bTS) (en : bEn) : bBD := bdOf ((F.2.2.take en.2.1.2).drop en.2.1.1 ++ bPb F.2.1 F.2.2 150 en.1)
def ndOk (C : mmC) (Gd : Nat × Nat → Prop) (g : Nat) (T F : bTS) (bd : bBD) (cs : List Nat) : Prop := bWF F.1.1 g bd ∧ (∀ n m, bd n = some m → n < T.1.1.length ∧ m < T.1.1.length) ∧ (∀ c, c ∈ cs → cOk C T c) ∧ bJ C Gd (cs.map (bIt C F.1.2.2)) (bZ F.1.1 F.1.2.1 bd)
theorem ndOk_pre {C : mmC} {Gd : Nat × Nat → Prop} {g : Nat} {T U F : bTS} {bd : bBD} {cs : List Nat} (h : tPre T U) (k : ndOk C Gd g T F bd cs) : ndOk C Gd g U F bd cs := ⟨k.1, fun n m hn => ⟨Nat.lt_of_lt_of_le (k.2.1 n m hn).1 (bPre_len h.1), Nat.lt_of_lt_of_le (k.2.1 n m hn).2 (bPre_len h.1)⟩, fun c hc => cOk_pre h (k.2.2.1 c hc), k.2.2.2⟩
def enOk (C : mmC) (Gd : Nat × Nat → Prop) (g : Nat) (T F : bTS) (en : bEn) : Prop := ∃ cs, bCh T.1.2.2 en.2.2.1 cs ∧
  ((en.2.2.2.1 = none ∧ ndOk C Gd g T F (bdE F en) cs) ∨ ∃ cc, en.2.2.2.1 = some cc ∧ ndOk C Gd g T F (bdE F en) (cc :: cs) ∧ (bIt C F.1.2.2 cc).2.1 = 2 ∧ en.2.2.2.2 < (C.1.1.1 (bIt C F.1.2.2 cc).2.2.1).length)
theorem enOk_pre {C : mmC} {Gd : Nat × Nat → Prop} {g : Nat} {T U F : bTS} {en : bEn} (h : tPre T U) (k : enOk C Gd g T F en) : enOk C Gd g U F en := by
  obtain ⟨cs, k1, k2⟩ := k
  refine ⟨cs, bCh_pre h.2.2.1 _ _ k1, ?_⟩
  rcases k2 with ⟨k2, k3⟩ | ⟨cc, k2, k3, k4⟩
  · exact Or.inl ⟨k2, ndOk_pre h k3⟩
  · exact Or.inr ⟨cc, k2, ndOk_pre h k3, k4⟩
/-- the nodes of what is in the row -/
noncomputable def enNd (C : mmC) (F : bTS) (en : bEn) : List smND := match en.2.2.2.1 with
  | none => [((chO F.1.2.2 en.2.2.1).map (bIt C F.1.2.2), bZ F.1.1 F.1.2.1 (bdE F en))]
  | some cc => ((C.1.1.1 (bIt C F.1.2.2 cc).2.2.1).drop en.2.2.2.2).map (smKid C.1.1 [] ((chO F.1.2.2 en.2.2.1).map (bIt C F.1.2.2)) (bIt C F.1.2.2 cc) (bZ F.1.1 F.1.2.1 (bdE F en)) 1)
noncomputable def roNd (C : mmC) (F : bTS) (ro : List bEn) : List smND := ro.flatMap (enNd C F)
def bdL (F : bTS) (l : Nat) : bBD := bdOf (bPb F.2.1 F.2.2 150 (some l))
noncomputable def lvNd (C : mmC) (F : bTS) (Ro : List bEn) (lv : bLv) : List (smND × List smND) := lv.map fun l => (((chO F.1.2.2 l.2.2.2).map (bIt C F.1.2.2), bZ F.1.1 F.1.2.1 (bdL F l.2.2.1)), roNd C F ((Ro.take l.2.1).drop l.1))
def lvB : bLv → Nat → Prop
  | [], _ => True
  | l :: lv, b => l.1 ≤ l.2.1 ∧ l.2.1 ≤ b ∧ lvB lv l.1
theorem lvB_le : ∀ {lv : bLv} {b b' : Nat}, b ≤ b' → lvB lv b → lvB lv b'
  | [], _, _, _, _ => trivial
  | _ :: _, _, _, h, k => ⟨k.1, Nat.le_trans k.2.1 h, k.2.2⟩
theorem lvB_mem : ∀ {lv : bLv} {b : Nat}, lvB lv b → ∀ l, l ∈ lv → l.2.1 ≤ b
  | [], _, _, _, h => absurd h List.not_mem_nil
  | l0 :: lv, b, k, l, h => by
    rcases List.mem_cons.mp h with e | e
    · rw [e]; exact k.2.1
    · have := lvB_mem k.2.2 l e
      have := k.1
      have := k.2.1
      omega
theorem lvNd_app {C : mmC} {F : bTS} {Ro x : List bEn} {lv : bLv} (h : ∀ l, l ∈ lv → l.2.1 ≤ Ro.length) : lvNd C F (Ro ++ x) lv = lvNd C F Ro lv := by
  unfold lvNd
  refine List.map_congr_left fun l hl => ?_
  rw [List.take_append_of_le_length (h l hl)]
/-- a state of the search -/
def bIn (C : mmC) (Gd : Nat × Nat → Prop) (g : Nat) (F : bTS) (S : bS) : Prop := tPre (tS S) F ∧ sIn g S ∧ (∀ en, en ∈ S.2.1.2.1.drop S.2.1.2.2 → enOk C Gd g (tS S) F en) ∧
  (∀ l, l ∈ S.2.2.2.1 → (∀ en, en ∈ (S.2.1.2.1.take l.2.1).drop l.1 → enOk C Gd g (tS S) F en) ∧ ∃ cs, bCh S.1.2.2 l.2.2.2 cs ∧ ndOk C Gd g (tS S) F (bdL F l.2.2.1) cs) ∧ lvB S.2.2.2.1 S.2.1.2.2 ∧ S.2.1.2.2 ≤ S.2.1.2.1.length
theorem bZ_odd {N : bNT} {Vr : List (Option Nat)} {bd : bBD} (v w : smV) (h : ∀ i, i ≠ 1 → v i = w i) (k : bZ N Vr bd v) : bZ N Vr bd w := by
  obtain ⟨ν, z1, z2, z3⟩ := k
  exact ⟨ν, z1, z2, fun b x n hn => by rw [← h (2 * b) (by omega)]; exact z3 b x n hn⟩
section BR
variable {C : mmC} {Gd : Nat × Nat → Prop} {g : Nat} {F : bTS}
/-- the chain without one of its cells -/
theorem wo_it {N : bNT} {Vr : List (Option Nat)} {Ce Ce1 : List (Nat × Nat × Option Nat)} {Ls : bLs} {Bi : List (Nat × Nat)} {A B : List Nat} {cc h : Nat} {e : Nat × Nat × Option Nat} (hch : bCh Ce (some h) (A ++ cc :: B)) (he : Ce[cc]? = some e) (h1 : Ce1 = Ce ++ bWo Ce e.2.2 A Ce.length) (hf : bPre Ce1 F.1.2.2) (hok : ∀ c, c ∈ A ++ cc :: B → cOk C ((N, Vr, Ce), Ls, Bi) c) :
    ∃ cs', bCh Ce1 (if A = [] then e.2.2 else some Ce.length) cs' ∧ cs'.map (bIt C F.1.2.2) = A.map (bIt C F.1.2.2) ++ B.map (bIt C F.1.2.2) ∧ ∀ c, c ∈ cs' → cOk C ((N, Vr, Ce1), Ls, Bi) c := by
  have hpre : bPre Ce Ce1 := by rw [h1]; exact bPre_app _ _
  have hB : bCh Ce1 e.2.2 B := by
    obtain ⟨e', q1, q2⟩ := bCh_app A cc B _ hch
    rw [he] at q1
    cases q1
    exact bCh_pre hpre _ _ q2
  have at_ : ∀ i a, A[i]? = some a → ∃ n, Ce1[Ce.length + i]? = some ((Ce.getD a (0, 0, none)).1, (Ce.getD a (0, 0, none)).2.1, n) := fun i a ha => by
    have q := bWo_at (Ce := Ce) (r := e.2.2) A Ce.length i a ha
    rw [h1, List.getElem?_append_right (by omega), show Ce.length + i - Ce.length = i by omega]
    exact ⟨_, q⟩
  refine ⟨_, bWo_ch h1 hB, ?_, fun c hc => ?_⟩
  · rw [List.map_append]
    congr 1
    apply List.ext_getElem?
    intro i
    rw [List.getElem?_map, List.getElem?_map, List.getElem?_map]
    cases ha : A[i]? with
    | none =>
      rw [List.getElem?_eq_none (by simp; exact List.getElem?_eq_none_iff.mp ha)]
      rfl
    | some a =>
      have hi := (List.getElem?_eq_some_iff.mp ha).1
      rw [List.getElem?_range hi]
      show some (bIt C F.1.2.2 (Ce.length + i)) = some (bIt C F.1.2.2 a)
      obtain ⟨ea, gl, q1, q2, -⟩ := hok a (List.mem_append_left _ (List.mem_of_getElem? ha))
      have q1 : Ce[a]? = some ea := q1
      obtain ⟨n, hn⟩ := at_ i a ha
      rw [List.getD_eq_getElem?_getD, q1] at hn
      have hn : Ce1[Ce.length + i]? = some (ea.1, ea.2.1, n) := hn
      rw [bIt_eq hf hn (gl := gl) q2, bIt_eq (bPre_trans hpre hf) q1 q2]
  · rcases List.mem_append.mp hc with q | q
    · obtain ⟨i, hi, rfl⟩ := List.mem_map.mp q
      have hi := List.mem_range.mp hi
      obtain ⟨a, ha⟩ : ∃ a, A[i]? = some a := ⟨_, List.getElem?_eq_getElem hi⟩
      obtain ⟨ea, gl, q1, q2, q3, q4⟩ := hok a (List.mem_append_left _ (List.mem_of_getElem? ha))
      have q1 : Ce[a]? = some ea := q1
      obtain ⟨n, hn⟩ := at_ i a ha
      rw [List.getD_eq_getElem?_getD, q1] at hn
      exact ⟨_, gl, hn, q2, q3, q4⟩
    · exact cOk_pre (T := ((N, Vr, Ce), Ls, Bi)) ⟨bPre_refl _, bPre_refl _, hpre, bPre_refl _, bPre_refl _⟩ (hok c (List.mem_append_right _ (List.mem_cons_of_mem _ q)))
/-- bindings, as the final tables tell them -/
theorem bd_fin {T : bTS} (hp : tPre T F) (hw : bLw T.2.1 T.2.2.length) {l : Nat} (hl : l < T.2.1.length) : bdOf (bPb T.2.1 T.2.2 150 (some l)) = bdL F l := by
  unfold bdL
  rw [bPb_pre hp.2.2.2.1 hp.2.2.2.2 hw 150 (some l) (fun q hq => by cases hq; exact hl)]
theorem bWk_pre {T : bTS} (hp : tPre T F) {bd : bBD} (hk : bWk F.1.1 g bd) (hb : ∀ n m, bd n = some m → n < T.1.1.length ∧ m < T.1.1.length) : bWk T.1.1 g bd := by
  refine ⟨hk.1, fun n m c h1 h2 => ?_, fun n m h1 => ⟨(hk.2.2 n m h1).1, hb n m h1⟩⟩
  rw [← bhd_pre hp.1 (hb n m h1).1] at h2
  rw [← bhd_pre hp.1 (hb n m h1).2]
  exact hk.2.1 n m c h1 h2
theorem bFin_pre {N N' : bNT} {bd : bBD} (hN : bPre N N') (hp : ∀ n, bhd N n = some 1 → bfs N n < N.length) (hb : ∀ n m, bd n = some m → m < N.length) {n : Nat} (hn : n < N.length) : bFin N' bd n ↔ bFin N bd n :=
  ⟨fun ⟨k, e, h⟩ => ⟨k, e, by rw [← bend_pre hN hp hb k n hn]; exact h⟩, fun ⟨k, e, h⟩ => ⟨k, e, by rw [bend_pre hN hp hb k n hn]; exact h⟩⟩
theorem enNd_n {en : bEn} (h : en.2.2.2.1 = none) {cs : List Nat} (hc : bCh F.1.2.2 en.2.2.1 cs) : enNd C F en = [(cs.map (bIt C F.1.2.2), bZ F.1.1 F.1.2.1 (bdE F en))] := by
  unfold enNd
  rw [h, chO_eq hc]
theorem enNd_s {en : bEn} {cc : Nat} (h : en.2.2.2.1 = some cc) {cs : List Nat} (hc : bCh F.1.2.2 en.2.2.1 cs) : enNd C F en = ((C.1.1.1 (bIt C F.1.2.2 cc).2.2.1).drop en.2.2.2.2).map (smKid C.1.1 [] (cs.map (bIt C F.1.2.2)) (bIt C F.1.2.2 cc) (bZ F.1.1 F.1.2.1 (bdE F en)) 1) := by
  unfold enNd
  rw [h, chO_eq hc]
theorem roNd_app {a b : List bEn} : roNd C F (a ++ b) = roNd C F a ++ roNd C F b := List.flatMap_append
theorem roNd_one {a : bEn} : roNd C F [a] = enNd C F a := by
  unfold roNd
  rw [List.flatMap_cons, List.flatMap_nil, List.append_nil]
end BR
