/-! Own rows: BREADTH: what every state keeps of its own bindings. By hand; nothing of the bytecode. -/
theorem bWF_pre {N N' : bNT} {g : Nat} {bd : bBD} (hN : bPre N N') (hp : ∀ n, bhd N' n = some 1 → bfs N' n < n) (h : bWF N g bd) : bWF N' g bd := by
  obtain ⟨⟨h1, h2, h3⟩, h4, h5⟩ := h
  have hlen := bPre_len hN
  have hb : ∀ n m, bd n = some m → n < N.length ∧ m < N.length := fun n m hnm => (h3 n m hnm).2
  have hpN : ∀ n, bhd N n = some 1 → bfs N n < N.length := fun n hn => by
    have hl := bhd_lt hn
    have q := hp n (by rw [bhd_pre hN hl]; exact hn)
    rw [bfs_pre hN hl] at q
    omega
  refine ⟨⟨h1, fun n m c hnm hc => ?_, fun n m hnm => ?_⟩, fun n m hnm hc => ?_, fun n => ?_⟩
  · obtain ⟨a, b⟩ := hb n m hnm
    rw [bhd_pre hN a] at hc
    rw [bhd_pre hN b]
    exact h2 n m c hnm hc
  · obtain ⟨a, b, c⟩ := h3 n m hnm
    exact ⟨a, by omega, by omega⟩
  · obtain ⟨a, b⟩ := hb n m hnm
    rw [bhd_pre hN a] at hc
    have q := h4 n m hnm hc
    rw [bfs_pre hN a, bfs_pre hN b]
    exact q
  · induction n using Nat.strongRecOn with
    | _ n ih =>
      by_cases c : n < N.length
      · obtain ⟨k, e, he⟩ := h5 n
        exact ⟨k, e, by rw [bend_pre hN hpN (fun a b hab => (hb a b hab).2) k n c]; exact he⟩
      · have hno : bd n = none := by
          cases q : bd n with
          | none => rfl
          | some m => have := (hb n m q).1; omega
        by_cases c1 : bhd N' n = some 1
        · obtain ⟨k, e, he⟩ := ih _ (hp n c1)
          exact ⟨k + 1, (e.1 + 1, e.2), by rw [bend_built hno c1, he]; rfl⟩
        · exact ⟨1, (0, n), bend_last hno c1⟩
def lOk (N : bNT) (g : Nat) (pb : List (Nat × Nat)) : Prop := bWF N g (bdOf pb) ∧ (pb.map fun e => e.1).Nodup
def enP (T : bTS) (en : bEn) : List (Nat × Nat) := (T.2.2.take en.2.1.2).drop en.2.1.1 ++ bPb T.2.1 T.2.2 150 en.1
def fIn (g : Nat) (S : bS) : Prop := sIn g S ∧ (∀ e, e ∈ S.2.2.1 → e.1 < S.1.1.length ∧ e.2 < S.1.1.length) ∧ (∀ l, l < S.2.1.1.length → lOk S.1.1 g (bPb S.2.1.1 S.2.2.1 150 (some l))) ∧ ∀ en, en ∈ S.2.1.2.1 → lOk S.1.1 g (enP (tS S) en)
theorem enP_pre {T U : bTS} {g : Nat} {en : bEn} (h : tPre T U) (hw : tW g T) (he : enW T en) : enP U en = enP T en := by
  unfold enP
  rw [b_seg h.2.2.2.2 he.2.2, bPb_pre h.2.2.2.1 h.2.2.2.2 hw.2.2.2.2 150 en.1 he.1]
section BFW
variable {C : mmC} {tv : Nat → Nat → Bool} {g : Nat}
theorem f_en {T U : bTS} {en : bEn} (h : tPre T U) (hw : tW g T) (hu : tW g U) (he : enW T en) (k : lOk T.1.1 g (enP T en)) : lOk U.1.1 g (enP U en) := by
  rw [enP_pre h hw he]
  exact ⟨bWF_pre h.1 hu.2.2.1 k.1, k.2⟩
theorem f_li {T U : bTS} {l : Nat} (h : tPre T U) (hw : tW g T) (hu : tW g U) (hl : l < T.2.1.length) (k : lOk T.1.1 g (bPb T.2.1 T.2.2 150 (some l))) : lOk U.1.1 g (bPb U.2.1 U.2.2 150 (some l)) := by
  rw [bPb_pre h.2.2.2.1 h.2.2.2.2 hw.2.2.2.2 150 (some l) (fun q hq => by cases hq; exact hl)]
  exact ⟨bWF_pre h.1 hu.2.2.1 k.1, k.2⟩
theorem fIn_take {S S1 : bS} {h : Option Nat} (hS : fIn g S) (hl : S.2.1.1.length < 150) (ht : bTake C tv S h S1) : fIn g S1 := by
  obtain ⟨f1, f2, f3, f4⟩ := hS
  obtain ⟨k1, k2, k3⟩ := sIn_take f1 ht
  have hlen := bPre_len k2.1
  obtain ⟨⟨N, Vr, Ce⟩, ⟨Ls, Ro, fr⟩, Bi, lv, ⟨tk, na⟩⟩ := S
  have hl : Ls.length < 150 := hl
  have key : ∀ (en : bEn) (N1 : bNT) (Vr1 : List (Option Nat)) (Ce1 : List (Nat × Nat × Option Nat)) (h1 : Option Nat), enW ((N, Vr, Ce), Ls, Bi) en → lOk N g (enP ((N, Vr, Ce), Ls, Bi) en) → tPre ((N, Vr, Ce), Ls, Bi) ((N1, Vr1, Ce1), Ls ++ [(en.1, en.2.1.1, en.2.1.2, h1)], Bi) → tW g ((N1, Vr1, Ce1), Ls ++ [(en.1, en.2.1.1, en.2.1.2, h1)], Bi) → ∀ l, l < (Ls ++ [(en.1, en.2.1.1, en.2.1.2, h1)]).length → lOk N1 g (bPb (Ls ++ [(en.1, en.2.1.1, en.2.1.2, h1)]) Bi 150 (some l)) := fun en N1 Vr1 Ce1 h1 he ho hp hw l hl2 => by
    by_cases c : l < Ls.length
    · exact f_li (T := ((N, Vr, Ce), Ls, Bi)) hp f1.1 hw c (f3 l c)
    · rw [List.length_append, List.length_singleton] at hl2
      have e : l = Ls.length := by omega
      subst e
      have hat : (Ls ++ [(en.1, en.2.1.1, en.2.1.2, h1)])[Ls.length]? = some (en.1, en.2.1.1, en.2.1.2, h1) := by simp
      have q := f_en (T := ((N, Vr, Ce), Ls, Bi)) hp f1.1 hw he ho
      have e2 : bPb (Ls ++ [(en.1, en.2.1.1, en.2.1.2, h1)]) Bi 150 (some Ls.length) = enP ((N1, Vr1, Ce1), Ls ++ [(en.1, en.2.1.1, en.2.1.2, h1)], Bi) en := by
        rw [bPb_some hat, bPb_fuel hw.2.2.2.2 149 150 en.1 (fun p hp => by
          have h2 : p < Ls.length := he.1 p hp
          exact ⟨by omega, by omega⟩)]
        rfl
      rw [e2]
      exact q
  obtain ⟨en, e1, e2⟩ := ht
  have e1 : Ro[fr]? = some en := e1
  have hm := List.mem_of_getElem? e1
  have hen : enW ((N, Vr, Ce), Ls, Bi) en := f1.2.1 en hm
  have hok : lOk N g (enP ((N, Vr, Ce), Ls, Bi) en) := f4 en hm
  rcases e2 with ⟨-, rfl, rfl⟩ | ⟨cc, e, gl, c, q1, q2, q3, q4, q5, rfl⟩
  · refine ⟨k1, f2, key en N Vr Ce _ hen hok k2 k1.1, fun x hx => ?_⟩
    exact f_en (T := ((N, Vr, Ce), Ls, Bi)) k2 f1.1 k1.1 (f1.2.1 x hx) (f4 x hx)
  · refine ⟨k1, fun x hx => ?_, key en _ _ _ _ hen hok k2 k1.1, fun x hx => ?_⟩
    · obtain ⟨a, b⟩ := f2 x hx
      exact ⟨Nat.lt_of_lt_of_le a hlen, Nat.lt_of_lt_of_le b hlen⟩
    · rcases List.mem_or_eq_of_mem_set hx with q | q
      · exact f_en (T := ((N, Vr, Ce), Ls, Bi)) k2 f1.1 k1.1 (f1.2.1 x q) (f4 x q)
      · rw [q]
        exact f_en (T := ((N, Vr, Ce), Ls, Bi)) (en := (en.1, en.2.1, en.2.2.1, en.2.2.2.1, en.2.2.2.2 + 1)) k2 f1.1 k1.1 hen hok
theorem enP_w {T : bTS} {l : Nat} {r o : Option Nat} {k : Nat} : enP T (some l, (0, 0), r, o, k) = bPb T.2.1 T.2.2 150 (some l) := by
  unfold enP
  show (T.2.2.take 0).drop 0 ++ _ = _
  rw [List.take_zero, List.drop_nil, List.nil_append]
theorem bdOf_key : ∀ {pb : List (Nat × Nat)} {e : Nat × Nat}, e ∈ pb → bdOf pb e.1 ≠ none
  | [], _, h => absurd h List.not_mem_nil
  | x :: pb, e, h => by
    rw [bdOf_c]
    by_cases c : e.1 = x.1
    · rw [if_pos c]
      simp
    · rw [if_neg c]
      rcases List.mem_cons.mp h with q | q
      · exact absurd (by rw [q]) c
      · exact bdOf_key q
theorem fIn_res {S S1 : bS} {l h : Nat} (hS : fIn g S) (hl : l < S.2.1.1.length) (ht : bRes C g l h S S1) : fIn g S1 := by
  obtain ⟨f1, f2, f3, f4⟩ := id hS
  obtain ⟨k1, k2⟩ := sIn_res f1 hl ht
  obtain ⟨⟨N, Vr, Ce⟩, ⟨Ls, Ro, fr⟩, Bi, lv, ⟨tk, na⟩⟩ := S
  have hl : l < Ls.length := hl
  have w1 : tW g ((N, Vr, Ce), Ls, Bi) := f1.1
  have f2 : ∀ e, e ∈ Bi → e.1 < N.length ∧ e.2 < N.length := f2
  have f3 : ∀ l, l < Ls.length → lOk N g (bPb Ls Bi 150 (some l)) := f3
  have old : ∀ (U : bTS), tPre ((N, Vr, Ce), Ls, Bi) U → tW g U → ∀ en, en ∈ Ro → lOk U.1.1 g (enP U en) := fun U hp hu en hen => f_en (T := ((N, Vr, Ce), Ls, Bi)) hp w1 hu (f1.2.1 en hen) (f4 en hen)
  have new : ∀ (U : bTS), tPre ((N, Vr, Ce), Ls, Bi) U → tW g U → ∀ (r o : Option Nat) (k : Nat), lOk U.1.1 g (enP U (some l, (0, 0), r, o, k)) := fun U hp hu r o k => by
    rw [enP_w]
    exact f_li (T := ((N, Vr, Ce), Ls, Bi)) hp w1 hu hl (f3 l hl)
  obtain ⟨cs, -, ⟨-, rfl⟩ | ⟨A, cc, B, e, gl, -, -, -, -, -, Ce1, r, hCe1, -, hk⟩⟩ := ht
  · exact hS
  · rcases hk with ⟨-, rfl⟩ | ⟨-, rfl⟩ | ⟨-, x, y, N1, k, rr, hx, hy, hu, ⟨hrt, hrf, rfl⟩ | ⟨-, rfl⟩⟩
    · refine ⟨k1, f2, fun q hq => f_li (T := ((N, Vr, Ce), Ls, Bi)) k2 w1 k1.1 hq (f3 q hq), fun en hen => ?_⟩
      have hen : en ∈ (if C.1.1.1 gl.2.1 = [] then Ro else Ro ++ [(some l, (0, 0), r, some cc, 0)]) := hen
      split at hen
      · exact old _ k2 k1.1 en hen
      · rcases List.mem_append.mp hen with q | q
        · exact old _ k2 k1.1 en q
        · rw [List.mem_singleton.mp q]
          exact new _ k2 k1.1 _ _ _
    · refine ⟨k1, f2, fun q hq => f_li (T := ((N, Vr, Ce), Ls, Bi)) k2 w1 k1.1 hq (f3 q hq), fun en hen => ?_⟩
      rcases List.mem_append.mp hen with q | q
      · exact old _ k2 k1.1 en q
      · rw [List.mem_singleton.mp q]
        exact new _ k2 k1.1 _ _ _
    · have hlen : N.length ≤ N1.length := bPre_len k2.1
      have hw1 : tW g ((N1, Vr, Ce1), Ls, Bi ++ rr.2.2) := k1.1
      have hg1 : bNg N1 g := ⟨hw1.1, fun n _ hn => by
        have a := hw1.2.2.1 n hn
        have b := bhd_lt hn
        have a : bfs N1 n < n := a
        omega⟩
      have hbd : bWF N1 g (bdOf (bPb Ls Bi 150 (some l))) := bWF_pre k2.1 hw1.2.2.1 (f3 l hl).1
      have lx : x < N1.length := Nat.lt_of_lt_of_le (bNo_lt w1 hx) hlen
      have ly : y < N1.length := by
        rcases hy with ⟨-, y1, -⟩ | ⟨-, y1, y2⟩
        · exact Nat.lt_of_lt_of_le (bNo_lt w1 y1) hlen
        · rw [y1, y2, List.length_append]
          exact Nat.lt_succ_self _
      obtain ⟨u1, u2, u3, u4, u5⟩ := bun_ok hg1 k _ x y rr hu hbd.1 lx ly
      have hfin := bun_fin hg1 hu hbd lx ly hrt hrf
      have hin : ∀ q, q ∈ rr.2.2 → q.1 < N1.length ∧ q.2 < N1.length := fun q hq => (u1.2.2 q.1 q.2 ((u2 q.1 q.2).mpr (Or.inr hq))).2
      refine ⟨k1, fun q hq => ?_, fun q hq => f_li (T := ((N, Vr, Ce), Ls, Bi)) k2 w1 k1.1 hq (f3 q hq), fun en hen => ?_⟩
      · rcases List.mem_append.mp hq with t | t
        · obtain ⟨a, b⟩ := f2 q t
          exact ⟨Nat.lt_of_lt_of_le a hlen, Nat.lt_of_lt_of_le b hlen⟩
        · exact hin q t
      · rcases List.mem_append.mp hen with q | q
        · exact old _ k2 k1.1 en q
        · rw [List.mem_singleton.mp q]
          have eP : enP ((N1, Vr, Ce1), Ls, Bi ++ rr.2.2) (some l, (Bi.length, Bi.length + rr.2.2.length), r, none, 0) = rr.2.2 ++ bPb Ls Bi 150 (some l) := by
            unfold enP
            show ((Bi ++ rr.2.2).take (Bi.length + rr.2.2.length)).drop Bi.length ++ bPb Ls (Bi ++ rr.2.2) 150 (some l) = _
            rw [List.take_of_length_le (by rw [List.length_append]; exact Nat.le_refl _), List.drop_left, bPb_pre (bPre_refl _) (bPre_app _ _) w1.2.2.2.2 150 (some l) (fun p hp => by cases hp; exact hl)]
          show lOk N1 g (enP ((N1, Vr, Ce1), Ls, Bi ++ rr.2.2) (some l, (Bi.length, Bi.length + rr.2.2.length), r, none, 0))
          rw [eP]
          refine ⟨by rw [bdOf_rr u4 u3 u2]; exact hfin, ?_⟩
          rw [List.map_append]
          refine List.nodup_append.mpr ⟨u4, (f3 l hl).2, fun a ha b hb e => ?_⟩
          obtain ⟨p, hp, rfl⟩ := List.mem_map.mp ha
          obtain ⟨p', hp', rfl⟩ := List.mem_map.mp hb
          have q1 := u3 p hp
          have q2 := bdOf_key hp'
          rw [← e] at q2
          exact q2 q1
    · have hlen : N.length ≤ N1.length := bPre_len k2.1
      refine ⟨k1, fun q hq => ?_, fun q hq => f_li (T := ((N, Vr, Ce), Ls, Bi)) k2 w1 k1.1 hq (f3 q hq), fun en hen => old _ k2 k1.1 en hen⟩
      obtain ⟨a, b⟩ := f2 q hq
      exact ⟨Nat.lt_of_lt_of_le a hlen, Nat.lt_of_lt_of_le b hlen⟩
theorem fIn_turn {S S' : bS} (hS : fIn g S) (ht : bTurn C tv g S (.inl S')) : fIn g S' := by
  obtain ⟨k1, k2⟩ := sIn_turn hS.1 ht
  obtain ⟨⟨N, Vr, Ce⟩, ⟨Ls, Ro, fr⟩, Bi, lv, ⟨tk, na⟩⟩ := S
  rcases ht with ⟨-, ⟨-, q⟩ | ⟨l, lv', rfl, q⟩⟩ | ⟨-, -, q⟩ | ⟨-, htk, h, S1, hk, hr⟩
  · cases q
  · cases q
    obtain ⟨f1, f2, f3, f4⟩ := hS
    refine ⟨k1, f2, f3, fun en hen => ?_⟩
    rcases List.mem_append.mp hen with q | q
    · exact f4 en (List.mem_of_mem_take q)
    · rw [List.mem_singleton.mp q]
      show lOk N g (enP ((N, Vr, Ce), Ls, Bi) (some l.2.2.1, (0, 0), l.2.2.2, none, 0))
      rw [enP_w]
      exact f3 _ (f1.2.2.1 l List.mem_cons_self)
  · cases q
  · have hlen : Ls.length = tk := hS.1.2.2.2
    have fk := fIn_take hS (by show Ls.length < 150; omega) hk
    obtain ⟨-, -, k3⟩ := sIn_take hS.1 hk
    rcases hr with ⟨-, ⟨-, q⟩ | ⟨l, lv', rfl, q⟩⟩ | ⟨c, S2, -, q, hres⟩
    · cases q
      exact ⟨k1, fk.2.1, fk.2.2.1, fk.2.2.2⟩
    · cases q
      exact ⟨k1, fk.2.1, fk.2.2.1, fun en hen => fk.2.2.2 en (List.mem_of_mem_take hen)⟩
    · cases q
      exact fIn_res fk (by rw [k3]; exact Nat.lt_succ_self _) hres
end BFW
