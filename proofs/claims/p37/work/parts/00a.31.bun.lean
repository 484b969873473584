/-! Own rows: what making two nodes the same does. -/
section BN
variable {N : bNT} {g : Nat}
/-- the numbered terms come first and are whole; parts are nodes -/
def bNg (N : bNT) (g : Nat) : Prop := (∀ n, n < g → bhd N n ≠ none) ∧ ∀ n, n < N.length → bhd N n = some 1 → bfs N n < N.length
theorem bUp_old {bd : bBD} {a b : Nat} (ha : bd a = none) : ∀ n m, bd n = some m → bUp bd a b n = some m := fun n m h => by
  unfold bUp
  rw [if_neg (fun e => by rw [e, ha] at h; cases h)]
  exact h
theorem bUp_rp {bd : bBD} {a b : Nat} (ha : bd a = none) (hb : bd b = none) (hab : a ≠ b) (h : ∀ x, ∃ z, bRp bd x z) : ∀ x, ∃ z, bRp (bUp bd a b) x z := by
  intro x
  obtain ⟨z, ⟨k, h1⟩, h2⟩ := h x
  have q := bt_mono (bUp_old (b := b) ha) k x z h1
  by_cases e : z = a
  · subst e
    refine ⟨b, ⟨k + 1, bt_app k 1 x z b q ⟨b, by simp [bUp], rfl⟩⟩, ?_⟩
    unfold bUp
    rw [if_neg (fun e => hab e.symm)]
    exact hb
  · refine ⟨z, ⟨k, q⟩, ?_⟩
    unfold bUp
    rw [if_neg e]
    exact h2
theorem bRp_lt {bd : bBD} (hk : bWk N g bd) {x z : Nat} (hx : x < N.length) (h : bRp bd x z) : z < N.length := by
  obtain ⟨⟨k, h1⟩, -⟩ := h
  revert x
  induction k with
  | zero => intro x hx e; rw [← show x = z from e]; exact hx
  | succ k ih => rintro x hx ⟨m, q1, q2⟩; exact ih (hk.2.2 x m q1).2.2 q2
theorem bDir_or {lo hi : Nat} : (bDir N lo hi = (lo, hi) ∧ bhd N lo = none ∧ bhd N hi ≠ none) ∨ (bDir N lo hi = (hi, lo) ∧ ¬ (bhd N lo = none ∧ bhd N hi ≠ none)) := by
  unfold bDir
  by_cases c : bhd N lo = none ∧ bhd N hi ≠ none
  · exact Or.inl ⟨if_pos c, c⟩
  · exact Or.inr ⟨if_neg c, c⟩
theorem bUp_wk (hg : bNg N g) {bd : bBD} (hk : bWk N g bd) {lo hi : Nat} (hlo : bd lo = none) (hhi : bd hi = none) (hne : lo ≠ hi) (l1 : lo < N.length) (l2 : hi < N.length) (hc : ¬ bClash N g lo hi) :
    bWk N g (bUp bd (bDir N lo hi).1 (bDir N lo hi).2) ∧ bd (bDir N lo hi).1 = none := by
  rcases bDir_or (N := N) (lo := lo) (hi := hi) with ⟨e, c1, c2⟩ | ⟨e, c⟩
  · rw [e]
    refine ⟨⟨bUp_rp hlo hhi hne hk.1, fun n m c h hh => ?_, fun n m h => ?_⟩, hlo⟩
    · simp only [bUp] at h
      split at h
      · rename_i e1
        rw [e1, c1] at hh
        cases hh
      · exact hk.2.1 n m c h hh
    · simp only [bUp] at h
      split at h
      · rename_i e1
        cases h
        rw [e1]
        refine ⟨?_, l1, l2⟩
        by_cases q : lo < g
        · exact absurd c1 (hg.1 lo q)
        · omega
      · exact hk.2.2 n m h
  · rw [e]
    have hge : g ≤ hi := by
      by_cases q : hi < g
      · exfalso
        have h2 := hg.1 hi q
        have h1 : bhd N lo ≠ none := fun h1 => c ⟨h1, h2⟩
        obtain ⟨x, hx⟩ := Option.ne_none_iff_exists'.mp h1
        obtain ⟨y, hy⟩ := Option.ne_none_iff_exists'.mp h2
        exact hc ⟨x, y, hx, hy, Or.inr q⟩
      · omega
    refine ⟨⟨bUp_rp hhi hlo hne.symm hk.1, fun n m x h hh => ?_, fun n m h => ?_⟩, hhi⟩
    · simp only [bUp] at h
      split at h
      · rename_i e1
        cases h
        rw [e1] at hh
        have h1 : bhd N lo ≠ none := fun h1 => c ⟨h1, by rw [hh]; simp⟩
        obtain ⟨y, hy⟩ := Option.ne_none_iff_exists'.mp h1
        by_cases q : y = x
        · rw [hy, q]
        · exact absurd ⟨y, x, hy, hh, Or.inl q⟩ hc
      · exact hk.2.1 n m x h hh
    · simp only [bUp] at h
      split at h
      · rename_i e1
        cases h
        rw [e1]
        exact ⟨hge, l2, l1⟩
      · exact hk.2.2 n m h
/-- both nodes lie on the new way -/
theorem bUp_both {bd : bBD} {lo hi : Nat} (hlo : bd lo = none) (hhi : bd hi = none) : ∃ z k k', bt (bUp bd (bDir N lo hi).1 (bDir N lo hi).2) k lo z ∧ bt (bUp bd (bDir N lo hi).1 (bDir N lo hi).2) k' hi z := by
  rcases bDir_or (N := N) (lo := lo) (hi := hi) with ⟨e, -⟩ | ⟨e, -⟩
  · rw [e]
    exact ⟨hi, 1, 0, ⟨hi, by simp [bUp], rfl⟩, rfl⟩
  · rw [e]
    exact ⟨lo, 0, 1, rfl, ⟨lo, by simp [bUp], rfl⟩⟩
theorem bun_ok (hg : bNg N g) : ∀ (k : Nat) (bd : bBD) (x y : Nat) (r : Bool × bBD × List (Nat × Nat)), bUn N g k bd x y r → bWk N g bd → x < N.length → y < N.length →
    bWk N g r.2.1 ∧ (∀ n m, r.2.1 n = some m ↔ bd n = some m ∨ (n, m) ∈ r.2.2) ∧ (∀ e, e ∈ r.2.2 → bd e.1 = none) ∧ (r.2.2.map fun e => e.1).Nodup ∧
    (r.1 = true → (∃ z a b, bt r.2.1 a x z ∧ bt r.2.1 b y z) ∧ ∀ n m, (n, m) ∈ r.2.2 → bCg N r.2.1 n m)
  | 0, _, _, _, _, h, _, _, _ => h.elim
  | k + 1, bd, x, y, r, ⟨a, b, ha, hb, h⟩, hk, hx, hy => by
    have la := bRp_lt hk hx ha
    have lb := bRp_lt hk hy hb
    rcases h with ⟨e, rfl⟩ | ⟨e, hc, rfl⟩ | ⟨e, hc, r', rfl, h⟩
    · subst e
      obtain ⟨⟨k1, p1⟩, p2⟩ := ha
      obtain ⟨⟨k2, p3⟩, -⟩ := hb
      exact ⟨hk, fun n m => ⟨Or.inl, fun h => h.elim id fun h => absurd h List.not_mem_nil⟩, fun e he => absurd he List.not_mem_nil, List.nodup_nil, fun _ => ⟨⟨a, k1, k2, p1, p3⟩, fun n m h => absurd h List.not_mem_nil⟩⟩
    · exact ⟨hk, fun n m => ⟨Or.inl, fun h => h.elim id fun h => absurd h List.not_mem_nil⟩, fun e he => absurd he List.not_mem_nil, List.nodup_nil, fun h => by cases h⟩
    · have emm : (min a b = a ∧ max a b = b) ∨ (min a b = b ∧ max a b = a) := by omega
      have hlo : bd (min a b) = none := by rcases emm with ⟨e1, -⟩ | ⟨e1, -⟩ <;> rw [e1] <;> first | exact ha.2 | exact hb.2
      have hhi : bd (max a b) = none := by rcases emm with ⟨-, e1⟩ | ⟨-, e1⟩ <;> rw [e1] <;> first | exact ha.2 | exact hb.2
      have hne : min a b ≠ max a b := by omega
      have l1 : min a b < N.length := by omega
      have l2 : max a b < N.length := by omega
      generalize hlod : min a b = lo at *
      generalize hhid : max a b = hi at *
      obtain ⟨hk1, hfr⟩ := bUp_wk hg hk hlo hhi hne l1 l2 hc
      generalize hD : bDir N lo hi = D at *
      have hboth := bUp_both (N := N) hlo hhi
      rw [hD] at hboth
      -- both ends, on a way that goes on
      have ends : ∀ bd' : bBD, (∀ n m, bUp bd D.1 D.2 n = some m → bd' n = some m) → ∃ z a' b', bt bd' a' x z ∧ bt bd' b' y z := by
        intro bd' hm
        obtain ⟨z, k1, k2, p1, p2⟩ := hboth
        obtain ⟨⟨ka, q1⟩, -⟩ := ha
        obtain ⟨⟨kb, q2⟩, -⟩ := hb
        have q1 := bt_mono hm _ _ _ (bt_mono (bUp_old (b := D.2) hfr) ka x a q1)
        have q2 := bt_mono hm _ _ _ (bt_mono (bUp_old (b := D.2) hfr) kb y b q2)
        have p1 := bt_mono hm _ _ _ p1
        have p2 := bt_mono hm _ _ _ p2
        rcases emm with ⟨e1, e2⟩ | ⟨e1, e2⟩
        · rw [e1] at p1
          rw [e2] at p2
          exact ⟨z, ka + k1, kb + k2, bt_app _ _ _ _ _ q1 p1, bt_app _ _ _ _ _ q2 p2⟩
        · rw [e1] at p1
          rw [e2] at p2
          exact ⟨z, ka + k2, kb + k1, bt_app _ _ _ _ _ q1 p2, bt_app _ _ _ _ _ q2 p1⟩
      have hiff : ∀ n m, bUp bd D.1 D.2 n = some m ↔ bd n = some m ∨ (n, m) = D := by
        intro n m
        unfold bUp
        by_cases e1 : n = D.1
        · rw [if_pos e1, e1, hfr]
          constructor
          · intro h
            exact Or.inr (by rw [← Option.some.inj h])
          · rintro (h | h)
            · cases h
            · rw [← h]
        · rw [if_neg e1]
          exact ⟨Or.inl, fun h => h.elim id fun h => absurd (by rw [← h]) e1⟩
      rcases h with ⟨c1, c2, h⟩ | ⟨c1, rfl⟩
      · have f1 := hg.2 _ l1 c1
        have c3 : bhd N hi = some 1 := by
          obtain ⟨y', hy'⟩ := Option.ne_none_iff_exists'.mp c2
          by_cases q : (1 : Nat) = y'
          · rw [hy', ← q]
          · exact absurd ⟨1, y', c1, hy', Or.inl q⟩ hc
        have f2 := hg.2 _ l2 c3
        obtain ⟨w1, w2, w3, w4, w5⟩ := bun_ok hg k _ _ _ r' h hk1 f1 f2
        have hm : ∀ n m, bUp bd D.1 D.2 n = some m → r'.2.1 n = some m := fun n m h => (w2 n m).mpr (Or.inl h)
        refine ⟨w1, fun n m => ?_, fun e he => ?_, ?_, fun ht => ⟨ends _ hm, fun n m hn => ?_⟩⟩
        · rw [w2, hiff]
          simp only [List.mem_cons]
          constructor
          · rintro ((h | h) | h)
            · exact Or.inl h
            · exact Or.inr (Or.inl h)
            · exact Or.inr (Or.inr h)
          · rintro (h | h | h)
            · exact Or.inl (Or.inl h)
            · exact Or.inl (Or.inr h)
            · exact Or.inr h
        · rcases List.mem_cons.mp he with e1 | he
          · rw [e1]; exact hfr
          · have q := w3 e he
            cases hb' : bd e.1 with
            | none => rfl
            | some m => rw [bUp_old hfr _ _ hb'] at q; cases q
        · rw [List.map_cons]
          refine List.nodup_cons.mpr ⟨fun h => ?_, w4⟩
          obtain ⟨e1, he1, he2⟩ := List.mem_map.mp h
          have q := w3 e1 he1
          rw [he2] at q
          simp [bUp] at q
        · rcases List.mem_cons.mp hn with e1 | hn
          · obtain ⟨z, a', b', p1, p2⟩ := (w5 ht).1
            intro hh
            rcases bDir_or (N := N) (lo := lo) (hi := hi) with ⟨e2, e3, -⟩ | ⟨e2, -⟩
            · rw [e3] at c1; cases c1
            · rw [hD] at e2
              rw [e2] at e1
              cases e1
              exact ⟨z, b', a', p2, p1⟩
          · exact (w5 ht).2 n m hn
      · refine ⟨hk1, fun n m => ?_, fun e he => ?_, ?_, fun _ => ⟨ends _ (fun _ _ h => h), fun n m hn hh => ?_⟩⟩
        · rw [hiff]
          simp
        · rw [List.mem_singleton.mp he]; exact hfr
        · simp
        · rw [List.mem_singleton] at hn
          rcases bDir_or (N := N) (lo := lo) (hi := hi) with ⟨e2, e3, -⟩ | ⟨e2, e3⟩
          · rw [hD] at e2
            rw [e2] at hn
            cases hn
            rw [e3] at hh
            cases hh
          · rw [hD] at e2
            rw [e2] at hn
            cases hn
            exfalso
            have c2 : bhd N lo ≠ none := fun h1 => e3 ⟨h1, by rw [hh]; simp⟩
            obtain ⟨y', hy'⟩ := Option.ne_none_iff_exists'.mp c2
            by_cases q : y' = 1
            · exact c1 ⟨by rw [hy', q], by rw [hh]; simp⟩
            · exact hc ⟨y', 1, hy', hh, Or.inl q⟩
/-- solutions of the equation are those of what was bound -/
theorem bun_val {ν : Nat → smG} (hs : bSt N ν) (hgr : ∀ a b, a < g → b < g → ν a = ν b → a = b) : ∀ (k : Nat) (bd : bBD) (x y : Nat) (r : Bool × bBD × List (Nat × Nat)), bUn N g k bd x y r → bSo bd ν → (ν x = ν y → r.1 = true ∧ ∀ e, e ∈ r.2.2 → ν e.1 = ν e.2) ∧ (r.1 = true → (∀ e, e ∈ r.2.2 → ν e.1 = ν e.2) → ν x = ν y)
  | 0, _, _, _, _, h, _ => h.elim
  | k + 1, bd, x, y, r, ⟨a, b, ha, hb, h⟩, ho => by
    obtain ⟨⟨ka, ha1⟩, ha2⟩ := ha
    obtain ⟨⟨kb, hb1⟩, hb2⟩ := hb
    have ea := bt_val ho ka x a ha1
    have eb := bt_val ho kb y b hb1
    rcases h with ⟨e, rfl⟩ | ⟨e, ⟨c, c', h1, h2, h3⟩, rfl⟩ | ⟨e, hc, r', rfl, h⟩
    · exact ⟨fun _ => ⟨rfl, fun e he => absurd he List.not_mem_nil⟩, fun _ _ => by rw [ea, eb, e]⟩
    · refine ⟨fun hv => ?_, fun h => by cases h⟩
      exfalso
      have hab : ν (min a b) = ν (max a b) := by
        rcases (show (min a b = a ∧ max a b = b) ∨ (min a b = b ∧ max a b = a) by omega) with ⟨e1, e2⟩ | ⟨e1, e2⟩ <;> rw [e1, e2, ← ea, ← eb, hv]
      rcases h3 with h3 | h3
      · apply h3
        have q := congrArg smHd hab
        rw [hs _ c h1, hs _ c' h2, smHd_B, smHd_B] at q
        exact q
      · have := hgr _ _ (show min a b < g by omega) h3 hab
        omega
    · have emm : (min a b = a ∧ max a b = b) ∨ (min a b = b ∧ max a b = a) := by omega
      have hloe : (ν x = ν y) ↔ ν (min a b) = ν (max a b) := by
        rw [ea, eb]
        rcases emm with ⟨e1, e2⟩ | ⟨e1, e2⟩ <;> rw [e1, e2]
        exact eq_comm
      generalize hlod : min a b = lo at *
      generalize hhid : max a b = hi at *
      have hD : ν (bDir N lo hi).1 = ν (bDir N lo hi).2 ↔ ν lo = ν hi := by
        rcases bDir_or (N := N) (lo := lo) (hi := hi) with ⟨e2, -⟩ | ⟨e2, -⟩
        · rw [e2]
        · rw [e2]; exact eq_comm
      have hso : ν lo = ν hi → bSo (bUp bd (bDir N lo hi).1 (bDir N lo hi).2) ν := fun hv n m hn => by
        unfold bUp at hn
        split at hn
        · rename_i e1
          cases hn
          rw [e1]
          exact hD.mpr hv
        · exact ho n m hn
      rcases h with ⟨c1, c2, h⟩ | ⟨c1, rfl⟩
      · have c3 : bhd N hi = some 1 := by
          obtain ⟨y', hy'⟩ := Option.ne_none_iff_exists'.mp c2
          by_cases q : (1 : Nat) = y'
          · rw [hy', ← q]
          · exact absurd ⟨1, y', c1, hy', Or.inl q⟩ hc
        have kids : ν lo = ν hi → ν (bfs N lo) = ν (bfs N hi) := fun hv => by
          rw [hs lo 1 c1, hs hi 1 c3] at hv
          simp only [smB, if_pos] at hv
          have q1 := congrArg Prod.fst hv
          have q2 := congrArg Prod.snd hv
          simp only at q1 q2
          exact Prod.ext (by omega) q2
        constructor
        · intro hv
          have hv := hloe.mp hv
          obtain ⟨q1, q2⟩ := (bun_val hs hgr k _ _ _ r' h (hso hv)).1 (kids hv)
          refine ⟨q1, fun e he => ?_⟩
          rcases List.mem_cons.mp he with e1 | he
          · rw [e1]; exact hD.mpr hv
          · exact q2 e he
        · intro _ hv
          exact hloe.mpr (hD.mp (hv _ List.mem_cons_self))
      · constructor
        · intro hv
          refine ⟨rfl, fun e he => ?_⟩
          rw [List.mem_singleton.mp he]
          exact hD.mpr (hloe.mp hv)
        · intro _ hv
          exact hloe.mpr (hD.mp (hv _ (List.mem_singleton.mpr rfl)))
/-- what is bound ends where one of the two nodes ended -/
theorem bun_to {bd0 : bBD} {tx ty : Nat} : ∀ (k : Nat) (bd : bBD) (x y : Nat) (r : Bool × bBD × List (Nat × Nat)), bUn N g k bd x y r → (∀ n m, bd0 n = some m → bd n = some m) → (∀ n m, bd n = some m → bd0 n = some m ∨ ∀ j e, bend N bd0 j m = some e → e.2 = tx ∨ e.2 = ty) →
    (∀ j e, bend N bd0 j x = some e → e.2 = tx ∨ e.2 = ty) → (∀ j e, bend N bd0 j y = some e → e.2 = tx ∨ e.2 = ty) → ∀ e', e' ∈ r.2.2 → ∀ j e, bend N bd0 j e'.1 = some e → e.2 = tx ∨ e.2 = ty
  | 0, _, _, _, _, h, _, _, _, _ => h.elim
  | k + 1, bd, x, y, r, ⟨a, b, ha, hb, h⟩, hm, hn, hx, hy => by
    have go : ∀ (k x z : Nat), bt bd k x z → (∀ j e, bend N bd0 j x = some e → e.2 = tx ∨ e.2 = ty) → ∀ j e, bend N bd0 j z = some e → e.2 = tx ∨ e.2 = ty := by
      intro k
      induction k with
      | zero => intro x z e h; rw [← show x = z from e]; exact h
      | succ k ih =>
        rintro x z ⟨m, q1, q2⟩ h
        refine ih m z q2 ?_
        rcases hn x m q1 with q3 | q3
        · exact fun j e he => h (j + 1) e (by rw [bend_bound q3]; exact he)
        · exact q3
    obtain ⟨⟨ka, ha1⟩, ha2⟩ := ha
    obtain ⟨⟨kb, hb1⟩, hb2⟩ := hb
    have qa := go ka x a ha1 hx
    have qb := go kb y b hb1 hy
    rcases h with ⟨e, rfl⟩ | ⟨e, -, rfl⟩ | ⟨e, hc, r', rfl, h⟩
    · intro e' he; exact absurd he List.not_mem_nil
    · intro e' he; exact absurd he List.not_mem_nil
    · have emm : (min a b = a ∧ max a b = b) ∨ (min a b = b ∧ max a b = a) := by omega
      have qlo : ∀ j e, bend N bd0 j (min a b) = some e → e.2 = tx ∨ e.2 = ty := by rcases emm with ⟨e1, -⟩ | ⟨e1, -⟩ <;> rw [e1] <;> assumption
      have qhi : ∀ j e, bend N bd0 j (max a b) = some e → e.2 = tx ∨ e.2 = ty := by rcases emm with ⟨-, e1⟩ | ⟨-, e1⟩ <;> rw [e1] <;> assumption
      have hlo : bd (min a b) = none := by rcases emm with ⟨e1, -⟩ | ⟨e1, -⟩ <;> rw [e1] <;> assumption
      have hhi : bd (max a b) = none := by rcases emm with ⟨-, e1⟩ | ⟨-, e1⟩ <;> rw [e1] <;> assumption
      generalize min a b = lo at *
      generalize max a b = hi at *
      have unb : ∀ n, bd n = none → bd0 n = none := fun n h => by
        cases h0 : bd0 n with
        | none => rfl
        | some m => rw [hm n m h0] at h; cases h
      have qD : (∀ j e, bend N bd0 j (bDir N lo hi).1 = some e → e.2 = tx ∨ e.2 = ty) ∧ (∀ j e, bend N bd0 j (bDir N lo hi).2 = some e → e.2 = tx ∨ e.2 = ty) ∧ bd (bDir N lo hi).1 = none := by
        rcases bDir_or (N := N) (lo := lo) (hi := hi) with ⟨e2, -⟩ | ⟨e2, -⟩
        · rw [e2]; exact ⟨qlo, qhi, hlo⟩
        · rw [e2]; exact ⟨qhi, qlo, hhi⟩
      rcases h with ⟨c1, c2, h⟩ | ⟨c1, rfl⟩
      · have c3 : bhd N hi = some 1 := by
          obtain ⟨y', hy'⟩ := Option.ne_none_iff_exists'.mp c2
          by_cases q : (1 : Nat) = y'
          · rw [hy', ← q]
          · exact absurd ⟨1, y', c1, hy', Or.inl q⟩ hc
        have fq : ∀ n, bd n = none → bhd N n = some 1 → (∀ j e, bend N bd0 j n = some e → e.2 = tx ∨ e.2 = ty) → ∀ j e, bend N bd0 j (bfs N n) = some e → e.2 = tx ∨ e.2 = ty := fun n h1 h2 h3 j e he =>
          h3 (j + 1) (e.1 + 1, e.2) (by rw [bend_built (unb n h1) h2, he]; rfl)
        have ih := bun_to k _ _ _ r' h (fun n m h0 => bUp_old qD.2.2 n m (hm n m h0)) (fun n m h0 => by
          unfold bUp at h0
          split at h0
          · cases h0
            exact Or.inr qD.2.1
          · exact hn n m h0) (fq lo hlo c1 qlo) (fq hi hhi c3 qhi)
        intro e' he
        rcases List.mem_cons.mp he with e1 | he
        · rw [e1]; exact qD.1
        · exact ih e' he
      · intro e' he
        rw [List.mem_singleton.mp he]
        exact qD.1
/-- if the joined nodes have an end, all nodes have one -/
theorem bun_fin (hg : bNg N g) {k : Nat} {bd : bBD} {x y : Nat} {r : Bool × bBD × List (Nat × Nat)} (h : bUn N g k bd x y r) (hk : bWF N g bd) (hx : x < N.length) (hy : y < N.length) (ht : r.1 = true) (hf : bFin N r.2.1 x) : bWF N g r.2.1 := by
  obtain ⟨hk1, hk2, hk3⟩ := hk
  obtain ⟨w1, w2, w3, w4, w5⟩ := bun_ok hg k bd x y r h hk1 hx hy
  obtain ⟨⟨z, a, b, p1, p2⟩, w6⟩ := w5 ht
  have hm : ∀ n m, bd n = some m → r.2.1 n = some m := fun n m h => (w2 n m).mpr (Or.inl h)
  have hcg : ∀ n m, r.2.1 n = some m → bCg N r.2.1 n m := fun n m h => by
    rcases (w2 n m).mp h with q | q
    · intro hh
      obtain ⟨z, a, b, q1, q2⟩ := hk2 n m q hh
      exact ⟨z, a, b, bt_mono hm _ _ _ q1, bt_mono hm _ _ _ q2⟩
    · exact w6 n m q
  refine ⟨w1, hcg, ?_⟩
  -- a node has an end if its old end has one
  have old : ∀ (j n : Nat) (e : Nat × Nat), bend N bd j n = some e → (bFin N r.2.1 n ↔ bFin N r.2.1 e.2) := by
    intro j
    induction j with
    | zero => intro n e h; cases h
    | succ j ih =>
      intro n e h
      cases hb : bd n with
      | some m =>
        rw [bend_bound hb] at h
        rw [bFin_bound (hm n m hb)]
        exact ih m e h
      | none =>
        by_cases c : bhd N n = some 1
        · rw [bend_built hb c] at h
          obtain ⟨e', h1, h2⟩ := Option.map_eq_some_iff.mp h
          rw [bFin_b w1 hcg c, ← h2]
          exact ih _ e' h1
        · rw [bend_last hb c] at h
          cases h
          exact Iff.rfl
  have hfy : bFin N r.2.1 y := by
    rw [bFin_t b y z p2, ← bFin_t a x z p1]
    exact hf
  obtain ⟨jx, ex, hex⟩ := hk3 x
  obtain ⟨jy, ey, hey⟩ := hk3 y
  have fx := (old jx x ex hex).mp hf
  have fy := (old jy y ey hey).mp hfy
  have uq : ∀ n j e j' e', bend N bd j n = some e → bend N bd j' n = some e' → e = e' := fun n j e j' e' h1 h2 => by
    have q1 := bend_mono j (max j j') n e (Nat.le_max_left _ _) h1
    have q2 := bend_mono j' (max j j') n e' (Nat.le_max_right _ _) h2
    rw [q1] at q2
    exact Option.some.inj q2
  have hto := bun_to (bd0 := bd) (tx := ex.2) (ty := ey.2) k bd x y r h (fun _ _ h => h) (fun _ _ h => Or.inl h) (fun j e he => Or.inl (by rw [uq x j e jx ex he hex])) (fun j e he => Or.inr (by rw [uq y j e jy ey he hey]))
  intro n
  obtain ⟨j, e, he⟩ := hk3 n
  rw [old j n e he]
  obtain ⟨q1, q2⟩ := bend_end j n e he
  cases hh : bhd N e.2 with
  | some c => exact bFin_leaf w1 hh (fun e1 => q2 (by rw [hh, e1]))
  | none =>
    cases hb : r.2.1 e.2 with
    | none => exact ⟨1, (0, e.2), bend_last hb q2⟩
    | some m =>
      rcases (w2 _ _).mp hb with q3 | q3
      · rw [q1] at q3; cases q3
      · have q4 : bend N bd 1 e.2 = some (0, e.2) := bend_last q1 q2
        rcases hto _ q3 1 _ q4 with q5 | q5
        · have q5 : e.2 = ex.2 := q5
          rw [q5]; exact fx
        · have q5 : e.2 = ey.2 := q5
          rw [q5]; exact fy
end BN
