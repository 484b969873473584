/-! Own rows: a clause's goals put in ORDER for a mode. Walked by program (wip/p37/m_put.py). -/
def clSet (r : clR) (LE NS KN : List Int) (OD CH : List (Option Nat)) : clR := (r.1, r.2.1, r.2.2.1, r.2.2.2.1, (LE, NS, KN), (OD, CH))
def clPut (w : zW) (c : Nat) (r : clR) : zW := zput (zput (zput (zput (zput w r.2.1.2.2.1 (101, c, r.2.2.2.2.1.1.map Sum.inl)) r.2.1.2.2.2.1 (102, c, r.2.2.2.2.1.2.1.map Sum.inl)) r.2.1.2.2.2.2.1 (125, c, lob r.2.2.2.2.2.1)) r.2.1.2.2.2.2.2.1 (126, c, lob r.2.2.2.2.2.2)) r.2.1.2.2.2.2.2.2 (103, c, r.2.2.2.2.1.2.2.map Sum.inl)
/-- the same clause, with other orders -/
def clSm (r r' : clR) : Prop := r'.1 = r.1 ∧ r'.2.1 = r.2.1 ∧ r'.2.2.1 = r.2.2.1 ∧ r'.2.2.2.1 = r.2.2.2.1 ∧ r'.2.2.2.2.1.1.length = 2 ∧ r'.2.2.2.2.1.2.1.length = 10 ∧ r'.2.2.2.2.1.2.2.length = 10 ∧ r'.2.2.2.2.2.1.length = 10 ∧ r'.2.2.2.2.2.2.length = 10
theorem clPut_b {w : zW} {c b : Nat} {r : clR} : (clPut w c r).1 b = if b = r.2.1.2.2.2.2.2.2 then some (103, c, r.2.2.2.2.1.2.2.map Sum.inl) else if b = r.2.1.2.2.2.2.2.1 then some (126, c, lob r.2.2.2.2.2.2) else if b = r.2.1.2.2.2.2.1 then some (125, c, lob r.2.2.2.2.2.1) else if b = r.2.1.2.2.2.1 then some (102, c, r.2.2.2.2.1.2.1.map Sum.inl) else if b = r.2.1.2.2.1 then some (101, c, r.2.2.2.2.1.1.map Sum.inl) else w.1 b := by
  unfold clPut
  simp only [zput_b]
theorem clPut_put {w : zW} {c : Nat} {r1 r2 : clR} (h : r2.2.1 = r1.2.1) : clPut (clPut w c r1) c r2 = clPut w c r2 := by
  refine z_ext rfl fun b => ?_
  rw [clPut_b, clPut_b, clPut_b, h]
  split
  · rfl
  split
  · rfl
  split
  · rfl
  split
  · rfl
  split
  · rfl
  rfl
theorem clPut_id {w : zW} {c : Nat} {r : clR} (h : clV w c r) : clPut w c r = w := by
  obtain ⟨-, -, -, ⟨hle, -⟩, ⟨hns, -⟩, ⟨hod, -⟩, ⟨hch, -⟩, ⟨hkn, -⟩⟩ := h
  unfold clPut
  rw [zput_id hle, zput_id hns, zput_id hod, zput_id hch, zput_id hkn]
theorem clPut_fr {w : zW} {c a : Nat} {r r' : clR} {ob : zO} (h : clV w c r) (hs : r'.2.1 = r.2.1) (ha : w.1 a = some ob) (hn : ¬ ((ob.1 = 101 ∨ ob.1 = 102 ∨ ob.1 = 103 ∨ ob.1 = 125 ∨ ob.1 = 126) ∧ ob.2.1 = c)) : (clPut w c r').1 a = some ob := by
  obtain ⟨-, -, -, ⟨hle, -⟩, ⟨hns, -⟩, ⟨hod, -⟩, ⟨hch, -⟩, ⟨hkn, -⟩⟩ := h
  rw [clPut_b, hs]
  have e1 : a ≠ r.2.1.2.2.2.2.2.2 := fun e => by rw [e, hkn] at ha; cases ha; exact hn ⟨by simp, rfl⟩
  have e2 : a ≠ r.2.1.2.2.2.2.2.1 := fun e => by rw [e, hch] at ha; cases ha; exact hn ⟨by simp, rfl⟩
  have e3 : a ≠ r.2.1.2.2.2.2.1 := fun e => by rw [e, hod] at ha; cases ha; exact hn ⟨by simp, rfl⟩
  have e4 : a ≠ r.2.1.2.2.2.1 := fun e => by rw [e, hns] at ha; cases ha; exact hn ⟨by simp, rfl⟩
  have e5 : a ≠ r.2.1.2.2.1 := fun e => by rw [e, hle] at ha; cases ha; exact hn ⟨by simp, rfl⟩
  rw [if_neg e1, if_neg e2, if_neg e3, if_neg e4, if_neg e5]
  exact ha
theorem clPut_get {w : zW} {c : Nat} {r r' : clR} (h : clV w c r) (hs : clSm r r') : clV (clPut w c r') c r' := by
  obtain ⟨s1, s2, s3, s4, l1, l2, l3, l4, l5⟩ := hs
  have h9 := h
  obtain ⟨h0, ⟨hty, okT⟩, hgs, ⟨hle, -⟩, ⟨hns, -⟩, ⟨hod, -⟩, ⟨hch, -⟩, ⟨hkn, -⟩⟩ := h
  have d1 : r.2.1.2.2.2.2.2.1 ≠ r.2.1.2.2.2.2.2.2 := zne_tg hkn hch (by simp)
  have d2 : r.2.1.2.2.2.2.1 ≠ r.2.1.2.2.2.2.2.2 := zne_tg hkn hod (by simp)
  have d3 : r.2.1.2.2.2.1 ≠ r.2.1.2.2.2.2.2.2 := zne_tg hkn hns (by simp)
  have d4 : r.2.1.2.2.1 ≠ r.2.1.2.2.2.2.2.2 := zne_tg hkn hle (by simp)
  have d5 : r.2.1.2.2.2.2.1 ≠ r.2.1.2.2.2.2.2.1 := zne_tg hch hod (by simp)
  have d6 : r.2.1.2.2.2.1 ≠ r.2.1.2.2.2.2.2.1 := zne_tg hch hns (by simp)
  have d7 : r.2.1.2.2.1 ≠ r.2.1.2.2.2.2.2.1 := zne_tg hch hle (by simp)
  have d8 : r.2.1.2.2.2.1 ≠ r.2.1.2.2.2.2.1 := zne_tg hod hns (by simp)
  have d9 : r.2.1.2.2.1 ≠ r.2.1.2.2.2.2.1 := zne_tg hod hle (by simp)
  have d10 : r.2.1.2.2.1 ≠ r.2.1.2.2.2.1 := zne_tg hns hle (by simp)
  refine ⟨?_, ⟨?_, ?_⟩, ?_, ⟨?_, l1⟩, ⟨?_, l2⟩, ⟨?_, l4⟩, ⟨?_, l5⟩, ⟨?_, l3⟩⟩
  · rw [s1, s2]; exact clPut_fr h9 s2 h0 (by simp)
  · rw [s2, s3]; exact clPut_fr h9 s2 hty (by simp)
  · rw [s3]; exact okT
  · rw [s2, s4]; exact clPut_fr h9 s2 hgs (by simp)
  · rw [clPut_b, s2, if_neg d4, if_neg d7, if_neg d9, if_neg d10, if_pos rfl]
  · rw [clPut_b, s2, if_neg d3, if_neg d6, if_neg d8, if_pos rfl]
  · rw [clPut_b, s2, if_neg d2, if_neg d5, if_pos rfl]
  · rw [clPut_b, s2, if_neg d1, if_pos rfl]
  · rw [clPut_b, s2, if_pos rfl]
def pgSetC (R : pgR) (c : Nat) (r : clR) : pgR := (R.1, R.2.1, R.2.2.1, R.2.2.2.1, R.2.2.2.2.1, (fun y => if y = c then r else R.2.2.2.2.2.1 y), R.2.2.2.2.2.2)
theorem pgW_clPut {w : zW} {pg c : Nat} {R : pgR} {r' : clR} (hP : pgW w pg R) (hc : c ∈ R.2.2.1.2.2) (hs : clSm (R.2.2.2.2.2.1 c) r') : pgW (clPut w c r') pg (pgSetC R c r') := by
  obtain ⟨hpg, hps, hms, hcs, hPr, hMo, hCl⟩ := hP
  have hC := (hCl c hc).1
  have fr : ∀ a ob, w.1 a = some ob → ¬ ((ob.1 = 101 ∨ ob.1 = 102 ∨ ob.1 = 103 ∨ ob.1 = 125 ∨ ob.1 = 126) ∧ ob.2.1 = c) → (clPut w c r').1 a = some ob := fun a ob ha hn => clPut_fr hC hs.2.1 ha hn
  refine ⟨fr _ _ hpg (by simp), fr _ _ hps (by simp), fr _ _ hms (by simp), fr _ _ hcs (by simp), ?_, ?_, ?_⟩
  · intro y hy
    obtain ⟨⟨a1, ⟨a2, a3⟩, a4, a5⟩, b⟩ := hPr y hy
    exact ⟨⟨fr _ _ a1 (by simp), ⟨fr _ _ a2 (by simp), a3⟩, fr _ _ a4 (by simp), fr _ _ a5 (by simp)⟩, b⟩
  · intro y hy
    exact fr _ _ (hMo y hy) (by simp)
  · intro y hy
    obtain ⟨a, b⟩ := hCl y hy
    have hg : ∀ g ∈ (R.2.2.2.2.2.1 y).2.2.2.1.2, goW (clPut w c r') g (R.2.2.2.2.2.2 g) := fun g hg => by
      obtain ⟨g1, g2, g3⟩ := b g hg
      exact ⟨fr _ _ g1 (by simp), fr _ _ g2 (by simp), g3⟩
    by_cases e : y = c
    · subst e
      have e2 : (pgSetC R y r').2.2.2.2.2.1 y = r' := if_pos rfl
      rw [e2]
      exact ⟨clPut_get hC hs, fun g hg2 => hg g (by rw [← hs.2.2.2.1]; exact hg2)⟩
    · have e2 : (pgSetC R c r').2.2.2.2.2.1 y = R.2.2.2.2.2.1 y := if_neg e
      rw [e2]
      obtain ⟨a0, ⟨a1, a2⟩, a3, ⟨a4, a5⟩, ⟨a6, a7⟩, ⟨a8, a9⟩, ⟨a10, a11⟩, ⟨a12, a13⟩⟩ := a
      exact ⟨⟨fr _ _ a0 (by simp), ⟨fr _ _ a1 (by simp), a2⟩, fr _ _ a3 (by simp), ⟨fr _ _ a4 (by simp [e]), a5⟩, ⟨fr _ _ a6 (by simp [e]), a7⟩, ⟨fr _ _ a8 (by simp [e]), a9⟩, ⟨fr _ _ a10 (by simp [e]), a11⟩, ⟨fr _ _ a12 (by simp [e]), a13⟩⟩, hg⟩
theorem ngN_set {R : pgR} {c : Nat} {r : clR} {Gs : List Nat} {tk kn : Int} : ∀ {n q : Nat}, ngN (pgSetC R c r) Gs tk kn n q = ngN R Gs tk kn n q
  | 0, _ => rfl
  | n + 1, q => by
    rw [ngN_s, ngN_s, ngN_set]
    rfl
theorem chM_mem {w : zW} {pg : Nat} {R : pgR} {g : goR} {kn : Int} {x : Nat} (hP : pgW w pg R) (h : chM R g kn = some x) : x ∈ R.2.2.1.2.1 := by
  obtain ⟨-, -, -, -, hPr, -, -⟩ := hP
  unfold chM at h
  split at h
  · cases hl : lAt R.2.2.1.1 g.2.1 with
    | none => rw [hl] at h; cases h
    | some y =>
      rw [hl] at h
      exact (hPr y (lAt_mem hl)).2.1 x (List.mem_of_find?_eq_some h)
  · cases h
def takeR (r : clR) (m k : Nat) (go kw : Int) (g : Nat) (mo : Option Nat) : clR := clSet r (r.2.2.2.2.1.1.set m ((k + 1 : Nat) : Int)) (r.2.2.2.2.1.2.1.set (m * 5 + k) go) (r.2.2.2.2.1.2.2.set (m * 5 + k) kw) (r.2.2.2.2.2.1.set (m * 5 + k) (some g)) (r.2.2.2.2.2.2.set (m * 5 + k) mo)
theorem clSm_take {r0 r : clR} {m k : Nat} {go kw : Int} {g : Nat} {mo : Option Nat} (h : clSm r0 r) : clSm r0 (takeR r m k go kw g mo) := by
  obtain ⟨a1, a2, a3, a4, a5, a6, a7, a8, a9⟩ := h
  exact ⟨a1, a2, a3, a4, by unfold takeR clSet; simpa using a5, by unfold takeR clSet; simpa using a6, by unfold takeR clSet; simpa using a7, by unfold takeR clSet; simpa using a8, by unfold takeR clSet; simpa using a9⟩
/-- the order: whether it is whole, what is known in the end, the clause -/
def ordS (R : pgR) (m : Nat) (Gs : List Nat) : Nat → Nat → Int → Int → clR → Bool × Int × clR
  | 0, _, _, kn, r => (true, kn, r)
  | n + 1, q, tk, kn, r =>
    match lAt Gs (ngN R Gs tk kn Gs.length 0) with
    | none => (false, kn, r)
    | some g => ordS R m Gs n (q + 1) (zor tk (zshl 1 (ngN R Gs tk kn Gs.length 0))) (zor kn (vSt (R.2.2.2.2.2.2 g).2.2.2.2 ((R.2.2.2.2.2.2 g).2.2.1 - 0).toNat 0 0)) (takeR r m q (ngN R Gs tk kn Gs.length 0) kn g (chM R (R.2.2.2.2.2.2 g) kn))
theorem ordS_n {R : pgR} {m : Nat} {Gs : List Nat} {n q : Nat} {tk kn : Int} {r : clR} (h : lAt Gs (ngN R Gs tk kn Gs.length 0) = none) : ordS R m Gs (n + 1) q tk kn r = (false, kn, r) := by
  show (match lAt Gs (ngN R Gs tk kn Gs.length 0) with | none => _ | some g => _) = _
  rw [h]
theorem ordS_y {R : pgR} {m : Nat} {Gs : List Nat} {n q g : Nat} {tk kn : Int} {r : clR} (h : lAt Gs (ngN R Gs tk kn Gs.length 0) = some g) : ordS R m Gs (n + 1) q tk kn r = ordS R m Gs n (q + 1) (zor tk (zshl 1 (ngN R Gs tk kn Gs.length 0))) (zor kn (vSt (R.2.2.2.2.2.2 g).2.2.2.2 ((R.2.2.2.2.2.2 g).2.2.1 - 0).toNat 0 0)) (takeR r m q (ngN R Gs tk kn Gs.length 0) kn g (chM R (R.2.2.2.2.2.2 g) kn)) := by
  show (match lAt Gs (ngN R Gs tk kn Gs.length 0) with | none => _ | some g => _) = _
  rw [h]
