/-! Own rows: the MACHINE in the world: its records, and what stays when it works. By hand (printed by wip/p37/m_mc.py). -/
/-- a frame: its values' array and mode; caller, place, depth; clause; denied, the one outside, choices before; the values -/
abbrev fmR : Type := (Nat × Nat) × (Option Nat × Int × Int) × (Option Nat × Int × Option Nat × Int) × List Int
abbrev fmF (i : Int) (r : fmR) : List zV := [zI i, zR r.1.1, zR r.1.2, zP r.2.1.1, zI r.2.1.2.1, zI r.2.1.2.2, zP r.2.2.1.1, zI r.2.2.1.2.1, zP r.2.2.1.2.2.1, zI r.2.2.1.2.2.2]
def fmW (w : zW) (y : Nat) (i : Int) (r : fmR) : Prop := w.1 y = some (2, 0, fmF i r) ∧ w.1 r.1.1 = some (104, y, r.2.2.2.map Sum.inl) ∧ r.2.2.2.length = 8
abbrev mcK : Type := (Nat × Nat × Nat × Nat) × (Nat × Nat × Nat × Nat × Nat) × (Nat × Nat × Nat × Nat) × (Int × List (List Int)) × (Option Nat × List (List Int) × Int × Int)
/-- frames; choices; trail; used, current, place, denied; failing, over, full; terms; report -/
abbrev mcR : Type := ((Nat × List Nat) × (Nat → fmR)) × (Nat × List (List Int)) × (Nat × List (List Int)) × (Int × Option Nat × Int × Option Nat) × (Int × Int × Int) × (List (List Int) × List (List Int) × List Int) × (List (List Int) × List (List Int) × Int × Int × Int × Int)
def mcW (w : zW) (b1 b2 : Nat) : mcK → mcR → Prop
  | ((mc, fa, ca, ta), (t, tc, tn, th, tz), (rp, ri, ra, rn), (ty, C), (mo, I, bk, bc)), (((cap, Fs), fm), (cc, CH), (ct, TR), (us, cu, pl, de), (fl, ov, fu), (N, H, Sz), (A, Nt, sc, nc, dp, en)) =>
    w.1 mc = some (4, 0, [zR t, zR fa, zR ca, zR ta, zR rp, zI us, zP cu, zI pl, zP de, zI fl, zI ov, zI fu]) ∧ w.1 fa = some (166, mc, zLs cap Fs) ∧ (w.1 ca = some (138, mc, tTb 3 cc CH) ∧ tOk 3 CH) ∧ (w.1 ta = some (139, mc, tTb 2 ct TR) ∧ tOk 2 TR) ∧
    (∀ (i y : Nat), Fs[i]? = some y → fmW w y (i : Int) (fm y)) ∧ tmW w t tc tn th tz ty C N H Sz ∧ rpW w rp ri ra rn mo I A Nt sc nc dp en bk bc ∧
    ((Fs = [] → cap = 0) ∧ Fs.length ≤ cap ∧ cap ≤ 10 + 2 * Fs.length ∧ (Fs ≠ [] → 10 ≤ cap)) ∧ (90 ≤ cc ∧ 60 ≤ ct ∧ cc ≤ 4000 ∧ ct ≤ 1400100) ∧
    60 * w.2.1 ≤ b1 + 180 * Fs.length + cc + ct ∧ w.2.2 ≤ b2 + 1000 * Fs.length + 2 * cc + 2 * ct
abbrev TM : List Nat := [2, 4, 8, 104, 120, 131, 132, 136, 137, 138, 139, 166, 199]
/-- nothing but these addresses has changed -/
def zFa (L : List Nat) (w w' : zW) : Prop := ∀ a ob, w.1 a = some ob → a ∉ L → w'.1 a = some ob
theorem zFa_re {L : List Nat} {w : zW} : zFa L w w := fun _ _ h _ => h
theorem zFa_tr {L : List Nat} {w w1 w2 : zW} (h1 : zFa L w w1) (h2 : zFa L w1 w2) : zFa L w w2 := fun a ob h hn => h2 a ob (h1 a ob h hn) hn
theorem zFa_le {L L' : List Nat} {w w1 : zW} (h : zFa L w w1) (hs : ∀ x ∈ L, x ∈ L') : zFa L' w w1 := fun a ob ha hn => h a ob ha (fun hx => hn (hs _ hx))
theorem zFa_put {L : List Nat} {w w1 w2 : zW} {a : Nat} {x : zO} (h : zFa L w w1) (ha : a ∈ L) (e : w2 = zput w1 a x) : zFa L w w2 := fun b ob hb hn => by
  rw [e]
  exact zput_to (fun q => hn (q ▸ ha)) (h b ob hb hn)
theorem zFa_putN {L : List Nat} {w w1 w2 : zW} {a : Nat} {x : zO} (h : zFa L w w1) (ha : ∀ ob, w.1 a ≠ some ob) (e : w2 = zput w1 a x) : zFa L w w2 := fun b ob hb hn => by
  rw [e]
  exact zput_to (fun q => ha ob (q ▸ hb)) (h b ob hb hn)
theorem zFa_new {L : List Nat} {w w1 w2 : zW} {n : Nat} {x : zO} (h : zFa L w w1) (ok : zOk w1) (e : w2 = znew w1 x n) : zFa L w w2 := fun b ob hb hn => by
  rw [e]
  exact znew_to (ok b ob (h b ob hb hn)) (h b ob hb hn)
theorem tAw_to {w : zW} {a t ow c cap b : Nat} {rows : List (List Int)} {r : List Int} {ob : zO} (ok : zOk w) (hn : b ≠ a) (hb : w.1 b = some ob) : (tAw w a t ow c cap rows r).1 b = some ob := by
  unfold tAw
  split
  · exact zput_to hn hb
  · exact zput_to hn (znew_to (ok b ob hb) hb)
def tCap (c cap : Nat) (rows : List (List Int)) : Nat := if rows.length * c + c ≤ cap then cap else 2 * (rows.length * c + c)
theorem tAw_at {w : zW} {a t ow c cap : Nat} {rows : List (List Int)} {r : List Int} : (tAw w a t ow c cap rows r).1 a = some (t, ow, tTb c (tCap c cap rows) (rows ++ [r])) := by
  unfold tAw tCap
  split
  · exact zput_at
  · exact zput_at
theorem tAw_sz {w : zW} {a t ow c cap : Nat} {rows : List (List Int)} {r : List Int} (hc : 60 ≤ cap) : w.2.1 ≤ (tAw w a t ow c cap rows r).2.1 ∧ w.2.2 ≤ (tAw w a t ow c cap rows r).2.2 ∧ 60 * (tAw w a t ow c cap rows r).2.1 + cap ≤ 60 * w.2.1 + tCap c cap rows ∧ (tAw w a t ow c cap rows r).2.2 + 2 * cap ≤ w.2.2 + 2 * tCap c cap rows ∧ cap ≤ tCap c cap rows ∧ (tCap c cap rows = cap ∨ tCap c cap rows = 2 * (rows.length * c + c)) := by
  unfold tAw tCap
  split
  · exact ⟨Nat.le_refl _, Nat.le_refl _, Nat.le_refl _, Nat.le_refl _, Nat.le_refl _, Or.inl rfl⟩
  · refine ⟨Nat.le_succ _, Nat.le_add_right _ _, ?_, ?_, by omega, Or.inr rfl⟩
    · show 60 * (w.2.1 + 1) + cap ≤ _
      omega
    · show w.2.2 + _ + 2 * cap ≤ _
      omega
theorem zFa_taw {L : List Nat} {w w1 w2 : zW} {a t ow c cap : Nat} {rows : List (List Int)} {r : List Int} (h : zFa L w w1) (ha : a ∈ L) (ok : zOk w1) (e : w2 = tAw w1 a t ow c cap rows r) : zFa L w w2 := fun b ob hb hn => by
  rw [e]
  exact tAw_to ok (fun q => hn (q ▸ ha)) (h b ob hb hn)
theorem zFa_law {L : List Nat} {w w1 w2 : zW} {a t ow cap y : Nat} {ys : List Nat} (h : zFa L w w1) (ha : a ∈ L) (ok : zOk w1) (e : w2 = lAw w1 a t ow cap ys y) : zFa L w w2 := fun b ob hb hn => by
  rw [e]
  exact lAw_to ok (fun q => hn (q ▸ ha)) (h b ob hb hn)
def fmUp (fm : Nat → fmR) (y : Nat) (r : fmR) : Nat → fmR := fun z => if z = y then r else fm z
theorem fmUp_at {fm : Nat → fmR} {y : Nat} {r : fmR} : fmUp fm y r y = r := if_pos rfl
theorem fmUp_ne {fm : Nat → fmR} {y z : Nat} {r : fmR} (h : z ≠ y) : fmUp fm y r z = fm z := if_neg h
theorem fmUp_id {fm : Nat → fmR} {y : Nat} : fmUp fm y (fm y) = fm := by
  funext z
  unfold fmUp
  split
  · rename_i h; rw [h]
  · rfl
section MCW
variable {w w' : zW} {b1 b2 : Nat} {mc fa ca ta t tc tn th tz rp ri ra rn : Nat} {ty bk bc : Int} {C I : List (List Int)} {mo : Option Nat} {cap cc ct : Nat} {Fs : List Nat} {fm : Nat → fmR} {CH TR N H A Nt : List (List Int)} {Sz : List Int} {us pl fl ov fu sc nc dp en : Int} {cu de : Option Nat}
theorem fm_inj {i j y : Nat} (hF : ∀ (i y : Nat), Fs[i]? = some y → fmW w y (i : Int) (fm y)) (h1 : Fs[i]? = some y) (h2 : Fs[j]? = some y) : i = j := by
  have a := (hF i y h1).1
  have b := (hF j y h2).1
  rw [a] at b
  simp only [Option.some.injEq, Prod.mk.injEq, List.cons.injEq] at b
  have := b.2.2.1
  injection this with this
  omega
/-- frames that nobody wrote to -/
theorem fm_keep {L : List Nat} (hF : ∀ (i y : Nat), Fs[i]? = some y → fmW w y (i : Int) (fm y)) (f : zFa L w w') (hL : ∀ a, a ∈ L → ∀ ob, w.1 a = some ob → ob.1 ≠ 2 ∧ ob.1 ≠ 104) : ∀ (i y : Nat), Fs[i]? = some y → fmW w' y (i : Int) (fm y) := fun i y h => by
  obtain ⟨h1, h2, h3⟩ := hF i y h
  exact ⟨f _ _ h1 (fun q => (hL _ q _ h1).1 rfl), f _ _ h2 (fun q => (hL _ q _ h2).2 rfl), h3⟩
/-- and one that somebody wrote to -/
theorem fm_keep1 {L : List Nat} {k y0 : Nat} {r : fmR} (hF : ∀ (i y : Nat), Fs[i]? = some y → fmW w y (i : Int) (fm y)) (hk : Fs[k]? = some y0) (f : zFa L w w') (hL : ∀ a, a ∈ L → ∀ ob, w.1 a = some ob → (ob.1 = 2 → a = y0) ∧ (ob.1 = 104 → ob.2.1 = y0)) (hn : fmW w' y0 (k : Int) r) : ∀ (i y : Nat), Fs[i]? = some y → fmW w' y (i : Int) (fmUp fm y0 r y) := fun i y h => by
  by_cases e : y = y0
  · rw [e] at h ⊢
    rw [fmUp_at, fm_inj hF h hk]
    exact hn
  · rw [fmUp_ne e]
    obtain ⟨h1, h2, h3⟩ := hF i y h
    exact ⟨f _ _ h1 (fun q => e ((hL _ q _ h1).1 rfl)), f _ _ h2 (fun q => e ((hL _ q _ h2).2 rfl)), h3⟩
theorem zN2 {a x y : Nat} (h1 : a ≠ x) (h2 : a ≠ y) : a ∉ [x, y] := fun h => by
  rcases List.mem_cons.mp h with e | e
  · exact h1 e
  · exact h2 (List.mem_singleton.mp e)
theorem zFr_fa {T L : List Nat} (f : zFa L w w') (hL : ∀ a, a ∈ L → ∀ ob, w.1 a = some ob → ob.1 ∈ T) : zFr T w w' := fun a ob h hn => f a ob h (fun q => hn (hL a q ob h))
end MCW
theorem zLc {Q : Nat → zO → Prop} {w : zW} {a : Nat} {o : zO} {L : List Nat} (h : w.1 a = some o) (hq : Q a o) (k : ∀ x, x ∈ L → ∀ ob, w.1 x = some ob → Q x ob) : ∀ x, x ∈ a :: L → ∀ ob, w.1 x = some ob → Q x ob := fun x hx ob hob => by
  rcases List.mem_cons.mp hx with e | e
  · rw [e, h] at hob
    cases hob
    rw [e]
    exact hq
  · exact k x e ob hob
theorem zLn {Q : Nat → zO → Prop} {w : zW} : ∀ x, x ∈ ([] : List Nat) → ∀ ob, w.1 x = some ob → Q x ob := fun _ h => absurd h List.not_mem_nil
/-- what a machine with the report rp leaves as it is -/
abbrev mcP (rp : Nat) (a : Nat) (ob : zO) : Prop := ob.1 ∉ TM ∨ (ob.1 = 8 ∧ a ≠ rp) ∨ ((ob.1 = 136 ∨ ob.1 = 137) ∧ ob.2.1 ≠ rp)
def mcF (rp : Nat) (w w' : zW) : Prop := ∀ a ob, w.1 a = some ob → mcP rp a ob → w'.1 a = some ob
theorem mcF_re {rp : Nat} {w : zW} : mcF rp w w := fun _ _ h _ => h
theorem mcF_tr {rp : Nat} {w w1 w2 : zW} (h1 : mcF rp w w1) (h2 : mcF rp w1 w2) : mcF rp w w2 := fun a ob h hn => h2 a ob (h1 a ob h hn) hn
theorem mcF_fr {rp : Nat} {w w1 : zW} (h : mcF rp w w1) : zFr TM w w1 := fun a ob h1 hn => h a ob h1 (Or.inl hn)
theorem mcF_fa {rp : Nat} {L : List Nat} {w w' : zW} (f : zFa L w w') (hL : ∀ a, a ∈ L → ∀ ob, w.1 a = some ob → ¬ mcP rp a ob) : mcF rp w w' := fun a ob h hn => f a ob h (fun q => hL a q ob h hn)
theorem pgW_zFr {T : List Nat} {w w' : zW} {pg : Nat} {R : pgR} (hP : pgW w pg R) (f : zFr T w w') (hT : ∀ x, x ∈ [7, 160, 161, 162, 6, 134, 163, 164, 5, 1, 133, 165, 101, 102, 125, 126, 103, 3, 100] → x ∉ T) : pgW w' pg R := by
  obtain ⟨hpg, hps, hms, hcs, hPr, hMo, hCl⟩ := hP
  have fr : ∀ {a x ow : Nat} {c : List zV}, w.1 a = some (x, ow, c) → x ∈ [7, 160, 161, 162, 6, 134, 163, 164, 5, 1, 133, 165, 101, 102, 125, 126, 103, 3, 100] → w'.1 a = some (x, ow, c) := fun ha hn => f _ _ ha (hT _ hn)
  refine ⟨fr hpg (by decide), fr hps (by decide), fr hms (by decide), fr hcs (by decide), ?_, ?_, ?_⟩
  · intro z hz
    obtain ⟨⟨a1, ⟨a2, a3⟩, a4, a5⟩, b⟩ := hPr z hz
    exact ⟨⟨fr a1 (by decide), ⟨fr a2 (by decide), a3⟩, fr a4 (by decide), fr a5 (by decide)⟩, b⟩
  · intro z hz
    exact fr (hMo z hz) (by decide)
  · intro z hz
    obtain ⟨a, b⟩ := hCl z hz
    obtain ⟨a0, ⟨a1, a2⟩, a3, ⟨a4, a5⟩, ⟨a6, a7⟩, ⟨a8, a9⟩, ⟨a10, a11⟩, ⟨a12, a13⟩⟩ := a
    refine ⟨⟨fr a0 (by decide), ⟨fr a1 (by decide), a2⟩, fr a3 (by decide), ⟨fr a4 (by decide), a5⟩, ⟨fr a6 (by decide), a7⟩, ⟨fr a8 (by decide), a9⟩, ⟨fr a10 (by decide), a11⟩, ⟨fr a12 (by decide), a13⟩⟩, fun g hg => ?_⟩
    obtain ⟨g1, g2, g3⟩ := b g hg
    exact ⟨fr g1 (by decide), fr g2 (by decide), g3⟩
theorem pgW_TM {w w' : zW} {pg : Nat} {R : pgR} (hP : pgW w pg R) (f : zFr TM w w') : pgW w' pg R := pgW_zFr hP f (by decide)

