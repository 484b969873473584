/-! Own rows: what the undoing of a trail leaves. By hand; nothing of the bytecode. -/
theorem tr_at {T : mmT} {q : Nat} {e : Nat × Nat} (h : T[T.length - 1 - q]? = some e) (hq : q < T.length) : (T.reverse.map (fun e => [(e.1 : Int), (e.2 : Int)]))[q]? = some [(e.1 : Int), (e.2 : Int)] := by
  rw [List.getElem?_map, List.getElem?_reverse hq, h]
  rfl
theorem tr_cut {T : mmT} {t : Nat} (ht : t ≤ T.length) : tcut (T.reverse.map (fun e => [(e.1 : Int), (e.2 : Int)])) (t : Int) = (T.drop (T.length - t)).reverse.map (fun e => [(e.1 : Int), (e.2 : Int)]) := by
  unfold tcut
  rw [if_pos (by omega), Int.toNat_natCast, ← List.map_take]
  congr 1
  rw [List.reverse_drop, show T.length - (T.length - t) = t by omega]
theorem un_row {T : mmT} {Fs : List Nat} {fr : List mmF} (hfl : fr.length ≤ Fs.length) (hTL : ∀ e, e ∈ T → e.1 < fr.length ∧ e.2 < 8) : ∀ e : Nat, e < (T.reverse.map (fun e => [(e.1 : Int), (e.2 : Int)])).length → ∃ k y : Nat, tg (T.reverse.map (fun e => [(e.1 : Int), (e.2 : Int)])) (e : Int) 0 = (k : Int) ∧ Fs[k]? = some y := fun q hq => by
  have hq : q < T.length := by simpa using hq
  obtain ⟨e, he⟩ : ∃ e, T[T.length - 1 - q]? = some e := ⟨_, List.getElem?_eq_getElem (by omega)⟩
  have h1 := tr_at he hq
  have h2 := tg_at (j := 0) h1
  have h3 := hTL e (List.mem_of_getElem? he)
  exact ⟨e.1, _, h2, List.getElem?_eq_getElem (by omega)⟩
theorem un_fs {R : pgR} {Fs : List Nat} {tm : List smG} {fr : List mmF} {cls : Nat → Option Nat} {T : mmT} {t : Nat} (hI : fsJ Fs) (hfl : fr.length ≤ Fs.length) (hTL : ∀ e, e ∈ T → e.1 < fr.length ∧ e.2 < 8) (ht : t ≤ T.length) : ∀ (n : Nat) (fm : Nat → fmR) (V : mmV), t + n ≤ T.length → fsR R Fs tm fm fr cls V → fsR R Fs tm (unN Fs (T.reverse.map (fun e => [(e.1 : Int), (e.2 : Int)])) t n fm) fr cls (fun j x => if (j, x) ∈ (T.drop (T.length - t - n)).take n then none else V j x)
  | 0, fm, V, _, h => by
    have e : (fun j x => if (j, x) ∈ (T.drop (T.length - t - 0)).take 0 then none else V j x) = V := by
      funext j x
      rw [List.take_zero, if_neg List.not_mem_nil]
    rw [e]
    exact h
  | n + 1, fm, V, hn, h => by
    obtain ⟨e, he⟩ : ∃ e, T[T.length - 1 - (t + n)]? = some e := ⟨_, List.getElem?_eq_getElem (by omega)⟩
    have h1 := tr_at he (by omega)
    have h2 := tg_at (j := 0) h1
    have h3 := tg_at (j := 1) h1
    have h2 : tg (T.reverse.map (fun e => [(e.1 : Int), (e.2 : Int)])) ((t + n : Nat) : Int) 0 = (e.1 : Int) := h2
    have h3 : tg (T.reverse.map (fun e => [(e.1 : Int), (e.2 : Int)])) ((t + n : Nat) : Int) 1 = (e.2 : Int) := h3
    obtain ⟨h4, h5⟩ := hTL e (List.mem_of_getElem? he)
    obtain ⟨y, hy⟩ : ∃ y, Fs[e.1]? = some y := ⟨_, List.getElem?_eq_getElem (by omega)⟩
    have hla : lAt Fs (tg (T.reverse.map (fun e => [(e.1 : Int), (e.2 : Int)])) ((t + n : Nat) : Int) 0) = some y := by
      rw [h2]
      exact lAt_in (by omega) (by rw [Int.toNat_natCast]; exact hy)
    have hs := fsR_val (v := -1) (o := none) h hI hy rfl h5 rfl
    have hu := unS_y (fm := fm) hla rfl
    rw [h3] at hu
    have ih := un_fs hI hfl hTL ht n _ _ (by omega) hs
    rw [show unN Fs (T.reverse.map (fun e => [(e.1 : Int), (e.2 : Int)])) t (n + 1) fm = unN Fs (T.reverse.map (fun e => [(e.1 : Int), (e.2 : Int)])) t n (unS Fs (T.reverse.map (fun e => [(e.1 : Int), (e.2 : Int)])) (t + n) fm) from rfl, hu]
    have e9 : (fun j x => if (j, x) ∈ (T.drop (T.length - t - (n + 1))).take (n + 1) then none else V j x) = (fun j x => if (j, x) ∈ (T.drop (T.length - t - n)).take n then none else (fun j z => if j = e.1 ∧ z = e.2 then none else V j z) j x) := by
      have hd : T.drop (T.length - t - (n + 1)) = e :: T.drop (T.length - t - n) := by
        rw [drop_cons (q := T.length - t - (n + 1)) (y := e) (by rw [show T.length - t - (n + 1) = T.length - 1 - (t + n) by omega]; exact he)]
        congr 2
        omega
      funext j x
      rw [hd, List.take_succ_cons]
      by_cases c : (j, x) ∈ (T.drop (T.length - t - n)).take n
      · rw [if_pos (List.mem_cons_of_mem _ c), if_pos c]
      · rw [if_neg c]
        by_cases c2 : j = e.1 ∧ x = e.2
        · rw [if_pos (by rw [c2.1, c2.2]; exact List.mem_cons_self)]
          show none = if j = e.1 ∧ x = e.2 then none else V j x
          rw [if_pos c2]
        · rw [if_neg (fun q => by
            rcases List.mem_cons.mp q with q | q
            · exact c2 ⟨congrArg Prod.fst q, congrArg Prod.snd q⟩
            · exact c q)]
          show V j x = if j = e.1 ∧ x = e.2 then none else V j x
          rw [if_neg c2]
    rw [e9]
    exact ih
theorem un_all {R : pgR} {Fs : List Nat} {tm : List smG} {fr : List mmF} {cls : Nat → Option Nat} {V : mmV} {T : mmT} {t : Nat} {fm : Nat → fmR} (hI : fsJ Fs) (hfl : fr.length ≤ Fs.length) (hTL : ∀ e, e ∈ T → e.1 < fr.length ∧ e.2 < 8) (ht : t ≤ T.length) (h : fsR R Fs tm fm fr cls V) : fsR R Fs tm (unN Fs (T.reverse.map (fun e => [(e.1 : Int), (e.2 : Int)])) t ((T.reverse.map (fun e => [(e.1 : Int), (e.2 : Int)])).length - t) fm) fr cls (mmUn V T t) := by
  have hl : (T.reverse.map (fun e => [(e.1 : Int), (e.2 : Int)])).length = T.length := by simp
  have := un_fs hI hfl hTL ht (T.length - t) fm V (by omega) h
  rw [hl]
  have e : (fun j x => if (j, x) ∈ (T.drop (T.length - t - (T.length - t))).take (T.length - t) then none else V j x) = mmUn V T t := by
    rw [show T.length - t - (T.length - t) = 0 by omega, List.drop_zero]
    rfl
  rw [e] at this
  exact this
theorem tg_last {rows : List (List Int)} {r : List Int} {n j : Nat} (hn : rows.length = n) : tg (rows ++ [r]) (n : Int) (j : Int) = (r[j]?).getD (-1) := tg_at (by rw [← hn]; simp)
theorem tcut_last {rows : List (List Int)} {r : List Int} {n : Nat} (hn : rows.length = n) : tcut (rows ++ [r]) (n : Int) = rows := by
  unfold tcut
  rw [if_pos (by omega), Int.toNat_natCast, ← hn, List.take_left]
