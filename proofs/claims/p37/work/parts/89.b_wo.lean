/-! Own rows: breadth's chain without one of its cells. Walked by program (wip/p37/m_bwo.py). -/
theorem ts_neg {rows : List (List Int)} {i j v : Int} (h : i < 0) : ts rows i j v = rows := by
  unfold ts
  rw [if_neg (by omega)]
theorem bWo_snoc {Ce : List (Nat × Nat × Option Nat)} {r : Option Nat} {A1 : List Nat} {a m n : Nat} {ea : Nat × Nat × Option Nat} (hn : n = Ce.length) (hm : m + 1 = n + A1.length) (h1 : A1 ≠ []) (ha : Ce[a]? = some ea) :
    ts ((Ce ++ bWo Ce r A1 n).map rwC ++ [trow 3 (ea.1 : Int) (ea.2.1 : Int) (oI r)]) (m : Int) 2 ((n + A1.length : Nat) : Int) = (Ce ++ bWo Ce r (A1 ++ [a]) n).map rwC := by
  have e3 : ts ((Ce ++ bWo Ce r A1 n).map rwC ++ [trow 3 (ea.1 : Int) (ea.2.1 : Int) (oI r)]) (m : Int) 2 ((n + A1.length : Nat) : Int) = _ := ts_in (j := 2)
  rw [e3]
  have hl1 : ((Ce ++ bWo Ce r A1 n).map rwC).length = n + A1.length := by rw [List.length_map, List.length_append, bWo_len, hn]
  have hpos : 0 < A1.length := List.length_pos_iff.mpr h1
  have hga : Ce.getD a (0, 0, none) = ea := by rw [List.getD_eq_getElem?_getD, ha]; rfl
  apply List.ext_getElem?
  intro i
  rw [List.getElem?_map]
  by_cases c1 : i < n
  · rw [List.getElem?_set_ne (by omega), List.getElem?_append_left (by rw [hl1]; omega), List.getElem?_map, List.getElem?_append_left (by omega), List.getElem?_append_left (by omega)]
  · obtain ⟨j, rfl⟩ : ∃ j, i = n + j := ⟨i - n, by omega⟩
    have er : (Ce ++ bWo Ce r (A1 ++ [a]) n)[n + j]? = (bWo Ce r (A1 ++ [a]) n)[j]? := by rw [List.getElem?_append_right (by omega), show n + j - Ce.length = j by omega]
    rw [er]
    by_cases c2 : j < A1.length
    · obtain ⟨y, hy⟩ : ∃ y, A1[j]? = some y := ⟨_, List.getElem?_eq_getElem c2⟩
      rw [bWo_at (A1 ++ [a]) n j y (by rw [List.getElem?_append_left c2]; exact hy), if_neg (by rw [List.length_append, List.length_singleton]; omega)]
      have el : ((Ce ++ bWo Ce r A1 n).map rwC ++ [trow 3 (ea.1 : Int) (ea.2.1 : Int) (oI r)])[n + j]? = some (rwC ((Ce.getD y (0, 0, none)).1, (Ce.getD y (0, 0, none)).2.1, if j + 1 = A1.length then r else some (n + j + 1))) := by
        rw [List.getElem?_append_left (by rw [hl1]; omega), List.getElem?_map, List.getElem?_append_right (by omega), show n + j - Ce.length = j by omega, bWo_at A1 n j y hy]
        rfl
      by_cases c3 : j + 1 = A1.length
      · have em : m = n + j := by omega
        rw [em, List.getElem?_set_self (by rw [List.length_append, hl1]; omega), List.getD_eq_getElem?_getD, el, if_pos c3, show n + A1.length = n + j + 1 by omega]
        rfl
      · rw [List.getElem?_set_ne (by omega), el, if_neg c3]
        rfl
    · by_cases c3 : j = A1.length
      · subst c3
        rw [bWo_at (A1 ++ [a]) n A1.length a (by simp), if_pos (by simp), List.getElem?_set_ne (by omega), List.getElem?_append_right (by rw [hl1]; exact Nat.le_refl _), hl1, Nat.sub_self, hga]
        rfl
      · rw [List.getElem?_eq_none (by rw [List.length_set, List.length_append, hl1, List.length_singleton]; omega), List.getElem?_eq_none (by rw [bWo_len, List.length_append, List.length_singleton]; omega)]
        rfl

