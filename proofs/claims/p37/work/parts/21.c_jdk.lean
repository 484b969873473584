/-! Own rows: Arrays.rangeCheck, fill, copyOf. Walked by program (wip/p37/m_jdk2.py). -/
section CJDK
variable {G : zG} {d : Nat} {w : zW}
theorem c_rangeCheck {n i j : Int} (h0 : 0 ≤ i) (h1 : i ≤ j) (h2 : j ≤ n) : zM G zm_J7_rangeCheck_23922 d [zI n, zI i, zI j] w (zRet none w) := by
  refine zx_ent (by decide +kernel) rfl (Nat.le_of_ble_eq_true rfl) ?_
  refine zx_L (L1 := [some (zI n), some (zI i), some (zI j)]) rfl ?_
  refine zx_iload_n (i := 1) dJ7_rangeCheck_23922_0 rfl rfl ?_
  refine zx_iload_n (i := 2) dJ7_rangeCheck_23922_1 rfl rfl ?_
  refine zx_icmp_le (tgt := 46) dJ7_rangeCheck_23922_2 (by decide) (fun h2 => ?_) (fun h2 => absurd (by omega) h2)
  refine zx_iload_n (i := 1) dJ7_rangeCheck_23922_46 rfl rfl ?_
  refine zx_if_ge (tgt := 59) dJ7_rangeCheck_23922_47 (by decide) (fun h47 => ?_) (fun h47 => absurd (by omega) h47)
  refine zx_iload_n (i := 2) dJ7_rangeCheck_23922_59 rfl rfl ?_
  refine zx_iload_n (i := 0) dJ7_rangeCheck_23922_60 rfl rfl ?_
  refine zx_icmp_le (tgt := 73) dJ7_rangeCheck_23922_61 (by decide) (fun h61 => ?_) (fun h61 => absurd (by omega) h61)
  refine zx_return dJ7_rangeCheck_23922_73 rfl ?_
  exact zr_n rfl
def zfil (xs : List Int) (i j : Nat) (v : Int) : List Int := xs.take i ++ (List.replicate (j - i) v ++ xs.drop j)
theorem zfil_len {xs : List Int} {i j : Nat} {v : Int} (h : i ≤ j) (h2 : j ≤ xs.length) : (zfil xs i j v).length = xs.length := by simp [zfil]; omega
theorem zfil_self {xs : List Int} {i : Nat} {v : Int} : zfil xs i i v = xs := by simp [zfil]
theorem zfil_next {xs : List Int} {i j : Nat} {v : Int} (h : i ≤ j) (h2 : j < xs.length) : (zfil xs i j v).set j v = zfil xs i (j + 1) v := by
  apply List.ext_getElem?
  intro k
  have l1 := zfil_len (v := v) h (Nat.le_of_lt h2)
  rw [List.getElem?_set]
  have at_ : ∀ b, i ≤ b → b ≤ xs.length → (zfil xs i b v)[k]? = if k < i then xs[k]? else if k < b then some v else xs[k]? := by
    intro b hb hb2
    unfold zfil
    by_cases c1 : k < i
    · rw [if_pos c1, List.getElem?_append_left (by simp; omega), List.getElem?_take_of_lt c1]
    · rw [if_neg c1, List.getElem?_append_right (by simp; omega)]
      by_cases c2 : k < b
      · rw [if_pos c2, List.getElem?_append_left (by simp; omega), List.getElem?_replicate, if_pos (by simp; omega)]
      · rw [if_neg c2, List.getElem?_append_right (by simp; omega), List.getElem?_drop]
        congr 1
        simp
        omega
  rw [at_ j h (by omega), at_ (j + 1) (by omega) (by omega), l1]
  by_cases c0 : j = k
  · subst c0
    rw [if_pos rfl, if_pos h2, if_neg (by omega), if_pos (by omega)]
  · rw [if_neg c0]
    by_cases c1 : k < i
    · rw [if_pos c1, if_pos c1]
    · rw [if_neg c1, if_neg c1]
      by_cases c2 : k < j
      · rw [if_pos c2, if_pos (by omega)]
      · rw [if_neg c2, if_neg (by omega)]
theorem zin_len {xs : List Int} : (xs.map (Sum.inl : Int → zV)).length = xs.length := List.length_map _
theorem zin_set {xs : List Int} {i : Nat} {v : Int} : (xs.map (Sum.inl : Int → zV)).set i (zI v) = (xs.set i v).map Sum.inl := List.map_set.symm
theorem c_fill5 {a ta oa : Nat} {xs : List Int} (ha : w.1 a = some (ta, oa, xs.map Sum.inl)) (hta : 100 ≤ ta ∧ ta < 120) (hx : xs.length < 2000000000) (i j : Nat) (hij : i ≤ j) (hj : j ≤ xs.length) (v : Int) : zM G zm_J7_fill_fda19 (d + 1) [zR a, zI (i : Int), zI (j : Int), zI v] w (zRet none (zput w a (ta, oa, (zfil xs i j v).map Sum.inl))) := by
  refine zx_ent (by decide +kernel) rfl (Nat.le_of_ble_eq_true rfl) ?_
  have loop : ∀ (k b : Nat), b + k = j → i ≤ b → ∀ w1, w1 = zput w a (ta, oa, (zfil xs i b v).map Sum.inl) → zX G zm_J7_fill_fda19 (d + 1) [zR a, zI (i : Int), zI (j : Int), zI v] w (zRet none (zput w a (ta, oa, (zfil xs i j v).map Sum.inl))) 10 [some (zR a), some (zI (i : Int)), some (zI (j : Int)), some (zI v), some (zI (b : Int))] [] w1 := by
    intro k
    induction k with
    | zero =>
      intro b hbk hib w1 hw
      refine zx_iload (i := 4) dJ7_fill_fda19_10 rfl ?_
      refine zx_iload_n (i := 2) dJ7_fill_fda19_12 rfl rfl ?_
      refine zx_icmp_ge (tgt := 27) dJ7_fill_fda19_13 (by decide) (fun h13 => ?_) (fun h13 => absurd (by omega) h13)
      refine zx_return dJ7_fill_fda19_27 rfl ?_
      exact zr_n (by rw [hw, show b = j by omega])
    | succ k ih =>
      intro b hbk hib w1 hw
      have hb : w1.1 a = some (ta, oa, (zfil xs i b v).map Sum.inl) := by rw [hw]; exact zput_at
      refine zx_iload (i := 4) dJ7_fill_fda19_10 rfl ?_
      refine zx_iload_n (i := 2) dJ7_fill_fda19_12 rfl rfl ?_
      refine zx_icmp_ge (tgt := 27) dJ7_fill_fda19_13 (by decide) (fun h13 => absurd h13 (by omega)) (fun h13 => ?_)
      refine zx_aload_n (i := 0) dJ7_fill_fda19_16 rfl rfl ?_
      refine zx_iload (i := 4) dJ7_fill_fda19_17 rfl ?_
      refine zx_iload_n (i := 3) dJ7_fill_fda19_19 rfl rfl ?_
      obtain ⟨w_1, hw_2⟩ : ∃ x, x = zput w1 a (ta, oa, ((zfil xs i b v).set b v).map Sum.inl) := ⟨_, rfl⟩
      refine zx_ias (w1 := w_1) dJ7_fill_fda19_20 hb (by first | decide | omega) (by omega) (by rw [zin_len, zfil_len (by omega) (by omega)]; omega) (by rw [hw_2, Int.toNat_natCast, zin_set]) ?_
      have h_3 : w_1.1 a = some (ta, oa, ((zfil xs i b v).set b v).map Sum.inl) := by rw [hw_2]; exact zput_at
      refine zx_iinc (i := 4) (v := ((b + 1 : Nat) : Int)) dJ7_fill_fda19_21 rfl (zw_eq (by omega) (by omega) (by omega)) (by decide) rfl ?_
      refine zx_L (L1 := [some (zR a), some (zI (i : Int)), some (zI (j : Int)), some (zI v), some (zI ((b + 1 : Nat) : Int))]) rfl ?_
      refine zx_goto (tgt := 10) dJ7_fill_fda19_24 (by decide) ?_
      exact ih (b + 1) (by omega) (by omega) _ (by rw [hw_2, zfil_next (by omega) (by omega), hw, zput_put])
  refine zx_L (L1 := [some (zR a), some (zI (i : Int)), some (zI (j : Int)), some (zI v), none]) rfl ?_
  refine zx_aload_n (i := 0) dJ7_fill_fda19_0 rfl rfl ?_
  refine zx_alen (n := xs.length) dJ7_fill_fda19_1 ha (by first | decide | omega) zin_len (by omega) ?_
  refine zx_iload_n (i := 1) dJ7_fill_fda19_2 rfl rfl ?_
  refine zx_iload_n (i := 2) dJ7_fill_fda19_3 rfl rfl ?_
  refine zx_is (As := [zI ((xs.length : Nat) : Int), zI (i : Int), zI (j : Int)]) (st := []) (v := none) (w1 := w) dJ7_fill_fda19_4 zc_J7_13 rfl (Nat.le_of_ble_eq_true rfl) rfl (c_rangeCheck (by omega) (by omega) (by omega)) ?_
  refine zx_st (st1 := []) rfl ?_
  refine zx_iload_n (i := 1) dJ7_fill_fda19_7 rfl rfl ?_
  refine zx_istore (i := 4) dJ7_fill_fda19_8 (by decide) rfl ?_
  refine zx_L (L1 := [some (zR a), some (zI (i : Int)), some (zI (j : Int)), some (zI v), some (zI (i : Int))]) rfl ?_
  exact loop (j - i) i (by omega) (by omega) w (by rw [zfil_self, zput_id ha])
theorem c_fill2 {a ta oa : Nat} {xs : List Int} (ha : w.1 a = some (ta, oa, xs.map Sum.inl)) (hta : 100 ≤ ta ∧ ta < 120) (hx : xs.length < 2000000000) (v : Int) : zM G zm_J7_fill_53178 d [zR a, zI v] w (zRet none (zput w a (ta, oa, (List.replicate xs.length v).map Sum.inl))) := by
  refine zx_ent (by decide +kernel) rfl (Nat.le_of_ble_eq_true rfl) ?_
  have e9 : List.replicate xs.length v = zfil xs 0 xs.length v := by simp [zfil]
  rw [e9]
  have loop : ∀ (k b : Nat), b + k = xs.length → ∀ w1, w1 = zput w a (ta, oa, (zfil xs 0 b v).map Sum.inl) → zX G zm_J7_fill_53178 d [zR a, zI v] w (zRet none (zput w a (ta, oa, (zfil xs 0 xs.length v).map Sum.inl))) 5 [some (zR a), some (zI v), some (zI (b : Int)), some (zI (xs.length : Int))] [] w1 := by
    intro k
    induction k with
    | zero =>
      intro b hbk w1 hw
      refine zx_iload_n (i := 2) dJ7_fill_53178_5 rfl rfl ?_
      refine zx_iload_n (i := 3) dJ7_fill_53178_6 rfl rfl ?_
      refine zx_icmp_ge (tgt := 20) dJ7_fill_53178_7 (by decide) (fun h7 => ?_) (fun h7 => absurd (by omega) h7)
      refine zx_return dJ7_fill_53178_20 rfl ?_
      exact zr_n (by rw [hw, show b = xs.length by omega])
    | succ k ih =>
      intro b hbk w1 hw
      have hb : w1.1 a = some (ta, oa, (zfil xs 0 b v).map Sum.inl) := by rw [hw]; exact zput_at
      refine zx_iload_n (i := 2) dJ7_fill_53178_5 rfl rfl ?_
      refine zx_iload_n (i := 3) dJ7_fill_53178_6 rfl rfl ?_
      refine zx_icmp_ge (tgt := 20) dJ7_fill_53178_7 (by decide) (fun h7 => absurd h7 (by omega)) (fun h7 => ?_)
      refine zx_aload_n (i := 0) dJ7_fill_53178_10 rfl rfl ?_
      refine zx_iload_n (i := 2) dJ7_fill_53178_11 rfl rfl ?_
      refine zx_iload_n (i := 1) dJ7_fill_53178_12 rfl rfl ?_
      obtain ⟨w_1, hw_2⟩ : ∃ x, x = zput w1 a (ta, oa, ((zfil xs 0 b v).set b v).map Sum.inl) := ⟨_, rfl⟩
      refine zx_ias (w1 := w_1) dJ7_fill_53178_13 hb (by first | decide | omega) (by omega) (by rw [zin_len, zfil_len (by omega) (by omega)]; omega) (by rw [hw_2, Int.toNat_natCast, zin_set]) ?_
      have h_3 : w_1.1 a = some (ta, oa, ((zfil xs 0 b v).set b v).map Sum.inl) := by rw [hw_2]; exact zput_at
      refine zx_iinc (i := 2) (v := ((b + 1 : Nat) : Int)) dJ7_fill_53178_14 rfl (zw_eq (by omega) (by omega) (by omega)) (by decide) rfl ?_
      refine zx_L (L1 := [some (zR a), some (zI v), some (zI ((b + 1 : Nat) : Int)), some (zI (xs.length : Int))]) rfl ?_
      refine zx_goto (tgt := 5) dJ7_fill_53178_17 (by decide) ?_
      exact ih (b + 1) (by omega) _ (by rw [hw_2, zfil_next (by omega) (by omega), hw, zput_put])
  refine zx_L (L1 := [some (zR a), some (zI v), none, none]) rfl ?_
  refine zx_iconst (v := 0) dJ7_fill_53178_0 rfl (z32_lit (by decide) (by decide)) ?_
  refine zx_istore_n (i := 2) dJ7_fill_53178_1 rfl (by decide) rfl ?_
  refine zx_L (L1 := [some (zR a), some (zI v), some (zI 0), none]) rfl ?_
  refine zx_aload_n (i := 0) dJ7_fill_53178_2 rfl rfl ?_
  refine zx_alen (n := xs.length) dJ7_fill_53178_3 ha (by first | decide | omega) zin_len (by omega) ?_
  refine zx_istore_n (i := 3) dJ7_fill_53178_4 rfl (by decide) rfl ?_
  refine zx_L (L1 := [some (zR a), some (zI v), some (zI 0), some (zI ((xs.length : Nat) : Int))]) rfl ?_
  exact loop xs.length 0 (by omega) w (by rw [zfil_self, zput_id ha])
theorem zcp_new {xs : List Int} {n : Nat} (h : xs.length ≤ n) : zcp (xs.map Sum.inl) (List.replicate n (zI 0)) xs.length = (xs ++ List.replicate (n - xs.length) 0).map Sum.inl := by
  unfold zcp
  rw [List.map_append, List.take_of_length_le (by simp), List.drop_replicate, List.map_replicate]
theorem c_copyOf {a ta oa : Nat} {xs : List Int} (ha : w.1 a = some (ta, oa, xs.map Sum.inl)) (hta : 100 ≤ ta ∧ ta < 120) (n : Nat) (hn : xs.length < n) (hn2 : n < 100000000) (r1 : w.2.1 + 1 ≤ G.2.2.2.2.1) (r2 : w.2.2 + n ≤ G.2.2.2.2.2) : zM G zm_J7_copyOf_59c91 d [zR a, zI (n : Int)] w (zRet (some (zR w.2.1)) (znew w (100, 0, (xs ++ List.replicate (n - xs.length) 0).map Sum.inl) n)) := by
  refine zx_ent (by decide +kernel) rfl (Nat.le_of_ble_eq_true rfl) ?_
  refine zx_L (L1 := [some (zR a), some (zI (n : Int)), none]) rfl ?_
  refine zx_iload_n (i := 1) dJ7_copyOf_59c91_0 rfl rfl ?_
  refine zx_aload_n (i := 0) dJ7_copyOf_59c91_1 rfl rfl ?_
  refine zx_alen (n := xs.length) dJ7_copyOf_59c91_2 ha (by first | decide | omega) zin_len (by omega) ?_
  refine zx_icmp_ne (tgt := 14) dJ7_copyOf_59c91_3 (by decide) (fun h3 => ?_) (fun h3 => absurd (by omega) h3)
  refine zx_iload_n (i := 1) dJ7_copyOf_59c91_14 rfl rfl ?_
  refine zx_ok (fun ok_1 => ?_)
  refine zx_newarray (n := n) 100 dJ7_copyOf_59c91_15 zk_ints (by decide) rfl (by first | decide | omega) (by omega) (by omega) ?_
  obtain ⟨w_2, hw_3⟩ : ∃ x, x = znew w (100, 0, List.replicate n (zI 0)) n := ⟨_, rfl⟩
  obtain ⟨a_4, ha_5⟩ : ∃ x, x = w.2.1 := ⟨_, rfl⟩
  rw [← hw_3, ← ha_5]
  have h_6 : w_2.1 a_4 = some (100, 0, List.replicate n (zI 0)) := by rw [hw_3, ha_5]; exact znew_at
  refine zx_astore_n (i := 2) dJ7_copyOf_59c91_17 rfl (by decide) rfl ?_
  refine zx_L (L1 := [some (zR a), some (zI (n : Int)), some (zR a_4)]) rfl ?_
  refine zx_aload_n (i := 0) dJ7_copyOf_59c91_18 rfl rfl ?_
  refine zx_iconst (v := 0) dJ7_copyOf_59c91_19 rfl (z32_lit (by decide) (by decide)) ?_
  refine zx_aload_n (i := 2) dJ7_copyOf_59c91_20 rfl rfl ?_
  refine zx_iconst (v := 0) dJ7_copyOf_59c91_21 rfl (z32_lit (by decide) (by decide)) ?_
  refine zx_pc (pc1 := 22) rfl ?_
  refine zx_aload_n (i := 0) dJ7_copyOf_59c91_22 rfl rfl ?_
  have h_7 : w_2.1 a = some (ta, oa, xs.map Sum.inl) := by
    rw [hw_3]; exact znew_to (ok_1 _ _ ha) ha
  refine zx_alen (n := xs.length) dJ7_copyOf_59c91_23 h_7 (by first | decide | omega) zin_len (by omega) ?_
  refine zx_iload_n (i := 1) dJ7_copyOf_59c91_24 rfl rfl ?_
  refine zx_min (v := min ((xs.length : Nat) : Int) (n : Int)) dJ7_copyOf_59c91_25 zo_J7_304 zk_min1 zk_math zk_min2 (Nat.le_of_ble_eq_true rfl) rfl ?_
  refine zx_st (st1 := [zI (xs.length : Int), zI 0, zR a_4, zI 0, zR a]) (by rw [show min (xs.length : Int) (n : Int) = (xs.length : Int) by omega]) ?_
  obtain ⟨w_8, hw_9⟩ : ∃ x, x = zput w_2 a_4 (100, 0, zcp (xs.map Sum.inl) (List.replicate n (zI 0)) xs.length) := ⟨_, rfl⟩
  refine zx_arraycopy (n := xs.length) (st := []) dJ7_copyOf_59c91_28 zy_link h_7 h_6 (by first | decide | omega) (by first | decide | omega) (fun v hv => by obtain ⟨x, -, rfl⟩ := List.mem_map.mp hv; exact ⟨x, rfl⟩) (by simp) (by simp; omega) (Nat.le_of_ble_eq_true rfl) (by decide) ?_
  rw [← hw_9]
  have h_10 : w_8.1 a_4 = some (100, 0, zcp (xs.map Sum.inl) (List.replicate n (zI 0)) xs.length) := by rw [hw_9]; exact zput_at
  refine zx_aload_n (i := 2) dJ7_copyOf_59c91_31 rfl rfl ?_
  refine zx_areturn dJ7_copyOf_59c91_32 rfl (Or.inr ⟨_, rfl⟩) ?_
  exact zr_v (by rw [ha_5]) (by rw [hw_9, zcp_new (by omega), hw_3, ha_5, znew_put])
end CJDK
