/-! Own rows: CLAUSES written, PREDICATES, CLAUSES and PROGRAMS made. Walked by program (wip/p37/m_clause.py). -/
def lCap (cap : Nat) (ys : List Nat) : Nat := if ys = [] then 10 else if ys.length < cap then cap else cap + cap / 2
theorem lAw_at {w : zW} {a t ow cap y : Nat} {ys : List Nat} : (lAw w a t ow cap ys y).1 a = some (t, ow, zLs (lCap cap ys) (ys ++ [y])) := by
  unfold lAw lCap
  by_cases c1 : ys = []
  · subst c1
    rw [if_pos rfl, if_pos rfl]; exact zput_at
  · rw [if_neg c1, if_neg c1]
    by_cases c2 : ys.length < cap
    · rw [if_pos c2, if_pos c2]; exact zput_at
    · rw [if_neg c2, if_neg c2]; exact zput_at
theorem lAw_to {w : zW} {a t ow cap y b : Nat} {ys : List Nat} {ob : zO} (ok : zOk w) (hn : b ≠ a) (hb : w.1 b = some ob) : (lAw w a t ow cap ys y).1 b = some ob := by
  have hlt := ok _ _ hb
  unfold lAw
  split
  · exact zput_to hn (znew_to hlt hb)
  · split
    · exact zput_to hn hb
    · exact zput_to hn (znew_to hlt hb)
theorem lAw_sz {w : zW} {a t ow cap y : Nat} {ys : List Nat} : w.2.1 ≤ (lAw w a t ow cap ys y).2.1 ∧ (lAw w a t ow cap ys y).2.1 ≤ w.2.1 + 1 ∧ w.2.2 ≤ (lAw w a t ow cap ys y).2.2 ∧ (lAw w a t ow cap ys y).2.2 ≤ w.2.2 + (10 + cap + cap / 2) := by
  unfold lAw
  split
  · exact ⟨Nat.le_succ _, Nat.le_refl _, Nat.le_add_right _ _, Nat.add_le_add_left (by omega) _⟩
  · split
    · exact ⟨Nat.le_refl _, Nat.le_succ _, Nat.le_refl _, Nat.le_add_right _ _⟩
    · exact ⟨Nat.le_succ _, Nat.le_refl _, Nat.le_add_right _ _, Nat.add_le_add_left (by omega) _⟩
theorem zx_asN {G : zG} {M : zMd} {d : Nat} {av : List zV} {w0 : zW} {Q : zQ} {pc : Nat} {L : List (Option zV)} {st : List zV} {w : zW} {a t ow : Nat} {i : Int} {fs : List zV} {w1 : zW} (hd : decode M.2.1 pc = .ok (.aastore, 1)) (ha : w.1 a = some (t, ow, fs)) (ht : t = 125 ∨ t = 126) (h0 : 0 ≤ i) (hl : i.toNat < fs.length) (hw : zput w a (t, ow, fs.set i.toNat zN) = w1) (k : zX G M d av w0 Q (pc + 1) L st w1) : zX G M d av w0 Q pc L (zN :: zI i :: zR a :: st) w := by subst hw; exact zx_aastoreN hd ha ht h0 hl k
theorem zx_asQ {G : zG} {M : zMd} {d : Nat} {av : List zV} {w0 : zW} {Q : zQ} {pc : Nat} {L : List (Option zV)} {st : List zV} {w : zW} {a t ow q cq owq : Nat} {i : Int} {fs fq : List zV} {w1 : zW} (hd : decode M.2.1 pc = .ok (.aastore, 1)) (ha : w.1 a = some (t, ow, fs)) (hq : w.1 q = some (cq, owq, fq)) (ht : (t = 125 ∧ cq = 3) ∨ (t = 126 ∧ cq = 5)) (h0 : 0 ≤ i) (hl : i.toNat < fs.length) (hw : zput w a (t, ow, fs.set i.toNat (zR q)) = w1) (k : zX G M d av w0 Q (pc + 1) L st w1) : zX G M d av w0 Q pc L (zR q :: zI i :: zR a :: st) w := by subst hw; exact zx_aastore hd ha hq ht h0 hl k
def ngT (xs : List Int) (a b c : Int) : Nat → Nat → List (List Int) → List (List Int)
  | 0, _, T => T
  | n + 1, q, T => ngT xs a b c n (q + 1) (ts T (zVa xs (q : Int)) 0 (pk (q : Int) a b c))
def tkIn (xs : List Int) (a b c p : Int) : Nat → Nat → Int → Int
  | 0, _, ty => ty
  | n + 1, q, ty => if ty = -1 then tkIn xs a b c p n (q + 1) (if zVa xs (q : Int) = zVa xs p then pk (q : Int) a b c else ty) else ty
def tkTy (T : List (List Int)) (xs : List Int) (a b c : Int) (q : Nat) : Int := tkIn xs a b c (q : Int) q 0 (tg T (zVa xs (q : Int)) 0)
def tkOut (T : List (List Int)) (xs : List Int) (a b c : Int) : Nat → Nat → Bool
  | 0, _ => true
  | n + 1, q => (decide (tkTy T xs a b c q = -1) || decide (tkTy T xs a b c q = pk (q : Int) a b c)) && tkOut T xs a b c n (q + 1)
theorem tkOut_s {T : List (List Int)} {xs : List Int} {a b c : Int} {n q : Nat} : tkOut T xs a b c (n + 1) q = ((decide (tkTy T xs a b c q = -1) || decide (tkTy T xs a b c q = pk (q : Int) a b c)) && tkOut T xs a b c n (q + 1)) := rfl
section CCLAUSE
variable {G : zG} {d : Nat} {w : zW}
theorem c_X1_clearOrder {c : Nat} {nu : Int} {pr ty gs le ns od ch kn cap : Nat} {T : List (List Int)} {Gs : List Nat} {LE NS KN : List Int} {OD CH : List (Option Nat)} (hC : clW w c nu pr ty gs le ns od ch kn T cap Gs LE NS KN OD CH) (m : Nat) (hm : m < 2) : zM G zm_X1_clearOrder d [zR c, zI (m : Int)] w (zRet none (zput w le (101, c, (LE.set m 0).map Sum.inl))) := by
  refine zx_ent (by decide +kernel) rfl (Nat.le_of_ble_eq_true rfl) ?_
  refine zx_L (L1 := [some (zR c), some (zI (m : Int))]) rfl ?_
  obtain ⟨h0, ⟨hty, okT⟩, hgs, ⟨hle, nle⟩, ⟨hns, nns⟩, ⟨hod, nod⟩, ⟨hch, nch⟩, ⟨hkn, nkn⟩⟩ := hC
  refine zx_iload_n (i := 1) dX1_clearOrder_0 rfl rfl ?_
  refine zx_if_lt (tgt := 20) dX1_clearOrder_1 (by decide) (fun h1 => absurd h1 (by omega)) (fun h1 => ?_)
  refine zx_iload_n (i := 1) dX1_clearOrder_4 rfl rfl ?_
  refine zx_aload_n (i := 0) dX1_clearOrder_5 rfl rfl ?_
  refine zx_getfield dX1_clearOrder_6 zf_X1_45 h0 rfl ?_
  refine zx_alen (n := 2) dX1_clearOrder_9 hle (by first | decide | omega) (by rw [List.length_map]; exact nle) (by decide) ?_
  refine zx_icmp_ge (tgt := 20) dX1_clearOrder_10 (by decide) (fun h10 => absurd h10 (by omega)) (fun h10 => ?_)
  refine zx_aload_n (i := 0) dX1_clearOrder_13 rfl rfl ?_
  refine zx_getfield dX1_clearOrder_14 zf_X1_45 h0 rfl ?_
  refine zx_iload_n (i := 1) dX1_clearOrder_17 rfl rfl ?_
  refine zx_iconst (v := 0) dX1_clearOrder_18 rfl (z32_lit (by decide) (by decide)) ?_
  refine zx_pc (pc1 := 19) rfl ?_
  obtain ⟨w_1, hw_2⟩ : ∃ ww, ww = zput w le (101, c, (LE.set m 0).map Sum.inl) := ⟨_, rfl⟩
  refine zx_ias (w1 := w_1) dX1_clearOrder_19 hle (by first | decide | omega) (by omega) (by rw [List.length_map]; omega) (by rw [hw_2, Int.toNat_natCast, List.map_set]) ?_
  have h_3 : w_1.1 le = some (101, c, (LE.set m 0).map Sum.inl) := by rw [hw_2]; exact zput_at
  refine zx_return dX1_clearOrder_20 rfl ?_
  exact zr_n (by rw [hw_2])
theorem tkIn_n {xs : List Int} {a b c p ty : Int} {n q : Nat} (h : ty ≠ -1) : tkIn xs a b c p (n + 1) q ty = ty := if_neg h
theorem tkIn_y {xs : List Int} {a b c p ty : Int} {n q : Nat} (h : ty = -1) : tkIn xs a b c p (n + 1) q ty = tkIn xs a b c p n (q + 1) (if zVa xs (q : Int) = zVa xs p then pk (q : Int) a b c else ty) := if_pos h
theorem c_X1_takesTypes {c : Nat} {nu : Int} {pr ty gs le ns od ch kn cap : Nat} {T : List (List Int)} {Gs : List Nat} {LE NS KN : List Int} {OD CH : List (Option Nat)} (hC : clW w c nu pr ty gs le ns od ch kn T cap Gs LE NS KN OD CH) {g va og ov : Nat} {gk gs2 gn : Int} {xs : List Int} (hg : w.1 g = some (3, og, [zI gk, zI gs2, zI gn, zR va])) (hv : w.1 va = some (100, ov, xs.map Sum.inl)) (hx : xs.length < 100) (hgn : 0 ≤ gn ∧ gn ≤ 3) (a0 b0 c0 : Int) : zM G zm_X1_takesTypes (d + 2) [zR c, zR g, zI a0, zI b0, zI c0] w (zRet (some (zI (zB (tkOut T xs a0 b0 c0 gn.toNat 0 = true)))) w) := by
  refine zx_ent (by decide +kernel) rfl (Nat.le_of_ble_eq_true rfl) ?_
  obtain ⟨h0, ⟨hty, okT⟩, hgs, ⟨hle, nle⟩, ⟨hns, nns⟩, ⟨hod, nod⟩, ⟨hch, nch⟩, ⟨hkn, nkn⟩⟩ := hC
  have loop : ∀ (n q : Nat) (o6 o7 o8 : Option zV), (q : Int) + n = gn → zX G zm_X1_takesTypes (d + 2) [zR c, zR g, zI a0, zI b0, zI c0] w (zRet (some (zI (zB (tkOut T xs a0 b0 c0 n q = true)))) w) 3 [some (zR c), some (zR g), some (zI a0), some (zI b0), some (zI c0), some (zI (q : Int)), o6, o7, o8] [] w := by
    intro n
    induction n with
    | zero =>
      intro q o6 o7 o8 hq
      refine zx_iload (i := 5) dX1_takesTypes_3 rfl ?_
      refine zx_aload_n (i := 1) dX1_takesTypes_5 rfl rfl ?_
      refine zx_getfield dX1_takesTypes_6 zf_X1_78 hg rfl ?_
      refine zx_icmp_ge (tgt := 104) dX1_takesTypes_9 (by decide) (fun h9 => ?_) (fun h9 => absurd (by omega) h9)
      refine zx_iconst (v := 1) dX1_takesTypes_104 rfl (z32_lit (by decide) (by decide)) ?_
      refine zx_zret dX1_takesTypes_105 rfl (by first | exact Or.inl rfl | exact Or.inr rfl | exact zB_or | assumption) ?_
      exact zr_t rfl
    | succ n ih =>
      intro q o6 o7 o8 hq
      have inner : ∀ (n2 h : Nat) (ty : Int), h + n2 = q → (∀ o8, zX G zm_X1_takesTypes (d + 2) [zR c, zR g, zI a0, zI b0, zI c0] w (zRet (some (zI (zB (tkOut T xs a0 b0 c0 (n + 1) q = true)))) w) 83 [some (zR c), some (zR g), some (zI a0), some (zI b0), some (zI c0), some (zI (q : Int)), some (zI (pk (q : Int) a0 b0 c0)), some (zI (tkIn xs a0 b0 c0 (q : Int) n2 h ty)), o8] [] w) → zX G zm_X1_takesTypes (d + 2) [zR c, zR g, zI a0, zI b0, zI c0] w (zRet (some (zI (zB (tkOut T xs a0 b0 c0 (n + 1) q = true)))) w) 38 [some (zR c), some (zR g), some (zI a0), some (zI b0), some (zI c0), some (zI (q : Int)), some (zI (pk (q : Int) a0 b0 c0)), some (zI ty), some (zI (h : Int))] [] w := by
        intro n2
        induction n2 with
        | zero =>
          intro h ty hh kk
          refine zx_iload (i := 8) dX1_takesTypes_38 rfl ?_
          refine zx_iload (i := 5) dX1_takesTypes_40 rfl ?_
          refine zx_icmp_ge (tgt := 83) dX1_takesTypes_42 (by decide) (fun h42 => ?_) (fun h42 => absurd (by omega) h42)
          exact kk _
        | succ n2 ihn =>
          intro h ty hh kk
          by_cases hty : ty = -1
          · by_cases hv2 : zVa xs (h : Int) = zVa xs (q : Int)
            · refine zx_iload (i := 8) dX1_takesTypes_38 rfl ?_
              refine zx_iload (i := 5) dX1_takesTypes_40 rfl ?_
              refine zx_icmp_ge (tgt := 83) dX1_takesTypes_42 (by decide) (fun h42 => absurd h42 (by omega)) (fun h42 => ?_)
              refine zx_iload (i := 7) dX1_takesTypes_45 rfl ?_
              refine zx_iconst (v := -1) dX1_takesTypes_47 rfl (z32_lit (by decide) (by decide)) ?_
              refine zx_icmp_ne (tgt := 83) dX1_takesTypes_48 (by decide) (fun h48 => absurd h48 (not_not_intro hty)) (fun h48 => ?_)
              refine zx_aload_n (i := 1) dX1_takesTypes_51 rfl rfl ?_
              refine zx_iload (i := 8) dX1_takesTypes_52 rfl ?_
              refine zx_iv (b := g) (As := [zI (h : Int)]) (st := []) (v := (some (zI (zVa xs (h : Int))))) (w1 := w) dX1_takesTypes_54 zc_X1_85 hg rfl rfl rfl (Nat.le_of_ble_eq_true rfl) rfl (c_X3_variableAt hg hv hx (h : Int)) ?_
              refine zx_st (st1 := [zI (zVa xs (h : Int))]) rfl ?_
              refine zx_aload_n (i := 1) dX1_takesTypes_57 rfl rfl ?_
              refine zx_iload (i := 5) dX1_takesTypes_58 rfl ?_
              refine zx_pc (pc1 := 60) rfl ?_
              refine zx_iv (b := g) (As := [zI (q : Int)]) (st := [zI (zVa xs (h : Int))]) (v := (some (zI (zVa xs (q : Int))))) (w1 := w) dX1_takesTypes_60 zc_X1_85 hg rfl rfl rfl (Nat.le_of_ble_eq_true rfl) rfl (c_X3_variableAt hg hv hx (q : Int)) ?_
              refine zx_st (st1 := [zI (zVa xs (q : Int)), zI (zVa xs (h : Int))]) rfl ?_
              refine zx_icmp_ne (tgt := 77) dX1_takesTypes_63 (by decide) (fun h63 => absurd h63 (not_not_intro hv2)) (fun h63 => ?_)
              refine zx_iload (i := 8) dX1_takesTypes_66 rfl ?_
              refine zx_iload_n (i := 2) dX1_takesTypes_68 rfl rfl ?_
              refine zx_iload_n (i := 3) dX1_takesTypes_69 rfl rfl ?_
              refine zx_iload (i := 4) dX1_takesTypes_70 rfl ?_
              refine zx_iN (As := [zI (h : Int), zI a0, zI b0, zI c0]) (st := []) (v := (some (zI (pk (h : Int) a0 b0 c0)))) (w1 := w) dX1_takesTypes_72 zc_X1_81 rfl (Nat.le_of_ble_eq_true rfl) rfl (c_X11_pick (h : Int) a0 b0 c0) ?_
              refine zx_st (st1 := [zI (pk (h : Int) a0 b0 c0)]) rfl ?_
              refine zx_istore (i := 7) dX1_takesTypes_75 (by decide) rfl ?_
              refine zx_L (L1 := [some (zR c), some (zR g), some (zI a0), some (zI b0), some (zI c0), some (zI (q : Int)), some (zI (pk (q : Int) a0 b0 c0)), some (zI (pk (h : Int) a0 b0 c0)), some (zI (h : Int))]) rfl ?_
              refine zx_iinc (i := 8) (v := ((h + 1 : Nat) : Int)) dX1_takesTypes_77 rfl (zw_eq (by omega) (by omega) (by omega)) (by decide) rfl ?_
              refine zx_L (L1 := [some (zR c), some (zR g), some (zI a0), some (zI b0), some (zI c0), some (zI (q : Int)), some (zI (pk (q : Int) a0 b0 c0)), some (zI (pk (h : Int) a0 b0 c0)), some (zI ((h + 1 : Nat) : Int))]) rfl ?_
              refine zx_goto (tgt := 38) dX1_takesTypes_80 (by decide) ?_
              refine ihn (h + 1) _ (by omega) (fun o9 => ?_)
              have k2 := kk o9
              rw [tkIn_y hty, if_pos hv2] at k2
              exact k2
            · refine zx_iload (i := 8) dX1_takesTypes_38 rfl ?_
              refine zx_iload (i := 5) dX1_takesTypes_40 rfl ?_
              refine zx_icmp_ge (tgt := 83) dX1_takesTypes_42 (by decide) (fun h42 => absurd h42 (by omega)) (fun h42 => ?_)
              refine zx_iload (i := 7) dX1_takesTypes_45 rfl ?_
              refine zx_iconst (v := -1) dX1_takesTypes_47 rfl (z32_lit (by decide) (by decide)) ?_
              refine zx_icmp_ne (tgt := 83) dX1_takesTypes_48 (by decide) (fun h48 => absurd h48 (not_not_intro hty)) (fun h48 => ?_)
              refine zx_aload_n (i := 1) dX1_takesTypes_51 rfl rfl ?_
              refine zx_iload (i := 8) dX1_takesTypes_52 rfl ?_
              refine zx_iv (b := g) (As := [zI (h : Int)]) (st := []) (v := (some (zI (zVa xs (h : Int))))) (w1 := w) dX1_takesTypes_54 zc_X1_85 hg rfl rfl rfl (Nat.le_of_ble_eq_true rfl) rfl (c_X3_variableAt hg hv hx (h : Int)) ?_
              refine zx_st (st1 := [zI (zVa xs (h : Int))]) rfl ?_
              refine zx_aload_n (i := 1) dX1_takesTypes_57 rfl rfl ?_
              refine zx_iload (i := 5) dX1_takesTypes_58 rfl ?_
              refine zx_pc (pc1 := 60) rfl ?_
              refine zx_iv (b := g) (As := [zI (q : Int)]) (st := [zI (zVa xs (h : Int))]) (v := (some (zI (zVa xs (q : Int))))) (w1 := w) dX1_takesTypes_60 zc_X1_85 hg rfl rfl rfl (Nat.le_of_ble_eq_true rfl) rfl (c_X3_variableAt hg hv hx (q : Int)) ?_
              refine zx_st (st1 := [zI (zVa xs (q : Int)), zI (zVa xs (h : Int))]) rfl ?_
              refine zx_icmp_ne (tgt := 77) dX1_takesTypes_63 (by decide) (fun h63 => ?_) (fun h63 => absurd (hv2) h63)
              refine zx_iinc (i := 8) (v := ((h + 1 : Nat) : Int)) dX1_takesTypes_77 rfl (zw_eq (by omega) (by omega) (by omega)) (by decide) rfl ?_
              refine zx_L (L1 := [some (zR c), some (zR g), some (zI a0), some (zI b0), some (zI c0), some (zI (q : Int)), some (zI (pk (q : Int) a0 b0 c0)), some (zI ty), some (zI ((h + 1 : Nat) : Int))]) rfl ?_
              refine zx_goto (tgt := 38) dX1_takesTypes_80 (by decide) ?_
              refine ihn (h + 1) _ (by omega) (fun o9 => ?_)
              have k2 := kk o9
              rw [tkIn_y hty, if_neg hv2] at k2
              exact k2
          · refine zx_iload (i := 8) dX1_takesTypes_38 rfl ?_
            refine zx_iload (i := 5) dX1_takesTypes_40 rfl ?_
            refine zx_icmp_ge (tgt := 83) dX1_takesTypes_42 (by decide) (fun h42 => absurd h42 (by omega)) (fun h42 => ?_)
            refine zx_iload (i := 7) dX1_takesTypes_45 rfl ?_
            refine zx_iconst (v := -1) dX1_takesTypes_47 rfl (z32_lit (by decide) (by decide)) ?_
            refine zx_icmp_ne (tgt := 83) dX1_takesTypes_48 (by decide) (fun h48 => ?_) (fun h48 => absurd (hty) h48)
            have k2 := kk (some (zI (h : Int)))
            rw [tkIn_n hty] at k2
            exact k2
      refine zx_iload (i := 5) dX1_takesTypes_3 rfl ?_
      refine zx_aload_n (i := 1) dX1_takesTypes_5 rfl rfl ?_
      refine zx_getfield dX1_takesTypes_6 zf_X1_78 hg rfl ?_
      refine zx_icmp_ge (tgt := 104) dX1_takesTypes_9 (by decide) (fun h9 => absurd h9 (by omega)) (fun h9 => ?_)
      refine zx_iload (i := 5) dX1_takesTypes_12 rfl ?_
      refine zx_iload_n (i := 2) dX1_takesTypes_14 rfl rfl ?_
      refine zx_iload_n (i := 3) dX1_takesTypes_15 rfl rfl ?_
      refine zx_iload (i := 4) dX1_takesTypes_16 rfl ?_
      refine zx_iN (As := [zI (q : Int), zI a0, zI b0, zI c0]) (st := []) (v := (some (zI (pk (q : Int) a0 b0 c0)))) (w1 := w) dX1_takesTypes_18 zc_X1_81 rfl (Nat.le_of_ble_eq_true rfl) rfl (c_X11_pick (q : Int) a0 b0 c0) ?_
      refine zx_st (st1 := [zI (pk (q : Int) a0 b0 c0)]) rfl ?_
      refine zx_istore (i := 6) dX1_takesTypes_21 (by decide) rfl ?_
      refine zx_L (L1 := [some (zR c), some (zR g), some (zI a0), some (zI b0), some (zI c0), some (zI (q : Int)), some (zI (pk (q : Int) a0 b0 c0)), o7, o8]) rfl ?_
      refine zx_aload_n (i := 0) dX1_takesTypes_23 rfl rfl ?_
      refine zx_pc (pc1 := 24) rfl ?_
      refine zx_aload_n (i := 1) dX1_takesTypes_24 rfl rfl ?_
      refine zx_iload (i := 5) dX1_takesTypes_25 rfl ?_
      refine zx_iv (b := g) (As := [zI (q : Int)]) (st := [zR c]) (v := (some (zI (zVa xs (q : Int))))) (w1 := w) dX1_takesTypes_27 zc_X1_85 hg rfl rfl rfl (Nat.le_of_ble_eq_true rfl) rfl (c_X3_variableAt hg hv hx (q : Int)) ?_
      refine zx_st (st1 := [zI (zVa xs (q : Int)), zR c]) rfl ?_
      refine zx_iv (b := c) (As := [zI (zVa xs (q : Int))]) (st := []) (v := (some (zI (tg T (zVa xs (q : Int)) 0)))) (w1 := w) dX1_takesTypes_30 zc_X1_88 h0 rfl rfl rfl (Nat.le_of_ble_eq_true rfl) rfl (c_X1_typeAt ⟨h0, ⟨hty, okT⟩, hgs, ⟨hle, nle⟩, ⟨hns, nns⟩, ⟨hod, nod⟩, ⟨hch, nch⟩, ⟨hkn, nkn⟩⟩ (zVa xs (q : Int))) ?_
      refine zx_st (st1 := [zI (tg T (zVa xs (q : Int)) 0)]) rfl ?_
      refine zx_istore (i := 7) dX1_takesTypes_33 (by decide) rfl ?_
      refine zx_L (L1 := [some (zR c), some (zR g), some (zI a0), some (zI b0), some (zI c0), some (zI (q : Int)), some (zI (pk (q : Int) a0 b0 c0)), some (zI (tg T (zVa xs (q : Int)) 0)), o8]) rfl ?_
      refine zx_iconst (v := 0) dX1_takesTypes_35 rfl (z32_lit (by decide) (by decide)) ?_
      refine zx_istore (i := 8) dX1_takesTypes_36 (by decide) rfl ?_
      refine zx_L (L1 := [some (zR c), some (zR g), some (zI a0), some (zI b0), some (zI c0), some (zI (q : Int)), some (zI (pk (q : Int) a0 b0 c0)), some (zI (tg T (zVa xs (q : Int)) 0)), some (zI 0)]) rfl ?_
      refine inner q 0 _ (by omega) (fun o8 => ?_)
      have e0 : tkIn xs a0 b0 c0 (q : Int) q 0 (tg T (zVa xs (q : Int)) 0) = tkTy T xs a0 b0 c0 q := rfl
      rw [e0]
      by_cases e1 : tkTy T xs a0 b0 c0 q = -1
      · refine zx_iload (i := 7) dX1_takesTypes_83 rfl ?_
        refine zx_iconst (v := -1) dX1_takesTypes_85 rfl (z32_lit (by decide) (by decide)) ?_
        refine zx_icmp_eq (tgt := 98) dX1_takesTypes_86 (by decide) (fun h86 => ?_) (fun h86 => absurd (e1) h86)
        refine zx_iinc (i := 5) (v := ((q + 1 : Nat) : Int)) dX1_takesTypes_98 rfl (zw_eq (by omega) (by omega) (by omega)) (by decide) rfl ?_
        refine zx_L (L1 := [some (zR c), some (zR g), some (zI a0), some (zI b0), some (zI c0), some (zI ((q + 1 : Nat) : Int)), some (zI (pk (q : Int) a0 b0 c0)), some (zI (tkTy T xs a0 b0 c0 q)), o8]) rfl ?_
        refine zx_goto (tgt := 3) dX1_takesTypes_101 (by decide) ?_
        have e3 : tkOut T xs a0 b0 c0 (n + 1) q = tkOut T xs a0 b0 c0 n (q + 1) := by rw [tkOut_s]; simp [e1]
        rw [e3]
        exact ih (q + 1) _ _ _ (by omega)
      · by_cases e2 : tkTy T xs a0 b0 c0 q = pk (q : Int) a0 b0 c0
        · refine zx_iload (i := 7) dX1_takesTypes_83 rfl ?_
          refine zx_iconst (v := -1) dX1_takesTypes_85 rfl (z32_lit (by decide) (by decide)) ?_
          refine zx_icmp_eq (tgt := 98) dX1_takesTypes_86 (by decide) (fun h86 => absurd h86 (e1)) (fun h86 => ?_)
          refine zx_iload (i := 7) dX1_takesTypes_89 rfl ?_
          refine zx_iload (i := 6) dX1_takesTypes_91 rfl ?_
          refine zx_icmp_eq (tgt := 98) dX1_takesTypes_93 (by decide) (fun h93 => ?_) (fun h93 => absurd (e2) h93)
          refine zx_iinc (i := 5) (v := ((q + 1 : Nat) : Int)) dX1_takesTypes_98 rfl (zw_eq (by omega) (by omega) (by omega)) (by decide) rfl ?_
          refine zx_L (L1 := [some (zR c), some (zR g), some (zI a0), some (zI b0), some (zI c0), some (zI ((q + 1 : Nat) : Int)), some (zI (pk (q : Int) a0 b0 c0)), some (zI (tkTy T xs a0 b0 c0 q)), o8]) rfl ?_
          refine zx_goto (tgt := 3) dX1_takesTypes_101 (by decide) ?_
          have e3 : tkOut T xs a0 b0 c0 (n + 1) q = tkOut T xs a0 b0 c0 n (q + 1) := by rw [tkOut_s]; simp [e2]
          rw [e3]
          exact ih (q + 1) _ _ _ (by omega)
        · refine zx_iload (i := 7) dX1_takesTypes_83 rfl ?_
          refine zx_iconst (v := -1) dX1_takesTypes_85 rfl (z32_lit (by decide) (by decide)) ?_
          refine zx_icmp_eq (tgt := 98) dX1_takesTypes_86 (by decide) (fun h86 => absurd h86 (e1)) (fun h86 => ?_)
          refine zx_iload (i := 7) dX1_takesTypes_89 rfl ?_
          refine zx_iload (i := 6) dX1_takesTypes_91 rfl ?_
          refine zx_icmp_eq (tgt := 98) dX1_takesTypes_93 (by decide) (fun h93 => absurd h93 (e2)) (fun h93 => ?_)
          refine zx_iconst (v := 0) dX1_takesTypes_96 rfl (z32_lit (by decide) (by decide)) ?_
          refine zx_zret dX1_takesTypes_97 rfl (by first | exact Or.inl rfl | exact Or.inr rfl | exact zB_or | assumption) ?_
          exact zr_i (by rw [zB_f]; rw [tkOut_s]; simp [e1, e2])
  refine zx_L (L1 := [some (zR c), some (zR g), some (zI a0), some (zI b0), some (zI c0), none, none, none, none]) rfl ?_
  refine zx_iconst (v := 0) dX1_takesTypes_0 rfl (z32_lit (by decide) (by decide)) ?_
  refine zx_istore (i := 5) dX1_takesTypes_1 (by decide) rfl ?_
  refine zx_L (L1 := [some (zR c), some (zR g), some (zI a0), some (zI b0), some (zI c0), some (zI 0), none, none, none]) rfl ?_
  exact loop gn.toNat 0 none none none (by omega)
theorem cst3 : Cond.castable "ModedMill$Goal" "java/lang/Object" ∈ lw_tbl := (lw_ch_in 8 _ (List.mem_of_getElem? (i := 199) rfl))
theorem cst5 : Cond.castable "ModedMill$Mode" "java/lang/Object" ∈ lw_tbl := (lw_ch_in 8 _ (List.mem_of_getElem? (i := 200) rfl))
theorem cst6 : Cond.castable "ModedMill$Predicate" "java/lang/Object" ∈ lw_tbl := (lw_ch_in 8 _ (List.mem_of_getElem? (i := 217) rfl))
theorem cst1 : Cond.castable "ModedMill$Clause" "java/lang/Object" ∈ lw_tbl := (lw_ch_in 8 _ (List.mem_of_getElem? (i := 218) rfl))
theorem cst2 : Cond.castable "ModedMill$Frame" "java/lang/Object" ∈ lw_tbl := (lw_ch_in 8 _ (List.mem_of_getElem? (i := 219) rfl))
theorem lEl3 {w : zW} {y : Nat} {o : Nat} {f : List zV} (h : w.1 y = some ((3, o, f) : zO)) : lEl w y := ⟨3, o, f, _, h, by decide, rfl, cst3⟩
theorem lEl5 {w : zW} {y : Nat} {o : Nat} {f : List zV} (h : w.1 y = some ((5, o, f) : zO)) : lEl w y := ⟨5, o, f, _, h, by decide, rfl, cst5⟩
theorem lEl6 {w : zW} {y : Nat} {o : Nat} {f : List zV} (h : w.1 y = some ((6, o, f) : zO)) : lEl w y := ⟨6, o, f, _, h, by decide, rfl, cst6⟩
theorem lEl1 {w : zW} {y : Nat} {o : Nat} {f : List zV} (h : w.1 y = some ((1, o, f) : zO)) : lEl w y := ⟨1, o, f, _, h, by decide, rfl, cst1⟩
theorem lEl2 {w : zW} {y : Nat} {o : Nat} {f : List zV} (h : w.1 y = some ((2, o, f) : zO)) : lEl w y := ⟨2, o, f, _, h, by decide, rfl, cst2⟩
theorem ngT_s {xs : List Int} {a b c : Int} {n q : Nat} {T : List (List Int)} : ngT xs a b c (n + 1) q T = ngT xs a b c n (q + 1) (ts T (zVa xs (q : Int)) 0 (pk (q : Int) a b c)) := rfl
theorem c_X1_newGoal {c : Nat} {nu : Int} {pr ty gs le ns od ch kn cap : Nat} {T : List (List Int)} {Gs : List Nat} {LE NS KN : List Int} {OD CH : List (Option Nat)} (hC : clW w c nu pr ty gs le ns od ch kn T cap Gs LE NS KN OD CH) {g va og ov : Nat} {gk gs2 gn : Int} {xs : List Int} (hg : w.1 g = some (3, og, [zI gk, zI gs2, zI gn, zR va])) (hv : w.1 va = some (100, ov, xs.map Sum.inl)) (hx : xs.length < 100) (hgn : 0 ≤ gn ∧ gn ≤ 3) (h0c : Gs = [] → cap = 0) (hcp : Gs.length ≤ cap) (hGl : Gs.length < 20000) (hys : ∀ z ∈ Gs, lEl w z) (hrm : Gs ≠ [] ∧ Gs.length < cap ∨ w.2.1 + 1 ≤ G.2.2.2.2.1 ∧ w.2.2 + (10 + cap + cap / 2) ≤ G.2.2.2.2.2) (a0 b0 c0 : Int) : zM G zm_X1_newGoal (d + 6) [zR c, zR g, zI a0, zI b0, zI c0] w (zRet (some (zI (Gs.length : Int))) (lAw (zput w ty (133, c, tTb 1 8 (ngT xs a0 b0 c0 gn.toNat 0 T))) gs 165 c cap Gs g)) := by
  refine zx_ent (by decide +kernel) rfl (Nat.le_of_ble_eq_true rfl) ?_
  obtain ⟨h0, ⟨hty, okT⟩, hgs, ⟨hle, nle⟩, ⟨hns, nns⟩, ⟨hod, nod⟩, ⟨hch, nch⟩, ⟨hkn, nkn⟩⟩ := hC
  have loop : ∀ (n q : Nat) (T1 : List (List Int)), tOk 1 T1 → (q : Int) + n = gn → ∀ w1, w1 = zput w ty (133, c, tTb 1 8 T1) → zX G zm_X1_newGoal (d + 6) [zR c, zR g, zI a0, zI b0, zI c0] w (zRet (some (zI (Gs.length : Int))) (lAw (zput w ty (133, c, tTb 1 8 (ngT xs a0 b0 c0 n q T1))) gs 165 c cap Gs g)) 3 [some (zR c), some (zR g), some (zI a0), some (zI b0), some (zI c0), some (zI (q : Int))] [] w1 := by
    intro n
    induction n with
    | zero =>
      intro q T1 ok1 hq w1 hw
      have g0 : w1.1 c = some (1, 0, [zI nu, zR pr, zR ty, zR gs, zR le, zR ns, zR od, zR ch, zR kn]) := by rw [hw]; exact zput_tg hty h0 (by simp)
      have ggs : w1.1 gs = some (165, c, zLs cap Gs) := by rw [hw]; exact zput_tg hty hgs (by simp)
      have gg : w1.1 g = some (3, og, [zI gk, zI gs2, zI gn, zR va]) := by rw [hw]; exact zput_tg hty hg (by simp)
      have gva : w1.1 va = some (100, ov, xs.map Sum.inl) := by rw [hw]; exact zput_tg hty hv (by simp)
      have gty : w1.1 ty = some (133, c, tTb 1 8 T1) := by rw [hw]; exact zput_at
      have hyl : lEl w1 g := lEl3 gg
      have hys1 : ∀ z ∈ Gs, lEl w1 z := fun z hz => by rw [hw]; exact lEl_put (hys z hz) (lEl_ne (hys z hz) hty (by omega))
      have hrm1 : Gs ≠ [] ∧ Gs.length < cap ∨ w1.2.1 + 1 ≤ G.2.2.2.2.1 ∧ w1.2.2 + (10 + cap + cap / 2) ≤ G.2.2.2.2.2 := by rw [hw]; exact hrm
      refine zx_iload (i := 5) dX1_newGoal_3 rfl ?_
      refine zx_aload_n (i := 1) dX1_newGoal_5 rfl rfl ?_
      refine zx_getfield dX1_newGoal_6 zf_X1_78 gg rfl ?_
      refine zx_icmp_ge (tgt := 41) dX1_newGoal_9 (by decide) (fun h9 => ?_) (fun h9 => absurd (by omega) h9)
      refine zx_aload_n (i := 0) dX1_newGoal_41 rfl rfl ?_
      refine zx_getfield dX1_newGoal_42 zf_X1_41 g0 rfl ?_
      refine zx_aload_n (i := 1) dX1_newGoal_45 rfl rfl ?_
      refine zx_ok (fun ok_1 => ?_)
      obtain ⟨w_2, hw_3⟩ : ∃ ww, ww = lAw w1 gs 165 c cap Gs g := ⟨_, rfl⟩
      have h_4 : w_2.1 gs = some (165, c, zLs (lCap cap Gs) (Gs ++ [g])) := by rw [hw_3]; exact lAw_at
      refine zx_iv (b := gs) (As := [zR g]) (st := []) (v := (some (zI 1))) (w1 := w_2) dX1_newGoal_46 zc_X1_93 ggs (z_cls12 (by decide)) rfl rfl (Nat.le_of_ble_eq_true rfl) rfl (by rw [hw_3]; exact (c_list_add ggs (by decide) h0c hcp hGl hyl hys1 hrm1)) ?_
      refine zx_st (st1 := [zI 1]) rfl ?_
      refine zx_pop dX1_newGoal_49 (fun a h => by cases h) ?_
      refine zx_aload_n (i := 0) dX1_newGoal_50 rfl rfl ?_
      have h_5 : w_2.1 c = some (1, 0, [zI nu, zR pr, zR ty, zR gs, zR le, zR ns, zR od, zR ch, zR kn]) := by
        rw [hw_3]; exact (lAw_to ok_1 (zne_tg ggs g0 (by simp)) g0)
      refine zx_getfield dX1_newGoal_51 zf_X1_41 h_5 rfl ?_
      refine zx_pc (pc1 := 54) rfl ?_
      refine zx_iv (b := gs) (As := []) (st := []) (v := (some (zI ((Gs ++ [g]).length : Int)))) (w1 := w_2) dX1_newGoal_54 zc_X1_71 h_4 (z_cls12 (by decide)) rfl rfl (Nat.le_of_ble_eq_true rfl) rfl (c_list_size h_4 (by decide)) ?_
      refine zx_st (st1 := [zI ((Gs ++ [g]).length : Int)]) rfl ?_
      refine zx_iconst (v := 1) dX1_newGoal_57 rfl (z32_lit (by decide) (by decide)) ?_
      refine zx_isub (v := (Gs.length : Int)) dX1_newGoal_58 (zw_eq (by simp) (by omega) (by omega)) ?_
      refine zx_iret dX1_newGoal_59 rfl ?_
      exact zr_v rfl (by rw [hw_3, hw]; rfl)
    | succ n ih =>
      intro q T1 ok1 hq w1 hw
      have g0 : w1.1 c = some (1, 0, [zI nu, zR pr, zR ty, zR gs, zR le, zR ns, zR od, zR ch, zR kn]) := by rw [hw]; exact zput_tg hty h0 (by simp)
      have ggs : w1.1 gs = some (165, c, zLs cap Gs) := by rw [hw]; exact zput_tg hty hgs (by simp)
      have gg : w1.1 g = some (3, og, [zI gk, zI gs2, zI gn, zR va]) := by rw [hw]; exact zput_tg hty hg (by simp)
      have gva : w1.1 va = some (100, ov, xs.map Sum.inl) := by rw [hw]; exact zput_tg hty hv (by simp)
      have gty : w1.1 ty = some (133, c, tTb 1 8 T1) := by rw [hw]; exact zput_at
      rw [ngT_s]
      refine zx_iload (i := 5) dX1_newGoal_3 rfl ?_
      refine zx_aload_n (i := 1) dX1_newGoal_5 rfl rfl ?_
      refine zx_getfield dX1_newGoal_6 zf_X1_78 gg rfl ?_
      refine zx_icmp_ge (tgt := 41) dX1_newGoal_9 (by decide) (fun h9 => absurd h9 (by omega)) (fun h9 => ?_)
      refine zx_aload_n (i := 0) dX1_newGoal_12 rfl rfl ?_
      refine zx_getfield dX1_newGoal_13 zf_X1_24 g0 rfl ?_
      refine zx_aload_n (i := 1) dX1_newGoal_16 rfl rfl ?_
      refine zx_iload (i := 5) dX1_newGoal_17 rfl ?_
      refine zx_iv (b := g) (As := [zI (q : Int)]) (st := [zR ty]) (v := (some (zI (zVa xs (q : Int))))) (w1 := w1) dX1_newGoal_19 zc_X1_85 gg rfl rfl rfl (Nat.le_of_ble_eq_true rfl) rfl (c_X3_variableAt gg gva hx (q : Int)) ?_
      refine zx_st (st1 := [zI (zVa xs (q : Int)), zR ty]) rfl ?_
      refine zx_iconst (v := 0) dX1_newGoal_22 rfl (z32_lit (by decide) (by decide)) ?_
      refine zx_iload (i := 5) dX1_newGoal_23 rfl ?_
      refine zx_pc (pc1 := 25) rfl ?_
      refine zx_iload_n (i := 2) dX1_newGoal_25 rfl rfl ?_
      refine zx_iload_n (i := 3) dX1_newGoal_26 rfl rfl ?_
      refine zx_iload (i := 4) dX1_newGoal_27 rfl ?_
      refine zx_iN (As := [zI (q : Int), zI a0, zI b0, zI c0]) (st := [zI 0, zI (zVa xs (q : Int)), zR ty]) (v := (some (zI (pk (q : Int) a0 b0 c0)))) (w1 := w1) dX1_newGoal_29 zc_X1_81 rfl (Nat.le_of_ble_eq_true rfl) rfl (c_X11_pick (q : Int) a0 b0 c0) ?_
      refine zx_st (st1 := [zI (pk (q : Int) a0 b0 c0), zI 0, zI (zVa xs (q : Int)), zR ty]) rfl ?_
      obtain ⟨w_1, hw_2⟩ : ∃ ww, ww = zput w1 ty (133, c, tTb 1 8 (ts T1 (zVa xs (q : Int)) 0 (pk (q : Int) a0 b0 c0))) := ⟨_, rfl⟩
      have h_3 : w_1.1 ty = some (133, c, tTb 1 8 (ts T1 (zVa xs (q : Int)) 0 (pk (q : Int) a0 b0 c0))) := by rw [hw_2]; exact zput_at
      refine zx_iv (b := ty) (As := [zI (zVa xs (q : Int)), zI 0, zI (pk (q : Int) a0 b0 c0)]) (st := []) (v := none) (w1 := w_1) dX1_newGoal_32 zc_X1_89 gty (z_cls9 (by decide)) rfl rfl (Nat.le_of_ble_eq_true rfl) rfl (by rw [hw_2]; exact (c_X9_set gty (by decide) ok1 (zVa xs (q : Int)) 0 (pk (q : Int) a0 b0 c0))) ?_
      refine zx_st (st1 := []) rfl ?_
      refine zx_iinc (i := 5) (v := ((q + 1 : Nat) : Int)) dX1_newGoal_35 rfl (zw_eq (by omega) (by omega) (by omega)) (by decide) rfl ?_
      refine zx_L (L1 := [some (zR c), some (zR g), some (zI a0), some (zI b0), some (zI c0), some (zI ((q + 1 : Nat) : Int))]) rfl ?_
      refine zx_goto (tgt := 3) dX1_newGoal_38 (by decide) ?_
      exact ih (q + 1) _ (tOk_ts ok1) (by omega) _ (by rw [hw_2, hw, zput_put])
  refine zx_L (L1 := [some (zR c), some (zR g), some (zI a0), some (zI b0), some (zI c0), none]) rfl ?_
  refine zx_iconst (v := 0) dX1_newGoal_0 rfl (z32_lit (by decide) (by decide)) ?_
  refine zx_istore (i := 5) dX1_newGoal_1 (by decide) rfl ?_
  refine zx_L (L1 := [some (zR c), some (zR g), some (zI a0), some (zI b0), some (zI c0), some (zI 0)]) rfl ?_
  exact loop gn.toNat 0 T okT (by omega) w (by rw [zput_id hty])
theorem csl_set {LE : List Int} {m k : Nat} (hm : m < 2) (hk : k < 5) (hl : LE.length = 2) : csl (LE.set m ((k + 1 : Nat) : Int)) (m : Int) (k : Int) = ((m * 5 + k : Nat) : Int) := by
  unfold csl
  have e : (LE.set m ((k + 1 : Nat) : Int)).getD m 0 = ((k + 1 : Nat) : Int) := by rw [List.getD_eq_getElem?_getD, List.getElem?_set_self (by omega)]; rfl
  rw [Int.toNat_natCast, e, if_pos (by omega)]
  omega
theorem lob_setN {os : List (Option Nat)} {i : Nat} : (lob os).set i zN = lob (os.set i none) := by
  unfold lob
  rw [← List.map_set]
theorem c_X1_takeNext1 {c : Nat} {nu : Int} {pr ty gs le ns od ch kn cap : Nat} {T : List (List Int)} {Gs : List Nat} {LE NS KN : List Int} {OD CH : List (Option Nat)} (hC : clW w c nu pr ty gs le ns od ch kn T cap Gs LE NS KN OD CH) {g : Nat} {m k : Nat} {go kw : Int} {x0 xa : Nat} {xb : List zV} (hx0 : w.1 x0 = some (5, xa, xb)) (hm : m < 2) (hk : cln LE (m : Int) = (k : Int)) (hk5 : k < 5) (hg0 : lAt Gs go = some g) (hel : ∀ y ∈ Gs, ∃ a b, w.1 y = some ((3, a, b) : zO)) : zM G zm_X1_takeNext (d + 4) [zR c, zI (m : Int), zI go, zR x0, zI kw] w (zRet none (zput (zput (zput (zput (zput w le (101, c, (LE.set m ((k + 1 : Nat) : Int)).map Sum.inl)) ns (102, c, (NS.set (m * 5 + k) go).map Sum.inl)) od (125, c, lob (OD.set (m * 5 + k) (some g)))) ch (126, c, lob (CH.set (m * 5 + k) (some x0)))) kn (103, c, (KN.set (m * 5 + k) kw).map Sum.inl))) := by
  refine zx_ent (by decide +kernel) rfl (Nat.le_of_ble_eq_true rfl) ?_
  refine zx_L (L1 := [some (zR c), some (zI (m : Int)), some (zI go), some (zR x0), some (zI kw), none, none]) rfl ?_
  have hC0 := hC
  obtain ⟨h0, ⟨hty, okT⟩, hgs, ⟨hle, nle⟩, ⟨hns, nns⟩, ⟨hod, nod⟩, ⟨hch, nch⟩, ⟨hkn, nkn⟩⟩ := hC
  obtain ⟨ga, gb, hg3⟩ := hel g (lAt_mem hg0)
  refine zx_aload_n (i := 0) dX1_takeNext_0 rfl rfl ?_
  refine zx_iload_n (i := 1) dX1_takeNext_1 rfl rfl ?_
  refine zx_iv (b := c) (As := [zI (m : Int)]) (st := []) (v := (some (zI (k : Int)))) (w1 := w) dX1_takeNext_2 zc_X1_96 h0 rfl rfl rfl (Nat.le_of_ble_eq_true rfl) rfl (by have q := c_X1_placeCount (G := G) (d := d + 3) hC0 (m : Int); rw [hk] at q; exact q) ?_
  refine zx_st (st1 := [zI (k : Int)]) rfl ?_
  refine zx_istore (i := 5) dX1_takeNext_5 (by decide) rfl ?_
  refine zx_L (L1 := [some (zR c), some (zI (m : Int)), some (zI go), some (zR x0), some (zI kw), some (zI (k : Int)), none]) rfl ?_
  refine zx_iload_n (i := 1) dX1_takeNext_7 rfl rfl ?_
  refine zx_if_lt (tgt := 26) dX1_takeNext_8 (by decide) (fun h8 => absurd h8 (by omega)) (fun h8 => ?_)
  refine zx_iload_n (i := 1) dX1_takeNext_11 rfl rfl ?_
  refine zx_aload_n (i := 0) dX1_takeNext_12 rfl rfl ?_
  refine zx_getfield dX1_takeNext_13 zf_X1_45 h0 rfl ?_
  refine zx_alen (n := 2) dX1_takeNext_16 hle (by first | decide | omega) (by rw [List.length_map]; exact nle) (by decide) ?_
  refine zx_icmp_ge (tgt := 26) dX1_takeNext_17 (by decide) (fun h17 => absurd h17 (by omega)) (fun h17 => ?_)
  refine zx_pc (pc1 := 20) rfl ?_
  refine zx_iload (i := 5) dX1_takeNext_20 rfl ?_
  refine zx_iconst (v := 5) dX1_takeNext_22 rfl (z32_lit (by decide) (by decide)) ?_
  refine zx_icmp_lt (tgt := 27) dX1_takeNext_23 (by decide) (fun h23 => ?_) (fun h23 => absurd (by omega) h23)
  refine zx_aload_n (i := 0) dX1_takeNext_27 rfl rfl ?_
  refine zx_getfield dX1_takeNext_28 zf_X1_45 h0 rfl ?_
  refine zx_iload_n (i := 1) dX1_takeNext_31 rfl rfl ?_
  refine zx_iload (i := 5) dX1_takeNext_32 rfl ?_
  refine zx_iconst (v := 1) dX1_takeNext_34 rfl (z32_lit (by decide) (by decide)) ?_
  refine zx_iadd (v := ((k + 1 : Nat) : Int)) dX1_takeNext_35 (zw_eq (by omega) (by omega) (by omega)) ?_
  obtain ⟨w_1, hw_2⟩ : ∃ ww, ww = zput w le (101, c, (LE.set m ((k + 1 : Nat) : Int)).map Sum.inl) := ⟨_, rfl⟩
  refine zx_ias (w1 := w_1) dX1_takeNext_36 hle (by first | decide | omega) (by omega) (by rw [List.length_map]; omega) (by rw [hw_2, Int.toNat_natCast, List.map_set]) ?_
  have h_3 : w_1.1 le = some (101, c, (LE.set m ((k + 1 : Nat) : Int)).map Sum.inl) := by rw [hw_2]; exact zput_at
  refine zx_aload_n (i := 0) dX1_takeNext_37 rfl rfl ?_
  refine zx_iload_n (i := 1) dX1_takeNext_38 rfl rfl ?_
  refine zx_pc (pc1 := 39) rfl ?_
  refine zx_iload (i := 5) dX1_takeNext_39 rfl ?_
  have h_4 : w_1.1 c = some (1, 0, [zI nu, zR pr, zR ty, zR gs, zR le, zR ns, zR od, zR ch, zR kn]) := by
    rw [hw_2]; exact zput_tg hle h0 (by simp)
  have h_5 : w_1.1 ty = some (133, c, tTb 1 8 T) := by
    rw [hw_2]; exact zput_tg hle hty (by simp)
  have h_6 : w_1.1 gs = some (165, c, zLs cap Gs) := by
    rw [hw_2]; exact zput_tg hle hgs (by simp)
  have h_7 : w_1.1 ns = some (102, c, NS.map Sum.inl) := by
    rw [hw_2]; exact zput_tg hle hns (by simp)
  have h_8 : w_1.1 od = some (125, c, lob OD) := by
    rw [hw_2]; exact zput_tg hle hod (by simp)
  have h_9 : w_1.1 ch = some (126, c, lob CH) := by
    rw [hw_2]; exact zput_tg hle hch (by simp)
  have h_10 : w_1.1 kn = some (103, c, KN.map Sum.inl) := by
    rw [hw_2]; exact zput_tg hle hkn (by simp)
  refine zx_iv (b := c) (As := [zI (m : Int), zI (k : Int)]) (st := []) (v := (some (zI ((m * 5 + k : Nat) : Int)))) (w1 := w_1) dX1_takeNext_41 zc_X1_99 h_4 rfl rfl rfl (Nat.le_of_ble_eq_true rfl) rfl (by have q := c_X1_slot (G := G) (d := d + 3) ⟨h_4, ⟨h_5, okT⟩, h_6, ⟨h_3, by rw [List.length_set]; exact nle⟩, ⟨h_7, nns⟩, ⟨h_8, nod⟩, ⟨h_9, nch⟩, ⟨h_10, nkn⟩⟩ (m : Int) (k : Int); rw [csl_set hm hk5 nle] at q; exact q) ?_
  refine zx_st (st1 := [zI ((m * 5 + k : Nat) : Int)]) rfl ?_
  refine zx_istore (i := 6) dX1_takeNext_44 (by decide) rfl ?_
  refine zx_L (L1 := [some (zR c), some (zI (m : Int)), some (zI go), some (zR x0), some (zI kw), some (zI (k : Int)), some (zI ((m * 5 + k : Nat) : Int))]) rfl ?_
  refine zx_iload (i := 6) dX1_takeNext_46 rfl ?_
  refine zx_if_lt (tgt := 128) dX1_takeNext_48 (by decide) (fun h48 => absurd h48 (by omega)) (fun h48 => ?_)
  refine zx_iload (i := 6) dX1_takeNext_51 rfl ?_
  refine zx_aload_n (i := 0) dX1_takeNext_53 rfl rfl ?_
  refine zx_getfield dX1_takeNext_54 zf_X1_49 h_4 rfl ?_
  refine zx_alen (n := 10) dX1_takeNext_57 h_7 (by first | decide | omega) (by rw [List.length_map]; exact nns) (by decide) ?_
  refine zx_icmp_ge (tgt := 128) dX1_takeNext_58 (by decide) (fun h58 => absurd h58 (by omega)) (fun h58 => ?_)
  refine zx_iload (i := 6) dX1_takeNext_61 rfl ?_
  refine zx_aload_n (i := 0) dX1_takeNext_63 rfl rfl ?_
  refine zx_pc (pc1 := 64) rfl ?_
  refine zx_getfield dX1_takeNext_64 zf_X1_54 h_4 rfl ?_
  refine zx_alen (n := 10) dX1_takeNext_67 h_8 (by first | decide | omega) (by rw [lob_len]; exact nod) (by decide) ?_
  refine zx_icmp_ge (tgt := 128) dX1_takeNext_68 (by decide) (fun h68 => absurd h68 (by omega)) (fun h68 => ?_)
  refine zx_iload (i := 6) dX1_takeNext_71 rfl ?_
  refine zx_aload_n (i := 0) dX1_takeNext_73 rfl rfl ?_
  refine zx_getfield dX1_takeNext_74 zf_X1_60 h_4 rfl ?_
  refine zx_alen (n := 10) dX1_takeNext_77 h_9 (by first | decide | omega) (by rw [lob_len]; exact nch) (by decide) ?_
  refine zx_icmp_ge (tgt := 128) dX1_takeNext_78 (by decide) (fun h78 => absurd h78 (by omega)) (fun h78 => ?_)
  refine zx_iload (i := 6) dX1_takeNext_81 rfl ?_
  refine zx_aload_n (i := 0) dX1_takeNext_83 rfl rfl ?_
  refine zx_getfield dX1_takeNext_84 zf_X1_64 h_4 rfl ?_
  refine zx_alen (n := 10) dX1_takeNext_87 h_10 (by first | decide | omega) (by rw [List.length_map]; exact nkn) (by decide) ?_
  refine zx_pc (pc1 := 88) rfl ?_
  refine zx_icmp_ge (tgt := 128) dX1_takeNext_88 (by decide) (fun h88 => absurd h88 (by omega)) (fun h88 => ?_)
  refine zx_aload_n (i := 0) dX1_takeNext_91 rfl rfl ?_
  refine zx_getfield dX1_takeNext_92 zf_X1_49 h_4 rfl ?_
  refine zx_iload (i := 6) dX1_takeNext_95 rfl ?_
  refine zx_iload_n (i := 2) dX1_takeNext_97 rfl rfl ?_
  obtain ⟨w_11, hw_12⟩ : ∃ ww, ww = zput w_1 ns (102, c, (NS.set (m * 5 + k) go).map Sum.inl) := ⟨_, rfl⟩
  refine zx_ias (w1 := w_11) dX1_takeNext_98 h_7 (by first | decide | omega) (by omega) (by rw [List.length_map]; omega) (by rw [hw_12, Int.toNat_natCast, List.map_set]) ?_
  have h_13 : w_11.1 ns = some (102, c, (NS.set (m * 5 + k) go).map Sum.inl) := by rw [hw_12]; exact zput_at
  refine zx_aload_n (i := 0) dX1_takeNext_99 rfl rfl ?_
  have h_14 : w_11.1 c = some (1, 0, [zI nu, zR pr, zR ty, zR gs, zR le, zR ns, zR od, zR ch, zR kn]) := by
    rw [hw_12]; exact zput_tg h_7 h_4 (by simp)
  refine zx_getfield dX1_takeNext_100 zf_X1_54 h_14 rfl ?_
  refine zx_iload (i := 6) dX1_takeNext_103 rfl ?_
  refine zx_aload_n (i := 0) dX1_takeNext_105 rfl rfl ?_
  refine zx_iload_n (i := 2) dX1_takeNext_106 rfl rfl ?_
  have hel2 : ∀ y ∈ Gs, ∃ a b, w_11.1 y = some ((3, a, b) : zO) := fun y hy => by
    obtain ⟨a, b, h⟩ := hel y hy
    have h0_ : w_1.1 y = some ((3, a, b) : zO) := by rw [hw_2]; exact zput_tg hle h (by simp)
    have h1_ : w_11.1 y = some ((3, a, b) : zO) := by rw [hw_12]; exact zput_tg h_7 h0_ (by simp)
    exact ⟨a, b, h1_⟩
  have h_15 : w_11.1 gs = some (165, c, zLs cap Gs) := by
    rw [hw_12]; exact zput_tg h_7 h_6 (by simp)
  refine zx_iv (b := c) (As := [zI go]) (st := [zI ((m * 5 + k : Nat) : Int), zR od]) (v := (some (zR g))) (w1 := w_11) dX1_takeNext_107 zc_X1_102 h_14 rfl rfl rfl (Nat.le_of_ble_eq_true rfl) rfl (by have q := c_X1_goalNumbered (G := G) (d := d) h_14 h_15 hel2 go; rw [hg0] at q; exact q) ?_
  refine zx_st (st1 := [zR g, zI ((m * 5 + k : Nat) : Int), zR od]) rfl ?_
  refine zx_pc (pc1 := 110) rfl ?_
  have h_16 : w_11.1 od = some (125, c, lob OD) := by
    rw [hw_12]; exact zput_tg h_7 h_8 (by simp)
  have h_17 : w_1.1 g = some (3, ga, gb) := by
    rw [hw_2]; exact zput_tg hle hg3 (by simp)
  have h_18 : w_11.1 g = some (3, ga, gb) := by
    rw [hw_12]; exact zput_tg h_7 h_17 (by simp)
  obtain ⟨w_19, hw_20⟩ : ∃ ww, ww = zput w_11 od (125, c, lob (OD.set (m * 5 + k) (some g))) := ⟨_, rfl⟩
  refine zx_asQ (w1 := w_19) dX1_takeNext_110 h_16 h_18 (by first | exact Or.inl ⟨rfl, rfl⟩ | exact Or.inr ⟨rfl, rfl⟩) (by omega) (by rw [lob_len]; omega) (by rw [hw_20, Int.toNat_natCast, lob_set]) ?_
  have h_21 : w_19.1 od = some (125, c, lob (OD.set (m * 5 + k) (some g))) := by rw [hw_20]; exact zput_at
  refine zx_aload_n (i := 0) dX1_takeNext_111 rfl rfl ?_
  have h_22 : w_19.1 c = some (1, 0, [zI nu, zR pr, zR ty, zR gs, zR le, zR ns, zR od, zR ch, zR kn]) := by
    rw [hw_20]; exact zput_tg h_16 h_14 (by simp)
  refine zx_getfield dX1_takeNext_112 zf_X1_60 h_22 rfl ?_
  refine zx_iload (i := 6) dX1_takeNext_115 rfl ?_
  refine zx_aload_n (i := 3) dX1_takeNext_117 rfl rfl ?_
  have h_23 : w_11.1 ch = some (126, c, lob CH) := by
    rw [hw_12]; exact zput_tg h_7 h_9 (by simp)
  have h_24 : w_19.1 ch = some (126, c, lob CH) := by
    rw [hw_20]; exact zput_tg h_16 h_23 (by simp)
  have h_25 : w_1.1 x0 = some (5, xa, xb) := by
    rw [hw_2]; exact zput_tg hle hx0 (by simp)
  have h_26 : w_11.1 x0 = some (5, xa, xb) := by
    rw [hw_12]; exact zput_tg h_7 h_25 (by simp)
  have h_27 : w_19.1 x0 = some (5, xa, xb) := by
    rw [hw_20]; exact zput_tg h_16 h_26 (by simp)
  obtain ⟨w_28, hw_29⟩ : ∃ ww, ww = zput w_19 ch (126, c, lob (CH.set (m * 5 + k) (some x0))) := ⟨_, rfl⟩
  refine zx_asQ (w1 := w_28) dX1_takeNext_118 h_24 h_27 (by first | exact Or.inl ⟨rfl, rfl⟩ | exact Or.inr ⟨rfl, rfl⟩) (by omega) (by rw [lob_len]; omega) (by rw [hw_29, Int.toNat_natCast, lob_set]) ?_
  have h_30 : w_28.1 ch = some (126, c, lob (CH.set (m * 5 + k) (some x0))) := by rw [hw_29]; exact zput_at
  refine zx_aload_n (i := 0) dX1_takeNext_119 rfl rfl ?_
  have h_31 : w_28.1 c = some (1, 0, [zI nu, zR pr, zR ty, zR gs, zR le, zR ns, zR od, zR ch, zR kn]) := by
    rw [hw_29]; exact zput_tg h_24 h_22 (by simp)
  refine zx_getfield dX1_takeNext_120 zf_X1_64 h_31 rfl ?_
  refine zx_iload (i := 6) dX1_takeNext_123 rfl ?_
  refine zx_iload (i := 4) dX1_takeNext_125 rfl ?_
  have h_32 : w_11.1 kn = some (103, c, KN.map Sum.inl) := by
    rw [hw_12]; exact zput_tg h_7 h_10 (by simp)
  have h_33 : w_19.1 kn = some (103, c, KN.map Sum.inl) := by
    rw [hw_20]; exact zput_tg h_16 h_32 (by simp)
  have h_34 : w_28.1 kn = some (103, c, KN.map Sum.inl) := by
    rw [hw_29]; exact zput_tg h_24 h_33 (by simp)
  obtain ⟨w_35, hw_36⟩ : ∃ ww, ww = zput w_28 kn (103, c, (KN.set (m * 5 + k) kw).map Sum.inl) := ⟨_, rfl⟩
  refine zx_ias (w1 := w_35) dX1_takeNext_127 h_34 (by first | decide | omega) (by omega) (by rw [List.length_map]; omega) (by rw [hw_36, Int.toNat_natCast, List.map_set]) ?_
  have h_37 : w_35.1 kn = some (103, c, (KN.set (m * 5 + k) kw).map Sum.inl) := by rw [hw_36]; exact zput_at
  refine zx_return dX1_takeNext_128 rfl ?_
  exact zr_n (by rw [hw_36, hw_29, hw_20, hw_12, hw_2])
theorem c_X1_takeNext0 {c : Nat} {nu : Int} {pr ty gs le ns od ch kn cap : Nat} {T : List (List Int)} {Gs : List Nat} {LE NS KN : List Int} {OD CH : List (Option Nat)} (hC : clW w c nu pr ty gs le ns od ch kn T cap Gs LE NS KN OD CH) {g : Nat} {m k : Nat} {go kw : Int} (hm : m < 2) (hk : cln LE (m : Int) = (k : Int)) (hk5 : k < 5) (hg0 : lAt Gs go = some g) (hel : ∀ y ∈ Gs, ∃ a b, w.1 y = some ((3, a, b) : zO)) : zM G zm_X1_takeNext (d + 4) [zR c, zI (m : Int), zI go, zN, zI kw] w (zRet none (zput (zput (zput (zput (zput w le (101, c, (LE.set m ((k + 1 : Nat) : Int)).map Sum.inl)) ns (102, c, (NS.set (m * 5 + k) go).map Sum.inl)) od (125, c, lob (OD.set (m * 5 + k) (some g)))) ch (126, c, lob (CH.set (m * 5 + k) (none)))) kn (103, c, (KN.set (m * 5 + k) kw).map Sum.inl))) := by
  refine zx_ent (by decide +kernel) rfl (Nat.le_of_ble_eq_true rfl) ?_
  refine zx_L (L1 := [some (zR c), some (zI (m : Int)), some (zI go), some (zN), some (zI kw), none, none]) rfl ?_
  have hC0 := hC
  obtain ⟨h0, ⟨hty, okT⟩, hgs, ⟨hle, nle⟩, ⟨hns, nns⟩, ⟨hod, nod⟩, ⟨hch, nch⟩, ⟨hkn, nkn⟩⟩ := hC
  obtain ⟨ga, gb, hg3⟩ := hel g (lAt_mem hg0)
  refine zx_aload_n (i := 0) dX1_takeNext_0 rfl rfl ?_
  refine zx_iload_n (i := 1) dX1_takeNext_1 rfl rfl ?_
  refine zx_iv (b := c) (As := [zI (m : Int)]) (st := []) (v := (some (zI (k : Int)))) (w1 := w) dX1_takeNext_2 zc_X1_96 h0 rfl rfl rfl (Nat.le_of_ble_eq_true rfl) rfl (by have q := c_X1_placeCount (G := G) (d := d + 3) hC0 (m : Int); rw [hk] at q; exact q) ?_
  refine zx_st (st1 := [zI (k : Int)]) rfl ?_
  refine zx_istore (i := 5) dX1_takeNext_5 (by decide) rfl ?_
  refine zx_L (L1 := [some (zR c), some (zI (m : Int)), some (zI go), some (zN), some (zI kw), some (zI (k : Int)), none]) rfl ?_
  refine zx_iload_n (i := 1) dX1_takeNext_7 rfl rfl ?_
  refine zx_if_lt (tgt := 26) dX1_takeNext_8 (by decide) (fun h8 => absurd h8 (by omega)) (fun h8 => ?_)
  refine zx_iload_n (i := 1) dX1_takeNext_11 rfl rfl ?_
  refine zx_aload_n (i := 0) dX1_takeNext_12 rfl rfl ?_
  refine zx_getfield dX1_takeNext_13 zf_X1_45 h0 rfl ?_
  refine zx_alen (n := 2) dX1_takeNext_16 hle (by first | decide | omega) (by rw [List.length_map]; exact nle) (by decide) ?_
  refine zx_icmp_ge (tgt := 26) dX1_takeNext_17 (by decide) (fun h17 => absurd h17 (by omega)) (fun h17 => ?_)
  refine zx_pc (pc1 := 20) rfl ?_
  refine zx_iload (i := 5) dX1_takeNext_20 rfl ?_
  refine zx_iconst (v := 5) dX1_takeNext_22 rfl (z32_lit (by decide) (by decide)) ?_
  refine zx_icmp_lt (tgt := 27) dX1_takeNext_23 (by decide) (fun h23 => ?_) (fun h23 => absurd (by omega) h23)
  refine zx_aload_n (i := 0) dX1_takeNext_27 rfl rfl ?_
  refine zx_getfield dX1_takeNext_28 zf_X1_45 h0 rfl ?_
  refine zx_iload_n (i := 1) dX1_takeNext_31 rfl rfl ?_
  refine zx_iload (i := 5) dX1_takeNext_32 rfl ?_
  refine zx_iconst (v := 1) dX1_takeNext_34 rfl (z32_lit (by decide) (by decide)) ?_
  refine zx_iadd (v := ((k + 1 : Nat) : Int)) dX1_takeNext_35 (zw_eq (by omega) (by omega) (by omega)) ?_
  obtain ⟨w_1, hw_2⟩ : ∃ ww, ww = zput w le (101, c, (LE.set m ((k + 1 : Nat) : Int)).map Sum.inl) := ⟨_, rfl⟩
  refine zx_ias (w1 := w_1) dX1_takeNext_36 hle (by first | decide | omega) (by omega) (by rw [List.length_map]; omega) (by rw [hw_2, Int.toNat_natCast, List.map_set]) ?_
  have h_3 : w_1.1 le = some (101, c, (LE.set m ((k + 1 : Nat) : Int)).map Sum.inl) := by rw [hw_2]; exact zput_at
  refine zx_aload_n (i := 0) dX1_takeNext_37 rfl rfl ?_
  refine zx_iload_n (i := 1) dX1_takeNext_38 rfl rfl ?_
  refine zx_pc (pc1 := 39) rfl ?_
  refine zx_iload (i := 5) dX1_takeNext_39 rfl ?_
  have h_4 : w_1.1 c = some (1, 0, [zI nu, zR pr, zR ty, zR gs, zR le, zR ns, zR od, zR ch, zR kn]) := by
    rw [hw_2]; exact zput_tg hle h0 (by simp)
  have h_5 : w_1.1 ty = some (133, c, tTb 1 8 T) := by
    rw [hw_2]; exact zput_tg hle hty (by simp)
  have h_6 : w_1.1 gs = some (165, c, zLs cap Gs) := by
    rw [hw_2]; exact zput_tg hle hgs (by simp)
  have h_7 : w_1.1 ns = some (102, c, NS.map Sum.inl) := by
    rw [hw_2]; exact zput_tg hle hns (by simp)
  have h_8 : w_1.1 od = some (125, c, lob OD) := by
    rw [hw_2]; exact zput_tg hle hod (by simp)
  have h_9 : w_1.1 ch = some (126, c, lob CH) := by
    rw [hw_2]; exact zput_tg hle hch (by simp)
  have h_10 : w_1.1 kn = some (103, c, KN.map Sum.inl) := by
    rw [hw_2]; exact zput_tg hle hkn (by simp)
  refine zx_iv (b := c) (As := [zI (m : Int), zI (k : Int)]) (st := []) (v := (some (zI ((m * 5 + k : Nat) : Int)))) (w1 := w_1) dX1_takeNext_41 zc_X1_99 h_4 rfl rfl rfl (Nat.le_of_ble_eq_true rfl) rfl (by have q := c_X1_slot (G := G) (d := d + 3) ⟨h_4, ⟨h_5, okT⟩, h_6, ⟨h_3, by rw [List.length_set]; exact nle⟩, ⟨h_7, nns⟩, ⟨h_8, nod⟩, ⟨h_9, nch⟩, ⟨h_10, nkn⟩⟩ (m : Int) (k : Int); rw [csl_set hm hk5 nle] at q; exact q) ?_
  refine zx_st (st1 := [zI ((m * 5 + k : Nat) : Int)]) rfl ?_
  refine zx_istore (i := 6) dX1_takeNext_44 (by decide) rfl ?_
  refine zx_L (L1 := [some (zR c), some (zI (m : Int)), some (zI go), some (zN), some (zI kw), some (zI (k : Int)), some (zI ((m * 5 + k : Nat) : Int))]) rfl ?_
  refine zx_iload (i := 6) dX1_takeNext_46 rfl ?_
  refine zx_if_lt (tgt := 128) dX1_takeNext_48 (by decide) (fun h48 => absurd h48 (by omega)) (fun h48 => ?_)
  refine zx_iload (i := 6) dX1_takeNext_51 rfl ?_
  refine zx_aload_n (i := 0) dX1_takeNext_53 rfl rfl ?_
  refine zx_getfield dX1_takeNext_54 zf_X1_49 h_4 rfl ?_
  refine zx_alen (n := 10) dX1_takeNext_57 h_7 (by first | decide | omega) (by rw [List.length_map]; exact nns) (by decide) ?_
  refine zx_icmp_ge (tgt := 128) dX1_takeNext_58 (by decide) (fun h58 => absurd h58 (by omega)) (fun h58 => ?_)
  refine zx_iload (i := 6) dX1_takeNext_61 rfl ?_
  refine zx_aload_n (i := 0) dX1_takeNext_63 rfl rfl ?_
  refine zx_pc (pc1 := 64) rfl ?_
  refine zx_getfield dX1_takeNext_64 zf_X1_54 h_4 rfl ?_
  refine zx_alen (n := 10) dX1_takeNext_67 h_8 (by first | decide | omega) (by rw [lob_len]; exact nod) (by decide) ?_
  refine zx_icmp_ge (tgt := 128) dX1_takeNext_68 (by decide) (fun h68 => absurd h68 (by omega)) (fun h68 => ?_)
  refine zx_iload (i := 6) dX1_takeNext_71 rfl ?_
  refine zx_aload_n (i := 0) dX1_takeNext_73 rfl rfl ?_
  refine zx_getfield dX1_takeNext_74 zf_X1_60 h_4 rfl ?_
  refine zx_alen (n := 10) dX1_takeNext_77 h_9 (by first | decide | omega) (by rw [lob_len]; exact nch) (by decide) ?_
  refine zx_icmp_ge (tgt := 128) dX1_takeNext_78 (by decide) (fun h78 => absurd h78 (by omega)) (fun h78 => ?_)
  refine zx_iload (i := 6) dX1_takeNext_81 rfl ?_
  refine zx_aload_n (i := 0) dX1_takeNext_83 rfl rfl ?_
  refine zx_getfield dX1_takeNext_84 zf_X1_64 h_4 rfl ?_
  refine zx_alen (n := 10) dX1_takeNext_87 h_10 (by first | decide | omega) (by rw [List.length_map]; exact nkn) (by decide) ?_
  refine zx_pc (pc1 := 88) rfl ?_
  refine zx_icmp_ge (tgt := 128) dX1_takeNext_88 (by decide) (fun h88 => absurd h88 (by omega)) (fun h88 => ?_)
  refine zx_aload_n (i := 0) dX1_takeNext_91 rfl rfl ?_
  refine zx_getfield dX1_takeNext_92 zf_X1_49 h_4 rfl ?_
  refine zx_iload (i := 6) dX1_takeNext_95 rfl ?_
  refine zx_iload_n (i := 2) dX1_takeNext_97 rfl rfl ?_
  obtain ⟨w_11, hw_12⟩ : ∃ ww, ww = zput w_1 ns (102, c, (NS.set (m * 5 + k) go).map Sum.inl) := ⟨_, rfl⟩
  refine zx_ias (w1 := w_11) dX1_takeNext_98 h_7 (by first | decide | omega) (by omega) (by rw [List.length_map]; omega) (by rw [hw_12, Int.toNat_natCast, List.map_set]) ?_
  have h_13 : w_11.1 ns = some (102, c, (NS.set (m * 5 + k) go).map Sum.inl) := by rw [hw_12]; exact zput_at
  refine zx_aload_n (i := 0) dX1_takeNext_99 rfl rfl ?_
  have h_14 : w_11.1 c = some (1, 0, [zI nu, zR pr, zR ty, zR gs, zR le, zR ns, zR od, zR ch, zR kn]) := by
    rw [hw_12]; exact zput_tg h_7 h_4 (by simp)
  refine zx_getfield dX1_takeNext_100 zf_X1_54 h_14 rfl ?_
  refine zx_iload (i := 6) dX1_takeNext_103 rfl ?_
  refine zx_aload_n (i := 0) dX1_takeNext_105 rfl rfl ?_
  refine zx_iload_n (i := 2) dX1_takeNext_106 rfl rfl ?_
  have hel2 : ∀ y ∈ Gs, ∃ a b, w_11.1 y = some ((3, a, b) : zO) := fun y hy => by
    obtain ⟨a, b, h⟩ := hel y hy
    have h0_ : w_1.1 y = some ((3, a, b) : zO) := by rw [hw_2]; exact zput_tg hle h (by simp)
    have h1_ : w_11.1 y = some ((3, a, b) : zO) := by rw [hw_12]; exact zput_tg h_7 h0_ (by simp)
    exact ⟨a, b, h1_⟩
  have h_15 : w_11.1 gs = some (165, c, zLs cap Gs) := by
    rw [hw_12]; exact zput_tg h_7 h_6 (by simp)
  refine zx_iv (b := c) (As := [zI go]) (st := [zI ((m * 5 + k : Nat) : Int), zR od]) (v := (some (zR g))) (w1 := w_11) dX1_takeNext_107 zc_X1_102 h_14 rfl rfl rfl (Nat.le_of_ble_eq_true rfl) rfl (by have q := c_X1_goalNumbered (G := G) (d := d) h_14 h_15 hel2 go; rw [hg0] at q; exact q) ?_
  refine zx_st (st1 := [zR g, zI ((m * 5 + k : Nat) : Int), zR od]) rfl ?_
  refine zx_pc (pc1 := 110) rfl ?_
  have h_16 : w_11.1 od = some (125, c, lob OD) := by
    rw [hw_12]; exact zput_tg h_7 h_8 (by simp)
  have h_17 : w_1.1 g = some (3, ga, gb) := by
    rw [hw_2]; exact zput_tg hle hg3 (by simp)
  have h_18 : w_11.1 g = some (3, ga, gb) := by
    rw [hw_12]; exact zput_tg h_7 h_17 (by simp)
  obtain ⟨w_19, hw_20⟩ : ∃ ww, ww = zput w_11 od (125, c, lob (OD.set (m * 5 + k) (some g))) := ⟨_, rfl⟩
  refine zx_asQ (w1 := w_19) dX1_takeNext_110 h_16 h_18 (by first | exact Or.inl ⟨rfl, rfl⟩ | exact Or.inr ⟨rfl, rfl⟩) (by omega) (by rw [lob_len]; omega) (by rw [hw_20, Int.toNat_natCast, lob_set]) ?_
  have h_21 : w_19.1 od = some (125, c, lob (OD.set (m * 5 + k) (some g))) := by rw [hw_20]; exact zput_at
  refine zx_aload_n (i := 0) dX1_takeNext_111 rfl rfl ?_
  have h_22 : w_19.1 c = some (1, 0, [zI nu, zR pr, zR ty, zR gs, zR le, zR ns, zR od, zR ch, zR kn]) := by
    rw [hw_20]; exact zput_tg h_16 h_14 (by simp)
  refine zx_getfield dX1_takeNext_112 zf_X1_60 h_22 rfl ?_
  refine zx_iload (i := 6) dX1_takeNext_115 rfl ?_
  refine zx_aload_n (i := 3) dX1_takeNext_117 rfl rfl ?_
  have h_23 : w_11.1 ch = some (126, c, lob CH) := by
    rw [hw_12]; exact zput_tg h_7 h_9 (by simp)
  have h_24 : w_19.1 ch = some (126, c, lob CH) := by
    rw [hw_20]; exact zput_tg h_16 h_23 (by simp)
  obtain ⟨w_25, hw_26⟩ : ∃ ww, ww = zput w_19 ch (126, c, lob (CH.set (m * 5 + k) (none))) := ⟨_, rfl⟩
  refine zx_asN (w1 := w_25) dX1_takeNext_118 h_24 (by decide) (by omega) (by rw [lob_len]; omega) (by rw [hw_26, Int.toNat_natCast, lob_setN]) ?_
  have h_27 : w_25.1 ch = some (126, c, lob (CH.set (m * 5 + k) (none))) := by rw [hw_26]; exact zput_at
  refine zx_aload_n (i := 0) dX1_takeNext_119 rfl rfl ?_
  have h_28 : w_25.1 c = some (1, 0, [zI nu, zR pr, zR ty, zR gs, zR le, zR ns, zR od, zR ch, zR kn]) := by
    rw [hw_26]; exact zput_tg h_24 h_22 (by simp)
  refine zx_getfield dX1_takeNext_120 zf_X1_64 h_28 rfl ?_
  refine zx_iload (i := 6) dX1_takeNext_123 rfl ?_
  refine zx_iload (i := 4) dX1_takeNext_125 rfl ?_
  have h_29 : w_11.1 kn = some (103, c, KN.map Sum.inl) := by
    rw [hw_12]; exact zput_tg h_7 h_10 (by simp)
  have h_30 : w_19.1 kn = some (103, c, KN.map Sum.inl) := by
    rw [hw_20]; exact zput_tg h_16 h_29 (by simp)
  have h_31 : w_25.1 kn = some (103, c, KN.map Sum.inl) := by
    rw [hw_26]; exact zput_tg h_24 h_30 (by simp)
  obtain ⟨w_32, hw_33⟩ : ∃ ww, ww = zput w_25 kn (103, c, (KN.set (m * 5 + k) kw).map Sum.inl) := ⟨_, rfl⟩
  refine zx_ias (w1 := w_32) dX1_takeNext_127 h_31 (by first | decide | omega) (by omega) (by rw [List.length_map]; omega) (by rw [hw_33, Int.toNat_natCast, List.map_set]) ?_
  have h_34 : w_32.1 kn = some (103, c, (KN.set (m * 5 + k) kw).map Sum.inl) := by rw [hw_33]; exact zput_at
  refine zx_return dX1_takeNext_128 rfl ?_
  exact zr_n (by rw [hw_33, hw_26, hw_20, hw_12, hw_2])
theorem c_X7_init {p0 : Nat} (h0 : w.1 p0 = some (7, 0, [zN, zN, zN])) (r1 : w.2.1 + 3 ≤ G.2.2.2.2.1) (r2 : w.2.2 + 9 ≤ G.2.2.2.2.2) : zM G zm_X7_init (d + 3) [zR p0] w (zVoid fun w' => w'.1 p0 = some (7, 0, [zR w.2.1, zR (w.2.1 + 1), zR (w.2.1 + 2)]) ∧ w'.1 w.2.1 = some (160, p0, zLs 0 []) ∧ w'.1 (w.2.1 + 1) = some (161, p0, zLs 0 []) ∧ w'.1 (w.2.1 + 2) = some (162, p0, zLs 0 []) ∧ w'.2.1 = w.2.1 + 3 ∧ w'.2.2 = w.2.2 + 9 ∧ ∀ b ob, b ≠ p0 → w.1 b = some ob → w'.1 b = some ob) := by
  refine zx_ent (by decide +kernel) rfl (Nat.le_of_ble_eq_true rfl) ?_
  refine zx_L (L1 := [some (zR p0)]) rfl ?_
  refine zx_ok (fun ok0 => ?_)
  have ht0 : p0 < w.2.1 := ok0 _ _ h0
  refine zx_aload_n (i := 0) dX7_init_0 rfl rfl ?_
  refine zx_objInit dX7_init_1 zo_X7_3 zk_oi1 zk_oi2 (Nat.le_of_ble_eq_true rfl) ?_
  refine zx_aload_n (i := 0) dX7_init_4 rfl rfl ?_
  refine zx_ok (fun ok_1 => ?_)
  refine zx_new dX7_init_5 zn_X7_9 (by omega) (by omega) ?_
  obtain ⟨w_2, hw_3⟩ : ∃ ww, ww = znew w (12, 0, [zI 0, zN, zI 0]) 3 := ⟨_, rfl⟩
  obtain ⟨a_4, ha_5⟩ : ∃ ww, ww = w.2.1 := ⟨_, rfl⟩
  rw [← hw_3, ← ha_5]
  have q_6 : w_2.2.1 = w.2.1 + 1 ∧ w_2.2.2 = w.2.2 + 3 := by rw [hw_3]; exact ⟨rfl, rfl⟩
  have h_7 : w_2.1 a_4 = some (12, 0, [zI 0, zN, zI 0]) := by rw [hw_3, ha_5]; exact znew_at
  refine zx_dup dX7_init_8 (fun a h => by cases h) ?_
  obtain ⟨w_8, hw_9⟩ : ∃ ww, ww = zput w_2 a_4 (160, p0, zLs 0 []) := ⟨_, rfl⟩
  have q_10 : w_8.2.1 = w_2.2.1 ∧ w_8.2.2 = w_2.2.2 := by rw [hw_9]; exact ⟨rfl, rfl⟩
  have h_11 : w_8.1 a_4 = some (160, p0, zLs 0 []) := by rw [hw_9]; exact zput_at
  refine zx_ic (b := a_4) (As := []) (st := [zR a_4, zR p0]) (w1 := w_8) dX7_init_9 zc_X7_11 rfl (Nat.le_of_ble_eq_true rfl) rfl (by rw [hw_9]; exact (c_list_init 160 p0 h_7 (by decide))) ?_
  have h_12 : w_2.1 p0 = some (7, 0, [zN, zN, zN]) := by
    rw [hw_3]; exact znew_to (ok_1 _ _ h0) h0
  have h_13 : w_8.1 p0 = some (7, 0, [zN, zN, zN]) := by
    rw [hw_9]; exact zput_tg h_7 h_12 (by simp)
  obtain ⟨w_14, hw_15⟩ : ∃ ww, ww = zput w_8 p0 (7, 0, [zR a_4, zN, zN]) := ⟨_, rfl⟩
  refine zx_put (w1 := w_14) dX7_init_12 zf_X7_12 h_13 (Nat.le_of_ble_eq_true rfl) (zFt_obj _ _) (fun _ => ⟨rfl, fun q h => by cases h; rfl⟩) hw_15.symm ?_
  have q_16 : w_14.2.1 = w_8.2.1 ∧ w_14.2.2 = w_8.2.2 := by rw [hw_15]; exact ⟨rfl, rfl⟩
  have h_17 : w_14.1 p0 = some (7, 0, [zR a_4, zN, zN]) := by rw [hw_15]; exact zput_at
  refine zx_aload_n (i := 0) dX7_init_15 rfl rfl ?_
  refine zx_ok (fun ok_18 => ?_)
  refine zx_new dX7_init_16 zn_X7_9 (by omega) (by omega) ?_
  obtain ⟨w_19, hw_20⟩ : ∃ ww, ww = znew w_14 (12, 0, [zI 0, zN, zI 0]) 3 := ⟨_, rfl⟩
  obtain ⟨a_21, ha_22⟩ : ∃ ww, ww = w_14.2.1 := ⟨_, rfl⟩
  rw [← hw_20, ← ha_22]
  have q_23 : w_19.2.1 = w_14.2.1 + 1 ∧ w_19.2.2 = w_14.2.2 + 3 := by rw [hw_20]; exact ⟨rfl, rfl⟩
  have h_24 : w_19.1 a_21 = some (12, 0, [zI 0, zN, zI 0]) := by rw [hw_20, ha_22]; exact znew_at
  refine zx_dup dX7_init_19 (fun a h => by cases h) ?_
  obtain ⟨w_25, hw_26⟩ : ∃ ww, ww = zput w_19 a_21 (161, p0, zLs 0 []) := ⟨_, rfl⟩
  have q_27 : w_25.2.1 = w_19.2.1 ∧ w_25.2.2 = w_19.2.2 := by rw [hw_26]; exact ⟨rfl, rfl⟩
  have h_28 : w_25.1 a_21 = some (161, p0, zLs 0 []) := by rw [hw_26]; exact zput_at
  refine zx_ic (b := a_21) (As := []) (st := [zR a_21, zR p0]) (w1 := w_25) dX7_init_20 zc_X7_11 rfl (Nat.le_of_ble_eq_true rfl) rfl (by rw [hw_26]; exact (c_list_init 161 p0 h_24 (by decide))) ?_
  refine zx_pc (pc1 := 23) rfl ?_
  have h_29 : w_19.1 p0 = some (7, 0, [zR a_4, zN, zN]) := by
    rw [hw_20]; exact znew_to (ok_18 _ _ h_17) h_17
  have h_30 : w_25.1 p0 = some (7, 0, [zR a_4, zN, zN]) := by
    rw [hw_26]; exact zput_tg h_24 h_29 (by simp)
  obtain ⟨w_31, hw_32⟩ : ∃ ww, ww = zput w_25 p0 (7, 0, [zR a_4, zR a_21, zN]) := ⟨_, rfl⟩
  refine zx_put (w1 := w_31) dX7_init_23 zf_X7_18 h_30 (Nat.le_of_ble_eq_true rfl) (zFt_obj _ _) (fun _ => ⟨rfl, fun q h => by cases h; rfl⟩) hw_32.symm ?_
  have q_33 : w_31.2.1 = w_25.2.1 ∧ w_31.2.2 = w_25.2.2 := by rw [hw_32]; exact ⟨rfl, rfl⟩
  have h_34 : w_31.1 p0 = some (7, 0, [zR a_4, zR a_21, zN]) := by rw [hw_32]; exact zput_at
  refine zx_aload_n (i := 0) dX7_init_26 rfl rfl ?_
  refine zx_ok (fun ok_35 => ?_)
  refine zx_new dX7_init_27 zn_X7_9 (by omega) (by omega) ?_
  obtain ⟨w_36, hw_37⟩ : ∃ ww, ww = znew w_31 (12, 0, [zI 0, zN, zI 0]) 3 := ⟨_, rfl⟩
  obtain ⟨a_38, ha_39⟩ : ∃ ww, ww = w_31.2.1 := ⟨_, rfl⟩
  rw [← hw_37, ← ha_39]
  have q_40 : w_36.2.1 = w_31.2.1 + 1 ∧ w_36.2.2 = w_31.2.2 + 3 := by rw [hw_37]; exact ⟨rfl, rfl⟩
  have h_41 : w_36.1 a_38 = some (12, 0, [zI 0, zN, zI 0]) := by rw [hw_37, ha_39]; exact znew_at
  refine zx_dup dX7_init_30 (fun a h => by cases h) ?_
  obtain ⟨w_42, hw_43⟩ : ∃ ww, ww = zput w_36 a_38 (162, p0, zLs 0 []) := ⟨_, rfl⟩
  have q_44 : w_42.2.1 = w_36.2.1 ∧ w_42.2.2 = w_36.2.2 := by rw [hw_43]; exact ⟨rfl, rfl⟩
  have h_45 : w_42.1 a_38 = some (162, p0, zLs 0 []) := by rw [hw_43]; exact zput_at
  refine zx_ic (b := a_38) (As := []) (st := [zR a_38, zR p0]) (w1 := w_42) dX7_init_31 zc_X7_11 rfl (Nat.le_of_ble_eq_true rfl) rfl (by rw [hw_43]; exact (c_list_init 162 p0 h_41 (by decide))) ?_
  have h_46 : w_36.1 p0 = some (7, 0, [zR a_4, zR a_21, zN]) := by
    rw [hw_37]; exact znew_to (ok_35 _ _ h_34) h_34
  have h_47 : w_42.1 p0 = some (7, 0, [zR a_4, zR a_21, zN]) := by
    rw [hw_43]; exact zput_tg h_41 h_46 (by simp)
  obtain ⟨w_48, hw_49⟩ : ∃ ww, ww = zput w_42 p0 (7, 0, [zR a_4, zR a_21, zR a_38]) := ⟨_, rfl⟩
  refine zx_put (w1 := w_48) dX7_init_34 zf_X7_21 h_47 (Nat.le_of_ble_eq_true rfl) (zFt_obj _ _) (fun _ => ⟨rfl, fun q h => by cases h; rfl⟩) hw_49.symm ?_
  have q_50 : w_48.2.1 = w_42.2.1 ∧ w_48.2.2 = w_42.2.2 := by rw [hw_49]; exact ⟨rfl, rfl⟩
  have h_51 : w_48.1 p0 = some (7, 0, [zR a_4, zR a_21, zR a_38]) := by rw [hw_49]; exact zput_at
  refine zx_return dX7_init_37 rfl ?_
  have h_52 : w_14.1 a_4 = some (160, p0, zLs 0 []) := by
    rw [hw_15]; exact zput_tg h_13 h_11 (by simp)
  have h_53 : w_19.1 a_4 = some (160, p0, zLs 0 []) := by
    rw [hw_20]; exact znew_to (ok_18 _ _ h_52) h_52
  have h_54 : w_25.1 a_4 = some (160, p0, zLs 0 []) := by
    rw [hw_26]; exact zput_tg h_24 h_53 (by simp)
  have h_55 : w_31.1 a_4 = some (160, p0, zLs 0 []) := by
    rw [hw_32]; exact zput_tg h_30 h_54 (by simp)
  have h_56 : w_36.1 a_4 = some (160, p0, zLs 0 []) := by
    rw [hw_37]; exact znew_to (ok_35 _ _ h_55) h_55
  have h_57 : w_42.1 a_4 = some (160, p0, zLs 0 []) := by
    rw [hw_43]; exact zput_tg h_41 h_56 (by simp)
  have h_58 : w_48.1 a_4 = some (160, p0, zLs 0 []) := by
    rw [hw_49]; exact zput_tg h_47 h_57 (by simp)
  have h_59 : w_31.1 a_21 = some (161, p0, zLs 0 []) := by
    rw [hw_32]; exact zput_tg h_30 h_28 (by simp)
  have h_60 : w_36.1 a_21 = some (161, p0, zLs 0 []) := by
    rw [hw_37]; exact znew_to (ok_35 _ _ h_59) h_59
  have h_61 : w_42.1 a_21 = some (161, p0, zLs 0 []) := by
    rw [hw_43]; exact zput_tg h_41 h_60 (by simp)
  have h_62 : w_48.1 a_21 = some (161, p0, zLs 0 []) := by
    rw [hw_49]; exact zput_tg h_47 h_61 (by simp)
  have h_63 : w_48.1 a_38 = some (162, p0, zLs 0 []) := by
    rw [hw_49]; exact zput_tg h_47 h_45 (by simp)
  have hfr : ∀ b ob, b ≠ p0 → w.1 b = some ob → w_48.1 b = some ob := by
    intro b ob hx_p0 hb
    have hlt := ok0 b ob hb
    have f_64 : w_2.1 b = some ob := by rw [hw_3, znew_ne (by omega)]; exact hb
    have f_65 : w_8.1 b = some ob := by rw [hw_9]; exact zput_to (by omega) f_64
    have f_66 : w_14.1 b = some ob := by rw [hw_15]; exact zput_to hx_p0 f_65
    have f_67 : w_19.1 b = some ob := by rw [hw_20, znew_ne (by omega)]; exact f_66
    have f_68 : w_25.1 b = some ob := by rw [hw_26]; exact zput_to (by omega) f_67
    have f_69 : w_31.1 b = some ob := by rw [hw_32]; exact zput_to hx_p0 f_68
    have f_70 : w_36.1 b = some ob := by rw [hw_37, znew_ne (by omega)]; exact f_69
    have f_71 : w_42.1 b = some ob := by rw [hw_43]; exact zput_to (by omega) f_70
    have f_72 : w_48.1 b = some ob := by rw [hw_49]; exact zput_to hx_p0 f_71
    exact f_72
  have e_a_4 : a_4 = w.2.1 := by omega
  have e_a_21 : a_21 = w.2.1 + 1 := by omega
  have e_a_38 : a_38 = w.2.1 + 2 := by omega
  subst e_a_4 e_a_21 e_a_38
  exact ⟨rfl, h_51, h_58, h_62, h_63, by omega, by omega, hfr⟩
def prT (f s t : Int) : List (List Int) := if f = -1 then [] else if s = -1 then [[f]] else if t = -1 then [[f], [s]] else [[f], [s], [t]]
theorem c_X6_init {p0 : Nat} (h0 : w.1 p0 = some (6, 0, [zI 0, zN, zN, zN, zN])) (r1 : w.2.1 + 6 ≤ G.2.2.2.2.1) (r2 : w.2.2 + 19 ≤ G.2.2.2.2.2) (nu f0 s0 t0 : Int) : zM G zm_X6_init (d + 3) [zR p0, zI nu, zI f0, zI s0, zI t0] w (zVoid fun w' => w'.1 p0 = some (6, 0, [zI nu, zR w.2.1, zR (w.2.1 + 2), zR (w.2.1 + 3), zR (w.2.1 + 4)]) ∧ (w'.1 w.2.1 = some (134, p0, tTb 1 3 (prT f0 s0 t0)) ∧ tOk 1 (prT f0 s0 t0)) ∧ w'.1 (w.2.1 + 2) = some (163, p0, zLs 0 []) ∧ w'.1 (w.2.1 + 3) = some (164, p0, zLs 0 []) ∧ w'.1 (w.2.1 + 4) = some (3, 0, [zI 2, zI nu, zI ((prT f0 s0 t0).length : Int), zR (w.2.1 + 5)]) ∧ w'.1 (w.2.1 + 5) = some (100, w.2.1 + 4, [zI 0, zI 1, zI 2]) ∧ w'.2.1 = w.2.1 + 6 ∧ w'.2.2 = w.2.2 + 19 ∧ ∀ b ob, b ≠ p0 → w.1 b = some ob → w'.1 b = some ob) := by
  refine zx_ent (by decide +kernel) rfl (Nat.le_of_ble_eq_true rfl) ?_
  refine zx_L (L1 := [some (zR p0), some (zI nu), some (zI f0), some (zI s0), some (zI t0), none, none]) rfl ?_
  refine zx_ok (fun ok0 => ?_)
  have ht0 : p0 < w.2.1 := ok0 _ _ h0
  refine zx_aload_n (i := 0) dX6_init_0 rfl rfl ?_
  refine zx_objInit dX6_init_1 zo_X6_3 zk_oi1 zk_oi2 (Nat.le_of_ble_eq_true rfl) ?_
  refine zx_aload_n (i := 0) dX6_init_4 rfl rfl ?_
  refine zx_iload_n (i := 1) dX6_init_5 rfl rfl ?_
  obtain ⟨w_1, hw_2⟩ : ∃ ww, ww = zput w p0 (6, 0, [zI nu, zN, zN, zN, zN]) := ⟨_, rfl⟩
  refine zx_put (w1 := w_1) dX6_init_6 zf_X6_9 h0 (Nat.le_of_ble_eq_true rfl) (zFt_int _) (fun _ => ⟨rfl, fun q h => by cases h; rfl⟩) hw_2.symm ?_
  have q_3 : w_1.2.1 = w.2.1 ∧ w_1.2.2 = w.2.2 := by rw [hw_2]; exact ⟨rfl, rfl⟩
  have h_4 : w_1.1 p0 = some (6, 0, [zI nu, zN, zN, zN, zN]) := by rw [hw_2]; exact zput_at
  refine zx_iload_n (i := 2) dX6_init_9 rfl rfl ?_
  refine zx_iconst (v := -1) dX6_init_10 rfl (z32_lit (by decide) (by decide)) ?_
  refine zx_icmp_ne (tgt := 18) dX6_init_11 (by decide) (fun h11 => ?_) (fun h11 => ?_)
  · refine zx_iload_n (i := 3) dX6_init_18 rfl rfl ?_
    refine zx_iconst (v := -1) dX6_init_19 rfl (z32_lit (by decide) (by decide)) ?_
    refine zx_icmp_ne (tgt := 27) dX6_init_20 (by decide) (fun h20 => ?_) (fun h20 => ?_)
    · refine zx_pc (pc1 := 27) rfl ?_
      refine zx_iload (i := 4) dX6_init_27 rfl ?_
      refine zx_iconst (v := -1) dX6_init_29 rfl (z32_lit (by decide) (by decide)) ?_
      refine zx_icmp_ne (tgt := 37) dX6_init_30 (by decide) (fun h30 => ?_) (fun h30 => ?_)
      · refine zx_iconst (v := 3) dX6_init_37 rfl (z32_lit (by decide) (by decide)) ?_
        refine zx_istore (i := 5) dX6_init_38 (by decide) rfl ?_
        refine zx_L (L1 := [some (zR p0), some (zI nu), some (zI f0), some (zI s0), some (zI t0), some (zI 3), none]) rfl ?_
        refine zx_aload_n (i := 0) dX6_init_40 rfl rfl ?_
        refine zx_ok (fun ok_5 => ?_)
        refine zx_new dX6_init_41 zn_X6_15 (by omega) (by omega) ?_
        obtain ⟨w_6, hw_7⟩ : ∃ ww, ww = znew w_1 (9, 0, [zI 0, zN, zI 0]) 3 := ⟨_, rfl⟩
        obtain ⟨a_8, ha_9⟩ : ∃ ww, ww = w_1.2.1 := ⟨_, rfl⟩
        rw [← hw_7, ← ha_9]
        have q_10 : w_6.2.1 = w_1.2.1 + 1 ∧ w_6.2.2 = w_1.2.2 + 3 := by rw [hw_7]; exact ⟨rfl, rfl⟩
        have h_11 : w_6.1 a_8 = some (9, 0, [zI 0, zN, zI 0]) := by rw [hw_7, ha_9]; exact znew_at
        refine zx_dup dX6_init_44 (fun a h => by cases h) ?_
        refine zx_iconst (v := 1) dX6_init_45 rfl (z32_lit (by decide) (by decide)) ?_
        refine zx_iconst (v := 3) dX6_init_46 rfl (z32_lit (by decide) (by decide)) ?_
        refine zx_ok (fun ok_12 => ?_)
        obtain ⟨w_13, hw_14⟩ : ∃ ww, ww = znew w_6 (199, a_8, []) 3 := ⟨_, rfl⟩
        obtain ⟨a_15, ha_16⟩ : ∃ ww, ww = w_6.2.1 := ⟨_, rfl⟩
        have q_17 : w_13.2.1 = w_6.2.1 + 1 ∧ w_13.2.2 = w_6.2.2 + 3 := by rw [hw_14]; exact ⟨rfl, rfl⟩
        have h_18 : w_13.1 a_15 = some (199, a_8, []) := by rw [hw_14, ha_16]; exact znew_at
        have h_19 : w_13.1 a_8 = some (9, 0, [zI 0, zN, zI 0]) := by
          rw [hw_14]; exact znew_to (ok_12 _ _ h_11) h_11
        obtain ⟨w_20, hw_21⟩ : ∃ ww, ww = zput w_13 a_8 (134, p0, tTb 1 3 []) := ⟨_, rfl⟩
        have q_22 : w_20.2.1 = w_13.2.1 ∧ w_20.2.2 = w_13.2.2 := by rw [hw_21]; exact ⟨rfl, rfl⟩
        have h_23 : w_20.1 a_8 = some (134, p0, tTb 1 3 []) := by rw [hw_21]; exact zput_at
        refine zx_ic (b := a_8) (As := [zI 1, zI 3]) (st := [zR a_8, zR p0]) (w1 := w_20) dX6_init_47 zc_X6_17 rfl (Nat.le_of_ble_eq_true rfl) rfl (by rw [hw_21]; (try rw [ha_16]); rw [hw_14]; exact (c_X9_init (c := 1) (rm := 3) 134 p0 h_11 (by decide) (by decide) (by decide) (by decide) (by decide) (by omega) (by omega))) ?_
        have h_24 : w_6.1 p0 = some (6, 0, [zI nu, zN, zN, zN, zN]) := by
          rw [hw_7]; exact znew_to (ok_5 _ _ h_4) h_4
        have h_25 : w_13.1 p0 = some (6, 0, [zI nu, zN, zN, zN, zN]) := by
          rw [hw_14]; exact znew_to (ok_12 _ _ h_24) h_24
        have h_26 : w_20.1 p0 = some (6, 0, [zI nu, zN, zN, zN, zN]) := by
          rw [hw_21]; exact zput_tg h_19 h_25 (by simp)
        obtain ⟨w_27, hw_28⟩ : ∃ ww, ww = zput w_20 p0 (6, 0, [zI nu, zR a_8, zN, zN, zN]) := ⟨_, rfl⟩
        refine zx_put (w1 := w_27) dX6_init_50 zf_X6_20 h_26 (Nat.le_of_ble_eq_true rfl) (zFt_obj _ _) (fun _ => ⟨rfl, fun q h => by cases h; rfl⟩) hw_28.symm ?_
        have q_29 : w_27.2.1 = w_20.2.1 ∧ w_27.2.2 = w_20.2.2 := by rw [hw_28]; exact ⟨rfl, rfl⟩
        have h_30 : w_27.1 p0 = some (6, 0, [zI nu, zR a_8, zN, zN, zN]) := by rw [hw_28]; exact zput_at
        refine zx_pc (pc1 := 53) rfl ?_
        refine zx_iconst (v := 0) dX6_init_53 rfl (z32_lit (by decide) (by decide)) ?_
        refine zx_istore (i := 6) dX6_init_54 (by decide) rfl ?_
        refine zx_L (L1 := [some (zR p0), some (zI nu), some (zI f0), some (zI s0), some (zI t0), some (zI 3), some (zI 0)]) rfl ?_
        refine zx_iload (i := 6) dX6_init_56 rfl ?_
        refine zx_iload (i := 5) dX6_init_58 rfl ?_
        refine zx_icmp_ge (tgt := 88) dX6_init_60 (by decide) (fun h60 => absurd h60 (by decide)) (fun h60 => ?_)
        refine zx_aload_n (i := 0) dX6_init_63 rfl rfl ?_
        refine zx_getfield dX6_init_64 zf_X6_20 h_30 rfl ?_
        refine zx_iload (i := 6) dX6_init_67 rfl ?_
        refine zx_iload_n (i := 2) dX6_init_69 rfl rfl ?_
        refine zx_iload_n (i := 3) dX6_init_70 rfl rfl ?_
        refine zx_iload (i := 4) dX6_init_71 rfl ?_
        refine zx_iN (As := [zI 0, zI f0, zI s0, zI t0]) (st := [zR a_8]) (v := (some (zI (pk 0 f0 s0 t0)))) (w1 := w_27) dX6_init_73 zc_X6_24 rfl (Nat.le_of_ble_eq_true rfl) rfl (c_X11_pick 0 f0 s0 t0) ?_
        refine zx_st (st1 := [zI (pk 0 f0 s0 t0), zR a_8]) rfl ?_
        refine zx_pc (pc1 := 76) rfl ?_
        refine zx_iconst (v := -1) dX6_init_76 rfl (z32_lit (by decide) (by decide)) ?_
        refine zx_iconst (v := -1) dX6_init_77 rfl (z32_lit (by decide) (by decide)) ?_
        have h_31 : w_27.1 a_8 = some (134, p0, tTb 1 3 []) := by
          rw [hw_28]; exact zput_tg h_26 h_23 (by simp)
        obtain ⟨w_32, hw_33⟩ : ∃ ww, ww = zput w_27 a_8 (134, p0, tTb 1 3 ([] ++ [trow 1 (pk 0 f0 s0 t0) (-1) (-1)])) := ⟨_, rfl⟩
        have q_34 : w_32.2.1 = w_27.2.1 ∧ w_32.2.2 = w_27.2.2 := by rw [hw_33]; exact ⟨rfl, rfl⟩
        have h_35 : w_32.1 a_8 = some (134, p0, tTb 1 3 ([] ++ [trow 1 (pk 0 f0 s0 t0) (-1) (-1)])) := by rw [hw_33]; exact zput_at
        refine zx_iv (b := a_8) (As := [zI (pk 0 f0 s0 t0), zI (-1), zI (-1)]) (st := []) (v := (some (zI ([].length : Int)))) (w1 := w_32) dX6_init_78 zc_X6_28 h_31 (z_cls9 (by decide)) rfl rfl (Nat.le_of_ble_eq_true rfl) rfl (by rw [hw_33]; exact (c_X9_addS h_31 (by decide) (tOk_nil (by decide)) ⟨Nat.le_of_ble_eq_true rfl, by decide⟩ (pk 0 f0 s0 t0) (-1) (-1))) ?_
        refine zx_st (st1 := [zI ([].length : Int)]) rfl ?_
        refine zx_pop dX6_init_81 (fun a h => by cases h) ?_
        refine zx_iinc (i := 6) (v := 1) dX6_init_82 rfl (by decide +kernel) (by decide) rfl ?_
        refine zx_L (L1 := [some (zR p0), some (zI nu), some (zI f0), some (zI s0), some (zI t0), some (zI 3), some (zI 1)]) rfl ?_
        refine zx_goto (tgt := 56) dX6_init_85 (by decide) ?_
        refine zx_iload (i := 6) dX6_init_56 rfl ?_
        refine zx_iload (i := 5) dX6_init_58 rfl ?_
        refine zx_icmp_ge (tgt := 88) dX6_init_60 (by decide) (fun h60 => absurd h60 (by decide)) (fun h60 => ?_)
        refine zx_aload_n (i := 0) dX6_init_63 rfl rfl ?_
        have h_36 : w_32.1 p0 = some (6, 0, [zI nu, zR a_8, zN, zN, zN]) := by
          rw [hw_33]; exact zput_tg h_31 h_30 (by simp)
        refine zx_getfield dX6_init_64 zf_X6_20 h_36 rfl ?_
        refine zx_iload (i := 6) dX6_init_67 rfl ?_
        refine zx_pc (pc1 := 69) rfl ?_
        refine zx_iload_n (i := 2) dX6_init_69 rfl rfl ?_
        refine zx_iload_n (i := 3) dX6_init_70 rfl rfl ?_
        refine zx_iload (i := 4) dX6_init_71 rfl ?_
        refine zx_iN (As := [zI 1, zI f0, zI s0, zI t0]) (st := [zR a_8]) (v := (some (zI (pk 1 f0 s0 t0)))) (w1 := w_32) dX6_init_73 zc_X6_24 rfl (Nat.le_of_ble_eq_true rfl) rfl (c_X11_pick 1 f0 s0 t0) ?_
        refine zx_st (st1 := [zI (pk 1 f0 s0 t0), zR a_8]) rfl ?_
        refine zx_iconst (v := -1) dX6_init_76 rfl (z32_lit (by decide) (by decide)) ?_
        refine zx_iconst (v := -1) dX6_init_77 rfl (z32_lit (by decide) (by decide)) ?_
        obtain ⟨w_37, hw_38⟩ : ∃ ww, ww = zput w_32 a_8 (134, p0, tTb 1 3 (([] ++ [trow 1 (pk 0 f0 s0 t0) (-1) (-1)]) ++ [trow 1 (pk 1 f0 s0 t0) (-1) (-1)])) := ⟨_, rfl⟩
        have q_39 : w_37.2.1 = w_32.2.1 ∧ w_37.2.2 = w_32.2.2 := by rw [hw_38]; exact ⟨rfl, rfl⟩
        have h_40 : w_37.1 a_8 = some (134, p0, tTb 1 3 (([] ++ [trow 1 (pk 0 f0 s0 t0) (-1) (-1)]) ++ [trow 1 (pk 1 f0 s0 t0) (-1) (-1)])) := by rw [hw_38]; exact zput_at
        refine zx_iv (b := a_8) (As := [zI (pk 1 f0 s0 t0), zI (-1), zI (-1)]) (st := []) (v := (some (zI (([] ++ [trow 1 (pk 0 f0 s0 t0) (-1) (-1)]).length : Int)))) (w1 := w_37) dX6_init_78 zc_X6_28 h_35 (z_cls9 (by decide)) rfl rfl (Nat.le_of_ble_eq_true rfl) rfl (by rw [hw_38]; exact (c_X9_addS h_35 (by decide) (tOk_app (tOk_nil (by decide)) trow_len) ⟨Nat.le_of_ble_eq_true rfl, by decide⟩ (pk 1 f0 s0 t0) (-1) (-1))) ?_
        refine zx_st (st1 := [zI (([] ++ [trow 1 (pk 0 f0 s0 t0) (-1) (-1)]).length : Int)]) rfl ?_
        refine zx_pop dX6_init_81 (fun a h => by cases h) ?_
        refine zx_iinc (i := 6) (v := 2) dX6_init_82 rfl (by decide +kernel) (by decide) rfl ?_
        refine zx_L (L1 := [some (zR p0), some (zI nu), some (zI f0), some (zI s0), some (zI t0), some (zI 3), some (zI 2)]) rfl ?_
        refine zx_goto (tgt := 56) dX6_init_85 (by decide) ?_
        refine zx_iload (i := 6) dX6_init_56 rfl ?_
        refine zx_iload (i := 5) dX6_init_58 rfl ?_
        refine zx_pc (pc1 := 60) rfl ?_
        refine zx_icmp_ge (tgt := 88) dX6_init_60 (by decide) (fun h60 => absurd h60 (by decide)) (fun h60 => ?_)
        refine zx_aload_n (i := 0) dX6_init_63 rfl rfl ?_
        have h_41 : w_37.1 p0 = some (6, 0, [zI nu, zR a_8, zN, zN, zN]) := by
          rw [hw_38]; exact zput_tg h_35 h_36 (by simp)
        refine zx_getfield dX6_init_64 zf_X6_20 h_41 rfl ?_
        refine zx_iload (i := 6) dX6_init_67 rfl ?_
        refine zx_iload_n (i := 2) dX6_init_69 rfl rfl ?_
        refine zx_iload_n (i := 3) dX6_init_70 rfl rfl ?_
        refine zx_iload (i := 4) dX6_init_71 rfl ?_
        refine zx_iN (As := [zI 2, zI f0, zI s0, zI t0]) (st := [zR a_8]) (v := (some (zI (pk 2 f0 s0 t0)))) (w1 := w_37) dX6_init_73 zc_X6_24 rfl (Nat.le_of_ble_eq_true rfl) rfl (c_X11_pick 2 f0 s0 t0) ?_
        refine zx_st (st1 := [zI (pk 2 f0 s0 t0), zR a_8]) rfl ?_
        refine zx_iconst (v := -1) dX6_init_76 rfl (z32_lit (by decide) (by decide)) ?_
        refine zx_iconst (v := -1) dX6_init_77 rfl (z32_lit (by decide) (by decide)) ?_
        obtain ⟨w_42, hw_43⟩ : ∃ ww, ww = zput w_37 a_8 (134, p0, tTb 1 3 ((([] ++ [trow 1 (pk 0 f0 s0 t0) (-1) (-1)]) ++ [trow 1 (pk 1 f0 s0 t0) (-1) (-1)]) ++ [trow 1 (pk 2 f0 s0 t0) (-1) (-1)])) := ⟨_, rfl⟩
        have q_44 : w_42.2.1 = w_37.2.1 ∧ w_42.2.2 = w_37.2.2 := by rw [hw_43]; exact ⟨rfl, rfl⟩
        have h_45 : w_42.1 a_8 = some (134, p0, tTb 1 3 ((([] ++ [trow 1 (pk 0 f0 s0 t0) (-1) (-1)]) ++ [trow 1 (pk 1 f0 s0 t0) (-1) (-1)]) ++ [trow 1 (pk 2 f0 s0 t0) (-1) (-1)])) := by rw [hw_43]; exact zput_at
        refine zx_iv (b := a_8) (As := [zI (pk 2 f0 s0 t0), zI (-1), zI (-1)]) (st := []) (v := (some (zI ((([] ++ [trow 1 (pk 0 f0 s0 t0) (-1) (-1)]) ++ [trow 1 (pk 1 f0 s0 t0) (-1) (-1)]).length : Int)))) (w1 := w_42) dX6_init_78 zc_X6_28 h_40 (z_cls9 (by decide)) rfl rfl (Nat.le_of_ble_eq_true rfl) rfl (by rw [hw_43]; exact (c_X9_addS h_40 (by decide) (tOk_app (tOk_app (tOk_nil (by decide)) trow_len) trow_len) ⟨Nat.le_of_ble_eq_true rfl, by decide⟩ (pk 2 f0 s0 t0) (-1) (-1))) ?_
        refine zx_st (st1 := [zI ((([] ++ [trow 1 (pk 0 f0 s0 t0) (-1) (-1)]) ++ [trow 1 (pk 1 f0 s0 t0) (-1) (-1)]).length : Int)]) rfl ?_
        refine zx_pop dX6_init_81 (fun a h => by cases h) ?_
        refine zx_pc (pc1 := 82) rfl ?_
        refine zx_iinc (i := 6) (v := 3) dX6_init_82 rfl (by decide +kernel) (by decide) rfl ?_
        refine zx_L (L1 := [some (zR p0), some (zI nu), some (zI f0), some (zI s0), some (zI t0), some (zI 3), some (zI 3)]) rfl ?_
        refine zx_goto (tgt := 56) dX6_init_85 (by decide) ?_
        refine zx_iload (i := 6) dX6_init_56 rfl ?_
        refine zx_iload (i := 5) dX6_init_58 rfl ?_
        refine zx_icmp_ge (tgt := 88) dX6_init_60 (by decide) (fun h60 => ?_) (fun h60 => absurd (by decide) h60)
        refine zx_aload_n (i := 0) dX6_init_88 rfl rfl ?_
        refine zx_ok (fun ok_46 => ?_)
        refine zx_new dX6_init_89 zn_X6_32 (by omega) (by omega) ?_
        obtain ⟨w_47, hw_48⟩ : ∃ ww, ww = znew w_42 (12, 0, [zI 0, zN, zI 0]) 3 := ⟨_, rfl⟩
        obtain ⟨a_49, ha_50⟩ : ∃ ww, ww = w_42.2.1 := ⟨_, rfl⟩
        rw [← hw_48, ← ha_50]
        have q_51 : w_47.2.1 = w_42.2.1 + 1 ∧ w_47.2.2 = w_42.2.2 + 3 := by rw [hw_48]; exact ⟨rfl, rfl⟩
        have h_52 : w_47.1 a_49 = some (12, 0, [zI 0, zN, zI 0]) := by rw [hw_48, ha_50]; exact znew_at
        refine zx_dup dX6_init_92 (fun a h => by cases h) ?_
        obtain ⟨w_53, hw_54⟩ : ∃ ww, ww = zput w_47 a_49 (163, p0, zLs 0 []) := ⟨_, rfl⟩
        have q_55 : w_53.2.1 = w_47.2.1 ∧ w_53.2.2 = w_47.2.2 := by rw [hw_54]; exact ⟨rfl, rfl⟩
        have h_56 : w_53.1 a_49 = some (163, p0, zLs 0 []) := by rw [hw_54]; exact zput_at
        refine zx_ic (b := a_49) (As := []) (st := [zR a_49, zR p0]) (w1 := w_53) dX6_init_93 zc_X6_34 rfl (Nat.le_of_ble_eq_true rfl) rfl (by rw [hw_54]; exact (c_list_init 163 p0 h_52 (by decide))) ?_
        have h_57 : w_42.1 p0 = some (6, 0, [zI nu, zR a_8, zN, zN, zN]) := by
          rw [hw_43]; exact zput_tg h_40 h_41 (by simp)
        have h_58 : w_47.1 p0 = some (6, 0, [zI nu, zR a_8, zN, zN, zN]) := by
          rw [hw_48]; exact znew_to (ok_46 _ _ h_57) h_57
        have h_59 : w_53.1 p0 = some (6, 0, [zI nu, zR a_8, zN, zN, zN]) := by
          rw [hw_54]; exact zput_tg h_52 h_58 (by simp)
        obtain ⟨w_60, hw_61⟩ : ∃ ww, ww = zput w_53 p0 (6, 0, [zI nu, zR a_8, zR a_49, zN, zN]) := ⟨_, rfl⟩
        refine zx_put (w1 := w_60) dX6_init_96 zf_X6_35 h_59 (Nat.le_of_ble_eq_true rfl) (zFt_obj _ _) (fun _ => ⟨rfl, fun q h => by cases h; rfl⟩) hw_61.symm ?_
        have q_62 : w_60.2.1 = w_53.2.1 ∧ w_60.2.2 = w_53.2.2 := by rw [hw_61]; exact ⟨rfl, rfl⟩
        have h_63 : w_60.1 p0 = some (6, 0, [zI nu, zR a_8, zR a_49, zN, zN]) := by rw [hw_61]; exact zput_at
        refine zx_aload_n (i := 0) dX6_init_99 rfl rfl ?_
        refine zx_ok (fun ok_64 => ?_)
        refine zx_new dX6_init_100 zn_X6_32 (by omega) (by omega) ?_
        obtain ⟨w_65, hw_66⟩ : ∃ ww, ww = znew w_60 (12, 0, [zI 0, zN, zI 0]) 3 := ⟨_, rfl⟩
        obtain ⟨a_67, ha_68⟩ : ∃ ww, ww = w_60.2.1 := ⟨_, rfl⟩
        rw [← hw_66, ← ha_68]
        have q_69 : w_65.2.1 = w_60.2.1 + 1 ∧ w_65.2.2 = w_60.2.2 + 3 := by rw [hw_66]; exact ⟨rfl, rfl⟩
        have h_70 : w_65.1 a_67 = some (12, 0, [zI 0, zN, zI 0]) := by rw [hw_66, ha_68]; exact znew_at
        refine zx_pc (pc1 := 103) rfl ?_
        refine zx_dup dX6_init_103 (fun a h => by cases h) ?_
        obtain ⟨w_71, hw_72⟩ : ∃ ww, ww = zput w_65 a_67 (164, p0, zLs 0 []) := ⟨_, rfl⟩
        have q_73 : w_71.2.1 = w_65.2.1 ∧ w_71.2.2 = w_65.2.2 := by rw [hw_72]; exact ⟨rfl, rfl⟩
        have h_74 : w_71.1 a_67 = some (164, p0, zLs 0 []) := by rw [hw_72]; exact zput_at
        refine zx_ic (b := a_67) (As := []) (st := [zR a_67, zR p0]) (w1 := w_71) dX6_init_104 zc_X6_34 rfl (Nat.le_of_ble_eq_true rfl) rfl (by rw [hw_72]; exact (c_list_init 164 p0 h_70 (by decide))) ?_
        have h_75 : w_65.1 p0 = some (6, 0, [zI nu, zR a_8, zR a_49, zN, zN]) := by
          rw [hw_66]; exact znew_to (ok_64 _ _ h_63) h_63
        have h_76 : w_71.1 p0 = some (6, 0, [zI nu, zR a_8, zR a_49, zN, zN]) := by
          rw [hw_72]; exact zput_tg h_70 h_75 (by simp)
        obtain ⟨w_77, hw_78⟩ : ∃ ww, ww = zput w_71 p0 (6, 0, [zI nu, zR a_8, zR a_49, zR a_67, zN]) := ⟨_, rfl⟩
        refine zx_put (w1 := w_77) dX6_init_107 zf_X6_39 h_76 (Nat.le_of_ble_eq_true rfl) (zFt_obj _ _) (fun _ => ⟨rfl, fun q h => by cases h; rfl⟩) hw_78.symm ?_
        have q_79 : w_77.2.1 = w_71.2.1 ∧ w_77.2.2 = w_71.2.2 := by rw [hw_78]; exact ⟨rfl, rfl⟩
        have h_80 : w_77.1 p0 = some (6, 0, [zI nu, zR a_8, zR a_49, zR a_67, zN]) := by rw [hw_78]; exact zput_at
        refine zx_aload_n (i := 0) dX6_init_110 rfl rfl ?_
        refine zx_ok (fun ok_81 => ?_)
        refine zx_new dX6_init_111 zn_X6_42 (by omega) (by omega) ?_
        obtain ⟨w_82, hw_83⟩ : ∃ ww, ww = znew w_77 (3, 0, [zI 0, zI 0, zI 0, zN]) 4 := ⟨_, rfl⟩
        obtain ⟨a_84, ha_85⟩ : ∃ ww, ww = w_77.2.1 := ⟨_, rfl⟩
        rw [← hw_83, ← ha_85]
        have q_86 : w_82.2.1 = w_77.2.1 + 1 ∧ w_82.2.2 = w_77.2.2 + 4 := by rw [hw_83]; exact ⟨rfl, rfl⟩
        have h_87 : w_82.1 a_84 = some (3, 0, [zI 0, zI 0, zI 0, zN]) := by rw [hw_83, ha_85]; exact znew_at
        refine zx_dup dX6_init_114 (fun a h => by cases h) ?_
        refine zx_iconst (v := 2) dX6_init_115 rfl (z32_lit (by decide) (by decide)) ?_
        refine zx_iload_n (i := 1) dX6_init_116 rfl rfl ?_
        refine zx_iload (i := 5) dX6_init_117 rfl ?_
        refine zx_iconst (v := 0) dX6_init_119 rfl (z32_lit (by decide) (by decide)) ?_
        refine zx_iconst (v := 1) dX6_init_120 rfl (z32_lit (by decide) (by decide)) ?_
        refine zx_iconst (v := 2) dX6_init_121 rfl (z32_lit (by decide) (by decide)) ?_
        refine zx_pc (pc1 := 122) rfl ?_
        refine zx_ok (fun ok_88 => ?_)
        obtain ⟨w_89, hw_90⟩ : ∃ ww, ww = znew w_82 (100, a_84, [zI 0, zI 1, zI 2]) 3 := ⟨_, rfl⟩
        obtain ⟨a_91, ha_92⟩ : ∃ ww, ww = w_82.2.1 := ⟨_, rfl⟩
        have q_93 : w_89.2.1 = w_82.2.1 + 1 ∧ w_89.2.2 = w_82.2.2 + 3 := by rw [hw_90]; exact ⟨rfl, rfl⟩
        have h_94 : w_89.1 a_91 = some (100, a_84, [zI 0, zI 1, zI 2]) := by rw [hw_90, ha_92]; exact znew_at
        have h_95 : w_89.1 a_84 = some (3, 0, [zI 0, zI 0, zI 0, zN]) := by
          rw [hw_90]; exact znew_to (ok_88 _ _ h_87) h_87
        obtain ⟨w_96, hw_97⟩ : ∃ ww, ww = zput w_89 a_84 (3, 0, [zI 2, zI nu, zI 3, zR a_91]) := ⟨_, rfl⟩
        have q_98 : w_96.2.1 = w_89.2.1 ∧ w_96.2.2 = w_89.2.2 := by rw [hw_97]; exact ⟨rfl, rfl⟩
        have h_99 : w_96.1 a_84 = some (3, 0, [zI 2, zI nu, zI 3, zR a_91]) := by rw [hw_97]; exact zput_at
        refine zx_ic (b := a_84) (As := [zI 2, zI nu, zI 3, zI 0, zI 1, zI 2]) (st := [zR a_84, zR p0]) (w1 := w_96) dX6_init_122 zc_X6_44 rfl (Nat.le_of_ble_eq_true rfl) rfl (by rw [hw_97]; (try rw [ha_92]); rw [hw_90]; exact (c_X3_init h_87 (by omega) (by omega) 2 nu 3 0 1 2)) ?_
        have h_100 : w_82.1 p0 = some (6, 0, [zI nu, zR a_8, zR a_49, zR a_67, zN]) := by
          rw [hw_83]; exact znew_to (ok_81 _ _ h_80) h_80
        have h_101 : w_89.1 p0 = some (6, 0, [zI nu, zR a_8, zR a_49, zR a_67, zN]) := by
          rw [hw_90]; exact znew_to (ok_88 _ _ h_100) h_100
        have h_102 : w_96.1 p0 = some (6, 0, [zI nu, zR a_8, zR a_49, zR a_67, zN]) := by
          rw [hw_97]; exact zput_tg h_95 h_101 (by simp)
        obtain ⟨w_103, hw_104⟩ : ∃ ww, ww = zput w_96 p0 (6, 0, [zI nu, zR a_8, zR a_49, zR a_67, zR a_84]) := ⟨_, rfl⟩
        refine zx_put (w1 := w_103) dX6_init_125 zf_X6_47 h_102 (Nat.le_of_ble_eq_true rfl) (zFt_obj _ _) (fun _ => ⟨rfl, fun q h => by cases h; rfl⟩) hw_104.symm ?_
        have q_105 : w_103.2.1 = w_96.2.1 ∧ w_103.2.2 = w_96.2.2 := by rw [hw_104]; exact ⟨rfl, rfl⟩
        have h_106 : w_103.1 p0 = some (6, 0, [zI nu, zR a_8, zR a_49, zR a_67, zR a_84]) := by rw [hw_104]; exact zput_at
        refine zx_return dX6_init_128 rfl ?_
        have h_107 : w_47.1 a_8 = some (134, p0, tTb 1 3 ((([] ++ [trow 1 (pk 0 f0 s0 t0) (-1) (-1)]) ++ [trow 1 (pk 1 f0 s0 t0) (-1) (-1)]) ++ [trow 1 (pk 2 f0 s0 t0) (-1) (-1)])) := by
          rw [hw_48]; exact znew_to (ok_46 _ _ h_45) h_45
        have h_108 : w_53.1 a_8 = some (134, p0, tTb 1 3 ((([] ++ [trow 1 (pk 0 f0 s0 t0) (-1) (-1)]) ++ [trow 1 (pk 1 f0 s0 t0) (-1) (-1)]) ++ [trow 1 (pk 2 f0 s0 t0) (-1) (-1)])) := by
          rw [hw_54]; exact zput_tg h_52 h_107 (by simp)
        have h_109 : w_60.1 a_8 = some (134, p0, tTb 1 3 ((([] ++ [trow 1 (pk 0 f0 s0 t0) (-1) (-1)]) ++ [trow 1 (pk 1 f0 s0 t0) (-1) (-1)]) ++ [trow 1 (pk 2 f0 s0 t0) (-1) (-1)])) := by
          rw [hw_61]; exact zput_tg h_59 h_108 (by simp)
        have h_110 : w_65.1 a_8 = some (134, p0, tTb 1 3 ((([] ++ [trow 1 (pk 0 f0 s0 t0) (-1) (-1)]) ++ [trow 1 (pk 1 f0 s0 t0) (-1) (-1)]) ++ [trow 1 (pk 2 f0 s0 t0) (-1) (-1)])) := by
          rw [hw_66]; exact znew_to (ok_64 _ _ h_109) h_109
        have h_111 : w_71.1 a_8 = some (134, p0, tTb 1 3 ((([] ++ [trow 1 (pk 0 f0 s0 t0) (-1) (-1)]) ++ [trow 1 (pk 1 f0 s0 t0) (-1) (-1)]) ++ [trow 1 (pk 2 f0 s0 t0) (-1) (-1)])) := by
          rw [hw_72]; exact zput_tg h_70 h_110 (by simp)
        have h_112 : w_77.1 a_8 = some (134, p0, tTb 1 3 ((([] ++ [trow 1 (pk 0 f0 s0 t0) (-1) (-1)]) ++ [trow 1 (pk 1 f0 s0 t0) (-1) (-1)]) ++ [trow 1 (pk 2 f0 s0 t0) (-1) (-1)])) := by
          rw [hw_78]; exact zput_tg h_76 h_111 (by simp)
        have h_113 : w_82.1 a_8 = some (134, p0, tTb 1 3 ((([] ++ [trow 1 (pk 0 f0 s0 t0) (-1) (-1)]) ++ [trow 1 (pk 1 f0 s0 t0) (-1) (-1)]) ++ [trow 1 (pk 2 f0 s0 t0) (-1) (-1)])) := by
          rw [hw_83]; exact znew_to (ok_81 _ _ h_112) h_112
        have h_114 : w_89.1 a_8 = some (134, p0, tTb 1 3 ((([] ++ [trow 1 (pk 0 f0 s0 t0) (-1) (-1)]) ++ [trow 1 (pk 1 f0 s0 t0) (-1) (-1)]) ++ [trow 1 (pk 2 f0 s0 t0) (-1) (-1)])) := by
          rw [hw_90]; exact znew_to (ok_88 _ _ h_113) h_113
        have h_115 : w_96.1 a_8 = some (134, p0, tTb 1 3 ((([] ++ [trow 1 (pk 0 f0 s0 t0) (-1) (-1)]) ++ [trow 1 (pk 1 f0 s0 t0) (-1) (-1)]) ++ [trow 1 (pk 2 f0 s0 t0) (-1) (-1)])) := by
          rw [hw_97]; exact zput_tg h_95 h_114 (by simp)
        have h_116 : w_103.1 a_8 = some (134, p0, tTb 1 3 ((([] ++ [trow 1 (pk 0 f0 s0 t0) (-1) (-1)]) ++ [trow 1 (pk 1 f0 s0 t0) (-1) (-1)]) ++ [trow 1 (pk 2 f0 s0 t0) (-1) (-1)])) := by
          rw [hw_104]; exact zput_tg h_102 h_115 (by simp)
        have h_117 : w_60.1 a_49 = some (163, p0, zLs 0 []) := by
          rw [hw_61]; exact zput_tg h_59 h_56 (by simp)
        have h_118 : w_65.1 a_49 = some (163, p0, zLs 0 []) := by
          rw [hw_66]; exact znew_to (ok_64 _ _ h_117) h_117
        have h_119 : w_71.1 a_49 = some (163, p0, zLs 0 []) := by
          rw [hw_72]; exact zput_tg h_70 h_118 (by simp)
        have h_120 : w_77.1 a_49 = some (163, p0, zLs 0 []) := by
          rw [hw_78]; exact zput_tg h_76 h_119 (by simp)
        have h_121 : w_82.1 a_49 = some (163, p0, zLs 0 []) := by
          rw [hw_83]; exact znew_to (ok_81 _ _ h_120) h_120
        have h_122 : w_89.1 a_49 = some (163, p0, zLs 0 []) := by
          rw [hw_90]; exact znew_to (ok_88 _ _ h_121) h_121
        have h_123 : w_96.1 a_49 = some (163, p0, zLs 0 []) := by
          rw [hw_97]; exact zput_tg h_95 h_122 (by simp)
        have h_124 : w_103.1 a_49 = some (163, p0, zLs 0 []) := by
          rw [hw_104]; exact zput_tg h_102 h_123 (by simp)
        have h_125 : w_77.1 a_67 = some (164, p0, zLs 0 []) := by
          rw [hw_78]; exact zput_tg h_76 h_74 (by simp)
        have h_126 : w_82.1 a_67 = some (164, p0, zLs 0 []) := by
          rw [hw_83]; exact znew_to (ok_81 _ _ h_125) h_125
        have h_127 : w_89.1 a_67 = some (164, p0, zLs 0 []) := by
          rw [hw_90]; exact znew_to (ok_88 _ _ h_126) h_126
        have h_128 : w_96.1 a_67 = some (164, p0, zLs 0 []) := by
          rw [hw_97]; exact zput_tg h_95 h_127 (by simp)
        have h_129 : w_103.1 a_67 = some (164, p0, zLs 0 []) := by
          rw [hw_104]; exact zput_tg h_102 h_128 (by simp)
        have h_130 : w_103.1 a_84 = some (3, 0, [zI 2, zI nu, zI 3, zR a_91]) := by
          rw [hw_104]; exact zput_tg h_102 h_99 (by simp)
        have h_131 : w_96.1 a_91 = some (100, a_84, [zI 0, zI 1, zI 2]) := by
          rw [hw_97]; exact zput_tg h_95 h_94 (by simp)
        have h_132 : w_103.1 a_91 = some (100, a_84, [zI 0, zI 1, zI 2]) := by
          rw [hw_104]; exact zput_tg h_102 h_131 (by simp)
        have hfr : ∀ b ob, b ≠ p0 → w.1 b = some ob → w_103.1 b = some ob := by
          intro b ob hx_p0 hb
          have hlt := ok0 b ob hb
          have f_133 : w_1.1 b = some ob := by rw [hw_2]; exact zput_to hx_p0 hb
          have f_134 : w_6.1 b = some ob := by rw [hw_7, znew_ne (by omega)]; exact f_133
          have f_135 : w_13.1 b = some ob := by rw [hw_14, znew_ne (by omega)]; exact f_134
          have f_136 : w_20.1 b = some ob := by rw [hw_21]; exact zput_to (by omega) f_135
          have f_137 : w_27.1 b = some ob := by rw [hw_28]; exact zput_to hx_p0 f_136
          have f_138 : w_32.1 b = some ob := by rw [hw_33]; exact zput_to (by omega) f_137
          have f_139 : w_37.1 b = some ob := by rw [hw_38]; exact zput_to (by omega) f_138
          have f_140 : w_42.1 b = some ob := by rw [hw_43]; exact zput_to (by omega) f_139
          have f_141 : w_47.1 b = some ob := by rw [hw_48, znew_ne (by omega)]; exact f_140
          have f_142 : w_53.1 b = some ob := by rw [hw_54]; exact zput_to (by omega) f_141
          have f_143 : w_60.1 b = some ob := by rw [hw_61]; exact zput_to hx_p0 f_142
          have f_144 : w_65.1 b = some ob := by rw [hw_66, znew_ne (by omega)]; exact f_143
          have f_145 : w_71.1 b = some ob := by rw [hw_72]; exact zput_to (by omega) f_144
          have f_146 : w_77.1 b = some ob := by rw [hw_78]; exact zput_to hx_p0 f_145
          have f_147 : w_82.1 b = some ob := by rw [hw_83, znew_ne (by omega)]; exact f_146
          have f_148 : w_89.1 b = some ob := by rw [hw_90, znew_ne (by omega)]; exact f_147
          have f_149 : w_96.1 b = some ob := by rw [hw_97]; exact zput_to (by omega) f_148
          have f_150 : w_103.1 b = some ob := by rw [hw_104]; exact zput_to hx_p0 f_149
          exact f_150
        have e_a_8 : a_8 = w.2.1 := by omega
        have e_a_49 : a_49 = w.2.1 + 2 := by omega
        have e_a_67 : a_67 = w.2.1 + 3 := by omega
        have e_a_84 : a_84 = w.2.1 + 4 := by omega
        have e_a_91 : a_91 = w.2.1 + 5 := by omega
        subst e_a_8 e_a_49 e_a_67 e_a_84 e_a_91
        have eT : prT f0 s0 t0 = ((([] ++ [trow 1 (pk 0 f0 s0 t0) (-1) (-1)]) ++ [trow 1 (pk 1 f0 s0 t0) (-1) (-1)]) ++ [trow 1 (pk 2 f0 s0 t0) (-1) (-1)]) := by
          unfold prT
          rw [if_neg (by omega), if_neg (by omega), if_neg (by omega)]; rfl
        exact ⟨rfl, h_106, ⟨by rw [eT]; exact h_116, by rw [eT]; exact (tOk_app (tOk_app (tOk_app (tOk_nil (by decide)) trow_len) trow_len) trow_len)⟩, h_124, h_129, by rw [eT]; exact h_130, h_132, by omega, by omega, hfr⟩
      · refine zx_iconst (v := 2) dX6_init_33 rfl (z32_lit (by decide) (by decide)) ?_
        refine zx_goto (tgt := 38) dX6_init_34 (by decide) ?_
        refine zx_istore (i := 5) dX6_init_38 (by decide) rfl ?_
        refine zx_L (L1 := [some (zR p0), some (zI nu), some (zI f0), some (zI s0), some (zI t0), some (zI 2), none]) rfl ?_
        refine zx_aload_n (i := 0) dX6_init_40 rfl rfl ?_
        refine zx_ok (fun ok_151 => ?_)
        refine zx_new dX6_init_41 zn_X6_15 (by omega) (by omega) ?_
        obtain ⟨w_152, hw_153⟩ : ∃ ww, ww = znew w_1 (9, 0, [zI 0, zN, zI 0]) 3 := ⟨_, rfl⟩
        obtain ⟨a_154, ha_155⟩ : ∃ ww, ww = w_1.2.1 := ⟨_, rfl⟩
        rw [← hw_153, ← ha_155]
        have q_156 : w_152.2.1 = w_1.2.1 + 1 ∧ w_152.2.2 = w_1.2.2 + 3 := by rw [hw_153]; exact ⟨rfl, rfl⟩
        have h_157 : w_152.1 a_154 = some (9, 0, [zI 0, zN, zI 0]) := by rw [hw_153, ha_155]; exact znew_at
        refine zx_dup dX6_init_44 (fun a h => by cases h) ?_
        refine zx_iconst (v := 1) dX6_init_45 rfl (z32_lit (by decide) (by decide)) ?_
        refine zx_iconst (v := 3) dX6_init_46 rfl (z32_lit (by decide) (by decide)) ?_
        refine zx_ok (fun ok_158 => ?_)
        obtain ⟨w_159, hw_160⟩ : ∃ ww, ww = znew w_152 (199, a_154, []) 3 := ⟨_, rfl⟩
        obtain ⟨a_161, ha_162⟩ : ∃ ww, ww = w_152.2.1 := ⟨_, rfl⟩
        have q_163 : w_159.2.1 = w_152.2.1 + 1 ∧ w_159.2.2 = w_152.2.2 + 3 := by rw [hw_160]; exact ⟨rfl, rfl⟩
        have h_164 : w_159.1 a_161 = some (199, a_154, []) := by rw [hw_160, ha_162]; exact znew_at
        have h_165 : w_159.1 a_154 = some (9, 0, [zI 0, zN, zI 0]) := by
          rw [hw_160]; exact znew_to (ok_158 _ _ h_157) h_157
        obtain ⟨w_166, hw_167⟩ : ∃ ww, ww = zput w_159 a_154 (134, p0, tTb 1 3 []) := ⟨_, rfl⟩
        have q_168 : w_166.2.1 = w_159.2.1 ∧ w_166.2.2 = w_159.2.2 := by rw [hw_167]; exact ⟨rfl, rfl⟩
        have h_169 : w_166.1 a_154 = some (134, p0, tTb 1 3 []) := by rw [hw_167]; exact zput_at
        refine zx_ic (b := a_154) (As := [zI 1, zI 3]) (st := [zR a_154, zR p0]) (w1 := w_166) dX6_init_47 zc_X6_17 rfl (Nat.le_of_ble_eq_true rfl) rfl (by rw [hw_167]; (try rw [ha_162]); rw [hw_160]; exact (c_X9_init (c := 1) (rm := 3) 134 p0 h_157 (by decide) (by decide) (by decide) (by decide) (by decide) (by omega) (by omega))) ?_
        refine zx_pc (pc1 := 50) rfl ?_
        have h_170 : w_152.1 p0 = some (6, 0, [zI nu, zN, zN, zN, zN]) := by
          rw [hw_153]; exact znew_to (ok_151 _ _ h_4) h_4
        have h_171 : w_159.1 p0 = some (6, 0, [zI nu, zN, zN, zN, zN]) := by
          rw [hw_160]; exact znew_to (ok_158 _ _ h_170) h_170
        have h_172 : w_166.1 p0 = some (6, 0, [zI nu, zN, zN, zN, zN]) := by
          rw [hw_167]; exact zput_tg h_165 h_171 (by simp)
        obtain ⟨w_173, hw_174⟩ : ∃ ww, ww = zput w_166 p0 (6, 0, [zI nu, zR a_154, zN, zN, zN]) := ⟨_, rfl⟩
        refine zx_put (w1 := w_173) dX6_init_50 zf_X6_20 h_172 (Nat.le_of_ble_eq_true rfl) (zFt_obj _ _) (fun _ => ⟨rfl, fun q h => by cases h; rfl⟩) hw_174.symm ?_
        have q_175 : w_173.2.1 = w_166.2.1 ∧ w_173.2.2 = w_166.2.2 := by rw [hw_174]; exact ⟨rfl, rfl⟩
        have h_176 : w_173.1 p0 = some (6, 0, [zI nu, zR a_154, zN, zN, zN]) := by rw [hw_174]; exact zput_at
        refine zx_iconst (v := 0) dX6_init_53 rfl (z32_lit (by decide) (by decide)) ?_
        refine zx_istore (i := 6) dX6_init_54 (by decide) rfl ?_
        refine zx_L (L1 := [some (zR p0), some (zI nu), some (zI f0), some (zI s0), some (zI t0), some (zI 2), some (zI 0)]) rfl ?_
        refine zx_iload (i := 6) dX6_init_56 rfl ?_
        refine zx_iload (i := 5) dX6_init_58 rfl ?_
        refine zx_icmp_ge (tgt := 88) dX6_init_60 (by decide) (fun h60 => absurd h60 (by decide)) (fun h60 => ?_)
        refine zx_aload_n (i := 0) dX6_init_63 rfl rfl ?_
        refine zx_getfield dX6_init_64 zf_X6_20 h_176 rfl ?_
        refine zx_iload (i := 6) dX6_init_67 rfl ?_
        refine zx_iload_n (i := 2) dX6_init_69 rfl rfl ?_
        refine zx_iload_n (i := 3) dX6_init_70 rfl rfl ?_
        refine zx_iload (i := 4) dX6_init_71 rfl ?_
        refine zx_pc (pc1 := 73) rfl ?_
        refine zx_iN (As := [zI 0, zI f0, zI s0, zI t0]) (st := [zR a_154]) (v := (some (zI (pk 0 f0 s0 t0)))) (w1 := w_173) dX6_init_73 zc_X6_24 rfl (Nat.le_of_ble_eq_true rfl) rfl (c_X11_pick 0 f0 s0 t0) ?_
        refine zx_st (st1 := [zI (pk 0 f0 s0 t0), zR a_154]) rfl ?_
        refine zx_iconst (v := -1) dX6_init_76 rfl (z32_lit (by decide) (by decide)) ?_
        refine zx_iconst (v := -1) dX6_init_77 rfl (z32_lit (by decide) (by decide)) ?_
        have h_177 : w_173.1 a_154 = some (134, p0, tTb 1 3 []) := by
          rw [hw_174]; exact zput_tg h_172 h_169 (by simp)
        obtain ⟨w_178, hw_179⟩ : ∃ ww, ww = zput w_173 a_154 (134, p0, tTb 1 3 ([] ++ [trow 1 (pk 0 f0 s0 t0) (-1) (-1)])) := ⟨_, rfl⟩
        have q_180 : w_178.2.1 = w_173.2.1 ∧ w_178.2.2 = w_173.2.2 := by rw [hw_179]; exact ⟨rfl, rfl⟩
        have h_181 : w_178.1 a_154 = some (134, p0, tTb 1 3 ([] ++ [trow 1 (pk 0 f0 s0 t0) (-1) (-1)])) := by rw [hw_179]; exact zput_at
        refine zx_iv (b := a_154) (As := [zI (pk 0 f0 s0 t0), zI (-1), zI (-1)]) (st := []) (v := (some (zI ([].length : Int)))) (w1 := w_178) dX6_init_78 zc_X6_28 h_177 (z_cls9 (by decide)) rfl rfl (Nat.le_of_ble_eq_true rfl) rfl (by rw [hw_179]; exact (c_X9_addS h_177 (by decide) (tOk_nil (by decide)) ⟨Nat.le_of_ble_eq_true rfl, by decide⟩ (pk 0 f0 s0 t0) (-1) (-1))) ?_
        refine zx_st (st1 := [zI ([].length : Int)]) rfl ?_
        refine zx_pop dX6_init_81 (fun a h => by cases h) ?_
        refine zx_iinc (i := 6) (v := 1) dX6_init_82 rfl (by decide +kernel) (by decide) rfl ?_
        refine zx_L (L1 := [some (zR p0), some (zI nu), some (zI f0), some (zI s0), some (zI t0), some (zI 2), some (zI 1)]) rfl ?_
        refine zx_goto (tgt := 56) dX6_init_85 (by decide) ?_
        refine zx_iload (i := 6) dX6_init_56 rfl ?_
        refine zx_iload (i := 5) dX6_init_58 rfl ?_
        refine zx_icmp_ge (tgt := 88) dX6_init_60 (by decide) (fun h60 => absurd h60 (by decide)) (fun h60 => ?_)
        refine zx_aload_n (i := 0) dX6_init_63 rfl rfl ?_
        have h_182 : w_178.1 p0 = some (6, 0, [zI nu, zR a_154, zN, zN, zN]) := by
          rw [hw_179]; exact zput_tg h_177 h_176 (by simp)
        refine zx_getfield dX6_init_64 zf_X6_20 h_182 rfl ?_
        refine zx_pc (pc1 := 67) rfl ?_
        refine zx_iload (i := 6) dX6_init_67 rfl ?_
        refine zx_iload_n (i := 2) dX6_init_69 rfl rfl ?_
        refine zx_iload_n (i := 3) dX6_init_70 rfl rfl ?_
        refine zx_iload (i := 4) dX6_init_71 rfl ?_
        refine zx_iN (As := [zI 1, zI f0, zI s0, zI t0]) (st := [zR a_154]) (v := (some (zI (pk 1 f0 s0 t0)))) (w1 := w_178) dX6_init_73 zc_X6_24 rfl (Nat.le_of_ble_eq_true rfl) rfl (c_X11_pick 1 f0 s0 t0) ?_
        refine zx_st (st1 := [zI (pk 1 f0 s0 t0), zR a_154]) rfl ?_
        refine zx_iconst (v := -1) dX6_init_76 rfl (z32_lit (by decide) (by decide)) ?_
        refine zx_iconst (v := -1) dX6_init_77 rfl (z32_lit (by decide) (by decide)) ?_
        obtain ⟨w_183, hw_184⟩ : ∃ ww, ww = zput w_178 a_154 (134, p0, tTb 1 3 (([] ++ [trow 1 (pk 0 f0 s0 t0) (-1) (-1)]) ++ [trow 1 (pk 1 f0 s0 t0) (-1) (-1)])) := ⟨_, rfl⟩
        have q_185 : w_183.2.1 = w_178.2.1 ∧ w_183.2.2 = w_178.2.2 := by rw [hw_184]; exact ⟨rfl, rfl⟩
        have h_186 : w_183.1 a_154 = some (134, p0, tTb 1 3 (([] ++ [trow 1 (pk 0 f0 s0 t0) (-1) (-1)]) ++ [trow 1 (pk 1 f0 s0 t0) (-1) (-1)])) := by rw [hw_184]; exact zput_at
        refine zx_iv (b := a_154) (As := [zI (pk 1 f0 s0 t0), zI (-1), zI (-1)]) (st := []) (v := (some (zI (([] ++ [trow 1 (pk 0 f0 s0 t0) (-1) (-1)]).length : Int)))) (w1 := w_183) dX6_init_78 zc_X6_28 h_181 (z_cls9 (by decide)) rfl rfl (Nat.le_of_ble_eq_true rfl) rfl (by rw [hw_184]; exact (c_X9_addS h_181 (by decide) (tOk_app (tOk_nil (by decide)) trow_len) ⟨Nat.le_of_ble_eq_true rfl, by decide⟩ (pk 1 f0 s0 t0) (-1) (-1))) ?_
        refine zx_st (st1 := [zI (([] ++ [trow 1 (pk 0 f0 s0 t0) (-1) (-1)]).length : Int)]) rfl ?_
        refine zx_pop dX6_init_81 (fun a h => by cases h) ?_
        refine zx_iinc (i := 6) (v := 2) dX6_init_82 rfl (by decide +kernel) (by decide) rfl ?_
        refine zx_L (L1 := [some (zR p0), some (zI nu), some (zI f0), some (zI s0), some (zI t0), some (zI 2), some (zI 2)]) rfl ?_
        refine zx_goto (tgt := 56) dX6_init_85 (by decide) ?_
        refine zx_iload (i := 6) dX6_init_56 rfl ?_
        refine zx_pc (pc1 := 58) rfl ?_
        refine zx_iload (i := 5) dX6_init_58 rfl ?_
        refine zx_icmp_ge (tgt := 88) dX6_init_60 (by decide) (fun h60 => ?_) (fun h60 => absurd (by decide) h60)
        refine zx_aload_n (i := 0) dX6_init_88 rfl rfl ?_
        refine zx_ok (fun ok_187 => ?_)
        refine zx_new dX6_init_89 zn_X6_32 (by omega) (by omega) ?_
        obtain ⟨w_188, hw_189⟩ : ∃ ww, ww = znew w_183 (12, 0, [zI 0, zN, zI 0]) 3 := ⟨_, rfl⟩
        obtain ⟨a_190, ha_191⟩ : ∃ ww, ww = w_183.2.1 := ⟨_, rfl⟩
        rw [← hw_189, ← ha_191]
        have q_192 : w_188.2.1 = w_183.2.1 + 1 ∧ w_188.2.2 = w_183.2.2 + 3 := by rw [hw_189]; exact ⟨rfl, rfl⟩
        have h_193 : w_188.1 a_190 = some (12, 0, [zI 0, zN, zI 0]) := by rw [hw_189, ha_191]; exact znew_at
        refine zx_dup dX6_init_92 (fun a h => by cases h) ?_
        obtain ⟨w_194, hw_195⟩ : ∃ ww, ww = zput w_188 a_190 (163, p0, zLs 0 []) := ⟨_, rfl⟩
        have q_196 : w_194.2.1 = w_188.2.1 ∧ w_194.2.2 = w_188.2.2 := by rw [hw_195]; exact ⟨rfl, rfl⟩
        have h_197 : w_194.1 a_190 = some (163, p0, zLs 0 []) := by rw [hw_195]; exact zput_at
        refine zx_ic (b := a_190) (As := []) (st := [zR a_190, zR p0]) (w1 := w_194) dX6_init_93 zc_X6_34 rfl (Nat.le_of_ble_eq_true rfl) rfl (by rw [hw_195]; exact (c_list_init 163 p0 h_193 (by decide))) ?_
        have h_198 : w_183.1 p0 = some (6, 0, [zI nu, zR a_154, zN, zN, zN]) := by
          rw [hw_184]; exact zput_tg h_181 h_182 (by simp)
        have h_199 : w_188.1 p0 = some (6, 0, [zI nu, zR a_154, zN, zN, zN]) := by
          rw [hw_189]; exact znew_to (ok_187 _ _ h_198) h_198
        have h_200 : w_194.1 p0 = some (6, 0, [zI nu, zR a_154, zN, zN, zN]) := by
          rw [hw_195]; exact zput_tg h_193 h_199 (by simp)
        obtain ⟨w_201, hw_202⟩ : ∃ ww, ww = zput w_194 p0 (6, 0, [zI nu, zR a_154, zR a_190, zN, zN]) := ⟨_, rfl⟩
        refine zx_put (w1 := w_201) dX6_init_96 zf_X6_35 h_200 (Nat.le_of_ble_eq_true rfl) (zFt_obj _ _) (fun _ => ⟨rfl, fun q h => by cases h; rfl⟩) hw_202.symm ?_
        have q_203 : w_201.2.1 = w_194.2.1 ∧ w_201.2.2 = w_194.2.2 := by rw [hw_202]; exact ⟨rfl, rfl⟩
        have h_204 : w_201.1 p0 = some (6, 0, [zI nu, zR a_154, zR a_190, zN, zN]) := by rw [hw_202]; exact zput_at
        refine zx_aload_n (i := 0) dX6_init_99 rfl rfl ?_
        refine zx_ok (fun ok_205 => ?_)
        refine zx_new dX6_init_100 zn_X6_32 (by omega) (by omega) ?_
        obtain ⟨w_206, hw_207⟩ : ∃ ww, ww = znew w_201 (12, 0, [zI 0, zN, zI 0]) 3 := ⟨_, rfl⟩
        obtain ⟨a_208, ha_209⟩ : ∃ ww, ww = w_201.2.1 := ⟨_, rfl⟩
        rw [← hw_207, ← ha_209]
        have q_210 : w_206.2.1 = w_201.2.1 + 1 ∧ w_206.2.2 = w_201.2.2 + 3 := by rw [hw_207]; exact ⟨rfl, rfl⟩
        have h_211 : w_206.1 a_208 = some (12, 0, [zI 0, zN, zI 0]) := by rw [hw_207, ha_209]; exact znew_at
        refine zx_dup dX6_init_103 (fun a h => by cases h) ?_
        obtain ⟨w_212, hw_213⟩ : ∃ ww, ww = zput w_206 a_208 (164, p0, zLs 0 []) := ⟨_, rfl⟩
        have q_214 : w_212.2.1 = w_206.2.1 ∧ w_212.2.2 = w_206.2.2 := by rw [hw_213]; exact ⟨rfl, rfl⟩
        have h_215 : w_212.1 a_208 = some (164, p0, zLs 0 []) := by rw [hw_213]; exact zput_at
        refine zx_ic (b := a_208) (As := []) (st := [zR a_208, zR p0]) (w1 := w_212) dX6_init_104 zc_X6_34 rfl (Nat.le_of_ble_eq_true rfl) rfl (by rw [hw_213]; exact (c_list_init 164 p0 h_211 (by decide))) ?_
        have h_216 : w_206.1 p0 = some (6, 0, [zI nu, zR a_154, zR a_190, zN, zN]) := by
          rw [hw_207]; exact znew_to (ok_205 _ _ h_204) h_204
        have h_217 : w_212.1 p0 = some (6, 0, [zI nu, zR a_154, zR a_190, zN, zN]) := by
          rw [hw_213]; exact zput_tg h_211 h_216 (by simp)
        obtain ⟨w_218, hw_219⟩ : ∃ ww, ww = zput w_212 p0 (6, 0, [zI nu, zR a_154, zR a_190, zR a_208, zN]) := ⟨_, rfl⟩
        refine zx_put (w1 := w_218) dX6_init_107 zf_X6_39 h_217 (Nat.le_of_ble_eq_true rfl) (zFt_obj _ _) (fun _ => ⟨rfl, fun q h => by cases h; rfl⟩) hw_219.symm ?_
        have q_220 : w_218.2.1 = w_212.2.1 ∧ w_218.2.2 = w_212.2.2 := by rw [hw_219]; exact ⟨rfl, rfl⟩
        have h_221 : w_218.1 p0 = some (6, 0, [zI nu, zR a_154, zR a_190, zR a_208, zN]) := by rw [hw_219]; exact zput_at
        refine zx_pc (pc1 := 110) rfl ?_
        refine zx_aload_n (i := 0) dX6_init_110 rfl rfl ?_
        refine zx_ok (fun ok_222 => ?_)
        refine zx_new dX6_init_111 zn_X6_42 (by omega) (by omega) ?_
        obtain ⟨w_223, hw_224⟩ : ∃ ww, ww = znew w_218 (3, 0, [zI 0, zI 0, zI 0, zN]) 4 := ⟨_, rfl⟩
        obtain ⟨a_225, ha_226⟩ : ∃ ww, ww = w_218.2.1 := ⟨_, rfl⟩
        rw [← hw_224, ← ha_226]
        have q_227 : w_223.2.1 = w_218.2.1 + 1 ∧ w_223.2.2 = w_218.2.2 + 4 := by rw [hw_224]; exact ⟨rfl, rfl⟩
        have h_228 : w_223.1 a_225 = some (3, 0, [zI 0, zI 0, zI 0, zN]) := by rw [hw_224, ha_226]; exact znew_at
        refine zx_dup dX6_init_114 (fun a h => by cases h) ?_
        refine zx_iconst (v := 2) dX6_init_115 rfl (z32_lit (by decide) (by decide)) ?_
        refine zx_iload_n (i := 1) dX6_init_116 rfl rfl ?_
        refine zx_iload (i := 5) dX6_init_117 rfl ?_
        refine zx_iconst (v := 0) dX6_init_119 rfl (z32_lit (by decide) (by decide)) ?_
        refine zx_iconst (v := 1) dX6_init_120 rfl (z32_lit (by decide) (by decide)) ?_
        refine zx_iconst (v := 2) dX6_init_121 rfl (z32_lit (by decide) (by decide)) ?_
        refine zx_ok (fun ok_229 => ?_)
        obtain ⟨w_230, hw_231⟩ : ∃ ww, ww = znew w_223 (100, a_225, [zI 0, zI 1, zI 2]) 3 := ⟨_, rfl⟩
        obtain ⟨a_232, ha_233⟩ : ∃ ww, ww = w_223.2.1 := ⟨_, rfl⟩
        have q_234 : w_230.2.1 = w_223.2.1 + 1 ∧ w_230.2.2 = w_223.2.2 + 3 := by rw [hw_231]; exact ⟨rfl, rfl⟩
        have h_235 : w_230.1 a_232 = some (100, a_225, [zI 0, zI 1, zI 2]) := by rw [hw_231, ha_233]; exact znew_at
        have h_236 : w_230.1 a_225 = some (3, 0, [zI 0, zI 0, zI 0, zN]) := by
          rw [hw_231]; exact znew_to (ok_229 _ _ h_228) h_228
        obtain ⟨w_237, hw_238⟩ : ∃ ww, ww = zput w_230 a_225 (3, 0, [zI 2, zI nu, zI 2, zR a_232]) := ⟨_, rfl⟩
        have q_239 : w_237.2.1 = w_230.2.1 ∧ w_237.2.2 = w_230.2.2 := by rw [hw_238]; exact ⟨rfl, rfl⟩
        have h_240 : w_237.1 a_225 = some (3, 0, [zI 2, zI nu, zI 2, zR a_232]) := by rw [hw_238]; exact zput_at
        refine zx_ic (b := a_225) (As := [zI 2, zI nu, zI 2, zI 0, zI 1, zI 2]) (st := [zR a_225, zR p0]) (w1 := w_237) dX6_init_122 zc_X6_44 rfl (Nat.le_of_ble_eq_true rfl) rfl (by rw [hw_238]; (try rw [ha_233]); rw [hw_231]; exact (c_X3_init h_228 (by omega) (by omega) 2 nu 2 0 1 2)) ?_
        have h_241 : w_223.1 p0 = some (6, 0, [zI nu, zR a_154, zR a_190, zR a_208, zN]) := by
          rw [hw_224]; exact znew_to (ok_222 _ _ h_221) h_221
        have h_242 : w_230.1 p0 = some (6, 0, [zI nu, zR a_154, zR a_190, zR a_208, zN]) := by
          rw [hw_231]; exact znew_to (ok_229 _ _ h_241) h_241
        have h_243 : w_237.1 p0 = some (6, 0, [zI nu, zR a_154, zR a_190, zR a_208, zN]) := by
          rw [hw_238]; exact zput_tg h_236 h_242 (by simp)
        obtain ⟨w_244, hw_245⟩ : ∃ ww, ww = zput w_237 p0 (6, 0, [zI nu, zR a_154, zR a_190, zR a_208, zR a_225]) := ⟨_, rfl⟩
        refine zx_put (w1 := w_244) dX6_init_125 zf_X6_47 h_243 (Nat.le_of_ble_eq_true rfl) (zFt_obj _ _) (fun _ => ⟨rfl, fun q h => by cases h; rfl⟩) hw_245.symm ?_
        have q_246 : w_244.2.1 = w_237.2.1 ∧ w_244.2.2 = w_237.2.2 := by rw [hw_245]; exact ⟨rfl, rfl⟩
        have h_247 : w_244.1 p0 = some (6, 0, [zI nu, zR a_154, zR a_190, zR a_208, zR a_225]) := by rw [hw_245]; exact zput_at
        refine zx_return dX6_init_128 rfl ?_
        have h_248 : w_188.1 a_154 = some (134, p0, tTb 1 3 (([] ++ [trow 1 (pk 0 f0 s0 t0) (-1) (-1)]) ++ [trow 1 (pk 1 f0 s0 t0) (-1) (-1)])) := by
          rw [hw_189]; exact znew_to (ok_187 _ _ h_186) h_186
        have h_249 : w_194.1 a_154 = some (134, p0, tTb 1 3 (([] ++ [trow 1 (pk 0 f0 s0 t0) (-1) (-1)]) ++ [trow 1 (pk 1 f0 s0 t0) (-1) (-1)])) := by
          rw [hw_195]; exact zput_tg h_193 h_248 (by simp)
        have h_250 : w_201.1 a_154 = some (134, p0, tTb 1 3 (([] ++ [trow 1 (pk 0 f0 s0 t0) (-1) (-1)]) ++ [trow 1 (pk 1 f0 s0 t0) (-1) (-1)])) := by
          rw [hw_202]; exact zput_tg h_200 h_249 (by simp)
        have h_251 : w_206.1 a_154 = some (134, p0, tTb 1 3 (([] ++ [trow 1 (pk 0 f0 s0 t0) (-1) (-1)]) ++ [trow 1 (pk 1 f0 s0 t0) (-1) (-1)])) := by
          rw [hw_207]; exact znew_to (ok_205 _ _ h_250) h_250
        have h_252 : w_212.1 a_154 = some (134, p0, tTb 1 3 (([] ++ [trow 1 (pk 0 f0 s0 t0) (-1) (-1)]) ++ [trow 1 (pk 1 f0 s0 t0) (-1) (-1)])) := by
          rw [hw_213]; exact zput_tg h_211 h_251 (by simp)
        have h_253 : w_218.1 a_154 = some (134, p0, tTb 1 3 (([] ++ [trow 1 (pk 0 f0 s0 t0) (-1) (-1)]) ++ [trow 1 (pk 1 f0 s0 t0) (-1) (-1)])) := by
          rw [hw_219]; exact zput_tg h_217 h_252 (by simp)
        have h_254 : w_223.1 a_154 = some (134, p0, tTb 1 3 (([] ++ [trow 1 (pk 0 f0 s0 t0) (-1) (-1)]) ++ [trow 1 (pk 1 f0 s0 t0) (-1) (-1)])) := by
          rw [hw_224]; exact znew_to (ok_222 _ _ h_253) h_253
        have h_255 : w_230.1 a_154 = some (134, p0, tTb 1 3 (([] ++ [trow 1 (pk 0 f0 s0 t0) (-1) (-1)]) ++ [trow 1 (pk 1 f0 s0 t0) (-1) (-1)])) := by
          rw [hw_231]; exact znew_to (ok_229 _ _ h_254) h_254
        have h_256 : w_237.1 a_154 = some (134, p0, tTb 1 3 (([] ++ [trow 1 (pk 0 f0 s0 t0) (-1) (-1)]) ++ [trow 1 (pk 1 f0 s0 t0) (-1) (-1)])) := by
          rw [hw_238]; exact zput_tg h_236 h_255 (by simp)
        have h_257 : w_244.1 a_154 = some (134, p0, tTb 1 3 (([] ++ [trow 1 (pk 0 f0 s0 t0) (-1) (-1)]) ++ [trow 1 (pk 1 f0 s0 t0) (-1) (-1)])) := by
          rw [hw_245]; exact zput_tg h_243 h_256 (by simp)
        have h_258 : w_201.1 a_190 = some (163, p0, zLs 0 []) := by
          rw [hw_202]; exact zput_tg h_200 h_197 (by simp)
        have h_259 : w_206.1 a_190 = some (163, p0, zLs 0 []) := by
          rw [hw_207]; exact znew_to (ok_205 _ _ h_258) h_258
        have h_260 : w_212.1 a_190 = some (163, p0, zLs 0 []) := by
          rw [hw_213]; exact zput_tg h_211 h_259 (by simp)
        have h_261 : w_218.1 a_190 = some (163, p0, zLs 0 []) := by
          rw [hw_219]; exact zput_tg h_217 h_260 (by simp)
        have h_262 : w_223.1 a_190 = some (163, p0, zLs 0 []) := by
          rw [hw_224]; exact znew_to (ok_222 _ _ h_261) h_261
        have h_263 : w_230.1 a_190 = some (163, p0, zLs 0 []) := by
          rw [hw_231]; exact znew_to (ok_229 _ _ h_262) h_262
        have h_264 : w_237.1 a_190 = some (163, p0, zLs 0 []) := by
          rw [hw_238]; exact zput_tg h_236 h_263 (by simp)
        have h_265 : w_244.1 a_190 = some (163, p0, zLs 0 []) := by
          rw [hw_245]; exact zput_tg h_243 h_264 (by simp)
        have h_266 : w_218.1 a_208 = some (164, p0, zLs 0 []) := by
          rw [hw_219]; exact zput_tg h_217 h_215 (by simp)
        have h_267 : w_223.1 a_208 = some (164, p0, zLs 0 []) := by
          rw [hw_224]; exact znew_to (ok_222 _ _ h_266) h_266
        have h_268 : w_230.1 a_208 = some (164, p0, zLs 0 []) := by
          rw [hw_231]; exact znew_to (ok_229 _ _ h_267) h_267
        have h_269 : w_237.1 a_208 = some (164, p0, zLs 0 []) := by
          rw [hw_238]; exact zput_tg h_236 h_268 (by simp)
        have h_270 : w_244.1 a_208 = some (164, p0, zLs 0 []) := by
          rw [hw_245]; exact zput_tg h_243 h_269 (by simp)
        have h_271 : w_244.1 a_225 = some (3, 0, [zI 2, zI nu, zI 2, zR a_232]) := by
          rw [hw_245]; exact zput_tg h_243 h_240 (by simp)
        have h_272 : w_237.1 a_232 = some (100, a_225, [zI 0, zI 1, zI 2]) := by
          rw [hw_238]; exact zput_tg h_236 h_235 (by simp)
        have h_273 : w_244.1 a_232 = some (100, a_225, [zI 0, zI 1, zI 2]) := by
          rw [hw_245]; exact zput_tg h_243 h_272 (by simp)
        have hfr : ∀ b ob, b ≠ p0 → w.1 b = some ob → w_244.1 b = some ob := by
          intro b ob hx_p0 hb
          have hlt := ok0 b ob hb
          have f_274 : w_1.1 b = some ob := by rw [hw_2]; exact zput_to hx_p0 hb
          have f_275 : w_152.1 b = some ob := by rw [hw_153, znew_ne (by omega)]; exact f_274
          have f_276 : w_159.1 b = some ob := by rw [hw_160, znew_ne (by omega)]; exact f_275
          have f_277 : w_166.1 b = some ob := by rw [hw_167]; exact zput_to (by omega) f_276
          have f_278 : w_173.1 b = some ob := by rw [hw_174]; exact zput_to hx_p0 f_277
          have f_279 : w_178.1 b = some ob := by rw [hw_179]; exact zput_to (by omega) f_278
          have f_280 : w_183.1 b = some ob := by rw [hw_184]; exact zput_to (by omega) f_279
          have f_281 : w_188.1 b = some ob := by rw [hw_189, znew_ne (by omega)]; exact f_280
          have f_282 : w_194.1 b = some ob := by rw [hw_195]; exact zput_to (by omega) f_281
          have f_283 : w_201.1 b = some ob := by rw [hw_202]; exact zput_to hx_p0 f_282
          have f_284 : w_206.1 b = some ob := by rw [hw_207, znew_ne (by omega)]; exact f_283
          have f_285 : w_212.1 b = some ob := by rw [hw_213]; exact zput_to (by omega) f_284
          have f_286 : w_218.1 b = some ob := by rw [hw_219]; exact zput_to hx_p0 f_285
          have f_287 : w_223.1 b = some ob := by rw [hw_224, znew_ne (by omega)]; exact f_286
          have f_288 : w_230.1 b = some ob := by rw [hw_231, znew_ne (by omega)]; exact f_287
          have f_289 : w_237.1 b = some ob := by rw [hw_238]; exact zput_to (by omega) f_288
          have f_290 : w_244.1 b = some ob := by rw [hw_245]; exact zput_to hx_p0 f_289
          exact f_290
        have e_a_154 : a_154 = w.2.1 := by omega
        have e_a_190 : a_190 = w.2.1 + 2 := by omega
        have e_a_208 : a_208 = w.2.1 + 3 := by omega
        have e_a_225 : a_225 = w.2.1 + 4 := by omega
        have e_a_232 : a_232 = w.2.1 + 5 := by omega
        subst e_a_154 e_a_190 e_a_208 e_a_225 e_a_232
        have eT : prT f0 s0 t0 = (([] ++ [trow 1 (pk 0 f0 s0 t0) (-1) (-1)]) ++ [trow 1 (pk 1 f0 s0 t0) (-1) (-1)]) := by
          unfold prT
          rw [if_neg (by omega), if_neg (by omega), if_pos (by omega)]; rfl
        exact ⟨rfl, h_247, ⟨by rw [eT]; exact h_257, by rw [eT]; exact (tOk_app (tOk_app (tOk_nil (by decide)) trow_len) trow_len)⟩, h_265, h_270, by rw [eT]; exact h_271, h_273, by omega, by omega, hfr⟩
    · refine zx_pc (pc1 := 23) rfl ?_
      refine zx_iconst (v := 1) dX6_init_23 rfl (z32_lit (by decide) (by decide)) ?_
      refine zx_goto (tgt := 38) dX6_init_24 (by decide) ?_
      refine zx_istore (i := 5) dX6_init_38 (by decide) rfl ?_
      refine zx_L (L1 := [some (zR p0), some (zI nu), some (zI f0), some (zI s0), some (zI t0), some (zI 1), none]) rfl ?_
      refine zx_aload_n (i := 0) dX6_init_40 rfl rfl ?_
      refine zx_ok (fun ok_291 => ?_)
      refine zx_new dX6_init_41 zn_X6_15 (by omega) (by omega) ?_
      obtain ⟨w_292, hw_293⟩ : ∃ ww, ww = znew w_1 (9, 0, [zI 0, zN, zI 0]) 3 := ⟨_, rfl⟩
      obtain ⟨a_294, ha_295⟩ : ∃ ww, ww = w_1.2.1 := ⟨_, rfl⟩
      rw [← hw_293, ← ha_295]
      have q_296 : w_292.2.1 = w_1.2.1 + 1 ∧ w_292.2.2 = w_1.2.2 + 3 := by rw [hw_293]; exact ⟨rfl, rfl⟩
      have h_297 : w_292.1 a_294 = some (9, 0, [zI 0, zN, zI 0]) := by rw [hw_293, ha_295]; exact znew_at
      refine zx_dup dX6_init_44 (fun a h => by cases h) ?_
      refine zx_iconst (v := 1) dX6_init_45 rfl (z32_lit (by decide) (by decide)) ?_
      refine zx_iconst (v := 3) dX6_init_46 rfl (z32_lit (by decide) (by decide)) ?_
      refine zx_ok (fun ok_298 => ?_)
      obtain ⟨w_299, hw_300⟩ : ∃ ww, ww = znew w_292 (199, a_294, []) 3 := ⟨_, rfl⟩
      obtain ⟨a_301, ha_302⟩ : ∃ ww, ww = w_292.2.1 := ⟨_, rfl⟩
      have q_303 : w_299.2.1 = w_292.2.1 + 1 ∧ w_299.2.2 = w_292.2.2 + 3 := by rw [hw_300]; exact ⟨rfl, rfl⟩
      have h_304 : w_299.1 a_301 = some (199, a_294, []) := by rw [hw_300, ha_302]; exact znew_at
      have h_305 : w_299.1 a_294 = some (9, 0, [zI 0, zN, zI 0]) := by
        rw [hw_300]; exact znew_to (ok_298 _ _ h_297) h_297
      obtain ⟨w_306, hw_307⟩ : ∃ ww, ww = zput w_299 a_294 (134, p0, tTb 1 3 []) := ⟨_, rfl⟩
      have q_308 : w_306.2.1 = w_299.2.1 ∧ w_306.2.2 = w_299.2.2 := by rw [hw_307]; exact ⟨rfl, rfl⟩
      have h_309 : w_306.1 a_294 = some (134, p0, tTb 1 3 []) := by rw [hw_307]; exact zput_at
      refine zx_ic (b := a_294) (As := [zI 1, zI 3]) (st := [zR a_294, zR p0]) (w1 := w_306) dX6_init_47 zc_X6_17 rfl (Nat.le_of_ble_eq_true rfl) rfl (by rw [hw_307]; (try rw [ha_302]); rw [hw_300]; exact (c_X9_init (c := 1) (rm := 3) 134 p0 h_297 (by decide) (by decide) (by decide) (by decide) (by decide) (by omega) (by omega))) ?_
      have h_310 : w_292.1 p0 = some (6, 0, [zI nu, zN, zN, zN, zN]) := by
        rw [hw_293]; exact znew_to (ok_291 _ _ h_4) h_4
      have h_311 : w_299.1 p0 = some (6, 0, [zI nu, zN, zN, zN, zN]) := by
        rw [hw_300]; exact znew_to (ok_298 _ _ h_310) h_310
      have h_312 : w_306.1 p0 = some (6, 0, [zI nu, zN, zN, zN, zN]) := by
        rw [hw_307]; exact zput_tg h_305 h_311 (by simp)
      obtain ⟨w_313, hw_314⟩ : ∃ ww, ww = zput w_306 p0 (6, 0, [zI nu, zR a_294, zN, zN, zN]) := ⟨_, rfl⟩
      refine zx_put (w1 := w_313) dX6_init_50 zf_X6_20 h_312 (Nat.le_of_ble_eq_true rfl) (zFt_obj _ _) (fun _ => ⟨rfl, fun q h => by cases h; rfl⟩) hw_314.symm ?_
      have q_315 : w_313.2.1 = w_306.2.1 ∧ w_313.2.2 = w_306.2.2 := by rw [hw_314]; exact ⟨rfl, rfl⟩
      have h_316 : w_313.1 p0 = some (6, 0, [zI nu, zR a_294, zN, zN, zN]) := by rw [hw_314]; exact zput_at
      refine zx_iconst (v := 0) dX6_init_53 rfl (z32_lit (by decide) (by decide)) ?_
      refine zx_istore (i := 6) dX6_init_54 (by decide) rfl ?_
      refine zx_L (L1 := [some (zR p0), some (zI nu), some (zI f0), some (zI s0), some (zI t0), some (zI 1), some (zI 0)]) rfl ?_
      refine zx_pc (pc1 := 56) rfl ?_
      refine zx_iload (i := 6) dX6_init_56 rfl ?_
      refine zx_iload (i := 5) dX6_init_58 rfl ?_
      refine zx_icmp_ge (tgt := 88) dX6_init_60 (by decide) (fun h60 => absurd h60 (by decide)) (fun h60 => ?_)
      refine zx_aload_n (i := 0) dX6_init_63 rfl rfl ?_
      refine zx_getfield dX6_init_64 zf_X6_20 h_316 rfl ?_
      refine zx_iload (i := 6) dX6_init_67 rfl ?_
      refine zx_iload_n (i := 2) dX6_init_69 rfl rfl ?_
      refine zx_iload_n (i := 3) dX6_init_70 rfl rfl ?_
      refine zx_iload (i := 4) dX6_init_71 rfl ?_
      refine zx_iN (As := [zI 0, zI f0, zI s0, zI t0]) (st := [zR a_294]) (v := (some (zI (pk 0 f0 s0 t0)))) (w1 := w_313) dX6_init_73 zc_X6_24 rfl (Nat.le_of_ble_eq_true rfl) rfl (c_X11_pick 0 f0 s0 t0) ?_
      refine zx_st (st1 := [zI (pk 0 f0 s0 t0), zR a_294]) rfl ?_
      refine zx_iconst (v := -1) dX6_init_76 rfl (z32_lit (by decide) (by decide)) ?_
      refine zx_iconst (v := -1) dX6_init_77 rfl (z32_lit (by decide) (by decide)) ?_
      refine zx_pc (pc1 := 78) rfl ?_
      have h_317 : w_313.1 a_294 = some (134, p0, tTb 1 3 []) := by
        rw [hw_314]; exact zput_tg h_312 h_309 (by simp)
      obtain ⟨w_318, hw_319⟩ : ∃ ww, ww = zput w_313 a_294 (134, p0, tTb 1 3 ([] ++ [trow 1 (pk 0 f0 s0 t0) (-1) (-1)])) := ⟨_, rfl⟩
      have q_320 : w_318.2.1 = w_313.2.1 ∧ w_318.2.2 = w_313.2.2 := by rw [hw_319]; exact ⟨rfl, rfl⟩
      have h_321 : w_318.1 a_294 = some (134, p0, tTb 1 3 ([] ++ [trow 1 (pk 0 f0 s0 t0) (-1) (-1)])) := by rw [hw_319]; exact zput_at
      refine zx_iv (b := a_294) (As := [zI (pk 0 f0 s0 t0), zI (-1), zI (-1)]) (st := []) (v := (some (zI ([].length : Int)))) (w1 := w_318) dX6_init_78 zc_X6_28 h_317 (z_cls9 (by decide)) rfl rfl (Nat.le_of_ble_eq_true rfl) rfl (by rw [hw_319]; exact (c_X9_addS h_317 (by decide) (tOk_nil (by decide)) ⟨Nat.le_of_ble_eq_true rfl, by decide⟩ (pk 0 f0 s0 t0) (-1) (-1))) ?_
      refine zx_st (st1 := [zI ([].length : Int)]) rfl ?_
      refine zx_pop dX6_init_81 (fun a h => by cases h) ?_
      refine zx_iinc (i := 6) (v := 1) dX6_init_82 rfl (by decide +kernel) (by decide) rfl ?_
      refine zx_L (L1 := [some (zR p0), some (zI nu), some (zI f0), some (zI s0), some (zI t0), some (zI 1), some (zI 1)]) rfl ?_
      refine zx_goto (tgt := 56) dX6_init_85 (by decide) ?_
      refine zx_iload (i := 6) dX6_init_56 rfl ?_
      refine zx_iload (i := 5) dX6_init_58 rfl ?_
      refine zx_icmp_ge (tgt := 88) dX6_init_60 (by decide) (fun h60 => ?_) (fun h60 => absurd (by decide) h60)
      refine zx_aload_n (i := 0) dX6_init_88 rfl rfl ?_
      refine zx_ok (fun ok_322 => ?_)
      refine zx_new dX6_init_89 zn_X6_32 (by omega) (by omega) ?_
      obtain ⟨w_323, hw_324⟩ : ∃ ww, ww = znew w_318 (12, 0, [zI 0, zN, zI 0]) 3 := ⟨_, rfl⟩
      obtain ⟨a_325, ha_326⟩ : ∃ ww, ww = w_318.2.1 := ⟨_, rfl⟩
      rw [← hw_324, ← ha_326]
      have q_327 : w_323.2.1 = w_318.2.1 + 1 ∧ w_323.2.2 = w_318.2.2 + 3 := by rw [hw_324]; exact ⟨rfl, rfl⟩
      have h_328 : w_323.1 a_325 = some (12, 0, [zI 0, zN, zI 0]) := by rw [hw_324, ha_326]; exact znew_at
      refine zx_dup dX6_init_92 (fun a h => by cases h) ?_
      obtain ⟨w_329, hw_330⟩ : ∃ ww, ww = zput w_323 a_325 (163, p0, zLs 0 []) := ⟨_, rfl⟩
      have q_331 : w_329.2.1 = w_323.2.1 ∧ w_329.2.2 = w_323.2.2 := by rw [hw_330]; exact ⟨rfl, rfl⟩
      have h_332 : w_329.1 a_325 = some (163, p0, zLs 0 []) := by rw [hw_330]; exact zput_at
      refine zx_ic (b := a_325) (As := []) (st := [zR a_325, zR p0]) (w1 := w_329) dX6_init_93 zc_X6_34 rfl (Nat.le_of_ble_eq_true rfl) rfl (by rw [hw_330]; exact (c_list_init 163 p0 h_328 (by decide))) ?_
      have h_333 : w_318.1 p0 = some (6, 0, [zI nu, zR a_294, zN, zN, zN]) := by
        rw [hw_319]; exact zput_tg h_317 h_316 (by simp)
      have h_334 : w_323.1 p0 = some (6, 0, [zI nu, zR a_294, zN, zN, zN]) := by
        rw [hw_324]; exact znew_to (ok_322 _ _ h_333) h_333
      have h_335 : w_329.1 p0 = some (6, 0, [zI nu, zR a_294, zN, zN, zN]) := by
        rw [hw_330]; exact zput_tg h_328 h_334 (by simp)
      obtain ⟨w_336, hw_337⟩ : ∃ ww, ww = zput w_329 p0 (6, 0, [zI nu, zR a_294, zR a_325, zN, zN]) := ⟨_, rfl⟩
      refine zx_put (w1 := w_336) dX6_init_96 zf_X6_35 h_335 (Nat.le_of_ble_eq_true rfl) (zFt_obj _ _) (fun _ => ⟨rfl, fun q h => by cases h; rfl⟩) hw_337.symm ?_
      have q_338 : w_336.2.1 = w_329.2.1 ∧ w_336.2.2 = w_329.2.2 := by rw [hw_337]; exact ⟨rfl, rfl⟩
      have h_339 : w_336.1 p0 = some (6, 0, [zI nu, zR a_294, zR a_325, zN, zN]) := by rw [hw_337]; exact zput_at
      refine zx_pc (pc1 := 99) rfl ?_
      refine zx_aload_n (i := 0) dX6_init_99 rfl rfl ?_
      refine zx_ok (fun ok_340 => ?_)
      refine zx_new dX6_init_100 zn_X6_32 (by omega) (by omega) ?_
      obtain ⟨w_341, hw_342⟩ : ∃ ww, ww = znew w_336 (12, 0, [zI 0, zN, zI 0]) 3 := ⟨_, rfl⟩
      obtain ⟨a_343, ha_344⟩ : ∃ ww, ww = w_336.2.1 := ⟨_, rfl⟩
      rw [← hw_342, ← ha_344]
      have q_345 : w_341.2.1 = w_336.2.1 + 1 ∧ w_341.2.2 = w_336.2.2 + 3 := by rw [hw_342]; exact ⟨rfl, rfl⟩
      have h_346 : w_341.1 a_343 = some (12, 0, [zI 0, zN, zI 0]) := by rw [hw_342, ha_344]; exact znew_at
      refine zx_dup dX6_init_103 (fun a h => by cases h) ?_
      obtain ⟨w_347, hw_348⟩ : ∃ ww, ww = zput w_341 a_343 (164, p0, zLs 0 []) := ⟨_, rfl⟩
      have q_349 : w_347.2.1 = w_341.2.1 ∧ w_347.2.2 = w_341.2.2 := by rw [hw_348]; exact ⟨rfl, rfl⟩
      have h_350 : w_347.1 a_343 = some (164, p0, zLs 0 []) := by rw [hw_348]; exact zput_at
      refine zx_ic (b := a_343) (As := []) (st := [zR a_343, zR p0]) (w1 := w_347) dX6_init_104 zc_X6_34 rfl (Nat.le_of_ble_eq_true rfl) rfl (by rw [hw_348]; exact (c_list_init 164 p0 h_346 (by decide))) ?_
      have h_351 : w_341.1 p0 = some (6, 0, [zI nu, zR a_294, zR a_325, zN, zN]) := by
        rw [hw_342]; exact znew_to (ok_340 _ _ h_339) h_339
      have h_352 : w_347.1 p0 = some (6, 0, [zI nu, zR a_294, zR a_325, zN, zN]) := by
        rw [hw_348]; exact zput_tg h_346 h_351 (by simp)
      obtain ⟨w_353, hw_354⟩ : ∃ ww, ww = zput w_347 p0 (6, 0, [zI nu, zR a_294, zR a_325, zR a_343, zN]) := ⟨_, rfl⟩
      refine zx_put (w1 := w_353) dX6_init_107 zf_X6_39 h_352 (Nat.le_of_ble_eq_true rfl) (zFt_obj _ _) (fun _ => ⟨rfl, fun q h => by cases h; rfl⟩) hw_354.symm ?_
      have q_355 : w_353.2.1 = w_347.2.1 ∧ w_353.2.2 = w_347.2.2 := by rw [hw_354]; exact ⟨rfl, rfl⟩
      have h_356 : w_353.1 p0 = some (6, 0, [zI nu, zR a_294, zR a_325, zR a_343, zN]) := by rw [hw_354]; exact zput_at
      refine zx_aload_n (i := 0) dX6_init_110 rfl rfl ?_
      refine zx_ok (fun ok_357 => ?_)
      refine zx_new dX6_init_111 zn_X6_42 (by omega) (by omega) ?_
      obtain ⟨w_358, hw_359⟩ : ∃ ww, ww = znew w_353 (3, 0, [zI 0, zI 0, zI 0, zN]) 4 := ⟨_, rfl⟩
      obtain ⟨a_360, ha_361⟩ : ∃ ww, ww = w_353.2.1 := ⟨_, rfl⟩
      rw [← hw_359, ← ha_361]
      have q_362 : w_358.2.1 = w_353.2.1 + 1 ∧ w_358.2.2 = w_353.2.2 + 4 := by rw [hw_359]; exact ⟨rfl, rfl⟩
      have h_363 : w_358.1 a_360 = some (3, 0, [zI 0, zI 0, zI 0, zN]) := by rw [hw_359, ha_361]; exact znew_at
      refine zx_dup dX6_init_114 (fun a h => by cases h) ?_
      refine zx_iconst (v := 2) dX6_init_115 rfl (z32_lit (by decide) (by decide)) ?_
      refine zx_iload_n (i := 1) dX6_init_116 rfl rfl ?_
      refine zx_iload (i := 5) dX6_init_117 rfl ?_
      refine zx_iconst (v := 0) dX6_init_119 rfl (z32_lit (by decide) (by decide)) ?_
      refine zx_pc (pc1 := 120) rfl ?_
      refine zx_iconst (v := 1) dX6_init_120 rfl (z32_lit (by decide) (by decide)) ?_
      refine zx_iconst (v := 2) dX6_init_121 rfl (z32_lit (by decide) (by decide)) ?_
      refine zx_ok (fun ok_364 => ?_)
      obtain ⟨w_365, hw_366⟩ : ∃ ww, ww = znew w_358 (100, a_360, [zI 0, zI 1, zI 2]) 3 := ⟨_, rfl⟩
      obtain ⟨a_367, ha_368⟩ : ∃ ww, ww = w_358.2.1 := ⟨_, rfl⟩
      have q_369 : w_365.2.1 = w_358.2.1 + 1 ∧ w_365.2.2 = w_358.2.2 + 3 := by rw [hw_366]; exact ⟨rfl, rfl⟩
      have h_370 : w_365.1 a_367 = some (100, a_360, [zI 0, zI 1, zI 2]) := by rw [hw_366, ha_368]; exact znew_at
      have h_371 : w_365.1 a_360 = some (3, 0, [zI 0, zI 0, zI 0, zN]) := by
        rw [hw_366]; exact znew_to (ok_364 _ _ h_363) h_363
      obtain ⟨w_372, hw_373⟩ : ∃ ww, ww = zput w_365 a_360 (3, 0, [zI 2, zI nu, zI 1, zR a_367]) := ⟨_, rfl⟩
      have q_374 : w_372.2.1 = w_365.2.1 ∧ w_372.2.2 = w_365.2.2 := by rw [hw_373]; exact ⟨rfl, rfl⟩
      have h_375 : w_372.1 a_360 = some (3, 0, [zI 2, zI nu, zI 1, zR a_367]) := by rw [hw_373]; exact zput_at
      refine zx_ic (b := a_360) (As := [zI 2, zI nu, zI 1, zI 0, zI 1, zI 2]) (st := [zR a_360, zR p0]) (w1 := w_372) dX6_init_122 zc_X6_44 rfl (Nat.le_of_ble_eq_true rfl) rfl (by rw [hw_373]; (try rw [ha_368]); rw [hw_366]; exact (c_X3_init h_363 (by omega) (by omega) 2 nu 1 0 1 2)) ?_
      have h_376 : w_358.1 p0 = some (6, 0, [zI nu, zR a_294, zR a_325, zR a_343, zN]) := by
        rw [hw_359]; exact znew_to (ok_357 _ _ h_356) h_356
      have h_377 : w_365.1 p0 = some (6, 0, [zI nu, zR a_294, zR a_325, zR a_343, zN]) := by
        rw [hw_366]; exact znew_to (ok_364 _ _ h_376) h_376
      have h_378 : w_372.1 p0 = some (6, 0, [zI nu, zR a_294, zR a_325, zR a_343, zN]) := by
        rw [hw_373]; exact zput_tg h_371 h_377 (by simp)
      obtain ⟨w_379, hw_380⟩ : ∃ ww, ww = zput w_372 p0 (6, 0, [zI nu, zR a_294, zR a_325, zR a_343, zR a_360]) := ⟨_, rfl⟩
      refine zx_put (w1 := w_379) dX6_init_125 zf_X6_47 h_378 (Nat.le_of_ble_eq_true rfl) (zFt_obj _ _) (fun _ => ⟨rfl, fun q h => by cases h; rfl⟩) hw_380.symm ?_
      have q_381 : w_379.2.1 = w_372.2.1 ∧ w_379.2.2 = w_372.2.2 := by rw [hw_380]; exact ⟨rfl, rfl⟩
      have h_382 : w_379.1 p0 = some (6, 0, [zI nu, zR a_294, zR a_325, zR a_343, zR a_360]) := by rw [hw_380]; exact zput_at
      refine zx_return dX6_init_128 rfl ?_
      have h_383 : w_323.1 a_294 = some (134, p0, tTb 1 3 ([] ++ [trow 1 (pk 0 f0 s0 t0) (-1) (-1)])) := by
        rw [hw_324]; exact znew_to (ok_322 _ _ h_321) h_321
      have h_384 : w_329.1 a_294 = some (134, p0, tTb 1 3 ([] ++ [trow 1 (pk 0 f0 s0 t0) (-1) (-1)])) := by
        rw [hw_330]; exact zput_tg h_328 h_383 (by simp)
      have h_385 : w_336.1 a_294 = some (134, p0, tTb 1 3 ([] ++ [trow 1 (pk 0 f0 s0 t0) (-1) (-1)])) := by
        rw [hw_337]; exact zput_tg h_335 h_384 (by simp)
      have h_386 : w_341.1 a_294 = some (134, p0, tTb 1 3 ([] ++ [trow 1 (pk 0 f0 s0 t0) (-1) (-1)])) := by
        rw [hw_342]; exact znew_to (ok_340 _ _ h_385) h_385
      have h_387 : w_347.1 a_294 = some (134, p0, tTb 1 3 ([] ++ [trow 1 (pk 0 f0 s0 t0) (-1) (-1)])) := by
        rw [hw_348]; exact zput_tg h_346 h_386 (by simp)
      have h_388 : w_353.1 a_294 = some (134, p0, tTb 1 3 ([] ++ [trow 1 (pk 0 f0 s0 t0) (-1) (-1)])) := by
        rw [hw_354]; exact zput_tg h_352 h_387 (by simp)
      have h_389 : w_358.1 a_294 = some (134, p0, tTb 1 3 ([] ++ [trow 1 (pk 0 f0 s0 t0) (-1) (-1)])) := by
        rw [hw_359]; exact znew_to (ok_357 _ _ h_388) h_388
      have h_390 : w_365.1 a_294 = some (134, p0, tTb 1 3 ([] ++ [trow 1 (pk 0 f0 s0 t0) (-1) (-1)])) := by
        rw [hw_366]; exact znew_to (ok_364 _ _ h_389) h_389
      have h_391 : w_372.1 a_294 = some (134, p0, tTb 1 3 ([] ++ [trow 1 (pk 0 f0 s0 t0) (-1) (-1)])) := by
        rw [hw_373]; exact zput_tg h_371 h_390 (by simp)
      have h_392 : w_379.1 a_294 = some (134, p0, tTb 1 3 ([] ++ [trow 1 (pk 0 f0 s0 t0) (-1) (-1)])) := by
        rw [hw_380]; exact zput_tg h_378 h_391 (by simp)
      have h_393 : w_336.1 a_325 = some (163, p0, zLs 0 []) := by
        rw [hw_337]; exact zput_tg h_335 h_332 (by simp)
      have h_394 : w_341.1 a_325 = some (163, p0, zLs 0 []) := by
        rw [hw_342]; exact znew_to (ok_340 _ _ h_393) h_393
      have h_395 : w_347.1 a_325 = some (163, p0, zLs 0 []) := by
        rw [hw_348]; exact zput_tg h_346 h_394 (by simp)
      have h_396 : w_353.1 a_325 = some (163, p0, zLs 0 []) := by
        rw [hw_354]; exact zput_tg h_352 h_395 (by simp)
      have h_397 : w_358.1 a_325 = some (163, p0, zLs 0 []) := by
        rw [hw_359]; exact znew_to (ok_357 _ _ h_396) h_396
      have h_398 : w_365.1 a_325 = some (163, p0, zLs 0 []) := by
        rw [hw_366]; exact znew_to (ok_364 _ _ h_397) h_397
      have h_399 : w_372.1 a_325 = some (163, p0, zLs 0 []) := by
        rw [hw_373]; exact zput_tg h_371 h_398 (by simp)
      have h_400 : w_379.1 a_325 = some (163, p0, zLs 0 []) := by
        rw [hw_380]; exact zput_tg h_378 h_399 (by simp)
      have h_401 : w_353.1 a_343 = some (164, p0, zLs 0 []) := by
        rw [hw_354]; exact zput_tg h_352 h_350 (by simp)
      have h_402 : w_358.1 a_343 = some (164, p0, zLs 0 []) := by
        rw [hw_359]; exact znew_to (ok_357 _ _ h_401) h_401
      have h_403 : w_365.1 a_343 = some (164, p0, zLs 0 []) := by
        rw [hw_366]; exact znew_to (ok_364 _ _ h_402) h_402
      have h_404 : w_372.1 a_343 = some (164, p0, zLs 0 []) := by
        rw [hw_373]; exact zput_tg h_371 h_403 (by simp)
      have h_405 : w_379.1 a_343 = some (164, p0, zLs 0 []) := by
        rw [hw_380]; exact zput_tg h_378 h_404 (by simp)
      have h_406 : w_379.1 a_360 = some (3, 0, [zI 2, zI nu, zI 1, zR a_367]) := by
        rw [hw_380]; exact zput_tg h_378 h_375 (by simp)
      have h_407 : w_372.1 a_367 = some (100, a_360, [zI 0, zI 1, zI 2]) := by
        rw [hw_373]; exact zput_tg h_371 h_370 (by simp)
      have h_408 : w_379.1 a_367 = some (100, a_360, [zI 0, zI 1, zI 2]) := by
        rw [hw_380]; exact zput_tg h_378 h_407 (by simp)
      have hfr : ∀ b ob, b ≠ p0 → w.1 b = some ob → w_379.1 b = some ob := by
        intro b ob hx_p0 hb
        have hlt := ok0 b ob hb
        have f_409 : w_1.1 b = some ob := by rw [hw_2]; exact zput_to hx_p0 hb
        have f_410 : w_292.1 b = some ob := by rw [hw_293, znew_ne (by omega)]; exact f_409
        have f_411 : w_299.1 b = some ob := by rw [hw_300, znew_ne (by omega)]; exact f_410
        have f_412 : w_306.1 b = some ob := by rw [hw_307]; exact zput_to (by omega) f_411
        have f_413 : w_313.1 b = some ob := by rw [hw_314]; exact zput_to hx_p0 f_412
        have f_414 : w_318.1 b = some ob := by rw [hw_319]; exact zput_to (by omega) f_413
        have f_415 : w_323.1 b = some ob := by rw [hw_324, znew_ne (by omega)]; exact f_414
        have f_416 : w_329.1 b = some ob := by rw [hw_330]; exact zput_to (by omega) f_415
        have f_417 : w_336.1 b = some ob := by rw [hw_337]; exact zput_to hx_p0 f_416
        have f_418 : w_341.1 b = some ob := by rw [hw_342, znew_ne (by omega)]; exact f_417
        have f_419 : w_347.1 b = some ob := by rw [hw_348]; exact zput_to (by omega) f_418
        have f_420 : w_353.1 b = some ob := by rw [hw_354]; exact zput_to hx_p0 f_419
        have f_421 : w_358.1 b = some ob := by rw [hw_359, znew_ne (by omega)]; exact f_420
        have f_422 : w_365.1 b = some ob := by rw [hw_366, znew_ne (by omega)]; exact f_421
        have f_423 : w_372.1 b = some ob := by rw [hw_373]; exact zput_to (by omega) f_422
        have f_424 : w_379.1 b = some ob := by rw [hw_380]; exact zput_to hx_p0 f_423
        exact f_424
      have e_a_294 : a_294 = w.2.1 := by omega
      have e_a_325 : a_325 = w.2.1 + 2 := by omega
      have e_a_343 : a_343 = w.2.1 + 3 := by omega
      have e_a_360 : a_360 = w.2.1 + 4 := by omega
      have e_a_367 : a_367 = w.2.1 + 5 := by omega
      subst e_a_294 e_a_325 e_a_343 e_a_360 e_a_367
      have eT : prT f0 s0 t0 = ([] ++ [trow 1 (pk 0 f0 s0 t0) (-1) (-1)]) := by
        unfold prT
        rw [if_neg (by omega), if_pos (by omega)]; rfl
      exact ⟨rfl, h_382, ⟨by rw [eT]; exact h_392, by rw [eT]; exact (tOk_app (tOk_nil (by decide)) trow_len)⟩, h_400, h_405, by rw [eT]; exact h_406, h_408, by omega, by omega, hfr⟩
  · refine zx_iconst (v := 0) dX6_init_14 rfl (z32_lit (by decide) (by decide)) ?_
    refine zx_goto (tgt := 38) dX6_init_15 (by decide) ?_
    refine zx_istore (i := 5) dX6_init_38 (by decide) rfl ?_
    refine zx_L (L1 := [some (zR p0), some (zI nu), some (zI f0), some (zI s0), some (zI t0), some (zI 0), none]) rfl ?_
    refine zx_pc (pc1 := 40) rfl ?_
    refine zx_aload_n (i := 0) dX6_init_40 rfl rfl ?_
    refine zx_ok (fun ok_425 => ?_)
    refine zx_new dX6_init_41 zn_X6_15 (by omega) (by omega) ?_
    obtain ⟨w_426, hw_427⟩ : ∃ ww, ww = znew w_1 (9, 0, [zI 0, zN, zI 0]) 3 := ⟨_, rfl⟩
    obtain ⟨a_428, ha_429⟩ : ∃ ww, ww = w_1.2.1 := ⟨_, rfl⟩
    rw [← hw_427, ← ha_429]
    have q_430 : w_426.2.1 = w_1.2.1 + 1 ∧ w_426.2.2 = w_1.2.2 + 3 := by rw [hw_427]; exact ⟨rfl, rfl⟩
    have h_431 : w_426.1 a_428 = some (9, 0, [zI 0, zN, zI 0]) := by rw [hw_427, ha_429]; exact znew_at
    refine zx_dup dX6_init_44 (fun a h => by cases h) ?_
    refine zx_iconst (v := 1) dX6_init_45 rfl (z32_lit (by decide) (by decide)) ?_
    refine zx_iconst (v := 3) dX6_init_46 rfl (z32_lit (by decide) (by decide)) ?_
    refine zx_ok (fun ok_432 => ?_)
    obtain ⟨w_433, hw_434⟩ : ∃ ww, ww = znew w_426 (199, a_428, []) 3 := ⟨_, rfl⟩
    obtain ⟨a_435, ha_436⟩ : ∃ ww, ww = w_426.2.1 := ⟨_, rfl⟩
    have q_437 : w_433.2.1 = w_426.2.1 + 1 ∧ w_433.2.2 = w_426.2.2 + 3 := by rw [hw_434]; exact ⟨rfl, rfl⟩
    have h_438 : w_433.1 a_435 = some (199, a_428, []) := by rw [hw_434, ha_436]; exact znew_at
    have h_439 : w_433.1 a_428 = some (9, 0, [zI 0, zN, zI 0]) := by
      rw [hw_434]; exact znew_to (ok_432 _ _ h_431) h_431
    obtain ⟨w_440, hw_441⟩ : ∃ ww, ww = zput w_433 a_428 (134, p0, tTb 1 3 []) := ⟨_, rfl⟩
    have q_442 : w_440.2.1 = w_433.2.1 ∧ w_440.2.2 = w_433.2.2 := by rw [hw_441]; exact ⟨rfl, rfl⟩
    have h_443 : w_440.1 a_428 = some (134, p0, tTb 1 3 []) := by rw [hw_441]; exact zput_at
    refine zx_ic (b := a_428) (As := [zI 1, zI 3]) (st := [zR a_428, zR p0]) (w1 := w_440) dX6_init_47 zc_X6_17 rfl (Nat.le_of_ble_eq_true rfl) rfl (by rw [hw_441]; (try rw [ha_436]); rw [hw_434]; exact (c_X9_init (c := 1) (rm := 3) 134 p0 h_431 (by decide) (by decide) (by decide) (by decide) (by decide) (by omega) (by omega))) ?_
    have h_444 : w_426.1 p0 = some (6, 0, [zI nu, zN, zN, zN, zN]) := by
      rw [hw_427]; exact znew_to (ok_425 _ _ h_4) h_4
    have h_445 : w_433.1 p0 = some (6, 0, [zI nu, zN, zN, zN, zN]) := by
      rw [hw_434]; exact znew_to (ok_432 _ _ h_444) h_444
    have h_446 : w_440.1 p0 = some (6, 0, [zI nu, zN, zN, zN, zN]) := by
      rw [hw_441]; exact zput_tg h_439 h_445 (by simp)
    obtain ⟨w_447, hw_448⟩ : ∃ ww, ww = zput w_440 p0 (6, 0, [zI nu, zR a_428, zN, zN, zN]) := ⟨_, rfl⟩
    refine zx_put (w1 := w_447) dX6_init_50 zf_X6_20 h_446 (Nat.le_of_ble_eq_true rfl) (zFt_obj _ _) (fun _ => ⟨rfl, fun q h => by cases h; rfl⟩) hw_448.symm ?_
    have q_449 : w_447.2.1 = w_440.2.1 ∧ w_447.2.2 = w_440.2.2 := by rw [hw_448]; exact ⟨rfl, rfl⟩
    have h_450 : w_447.1 p0 = some (6, 0, [zI nu, zR a_428, zN, zN, zN]) := by rw [hw_448]; exact zput_at
    refine zx_iconst (v := 0) dX6_init_53 rfl (z32_lit (by decide) (by decide)) ?_
    refine zx_istore (i := 6) dX6_init_54 (by decide) rfl ?_
    refine zx_L (L1 := [some (zR p0), some (zI nu), some (zI f0), some (zI s0), some (zI t0), some (zI 0), some (zI 0)]) rfl ?_
    refine zx_iload (i := 6) dX6_init_56 rfl ?_
    refine zx_iload (i := 5) dX6_init_58 rfl ?_
    refine zx_icmp_ge (tgt := 88) dX6_init_60 (by decide) (fun h60 => ?_) (fun h60 => absurd (by decide) h60)
    refine zx_pc (pc1 := 88) rfl ?_
    refine zx_aload_n (i := 0) dX6_init_88 rfl rfl ?_
    refine zx_ok (fun ok_451 => ?_)
    refine zx_new dX6_init_89 zn_X6_32 (by omega) (by omega) ?_
    obtain ⟨w_452, hw_453⟩ : ∃ ww, ww = znew w_447 (12, 0, [zI 0, zN, zI 0]) 3 := ⟨_, rfl⟩
    obtain ⟨a_454, ha_455⟩ : ∃ ww, ww = w_447.2.1 := ⟨_, rfl⟩
    rw [← hw_453, ← ha_455]
    have q_456 : w_452.2.1 = w_447.2.1 + 1 ∧ w_452.2.2 = w_447.2.2 + 3 := by rw [hw_453]; exact ⟨rfl, rfl⟩
    have h_457 : w_452.1 a_454 = some (12, 0, [zI 0, zN, zI 0]) := by rw [hw_453, ha_455]; exact znew_at
    refine zx_dup dX6_init_92 (fun a h => by cases h) ?_
    obtain ⟨w_458, hw_459⟩ : ∃ ww, ww = zput w_452 a_454 (163, p0, zLs 0 []) := ⟨_, rfl⟩
    have q_460 : w_458.2.1 = w_452.2.1 ∧ w_458.2.2 = w_452.2.2 := by rw [hw_459]; exact ⟨rfl, rfl⟩
    have h_461 : w_458.1 a_454 = some (163, p0, zLs 0 []) := by rw [hw_459]; exact zput_at
    refine zx_ic (b := a_454) (As := []) (st := [zR a_454, zR p0]) (w1 := w_458) dX6_init_93 zc_X6_34 rfl (Nat.le_of_ble_eq_true rfl) rfl (by rw [hw_459]; exact (c_list_init 163 p0 h_457 (by decide))) ?_
    have h_462 : w_452.1 p0 = some (6, 0, [zI nu, zR a_428, zN, zN, zN]) := by
      rw [hw_453]; exact znew_to (ok_451 _ _ h_450) h_450
    have h_463 : w_458.1 p0 = some (6, 0, [zI nu, zR a_428, zN, zN, zN]) := by
      rw [hw_459]; exact zput_tg h_457 h_462 (by simp)
    obtain ⟨w_464, hw_465⟩ : ∃ ww, ww = zput w_458 p0 (6, 0, [zI nu, zR a_428, zR a_454, zN, zN]) := ⟨_, rfl⟩
    refine zx_put (w1 := w_464) dX6_init_96 zf_X6_35 h_463 (Nat.le_of_ble_eq_true rfl) (zFt_obj _ _) (fun _ => ⟨rfl, fun q h => by cases h; rfl⟩) hw_465.symm ?_
    have q_466 : w_464.2.1 = w_458.2.1 ∧ w_464.2.2 = w_458.2.2 := by rw [hw_465]; exact ⟨rfl, rfl⟩
    have h_467 : w_464.1 p0 = some (6, 0, [zI nu, zR a_428, zR a_454, zN, zN]) := by rw [hw_465]; exact zput_at
    refine zx_aload_n (i := 0) dX6_init_99 rfl rfl ?_
    refine zx_ok (fun ok_468 => ?_)
    refine zx_new dX6_init_100 zn_X6_32 (by omega) (by omega) ?_
    obtain ⟨w_469, hw_470⟩ : ∃ ww, ww = znew w_464 (12, 0, [zI 0, zN, zI 0]) 3 := ⟨_, rfl⟩
    obtain ⟨a_471, ha_472⟩ : ∃ ww, ww = w_464.2.1 := ⟨_, rfl⟩
    rw [← hw_470, ← ha_472]
    have q_473 : w_469.2.1 = w_464.2.1 + 1 ∧ w_469.2.2 = w_464.2.2 + 3 := by rw [hw_470]; exact ⟨rfl, rfl⟩
    have h_474 : w_469.1 a_471 = some (12, 0, [zI 0, zN, zI 0]) := by rw [hw_470, ha_472]; exact znew_at
    refine zx_dup dX6_init_103 (fun a h => by cases h) ?_
    obtain ⟨w_475, hw_476⟩ : ∃ ww, ww = zput w_469 a_471 (164, p0, zLs 0 []) := ⟨_, rfl⟩
    have q_477 : w_475.2.1 = w_469.2.1 ∧ w_475.2.2 = w_469.2.2 := by rw [hw_476]; exact ⟨rfl, rfl⟩
    have h_478 : w_475.1 a_471 = some (164, p0, zLs 0 []) := by rw [hw_476]; exact zput_at
    refine zx_ic (b := a_471) (As := []) (st := [zR a_471, zR p0]) (w1 := w_475) dX6_init_104 zc_X6_34 rfl (Nat.le_of_ble_eq_true rfl) rfl (by rw [hw_476]; exact (c_list_init 164 p0 h_474 (by decide))) ?_
    have h_479 : w_469.1 p0 = some (6, 0, [zI nu, zR a_428, zR a_454, zN, zN]) := by
      rw [hw_470]; exact znew_to (ok_468 _ _ h_467) h_467
    have h_480 : w_475.1 p0 = some (6, 0, [zI nu, zR a_428, zR a_454, zN, zN]) := by
      rw [hw_476]; exact zput_tg h_474 h_479 (by simp)
    obtain ⟨w_481, hw_482⟩ : ∃ ww, ww = zput w_475 p0 (6, 0, [zI nu, zR a_428, zR a_454, zR a_471, zN]) := ⟨_, rfl⟩
    refine zx_put (w1 := w_481) dX6_init_107 zf_X6_39 h_480 (Nat.le_of_ble_eq_true rfl) (zFt_obj _ _) (fun _ => ⟨rfl, fun q h => by cases h; rfl⟩) hw_482.symm ?_
    have q_483 : w_481.2.1 = w_475.2.1 ∧ w_481.2.2 = w_475.2.2 := by rw [hw_482]; exact ⟨rfl, rfl⟩
    have h_484 : w_481.1 p0 = some (6, 0, [zI nu, zR a_428, zR a_454, zR a_471, zN]) := by rw [hw_482]; exact zput_at
    refine zx_aload_n (i := 0) dX6_init_110 rfl rfl ?_
    refine zx_ok (fun ok_485 => ?_)
    refine zx_new dX6_init_111 zn_X6_42 (by omega) (by omega) ?_
    obtain ⟨w_486, hw_487⟩ : ∃ ww, ww = znew w_481 (3, 0, [zI 0, zI 0, zI 0, zN]) 4 := ⟨_, rfl⟩
    obtain ⟨a_488, ha_489⟩ : ∃ ww, ww = w_481.2.1 := ⟨_, rfl⟩
    rw [← hw_487, ← ha_489]
    have q_490 : w_486.2.1 = w_481.2.1 + 1 ∧ w_486.2.2 = w_481.2.2 + 4 := by rw [hw_487]; exact ⟨rfl, rfl⟩
    have h_491 : w_486.1 a_488 = some (3, 0, [zI 0, zI 0, zI 0, zN]) := by rw [hw_487, ha_489]; exact znew_at
    refine zx_pc (pc1 := 114) rfl ?_
    refine zx_dup dX6_init_114 (fun a h => by cases h) ?_
    refine zx_iconst (v := 2) dX6_init_115 rfl (z32_lit (by decide) (by decide)) ?_
    refine zx_iload_n (i := 1) dX6_init_116 rfl rfl ?_
    refine zx_iload (i := 5) dX6_init_117 rfl ?_
    refine zx_iconst (v := 0) dX6_init_119 rfl (z32_lit (by decide) (by decide)) ?_
    refine zx_iconst (v := 1) dX6_init_120 rfl (z32_lit (by decide) (by decide)) ?_
    refine zx_iconst (v := 2) dX6_init_121 rfl (z32_lit (by decide) (by decide)) ?_
    refine zx_ok (fun ok_492 => ?_)
    obtain ⟨w_493, hw_494⟩ : ∃ ww, ww = znew w_486 (100, a_488, [zI 0, zI 1, zI 2]) 3 := ⟨_, rfl⟩
    obtain ⟨a_495, ha_496⟩ : ∃ ww, ww = w_486.2.1 := ⟨_, rfl⟩
    have q_497 : w_493.2.1 = w_486.2.1 + 1 ∧ w_493.2.2 = w_486.2.2 + 3 := by rw [hw_494]; exact ⟨rfl, rfl⟩
    have h_498 : w_493.1 a_495 = some (100, a_488, [zI 0, zI 1, zI 2]) := by rw [hw_494, ha_496]; exact znew_at
    have h_499 : w_493.1 a_488 = some (3, 0, [zI 0, zI 0, zI 0, zN]) := by
      rw [hw_494]; exact znew_to (ok_492 _ _ h_491) h_491
    obtain ⟨w_500, hw_501⟩ : ∃ ww, ww = zput w_493 a_488 (3, 0, [zI 2, zI nu, zI 0, zR a_495]) := ⟨_, rfl⟩
    have q_502 : w_500.2.1 = w_493.2.1 ∧ w_500.2.2 = w_493.2.2 := by rw [hw_501]; exact ⟨rfl, rfl⟩
    have h_503 : w_500.1 a_488 = some (3, 0, [zI 2, zI nu, zI 0, zR a_495]) := by rw [hw_501]; exact zput_at
    refine zx_ic (b := a_488) (As := [zI 2, zI nu, zI 0, zI 0, zI 1, zI 2]) (st := [zR a_488, zR p0]) (w1 := w_500) dX6_init_122 zc_X6_44 rfl (Nat.le_of_ble_eq_true rfl) rfl (by rw [hw_501]; (try rw [ha_496]); rw [hw_494]; exact (c_X3_init h_491 (by omega) (by omega) 2 nu 0 0 1 2)) ?_
    have h_504 : w_486.1 p0 = some (6, 0, [zI nu, zR a_428, zR a_454, zR a_471, zN]) := by
      rw [hw_487]; exact znew_to (ok_485 _ _ h_484) h_484
    have h_505 : w_493.1 p0 = some (6, 0, [zI nu, zR a_428, zR a_454, zR a_471, zN]) := by
      rw [hw_494]; exact znew_to (ok_492 _ _ h_504) h_504
    have h_506 : w_500.1 p0 = some (6, 0, [zI nu, zR a_428, zR a_454, zR a_471, zN]) := by
      rw [hw_501]; exact zput_tg h_499 h_505 (by simp)
    obtain ⟨w_507, hw_508⟩ : ∃ ww, ww = zput w_500 p0 (6, 0, [zI nu, zR a_428, zR a_454, zR a_471, zR a_488]) := ⟨_, rfl⟩
    refine zx_put (w1 := w_507) dX6_init_125 zf_X6_47 h_506 (Nat.le_of_ble_eq_true rfl) (zFt_obj _ _) (fun _ => ⟨rfl, fun q h => by cases h; rfl⟩) hw_508.symm ?_
    have q_509 : w_507.2.1 = w_500.2.1 ∧ w_507.2.2 = w_500.2.2 := by rw [hw_508]; exact ⟨rfl, rfl⟩
    have h_510 : w_507.1 p0 = some (6, 0, [zI nu, zR a_428, zR a_454, zR a_471, zR a_488]) := by rw [hw_508]; exact zput_at
    refine zx_return dX6_init_128 rfl ?_
    have h_511 : w_447.1 a_428 = some (134, p0, tTb 1 3 []) := by
      rw [hw_448]; exact zput_tg h_446 h_443 (by simp)
    have h_512 : w_452.1 a_428 = some (134, p0, tTb 1 3 []) := by
      rw [hw_453]; exact znew_to (ok_451 _ _ h_511) h_511
    have h_513 : w_458.1 a_428 = some (134, p0, tTb 1 3 []) := by
      rw [hw_459]; exact zput_tg h_457 h_512 (by simp)
    have h_514 : w_464.1 a_428 = some (134, p0, tTb 1 3 []) := by
      rw [hw_465]; exact zput_tg h_463 h_513 (by simp)
    have h_515 : w_469.1 a_428 = some (134, p0, tTb 1 3 []) := by
      rw [hw_470]; exact znew_to (ok_468 _ _ h_514) h_514
    have h_516 : w_475.1 a_428 = some (134, p0, tTb 1 3 []) := by
      rw [hw_476]; exact zput_tg h_474 h_515 (by simp)
    have h_517 : w_481.1 a_428 = some (134, p0, tTb 1 3 []) := by
      rw [hw_482]; exact zput_tg h_480 h_516 (by simp)
    have h_518 : w_486.1 a_428 = some (134, p0, tTb 1 3 []) := by
      rw [hw_487]; exact znew_to (ok_485 _ _ h_517) h_517
    have h_519 : w_493.1 a_428 = some (134, p0, tTb 1 3 []) := by
      rw [hw_494]; exact znew_to (ok_492 _ _ h_518) h_518
    have h_520 : w_500.1 a_428 = some (134, p0, tTb 1 3 []) := by
      rw [hw_501]; exact zput_tg h_499 h_519 (by simp)
    have h_521 : w_507.1 a_428 = some (134, p0, tTb 1 3 []) := by
      rw [hw_508]; exact zput_tg h_506 h_520 (by simp)
    have h_522 : w_464.1 a_454 = some (163, p0, zLs 0 []) := by
      rw [hw_465]; exact zput_tg h_463 h_461 (by simp)
    have h_523 : w_469.1 a_454 = some (163, p0, zLs 0 []) := by
      rw [hw_470]; exact znew_to (ok_468 _ _ h_522) h_522
    have h_524 : w_475.1 a_454 = some (163, p0, zLs 0 []) := by
      rw [hw_476]; exact zput_tg h_474 h_523 (by simp)
    have h_525 : w_481.1 a_454 = some (163, p0, zLs 0 []) := by
      rw [hw_482]; exact zput_tg h_480 h_524 (by simp)
    have h_526 : w_486.1 a_454 = some (163, p0, zLs 0 []) := by
      rw [hw_487]; exact znew_to (ok_485 _ _ h_525) h_525
    have h_527 : w_493.1 a_454 = some (163, p0, zLs 0 []) := by
      rw [hw_494]; exact znew_to (ok_492 _ _ h_526) h_526
    have h_528 : w_500.1 a_454 = some (163, p0, zLs 0 []) := by
      rw [hw_501]; exact zput_tg h_499 h_527 (by simp)
    have h_529 : w_507.1 a_454 = some (163, p0, zLs 0 []) := by
      rw [hw_508]; exact zput_tg h_506 h_528 (by simp)
    have h_530 : w_481.1 a_471 = some (164, p0, zLs 0 []) := by
      rw [hw_482]; exact zput_tg h_480 h_478 (by simp)
    have h_531 : w_486.1 a_471 = some (164, p0, zLs 0 []) := by
      rw [hw_487]; exact znew_to (ok_485 _ _ h_530) h_530
    have h_532 : w_493.1 a_471 = some (164, p0, zLs 0 []) := by
      rw [hw_494]; exact znew_to (ok_492 _ _ h_531) h_531
    have h_533 : w_500.1 a_471 = some (164, p0, zLs 0 []) := by
      rw [hw_501]; exact zput_tg h_499 h_532 (by simp)
    have h_534 : w_507.1 a_471 = some (164, p0, zLs 0 []) := by
      rw [hw_508]; exact zput_tg h_506 h_533 (by simp)
    have h_535 : w_507.1 a_488 = some (3, 0, [zI 2, zI nu, zI 0, zR a_495]) := by
      rw [hw_508]; exact zput_tg h_506 h_503 (by simp)
    have h_536 : w_500.1 a_495 = some (100, a_488, [zI 0, zI 1, zI 2]) := by
      rw [hw_501]; exact zput_tg h_499 h_498 (by simp)
    have h_537 : w_507.1 a_495 = some (100, a_488, [zI 0, zI 1, zI 2]) := by
      rw [hw_508]; exact zput_tg h_506 h_536 (by simp)
    have hfr : ∀ b ob, b ≠ p0 → w.1 b = some ob → w_507.1 b = some ob := by
      intro b ob hx_p0 hb
      have hlt := ok0 b ob hb
      have f_538 : w_1.1 b = some ob := by rw [hw_2]; exact zput_to hx_p0 hb
      have f_539 : w_426.1 b = some ob := by rw [hw_427, znew_ne (by omega)]; exact f_538
      have f_540 : w_433.1 b = some ob := by rw [hw_434, znew_ne (by omega)]; exact f_539
      have f_541 : w_440.1 b = some ob := by rw [hw_441]; exact zput_to (by omega) f_540
      have f_542 : w_447.1 b = some ob := by rw [hw_448]; exact zput_to hx_p0 f_541
      have f_543 : w_452.1 b = some ob := by rw [hw_453, znew_ne (by omega)]; exact f_542
      have f_544 : w_458.1 b = some ob := by rw [hw_459]; exact zput_to (by omega) f_543
      have f_545 : w_464.1 b = some ob := by rw [hw_465]; exact zput_to hx_p0 f_544
      have f_546 : w_469.1 b = some ob := by rw [hw_470, znew_ne (by omega)]; exact f_545
      have f_547 : w_475.1 b = some ob := by rw [hw_476]; exact zput_to (by omega) f_546
      have f_548 : w_481.1 b = some ob := by rw [hw_482]; exact zput_to hx_p0 f_547
      have f_549 : w_486.1 b = some ob := by rw [hw_487, znew_ne (by omega)]; exact f_548
      have f_550 : w_493.1 b = some ob := by rw [hw_494, znew_ne (by omega)]; exact f_549
      have f_551 : w_500.1 b = some ob := by rw [hw_501]; exact zput_to (by omega) f_550
      have f_552 : w_507.1 b = some ob := by rw [hw_508]; exact zput_to hx_p0 f_551
      exact f_552
    have e_a_428 : a_428 = w.2.1 := by omega
    have e_a_454 : a_454 = w.2.1 + 2 := by omega
    have e_a_471 : a_471 = w.2.1 + 3 := by omega
    have e_a_488 : a_488 = w.2.1 + 4 := by omega
    have e_a_495 : a_495 = w.2.1 + 5 := by omega
    subst e_a_428 e_a_454 e_a_471 e_a_488 e_a_495
    have eT : prT f0 s0 t0 = [] := by
      unfold prT
      rw [if_pos (by omega)]
    exact ⟨rfl, h_510, ⟨by rw [eT]; exact h_521, by rw [eT]; exact (tOk_nil (by decide))⟩, h_529, h_534, by rw [eT]; exact h_535, h_537, by omega, by omega, hfr⟩
end CCLAUSE
