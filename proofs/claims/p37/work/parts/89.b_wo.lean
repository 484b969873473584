/-! Own rows: breadth's chain without one of its cells. Walked by program (wip/p37/m_bwo.py). -/
theorem ts_neg {rows : List (List Int)} {i j v : Int} (h : i < 0) : ts rows i j v = rows := by
  unfold ts
  rw [if_neg (by omega)]
theorem bWo_snoc {Ce : List (Nat × Nat × Option Nat)} {r : Option Nat} {A1 : List Nat} {a m n : Nat} {ea : Nat × Nat × Option Nat} (hn : n = Ce.length) (hm : m + 1 = n + A1.length) (h1 : A1 ≠ []) (ha : Ce[a]? = some ea) :
    ts ((Ce ++ bWo Ce r A1 n).map rwC ++ [trow 3 (ea.1 : Int) (ea.2.1 : Int) (oI r)]) (m : Int) 2 ((n + A1.length : Nat) : Int) = (Ce ++ bWo Ce r (A1 ++ [a]) n).map rwC := by
  have e3 : ts ((Ce ++ bWo Ce r A1 n).map rwC ++ [trow 3 (ea.1 : Int) (ea.2.1 : Int) (oI r)]) (m : Int) 2 ((n + A1.length : Nat) : Int) = _ := ts_in (j := 2)
  rw [e3]
  have hl1 : ((Ce ++ bWo Ce r A1 n).map rwC).length = n + A1.length := by rw [List.length_map, List.length_append, bWo_len, hn]
  have hpos : 0 < A1.length := List.length_pos_iff.mpr h1
  have hga : Ce.getD a (0, 0, none) = ea := by rw [List.getD_eq_getElem?_getD, ha]; rfl
  apply List.ext_getElem?
  intro i
  rw [List.getElem?_map]
  by_cases c1 : i < n
  · rw [List.getElem?_set_ne (by omega), List.getElem?_append_left (by rw [hl1]; omega), List.getElem?_map, List.getElem?_append_left (by omega), List.getElem?_append_left (by omega)]
  · obtain ⟨j, rfl⟩ : ∃ j, i = n + j := ⟨i - n, by omega⟩
    have er : (Ce ++ bWo Ce r (A1 ++ [a]) n)[n + j]? = (bWo Ce r (A1 ++ [a]) n)[j]? := by rw [List.getElem?_append_right (by omega), show n + j - Ce.length = j by omega]
    rw [er]
    by_cases c2 : j < A1.length
    · obtain ⟨y, hy⟩ : ∃ y, A1[j]? = some y := ⟨_, List.getElem?_eq_getElem c2⟩
      rw [bWo_at (A1 ++ [a]) n j y (by rw [List.getElem?_append_left c2]; exact hy), if_neg (by rw [List.length_append, List.length_singleton]; omega)]
      have el : ((Ce ++ bWo Ce r A1 n).map rwC ++ [trow 3 (ea.1 : Int) (ea.2.1 : Int) (oI r)])[n + j]? = some (rwC ((Ce.getD y (0, 0, none)).1, (Ce.getD y (0, 0, none)).2.1, if j + 1 = A1.length then r else some (n + j + 1))) := by
        rw [List.getElem?_append_left (by rw [hl1]; omega), List.getElem?_map, List.getElem?_append_right (by omega), show n + j - Ce.length = j by omega, bWo_at A1 n j y hy]
        rfl
      by_cases c3 : j + 1 = A1.length
      · have em : m = n + j := by omega
        rw [em, List.getElem?_set_self (by rw [List.length_append, hl1]; omega), List.getD_eq_getElem?_getD, el, if_pos c3, show n + A1.length = n + j + 1 by omega]
        rfl
      · rw [List.getElem?_set_ne (by omega), el, if_neg c3]
        rfl
    · by_cases c3 : j = A1.length
      · subst c3
        rw [bWo_at (A1 ++ [a]) n A1.length a (by simp), if_pos (by simp), List.getElem?_set_ne (by omega), List.getElem?_append_right (by rw [hl1]; exact Nat.le_refl _), hl1, Nat.sub_self, hga]
        rfl
      · rw [List.getElem?_eq_none (by rw [List.length_set, List.length_append, hl1, List.length_singleton]; omega), List.getElem?_eq_none (by rw [bWo_len, List.length_append, List.length_singleton]; omega)]
        rfl

theorem bWo_one {Ce : List (Nat × Nat × Option Nat)} {r : Option Nat} {a : Nat} {ea : Nat × Nat × Option Nat} (ha : Ce[a]? = some ea) : Ce.map rwC ++ [trow 3 (ea.1 : Int) (ea.2.1 : Int) (oI r)] = (Ce ++ bWo Ce r [a] Ce.length).map rwC := by
  have hga : Ce.getD a (0, 0, none) = ea := by rw [List.getD_eq_getElem?_getD, ha]; rfl
  rw [List.map_append]
  show _ = Ce.map rwC ++ [rwC ((Ce.getD a (0, 0, none)).1, (Ce.getD a (0, 0, none)).2.1, if ([] : List Nat) = [] then r else some (Ce.length + 1))]
  rw [hga, if_pos rfl]
  rfl
section BWOJ
variable {G : zG} {d : Nat} {w : zW} {b1 b2 : Nat} {br pg t nd va ce li ro bi le wk : Nat} {cN cV cC cL cR cB cE cW : Nat} {NN VV CC LL RR BB EE WW : List (List Int)} {gc fr tk rs rd : Int} {Ce : List (Nat × Nat × Option Nat)}
theorem c_X0_without (hB : bbW w b1 b2 ((br, pg, t), (nd, va, ce, li), (ro, bi, le, wk)) (((cN, NN), (cV, VV), (cC, (Ce.map rwC)), (cL, LL)), ((cR, RR), (cB, BB), (cE, EE), (cW, WW)), (gc, fr, tk, rs, rd))) (hG1 : b1 + 1800000 ≤ 30 * G.2.2.2.2.1) (hG2 : b2 + 3700000 ≤ G.2.2.2.2.2) {h cc : Nat} {A B : List Nat} {e : Nat × Nat × Option Nat} (hch : bCh Ce (some h) (A ++ cc :: B)) (he : Ce[cc]? = some e) (hA : ∀ a, a ∈ A → a ≠ cc) (hlA : A.length < 1000) (hlC : Ce.length + A.length < 113000) : zM G zm_X0_without (d + 3) [zR br, zI (h : Int), zI (cc : Int)] w (zVal fun o w' => o = zI (oI (if A = [] then e.2.2 else some Ce.length)) ∧ (∃ cC' : Nat, bbW w' b1 b2 ((br, pg, t), (nd, va, ce, li), (ro, bi, le, wk)) (((cN, NN), (cV, VV), (cC', ((Ce ++ bWo Ce e.2.2 A Ce.length).map rwC)), (cL, LL)), ((cR, RR), (cB, BB), (cE, EE), (cW, WW)), (gc, fr, tk, rs, rd))) ∧ zFr TB w w') := by
  refine zx_ent (by decide +kernel) rfl (Nat.le_of_ble_eq_true rfl) ?_
  have loop : ∀ (A2 A1 : List Nat) (x q m cC1 : Nat) (o8 : Option zV) (w1 : zW), A1 ≠ [] → m + 1 = Ce.length + A1.length → bCh Ce (some x) (A2 ++ cc :: B) → (∀ a, a ∈ A2 → a ≠ cc) → q + A2.length < 5000 → Ce.length + A1.length + A2.length < 113000 → bbW w1 b1 b2 ((br, pg, t), (nd, va, ce, li), (ro, bi, le, wk)) (((cN, NN), (cV, VV), (cC1, ((Ce ++ bWo Ce e.2.2 A1 Ce.length).map rwC)), (cL, LL)), ((cR, RR), (cB, BB), (cE, EE), (cW, WW)), (gc, fr, tk, rs, rd)) → zFr TB w w1 → zX G zm_X0_without (d + 3) [zR br, zI (h : Int), zI (cc : Int)] w (zVal fun o w' => o = zI (oI (if (A1 ++ A2) = [] then e.2.2 else some Ce.length)) ∧ (∃ cC' : Nat, bbW w' b1 b2 ((br, pg, t), (nd, va, ce, li), (ro, bi, le, wk)) (((cN, NN), (cV, VV), (cC', ((Ce ++ bWo Ce e.2.2 (A1 ++ A2) Ce.length).map rwC)), (cL, LL)), ((cR, RR), (cB, BB), (cE, EE), (cW, WW)), (gc, fr, tk, rs, rd))) ∧ zFr TB w w') 22 [some (zR br), some (zI (h : Int)), some (zI (cc : Int)), some (zI (oI e.2.2)), some (zI (Ce.length : Int)), some (zI (m : Int)), some (zI (x : Int)), some (zI (q : Int)), o8] [] w1 := by
    intro A2
    induction A2 with
    | nil =>
      intro A1 x q m cC1 o8 w1 hne hm hcx hA hq hl hB1 hF1
      have ex : x = cc := by
        obtain ⟨e1, -⟩ := hcx
        exact Option.some.inj e1
      obtain ⟨hbr1, ⟨⟨hnd1, okN1⟩, ⟨hva1, okV1⟩, ⟨hce1, okC1⟩, ⟨hli1, okL1⟩⟩, ⟨⟨hro1, okR1⟩, ⟨hbi1, okB1⟩, ⟨hle1, okE1⟩, ⟨hwk1, okW1⟩⟩, ⟨⟨c1N1, c1V1, c1C1, c1L1⟩, ⟨c1R1, c1B1, c1E1, c1W1⟩⟩, ⟨⟨c2N1, c2V1, c2C1, c2L1⟩, ⟨c2R1, c2B1, c2E1, c2W1⟩⟩, hrm11, hrm21⟩ := id hB1
      refine zx_iload (i := 7) dX0_without_22 rfl ?_
      refine zx_ldc (v := 1000000) dX0_without_24 zk_X0_65 (by decide +kernel) (z32_lit (by decide) (by decide)) ?_
      refine zx_icmp_ge (tgt := 115) dX0_without_26 (by decide) (fun h26 => absurd h26 (by omega)) (fun h26 => ?_)
      refine zx_iload (i := 6) dX0_without_29 rfl ?_
      refine zx_iload_n (i := 2) dX0_without_31 rfl rfl ?_
      refine zx_icmp_eq (tgt := 115) dX0_without_32 (by decide) (fun h32 => ?_) (fun h32 => absurd (by rw [ex]) h32)
      refine zx_iload (i := 4) dX0_without_115 rfl ?_
      refine zx_iret dX0_without_117 rfl ?_
      rw [List.append_nil]
      exact ⟨_, rfl, by rw [if_neg hne]; rfl, ⟨cC1, hB1⟩, hF1⟩
    | cons a A3 ih =>
      intro A1 x q m cC1 o8 w1 hne hm hcx hA hq hl hB1 hF1
      obtain ⟨e1, ex, hx, hcx2⟩ := hcx
      have e1 : x = a := Option.some.inj e1
      subst e1
      have hxc : x ≠ cc := hA x List.mem_cons_self
      obtain ⟨y, hy⟩ : ∃ y, ex.2.2 = some y := by
        cases A3 with
        | nil => exact ⟨_, hcx2.1⟩
        | cons b A4 => exact ⟨_, hcx2.1⟩
      have hch2 : bCh Ce (some y) (A3 ++ cc :: B) := by rw [← hy]; exact hcx2
      have hl1 : ((Ce ++ bWo Ce e.2.2 A1 Ce.length).map rwC).length = Ce.length + A1.length := by rw [List.length_map, List.length_append, bWo_len]
      have hxl := (List.getElem?_eq_some_iff.mp hx).1
      have hx' : (Ce ++ bWo Ce e.2.2 A1 Ce.length)[x]? = some ex := by rw [List.getElem?_append_left hxl]; exact hx
      have hx0 : tg ((Ce ++ bWo Ce e.2.2 A1 Ce.length).map rwC) (x : Int) 0 = (ex.1 : Int) := tg_map (j := 0) hx'
      have hx1 : tg ((Ce ++ bWo Ce e.2.2 A1 Ce.length).map rwC) (x : Int) 1 = (ex.2.1 : Int) := tg_map (j := 1) hx'
      have hx2 : tg (ts (((Ce ++ bWo Ce e.2.2 A1 Ce.length).map rwC) ++ [trow 3 (ex.1 : Int) (ex.2.1 : Int) (oI e.2.2)]) (m : Int) 2 ((Ce.length + A1.length : Nat) : Int)) (x : Int) 2 = (y : Int) := by
        rw [bWo_snoc rfl hm hne hx]
        have q2 := tg_map (f := rwC) (j := 2) (show (Ce ++ bWo Ce e.2.2 (A1 ++ [x]) Ce.length)[x]? = some ex by rw [List.getElem?_append_left hxl]; exact hx)
        have q3 : ((rwC ex)[2]?).getD (-1) = oI ex.2.2 := rfl
        rw [q3, hy] at q2
        exact q2
      obtain ⟨hbr1, ⟨⟨hnd1, okN1⟩, ⟨hva1, okV1⟩, ⟨hce1, okC1⟩, ⟨hli1, okL1⟩⟩, ⟨⟨hro1, okR1⟩, ⟨hbi1, okB1⟩, ⟨hle1, okE1⟩, ⟨hwk1, okW1⟩⟩, ⟨⟨c1N1, c1V1, c1C1, c1L1⟩, ⟨c1R1, c1B1, c1E1, c1W1⟩⟩, ⟨⟨c2N1, c2V1, c2C1, c2L1⟩, ⟨c2R1, c2B1, c2E1, c2W1⟩⟩, hrm11, hrm21⟩ := id hB1
      refine zx_iload (i := 7) dX0_without_22 rfl ?_
      refine zx_ldc (v := 1000000) dX0_without_24 zk_X0_65 (by decide +kernel) (z32_lit (by decide) (by decide)) ?_
      refine zx_icmp_ge (tgt := 115) dX0_without_26 (by decide) (fun h26 => absurd h26 (by rw [List.length_cons] at hq; omega)) (fun h26 => ?_)
      refine zx_iload (i := 6) dX0_without_29 rfl ?_
      refine zx_iload_n (i := 2) dX0_without_31 rfl rfl ?_
      refine zx_icmp_eq (tgt := 115) dX0_without_32 (by decide) (fun h32 => absurd h32 (by omega)) (fun h32 => ?_)
      refine zx_iload (i := 6) dX0_without_35 rfl ?_
      refine zx_iconst (v := -1) dX0_without_37 rfl (z32_lit (by decide) (by decide)) ?_
      refine zx_icmp_eq (tgt := 115) dX0_without_38 (by decide) (fun h38 => absurd h38 (by omega)) (fun h38 => ?_)
      refine zx_aload_n (i := 0) dX0_without_41 rfl rfl ?_
      refine zx_getfield dX0_without_42 zf_X0_31 hbr1 rfl ?_
      refine zx_pc (pc1 := 45) rfl ?_
      refine zx_aload_n (i := 0) dX0_without_45 rfl rfl ?_
      refine zx_getfield dX0_without_46 zf_X0_31 hbr1 rfl ?_
      refine zx_iload (i := 6) dX0_without_49 rfl ?_
      refine zx_iconst (v := 0) dX0_without_51 rfl (z32_lit (by decide) (by decide)) ?_
      refine zx_iv (b := ce) (As := [zI (x : Int), zI 0]) (st := [zR ce]) (v := (some (zI (ex.1 : Int)))) (w1 := w1) dX0_without_52 zc_X0_84 hce1 (z_cls9 (by decide)) rfl rfl (Nat.le_of_ble_eq_true rfl) rfl (by have q := (c_X9_get (G := G) (d := d + 2) hce1 (by decide) okC1 (x : Int) 0); rw [hx0] at q; exact q) ?_
      refine zx_st (st1 := [zI (ex.1 : Int), zR ce]) rfl ?_
      refine zx_aload_n (i := 0) dX0_without_55 rfl rfl ?_
      refine zx_getfield dX0_without_56 zf_X0_31 hbr1 rfl ?_
      refine zx_iload (i := 6) dX0_without_59 rfl ?_
      refine zx_iconst (v := 1) dX0_without_61 rfl (z32_lit (by decide) (by decide)) ?_
      refine zx_iv (b := ce) (As := [zI (x : Int), zI 1]) (st := [zI (ex.1 : Int), zR ce]) (v := (some (zI (ex.2.1 : Int)))) (w1 := w1) dX0_without_62 zc_X0_84 hce1 (z_cls9 (by decide)) rfl rfl (Nat.le_of_ble_eq_true rfl) rfl (by have q := (c_X9_get (G := G) (d := d + 2) hce1 (by decide) okC1 (x : Int) 1); rw [hx1] at q; exact q) ?_
      refine zx_st (st1 := [zI (ex.2.1 : Int), zI (ex.1 : Int), zR ce]) rfl ?_
      refine zx_iload_n (i := 3) dX0_without_65 rfl rfl ?_
      refine zx_ok (fun ok_1 => ?_)
      obtain ⟨w_2, hw_3⟩ : ∃ ww, ww = tAw w1 ce 142 br 3 cC1 ((Ce ++ bWo Ce e.2.2 A1 Ce.length).map rwC) (trow 3 (ex.1 : Int) (ex.2.1 : Int) (oI e.2.2)) := ⟨_, rfl⟩
      have h_4 : w_2.1 ce = some (142, br, tTb 3 (tCap 3 cC1 ((Ce ++ bWo Ce e.2.2 A1 Ce.length).map rwC)) (((Ce ++ bWo Ce e.2.2 A1 Ce.length).map rwC) ++ [(trow 3 (ex.1 : Int) (ex.2.1 : Int) (oI e.2.2))])) := by rw [hw_3]; exact tAw_at
      have qhw_3 := tAw_sz3 (w := w1) (a := ce) (t := 142) (ow := br) (c := 3) (cap := cC1) (rows := ((Ce ++ bWo Ce e.2.2 A1 Ce.length).map rwC)) (r := (trow 3 (ex.1 : Int) (ex.2.1 : Int) (oI e.2.2))) (by omega)
      rw [← hw_3] at qhw_3
      refine zx_iv (b := ce) (As := [zI (ex.1 : Int), zI (ex.2.1 : Int), zI (oI e.2.2)]) (st := []) (v := (some (zI ((Ce.length + A1.length : Nat) : Int)))) (w1 := w_2) dX0_without_66 zc_X0_113 hce1 (z_cls9 (by decide)) rfl rfl (Nat.le_of_ble_eq_true rfl) rfl (by rw [hw_3]; exact (by have q := (c_X9_add (G := G) (d := d) hce1 (by decide) okC1 (by rw [hl1]; omega) (by by_cases cg : ((Ce ++ bWo Ce e.2.2 A1 Ce.length).map rwC).length * 3 + 3 ≤ cC1; exact Or.inl cg; exact Or.inr ⟨by omega, by omega⟩) (ex.1 : Int) (ex.2.1 : Int) (oI e.2.2)); rw [hl1] at q; exact q)) ?_
      refine zx_st (st1 := [zI ((Ce.length + A1.length : Nat) : Int)]) rfl ?_
      refine zx_pc (pc1 := 69) rfl ?_
      refine zx_istore (i := 8) dX0_without_69 (by decide) rfl ?_
      refine zx_L (L1 := [some (zR br), some (zI (h : Int)), some (zI (cc : Int)), some (zI (oI e.2.2)), some (zI (Ce.length : Int)), some (zI (m : Int)), some (zI (x : Int)), some (zI (q : Int)), some (zI ((Ce.length + A1.length : Nat) : Int))]) rfl ?_
      refine zx_iload (i := 5) dX0_without_71 rfl ?_
      refine zx_iconst (v := -1) dX0_without_73 rfl (z32_lit (by decide) (by decide)) ?_
      refine zx_icmp_ne (tgt := 81) dX0_without_74 (by decide) (fun h74 => ?_) (fun h74 => absurd (by omega) h74)
      refine zx_aload_n (i := 0) dX0_without_81 rfl rfl ?_
      have h_5 : w_2.1 br = some (0, 0, [zR pg, zR t, zR nd, zI gc, zR va, zR ce, zR li, zR ro, zI fr, zR bi, zR le, zR wk, zI tk, zI rs, zI rd]) := by
        rw [hw_3]; exact (tAw_to ok_1 (zne_tg hce1 hbr1 (by simp)) hbr1)
      refine zx_getfield dX0_without_82 zf_X0_31 h_5 rfl ?_
      refine zx_iload (i := 5) dX0_without_85 rfl ?_
      refine zx_iconst (v := 2) dX0_without_87 rfl (z32_lit (by decide) (by decide)) ?_
      refine zx_iload (i := 8) dX0_without_88 rfl ?_
      obtain ⟨w_6, hw_7⟩ : ∃ ww, ww = zput w_2 ce (142, br, tTb 3 (tCap 3 cC1 ((Ce ++ bWo Ce e.2.2 A1 Ce.length).map rwC)) (ts (((Ce ++ bWo Ce e.2.2 A1 Ce.length).map rwC) ++ [(trow 3 (ex.1 : Int) (ex.2.1 : Int) (oI e.2.2))]) (m : Int) 2 ((Ce.length + A1.length : Nat) : Int))) := ⟨_, rfl⟩
      have q_8 : w_6.2.1 = w_2.2.1 ∧ w_6.2.2 = w_2.2.2 := by rw [hw_7]; exact ⟨rfl, rfl⟩
      have h_9 : w_6.1 ce = some (142, br, tTb 3 (tCap 3 cC1 ((Ce ++ bWo Ce e.2.2 A1 Ce.length).map rwC)) (ts (((Ce ++ bWo Ce e.2.2 A1 Ce.length).map rwC) ++ [(trow 3 (ex.1 : Int) (ex.2.1 : Int) (oI e.2.2))]) (m : Int) 2 ((Ce.length + A1.length : Nat) : Int))) := by rw [hw_7]; exact zput_at
      refine zx_iv (b := ce) (As := [zI (m : Int), zI 2, zI ((Ce.length + A1.length : Nat) : Int)]) (st := []) (v := none) (w1 := w_6) dX0_without_90 zc_X0_142 h_4 (z_cls9 (by decide)) rfl rfl (Nat.le_of_ble_eq_true rfl) rfl (by rw [hw_7]; exact (c_X9_set h_4 (by decide) (tOk_app okC1 (by first | exact trow_len | rfl)) (m : Int) 2 ((Ce.length + A1.length : Nat) : Int))) ?_
      refine zx_st (st1 := []) rfl ?_
      refine zx_iload (i := 8) dX0_without_93 rfl ?_
      refine zx_istore (i := 5) dX0_without_95 (by decide) rfl ?_
      refine zx_L (L1 := [some (zR br), some (zI (h : Int)), some (zI (cc : Int)), some (zI (oI e.2.2)), some (zI (Ce.length : Int)), some (zI ((Ce.length + A1.length : Nat) : Int)), some (zI (x : Int)), some (zI (q : Int)), some (zI ((Ce.length + A1.length : Nat) : Int))]) rfl ?_
      refine zx_pc (pc1 := 97) rfl ?_
      refine zx_aload_n (i := 0) dX0_without_97 rfl rfl ?_
      have h_10 : w_6.1 br = some (0, 0, [zR pg, zR t, zR nd, zI gc, zR va, zR ce, zR li, zR ro, zI fr, zR bi, zR le, zR wk, zI tk, zI rs, zI rd]) := by
        rw [hw_7]; exact zput_tg h_4 h_5 (by simp)
      refine zx_getfield dX0_without_98 zf_X0_31 h_10 rfl ?_
      refine zx_iload (i := 6) dX0_without_101 rfl ?_
      refine zx_iconst (v := 2) dX0_without_103 rfl (z32_lit (by decide) (by decide)) ?_
      refine zx_iv (b := ce) (As := [zI (x : Int), zI 2]) (st := []) (v := (some (zI (y : Int)))) (w1 := w_6) dX0_without_104 zc_X0_84 h_9 (z_cls9 (by decide)) rfl rfl (Nat.le_of_ble_eq_true rfl) rfl (by have q := (c_X9_get (G := G) (d := d + 2) h_9 (by decide) (tOk_ts (tOk_app okC1 (by first | exact trow_len | rfl))) (x : Int) 2); rw [hx2] at q; exact q) ?_
      refine zx_st (st1 := [zI (y : Int)]) rfl ?_
      refine zx_istore (i := 6) dX0_without_107 (by decide) rfl ?_
      refine zx_L (L1 := [some (zR br), some (zI (h : Int)), some (zI (cc : Int)), some (zI (oI e.2.2)), some (zI (Ce.length : Int)), some (zI ((Ce.length + A1.length : Nat) : Int)), some (zI (y : Int)), some (zI (q : Int)), some (zI ((Ce.length + A1.length : Nat) : Int))]) rfl ?_
      refine zx_iinc (i := 7) (v := ((q + 1 : Nat) : Int)) dX0_without_109 rfl (zw_eq (by omega) (by omega) (by rw [List.length_cons] at hq; omega)) (by decide) rfl ?_
      refine zx_L (L1 := [some (zR br), some (zI (h : Int)), some (zI (cc : Int)), some (zI (oI e.2.2)), some (zI (Ce.length : Int)), some (zI ((Ce.length + A1.length : Nat) : Int)), some (zI (y : Int)), some (zI ((q + 1 : Nat) : Int)), some (zI ((Ce.length + A1.length : Nat) : Int))]) rfl ?_
      refine zx_goto (tgt := 22) dX0_without_112 (by decide) ?_
      have hfaL9 : zFa [ce] w1 w_6 := (zFa_put (zFa_taw zFa_re (by simp) ok_1 hw_3) (by simp) hw_7)
      have hF9 : zFr TB w1 w_6 := zFr_fa hfaL9 (zLc hce1 (by simp) zLn)
      have h_11 : w_2.1 nd = some (140, br, tTb 5 cN NN) := by
        rw [hw_3]; exact (tAw_to ok_1 (zne_tg hce1 hnd1 (by simp)) hnd1)
      have h_12 : w_6.1 nd = some (140, br, tTb 5 cN NN) := by
        rw [hw_7]; exact zput_tg h_4 h_11 (by simp)
      have h_13 : w_2.1 va = some (141, br, tTb 1 cV VV) := by
        rw [hw_3]; exact (tAw_to ok_1 (zne_tg hce1 hva1 (by simp)) hva1)
      have h_14 : w_6.1 va = some (141, br, tTb 1 cV VV) := by
        rw [hw_7]; exact zput_tg h_4 h_13 (by simp)
      have h_15 : w_2.1 li = some (143, br, tTb 4 cL LL) := by
        rw [hw_3]; exact (tAw_to ok_1 (zne_tg hce1 hli1 (by simp)) hli1)
      have h_16 : w_6.1 li = some (143, br, tTb 4 cL LL) := by
        rw [hw_7]; exact zput_tg h_4 h_15 (by simp)
      have h_17 : w_2.1 ro = some (144, br, tTb 6 cR RR) := by
        rw [hw_3]; exact (tAw_to ok_1 (zne_tg hce1 hro1 (by simp)) hro1)
      have h_18 : w_6.1 ro = some (144, br, tTb 6 cR RR) := by
        rw [hw_7]; exact zput_tg h_4 h_17 (by simp)
      have h_19 : w_2.1 bi = some (145, br, tTb 2 cB BB) := by
        rw [hw_3]; exact (tAw_to ok_1 (zne_tg hce1 hbi1 (by simp)) hbi1)
      have h_20 : w_6.1 bi = some (145, br, tTb 2 cB BB) := by
        rw [hw_7]; exact zput_tg h_4 h_19 (by simp)
      have h_21 : w_2.1 le = some (146, br, tTb 4 cE EE) := by
        rw [hw_3]; exact (tAw_to ok_1 (zne_tg hce1 hle1 (by simp)) hle1)
      have h_22 : w_6.1 le = some (146, br, tTb 4 cE EE) := by
        rw [hw_7]; exact zput_tg h_4 h_21 (by simp)
      have h_23 : w_2.1 wk = some (147, br, tTb 3 cW WW) := by
        rw [hw_3]; exact (tAw_to ok_1 (zne_tg hce1 hwk1 (by simp)) hwk1)
      have h_24 : w_6.1 wk = some (147, br, tTb 3 cW WW) := by
        rw [hw_7]; exact zput_tg h_4 h_23 (by simp)
      have hB9 : bbW w_6 b1 b2 ((br, pg, t), (nd, va, ce, li), (ro, bi, le, wk)) (((cN, NN), (cV, VV), ((tCap 3 cC1 ((Ce ++ bWo Ce e.2.2 A1 Ce.length).map rwC)), (ts (((Ce ++ bWo Ce e.2.2 A1 Ce.length).map rwC) ++ [(trow 3 (ex.1 : Int) (ex.2.1 : Int) (oI e.2.2))]) (m : Int) 2 ((Ce.length + A1.length : Nat) : Int))), (cL, LL)), ((cR, RR), (cB, BB), (cE, EE), (cW, WW)), (gc, fr, tk, rs, rd)) := ⟨h_10, ⟨⟨h_12, okN1⟩, ⟨h_14, okV1⟩, ⟨h_9, (tOk_ts (tOk_app okC1 (by first | exact trow_len | rfl)))⟩, ⟨h_16, okL1⟩⟩, ⟨⟨h_18, okR1⟩, ⟨h_20, okB1⟩, ⟨h_22, okE1⟩, ⟨h_24, okW1⟩⟩, ⟨⟨by omega, by omega, by omega, by omega⟩, ⟨by omega, by omega, by omega, by omega⟩⟩, ⟨⟨by omega, by omega, by omega, by omega⟩, ⟨by omega, by omega, by omega, by omega⟩⟩, by omega, by omega⟩
      rw [bWo_snoc rfl hm hne hx] at hB9
      rw [show A1 ++ x :: A3 = (A1 ++ [x]) ++ A3 by simp]
      exact ih (A1 ++ [x]) y (q + 1) (Ce.length + A1.length) _ _ _ (by simp) (by rw [List.length_append, List.length_singleton]; omega) hch2 (fun a ha => hA a (List.mem_cons_of_mem _ ha)) (by rw [List.length_cons] at hq; omega) (by rw [List.length_append, List.length_singleton]; rw [List.length_cons] at hl; omega) hB9 (zFr_tr hF1 hF9)
  have ent : zX G zm_X0_without (d + 3) [zR br, zI (h : Int), zI (cc : Int)] w (zVal fun o w' => o = zI (oI (if A = [] then e.2.2 else some Ce.length)) ∧ (∃ cC' : Nat, bbW w' b1 b2 ((br, pg, t), (nd, va, ce, li), (ro, bi, le, wk)) (((cN, NN), (cV, VV), (cC', ((Ce ++ bWo Ce e.2.2 A Ce.length).map rwC)), (cL, LL)), ((cR, RR), (cB, BB), (cE, EE), (cW, WW)), (gc, fr, tk, rs, rd))) ∧ zFr TB w w') 22 [some (zR br), some (zI (h : Int)), some (zI (cc : Int)), some (zI (oI e.2.2)), some (zI (oI e.2.2)), some (zI (-1)), some (zI (h : Int)), some (zI 0), none] [] w := by
    cases A with
    | nil =>
      have ex : h = cc := by
        obtain ⟨e1, -⟩ := hch
        exact Option.some.inj e1
      obtain ⟨hbr, ⟨⟨hnd, okN⟩, ⟨hva, okV⟩, ⟨hce, okC⟩, ⟨hli, okL⟩⟩, ⟨⟨hro, okR⟩, ⟨hbi, okB⟩, ⟨hle, okE⟩, ⟨hwk, okW⟩⟩, ⟨⟨c1N, c1V, c1C, c1L⟩, ⟨c1R, c1B, c1E, c1W⟩⟩, ⟨⟨c2N, c2V, c2C, c2L⟩, ⟨c2R, c2B, c2E, c2W⟩⟩, hrm1, hrm2⟩ := id hB
      refine zx_iload (i := 7) dX0_without_22 rfl ?_
      refine zx_ldc (v := 1000000) dX0_without_24 zk_X0_65 (by decide +kernel) (z32_lit (by decide) (by decide)) ?_
      refine zx_icmp_ge (tgt := 115) dX0_without_26 (by decide) (fun h26 => absurd h26 (by decide)) (fun h26 => ?_)
      refine zx_iload (i := 6) dX0_without_29 rfl ?_
      refine zx_iload_n (i := 2) dX0_without_31 rfl rfl ?_
      refine zx_icmp_eq (tgt := 115) dX0_without_32 (by decide) (fun h32 => ?_) (fun h32 => absurd (by rw [ex]) h32)
      refine zx_iload (i := 4) dX0_without_115 rfl ?_
      refine zx_iret dX0_without_117 rfl ?_
      refine ⟨_, rfl, by rw [if_pos rfl], ⟨cC, ?_⟩, zFr_re⟩
      rw [show bWo Ce e.2.2 [] Ce.length = [] from rfl, List.append_nil]
      exact hB
    | cons a A2 =>
      obtain ⟨e1, ex, hx, hcx2⟩ := hch
      have e1 : h = a := Option.some.inj e1
      subst e1
      have hxc : h ≠ cc := hA h List.mem_cons_self
      obtain ⟨y, hy⟩ : ∃ y, ex.2.2 = some y := by
        cases A2 with
        | nil => exact ⟨_, hcx2.1⟩
        | cons b A4 => exact ⟨_, hcx2.1⟩
      have hch2 : bCh Ce (some y) (A2 ++ cc :: B) := by rw [← hy]; exact hcx2
      have hl1 : (Ce.map rwC).length = Ce.length := List.length_map _
      have hx0 : tg (Ce.map rwC) (h : Int) 0 = (ex.1 : Int) := tg_map (j := 0) hx
      have hx1 : tg (Ce.map rwC) (h : Int) 1 = (ex.2.1 : Int) := tg_map (j := 1) hx
      have hx2 : tg (ts (Ce.map rwC ++ [trow 3 (ex.1 : Int) (ex.2.1 : Int) (oI e.2.2)]) (-1) 2 (Ce.length : Int)) (h : Int) 2 = (y : Int) := by
        rw [ts_neg (by decide), tg_app (by rw [hl1]; exact (List.getElem?_eq_some_iff.mp hx).1)]
        have q2 := tg_map (f := rwC) (j := 2) hx
        have q3 : ((rwC ex)[2]?).getD (-1) = oI ex.2.2 := rfl
        rw [q3, hy] at q2
        exact q2
      obtain ⟨hbr, ⟨⟨hnd, okN⟩, ⟨hva, okV⟩, ⟨hce, okC⟩, ⟨hli, okL⟩⟩, ⟨⟨hro, okR⟩, ⟨hbi, okB⟩, ⟨hle, okE⟩, ⟨hwk, okW⟩⟩, ⟨⟨c1N, c1V, c1C, c1L⟩, ⟨c1R, c1B, c1E, c1W⟩⟩, ⟨⟨c2N, c2V, c2C, c2L⟩, ⟨c2R, c2B, c2E, c2W⟩⟩, hrm1, hrm2⟩ := id hB
      refine zx_iload (i := 7) dX0_without_22 rfl ?_
      refine zx_ldc (v := 1000000) dX0_without_24 zk_X0_65 (by decide +kernel) (z32_lit (by decide) (by decide)) ?_
      refine zx_icmp_ge (tgt := 115) dX0_without_26 (by decide) (fun h26 => absurd h26 (by decide)) (fun h26 => ?_)
      refine zx_iload (i := 6) dX0_without_29 rfl ?_
      refine zx_iload_n (i := 2) dX0_without_31 rfl rfl ?_
      refine zx_icmp_eq (tgt := 115) dX0_without_32 (by decide) (fun h32 => absurd h32 (by omega)) (fun h32 => ?_)
      refine zx_iload (i := 6) dX0_without_35 rfl ?_
      refine zx_iconst (v := -1) dX0_without_37 rfl (z32_lit (by decide) (by decide)) ?_
      refine zx_icmp_eq (tgt := 115) dX0_without_38 (by decide) (fun h38 => absurd h38 (by omega)) (fun h38 => ?_)
      refine zx_aload_n (i := 0) dX0_without_41 rfl rfl ?_
      refine zx_getfield dX0_without_42 zf_X0_31 hbr rfl ?_
      refine zx_pc (pc1 := 45) rfl ?_
      refine zx_aload_n (i := 0) dX0_without_45 rfl rfl ?_
      refine zx_getfield dX0_without_46 zf_X0_31 hbr rfl ?_
      refine zx_iload (i := 6) dX0_without_49 rfl ?_
      refine zx_iconst (v := 0) dX0_without_51 rfl (z32_lit (by decide) (by decide)) ?_
      refine zx_iv (b := ce) (As := [zI (h : Int), zI 0]) (st := [zR ce]) (v := (some (zI (ex.1 : Int)))) (w1 := w) dX0_without_52 zc_X0_84 hce (z_cls9 (by decide)) rfl rfl (Nat.le_of_ble_eq_true rfl) rfl (by have q := (c_X9_get (G := G) (d := d + 2) hce (by decide) okC (h : Int) 0); rw [hx0] at q; exact q) ?_
      refine zx_st (st1 := [zI (ex.1 : Int), zR ce]) rfl ?_
      refine zx_aload_n (i := 0) dX0_without_55 rfl rfl ?_
      refine zx_getfield dX0_without_56 zf_X0_31 hbr rfl ?_
      refine zx_iload (i := 6) dX0_without_59 rfl ?_
      refine zx_iconst (v := 1) dX0_without_61 rfl (z32_lit (by decide) (by decide)) ?_
      refine zx_iv (b := ce) (As := [zI (h : Int), zI 1]) (st := [zI (ex.1 : Int), zR ce]) (v := (some (zI (ex.2.1 : Int)))) (w1 := w) dX0_without_62 zc_X0_84 hce (z_cls9 (by decide)) rfl rfl (Nat.le_of_ble_eq_true rfl) rfl (by have q := (c_X9_get (G := G) (d := d + 2) hce (by decide) okC (h : Int) 1); rw [hx1] at q; exact q) ?_
      refine zx_st (st1 := [zI (ex.2.1 : Int), zI (ex.1 : Int), zR ce]) rfl ?_
      refine zx_iload_n (i := 3) dX0_without_65 rfl rfl ?_
      refine zx_ok (fun ok_1 => ?_)
      obtain ⟨w_2, hw_3⟩ : ∃ ww, ww = tAw w ce 142 br 3 cC (Ce.map rwC) (trow 3 (ex.1 : Int) (ex.2.1 : Int) (oI e.2.2)) := ⟨_, rfl⟩
      have h_4 : w_2.1 ce = some (142, br, tTb 3 (tCap 3 cC (Ce.map rwC)) ((Ce.map rwC) ++ [(trow 3 (ex.1 : Int) (ex.2.1 : Int) (oI e.2.2))])) := by rw [hw_3]; exact tAw_at
      have qhw_3 := tAw_sz3 (w := w) (a := ce) (t := 142) (ow := br) (c := 3) (cap := cC) (rows := (Ce.map rwC)) (r := (trow 3 (ex.1 : Int) (ex.2.1 : Int) (oI e.2.2))) (by omega)
      rw [← hw_3] at qhw_3
      refine zx_iv (b := ce) (As := [zI (ex.1 : Int), zI (ex.2.1 : Int), zI (oI e.2.2)]) (st := []) (v := (some (zI (Ce.length : Int)))) (w1 := w_2) dX0_without_66 zc_X0_113 hce (z_cls9 (by decide)) rfl rfl (Nat.le_of_ble_eq_true rfl) rfl (by rw [hw_3]; exact (by have q := (c_X9_add (G := G) (d := d) hce (by decide) okC (by rw [hl1]; omega) (by by_cases cg : (Ce.map rwC).length * 3 + 3 ≤ cC; exact Or.inl cg; exact Or.inr ⟨by omega, by omega⟩) (ex.1 : Int) (ex.2.1 : Int) (oI e.2.2)); rw [hl1] at q; exact q)) ?_
      refine zx_st (st1 := [zI (Ce.length : Int)]) rfl ?_
      refine zx_pc (pc1 := 69) rfl ?_
      refine zx_istore (i := 8) dX0_without_69 (by decide) rfl ?_
      refine zx_L (L1 := [some (zR br), some (zI (h : Int)), some (zI (cc : Int)), some (zI (oI e.2.2)), some (zI (oI e.2.2)), some (zI (-1)), some (zI (h : Int)), some (zI 0), some (zI (Ce.length : Int))]) rfl ?_
      refine zx_iload (i := 5) dX0_without_71 rfl ?_
      refine zx_iconst (v := -1) dX0_without_73 rfl (z32_lit (by decide) (by decide)) ?_
      refine zx_icmp_ne (tgt := 81) dX0_without_74 (by decide) (fun h74 => absurd h74 (by decide)) (fun h74 => ?_)
      refine zx_iload (i := 8) dX0_without_77 rfl ?_
      refine zx_istore (i := 4) dX0_without_79 (by decide) rfl ?_
      refine zx_L (L1 := [some (zR br), some (zI (h : Int)), some (zI (cc : Int)), some (zI (oI e.2.2)), some (zI (Ce.length : Int)), some (zI (-1)), some (zI (h : Int)), some (zI 0), some (zI (Ce.length : Int))]) rfl ?_
      refine zx_aload_n (i := 0) dX0_without_81 rfl rfl ?_
      have h_5 : w_2.1 br = some (0, 0, [zR pg, zR t, zR nd, zI gc, zR va, zR ce, zR li, zR ro, zI fr, zR bi, zR le, zR wk, zI tk, zI rs, zI rd]) := by
        rw [hw_3]; exact (tAw_to ok_1 (zne_tg hce hbr (by simp)) hbr)
      refine zx_getfield dX0_without_82 zf_X0_31 h_5 rfl ?_
      refine zx_iload (i := 5) dX0_without_85 rfl ?_
      refine zx_iconst (v := 2) dX0_without_87 rfl (z32_lit (by decide) (by decide)) ?_
      refine zx_iload (i := 8) dX0_without_88 rfl ?_
      obtain ⟨w_6, hw_7⟩ : ∃ ww, ww = zput w_2 ce (142, br, tTb 3 (tCap 3 cC (Ce.map rwC)) (ts ((Ce.map rwC) ++ [(trow 3 (ex.1 : Int) (ex.2.1 : Int) (oI e.2.2))]) (-1) 2 (Ce.length : Int))) := ⟨_, rfl⟩
      have q_8 : w_6.2.1 = w_2.2.1 ∧ w_6.2.2 = w_2.2.2 := by rw [hw_7]; exact ⟨rfl, rfl⟩
      have h_9 : w_6.1 ce = some (142, br, tTb 3 (tCap 3 cC (Ce.map rwC)) (ts ((Ce.map rwC) ++ [(trow 3 (ex.1 : Int) (ex.2.1 : Int) (oI e.2.2))]) (-1) 2 (Ce.length : Int))) := by rw [hw_7]; exact zput_at
      refine zx_iv (b := ce) (As := [zI (-1), zI 2, zI (Ce.length : Int)]) (st := []) (v := none) (w1 := w_6) dX0_without_90 zc_X0_142 h_4 (z_cls9 (by decide)) rfl rfl (Nat.le_of_ble_eq_true rfl) rfl (by rw [hw_7]; exact (c_X9_set h_4 (by decide) (tOk_app okC (by first | exact trow_len | rfl)) (-1) 2 (Ce.length : Int))) ?_
      refine zx_st (st1 := []) rfl ?_
      refine zx_pc (pc1 := 93) rfl ?_
      refine zx_iload (i := 8) dX0_without_93 rfl ?_
      refine zx_istore (i := 5) dX0_without_95 (by decide) rfl ?_
      refine zx_L (L1 := [some (zR br), some (zI (h : Int)), some (zI (cc : Int)), some (zI (oI e.2.2)), some (zI (Ce.length : Int)), some (zI (Ce.length : Int)), some (zI (h : Int)), some (zI 0), some (zI (Ce.length : Int))]) rfl ?_
      refine zx_aload_n (i := 0) dX0_without_97 rfl rfl ?_
      have h_10 : w_6.1 br = some (0, 0, [zR pg, zR t, zR nd, zI gc, zR va, zR ce, zR li, zR ro, zI fr, zR bi, zR le, zR wk, zI tk, zI rs, zI rd]) := by
        rw [hw_7]; exact zput_tg h_4 h_5 (by simp)
      refine zx_getfield dX0_without_98 zf_X0_31 h_10 rfl ?_
      refine zx_iload (i := 6) dX0_without_101 rfl ?_
      refine zx_iconst (v := 2) dX0_without_103 rfl (z32_lit (by decide) (by decide)) ?_
      refine zx_iv (b := ce) (As := [zI (h : Int), zI 2]) (st := []) (v := (some (zI (y : Int)))) (w1 := w_6) dX0_without_104 zc_X0_84 h_9 (z_cls9 (by decide)) rfl rfl (Nat.le_of_ble_eq_true rfl) rfl (by have q := (c_X9_get (G := G) (d := d + 2) h_9 (by decide) (tOk_ts (tOk_app okC (by first | exact trow_len | rfl))) (h : Int) 2); rw [hx2] at q; exact q) ?_
      refine zx_st (st1 := [zI (y : Int)]) rfl ?_
      refine zx_istore (i := 6) dX0_without_107 (by decide) rfl ?_
      refine zx_L (L1 := [some (zR br), some (zI (h : Int)), some (zI (cc : Int)), some (zI (oI e.2.2)), some (zI (Ce.length : Int)), some (zI (Ce.length : Int)), some (zI (y : Int)), some (zI 0), some (zI (Ce.length : Int))]) rfl ?_
      refine zx_iinc (i := 7) (v := 1) dX0_without_109 rfl (by decide +kernel) (by decide) rfl ?_
      refine zx_L (L1 := [some (zR br), some (zI (h : Int)), some (zI (cc : Int)), some (zI (oI e.2.2)), some (zI (Ce.length : Int)), some (zI (Ce.length : Int)), some (zI (y : Int)), some (zI 1), some (zI (Ce.length : Int))]) rfl ?_
      refine zx_goto (tgt := 22) dX0_without_112 (by decide) ?_
      have hfaL9 : zFa [ce] w w_6 := (zFa_put (zFa_taw zFa_re (by simp) ok_1 hw_3) (by simp) hw_7)
      have hF9 : zFr TB w w_6 := zFr_fa hfaL9 (zLc hce (by simp) zLn)
      have h_11 : w_2.1 nd = some (140, br, tTb 5 cN NN) := by
        rw [hw_3]; exact (tAw_to ok_1 (zne_tg hce hnd (by simp)) hnd)
      have h_12 : w_6.1 nd = some (140, br, tTb 5 cN NN) := by
        rw [hw_7]; exact zput_tg h_4 h_11 (by simp)
      have h_13 : w_2.1 va = some (141, br, tTb 1 cV VV) := by
        rw [hw_3]; exact (tAw_to ok_1 (zne_tg hce hva (by simp)) hva)
      have h_14 : w_6.1 va = some (141, br, tTb 1 cV VV) := by
        rw [hw_7]; exact zput_tg h_4 h_13 (by simp)
      have h_15 : w_2.1 li = some (143, br, tTb 4 cL LL) := by
        rw [hw_3]; exact (tAw_to ok_1 (zne_tg hce hli (by simp)) hli)
      have h_16 : w_6.1 li = some (143, br, tTb 4 cL LL) := by
        rw [hw_7]; exact zput_tg h_4 h_15 (by simp)
      have h_17 : w_2.1 ro = some (144, br, tTb 6 cR RR) := by
        rw [hw_3]; exact (tAw_to ok_1 (zne_tg hce hro (by simp)) hro)
      have h_18 : w_6.1 ro = some (144, br, tTb 6 cR RR) := by
        rw [hw_7]; exact zput_tg h_4 h_17 (by simp)
      have h_19 : w_2.1 bi = some (145, br, tTb 2 cB BB) := by
        rw [hw_3]; exact (tAw_to ok_1 (zne_tg hce hbi (by simp)) hbi)
      have h_20 : w_6.1 bi = some (145, br, tTb 2 cB BB) := by
        rw [hw_7]; exact zput_tg h_4 h_19 (by simp)
      have h_21 : w_2.1 le = some (146, br, tTb 4 cE EE) := by
        rw [hw_3]; exact (tAw_to ok_1 (zne_tg hce hle (by simp)) hle)
      have h_22 : w_6.1 le = some (146, br, tTb 4 cE EE) := by
        rw [hw_7]; exact zput_tg h_4 h_21 (by simp)
      have h_23 : w_2.1 wk = some (147, br, tTb 3 cW WW) := by
        rw [hw_3]; exact (tAw_to ok_1 (zne_tg hce hwk (by simp)) hwk)
      have h_24 : w_6.1 wk = some (147, br, tTb 3 cW WW) := by
        rw [hw_7]; exact zput_tg h_4 h_23 (by simp)
      have hB9 : bbW w_6 b1 b2 ((br, pg, t), (nd, va, ce, li), (ro, bi, le, wk)) (((cN, NN), (cV, VV), ((tCap 3 cC (Ce.map rwC)), (ts ((Ce.map rwC) ++ [(trow 3 (ex.1 : Int) (ex.2.1 : Int) (oI e.2.2))]) (-1) 2 (Ce.length : Int))), (cL, LL)), ((cR, RR), (cB, BB), (cE, EE), (cW, WW)), (gc, fr, tk, rs, rd)) := ⟨h_10, ⟨⟨h_12, okN⟩, ⟨h_14, okV⟩, ⟨h_9, (tOk_ts (tOk_app okC (by first | exact trow_len | rfl)))⟩, ⟨h_16, okL⟩⟩, ⟨⟨h_18, okR⟩, ⟨h_20, okB⟩, ⟨h_22, okE⟩, ⟨h_24, okW⟩⟩, ⟨⟨by omega, by omega, by omega, by omega⟩, ⟨by omega, by omega, by omega, by omega⟩⟩, ⟨⟨by omega, by omega, by omega, by omega⟩, ⟨by omega, by omega, by omega, by omega⟩⟩, by omega, by omega⟩
      rw [ts_neg (by decide), bWo_one hx] at hB9
      exact loop A2 [h] y 1 Ce.length _ _ _ (by simp) rfl hch2 (fun a ha => hA a (List.mem_cons_of_mem _ ha)) (by rw [List.length_cons] at hlA; omega) (by rw [List.length_cons] at hlC; rw [List.length_singleton]; omega) hB9 hF9
  have hc2 : tg (Ce.map rwC) (cc : Int) 2 = oI e.2.2 := tg_map (j := 2) he
  refine zx_L (L1 := [some (zR br), some (zI (h : Int)), some (zI (cc : Int)), none, none, none, none, none, none]) rfl ?_
  obtain ⟨hbr, ⟨⟨hnd, okN⟩, ⟨hva, okV⟩, ⟨hce, okC⟩, ⟨hli, okL⟩⟩, ⟨⟨hro, okR⟩, ⟨hbi, okB⟩, ⟨hle, okE⟩, ⟨hwk, okW⟩⟩, ⟨⟨c1N, c1V, c1C, c1L⟩, ⟨c1R, c1B, c1E, c1W⟩⟩, ⟨⟨c2N, c2V, c2C, c2L⟩, ⟨c2R, c2B, c2E, c2W⟩⟩, hrm1, hrm2⟩ := id hB
  refine zx_aload_n (i := 0) dX0_without_0 rfl rfl ?_
  refine zx_getfield dX0_without_1 zf_X0_31 hbr rfl ?_
  refine zx_iload_n (i := 2) dX0_without_4 rfl rfl ?_
  refine zx_iconst (v := 2) dX0_without_5 rfl (z32_lit (by decide) (by decide)) ?_
  refine zx_iv (b := ce) (As := [zI (cc : Int), zI 2]) (st := []) (v := (some (zI (oI e.2.2)))) (w1 := w) dX0_without_6 zc_X0_84 hce (z_cls9 (by decide)) rfl rfl (Nat.le_of_ble_eq_true rfl) rfl (by have q := (c_X9_get (G := G) (d := d + 2) hce (by decide) okC (cc : Int) 2); rw [hc2] at q; exact q) ?_
  refine zx_st (st1 := [zI (oI e.2.2)]) rfl ?_
  refine zx_istore_n (i := 3) dX0_without_9 rfl (by decide) rfl ?_
  refine zx_L (L1 := [some (zR br), some (zI (h : Int)), some (zI (cc : Int)), some (zI (oI e.2.2)), none, none, none, none, none]) rfl ?_
  refine zx_iload_n (i := 3) dX0_without_10 rfl rfl ?_
  refine zx_istore (i := 4) dX0_without_11 (by decide) rfl ?_
  refine zx_L (L1 := [some (zR br), some (zI (h : Int)), some (zI (cc : Int)), some (zI (oI e.2.2)), some (zI (oI e.2.2)), none, none, none, none]) rfl ?_
  refine zx_iconst (v := -1) dX0_without_13 rfl (z32_lit (by decide) (by decide)) ?_
  refine zx_istore (i := 5) dX0_without_14 (by decide) rfl ?_
  refine zx_L (L1 := [some (zR br), some (zI (h : Int)), some (zI (cc : Int)), some (zI (oI e.2.2)), some (zI (oI e.2.2)), some (zI (-1)), none, none, none]) rfl ?_
  refine zx_iload_n (i := 1) dX0_without_16 rfl rfl ?_
  refine zx_pc (pc1 := 17) rfl ?_
  refine zx_istore (i := 6) dX0_without_17 (by decide) rfl ?_
  refine zx_L (L1 := [some (zR br), some (zI (h : Int)), some (zI (cc : Int)), some (zI (oI e.2.2)), some (zI (oI e.2.2)), some (zI (-1)), some (zI (h : Int)), none, none]) rfl ?_
  refine zx_iconst (v := 0) dX0_without_19 rfl (z32_lit (by decide) (by decide)) ?_
  refine zx_istore (i := 7) dX0_without_20 (by decide) rfl ?_
  refine zx_L (L1 := [some (zR br), some (zI (h : Int)), some (zI (cc : Int)), some (zI (oI e.2.2)), some (zI (oI e.2.2)), some (zI (-1)), some (zI (h : Int)), some (zI 0), none]) rfl ?_
  exact ent
end BWOJ
