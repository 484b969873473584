/-! Own rows: a call with more than four values beneath. By hand. -/
section ZC6
variable {G : zG} {M : zMd} {d : Nat} {av : List zV} {w0 : zW} {Q : zQ} {pc : Nat} {L : List (Option zV)} {st : List zV} {w : zW}
theorem zx_invokevirtual6 {idx n d' b : Nat} {ob : zO} {q : vw_C} {M' : zMd} {As : List zV} {Q' : zQ} (hd : decode M.2.1 pc = .ok (.invokevirtual idx, 3)) (hc : zCV M.1.cls idx M' n) (hb : w.1 b = some ob) (hq : vwCl[zcls ob.1]? = some q) (hq1 : q.1 = M'.1.cls) (hn : As.length = n) (hst : ((st.map zv).map fun v => v.category).sum ≤ 8) (hh : M.2.2.2.2 = [])
    (hM : zM G M' d' (zR b :: As) w Q') (kr : ∀ v w', Q' (.inl v) w' → zX G M (d' + 1) av w0 Q (pc + 3) L (v.toList ++ st) w') (kx : ∀ i w', Q' (.inr i) w' → Q (.inr i) w') : zX G M (d' + 1) av w0 Q pc L (As.reverse ++ zR b :: st) w := by
  intro p e s m below meth c H ls locs hC hY
  obtain ⟨hfa, hY1⟩ := zfits_args (p := p) hY
  obtain ⟨-, hY2⟩ := zY_pop hY1
  obtain ⟨⟨i1, i2, i3, i4, i5⟩, c1, c2, c3⟩ := hc
  have hts := hC.2.2.2.2.1
  have hMet := hM (fun v hv => (List.mem_cons.mp hv).elim (fun e => e ▸ trivial) (hfa v))
  have hws := zws_code i1
  have hGd : GoodIn (zws M) (wsV M.1.cls idx M'.1.cls M'.1 (zws M')) := zGood fun x hx => by
    unfold wsV at hx
    rw [hws] at hx
    simp only [List.cons_append, List.nil_append, List.mem_cons] at hx
    rcases hx with rfl | rfl | rfl | rfl | rfl | hx
    · exact c1
    · exact c2
    · exact c3
    · exact i2
    · exact i3
    · exact hx
  have hK := hC.2.2.2.2.2.2.2.2.2.2.2.1
  have hrun := vx_runV (e := e) (below := below) (meth := meth) (locs := locs) (As := As.map zv) (rest := st.map zv) (Ts := zws M) (own := M.1.cls) (g := F0 m pc ls ((As.reverse ++ zR b :: st).map zv)) ⟨hC.1, hC.2.1, hC.2.2.1, hC.2.2.2.2.2.1, hts⟩ hMet
    (cwV n hts hGd hws rfl rfl ⟨rfl, i4⟩ (zroom_call (w0 := w0) i5))
    ⟨zPre_blind, by rw [← hq1]; exact zat_recv (hY2.2.1.2.2.2.2 b ob hb).1 hK hq, fun U hU hW => ⟨rfl, zPre_of hC hY2 hU hW⟩⟩ rfl (by rw [List.length_map]; exact hn) hY2.2.2.2.2.2.1.1 (by simp [zv]) (lv_room hst) hd (by
      obtain ⟨-, z2, -, z4, z5, -, -⟩ := hY2
      obtain ⟨-, -, z6, z7, -⟩ := z2
      exact ⟨by show w.2.1 - w0.2.1 + (G.2.2.2.2.1 - w.2.1) ≤ G.2.2.2.2.1 - w0.2.1; omega, by show w.2.2 - w0.2.2 + (G.2.2.2.2.2 - w.2.2) ≤ G.2.2.2.2.2 - w0.2.2; omega⟩)
  exact z_after hC hY2 hrun (fun v w' H' locs' hq' hY' => kr v w' hq' p e s m below meth c H' ls locs' hC hY') (fun i w' H' locs' q ce hi hq' hY' h1 h2 h3 => z_out hC hY' hh hi (kx i w' hq') h1 h2 h3)
theorem zx_iv6 {idx n d' b : Nat} {ob : zO} {q : vw_C} {M' : zMd} {As : List zV} {v : Option zV} {w1 : zW} (hd : decode M.2.1 pc = .ok (.invokevirtual idx, 3)) (hc : zCV M.1.cls idx M' n) (hb : w.1 b = some ob) (hq : vwCl[zcls ob.1]? = some q) (hq1 : q.1 = M'.1.cls) (hn : As.length = n) (hst : ((st.map zv).map fun v => v.category).sum ≤ 8) (hh : M.2.2.2.2 = [])
    (hM : zM G M' d' (zR b :: As) w (zRet v w1)) (k : zX G M (d' + 1) av w0 Q (pc + 3) L (v.toList ++ st) w1) : zX G M (d' + 1) av w0 Q pc L (As.reverse ++ zR b :: st) w :=
  zx_invokevirtual6 hd hc hb hq hq1 hn hst hh hM (fun v' w' q => by obtain ⟨e1, e2⟩ := q; cases e1; subst e2; exact k) (fun i w' q => by cases q.1)
end ZC6
