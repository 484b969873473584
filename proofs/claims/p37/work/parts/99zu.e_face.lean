/-! Own rows: the face's small calls. Walked by program (wip/p37/m_face.py). -/
/-- it throws, and nothing else has changed -/
def zXw (i : Nat) (w : zW) : zQ := fun o w' => o = .inr i ∧ w'.1 = w.1 ∧ w.2.1 ≤ w'.2.1 ∧ w'.2.1 ≤ w.2.1 + 1 ∧ w.2.2 ≤ w'.2.2 ∧ w'.2.2 ≤ w.2.2 + 6
section CFACE
section IVT
variable {G : zG} {M : zMd} {d : Nat} {av : List zV} {w0 : zW} {Q : zQ} {pc : Nat} {L : List (Option zV)} {st : List zV} {w : zW}
theorem zx_ivT {idx n d' b i : Nat} {ob : zO} {q : vw_C} {M' : zMd} {As : List zV} (hd : decode M.2.1 pc = .ok (.invokevirtual idx, 3)) (hc : zCV M.1.cls idx M' n) (hb : w.1 b = some ob) (hq : vwCl[zcls ob.1]? = some q) (hq1 : q.1 = M'.1.cls) (hn : As.length = n) (hst : st.length ≤ 4) (hh : M.2.2.2.2 = [])
    (hM : zM G M' d' (zR b :: As) w (zXw i w)) (k : ∀ w', zXw i w (.inr i) w' → Q (.inr i) w') : zX G M (d' + 1) av w0 Q pc L (As.reverse ++ zR b :: st) w :=
  zx_invokevirtual hd hc hb hq hq1 hn hst hh hM (fun v' w' q => by cases q.1) (fun j w' q => by have e := q.1; cases e; exact k w' q)
end IVT
variable {G : zG} {d : Nat} {w : zW} {o t pg mc br la sp : Nat} {comp asked sum : Int}
theorem f_ru_ok (ho : w.1 o = some (11, 0, [zR t, zR pg, zR mc, zR br, zR la, zR sp, zI comp, zI asked, zJ sum])) (hc : comp ≠ 0) : zM G zm_X11_refuseUncompiled (d + 0) [zR o] w (zRet none w) := by
  refine zx_ent (by decide +kernel) rfl (Nat.le_of_ble_eq_true rfl) ?_
  refine zx_L (L1 := [some (zR o)]) rfl ?_
  refine zx_aload_n (i := 0) dX11_refuseUncompiled_0 rfl rfl ?_
  refine zx_getfield dX11_refuseUncompiled_1 zf_X11_51 ho rfl ?_
  refine zx_if_ne (tgt := 15) dX11_refuseUncompiled_4 (by decide) (fun h4 => ?_) (fun h4 => absurd (hc) h4)
  refine zx_return dX11_refuseUncompiled_15 rfl ?_
  exact zr_n rfl
theorem f_ru_x (ho : w.1 o = some (11, 0, [zR t, zR pg, zR mc, zR br, zR la, zR sp, zI comp, zI asked, zJ sum])) (hc : comp = 0) (hst0 : G.1.stackTraces = false) (r1 : w.2.1 + 1 ≤ G.2.2.2.2.1) (r2 : w.2.2 + 6 ≤ G.2.2.2.2.2) : zM G zm_X11_refuseUncompiled (d + 4) [zR o] w (zXw 2 w) := by
  refine zx_ent (by decide +kernel) rfl (Nat.le_of_ble_eq_true rfl) ?_
  refine zx_L (L1 := [some (zR o)]) rfl ?_
  refine zx_aload_n (i := 0) dX11_refuseUncompiled_0 rfl rfl ?_
  refine zx_getfield dX11_refuseUncompiled_1 zf_X11_51 ho rfl ?_
  refine zx_if_ne (tgt := 15) dX11_refuseUncompiled_4 (by decide) (fun h4 => absurd h4 (not_not_intro hc)) (fun h4 => ?_)
  refine zx_thrown zt_X11_67_69 dX11_refuseUncompiled_7 dX11_refuseUncompiled_10 dX11_refuseUncompiled_11 dX11_refuseUncompiled_14 rfl hst0 (Nat.le_of_ble_eq_true rfl) (by omega) (by omega) (fun z t z1 z2 z3 z4 => ?_)
  exact ⟨rfl, rfl, z1, z2, z3, z4⟩
theorem f_rq_ok (ho : w.1 o = some (11, 0, [zR t, zR pg, zR mc, zR br, zR la, zR sp, zI comp, zI asked, zJ sum])) (ha : asked ≠ 0) : zM G zm_X11_refuseUnasked (d + 0) [zR o] w (zRet none w) := by
  refine zx_ent (by decide +kernel) rfl (Nat.le_of_ble_eq_true rfl) ?_
  refine zx_L (L1 := [some (zR o)]) rfl ?_
  refine zx_aload_n (i := 0) dX11_refuseUnasked_0 rfl rfl ?_
  refine zx_getfield dX11_refuseUnasked_1 zf_X11_55 ho rfl ?_
  refine zx_if_ne (tgt := 15) dX11_refuseUnasked_4 (by decide) (fun h4 => ?_) (fun h4 => absurd (ha) h4)
  refine zx_return dX11_refuseUnasked_15 rfl ?_
  exact zr_n rfl
theorem f_rq_x (ho : w.1 o = some (11, 0, [zR t, zR pg, zR mc, zR br, zR la, zR sp, zI comp, zI asked, zJ sum])) (ha : asked = 0) (hst0 : G.1.stackTraces = false) (r1 : w.2.1 + 1 ≤ G.2.2.2.2.1) (r2 : w.2.2 + 6 ≤ G.2.2.2.2.2) : zM G zm_X11_refuseUnasked (d + 4) [zR o] w (zXw 4 w) := by
  refine zx_ent (by decide +kernel) rfl (Nat.le_of_ble_eq_true rfl) ?_
  refine zx_L (L1 := [some (zR o)]) rfl ?_
  refine zx_aload_n (i := 0) dX11_refuseUnasked_0 rfl rfl ?_
  refine zx_getfield dX11_refuseUnasked_1 zf_X11_55 ho rfl ?_
  refine zx_if_ne (tgt := 15) dX11_refuseUnasked_4 (by decide) (fun h4 => absurd h4 (not_not_intro ha)) (fun h4 => ?_)
  refine zx_thrown zt_X11_117_119 dX11_refuseUnasked_7 dX11_refuseUnasked_10 dX11_refuseUnasked_11 dX11_refuseUnasked_14 rfl hst0 (Nat.le_of_ble_eq_true rfl) (by omega) (by omega) (fun z t z1 z2 z3 z4 => ?_)
  exact ⟨rfl, rfl, z1, z2, z3, z4⟩
end CFACE
