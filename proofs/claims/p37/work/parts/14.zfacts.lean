/-! the facts by use -/
def zfitb : zV → Bool
  | .inl a => decide (-2147483648 ≤ a ∧ a ≤ 2147483647)
  | .inr (.inl _) => true
  | .inr (.inr a) => decide (-9223372036854775808 ≤ a ∧ a ≤ 9223372036854775807)
theorem zfit_all {fs : List zV} (h : fs.all zfitb = true) : ∀ v ∈ fs, zfit v := fun v hv => by
  have h := List.all_eq_true.mp h v hv
  rcases v with a | (q | a)
  · exact (of_decide_eq_true h : -2147483648 ≤ a ∧ a ≤ 2147483647)
  · exact trivial
  · exact (of_decide_eq_true h : -9223372036854775808 ≤ a ∧ a ≤ 9223372036854775807)
def zTI (own : String) (i ik ic : Nat) : Prop := i < 6 ∧ Cond.classLink own ik (zXn i) ∈ zWS ∧ Cond.initialized (zXn i) ∈ zWS ∧ (∀ x ∈ (vx_at0 own ic (zXn i) ["java/lang/RuntimeException", "java/lang/Exception"]).filter goodWord, x ∈ zWS) ∧ (∀ x ∈ (vx_at0 own ic (zXn i) ["java/lang/RuntimeException", "java/lang/Exception"]).filter (fun x => !goodWord x), x ∈ lw_tbl ∧ zNw x = true) ∧
  (∀ x ∈ Cond.classLink own ik (zXn i) :: Cond.initialized (zXn i) :: vx_at0 own ic (zXn i) ["java/lang/RuntimeException", "java/lang/Exception"], vx_ot x = true) ∧ Bundle.fit (zXn i) = true
theorem zTI_b {l : List Cond} {E : String} (h : ∀ x ∈ l, x ∈ [Cond.castable E E, Cond.declares (Bundle.init0 "java/lang/RuntimeException"), Cond.declares (Bundle.init0 "java/lang/Exception"), Cond.declares (Bundle.init0 "java/lang/Throwable")]) (h1 : Cond.castable E E ∈ lw_tbl) (h2 : Cond.declares (Bundle.init0 "java/lang/RuntimeException") ∈ lw_tbl) (h3 : Cond.declares (Bundle.init0 "java/lang/Exception") ∈ lw_tbl) (h4 : Cond.declares (Bundle.init0 "java/lang/Throwable") ∈ lw_tbl) : ∀ x ∈ l, x ∈ lw_tbl ∧ zNw x = true := fun x hx => by
  have := h x hx
  simp only [List.mem_cons, List.not_mem_nil, or_false] at this
  rcases this with rfl | rfl | rfl | rfl
  · exact ⟨h1, rfl⟩
  · exact ⟨h2, rfl⟩
  · exact ⟨h3, rfl⟩
  · exact ⟨h4, rfl⟩
theorem zx_thrown {G : zG} {M : zMd} {d : Nat} {av : List zV} {w0 : zW} {Q : zQ} {pc : Nat} {L : List (Option zV)} {st : List zV} {w : zW} {i ik ic : Nat} (ht : zTI M.1.cls i ik ic) (hd0 : decode M.2.1 pc = .ok (.new ik, 3)) (hd3 : decode M.2.1 (pc + 3) = .ok (.dup, 1)) (hd4 : decode M.2.1 (pc + 4) = .ok (.invokespecial ic, 3)) (hd7 : decode M.2.1 (pc + 7) = .ok (.athrow, 1)) (hh : M.2.2.2.2 = []) (hl : G.1.stackTraces = false) (hst : st.length ≤ 4) (b1 : w.2.1 + 1 ≤ G.2.2.2.2.1) (b2 : w.2.2 + 6 ≤ G.2.2.2.2.2)
    (k : ∀ z t, w.2.1 ≤ z → z ≤ w.2.1 + 1 → w.2.2 ≤ t → t ≤ w.2.2 + 6 → Q (.inr i) (w.1, z, t)) : zX G M d av w0 Q pc L st w := by
  obtain ⟨h1, h2, h3, h4, h5, h6, h7⟩ := ht
  exact zx_throw h1 hd0 hd3 hd4 hd7 hh h2 h3 h4 h5 h6 h7 hl hst b1 b2 k
abbrev zm_J7_fill_53178 : zMd := (yJ7_fill_53178, cJ7_fill_53178, 4, none, [])
abbrev zm_J7_fill_fda19 : zMd := (yJ7_fill_fda19, cJ7_fill_fda19, 5, none, [])
abbrev zm_Jx4a65c_add_72be8 : zMd := (yJx4a65c_add_72be8, cJx4a65c_add_72be8, 4, none, [])
abbrev zm_Jx4a65c_add_9ea2d : zMd := (yJx4a65c_add_9ea2d, cJx4a65c_add_9ea2d, 2, (some .boolean), [])
abbrev zm_Jx4a65c_elementData_915e3 : zMd := (yJx4a65c_elementData_915e3, cJx4a65c_elementData_915e3, 2, (some (.object "java/lang/Object")), [])
abbrev zm_Jx4a65c_get_915e3 : zMd := (yJx4a65c_get_915e3, cJx4a65c_get_915e3, 2, (some (.object "java/lang/Object")), [])
abbrev zm_Jx4a65c_grow_92f84 : zMd := (yJx4a65c_grow_92f84, cJx4a65c_grow_92f84, 4, (some (.array (.object "java/lang/Object"))), [])
abbrev zm_Jx4a65c_grow_d5877 : zMd := (yJx4a65c_grow_d5877, cJx4a65c_grow_d5877, 1, (some (.array (.object "java/lang/Object"))), [])
abbrev zm_Jx4a65c_init_da8c8 : zMd := (yJx4a65c_init_da8c8, cJx4a65c_init_da8c8, 1, none, [])
abbrev zm_Jx4a65c_size_8abf5 : zMd := (yJx4a65c_size_8abf5, cJx4a65c_size_8abf5, 1, (some .int), [])
def zhh_L_call : List (Nat × Nat × Nat × Nat) := [(0, 136, 383, 112), (137, 145, 383, 112), (146, 154, 383, 112), (155, 160, 383, 112), (161, 167, 383, 112), (168, 176, 383, 112), (177, 186, 383, 112), (187, 192, 383, 112), (193, 205, 383, 112), (206, 214, 383, 112), (215, 250, 383, 112), (251, 255, 383, 112), (256, 260, 383, 112), (261, 267, 383, 112), (268, 282, 383, 112), (283, 289, 383, 112), (290, 296, 383, 112), (297, 305, 383, 112), (306, 314, 383, 112), (315, 327, 383, 112), (328, 332, 383, 112), (333, 339, 383, 112), (340, 345, 383, 112), (346, 350, 383, 112), (351, 355, 383, 112), (356, 360, 383, 112), (361, 365, 383, 112), (366, 370, 383, 112), (371, 376, 383, 112), (377, 382, 383, 112), (0, 136, 389, 114), (137, 145, 389, 114), (146, 154, 389, 114), (155, 160, 389, 114), (161, 167, 389, 114), (168, 176, 389, 114), (177, 186, 389, 114), (187, 192, 389, 114), (193, 205, 389, 114), (206, 214, 389, 114), (215, 250, 389, 114), (251, 255, 389, 114), (256, 260, 389, 114), (261, 267, 389, 114), (268, 282, 389, 114), (283, 289, 389, 114), (290, 296, 389, 114), (297, 305, 389, 114), (306, 314, 389, 114), (315, 327, 389, 114), (328, 332, 389, 114), (333, 339, 389, 114), (340, 345, 389, 114), (346, 350, 389, 114), (351, 355, 389, 114), (356, 360, 389, 114), (361, 365, 389, 114), (366, 370, 389, 114), (371, 376, 389, 114), (377, 382, 389, 114), (0, 136, 395, 116), (137, 145, 395, 116), (146, 154, 395, 116), (155, 160, 395, 116), (161, 167, 395, 116), (168, 176, 395, 116), (177, 186, 395, 116), (187, 192, 395, 116), (193, 205, 395, 116), (206, 214, 395, 116), (215, 250, 395, 116), (251, 255, 395, 116), (256, 260, 395, 116), (261, 267, 395, 116), (268, 282, 395, 116), (283, 289, 395, 116), (290, 296, 395, 116), (297, 305, 395, 116), (306, 314, 395, 116), (315, 327, 395, 116), (328, 332, 395, 116), (333, 339, 395, 116), (340, 345, 395, 116), (346, 350, 395, 116), (351, 355, 395, 116), (356, 360, 395, 116), (361, 365, 395, 116), (366, 370, 395, 116), (371, 376, 395, 116), (377, 382, 395, 116), (0, 136, 401, 118), (137, 145, 401, 118), (146, 154, 401, 118), (155, 160, 401, 118), (161, 167, 401, 118), (168, 176, 401, 118), (177, 186, 401, 118), (187, 192, 401, 118), (193, 205, 401, 118), (206, 214, 401, 118), (215, 250, 401, 118), (251, 255, 401, 118), (256, 260, 401, 118), (261, 267, 401, 118), (268, 282, 401, 118), (283, 289, 401, 118), (290, 296, 401, 118), (297, 305, 401, 118), (306, 314, 401, 118), (315, 327, 401, 118), (328, 332, 401, 118), (333, 339, 401, 118), (340, 345, 401, 118), (346, 350, 401, 118), (351, 355, 401, 118), (356, 360, 401, 118), (361, 365, 401, 118), (366, 370, 401, 118), (371, 376, 401, 118), (377, 382, 401, 118), (0, 136, 407, 120), (137, 145, 407, 120), (146, 154, 407, 120), (155, 160, 407, 120), (161, 167, 407, 120), (168, 176, 407, 120), (177, 186, 407, 120), (187, 192, 407, 120), (193, 205, 407, 120), (206, 214, 407, 120), (215, 250, 407, 120), (251, 255, 407, 120), (256, 260, 407, 120), (261, 267, 407, 120), (268, 282, 407, 120), (283, 289, 407, 120), (290, 296, 407, 120), (297, 305, 407, 120), (306, 314, 407, 120), (315, 327, 407, 120), (328, 332, 407, 120), (333, 339, 407, 120), (340, 345, 407, 120), (346, 350, 407, 120), (351, 355, 407, 120), (356, 360, 407, 120), (361, 365, 407, 120), (366, 370, 407, 120), (371, 376, 407, 120), (377, 382, 407, 120), (0, 136, 413, 122), (137, 145, 413, 122), (146, 154, 413, 122), (155, 160, 413, 122), (161, 167, 413, 122), (168, 176, 413, 122), (177, 186, 413, 122), (187, 192, 413, 122), (193, 205, 413, 122), (206, 214, 413, 122), (215, 250, 413, 122), (251, 255, 413, 122), (256, 260, 413, 122), (261, 267, 413, 122), (268, 282, 413, 122), (283, 289, 413, 122), (290, 296, 413, 122), (297, 305, 413, 122), (306, 314, 413, 122), (315, 327, 413, 122), (328, 332, 413, 122), (333, 339, 413, 122), (340, 345, 413, 122), (346, 350, 413, 122), (351, 355, 413, 122), (356, 360, 413, 122), (361, 365, 413, 122), (366, 370, 413, 122), (371, 376, 413, 122), (377, 382, 413, 122)]
abbrev zm_L_call : zMd := (yL_call, cL_call, 8, (some .int), zhh_L_call)
abbrev zm_L_cell : zMd := (yL_cell, cL_cell, 2, (some .int), [])
abbrev zm_L_holds : zMd := (yL_holds, cL_holds, 12, (some .boolean), [])
abbrev zm_L_low : zMd := (yL_low, cL_low, 2, (some .int), [])
abbrev zm_L_state : zMd := (yL_state, cL_state, 5, (some .long), [])
abbrev zm_X0_addToRow : zMd := (yX0_addToRow, cX0_addToRow, 7, none, [])
abbrev zm_X0_begin : zMd := (yX0_begin, cX0_begin, 5, none, [])
abbrev zm_X0_beginDenied : zMd := (yX0_beginDenied, cX0_beginDenied, 8, none, [])
abbrev zm_X0_bind : zMd := (yX0_bind, cX0_bind, 5, none, [])
abbrev zm_X0_bindPath : zMd := (yX0_bindPath, cX0_bindPath, 5, none, [])
abbrev zm_X0_count : zMd := (yX0_count, cX0_count, 5, (some .int), [])
abbrev zm_X0_endDenied : zMd := (yX0_endDenied, cX0_endDenied, 3, none, [])
abbrev zm_X0_find : zMd := (yX0_find, cX0_find, 5, (some .int), [])
abbrev zm_X0_firstToResolve : zMd := (yX0_firstToResolve, cX0_firstToResolve, 5, (some .int), [])
abbrev zm_X0_goalOf : zMd := (yX0_goalOf, cX0_goalOf, 4, (some (.object "ModedMill$Goal")), [])
abbrev zm_X0_init : zMd := (yX0_init, cX0_init, 3, none, [])
abbrev zm_X0_isFinite : zMd := (yX0_isFinite, cX0_isFinite, 2, (some .boolean), [])
abbrev zm_X0_isGround : zMd := (yX0_isGround, cX0_isGround, 5, (some .boolean), [])
abbrev zm_X0_join : zMd := (yX0_join, cX0_join, 12, (some .boolean), [])
abbrev zm_X0_markOf : zMd := (yX0_markOf, cX0_markOf, 3, (some .int), [])
abbrev zm_X0_newUnknown : zMd := (yX0_newUnknown, cX0_newUnknown, 1, (some .int), [])
abbrev zm_X0_nodeOf : zMd := (yX0_nodeOf, cX0_nodeOf, 4, (some .int), [])
abbrev zm_X0_openClause : zMd := (yX0_openClause, cX0_openClause, 8, (some .int), [])
abbrev zm_X0_putQuestion : zMd := (yX0_putQuestion, cX0_putQuestion, 4, none, [])
abbrev zm_X0_resolve : zMd := (yX0_resolve, cX0_resolve, 9, none, [])
abbrev zm_X0_restore : zMd := (yX0_restore, cX0_restore, 2, none, [])
abbrev zm_X0_rightSide : zMd := (yX0_rightSide, cX0_rightSide, 5, (some .int), [])
abbrev zm_X0_scan : zMd := (yX0_scan, cX0_scan, 9, (some .boolean), [])
abbrev zm_X0_setMark : zMd := (yX0_setMark, cX0_setMark, 3, none, [])
abbrev zm_X0_takeOff : zMd := (yX0_takeOff, cX0_takeOff, 7, (some .int), [])
abbrev zm_X0_unify : zMd := (yX0_unify, cX0_unify, 7, (some .boolean), [])
abbrev zm_X0_without : zMd := (yX0_without, cX0_without, 9, (some .int), [])
abbrev zm_X10_chainOf : zMd := (yX10_chainOf, cX10_chainOf, 3, (some .int), [])
abbrev zm_X10_constructorCount : zMd := (yX10_constructorCount, cX10_constructorCount, 1, (some .int), [])
abbrev zm_X10_find : zMd := (yX10_find, cX10_find, 7, (some .int), [])
abbrev zm_X10_fits : zMd := (yX10_fits, cX10_fits, 4, (some .boolean), [])
abbrev zm_X10_fitsPart : zMd := (yX10_fitsPart, cX10_fitsPart, 5, (some .boolean), [])
abbrev zm_X10_forgetFrom : zMd := (yX10_forgetFrom, cX10_forgetFrom, 4, none, [])
abbrev zm_X10_hasConstructor : zMd := (yX10_hasConstructor, cX10_hasConstructor, 2, (some .boolean), [])
abbrev zm_X10_hasParts : zMd := (yX10_hasParts, cX10_hasParts, 5, (some .boolean), [])
abbrev zm_X10_hasTerm : zMd := (yX10_hasTerm, cX10_hasTerm, 2, (some .boolean), [])
abbrev zm_X10_hasType : zMd := (yX10_hasType, cX10_hasType, 2, (some .boolean), [])
abbrev zm_X10_headOf : zMd := (yX10_headOf, cX10_headOf, 2, (some .int), [])
abbrev zm_X10_init : zMd := (yX10_init, cX10_init, 2, none, [])
abbrev zm_X10_make : zMd := (yX10_make, cX10_make, 8, (some .int), [])
abbrev zm_X10_newConstructor : zMd := (yX10_newConstructor, cX10_newConstructor, 4, (some .int), [])
abbrev zm_X10_newType : zMd := (yX10_newType, cX10_newType, 1, (some .int), [])
abbrev zm_X10_part : zMd := (yX10_part, cX10_part, 3, (some .int), [])
abbrev zm_X10_partCount : zMd := (yX10_partCount, cX10_partCount, 2, (some .int), [])
abbrev zm_X10_partType : zMd := (yX10_partType, cX10_partType, 3, (some .int), [])
abbrev zm_X10_size : zMd := (yX10_size, cX10_size, 2, (some .long), [])
abbrev zm_X10_termCount : zMd := (yX10_termCount, cX10_termCount, 1, (some .int), [])
abbrev zm_X10_typeCount : zMd := (yX10_typeCount, cX10_typeCount, 1, (some .int), [])
abbrev zm_X10_typeOfHead : zMd := (yX10_typeOfHead, cX10_typeOfHead, 2, (some .int), [])
abbrev zm_X11_addBuild : zMd := (yX11_addBuild, cX11_addBuild, 11, (some .int), [])
abbrev zm_X11_addCall : zMd := (yX11_addCall, cX11_addCall, 11, (some .int), [])
abbrev zm_X11_addClause : zMd := (yX11_addClause, cX11_addClause, 3, (some .int), [])
abbrev zm_X11_addConstructor : zMd := (yX11_addConstructor, cX11_addConstructor, 4, (some .int), [])
abbrev zm_X11_addGoal : zMd := (yX11_addGoal, cX11_addGoal, 6, (some .int), [])
abbrev zm_X11_addMode : zMd := (yX11_addMode, cX11_addMode, 5, (some .int), [])
abbrev zm_X11_addPredicate : zMd := (yX11_addPredicate, cX11_addPredicate, 4, (some .int), [])
abbrev zm_X11_addSame : zMd := (yX11_addSame, cX11_addSame, 6, (some .int), [])
abbrev zm_X11_addType : zMd := (yX11_addType, cX11_addType, 1, (some .int), [])
abbrev zm_X11_answerAt : zMd := (yX11_answerAt, cX11_answerAt, 3, (some .int), [])
abbrev zm_X11_answersByBreadth : zMd := (yX11_answersByBreadth, cX11_answersByBreadth, 1, (some .int), [])
abbrev zm_X11_areInputsThere : zMd := (yX11_areInputsThere, cX11_areInputsThere, 6, (some .boolean), [])
abbrev zm_X11_areVariables : zMd := (yX11_areVariables, cX11_areVariables, 3, (some .boolean), [])
abbrev zm_X11_ask : zMd := (yX11_ask, cX11_ask, 8, (some .int), [])
abbrev zm_X11_choicePoints : zMd := (yX11_choicePoints, cX11_choicePoints, 1, (some .int), [])
abbrev zm_X11_chosenAt : zMd := (yX11_chosenAt, cX11_chosenAt, 6, (some .int), [])
abbrev zm_X11_compile : zMd := (yX11_compile, cX11_compile, 1, (some .int), [])
abbrev zm_X11_compiledMode : zMd := (yX11_compiledMode, cX11_compiledMode, 4, (some (.object "ModedMill$Mode")), [])
abbrev zm_X11_constructorOf : zMd := (yX11_constructorOf, cX11_constructorOf, 2, (some .int), [])
abbrev zm_X11_deepest : zMd := (yX11_deepest, cX11_deepest, 1, (some .int), [])
abbrev zm_X11_doInputsFit : zMd := (yX11_doInputsFit, cX11_doInputsFit, 8, (some .boolean), [])
abbrev zm_X11_ending : zMd := (yX11_ending, cX11_ending, 1, (some .char), [])
abbrev zm_X11_fault : zMd := (yX11_fault, cX11_fault, 3, (some .char), [])
abbrev zm_X11_found : zMd := (yX11_found, cX11_found, 4, (some .char), [])
abbrev zm_X11_goalAt : zMd := (yX11_goalAt, cX11_goalAt, 6, (some .int), [])
abbrev zm_X11_init : zMd := (yX11_init, cX11_init, 1, none, [])
abbrev zm_X11_isGood : zMd := (yX11_isGood, cX11_isGood, 3, (some .boolean), [])
abbrev zm_X11_isPromise : zMd := (yX11_isPromise, cX11_isPromise, 1, (some .boolean), [])
abbrev zm_X11_isTypeOrNone : zMd := (yX11_isTypeOrNone, cX11_isTypeOrNone, 2, (some .boolean), [])
abbrev zm_X11_multiplicity : zMd := (yX11_multiplicity, cX11_multiplicity, 2, (some .int), [])
abbrev zm_X11_open : zMd := (yX11_open, cX11_open, 2, (some .int), [])
abbrev zm_X11_orderedClause : zMd := (yX11_orderedClause, cX11_orderedClause, 4, (some (.object "ModedMill$Clause")), [])
abbrev zm_X11_partOf : zMd := (yX11_partOf, cX11_partOf, 3, (some .int), [])
abbrev zm_X11_pick : zMd := (yX11_pick, cX11_pick, 4, (some .int), [])
abbrev zm_X11_recordAt : zMd := (yX11_recordAt, cX11_recordAt, 2, (some .char), [])
abbrev zm_X11_recorded : zMd := (yX11_recorded, cX11_recorded, 1, (some .int), [])
abbrev zm_X11_refuseMissingNote : zMd := (yX11_refuseMissingNote, cX11_refuseMissingNote, 2, none, [])
abbrev zm_X11_refuseMissingTerm : zMd := (yX11_refuseMissingTerm, cX11_refuseMissingTerm, 2, none, [])
abbrev zm_X11_refuseUnasked : zMd := (yX11_refuseUnasked, cX11_refuseUnasked, 1, none, [])
abbrev zm_X11_refuseUncompiled : zMd := (yX11_refuseUncompiled, cX11_refuseUncompiled, 1, none, [])
abbrev zm_X11_sizeOf : zMd := (yX11_sizeOf, cX11_sizeOf, 2, (some .long), [])
abbrev zm_X11_steps : zMd := (yX11_steps, cX11_steps, 1, (some .int), [])
abbrev zm_X11_switchOf : zMd := (yX11_switchOf, cX11_switchOf, 4, (some .int), [])
abbrev zm_X11_term : zMd := (yX11_term, cX11_term, 5, (some .int), [])
abbrev zm_X11_terms : zMd := (yX11_terms, cX11_terms, 1, (some .int), [])
abbrev zm_X11_whereAt : zMd := (yX11_whereAt, cX11_whereAt, 2, (some .int), [])
abbrev zm_X1_chosenIn : zMd := (yX1_chosenIn, cX1_chosenIn, 4, (some (.object "ModedMill$Mode")), [])
abbrev zm_X1_clearOrder : zMd := (yX1_clearOrder, cX1_clearOrder, 2, none, [])
abbrev zm_X1_goalCount : zMd := (yX1_goalCount, cX1_goalCount, 1, (some .int), [])
abbrev zm_X1_goalIn : zMd := (yX1_goalIn, cX1_goalIn, 4, (some (.object "ModedMill$Goal")), [])
abbrev zm_X1_goalNumberIn : zMd := (yX1_goalNumberIn, cX1_goalNumberIn, 4, (some .int), [])
abbrev zm_X1_goalNumbered : zMd := (yX1_goalNumbered, cX1_goalNumbered, 2, (some (.object "ModedMill$Goal")), [])
abbrev zm_X1_init : zMd := (yX1_init, cX1_init, 4, none, [])
abbrev zm_X1_knownIn : zMd := (yX1_knownIn, cX1_knownIn, 4, (some .int), [])
abbrev zm_X1_newGoal : zMd := (yX1_newGoal, cX1_newGoal, 6, (some .int), [])
abbrev zm_X1_placeCount : zMd := (yX1_placeCount, cX1_placeCount, 2, (some .int), [])
abbrev zm_X1_slot : zMd := (yX1_slot, cX1_slot, 4, (some .int), [])
abbrev zm_X1_takeNext : zMd := (yX1_takeNext, cX1_takeNext, 7, none, [])
abbrev zm_X1_takesTypes : zMd := (yX1_takesTypes, cX1_takesTypes, 9, (some .boolean), [])
abbrev zm_X1_typeAt : zMd := (yX1_typeAt, cX1_typeAt, 2, (some .int), [])
abbrev zm_X2_begin : zMd := (yX2_begin, cX2_begin, 4, none, [])
abbrev zm_X2_init : zMd := (yX2_init, cX2_init, 3, none, [])
abbrev zm_X2_setValue : zMd := (yX2_setValue, cX2_setValue, 3, none, [])
abbrev zm_X2_valueOf : zMd := (yX2_valueOf, cX2_valueOf, 2, (some .int), [])
abbrev zm_X3_init : zMd := (yX3_init, cX3_init, 7, none, [])
abbrev zm_X3_isBareBehindEnd : zMd := (yX3_isBareBehindEnd, cX3_isBareBehindEnd, 2, (some .boolean), [])
abbrev zm_X3_isCalling : zMd := (yX3_isCalling, cX3_isCalling, 1, (some .boolean), [])
abbrev zm_X3_variableAt : zMd := (yX3_variableAt, cX3_variableAt, 2, (some .int), [])
abbrev zm_X3_variableSet : zMd := (yX3_variableSet, cX3_variableSet, 4, (some .int), [])
abbrev zm_X4_addAnswer : zMd := (yX4_addAnswer, cX4_addAnswer, 6, none, [])
abbrev zm_X4_agrees : zMd := (yX4_agrees, cX4_agrees, 4, (some .boolean), [])
abbrev zm_X4_begin : zMd := (yX4_begin, cX4_begin, 5, none, [])
abbrev zm_X4_beginCall : zMd := (yX4_beginCall, cX4_beginCall, 6, none, [])
abbrev zm_X4_beginGoal : zMd := (yX4_beginGoal, cX4_beginGoal, 7, none, [])
abbrev zm_X4_build : zMd := (yX4_build, cX4_build, 6, none, [])
abbrev zm_X4_comesApart : zMd := (yX4_comesApart, cX4_comesApart, 5, (some .boolean), [])
abbrev zm_X4_enter : zMd := (yX4_enter, cX4_enter, 4, none, [])
abbrev zm_X4_finish : zMd := (yX4_finish, cX4_finish, 2, none, [])
abbrev zm_X4_firstClause : zMd := (yX4_firstClause, cX4_firstClause, 7, (some (.object "ModedMill$Clause")), [])
abbrev zm_X4_frameAt : zMd := (yX4_frameAt, cX4_frameAt, 2, (some (.object "ModedMill$Frame")), [])
abbrev zm_X4_goBack : zMd := (yX4_goBack, cX4_goBack, 6, none, [])
abbrev zm_X4_handsBack : zMd := (yX4_handsBack, cX4_handsBack, 7, (some .boolean), [])
abbrev zm_X4_init : zMd := (yX4_init, cX4_init, 3, none, [])
abbrev zm_X4_leave : zMd := (yX4_leave, cX4_leave, 2, none, [])
abbrev zm_X4_newFrame : zMd := (yX4_newFrame, cX4_newFrame, 4, (some (.object "ModedMill$Frame")), [])
abbrev zm_X4_run : zMd := (yX4_run, cX4_run, 6, (some .boolean), [])
abbrev zm_X4_tryClause : zMd := (yX4_tryClause, cX4_tryClause, 3, none, [])
abbrev zm_X4_undo : zMd := (yX4_undo, cX4_undo, 4, none, [])
abbrev zm_X5_faultSign : zMd := (yX5_faultSign, cX5_faultSign, 1, (some .char), [])
abbrev zm_X5_foundSign : zMd := (yX5_foundSign, cX5_foundSign, 1, (some .char), [])
abbrev zm_X5_init : zMd := (yX5_init, cX5_init, 5, none, [])
abbrev zm_X5_isBroken : zMd := (yX5_isBroken, cX5_isBroken, 3, (some .boolean), [])
abbrev zm_X5_isInput : zMd := (yX5_isInput, cX5_isInput, 2, (some .boolean), [])
abbrev zm_X6_argumentSet : zMd := (yX6_argumentSet, cX6_argumentSet, 1, (some .int), [])
abbrev zm_X6_arity : zMd := (yX6_arity, cX6_arity, 1, (some .int), [])
abbrev zm_X6_clauseAt : zMd := (yX6_clauseAt, cX6_clauseAt, 2, (some (.object "ModedMill$Clause")), [])
abbrev zm_X6_clauseCount : zMd := (yX6_clauseCount, cX6_clauseCount, 1, (some .int), [])
abbrev zm_X6_init : zMd := (yX6_init, cX6_init, 7, none, [])
abbrev zm_X6_modeAt : zMd := (yX6_modeAt, cX6_modeAt, 2, (some (.object "ModedMill$Mode")), [])
abbrev zm_X6_modeCount : zMd := (yX6_modeCount, cX6_modeCount, 1, (some .int), [])
abbrev zm_X6_typeAt : zMd := (yX6_typeAt, cX6_typeAt, 2, (some .int), [])
abbrev zm_X7_analyse : zMd := (yX7_analyse, cX7_analyse, 4, none, [])
abbrev zm_X7_areInputsKnown : zMd := (yX7_areInputsKnown, cX7_areInputsKnown, 4, (some .boolean), [])
abbrev zm_X7_canBeTaken : zMd := (yX7_canBeTaken, cX7_canBeTaken, 4, (some .boolean), [])
abbrev zm_X7_canClauseFail : zMd := (yX7_canClauseFail, cX7_canClauseFail, 8, (some .boolean), [])
abbrev zm_X7_canClauseRepeat : zMd := (yX7_canClauseRepeat, cX7_canClauseRepeat, 6, (some .boolean), [])
abbrev zm_X7_canGoalFail : zMd := (yX7_canGoalFail, cX7_canGoalFail, 4, (some .boolean), [])
abbrev zm_X7_canModeFail : zMd := (yX7_canModeFail, cX7_canModeFail, 4, (some .boolean), [])
abbrev zm_X7_canModeRepeat : zMd := (yX7_canModeRepeat, cX7_canModeRepeat, 3, (some .boolean), [])
abbrev zm_X7_chooseMode : zMd := (yX7_chooseMode, cX7_chooseMode, 7, (some (.object "ModedMill$Mode")), [])
abbrev zm_X7_choosesBad : zMd := (yX7_choosesBad, cX7_choosesBad, 6, (some .boolean), [])
abbrev zm_X7_clashes : zMd := (yX7_clashes, cX7_clashes, 5, (some .boolean), [])
abbrev zm_X7_clauseAt : zMd := (yX7_clauseAt, cX7_clauseAt, 2, (some (.object "ModedMill$Clause")), [])
abbrev zm_X7_clauseCount : zMd := (yX7_clauseCount, cX7_clauseCount, 1, (some .int), [])
abbrev zm_X7_faultCount : zMd := (yX7_faultCount, cX7_faultCount, 3, (some .int), [])
abbrev zm_X7_findSwitch : zMd := (yX7_findSwitch, cX7_findSwitch, 7, (some .int), [])
abbrev zm_X7_init : zMd := (yX7_init, cX7_init, 1, none, [])
abbrev zm_X7_isTypeCovered : zMd := (yX7_isTypeCovered, cX7_isTypeCovered, 5, (some .boolean), [])
abbrev zm_X7_modeAt : zMd := (yX7_modeAt, cX7_modeAt, 4, (some (.object "ModedMill$Mode")), [])
abbrev zm_X7_newClause : zMd := (yX7_newClause, cX7_newClause, 3, (some .int), [])
abbrev zm_X7_newMode : zMd := (yX7_newMode, cX7_newMode, 5, (some .int), [])
abbrev zm_X7_newPredicate : zMd := (yX7_newPredicate, cX7_newPredicate, 4, (some .int), [])
abbrev zm_X7_nextGoal : zMd := (yX7_nextGoal, cX7_nextGoal, 7, (some .int), [])
abbrev zm_X7_predicateAt : zMd := (yX7_predicateAt, cX7_predicateAt, 2, (some (.object "ModedMill$Predicate")), [])
abbrev zm_X7_predicateCount : zMd := (yX7_predicateCount, cX7_predicateCount, 1, (some .int), [])
abbrev zm_X7_putClauseInOrder : zMd := (yX7_putClauseInOrder, cX7_putClauseInOrder, 8, (some .boolean), [])
abbrev zm_X7_putInOrder : zMd := (yX7_putInOrder, cX7_putInOrder, 5, (some .boolean), [])
abbrev zm_X7_spreadFaults : zMd := (yX7_spreadFaults, cX7_spreadFaults, 4, (some .boolean), [])
abbrev zm_X7_spreadFound : zMd := (yX7_spreadFound, cX7_spreadFound, 7, (some .boolean), [])
abbrev zm_X8_addAnswer : zMd := (yX8_addAnswer, cX8_addAnswer, 4, none, [])
abbrev zm_X8_answerCount : zMd := (yX8_answerCount, cX8_answerCount, 1, (some .int), [])
abbrev zm_X8_answerPart : zMd := (yX8_answerPart, cX8_answerPart, 3, (some .int), [])
abbrev zm_X8_begin : zMd := (yX8_begin, cX8_begin, 7, none, [])
abbrev zm_X8_countLike : zMd := (yX8_countLike, cX8_countLike, 6, (some .int), [])
abbrev zm_X8_hasAnswer : zMd := (yX8_hasAnswer, cX8_hasAnswer, 2, (some .boolean), [])
abbrev zm_X8_hasArgument : zMd := (yX8_hasArgument, cX8_hasArgument, 2, (some .boolean), [])
abbrev zm_X8_init : zMd := (yX8_init, cX8_init, 1, none, [])
abbrev zm_X8_inputAt : zMd := (yX8_inputAt, cX8_inputAt, 2, (some .int), [])
abbrev zm_X8_note : zMd := (yX8_note, cX8_note, 4, none, [])
abbrev zm_X8_noteCount : zMd := (yX8_noteCount, cX8_noteCount, 1, (some .int), [])
abbrev zm_X8_notePlace : zMd := (yX8_notePlace, cX8_notePlace, 2, (some .int), [])
abbrev zm_X8_noteSign : zMd := (yX8_noteSign, cX8_noteSign, 2, (some .char), [])
abbrev zm_X9_add : zMd := (yX9_add, cX9_add, 6, (some .int), [])
abbrev zm_X9_count : zMd := (yX9_count, cX9_count, 1, (some .int), [])
abbrev zm_X9_cut : zMd := (yX9_cut, cX9_cut, 2, none, [])
abbrev zm_X9_get : zMd := (yX9_get, cX9_get, 5, (some .int), [])
abbrev zm_X9_init : zMd := (yX9_init, cX9_init, 3, none, [])
abbrev zm_X9_set : zMd := (yX9_set, cX9_set, 6, none, [])
theorem zk_L_7 : Cond.constant "ModedMillLaw" 7 680003 ∈ zWS := zin 4 0 rfl rfl
theorem zk_L_8 : Cond.constant "ModedMillLaw" 8 2147483647 ∈ zWS := zin 4 4 rfl rfl
theorem zk_L_124 : Cond.constantLong "ModedMillLaw" 124 157 ∈ zWS := zin 8 184 rfl rfl
theorem zk_L_126 : Cond.constantLong "ModedMillLaw" 126 31 ∈ zWS := zin 8 185 rfl rfl
theorem zk_X0_65 : Cond.constant "ModedMill$Breadth" 65 1000000 ∈ zWS := zin 8 44 rfl rfl
theorem zk_X4_48 : Cond.constant "ModedMill$Machine" 48 1000000 ∈ zWS := zin 7 129 rfl rfl
theorem zk_X9_15 : Cond.constant "ModedMill$Table" 15 1000000 ∈ zWS := zin 1 59 rfl rfl
theorem zk_ints : Cond.arrayClass .int ∈ zWS := zin 1 70 rfl rfl
theorem zk_longs : Cond.arrayClass .long ∈ zWS := zin 2 206 rfl rfl
theorem zk_oi1 : Cond.instanceMethod Lib.objectInit ∈ zWS := zin 1 45 rfl rfl
theorem zk_oi2 : Cond.code Lib.objectInit ⟨#[0xb1]⟩ 1 none ∈ zWS := zin 1 46 rfl rfl
theorem zk_max1 : Cond.static Lib.Math.max.name ∈ zWS := zin 1 198 rfl rfl
theorem zk_max2 : Cond.code Lib.Math.max.name Lib.Math.max.code 2 (some .int) ∈ zWS := zin 1 199 rfl rfl
theorem zk_min1 : Cond.static Lib.Math.min.name ∈ zWS := zin 1 86 rfl rfl
theorem zk_min2 : Cond.code Lib.Math.min.name Lib.Math.min.code 2 (some .int) ∈ zWS := zin 1 87 rfl rfl
theorem zk_math : Cond.initialized "java/lang/Math" ∈ zWS := zin 1 5 rfl rfl
theorem zo_X0_3 : Cond.methodLink "ModedMill$Breadth" 3 Lib.objectInit ∈ zWS := zin 3 111 rfl rfl
theorem zo_X0_245 : Cond.methodLink "ModedMill$Breadth" 245 Lib.Math.max.name ∈ zWS := zin 8 106 rfl rfl
theorem zo_X0_240 : Cond.methodLink "ModedMill$Breadth" 240 Lib.Math.min.name ∈ zWS := zin 8 132 rfl rfl
theorem zo_X10_3 : Cond.methodLink "ModedMill$Terms" 3 Lib.objectInit ∈ zWS := zin 1 52 rfl rfl
theorem zo_X11_1 : Cond.methodLink "ModedMill" 1 Lib.objectInit ∈ zWS := zin 1 44 rfl rfl
theorem zl_X1_52 : Cond.classLink "ModedMill$Clause" 52 "ModedMill$Goal" ∈ zWS := zin 5 177 rfl rfl
theorem zo_X1_3 : Cond.methodLink "ModedMill$Clause" 3 Lib.objectInit ∈ zWS := zin 5 166 rfl rfl
theorem zl_X1_58 : Cond.classLink "ModedMill$Clause" 58 "ModedMill$Mode" ∈ zWS := zin 5 179 rfl rfl
theorem zo_X2_3 : Cond.methodLink "ModedMill$Frame" 3 Lib.objectInit ∈ zWS := zin 7 42 rfl rfl
theorem zo_X3_3 : Cond.methodLink "ModedMill$Goal" 3 Lib.objectInit ∈ zWS := zin 4 199 rfl rfl
theorem zo_X4_169 : Cond.methodLink "ModedMill$Machine" 169 Lib.Math.max.name ∈ zWS := zin 7 110 rfl rfl
theorem zl_X4_61 : Cond.classLink "ModedMill$Machine" 61 "ModedMill$Frame" ∈ zWS := zin 7 37 rfl rfl
theorem zo_X4_3 : Cond.methodLink "ModedMill$Machine" 3 Lib.objectInit ∈ zWS := zin 3 64 rfl rfl
theorem zo_X5_3 : Cond.methodLink "ModedMill$Mode" 3 Lib.objectInit ∈ zWS := zin 5 102 rfl rfl
theorem zl_X6_67 : Cond.classLink "ModedMill$Predicate" 67 "ModedMill$Clause" ∈ zWS := zin 6 56 rfl rfl
theorem zo_X6_3 : Cond.methodLink "ModedMill$Predicate" 3 Lib.objectInit ∈ zWS := zin 4 185 rfl rfl
theorem zl_X6_65 : Cond.classLink "ModedMill$Predicate" 65 "ModedMill$Mode" ∈ zWS := zin 6 89 rfl rfl
theorem zl_X7_51 : Cond.classLink "ModedMill$Program" 51 "ModedMill$Mode" ∈ zWS := zin 5 97 rfl rfl
theorem zl_X7_34 : Cond.classLink "ModedMill$Program" 34 "ModedMill$Clause" ∈ zWS := zin 5 161 rfl rfl
theorem zo_X7_3 : Cond.methodLink "ModedMill$Program" 3 Lib.objectInit ∈ zWS := zin 2 212 rfl rfl
theorem zo_X8_3 : Cond.methodLink "ModedMill$Report" 3 Lib.objectInit ∈ zWS := zin 3 14 rfl rfl
theorem zo_X9_3 : Cond.methodLink "ModedMill$Table" 3 Lib.objectInit ∈ zWS := zin 1 58 rfl rfl
theorem zc_L_9 : zCV "ModedMillLaw" 9 zm_X11_addType 0 := ⟨⟨rfl, zin 1 1 rfl rfl, zin 4 32 rfl rfl, by decide +kernel, by decide⟩, zin 4 29 rfl rfl, zin 4 30 rfl rfl, zin 4 31 rfl rfl⟩
theorem zc_L_15 : zCV "ModedMillLaw" 15 zm_X11_addConstructor 3 := ⟨⟨rfl, zin 1 1 rfl rfl, zin 4 59 rfl rfl, by decide +kernel, by decide⟩, zin 4 56 rfl rfl, zin 4 57 rfl rfl, zin 4 58 rfl rfl⟩
theorem zc_L_19 : zCV "ModedMillLaw" 19 zm_X11_term 3 := ⟨⟨rfl, zin 1 1 rfl rfl, zin 4 84 rfl rfl, by decide +kernel, by decide⟩, zin 4 81 rfl rfl, zin 4 82 rfl rfl, zin 4 83 rfl rfl⟩
theorem zc_L_22 : zCV "ModedMillLaw" 22 zm_X11_constructorOf 1 := ⟨⟨rfl, zin 1 1 rfl rfl, zin 4 138 rfl rfl, by decide +kernel, by decide⟩, zin 4 135 rfl rfl, zin 4 136 rfl rfl, zin 4 137 rfl rfl⟩
theorem zc_L_26 : zCV "ModedMillLaw" 26 zm_X11_partOf 2 := ⟨⟨rfl, zin 1 1 rfl rfl, zin 4 143 rfl rfl, by decide +kernel, by decide⟩, zin 4 140 rfl rfl, zin 4 141 rfl rfl, zin 4 142 rfl rfl⟩
theorem zc_L_30 : zCV "ModedMillLaw" 30 zm_X11_addPredicate 3 := ⟨⟨rfl, zin 1 1 rfl rfl, zin 4 167 rfl rfl, by decide +kernel, by decide⟩, zin 4 164 rfl rfl, zin 4 165 rfl rfl, zin 4 166 rfl rfl⟩
theorem zc_L_33 : zCV "ModedMillLaw" 33 zm_X11_addMode 3 := ⟨⟨rfl, zin 1 1 rfl rfl, zin 5 61 rfl rfl, by decide +kernel, by decide⟩, zin 5 58 rfl rfl, zin 5 59 rfl rfl, zin 5 60 rfl rfl⟩
theorem zc_L_37 : zCV "ModedMillLaw" 37 zm_X11_addClause 1 := ⟨⟨rfl, zin 1 1 rfl rfl, zin 5 152 rfl rfl, by decide +kernel, by decide⟩, zin 5 149 rfl rfl, zin 5 150 rfl rfl, zin 5 151 rfl rfl⟩
theorem zc_L_40 : zCV "ModedMillLaw" 40 zm_X11_addBuild 5 := ⟨⟨rfl, zin 1 1 rfl rfl, zin 5 215 rfl rfl, by decide +kernel, by decide⟩, zin 5 212 rfl rfl, zin 5 213 rfl rfl, zin 5 214 rfl rfl⟩
theorem zc_L_44 : zCV "ModedMillLaw" 44 zm_X11_addSame 3 := ⟨⟨rfl, zin 1 1 rfl rfl, zin 6 24 rfl rfl, by decide +kernel, by decide⟩, zin 6 21 rfl rfl, zin 6 22 rfl rfl, zin 6 23 rfl rfl⟩
theorem zc_L_47 : zCV "ModedMillLaw" 47 zm_X11_addCall 6 := ⟨⟨rfl, zin 1 1 rfl rfl, zin 6 29 rfl rfl, by decide +kernel, by decide⟩, zin 6 26 rfl rfl, zin 6 27 rfl rfl, zin 6 28 rfl rfl⟩
theorem zc_L_51 : zCV "ModedMillLaw" 51 zm_X11_compile 0 := ⟨⟨rfl, zin 1 1 rfl rfl, zin 6 38 rfl rfl, by decide +kernel, by decide⟩, zin 6 35 rfl rfl, zin 6 36 rfl rfl, zin 6 37 rfl rfl⟩
theorem zc_L_54 : zCV "ModedMillLaw" 54 zm_X11_open 0 := ⟨⟨rfl, zin 1 1 rfl rfl, zin 6 185 rfl rfl, by decide +kernel, by decide⟩, zin 6 182 rfl rfl, zin 6 183 rfl rfl, zin 6 184 rfl rfl⟩
theorem zc_L_57 : zCV "ModedMillLaw" 57 zm_X11_fault 2 := ⟨⟨rfl, zin 1 1 rfl rfl, zin 6 193 rfl rfl, by decide +kernel, by decide⟩, zin 6 190 rfl rfl, zin 6 191 rfl rfl, zin 6 192 rfl rfl⟩
theorem zc_L_61 : zCV "ModedMillLaw" 61 zm_X11_isGood 2 := ⟨⟨rfl, zin 1 1 rfl rfl, zin 6 206 rfl rfl, by decide +kernel, by decide⟩, zin 6 203 rfl rfl, zin 6 204 rfl rfl, zin 6 205 rfl rfl⟩
theorem zc_L_65 : zCV "ModedMillLaw" 65 zm_X11_found 2 := ⟨⟨rfl, zin 1 1 rfl rfl, zin 6 210 rfl rfl, by decide +kernel, by decide⟩, zin 6 207 rfl rfl, zin 6 208 rfl rfl, zin 6 209 rfl rfl⟩
theorem zc_L_68 : zCV "ModedMillLaw" 68 zm_X11_switchOf 2 := ⟨⟨rfl, zin 1 1 rfl rfl, zin 6 218 rfl rfl, by decide +kernel, by decide⟩, zin 6 215 rfl rfl, zin 6 216 rfl rfl, zin 6 217 rfl rfl⟩
theorem zc_L_71 : zCV "ModedMillLaw" 71 zm_X11_goalAt 3 := ⟨⟨rfl, zin 1 1 rfl rfl, zin 6 222 rfl rfl, by decide +kernel, by decide⟩, zin 6 219 rfl rfl, zin 6 220 rfl rfl, zin 6 221 rfl rfl⟩
theorem zc_L_74 : zCV "ModedMillLaw" 74 zm_X11_chosenAt 3 := ⟨⟨rfl, zin 1 1 rfl rfl, zin 6 235 rfl rfl, by decide +kernel, by decide⟩, zin 6 232 rfl rfl, zin 6 233 rfl rfl, zin 6 234 rfl rfl⟩
theorem zc_L_77 : zCV "ModedMillLaw" 77 zm_X11_ask 5 := ⟨⟨rfl, zin 1 1 rfl rfl, zin 7 0 rfl rfl, by decide +kernel, by decide⟩, zin 6 237 rfl rfl, zin 6 238 rfl rfl, zin 6 239 rfl rfl⟩
theorem zc_L_80 : zCV "ModedMillLaw" 80 zm_X11_ending 0 := ⟨⟨rfl, zin 1 1 rfl rfl, zin 7 221 rfl rfl, by decide +kernel, by decide⟩, zin 7 218 rfl rfl, zin 7 219 rfl rfl, zin 7 220 rfl rfl⟩
theorem zc_L_84 : zCV "ModedMillLaw" 84 zm_X11_answerAt 2 := ⟨⟨rfl, zin 1 1 rfl rfl, zin 7 229 rfl rfl, by decide +kernel, by decide⟩, zin 7 226 rfl rfl, zin 7 227 rfl rfl, zin 7 228 rfl rfl⟩
theorem zc_L_87 : zCV "ModedMillLaw" 87 zm_X11_multiplicity 1 := ⟨⟨rfl, zin 1 1 rfl rfl, zin 8 6 rfl rfl, by decide +kernel, by decide⟩, zin 8 3 rfl rfl, zin 8 4 rfl rfl, zin 8 5 rfl rfl⟩
theorem zc_L_90 : zCV "ModedMillLaw" 90 zm_X11_answersByBreadth 0 := ⟨⟨rfl, zin 1 1 rfl rfl, zin 8 14 rfl rfl, by decide +kernel, by decide⟩, zin 8 11 rfl rfl, zin 8 12 rfl rfl, zin 8 13 rfl rfl⟩
theorem zc_L_93 : zCV "ModedMillLaw" 93 zm_X11_steps 0 := ⟨⟨rfl, zin 1 1 rfl rfl, zin 8 144 rfl rfl, by decide +kernel, by decide⟩, zin 8 141 rfl rfl, zin 8 142 rfl rfl, zin 8 143 rfl rfl⟩
theorem zc_L_96 : zCV "ModedMillLaw" 96 zm_X11_choicePoints 0 := ⟨⟨rfl, zin 1 1 rfl rfl, zin 8 148 rfl rfl, by decide +kernel, by decide⟩, zin 8 145 rfl rfl, zin 8 146 rfl rfl, zin 8 147 rfl rfl⟩
theorem zc_L_99 : zCV "ModedMillLaw" 99 zm_X11_deepest 0 := ⟨⟨rfl, zin 1 1 rfl rfl, zin 8 152 rfl rfl, by decide +kernel, by decide⟩, zin 8 149 rfl rfl, zin 8 150 rfl rfl, zin 8 151 rfl rfl⟩
theorem zc_L_102 : zCV "ModedMillLaw" 102 zm_X11_recorded 0 := ⟨⟨rfl, zin 1 1 rfl rfl, zin 8 156 rfl rfl, by decide +kernel, by decide⟩, zin 8 153 rfl rfl, zin 8 154 rfl rfl, zin 8 155 rfl rfl⟩
theorem zc_L_105 : zCV "ModedMillLaw" 105 zm_X11_recordAt 1 := ⟨⟨rfl, zin 1 1 rfl rfl, zin 8 164 rfl rfl, by decide +kernel, by decide⟩, zin 8 161 rfl rfl, zin 8 162 rfl rfl, zin 8 163 rfl rfl⟩
theorem zc_L_109 : zCV "ModedMillLaw" 109 zm_X11_whereAt 1 := ⟨⟨rfl, zin 1 1 rfl rfl, zin 8 176 rfl rfl, by decide +kernel, by decide⟩, zin 8 173 rfl rfl, zin 8 174 rfl rfl, zin 8 175 rfl rfl⟩
theorem zn_L_10 : zNI "ModedMillLaw" 10 11 9 [zN, zN, zN, zN, zN, zN, zI 0, zI 0, zJ 0] := ⟨RX11, TX11, tyX11, rfl, by decide, zu_X11, tyX11_ok, zin 1 39 rfl rfl, zin 1 40 rfl rfl, zin 1 1 rfl rfl, fun j hj => by rcases (show j = 0 ∨ j = 1 ∨ j = 2 ∨ j = 3 ∨ j = 4 ∨ j = 5 ∨ j = 6 ∨ j = 7 ∨ j = 8 by omega) with rfl | rfl | rfl | rfl | rfl | rfl | rfl | rfl | rfl <;> rfl, zfit_all (by decide)⟩
theorem zc_L_137 : zCC "ModedMillLaw" 137 zm_X11_init 0 := ⟨⟨rfl, zin 1 1 rfl rfl, zin 1 43 rfl rfl, by decide +kernel, by decide⟩, zin 1 41 rfl rfl, zin 1 42 rfl rfl, rfl, rfl⟩
theorem zc_L_138 : zCS "ModedMillLaw" 138 zm_L_cell 2 := ⟨⟨rfl, zin 1 0 rfl rfl, zin 3 239 rfl rfl, by decide +kernel, by decide⟩, zin 3 237 rfl rfl, zin 3 238 rfl rfl⟩
theorem zc_L_142 : zCS "ModedMillLaw" 142 zm_L_low 2 := ⟨⟨rfl, zin 1 0 rfl rfl, zin 4 3 rfl rfl, by decide +kernel, by decide⟩, zin 4 1 rfl rfl, zin 4 2 rfl rfl⟩
theorem zc_L_145 : zCS "ModedMillLaw" 145 zm_L_state 1 := ⟨⟨rfl, zin 1 0 rfl rfl, zin 8 183 rfl rfl, by decide +kernel, by decide⟩, zin 8 181 rfl rfl, zin 8 182 rfl rfl⟩
theorem zc_L_134 : zCV "ModedMillLaw" 134 zm_X11_terms 0 := ⟨⟨rfl, zin 1 1 rfl rfl, zin 3 232 rfl rfl, by decide +kernel, by decide⟩, zin 3 229 rfl rfl, zin 3 230 rfl rfl, zin 3 231 rfl rfl⟩
theorem zc_L_149 : zCV "ModedMillLaw" 149 zm_X11_sizeOf 1 := ⟨⟨rfl, zin 1 1 rfl rfl, zin 3 191 rfl rfl, by decide +kernel, by decide⟩, zin 3 188 rfl rfl, zin 3 189 rfl rfl, zin 3 190 rfl rfl⟩
theorem zc_L_153 : zCS "ModedMillLaw" 153 zm_L_holds 4 := ⟨⟨rfl, zin 1 0 rfl rfl, zin 8 188 rfl rfl, by decide +kernel, by decide⟩, zin 8 186 rfl rfl, zin 8 187 rfl rfl⟩
theorem zf_X0_37 : zFI "ModedMill$Breadth" 37 0 7 true (.object "ModedMill$Table") := ⟨RX0, TX0, 15, tyX0, rfl, by decide, zu_X0, tyX0_ok, nmX0, by decide, Or.inl (zin 3 121 rfl rfl), rfl, rfl⟩
theorem zc_X0_113 : zCV "ModedMill$Breadth" 113 zm_X9_add 3 := ⟨⟨rfl, zin 1 3 rfl rfl, zin 1 74 rfl rfl, by decide +kernel, by decide⟩, zin 8 27 rfl rfl, zin 1 72 rfl rfl, zin 1 73 rfl rfl⟩
theorem zc_X0_142 : zCV "ModedMill$Breadth" 142 zm_X9_set 3 := ⟨⟨rfl, zin 1 3 rfl rfl, zin 2 189 rfl rfl, by decide +kernel, by decide⟩, zin 8 43 rfl rfl, zin 2 187 rfl rfl, zin 2 188 rfl rfl⟩
theorem zf_X0_24 : zFI "ModedMill$Breadth" 24 0 2 true (.object "ModedMill$Table") := ⟨RX0, TX0, 15, tyX0, rfl, by decide, zu_X0, tyX0_ok, nmX0, by decide, Or.inl (zin 3 116 rfl rfl), rfl, rfl⟩
theorem zc_X0_92 : zCV "ModedMill$Breadth" 92 zm_X9_cut 1 := ⟨⟨rfl, zin 1 3 rfl rfl, zin 7 18 rfl rfl, by decide +kernel, by decide⟩, zin 8 23 rfl rfl, zin 7 16 rfl rfl, zin 7 17 rfl rfl⟩
theorem zf_X0_28 : zFI "ModedMill$Breadth" 28 0 4 true (.object "ModedMill$Table") := ⟨RX0, TX0, 15, tyX0, rfl, by decide, zu_X0, tyX0_ok, nmX0, by decide, Or.inl (zin 3 118 rfl rfl), rfl, rfl⟩
theorem zf_X0_31 : zFI "ModedMill$Breadth" 31 0 5 true (.object "ModedMill$Table") := ⟨RX0, TX0, 15, tyX0, rfl, by decide, zu_X0, tyX0_ok, nmX0, by decide, Or.inl (zin 3 119 rfl rfl), rfl, rfl⟩
theorem zf_X0_34 : zFI "ModedMill$Breadth" 34 0 6 true (.object "ModedMill$Table") := ⟨RX0, TX0, 15, tyX0, rfl, by decide, zu_X0, tyX0_ok, nmX0, by decide, Or.inl (zin 3 120 rfl rfl), rfl, rfl⟩
theorem zf_X0_40 : zFI "ModedMill$Breadth" 40 0 9 true (.object "ModedMill$Table") := ⟨RX0, TX0, 15, tyX0, rfl, by decide, zu_X0, tyX0_ok, nmX0, by decide, Or.inl (zin 3 123 rfl rfl), rfl, rfl⟩
theorem zf_X0_43 : zFI "ModedMill$Breadth" 43 0 10 true (.object "ModedMill$Table") := ⟨RX0, TX0, 15, tyX0, rfl, by decide, zu_X0, tyX0_ok, nmX0, by decide, Or.inl (zin 3 124 rfl rfl), rfl, rfl⟩
theorem zf_X0_66 : zFI "ModedMill$Breadth" 66 0 8 false .int := ⟨RX0, TX0, 15, tyX0, rfl, by decide, zu_X0, tyX0_ok, nmX0, by decide, Or.inl (zin 3 122 rfl rfl), rfl, rfl⟩
theorem zf_X0_78 : zFI "ModedMill$Breadth" 78 0 12 false .int := ⟨RX0, TX0, 15, tyX0, rfl, by decide, zu_X0, tyX0_ok, nmX0, by decide, Or.inl (zin 3 126 rfl rfl), rfl, rfl⟩
theorem zf_X0_95 : zFI "ModedMill$Breadth" 95 0 13 false .int := ⟨RX0, TX0, 15, tyX0, rfl, by decide, zu_X0, tyX0_ok, nmX0, by decide, Or.inl (zin 3 127 rfl rfl), rfl, rfl⟩
theorem zf_X0_98 : zFI "ModedMill$Breadth" 98 0 14 false .int := ⟨RX0, TX0, 15, tyX0, rfl, by decide, zu_X0, tyX0_ok, nmX0, by decide, Or.inl (zin 3 128 rfl rfl), rfl, rfl⟩
theorem zf_X0_15 : zFI "ModedMill$Breadth" 15 0 1 true (.object "ModedMill$Terms") := ⟨RX0, TX0, 15, tyX0, rfl, by decide, zu_X0, tyX0_ok, nmX0, by decide, Or.inl (zin 3 115 rfl rfl), rfl, rfl⟩
theorem zc_X0_101 : zCV "ModedMill$Breadth" 101 zm_X10_termCount 0 := ⟨⟨rfl, zin 1 2 rfl rfl, zin 3 236 rfl rfl, by decide +kernel, by decide⟩, zin 8 24 rfl rfl, zin 3 234 rfl rfl, zin 3 235 rfl rfl⟩
theorem zc_X0_106 : zCV "ModedMill$Breadth" 106 zm_X10_headOf 1 := ⟨⟨rfl, zin 1 2 rfl rfl, zin 4 117 rfl rfl, by decide +kernel, by decide⟩, zin 8 25 rfl rfl, zin 4 115 rfl rfl, zin 4 116 rfl rfl⟩
theorem zc_X0_110 : zCV "ModedMill$Breadth" 110 zm_X10_part 2 := ⟨⟨rfl, zin 1 2 rfl rfl, zin 4 163 rfl rfl, by decide +kernel, by decide⟩, zin 8 26 rfl rfl, zin 4 161 rfl rfl, zin 4 162 rfl rfl⟩
theorem zc_X0_70 : zCV "ModedMill$Breadth" 70 zm_X9_count 0 := ⟨⟨rfl, zin 1 3 rfl rfl, zin 3 203 rfl rfl, by decide +kernel, by decide⟩, zin 8 28 rfl rfl, zin 3 201 rfl rfl, zin 3 202 rfl rfl⟩
theorem zf_X0_117 : zFI "ModedMill$Breadth" 117 0 3 false .int := ⟨RX0, TX0, 15, tyX0, rfl, by decide, zu_X0, tyX0_ok, nmX0, by decide, Or.inl (zin 3 117 rfl rfl), rfl, rfl⟩
theorem zc_X0_120 : zCV "ModedMill$Breadth" 120 zm_X6_arity 0 := ⟨⟨rfl, zin 1 32 rfl rfl, zin 6 33 rfl rfl, by decide +kernel, by decide⟩, zin 8 29 rfl rfl, zin 6 31 rfl rfl, zin 6 32 rfl rfl⟩
theorem zc_X0_125 : zCV "ModedMill$Breadth" 125 zm_X8_inputAt 1 := ⟨⟨rfl, zin 1 26 rfl rfl, zin 7 95 rfl rfl, by decide +kernel, by decide⟩, zin 8 30 rfl rfl, zin 7 93 rfl rfl, zin 7 94 rfl rfl⟩
theorem zc_X0_128 : zCV "ModedMill$Breadth" 128 zm_X0_newUnknown 0 := ⟨⟨rfl, zin 1 28 rfl rfl, zin 8 34 rfl rfl, by decide +kernel, by decide⟩, zin 8 31 rfl rfl, zin 8 33 rfl rfl, zin 0 41 rfl rfl⟩
theorem zf_X0_131 : zFI "ModedMill$Breadth" 131 6 0 true .int := ⟨RX6, TX6, 5, tyX6, rfl, by decide, zu_X6, tyX6_ok, nmX6, by decide, Or.inr ⟨"ModedMill", (lw_ch_in 4 _ (List.mem_of_getElem? (i := 224) rfl))⟩, rfl, rfl⟩
theorem zc_X0_134 : zCV "ModedMill$Breadth" 134 zm_X0_putQuestion 3 := ⟨⟨rfl, zin 1 28 rfl rfl, zin 8 38 rfl rfl, by decide +kernel, by decide⟩, zin 8 35 rfl rfl, zin 8 37 rfl rfl, zin 0 42 rfl rfl⟩
theorem zf_X0_184 : zFI "ModedMill$Breadth" 184 3 2 true .int := ⟨RX3, TX3, 4, tyX3, rfl, by decide, zu_X3, tyX3_ok, nmX3, by decide, Or.inr ⟨"ModedMill", (lw_ch_in 4 _ (List.mem_of_getElem? (i := 210) rfl))⟩, rfl, rfl⟩
theorem zc_X0_186 : zCV "ModedMill$Breadth" 186 zm_X0_nodeOf 3 := ⟨⟨rfl, zin 1 28 rfl rfl, zin 8 69 rfl rfl, by decide +kernel, by decide⟩, zin 8 66 rfl rfl, zin 8 68 rfl rfl, zin 0 48 rfl rfl⟩
theorem zf_X0_173 : zFI "ModedMill$Breadth" 173 3 1 true .int := ⟨RX3, TX3, 4, tyX3, rfl, by decide, zu_X3, tyX3_ok, nmX3, by decide, Or.inr ⟨"ModedMill", (lw_ch_in 4 _ (List.mem_of_getElem? (i := 206) rfl))⟩, rfl, rfl⟩
theorem zc_X0_84 : zCV "ModedMill$Breadth" 84 zm_X9_get 2 := ⟨⟨rfl, zin 1 3 rfl rfl, zin 4 100 rfl rfl, by decide +kernel, by decide⟩, zin 8 49 rfl rfl, zin 4 98 rfl rfl, zin 4 99 rfl rfl⟩
theorem zc_X0_225 : zCV "ModedMill$Breadth" 225 zm_X0_bind 3 := ⟨⟨rfl, zin 1 28 rfl rfl, zin 8 89 rfl rfl, by decide +kernel, by decide⟩, zin 8 86 rfl rfl, zin 8 88 rfl rfl, zin 0 52 rfl rfl⟩
theorem zf_X0_49 : zFI "ModedMill$Breadth" 49 8 0 false (.object "ModedMill$Mode") := ⟨RX8, TX8, 10, tyX8, rfl, by decide, zu_X8, tyX8_ok, nmX8, by decide, Or.inr ⟨"ModedMill", (lw_ch_in 3 _ (List.mem_of_getElem? (i := 18) rfl))⟩, rfl, rfl⟩
theorem zf_X0_55 : zFI "ModedMill$Breadth" 55 5 0 true (.object "ModedMill$Predicate") := ⟨RX5, TX5, 9, tyX5, rfl, by decide, zu_X5, tyX5_ok, nmX5, by decide, Or.inr ⟨"ModedMill", (lw_ch_in 5 _ (List.mem_of_getElem? (i := 104) rfl))⟩, rfl, rfl⟩
theorem zc_X0_61 : zCV "ModedMill$Breadth" 61 zm_X0_begin 2 := ⟨⟨rfl, zin 1 28 rfl rfl, zin 8 22 rfl rfl, by decide +kernel, by decide⟩, zin 8 19 rfl rfl, zin 8 21 rfl rfl, zin 0 40 rfl rfl⟩
theorem zc_X0_74 : zCV "ModedMill$Breadth" 74 zm_X0_endDenied 1 := ⟨⟨rfl, zin 1 28 rfl rfl, zin 8 48 rfl rfl, by decide +kernel, by decide⟩, zin 8 45 rfl rfl, zin 8 47 rfl rfl, zin 0 44 rfl rfl⟩
theorem zc_X0_81 : zCV "ModedMill$Breadth" 81 zm_X0_takeOff 0 := ⟨⟨rfl, zin 1 28 rfl rfl, zin 8 53 rfl rfl, by decide +kernel, by decide⟩, zin 8 50 rfl rfl, zin 8 52 rfl rfl, zin 0 45 rfl rfl⟩
theorem zc_X0_88 : zCV "ModedMill$Breadth" 88 zm_X0_resolve 1 := ⟨⟨rfl, zin 1 28 rfl rfl, zin 8 77 rfl rfl, by decide +kernel, by decide⟩, zin 8 74 rfl rfl, zin 8 76 rfl rfl, zin 0 49 rfl rfl⟩
theorem zc_X0_138 : zCV "ModedMill$Breadth" 138 zm_X0_addToRow 5 := ⟨⟨rfl, zin 1 28 rfl rfl, zin 8 42 rfl rfl, by decide +kernel, by decide⟩, zin 8 39 rfl rfl, zin 8 41 rfl rfl, zin 0 43 rfl rfl⟩
theorem zc_X0_170 : zCV "ModedMill$Breadth" 170 zm_X0_goalOf 1 := ⟨⟨rfl, zin 1 28 rfl rfl, zin 8 57 rfl rfl, by decide +kernel, by decide⟩, zin 8 54 rfl rfl, zin 8 56 rfl rfl, zin 0 46 rfl rfl⟩
theorem zf_X0_206 : zFI "ModedMill$Breadth" 206 3 0 true .int := ⟨RX3, TX3, 4, tyX3, rfl, by decide, zu_X3, tyX3_ok, nmX3, by decide, Or.inr ⟨"ModedMill", (lw_ch_in 4 _ (List.mem_of_getElem? (i := 201) rfl))⟩, rfl, rfl⟩
theorem zc_X0_233 : zCV "ModedMill$Breadth" 233 zm_X0_isGround 2 := ⟨⟨rfl, zin 1 28 rfl rfl, zin 8 97 rfl rfl, by decide +kernel, by decide⟩, zin 8 94 rfl rfl, zin 8 96 rfl rfl, zin 0 54 rfl rfl⟩
theorem zf_X0_9 : zFI "ModedMill$Breadth" 9 0 0 true (.object "ModedMill$Program") := ⟨RX0, TX0, 15, tyX0, rfl, by decide, zu_X0, tyX0_ok, nmX0, by decide, Or.inl (zin 3 114 rfl rfl), rfl, rfl⟩
theorem zc_X0_145 : zCV "ModedMill$Breadth" 145 zm_X7_predicateAt 1 := ⟨⟨rfl, zin 1 22 rfl rfl, zin 5 65 rfl rfl, by decide +kernel, by decide⟩, zin 8 58 rfl rfl, zin 5 63 rfl rfl, zin 5 64 rfl rfl⟩
theorem zf_X0_151 : zFI "ModedMill$Breadth" 151 6 4 true (.object "ModedMill$Goal") := ⟨RX6, TX6, 5, tyX6, rfl, by decide, zu_X6, tyX6_ok, nmX6, by decide, Or.inr ⟨"ModedMill", (lw_ch_in 4 _ (List.mem_of_getElem? (i := 232) rfl))⟩, rfl, rfl⟩
theorem zc_X0_155 : zCV "ModedMill$Breadth" 155 zm_X7_clauseAt 1 := ⟨⟨rfl, zin 1 22 rfl rfl, zin 5 219 rfl rfl, by decide +kernel, by decide⟩, zin 8 59 rfl rfl, zin 5 217 rfl rfl, zin 5 218 rfl rfl⟩
theorem zc_X0_159 : zCV "ModedMill$Breadth" 159 zm_X1_goalNumbered 1 := ⟨⟨rfl, zin 1 36 rfl rfl, zin 6 73 rfl rfl, by decide +kernel, by decide⟩, zin 8 60 rfl rfl, zin 6 71 rfl rfl, zin 6 72 rfl rfl⟩
theorem zn_X0_19 : zNI "ModedMill$Breadth" 19 9 3 [zI 0, zN, zI 0] := ⟨RX9, TX9, tyX9, rfl, by decide, zu_X9, tyX9_ok, zin 3 112 rfl rfl, zin 1 54 rfl rfl, zin 1 3 rfl rfl, fun j hj => by rcases (show j = 0 ∨ j = 1 ∨ j = 2 by omega) with rfl | rfl | rfl <;> rfl, zfit_all (by decide)⟩
theorem zc_X0_21 : zCC "ModedMill$Breadth" 21 zm_X9_init 2 := ⟨⟨rfl, zin 1 3 rfl rfl, zin 1 57 rfl rfl, by decide +kernel, by decide⟩, zin 3 113 rfl rfl, zin 1 56 rfl rfl, rfl, rfl⟩
theorem zf_X0_46 : zFI "ModedMill$Breadth" 46 0 11 true (.object "ModedMill$Table") := ⟨RX0, TX0, 15, tyX0, rfl, by decide, zu_X0, tyX0_ok, nmX0, by decide, Or.inl (zin 3 125 rfl rfl), rfl, rfl⟩
theorem zc_X0_237 : zCV "ModedMill$Breadth" 237 zm_X0_find 1 := ⟨⟨rfl, zin 1 28 rfl rfl, zin 8 101 rfl rfl, by decide +kernel, by decide⟩, zin 8 98 rfl rfl, zin 8 100 rfl rfl, zin 0 55 rfl rfl⟩
theorem zc_X0_257 : zCV "ModedMill$Breadth" 257 zm_X0_scan 1 := ⟨⟨rfl, zin 1 28 rfl rfl, zin 8 110 rfl rfl, by decide +kernel, by decide⟩, zin 8 107 rfl rfl, zin 8 109 rfl rfl, zin 0 57 rfl rfl⟩
theorem zc_X0_254 : zCV "ModedMill$Breadth" 254 zm_X0_markOf 1 := ⟨⟨rfl, zin 1 28 rfl rfl, zin 8 105 rfl rfl, by decide +kernel, by decide⟩, zin 8 102 rfl rfl, zin 8 104 rfl rfl, zin 0 56 rfl rfl⟩
theorem zc_X0_251 : zCV "ModedMill$Breadth" 251 zm_X10_partCount 1 := ⟨⟨rfl, zin 1 2 rfl rfl, zin 4 96 rfl rfl, by decide +kernel, by decide⟩, zin 8 111 rfl rfl, zin 4 94 rfl rfl, zin 4 95 rfl rfl⟩
theorem zc_X0_165 : zCV "ModedMill$Breadth" 165 zm_X3_variableAt 1 := ⟨⟨rfl, zin 1 33 rfl rfl, zin 5 238 rfl rfl, by decide +kernel, by decide⟩, zin 8 70 rfl rfl, zin 5 236 rfl rfl, zin 5 237 rfl rfl⟩
theorem zc_X0_190 : zCV "ModedMill$Breadth" 190 zm_X1_typeAt 1 := ⟨⟨rfl, zin 1 36 rfl rfl, zin 6 8 rfl rfl, by decide +kernel, by decide⟩, zin 8 71 rfl rfl, zin 6 6 rfl rfl, zin 6 7 rfl rfl⟩
theorem zc_X0_193 : zCV "ModedMill$Breadth" 193 zm_X1_goalCount 0 := ⟨⟨rfl, zin 1 36 rfl rfl, zin 6 13 rfl rfl, by decide +kernel, by decide⟩, zin 8 72 rfl rfl, zin 6 11 rfl rfl, zin 6 12 rfl rfl⟩
theorem zf_X0_196 : zFI "ModedMill$Breadth" 196 1 0 true .int := ⟨RX1, TX1, 9, tyX1, rfl, by decide, zu_X1, tyX1_ok, nmX1, by decide, Or.inr ⟨"ModedMill", (lw_ch_in 5 _ (List.mem_of_getElem? (i := 183) rfl))⟩, rfl, rfl⟩
theorem zc_X0_197 : zCV "ModedMill$Breadth" 197 zm_X0_restore 1 := ⟨⟨rfl, zin 1 28 rfl rfl, zin 8 81 rfl rfl, by decide +kernel, by decide⟩, zin 8 78 rfl rfl, zin 8 80 rfl rfl, zin 0 50 rfl rfl⟩
theorem zc_X0_200 : zCV "ModedMill$Breadth" 200 zm_X0_firstToResolve 1 := ⟨⟨rfl, zin 1 28 rfl rfl, zin 8 93 rfl rfl, by decide +kernel, by decide⟩, zin 8 90 rfl rfl, zin 8 92 rfl rfl, zin 0 53 rfl rfl⟩
theorem zc_X0_203 : zCV "ModedMill$Breadth" 203 zm_X0_without 2 := ⟨⟨rfl, zin 1 28 rfl rfl, zin 8 119 rfl rfl, by decide +kernel, by decide⟩, zin 8 116 rfl rfl, zin 8 118 rfl rfl, zin 0 59 rfl rfl⟩
theorem zc_X0_181 : zCV "ModedMill$Breadth" 181 zm_X6_clauseCount 0 := ⟨⟨rfl, zin 1 32 rfl rfl, zin 6 50 rfl rfl, by decide +kernel, by decide⟩, zin 8 73 rfl rfl, zin 6 48 rfl rfl, zin 6 49 rfl rfl⟩
theorem zc_X0_209 : zCV "ModedMill$Breadth" 209 zm_X0_beginDenied 4 := ⟨⟨rfl, zin 1 28 rfl rfl, zin 8 123 rfl rfl, by decide +kernel, by decide⟩, zin 8 120 rfl rfl, zin 8 122 rfl rfl, zin 0 60 rfl rfl⟩
theorem zc_X0_213 : zCV "ModedMill$Breadth" 213 zm_X0_rightSide 2 := ⟨⟨rfl, zin 1 28 rfl rfl, zin 8 127 rfl rfl, by decide +kernel, by decide⟩, zin 8 124 rfl rfl, zin 8 126 rfl rfl, zin 0 61 rfl rfl⟩
theorem zc_X0_217 : zCV "ModedMill$Breadth" 217 zm_X0_unify 2 := ⟨⟨rfl, zin 1 28 rfl rfl, zin 8 131 rfl rfl, by decide +kernel, by decide⟩, zin 8 128 rfl rfl, zin 8 130 rfl rfl, zin 0 62 rfl rfl⟩
theorem zc_X0_221 : zCV "ModedMill$Breadth" 221 zm_X0_isFinite 1 := ⟨⟨rfl, zin 1 28 rfl rfl, zin 8 140 rfl rfl, by decide +kernel, by decide⟩, zin 8 137 rfl rfl, zin 8 139 rfl rfl, zin 0 64 rfl rfl⟩
theorem zc_X0_229 : zCV "ModedMill$Breadth" 229 zm_X0_bindPath 2 := ⟨⟨rfl, zin 1 28 rfl rfl, zin 8 85 rfl rfl, by decide +kernel, by decide⟩, zin 8 82 rfl rfl, zin 8 84 rfl rfl, zin 0 51 rfl rfl⟩
theorem zc_X0_260 : zCV "ModedMill$Breadth" 260 zm_X0_setMark 2 := ⟨⟨rfl, zin 1 28 rfl rfl, zin 8 115 rfl rfl, by decide +kernel, by decide⟩, zin 8 112 rfl rfl, zin 8 114 rfl rfl, zin 0 58 rfl rfl⟩
theorem zc_X0_176 : zCV "ModedMill$Breadth" 176 zm_X6_clauseAt 1 := ⟨⟨rfl, zin 1 32 rfl rfl, zin 6 54 rfl rfl, by decide +kernel, by decide⟩, zin 8 61 rfl rfl, zin 6 52 rfl rfl, zin 6 53 rfl rfl⟩
theorem zc_X0_177 : zCV "ModedMill$Breadth" 177 zm_X0_openClause 4 := ⟨⟨rfl, zin 1 28 rfl rfl, zin 8 65 rfl rfl, by decide +kernel, by decide⟩, zin 8 62 rfl rfl, zin 8 64 rfl rfl, zin 0 47 rfl rfl⟩
theorem zc_X0_248 : zCV "ModedMill$Breadth" 248 zm_X0_join 2 := ⟨⟨rfl, zin 1 28 rfl rfl, zin 8 136 rfl rfl, by decide +kernel, by decide⟩, zin 8 133 rfl rfl, zin 8 135 rfl rfl, zin 0 63 rfl rfl⟩
theorem zf_X10_20 : zFI "ModedMill$Terms" 20 10 1 true (.object "ModedMill$Table") := ⟨RX10, TX10, 5, tyX10, rfl, by decide, zu_X10, tyX10_ok, nmX10, by decide, Or.inl (zin 2 191 rfl rfl), rfl, rfl⟩
theorem zc_X10_38 : zCV "ModedMill$Terms" 38 zm_X9_count 0 := ⟨⟨rfl, zin 1 3 rfl rfl, zin 3 203 rfl rfl, by decide +kernel, by decide⟩, zin 3 200 rfl rfl, zin 3 201 rfl rfl, zin 3 202 rfl rfl⟩
theorem zf_X10_27 : zFI "ModedMill$Terms" 27 10 3 true (.object "ModedMill$Table") := ⟨RX10, TX10, 5, tyX10, rfl, by decide, zu_X10, tyX10_ok, nmX10, by decide, Or.inl (zin 2 193 rfl rfl), rfl, rfl⟩
theorem zc_X10_67 : zCS "ModedMill$Terms" 67 zm_X10_chainOf 3 := ⟨⟨rfl, zin 1 2 rfl rfl, zin 4 132 rfl rfl, by decide +kernel, by decide⟩, zin 4 130 rfl rfl, zin 4 131 rfl rfl⟩
theorem zc_X10_42 : zCV "ModedMill$Terms" 42 zm_X9_get 2 := ⟨⟨rfl, zin 1 3 rfl rfl, zin 4 100 rfl rfl, by decide +kernel, by decide⟩, zin 4 97 rfl rfl, zin 4 98 rfl rfl, zin 4 99 rfl rfl⟩
theorem zf_X10_24 : zFI "ModedMill$Terms" 24 10 2 true (.object "ModedMill$Table") := ⟨RX10, TX10, 5, tyX10, rfl, by decide, zu_X10, tyX10_ok, nmX10, by decide, Or.inl (zin 2 192 rfl rfl), rfl, rfl⟩
theorem zc_X10_54 : zCV "ModedMill$Terms" 54 zm_X10_fitsPart 3 := ⟨⟨rfl, zin 1 2 rfl rfl, zin 4 109 rfl rfl, by decide +kernel, by decide⟩, zin 4 106 rfl rfl, zin 4 108 rfl rfl, zin 0 3 rfl rfl⟩
theorem zc_X10_58 : zCV "ModedMill$Terms" 58 zm_X10_partType 2 := ⟨⟨rfl, zin 1 2 rfl rfl, zin 4 113 rfl rfl, by decide +kernel, by decide⟩, zin 4 110 rfl rfl, zin 4 111 rfl rfl, zin 4 112 rfl rfl⟩
theorem zc_X10_61 : zCV "ModedMill$Terms" 61 zm_X10_headOf 1 := ⟨⟨rfl, zin 1 2 rfl rfl, zin 4 117 rfl rfl, by decide +kernel, by decide⟩, zin 4 114 rfl rfl, zin 4 115 rfl rfl, zin 4 116 rfl rfl⟩
theorem zc_X10_64 : zCV "ModedMill$Terms" 64 zm_X10_typeOfHead 1 := ⟨⟨rfl, zin 1 2 rfl rfl, zin 4 121 rfl rfl, by decide +kernel, by decide⟩, zin 4 118 rfl rfl, zin 4 119 rfl rfl, zin 4 120 rfl rfl⟩
theorem zc_X10_81 : zCV "ModedMill$Terms" 81 zm_X10_part 2 := ⟨⟨rfl, zin 1 2 rfl rfl, zin 4 163 rfl rfl, by decide +kernel, by decide⟩, zin 7 200 rfl rfl, zin 4 161 rfl rfl, zin 4 162 rfl rfl⟩
theorem zc_X10_73 : zCV "ModedMill$Terms" 73 zm_X9_set 3 := ⟨⟨rfl, zin 1 3 rfl rfl, zin 2 189 rfl rfl, by decide +kernel, by decide⟩, zin 4 133 rfl rfl, zin 2 187 rfl rfl, zin 2 188 rfl rfl⟩
theorem zc_X10_84 : zCV "ModedMill$Terms" 84 zm_X9_cut 1 := ⟨⟨rfl, zin 1 3 rfl rfl, zin 7 18 rfl rfl, by decide +kernel, by decide⟩, zin 7 201 rfl rfl, zin 7 16 rfl rfl, zin 7 17 rfl rfl⟩
theorem zc_X10_46 : zCV "ModedMill$Terms" 46 zm_X10_partCount 1 := ⟨⟨rfl, zin 1 2 rfl rfl, zin 4 96 rfl rfl, by decide +kernel, by decide⟩, zin 4 93 rfl rfl, zin 4 94 rfl rfl, zin 4 95 rfl rfl⟩
theorem zc_X10_50 : zCV "ModedMill$Terms" 50 zm_X10_hasTerm 1 := ⟨⟨rfl, zin 1 2 rfl rfl, zin 3 199 rfl rfl, by decide +kernel, by decide⟩, zin 4 101 rfl rfl, zin 3 197 rfl rfl, zin 3 198 rfl rfl⟩
theorem zf_X10_9 : zFI "ModedMill$Terms" 9 10 0 false .int := ⟨RX10, TX10, 5, tyX10, rfl, by decide, zu_X10, tyX10_ok, nmX10, by decide, Or.inl (zin 2 190 rfl rfl), rfl, rfl⟩
theorem zn_X10_15 : zNI "ModedMill$Terms" 15 9 3 [zI 0, zN, zI 0] := ⟨RX9, TX9, tyX9, rfl, by decide, zu_X9, tyX9_ok, zin 1 53 rfl rfl, zin 1 54 rfl rfl, zin 1 3 rfl rfl, fun j hj => by rcases (show j = 0 ∨ j = 1 ∨ j = 2 by omega) with rfl | rfl | rfl <;> rfl, zfit_all (by decide)⟩
theorem zc_X10_17 : zCC "ModedMill$Terms" 17 zm_X9_init 2 := ⟨⟨rfl, zin 1 3 rfl rfl, zin 1 57 rfl rfl, by decide +kernel, by decide⟩, zin 1 55 rfl rfl, zin 1 56 rfl rfl, rfl, rfl⟩
theorem zc_X10_30 : zCV "ModedMill$Terms" 30 zm_X9_add 3 := ⟨⟨rfl, zin 1 3 rfl rfl, zin 1 74 rfl rfl, by decide +kernel, by decide⟩, zin 1 71 rfl rfl, zin 1 72 rfl rfl, zin 1 73 rfl rfl⟩
theorem zf_X10_34 : zFI "ModedMill$Terms" 34 10 4 true (.array .long) := ⟨RX10, TX10, 5, tyX10, rfl, by decide, zu_X10, tyX10_ok, nmX10, by decide, Or.inl (zin 2 194 rfl rfl), rfl, rfl⟩
theorem zc_X10_70 : zCV "ModedMill$Terms" 70 zm_X10_find 3 := ⟨⟨rfl, zin 1 2 rfl rfl, zin 4 129 rfl rfl, by decide +kernel, by decide⟩, zin 4 126 rfl rfl, zin 4 128 rfl rfl, zin 0 4 rfl rfl⟩
theorem zc_X10_77 : zCV "ModedMill$Terms" 77 zm_X10_size 1 := ⟨⟨rfl, zin 1 2 rfl rfl, zin 3 228 rfl rfl, by decide +kernel, by decide⟩, zin 4 134 rfl rfl, zin 3 226 rfl rfl, zin 3 227 rfl rfl⟩
theorem zf_X11_19 : zFI "ModedMill" 19 11 1 true (.object "ModedMill$Program") := ⟨RX11, TX11, 9, tyX11, rfl, by decide, zu_X11, tyX11_ok, nmX11, by decide, Or.inl (zin 3 161 rfl rfl), rfl, rfl⟩
theorem zc_X11_161 : zCV "ModedMill" 161 zm_X7_clauseAt 1 := ⟨⟨rfl, zin 1 22 rfl rfl, zin 5 219 rfl rfl, by decide +kernel, by decide⟩, zin 5 216 rfl rfl, zin 5 217 rfl rfl, zin 5 218 rfl rfl⟩
theorem zf_X11_10 : zFI "ModedMill" 10 11 0 true (.object "ModedMill$Terms") := ⟨RX11, TX11, 9, tyX11, rfl, by decide, zu_X11, tyX11_ok, nmX11, by decide, Or.inl (zin 3 160 rfl rfl), rfl, rfl⟩
theorem zc_X11_93 : zCV "ModedMill" 93 zm_X10_hasConstructor 1 := ⟨⟨rfl, zin 1 2 rfl rfl, zin 4 88 rfl rfl, by decide +kernel, by decide⟩, zin 4 85 rfl rfl, zin 4 86 rfl rfl, zin 4 87 rfl rfl⟩
theorem zc_X11_165 : zCS "ModedMill" 165 zm_X11_areVariables 3 := ⟨⟨rfl, zin 1 1 rfl rfl, zin 5 222 rfl rfl, by decide +kernel, by decide⟩, zin 5 220 rfl rfl, zin 5 221 rfl rfl⟩
theorem zn_X11_168 : zNI "ModedMill" 168 3 4 [zI 0, zI 0, zI 0, zN] := ⟨RX3, TX3, tyX3, rfl, by decide, zu_X3, tyX3_ok, zin 5 223 rfl rfl, zin 4 195 rfl rfl, zin 1 33 rfl rfl, fun j hj => by rcases (show j = 0 ∨ j = 1 ∨ j = 2 ∨ j = 3 by omega) with rfl | rfl | rfl | rfl <;> rfl, zfit_all (by decide)⟩
theorem zc_X11_114 : zCV "ModedMill" 114 zm_X10_partCount 1 := ⟨⟨rfl, zin 1 2 rfl rfl, zin 4 96 rfl rfl, by decide +kernel, by decide⟩, zin 4 144 rfl rfl, zin 4 94 rfl rfl, zin 4 95 rfl rfl⟩
theorem zc_X11_170 : zCC "ModedMill" 170 zm_X3_init 6 := ⟨⟨rfl, zin 1 33 rfl rfl, zin 4 198 rfl rfl, by decide +kernel, by decide⟩, zin 5 224 rfl rfl, zin 4 197 rfl rfl, rfl, rfl⟩
theorem zc_X11_173 : zCV "ModedMill" 173 zm_X10_typeOfHead 1 := ⟨⟨rfl, zin 1 2 rfl rfl, zin 4 121 rfl rfl, by decide +kernel, by decide⟩, zin 5 225 rfl rfl, zin 4 119 rfl rfl, zin 4 120 rfl rfl⟩
theorem zc_X11_176 : zCV "ModedMill" 176 zm_X10_partType 2 := ⟨⟨rfl, zin 1 2 rfl rfl, zin 4 113 rfl rfl, by decide +kernel, by decide⟩, zin 5 226 rfl rfl, zin 4 111 rfl rfl, zin 4 112 rfl rfl⟩
theorem zc_X11_179 : zCV "ModedMill" 179 zm_X11_addGoal 5 := ⟨⟨rfl, zin 1 1 rfl rfl, zin 5 230 rfl rfl, by decide +kernel, by decide⟩, zin 5 227 rfl rfl, zin 5 229 rfl rfl, zin 0 8 rfl rfl⟩
theorem zc_X11_134 : zCV "ModedMill" 134 zm_X7_predicateAt 1 := ⟨⟨rfl, zin 1 22 rfl rfl, zin 5 65 rfl rfl, by decide +kernel, by decide⟩, zin 5 62 rfl rfl, zin 5 63 rfl rfl, zin 5 64 rfl rfl⟩
theorem zc_X11_188 : zCV "ModedMill" 188 zm_X6_arity 0 := ⟨⟨rfl, zin 1 32 rfl rfl, zin 6 33 rfl rfl, by decide +kernel, by decide⟩, zin 6 30 rfl rfl, zin 6 31 rfl rfl, zin 6 32 rfl rfl⟩
theorem zc_X11_191 : zCV "ModedMill" 191 zm_X6_typeAt 1 := ⟨⟨rfl, zin 1 32 rfl rfl, zin 5 172 rfl rfl, by decide +kernel, by decide⟩, zin 6 34 rfl rfl, zin 5 170 rfl rfl, zin 5 171 rfl rfl⟩
theorem zc_X11_154 : zCV "ModedMill" 154 zm_X7_clauseCount 0 := ⟨⟨rfl, zin 1 22 rfl rfl, zin 5 156 rfl rfl, by decide +kernel, by decide⟩, zin 5 153 rfl rfl, zin 5 154 rfl rfl, zin 5 155 rfl rfl⟩
theorem zf_X11_51 : zFI "ModedMill" 51 11 6 false .boolean := ⟨RX11, TX11, 9, tyX11, rfl, by decide, zu_X11, tyX11_ok, nmX11, by decide, Or.inl (zin 3 166 rfl rfl), rfl, rfl⟩
theorem zc_X11_157 : zCV "ModedMill" 157 zm_X7_newClause 1 := ⟨⟨rfl, zin 1 22 rfl rfl, zin 5 160 rfl rfl, by decide +kernel, by decide⟩, zin 5 157 rfl rfl, zin 5 158 rfl rfl, zin 5 159 rfl rfl⟩
theorem zc_X11_73 : zCV "ModedMill" 73 zm_X10_hasType 1 := ⟨⟨rfl, zin 1 2 rfl rfl, zin 4 63 rfl rfl, by decide +kernel, by decide⟩, zin 4 60 rfl rfl, zin 4 61 rfl rfl, zin 4 62 rfl rfl⟩
theorem zc_X11_77 : zCV "ModedMill" 77 zm_X11_isTypeOrNone 1 := ⟨⟨rfl, zin 1 1 rfl rfl, zin 4 67 rfl rfl, by decide +kernel, by decide⟩, zin 4 64 rfl rfl, zin 4 66 rfl rfl, zin 0 2 rfl rfl⟩
theorem zc_X11_86 : zCV "ModedMill" 86 zm_X10_constructorCount 0 := ⟨⟨rfl, zin 1 2 rfl rfl, zin 4 76 rfl rfl, by decide +kernel, by decide⟩, zin 4 73 rfl rfl, zin 4 74 rfl rfl, zin 4 75 rfl rfl⟩
theorem zc_X11_89 : zCV "ModedMill" 89 zm_X10_newConstructor 3 := ⟨⟨rfl, zin 1 2 rfl rfl, zin 4 80 rfl rfl, by decide +kernel, by decide⟩, zin 4 77 rfl rfl, zin 4 78 rfl rfl, zin 4 79 rfl rfl⟩
theorem zc_X11_324 : zCV "ModedMill" 324 zm_X3_isBareBehindEnd 0 := ⟨⟨rfl, zin 1 33 rfl rfl, zin 5 234 rfl rfl, by decide +kernel, by decide⟩, zin 5 231 rfl rfl, zin 5 232 rfl rfl, zin 5 233 rfl rfl⟩
theorem zc_X11_328 : zCV "ModedMill" 328 zm_X1_takesTypes 4 := ⟨⟨rfl, zin 1 36 rfl rfl, zin 6 2 rfl rfl, by decide +kernel, by decide⟩, zin 5 239 rfl rfl, zin 6 0 rfl rfl, zin 6 1 rfl rfl⟩
theorem zc_X11_332 : zCV "ModedMill" 332 zm_X1_goalCount 0 := ⟨⟨rfl, zin 1 36 rfl rfl, zin 6 13 rfl rfl, by decide +kernel, by decide⟩, zin 6 10 rfl rfl, zin 6 11 rfl rfl, zin 6 12 rfl rfl⟩
theorem zc_X11_335 : zCV "ModedMill" 335 zm_X1_newGoal 4 := ⟨⟨rfl, zin 1 36 rfl rfl, zin 6 18 rfl rfl, by decide +kernel, by decide⟩, zin 6 15 rfl rfl, zin 6 16 rfl rfl, zin 6 17 rfl rfl⟩
theorem zc_X11_138 : zCV "ModedMill" 138 zm_X6_argumentSet 0 := ⟨⟨rfl, zin 1 32 rfl rfl, zin 5 83 rfl rfl, by decide +kernel, by decide⟩, zin 5 80 rfl rfl, zin 5 81 rfl rfl, zin 5 82 rfl rfl⟩
theorem zc_X11_143 : zCS "ModedMill" 143 zm_X11_isPromise 1 := ⟨⟨rfl, zin 1 1 rfl rfl, zin 5 87 rfl rfl, by decide +kernel, by decide⟩, zin 5 85 rfl rfl, zin 5 86 rfl rfl⟩
theorem zc_X11_147 : zCV "ModedMill" 147 zm_X6_modeCount 0 := ⟨⟨rfl, zin 1 32 rfl rfl, zin 5 91 rfl rfl, by decide +kernel, by decide⟩, zin 5 88 rfl rfl, zin 5 89 rfl rfl, zin 5 90 rfl rfl⟩
theorem zc_X11_150 : zCV "ModedMill" 150 zm_X7_newMode 3 := ⟨⟨rfl, zin 1 22 rfl rfl, zin 5 96 rfl rfl, by decide +kernel, by decide⟩, zin 5 93 rfl rfl, zin 5 94 rfl rfl, zin 5 95 rfl rfl⟩
theorem zc_X11_128 : zCV "ModedMill" 128 zm_X7_predicateCount 0 := ⟨⟨rfl, zin 1 22 rfl rfl, zin 4 171 rfl rfl, by decide +kernel, by decide⟩, zin 4 168 rfl rfl, zin 4 169 rfl rfl, zin 4 170 rfl rfl⟩
theorem zc_X11_131 : zCV "ModedMill" 131 zm_X7_newPredicate 3 := ⟨⟨rfl, zin 1 22 rfl rfl, zin 4 179 rfl rfl, by decide +kernel, by decide⟩, zin 4 176 rfl rfl, zin 4 177 rfl rfl, zin 4 178 rfl rfl⟩
theorem zc_X11_183 : zCV "ModedMill" 183 zm_X1_typeAt 1 := ⟨⟨rfl, zin 1 36 rfl rfl, zin 6 8 rfl rfl, by decide +kernel, by decide⟩, zin 6 25 rfl rfl, zin 6 6 rfl rfl, zin 6 7 rfl rfl⟩
theorem zc_X11_63 : zCV "ModedMill" 63 zm_X10_typeCount 0 := ⟨⟨rfl, zin 1 2 rfl rfl, zin 4 36 rfl rfl, by decide +kernel, by decide⟩, zin 4 33 rfl rfl, zin 4 34 rfl rfl, zin 4 35 rfl rfl⟩
theorem zc_X11_70 : zCV "ModedMill" 70 zm_X10_newType 0 := ⟨⟨rfl, zin 1 2 rfl rfl, zin 4 55 rfl rfl, by decide +kernel, by decide⟩, zin 4 52 rfl rfl, zin 4 53 rfl rfl, zin 4 54 rfl rfl⟩
theorem zc_X11_264 : zCV "ModedMill" 264 zm_X11_refuseUnasked 0 := ⟨⟨rfl, zin 1 1 rfl rfl, zin 7 225 rfl rfl, by decide +kernel, by decide⟩, zin 7 222 rfl rfl, zin 7 224 rfl rfl, zin 0 39 rfl rfl⟩
theorem zf_X11_26 : zFI "ModedMill" 26 11 4 false (.object "ModedMill$Report") := ⟨RX11, TX11, 9, tyX11, rfl, by decide, zu_X11, tyX11_ok, nmX11, by decide, Or.inl (zin 3 164 rfl rfl), rfl, rfl⟩
theorem zc_X11_271 : zCV "ModedMill" 271 zm_X8_hasAnswer 1 := ⟨⟨rfl, zin 1 26 rfl rfl, zin 7 233 rfl rfl, by decide +kernel, by decide⟩, zin 7 230 rfl rfl, zin 7 231 rfl rfl, zin 7 232 rfl rfl⟩
theorem zc_X11_274 : zCV "ModedMill" 274 zm_X8_hasArgument 1 := ⟨⟨rfl, zin 1 26 rfl rfl, zin 7 237 rfl rfl, by decide +kernel, by decide⟩, zin 7 234 rfl rfl, zin 7 235 rfl rfl, zin 7 236 rfl rfl⟩
theorem zc_X11_277 : zCV "ModedMill" 277 zm_X8_answerPart 2 := ⟨⟨rfl, zin 1 26 rfl rfl, zin 8 2 rfl rfl, by decide +kernel, by decide⟩, zin 7 239 rfl rfl, zin 8 0 rfl rfl, zin 8 1 rfl rfl⟩
theorem zf_X11_283 : zFI "ModedMill" 283 8 8 false .boolean := ⟨RX8, TX8, 10, tyX8, rfl, by decide, zu_X8, tyX8_ok, nmX8, by decide, Or.inr ⟨"ModedMill", (lw_ch_in 3 _ (List.mem_of_getElem? (i := 35) rfl))⟩, rfl, rfl⟩
theorem zf_X11_47 : zFI "ModedMill" 47 11 3 true (.object "ModedMill$Breadth") := ⟨RX11, TX11, 9, tyX11, rfl, by decide, zu_X11, tyX11_ok, nmX11, by decide, Or.inl (zin 3 163 rfl rfl), rfl, rfl⟩
theorem zc_X11_286 : zCV "ModedMill" 286 zm_X0_count 1 := ⟨⟨rfl, zin 1 28 rfl rfl, zin 8 18 rfl rfl, by decide +kernel, by decide⟩, zin 8 15 rfl rfl, zin 8 16 rfl rfl, zin 8 17 rfl rfl⟩
theorem zf_X11_290 : zFI "ModedMill" 290 8 9 false .int := ⟨RX8, TX8, 10, tyX8, rfl, by decide, zu_X8, tyX8_ok, nmX8, by decide, Or.inr ⟨"ModedMill", (lw_ch_in 3 _ (List.mem_of_getElem? (i := 37) rfl))⟩, rfl, rfl⟩
theorem zc_X11_339 : zCV "ModedMill" 339 zm_X5_isInput 1 := ⟨⟨rfl, zin 1 35 rfl rfl, zin 6 96 rfl rfl, by decide +kernel, by decide⟩, zin 7 5 rfl rfl, zin 6 94 rfl rfl, zin 6 95 rfl rfl⟩
theorem zc_X11_342 : zCS "ModedMill" 342 zm_X11_pick 4 := ⟨⟨rfl, zin 1 1 rfl rfl, zin 4 190 rfl rfl, by decide +kernel, by decide⟩, zin 7 6 rfl rfl, zin 4 189 rfl rfl⟩
theorem zc_X11_346 : zCV "ModedMill" 346 zm_X10_hasTerm 1 := ⟨⟨rfl, zin 1 2 rfl rfl, zin 3 199 rfl rfl, by decide +kernel, by decide⟩, zin 3 196 rfl rfl, zin 3 197 rfl rfl, zin 3 198 rfl rfl⟩
theorem zc_X11_237 : zCV "ModedMill" 237 zm_X7_modeAt 2 := ⟨⟨rfl, zin 1 22 rfl rfl, zin 6 201 rfl rfl, by decide +kernel, by decide⟩, zin 6 198 rfl rfl, zin 6 199 rfl rfl, zin 6 200 rfl rfl⟩
theorem zc_X11_240 : zCV "ModedMill" 240 zm_X11_areInputsThere 4 := ⟨⟨rfl, zin 1 1 rfl rfl, zin 7 4 rfl rfl, by decide +kernel, by decide⟩, zin 7 1 rfl rfl, zin 7 3 rfl rfl, zin 0 20 rfl rfl⟩
theorem zc_X11_244 : zCV "ModedMill" 244 zm_X11_doInputsFit 4 := ⟨⟨rfl, zin 1 1 rfl rfl, zin 7 10 rfl rfl, by decide +kernel, by decide⟩, zin 7 7 rfl rfl, zin 7 9 rfl rfl, zin 0 21 rfl rfl⟩
theorem zc_X11_199 : zCV "ModedMill" 199 zm_X11_refuseUncompiled 0 := ⟨⟨rfl, zin 1 1 rfl rfl, zin 6 189 rfl rfl, by decide +kernel, by decide⟩, zin 6 186 rfl rfl, zin 6 188 rfl rfl, zin 0 17 rfl rfl⟩
theorem zf_X11_30 : zFI "ModedMill" 30 11 5 false (.object "ModedMill$Report") := ⟨RX11, TX11, 9, tyX11, rfl, by decide, zu_X11, tyX11_ok, nmX11, by decide, Or.inl (zin 3 165 rfl rfl), rfl, rfl⟩
theorem zc_X11_247 : zCV "ModedMill" 247 zm_X8_begin 4 := ⟨⟨rfl, zin 1 26 rfl rfl, zin 7 14 rfl rfl, by decide +kernel, by decide⟩, zin 7 11 rfl rfl, zin 7 12 rfl rfl, zin 7 13 rfl rfl⟩
theorem zf_X11_212 : zFI "ModedMill" 212 5 5 false .boolean := ⟨RX5, TX5, 9, tyX5, rfl, by decide, zu_X5, tyX5_ok, nmX5, by decide, Or.inr ⟨"ModedMill", (lw_ch_in 5 _ (List.mem_of_getElem? (i := 121) rfl))⟩, rfl, rfl⟩
theorem zf_X11_38 : zFI "ModedMill" 38 11 2 true (.object "ModedMill$Machine") := ⟨RX11, TX11, 9, tyX11, rfl, by decide, zu_X11, tyX11_ok, nmX11, by decide, Or.inl (zin 3 162 rfl rfl), rfl, rfl⟩
theorem zc_X11_251 : zCV "ModedMill" 251 zm_X4_run 2 := ⟨⟨rfl, zin 1 27 rfl rfl, zin 7 25 rfl rfl, by decide +kernel, by decide⟩, zin 7 22 rfl rfl, zin 7 23 rfl rfl, zin 7 24 rfl rfl⟩
theorem zf_X11_55 : zFI "ModedMill" 55 11 7 false .int := ⟨RX11, TX11, 9, tyX11, rfl, by decide, zu_X11, tyX11_ok, nmX11, by decide, Or.inl (zin 3 167 rfl rfl), rfl, rfl⟩
theorem zf_X11_59 : zFI "ModedMill" 59 11 8 false .long := ⟨RX11, TX11, 9, tyX11, rfl, by decide, zu_X11, tyX11_ok, nmX11, by decide, Or.inl (zin 3 168 rfl rfl), rfl, rfl⟩
theorem zf_X11_258 : zFI "ModedMill" 258 8 4 false .int := ⟨RX8, TX8, 10, tyX8, rfl, by decide, zu_X8, tyX8_ok, nmX8, by decide, Or.inr ⟨"ModedMill", (lw_ch_in 3 _ (List.mem_of_getElem? (i := 24) rfl))⟩, rfl, rfl⟩
theorem zc_X11_261 : zCV "ModedMill" 261 zm_X8_answerCount 0 := ⟨⟨rfl, zin 1 26 rfl rfl, zin 7 160 rfl rfl, by decide +kernel, by decide⟩, zin 7 217 rfl rfl, zin 7 158 rfl rfl, zin 7 159 rfl rfl⟩
theorem zf_X11_293 : zFI "ModedMill" 293 8 5 false .int := ⟨RX8, TX8, 10, tyX8, rfl, by decide, zu_X8, tyX8_ok, nmX8, by decide, Or.inr ⟨"ModedMill", (lw_ch_in 3 _ (List.mem_of_getElem? (i := 27) rfl))⟩, rfl, rfl⟩
theorem zc_X11_224 : zCV "ModedMill" 224 zm_X11_orderedClause 2 := ⟨⟨rfl, zin 1 1 rfl rfl, zin 6 226 rfl rfl, by decide +kernel, by decide⟩, zin 6 223 rfl rfl, zin 6 225 rfl rfl, zin 0 19 rfl rfl⟩
theorem zc_X11_231 : zCV "ModedMill" 231 zm_X1_chosenIn 2 := ⟨⟨rfl, zin 1 36 rfl rfl, zin 6 137 rfl rfl, by decide +kernel, by decide⟩, zin 6 236 rfl rfl, zin 6 135 rfl rfl, zin 6 136 rfl rfl⟩
theorem zf_X11_234 : zFI "ModedMill" 234 5 1 true .int := ⟨RX5, TX5, 9, tyX5, rfl, by decide, zu_X5, tyX5_ok, nmX5, by decide, Or.inr ⟨"ModedMill", (lw_ch_in 5 _ (List.mem_of_getElem? (i := 112) rfl))⟩, rfl, rfl⟩
theorem zc_X11_192 : zCV "ModedMill" 192 zm_X7_analyse 1 := ⟨⟨rfl, zin 1 22 rfl rfl, zin 6 42 rfl rfl, by decide +kernel, by decide⟩, zin 6 39 rfl rfl, zin 6 40 rfl rfl, zin 6 41 rfl rfl⟩
theorem zc_X11_196 : zCV "ModedMill" 196 zm_X7_faultCount 0 := ⟨⟨rfl, zin 1 22 rfl rfl, zin 6 173 rfl rfl, by decide +kernel, by decide⟩, zin 6 170 rfl rfl, zin 6 171 rfl rfl, zin 6 172 rfl rfl⟩
theorem zc_X11_106 : zCV "ModedMill" 106 zm_X11_refuseMissingTerm 1 := ⟨⟨rfl, zin 1 1 rfl rfl, zin 3 195 rfl rfl, by decide +kernel, by decide⟩, zin 3 192 rfl rfl, zin 3 194 rfl rfl, zin 0 1 rfl rfl⟩
theorem zc_X11_110 : zCV "ModedMill" 110 zm_X10_headOf 1 := ⟨⟨rfl, zin 1 2 rfl rfl, zin 4 117 rfl rfl, by decide +kernel, by decide⟩, zin 4 139 rfl rfl, zin 4 115 rfl rfl, zin 4 116 rfl rfl⟩
theorem zf_X11_296 : zFI "ModedMill" 296 8 6 false .int := ⟨RX8, TX8, 10, tyX8, rfl, by decide, zu_X8, tyX8_ok, nmX8, by decide, Or.inr ⟨"ModedMill", (lw_ch_in 3 _ (List.mem_of_getElem? (i := 30) rfl))⟩, rfl, rfl⟩
theorem zf_X11_349 : zFI "ModedMill" 349 5 0 true (.object "ModedMill$Predicate") := ⟨RX5, TX5, 9, tyX5, rfl, by decide, zu_X5, tyX5_ok, nmX5, by decide, Or.inr ⟨"ModedMill", (lw_ch_in 5 _ (List.mem_of_getElem? (i := 108) rfl))⟩, rfl, rfl⟩
theorem zf_X11_267 : zFI "ModedMill" 267 8 7 false .char := ⟨RX8, TX8, 10, tyX8, rfl, by decide, zu_X8, tyX8_ok, nmX8, by decide, Or.inr ⟨"ModedMill", (lw_ch_in 3 _ (List.mem_of_getElem? (i := 33) rfl))⟩, rfl, rfl⟩
theorem zc_X11_202 : zCV "ModedMill" 202 zm_X11_compiledMode 2 := ⟨⟨rfl, zin 1 1 rfl rfl, zin 6 197 rfl rfl, by decide +kernel, by decide⟩, zin 6 194 rfl rfl, zin 6 196 rfl rfl, zin 0 18 rfl rfl⟩
theorem zc_X11_206 : zCV "ModedMill" 206 zm_X5_faultSign 0 := ⟨⟨rfl, zin 1 35 rfl rfl, zin 6 177 rfl rfl, by decide +kernel, by decide⟩, zin 6 202 rfl rfl, zin 6 175 rfl rfl, zin 6 176 rfl rfl⟩
theorem zc_X11_215 : zCV "ModedMill" 215 zm_X5_foundSign 0 := ⟨⟨rfl, zin 1 35 rfl rfl, zin 6 214 rfl rfl, by decide +kernel, by decide⟩, zin 6 211 rfl rfl, zin 6 212 rfl rfl, zin 6 213 rfl rfl⟩
theorem zc_X11_228 : zCV "ModedMill" 228 zm_X1_goalNumberIn 2 := ⟨⟨rfl, zin 1 36 rfl rfl, zin 6 231 rfl rfl, by decide +kernel, by decide⟩, zin 6 228 rfl rfl, zin 6 229 rfl rfl, zin 6 230 rfl rfl⟩
theorem zn_X11_7 : zNI "ModedMill" 7 10 5 [zI 0, zN, zN, zN, zN] := ⟨RX10, TX10, tyX10, rfl, by decide, zu_X10, tyX10_ok, zin 1 47 rfl rfl, zin 1 48 rfl rfl, zin 1 2 rfl rfl, fun j hj => by rcases (show j = 0 ∨ j = 1 ∨ j = 2 ∨ j = 3 ∨ j = 4 by omega) with rfl | rfl | rfl | rfl | rfl <;> rfl, zfit_all (by decide)⟩
theorem zc_X11_9 : zCC "ModedMill" 9 zm_X10_init 0 := ⟨⟨rfl, zin 1 2 rfl rfl, zin 1 51 rfl rfl, by decide +kernel, by decide⟩, zin 1 49 rfl rfl, zin 1 50 rfl rfl, rfl, rfl⟩
theorem zn_X11_16 : zNI "ModedMill" 16 7 3 [zN, zN, zN] := ⟨RX7, TX7, tyX7, rfl, by decide, zu_X7, tyX7_ok, zin 2 207 rfl rfl, zin 2 208 rfl rfl, zin 1 22 rfl rfl, fun j hj => by rcases (show j = 0 ∨ j = 1 ∨ j = 2 by omega) with rfl | rfl | rfl <;> rfl, zfit_all (by decide)⟩
theorem zc_X11_18 : zCC "ModedMill" 18 zm_X7_init 0 := ⟨⟨rfl, zin 1 22 rfl rfl, zin 2 211 rfl rfl, by decide +kernel, by decide⟩, zin 2 209 rfl rfl, zin 2 210 rfl rfl, rfl, rfl⟩
theorem zn_X11_23 : zNI "ModedMill" 23 8 10 [zN, zN, zN, zN, zI 0, zI 0, zI 0, zI 0, zI 0, zI 0] := ⟨RX8, TX8, tyX8, rfl, by decide, zu_X8, tyX8_ok, zin 3 9 rfl rfl, zin 3 10 rfl rfl, zin 1 26 rfl rfl, fun j hj => by rcases (show j = 0 ∨ j = 1 ∨ j = 2 ∨ j = 3 ∨ j = 4 ∨ j = 5 ∨ j = 6 ∨ j = 7 ∨ j = 8 ∨ j = 9 by omega) with rfl | rfl | rfl | rfl | rfl | rfl | rfl | rfl | rfl | rfl <;> rfl, zfit_all (by decide)⟩
theorem zc_X11_25 : zCC "ModedMill" 25 zm_X8_init 0 := ⟨⟨rfl, zin 1 26 rfl rfl, zin 3 13 rfl rfl, by decide +kernel, by decide⟩, zin 3 11 rfl rfl, zin 3 12 rfl rfl, rfl, rfl⟩
theorem zn_X11_33 : zNI "ModedMill" 33 4 12 [zN, zN, zN, zN, zN, zI 0, zN, zI 0, zN, zI 0, zI 0, zI 0] := ⟨RX4, TX4, tyX4, rfl, by decide, zu_X4, tyX4_ok, zin 3 59 rfl rfl, zin 3 60 rfl rfl, zin 1 27 rfl rfl, fun j hj => by rcases (show j = 0 ∨ j = 1 ∨ j = 2 ∨ j = 3 ∨ j = 4 ∨ j = 5 ∨ j = 6 ∨ j = 7 ∨ j = 8 ∨ j = 9 ∨ j = 10 ∨ j = 11 by omega) with rfl | rfl | rfl | rfl | rfl | rfl | rfl | rfl | rfl | rfl | rfl | rfl <;> rfl, zfit_all (by decide)⟩
theorem zc_X11_35 : zCC "ModedMill" 35 zm_X4_init 2 := ⟨⟨rfl, zin 1 27 rfl rfl, zin 3 63 rfl rfl, by decide +kernel, by decide⟩, zin 3 61 rfl rfl, zin 3 62 rfl rfl, rfl, rfl⟩
theorem zn_X11_42 : zNI "ModedMill" 42 0 15 [zN, zN, zN, zI 0, zN, zN, zN, zN, zI 0, zN, zN, zN, zI 0, zI 0, zI 0] := ⟨RX0, TX0, tyX0, rfl, by decide, zu_X0, tyX0_ok, zin 3 106 rfl rfl, zin 3 107 rfl rfl, zin 1 28 rfl rfl, fun j hj => by rcases (show j = 0 ∨ j = 1 ∨ j = 2 ∨ j = 3 ∨ j = 4 ∨ j = 5 ∨ j = 6 ∨ j = 7 ∨ j = 8 ∨ j = 9 ∨ j = 10 ∨ j = 11 ∨ j = 12 ∨ j = 13 ∨ j = 14 by omega) with rfl | rfl | rfl | rfl | rfl | rfl | rfl | rfl | rfl | rfl | rfl | rfl | rfl | rfl | rfl <;> rfl, zfit_all (by decide)⟩
theorem zc_X11_44 : zCC "ModedMill" 44 zm_X0_init 2 := ⟨⟨rfl, zin 1 28 rfl rfl, zin 3 110 rfl rfl, by decide +kernel, by decide⟩, zin 3 108 rfl rfl, zin 3 109 rfl rfl, rfl, rfl⟩
theorem zc_X11_280 : zCV "ModedMill" 280 zm_X8_countLike 1 := ⟨⟨rfl, zin 1 26 rfl rfl, zin 8 10 rfl rfl, by decide +kernel, by decide⟩, zin 8 7 rfl rfl, zin 8 8 rfl rfl, zin 8 9 rfl rfl⟩
theorem zf_X11_353 : zFI "ModedMill" 353 1 1 true (.object "ModedMill$Predicate") := ⟨RX1, TX1, 9, tyX1, rfl, by decide, zu_X1, tyX1_ok, nmX1, by decide, Or.inr ⟨"ModedMill", (lw_ch_in 5 _ (List.mem_of_getElem? (i := 185) rfl))⟩, rfl, rfl⟩
theorem zc_X11_354 : zCV "ModedMill" 354 zm_X6_modeAt 1 := ⟨⟨rfl, zin 1 32 rfl rfl, zin 6 88 rfl rfl, by decide +kernel, by decide⟩, zin 6 227 rfl rfl, zin 6 86 rfl rfl, zin 6 87 rfl rfl⟩
theorem zc_X11_120 : zCV "ModedMill" 120 zm_X10_part 2 := ⟨⟨rfl, zin 1 2 rfl rfl, zin 4 163 rfl rfl, by decide +kernel, by decide⟩, zin 4 160 rfl rfl, zin 4 161 rfl rfl, zin 4 162 rfl rfl⟩
theorem zc_X11_302 : zCV "ModedMill" 302 zm_X11_refuseMissingNote 1 := ⟨⟨rfl, zin 1 1 rfl rfl, zin 8 168 rfl rfl, by decide +kernel, by decide⟩, zin 8 165 rfl rfl, zin 8 167 rfl rfl, zin 0 65 rfl rfl⟩
theorem zc_X11_305 : zCV "ModedMill" 305 zm_X8_noteSign 1 := ⟨⟨rfl, zin 1 26 rfl rfl, zin 8 172 rfl rfl, by decide +kernel, by decide⟩, zin 8 169 rfl rfl, zin 8 170 rfl rfl, zin 8 171 rfl rfl⟩
theorem zc_X11_299 : zCV "ModedMill" 299 zm_X8_noteCount 0 := ⟨⟨rfl, zin 1 26 rfl rfl, zin 8 160 rfl rfl, by decide +kernel, by decide⟩, zin 8 157 rfl rfl, zin 8 158 rfl rfl, zin 8 159 rfl rfl⟩
theorem zc_X11_124 : zCV "ModedMill" 124 zm_X10_size 1 := ⟨⟨rfl, zin 1 2 rfl rfl, zin 3 228 rfl rfl, by decide +kernel, by decide⟩, zin 3 225 rfl rfl, zin 3 226 rfl rfl, zin 3 227 rfl rfl⟩
theorem zf_X11_218 : zFI "ModedMill" 218 5 4 false .boolean := ⟨RX5, TX5, 9, tyX5, rfl, by decide, zu_X5, tyX5_ok, nmX5, by decide, Or.inr ⟨"ModedMill", (lw_ch_in 5 _ (List.mem_of_getElem? (i := 118) rfl))⟩, rfl, rfl⟩
theorem zf_X11_221 : zFI "ModedMill" 221 5 8 false .int := ⟨RX5, TX5, 9, tyX5, rfl, by decide, zu_X5, tyX5_ok, nmX5, by decide, Or.inr ⟨"ModedMill", (lw_ch_in 5 _ (List.mem_of_getElem? (i := 129) rfl))⟩, rfl, rfl⟩
theorem zc_X11_96 : zCV "ModedMill" 96 zm_X10_hasParts 3 := ⟨⟨rfl, zin 1 2 rfl rfl, zin 4 92 rfl rfl, by decide +kernel, by decide⟩, zin 4 89 rfl rfl, zin 4 90 rfl rfl, zin 4 91 rfl rfl⟩
theorem zc_X11_100 : zCV "ModedMill" 100 zm_X10_fits 3 := ⟨⟨rfl, zin 1 2 rfl rfl, zin 4 105 rfl rfl, by decide +kernel, by decide⟩, zin 4 102 rfl rfl, zin 4 103 rfl rfl, zin 4 104 rfl rfl⟩
theorem zc_X11_103 : zCV "ModedMill" 103 zm_X10_make 3 := ⟨⟨rfl, zin 1 2 rfl rfl, zin 4 125 rfl rfl, by decide +kernel, by decide⟩, zin 4 122 rfl rfl, zin 4 123 rfl rfl, zin 4 124 rfl rfl⟩
theorem zc_X11_312 : zCV "ModedMill" 312 zm_X10_termCount 0 := ⟨⟨rfl, zin 1 2 rfl rfl, zin 3 236 rfl rfl, by decide +kernel, by decide⟩, zin 3 233 rfl rfl, zin 3 234 rfl rfl, zin 3 235 rfl rfl⟩
theorem zc_X11_309 : zCV "ModedMill" 309 zm_X8_notePlace 1 := ⟨⟨rfl, zin 1 26 rfl rfl, zin 8 180 rfl rfl, by decide +kernel, by decide⟩, zin 8 177 rfl rfl, zin 8 178 rfl rfl, zin 8 179 rfl rfl⟩
theorem zc_X1_99 : zCV "ModedMill$Clause" 99 zm_X1_slot 2 := ⟨⟨rfl, zin 1 36 rfl rfl, zin 6 116 rfl rfl, by decide +kernel, by decide⟩, zin 6 113 rfl rfl, zin 6 115 rfl rfl, zin 0 13 rfl rfl⟩
theorem zf_X1_60 : zFI "ModedMill$Clause" 60 1 7 true (.array (.object "ModedMill$Mode")) := ⟨RX1, TX1, 9, tyX1, rfl, by decide, zu_X1, tyX1_ok, nmX1, by decide, Or.inl (zin 5 191 rfl rfl), rfl, rfl⟩
theorem zf_X1_45 : zFI "ModedMill$Clause" 45 1 4 true (.array .int) := ⟨RX1, TX1, 9, tyX1, rfl, by decide, zu_X1, tyX1_ok, nmX1, by decide, Or.inl (zin 5 188 rfl rfl), rfl, rfl⟩
theorem zf_X1_41 : zFI "ModedMill$Clause" 41 1 3 true (.object "java/util/ArrayList") := ⟨RX1, TX1, 9, tyX1, rfl, by decide, zu_X1, tyX1_ok, nmX1, by decide, Or.inl (zin 5 187 rfl rfl), rfl, rfl⟩
theorem zc_X1_71 : zCV "ModedMill$Clause" 71 zm_Jx4a65c_size_8abf5 0 := ⟨⟨rfl, zin 1 25 rfl rfl, zin 4 175 rfl rfl, by decide +kernel, by decide⟩, zin 6 14 rfl rfl, zin 4 173 rfl rfl, zin 4 174 rfl rfl⟩
theorem zf_X1_54 : zFI "ModedMill$Clause" 54 1 6 true (.array (.object "ModedMill$Goal")) := ⟨RX1, TX1, 9, tyX1, rfl, by decide, zu_X1, tyX1_ok, nmX1, by decide, Or.inl (zin 5 190 rfl rfl), rfl, rfl⟩
theorem zf_X1_49 : zFI "ModedMill$Clause" 49 1 5 true (.array .int) := ⟨RX1, TX1, 9, tyX1, rfl, by decide, zu_X1, tyX1_ok, nmX1, by decide, Or.inl (zin 5 189 rfl rfl), rfl, rfl⟩
theorem zc_X1_75 : zCV "ModedMill$Clause" 75 zm_Jx4a65c_get_915e3 1 := ⟨⟨rfl, zin 1 25 rfl rfl, zin 5 69 rfl rfl, by decide +kernel, by decide⟩, zin 6 74 rfl rfl, zin 5 67 rfl rfl, zin 5 68 rfl rfl⟩
theorem zf_X1_9 : zFI "ModedMill$Clause" 9 1 0 true .int := ⟨RX1, TX1, 9, tyX1, rfl, by decide, zu_X1, tyX1_ok, nmX1, by decide, Or.inl (zin 5 181 rfl rfl), rfl, rfl⟩
theorem zf_X1_15 : zFI "ModedMill$Clause" 15 1 1 true (.object "ModedMill$Predicate") := ⟨RX1, TX1, 9, tyX1, rfl, by decide, zu_X1, tyX1_ok, nmX1, by decide, Or.inl (zin 5 184 rfl rfl), rfl, rfl⟩
theorem zn_X1_19 : zNI "ModedMill$Clause" 19 9 3 [zI 0, zN, zI 0] := ⟨RX9, TX9, tyX9, rfl, by decide, zu_X9, tyX9_ok, zin 5 167 rfl rfl, zin 1 54 rfl rfl, zin 1 3 rfl rfl, fun j hj => by rcases (show j = 0 ∨ j = 1 ∨ j = 2 by omega) with rfl | rfl | rfl <;> rfl, zfit_all (by decide)⟩
theorem zc_X1_21 : zCC "ModedMill$Clause" 21 zm_X9_init 2 := ⟨⟨rfl, zin 1 3 rfl rfl, zin 1 57 rfl rfl, by decide +kernel, by decide⟩, zin 5 168 rfl rfl, zin 1 56 rfl rfl, rfl, rfl⟩
theorem zf_X1_24 : zFI "ModedMill$Clause" 24 1 2 true (.object "ModedMill$Table") := ⟨RX1, TX1, 9, tyX1, rfl, by decide, zu_X1, tyX1_ok, nmX1, by decide, Or.inl (zin 5 186 rfl rfl), rfl, rfl⟩
theorem zc_X1_28 : zCV "ModedMill$Clause" 28 zm_X6_typeAt 1 := ⟨⟨rfl, zin 1 32 rfl rfl, zin 5 172 rfl rfl, by decide +kernel, by decide⟩, zin 5 169 rfl rfl, zin 5 170 rfl rfl, zin 5 171 rfl rfl⟩
theorem zc_X1_34 : zCV "ModedMill$Clause" 34 zm_X9_add 3 := ⟨⟨rfl, zin 1 3 rfl rfl, zin 1 74 rfl rfl, by decide +kernel, by decide⟩, zin 5 174 rfl rfl, zin 1 72 rfl rfl, zin 1 73 rfl rfl⟩
theorem zn_X1_38 : zNI "ModedMill$Clause" 38 12 3 [zI 0, zN, zI 0] := ⟨RJx4a65c, TJx4a65c, tyJx4a65c, rfl, by decide, zu_Jx4a65c, tyJx4a65c_ok, zin 5 175 rfl rfl, zin 2 214 rfl rfl, zin 1 25 rfl rfl, fun j hj => by rcases (show j = 0 ∨ j = 1 ∨ j = 2 by omega) with rfl | rfl | rfl <;> rfl, zfit_all (by decide)⟩
theorem zc_X1_40 : zCC "ModedMill$Clause" 40 zm_Jx4a65c_init_da8c8 0 := ⟨⟨rfl, zin 1 25 rfl rfl, zin 2 217 rfl rfl, by decide +kernel, by decide⟩, zin 5 176 rfl rfl, zin 2 216 rfl rfl, rfl, rfl⟩
theorem zf_X1_64 : zFI "ModedMill$Clause" 64 1 8 true (.array .int) := ⟨RX1, TX1, 9, tyX1, rfl, by decide, zu_X1, tyX1_ok, nmX1, by decide, Or.inl (zin 5 192 rfl rfl), rfl, rfl⟩
theorem zf_X1_78 : zFI "ModedMill$Clause" 78 3 2 true .int := ⟨RX3, TX3, 4, tyX3, rfl, by decide, zu_X3, tyX3_ok, nmX3, by decide, Or.inr ⟨"ModedMill", (lw_ch_in 4 _ (List.mem_of_getElem? (i := 209) rfl))⟩, rfl, rfl⟩
theorem zc_X1_85 : zCV "ModedMill$Clause" 85 zm_X3_variableAt 1 := ⟨⟨rfl, zin 1 33 rfl rfl, zin 5 238 rfl rfl, by decide +kernel, by decide⟩, zin 6 4 rfl rfl, zin 5 236 rfl rfl, zin 5 237 rfl rfl⟩
theorem zc_X1_81 : zCN "ModedMill$Clause" 81 zm_X11_pick 4 := ⟨⟨rfl, zin 1 1 rfl rfl, zin 4 190 rfl rfl, by decide +kernel, by decide⟩, ⟨"ModedMill", (lw_ch_in 6 _ (List.mem_of_getElem? (i := 3) rfl))⟩, zin 4 189 rfl rfl⟩
theorem zc_X1_89 : zCV "ModedMill$Clause" 89 zm_X9_set 3 := ⟨⟨rfl, zin 1 3 rfl rfl, zin 2 189 rfl rfl, by decide +kernel, by decide⟩, zin 6 19 rfl rfl, zin 2 187 rfl rfl, zin 2 188 rfl rfl⟩
theorem zc_X1_93 : zCV "ModedMill$Clause" 93 zm_Jx4a65c_add_9ea2d 1 := ⟨⟨rfl, zin 1 25 rfl rfl, zin 5 7 rfl rfl, by decide +kernel, by decide⟩, zin 6 20 rfl rfl, zin 5 5 rfl rfl, zin 5 6 rfl rfl⟩
theorem zc_X1_96 : zCV "ModedMill$Clause" 96 zm_X1_placeCount 1 := ⟨⟨rfl, zin 1 36 rfl rfl, zin 6 112 rfl rfl, by decide +kernel, by decide⟩, zin 6 109 rfl rfl, zin 6 110 rfl rfl, zin 6 111 rfl rfl⟩
theorem zc_X1_102 : zCV "ModedMill$Clause" 102 zm_X1_goalNumbered 1 := ⟨⟨rfl, zin 1 36 rfl rfl, zin 6 73 rfl rfl, by decide +kernel, by decide⟩, zin 6 117 rfl rfl, zin 6 71 rfl rfl, zin 6 72 rfl rfl⟩
theorem zc_X1_88 : zCV "ModedMill$Clause" 88 zm_X1_typeAt 1 := ⟨⟨rfl, zin 1 36 rfl rfl, zin 6 8 rfl rfl, by decide +kernel, by decide⟩, zin 6 5 rfl rfl, zin 6 6 rfl rfl, zin 6 7 rfl rfl⟩
theorem zc_X1_67 : zCV "ModedMill$Clause" 67 zm_X9_get 2 := ⟨⟨rfl, zin 1 3 rfl rfl, zin 4 100 rfl rfl, by decide +kernel, by decide⟩, zin 6 9 rfl rfl, zin 4 98 rfl rfl, zin 4 99 rfl rfl⟩
theorem zf_X2_19 : zFI "ModedMill$Frame" 19 2 1 true (.array .int) := ⟨RX2, TX2, 10, tyX2, rfl, by decide, zu_X2, tyX2_ok, nmX2, by decide, Or.inl (zin 7 45 rfl rfl), rfl, rfl⟩
theorem zc_X2_23 : zCS "ModedMill$Frame" 23 zm_J7_fill_53178 2 := ⟨⟨rfl, zin 1 4 rfl rfl, zin 7 91 rfl rfl, by decide +kernel, by decide⟩, zin 7 89 rfl rfl, zin 7 90 rfl rfl⟩
theorem zf_X2_15 : zFI "ModedMill$Frame" 15 2 2 false (.object "ModedMill$Mode") := ⟨RX2, TX2, 10, tyX2, rfl, by decide, zu_X2, tyX2_ok, nmX2, by decide, Or.inl (zin 7 46 rfl rfl), rfl, rfl⟩
theorem zf_X2_29 : zFI "ModedMill$Frame" 29 2 3 false (.object "ModedMill$Frame") := ⟨RX2, TX2, 10, tyX2, rfl, by decide, zu_X2, tyX2_ok, nmX2, by decide, Or.inl (zin 7 48 rfl rfl), rfl, rfl⟩
theorem zf_X2_33 : zFI "ModedMill$Frame" 33 2 4 false .int := ⟨RX2, TX2, 10, tyX2, rfl, by decide, zu_X2, tyX2_ok, nmX2, by decide, Or.inl (zin 7 50 rfl rfl), rfl, rfl⟩
theorem zf_X2_36 : zFI "ModedMill$Frame" 36 2 5 false .int := ⟨RX2, TX2, 10, tyX2, rfl, by decide, zu_X2, tyX2_ok, nmX2, by decide, Or.inl (zin 7 52 rfl rfl), rfl, rfl⟩
theorem zf_X2_39 : zFI "ModedMill$Frame" 39 2 6 false (.object "ModedMill$Clause") := ⟨RX2, TX2, 10, tyX2, rfl, by decide, zu_X2, tyX2_ok, nmX2, by decide, Or.inl (zin 7 54 rfl rfl), rfl, rfl⟩
theorem zf_X2_43 : zFI "ModedMill$Frame" 43 2 7 false .boolean := ⟨RX2, TX2, 10, tyX2, rfl, by decide, zu_X2, tyX2_ok, nmX2, by decide, Or.inl (zin 7 56 rfl rfl), rfl, rfl⟩
theorem zf_X2_47 : zFI "ModedMill$Frame" 47 2 8 false (.object "ModedMill$Frame") := ⟨RX2, TX2, 10, tyX2, rfl, by decide, zu_X2, tyX2_ok, nmX2, by decide, Or.inl (zin 7 58 rfl rfl), rfl, rfl⟩
theorem zf_X2_50 : zFI "ModedMill$Frame" 50 2 9 false .int := ⟨RX2, TX2, 10, tyX2, rfl, by decide, zu_X2, tyX2_ok, nmX2, by decide, Or.inl (zin 7 60 rfl rfl), rfl, rfl⟩
theorem zf_X2_9 : zFI "ModedMill$Frame" 9 2 0 true .int := ⟨RX2, TX2, 10, tyX2, rfl, by decide, zu_X2, tyX2_ok, nmX2, by decide, Or.inl (zin 7 43 rfl rfl), rfl, rfl⟩
theorem zf_X3_9 : zFI "ModedMill$Goal" 9 3 0 true .int := ⟨RX3, TX3, 4, tyX3, rfl, by decide, zu_X3, tyX3_ok, nmX3, by decide, Or.inl (zin 4 200 rfl rfl), rfl, rfl⟩
theorem zf_X3_15 : zFI "ModedMill$Goal" 15 3 1 true .int := ⟨RX3, TX3, 4, tyX3, rfl, by decide, zu_X3, tyX3_ok, nmX3, by decide, Or.inl (zin 4 204 rfl rfl), rfl, rfl⟩
theorem zf_X3_18 : zFI "ModedMill$Goal" 18 3 2 true .int := ⟨RX3, TX3, 4, tyX3, rfl, by decide, zu_X3, tyX3_ok, nmX3, by decide, Or.inl (zin 4 208 rfl rfl), rfl, rfl⟩
theorem zf_X3_21 : zFI "ModedMill$Goal" 21 3 3 true (.array .int) := ⟨RX3, TX3, 4, tyX3, rfl, by decide, zu_X3, tyX3_ok, nmX3, by decide, Or.inl (zin 4 213 rfl rfl), rfl, rfl⟩
theorem zc_X3_25 : zCV "ModedMill$Goal" 25 zm_X3_variableAt 1 := ⟨⟨rfl, zin 1 33 rfl rfl, zin 5 238 rfl rfl, by decide +kernel, by decide⟩, zin 5 235 rfl rfl, zin 5 236 rfl rfl, zin 5 237 rfl rfl⟩
theorem zf_X4_15 : zFI "ModedMill$Machine" 15 4 4 false (.object "ModedMill$Report") := ⟨RX4, TX4, 12, tyX4, rfl, by decide, zu_X4, tyX4_ok, nmX4, by decide, Or.inl (zin 3 73 rfl rfl), rfl, rfl⟩
theorem zc_X4_253 : zCV "ModedMill$Machine" 253 zm_X8_answerCount 0 := ⟨⟨rfl, zin 1 26 rfl rfl, zin 7 160 rfl rfl, by decide +kernel, by decide⟩, zin 7 157 rfl rfl, zin 7 158 rfl rfl, zin 7 159 rfl rfl⟩
theorem zc_X4_232 : zCV "ModedMill$Machine" 232 zm_X4_finish 1 := ⟨⟨rfl, zin 1 27 rfl rfl, zin 7 142 rfl rfl, by decide +kernel, by decide⟩, zin 7 139 rfl rfl, zin 7 141 rfl rfl, zin 0 29 rfl rfl⟩
theorem zf_X4_73 : zFI "ModedMill$Machine" 73 2 2 false (.object "ModedMill$Mode") := ⟨RX2, TX2, 10, tyX2, rfl, by decide, zu_X2, tyX2_ok, nmX2, by decide, Or.inr ⟨"ModedMill", (lw_ch_in 7 _ (List.mem_of_getElem? (i := 47) rfl))⟩, rfl, rfl⟩
theorem zf_X4_152 : zFI "ModedMill$Machine" 152 5 0 true (.object "ModedMill$Predicate") := ⟨RX5, TX5, 9, tyX5, rfl, by decide, zu_X5, tyX5_ok, nmX5, by decide, Or.inr ⟨"ModedMill", (lw_ch_in 5 _ (List.mem_of_getElem? (i := 105) rfl))⟩, rfl, rfl⟩
theorem zc_X4_256 : zCV "ModedMill$Machine" 256 zm_X6_arity 0 := ⟨⟨rfl, zin 1 32 rfl rfl, zin 6 33 rfl rfl, by decide +kernel, by decide⟩, zin 7 161 rfl rfl, zin 6 31 rfl rfl, zin 6 32 rfl rfl⟩
theorem zc_X4_203 : zCV "ModedMill$Machine" 203 zm_X2_valueOf 1 := ⟨⟨rfl, zin 1 37 rfl rfl, zin 7 119 rfl rfl, by decide +kernel, by decide⟩, zin 7 116 rfl rfl, zin 7 117 rfl rfl, zin 7 118 rfl rfl⟩
theorem zc_X4_259 : zCV "ModedMill$Machine" 259 zm_X8_addAnswer 3 := ⟨⟨rfl, zin 1 26 rfl rfl, zin 7 165 rfl rfl, by decide +kernel, by decide⟩, zin 7 162 rfl rfl, zin 7 163 rfl rfl, zin 7 164 rfl rfl⟩
theorem zf_X4_57 : zFI "ModedMill$Machine" 57 4 9 false .boolean := ⟨RX4, TX4, 12, tyX4, rfl, by decide, zu_X4, tyX4_ok, nmX4, by decide, Or.inl (zin 3 78 rfl rfl), rfl, rfl⟩
theorem zc_X4_125 : zCV "ModedMill$Machine" 125 zm_X2_setValue 2 := ⟨⟨rfl, zin 1 37 rfl rfl, zin 7 100 rfl rfl, by decide +kernel, by decide⟩, zin 7 97 rfl rfl, zin 7 98 rfl rfl, zin 7 99 rfl rfl⟩
theorem zf_X4_35 : zFI "ModedMill$Machine" 35 4 3 true (.object "ModedMill$Table") := ⟨RX4, TX4, 12, tyX4, rfl, by decide, zu_X4, tyX4_ok, nmX4, by decide, Or.inl (zin 3 72 rfl rfl), rfl, rfl⟩
theorem zf_X4_185 : zFI "ModedMill$Machine" 185 2 0 true .int := ⟨RX2, TX2, 10, tyX2, rfl, by decide, zu_X2, tyX2_ok, nmX2, by decide, Or.inr ⟨"ModedMill", (lw_ch_in 7 _ (List.mem_of_getElem? (i := 44) rfl))⟩, rfl, rfl⟩
theorem zc_X4_189 : zCV "ModedMill$Machine" 189 zm_X9_add 3 := ⟨⟨rfl, zin 1 3 rfl rfl, zin 1 74 rfl rfl, by decide +kernel, by decide⟩, zin 7 124 rfl rfl, zin 1 72 rfl rfl, zin 1 73 rfl rfl⟩
theorem zf_X4_31 : zFI "ModedMill$Machine" 31 4 2 true (.object "ModedMill$Table") := ⟨RX4, TX4, 12, tyX4, rfl, by decide, zu_X4, tyX4_ok, nmX4, by decide, Or.inl (zin 3 71 rfl rfl), rfl, rfl⟩
theorem zc_X4_107 : zCV "ModedMill$Machine" 107 zm_X9_cut 1 := ⟨⟨rfl, zin 1 3 rfl rfl, zin 7 18 rfl rfl, by decide +kernel, by decide⟩, zin 7 31 rfl rfl, zin 7 16 rfl rfl, zin 7 17 rfl rfl⟩
theorem zf_X4_110 : zFI "ModedMill$Machine" 110 4 5 false .int := ⟨RX4, TX4, 12, tyX4, rfl, by decide, zu_X4, tyX4_ok, nmX4, by decide, Or.inl (zin 3 74 rfl rfl), rfl, rfl⟩
theorem zf_X4_53 : zFI "ModedMill$Machine" 53 4 6 false (.object "ModedMill$Frame") := ⟨RX4, TX4, 12, tyX4, rfl, by decide, zu_X4, tyX4_ok, nmX4, by decide, Or.inl (zin 3 75 rfl rfl), rfl, rfl⟩
theorem zf_X4_69 : zFI "ModedMill$Machine" 69 4 7 false .int := ⟨RX4, TX4, 12, tyX4, rfl, by decide, zu_X4, tyX4_ok, nmX4, by decide, Or.inl (zin 3 76 rfl rfl), rfl, rfl⟩
theorem zf_X4_113 : zFI "ModedMill$Machine" 113 4 8 false (.object "ModedMill$Frame") := ⟨RX4, TX4, 12, tyX4, rfl, by decide, zu_X4, tyX4_ok, nmX4, by decide, Or.inl (zin 3 77 rfl rfl), rfl, rfl⟩
theorem zf_X4_49 : zFI "ModedMill$Machine" 49 4 10 false .boolean := ⟨RX4, TX4, 12, tyX4, rfl, by decide, zu_X4, tyX4_ok, nmX4, by decide, Or.inl (zin 3 79 rfl rfl), rfl, rfl⟩
theorem zf_X4_100 : zFI "ModedMill$Machine" 100 4 11 false .boolean := ⟨RX4, TX4, 12, tyX4, rfl, by decide, zu_X4, tyX4_ok, nmX4, by decide, Or.inl (zin 3 80 rfl rfl), rfl, rfl⟩
theorem zc_X4_116 : zCV "ModedMill$Machine" 116 zm_X4_newFrame 2 := ⟨⟨rfl, zin 1 27 rfl rfl, zin 7 35 rfl rfl, by decide +kernel, by decide⟩, zin 7 32 rfl rfl, zin 7 34 rfl rfl, zin 0 23 rfl rfl⟩
theorem zc_X4_120 : zCV "ModedMill$Machine" 120 zm_X8_inputAt 1 := ⟨⟨rfl, zin 1 26 rfl rfl, zin 7 95 rfl rfl, by decide +kernel, by decide⟩, zin 7 92 rfl rfl, zin 7 93 rfl rfl, zin 7 94 rfl rfl⟩
theorem zc_X4_128 : zCV "ModedMill$Machine" 128 zm_X4_enter 1 := ⟨⟨rfl, zin 1 27 rfl rfl, zin 7 104 rfl rfl, by decide +kernel, by decide⟩, zin 7 101 rfl rfl, zin 7 103 rfl rfl, zin 0 24 rfl rfl⟩
theorem zf_X4_60 : zFI "ModedMill$Machine" 60 2 6 false (.object "ModedMill$Clause") := ⟨RX2, TX2, 10, tyX2, rfl, by decide, zu_X2, tyX2_ok, nmX2, by decide, Or.inr ⟨"ModedMill", (lw_ch_in 7 _ (List.mem_of_getElem? (i := 55) rfl))⟩, rfl, rfl⟩
theorem zf_X4_77 : zFI "ModedMill$Machine" 77 5 1 true .int := ⟨RX5, TX5, 9, tyX5, rfl, by decide, zu_X5, tyX5_ok, nmX5, by decide, Or.inr ⟨"ModedMill", (lw_ch_in 5 _ (List.mem_of_getElem? (i := 110) rfl))⟩, rfl, rfl⟩
theorem zc_X4_294 : zCV "ModedMill$Machine" 294 zm_X1_chosenIn 2 := ⟨⟨rfl, zin 1 36 rfl rfl, zin 6 137 rfl rfl, by decide +kernel, by decide⟩, zin 7 185 rfl rfl, zin 6 135 rfl rfl, zin 6 136 rfl rfl⟩
theorem zf_X4_159 : zFI "ModedMill$Machine" 159 2 5 false .int := ⟨RX2, TX2, 10, tyX2, rfl, by decide, zu_X2, tyX2_ok, nmX2, by decide, Or.inr ⟨"ModedMill", (lw_ch_in 7 _ (List.mem_of_getElem? (i := 53) rfl))⟩, rfl, rfl⟩
theorem zf_X4_261 : zFI "ModedMill$Machine" 261 3 2 true .int := ⟨RX3, TX3, 4, tyX3, rfl, by decide, zu_X3, tyX3_ok, nmX3, by decide, Or.inr ⟨"ModedMill", (lw_ch_in 4 _ (List.mem_of_getElem? (i := 211) rfl))⟩, rfl, rfl⟩
theorem zc_X4_263 : zCV "ModedMill$Machine" 263 zm_X5_isInput 1 := ⟨⟨rfl, zin 1 35 rfl rfl, zin 6 96 rfl rfl, by decide +kernel, by decide⟩, zin 7 170 rfl rfl, zin 6 94 rfl rfl, zin 6 95 rfl rfl⟩
theorem zc_X4_267 : zCV "ModedMill$Machine" 267 zm_X3_variableAt 1 := ⟨⟨rfl, zin 1 33 rfl rfl, zin 5 238 rfl rfl, by decide +kernel, by decide⟩, zin 7 171 rfl rfl, zin 5 236 rfl rfl, zin 5 237 rfl rfl⟩
theorem zf_X4_284 : zFI "ModedMill$Machine" 284 3 0 true .int := ⟨RX3, TX3, 4, tyX3, rfl, by decide, zu_X3, tyX3_ok, nmX3, by decide, Or.inr ⟨"ModedMill", (lw_ch_in 4 _ (List.mem_of_getElem? (i := 202) rfl))⟩, rfl, rfl⟩
theorem zf_X4_246 : zFI "ModedMill$Machine" 246 2 7 false .boolean := ⟨RX2, TX2, 10, tyX2, rfl, by decide, zu_X2, tyX2_ok, nmX2, by decide, Or.inr ⟨"ModedMill", (lw_ch_in 7 _ (List.mem_of_getElem? (i := 57) rfl))⟩, rfl, rfl⟩
theorem zf_X4_217 : zFI "ModedMill$Machine" 217 2 8 false (.object "ModedMill$Frame") := ⟨RX2, TX2, 10, tyX2, rfl, by decide, zu_X2, tyX2_ok, nmX2, by decide, Or.inr ⟨"ModedMill", (lw_ch_in 7 _ (List.mem_of_getElem? (i := 59) rfl))⟩, rfl, rfl⟩
theorem zc_X4_186 : zCV "ModedMill$Machine" 186 zm_X9_count 0 := ⟨⟨rfl, zin 1 3 rfl rfl, zin 3 203 rfl rfl, by decide +kernel, by decide⟩, zin 7 123 rfl rfl, zin 3 201 rfl rfl, zin 3 202 rfl rfl⟩
theorem zf_X4_214 : zFI "ModedMill$Machine" 214 2 9 false .int := ⟨RX2, TX2, 10, tyX2, rfl, by decide, zu_X2, tyX2_ok, nmX2, by decide, Or.inr ⟨"ModedMill", (lw_ch_in 7 _ (List.mem_of_getElem? (i := 61) rfl))⟩, rfl, rfl⟩
theorem zf_X4_274 : zFI "ModedMill$Machine" 274 8 4 false .int := ⟨RX8, TX8, 10, tyX8, rfl, by decide, zu_X8, tyX8_ok, nmX8, by decide, Or.inr ⟨"ModedMill", (lw_ch_in 3 _ (List.mem_of_getElem? (i := 23) rfl))⟩, rfl, rfl⟩
theorem zc_X4_277 : zCV "ModedMill$Machine" 277 zm_X3_isCalling 0 := ⟨⟨rfl, zin 1 33 rfl rfl, zin 6 82 rfl rfl, by decide +kernel, by decide⟩, zin 7 180 rfl rfl, zin 6 80 rfl rfl, zin 6 81 rfl rfl⟩
theorem zc_X4_281 : zCV "ModedMill$Machine" 281 zm_X4_beginCall 2 := ⟨⟨rfl, zin 1 27 rfl rfl, zin 7 184 rfl rfl, by decide +kernel, by decide⟩, zin 7 181 rfl rfl, zin 7 183 rfl rfl, zin 0 36 rfl rfl⟩
theorem zc_X4_270 : zCV "ModedMill$Machine" 270 zm_X4_agrees 3 := ⟨⟨rfl, zin 1 27 rfl rfl, zin 7 175 rfl rfl, by decide +kernel, by decide⟩, zin 7 172 rfl rfl, zin 7 174 rfl rfl, zin 0 34 rfl rfl⟩
theorem zc_X4_287 : zCV "ModedMill$Machine" 287 zm_X4_build 2 := ⟨⟨rfl, zin 1 27 rfl rfl, zin 7 189 rfl rfl, by decide +kernel, by decide⟩, zin 7 186 rfl rfl, zin 7 188 rfl rfl, zin 0 37 rfl rfl⟩
theorem zc_X4_290 : zCV "ModedMill$Machine" 290 zm_X4_comesApart 3 := ⟨⟨rfl, zin 1 27 rfl rfl, zin 7 194 rfl rfl, by decide +kernel, by decide⟩, zin 7 191 rfl rfl, zin 7 193 rfl rfl, zin 0 38 rfl rfl⟩
theorem zf_X4_9 : zFI "ModedMill$Machine" 9 4 0 true (.object "ModedMill$Terms") := ⟨RX4, TX4, 12, tyX4, rfl, by decide, zu_X4, tyX4_ok, nmX4, by decide, Or.inl (zin 3 69 rfl rfl), rfl, rfl⟩
theorem zf_X4_209 : zFI "ModedMill$Machine" 209 3 1 true .int := ⟨RX3, TX3, 4, tyX3, rfl, by decide, zu_X3, tyX3_ok, nmX3, by decide, Or.inr ⟨"ModedMill", (lw_ch_in 4 _ (List.mem_of_getElem? (i := 205) rfl))⟩, rfl, rfl⟩
theorem zc_X4_298 : zCV "ModedMill$Machine" 298 zm_X10_make 3 := ⟨⟨rfl, zin 1 2 rfl rfl, zin 4 125 rfl rfl, by decide +kernel, by decide⟩, zin 7 190 rfl rfl, zin 4 123 rfl rfl, zin 4 124 rfl rfl⟩
theorem zc_X4_206 : zCV "ModedMill$Machine" 206 zm_X10_headOf 1 := ⟨⟨rfl, zin 1 2 rfl rfl, zin 4 117 rfl rfl, by decide +kernel, by decide⟩, zin 7 120 rfl rfl, zin 4 115 rfl rfl, zin 4 116 rfl rfl⟩
theorem zc_X4_301 : zCV "ModedMill$Machine" 301 zm_X10_part 2 := ⟨⟨rfl, zin 1 2 rfl rfl, zin 4 163 rfl rfl, by decide +kernel, by decide⟩, zin 7 195 rfl rfl, zin 4 161 rfl rfl, zin 4 162 rfl rfl⟩
theorem zf_X4_156 : zFI "ModedMill$Machine" 156 6 0 true .int := ⟨RX6, TX6, 5, tyX6, rfl, by decide, zu_X6, tyX6_ok, nmX6, by decide, Or.inr ⟨"ModedMill", (lw_ch_in 4 _ (List.mem_of_getElem? (i := 225) rfl))⟩, rfl, rfl⟩
theorem zc_X4_162 : zCV "ModedMill$Machine" 162 zm_X8_note 3 := ⟨⟨rfl, zin 1 26 rfl rfl, zin 7 108 rfl rfl, by decide +kernel, by decide⟩, zin 7 105 rfl rfl, zin 7 106 rfl rfl, zin 7 107 rfl rfl⟩
theorem zf_X4_166 : zFI "ModedMill$Machine" 166 8 6 false .int := ⟨RX8, TX8, 10, tyX8, rfl, by decide, zu_X8, tyX8_ok, nmX8, by decide, Or.inr ⟨"ModedMill", (lw_ch_in 3 _ (List.mem_of_getElem? (i := 29) rfl))⟩, rfl, rfl⟩
theorem zc_X4_175 : zCV "ModedMill$Machine" 175 zm_X4_firstClause 1 := ⟨⟨rfl, zin 1 27 rfl rfl, zin 7 114 rfl rfl, by decide +kernel, by decide⟩, zin 7 111 rfl rfl, zin 7 113 rfl rfl, zin 0 25 rfl rfl⟩
theorem zf_X4_179 : zFI "ModedMill$Machine" 179 5 8 false .int := ⟨RX5, TX5, 9, tyX5, rfl, by decide, zu_X5, tyX5_ok, nmX5, by decide, Or.inr ⟨"ModedMill", (lw_ch_in 5 _ (List.mem_of_getElem? (i := 127) rfl))⟩, rfl, rfl⟩
theorem zc_X4_182 : zCV "ModedMill$Machine" 182 zm_X6_clauseCount 0 := ⟨⟨rfl, zin 1 32 rfl rfl, zin 6 50 rfl rfl, by decide +kernel, by decide⟩, zin 7 121 rfl rfl, zin 6 48 rfl rfl, zin 6 49 rfl rfl⟩
theorem zf_X4_192 : zFI "ModedMill$Machine" 192 8 5 false .int := ⟨RX8, TX8, 10, tyX8, rfl, by decide, zu_X8, tyX8_ok, nmX8, by decide, Or.inr ⟨"ModedMill", (lw_ch_in 3 _ (List.mem_of_getElem? (i := 26) rfl))⟩, rfl, rfl⟩
theorem zc_X4_195 : zCV "ModedMill$Machine" 195 zm_X4_tryClause 2 := ⟨⟨rfl, zin 1 27 rfl rfl, zin 7 128 rfl rfl, by decide +kernel, by decide⟩, zin 7 125 rfl rfl, zin 7 127 rfl rfl, zin 0 26 rfl rfl⟩
theorem zf_X4_148 : zFI "ModedMill$Machine" 148 8 7 false .char := ⟨RX8, TX8, 10, tyX8, rfl, by decide, zu_X8, tyX8_ok, nmX8, by decide, Or.inr ⟨"ModedMill", (lw_ch_in 3 _ (List.mem_of_getElem? (i := 32) rfl))⟩, rfl, rfl⟩
theorem zc_X4_199 : zCV "ModedMill$Machine" 199 zm_X6_clauseAt 1 := ⟨⟨rfl, zin 1 32 rfl rfl, zin 6 54 rfl rfl, by decide +kernel, by decide⟩, zin 7 115 rfl rfl, zin 6 52 rfl rfl, zin 6 53 rfl rfl⟩
theorem zc_X4_92 : zCV "ModedMill$Machine" 92 zm_X1_goalIn 2 := ⟨⟨rfl, zin 1 36 rfl rfl, zin 6 125 rfl rfl, by decide +kernel, by decide⟩, zin 7 122 rfl rfl, zin 6 123 rfl rfl, zin 6 124 rfl rfl⟩
theorem zf_X4_22 : zFI "ModedMill$Machine" 22 4 1 true (.object "java/util/ArrayList") := ⟨RX4, TX4, 12, tyX4, rfl, by decide, zu_X4, tyX4_ok, nmX4, by decide, Or.inl (zin 3 70 rfl rfl), rfl, rfl⟩
theorem zc_X4_131 : zCV "ModedMill$Machine" 131 zm_Jx4a65c_size_8abf5 0 := ⟨⟨rfl, zin 1 25 rfl rfl, zin 4 175 rfl rfl, by decide +kernel, by decide⟩, zin 7 36 rfl rfl, zin 4 173 rfl rfl, zin 4 174 rfl rfl⟩
theorem zc_X4_141 : zCV "ModedMill$Machine" 141 zm_Jx4a65c_get_915e3 1 := ⟨⟨rfl, zin 1 25 rfl rfl, zin 5 69 rfl rfl, by decide +kernel, by decide⟩, zin 7 84 rfl rfl, zin 5 67 rfl rfl, zin 5 68 rfl rfl⟩
theorem zf_X4_220 : zFI "ModedMill$Machine" 220 2 3 false (.object "ModedMill$Frame") := ⟨RX2, TX2, 10, tyX2, rfl, by decide, zu_X2, tyX2_ok, nmX2, by decide, Or.inr ⟨"ModedMill", (lw_ch_in 7 _ (List.mem_of_getElem? (i := 49) rfl))⟩, rfl, rfl⟩
theorem zf_X4_223 : zFI "ModedMill$Machine" 223 2 4 false .int := ⟨RX2, TX2, 10, tyX2, rfl, by decide, zu_X2, tyX2_ok, nmX2, by decide, Or.inr ⟨"ModedMill", (lw_ch_in 7 _ (List.mem_of_getElem? (i := 51) rfl))⟩, rfl, rfl⟩
theorem zc_X4_226 : zCV "ModedMill$Machine" 226 zm_X9_get 2 := ⟨⟨rfl, zin 1 3 rfl rfl, zin 4 100 rfl rfl, by decide +kernel, by decide⟩, zin 7 134 rfl rfl, zin 4 98 rfl rfl, zin 4 99 rfl rfl⟩
theorem zc_X4_228 : zCV "ModedMill$Machine" 228 zm_X4_frameAt 1 := ⟨⟨rfl, zin 1 27 rfl rfl, zin 7 138 rfl rfl, by decide +kernel, by decide⟩, zin 7 135 rfl rfl, zin 7 137 rfl rfl, zin 0 28 rfl rfl⟩
theorem zc_X4_236 : zCV "ModedMill$Machine" 236 zm_X4_undo 1 := ⟨⟨rfl, zin 1 27 rfl rfl, zin 7 146 rfl rfl, by decide +kernel, by decide⟩, zin 7 143 rfl rfl, zin 7 145 rfl rfl, zin 0 30 rfl rfl⟩
theorem zc_X4_239 : zCV "ModedMill$Machine" 239 zm_X9_set 3 := ⟨⟨rfl, zin 1 3 rfl rfl, zin 2 189 rfl rfl, by decide +kernel, by decide⟩, zin 7 147 rfl rfl, zin 2 187 rfl rfl, zin 2 188 rfl rfl⟩
theorem zn_X4_19 : zNI "ModedMill$Machine" 19 12 3 [zI 0, zN, zI 0] := ⟨RJx4a65c, TJx4a65c, tyJx4a65c, rfl, by decide, zu_Jx4a65c, tyJx4a65c_ok, zin 3 65 rfl rfl, zin 2 214 rfl rfl, zin 1 25 rfl rfl, fun j hj => by rcases (show j = 0 ∨ j = 1 ∨ j = 2 by omega) with rfl | rfl | rfl <;> rfl, zfit_all (by decide)⟩
theorem zc_X4_21 : zCC "ModedMill$Machine" 21 zm_Jx4a65c_init_da8c8 0 := ⟨⟨rfl, zin 1 25 rfl rfl, zin 2 217 rfl rfl, by decide +kernel, by decide⟩, zin 3 66 rfl rfl, zin 2 216 rfl rfl, rfl, rfl⟩
theorem zn_X4_26 : zNI "ModedMill$Machine" 26 9 3 [zI 0, zN, zI 0] := ⟨RX9, TX9, tyX9, rfl, by decide, zu_X9, tyX9_ok, zin 3 67 rfl rfl, zin 1 54 rfl rfl, zin 1 3 rfl rfl, fun j hj => by rcases (show j = 0 ∨ j = 1 ∨ j = 2 by omega) with rfl | rfl | rfl <;> rfl, zfit_all (by decide)⟩
theorem zc_X4_28 : zCC "ModedMill$Machine" 28 zm_X9_init 2 := ⟨⟨rfl, zin 1 3 rfl rfl, zin 1 57 rfl rfl, by decide +kernel, by decide⟩, zin 3 68 rfl rfl, zin 1 56 rfl rfl, rfl, rfl⟩
theorem zc_X4_243 : zCV "ModedMill$Machine" 243 zm_X4_addAnswer 1 := ⟨⟨rfl, zin 1 27 rfl rfl, zin 7 156 rfl rfl, by decide +kernel, by decide⟩, zin 7 153 rfl rfl, zin 7 155 rfl rfl, zin 0 32 rfl rfl⟩
theorem zc_X4_249 : zCV "ModedMill$Machine" 249 zm_X4_handsBack 2 := ⟨⟨rfl, zin 1 27 rfl rfl, zin 7 169 rfl rfl, by decide +kernel, by decide⟩, zin 7 166 rfl rfl, zin 7 168 rfl rfl, zin 0 33 rfl rfl⟩
theorem zc_X4_134 : zCC "ModedMill$Machine" 134 zm_X2_init 2 := ⟨⟨rfl, zin 1 37 rfl rfl, zin 7 41 rfl rfl, by decide +kernel, by decide⟩, zin 7 39 rfl rfl, zin 7 40 rfl rfl, rfl, rfl⟩
theorem zc_X4_137 : zCV "ModedMill$Machine" 137 zm_Jx4a65c_add_9ea2d 1 := ⟨⟨rfl, zin 1 25 rfl rfl, zin 5 7 rfl rfl, by decide +kernel, by decide⟩, zin 7 83 rfl rfl, zin 5 5 rfl rfl, zin 5 6 rfl rfl⟩
theorem zc_X4_145 : zCV "ModedMill$Machine" 145 zm_X2_begin 3 := ⟨⟨rfl, zin 1 37 rfl rfl, zin 7 88 rfl rfl, by decide +kernel, by decide⟩, zin 7 85 rfl rfl, zin 7 86 rfl rfl, zin 7 87 rfl rfl⟩
theorem zc_X4_38 : zCV "ModedMill$Machine" 38 zm_X10_termCount 0 := ⟨⟨rfl, zin 1 2 rfl rfl, zin 3 236 rfl rfl, by decide +kernel, by decide⟩, zin 7 26 rfl rfl, zin 3 234 rfl rfl, zin 3 235 rfl rfl⟩
theorem zc_X4_44 : zCV "ModedMill$Machine" 44 zm_X4_begin 2 := ⟨⟨rfl, zin 1 27 rfl rfl, zin 7 30 rfl rfl, by decide +kernel, by decide⟩, zin 7 27 rfl rfl, zin 7 29 rfl rfl, zin 0 22 rfl rfl⟩
theorem zc_X4_66 : zCV "ModedMill$Machine" 66 zm_X4_goBack 0 := ⟨⟨rfl, zin 1 27 rfl rfl, zin 7 133 rfl rfl, by decide +kernel, by decide⟩, zin 7 130 rfl rfl, zin 7 132 rfl rfl, zin 0 27 rfl rfl⟩
theorem zc_X4_82 : zCV "ModedMill$Machine" 82 zm_X1_placeCount 1 := ⟨⟨rfl, zin 1 36 rfl rfl, zin 6 112 rfl rfl, by decide +kernel, by decide⟩, zin 7 148 rfl rfl, zin 6 110 rfl rfl, zin 6 111 rfl rfl⟩
theorem zc_X4_88 : zCV "ModedMill$Machine" 88 zm_X4_leave 1 := ⟨⟨rfl, zin 1 27 rfl rfl, zin 7 152 rfl rfl, by decide +kernel, by decide⟩, zin 7 149 rfl rfl, zin 7 151 rfl rfl, zin 0 31 rfl rfl⟩
theorem zc_X4_96 : zCV "ModedMill$Machine" 96 zm_X4_beginGoal 2 := ⟨⟨rfl, zin 1 27 rfl rfl, zin 7 179 rfl rfl, by decide +kernel, by decide⟩, zin 7 176 rfl rfl, zin 7 178 rfl rfl, zin 0 35 rfl rfl⟩
theorem zc_X4_103 : zCV "ModedMill$Machine" 103 zm_X10_forgetFrom 1 := ⟨⟨rfl, zin 1 2 rfl rfl, zin 7 199 rfl rfl, by decide +kernel, by decide⟩, zin 7 196 rfl rfl, zin 7 197 rfl rfl, zin 7 198 rfl rfl⟩
theorem zf_X5_36 : zFI "ModedMill$Mode" 36 5 4 false .boolean := ⟨RX5, TX5, 9, tyX5, rfl, by decide, zu_X5, tyX5_ok, nmX5, by decide, Or.inl (zin 5 116 rfl rfl), rfl, rfl⟩
theorem zf_X5_39 : zFI "ModedMill$Mode" 39 5 5 false .boolean := ⟨RX5, TX5, 9, tyX5, rfl, by decide, zu_X5, tyX5_ok, nmX5, by decide, Or.inl (zin 5 119 rfl rfl), rfl, rfl⟩
theorem zc_X5_42 : zCV "ModedMill$Mode" 42 zm_X5_isBroken 0 := ⟨⟨rfl, zin 1 35 rfl rfl, zin 6 181 rfl rfl, by decide +kernel, by decide⟩, zin 6 178 rfl rfl, zin 6 180 rfl rfl, zin 0 16 rfl rfl⟩
theorem zf_X5_29 : zFI "ModedMill$Mode" 29 5 7 false .boolean := ⟨RX5, TX5, 9, tyX5, rfl, by decide, zu_X5, tyX5_ok, nmX5, by decide, Or.inl (zin 5 124 rfl rfl), rfl, rfl⟩
theorem zf_X5_33 : zFI "ModedMill$Mode" 33 5 6 false .boolean := ⟨RX5, TX5, 9, tyX5, rfl, by decide, zu_X5, tyX5_ok, nmX5, by decide, Or.inl (zin 5 122 rfl rfl), rfl, rfl⟩
theorem zf_X5_9 : zFI "ModedMill$Mode" 9 5 0 true (.object "ModedMill$Predicate") := ⟨RX5, TX5, 9, tyX5, rfl, by decide, zu_X5, tyX5_ok, nmX5, by decide, Or.inl (zin 5 103 rfl rfl), rfl, rfl⟩
theorem zf_X5_15 : zFI "ModedMill$Mode" 15 5 1 true .int := ⟨RX5, TX5, 9, tyX5, rfl, by decide, zu_X5, tyX5_ok, nmX5, by decide, Or.inl (zin 5 109 rfl rfl), rfl, rfl⟩
theorem zf_X5_19 : zFI "ModedMill$Mode" 19 5 2 true .int := ⟨RX5, TX5, 9, tyX5, rfl, by decide, zu_X5, tyX5_ok, nmX5, by decide, Or.inl (zin 5 113 rfl rfl), rfl, rfl⟩
theorem zf_X5_22 : zFI "ModedMill$Mode" 22 5 3 true .char := ⟨RX5, TX5, 9, tyX5, rfl, by decide, zu_X5, tyX5_ok, nmX5, by decide, Or.inl (zin 5 115 rfl rfl), rfl, rfl⟩
theorem zf_X5_26 : zFI "ModedMill$Mode" 26 5 8 false .int := ⟨RX5, TX5, 9, tyX5, rfl, by decide, zu_X5, tyX5_ok, nmX5, by decide, Or.inl (zin 5 126 rfl rfl), rfl, rfl⟩
theorem zf_X6_20 : zFI "ModedMill$Predicate" 20 6 1 true (.object "ModedMill$Table") := ⟨RX6, TX6, 5, tyX6, rfl, by decide, zu_X6, tyX6_ok, nmX6, by decide, Or.inl (zin 4 226 rfl rfl), rfl, rfl⟩
theorem zc_X6_51 : zCV "ModedMill$Predicate" 51 zm_X9_count 0 := ⟨⟨rfl, zin 1 3 rfl rfl, zin 3 203 rfl rfl, by decide +kernel, by decide⟩, zin 5 84 rfl rfl, zin 3 201 rfl rfl, zin 3 202 rfl rfl⟩
theorem zf_X6_39 : zFI "ModedMill$Predicate" 39 6 3 true (.object "java/util/ArrayList") := ⟨RX6, TX6, 5, tyX6, rfl, by decide, zu_X6, tyX6_ok, nmX6, by decide, Or.inl (zin 4 229 rfl rfl), rfl, rfl⟩
theorem zc_X6_59 : zCV "ModedMill$Predicate" 59 zm_Jx4a65c_size_8abf5 0 := ⟨⟨rfl, zin 1 25 rfl rfl, zin 4 175 rfl rfl, by decide +kernel, by decide⟩, zin 5 92 rfl rfl, zin 4 173 rfl rfl, zin 4 174 rfl rfl⟩
theorem zc_X6_62 : zCV "ModedMill$Predicate" 62 zm_Jx4a65c_get_915e3 1 := ⟨⟨rfl, zin 1 25 rfl rfl, zin 5 69 rfl rfl, by decide +kernel, by decide⟩, zin 6 55 rfl rfl, zin 5 67 rfl rfl, zin 5 68 rfl rfl⟩
theorem zf_X6_9 : zFI "ModedMill$Predicate" 9 6 0 true .int := ⟨RX6, TX6, 5, tyX6, rfl, by decide, zu_X6, tyX6_ok, nmX6, by decide, Or.inl (zin 4 223 rfl rfl), rfl, rfl⟩
theorem zn_X6_15 : zNI "ModedMill$Predicate" 15 9 3 [zI 0, zN, zI 0] := ⟨RX9, TX9, tyX9, rfl, by decide, zu_X9, tyX9_ok, zin 4 186 rfl rfl, zin 1 54 rfl rfl, zin 1 3 rfl rfl, fun j hj => by rcases (show j = 0 ∨ j = 1 ∨ j = 2 by omega) with rfl | rfl | rfl <;> rfl, zfit_all (by decide)⟩
theorem zc_X6_17 : zCC "ModedMill$Predicate" 17 zm_X9_init 2 := ⟨⟨rfl, zin 1 3 rfl rfl, zin 1 57 rfl rfl, by decide +kernel, by decide⟩, zin 4 187 rfl rfl, zin 1 56 rfl rfl, rfl, rfl⟩
theorem zc_X6_24 : zCN "ModedMill$Predicate" 24 zm_X11_pick 4 := ⟨⟨rfl, zin 1 1 rfl rfl, zin 4 190 rfl rfl, by decide +kernel, by decide⟩, ⟨"ModedMill", (lw_ch_in 4 _ (List.mem_of_getElem? (i := 188) rfl))⟩, zin 4 189 rfl rfl⟩
theorem zc_X6_28 : zCV "ModedMill$Predicate" 28 zm_X9_add 3 := ⟨⟨rfl, zin 1 3 rfl rfl, zin 1 74 rfl rfl, by decide +kernel, by decide⟩, zin 4 191 rfl rfl, zin 1 72 rfl rfl, zin 1 73 rfl rfl⟩
theorem zn_X6_32 : zNI "ModedMill$Predicate" 32 12 3 [zI 0, zN, zI 0] := ⟨RJx4a65c, TJx4a65c, tyJx4a65c, rfl, by decide, zu_Jx4a65c, tyJx4a65c_ok, zin 4 192 rfl rfl, zin 2 214 rfl rfl, zin 1 25 rfl rfl, fun j hj => by rcases (show j = 0 ∨ j = 1 ∨ j = 2 by omega) with rfl | rfl | rfl <;> rfl, zfit_all (by decide)⟩
theorem zc_X6_34 : zCC "ModedMill$Predicate" 34 zm_Jx4a65c_init_da8c8 0 := ⟨⟨rfl, zin 1 25 rfl rfl, zin 2 217 rfl rfl, by decide +kernel, by decide⟩, zin 4 193 rfl rfl, zin 2 216 rfl rfl, rfl, rfl⟩
theorem zf_X6_35 : zFI "ModedMill$Predicate" 35 6 2 true (.object "java/util/ArrayList") := ⟨RX6, TX6, 5, tyX6, rfl, by decide, zu_X6, tyX6_ok, nmX6, by decide, Or.inl (zin 4 227 rfl rfl), rfl, rfl⟩
theorem zn_X6_42 : zNI "ModedMill$Predicate" 42 3 4 [zI 0, zI 0, zI 0, zN] := ⟨RX3, TX3, tyX3, rfl, by decide, zu_X3, tyX3_ok, zin 4 194 rfl rfl, zin 4 195 rfl rfl, zin 1 33 rfl rfl, fun j hj => by rcases (show j = 0 ∨ j = 1 ∨ j = 2 ∨ j = 3 by omega) with rfl | rfl | rfl | rfl <;> rfl, zfit_all (by decide)⟩
theorem zc_X6_44 : zCC "ModedMill$Predicate" 44 zm_X3_init 6 := ⟨⟨rfl, zin 1 33 rfl rfl, zin 4 198 rfl rfl, by decide +kernel, by decide⟩, zin 4 196 rfl rfl, zin 4 197 rfl rfl, rfl, rfl⟩
theorem zf_X6_47 : zFI "ModedMill$Predicate" 47 6 4 true (.object "ModedMill$Goal") := ⟨RX6, TX6, 5, tyX6, rfl, by decide, zu_X6, tyX6_ok, nmX6, by decide, Or.inl (zin 4 231 rfl rfl), rfl, rfl⟩
theorem zc_X6_55 : zCV "ModedMill$Predicate" 55 zm_X9_get 2 := ⟨⟨rfl, zin 1 3 rfl rfl, zin 4 100 rfl rfl, by decide +kernel, by decide⟩, zin 5 173 rfl rfl, zin 4 98 rfl rfl, zin 4 99 rfl rfl⟩
theorem zf_X7_18 : zFI "ModedMill$Program" 18 7 1 true (.object "java/util/ArrayList") := ⟨RX7, TX7, 3, tyX7, rfl, by decide, zu_X7, tyX7_ok, nmX7, by decide, Or.inl (zin 3 0 rfl rfl), rfl, rfl⟩
theorem zc_X7_24 : zCV "ModedMill$Program" 24 zm_Jx4a65c_size_8abf5 0 := ⟨⟨rfl, zin 1 25 rfl rfl, zin 4 175 rfl rfl, by decide +kernel, by decide⟩, zin 4 172 rfl rfl, zin 4 173 rfl rfl, zin 4 174 rfl rfl⟩
theorem zc_X7_28 : zCV "ModedMill$Program" 28 zm_Jx4a65c_get_915e3 1 := ⟨⟨rfl, zin 1 25 rfl rfl, zin 5 69 rfl rfl, by decide +kernel, by decide⟩, zin 5 66 rfl rfl, zin 5 67 rfl rfl, zin 5 68 rfl rfl⟩
theorem zc_X7_77 : zCV "ModedMill$Program" 77 zm_X7_putInOrder 1 := ⟨⟨rfl, zin 1 22 rfl rfl, zin 6 46 rfl rfl, by decide +kernel, by decide⟩, zin 6 43 rfl rfl, zin 6 45 rfl rfl, zin 0 9 rfl rfl⟩
theorem zf_X7_81 : zFI "ModedMill$Program" 81 5 4 false .boolean := ⟨RX5, TX5, 9, tyX5, rfl, by decide, zu_X5, tyX5_ok, nmX5, by decide, Or.inr ⟨"ModedMill", (lw_ch_in 5 _ (List.mem_of_getElem? (i := 117) rfl))⟩, rfl, rfl⟩
theorem zf_X7_70 : zFI "ModedMill$Program" 70 5 5 false .boolean := ⟨RX5, TX5, 9, tyX5, rfl, by decide, zu_X5, tyX5_ok, nmX5, by decide, Or.inr ⟨"ModedMill", (lw_ch_in 5 _ (List.mem_of_getElem? (i := 120) rfl))⟩, rfl, rfl⟩
theorem zf_X7_84 : zFI "ModedMill$Program" 84 5 6 false .boolean := ⟨RX5, TX5, 9, tyX5, rfl, by decide, zu_X5, tyX5_ok, nmX5, by decide, Or.inr ⟨"ModedMill", (lw_ch_in 5 _ (List.mem_of_getElem? (i := 123) rfl))⟩, rfl, rfl⟩
theorem zf_X7_74 : zFI "ModedMill$Program" 74 5 7 false .boolean := ⟨RX5, TX5, 9, tyX5, rfl, by decide, zu_X5, tyX5_ok, nmX5, by decide, Or.inr ⟨"ModedMill", (lw_ch_in 5 _ (List.mem_of_getElem? (i := 125) rfl))⟩, rfl, rfl⟩
theorem zc_X7_87 : zCS "ModedMill$Program" 87 zm_X7_findSwitch 1 := ⟨⟨rfl, zin 1 22 rfl rfl, zin 6 121 rfl rfl, by decide +kernel, by decide⟩, zin 6 119 rfl rfl, zin 6 120 rfl rfl⟩
theorem zf_X7_91 : zFI "ModedMill$Program" 91 5 8 false .int := ⟨RX5, TX5, 9, tyX5, rfl, by decide, zu_X5, tyX5_ok, nmX5, by decide, Or.inr ⟨"ModedMill", (lw_ch_in 5 _ (List.mem_of_getElem? (i := 128) rfl))⟩, rfl, rfl⟩
theorem zc_X7_94 : zCV "ModedMill$Program" 94 zm_X7_spreadFaults 0 := ⟨⟨rfl, zin 1 22 rfl rfl, zin 6 129 rfl rfl, by decide +kernel, by decide⟩, zin 6 126 rfl rfl, zin 6 128 rfl rfl, zin 0 14 rfl rfl⟩
theorem zc_X7_98 : zCV "ModedMill$Program" 98 zm_X7_spreadFound 1 := ⟨⟨rfl, zin 1 22 rfl rfl, zin 6 141 rfl rfl, by decide +kernel, by decide⟩, zin 6 138 rfl rfl, zin 6 140 rfl rfl, zin 0 15 rfl rfl⟩
theorem zf_X7_174 : zFI "ModedMill$Program" 174 3 2 true .int := ⟨RX3, TX3, 4, tyX3, rfl, by decide, zu_X3, tyX3_ok, nmX3, by decide, Or.inr ⟨"ModedMill", (lw_ch_in 4 _ (List.mem_of_getElem? (i := 212) rfl))⟩, rfl, rfl⟩
theorem zc_X7_177 : zCV "ModedMill$Program" 177 zm_X5_isInput 1 := ⟨⟨rfl, zin 1 35 rfl rfl, zin 6 96 rfl rfl, by decide +kernel, by decide⟩, zin 6 93 rfl rfl, zin 6 94 rfl rfl, zin 6 95 rfl rfl⟩
theorem zc_X7_156 : zCV "ModedMill$Program" 156 zm_X3_variableAt 1 := ⟨⟨rfl, zin 1 33 rfl rfl, zin 5 238 rfl rfl, by decide +kernel, by decide⟩, zin 6 97 rfl rfl, zin 5 236 rfl rfl, zin 5 237 rfl rfl⟩
theorem zf_X7_159 : zFI "ModedMill$Program" 159 3 0 true .int := ⟨RX3, TX3, 4, tyX3, rfl, by decide, zu_X3, tyX3_ok, nmX3, by decide, Or.inr ⟨"ModedMill", (lw_ch_in 4 _ (List.mem_of_getElem? (i := 203) rfl))⟩, rfl, rfl⟩
theorem zc_X7_143 : zCV "ModedMill$Program" 143 zm_X3_variableSet 1 := ⟨⟨rfl, zin 1 33 rfl rfl, zin 6 104 rfl rfl, by decide +kernel, by decide⟩, zin 6 101 rfl rfl, zin 6 102 rfl rfl, zin 6 103 rfl rfl⟩
theorem zf_X7_57 : zFI "ModedMill$Program" 57 5 1 true .int := ⟨RX5, TX5, 9, tyX5, rfl, by decide, zu_X5, tyX5_ok, nmX5, by decide, Or.inr ⟨"ModedMill", (lw_ch_in 5 _ (List.mem_of_getElem? (i := 111) rfl))⟩, rfl, rfl⟩
theorem zc_X7_188 : zCV "ModedMill$Program" 188 zm_X1_placeCount 1 := ⟨⟨rfl, zin 1 36 rfl rfl, zin 6 112 rfl rfl, by decide +kernel, by decide⟩, zin 6 133 rfl rfl, zin 6 110 rfl rfl, zin 6 111 rfl rfl⟩
theorem zc_X7_181 : zCV "ModedMill$Program" 181 zm_X1_goalIn 2 := ⟨⟨rfl, zin 1 36 rfl rfl, zin 6 125 rfl rfl, by decide +kernel, by decide⟩, zin 6 122 rfl rfl, zin 6 123 rfl rfl, zin 6 124 rfl rfl⟩
theorem zc_X7_222 : zCV "ModedMill$Program" 222 zm_X1_knownIn 2 := ⟨⟨rfl, zin 1 36 rfl rfl, zin 6 151 rfl rfl, by decide +kernel, by decide⟩, zin 6 148 rfl rfl, zin 6 149 rfl rfl, zin 6 150 rfl rfl⟩
theorem zc_X7_191 : zCV "ModedMill$Program" 191 zm_X1_chosenIn 2 := ⟨⟨rfl, zin 1 36 rfl rfl, zin 6 137 rfl rfl, by decide +kernel, by decide⟩, zin 6 134 rfl rfl, zin 6 135 rfl rfl, zin 6 136 rfl rfl⟩
theorem zc_X7_226 : zCS "ModedMill$Program" 226 zm_X7_clashes 3 := ⟨⟨rfl, zin 1 22 rfl rfl, zin 6 154 rfl rfl, by decide +kernel, by decide⟩, zin 6 152 rfl rfl, zin 6 153 rfl rfl⟩
theorem zc_X7_229 : zCS "ModedMill$Program" 229 zm_X7_canGoalFail 3 := ⟨⟨rfl, zin 1 22 rfl rfl, zin 6 157 rfl rfl, by decide +kernel, by decide⟩, zin 6 155 rfl rfl, zin 6 156 rfl rfl⟩
theorem zf_X7_102 : zFI "ModedMill$Program" 102 5 0 true (.object "ModedMill$Predicate") := ⟨RX5, TX5, 9, tyX5, rfl, by decide, zu_X5, tyX5_ok, nmX5, by decide, Or.inr ⟨"ModedMill", (lw_ch_in 5 _ (List.mem_of_getElem? (i := 107) rfl))⟩, rfl, rfl⟩
theorem zc_X7_106 : zCV "ModedMill$Program" 106 zm_X6_clauseCount 0 := ⟨⟨rfl, zin 1 32 rfl rfl, zin 6 50 rfl rfl, by decide +kernel, by decide⟩, zin 6 47 rfl rfl, zin 6 48 rfl rfl, zin 6 49 rfl rfl⟩
theorem zc_X7_109 : zCV "ModedMill$Program" 109 zm_X6_clauseAt 1 := ⟨⟨rfl, zin 1 32 rfl rfl, zin 6 54 rfl rfl, by decide +kernel, by decide⟩, zin 6 51 rfl rfl, zin 6 52 rfl rfl, zin 6 53 rfl rfl⟩
theorem zc_X7_202 : zCS "ModedMill$Program" 202 zm_X7_canClauseFail 2 := ⟨⟨rfl, zin 1 22 rfl rfl, zin 6 147 rfl rfl, by decide +kernel, by decide⟩, zin 6 145 rfl rfl, zin 6 146 rfl rfl⟩
theorem zc_X7_205 : zCS "ModedMill$Program" 205 zm_X7_isTypeCovered 2 := ⟨⟨rfl, zin 1 22 rfl rfl, zin 6 160 rfl rfl, by decide +kernel, by decide⟩, zin 6 158 rfl rfl, zin 6 159 rfl rfl⟩
theorem zc_X7_219 : zCS "ModedMill$Program" 219 zm_X7_canClauseRepeat 2 := ⟨⟨rfl, zin 1 22 rfl rfl, zin 6 169 rfl rfl, by decide +kernel, by decide⟩, zin 6 167 rfl rfl, zin 6 168 rfl rfl⟩
theorem zc_X7_162 : zCV "ModedMill$Program" 162 zm_X3_isCalling 0 := ⟨⟨rfl, zin 1 33 rfl rfl, zin 6 82 rfl rfl, by decide +kernel, by decide⟩, zin 6 79 rfl rfl, zin 6 80 rfl rfl, zin 6 81 rfl rfl⟩
theorem zf_X7_165 : zFI "ModedMill$Program" 165 3 1 true .int := ⟨RX3, TX3, 4, tyX3, rfl, by decide, zu_X3, tyX3_ok, nmX3, by decide, Or.inr ⟨"ModedMill", (lw_ch_in 4 _ (List.mem_of_getElem? (i := 207) rfl))⟩, rfl, rfl⟩
theorem zc_X7_36 : zCV "ModedMill$Program" 36 zm_X7_predicateAt 1 := ⟨⟨rfl, zin 1 22 rfl rfl, zin 5 65 rfl rfl, by decide +kernel, by decide⟩, zin 6 83 rfl rfl, zin 5 63 rfl rfl, zin 5 64 rfl rfl⟩
theorem zc_X7_168 : zCV "ModedMill$Program" 168 zm_X6_modeCount 0 := ⟨⟨rfl, zin 1 32 rfl rfl, zin 5 91 rfl rfl, by decide +kernel, by decide⟩, zin 6 84 rfl rfl, zin 5 89 rfl rfl, zin 5 90 rfl rfl⟩
theorem zc_X7_40 : zCV "ModedMill$Program" 40 zm_X6_modeAt 1 := ⟨⟨rfl, zin 1 32 rfl rfl, zin 6 88 rfl rfl, by decide +kernel, by decide⟩, zin 6 85 rfl rfl, zin 6 86 rfl rfl, zin 6 87 rfl rfl⟩
theorem zc_X7_171 : zCS "ModedMill$Program" 171 zm_X7_areInputsKnown 3 := ⟨⟨rfl, zin 1 22 rfl rfl, zin 6 92 rfl rfl, by decide +kernel, by decide⟩, zin 6 90 rfl rfl, zin 6 91 rfl rfl⟩
theorem zf_X7_21 : zFI "ModedMill$Program" 21 7 2 true (.object "java/util/ArrayList") := ⟨RX7, TX7, 3, tyX7, rfl, by decide, zu_X7, tyX7_ok, nmX7, by decide, Or.inl (zin 3 1 rfl rfl), rfl, rfl⟩
theorem zc_X7_66 : zCV "ModedMill$Program" 66 zm_X5_faultSign 0 := ⟨⟨rfl, zin 1 35 rfl rfl, zin 6 177 rfl rfl, by decide +kernel, by decide⟩, zin 6 174 rfl rfl, zin 6 175 rfl rfl, zin 6 176 rfl rfl⟩
theorem zn_X7_9 : zNI "ModedMill$Program" 9 12 3 [zI 0, zN, zI 0] := ⟨RJx4a65c, TJx4a65c, tyJx4a65c, rfl, by decide, zu_Jx4a65c, tyJx4a65c_ok, zin 2 213 rfl rfl, zin 2 214 rfl rfl, zin 1 25 rfl rfl, fun j hj => by rcases (show j = 0 ∨ j = 1 ∨ j = 2 by omega) with rfl | rfl | rfl <;> rfl, zfit_all (by decide)⟩
theorem zc_X7_11 : zCC "ModedMill$Program" 11 zm_Jx4a65c_init_da8c8 0 := ⟨⟨rfl, zin 1 25 rfl rfl, zin 2 217 rfl rfl, by decide +kernel, by decide⟩, zin 2 215 rfl rfl, zin 2 216 rfl rfl, rfl, rfl⟩
theorem zf_X7_12 : zFI "ModedMill$Program" 12 7 0 true (.object "java/util/ArrayList") := ⟨RX7, TX7, 3, tyX7, rfl, by decide, zu_X7, tyX7_ok, nmX7, by decide, Or.inl (zin 2 239 rfl rfl), rfl, rfl⟩
theorem zc_X7_208 : zCV "ModedMill$Program" 208 zm_X6_typeAt 1 := ⟨⟨rfl, zin 1 32 rfl rfl, zin 5 172 rfl rfl, by decide +kernel, by decide⟩, zin 6 161 rfl rfl, zin 5 170 rfl rfl, zin 5 171 rfl rfl⟩
theorem zc_X7_211 : zCV "ModedMill$Program" 211 zm_X10_constructorCount 0 := ⟨⟨rfl, zin 1 2 rfl rfl, zin 4 76 rfl rfl, by decide +kernel, by decide⟩, zin 6 162 rfl rfl, zin 4 74 rfl rfl, zin 4 75 rfl rfl⟩
theorem zc_X7_216 : zCV "ModedMill$Program" 216 zm_X10_typeOfHead 1 := ⟨⟨rfl, zin 1 2 rfl rfl, zin 4 121 rfl rfl, by decide +kernel, by decide⟩, zin 6 163 rfl rfl, zin 4 119 rfl rfl, zin 4 120 rfl rfl⟩
theorem zc_X7_61 : zCC "ModedMill$Program" 61 zm_X1_init 2 := ⟨⟨rfl, zin 1 36 rfl rfl, zin 5 165 rfl rfl, by decide +kernel, by decide⟩, zin 5 163 rfl rfl, zin 5 164 rfl rfl, rfl, rfl⟩
theorem zf_X7_64 : zFI "ModedMill$Program" 64 6 3 true (.object "java/util/ArrayList") := ⟨RX6, TX6, 5, tyX6, rfl, by decide, zu_X6, tyX6_ok, nmX6, by decide, Or.inr ⟨"ModedMill", (lw_ch_in 4 _ (List.mem_of_getElem? (i := 230) rfl))⟩, rfl, rfl⟩
theorem zc_X7_47 : zCV "ModedMill$Program" 47 zm_Jx4a65c_add_9ea2d 1 := ⟨⟨rfl, zin 1 25 rfl rfl, zin 5 7 rfl rfl, by decide +kernel, by decide⟩, zin 5 4 rfl rfl, zin 5 5 rfl rfl, zin 5 6 rfl rfl⟩
theorem zf_X7_65 : zFI "ModedMill$Program" 65 1 0 true .int := ⟨RX1, TX1, 9, tyX1, rfl, by decide, zu_X1, tyX1_ok, nmX1, by decide, Or.inr ⟨"ModedMill", (lw_ch_in 5 _ (List.mem_of_getElem? (i := 182) rfl))⟩, rfl, rfl⟩
theorem zf_X7_53 : zFI "ModedMill$Program" 53 6 2 true (.object "java/util/ArrayList") := ⟨RX6, TX6, 5, tyX6, rfl, by decide, zu_X6, tyX6_ok, nmX6, by decide, Or.inr ⟨"ModedMill", (lw_ch_in 4 _ (List.mem_of_getElem? (i := 228) rfl))⟩, rfl, rfl⟩
theorem zc_X7_54 : zCC "ModedMill$Program" 54 zm_X5_init 4 := ⟨⟨rfl, zin 1 35 rfl rfl, zin 5 101 rfl rfl, by decide +kernel, by decide⟩, zin 5 99 rfl rfl, zin 5 100 rfl rfl, rfl, rfl⟩
theorem zn_X7_32 : zNI "ModedMill$Program" 32 6 5 [zI 0, zN, zN, zN, zN] := ⟨RX6, TX6, tyX6, rfl, by decide, zu_X6, tyX6_ok, zin 4 180 rfl rfl, zin 4 181 rfl rfl, zin 1 32 rfl rfl, fun j hj => by rcases (show j = 0 ∨ j = 1 ∨ j = 2 ∨ j = 3 ∨ j = 4 by omega) with rfl | rfl | rfl | rfl | rfl <;> rfl, zfit_all (by decide)⟩
theorem zc_X7_44 : zCC "ModedMill$Program" 44 zm_X6_init 4 := ⟨⟨rfl, zin 1 32 rfl rfl, zin 4 184 rfl rfl, by decide +kernel, by decide⟩, zin 4 182 rfl rfl, zin 4 183 rfl rfl, rfl, rfl⟩
theorem zc_X7_124 : zCV "ModedMill$Program" 124 zm_X1_goalCount 0 := ⟨⟨rfl, zin 1 36 rfl rfl, zin 6 13 rfl rfl, by decide +kernel, by decide⟩, zin 6 65 rfl rfl, zin 6 11 rfl rfl, zin 6 12 rfl rfl⟩
theorem zc_X7_131 : zCV "ModedMill$Program" 131 zm_X1_goalNumbered 1 := ⟨⟨rfl, zin 1 36 rfl rfl, zin 6 73 rfl rfl, by decide +kernel, by decide⟩, zin 6 70 rfl rfl, zin 6 71 rfl rfl, zin 6 72 rfl rfl⟩
theorem zc_X7_135 : zCV "ModedMill$Program" 135 zm_X7_chooseMode 2 := ⟨⟨rfl, zin 1 22 rfl rfl, zin 6 78 rfl rfl, by decide +kernel, by decide⟩, zin 6 75 rfl rfl, zin 6 77 rfl rfl, zin 0 12 rfl rfl⟩
theorem zc_X7_152 : zCS "ModedMill$Program" 152 zm_X7_canBeTaken 3 := ⟨⟨rfl, zin 1 22 rfl rfl, zin 6 100 rfl rfl, by decide +kernel, by decide⟩, zin 6 98 rfl rfl, zin 6 99 rfl rfl⟩
theorem zc_X7_117 : zCV "ModedMill$Program" 117 zm_X1_clearOrder 1 := ⟨⟨rfl, zin 1 36 rfl rfl, zin 6 64 rfl rfl, by decide +kernel, by decide⟩, zin 6 61 rfl rfl, zin 6 62 rfl rfl, zin 6 63 rfl rfl⟩
theorem zf_X7_121 : zFI "ModedMill$Program" 121 5 2 true .int := ⟨RX5, TX5, 9, tyX5, rfl, by decide, zu_X5, tyX5_ok, nmX5, by decide, Or.inr ⟨"ModedMill", (lw_ch_in 5 _ (List.mem_of_getElem? (i := 114) rfl))⟩, rfl, rfl⟩
theorem zc_X7_127 : zCV "ModedMill$Program" 127 zm_X7_nextGoal 3 := ⟨⟨rfl, zin 1 22 rfl rfl, zin 6 69 rfl rfl, by decide +kernel, by decide⟩, zin 6 66 rfl rfl, zin 6 68 rfl rfl, zin 0 11 rfl rfl⟩
theorem zc_X7_139 : zCV "ModedMill$Program" 139 zm_X1_takeNext 4 := ⟨⟨rfl, zin 1 36 rfl rfl, zin 6 108 rfl rfl, by decide +kernel, by decide⟩, zin 6 105 rfl rfl, zin 6 106 rfl rfl, zin 6 107 rfl rfl⟩
theorem zc_X7_149 : zCV "ModedMill$Program" 149 zm_X6_argumentSet 0 := ⟨⟨rfl, zin 1 32 rfl rfl, zin 5 83 rfl rfl, by decide +kernel, by decide⟩, zin 6 118 rfl rfl, zin 5 81 rfl rfl, zin 5 82 rfl rfl⟩
theorem zc_X7_113 : zCV "ModedMill$Program" 113 zm_X7_putClauseInOrder 2 := ⟨⟨rfl, zin 1 22 rfl rfl, zin 6 60 rfl rfl, by decide +kernel, by decide⟩, zin 6 57 rfl rfl, zin 6 59 rfl rfl, zin 0 10 rfl rfl⟩
theorem zc_X7_185 : zCS "ModedMill$Program" 185 zm_X7_choosesBad 1 := ⟨⟨rfl, zin 1 22 rfl rfl, zin 6 132 rfl rfl, by decide +kernel, by decide⟩, zin 6 130 rfl rfl, zin 6 131 rfl rfl⟩
theorem zc_X7_195 : zCS "ModedMill$Program" 195 zm_X7_canModeFail 2 := ⟨⟨rfl, zin 1 22 rfl rfl, zin 6 144 rfl rfl, by decide +kernel, by decide⟩, zin 6 142 rfl rfl, zin 6 143 rfl rfl⟩
theorem zc_X7_199 : zCS "ModedMill$Program" 199 zm_X7_canModeRepeat 1 := ⟨⟨rfl, zin 1 22 rfl rfl, zin 6 166 rfl rfl, by decide +kernel, by decide⟩, zin 6 164 rfl rfl, zin 6 165 rfl rfl⟩
theorem zf_X8_24 : zFI "ModedMill$Report" 24 8 2 true (.object "ModedMill$Table") := ⟨RX8, TX8, 10, tyX8, rfl, by decide, zu_X8, tyX8_ok, nmX8, by decide, Or.inl (zin 3 20 rfl rfl), rfl, rfl⟩
theorem zc_X8_48 : zCV "ModedMill$Report" 48 zm_X9_add 3 := ⟨⟨rfl, zin 1 3 rfl rfl, zin 1 74 rfl rfl, by decide +kernel, by decide⟩, zin 7 21 rfl rfl, zin 1 72 rfl rfl, zin 1 73 rfl rfl⟩
theorem zc_X8_73 : zCV "ModedMill$Report" 73 zm_X9_count 0 := ⟨⟨rfl, zin 1 3 rfl rfl, zin 3 203 rfl rfl, by decide +kernel, by decide⟩, zin 7 109 rfl rfl, zin 3 201 rfl rfl, zin 3 202 rfl rfl⟩
theorem zc_X8_69 : zCV "ModedMill$Report" 69 zm_X9_get 2 := ⟨⟨rfl, zin 1 3 rfl rfl, zin 4 100 rfl rfl, by decide +kernel, by decide⟩, zin 7 96 rfl rfl, zin 4 98 rfl rfl, zin 4 99 rfl rfl⟩
theorem zf_X8_9 : zFI "ModedMill$Report" 9 8 0 false (.object "ModedMill$Mode") := ⟨RX8, TX8, 10, tyX8, rfl, by decide, zu_X8, tyX8_ok, nmX8, by decide, Or.inl (zin 3 17 rfl rfl), rfl, rfl⟩
theorem zf_X8_20 : zFI "ModedMill$Report" 20 8 1 true (.object "ModedMill$Table") := ⟨RX8, TX8, 10, tyX8, rfl, by decide, zu_X8, tyX8_ok, nmX8, by decide, Or.inl (zin 3 19 rfl rfl), rfl, rfl⟩
theorem zc_X8_34 : zCV "ModedMill$Report" 34 zm_X9_cut 1 := ⟨⟨rfl, zin 1 3 rfl rfl, zin 7 18 rfl rfl, by decide +kernel, by decide⟩, zin 7 15 rfl rfl, zin 7 16 rfl rfl, zin 7 17 rfl rfl⟩
theorem zc_X8_38 : zCN "ModedMill$Report" 38 zm_X11_pick 4 := ⟨⟨rfl, zin 1 1 rfl rfl, zin 4 190 rfl rfl, by decide +kernel, by decide⟩, ⟨"ModedMill", (lw_ch_in 7 _ (List.mem_of_getElem? (i := 19) rfl))⟩, zin 4 189 rfl rfl⟩
theorem zc_X8_42 : zCV "ModedMill$Report" 42 zm_X5_isInput 1 := ⟨⟨rfl, zin 1 35 rfl rfl, zin 6 96 rfl rfl, by decide +kernel, by decide⟩, zin 7 20 rfl rfl, zin 6 94 rfl rfl, zin 6 95 rfl rfl⟩
theorem zf_X8_27 : zFI "ModedMill$Report" 27 8 3 true (.object "ModedMill$Table") := ⟨RX8, TX8, 10, tyX8, rfl, by decide, zu_X8, tyX8_ok, nmX8, by decide, Or.inl (zin 3 21 rfl rfl), rfl, rfl⟩
theorem zf_X8_52 : zFI "ModedMill$Report" 52 8 4 false .int := ⟨RX8, TX8, 10, tyX8, rfl, by decide, zu_X8, tyX8_ok, nmX8, by decide, Or.inl (zin 3 22 rfl rfl), rfl, rfl⟩
theorem zf_X8_56 : zFI "ModedMill$Report" 56 8 5 false .int := ⟨RX8, TX8, 10, tyX8, rfl, by decide, zu_X8, tyX8_ok, nmX8, by decide, Or.inl (zin 3 25 rfl rfl), rfl, rfl⟩
theorem zf_X8_59 : zFI "ModedMill$Report" 59 8 6 false .int := ⟨RX8, TX8, 10, tyX8, rfl, by decide, zu_X8, tyX8_ok, nmX8, by decide, Or.inl (zin 3 28 rfl rfl), rfl, rfl⟩
theorem zf_X8_30 : zFI "ModedMill$Report" 30 8 7 false .char := ⟨RX8, TX8, 10, tyX8, rfl, by decide, zu_X8, tyX8_ok, nmX8, by decide, Or.inl (zin 3 31 rfl rfl), rfl, rfl⟩
theorem zf_X8_62 : zFI "ModedMill$Report" 62 8 8 false .boolean := ⟨RX8, TX8, 10, tyX8, rfl, by decide, zu_X8, tyX8_ok, nmX8, by decide, Or.inl (zin 3 34 rfl rfl), rfl, rfl⟩
theorem zf_X8_66 : zFI "ModedMill$Report" 66 8 9 false .int := ⟨RX8, TX8, 10, tyX8, rfl, by decide, zu_X8, tyX8_ok, nmX8, by decide, Or.inl (zin 3 36 rfl rfl), rfl, rfl⟩
theorem zf_X8_77 : zFI "ModedMill$Report" 77 5 0 true (.object "ModedMill$Predicate") := ⟨RX5, TX5, 9, tyX5, rfl, by decide, zu_X5, tyX5_ok, nmX5, by decide, Or.inr ⟨"ModedMill", (lw_ch_in 5 _ (List.mem_of_getElem? (i := 106) rfl))⟩, rfl, rfl⟩
theorem zc_X8_81 : zCV "ModedMill$Report" 81 zm_X6_arity 0 := ⟨⟨rfl, zin 1 32 rfl rfl, zin 6 33 rfl rfl, by decide +kernel, by decide⟩, zin 7 238 rfl rfl, zin 6 31 rfl rfl, zin 6 32 rfl rfl⟩
theorem zn_X8_15 : zNI "ModedMill$Report" 15 9 3 [zI 0, zN, zI 0] := ⟨RX9, TX9, tyX9, rfl, by decide, zu_X9, tyX9_ok, zin 3 15 rfl rfl, zin 1 54 rfl rfl, zin 1 3 rfl rfl, fun j hj => by rcases (show j = 0 ∨ j = 1 ∨ j = 2 by omega) with rfl | rfl | rfl <;> rfl, zfit_all (by decide)⟩
theorem zc_X8_17 : zCC "ModedMill$Report" 17 zm_X9_init 2 := ⟨⟨rfl, zin 1 3 rfl rfl, zin 1 57 rfl rfl, by decide +kernel, by decide⟩, zin 3 16 rfl rfl, zin 1 56 rfl rfl, rfl, rfl⟩
theorem zf_X9_20 : zFI "ModedMill$Table" 20 9 2 false .int := ⟨RX9, TX9, 3, tyX9, rfl, by decide, zu_X9, tyX9_ok, nmX9, by decide, Or.inl (zin 1 62 rfl rfl), rfl, rfl⟩
theorem zf_X9_9 : zFI "ModedMill$Table" 9 9 0 true .int := ⟨RX9, TX9, 3, tyX9, rfl, by decide, zu_X9, tyX9_ok, nmX9, by decide, Or.inl (zin 1 60 rfl rfl), rfl, rfl⟩
theorem zf_X9_16 : zFI "ModedMill$Table" 16 9 1 false (.array .int) := ⟨RX9, TX9, 3, tyX9, rfl, by decide, zu_X9, tyX9_ok, nmX9, by decide, Or.inl (zin 1 61 rfl rfl), rfl, rfl⟩
theorem zc_X9_29 : zCS "ModedMill$Table" 29 zm_J7_fill_fda19 4 := ⟨⟨rfl, zin 1 4 rfl rfl, zin 1 93 rfl rfl, by decide +kernel, by decide⟩, zin 1 91 rfl rfl, zin 1 92 rfl rfl⟩
theorem zc_X9_33 : zCV "ModedMill$Table" 33 zm_X9_set 3 := ⟨⟨rfl, zin 1 3 rfl rfl, zin 2 189 rfl rfl, by decide +kernel, by decide⟩, zin 2 186 rfl rfl, zin 2 187 rfl rfl, zin 2 188 rfl rfl⟩
set_option maxRecDepth 20000 in
theorem zt_X11_80_82 : zTI "ModedMill" 0 80 82 := ⟨by decide, zin 3 204 rfl rfl, zin 1 20 rfl rfl, zin_l [(1, 7), (1, 119), (1, 128), (1, 136), (1, 139), (1, 141), (1, 120), (1, 121), (1, 45), (1, 46), (1, 122), (1, 127), (1, 137), (2, 125), (1, 109), (2, 126), (1, 111), (2, 127), (1, 113), (1, 123), (1, 125), (1, 115), (3, 214), (3, 215), (3, 216), (3, 217), (3, 217), (3, 218), (3, 219), (3, 220), (3, 220), (3, 221), (3, 222), (1, 120), (3, 213), (3, 205), (3, 207), (1, 133), (3, 208), (3, 209), (3, 210), (3, 211), (1, 118), (1, 117), (3, 212)] rfl (by decide +kernel), zTI_b (by decide +kernel) (lw_ch_in 3 _ (List.mem_of_getElem? (i := 206) rfl)) (lw_ch_in 1 _ (List.mem_of_getElem? (i := 100) rfl)) (lw_ch_in 1 _ (List.mem_of_getElem? (i := 102) rfl)) (lw_ch_in 1 _ (List.mem_of_getElem? (i := 104) rfl)), by decide +kernel, by decide +kernel⟩
set_option maxRecDepth 20000 in
theorem zt_X11_67_69 : zTI "ModedMill" 2 67 69 := ⟨by decide, zin 4 37 rfl rfl, zin 1 30 rfl rfl, zin_l [(1, 7), (1, 119), (1, 128), (1, 136), (1, 139), (1, 141), (1, 120), (1, 121), (1, 45), (1, 46), (1, 122), (1, 127), (1, 137), (2, 125), (1, 109), (2, 126), (1, 111), (2, 127), (1, 113), (1, 123), (1, 125), (1, 115), (4, 47), (4, 48), (4, 49), (3, 217), (3, 217), (3, 218), (3, 219), (3, 220), (3, 220), (3, 221), (3, 222), (1, 120), (4, 46), (4, 38), (4, 40), (1, 132), (4, 41), (4, 42), (4, 43), (4, 44), (1, 118), (1, 117), (4, 45)] rfl (by decide +kernel), zTI_b (by decide +kernel) (lw_ch_in 4 _ (List.mem_of_getElem? (i := 39) rfl)) (lw_ch_in 1 _ (List.mem_of_getElem? (i := 100) rfl)) (lw_ch_in 1 _ (List.mem_of_getElem? (i := 102) rfl)) (lw_ch_in 1 _ (List.mem_of_getElem? (i := 104) rfl)), by decide +kernel, by decide +kernel⟩
set_option maxRecDepth 20000 in
theorem zt_X11_83_85 : zTI "ModedMill" 1 83 85 := ⟨by decide, zin 4 68 rfl rfl, zin 1 10 rfl rfl, zin_l [(1, 7), (1, 119), (1, 128), (1, 136), (1, 139), (1, 141), (1, 120), (1, 121), (1, 45), (1, 46), (1, 122), (1, 127), (1, 137), (2, 125), (1, 109), (2, 126), (1, 111), (2, 127), (1, 113), (1, 123), (1, 125), (1, 115), (4, 70), (4, 71), (4, 72), (3, 217), (3, 217), (3, 218), (3, 219), (3, 220), (3, 220), (3, 221), (3, 222), (1, 120), (4, 69), (1, 98), (1, 106), (1, 107), (1, 108), (1, 110), (1, 112), (1, 114), (1, 118), (1, 117), (1, 116)] rfl (by decide +kernel), zTI_b (by decide +kernel) (lw_ch_in 1 _ (List.mem_of_getElem? (i := 99) rfl)) (lw_ch_in 1 _ (List.mem_of_getElem? (i := 100) rfl)) (lw_ch_in 1 _ (List.mem_of_getElem? (i := 102) rfl)) (lw_ch_in 1 _ (List.mem_of_getElem? (i := 104) rfl)), by decide +kernel, by decide +kernel⟩
set_option maxRecDepth 20000 in
theorem zt_X11_255_257 : zTI "ModedMill" 3 255 257 := ⟨by decide, zin 7 202 rfl rfl, zin 1 38 rfl rfl, zin_l [(1, 7), (1, 119), (1, 128), (1, 136), (1, 139), (1, 141), (1, 120), (1, 121), (1, 45), (1, 46), (1, 122), (1, 127), (1, 137), (2, 125), (1, 109), (2, 126), (1, 111), (2, 127), (1, 113), (1, 123), (1, 125), (1, 115), (7, 212), (7, 213), (7, 214), (3, 217), (3, 217), (3, 218), (3, 219), (3, 220), (3, 220), (3, 221), (3, 222), (1, 120), (7, 211), (7, 203), (7, 205), (1, 134), (7, 206), (7, 207), (7, 208), (7, 209), (1, 118), (1, 117), (7, 210)] rfl (by decide +kernel), zTI_b (by decide +kernel) (lw_ch_in 7 _ (List.mem_of_getElem? (i := 204) rfl)) (lw_ch_in 1 _ (List.mem_of_getElem? (i := 100) rfl)) (lw_ch_in 1 _ (List.mem_of_getElem? (i := 102) rfl)) (lw_ch_in 1 _ (List.mem_of_getElem? (i := 104) rfl)), by decide +kernel, by decide +kernel⟩
set_option maxRecDepth 20000 in
theorem zt_X11_117_119 : zTI "ModedMill" 4 117 119 := ⟨by decide, zin 4 145 rfl rfl, zin 1 31 rfl rfl, zin_l [(1, 7), (1, 119), (1, 128), (1, 136), (1, 139), (1, 141), (1, 120), (1, 121), (1, 45), (1, 46), (1, 122), (1, 127), (1, 137), (2, 125), (1, 109), (2, 126), (1, 111), (2, 127), (1, 113), (1, 123), (1, 125), (1, 115), (4, 155), (4, 156), (4, 157), (3, 217), (3, 217), (3, 218), (3, 219), (3, 220), (3, 220), (3, 221), (3, 222), (1, 120), (4, 154), (4, 146), (4, 148), (1, 135), (4, 149), (4, 150), (4, 151), (4, 152), (1, 118), (1, 117), (4, 153)] rfl (by decide +kernel), zTI_b (by decide +kernel) (lw_ch_in 4 _ (List.mem_of_getElem? (i := 147) rfl)) (lw_ch_in 1 _ (List.mem_of_getElem? (i := 100) rfl)) (lw_ch_in 1 _ (List.mem_of_getElem? (i := 102) rfl)) (lw_ch_in 1 _ (List.mem_of_getElem? (i := 104) rfl)), by decide +kernel, by decide +kernel⟩
