theorem dX11_refuseMissingTerm_11 : decode cX11_refuseMissingTerm 11 = .ok (.new 80, 3) := by decide +kernel
theorem dX11_refuseMissingTerm_14 : decode cX11_refuseMissingTerm 14 = .ok (.dup, 1) := by decide +kernel
theorem dX11_refuseMissingTerm_15 : decode cX11_refuseMissingTerm 15 = .ok (.invokespecial 82, 3) := by decide +kernel
theorem dX11_refuseMissingTerm_18 : decode cX11_refuseMissingTerm 18 = .ok (.athrow, 1) := by decide +kernel
theorem dX11_refuseUncompiled_0 : decode cX11_refuseUncompiled 0 = .ok (.aload_n 0, 1) := by decide +kernel
theorem dX11_refuseUncompiled_1 : decode cX11_refuseUncompiled 1 = .ok (.getfield 51, 3) := by decide +kernel
theorem dX11_refuseUncompiled_4 : decode cX11_refuseUncompiled 4 = .ok (.ifCond .ne 11, 3) := by decide +kernel
theorem dX11_refuseUncompiled_7 : decode cX11_refuseUncompiled 7 = .ok (.new 67, 3) := by decide +kernel
theorem dX11_refuseUncompiled_10 : decode cX11_refuseUncompiled 10 = .ok (.dup, 1) := by decide +kernel
theorem dX11_refuseUncompiled_11 : decode cX11_refuseUncompiled 11 = .ok (.invokespecial 69, 3) := by decide +kernel
theorem dX11_refuseUncompiled_14 : decode cX11_refuseUncompiled 14 = .ok (.athrow, 1) := by decide +kernel
theorem dX11_refuseUnasked_0 : decode cX11_refuseUnasked 0 = .ok (.aload_n 0, 1) := by decide +kernel
theorem dX11_refuseUnasked_1 : decode cX11_refuseUnasked 1 = .ok (.getfield 55, 3) := by decide +kernel
theorem dX11_refuseUnasked_4 : decode cX11_refuseUnasked 4 = .ok (.ifCond .ne 11, 3) := by decide +kernel
theorem dX11_refuseUnasked_7 : decode cX11_refuseUnasked 7 = .ok (.new 117, 3) := by decide +kernel
theorem dX11_refuseUnasked_10 : decode cX11_refuseUnasked 10 = .ok (.dup, 1) := by decide +kernel
theorem dX11_refuseUnasked_11 : decode cX11_refuseUnasked 11 = .ok (.invokespecial 119, 3) := by decide +kernel
theorem dX11_refuseUnasked_14 : decode cX11_refuseUnasked 14 = .ok (.athrow, 1) := by decide +kernel
set_option maxRecDepth 20000 in
theorem ggX11_refuseMissingNote_X11_refuseUnasked : GoodIn wsX11_refuseMissingNote wsX11_refuseUnasked := goodIn_ca (goodIn_r _ [8, 9, 10, 11, 24, 25, 26, 27, 28, 29, 30, 31, 32] (by decide +kernel) (by decide +kernel)) (goodIn_sub (fun _ h => List.mem_cons_of_mem _ (List.mem_append_right _ h)) (by decide +kernel))
set_option maxRecDepth 20000 in
theorem gX11_refuseMissingNote_X11_refuseUnasked : GoodIn wsX11_refuseMissingNote (wsV RX11 264 RX11 yX11_refuseUnasked wsX11_refuseUnasked) := goodIn_app (goodIn_of _ (by decide +kernel)) ggX11_refuseMissingNote_X11_refuseUnasked
theorem dX11_refuseMissingNote_0 : decode cX11_refuseMissingNote 0 = .ok (.aload_n 0, 1) := by decide +kernel
theorem dX11_refuseMissingNote_1 : decode cX11_refuseMissingNote 1 = .ok (.invokevirtual 264, 3) := by decide +kernel
theorem dX18_init_0 : decode cX18_init 0 = .ok (.aload_n 0, 1) := by decide +kernel
theorem dX18_init_1 : decode cX18_init 1 = .ok (.invokespecial 1, 3) := by decide +kernel
theorem dX18_init_4 : decode cX18_init 4 = .ok (.aload_n 0, 1) := by decide +kernel
theorem dX18_init_5 : decode cX18_init 5 = .ok (.bipush 10, 2) := by decide +kernel
theorem dX18_init_7 : decode cX18_init 7 = .ok (.newarray .int, 2) := by decide +kernel
theorem dX18_init_9 : decode cX18_init 9 = .ok (.putfield 7, 3) := by decide +kernel
theorem dX18_init_12 : decode cX18_init 12 = .ok (.aload_n 0, 1) := by decide +kernel
theorem dX18_init_13 : decode cX18_init 13 = .ok (.bipush 20, 2) := by decide +kernel
theorem dX18_init_15 : decode cX18_init 15 = .ok (.newarray .int, 2) := by decide +kernel
theorem dX18_init_17 : decode cX18_init 17 = .ok (.putfield 13, 3) := by decide +kernel
theorem dX18_init_20 : decode cX18_init 20 = .ok (.aload_n 0, 1) := by decide +kernel
theorem dX18_init_21 : decode cX18_init 21 = .ok (.sipush 200, 3) := by decide +kernel
theorem dX18_init_24 : decode cX18_init 24 = .ok (.newarray .int, 2) := by decide +kernel
theorem dX18_init_26 : decode cX18_init 26 = .ok (.putfield 16, 3) := by decide +kernel
theorem dX18_init_29 : decode cX18_init 29 = .ok (.aload_n 0, 1) := by decide +kernel
theorem dX18_init_30 : decode cX18_init 30 = .ok (.sipush 400, 3) := by decide +kernel
theorem dX18_init_33 : decode cX18_init 33 = .ok (.newarray .int, 2) := by decide +kernel
theorem dX18_init_35 : decode cX18_init 35 = .ok (.putfield 19, 3) := by decide +kernel
theorem dX18_init_38 : decode cX18_init 38 = .ok (.aload_n 0, 1) := by decide +kernel
theorem dX18_init_39 : decode cX18_init 39 = .ok (.sipush 200, 3) := by decide +kernel
theorem dX18_init_42 : decode cX18_init 42 = .ok (.newarray .long, 2) := by decide +kernel
theorem dX18_init_44 : decode cX18_init 44 = .ok (.putfield 22, 3) := by decide +kernel
theorem dX18_init_47 : decode cX18_init 47 = .ok (.aload_n 0, 1) := by decide +kernel
theorem dX18_init_48 : decode cX18_init 48 = .ok (.iconst 5, 1) := by decide +kernel
theorem dX18_init_49 : decode cX18_init 49 = .ok (.newarray .int, 2) := by decide +kernel
theorem dX18_init_51 : decode cX18_init 51 = .ok (.putfield 26, 3) := by decide +kernel
theorem dX18_init_54 : decode cX18_init 54 = .ok (.aload_n 0, 1) := by decide +kernel
theorem dX18_init_55 : decode cX18_init 55 = .ok (.bipush 15, 2) := by decide +kernel
theorem dX18_init_57 : decode cX18_init 57 = .ok (.newarray .int, 2) := by decide +kernel
theorem dX18_init_59 : decode cX18_init 59 = .ok (.putfield 29, 3) := by decide +kernel
theorem dX18_init_62 : decode cX18_init 62 = .ok (.aload_n 0, 1) := by decide +kernel
theorem dX18_init_63 : decode cX18_init 63 = .ok (.iconst 5, 1) := by decide +kernel
theorem dX18_init_64 : decode cX18_init 64 = .ok (.newarray .int, 2) := by decide +kernel
theorem dX18_init_66 : decode cX18_init 66 = .ok (.putfield 32, 3) := by decide +kernel
theorem dX18_init_69 : decode cX18_init 69 = .ok (.aload_n 0, 1) := by decide +kernel
theorem dX18_init_70 : decode cX18_init 70 = .ok (.bipush 10, 2) := by decide +kernel
theorem dX18_init_72 : decode cX18_init 72 = .ok (.newarray .int, 2) := by decide +kernel
theorem dX18_init_74 : decode cX18_init 74 = .ok (.putfield 35, 3) := by decide +kernel
theorem dX18_init_77 : decode cX18_init 77 = .ok (.aload_n 0, 1) := by decide +kernel
theorem dX18_init_78 : decode cX18_init 78 = .ok (.bipush 10, 2) := by decide +kernel
theorem dX18_init_80 : decode cX18_init 80 = .ok (.newarray .char, 2) := by decide +kernel
theorem dX18_init_82 : decode cX18_init 82 = .ok (.putfield 38, 3) := by decide +kernel
theorem dX18_init_85 : decode cX18_init 85 = .ok (.aload_n 0, 1) := by decide +kernel
theorem dX18_init_86 : decode cX18_init 86 = .ok (.bipush 12, 2) := by decide +kernel
theorem dX18_init_88 : decode cX18_init 88 = .ok (.newarray .int, 2) := by decide +kernel
theorem dX18_init_90 : decode cX18_init 90 = .ok (.putfield 42, 3) := by decide +kernel
theorem dX18_init_93 : decode cX18_init 93 = .ok (.aload_n 0, 1) := by decide +kernel
theorem dX18_init_94 : decode cX18_init 94 = .ok (.bipush 12, 2) := by decide +kernel
theorem dX18_init_96 : decode cX18_init 96 = .ok (.newarray .int, 2) := by decide +kernel
theorem dX18_init_98 : decode cX18_init 98 = .ok (.putfield 45, 3) := by decide +kernel
theorem dX18_init_101 : decode cX18_init 101 = .ok (.aload_n 0, 1) := by decide +kernel
theorem dX18_init_102 : decode cX18_init 102 = .ok (.bipush 96, 2) := by decide +kernel
theorem dX18_init_104 : decode cX18_init 104 = .ok (.newarray .int, 2) := by decide +kernel
theorem dX18_init_106 : decode cX18_init 106 = .ok (.putfield 48, 3) := by decide +kernel
theorem dX18_init_109 : decode cX18_init 109 = .ok (.aload_n 0, 1) := by decide +kernel
theorem dX18_init_110 : decode cX18_init 110 = .ok (.bipush 60, 2) := by decide +kernel
theorem dX18_init_112 : decode cX18_init 112 = .ok (.newarray .char, 2) := by decide +kernel
theorem dX18_init_114 : decode cX18_init 114 = .ok (.putfield 51, 3) := by decide +kernel
theorem dX18_init_117 : decode cX18_init 117 = .ok (.aload_n 0, 1) := by decide +kernel
theorem dX18_init_118 : decode cX18_init 118 = .ok (.bipush 60, 2) := by decide +kernel
theorem dX18_init_120 : decode cX18_init 120 = .ok (.newarray .int, 2) := by decide +kernel
theorem dX18_init_122 : decode cX18_init 122 = .ok (.putfield 54, 3) := by decide +kernel
theorem dX18_init_125 : decode cX18_init 125 = .ok (.aload_n 0, 1) := by decide +kernel
theorem dX18_init_126 : decode cX18_init 126 = .ok (.sipush 180, 3) := by decide +kernel
theorem dX18_init_129 : decode cX18_init 129 = .ok (.newarray .int, 2) := by decide +kernel
theorem dX18_init_131 : decode cX18_init 131 = .ok (.putfield 57, 3) := by decide +kernel
theorem dX18_init_134 : decode cX18_init 134 = .ok (.aload_n 0, 1) := by decide +kernel
theorem dX18_init_135 : decode cX18_init 135 = .ok (.bipush 24, 2) := by decide +kernel
theorem dX18_init_137 : decode cX18_init 137 = .ok (.newarray .int, 2) := by decide +kernel
theorem dX18_init_139 : decode cX18_init 139 = .ok (.putfield 60, 3) := by decide +kernel
theorem dX18_init_142 : decode cX18_init 142 = .ok (.aload_n 0, 1) := by decide +kernel
theorem dX18_init_143 : decode cX18_init 143 = .ok (.bipush 120, 2) := by decide +kernel
theorem dX18_init_145 : decode cX18_init 145 = .ok (.newarray .int, 2) := by decide +kernel
theorem dX18_init_147 : decode cX18_init 147 = .ok (.putfield 63, 3) := by decide +kernel
theorem dX18_init_150 : decode cX18_init 150 = .ok (.aload_n 0, 1) := by decide +kernel
theorem dX18_init_151 : decode cX18_init 151 = .ok (.bipush 120, 2) := by decide +kernel
theorem dX18_init_153 : decode cX18_init 153 = .ok (.newarray .int, 2) := by decide +kernel
theorem dX18_init_155 : decode cX18_init 155 = .ok (.putfield 66, 3) := by decide +kernel
theorem dX18_init_158 : decode cX18_init 158 = .ok (.aload_n 0, 1) := by decide +kernel
theorem dX18_init_159 : decode cX18_init 159 = .ok (.bipush 120, 2) := by decide +kernel
theorem dX18_init_161 : decode cX18_init 161 = .ok (.newarray .int, 2) := by decide +kernel
theorem dX18_init_163 : decode cX18_init 163 = .ok (.putfield 69, 3) := by decide +kernel
theorem dX18_init_166 : decode cX18_init 166 = .ok (.aload_n 0, 1) := by decide +kernel
theorem dX18_init_167 : decode cX18_init 167 = .ok (.bipush 10, 2) := by decide +kernel
theorem dX18_init_169 : decode cX18_init 169 = .ok (.newarray .boolean, 2) := by decide +kernel
theorem dX18_init_171 : decode cX18_init 171 = .ok (.putfield 72, 3) := by decide +kernel
theorem dX18_init_174 : decode cX18_init 174 = .ok (.aload_n 0, 1) := by decide +kernel
theorem dX18_init_175 : decode cX18_init 175 = .ok (.bipush 10, 2) := by decide +kernel
theorem dX18_init_177 : decode cX18_init 177 = .ok (.newarray .boolean, 2) := by decide +kernel
theorem dX18_init_179 : decode cX18_init 179 = .ok (.putfield 76, 3) := by decide +kernel
theorem dX18_init_182 : decode cX18_init 182 = .ok (.aload_n 0, 1) := by decide +kernel
theorem dX18_init_183 : decode cX18_init 183 = .ok (.bipush 10, 2) := by decide +kernel
theorem dX18_init_185 : decode cX18_init 185 = .ok (.newarray .boolean, 2) := by decide +kernel
theorem dX18_init_187 : decode cX18_init 187 = .ok (.putfield 79, 3) := by decide +kernel
theorem dX18_init_190 : decode cX18_init 190 = .ok (.aload_n 0, 1) := by decide +kernel
theorem dX18_init_191 : decode cX18_init 191 = .ok (.bipush 10, 2) := by decide +kernel
theorem dX18_init_193 : decode cX18_init 193 = .ok (.newarray .boolean, 2) := by decide +kernel
theorem dX18_init_195 : decode cX18_init 195 = .ok (.putfield 82, 3) := by decide +kernel
theorem dX18_init_198 : decode cX18_init 198 = .ok (.aload_n 0, 1) := by decide +kernel
theorem dX18_init_199 : decode cX18_init 199 = .ok (.bipush 10, 2) := by decide +kernel
theorem dX18_init_201 : decode cX18_init 201 = .ok (.newarray .int, 2) := by decide +kernel
theorem dX18_init_203 : decode cX18_init 203 = .ok (.putfield 85, 3) := by decide +kernel
theorem dX18_init_206 : decode cX18_init 206 = .ok (.aload_n 0, 1) := by decide +kernel
theorem dX18_init_207 : decode cX18_init 207 = .ok (.bipush 8, 2) := by decide +kernel
theorem dX18_init_209 : decode cX18_init 209 = .ok (.newarray .int, 2) := by decide +kernel
theorem dX18_init_211 : decode cX18_init 211 = .ok (.putfield 88, 3) := by decide +kernel
theorem dX18_init_214 : decode cX18_init 214 = .ok (.aload_n 0, 1) := by decide +kernel
theorem dX18_init_215 : decode cX18_init 215 = .ok (.iconst 3, 1) := by decide +kernel
theorem dX18_init_216 : decode cX18_init 216 = .ok (.newarray .int, 2) := by decide +kernel
theorem dX18_init_218 : decode cX18_init 218 = .ok (.putfield 91, 3) := by decide +kernel
theorem dX18_init_221 : decode cX18_init 221 = .ok (.aload_n 0, 1) := by decide +kernel
theorem dX18_init_222 : decode cX18_init 222 = .ok (.sipush 150, 3) := by decide +kernel
theorem dX18_init_225 : decode cX18_init 225 = .ok (.newarray .int, 2) := by decide +kernel
theorem dX18_init_227 : decode cX18_init 227 = .ok (.putfield 94, 3) := by decide +kernel
theorem dX18_init_230 : decode cX18_init 230 = .ok (.aload_n 0, 1) := by decide +kernel
theorem dX18_init_231 : decode cX18_init 231 = .ok (.bipush 80, 2) := by decide +kernel
theorem dX18_init_233 : decode cX18_init 233 = .ok (.newarray .char, 2) := by decide +kernel
theorem dX18_init_235 : decode cX18_init 235 = .ok (.putfield 97, 3) := by decide +kernel
theorem dX18_init_238 : decode cX18_init 238 = .ok (.aload_n 0, 1) := by decide +kernel
theorem dX18_init_239 : decode cX18_init 239 = .ok (.bipush 80, 2) := by decide +kernel
theorem dX18_init_241 : decode cX18_init 241 = .ok (.newarray .int, 2) := by decide +kernel
theorem dX18_init_243 : decode cX18_init 243 = .ok (.putfield 100, 3) := by decide +kernel
theorem dX18_init_246 : decode cX18_init 246 = .ok (.aload_n 0, 1) := by decide +kernel
theorem dX18_init_247 : decode cX18_init 247 = .ok (.sipush 150, 3) := by decide +kernel
theorem dX18_init_250 : decode cX18_init 250 = .ok (.newarray .int, 2) := by decide +kernel
theorem dX18_init_252 : decode cX18_init 252 = .ok (.putfield 103, 3) := by decide +kernel
theorem dX18_init_255 : decode cX18_init 255 = .ok (.aload_n 0, 1) := by decide +kernel
theorem dX18_init_256 : decode cX18_init 256 = .ok (.bipush 80, 2) := by decide +kernel
theorem dX18_init_258 : decode cX18_init 258 = .ok (.newarray .char, 2) := by decide +kernel
theorem dX18_init_260 : decode cX18_init 260 = .ok (.putfield 106, 3) := by decide +kernel
theorem dX18_init_263 : decode cX18_init 263 = .ok (.aload_n 0, 1) := by decide +kernel
theorem dX18_init_264 : decode cX18_init 264 = .ok (.bipush 80, 2) := by decide +kernel
theorem dX18_init_266 : decode cX18_init 266 = .ok (.newarray .int, 2) := by decide +kernel
theorem dX18_init_268 : decode cX18_init 268 = .ok (.putfield 109, 3) := by decide +kernel
theorem dX18_init_271 : decode cX18_init 271 = .ok (.aload_n 0, 1) := by decide +kernel
theorem dX18_init_272 : decode cX18_init 272 = .ok (.sipush 4000, 3) := by decide +kernel
theorem dX18_init_275 : decode cX18_init 275 = .ok (.anewarray 112, 3) := by decide +kernel
theorem dX18_init_278 : decode cX18_init 278 = .ok (.putfield 114, 3) := by decide +kernel
theorem dX18_init_281 : decode cX18_init 281 = .ok (.aload_n 0, 1) := by decide +kernel
theorem dX18_init_282 : decode cX18_init 282 = .ok (.sipush 4000, 3) := by decide +kernel
theorem dX18_init_285 : decode cX18_init 285 = .ok (.newarray .int, 2) := by decide +kernel
theorem dX18_init_287 : decode cX18_init 287 = .ok (.putfield 118, 3) := by decide +kernel
theorem dX18_init_290 : decode cX18_init 290 = .ok (.aload_n 0, 1) := by decide +kernel
theorem dX18_init_291 : decode cX18_init 291 = .ok (.bipush 64, 2) := by decide +kernel
theorem dX18_init_293 : decode cX18_init 293 = .ok (.anewarray 121, 3) := by decide +kernel
theorem dX18_init_296 : decode cX18_init 296 = .ok (.putfield 123, 3) := by decide +kernel
theorem dX18_init_299 : decode cX18_init 299 = .ok (.aload_n 0, 1) := by decide +kernel
theorem dX18_init_300 : decode cX18_init 300 = .ok (.bipush 64, 2) := by decide +kernel
theorem dX18_init_302 : decode cX18_init 302 = .ok (.anewarray 121, 3) := by decide +kernel
theorem dX18_init_305 : decode cX18_init 305 = .ok (.putfield 127, 3) := by decide +kernel
theorem dX18_init_308 : decode cX18_init 308 = .ok (.return_, 1) := by decide +kernel
theorem dX18_thrown_0 : decode cX18_thrown 0 = .ok (.aload_n 0, 1) := by decide +kernel
theorem dX18_thrown_1 : decode cX18_thrown 1 = .ok (.getfield 130, 3) := by decide +kernel
theorem dX18_thrown_4 : decode cX18_thrown 4 = .ok (.ireturn, 1) := by decide +kernel
theorem dX18_in_0 : decode cX18_in 0 = .ok (.iload_n 0, 1) := by decide +kernel
theorem dX18_in_1 : decode cX18_in 1 = .ok (.iload_n 1, 1) := by decide +kernel
theorem dX18_in_2 : decode cX18_in 2 = .ok (.if_icmp .lt 12, 3) := by decide +kernel
theorem dX18_in_5 : decode cX18_in 5 = .ok (.iload_n 0, 1) := by decide +kernel
theorem dX18_in_6 : decode cX18_in 6 = .ok (.iload_n 2, 1) := by decide +kernel
theorem dX18_in_7 : decode cX18_in 7 = .ok (.if_icmp .gt 7, 3) := by decide +kernel
theorem dX18_in_10 : decode cX18_in 10 = .ok (.iconst 1, 1) := by decide +kernel
theorem dX18_in_11 : decode cX18_in 11 = .ok (.goto 4, 3) := by decide +kernel
theorem dX18_in_14 : decode cX18_in 14 = .ok (.iconst 0, 1) := by decide +kernel
theorem dX18_in_15 : decode cX18_in 15 = .ok (.ireturn, 1) := by decide +kernel
theorem dX18_fails_0 : decode cX18_fails 0 = .ok (.aload_n 0, 1) := by decide +kernel
theorem dX18_fails_1 : decode cX18_fails 1 = .ok (.iload_n 1, 1) := by decide +kernel
theorem dX18_fails_2 : decode cX18_fails 2 = .ok (.putfield 130, 3) := by decide +kernel
theorem dX18_fails_5 : decode cX18_fails 5 = .ok (.iconst 0, 1) := by decide +kernel
theorem dX18_fails_6 : decode cX18_fails 6 = .ok (.ireturn, 1) := by decide +kernel
theorem dX18_addType_0 : decode cX18_addType 0 = .ok (.aload_n 0, 1) := by decide +kernel
theorem dX18_addType_1 : decode cX18_addType 1 = .ok (.iconst 0, 1) := by decide +kernel
theorem dX18_addType_2 : decode cX18_addType 2 = .ok (.putfield 130, 3) := by decide +kernel
theorem dX18_addType_5 : decode cX18_addType 5 = .ok (.aload_n 0, 1) := by decide +kernel
theorem dX18_addType_6 : decode cX18_addType 6 = .ok (.getfield 134, 3) := by decide +kernel
theorem dX18_addType_9 : decode cX18_addType 9 = .ok (.iconst 3, 1) := by decide +kernel
theorem dX18_addType_10 : decode cX18_addType 10 = .ok (.if_icmp .eq 10, 3) := by decide +kernel
theorem dX18_addType_13 : decode cX18_addType 13 = .ok (.aload_n 0, 1) := by decide +kernel
theorem dX18_addType_14 : decode cX18_addType 14 = .ok (.getfield 137, 3) := by decide +kernel
theorem dX18_addType_17 : decode cX18_addType 17 = .ok (.ifCond .eq 9, 3) := by decide +kernel
theorem dX18_addType_26 : decode cX18_addType 26 = .ok (.aload_n 0, 1) := by decide +kernel
theorem dX18_addType_27 : decode cX18_addType 27 = .ok (.dup, 1) := by decide +kernel
theorem dX18_addType_28 : decode cX18_addType 28 = .ok (.getfield 134, 3) := by decide +kernel
theorem dX18_addType_31 : decode cX18_addType 31 = .ok (.iconst 1, 1) := by decide +kernel
theorem dX18_addType_32 : decode cX18_addType 32 = .ok (.iadd, 1) := by decide +kernel
theorem dX18_addType_33 : decode cX18_addType 33 = .ok (.putfield 134, 3) := by decide +kernel
theorem dX18_addType_36 : decode cX18_addType 36 = .ok (.aload_n 0, 1) := by decide +kernel
theorem dX18_addType_37 : decode cX18_addType 37 = .ok (.getfield 134, 3) := by decide +kernel
theorem dX18_addType_40 : decode cX18_addType 40 = .ok (.iconst 1, 1) := by decide +kernel
theorem dX18_addType_41 : decode cX18_addType 41 = .ok (.isub, 1) := by decide +kernel
theorem dX18_addType_42 : decode cX18_addType 42 = .ok (.ireturn, 1) := by decide +kernel
set_option maxRecDepth 20000 in
theorem ggX18_addConstructor_X18_in : GoodIn wsX18_addConstructor wsX18_in := goodIn_r _ [10] (by decide +kernel) (by decide +kernel)
set_option maxRecDepth 20000 in
theorem gX18_addConstructor_X18_in : GoodIn wsX18_addConstructor (va_wsS RX18 145 yX18_in wsX18_in) := goodIn_app (goodIn_of _ (by decide +kernel)) ggX18_addConstructor_X18_in
set_option maxRecDepth 20000 in
theorem ggX18_addConstructor_X18_fails : GoodIn wsX18_addConstructor wsX18_fails := goodIn_r _ [14, 1, 15, 16, 17, 18, 19, 20, 21, 22, 23, 24, 25, 26, 27, 28, 29, 30, 31, 32, 33, 34, 35, 36, 37, 38, 39, 40, 41, 42, 43, 44, 45, 46, 47, 48, 49, 50, 51, 52, 53, 54, 55, 56, 57, 58, 59, 60, 61, 62, 63, 64, 65, 66, 67, 68, 69, 70, 71, 72, 73, 74, 75, 76, 77, 78, 79, 80, 81, 82, 83, 84] (by decide +kernel) (by decide +kernel)
set_option maxRecDepth 20000 in
theorem gX18_addConstructor_X18_fails : GoodIn wsX18_addConstructor (wsV RX18 141 RX18 yX18_fails wsX18_fails) := goodIn_app (goodIn_of _ (by decide +kernel)) ggX18_addConstructor_X18_fails
theorem dX18_addConstructor_0 : decode cX18_addConstructor 0 = .ok (.aload_n 0, 1) := by decide +kernel
theorem dX18_addConstructor_1 : decode cX18_addConstructor 1 = .ok (.iconst 0, 1) := by decide +kernel
theorem dX18_addConstructor_2 : decode cX18_addConstructor 2 = .ok (.putfield 130, 3) := by decide +kernel
theorem dX18_addConstructor_5 : decode cX18_addConstructor 5 = .ok (.iload_n 1, 1) := by decide +kernel
theorem dX18_addConstructor_6 : decode cX18_addConstructor 6 = .ok (.iconst 0, 1) := by decide +kernel
theorem dX18_addConstructor_7 : decode cX18_addConstructor 7 = .ok (.aload_n 0, 1) := by decide +kernel
theorem dX18_addConstructor_8 : decode cX18_addConstructor 8 = .ok (.getfield 134, 3) := by decide +kernel
theorem dX18_addConstructor_11 : decode cX18_addConstructor 11 = .ok (.iconst 1, 1) := by decide +kernel
theorem dX18_addConstructor_12 : decode cX18_addConstructor 12 = .ok (.isub, 1) := by decide +kernel
theorem dX18_addConstructor_13 : decode cX18_addConstructor 13 = .ok (.invokestatic 145, 3) := by decide +kernel
theorem dX18_addConstructor_16 : decode cX18_addConstructor 16 = .ok (.ifCond .eq 31, 3) := by decide +kernel
theorem dX18_addConstructor_47 : decode cX18_addConstructor 47 = .ok (.aload_n 0, 1) := by decide +kernel
theorem dX18_addConstructor_48 : decode cX18_addConstructor 48 = .ok (.iconst 1, 1) := by decide +kernel
theorem dX18_addConstructor_49 : decode cX18_addConstructor 49 = .ok (.invokevirtual 141, 3) := by decide +kernel
theorem dX18_addConstructor_52 : decode cX18_addConstructor 52 = .ok (.ireturn, 1) := by decide +kernel
set_option maxRecDepth 20000 in
theorem ggX18_isTerm_X18_in : GoodIn wsX18_isTerm wsX18_in := goodIn_r _ [5] (by decide +kernel) (by decide +kernel)
set_option maxRecDepth 20000 in
theorem gX18_isTerm_X18_in : GoodIn wsX18_isTerm (va_wsS RX18 145 yX18_in wsX18_in) := goodIn_app (goodIn_of _ (by decide +kernel)) ggX18_isTerm_X18_in
theorem dX18_isTerm_0 : decode cX18_isTerm 0 = .ok (.iload_n 1, 1) := by decide +kernel
theorem dX18_isTerm_1 : decode cX18_isTerm 1 = .ok (.iconst 0, 1) := by decide +kernel
theorem dX18_isTerm_2 : decode cX18_isTerm 2 = .ok (.aload_n 0, 1) := by decide +kernel
theorem dX18_isTerm_3 : decode cX18_isTerm 3 = .ok (.getfield 152, 3) := by decide +kernel
theorem dX18_isTerm_6 : decode cX18_isTerm 6 = .ok (.iconst 1, 1) := by decide +kernel
theorem dX18_isTerm_7 : decode cX18_isTerm 7 = .ok (.isub, 1) := by decide +kernel
theorem dX18_isTerm_8 : decode cX18_isTerm 8 = .ok (.invokestatic 145, 3) := by decide +kernel
theorem dX18_isTerm_11 : decode cX18_isTerm 11 = .ok (.ireturn, 1) := by decide +kernel
set_option maxRecDepth 20000 in
theorem ggX18_term_X18_in : GoodIn wsX18_term wsX18_in := goodIn_r _ [7] (by decide +kernel) (by decide +kernel)
set_option maxRecDepth 20000 in
theorem gX18_term_X18_in : GoodIn wsX18_term (va_wsS RX18 145 yX18_in wsX18_in) := goodIn_app (goodIn_of _ (by decide +kernel)) ggX18_term_X18_in
set_option maxRecDepth 20000 in
theorem ggX18_term_X18_fails : GoodIn wsX18_term wsX18_fails := goodIn_r _ [20, 1, 33, 34, 35, 36, 37, 38, 39, 40, 41, 42, 43, 44, 45, 46, 47, 48, 49, 50, 51, 52, 53, 54, 55, 56, 57, 58, 59, 60, 61, 62, 63, 64, 65, 66, 67, 68, 69, 70, 71, 72, 73, 74, 75, 76, 77, 78, 79, 80, 81, 82, 83, 84, 85, 86, 87, 88, 89, 90, 91, 92, 93, 94, 95, 96, 97, 98, 99, 100, 101, 102] (by decide +kernel) (by decide +kernel)
set_option maxRecDepth 20000 in
theorem gX18_term_X18_fails : GoodIn wsX18_term (wsV RX18 141 RX18 yX18_fails wsX18_fails) := goodIn_app (goodIn_of _ (by decide +kernel)) ggX18_term_X18_fails
theorem dX18_term_0 : decode cX18_term 0 = .ok (.aload_n 0, 1) := by decide +kernel
theorem dX18_term_1 : decode cX18_term 1 = .ok (.iconst 0, 1) := by decide +kernel
theorem dX18_term_2 : decode cX18_term 2 = .ok (.putfield 130, 3) := by decide +kernel
theorem dX18_term_5 : decode cX18_term 5 = .ok (.iload_n 1, 1) := by decide +kernel
theorem dX18_term_6 : decode cX18_term 6 = .ok (.iconst 0, 1) := by decide +kernel
theorem dX18_term_7 : decode cX18_term 7 = .ok (.aload_n 0, 1) := by decide +kernel
theorem dX18_term_8 : decode cX18_term 8 = .ok (.getfield 149, 3) := by decide +kernel
theorem dX18_term_11 : decode cX18_term 11 = .ok (.iconst 1, 1) := by decide +kernel
theorem dX18_term_12 : decode cX18_term 12 = .ok (.isub, 1) := by decide +kernel
theorem dX18_term_13 : decode cX18_term 13 = .ok (.invokestatic 145, 3) := by decide +kernel
theorem dX18_term_16 : decode cX18_term 16 = .ok (.ifCond .eq 36, 3) := by decide +kernel
theorem dX18_term_52 : decode cX18_term 52 = .ok (.aload_n 0, 1) := by decide +kernel
theorem dX18_term_53 : decode cX18_term 53 = .ok (.iconst 1, 1) := by decide +kernel
theorem dX18_term_54 : decode cX18_term 54 = .ok (.invokevirtual 141, 3) := by decide +kernel
theorem dX18_term_57 : decode cX18_term 57 = .ok (.ireturn, 1) := by decide +kernel
set_option maxRecDepth 20000 in
theorem ggX18_constructorOf_X18_isTerm : GoodIn wsX18_constructorOf wsX18_isTerm := goodIn_r _ [7, 8, 9, 10, 6, 11, 16, 17, 18, 19, 20, 21, 22, 23, 24, 25, 26, 27, 28, 29, 30, 31, 32, 33, 34, 35, 36, 37, 38, 39, 40, 41, 42, 43, 44, 45, 46, 47, 48, 49, 50, 51, 52, 53, 54, 55, 56, 57, 58, 59, 60, 61, 62, 63, 64, 65, 66, 67, 68, 69, 70, 71, 72, 73, 74, 75, 76, 77, 78, 79, 80, 81, 82, 83, 84, 85] (by decide +kernel) (by decide +kernel)
set_option maxRecDepth 20000 in
theorem gX18_constructorOf_X18_isTerm : GoodIn wsX18_constructorOf (wsV RX18 158 RX18 yX18_isTerm wsX18_isTerm) := goodIn_app (goodIn_of _ (by decide +kernel)) ggX18_constructorOf_X18_isTerm
set_option maxRecDepth 20000 in
theorem ggX18_constructorOf_X18_fails : GoodIn wsX18_constructorOf wsX18_fails := goodIn_r _ [15, 1, 16, 17, 18, 19, 20, 21, 22, 23, 24, 25, 26, 27, 28, 29, 30, 31, 32, 33, 34, 35, 36, 37, 38, 39, 40, 41, 42, 43, 44, 45, 46, 47, 48, 49, 50, 51, 52, 53, 54, 55, 56, 57, 58, 59, 60, 61, 62, 63, 64, 65, 66, 67, 68, 69, 70, 71, 72, 73, 74, 75, 76, 77, 78, 79, 80, 81, 82, 83, 84, 85] (by decide +kernel) (by decide +kernel)
set_option maxRecDepth 20000 in
theorem gX18_constructorOf_X18_fails : GoodIn wsX18_constructorOf (wsV RX18 141 RX18 yX18_fails wsX18_fails) := goodIn_app (goodIn_of _ (by decide +kernel)) ggX18_constructorOf_X18_fails
theorem dX18_constructorOf_0 : decode cX18_constructorOf 0 = .ok (.aload_n 0, 1) := by decide +kernel
theorem dX18_constructorOf_1 : decode cX18_constructorOf 1 = .ok (.iconst 0, 1) := by decide +kernel
theorem dX18_constructorOf_2 : decode cX18_constructorOf 2 = .ok (.putfield 130, 3) := by decide +kernel
theorem dX18_constructorOf_5 : decode cX18_constructorOf 5 = .ok (.aload_n 0, 1) := by decide +kernel
theorem dX18_constructorOf_6 : decode cX18_constructorOf 6 = .ok (.iload_n 1, 1) := by decide +kernel
theorem dX18_constructorOf_7 : decode cX18_constructorOf 7 = .ok (.invokevirtual 158, 3) := by decide +kernel
theorem dX18_constructorOf_10 : decode cX18_constructorOf 10 = .ok (.ifCond .eq 12, 3) := by decide +kernel
theorem dX18_constructorOf_22 : decode cX18_constructorOf 22 = .ok (.aload_n 0, 1) := by decide +kernel
theorem dX18_constructorOf_23 : decode cX18_constructorOf 23 = .ok (.iconst 1, 1) := by decide +kernel
theorem dX18_constructorOf_24 : decode cX18_constructorOf 24 = .ok (.invokevirtual 141, 3) := by decide +kernel
theorem dX18_constructorOf_27 : decode cX18_constructorOf 27 = .ok (.ireturn, 1) := by decide +kernel
set_option maxRecDepth 20000 in
theorem ggX18_partOf_X18_isTerm : GoodIn wsX18_partOf wsX18_isTerm := goodIn_r _ [8, 9, 10, 11, 7, 12, 22, 23, 24, 25, 26, 27, 28, 29, 30, 31, 32, 33, 34, 35, 36, 37, 38, 39, 40, 41, 42, 43, 44, 45, 46, 47, 48, 49, 50, 51, 52, 53, 54, 55, 56, 57, 58, 59, 60, 61, 62, 63, 64, 65, 66, 67, 68, 69, 70, 71, 72, 73, 74, 75, 76, 77, 78, 79, 80, 81, 82, 83, 84, 85, 86, 87, 88, 89, 90, 91] (by decide +kernel) (by decide +kernel)
set_option maxRecDepth 20000 in
theorem gX18_partOf_X18_isTerm : GoodIn wsX18_partOf (wsV RX18 158 RX18 yX18_isTerm wsX18_isTerm) := goodIn_app (goodIn_of _ (by decide +kernel)) ggX18_partOf_X18_isTerm
set_option maxRecDepth 20000 in
theorem ggX18_partOf_X18_fails : GoodIn wsX18_partOf wsX18_fails := goodIn_r _ [16, 1, 22, 23, 24, 25, 26, 27, 28, 29, 30, 31, 32, 33, 34, 35, 36, 37, 38, 39, 40, 41, 42, 43, 44, 45, 46, 47, 48, 49, 50, 51, 52, 53, 54, 55, 56, 57, 58, 59, 60, 61, 62, 63, 64, 65, 66, 67, 68, 69, 70, 71, 72, 73, 74, 75, 76, 77, 78, 79, 80, 81, 82, 83, 84, 85, 86, 87, 88, 89, 90, 91] (by decide +kernel) (by decide +kernel)
set_option maxRecDepth 20000 in
theorem gX18_partOf_X18_fails : GoodIn wsX18_partOf (wsV RX18 141 RX18 yX18_fails wsX18_fails) := goodIn_app (goodIn_of _ (by decide +kernel)) ggX18_partOf_X18_fails
theorem dX18_partOf_0 : decode cX18_partOf 0 = .ok (.aload_n 0, 1) := by decide +kernel
theorem dX18_partOf_1 : decode cX18_partOf 1 = .ok (.iconst 0, 1) := by decide +kernel
theorem dX18_partOf_2 : decode cX18_partOf 2 = .ok (.putfield 130, 3) := by decide +kernel
theorem dX18_partOf_5 : decode cX18_partOf 5 = .ok (.aload_n 0, 1) := by decide +kernel
theorem dX18_partOf_6 : decode cX18_partOf 6 = .ok (.iload_n 1, 1) := by decide +kernel
theorem dX18_partOf_7 : decode cX18_partOf 7 = .ok (.invokevirtual 158, 3) := by decide +kernel
theorem dX18_partOf_10 : decode cX18_partOf 10 = .ok (.ifCond .ne 9, 3) := by decide +kernel
theorem dX18_partOf_13 : decode cX18_partOf 13 = .ok (.aload_n 0, 1) := by decide +kernel
theorem dX18_partOf_14 : decode cX18_partOf 14 = .ok (.iconst 1, 1) := by decide +kernel
theorem dX18_partOf_15 : decode cX18_partOf 15 = .ok (.invokevirtual 141, 3) := by decide +kernel
theorem dX18_partOf_18 : decode cX18_partOf 18 = .ok (.ireturn, 1) := by decide +kernel
set_option maxRecDepth 20000 in
theorem ggX18_sizeOf_X18_isTerm : GoodIn wsX18_sizeOf wsX18_isTerm := goodIn_r _ [7, 8, 9, 10, 6, 11, 12, 13, 14, 15, 16, 17, 18, 19, 20, 21, 22, 23, 24, 25, 26, 27, 28, 29, 30, 31, 32, 33, 34, 35, 36, 37, 38, 39, 40, 41, 42, 43, 44, 45, 46, 47, 48, 49, 50, 51, 52, 53, 54, 55, 56, 57, 58, 59, 60, 61, 62, 63, 64, 65, 66, 67, 68, 69, 70, 71, 72, 73, 74, 75, 76, 77, 78, 79, 80, 81] (by decide +kernel) (by decide +kernel)
set_option maxRecDepth 20000 in
theorem gX18_sizeOf_X18_isTerm : GoodIn wsX18_sizeOf (wsV RX18 158 RX18 yX18_isTerm wsX18_isTerm) := goodIn_app (goodIn_of _ (by decide +kernel)) ggX18_sizeOf_X18_isTerm
theorem dX18_sizeOf_0 : decode cX18_sizeOf 0 = .ok (.aload_n 0, 1) := by decide +kernel
theorem dX18_sizeOf_1 : decode cX18_sizeOf 1 = .ok (.aload_n 0, 1) := by decide +kernel
theorem dX18_sizeOf_2 : decode cX18_sizeOf 2 = .ok (.iload_n 1, 1) := by decide +kernel
theorem dX18_sizeOf_3 : decode cX18_sizeOf 3 = .ok (.invokevirtual 158, 3) := by decide +kernel
theorem dX18_sizeOf_6 : decode cX18_sizeOf 6 = .ok (.ifCond .eq 7, 3) := by decide +kernel
theorem dX18_sizeOf_13 : decode cX18_sizeOf 13 = .ok (.iconst 1, 1) := by decide +kernel
theorem dX18_sizeOf_14 : decode cX18_sizeOf 14 = .ok (.putfield 130, 3) := by decide +kernel
theorem dX18_sizeOf_17 : decode cX18_sizeOf 17 = .ok (.aload_n 0, 1) := by decide +kernel
theorem dX18_sizeOf_18 : decode cX18_sizeOf 18 = .ok (.getfield 130, 3) := by decide +kernel
theorem dX18_sizeOf_21 : decode cX18_sizeOf 21 = .ok (.ifCond .le 7, 3) := by decide +kernel
theorem dX18_sizeOf_24 : decode cX18_sizeOf 24 = .ok (.lconst 0, 1) := by decide +kernel
theorem dX18_sizeOf_25 : decode cX18_sizeOf 25 = .ok (.goto 9, 3) := by decide +kernel
theorem dX18_sizeOf_34 : decode cX18_sizeOf 34 = .ok (.lreturn, 1) := by decide +kernel
set_option maxRecDepth 20000 in
theorem ggX18_addPredicate_X18_in : GoodIn wsX18_addPredicate wsX18_in := goodIn_r _ [10] (by decide +kernel) (by decide +kernel)
set_option maxRecDepth 20000 in
theorem gX18_addPredicate_X18_in : GoodIn wsX18_addPredicate (va_wsS RX18 145 yX18_in wsX18_in) := goodIn_app (goodIn_of _ (by decide +kernel)) ggX18_addPredicate_X18_in
set_option maxRecDepth 20000 in
theorem ggX18_addPredicate_X18_fails : GoodIn wsX18_addPredicate wsX18_fails := goodIn_r _ [14, 1, 15, 16, 17, 18, 19, 20, 21, 22, 23, 24, 25, 26, 27, 28, 29, 30, 31, 32, 33, 34, 35, 36, 37, 38, 39, 40, 41, 42, 43, 44, 45, 46, 47, 48, 49, 50, 51, 52, 53, 54, 55, 56, 57, 58, 59, 60, 61, 62, 63, 64, 65, 66, 67, 68, 69, 70, 71, 72, 73, 74, 75, 76, 77, 78, 79, 80, 81, 82, 83, 84] (by decide +kernel) (by decide +kernel)
set_option maxRecDepth 20000 in
theorem gX18_addPredicate_X18_fails : GoodIn wsX18_addPredicate (wsV RX18 141 RX18 yX18_fails wsX18_fails) := goodIn_app (goodIn_of _ (by decide +kernel)) ggX18_addPredicate_X18_fails
theorem dX18_addPredicate_0 : decode cX18_addPredicate 0 = .ok (.aload_n 0, 1) := by decide +kernel
theorem dX18_addPredicate_1 : decode cX18_addPredicate 1 = .ok (.iconst 0, 1) := by decide +kernel
theorem dX18_addPredicate_2 : decode cX18_addPredicate 2 = .ok (.putfield 130, 3) := by decide +kernel
theorem dX18_addPredicate_5 : decode cX18_addPredicate 5 = .ok (.iload_n 1, 1) := by decide +kernel
theorem dX18_addPredicate_6 : decode cX18_addPredicate 6 = .ok (.iconst (-1), 1) := by decide +kernel
theorem dX18_addPredicate_7 : decode cX18_addPredicate 7 = .ok (.aload_n 0, 1) := by decide +kernel
theorem dX18_addPredicate_8 : decode cX18_addPredicate 8 = .ok (.getfield 134, 3) := by decide +kernel
theorem dX18_addPredicate_11 : decode cX18_addPredicate 11 = .ok (.iconst 1, 1) := by decide +kernel
theorem dX18_addPredicate_12 : decode cX18_addPredicate 12 = .ok (.isub, 1) := by decide +kernel
theorem dX18_addPredicate_13 : decode cX18_addPredicate 13 = .ok (.invokestatic 145, 3) := by decide +kernel
theorem dX18_addPredicate_16 : decode cX18_addPredicate 16 = .ok (.ifCond .eq 31, 3) := by decide +kernel
theorem dX18_addPredicate_19 : decode cX18_addPredicate 19 = .ok (.iload_n 2, 1) := by decide +kernel
theorem dX18_addPredicate_20 : decode cX18_addPredicate 20 = .ok (.iconst (-1), 1) := by decide +kernel
theorem dX18_addPredicate_21 : decode cX18_addPredicate 21 = .ok (.aload_n 0, 1) := by decide +kernel
theorem dX18_addPredicate_22 : decode cX18_addPredicate 22 = .ok (.getfield 134, 3) := by decide +kernel
theorem dX18_addPredicate_25 : decode cX18_addPredicate 25 = .ok (.iconst 1, 1) := by decide +kernel
theorem dX18_addPredicate_26 : decode cX18_addPredicate 26 = .ok (.isub, 1) := by decide +kernel
theorem dX18_addPredicate_27 : decode cX18_addPredicate 27 = .ok (.invokestatic 145, 3) := by decide +kernel
theorem dX18_addPredicate_30 : decode cX18_addPredicate 30 = .ok (.ifCond .eq 17, 3) := by decide +kernel
theorem dX18_addPredicate_33 : decode cX18_addPredicate 33 = .ok (.iload_n 3, 1) := by decide +kernel
theorem dX18_addPredicate_34 : decode cX18_addPredicate 34 = .ok (.iconst (-1), 1) := by decide +kernel
theorem dX18_addPredicate_35 : decode cX18_addPredicate 35 = .ok (.aload_n 0, 1) := by decide +kernel
theorem dX18_addPredicate_36 : decode cX18_addPredicate 36 = .ok (.getfield 134, 3) := by decide +kernel
theorem dX18_addPredicate_39 : decode cX18_addPredicate 39 = .ok (.iconst 1, 1) := by decide +kernel
theorem dX18_addPredicate_40 : decode cX18_addPredicate 40 = .ok (.isub, 1) := by decide +kernel
theorem dX18_addPredicate_41 : decode cX18_addPredicate 41 = .ok (.invokestatic 145, 3) := by decide +kernel
theorem dX18_addPredicate_44 : decode cX18_addPredicate 44 = .ok (.ifCond .ne 9, 3) := by decide +kernel
theorem dX18_addPredicate_47 : decode cX18_addPredicate 47 = .ok (.aload_n 0, 1) := by decide +kernel
theorem dX18_addPredicate_48 : decode cX18_addPredicate 48 = .ok (.iconst 1, 1) := by decide +kernel
theorem dX18_addPredicate_49 : decode cX18_addPredicate 49 = .ok (.invokevirtual 141, 3) := by decide +kernel
theorem dX18_addPredicate_52 : decode cX18_addPredicate 52 = .ok (.ireturn, 1) := by decide +kernel
theorem dX18_addPredicate_53 : decode cX18_addPredicate 53 = .ok (.iload_n 1, 1) := by decide +kernel
theorem dX18_addPredicate_54 : decode cX18_addPredicate 54 = .ok (.iconst (-1), 1) := by decide +kernel
theorem dX18_addPredicate_55 : decode cX18_addPredicate 55 = .ok (.if_icmp .ne 8, 3) := by decide +kernel
theorem dX18_addPredicate_58 : decode cX18_addPredicate 58 = .ok (.iload_n 2, 1) := by decide +kernel
theorem dX18_addPredicate_59 : decode cX18_addPredicate 59 = .ok (.iconst (-1), 1) := by decide +kernel
theorem dX18_addPredicate_60 : decode cX18_addPredicate 60 = .ok (.if_icmp .ne 13, 3) := by decide +kernel
theorem dX18_addPredicate_63 : decode cX18_addPredicate 63 = .ok (.iload_n 2, 1) := by decide +kernel
theorem dX18_addPredicate_64 : decode cX18_addPredicate 64 = .ok (.iconst (-1), 1) := by decide +kernel
theorem dX18_addPredicate_65 : decode cX18_addPredicate 65 = .ok (.if_icmp .ne 14, 3) := by decide +kernel
theorem dX18_addPredicate_68 : decode cX18_addPredicate 68 = .ok (.iload_n 3, 1) := by decide +kernel
theorem dX18_addPredicate_69 : decode cX18_addPredicate 69 = .ok (.iconst (-1), 1) := by decide +kernel
theorem dX18_addPredicate_70 : decode cX18_addPredicate 70 = .ok (.if_icmp .eq 9, 3) := by decide +kernel
theorem dX18_addPredicate_79 : decode cX18_addPredicate 79 = .ok (.aload_n 0, 1) := by decide +kernel
theorem dX18_addPredicate_80 : decode cX18_addPredicate 80 = .ok (.getfield 169, 3) := by decide +kernel
theorem dX18_addPredicate_83 : decode cX18_addPredicate 83 = .ok (.iconst 5, 1) := by decide +kernel
theorem dX18_addPredicate_84 : decode cX18_addPredicate 84 = .ok (.if_icmp .eq 10, 3) := by decide +kernel
theorem dX18_addPredicate_87 : decode cX18_addPredicate 87 = .ok (.aload_n 0, 1) := by decide +kernel
theorem dX18_addPredicate_88 : decode cX18_addPredicate 88 = .ok (.getfield 137, 3) := by decide +kernel
theorem dX18_addPredicate_91 : decode cX18_addPredicate 91 = .ok (.ifCond .eq 9, 3) := by decide +kernel
theorem dX18_addPredicate_100 : decode cX18_addPredicate 100 = .ok (.aload_n 0, 1) := by decide +kernel
theorem dX18_addPredicate_101 : decode cX18_addPredicate 101 = .ok (.getfield 29, 3) := by decide +kernel
theorem dX18_addPredicate_104 : decode cX18_addPredicate 104 = .ok (.iconst 3, 1) := by decide +kernel
theorem dX18_addPredicate_105 : decode cX18_addPredicate 105 = .ok (.aload_n 0, 1) := by decide +kernel
theorem dX18_addPredicate_106 : decode cX18_addPredicate 106 = .ok (.getfield 169, 3) := by decide +kernel
theorem dX18_addPredicate_109 : decode cX18_addPredicate 109 = .ok (.imul, 1) := by decide +kernel
theorem dX18_addPredicate_110 : decode cX18_addPredicate 110 = .ok (.iload_n 1, 1) := by decide +kernel
theorem dX18_addPredicate_111 : decode cX18_addPredicate 111 = .ok (.iastore, 1) := by decide +kernel
theorem dX18_addPredicate_112 : decode cX18_addPredicate 112 = .ok (.aload_n 0, 1) := by decide +kernel
theorem dX18_addPredicate_113 : decode cX18_addPredicate 113 = .ok (.getfield 29, 3) := by decide +kernel
theorem dX18_addPredicate_116 : decode cX18_addPredicate 116 = .ok (.iconst 3, 1) := by decide +kernel
theorem dX18_addPredicate_117 : decode cX18_addPredicate 117 = .ok (.aload_n 0, 1) := by decide +kernel
theorem dX18_addPredicate_118 : decode cX18_addPredicate 118 = .ok (.getfield 169, 3) := by decide +kernel
theorem dX18_addPredicate_121 : decode cX18_addPredicate 121 = .ok (.imul, 1) := by decide +kernel
theorem dX18_addPredicate_122 : decode cX18_addPredicate 122 = .ok (.iconst 1, 1) := by decide +kernel
theorem dX18_addPredicate_123 : decode cX18_addPredicate 123 = .ok (.iadd, 1) := by decide +kernel
theorem dX18_addPredicate_124 : decode cX18_addPredicate 124 = .ok (.iload_n 2, 1) := by decide +kernel
theorem dX18_addPredicate_125 : decode cX18_addPredicate 125 = .ok (.iastore, 1) := by decide +kernel
theorem dX18_addPredicate_126 : decode cX18_addPredicate 126 = .ok (.aload_n 0, 1) := by decide +kernel
theorem dX18_addPredicate_127 : decode cX18_addPredicate 127 = .ok (.getfield 29, 3) := by decide +kernel
theorem dX18_addPredicate_130 : decode cX18_addPredicate 130 = .ok (.iconst 3, 1) := by decide +kernel
theorem dX18_addPredicate_131 : decode cX18_addPredicate 131 = .ok (.aload_n 0, 1) := by decide +kernel
theorem dX18_addPredicate_132 : decode cX18_addPredicate 132 = .ok (.getfield 169, 3) := by decide +kernel
theorem dX18_addPredicate_135 : decode cX18_addPredicate 135 = .ok (.imul, 1) := by decide +kernel
theorem dX18_addPredicate_136 : decode cX18_addPredicate 136 = .ok (.iconst 2, 1) := by decide +kernel
theorem dX18_addPredicate_137 : decode cX18_addPredicate 137 = .ok (.iadd, 1) := by decide +kernel
theorem dX18_addPredicate_138 : decode cX18_addPredicate 138 = .ok (.iload_n 3, 1) := by decide +kernel
theorem dX18_addPredicate_139 : decode cX18_addPredicate 139 = .ok (.iastore, 1) := by decide +kernel
theorem dX18_addPredicate_140 : decode cX18_addPredicate 140 = .ok (.aload_n 0, 1) := by decide +kernel
theorem dX18_addPredicate_141 : decode cX18_addPredicate 141 = .ok (.getfield 26, 3) := by decide +kernel
theorem dX18_addPredicate_144 : decode cX18_addPredicate 144 = .ok (.aload_n 0, 1) := by decide +kernel
theorem dX18_addPredicate_145 : decode cX18_addPredicate 145 = .ok (.getfield 169, 3) := by decide +kernel
theorem dX18_addPredicate_148 : decode cX18_addPredicate 148 = .ok (.iload_n 1, 1) := by decide +kernel
theorem dX18_addPredicate_149 : decode cX18_addPredicate 149 = .ok (.iconst (-1), 1) := by decide +kernel
theorem dX18_addPredicate_150 : decode cX18_addPredicate 150 = .ok (.if_icmp .ne 7, 3) := by decide +kernel
theorem dX18_addPredicate_153 : decode cX18_addPredicate 153 = .ok (.iconst 0, 1) := by decide +kernel
theorem dX18_addPredicate_154 : decode cX18_addPredicate 154 = .ok (.goto 22, 3) := by decide +kernel
theorem dX18_addPredicate_176 : decode cX18_addPredicate 176 = .ok (.iastore, 1) := by decide +kernel
theorem dX18_addPredicate_177 : decode cX18_addPredicate 177 = .ok (.aload_n 0, 1) := by decide +kernel
theorem dX18_addPredicate_178 : decode cX18_addPredicate 178 = .ok (.dup, 1) := by decide +kernel
theorem dX18_addPredicate_179 : decode cX18_addPredicate 179 = .ok (.getfield 169, 3) := by decide +kernel
theorem dX18_addPredicate_182 : decode cX18_addPredicate 182 = .ok (.iconst 1, 1) := by decide +kernel
theorem dX18_addPredicate_183 : decode cX18_addPredicate 183 = .ok (.iadd, 1) := by decide +kernel
theorem dX18_addPredicate_184 : decode cX18_addPredicate 184 = .ok (.putfield 169, 3) := by decide +kernel
theorem dX18_addPredicate_187 : decode cX18_addPredicate 187 = .ok (.aload_n 0, 1) := by decide +kernel
theorem dX18_addPredicate_188 : decode cX18_addPredicate 188 = .ok (.getfield 169, 3) := by decide +kernel
theorem dX18_addPredicate_191 : decode cX18_addPredicate 191 = .ok (.iconst 1, 1) := by decide +kernel
theorem dX18_addPredicate_192 : decode cX18_addPredicate 192 = .ok (.isub, 1) := by decide +kernel
theorem dX18_addPredicate_193 : decode cX18_addPredicate 193 = .ok (.ireturn, 1) := by decide +kernel
set_option maxRecDepth 20000 in
theorem ggX18_isPredicate_X18_in : GoodIn wsX18_isPredicate wsX18_in := goodIn_r _ [5] (by decide +kernel) (by decide +kernel)
set_option maxRecDepth 20000 in
theorem gX18_isPredicate_X18_in : GoodIn wsX18_isPredicate (va_wsS RX18 145 yX18_in wsX18_in) := goodIn_app (goodIn_of _ (by decide +kernel)) ggX18_isPredicate_X18_in
theorem dX18_isPredicate_0 : decode cX18_isPredicate 0 = .ok (.iload_n 1, 1) := by decide +kernel
theorem dX18_isPredicate_1 : decode cX18_isPredicate 1 = .ok (.iconst 0, 1) := by decide +kernel
theorem dX18_isPredicate_2 : decode cX18_isPredicate 2 = .ok (.aload_n 0, 1) := by decide +kernel
theorem dX18_isPredicate_3 : decode cX18_isPredicate 3 = .ok (.getfield 169, 3) := by decide +kernel
theorem dX18_isPredicate_6 : decode cX18_isPredicate 6 = .ok (.iconst 1, 1) := by decide +kernel
theorem dX18_isPredicate_7 : decode cX18_isPredicate 7 = .ok (.isub, 1) := by decide +kernel
theorem dX18_isPredicate_8 : decode cX18_isPredicate 8 = .ok (.invokestatic 145, 3) := by decide +kernel
theorem dX18_isPredicate_11 : decode cX18_isPredicate 11 = .ok (.ireturn, 1) := by decide +kernel
set_option maxRecDepth 20000 in
theorem ggX18_addMode_X18_isPredicate : GoodIn wsX18_addMode wsX18_isPredicate := goodIn_r _ [11, 12, 13, 14, 10, 15, 20, 21, 22, 23, 24, 25, 26, 27, 28, 29, 30, 31, 32, 33, 34, 35, 36, 37, 38, 39, 40, 41, 42, 43, 44, 45, 46, 47, 48, 49, 50, 51, 52, 53, 54, 55, 56, 57, 58, 59, 60, 61, 62, 63, 64, 65, 66, 67, 68, 69, 70, 71, 72, 73, 74, 75, 76, 77, 78, 79, 80, 81, 82, 83, 84, 85, 86, 87, 88, 89] (by decide +kernel) (by decide +kernel)
set_option maxRecDepth 20000 in
theorem gX18_addMode_X18_isPredicate : GoodIn wsX18_addMode (wsV RX18 172 RX18 yX18_isPredicate wsX18_isPredicate) := goodIn_app (goodIn_of _ (by decide +kernel)) ggX18_addMode_X18_isPredicate
set_option maxRecDepth 20000 in
theorem ggX18_addMode_X18_fails : GoodIn wsX18_addMode wsX18_fails := goodIn_r _ [19, 1, 20, 21, 22, 23, 24, 25, 26, 27, 28, 29, 30, 31, 32, 33, 34, 35, 36, 37, 38, 39, 40, 41, 42, 43, 44, 45, 46, 47, 48, 49, 50, 51, 52, 53, 54, 55, 56, 57, 58, 59, 60, 61, 62, 63, 64, 65, 66, 67, 68, 69, 70, 71, 72, 73, 74, 75, 76, 77, 78, 79, 80, 81, 82, 83, 84, 85, 86, 87, 88, 89] (by decide +kernel) (by decide +kernel)
set_option maxRecDepth 20000 in
theorem gX18_addMode_X18_fails : GoodIn wsX18_addMode (wsV RX18 141 RX18 yX18_fails wsX18_fails) := goodIn_app (goodIn_of _ (by decide +kernel)) ggX18_addMode_X18_fails
theorem dX18_addMode_0 : decode cX18_addMode 0 = .ok (.aload_n 0, 1) := by decide +kernel
theorem dX18_addMode_1 : decode cX18_addMode 1 = .ok (.iconst 0, 1) := by decide +kernel
theorem dX18_addMode_2 : decode cX18_addMode 2 = .ok (.putfield 130, 3) := by decide +kernel
theorem dX18_addMode_5 : decode cX18_addMode 5 = .ok (.aload_n 0, 1) := by decide +kernel
theorem dX18_addMode_6 : decode cX18_addMode 6 = .ok (.iload_n 1, 1) := by decide +kernel
theorem dX18_addMode_7 : decode cX18_addMode 7 = .ok (.invokevirtual 172, 3) := by decide +kernel
theorem dX18_addMode_10 : decode cX18_addMode 10 = .ok (.ifCond .ne 9, 3) := by decide +kernel
theorem dX18_addMode_13 : decode cX18_addMode 13 = .ok (.aload_n 0, 1) := by decide +kernel
theorem dX18_addMode_14 : decode cX18_addMode 14 = .ok (.iconst 1, 1) := by decide +kernel
theorem dX18_addMode_15 : decode cX18_addMode 15 = .ok (.invokevirtual 141, 3) := by decide +kernel
theorem dX18_addMode_18 : decode cX18_addMode 18 = .ok (.ireturn, 1) := by decide +kernel
set_option maxRecDepth 20000 in
theorem ggX18_addClause_X18_isPredicate : GoodIn wsX18_addClause wsX18_isPredicate := goodIn_r _ [12, 13, 14, 15, 11, 16, 21, 22, 23, 24, 25, 26, 27, 28, 29, 30, 31, 32, 33, 34, 35, 36, 37, 38, 39, 40, 41, 42, 43, 44, 45, 46, 47, 48, 49, 50, 51, 52, 53, 54, 55, 56, 57, 58, 59, 60, 61, 62, 63, 64, 65, 66, 67, 68, 69, 70, 71, 72, 73, 74, 75, 76, 77, 78, 79, 80, 81, 82, 83, 84, 85, 86, 87, 88, 89, 90] (by decide +kernel) (by decide +kernel)
set_option maxRecDepth 20000 in
theorem gX18_addClause_X18_isPredicate : GoodIn wsX18_addClause (wsV RX18 172 RX18 yX18_isPredicate wsX18_isPredicate) := goodIn_app (goodIn_of _ (by decide +kernel)) ggX18_addClause_X18_isPredicate
set_option maxRecDepth 20000 in
theorem ggX18_addClause_X18_fails : GoodIn wsX18_addClause wsX18_fails := goodIn_r _ [20, 1, 21, 22, 23, 24, 25, 26, 27, 28, 29, 30, 31, 32, 33, 34, 35, 36, 37, 38, 39, 40, 41, 42, 43, 44, 45, 46, 47, 48, 49, 50, 51, 52, 53, 54, 55, 56, 57, 58, 59, 60, 61, 62, 63, 64, 65, 66, 67, 68, 69, 70, 71, 72, 73, 74, 75, 76, 77, 78, 79, 80, 81, 82, 83, 84, 85, 86, 87, 88, 89, 90] (by decide +kernel) (by decide +kernel)
set_option maxRecDepth 20000 in
theorem gX18_addClause_X18_fails : GoodIn wsX18_addClause (wsV RX18 141 RX18 yX18_fails wsX18_fails) := goodIn_app (goodIn_of _ (by decide +kernel)) ggX18_addClause_X18_fails
theorem dX18_addClause_0 : decode cX18_addClause 0 = .ok (.aload_n 0, 1) := by decide +kernel
theorem dX18_addClause_1 : decode cX18_addClause 1 = .ok (.iconst 0, 1) := by decide +kernel
theorem dX18_addClause_2 : decode cX18_addClause 2 = .ok (.putfield 130, 3) := by decide +kernel
theorem dX18_addClause_5 : decode cX18_addClause 5 = .ok (.aload_n 0, 1) := by decide +kernel
theorem dX18_addClause_6 : decode cX18_addClause 6 = .ok (.iload_n 1, 1) := by decide +kernel
theorem dX18_addClause_7 : decode cX18_addClause 7 = .ok (.invokevirtual 172, 3) := by decide +kernel
theorem dX18_addClause_10 : decode cX18_addClause 10 = .ok (.ifCond .ne 9, 3) := by decide +kernel
theorem dX18_addClause_13 : decode cX18_addClause 13 = .ok (.aload_n 0, 1) := by decide +kernel
theorem dX18_addClause_14 : decode cX18_addClause 14 = .ok (.iconst 1, 1) := by decide +kernel
theorem dX18_addClause_15 : decode cX18_addClause 15 = .ok (.invokevirtual 141, 3) := by decide +kernel
theorem dX18_addClause_18 : decode cX18_addClause 18 = .ok (.ireturn, 1) := by decide +kernel
set_option maxRecDepth 20000 in
theorem ggX18_isClause_X18_in : GoodIn wsX18_isClause wsX18_in := goodIn_r _ [5] (by decide +kernel) (by decide +kernel)
set_option maxRecDepth 20000 in
theorem gX18_isClause_X18_in : GoodIn wsX18_isClause (va_wsS RX18 145 yX18_in wsX18_in) := goodIn_app (goodIn_of _ (by decide +kernel)) ggX18_isClause_X18_in
theorem dX18_isClause_0 : decode cX18_isClause 0 = .ok (.iload_n 1, 1) := by decide +kernel
theorem dX18_isClause_1 : decode cX18_isClause 1 = .ok (.iconst 0, 1) := by decide +kernel
theorem dX18_isClause_2 : decode cX18_isClause 2 = .ok (.aload_n 0, 1) := by decide +kernel
theorem dX18_isClause_3 : decode cX18_isClause 3 = .ok (.getfield 175, 3) := by decide +kernel
theorem dX18_isClause_6 : decode cX18_isClause 6 = .ok (.iconst 1, 1) := by decide +kernel
theorem dX18_isClause_7 : decode cX18_isClause 7 = .ok (.isub, 1) := by decide +kernel
theorem dX18_isClause_8 : decode cX18_isClause 8 = .ok (.invokestatic 145, 3) := by decide +kernel
theorem dX18_isClause_11 : decode cX18_isClause 11 = .ok (.ireturn, 1) := by decide +kernel
set_option maxRecDepth 20000 in
theorem ggX18_addBuild_X18_isClause : GoodIn wsX18_addBuild wsX18_isClause := goodIn_r _ [9, 10, 11, 12, 8, 13, 41, 42, 43, 44, 45, 46, 47, 48, 49, 50, 51, 52, 53, 54, 55, 56, 57, 58, 59, 60, 61, 62, 63, 64, 65, 66, 67, 68, 69, 70, 71, 72, 73, 74, 75, 76, 77, 78, 79, 80, 81, 82, 83, 84, 85, 86, 87, 88, 89, 90, 91, 92, 93, 94, 95, 96, 97, 98, 99, 100, 101, 102, 103, 104, 105, 106, 107, 108, 109, 110] (by decide +kernel) (by decide +kernel)
set_option maxRecDepth 20000 in
theorem gX18_addBuild_X18_isClause : GoodIn wsX18_addBuild (wsV RX18 178 RX18 yX18_isClause wsX18_isClause) := goodIn_app (goodIn_of _ (by decide +kernel)) ggX18_addBuild_X18_isClause
set_option maxRecDepth 20000 in
theorem ggX18_addBuild_X18_fails : GoodIn wsX18_addBuild wsX18_fails := goodIn_r _ [17, 1, 41, 42, 43, 44, 45, 46, 47, 48, 49, 50, 51, 52, 53, 54, 55, 56, 57, 58, 59, 60, 61, 62, 63, 64, 65, 66, 67, 68, 69, 70, 71, 72, 73, 74, 75, 76, 77, 78, 79, 80, 81, 82, 83, 84, 85, 86, 87, 88, 89, 90, 91, 92, 93, 94, 95, 96, 97, 98, 99, 100, 101, 102, 103, 104, 105, 106, 107, 108, 109, 110] (by decide +kernel) (by decide +kernel)
set_option maxRecDepth 20000 in
theorem gX18_addBuild_X18_fails : GoodIn wsX18_addBuild (wsV RX18 141 RX18 yX18_fails wsX18_fails) := goodIn_app (goodIn_of _ (by decide +kernel)) ggX18_addBuild_X18_fails
theorem dX18_addBuild_0 : decode cX18_addBuild 0 = .ok (.aload_n 0, 1) := by decide +kernel
theorem dX18_addBuild_1 : decode cX18_addBuild 1 = .ok (.iconst 0, 1) := by decide +kernel
theorem dX18_addBuild_2 : decode cX18_addBuild 2 = .ok (.putfield 130, 3) := by decide +kernel
theorem dX18_addBuild_5 : decode cX18_addBuild 5 = .ok (.aload_n 0, 1) := by decide +kernel
theorem dX18_addBuild_6 : decode cX18_addBuild 6 = .ok (.iload_n 1, 1) := by decide +kernel
theorem dX18_addBuild_7 : decode cX18_addBuild 7 = .ok (.invokevirtual 178, 3) := by decide +kernel
theorem dX18_addBuild_10 : decode cX18_addBuild 10 = .ok (.ifCond .eq 49, 3) := by decide +kernel
theorem dX18_addBuild_59 : decode cX18_addBuild 59 = .ok (.aload_n 0, 1) := by decide +kernel
theorem dX18_addBuild_60 : decode cX18_addBuild 60 = .ok (.iconst 1, 1) := by decide +kernel
theorem dX18_addBuild_61 : decode cX18_addBuild 61 = .ok (.invokevirtual 141, 3) := by decide +kernel
theorem dX18_addBuild_64 : decode cX18_addBuild 64 = .ok (.ireturn, 1) := by decide +kernel
set_option maxRecDepth 20000 in
theorem ggX18_addSame_X18_isClause : GoodIn wsX18_addSame wsX18_isClause := goodIn_r _ [7, 8, 9, 10, 6, 11, 34, 35, 36, 37, 38, 39, 40, 41, 42, 43, 44, 45, 46, 47, 48, 49, 50, 51, 52, 53, 54, 55, 56, 57, 58, 59, 60, 61, 62, 63, 64, 65, 66, 67, 68, 69, 70, 71, 72, 73, 74, 75, 76, 77, 78, 79, 80, 81, 82, 83, 84, 85, 86, 87, 88, 89, 90, 91, 92, 93, 94, 95, 96, 97, 98, 99, 100, 101, 102, 103] (by decide +kernel) (by decide +kernel)
set_option maxRecDepth 20000 in
theorem gX18_addSame_X18_isClause : GoodIn wsX18_addSame (wsV RX18 178 RX18 yX18_isClause wsX18_isClause) := goodIn_app (goodIn_of _ (by decide +kernel)) ggX18_addSame_X18_isClause
set_option maxRecDepth 20000 in
theorem ggX18_addSame_X18_fails : GoodIn wsX18_addSame wsX18_fails := goodIn_r _ [15, 1, 34, 35, 36, 37, 38, 39, 40, 41, 42, 43, 44, 45, 46, 47, 48, 49, 50, 51, 52, 53, 54, 55, 56, 57, 58, 59, 60, 61, 62, 63, 64, 65, 66, 67, 68, 69, 70, 71, 72, 73, 74, 75, 76, 77, 78, 79, 80, 81, 82, 83, 84, 85, 86, 87, 88, 89, 90, 91, 92, 93, 94, 95, 96, 97, 98, 99, 100, 101, 102, 103] (by decide +kernel) (by decide +kernel)
set_option maxRecDepth 20000 in
theorem gX18_addSame_X18_fails : GoodIn wsX18_addSame (wsV RX18 141 RX18 yX18_fails wsX18_fails) := goodIn_app (goodIn_of _ (by decide +kernel)) ggX18_addSame_X18_fails
theorem dX18_addSame_0 : decode cX18_addSame 0 = .ok (.aload_n 0, 1) := by decide +kernel
theorem dX18_addSame_1 : decode cX18_addSame 1 = .ok (.iconst 0, 1) := by decide +kernel
theorem dX18_addSame_2 : decode cX18_addSame 2 = .ok (.putfield 130, 3) := by decide +kernel
theorem dX18_addSame_5 : decode cX18_addSame 5 = .ok (.aload_n 0, 1) := by decide +kernel
theorem dX18_addSame_6 : decode cX18_addSame 6 = .ok (.iload_n 1, 1) := by decide +kernel
theorem dX18_addSame_7 : decode cX18_addSame 7 = .ok (.invokevirtual 178, 3) := by decide +kernel
theorem dX18_addSame_10 : decode cX18_addSame 10 = .ok (.ifCond .eq 23, 3) := by decide +kernel
theorem dX18_addSame_33 : decode cX18_addSame 33 = .ok (.aload_n 0, 1) := by decide +kernel
theorem dX18_addSame_34 : decode cX18_addSame 34 = .ok (.iconst 1, 1) := by decide +kernel
theorem dX18_addSame_35 : decode cX18_addSame 35 = .ok (.invokevirtual 141, 3) := by decide +kernel
theorem dX18_addSame_38 : decode cX18_addSame 38 = .ok (.ireturn, 1) := by decide +kernel
set_option maxRecDepth 20000 in
theorem ggX18_addCall_X18_isClause : GoodIn wsX18_addCall wsX18_isClause := goodIn_r _ [8, 9, 10, 11, 7, 12, 41, 42, 43, 44, 45, 46, 47, 48, 49, 50, 51, 52, 53, 54, 55, 56, 57, 58, 59, 60, 61, 62, 63, 64, 65, 66, 67, 68, 69, 70, 71, 72, 73, 74, 75, 76, 77, 78, 79, 80, 81, 82, 83, 84, 85, 86, 87, 88, 89, 90, 91, 92, 93, 94, 95, 96, 97, 98, 99, 100, 101, 102, 103, 104, 105, 106, 107, 108, 109, 110] (by decide +kernel) (by decide +kernel)
set_option maxRecDepth 20000 in
theorem gX18_addCall_X18_isClause : GoodIn wsX18_addCall (wsV RX18 178 RX18 yX18_isClause wsX18_isClause) := goodIn_app (goodIn_of _ (by decide +kernel)) ggX18_addCall_X18_isClause
set_option maxRecDepth 20000 in
theorem ggX18_addCall_X18_fails : GoodIn wsX18_addCall wsX18_fails := goodIn_r _ [21, 1, 41, 42, 43, 44, 45, 46, 47, 48, 49, 50, 51, 52, 53, 54, 55, 56, 57, 58, 59, 60, 61, 62, 63, 64, 65, 66, 67, 68, 69, 70, 71, 72, 73, 74, 75, 76, 77, 78, 79, 80, 81, 82, 83, 84, 85, 86, 87, 88, 89, 90, 91, 92, 93, 94, 95, 96, 97, 98, 99, 100, 101, 102, 103, 104, 105, 106, 107, 108, 109, 110] (by decide +kernel) (by decide +kernel)
set_option maxRecDepth 20000 in
theorem gX18_addCall_X18_fails : GoodIn wsX18_addCall (wsV RX18 141 RX18 yX18_fails wsX18_fails) := goodIn_app (goodIn_of _ (by decide +kernel)) ggX18_addCall_X18_fails
theorem dX18_addCall_0 : decode cX18_addCall 0 = .ok (.aload_n 0, 1) := by decide +kernel
theorem dX18_addCall_1 : decode cX18_addCall 1 = .ok (.iconst 0, 1) := by decide +kernel
theorem dX18_addCall_2 : decode cX18_addCall 2 = .ok (.putfield 130, 3) := by decide +kernel
theorem dX18_addCall_5 : decode cX18_addCall 5 = .ok (.aload_n 0, 1) := by decide +kernel
theorem dX18_addCall_6 : decode cX18_addCall 6 = .ok (.iload_n 1, 1) := by decide +kernel
theorem dX18_addCall_7 : decode cX18_addCall 7 = .ok (.invokevirtual 178, 3) := by decide +kernel
theorem dX18_addCall_10 : decode cX18_addCall 10 = .ok (.ifCond .eq 43, 3) := by decide +kernel
theorem dX18_addCall_53 : decode cX18_addCall 53 = .ok (.aload_n 0, 1) := by decide +kernel
theorem dX18_addCall_54 : decode cX18_addCall 54 = .ok (.iconst 1, 1) := by decide +kernel
theorem dX18_addCall_55 : decode cX18_addCall 55 = .ok (.invokevirtual 141, 3) := by decide +kernel
theorem dX18_addCall_58 : decode cX18_addCall 58 = .ok (.ireturn, 1) := by decide +kernel
theorem dX18_orders__0 : decode cX18_orders_ 0 = .ok (.iconst 0, 1) := by decide +kernel
theorem dX18_orders__1 : decode cX18_orders_ 1 = .ok (.istore_n 1, 1) := by decide +kernel
theorem dX18_orders__2 : decode cX18_orders_ 2 = .ok (.iload_n 1, 1) := by decide +kernel
theorem dX18_orders__3 : decode cX18_orders_ 3 = .ok (.aload_n 0, 1) := by decide +kernel
theorem dX18_orders__4 : decode cX18_orders_ 4 = .ok (.getfield 169, 3) := by decide +kernel
theorem dX18_orders__7 : decode cX18_orders_ 7 = .ok (.if_icmp .ge 158, 3) := by decide +kernel
theorem dX18_orders__165 : decode cX18_orders_ 165 = .ok (.return_, 1) := by decide +kernel
set_option maxRecDepth 20000 in
theorem ggX18_compile_X18_orders_ : GoodIn wsX18_compile wsX18_orders_ := goodIn_ca (goodIn_r _ [17, 7, 6, 18, 19, 20, 8, 21, 22, 23, 24, 25, 26, 12, 27, 28, 29, 30, 31, 32, 33, 34, 35, 36, 37, 38, 39, 40, 41, 42, 43, 44, 45, 46, 47, 48, 49, 50, 51, 52, 53, 54, 55, 56, 57, 58, 95, 96, 97, 98, 99, 100, 101, 102, 103, 104, 105, 106, 107, 108, 109, 110, 111, 112, 113, 114, 115, 116, 117, 118, 119, 120, 121, 122, 123, 124, 125, 126, 127, 128, 129, 130, 131, 132, 133, 134, 135, 136, 137, 138, 139, 140, 141, 142, 143, 144, 145, 146, 147, 148, 149, 150, 151, 152, 153, 154, 155, 156, 157, 158, 159, 160, 161, 162, 163, 164] (by decide +kernel) (by decide +kernel)) (goodIn_sub (fun _ h => List.mem_cons_of_mem _ (List.mem_append_right _ h)) (by decide +kernel))
set_option maxRecDepth 20000 in
theorem gX18_compile_X18_orders_ : GoodIn wsX18_compile (wsV RX18 237 RX18 yX18_orders_ wsX18_orders_) := goodIn_app (goodIn_of _ (by decide +kernel)) ggX18_compile_X18_orders_
theorem dX18_compile_0 : decode cX18_compile 0 = .ok (.aload_n 0, 1) := by decide +kernel
theorem dX18_compile_1 : decode cX18_compile 1 = .ok (.iconst 0, 1) := by decide +kernel
theorem dX18_compile_2 : decode cX18_compile 2 = .ok (.putfield 130, 3) := by decide +kernel
theorem dX18_compile_5 : decode cX18_compile 5 = .ok (.aload_n 0, 1) := by decide +kernel
theorem dX18_compile_6 : decode cX18_compile 6 = .ok (.getfield 137, 3) := by decide +kernel
theorem dX18_compile_9 : decode cX18_compile 9 = .ok (.ifCond .eq 9, 3) := by decide +kernel
theorem dX18_compile_18 : decode cX18_compile 18 = .ok (.aload_n 0, 1) := by decide +kernel
theorem dX18_compile_19 : decode cX18_compile 19 = .ok (.iconst 1, 1) := by decide +kernel
theorem dX18_compile_20 : decode cX18_compile 20 = .ok (.putfield 137, 3) := by decide +kernel
theorem dX18_compile_23 : decode cX18_compile 23 = .ok (.aload_n 0, 1) := by decide +kernel
theorem dX18_compile_24 : decode cX18_compile 24 = .ok (.iconst 0, 1) := by decide +kernel
theorem dX18_compile_25 : decode cX18_compile 25 = .ok (.putfield 227, 3) := by decide +kernel
theorem dX18_compile_28 : decode cX18_compile 28 = .ok (.aload_n 0, 1) := by decide +kernel
theorem dX18_compile_29 : decode cX18_compile 29 = .ok (.lconst 0, 1) := by decide +kernel
theorem dX18_compile_30 : decode cX18_compile 30 = .ok (.putfield 230, 3) := by decide +kernel
theorem dX18_compile_33 : decode cX18_compile 33 = .ok (.aload_n 0, 1) := by decide +kernel
theorem dX18_compile_34 : decode cX18_compile 34 = .ok (.iconst 0, 1) := by decide +kernel
theorem dX18_compile_35 : decode cX18_compile 35 = .ok (.putfield 234, 3) := by decide +kernel
theorem dX18_compile_38 : decode cX18_compile 38 = .ok (.aload_n 0, 1) := by decide +kernel
theorem dX18_compile_39 : decode cX18_compile 39 = .ok (.invokevirtual 237, 3) := by decide +kernel
theorem dX18_compile_42 : decode cX18_compile 42 = .ok (.iconst 1, 1) := by decide +kernel
theorem dX18_compile_43 : decode cX18_compile 43 = .ok (.istore_n 1, 1) := by decide +kernel
theorem dX18_compile_44 : decode cX18_compile 44 = .ok (.iload_n 1, 1) := by decide +kernel
theorem dX18_compile_45 : decode cX18_compile 45 = .ok (.ifCond .eq 87, 3) := by decide +kernel
theorem dX18_compile_48 : decode cX18_compile 48 = .ok (.iconst 0, 1) := by decide +kernel
theorem dX18_compile_49 : decode cX18_compile 49 = .ok (.istore_n 1, 1) := by decide +kernel
theorem dX18_compile_50 : decode cX18_compile 50 = .ok (.iconst 0, 1) := by decide +kernel
theorem dX18_compile_51 : decode cX18_compile 51 = .ok (.istore_n 2, 1) := by decide +kernel
theorem dX18_compile_52 : decode cX18_compile 52 = .ok (.iload_n 2, 1) := by decide +kernel
theorem dX18_compile_53 : decode cX18_compile 53 = .ok (.bipush 10, 2) := by decide +kernel
theorem dX18_compile_55 : decode cX18_compile 55 = .ok (.if_icmp .ge 74, 3) := by decide +kernel
theorem dX18_compile_58 : decode cX18_compile 58 = .ok (.iload_n 2, 1) := by decide +kernel
theorem dX18_compile_59 : decode cX18_compile 59 = .ok (.iconst 2, 1) := by decide +kernel
theorem dX18_compile_60 : decode cX18_compile 60 = .ok (.irem, 1) := by decide +kernel
theorem dX18_compile_61 : decode cX18_compile 61 = .ok (.aload_n 0, 1) := by decide +kernel
theorem dX18_compile_62 : decode cX18_compile 62 = .ok (.getfield 32, 3) := by decide +kernel
theorem dX18_compile_65 : decode cX18_compile 65 = .ok (.iload_n 2, 1) := by decide +kernel
theorem dX18_compile_66 : decode cX18_compile 66 = .ok (.iconst 2, 1) := by decide +kernel
theorem dX18_compile_67 : decode cX18_compile 67 = .ok (.idiv, 1) := by decide +kernel
theorem dX18_compile_68 : decode cX18_compile 68 = .ok (.iaload, 1) := by decide +kernel
theorem dX18_compile_69 : decode cX18_compile 69 = .ok (.if_icmp .ge 17, 3) := by decide +kernel
theorem dX18_compile_86 : decode cX18_compile 86 = .ok (.iconst 0, 1) := by decide +kernel
theorem dX18_compile_87 : decode cX18_compile 87 = .ok (.istore_n 3, 1) := by decide +kernel
theorem dX18_compile_88 : decode cX18_compile 88 = .ok (.iload_n 3, 1) := by decide +kernel
theorem dX18_compile_89 : decode cX18_compile 89 = .ok (.ifCond .eq 34, 3) := by decide +kernel
theorem dX18_compile_123 : decode cX18_compile 123 = .ok (.iinc 2 1, 3) := by decide +kernel
theorem dX18_compile_126 : decode cX18_compile 126 = .ok (.goto (-74), 3) := by decide +kernel
theorem dX18_compile_129 : decode cX18_compile 129 = .ok (.goto (-85), 3) := by decide +kernel
theorem dX18_compile_132 : decode cX18_compile 132 = .ok (.iconst 1, 1) := by decide +kernel
theorem dX18_compile_133 : decode cX18_compile 133 = .ok (.istore_n 1, 1) := by decide +kernel
theorem dX18_compile_134 : decode cX18_compile 134 = .ok (.iload_n 1, 1) := by decide +kernel
theorem dX18_compile_135 : decode cX18_compile 135 = .ok (.ifCond .eq 88, 3) := by decide +kernel
theorem dX18_compile_138 : decode cX18_compile 138 = .ok (.iconst 0, 1) := by decide +kernel
theorem dX18_compile_139 : decode cX18_compile 139 = .ok (.istore_n 1, 1) := by decide +kernel
theorem dX18_compile_140 : decode cX18_compile 140 = .ok (.iconst 0, 1) := by decide +kernel
theorem dX18_compile_141 : decode cX18_compile 141 = .ok (.istore_n 2, 1) := by decide +kernel
theorem dX18_compile_142 : decode cX18_compile 142 = .ok (.iload_n 2, 1) := by decide +kernel
theorem dX18_compile_143 : decode cX18_compile 143 = .ok (.bipush 10, 2) := by decide +kernel
theorem dX18_compile_145 : decode cX18_compile 145 = .ok (.if_icmp .ge 75, 3) := by decide +kernel
theorem dX18_compile_148 : decode cX18_compile 148 = .ok (.iload_n 2, 1) := by decide +kernel
theorem dX18_compile_149 : decode cX18_compile 149 = .ok (.iconst 2, 1) := by decide +kernel
theorem dX18_compile_150 : decode cX18_compile 150 = .ok (.irem, 1) := by decide +kernel
theorem dX18_compile_151 : decode cX18_compile 151 = .ok (.aload_n 0, 1) := by decide +kernel
theorem dX18_compile_152 : decode cX18_compile 152 = .ok (.getfield 32, 3) := by decide +kernel
theorem dX18_compile_155 : decode cX18_compile 155 = .ok (.iload_n 2, 1) := by decide +kernel
theorem dX18_compile_156 : decode cX18_compile 156 = .ok (.iconst 2, 1) := by decide +kernel
theorem dX18_compile_157 : decode cX18_compile 157 = .ok (.idiv, 1) := by decide +kernel
theorem dX18_compile_158 : decode cX18_compile 158 = .ok (.iaload, 1) := by decide +kernel
theorem dX18_compile_159 : decode cX18_compile 159 = .ok (.if_icmp .ge 26, 3) := by decide +kernel
theorem dX18_compile_185 : decode cX18_compile 185 = .ok (.iconst 0, 1) := by decide +kernel
theorem dX18_compile_186 : decode cX18_compile 186 = .ok (.istore_n 3, 1) := by decide +kernel
theorem dX18_compile_187 : decode cX18_compile 187 = .ok (.iload_n 3, 1) := by decide +kernel
theorem dX18_compile_188 : decode cX18_compile 188 = .ok (.ifCond .eq 16, 3) := by decide +kernel
theorem dX18_compile_204 : decode cX18_compile 204 = .ok (.iload_n 1, 1) := by decide +kernel
theorem dX18_compile_205 : decode cX18_compile 205 = .ok (.ifCond .eq 7, 3) := by decide +kernel
theorem dX18_compile_212 : decode cX18_compile 212 = .ok (.iconst 0, 1) := by decide +kernel
theorem dX18_compile_213 : decode cX18_compile 213 = .ok (.istore_n 1, 1) := by decide +kernel
theorem dX18_compile_214 : decode cX18_compile 214 = .ok (.iinc 2 1, 3) := by decide +kernel
theorem dX18_compile_217 : decode cX18_compile 217 = .ok (.goto (-75), 3) := by decide +kernel
theorem dX18_compile_220 : decode cX18_compile 220 = .ok (.goto (-86), 3) := by decide +kernel
theorem dX18_compile_223 : decode cX18_compile 223 = .ok (.iconst 0, 1) := by decide +kernel
theorem dX18_compile_224 : decode cX18_compile 224 = .ok (.istore_n 2, 1) := by decide +kernel
theorem dX18_compile_225 : decode cX18_compile 225 = .ok (.iconst 0, 1) := by decide +kernel
theorem dX18_compile_226 : decode cX18_compile 226 = .ok (.istore_n 3, 1) := by decide +kernel
theorem dX18_compile_227 : decode cX18_compile 227 = .ok (.iload_n 3, 1) := by decide +kernel
theorem dX18_compile_228 : decode cX18_compile 228 = .ok (.bipush 10, 2) := by decide +kernel
theorem dX18_compile_230 : decode cX18_compile 230 = .ok (.if_icmp .ge 51, 3) := by decide +kernel
theorem dX18_compile_233 : decode cX18_compile 233 = .ok (.iload_n 2, 1) := by decide +kernel
theorem dX18_compile_234 : decode cX18_compile 234 = .ok (.iload_n 3, 1) := by decide +kernel
theorem dX18_compile_235 : decode cX18_compile 235 = .ok (.iconst 2, 1) := by decide +kernel
theorem dX18_compile_236 : decode cX18_compile 236 = .ok (.idiv, 1) := by decide +kernel
theorem dX18_compile_237 : decode cX18_compile 237 = .ok (.aload_n 0, 1) := by decide +kernel
theorem dX18_compile_238 : decode cX18_compile 238 = .ok (.getfield 169, 3) := by decide +kernel
theorem dX18_compile_241 : decode cX18_compile 241 = .ok (.if_icmp .ge 31, 3) := by decide +kernel
theorem dX18_compile_272 : decode cX18_compile 272 = .ok (.iconst 0, 1) := by decide +kernel
theorem dX18_compile_273 : decode cX18_compile 273 = .ok (.iadd, 1) := by decide +kernel
theorem dX18_compile_274 : decode cX18_compile 274 = .ok (.istore_n 2, 1) := by decide +kernel
theorem dX18_compile_275 : decode cX18_compile 275 = .ok (.iinc 3 1, 3) := by decide +kernel
theorem dX18_compile_278 : decode cX18_compile 278 = .ok (.goto (-51), 3) := by decide +kernel
theorem dX18_compile_281 : decode cX18_compile 281 = .ok (.iload_n 2, 1) := by decide +kernel
theorem dX18_compile_282 : decode cX18_compile 282 = .ok (.ireturn, 1) := by decide +kernel
set_option maxRecDepth 20000 in
theorem ggX18_open_X18_fails : GoodIn wsX18_open wsX18_fails := goodIn_r _ [10, 1, 11, 12, 13, 14, 15, 16, 17, 18, 19, 20, 21, 22, 23, 24, 25, 26, 27, 28, 29, 30, 31, 32, 33, 34, 35, 36, 37, 38, 39, 40, 41, 42, 43, 44, 45, 46, 47, 48, 49, 50, 51, 52, 53, 54, 55, 56, 57, 58, 59, 60, 61, 62, 63, 64, 65, 66, 67, 68, 69, 70, 71, 72, 73, 74, 75, 76, 77, 78, 79, 80] (by decide +kernel) (by decide +kernel)
set_option maxRecDepth 20000 in
theorem gX18_open_X18_fails : GoodIn wsX18_open (wsV RX18 141 RX18 yX18_fails wsX18_fails) := goodIn_app (goodIn_of _ (by decide +kernel)) ggX18_open_X18_fails
theorem dX18_open_0 : decode cX18_open 0 = .ok (.aload_n 0, 1) := by decide +kernel
theorem dX18_open_1 : decode cX18_open 1 = .ok (.iconst 0, 1) := by decide +kernel
theorem dX18_open_2 : decode cX18_open 2 = .ok (.putfield 130, 3) := by decide +kernel
theorem dX18_open_5 : decode cX18_open 5 = .ok (.aload_n 0, 1) := by decide +kernel
theorem dX18_open_6 : decode cX18_open 6 = .ok (.getfield 137, 3) := by decide +kernel
theorem dX18_open_9 : decode cX18_open 9 = .ok (.ifCond .ne 9, 3) := by decide +kernel
theorem dX18_open_12 : decode cX18_open 12 = .ok (.aload_n 0, 1) := by decide +kernel
theorem dX18_open_13 : decode cX18_open 13 = .ok (.iconst 1, 1) := by decide +kernel
theorem dX18_open_14 : decode cX18_open 14 = .ok (.invokevirtual 141, 3) := by decide +kernel
theorem dX18_open_17 : decode cX18_open 17 = .ok (.ireturn, 1) := by decide +kernel
set_option maxRecDepth 20000 in
theorem ggX18_looks_X18_isPredicate : GoodIn wsX18_looks wsX18_isPredicate := goodIn_r _ [8, 9, 10, 11, 7, 12, 13, 14, 15, 16, 17, 18, 19, 20, 21, 22, 23, 24, 25, 26, 27, 28, 29, 30, 31, 32, 33, 34, 35, 36, 37, 38, 39, 40, 41, 42, 43, 44, 45, 46, 47, 48, 49, 50, 51, 52, 53, 54, 55, 56, 57, 58, 59, 60, 61, 62, 63, 64, 65, 66, 67, 68, 69, 70, 71, 72, 73, 74, 75, 76, 77, 78, 79, 80, 81, 82] (by decide +kernel) (by decide +kernel)
set_option maxRecDepth 20000 in
theorem gX18_looks_X18_isPredicate : GoodIn wsX18_looks (wsV RX18 172 RX18 yX18_isPredicate wsX18_isPredicate) := goodIn_app (goodIn_of _ (by decide +kernel)) ggX18_looks_X18_isPredicate
theorem dX18_looks_0 : decode cX18_looks 0 = .ok (.aload_n 0, 1) := by decide +kernel
theorem dX18_looks_1 : decode cX18_looks 1 = .ok (.aload_n 0, 1) := by decide +kernel
theorem dX18_looks_2 : decode cX18_looks 2 = .ok (.iload_n 1, 1) := by decide +kernel
theorem dX18_looks_3 : decode cX18_looks 3 = .ok (.invokevirtual 172, 3) := by decide +kernel
theorem dX18_looks_6 : decode cX18_looks 6 = .ok (.ifCond .eq 19, 3) := by decide +kernel
theorem dX18_looks_25 : decode cX18_looks 25 = .ok (.iconst 1, 1) := by decide +kernel
theorem dX18_looks_26 : decode cX18_looks 26 = .ok (.goto 15, 3) := by decide +kernel
theorem dX18_looks_41 : decode cX18_looks 41 = .ok (.putfield 130, 3) := by decide +kernel
theorem dX18_looks_44 : decode cX18_looks 44 = .ok (.aload_n 0, 1) := by decide +kernel
theorem dX18_looks_45 : decode cX18_looks 45 = .ok (.getfield 130, 3) := by decide +kernel
theorem dX18_looks_48 : decode cX18_looks 48 = .ok (.ifCond .ne 7, 3) := by decide +kernel
theorem dX18_looks_55 : decode cX18_looks 55 = .ok (.iconst 0, 1) := by decide +kernel
theorem dX18_looks_56 : decode cX18_looks 56 = .ok (.ireturn, 1) := by decide +kernel
set_option maxRecDepth 20000 in
theorem ggX18_fault_X18_looks : GoodIn wsX18_fault wsX18_looks := goodIn_ca (goodIn_r _ [5, 6, 7, 8, 9, 10, 11, 4, 12, 13, 14, 15, 16, 26, 27, 28, 29, 30, 31, 32, 33, 34, 35, 36, 37, 38, 39, 40, 41, 42, 43, 44, 45, 46, 47, 48, 49, 50, 51, 52, 53, 54, 55, 56, 57, 58, 59, 60, 61, 62, 63, 64, 65, 66, 67, 68, 69, 70, 71, 72, 73, 74, 75, 76, 77, 78, 79, 80, 81, 82, 83, 84, 85, 86, 87, 88, 89, 90, 91, 92, 93, 94, 95] (by decide +kernel) (by decide +kernel)) (goodIn_sub (fun _ h => List.mem_cons_of_mem _ (List.mem_append_right _ h)) (by decide +kernel))
set_option maxRecDepth 20000 in
theorem gX18_fault_X18_looks : GoodIn wsX18_fault (wsV RX18 249 RX18 yX18_looks wsX18_looks) := goodIn_app (goodIn_of _ (by decide +kernel)) ggX18_fault_X18_looks
theorem dX18_fault_0 : decode cX18_fault 0 = .ok (.aload_n 0, 1) := by decide +kernel
theorem dX18_fault_1 : decode cX18_fault 1 = .ok (.iload_n 1, 1) := by decide +kernel
theorem dX18_fault_2 : decode cX18_fault 2 = .ok (.iload_n 2, 1) := by decide +kernel
theorem dX18_fault_3 : decode cX18_fault 3 = .ok (.invokevirtual 249, 3) := by decide +kernel
theorem dX18_fault_6 : decode cX18_fault 6 = .ok (.ifCond .eq 15, 3) := by decide +kernel
theorem dX18_fault_21 : decode cX18_fault 21 = .ok (.iconst 0, 1) := by decide +kernel
theorem dX18_fault_22 : decode cX18_fault 22 = .ok (.ireturn, 1) := by decide +kernel
set_option maxRecDepth 20000 in
theorem ggX18_isGood_X18_looks : GoodIn wsX18_isGood wsX18_looks := goodIn_ca (goodIn_r _ [6, 7, 8, 9, 10, 11, 12, 5, 13, 14, 15, 16, 17, 18, 19, 20, 21, 22, 23, 24, 25, 26, 27, 28, 29, 30, 31, 32, 33, 34, 35, 36, 37, 38, 39, 40, 41, 42, 43, 44, 45, 46, 47, 48, 49, 50, 51, 52, 53, 54, 55, 56, 57, 58, 59, 60, 61, 62, 63, 64, 65, 66, 67, 68, 69, 70, 71, 72, 73, 74, 75, 76, 77, 78, 79, 80, 81, 82, 83, 84, 85, 86, 87] (by decide +kernel) (by decide +kernel)) (goodIn_sub (fun _ h => List.mem_cons_of_mem _ (List.mem_append_right _ h)) (by decide +kernel))
set_option maxRecDepth 20000 in
theorem gX18_isGood_X18_looks : GoodIn wsX18_isGood (wsV RX18 249 RX18 yX18_looks wsX18_looks) := goodIn_app (goodIn_of _ (by decide +kernel)) ggX18_isGood_X18_looks
theorem dX18_isGood_0 : decode cX18_isGood 0 = .ok (.aload_n 0, 1) := by decide +kernel
theorem dX18_isGood_1 : decode cX18_isGood 1 = .ok (.iload_n 1, 1) := by decide +kernel
theorem dX18_isGood_2 : decode cX18_isGood 2 = .ok (.iload_n 2, 1) := by decide +kernel
theorem dX18_isGood_3 : decode cX18_isGood 3 = .ok (.invokevirtual 249, 3) := by decide +kernel
theorem dX18_isGood_6 : decode cX18_isGood 6 = .ok (.ifCond .eq 20, 3) := by decide +kernel
theorem dX18_isGood_26 : decode cX18_isGood 26 = .ok (.iconst 0, 1) := by decide +kernel
theorem dX18_isGood_27 : decode cX18_isGood 27 = .ok (.ireturn, 1) := by decide +kernel
set_option maxRecDepth 20000 in
theorem ggX18_found_X18_looks : GoodIn wsX18_found wsX18_looks := goodIn_ca (goodIn_r _ [9, 10, 11, 2, 12, 13, 14, 8, 15, 16, 17, 18, 19, 20, 21, 22, 23, 24, 25, 26, 27, 28, 29, 30, 31, 32, 33, 34, 35, 36, 37, 38, 39, 40, 41, 42, 43, 44, 45, 46, 47, 48, 49, 50, 51, 52, 53, 54, 55, 56, 57, 58, 59, 60, 61, 62, 63, 64, 65, 66, 67, 68, 69, 70, 71, 72, 73, 74, 75, 76, 77, 78, 79, 80, 81, 82, 83, 84, 85, 86, 87, 88, 89] (by decide +kernel) (by decide +kernel)) (goodIn_sub (fun _ h => List.mem_cons_of_mem _ (List.mem_append_right _ h)) (by decide +kernel))
set_option maxRecDepth 20000 in
theorem gX18_found_X18_looks : GoodIn wsX18_found (wsV RX18 249 RX18 yX18_looks wsX18_looks) := goodIn_app (goodIn_of _ (by decide +kernel)) ggX18_found_X18_looks
theorem dX18_found_0 : decode cX18_found 0 = .ok (.aload_n 0, 1) := by decide +kernel
theorem dX18_found_1 : decode cX18_found 1 = .ok (.iload_n 1, 1) := by decide +kernel
theorem dX18_found_2 : decode cX18_found 2 = .ok (.iload_n 2, 1) := by decide +kernel
theorem dX18_found_3 : decode cX18_found 3 = .ok (.invokevirtual 249, 3) := by decide +kernel
theorem dX18_found_6 : decode cX18_found 6 = .ok (.ifCond .ne 5, 3) := by decide +kernel
theorem dX18_found_9 : decode cX18_found 9 = .ok (.iconst 0, 1) := by decide +kernel
theorem dX18_found_10 : decode cX18_found 10 = .ok (.ireturn, 1) := by decide +kernel
set_option maxRecDepth 20000 in
theorem ggX18_switchOf_X18_looks : GoodIn wsX18_switchOf wsX18_looks := goodIn_ca (goodIn_r _ [7, 8, 9, 10, 11, 12, 13, 6, 14, 15, 16, 17, 18, 23, 24, 25, 26, 27, 28, 29, 30, 31, 32, 33, 34, 35, 36, 37, 38, 39, 40, 41, 42, 43, 44, 45, 46, 47, 48, 49, 50, 51, 52, 53, 54, 55, 56, 57, 58, 59, 60, 61, 62, 63, 64, 65, 66, 67, 68, 69, 70, 71, 72, 73, 74, 75, 76, 77, 78, 79, 80, 81, 82, 83, 84, 85, 86, 87, 88, 89, 90, 91, 92] (by decide +kernel) (by decide +kernel)) (goodIn_sub (fun _ h => List.mem_cons_of_mem _ (List.mem_append_right _ h)) (by decide +kernel))
set_option maxRecDepth 20000 in
theorem gX18_switchOf_X18_looks : GoodIn wsX18_switchOf (wsV RX18 249 RX18 yX18_looks wsX18_looks) := goodIn_app (goodIn_of _ (by decide +kernel)) ggX18_switchOf_X18_looks
theorem dX18_switchOf_0 : decode cX18_switchOf 0 = .ok (.aload_n 0, 1) := by decide +kernel
theorem dX18_switchOf_1 : decode cX18_switchOf 1 = .ok (.iload_n 1, 1) := by decide +kernel
theorem dX18_switchOf_2 : decode cX18_switchOf 2 = .ok (.iload_n 2, 1) := by decide +kernel
theorem dX18_switchOf_3 : decode cX18_switchOf 3 = .ok (.invokevirtual 249, 3) := by decide +kernel
theorem dX18_switchOf_6 : decode cX18_switchOf 6 = .ok (.ifCond .ne 5, 3) := by decide +kernel
theorem dX18_switchOf_9 : decode cX18_switchOf 9 = .ok (.iconst 0, 1) := by decide +kernel
theorem dX18_switchOf_10 : decode cX18_switchOf 10 = .ok (.ireturn, 1) := by decide +kernel
set_option maxRecDepth 20000 in
theorem ggX18_spot_X18_isClause : GoodIn wsX18_spot wsX18_isClause := goodIn_r _ [10, 11, 12, 13, 9, 14, 15, 16, 17, 18, 19, 20, 21, 22, 23, 24, 25, 26, 27, 28, 29, 30, 31, 32, 33, 34, 35, 36, 37, 38, 39, 40, 41, 42, 43, 44, 45, 46, 47, 48, 49, 50, 51, 52, 53, 54, 55, 56, 57, 58, 59, 60, 61, 62, 63, 64, 65, 66, 67, 68, 69, 70, 71, 72, 73, 74, 75, 76, 77, 78, 79, 80, 81, 82, 83, 84] (by decide +kernel) (by decide +kernel)
set_option maxRecDepth 20000 in
theorem gX18_spot_X18_isClause : GoodIn wsX18_spot (wsV RX18 178 RX18 yX18_isClause wsX18_isClause) := goodIn_app (goodIn_of _ (by decide +kernel)) ggX18_spot_X18_isClause
theorem dX18_spot_0 : decode cX18_spot 0 = .ok (.aload_n 0, 1) := by decide +kernel
theorem dX18_spot_1 : decode cX18_spot 1 = .ok (.aload_n 0, 1) := by decide +kernel
theorem dX18_spot_2 : decode cX18_spot 2 = .ok (.iload_n 1, 1) := by decide +kernel
theorem dX18_spot_3 : decode cX18_spot 3 = .ok (.invokevirtual 178, 3) := by decide +kernel
theorem dX18_spot_6 : decode cX18_spot 6 = .ok (.ifCond .eq 24, 3) := by decide +kernel
theorem dX18_spot_30 : decode cX18_spot 30 = .ok (.iconst 1, 1) := by decide +kernel
theorem dX18_spot_31 : decode cX18_spot 31 = .ok (.goto 39, 3) := by decide +kernel
theorem dX18_spot_70 : decode cX18_spot 70 = .ok (.putfield 130, 3) := by decide +kernel
theorem dX18_spot_73 : decode cX18_spot 73 = .ok (.aload_n 0, 1) := by decide +kernel
theorem dX18_spot_74 : decode cX18_spot 74 = .ok (.getfield 130, 3) := by decide +kernel
theorem dX18_spot_77 : decode cX18_spot 77 = .ok (.ifCond .le 7, 3) := by decide +kernel
theorem dX18_spot_80 : decode cX18_spot 80 = .ok (.iconst (-1), 1) := by decide +kernel
theorem dX18_spot_81 : decode cX18_spot 81 = .ok (.goto 12, 3) := by decide +kernel
theorem dX18_spot_93 : decode cX18_spot 93 = .ok (.ireturn, 1) := by decide +kernel
set_option maxRecDepth 20000 in
theorem ggX18_goalAt_X18_spot : GoodIn wsX18_goalAt wsX18_spot := goodIn_ca (goodIn_r _ [6, 7, 8, 9, 10, 11, 12, 13, 14, 5, 15, 16, 17, 18, 19, 20, 21, 22, 23, 24, 25, 26, 27, 28, 29, 30, 31, 32, 33, 34, 35, 36, 37, 38, 39, 40, 41, 42, 43, 44, 45, 46, 47, 48, 49, 50, 51, 52, 53, 54, 55, 56, 57, 58, 59, 60, 61, 62, 63, 64, 65, 66, 67, 68, 69, 70, 71, 72, 73, 74, 75, 76, 77, 78, 79, 80, 81, 82, 83, 84, 85, 86, 87, 88, 89] (by decide +kernel) (by decide +kernel)) (goodIn_sub (fun _ h => List.mem_cons_of_mem _ (List.mem_append_right _ h)) (by decide +kernel))
set_option maxRecDepth 20000 in
theorem gX18_goalAt_X18_spot : GoodIn wsX18_goalAt (wsV RX18 252 RX18 yX18_spot wsX18_spot) := goodIn_app (goodIn_of _ (by decide +kernel)) ggX18_goalAt_X18_spot
theorem dX18_goalAt_0 : decode cX18_goalAt 0 = .ok (.aload_n 0, 1) := by decide +kernel
theorem dX18_goalAt_1 : decode cX18_goalAt 1 = .ok (.iload_n 1, 1) := by decide +kernel
theorem dX18_goalAt_2 : decode cX18_goalAt 2 = .ok (.iload_n 2, 1) := by decide +kernel
theorem dX18_goalAt_3 : decode cX18_goalAt 3 = .ok (.iload_n 3, 1) := by decide +kernel
theorem dX18_goalAt_4 : decode cX18_goalAt 4 = .ok (.invokevirtual 252, 3) := by decide +kernel
theorem dX18_goalAt_7 : decode cX18_goalAt 7 = .ok (.istore 4, 2) := by decide +kernel
theorem dX18_goalAt_9 : decode cX18_goalAt 9 = .ok (.iload 4, 2) := by decide +kernel
theorem dX18_goalAt_11 : decode cX18_goalAt 11 = .ok (.iconst (-1), 1) := by decide +kernel
theorem dX18_goalAt_12 : decode cX18_goalAt 12 = .ok (.if_icmp .ne 7, 3) := by decide +kernel
theorem dX18_goalAt_15 : decode cX18_goalAt 15 = .ok (.iconst 0, 1) := by decide +kernel
theorem dX18_goalAt_16 : decode cX18_goalAt 16 = .ok (.goto 10, 3) := by decide +kernel
theorem dX18_goalAt_26 : decode cX18_goalAt 26 = .ok (.ireturn, 1) := by decide +kernel
set_option maxRecDepth 20000 in
theorem ggX18_chosenAt_X18_spot : GoodIn wsX18_chosenAt wsX18_spot := goodIn_ca (goodIn_r _ [6, 7, 8, 9, 10, 11, 12, 13, 14, 5, 15, 16, 17, 18, 19, 24, 25, 26, 27, 28, 29, 30, 31, 32, 33, 34, 35, 36, 37, 38, 39, 40, 41, 42, 43, 44, 45, 46, 47, 48, 49, 50, 51, 52, 53, 54, 55, 56, 57, 58, 59, 60, 61, 62, 63, 64, 65, 66, 67, 68, 69, 70, 71, 72, 73, 74, 75, 76, 77, 78, 79, 80, 81, 82, 83, 84, 85, 86, 87, 88, 89, 90, 91, 92, 93] (by decide +kernel) (by decide +kernel)) (goodIn_sub (fun _ h => List.mem_cons_of_mem _ (List.mem_append_right _ h)) (by decide +kernel))
set_option maxRecDepth 20000 in
theorem gX18_chosenAt_X18_spot : GoodIn wsX18_chosenAt (wsV RX18 252 RX18 yX18_spot wsX18_spot) := goodIn_app (goodIn_of _ (by decide +kernel)) ggX18_chosenAt_X18_spot
theorem dX18_chosenAt_0 : decode cX18_chosenAt 0 = .ok (.aload_n 0, 1) := by decide +kernel
theorem dX18_chosenAt_1 : decode cX18_chosenAt 1 = .ok (.iload_n 1, 1) := by decide +kernel
theorem dX18_chosenAt_2 : decode cX18_chosenAt 2 = .ok (.iload_n 2, 1) := by decide +kernel
theorem dX18_chosenAt_3 : decode cX18_chosenAt 3 = .ok (.iload_n 3, 1) := by decide +kernel
theorem dX18_chosenAt_4 : decode cX18_chosenAt 4 = .ok (.invokevirtual 252, 3) := by decide +kernel
theorem dX18_chosenAt_7 : decode cX18_chosenAt 7 = .ok (.istore 4, 2) := by decide +kernel
theorem dX18_chosenAt_9 : decode cX18_chosenAt 9 = .ok (.iload 4, 2) := by decide +kernel
theorem dX18_chosenAt_11 : decode cX18_chosenAt 11 = .ok (.iconst (-1), 1) := by decide +kernel
theorem dX18_chosenAt_12 : decode cX18_chosenAt 12 = .ok (.if_icmp .ne 5, 3) := by decide +kernel
theorem dX18_chosenAt_15 : decode cX18_chosenAt 15 = .ok (.iconst 0, 1) := by decide +kernel
theorem dX18_chosenAt_16 : decode cX18_chosenAt 16 = .ok (.ireturn, 1) := by decide +kernel
set_option maxRecDepth 20000 in
theorem ggX18_ask_X18_isPredicate : GoodIn wsX18_ask wsX18_isPredicate := goodIn_r _ [39, 40, 41, 42, 38, 43, 190, 191, 192, 193, 194, 195, 196, 197, 198, 199, 200, 201, 202, 203, 204, 205, 206, 207, 208, 209, 210, 211, 212, 213, 214, 215, 216, 217, 218, 219, 220, 221, 222, 223, 224, 225, 226, 227, 228, 229, 230, 231, 232, 233, 234, 235, 236, 237, 238, 239, 240, 241, 242, 243, 244, 245, 246, 247, 248, 249, 250, 251, 252, 253, 254, 255, 256, 257, 258, 259] (by decide +kernel) (by decide +kernel)
set_option maxRecDepth 20000 in
theorem gX18_ask_X18_isPredicate : GoodIn wsX18_ask (wsV RX18 172 RX18 yX18_isPredicate wsX18_isPredicate) := goodIn_app (goodIn_of _ (by decide +kernel)) ggX18_ask_X18_isPredicate
set_option maxRecDepth 20000 in
theorem ggX18_ask_X18_fails : GoodIn wsX18_ask wsX18_fails := goodIn_r _ [47, 1, 190, 191, 192, 193, 194, 195, 196, 197, 198, 199, 200, 201, 202, 203, 204, 205, 206, 207, 208, 209, 210, 211, 212, 213, 214, 215, 216, 217, 218, 219, 220, 221, 222, 223, 224, 225, 226, 227, 228, 229, 230, 231, 232, 233, 234, 235, 236, 237, 238, 239, 240, 241, 242, 243, 244, 245, 246, 247, 248, 249, 250, 251, 252, 253, 254, 255, 256, 257, 258, 259] (by decide +kernel) (by decide +kernel)
set_option maxRecDepth 20000 in
theorem gX18_ask_X18_fails : GoodIn wsX18_ask (wsV RX18 141 RX18 yX18_fails wsX18_fails) := goodIn_app (goodIn_of _ (by decide +kernel)) ggX18_ask_X18_fails
theorem dX18_ask_0 : decode cX18_ask 0 = .ok (.aload_n 0, 1) := by decide +kernel
theorem dX18_ask_1 : decode cX18_ask 1 = .ok (.iconst 0, 1) := by decide +kernel
theorem dX18_ask_2 : decode cX18_ask 2 = .ok (.putfield 130, 3) := by decide +kernel
theorem dX18_ask_5 : decode cX18_ask 5 = .ok (.aload_n 0, 1) := by decide +kernel
theorem dX18_ask_6 : decode cX18_ask 6 = .ok (.iload_n 1, 1) := by decide +kernel
theorem dX18_ask_7 : decode cX18_ask 7 = .ok (.invokevirtual 172, 3) := by decide +kernel
theorem dX18_ask_10 : decode cX18_ask 10 = .ok (.ifCond .eq 19, 3) := by decide +kernel
theorem dX18_ask_29 : decode cX18_ask 29 = .ok (.aload_n 0, 1) := by decide +kernel
theorem dX18_ask_30 : decode cX18_ask 30 = .ok (.iconst 1, 1) := by decide +kernel
theorem dX18_ask_31 : decode cX18_ask 31 = .ok (.invokevirtual 141, 3) := by decide +kernel
theorem dX18_ask_34 : decode cX18_ask 34 = .ok (.ireturn, 1) := by decide +kernel
theorem dX18_wasAsked_0 : decode cX18_wasAsked 0 = .ok (.aload_n 0, 1) := by decide +kernel
theorem dX18_wasAsked_1 : decode cX18_wasAsked 1 = .ok (.aload_n 0, 1) := by decide +kernel
theorem dX18_wasAsked_2 : decode cX18_wasAsked 2 = .ok (.getfield 234, 3) := by decide +kernel
theorem dX18_wasAsked_5 : decode cX18_wasAsked 5 = .ok (.ifCond .eq 7, 3) := by decide +kernel
theorem dX18_wasAsked_12 : decode cX18_wasAsked 12 = .ok (.iconst 1, 1) := by decide +kernel
theorem dX18_wasAsked_13 : decode cX18_wasAsked 13 = .ok (.putfield 130, 3) := by decide +kernel
theorem dX18_wasAsked_16 : decode cX18_wasAsked 16 = .ok (.aload_n 0, 1) := by decide +kernel
theorem dX18_wasAsked_17 : decode cX18_wasAsked 17 = .ok (.getfield 234, 3) := by decide +kernel
theorem dX18_wasAsked_20 : decode cX18_wasAsked 20 = .ok (.ireturn, 1) := by decide +kernel
set_option maxRecDepth 20000 in
theorem ggX18_ending_X18_wasAsked : GoodIn wsX18_ending wsX18_wasAsked := goodIn_r _ [6, 7, 8, 9, 10, 11, 12, 13, 14, 15, 16, 17, 18, 19, 20, 21, 22, 23, 24, 25, 26, 27, 28, 29, 30, 31, 32, 33, 34, 35, 36, 37, 38, 39, 40, 41, 42, 43, 44, 45, 46, 47, 48, 49, 50, 51, 52, 53, 54, 55, 56, 57, 58, 59, 60, 61, 62, 63, 64, 65, 66, 67, 68, 69, 70, 71, 72, 73, 74, 75, 76, 77, 78] (by decide +kernel) (by decide +kernel)
set_option maxRecDepth 20000 in
theorem gX18_ending_X18_wasAsked : GoodIn wsX18_ending (wsV RX18 424 RX18 yX18_wasAsked wsX18_wasAsked) := goodIn_app (goodIn_of _ (by decide +kernel)) ggX18_ending_X18_wasAsked
theorem dX18_ending_0 : decode cX18_ending 0 = .ok (.aload_n 0, 1) := by decide +kernel
theorem dX18_ending_1 : decode cX18_ending 1 = .ok (.invokevirtual 424, 3) := by decide +kernel
theorem dX18_ending_4 : decode cX18_ending 4 = .ok (.ifCond .eq 10, 3) := by decide +kernel
theorem dX18_ending_14 : decode cX18_ending 14 = .ok (.iconst 0, 1) := by decide +kernel
theorem dX18_ending_15 : decode cX18_ending 15 = .ok (.ireturn, 1) := by decide +kernel
set_option maxRecDepth 20000 in
theorem ggX18_answerAt_X18_wasAsked : GoodIn wsX18_answerAt wsX18_wasAsked := goodIn_r _ [9, 10, 11, 19, 20, 21, 22, 23, 24, 25, 26, 27, 28, 29, 30, 31, 32, 33, 34, 35, 36, 37, 38, 39, 40, 41, 42, 43, 44, 45, 46, 47, 48, 49, 50, 51, 52, 53, 54, 55, 56, 57, 58, 59, 60, 61, 62, 63, 64, 65, 66, 67, 68, 69, 70, 71, 72, 73, 74, 75, 76, 77, 78, 79, 80, 81, 82, 83, 84, 85, 86, 87, 88] (by decide +kernel) (by decide +kernel)
set_option maxRecDepth 20000 in
theorem gX18_answerAt_X18_wasAsked : GoodIn wsX18_answerAt (wsV RX18 424 RX18 yX18_wasAsked wsX18_wasAsked) := goodIn_app (goodIn_of _ (by decide +kernel)) ggX18_answerAt_X18_wasAsked
theorem dX18_answerAt_0 : decode cX18_answerAt 0 = .ok (.aload_n 0, 1) := by decide +kernel
theorem dX18_answerAt_1 : decode cX18_answerAt 1 = .ok (.invokevirtual 424, 3) := by decide +kernel
theorem dX18_answerAt_4 : decode cX18_answerAt 4 = .ok (.ifCond .ne 5, 3) := by decide +kernel
theorem dX18_answerAt_7 : decode cX18_answerAt 7 = .ok (.iconst 0, 1) := by decide +kernel
theorem dX18_answerAt_8 : decode cX18_answerAt 8 = .ok (.ireturn, 1) := by decide +kernel
set_option maxRecDepth 20000 in
theorem ggX18_multiplicity_X18_wasAsked : GoodIn wsX18_multiplicity wsX18_wasAsked := goodIn_r _ [9, 10, 11, 19, 20, 21, 22, 23, 24, 25, 26, 27, 28, 29, 30, 31, 32, 33, 34, 35, 36, 37, 38, 39, 40, 41, 42, 43, 44, 45, 46, 47, 48, 49, 50, 51, 52, 53, 54, 55, 56, 57, 58, 59, 60, 61, 62, 63, 64, 65, 66, 67, 68, 69, 70, 71, 72, 73, 74, 75, 76, 77, 78, 79, 80, 81, 82, 83, 84, 85, 86, 87, 88] (by decide +kernel) (by decide +kernel)
set_option maxRecDepth 20000 in
theorem gX18_multiplicity_X18_wasAsked : GoodIn wsX18_multiplicity (wsV RX18 424 RX18 yX18_wasAsked wsX18_wasAsked) := goodIn_app (goodIn_of _ (by decide +kernel)) ggX18_multiplicity_X18_wasAsked
theorem dX18_multiplicity_0 : decode cX18_multiplicity 0 = .ok (.aload_n 0, 1) := by decide +kernel
theorem dX18_multiplicity_1 : decode cX18_multiplicity 1 = .ok (.invokevirtual 424, 3) := by decide +kernel
theorem dX18_multiplicity_4 : decode cX18_multiplicity 4 = .ok (.ifCond .ne 5, 3) := by decide +kernel
theorem dX18_multiplicity_7 : decode cX18_multiplicity 7 = .ok (.iconst 0, 1) := by decide +kernel
theorem dX18_multiplicity_8 : decode cX18_multiplicity 8 = .ok (.ireturn, 1) := by decide +kernel
set_option maxRecDepth 20000 in
theorem ggX18_steps_X18_wasAsked : GoodIn wsX18_steps wsX18_wasAsked := goodIn_r _ [6, 7, 8, 9, 10, 11, 12, 13, 14, 15, 16, 17, 18, 19, 20, 21, 22, 23, 24, 25, 26, 27, 28, 29, 30, 31, 32, 33, 34, 35, 36, 37, 38, 39, 40, 41, 42, 43, 44, 45, 46, 47, 48, 49, 50, 51, 52, 53, 54, 55, 56, 57, 58, 59, 60, 61, 62, 63, 64, 65, 66, 67, 68, 69, 70, 71, 72, 73, 74, 75, 76, 77, 78] (by decide +kernel) (by decide +kernel)
set_option maxRecDepth 20000 in
theorem gX18_steps_X18_wasAsked : GoodIn wsX18_steps (wsV RX18 424 RX18 yX18_wasAsked wsX18_wasAsked) := goodIn_app (goodIn_of _ (by decide +kernel)) ggX18_steps_X18_wasAsked
theorem dX18_steps_0 : decode cX18_steps 0 = .ok (.aload_n 0, 1) := by decide +kernel
theorem dX18_steps_1 : decode cX18_steps 1 = .ok (.invokevirtual 424, 3) := by decide +kernel
theorem dX18_steps_4 : decode cX18_steps 4 = .ok (.ifCond .eq 10, 3) := by decide +kernel
theorem dX18_steps_14 : decode cX18_steps 14 = .ok (.iconst 0, 1) := by decide +kernel
