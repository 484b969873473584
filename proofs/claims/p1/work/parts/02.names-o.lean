set_option maxRecDepth 20000 in
theorem dLb_0 : decode cL_law 0 = .ok (.new 8, 3) ∧ decode cL_law 3 = .ok (.dup, 1) ∧ decode cL_law 4 = .ok (.invokespecial 134, 3) ∧ decode cL_law 7 = .ok (.astore_n 1, 1) ∧ decode cL_law 8 = .ok (.new 135, 3) ∧ decode cL_law 11 = .ok (.dup, 1) ∧ decode cL_law 12 = .ok (.invokespecial 137, 3) ∧ decode cL_law 15 = .ok (.astore_n 2, 1) := by decide +kernel
theorem dL_law_0 : decode cL_law 0 = .ok (.new 8, 3) := dLb_0.1
theorem dL_law_3 : decode cL_law 3 = .ok (.dup, 1) := dLb_0.2.1
theorem dL_law_4 : decode cL_law 4 = .ok (.invokespecial 134, 3) := dLb_0.2.2.1
theorem dL_law_7 : decode cL_law 7 = .ok (.astore_n 1, 1) := dLb_0.2.2.2.1
theorem dL_law_8 : decode cL_law 8 = .ok (.new 135, 3) := dLb_0.2.2.2.2.1
theorem dL_law_11 : decode cL_law 11 = .ok (.dup, 1) := dLb_0.2.2.2.2.2.1
theorem dL_law_12 : decode cL_law 12 = .ok (.invokespecial 137, 3) := dLb_0.2.2.2.2.2.2.1
theorem dL_law_15 : decode cL_law 15 = .ok (.astore_n 2, 1) := dLb_0.2.2.2.2.2.2.2
set_option maxRecDepth 20000 in
theorem dLb_1 : decode cL_law 16 = .ok (.iconst 1, 1) ∧ decode cL_law 17 = .ok (.newarray .long, 2) ∧ decode cL_law 19 = .ok (.astore_n 3, 1) ∧ decode cL_law 20 = .ok (.iconst 1, 1) ∧ decode cL_law 21 = .ok (.newarray .double, 2) ∧ decode cL_law 23 = .ok (.astore 4, 2) ∧ decode cL_law 25 = .ok (.iconst 0, 1) ∧ decode cL_law 26 = .ok (.istore 5, 2) := by decide +kernel
theorem dL_law_16 : decode cL_law 16 = .ok (.iconst 1, 1) := dLb_1.1
theorem dL_law_17 : decode cL_law 17 = .ok (.newarray .long, 2) := dLb_1.2.1
theorem dL_law_19 : decode cL_law 19 = .ok (.astore_n 3, 1) := dLb_1.2.2.1
theorem dL_law_20 : decode cL_law 20 = .ok (.iconst 1, 1) := dLb_1.2.2.2.1
theorem dL_law_21 : decode cL_law 21 = .ok (.newarray .double, 2) := dLb_1.2.2.2.2.1
theorem dL_law_23 : decode cL_law 23 = .ok (.astore 4, 2) := dLb_1.2.2.2.2.2.1
theorem dL_law_25 : decode cL_law 25 = .ok (.iconst 0, 1) := dLb_1.2.2.2.2.2.2.1
theorem dL_law_26 : decode cL_law 26 = .ok (.istore 5, 2) := dLb_1.2.2.2.2.2.2.2
set_option maxRecDepth 20000 in
theorem dLb_2 : decode cL_law 28 = .ok (.iload 5, 2) ∧ decode cL_law 30 = .ok (.aload_n 0, 1) ∧ decode cL_law 31 = .ok (.arraylength, 1) ∧ decode cL_law 32 = .ok (.bipush 7, 2) ∧ decode cL_law 34 = .ok (.isub, 1) ∧ decode cL_law 35 = .ok (.if_icmp .gt 2361, 3) ∧ decode cL_law 38 = .ok (.aload_n 0, 1) ∧ decode cL_law 39 = .ok (.iload 5, 2) := by decide +kernel
theorem dL_law_28 : decode cL_law 28 = .ok (.iload 5, 2) := dLb_2.1
theorem dL_law_30 : decode cL_law 30 = .ok (.aload_n 0, 1) := dLb_2.2.1
theorem dL_law_31 : decode cL_law 31 = .ok (.arraylength, 1) := dLb_2.2.2.1
theorem dL_law_32 : decode cL_law 32 = .ok (.bipush 7, 2) := dLb_2.2.2.2.1
theorem dL_law_34 : decode cL_law 34 = .ok (.isub, 1) := dLb_2.2.2.2.2.1
theorem dL_law_35 : decode cL_law 35 = .ok (.if_icmp .gt 2361, 3) := dLb_2.2.2.2.2.2.1
theorem dL_law_38 : decode cL_law 38 = .ok (.aload_n 0, 1) := dLb_2.2.2.2.2.2.2.1
theorem dL_law_39 : decode cL_law 39 = .ok (.iload 5, 2) := dLb_2.2.2.2.2.2.2.2
set_option maxRecDepth 20000 in
theorem dLb_3 : decode cL_law 41 = .ok (.iaload, 1) ∧ decode cL_law 42 = .ok (.bipush 63, 2) ∧ decode cL_law 44 = .ok (.iand, 1) ∧ decode cL_law 45 = .ok (.tableswitch 2345 0 33 #[151, 195, 275, 355, 411, 479, 534, 614, 696, 752, 856, 936, 1070, 1114, 1158, 1226, 1301, 1369, 1437, 1517, 1597, 1701, 1745, 1813, 1869, 1913, 1957, 2001, 2045, 2089, 2145, 2201, 2214, 2280], 151) ∧ decode cL_law 196 = .ok (.aload_n 1, 1) ∧ decode cL_law 197 = .ok (.aload_n 3, 1) ∧ decode cL_law 198 = .ok (.invokestatic 138, 3) ∧ decode cL_law 201 = .ok (.istore 6, 2) := by decide +kernel
theorem dL_law_41 : decode cL_law 41 = .ok (.iaload, 1) := dLb_3.1
theorem dL_law_42 : decode cL_law 42 = .ok (.bipush 63, 2) := dLb_3.2.1
theorem dL_law_44 : decode cL_law 44 = .ok (.iand, 1) := dLb_3.2.2.1
theorem dL_law_45 : decode cL_law 45 = .ok (.tableswitch 2345 0 33 #[151, 195, 275, 355, 411, 479, 534, 614, 696, 752, 856, 936, 1070, 1114, 1158, 1226, 1301, 1369, 1437, 1517, 1597, 1701, 1745, 1813, 1869, 1913, 1957, 2001, 2045, 2089, 2145, 2201, 2214, 2280], 151) := dLb_3.2.2.2.1
theorem dL_law_196 : decode cL_law 196 = .ok (.aload_n 1, 1) := dLb_3.2.2.2.2.1
theorem dL_law_197 : decode cL_law 197 = .ok (.aload_n 3, 1) := dLb_3.2.2.2.2.2.1
theorem dL_law_198 : decode cL_law 198 = .ok (.invokestatic 138, 3) := dLb_3.2.2.2.2.2.2.1
theorem dL_law_201 : decode cL_law 201 = .ok (.istore 6, 2) := dLb_3.2.2.2.2.2.2.2
set_option maxRecDepth 20000 in
theorem dLb_4 : decode cL_law 203 = .ok (.aload_n 2, 1) ∧ decode cL_law 204 = .ok (.invokevirtual 143, 3) ∧ decode cL_law 207 = .ok (.istore 7, 2) ∧ decode cL_law 209 = .ok (.aload_n 2, 1) ∧ decode cL_law 210 = .ok (.invokevirtual 144, 3) ∧ decode cL_law 213 = .ok (.iload 6, 2) ∧ decode cL_law 215 = .ok (.if_icmp .eq 5, 3) ∧ decode cL_law 220 = .ok (.iload 6, 2) := by decide +kernel
theorem dL_law_203 : decode cL_law 203 = .ok (.aload_n 2, 1) := dLb_4.1
theorem dL_law_204 : decode cL_law 204 = .ok (.invokevirtual 143, 3) := dLb_4.2.1
theorem dL_law_207 : decode cL_law 207 = .ok (.istore 7, 2) := dLb_4.2.2.1
theorem dL_law_209 : decode cL_law 209 = .ok (.aload_n 2, 1) := dLb_4.2.2.2.1
theorem dL_law_210 : decode cL_law 210 = .ok (.invokevirtual 144, 3) := dLb_4.2.2.2.2.1
theorem dL_law_213 : decode cL_law 213 = .ok (.iload 6, 2) := dLb_4.2.2.2.2.2.1
theorem dL_law_215 : decode cL_law 215 = .ok (.if_icmp .eq 5, 3) := dLb_4.2.2.2.2.2.2.1
theorem dL_law_220 : decode cL_law 220 = .ok (.iload 6, 2) := dLb_4.2.2.2.2.2.2.2
set_option maxRecDepth 20000 in
theorem dLb_5 : decode cL_law 222 = .ok (.ifCond .ne 15, 3) ∧ decode cL_law 225 = .ok (.aload_n 3, 1) ∧ decode cL_law 226 = .ok (.iconst 0, 1) ∧ decode cL_law 227 = .ok (.laload, 1) ∧ decode cL_law 228 = .ok (.iload 7, 2) ∧ decode cL_law 230 = .ok (.i2l, 1) ∧ decode cL_law 231 = .ok (.lcmp, 1) ∧ decode cL_law 232 = .ok (.ifCond .eq 5, 3) := by decide +kernel
theorem dL_law_222 : decode cL_law 222 = .ok (.ifCond .ne 15, 3) := dLb_5.1
theorem dL_law_225 : decode cL_law 225 = .ok (.aload_n 3, 1) := dLb_5.2.1
theorem dL_law_226 : decode cL_law 226 = .ok (.iconst 0, 1) := dLb_5.2.2.1
theorem dL_law_227 : decode cL_law 227 = .ok (.laload, 1) := dLb_5.2.2.2.1
theorem dL_law_228 : decode cL_law 228 = .ok (.iload 7, 2) := dLb_5.2.2.2.2.1
theorem dL_law_230 : decode cL_law 230 = .ok (.i2l, 1) := dLb_5.2.2.2.2.2.1
theorem dL_law_231 : decode cL_law 231 = .ok (.lcmp, 1) := dLb_5.2.2.2.2.2.2.1
theorem dL_law_232 : decode cL_law 232 = .ok (.ifCond .eq 5, 3) := dLb_5.2.2.2.2.2.2.2
set_option maxRecDepth 20000 in
theorem dLb_6 : decode cL_law 237 = .ok (.goto 2153, 3) ∧ decode cL_law 240 = .ok (.aload_n 1, 1) ∧ decode cL_law 241 = .ok (.aload_n 0, 1) ∧ decode cL_law 242 = .ok (.iload 5, 2) ∧ decode cL_law 244 = .ok (.iconst 1, 1) ∧ decode cL_law 245 = .ok (.iadd, 1) ∧ decode cL_law 246 = .ok (.iaload, 1) ∧ decode cL_law 247 = .ok (.aload_n 0, 1) := by decide +kernel
theorem dL_law_237 : decode cL_law 237 = .ok (.goto 2153, 3) := dLb_6.1
theorem dL_law_240 : decode cL_law 240 = .ok (.aload_n 1, 1) := dLb_6.2.1
theorem dL_law_241 : decode cL_law 241 = .ok (.aload_n 0, 1) := dLb_6.2.2.1
theorem dL_law_242 : decode cL_law 242 = .ok (.iload 5, 2) := dLb_6.2.2.2.1
theorem dL_law_244 : decode cL_law 244 = .ok (.iconst 1, 1) := dLb_6.2.2.2.2.1
theorem dL_law_245 : decode cL_law 245 = .ok (.iadd, 1) := dLb_6.2.2.2.2.2.1
theorem dL_law_246 : decode cL_law 246 = .ok (.iaload, 1) := dLb_6.2.2.2.2.2.2.1
theorem dL_law_247 : decode cL_law 247 = .ok (.aload_n 0, 1) := dLb_6.2.2.2.2.2.2.2
set_option maxRecDepth 20000 in
theorem dLb_7 : decode cL_law 248 = .ok (.iload 5, 2) ∧ decode cL_law 250 = .ok (.iconst 2, 1) ∧ decode cL_law 251 = .ok (.iadd, 1) ∧ decode cL_law 252 = .ok (.iaload, 1) ∧ decode cL_law 253 = .ok (.aload_n 0, 1) ∧ decode cL_law 254 = .ok (.iload 5, 2) ∧ decode cL_law 256 = .ok (.iconst 3, 1) ∧ decode cL_law 257 = .ok (.iadd, 1) := by decide +kernel
theorem dL_law_248 : decode cL_law 248 = .ok (.iload 5, 2) := dLb_7.1
theorem dL_law_250 : decode cL_law 250 = .ok (.iconst 2, 1) := dLb_7.2.1
theorem dL_law_251 : decode cL_law 251 = .ok (.iadd, 1) := dLb_7.2.2.1
theorem dL_law_252 : decode cL_law 252 = .ok (.iaload, 1) := dLb_7.2.2.2.1
theorem dL_law_253 : decode cL_law 253 = .ok (.aload_n 0, 1) := dLb_7.2.2.2.2.1
theorem dL_law_254 : decode cL_law 254 = .ok (.iload 5, 2) := dLb_7.2.2.2.2.2.1
theorem dL_law_256 : decode cL_law 256 = .ok (.iconst 3, 1) := dLb_7.2.2.2.2.2.2.1
theorem dL_law_257 : decode cL_law 257 = .ok (.iadd, 1) := dLb_7.2.2.2.2.2.2.2
set_option maxRecDepth 20000 in
theorem dLb_8 : decode cL_law 258 = .ok (.iaload, 1) ∧ decode cL_law 259 = .ok (.aload_n 3, 1) ∧ decode cL_law 260 = .ok (.invokestatic 147, 3) ∧ decode cL_law 263 = .ok (.istore 6, 2) ∧ decode cL_law 265 = .ok (.aload_n 2, 1) ∧ decode cL_law 266 = .ok (.aload_n 0, 1) ∧ decode cL_law 267 = .ok (.iload 5, 2) ∧ decode cL_law 269 = .ok (.iconst 1, 1) := by decide +kernel
theorem dL_law_258 : decode cL_law 258 = .ok (.iaload, 1) := dLb_8.1
theorem dL_law_259 : decode cL_law 259 = .ok (.aload_n 3, 1) := dLb_8.2.1
theorem dL_law_260 : decode cL_law 260 = .ok (.invokestatic 147, 3) := dLb_8.2.2.1
theorem dL_law_263 : decode cL_law 263 = .ok (.istore 6, 2) := dLb_8.2.2.2.1
theorem dL_law_265 : decode cL_law 265 = .ok (.aload_n 2, 1) := dLb_8.2.2.2.2.1
theorem dL_law_266 : decode cL_law 266 = .ok (.aload_n 0, 1) := dLb_8.2.2.2.2.2.1
theorem dL_law_267 : decode cL_law 267 = .ok (.iload 5, 2) := dLb_8.2.2.2.2.2.2.1
theorem dL_law_269 : decode cL_law 269 = .ok (.iconst 1, 1) := dLb_8.2.2.2.2.2.2.2
set_option maxRecDepth 20000 in
theorem dLb_9 : decode cL_law 270 = .ok (.iadd, 1) ∧ decode cL_law 271 = .ok (.iaload, 1) ∧ decode cL_law 272 = .ok (.aload_n 0, 1) ∧ decode cL_law 273 = .ok (.iload 5, 2) ∧ decode cL_law 275 = .ok (.iconst 2, 1) ∧ decode cL_law 276 = .ok (.iadd, 1) ∧ decode cL_law 277 = .ok (.iaload, 1) ∧ decode cL_law 278 = .ok (.aload_n 0, 1) := by decide +kernel
theorem dL_law_270 : decode cL_law 270 = .ok (.iadd, 1) := dLb_9.1
theorem dL_law_271 : decode cL_law 271 = .ok (.iaload, 1) := dLb_9.2.1
theorem dL_law_272 : decode cL_law 272 = .ok (.aload_n 0, 1) := dLb_9.2.2.1
theorem dL_law_273 : decode cL_law 273 = .ok (.iload 5, 2) := dLb_9.2.2.2.1
theorem dL_law_275 : decode cL_law 275 = .ok (.iconst 2, 1) := dLb_9.2.2.2.2.1
theorem dL_law_276 : decode cL_law 276 = .ok (.iadd, 1) := dLb_9.2.2.2.2.2.1
theorem dL_law_277 : decode cL_law 277 = .ok (.iaload, 1) := dLb_9.2.2.2.2.2.2.1
theorem dL_law_278 : decode cL_law 278 = .ok (.aload_n 0, 1) := dLb_9.2.2.2.2.2.2.2
set_option maxRecDepth 20000 in
theorem dLb_10 : decode cL_law 279 = .ok (.iload 5, 2) ∧ decode cL_law 281 = .ok (.iconst 3, 1) ∧ decode cL_law 282 = .ok (.iadd, 1) ∧ decode cL_law 283 = .ok (.iaload, 1) ∧ decode cL_law 284 = .ok (.invokevirtual 150, 3) ∧ decode cL_law 287 = .ok (.istore 7, 2) ∧ decode cL_law 289 = .ok (.aload_n 2, 1) ∧ decode cL_law 290 = .ok (.invokevirtual 144, 3) := by decide +kernel
theorem dL_law_279 : decode cL_law 279 = .ok (.iload 5, 2) := dLb_10.1
theorem dL_law_281 : decode cL_law 281 = .ok (.iconst 3, 1) := dLb_10.2.1
theorem dL_law_282 : decode cL_law 282 = .ok (.iadd, 1) := dLb_10.2.2.1
theorem dL_law_283 : decode cL_law 283 = .ok (.iaload, 1) := dLb_10.2.2.2.1
theorem dL_law_284 : decode cL_law 284 = .ok (.invokevirtual 150, 3) := dLb_10.2.2.2.2.1
theorem dL_law_287 : decode cL_law 287 = .ok (.istore 7, 2) := dLb_10.2.2.2.2.2.1
theorem dL_law_289 : decode cL_law 289 = .ok (.aload_n 2, 1) := dLb_10.2.2.2.2.2.2.1
theorem dL_law_290 : decode cL_law 290 = .ok (.invokevirtual 144, 3) := dLb_10.2.2.2.2.2.2.2
set_option maxRecDepth 20000 in
theorem dLb_11 : decode cL_law 293 = .ok (.iload 6, 2) ∧ decode cL_law 295 = .ok (.if_icmp .eq 5, 3) ∧ decode cL_law 300 = .ok (.iload 6, 2) ∧ decode cL_law 302 = .ok (.ifCond .ne 15, 3) ∧ decode cL_law 317 = .ok (.goto 2073, 3) ∧ decode cL_law 320 = .ok (.aload_n 1, 1) ∧ decode cL_law 321 = .ok (.aload_n 0, 1) ∧ decode cL_law 322 = .ok (.iload 5, 2) := by decide +kernel
theorem dL_law_293 : decode cL_law 293 = .ok (.iload 6, 2) := dLb_11.1
theorem dL_law_295 : decode cL_law 295 = .ok (.if_icmp .eq 5, 3) := dLb_11.2.1
theorem dL_law_300 : decode cL_law 300 = .ok (.iload 6, 2) := dLb_11.2.2.1
theorem dL_law_302 : decode cL_law 302 = .ok (.ifCond .ne 15, 3) := dLb_11.2.2.2.1
theorem dL_law_317 : decode cL_law 317 = .ok (.goto 2073, 3) := dLb_11.2.2.2.2.1
theorem dL_law_320 : decode cL_law 320 = .ok (.aload_n 1, 1) := dLb_11.2.2.2.2.2.1
theorem dL_law_321 : decode cL_law 321 = .ok (.aload_n 0, 1) := dLb_11.2.2.2.2.2.2.1
theorem dL_law_322 : decode cL_law 322 = .ok (.iload 5, 2) := dLb_11.2.2.2.2.2.2.2
set_option maxRecDepth 20000 in
theorem dLb_12 : decode cL_law 324 = .ok (.iconst 1, 1) ∧ decode cL_law 325 = .ok (.iadd, 1) ∧ decode cL_law 326 = .ok (.iaload, 1) ∧ decode cL_law 327 = .ok (.aload_n 0, 1) ∧ decode cL_law 328 = .ok (.iload 5, 2) ∧ decode cL_law 330 = .ok (.iconst 2, 1) ∧ decode cL_law 331 = .ok (.iadd, 1) ∧ decode cL_law 332 = .ok (.iaload, 1) := by decide +kernel
theorem dL_law_324 : decode cL_law 324 = .ok (.iconst 1, 1) := dLb_12.1
theorem dL_law_325 : decode cL_law 325 = .ok (.iadd, 1) := dLb_12.2.1
theorem dL_law_326 : decode cL_law 326 = .ok (.iaload, 1) := dLb_12.2.2.1
theorem dL_law_327 : decode cL_law 327 = .ok (.aload_n 0, 1) := dLb_12.2.2.2.1
theorem dL_law_328 : decode cL_law 328 = .ok (.iload 5, 2) := dLb_12.2.2.2.2.1
theorem dL_law_330 : decode cL_law 330 = .ok (.iconst 2, 1) := dLb_12.2.2.2.2.2.1
theorem dL_law_331 : decode cL_law 331 = .ok (.iadd, 1) := dLb_12.2.2.2.2.2.2.1
theorem dL_law_332 : decode cL_law 332 = .ok (.iaload, 1) := dLb_12.2.2.2.2.2.2.2
set_option maxRecDepth 20000 in
theorem dLb_13 : decode cL_law 333 = .ok (.aload_n 0, 1) ∧ decode cL_law 334 = .ok (.iload 5, 2) ∧ decode cL_law 336 = .ok (.iconst 3, 1) ∧ decode cL_law 337 = .ok (.iadd, 1) ∧ decode cL_law 338 = .ok (.iaload, 1) ∧ decode cL_law 339 = .ok (.aload_n 3, 1) ∧ decode cL_law 340 = .ok (.invokestatic 151, 3) ∧ decode cL_law 343 = .ok (.istore 6, 2) := by decide +kernel
theorem dL_law_333 : decode cL_law 333 = .ok (.aload_n 0, 1) := dLb_13.1
theorem dL_law_334 : decode cL_law 334 = .ok (.iload 5, 2) := dLb_13.2.1
theorem dL_law_336 : decode cL_law 336 = .ok (.iconst 3, 1) := dLb_13.2.2.1
theorem dL_law_337 : decode cL_law 337 = .ok (.iadd, 1) := dLb_13.2.2.2.1
theorem dL_law_338 : decode cL_law 338 = .ok (.iaload, 1) := dLb_13.2.2.2.2.1
theorem dL_law_339 : decode cL_law 339 = .ok (.aload_n 3, 1) := dLb_13.2.2.2.2.2.1
theorem dL_law_340 : decode cL_law 340 = .ok (.invokestatic 151, 3) := dLb_13.2.2.2.2.2.2.1
theorem dL_law_343 : decode cL_law 343 = .ok (.istore 6, 2) := dLb_13.2.2.2.2.2.2.2
set_option maxRecDepth 20000 in
theorem dLb_14 : decode cL_law 345 = .ok (.aload_n 2, 1) ∧ decode cL_law 346 = .ok (.aload_n 0, 1) ∧ decode cL_law 347 = .ok (.iload 5, 2) ∧ decode cL_law 349 = .ok (.iconst 1, 1) ∧ decode cL_law 350 = .ok (.iadd, 1) ∧ decode cL_law 351 = .ok (.iaload, 1) ∧ decode cL_law 352 = .ok (.aload_n 0, 1) ∧ decode cL_law 353 = .ok (.iload 5, 2) := by decide +kernel
theorem dL_law_345 : decode cL_law 345 = .ok (.aload_n 2, 1) := dLb_14.1
theorem dL_law_346 : decode cL_law 346 = .ok (.aload_n 0, 1) := dLb_14.2.1
theorem dL_law_347 : decode cL_law 347 = .ok (.iload 5, 2) := dLb_14.2.2.1
theorem dL_law_349 : decode cL_law 349 = .ok (.iconst 1, 1) := dLb_14.2.2.2.1
theorem dL_law_350 : decode cL_law 350 = .ok (.iadd, 1) := dLb_14.2.2.2.2.1
theorem dL_law_351 : decode cL_law 351 = .ok (.iaload, 1) := dLb_14.2.2.2.2.2.1
theorem dL_law_352 : decode cL_law 352 = .ok (.aload_n 0, 1) := dLb_14.2.2.2.2.2.2.1
theorem dL_law_353 : decode cL_law 353 = .ok (.iload 5, 2) := dLb_14.2.2.2.2.2.2.2
set_option maxRecDepth 20000 in
theorem dLb_15 : decode cL_law 355 = .ok (.iconst 2, 1) ∧ decode cL_law 356 = .ok (.iadd, 1) ∧ decode cL_law 357 = .ok (.iaload, 1) ∧ decode cL_law 358 = .ok (.aload_n 0, 1) ∧ decode cL_law 359 = .ok (.iload 5, 2) ∧ decode cL_law 361 = .ok (.iconst 3, 1) ∧ decode cL_law 362 = .ok (.iadd, 1) ∧ decode cL_law 363 = .ok (.iaload, 1) := by decide +kernel
theorem dL_law_355 : decode cL_law 355 = .ok (.iconst 2, 1) := dLb_15.1
theorem dL_law_356 : decode cL_law 356 = .ok (.iadd, 1) := dLb_15.2.1
theorem dL_law_357 : decode cL_law 357 = .ok (.iaload, 1) := dLb_15.2.2.1
theorem dL_law_358 : decode cL_law 358 = .ok (.aload_n 0, 1) := dLb_15.2.2.2.1
theorem dL_law_359 : decode cL_law 359 = .ok (.iload 5, 2) := dLb_15.2.2.2.2.1
theorem dL_law_361 : decode cL_law 361 = .ok (.iconst 3, 1) := dLb_15.2.2.2.2.2.1
theorem dL_law_362 : decode cL_law 362 = .ok (.iadd, 1) := dLb_15.2.2.2.2.2.2.1
theorem dL_law_363 : decode cL_law 363 = .ok (.iaload, 1) := dLb_15.2.2.2.2.2.2.2
set_option maxRecDepth 20000 in
theorem dLb_16 : decode cL_law 364 = .ok (.invokevirtual 153, 3) ∧ decode cL_law 367 = .ok (.istore 7, 2) ∧ decode cL_law 369 = .ok (.aload_n 2, 1) ∧ decode cL_law 370 = .ok (.invokevirtual 144, 3) ∧ decode cL_law 373 = .ok (.iload 6, 2) ∧ decode cL_law 375 = .ok (.if_icmp .eq 5, 3) ∧ decode cL_law 380 = .ok (.iload 6, 2) ∧ decode cL_law 382 = .ok (.ifCond .ne 15, 3) := by decide +kernel
theorem dL_law_364 : decode cL_law 364 = .ok (.invokevirtual 153, 3) := dLb_16.1
theorem dL_law_367 : decode cL_law 367 = .ok (.istore 7, 2) := dLb_16.2.1
theorem dL_law_369 : decode cL_law 369 = .ok (.aload_n 2, 1) := dLb_16.2.2.1
theorem dL_law_370 : decode cL_law 370 = .ok (.invokevirtual 144, 3) := dLb_16.2.2.2.1
theorem dL_law_373 : decode cL_law 373 = .ok (.iload 6, 2) := dLb_16.2.2.2.2.1
theorem dL_law_375 : decode cL_law 375 = .ok (.if_icmp .eq 5, 3) := dLb_16.2.2.2.2.2.1
theorem dL_law_380 : decode cL_law 380 = .ok (.iload 6, 2) := dLb_16.2.2.2.2.2.2.1
theorem dL_law_382 : decode cL_law 382 = .ok (.ifCond .ne 15, 3) := dLb_16.2.2.2.2.2.2.2
set_option maxRecDepth 20000 in
theorem dLb_17 : decode cL_law 397 = .ok (.goto 1993, 3) ∧ decode cL_law 400 = .ok (.aload_n 1, 1) ∧ decode cL_law 401 = .ok (.aload_n 0, 1) ∧ decode cL_law 402 = .ok (.iload 5, 2) ∧ decode cL_law 404 = .ok (.iconst 1, 1) ∧ decode cL_law 405 = .ok (.iadd, 1) ∧ decode cL_law 406 = .ok (.iaload, 1) ∧ decode cL_law 407 = .ok (.aload_n 3, 1) := by decide +kernel
theorem dL_law_397 : decode cL_law 397 = .ok (.goto 1993, 3) := dLb_17.1
theorem dL_law_400 : decode cL_law 400 = .ok (.aload_n 1, 1) := dLb_17.2.1
theorem dL_law_401 : decode cL_law 401 = .ok (.aload_n 0, 1) := dLb_17.2.2.1
theorem dL_law_402 : decode cL_law 402 = .ok (.iload 5, 2) := dLb_17.2.2.2.1
theorem dL_law_404 : decode cL_law 404 = .ok (.iconst 1, 1) := dLb_17.2.2.2.2.1
theorem dL_law_405 : decode cL_law 405 = .ok (.iadd, 1) := dLb_17.2.2.2.2.2.1
theorem dL_law_406 : decode cL_law 406 = .ok (.iaload, 1) := dLb_17.2.2.2.2.2.2.1
theorem dL_law_407 : decode cL_law 407 = .ok (.aload_n 3, 1) := dLb_17.2.2.2.2.2.2.2
set_option maxRecDepth 20000 in
theorem dLb_18 : decode cL_law 408 = .ok (.invokestatic 154, 3) ∧ decode cL_law 411 = .ok (.istore 6, 2) ∧ decode cL_law 413 = .ok (.aload_n 2, 1) ∧ decode cL_law 414 = .ok (.aload_n 0, 1) ∧ decode cL_law 415 = .ok (.iload 5, 2) ∧ decode cL_law 417 = .ok (.iconst 1, 1) ∧ decode cL_law 418 = .ok (.iadd, 1) ∧ decode cL_law 419 = .ok (.iaload, 1) := by decide +kernel
theorem dL_law_408 : decode cL_law 408 = .ok (.invokestatic 154, 3) := dLb_18.1
theorem dL_law_411 : decode cL_law 411 = .ok (.istore 6, 2) := dLb_18.2.1
theorem dL_law_413 : decode cL_law 413 = .ok (.aload_n 2, 1) := dLb_18.2.2.1
theorem dL_law_414 : decode cL_law 414 = .ok (.aload_n 0, 1) := dLb_18.2.2.2.1
theorem dL_law_415 : decode cL_law 415 = .ok (.iload 5, 2) := dLb_18.2.2.2.2.1
theorem dL_law_417 : decode cL_law 417 = .ok (.iconst 1, 1) := dLb_18.2.2.2.2.2.1
theorem dL_law_418 : decode cL_law 418 = .ok (.iadd, 1) := dLb_18.2.2.2.2.2.2.1
theorem dL_law_419 : decode cL_law 419 = .ok (.iaload, 1) := dLb_18.2.2.2.2.2.2.2
set_option maxRecDepth 20000 in
theorem dLb_19 : decode cL_law 420 = .ok (.invokevirtual 157, 3) ∧ decode cL_law 423 = .ok (.istore 7, 2) ∧ decode cL_law 425 = .ok (.aload_n 2, 1) ∧ decode cL_law 426 = .ok (.invokevirtual 144, 3) ∧ decode cL_law 429 = .ok (.iload 6, 2) ∧ decode cL_law 431 = .ok (.if_icmp .eq 5, 3) ∧ decode cL_law 436 = .ok (.iload 6, 2) ∧ decode cL_law 438 = .ok (.ifCond .ne 15, 3) := by decide +kernel
theorem dL_law_420 : decode cL_law 420 = .ok (.invokevirtual 157, 3) := dLb_19.1
theorem dL_law_423 : decode cL_law 423 = .ok (.istore 7, 2) := dLb_19.2.1
theorem dL_law_425 : decode cL_law 425 = .ok (.aload_n 2, 1) := dLb_19.2.2.1
theorem dL_law_426 : decode cL_law 426 = .ok (.invokevirtual 144, 3) := dLb_19.2.2.2.1
theorem dL_law_429 : decode cL_law 429 = .ok (.iload 6, 2) := dLb_19.2.2.2.2.1
theorem dL_law_431 : decode cL_law 431 = .ok (.if_icmp .eq 5, 3) := dLb_19.2.2.2.2.2.1
theorem dL_law_436 : decode cL_law 436 = .ok (.iload 6, 2) := dLb_19.2.2.2.2.2.2.1
theorem dL_law_438 : decode cL_law 438 = .ok (.ifCond .ne 15, 3) := dLb_19.2.2.2.2.2.2.2
set_option maxRecDepth 20000 in
theorem dLb_20 : decode cL_law 453 = .ok (.goto 1937, 3) ∧ decode cL_law 456 = .ok (.aload_n 1, 1) ∧ decode cL_law 457 = .ok (.aload_n 0, 1) ∧ decode cL_law 458 = .ok (.iload 5, 2) ∧ decode cL_law 460 = .ok (.iconst 1, 1) ∧ decode cL_law 461 = .ok (.iadd, 1) ∧ decode cL_law 462 = .ok (.iaload, 1) ∧ decode cL_law 463 = .ok (.aload_n 0, 1) := by decide +kernel
theorem dL_law_453 : decode cL_law 453 = .ok (.goto 1937, 3) := dLb_20.1
theorem dL_law_456 : decode cL_law 456 = .ok (.aload_n 1, 1) := dLb_20.2.1
theorem dL_law_457 : decode cL_law 457 = .ok (.aload_n 0, 1) := dLb_20.2.2.1
theorem dL_law_458 : decode cL_law 458 = .ok (.iload 5, 2) := dLb_20.2.2.2.1
theorem dL_law_460 : decode cL_law 460 = .ok (.iconst 1, 1) := dLb_20.2.2.2.2.1
theorem dL_law_461 : decode cL_law 461 = .ok (.iadd, 1) := dLb_20.2.2.2.2.2.1
theorem dL_law_462 : decode cL_law 462 = .ok (.iaload, 1) := dLb_20.2.2.2.2.2.2.1
theorem dL_law_463 : decode cL_law 463 = .ok (.aload_n 0, 1) := dLb_20.2.2.2.2.2.2.2
set_option maxRecDepth 20000 in
theorem dLb_21 : decode cL_law 464 = .ok (.iload 5, 2) ∧ decode cL_law 466 = .ok (.iconst 2, 1) ∧ decode cL_law 467 = .ok (.iadd, 1) ∧ decode cL_law 468 = .ok (.iaload, 1) ∧ decode cL_law 469 = .ok (.aload_n 3, 1) ∧ decode cL_law 470 = .ok (.invokestatic 158, 3) ∧ decode cL_law 473 = .ok (.istore 6, 2) ∧ decode cL_law 475 = .ok (.aload_n 2, 1) := by decide +kernel
theorem dL_law_464 : decode cL_law 464 = .ok (.iload 5, 2) := dLb_21.1
theorem dL_law_466 : decode cL_law 466 = .ok (.iconst 2, 1) := dLb_21.2.1
theorem dL_law_467 : decode cL_law 467 = .ok (.iadd, 1) := dLb_21.2.2.1
theorem dL_law_468 : decode cL_law 468 = .ok (.iaload, 1) := dLb_21.2.2.2.1
theorem dL_law_469 : decode cL_law 469 = .ok (.aload_n 3, 1) := dLb_21.2.2.2.2.1
theorem dL_law_470 : decode cL_law 470 = .ok (.invokestatic 158, 3) := dLb_21.2.2.2.2.2.1
theorem dL_law_473 : decode cL_law 473 = .ok (.istore 6, 2) := dLb_21.2.2.2.2.2.2.1
theorem dL_law_475 : decode cL_law 475 = .ok (.aload_n 2, 1) := dLb_21.2.2.2.2.2.2.2
set_option maxRecDepth 20000 in
theorem dLb_22 : decode cL_law 476 = .ok (.aload_n 0, 1) ∧ decode cL_law 477 = .ok (.iload 5, 2) ∧ decode cL_law 479 = .ok (.iconst 1, 1) ∧ decode cL_law 480 = .ok (.iadd, 1) ∧ decode cL_law 481 = .ok (.iaload, 1) ∧ decode cL_law 482 = .ok (.aload_n 0, 1) ∧ decode cL_law 483 = .ok (.iload 5, 2) ∧ decode cL_law 485 = .ok (.iconst 2, 1) := by decide +kernel
theorem dL_law_476 : decode cL_law 476 = .ok (.aload_n 0, 1) := dLb_22.1
theorem dL_law_477 : decode cL_law 477 = .ok (.iload 5, 2) := dLb_22.2.1
theorem dL_law_479 : decode cL_law 479 = .ok (.iconst 1, 1) := dLb_22.2.2.1
theorem dL_law_480 : decode cL_law 480 = .ok (.iadd, 1) := dLb_22.2.2.2.1
theorem dL_law_481 : decode cL_law 481 = .ok (.iaload, 1) := dLb_22.2.2.2.2.1
theorem dL_law_482 : decode cL_law 482 = .ok (.aload_n 0, 1) := dLb_22.2.2.2.2.2.1
theorem dL_law_483 : decode cL_law 483 = .ok (.iload 5, 2) := dLb_22.2.2.2.2.2.2.1
theorem dL_law_485 : decode cL_law 485 = .ok (.iconst 2, 1) := dLb_22.2.2.2.2.2.2.2
set_option maxRecDepth 20000 in
theorem dLb_23 : decode cL_law 486 = .ok (.iadd, 1) ∧ decode cL_law 487 = .ok (.iaload, 1) ∧ decode cL_law 488 = .ok (.invokevirtual 161, 3) ∧ decode cL_law 491 = .ok (.istore 7, 2) ∧ decode cL_law 493 = .ok (.aload_n 2, 1) ∧ decode cL_law 494 = .ok (.invokevirtual 144, 3) ∧ decode cL_law 497 = .ok (.iload 6, 2) ∧ decode cL_law 499 = .ok (.if_icmp .eq 5, 3) := by decide +kernel
theorem dL_law_486 : decode cL_law 486 = .ok (.iadd, 1) := dLb_23.1
theorem dL_law_487 : decode cL_law 487 = .ok (.iaload, 1) := dLb_23.2.1
theorem dL_law_488 : decode cL_law 488 = .ok (.invokevirtual 161, 3) := dLb_23.2.2.1
theorem dL_law_491 : decode cL_law 491 = .ok (.istore 7, 2) := dLb_23.2.2.2.1
theorem dL_law_493 : decode cL_law 493 = .ok (.aload_n 2, 1) := dLb_23.2.2.2.2.1
theorem dL_law_494 : decode cL_law 494 = .ok (.invokevirtual 144, 3) := dLb_23.2.2.2.2.2.1
theorem dL_law_497 : decode cL_law 497 = .ok (.iload 6, 2) := dLb_23.2.2.2.2.2.2.1
theorem dL_law_499 : decode cL_law 499 = .ok (.if_icmp .eq 5, 3) := dLb_23.2.2.2.2.2.2.2
set_option maxRecDepth 20000 in
theorem dLb_24 : decode cL_law 504 = .ok (.iload 6, 2) ∧ decode cL_law 506 = .ok (.ifCond .ne 15, 3) ∧ decode cL_law 521 = .ok (.goto 1869, 3) ∧ decode cL_law 524 = .ok (.aload_n 1, 1) ∧ decode cL_law 525 = .ok (.aload_n 0, 1) ∧ decode cL_law 526 = .ok (.iload 5, 2) ∧ decode cL_law 528 = .ok (.iconst 1, 1) ∧ decode cL_law 529 = .ok (.iadd, 1) := by decide +kernel
theorem dL_law_504 : decode cL_law 504 = .ok (.iload 6, 2) := dLb_24.1
theorem dL_law_506 : decode cL_law 506 = .ok (.ifCond .ne 15, 3) := dLb_24.2.1
theorem dL_law_521 : decode cL_law 521 = .ok (.goto 1869, 3) := dLb_24.2.2.1
theorem dL_law_524 : decode cL_law 524 = .ok (.aload_n 1, 1) := dLb_24.2.2.2.1
theorem dL_law_525 : decode cL_law 525 = .ok (.aload_n 0, 1) := dLb_24.2.2.2.2.1
theorem dL_law_526 : decode cL_law 526 = .ok (.iload 5, 2) := dLb_24.2.2.2.2.2.1
theorem dL_law_528 : decode cL_law 528 = .ok (.iconst 1, 1) := dLb_24.2.2.2.2.2.2.1
theorem dL_law_529 : decode cL_law 529 = .ok (.iadd, 1) := dLb_24.2.2.2.2.2.2.2
