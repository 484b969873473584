theorem dL_call_336 : decode cL_call 336 = .ok (.invokevirtual 84, 3) := by decide +kernel
theorem dL_call_339 : decode cL_call 339 = .ok (.ireturn, 1) := by decide +kernel
theorem dL_call_340 : decode cL_call 340 = .ok (.aload_n 0, 1) := by decide +kernel
theorem dL_call_341 : decode cL_call 341 = .ok (.iload_n 2, 1) := by decide +kernel
theorem dL_call_342 : decode cL_call 342 = .ok (.invokevirtual 87, 3) := by decide +kernel
theorem dL_call_345 : decode cL_call 345 = .ok (.ireturn, 1) := by decide +kernel
theorem dL_call_346 : decode cL_call 346 = .ok (.aload_n 0, 1) := by decide +kernel
theorem dL_call_347 : decode cL_call 347 = .ok (.invokevirtual 90, 3) := by decide +kernel
theorem dL_call_350 : decode cL_call 350 = .ok (.ireturn, 1) := by decide +kernel
theorem dL_call_351 : decode cL_call 351 = .ok (.aload_n 0, 1) := by decide +kernel
theorem dL_call_352 : decode cL_call 352 = .ok (.invokevirtual 93, 3) := by decide +kernel
theorem dL_call_355 : decode cL_call 355 = .ok (.ireturn, 1) := by decide +kernel
theorem dL_call_356 : decode cL_call 356 = .ok (.aload_n 0, 1) := by decide +kernel
theorem dL_call_357 : decode cL_call 357 = .ok (.invokevirtual 96, 3) := by decide +kernel
theorem dL_call_360 : decode cL_call 360 = .ok (.ireturn, 1) := by decide +kernel
theorem dL_call_361 : decode cL_call 361 = .ok (.aload_n 0, 1) := by decide +kernel
theorem dL_call_362 : decode cL_call 362 = .ok (.invokevirtual 99, 3) := by decide +kernel
theorem dL_call_365 : decode cL_call 365 = .ok (.ireturn, 1) := by decide +kernel
theorem dL_call_366 : decode cL_call 366 = .ok (.aload_n 0, 1) := by decide +kernel
theorem dL_call_367 : decode cL_call 367 = .ok (.invokevirtual 102, 3) := by decide +kernel
theorem dL_call_370 : decode cL_call 370 = .ok (.ireturn, 1) := by decide +kernel
theorem dL_call_371 : decode cL_call 371 = .ok (.aload_n 0, 1) := by decide +kernel
theorem dL_call_372 : decode cL_call 372 = .ok (.iload_n 2, 1) := by decide +kernel
theorem dL_call_373 : decode cL_call 373 = .ok (.invokevirtual 105, 3) := by decide +kernel
theorem dL_call_376 : decode cL_call 376 = .ok (.ireturn, 1) := by decide +kernel
theorem dL_call_377 : decode cL_call 377 = .ok (.aload_n 0, 1) := by decide +kernel
theorem dL_call_378 : decode cL_call 378 = .ok (.iload_n 2, 1) := by decide +kernel
theorem dL_call_379 : decode cL_call 379 = .ok (.invokevirtual 109, 3) := by decide +kernel
theorem dL_call_382 : decode cL_call 382 = .ok (.ireturn, 1) := by decide +kernel
theorem dL_call_383 : decode cL_call 383 = .ok (.astore 7, 2) := by decide +kernel
theorem dL_call_385 : decode cL_call 385 = .ok (.sipush (-1001), 3) := by decide +kernel
theorem dL_call_388 : decode cL_call 388 = .ok (.ireturn, 1) := by decide +kernel
theorem dL_call_389 : decode cL_call 389 = .ok (.astore 7, 2) := by decide +kernel
theorem dL_call_391 : decode cL_call 391 = .ok (.sipush (-1002), 3) := by decide +kernel
theorem dL_call_394 : decode cL_call 394 = .ok (.ireturn, 1) := by decide +kernel
theorem dL_call_395 : decode cL_call 395 = .ok (.astore 7, 2) := by decide +kernel
theorem dL_call_397 : decode cL_call 397 = .ok (.sipush (-1003), 3) := by decide +kernel
theorem dL_call_400 : decode cL_call 400 = .ok (.ireturn, 1) := by decide +kernel
theorem dL_call_401 : decode cL_call 401 = .ok (.astore 7, 2) := by decide +kernel
theorem dL_call_403 : decode cL_call 403 = .ok (.sipush (-1004), 3) := by decide +kernel
theorem dL_call_406 : decode cL_call 406 = .ok (.ireturn, 1) := by decide +kernel
theorem dL_call_407 : decode cL_call 407 = .ok (.astore 7, 2) := by decide +kernel
theorem dL_call_409 : decode cL_call 409 = .ok (.sipush (-1005), 3) := by decide +kernel
theorem dL_call_412 : decode cL_call 412 = .ok (.ireturn, 1) := by decide +kernel
theorem dL_call_413 : decode cL_call 413 = .ok (.astore 7, 2) := by decide +kernel
theorem dL_call_415 : decode cL_call 415 = .ok (.sipush (-1006), 3) := by decide +kernel
theorem dL_call_418 : decode cL_call 418 = .ok (.ireturn, 1) := by decide +kernel
theorem dL_state_0 : decode cL_state 0 = .ok (.ldc2_w 124, 3) := by decide +kernel
theorem dL_state_3 : decode cL_state 3 = .ok (.lstore_n 1, 1) := by decide +kernel
theorem dL_state_4 : decode cL_state 4 = .ok (.iconst 0, 1) := by decide +kernel
theorem dL_state_5 : decode cL_state 5 = .ok (.istore_n 3, 1) := by decide +kernel
theorem dL_state_6 : decode cL_state 6 = .ok (.iload_n 3, 1) := by decide +kernel
theorem dL_state_7 : decode cL_state 7 = .ok (.iconst 5, 1) := by decide +kernel
theorem dL_state_8 : decode cL_state 8 = .ok (.if_icmp .ge 100, 3) := by decide +kernel
theorem dL_state_11 : decode cL_state 11 = .ok (.iconst 0, 1) := by decide +kernel
theorem dL_state_12 : decode cL_state 12 = .ok (.istore 4, 2) := by decide +kernel
theorem dL_state_14 : decode cL_state 14 = .ok (.iload 4, 2) := by decide +kernel
theorem dL_state_16 : decode cL_state 16 = .ok (.iconst 2, 1) := by decide +kernel
theorem dL_state_17 : decode cL_state 17 = .ok (.if_icmp .ge 85, 3) := by decide +kernel
theorem dL_state_20 : decode cL_state 20 = .ok (.ldc2_w 126, 3) := by decide +kernel
theorem dL_state_23 : decode cL_state 23 = .ok (.ldc2_w 126, 3) := by decide +kernel
theorem dL_state_26 : decode cL_state 26 = .ok (.ldc2_w 126, 3) := by decide +kernel
theorem dL_state_29 : decode cL_state 29 = .ok (.lload_n 1, 1) := by decide +kernel
theorem dL_state_30 : decode cL_state 30 = .ok (.lmul, 1) := by decide +kernel
theorem dL_state_31 : decode cL_state 31 = .ok (.aload_n 0, 1) := by decide +kernel
theorem dL_state_32 : decode cL_state 32 = .ok (.bipush 13, 2) := by decide +kernel
theorem dL_state_34 : decode cL_state 34 = .ok (.iload_n 3, 1) := by decide +kernel
theorem dL_state_35 : decode cL_state 35 = .ok (.iload 4, 2) := by decide +kernel
theorem dL_state_37 : decode cL_state 37 = .ok (.iconst 0, 1) := by decide +kernel
theorem dL_state_38 : decode cL_state 38 = .ok (.iconst 0, 1) := by decide +kernel
theorem dL_state_39 : decode cL_state 39 = .ok (.iconst 0, 1) := by decide +kernel
theorem dL_state_40 : decode cL_state 40 = .ok (.invokestatic 128, 3) := by decide +kernel
theorem dL_state_43 : decode cL_state 43 = .ok (.i2l, 1) := by decide +kernel
theorem dL_state_44 : decode cL_state 44 = .ok (.ladd, 1) := by decide +kernel
theorem dL_state_45 : decode cL_state 45 = .ok (.lmul, 1) := by decide +kernel
theorem dL_state_46 : decode cL_state 46 = .ok (.aload_n 0, 1) := by decide +kernel
theorem dL_state_47 : decode cL_state 47 = .ok (.bipush 14, 2) := by decide +kernel
theorem dL_state_49 : decode cL_state 49 = .ok (.iload_n 3, 1) := by decide +kernel
theorem dL_state_50 : decode cL_state 50 = .ok (.iload 4, 2) := by decide +kernel
theorem dL_state_52 : decode cL_state 52 = .ok (.iconst 0, 1) := by decide +kernel
theorem dL_state_53 : decode cL_state 53 = .ok (.iconst 0, 1) := by decide +kernel
theorem dL_state_54 : decode cL_state 54 = .ok (.iconst 0, 1) := by decide +kernel
theorem dL_state_55 : decode cL_state 55 = .ok (.invokestatic 128, 3) := by decide +kernel
theorem dL_state_58 : decode cL_state 58 = .ok (.i2l, 1) := by decide +kernel
theorem dL_state_59 : decode cL_state 59 = .ok (.ladd, 1) := by decide +kernel
theorem dL_state_60 : decode cL_state 60 = .ok (.lmul, 1) := by decide +kernel
theorem dL_state_61 : decode cL_state 61 = .ok (.aload_n 0, 1) := by decide +kernel
theorem dL_state_62 : decode cL_state 62 = .ok (.bipush 15, 2) := by decide +kernel
theorem dL_state_64 : decode cL_state 64 = .ok (.iload_n 3, 1) := by decide +kernel
theorem dL_state_65 : decode cL_state 65 = .ok (.iload 4, 2) := by decide +kernel
theorem dL_state_67 : decode cL_state 67 = .ok (.iconst 0, 1) := by decide +kernel
theorem dL_state_68 : decode cL_state 68 = .ok (.iconst 0, 1) := by decide +kernel
theorem dL_state_69 : decode cL_state 69 = .ok (.iconst 0, 1) := by decide +kernel
theorem dL_state_70 : decode cL_state 70 = .ok (.invokestatic 128, 3) := by decide +kernel
theorem dL_state_73 : decode cL_state 73 = .ok (.i2l, 1) := by decide +kernel
theorem dL_state_74 : decode cL_state 74 = .ok (.ladd, 1) := by decide +kernel
theorem dL_state_75 : decode cL_state 75 = .ok (.lstore_n 1, 1) := by decide +kernel
theorem dL_state_76 : decode cL_state 76 = .ok (.ldc2_w 126, 3) := by decide +kernel
theorem dL_state_79 : decode cL_state 79 = .ok (.lload_n 1, 1) := by decide +kernel
theorem dL_state_80 : decode cL_state 80 = .ok (.lmul, 1) := by decide +kernel
theorem dL_state_81 : decode cL_state 81 = .ok (.aload_n 0, 1) := by decide +kernel
theorem dL_state_82 : decode cL_state 82 = .ok (.bipush 16, 2) := by decide +kernel
theorem dL_state_84 : decode cL_state 84 = .ok (.iload_n 3, 1) := by decide +kernel
theorem dL_state_85 : decode cL_state 85 = .ok (.iload 4, 2) := by decide +kernel
theorem dL_state_87 : decode cL_state 87 = .ok (.iconst 0, 1) := by decide +kernel
theorem dL_state_88 : decode cL_state 88 = .ok (.iconst 0, 1) := by decide +kernel
theorem dL_state_89 : decode cL_state 89 = .ok (.iconst 0, 1) := by decide +kernel
theorem dL_state_90 : decode cL_state 90 = .ok (.invokestatic 128, 3) := by decide +kernel
theorem dL_state_93 : decode cL_state 93 = .ok (.i2l, 1) := by decide +kernel
theorem dL_state_94 : decode cL_state 94 = .ok (.ladd, 1) := by decide +kernel
theorem dL_state_95 : decode cL_state 95 = .ok (.lstore_n 1, 1) := by decide +kernel
theorem dL_state_96 : decode cL_state 96 = .ok (.iinc 4 1, 3) := by decide +kernel
theorem dL_state_99 : decode cL_state 99 = .ok (.goto (-85), 3) := by decide +kernel
theorem dL_state_102 : decode cL_state 102 = .ok (.iinc 3 1, 3) := by decide +kernel
theorem dL_state_105 : decode cL_state 105 = .ok (.goto (-99), 3) := by decide +kernel
theorem dL_state_108 : decode cL_state 108 = .ok (.iconst 0, 1) := by decide +kernel
theorem dL_state_109 : decode cL_state 109 = .ok (.istore_n 3, 1) := by decide +kernel
theorem dL_state_110 : decode cL_state 110 = .ok (.iload_n 3, 1) := by decide +kernel
theorem dL_state_111 : decode cL_state 111 = .ok (.bipush 6, 2) := by decide +kernel
theorem dL_state_113 : decode cL_state 113 = .ok (.if_icmp .ge 47, 3) := by decide +kernel
theorem dL_state_116 : decode cL_state 116 = .ok (.ldc2_w 126, 3) := by decide +kernel
theorem dL_state_119 : decode cL_state 119 = .ok (.ldc2_w 126, 3) := by decide +kernel
theorem dL_state_122 : decode cL_state 122 = .ok (.lload_n 1, 1) := by decide +kernel
theorem dL_state_123 : decode cL_state 123 = .ok (.lmul, 1) := by decide +kernel
theorem dL_state_124 : decode cL_state 124 = .ok (.aload_n 0, 1) := by decide +kernel
theorem dL_state_125 : decode cL_state 125 = .ok (.bipush 20, 2) := by decide +kernel
theorem dL_state_127 : decode cL_state 127 = .ok (.iload_n 3, 1) := by decide +kernel
theorem dL_state_128 : decode cL_state 128 = .ok (.iadd, 1) := by decide +kernel
theorem dL_state_129 : decode cL_state 129 = .ok (.iconst 0, 1) := by decide +kernel
theorem dL_state_130 : decode cL_state 130 = .ok (.iconst 0, 1) := by decide +kernel
theorem dL_state_131 : decode cL_state 131 = .ok (.iconst 0, 1) := by decide +kernel
theorem dL_state_132 : decode cL_state 132 = .ok (.iconst 0, 1) := by decide +kernel
theorem dL_state_133 : decode cL_state 133 = .ok (.iconst 0, 1) := by decide +kernel
theorem dL_state_134 : decode cL_state 134 = .ok (.invokestatic 128, 3) := by decide +kernel
theorem dL_state_137 : decode cL_state 137 = .ok (.i2l, 1) := by decide +kernel
theorem dL_state_138 : decode cL_state 138 = .ok (.ladd, 1) := by decide +kernel
theorem dL_state_139 : decode cL_state 139 = .ok (.lmul, 1) := by decide +kernel
theorem dL_state_140 : decode cL_state 140 = .ok (.aload_n 0, 1) := by decide +kernel
theorem dL_state_141 : decode cL_state 141 = .ok (.bipush 28, 2) := by decide +kernel
theorem dL_state_143 : decode cL_state 143 = .ok (.iload_n 3, 1) := by decide +kernel
theorem dL_state_144 : decode cL_state 144 = .ok (.iconst 0, 1) := by decide +kernel
theorem dL_state_145 : decode cL_state 145 = .ok (.iconst 0, 1) := by decide +kernel
theorem dL_state_146 : decode cL_state 146 = .ok (.iconst 0, 1) := by decide +kernel
theorem dL_state_147 : decode cL_state 147 = .ok (.iconst 0, 1) := by decide +kernel
theorem dL_state_148 : decode cL_state 148 = .ok (.invokestatic 128, 3) := by decide +kernel
theorem dL_state_151 : decode cL_state 151 = .ok (.i2l, 1) := by decide +kernel
theorem dL_state_152 : decode cL_state 152 = .ok (.ladd, 1) := by decide +kernel
theorem dL_state_153 : decode cL_state 153 = .ok (.lstore_n 1, 1) := by decide +kernel
theorem dL_state_154 : decode cL_state 154 = .ok (.iinc 3 1, 3) := by decide +kernel
theorem dL_state_157 : decode cL_state 157 = .ok (.goto (-47), 3) := by decide +kernel
theorem dL_state_160 : decode cL_state 160 = .ok (.ldc2_w 126, 3) := by decide +kernel
theorem dL_state_163 : decode cL_state 163 = .ok (.ldc2_w 126, 3) := by decide +kernel
theorem dL_state_166 : decode cL_state 166 = .ok (.lload_n 1, 1) := by decide +kernel
theorem dL_state_167 : decode cL_state 167 = .ok (.lmul, 1) := by decide +kernel
theorem dL_state_168 : decode cL_state 168 = .ok (.aload_n 0, 1) := by decide +kernel
theorem dL_state_169 : decode cL_state 169 = .ok (.bipush 26, 2) := by decide +kernel
theorem dL_state_171 : decode cL_state 171 = .ok (.iconst 0, 1) := by decide +kernel
theorem dL_state_172 : decode cL_state 172 = .ok (.iconst 0, 1) := by decide +kernel
theorem dL_state_173 : decode cL_state 173 = .ok (.iconst 0, 1) := by decide +kernel
theorem dL_state_174 : decode cL_state 174 = .ok (.iconst 0, 1) := by decide +kernel
theorem dL_state_175 : decode cL_state 175 = .ok (.iconst 0, 1) := by decide +kernel
theorem dL_state_176 : decode cL_state 176 = .ok (.invokestatic 128, 3) := by decide +kernel
theorem dL_state_179 : decode cL_state 179 = .ok (.i2l, 1) := by decide +kernel
theorem dL_state_180 : decode cL_state 180 = .ok (.ladd, 1) := by decide +kernel
theorem dL_state_181 : decode cL_state 181 = .ok (.lmul, 1) := by decide +kernel
theorem dL_state_182 : decode cL_state 182 = .ok (.aload_n 0, 1) := by decide +kernel
theorem dL_state_183 : decode cL_state 183 = .ok (.invokevirtual 134, 3) := by decide +kernel
theorem dL_state_186 : decode cL_state 186 = .ok (.i2l, 1) := by decide +kernel
theorem dL_state_187 : decode cL_state 187 = .ok (.ladd, 1) := by decide +kernel
theorem dL_state_188 : decode cL_state 188 = .ok (.lreturn, 1) := by decide +kernel
theorem dL_holds_0 : decode cL_holds 0 = .ok (.aload_n 0, 1) := by decide +kernel
theorem dL_holds_1 : decode cL_holds 1 = .ok (.bipush 15, 2) := by decide +kernel
theorem dL_holds_3 : decode cL_holds 3 = .ok (.iload_n 1, 1) := by decide +kernel
theorem dL_holds_4 : decode cL_holds 4 = .ok (.iload_n 2, 1) := by decide +kernel
theorem dL_holds_5 : decode cL_holds 5 = .ok (.iconst 0, 1) := by decide +kernel
theorem dL_holds_6 : decode cL_holds 6 = .ok (.iconst 0, 1) := by decide +kernel
theorem dL_holds_7 : decode cL_holds 7 = .ok (.iconst 0, 1) := by decide +kernel
theorem dL_holds_8 : decode cL_holds 8 = .ok (.invokestatic 128, 3) := by decide +kernel
theorem dL_holds_11 : decode cL_holds 11 = .ok (.istore 4, 2) := by decide +kernel
theorem dL_holds_13 : decode cL_holds 13 = .ok (.aload_n 0, 1) := by decide +kernel
theorem dL_holds_14 : decode cL_holds 14 = .ok (.bipush 20, 2) := by decide +kernel
theorem dL_holds_16 : decode cL_holds 16 = .ok (.iconst 0, 1) := by decide +kernel
theorem dL_holds_17 : decode cL_holds 17 = .ok (.iconst 0, 1) := by decide +kernel
theorem dL_holds_18 : decode cL_holds 18 = .ok (.iconst 0, 1) := by decide +kernel
theorem dL_holds_19 : decode cL_holds 19 = .ok (.iconst 0, 1) := by decide +kernel
theorem dL_holds_20 : decode cL_holds 20 = .ok (.iconst 0, 1) := by decide +kernel
theorem dL_holds_21 : decode cL_holds 21 = .ok (.invokestatic 128, 3) := by decide +kernel
theorem dL_holds_24 : decode cL_holds 24 = .ok (.bipush 101, 2) := by decide +kernel
theorem dL_holds_26 : decode cL_holds 26 = .ok (.if_icmp .ne 7, 3) := by decide +kernel
theorem dL_holds_29 : decode cL_holds 29 = .ok (.iconst 1, 1) := by decide +kernel
theorem dL_holds_30 : decode cL_holds 30 = .ok (.goto 4, 3) := by decide +kernel
theorem dL_holds_33 : decode cL_holds 33 = .ok (.iconst 0, 1) := by decide +kernel
theorem dL_holds_34 : decode cL_holds 34 = .ok (.istore 5, 2) := by decide +kernel
theorem dL_holds_36 : decode cL_holds 36 = .ok (.iload_n 3, 1) := by decide +kernel
theorem dL_holds_37 : decode cL_holds 37 = .ok (.bipush 50, 2) := by decide +kernel
theorem dL_holds_39 : decode cL_holds 39 = .ok (.if_icmp .gt 49, 3) := by decide +kernel
theorem dL_holds_42 : decode cL_holds 42 = .ok (.iload_n 3, 1) := by decide +kernel
theorem dL_holds_43 : decode cL_holds 43 = .ok (.ifCond .lt 45, 3) := by decide +kernel
theorem dL_holds_46 : decode cL_holds 46 = .ok (.iload 4, 2) := by decide +kernel
theorem dL_holds_48 : decode cL_holds 48 = .ok (.bipush 100, 2) := by decide +kernel
theorem dL_holds_50 : decode cL_holds 50 = .ok (.if_icmp .eq 10, 3) := by decide +kernel
theorem dL_holds_53 : decode cL_holds 53 = .ok (.iload 4, 2) := by decide +kernel
theorem dL_holds_55 : decode cL_holds 55 = .ok (.bipush 115, 2) := by decide +kernel
theorem dL_holds_57 : decode cL_holds 57 = .ok (.if_icmp .ne 8, 3) := by decide +kernel
theorem dL_holds_60 : decode cL_holds 60 = .ok (.iload_n 3, 1) := by decide +kernel
theorem dL_holds_61 : decode cL_holds 61 = .ok (.iconst 1, 1) := by decide +kernel
theorem dL_holds_62 : decode cL_holds 62 = .ok (.if_icmp .gt 26, 3) := by decide +kernel
theorem dL_holds_65 : decode cL_holds 65 = .ok (.iload 5, 2) := by decide +kernel
theorem dL_holds_67 : decode cL_holds 67 = .ok (.ifCond .eq 23, 3) := by decide +kernel
theorem dL_holds_70 : decode cL_holds 70 = .ok (.iload 4, 2) := by decide +kernel
theorem dL_holds_72 : decode cL_holds 72 = .ok (.bipush 100, 2) := by decide +kernel
theorem dL_holds_74 : decode cL_holds 74 = .ok (.if_icmp .eq 10, 3) := by decide +kernel
theorem dL_holds_77 : decode cL_holds 77 = .ok (.iload 4, 2) := by decide +kernel
theorem dL_holds_79 : decode cL_holds 79 = .ok (.bipush 109, 2) := by decide +kernel
theorem dL_holds_81 : decode cL_holds 81 = .ok (.if_icmp .ne 9, 3) := by decide +kernel
theorem dL_holds_84 : decode cL_holds 84 = .ok (.iload_n 3, 1) := by decide +kernel
theorem dL_holds_85 : decode cL_holds 85 = .ok (.ifCond .ne 5, 3) := by decide +kernel
theorem dL_holds_88 : decode cL_holds 88 = .ok (.iconst 0, 1) := by decide +kernel
theorem dL_holds_89 : decode cL_holds 89 = .ok (.ireturn, 1) := by decide +kernel
theorem dL_holds_90 : decode cL_holds 90 = .ok (.aload_n 0, 1) := by decide +kernel
theorem dL_holds_91 : decode cL_holds 91 = .ok (.bipush 23, 2) := by decide +kernel
theorem dL_holds_93 : decode cL_holds 93 = .ok (.iconst 0, 1) := by decide +kernel
theorem dL_holds_94 : decode cL_holds 94 = .ok (.iconst 0, 1) := by decide +kernel
theorem dL_holds_95 : decode cL_holds 95 = .ok (.iconst 0, 1) := by decide +kernel
theorem dL_holds_96 : decode cL_holds 96 = .ok (.iconst 0, 1) := by decide +kernel
theorem dL_holds_97 : decode cL_holds 97 = .ok (.iconst 0, 1) := by decide +kernel
theorem dL_holds_98 : decode cL_holds 98 = .ok (.invokestatic 128, 3) := by decide +kernel
theorem dL_holds_101 : decode cL_holds 101 = .ok (.istore 6, 2) := by decide +kernel
theorem dL_holds_103 : decode cL_holds 103 = .ok (.iload 5, 2) := by decide +kernel
theorem dL_holds_105 : decode cL_holds 105 = .ok (.ifCond .eq 14, 3) := by decide +kernel
theorem dL_holds_108 : decode cL_holds 108 = .ok (.iload 6, 2) := by decide +kernel
theorem dL_holds_110 : decode cL_holds 110 = .ok (.ifCond .lt 9, 3) := by decide +kernel
theorem dL_holds_113 : decode cL_holds 113 = .ok (.iload 6, 2) := by decide +kernel
theorem dL_holds_115 : decode cL_holds 115 = .ok (.iload_n 3, 1) := by decide +kernel
theorem dL_holds_116 : decode cL_holds 116 = .ok (.if_icmp .ne 11, 3) := by decide +kernel
theorem dL_holds_119 : decode cL_holds 119 = .ok (.iload 6, 2) := by decide +kernel
theorem dL_holds_121 : decode cL_holds 121 = .ok (.sipush (-1005), 3) := by decide +kernel
theorem dL_holds_124 : decode cL_holds 124 = .ok (.if_icmp .ne 5, 3) := by decide +kernel
theorem dL_holds_127 : decode cL_holds 127 = .ok (.iconst 0, 1) := by decide +kernel
theorem dL_holds_128 : decode cL_holds 128 = .ok (.ireturn, 1) := by decide +kernel
theorem dL_holds_129 : decode cL_holds 129 = .ok (.aload_n 0, 1) := by decide +kernel
theorem dL_holds_130 : decode cL_holds 130 = .ok (.bipush 24, 2) := by decide +kernel
theorem dL_holds_132 : decode cL_holds 132 = .ok (.iconst 0, 1) := by decide +kernel
theorem dL_holds_133 : decode cL_holds 133 = .ok (.iconst 0, 1) := by decide +kernel
theorem dL_holds_134 : decode cL_holds 134 = .ok (.iconst 0, 1) := by decide +kernel
theorem dL_holds_135 : decode cL_holds 135 = .ok (.iconst 0, 1) := by decide +kernel
theorem dL_holds_136 : decode cL_holds 136 = .ok (.iconst 0, 1) := by decide +kernel
theorem dL_holds_137 : decode cL_holds 137 = .ok (.invokestatic 128, 3) := by decide +kernel
theorem dL_holds_140 : decode cL_holds 140 = .ok (.sipush 300, 3) := by decide +kernel
theorem dL_holds_143 : decode cL_holds 143 = .ok (.if_icmp .gt 86, 3) := by decide +kernel
theorem dL_holds_146 : decode cL_holds 146 = .ok (.aload_n 0, 1) := by decide +kernel
theorem dL_holds_147 : decode cL_holds 147 = .ok (.bipush 26, 2) := by decide +kernel
theorem dL_holds_149 : decode cL_holds 149 = .ok (.iconst 0, 1) := by decide +kernel
theorem dL_holds_150 : decode cL_holds 150 = .ok (.iconst 0, 1) := by decide +kernel
theorem dL_holds_151 : decode cL_holds 151 = .ok (.iconst 0, 1) := by decide +kernel
theorem dL_holds_152 : decode cL_holds 152 = .ok (.iconst 0, 1) := by decide +kernel
theorem dL_holds_153 : decode cL_holds 153 = .ok (.iconst 0, 1) := by decide +kernel
theorem dL_holds_154 : decode cL_holds 154 = .ok (.invokestatic 128, 3) := by decide +kernel
theorem dL_holds_157 : decode cL_holds 157 = .ok (.bipush 30, 2) := by decide +kernel
theorem dL_holds_159 : decode cL_holds 159 = .ok (.if_icmp .gt 70, 3) := by decide +kernel
theorem dL_holds_162 : decode cL_holds 162 = .ok (.aload_n 0, 1) := by decide +kernel
theorem dL_holds_163 : decode cL_holds 163 = .ok (.bipush 26, 2) := by decide +kernel
theorem dL_holds_165 : decode cL_holds 165 = .ok (.iconst 0, 1) := by decide +kernel
theorem dL_holds_166 : decode cL_holds 166 = .ok (.iconst 0, 1) := by decide +kernel
theorem dL_holds_167 : decode cL_holds 167 = .ok (.iconst 0, 1) := by decide +kernel
theorem dL_holds_168 : decode cL_holds 168 = .ok (.iconst 0, 1) := by decide +kernel
theorem dL_holds_169 : decode cL_holds 169 = .ok (.iconst 0, 1) := by decide +kernel
theorem dL_holds_170 : decode cL_holds 170 = .ok (.invokestatic 128, 3) := by decide +kernel
theorem dL_holds_173 : decode cL_holds 173 = .ok (.iconst 1, 1) := by decide +kernel
theorem dL_holds_174 : decode cL_holds 174 = .ok (.if_icmp .lt 55, 3) := by decide +kernel
theorem dL_holds_177 : decode cL_holds 177 = .ok (.aload_n 0, 1) := by decide +kernel
theorem dL_holds_178 : decode cL_holds 178 = .ok (.bipush 27, 2) := by decide +kernel
theorem dL_holds_180 : decode cL_holds 180 = .ok (.iconst 0, 1) := by decide +kernel
theorem dL_holds_181 : decode cL_holds 181 = .ok (.iconst 0, 1) := by decide +kernel
theorem dL_holds_182 : decode cL_holds 182 = .ok (.iconst 0, 1) := by decide +kernel
theorem dL_holds_183 : decode cL_holds 183 = .ok (.iconst 0, 1) := by decide +kernel
theorem dL_holds_184 : decode cL_holds 184 = .ok (.iconst 0, 1) := by decide +kernel
theorem dL_holds_185 : decode cL_holds 185 = .ok (.invokestatic 128, 3) := by decide +kernel
theorem dL_holds_188 : decode cL_holds 188 = .ok (.bipush 80, 2) := by decide +kernel
theorem dL_holds_190 : decode cL_holds 190 = .ok (.if_icmp .gt 39, 3) := by decide +kernel
theorem dL_holds_193 : decode cL_holds 193 = .ok (.aload_n 0, 1) := by decide +kernel
theorem dL_holds_194 : decode cL_holds 194 = .ok (.bipush 28, 2) := by decide +kernel
theorem dL_holds_196 : decode cL_holds 196 = .ok (.iconst 0, 1) := by decide +kernel
theorem dL_holds_197 : decode cL_holds 197 = .ok (.iconst 0, 1) := by decide +kernel
theorem dL_holds_198 : decode cL_holds 198 = .ok (.iconst 0, 1) := by decide +kernel
theorem dL_holds_199 : decode cL_holds 199 = .ok (.iconst 0, 1) := by decide +kernel
theorem dL_holds_200 : decode cL_holds 200 = .ok (.iconst 0, 1) := by decide +kernel
theorem dL_holds_201 : decode cL_holds 201 = .ok (.invokestatic 128, 3) := by decide +kernel
theorem dL_holds_204 : decode cL_holds 204 = .ok (.bipush 99, 2) := by decide +kernel
theorem dL_holds_206 : decode cL_holds 206 = .ok (.if_icmp .ne 23, 3) := by decide +kernel
theorem dL_holds_209 : decode cL_holds 209 = .ok (.aload_n 0, 1) := by decide +kernel
theorem dL_holds_210 : decode cL_holds 210 = .ok (.bipush 29, 2) := by decide +kernel
theorem dL_holds_212 : decode cL_holds 212 = .ok (.iconst 0, 1) := by decide +kernel
theorem dL_holds_213 : decode cL_holds 213 = .ok (.iconst 0, 1) := by decide +kernel
theorem dL_holds_214 : decode cL_holds 214 = .ok (.iconst 0, 1) := by decide +kernel
theorem dL_holds_215 : decode cL_holds 215 = .ok (.iconst 0, 1) := by decide +kernel
theorem dL_holds_216 : decode cL_holds 216 = .ok (.iconst 0, 1) := by decide +kernel
theorem dL_holds_217 : decode cL_holds 217 = .ok (.invokestatic 128, 3) := by decide +kernel
theorem dL_holds_220 : decode cL_holds 220 = .ok (.bipush 100, 2) := by decide +kernel
theorem dL_holds_222 : decode cL_holds 222 = .ok (.iload_n 1, 1) := by decide +kernel
theorem dL_holds_223 : decode cL_holds 223 = .ok (.imul, 1) := by decide +kernel
theorem dL_holds_224 : decode cL_holds 224 = .ok (.iconst 1, 1) := by decide +kernel
theorem dL_holds_225 : decode cL_holds 225 = .ok (.iadd, 1) := by decide +kernel
theorem dL_holds_226 : decode cL_holds 226 = .ok (.if_icmp .eq 5, 3) := by decide +kernel
theorem dL_holds_229 : decode cL_holds 229 = .ok (.iconst 0, 1) := by decide +kernel
theorem dL_holds_230 : decode cL_holds 230 = .ok (.ireturn, 1) := by decide +kernel
theorem dL_holds_231 : decode cL_holds 231 = .ok (.iconst 0, 1) := by decide +kernel
theorem dL_holds_232 : decode cL_holds 232 = .ok (.istore 7, 2) := by decide +kernel
theorem dL_holds_234 : decode cL_holds 234 = .ok (.iconst 0, 1) := by decide +kernel
theorem dL_holds_235 : decode cL_holds 235 = .ok (.istore 8, 2) := by decide +kernel
theorem dL_holds_237 : decode cL_holds 237 = .ok (.iconst 0, 1) := by decide +kernel
theorem dL_holds_238 : decode cL_holds 238 = .ok (.istore 9, 2) := by decide +kernel
theorem dL_holds_240 : decode cL_holds 240 = .ok (.iload 9, 2) := by decide +kernel
theorem dL_holds_242 : decode cL_holds 242 = .ok (.aload_n 0, 1) := by decide +kernel
theorem dL_holds_243 : decode cL_holds 243 = .ok (.bipush 27, 2) := by decide +kernel
theorem dL_holds_245 : decode cL_holds 245 = .ok (.iconst 0, 1) := by decide +kernel
theorem dL_holds_246 : decode cL_holds 246 = .ok (.iconst 0, 1) := by decide +kernel
theorem dL_holds_247 : decode cL_holds 247 = .ok (.iconst 0, 1) := by decide +kernel
theorem dL_holds_248 : decode cL_holds 248 = .ok (.iconst 0, 1) := by decide +kernel
theorem dL_holds_249 : decode cL_holds 249 = .ok (.iconst 0, 1) := by decide +kernel
theorem dL_holds_250 : decode cL_holds 250 = .ok (.invokestatic 128, 3) := by decide +kernel
theorem dL_holds_253 : decode cL_holds 253 = .ok (.if_icmp .ge 124, 3) := by decide +kernel
theorem dL_holds_256 : decode cL_holds 256 = .ok (.aload_n 0, 1) := by decide +kernel
theorem dL_holds_257 : decode cL_holds 257 = .ok (.bipush 28, 2) := by decide +kernel
theorem dL_holds_259 : decode cL_holds 259 = .ok (.iload 9, 2) := by decide +kernel
theorem dL_holds_261 : decode cL_holds 261 = .ok (.iconst 0, 1) := by decide +kernel
theorem dL_holds_262 : decode cL_holds 262 = .ok (.iconst 0, 1) := by decide +kernel
theorem dL_holds_263 : decode cL_holds 263 = .ok (.iconst 0, 1) := by decide +kernel
theorem dL_holds_264 : decode cL_holds 264 = .ok (.iconst 0, 1) := by decide +kernel
theorem dL_holds_265 : decode cL_holds 265 = .ok (.invokestatic 128, 3) := by decide +kernel
theorem dL_holds_268 : decode cL_holds 268 = .ok (.istore 10, 2) := by decide +kernel
theorem dL_holds_270 : decode cL_holds 270 = .ok (.aload_n 0, 1) := by decide +kernel
theorem dL_holds_271 : decode cL_holds 271 = .ok (.bipush 29, 2) := by decide +kernel
theorem dL_holds_273 : decode cL_holds 273 = .ok (.iload 9, 2) := by decide +kernel
theorem dL_holds_275 : decode cL_holds 275 = .ok (.iconst 0, 1) := by decide +kernel
theorem dL_holds_276 : decode cL_holds 276 = .ok (.iconst 0, 1) := by decide +kernel
theorem dL_holds_277 : decode cL_holds 277 = .ok (.iconst 0, 1) := by decide +kernel
theorem dL_holds_278 : decode cL_holds 278 = .ok (.iconst 0, 1) := by decide +kernel
theorem dL_holds_279 : decode cL_holds 279 = .ok (.invokestatic 128, 3) := by decide +kernel
theorem dL_holds_282 : decode cL_holds 282 = .ok (.bipush 100, 2) := by decide +kernel
theorem dL_holds_284 : decode cL_holds 284 = .ok (.irem, 1) := by decide +kernel
theorem dL_holds_285 : decode cL_holds 285 = .ok (.istore 11, 2) := by decide +kernel
theorem dL_holds_287 : decode cL_holds 287 = .ok (.iload 7, 2) := by decide +kernel
theorem dL_holds_289 : decode cL_holds 289 = .ok (.iload 10, 2) := by decide +kernel
theorem dL_holds_291 : decode cL_holds 291 = .ok (.bipush 99, 2) := by decide +kernel
theorem dL_holds_293 : decode cL_holds 293 = .ok (.if_icmp .ne 7, 3) := by decide +kernel
theorem dL_holds_296 : decode cL_holds 296 = .ok (.iconst 1, 1) := by decide +kernel
theorem dL_holds_297 : decode cL_holds 297 = .ok (.goto 4, 3) := by decide +kernel
theorem dL_holds_300 : decode cL_holds 300 = .ok (.iconst 0, 1) := by decide +kernel
theorem dL_holds_301 : decode cL_holds 301 = .ok (.iadd, 1) := by decide +kernel
theorem dL_holds_302 : decode cL_holds 302 = .ok (.istore 7, 2) := by decide +kernel
theorem dL_holds_304 : decode cL_holds 304 = .ok (.iload 8, 2) := by decide +kernel
theorem dL_holds_306 : decode cL_holds 306 = .ok (.iload 10, 2) := by decide +kernel
theorem dL_holds_308 : decode cL_holds 308 = .ok (.bipush 102, 2) := by decide +kernel
theorem dL_holds_310 : decode cL_holds 310 = .ok (.if_icmp .ne 7, 3) := by decide +kernel
theorem dL_holds_313 : decode cL_holds 313 = .ok (.iconst 1, 1) := by decide +kernel
theorem dL_holds_314 : decode cL_holds 314 = .ok (.goto 4, 3) := by decide +kernel
theorem dL_holds_317 : decode cL_holds 317 = .ok (.iconst 0, 1) := by decide +kernel
theorem dL_holds_318 : decode cL_holds 318 = .ok (.iadd, 1) := by decide +kernel
theorem dL_holds_319 : decode cL_holds 319 = .ok (.istore 8, 2) := by decide +kernel
theorem dL_holds_321 : decode cL_holds 321 = .ok (.iload 10, 2) := by decide +kernel
theorem dL_holds_323 : decode cL_holds 323 = .ok (.bipush 99, 2) := by decide +kernel
theorem dL_holds_325 : decode cL_holds 325 = .ok (.if_icmp .eq 24, 3) := by decide +kernel
theorem dL_holds_328 : decode cL_holds 328 = .ok (.iload 10, 2) := by decide +kernel
theorem dL_holds_330 : decode cL_holds 330 = .ok (.bipush 120, 2) := by decide +kernel
theorem dL_holds_332 : decode cL_holds 332 = .ok (.if_icmp .eq 17, 3) := by decide +kernel
theorem dL_holds_335 : decode cL_holds 335 = .ok (.iload 10, 2) := by decide +kernel
theorem dL_holds_337 : decode cL_holds 337 = .ok (.bipush 114, 2) := by decide +kernel
theorem dL_holds_339 : decode cL_holds 339 = .ok (.if_icmp .eq 10, 3) := by decide +kernel
theorem dL_holds_342 : decode cL_holds 342 = .ok (.iload 10, 2) := by decide +kernel
theorem dL_holds_344 : decode cL_holds 344 = .ok (.bipush 102, 2) := by decide +kernel
theorem dL_holds_346 : decode cL_holds 346 = .ok (.if_icmp .ne 23, 3) := by decide +kernel
theorem dL_holds_349 : decode cL_holds 349 = .ok (.iload 11, 2) := by decide +kernel
theorem dL_holds_351 : decode cL_holds 351 = .ok (.iconst 1, 1) := by decide +kernel
theorem dL_holds_352 : decode cL_holds 352 = .ok (.if_icmp .lt 17, 3) := by decide +kernel
theorem dL_holds_355 : decode cL_holds 355 = .ok (.iload 11, 2) := by decide +kernel
theorem dL_holds_357 : decode cL_holds 357 = .ok (.bipush 30, 2) := by decide +kernel
theorem dL_holds_359 : decode cL_holds 359 = .ok (.if_icmp .gt 10, 3) := by decide +kernel
theorem dL_holds_362 : decode cL_holds 362 = .ok (.iload 8, 2) := by decide +kernel
theorem dL_holds_364 : decode cL_holds 364 = .ok (.iload 7, 2) := by decide +kernel
theorem dL_holds_366 : decode cL_holds 366 = .ok (.if_icmp .le 5, 3) := by decide +kernel
theorem dL_holds_369 : decode cL_holds 369 = .ok (.iconst 0, 1) := by decide +kernel
theorem dL_holds_370 : decode cL_holds 370 = .ok (.ireturn, 1) := by decide +kernel
theorem dL_holds_371 : decode cL_holds 371 = .ok (.iinc 9 1, 3) := by decide +kernel
theorem dL_holds_374 : decode cL_holds 374 = .ok (.goto (-134), 3) := by decide +kernel
theorem dL_holds_377 : decode cL_holds 377 = .ok (.aload_n 0, 1) := by decide +kernel
theorem dL_holds_378 : decode cL_holds 378 = .ok (.bipush 28, 2) := by decide +kernel
theorem dL_holds_380 : decode cL_holds 380 = .ok (.aload_n 0, 1) := by decide +kernel
theorem dL_holds_381 : decode cL_holds 381 = .ok (.bipush 27, 2) := by decide +kernel
theorem dL_holds_383 : decode cL_holds 383 = .ok (.iconst 0, 1) := by decide +kernel
theorem dL_holds_384 : decode cL_holds 384 = .ok (.iconst 0, 1) := by decide +kernel
theorem dL_holds_385 : decode cL_holds 385 = .ok (.iconst 0, 1) := by decide +kernel
theorem dL_holds_386 : decode cL_holds 386 = .ok (.iconst 0, 1) := by decide +kernel
theorem dL_holds_387 : decode cL_holds 387 = .ok (.iconst 0, 1) := by decide +kernel
theorem dL_holds_388 : decode cL_holds 388 = .ok (.invokestatic 128, 3) := by decide +kernel
theorem dL_holds_391 : decode cL_holds 391 = .ok (.iconst 0, 1) := by decide +kernel
theorem dL_holds_392 : decode cL_holds 392 = .ok (.iconst 0, 1) := by decide +kernel
theorem dL_holds_393 : decode cL_holds 393 = .ok (.iconst 0, 1) := by decide +kernel
theorem dL_holds_394 : decode cL_holds 394 = .ok (.iconst 0, 1) := by decide +kernel
theorem dL_holds_395 : decode cL_holds 395 = .ok (.invokestatic 128, 3) := by decide +kernel
