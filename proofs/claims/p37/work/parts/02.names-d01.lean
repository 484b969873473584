theorem dX0_takeOff_119 : decode cX0_takeOff 119 = .ok (.aload_n 0, 1) := by decide +kernel
theorem dX0_takeOff_120 : decode cX0_takeOff 120 = .ok (.getfield 66, 3) := by decide +kernel
theorem dX0_takeOff_123 : decode cX0_takeOff 123 = .ok (.iconst 5, 1) := by decide +kernel
theorem dX0_takeOff_124 : decode cX0_takeOff 124 = .ok (.invokevirtual 84, 3) := by decide +kernel
theorem dX0_takeOff_127 : decode cX0_takeOff 127 = .ok (.istore 5, 2) := by decide +kernel
theorem dX0_takeOff_129 : decode cX0_takeOff 129 = .ok (.aload 4, 2) := by decide +kernel
theorem dX0_takeOff_131 : decode cX0_takeOff 131 = .ok (.ifnonnull 7, 3) := by decide +kernel
theorem dX0_takeOff_134 : decode cX0_takeOff 134 = .ok (.aconst_null, 1) := by decide +kernel
theorem dX0_takeOff_135 : decode cX0_takeOff 135 = .ok (.goto 10, 3) := by decide +kernel
theorem dX0_takeOff_138 : decode cX0_takeOff 138 = .ok (.aload 4, 2) := by decide +kernel
theorem dX0_takeOff_140 : decode cX0_takeOff 140 = .ok (.iload 5, 2) := by decide +kernel
theorem dX0_takeOff_142 : decode cX0_takeOff 142 = .ok (.invokevirtual 176, 3) := by decide +kernel
theorem dX0_takeOff_145 : decode cX0_takeOff 145 = .ok (.astore 6, 2) := by decide +kernel
theorem dX0_takeOff_147 : decode cX0_takeOff 147 = .ok (.aload 6, 2) := by decide +kernel
theorem dX0_takeOff_149 : decode cX0_takeOff 149 = .ok (.ifnonnull 15, 3) := by decide +kernel
theorem dX0_takeOff_152 : decode cX0_takeOff 152 = .ok (.aload_n 0, 1) := by decide +kernel
theorem dX0_takeOff_153 : decode cX0_takeOff 153 = .ok (.dup, 1) := by decide +kernel
theorem dX0_takeOff_154 : decode cX0_takeOff 154 = .ok (.getfield 66, 3) := by decide +kernel
theorem dX0_takeOff_157 : decode cX0_takeOff 157 = .ok (.iconst 1, 1) := by decide +kernel
theorem dX0_takeOff_158 : decode cX0_takeOff 158 = .ok (.iadd, 1) := by decide +kernel
theorem dX0_takeOff_159 : decode cX0_takeOff 159 = .ok (.putfield 66, 3) := by decide +kernel
theorem dX0_takeOff_162 : decode cX0_takeOff 162 = .ok (.iload_n 2, 1) := by decide +kernel
theorem dX0_takeOff_163 : decode cX0_takeOff 163 = .ok (.ireturn, 1) := by decide +kernel
theorem dX0_takeOff_164 : decode cX0_takeOff 164 = .ok (.aload_n 0, 1) := by decide +kernel
theorem dX0_takeOff_165 : decode cX0_takeOff 165 = .ok (.getfield 34, 3) := by decide +kernel
theorem dX0_takeOff_168 : decode cX0_takeOff 168 = .ok (.iload_n 2, 1) := by decide +kernel
theorem dX0_takeOff_169 : decode cX0_takeOff 169 = .ok (.iconst 3, 1) := by decide +kernel
theorem dX0_takeOff_170 : decode cX0_takeOff 170 = .ok (.aload_n 0, 1) := by decide +kernel
theorem dX0_takeOff_171 : decode cX0_takeOff 171 = .ok (.aload 6, 2) := by decide +kernel
theorem dX0_takeOff_173 : decode cX0_takeOff 173 = .ok (.aload_n 3, 1) := by decide +kernel
theorem dX0_takeOff_174 : decode cX0_takeOff 174 = .ok (.aload_n 0, 1) := by decide +kernel
theorem dX0_takeOff_175 : decode cX0_takeOff 175 = .ok (.getfield 31, 3) := by decide +kernel
theorem dX0_takeOff_178 : decode cX0_takeOff 178 = .ok (.iload_n 1, 1) := by decide +kernel
theorem dX0_takeOff_179 : decode cX0_takeOff 179 = .ok (.iconst 1, 1) := by decide +kernel
theorem dX0_takeOff_180 : decode cX0_takeOff 180 = .ok (.invokevirtual 84, 3) := by decide +kernel
theorem dX0_takeOff_183 : decode cX0_takeOff 183 = .ok (.aload_n 0, 1) := by decide +kernel
theorem dX0_takeOff_184 : decode cX0_takeOff 184 = .ok (.getfield 37, 3) := by decide +kernel
theorem dX0_takeOff_187 : decode cX0_takeOff 187 = .ok (.aload_n 0, 1) := by decide +kernel
theorem dX0_takeOff_188 : decode cX0_takeOff 188 = .ok (.getfield 66, 3) := by decide +kernel
theorem dX0_takeOff_191 : decode cX0_takeOff 191 = .ok (.iconst 3, 1) := by decide +kernel
theorem dX0_takeOff_192 : decode cX0_takeOff 192 = .ok (.invokevirtual 84, 3) := by decide +kernel
theorem dX0_takeOff_195 : decode cX0_takeOff 195 = .ok (.invokevirtual 177, 3) := by decide +kernel
theorem dX0_takeOff_198 : decode cX0_takeOff 198 = .ok (.invokevirtual 142, 3) := by decide +kernel
theorem dX0_takeOff_201 : decode cX0_takeOff 201 = .ok (.aload_n 0, 1) := by decide +kernel
theorem dX0_takeOff_202 : decode cX0_takeOff 202 = .ok (.getfield 37, 3) := by decide +kernel
theorem dX0_takeOff_205 : decode cX0_takeOff 205 = .ok (.aload_n 0, 1) := by decide +kernel
theorem dX0_takeOff_206 : decode cX0_takeOff 206 = .ok (.getfield 66, 3) := by decide +kernel
theorem dX0_takeOff_209 : decode cX0_takeOff 209 = .ok (.iconst 5, 1) := by decide +kernel
theorem dX0_takeOff_210 : decode cX0_takeOff 210 = .ok (.iload 5, 2) := by decide +kernel
theorem dX0_takeOff_212 : decode cX0_takeOff 212 = .ok (.iconst 1, 1) := by decide +kernel
theorem dX0_takeOff_213 : decode cX0_takeOff 213 = .ok (.iadd, 1) := by decide +kernel
theorem dX0_takeOff_214 : decode cX0_takeOff 214 = .ok (.invokevirtual 142, 3) := by decide +kernel
theorem dX0_takeOff_217 : decode cX0_takeOff 217 = .ok (.iload 5, 2) := by decide +kernel
theorem dX0_takeOff_219 : decode cX0_takeOff 219 = .ok (.iconst 1, 1) := by decide +kernel
theorem dX0_takeOff_220 : decode cX0_takeOff 220 = .ok (.iadd, 1) := by decide +kernel
theorem dX0_takeOff_221 : decode cX0_takeOff 221 = .ok (.aload 4, 2) := by decide +kernel
theorem dX0_takeOff_223 : decode cX0_takeOff 223 = .ok (.invokevirtual 181, 3) := by decide +kernel
theorem dX0_takeOff_226 : decode cX0_takeOff 226 = .ok (.if_icmp .lt 13, 3) := by decide +kernel
theorem dX0_takeOff_229 : decode cX0_takeOff 229 = .ok (.aload_n 0, 1) := by decide +kernel
theorem dX0_takeOff_230 : decode cX0_takeOff 230 = .ok (.dup, 1) := by decide +kernel
theorem dX0_takeOff_231 : decode cX0_takeOff 231 = .ok (.getfield 66, 3) := by decide +kernel
theorem dX0_takeOff_234 : decode cX0_takeOff 234 = .ok (.iconst 1, 1) := by decide +kernel
theorem dX0_takeOff_235 : decode cX0_takeOff 235 = .ok (.iadd, 1) := by decide +kernel
theorem dX0_takeOff_236 : decode cX0_takeOff 236 = .ok (.putfield 66, 3) := by decide +kernel
theorem dX0_takeOff_239 : decode cX0_takeOff 239 = .ok (.iload_n 2, 1) := by decide +kernel
theorem dX0_takeOff_240 : decode cX0_takeOff 240 = .ok (.ireturn, 1) := by decide +kernel
theorem dX0_openClause_0 : decode cX0_openClause 0 = .ok (.aload_n 0, 1) := by decide +kernel
theorem dX0_openClause_1 : decode cX0_openClause 1 = .ok (.getfield 28, 3) := by decide +kernel
theorem dX0_openClause_4 : decode cX0_openClause 4 = .ok (.invokevirtual 70, 3) := by decide +kernel
theorem dX0_openClause_7 : decode cX0_openClause 7 = .ok (.istore 5, 2) := by decide +kernel
theorem dX0_openClause_9 : decode cX0_openClause 9 = .ok (.iconst 0, 1) := by decide +kernel
theorem dX0_openClause_10 : decode cX0_openClause 10 = .ok (.istore 6, 2) := by decide +kernel
theorem dX0_openClause_12 : decode cX0_openClause 12 = .ok (.iload 6, 2) := by decide +kernel
theorem dX0_openClause_14 : decode cX0_openClause 14 = .ok (.bipush 8, 2) := by decide +kernel
theorem dX0_openClause_16 : decode cX0_openClause 16 = .ok (.if_icmp .ge 62, 3) := by decide +kernel
theorem dX0_openClause_19 : decode cX0_openClause 19 = .ok (.iconst (-1), 1) := by decide +kernel
theorem dX0_openClause_20 : decode cX0_openClause 20 = .ok (.istore 7, 2) := by decide +kernel
theorem dX0_openClause_22 : decode cX0_openClause 22 = .ok (.iload 6, 2) := by decide +kernel
theorem dX0_openClause_24 : decode cX0_openClause 24 = .ok (.aload_n 2, 1) := by decide +kernel
theorem dX0_openClause_25 : decode cX0_openClause 25 = .ok (.getfield 184, 3) := by decide +kernel
theorem dX0_openClause_28 : decode cX0_openClause 28 = .ok (.if_icmp .ge 16, 3) := by decide +kernel
theorem dX0_openClause_31 : decode cX0_openClause 31 = .ok (.aload_n 0, 1) := by decide +kernel
theorem dX0_openClause_32 : decode cX0_openClause 32 = .ok (.aload_n 2, 1) := by decide +kernel
theorem dX0_openClause_33 : decode cX0_openClause 33 = .ok (.iload_n 3, 1) := by decide +kernel
theorem dX0_openClause_34 : decode cX0_openClause 34 = .ok (.iload 6, 2) := by decide +kernel
theorem dX0_openClause_36 : decode cX0_openClause 36 = .ok (.invokevirtual 186, 3) := by decide +kernel
theorem dX0_openClause_39 : decode cX0_openClause 39 = .ok (.istore 7, 2) := by decide +kernel
theorem dX0_openClause_41 : decode cX0_openClause 41 = .ok (.goto 19, 3) := by decide +kernel
theorem dX0_openClause_44 : decode cX0_openClause 44 = .ok (.aload_n 1, 1) := by decide +kernel
theorem dX0_openClause_45 : decode cX0_openClause 45 = .ok (.iload 6, 2) := by decide +kernel
theorem dX0_openClause_47 : decode cX0_openClause 47 = .ok (.invokevirtual 190, 3) := by decide +kernel
theorem dX0_openClause_50 : decode cX0_openClause 50 = .ok (.iconst (-1), 1) := by decide +kernel
theorem dX0_openClause_51 : decode cX0_openClause 51 = .ok (.if_icmp .eq 9, 3) := by decide +kernel
theorem dX0_openClause_54 : decode cX0_openClause 54 = .ok (.aload_n 0, 1) := by decide +kernel
theorem dX0_openClause_55 : decode cX0_openClause 55 = .ok (.invokevirtual 128, 3) := by decide +kernel
theorem dX0_openClause_58 : decode cX0_openClause 58 = .ok (.istore 7, 2) := by decide +kernel
theorem dX0_openClause_60 : decode cX0_openClause 60 = .ok (.aload_n 0, 1) := by decide +kernel
theorem dX0_openClause_61 : decode cX0_openClause 61 = .ok (.getfield 28, 3) := by decide +kernel
theorem dX0_openClause_64 : decode cX0_openClause 64 = .ok (.iload 7, 2) := by decide +kernel
theorem dX0_openClause_66 : decode cX0_openClause 66 = .ok (.iconst (-1), 1) := by decide +kernel
theorem dX0_openClause_67 : decode cX0_openClause 67 = .ok (.iconst (-1), 1) := by decide +kernel
theorem dX0_openClause_68 : decode cX0_openClause 68 = .ok (.invokevirtual 113, 3) := by decide +kernel
theorem dX0_openClause_71 : decode cX0_openClause 71 = .ok (.pop, 1) := by decide +kernel
theorem dX0_openClause_72 : decode cX0_openClause 72 = .ok (.iinc 6 1, 3) := by decide +kernel
theorem dX0_openClause_75 : decode cX0_openClause 75 = .ok (.goto (-63), 3) := by decide +kernel
theorem dX0_openClause_78 : decode cX0_openClause 78 = .ok (.iload 4, 2) := by decide +kernel
theorem dX0_openClause_80 : decode cX0_openClause 80 = .ok (.istore 6, 2) := by decide +kernel
theorem dX0_openClause_82 : decode cX0_openClause 82 = .ok (.aload_n 1, 1) := by decide +kernel
theorem dX0_openClause_83 : decode cX0_openClause 83 = .ok (.invokevirtual 193, 3) := by decide +kernel
theorem dX0_openClause_86 : decode cX0_openClause 86 = .ok (.iconst 1, 1) := by decide +kernel
theorem dX0_openClause_87 : decode cX0_openClause 87 = .ok (.isub, 1) := by decide +kernel
theorem dX0_openClause_88 : decode cX0_openClause 88 = .ok (.istore 7, 2) := by decide +kernel
theorem dX0_openClause_90 : decode cX0_openClause 90 = .ok (.iload 7, 2) := by decide +kernel
theorem dX0_openClause_92 : decode cX0_openClause 92 = .ok (.ifCond .lt 31, 3) := by decide +kernel
theorem dX0_openClause_95 : decode cX0_openClause 95 = .ok (.aload_n 0, 1) := by decide +kernel
theorem dX0_openClause_96 : decode cX0_openClause 96 = .ok (.getfield 31, 3) := by decide +kernel
theorem dX0_openClause_99 : decode cX0_openClause 99 = .ok (.aload_n 1, 1) := by decide +kernel
theorem dX0_openClause_100 : decode cX0_openClause 100 = .ok (.getfield 196, 3) := by decide +kernel
theorem dX0_openClause_103 : decode cX0_openClause 103 = .ok (.iconst 5, 1) := by decide +kernel
theorem dX0_openClause_104 : decode cX0_openClause 104 = .ok (.imul, 1) := by decide +kernel
theorem dX0_openClause_105 : decode cX0_openClause 105 = .ok (.iload 7, 2) := by decide +kernel
theorem dX0_openClause_107 : decode cX0_openClause 107 = .ok (.iadd, 1) := by decide +kernel
theorem dX0_openClause_108 : decode cX0_openClause 108 = .ok (.iload 5, 2) := by decide +kernel
theorem dX0_openClause_110 : decode cX0_openClause 110 = .ok (.iload 6, 2) := by decide +kernel
theorem dX0_openClause_112 : decode cX0_openClause 112 = .ok (.invokevirtual 113, 3) := by decide +kernel
theorem dX0_openClause_115 : decode cX0_openClause 115 = .ok (.istore 6, 2) := by decide +kernel
theorem dX0_openClause_117 : decode cX0_openClause 117 = .ok (.iinc 7 (-1), 3) := by decide +kernel
theorem dX0_openClause_120 : decode cX0_openClause 120 = .ok (.goto (-30), 3) := by decide +kernel
theorem dX0_openClause_123 : decode cX0_openClause 123 = .ok (.iload 6, 2) := by decide +kernel
theorem dX0_openClause_125 : decode cX0_openClause 125 = .ok (.ireturn, 1) := by decide +kernel
theorem dX0_resolve_0 : decode cX0_resolve 0 = .ok (.aload_n 0, 1) := by decide +kernel
theorem dX0_resolve_1 : decode cX0_resolve 1 = .ok (.iload_n 1, 1) := by decide +kernel
theorem dX0_resolve_2 : decode cX0_resolve 2 = .ok (.invokevirtual 197, 3) := by decide +kernel
theorem dX0_resolve_5 : decode cX0_resolve 5 = .ok (.aload_n 0, 1) := by decide +kernel
theorem dX0_resolve_6 : decode cX0_resolve 6 = .ok (.aload_n 0, 1) := by decide +kernel
theorem dX0_resolve_7 : decode cX0_resolve 7 = .ok (.getfield 34, 3) := by decide +kernel
theorem dX0_resolve_10 : decode cX0_resolve 10 = .ok (.iload_n 1, 1) := by decide +kernel
theorem dX0_resolve_11 : decode cX0_resolve 11 = .ok (.iconst 3, 1) := by decide +kernel
theorem dX0_resolve_12 : decode cX0_resolve 12 = .ok (.invokevirtual 84, 3) := by decide +kernel
theorem dX0_resolve_15 : decode cX0_resolve 15 = .ok (.invokevirtual 200, 3) := by decide +kernel
theorem dX0_resolve_18 : decode cX0_resolve 18 = .ok (.istore_n 2, 1) := by decide +kernel
theorem dX0_resolve_19 : decode cX0_resolve 19 = .ok (.aload_n 0, 1) := by decide +kernel
theorem dX0_resolve_20 : decode cX0_resolve 20 = .ok (.iload_n 2, 1) := by decide +kernel
theorem dX0_resolve_21 : decode cX0_resolve 21 = .ok (.invokevirtual 170, 3) := by decide +kernel
theorem dX0_resolve_24 : decode cX0_resolve 24 = .ok (.astore_n 3, 1) := by decide +kernel
theorem dX0_resolve_25 : decode cX0_resolve 25 = .ok (.aload_n 3, 1) := by decide +kernel
theorem dX0_resolve_26 : decode cX0_resolve 26 = .ok (.ifnonnull 4, 3) := by decide +kernel
theorem dX0_resolve_29 : decode cX0_resolve 29 = .ok (.return_, 1) := by decide +kernel
theorem dX0_resolve_30 : decode cX0_resolve 30 = .ok (.aload_n 0, 1) := by decide +kernel
theorem dX0_resolve_31 : decode cX0_resolve 31 = .ok (.aload_n 0, 1) := by decide +kernel
theorem dX0_resolve_32 : decode cX0_resolve 32 = .ok (.getfield 34, 3) := by decide +kernel
theorem dX0_resolve_35 : decode cX0_resolve 35 = .ok (.iload_n 1, 1) := by decide +kernel
theorem dX0_resolve_36 : decode cX0_resolve 36 = .ok (.iconst 3, 1) := by decide +kernel
theorem dX0_resolve_37 : decode cX0_resolve 37 = .ok (.invokevirtual 84, 3) := by decide +kernel
theorem dX0_resolve_40 : decode cX0_resolve 40 = .ok (.iload_n 2, 1) := by decide +kernel
theorem dX0_resolve_41 : decode cX0_resolve 41 = .ok (.invokevirtual 203, 3) := by decide +kernel
theorem dX0_resolve_44 : decode cX0_resolve 44 = .ok (.istore 4, 2) := by decide +kernel
theorem dX0_resolve_46 : decode cX0_resolve 46 = .ok (.aload_n 0, 1) := by decide +kernel
theorem dX0_resolve_47 : decode cX0_resolve 47 = .ok (.getfield 31, 3) := by decide +kernel
theorem dX0_resolve_50 : decode cX0_resolve 50 = .ok (.iload_n 2, 1) := by decide +kernel
theorem dX0_resolve_51 : decode cX0_resolve 51 = .ok (.iconst 1, 1) := by decide +kernel
theorem dX0_resolve_52 : decode cX0_resolve 52 = .ok (.invokevirtual 84, 3) := by decide +kernel
theorem dX0_resolve_55 : decode cX0_resolve 55 = .ok (.istore 5, 2) := by decide +kernel
theorem dX0_resolve_57 : decode cX0_resolve 57 = .ok (.aload_n 3, 1) := by decide +kernel
theorem dX0_resolve_58 : decode cX0_resolve 58 = .ok (.getfield 206, 3) := by decide +kernel
theorem dX0_resolve_61 : decode cX0_resolve 61 = .ok (.iconst 2, 1) := by decide +kernel
theorem dX0_resolve_62 : decode cX0_resolve 62 = .ok (.if_icmp .ne 42, 3) := by decide +kernel
theorem dX0_resolve_65 : decode cX0_resolve 65 = .ok (.aload_n 0, 1) := by decide +kernel
theorem dX0_resolve_66 : decode cX0_resolve 66 = .ok (.getfield 9, 3) := by decide +kernel
theorem dX0_resolve_69 : decode cX0_resolve 69 = .ok (.aload_n 3, 1) := by decide +kernel
theorem dX0_resolve_70 : decode cX0_resolve 70 = .ok (.getfield 173, 3) := by decide +kernel
theorem dX0_resolve_73 : decode cX0_resolve 73 = .ok (.invokevirtual 145, 3) := by decide +kernel
theorem dX0_resolve_76 : decode cX0_resolve 76 = .ok (.astore 6, 2) := by decide +kernel
theorem dX0_resolve_78 : decode cX0_resolve 78 = .ok (.aload 6, 2) := by decide +kernel
theorem dX0_resolve_80 : decode cX0_resolve 80 = .ok (.ifnull 21, 3) := by decide +kernel
theorem dX0_resolve_83 : decode cX0_resolve 83 = .ok (.aload 6, 2) := by decide +kernel
theorem dX0_resolve_85 : decode cX0_resolve 85 = .ok (.invokevirtual 181, 3) := by decide +kernel
theorem dX0_resolve_88 : decode cX0_resolve 88 = .ok (.ifCond .le 13, 3) := by decide +kernel
theorem dX0_resolve_91 : decode cX0_resolve 91 = .ok (.aload_n 0, 1) := by decide +kernel
theorem dX0_resolve_92 : decode cX0_resolve 92 = .ok (.iload_n 1, 1) := by decide +kernel
theorem dX0_resolve_93 : decode cX0_resolve 93 = .ok (.iconst 0, 1) := by decide +kernel
theorem dX0_resolve_94 : decode cX0_resolve 94 = .ok (.iconst 0, 1) := by decide +kernel
theorem dX0_resolve_95 : decode cX0_resolve 95 = .ok (.iload 4, 2) := by decide +kernel
theorem dX0_resolve_97 : decode cX0_resolve 97 = .ok (.iload_n 2, 1) := by decide +kernel
theorem dX0_resolve_98 : decode cX0_resolve 98 = .ok (.invokevirtual 138, 3) := by decide +kernel
theorem dX0_resolve_101 : decode cX0_resolve 101 = .ok (.goto 123, 3) := by decide +kernel
theorem dX0_resolve_104 : decode cX0_resolve 104 = .ok (.aload_n 3, 1) := by decide +kernel
theorem dX0_resolve_105 : decode cX0_resolve 105 = .ok (.getfield 206, 3) := by decide +kernel
theorem dX0_resolve_108 : decode cX0_resolve 108 = .ok (.iconst 3, 1) := by decide +kernel
theorem dX0_resolve_109 : decode cX0_resolve 109 = .ok (.if_icmp .ne 16, 3) := by decide +kernel
theorem dX0_resolve_112 : decode cX0_resolve 112 = .ok (.aload_n 0, 1) := by decide +kernel
theorem dX0_resolve_113 : decode cX0_resolve 113 = .ok (.iload_n 1, 1) := by decide +kernel
theorem dX0_resolve_114 : decode cX0_resolve 114 = .ok (.iload 4, 2) := by decide +kernel
theorem dX0_resolve_116 : decode cX0_resolve 116 = .ok (.aload_n 3, 1) := by decide +kernel
theorem dX0_resolve_117 : decode cX0_resolve 117 = .ok (.iload 5, 2) := by decide +kernel
theorem dX0_resolve_119 : decode cX0_resolve 119 = .ok (.invokevirtual 209, 3) := by decide +kernel
theorem dX0_resolve_122 : decode cX0_resolve 122 = .ok (.goto 102, 3) := by decide +kernel
theorem dX0_resolve_125 : decode cX0_resolve 125 = .ok (.aload_n 0, 1) := by decide +kernel
theorem dX0_resolve_126 : decode cX0_resolve 126 = .ok (.getfield 40, 3) := by decide +kernel
theorem dX0_resolve_129 : decode cX0_resolve 129 = .ok (.invokevirtual 70, 3) := by decide +kernel
theorem dX0_resolve_132 : decode cX0_resolve 132 = .ok (.istore 6, 2) := by decide +kernel
theorem dX0_resolve_134 : decode cX0_resolve 134 = .ok (.aload_n 0, 1) := by decide +kernel
theorem dX0_resolve_135 : decode cX0_resolve 135 = .ok (.aload_n 3, 1) := by decide +kernel
theorem dX0_resolve_136 : decode cX0_resolve 136 = .ok (.iload 5, 2) := by decide +kernel
theorem dX0_resolve_138 : decode cX0_resolve 138 = .ok (.iconst 0, 1) := by decide +kernel
theorem dX0_resolve_139 : decode cX0_resolve 139 = .ok (.invokevirtual 186, 3) := by decide +kernel
theorem dX0_resolve_142 : decode cX0_resolve 142 = .ok (.istore 7, 2) := by decide +kernel
theorem dX0_resolve_144 : decode cX0_resolve 144 = .ok (.aload_n 0, 1) := by decide +kernel
theorem dX0_resolve_145 : decode cX0_resolve 145 = .ok (.iload 7, 2) := by decide +kernel
theorem dX0_resolve_147 : decode cX0_resolve 147 = .ok (.aload_n 0, 1) := by decide +kernel
theorem dX0_resolve_148 : decode cX0_resolve 148 = .ok (.aload_n 3, 1) := by decide +kernel
theorem dX0_resolve_149 : decode cX0_resolve 149 = .ok (.iload 5, 2) := by decide +kernel
theorem dX0_resolve_151 : decode cX0_resolve 151 = .ok (.invokevirtual 213, 3) := by decide +kernel
theorem dX0_resolve_154 : decode cX0_resolve 154 = .ok (.invokevirtual 217, 3) := by decide +kernel
theorem dX0_resolve_157 : decode cX0_resolve 157 = .ok (.ifCond .eq 16, 3) := by decide +kernel
theorem dX0_resolve_160 : decode cX0_resolve 160 = .ok (.aload_n 0, 1) := by decide +kernel
theorem dX0_resolve_161 : decode cX0_resolve 161 = .ok (.iload 7, 2) := by decide +kernel
theorem dX0_resolve_163 : decode cX0_resolve 163 = .ok (.invokevirtual 221, 3) := by decide +kernel
theorem dX0_resolve_166 : decode cX0_resolve 166 = .ok (.ifCond .eq 7, 3) := by decide +kernel
theorem dX0_resolve_169 : decode cX0_resolve 169 = .ok (.iconst 1, 1) := by decide +kernel
theorem dX0_resolve_170 : decode cX0_resolve 170 = .ok (.goto 4, 3) := by decide +kernel
theorem dX0_resolve_173 : decode cX0_resolve 173 = .ok (.iconst 0, 1) := by decide +kernel
theorem dX0_resolve_174 : decode cX0_resolve 174 = .ok (.istore 8, 2) := by decide +kernel
theorem dX0_resolve_176 : decode cX0_resolve 176 = .ok (.aload_n 0, 1) := by decide +kernel
theorem dX0_resolve_177 : decode cX0_resolve 177 = .ok (.iload 6, 2) := by decide +kernel
theorem dX0_resolve_179 : decode cX0_resolve 179 = .ok (.aload_n 0, 1) := by decide +kernel
theorem dX0_resolve_180 : decode cX0_resolve 180 = .ok (.getfield 40, 3) := by decide +kernel
theorem dX0_resolve_183 : decode cX0_resolve 183 = .ok (.invokevirtual 70, 3) := by decide +kernel
theorem dX0_resolve_186 : decode cX0_resolve 186 = .ok (.iconst 0, 1) := by decide +kernel
theorem dX0_resolve_187 : decode cX0_resolve 187 = .ok (.invokevirtual 225, 3) := by decide +kernel
theorem dX0_resolve_190 : decode cX0_resolve 190 = .ok (.iload 8, 2) := by decide +kernel
theorem dX0_resolve_192 : decode cX0_resolve 192 = .ok (.ifCond .eq 23, 3) := by decide +kernel
theorem dX0_resolve_195 : decode cX0_resolve 195 = .ok (.aload_n 0, 1) := by decide +kernel
theorem dX0_resolve_196 : decode cX0_resolve 196 = .ok (.iload_n 1, 1) := by decide +kernel
theorem dX0_resolve_197 : decode cX0_resolve 197 = .ok (.iload 6, 2) := by decide +kernel
theorem dX0_resolve_199 : decode cX0_resolve 199 = .ok (.aload_n 0, 1) := by decide +kernel
theorem dX0_resolve_200 : decode cX0_resolve 200 = .ok (.getfield 40, 3) := by decide +kernel
theorem dX0_resolve_203 : decode cX0_resolve 203 = .ok (.invokevirtual 70, 3) := by decide +kernel
theorem dX0_resolve_206 : decode cX0_resolve 206 = .ok (.iload 4, 2) := by decide +kernel
theorem dX0_resolve_208 : decode cX0_resolve 208 = .ok (.iconst (-1), 1) := by decide +kernel
theorem dX0_resolve_209 : decode cX0_resolve 209 = .ok (.invokevirtual 138, 3) := by decide +kernel
theorem dX0_resolve_212 : decode cX0_resolve 212 = .ok (.goto 12, 3) := by decide +kernel
theorem dX0_resolve_215 : decode cX0_resolve 215 = .ok (.aload_n 0, 1) := by decide +kernel
theorem dX0_resolve_216 : decode cX0_resolve 216 = .ok (.getfield 40, 3) := by decide +kernel
theorem dX0_resolve_219 : decode cX0_resolve 219 = .ok (.iload 6, 2) := by decide +kernel
theorem dX0_resolve_221 : decode cX0_resolve 221 = .ok (.invokevirtual 92, 3) := by decide +kernel
theorem dX0_resolve_224 : decode cX0_resolve 224 = .ok (.return_, 1) := by decide +kernel
theorem dX0_bind_0 : decode cX0_bind 0 = .ok (.iload_n 1, 1) := by decide +kernel
theorem dX0_bind_1 : decode cX0_bind 1 = .ok (.istore 4, 2) := by decide +kernel
theorem dX0_bind_3 : decode cX0_bind 3 = .ok (.iload 4, 2) := by decide +kernel
theorem dX0_bind_5 : decode cX0_bind 5 = .ok (.iload_n 2, 1) := by decide +kernel
theorem dX0_bind_6 : decode cX0_bind 6 = .ok (.if_icmp .ge 45, 3) := by decide +kernel
theorem dX0_bind_9 : decode cX0_bind 9 = .ok (.aload_n 0, 1) := by decide +kernel
theorem dX0_bind_10 : decode cX0_bind 10 = .ok (.getfield 24, 3) := by decide +kernel
theorem dX0_bind_13 : decode cX0_bind 13 = .ok (.aload_n 0, 1) := by decide +kernel
theorem dX0_bind_14 : decode cX0_bind 14 = .ok (.getfield 40, 3) := by decide +kernel
theorem dX0_bind_17 : decode cX0_bind 17 = .ok (.iload 4, 2) := by decide +kernel
theorem dX0_bind_19 : decode cX0_bind 19 = .ok (.iconst 0, 1) := by decide +kernel
theorem dX0_bind_20 : decode cX0_bind 20 = .ok (.invokevirtual 84, 3) := by decide +kernel
theorem dX0_bind_23 : decode cX0_bind 23 = .ok (.iconst 3, 1) := by decide +kernel
theorem dX0_bind_24 : decode cX0_bind 24 = .ok (.iload_n 3, 1) := by decide +kernel
theorem dX0_bind_25 : decode cX0_bind 25 = .ok (.ifCond .eq 16, 3) := by decide +kernel
theorem dX0_bind_28 : decode cX0_bind 28 = .ok (.aload_n 0, 1) := by decide +kernel
theorem dX0_bind_29 : decode cX0_bind 29 = .ok (.getfield 40, 3) := by decide +kernel
theorem dX0_bind_32 : decode cX0_bind 32 = .ok (.iload 4, 2) := by decide +kernel
theorem dX0_bind_34 : decode cX0_bind 34 = .ok (.iconst 1, 1) := by decide +kernel
theorem dX0_bind_35 : decode cX0_bind 35 = .ok (.invokevirtual 84, 3) := by decide +kernel
theorem dX0_bind_38 : decode cX0_bind 38 = .ok (.goto 4, 3) := by decide +kernel
theorem dX0_bind_41 : decode cX0_bind 41 = .ok (.iconst (-1), 1) := by decide +kernel
theorem dX0_bind_42 : decode cX0_bind 42 = .ok (.invokevirtual 142, 3) := by decide +kernel
theorem dX0_bind_45 : decode cX0_bind 45 = .ok (.iinc 4 1, 3) := by decide +kernel
theorem dX0_bind_48 : decode cX0_bind 48 = .ok (.goto (-45), 3) := by decide +kernel
theorem dX0_bind_51 : decode cX0_bind 51 = .ok (.return_, 1) := by decide +kernel
theorem dX0_rightSide_0 : decode cX0_rightSide 0 = .ok (.aload_n 1, 1) := by decide +kernel
theorem dX0_rightSide_1 : decode cX0_rightSide 1 = .ok (.getfield 206, 3) := by decide +kernel
theorem dX0_rightSide_4 : decode cX0_rightSide 4 = .ok (.iconst 1, 1) := by decide +kernel
theorem dX0_rightSide_5 : decode cX0_rightSide 5 = .ok (.if_icmp .ne 11, 3) := by decide +kernel
theorem dX0_rightSide_8 : decode cX0_rightSide 8 = .ok (.aload_n 0, 1) := by decide +kernel
theorem dX0_rightSide_9 : decode cX0_rightSide 9 = .ok (.aload_n 1, 1) := by decide +kernel
theorem dX0_rightSide_10 : decode cX0_rightSide 10 = .ok (.iload_n 2, 1) := by decide +kernel
theorem dX0_rightSide_11 : decode cX0_rightSide 11 = .ok (.iconst 1, 1) := by decide +kernel
theorem dX0_rightSide_12 : decode cX0_rightSide 12 = .ok (.invokevirtual 186, 3) := by decide +kernel
theorem dX0_rightSide_15 : decode cX0_rightSide 15 = .ok (.ireturn, 1) := by decide +kernel
theorem dX0_rightSide_16 : decode cX0_rightSide 16 = .ok (.aload_n 1, 1) := by decide +kernel
theorem dX0_rightSide_17 : decode cX0_rightSide 17 = .ok (.getfield 184, 3) := by decide +kernel
theorem dX0_rightSide_20 : decode cX0_rightSide 20 = .ok (.iconst 1, 1) := by decide +kernel
theorem dX0_rightSide_21 : decode cX0_rightSide 21 = .ok (.if_icmp .le 13, 3) := by decide +kernel
theorem dX0_rightSide_24 : decode cX0_rightSide 24 = .ok (.aload_n 0, 1) := by decide +kernel
theorem dX0_rightSide_25 : decode cX0_rightSide 25 = .ok (.aload_n 1, 1) := by decide +kernel
theorem dX0_rightSide_26 : decode cX0_rightSide 26 = .ok (.iload_n 2, 1) := by decide +kernel
theorem dX0_rightSide_27 : decode cX0_rightSide 27 = .ok (.iconst 1, 1) := by decide +kernel
theorem dX0_rightSide_28 : decode cX0_rightSide 28 = .ok (.invokevirtual 186, 3) := by decide +kernel
theorem dX0_rightSide_31 : decode cX0_rightSide 31 = .ok (.goto 4, 3) := by decide +kernel
theorem dX0_rightSide_34 : decode cX0_rightSide 34 = .ok (.iconst (-1), 1) := by decide +kernel
theorem dX0_rightSide_35 : decode cX0_rightSide 35 = .ok (.istore_n 3, 1) := by decide +kernel
theorem dX0_rightSide_36 : decode cX0_rightSide 36 = .ok (.aload_n 1, 1) := by decide +kernel
theorem dX0_rightSide_37 : decode cX0_rightSide 37 = .ok (.getfield 184, 3) := by decide +kernel
theorem dX0_rightSide_40 : decode cX0_rightSide 40 = .ok (.iconst 2, 1) := by decide +kernel
theorem dX0_rightSide_41 : decode cX0_rightSide 41 = .ok (.if_icmp .le 13, 3) := by decide +kernel
theorem dX0_rightSide_44 : decode cX0_rightSide 44 = .ok (.aload_n 0, 1) := by decide +kernel
theorem dX0_rightSide_45 : decode cX0_rightSide 45 = .ok (.aload_n 1, 1) := by decide +kernel
theorem dX0_rightSide_46 : decode cX0_rightSide 46 = .ok (.iload_n 2, 1) := by decide +kernel
theorem dX0_rightSide_47 : decode cX0_rightSide 47 = .ok (.iconst 2, 1) := by decide +kernel
theorem dX0_rightSide_48 : decode cX0_rightSide 48 = .ok (.invokevirtual 186, 3) := by decide +kernel
theorem dX0_rightSide_51 : decode cX0_rightSide 51 = .ok (.goto 4, 3) := by decide +kernel
theorem dX0_rightSide_54 : decode cX0_rightSide 54 = .ok (.iconst (-1), 1) := by decide +kernel
theorem dX0_rightSide_55 : decode cX0_rightSide 55 = .ok (.istore 4, 2) := by decide +kernel
theorem dX0_rightSide_57 : decode cX0_rightSide 57 = .ok (.aload_n 0, 1) := by decide +kernel
theorem dX0_rightSide_58 : decode cX0_rightSide 58 = .ok (.getfield 24, 3) := by decide +kernel
theorem dX0_rightSide_61 : decode cX0_rightSide 61 = .ok (.aload_n 1, 1) := by decide +kernel
theorem dX0_rightSide_62 : decode cX0_rightSide 62 = .ok (.getfield 173, 3) := by decide +kernel
theorem dX0_rightSide_65 : decode cX0_rightSide 65 = .ok (.iload_n 3, 1) := by decide +kernel
theorem dX0_rightSide_66 : decode cX0_rightSide 66 = .ok (.iload 4, 2) := by decide +kernel
theorem dX0_rightSide_68 : decode cX0_rightSide 68 = .ok (.invokevirtual 113, 3) := by decide +kernel
theorem dX0_rightSide_71 : decode cX0_rightSide 71 = .ok (.ireturn, 1) := by decide +kernel
theorem dX0_restore_0 : decode cX0_restore 0 = .ok (.aload_n 0, 1) := by decide +kernel
theorem dX0_restore_1 : decode cX0_restore 1 = .ok (.aload_n 0, 1) := by decide +kernel
theorem dX0_restore_2 : decode cX0_restore 2 = .ok (.getfield 95, 3) := by decide +kernel
theorem dX0_restore_5 : decode cX0_restore 5 = .ok (.iconst 0, 1) := by decide +kernel
theorem dX0_restore_6 : decode cX0_restore 6 = .ok (.invokevirtual 229, 3) := by decide +kernel
theorem dX0_restore_9 : decode cX0_restore 9 = .ok (.aload_n 0, 1) := by decide +kernel
theorem dX0_restore_10 : decode cX0_restore 10 = .ok (.iload_n 1, 1) := by decide +kernel
theorem dX0_restore_11 : decode cX0_restore 11 = .ok (.iconst 1, 1) := by decide +kernel
theorem dX0_restore_12 : decode cX0_restore 12 = .ok (.invokevirtual 229, 3) := by decide +kernel
theorem dX0_restore_15 : decode cX0_restore 15 = .ok (.aload_n 0, 1) := by decide +kernel
theorem dX0_restore_16 : decode cX0_restore 16 = .ok (.iload_n 1, 1) := by decide +kernel
theorem dX0_restore_17 : decode cX0_restore 17 = .ok (.putfield 95, 3) := by decide +kernel
theorem dX0_restore_20 : decode cX0_restore 20 = .ok (.aload_n 0, 1) := by decide +kernel
theorem dX0_restore_21 : decode cX0_restore 21 = .ok (.dup, 1) := by decide +kernel
theorem dX0_restore_22 : decode cX0_restore 22 = .ok (.getfield 98, 3) := by decide +kernel
theorem dX0_restore_25 : decode cX0_restore 25 = .ok (.iconst 1, 1) := by decide +kernel
theorem dX0_restore_26 : decode cX0_restore 26 = .ok (.iadd, 1) := by decide +kernel
theorem dX0_restore_27 : decode cX0_restore 27 = .ok (.putfield 98, 3) := by decide +kernel
theorem dX0_restore_30 : decode cX0_restore 30 = .ok (.return_, 1) := by decide +kernel
theorem dX0_bindPath_0 : decode cX0_bindPath 0 = .ok (.iload_n 1, 1) := by decide +kernel
theorem dX0_bindPath_1 : decode cX0_bindPath 1 = .ok (.istore_n 3, 1) := by decide +kernel
theorem dX0_bindPath_2 : decode cX0_bindPath 2 = .ok (.iconst 0, 1) := by decide +kernel
theorem dX0_bindPath_3 : decode cX0_bindPath 3 = .ok (.istore 4, 2) := by decide +kernel
theorem dX0_bindPath_5 : decode cX0_bindPath 5 = .ok (.iload 4, 2) := by decide +kernel
theorem dX0_bindPath_7 : decode cX0_bindPath 7 = .ok (.sipush 150, 3) := by decide +kernel
theorem dX0_bindPath_10 : decode cX0_bindPath 10 = .ok (.if_icmp .ge 47, 3) := by decide +kernel
theorem dX0_bindPath_13 : decode cX0_bindPath 13 = .ok (.iload_n 3, 1) := by decide +kernel
theorem dX0_bindPath_14 : decode cX0_bindPath 14 = .ok (.iconst (-1), 1) := by decide +kernel
theorem dX0_bindPath_15 : decode cX0_bindPath 15 = .ok (.if_icmp .eq 42, 3) := by decide +kernel
theorem dX0_bindPath_18 : decode cX0_bindPath 18 = .ok (.aload_n 0, 1) := by decide +kernel
theorem dX0_bindPath_19 : decode cX0_bindPath 19 = .ok (.aload_n 0, 1) := by decide +kernel
theorem dX0_bindPath_20 : decode cX0_bindPath 20 = .ok (.getfield 34, 3) := by decide +kernel
theorem dX0_bindPath_23 : decode cX0_bindPath 23 = .ok (.iload_n 3, 1) := by decide +kernel
theorem dX0_bindPath_24 : decode cX0_bindPath 24 = .ok (.iconst 1, 1) := by decide +kernel
theorem dX0_bindPath_25 : decode cX0_bindPath 25 = .ok (.invokevirtual 84, 3) := by decide +kernel
theorem dX0_bindPath_28 : decode cX0_bindPath 28 = .ok (.aload_n 0, 1) := by decide +kernel
theorem dX0_bindPath_29 : decode cX0_bindPath 29 = .ok (.getfield 34, 3) := by decide +kernel
theorem dX0_bindPath_32 : decode cX0_bindPath 32 = .ok (.iload_n 3, 1) := by decide +kernel
theorem dX0_bindPath_33 : decode cX0_bindPath 33 = .ok (.iconst 2, 1) := by decide +kernel
theorem dX0_bindPath_34 : decode cX0_bindPath 34 = .ok (.invokevirtual 84, 3) := by decide +kernel
theorem dX0_bindPath_37 : decode cX0_bindPath 37 = .ok (.iload_n 2, 1) := by decide +kernel
theorem dX0_bindPath_38 : decode cX0_bindPath 38 = .ok (.invokevirtual 225, 3) := by decide +kernel
theorem dX0_bindPath_41 : decode cX0_bindPath 41 = .ok (.aload_n 0, 1) := by decide +kernel
theorem dX0_bindPath_42 : decode cX0_bindPath 42 = .ok (.getfield 34, 3) := by decide +kernel
theorem dX0_bindPath_45 : decode cX0_bindPath 45 = .ok (.iload_n 3, 1) := by decide +kernel
theorem dX0_bindPath_46 : decode cX0_bindPath 46 = .ok (.iconst 0, 1) := by decide +kernel
theorem dX0_bindPath_47 : decode cX0_bindPath 47 = .ok (.invokevirtual 84, 3) := by decide +kernel
theorem dX0_bindPath_50 : decode cX0_bindPath 50 = .ok (.istore_n 3, 1) := by decide +kernel
theorem dX0_bindPath_51 : decode cX0_bindPath 51 = .ok (.iinc 4 1, 3) := by decide +kernel
theorem dX0_bindPath_54 : decode cX0_bindPath 54 = .ok (.goto (-49), 3) := by decide +kernel
theorem dX0_bindPath_57 : decode cX0_bindPath 57 = .ok (.return_, 1) := by decide +kernel
theorem dX0_firstToResolve_0 : decode cX0_firstToResolve 0 = .ok (.iload_n 1, 1) := by decide +kernel
theorem dX0_firstToResolve_1 : decode cX0_firstToResolve 1 = .ok (.istore_n 2, 1) := by decide +kernel
theorem dX0_firstToResolve_2 : decode cX0_firstToResolve 2 = .ok (.iconst 0, 1) := by decide +kernel
theorem dX0_firstToResolve_3 : decode cX0_firstToResolve 3 = .ok (.istore_n 3, 1) := by decide +kernel
theorem dX0_firstToResolve_4 : decode cX0_firstToResolve 4 = .ok (.iload_n 3, 1) := by decide +kernel
theorem dX0_firstToResolve_5 : decode cX0_firstToResolve 5 = .ok (.ldc 65, 2) := by decide +kernel
theorem dX0_firstToResolve_7 : decode cX0_firstToResolve 7 = .ok (.if_icmp .ge 65, 3) := by decide +kernel
theorem dX0_firstToResolve_10 : decode cX0_firstToResolve 10 = .ok (.iload_n 2, 1) := by decide +kernel
theorem dX0_firstToResolve_11 : decode cX0_firstToResolve 11 = .ok (.iconst (-1), 1) := by decide +kernel
theorem dX0_firstToResolve_12 : decode cX0_firstToResolve 12 = .ok (.if_icmp .eq 60, 3) := by decide +kernel
theorem dX0_firstToResolve_15 : decode cX0_firstToResolve 15 = .ok (.aload_n 0, 1) := by decide +kernel
theorem dX0_firstToResolve_16 : decode cX0_firstToResolve 16 = .ok (.iload_n 2, 1) := by decide +kernel
theorem dX0_firstToResolve_17 : decode cX0_firstToResolve 17 = .ok (.invokevirtual 170, 3) := by decide +kernel
theorem dX0_firstToResolve_20 : decode cX0_firstToResolve 20 = .ok (.astore 4, 2) := by decide +kernel
theorem dX0_firstToResolve_22 : decode cX0_firstToResolve 22 = .ok (.aload 4, 2) := by decide +kernel
theorem dX0_firstToResolve_24 : decode cX0_firstToResolve 24 = .ok (.ifnull 32, 3) := by decide +kernel
theorem dX0_firstToResolve_27 : decode cX0_firstToResolve 27 = .ok (.aload 4, 2) := by decide +kernel
theorem dX0_firstToResolve_29 : decode cX0_firstToResolve 29 = .ok (.getfield 206, 3) := by decide +kernel
theorem dX0_firstToResolve_32 : decode cX0_firstToResolve 32 = .ok (.iconst 3, 1) := by decide +kernel
theorem dX0_firstToResolve_33 : decode cX0_firstToResolve 33 = .ok (.if_icmp .ne 21, 3) := by decide +kernel
theorem dX0_firstToResolve_36 : decode cX0_firstToResolve 36 = .ok (.aload_n 0, 1) := by decide +kernel
theorem dX0_firstToResolve_37 : decode cX0_firstToResolve 37 = .ok (.aload 4, 2) := by decide +kernel
theorem dX0_firstToResolve_39 : decode cX0_firstToResolve 39 = .ok (.aload_n 0, 1) := by decide +kernel
theorem dX0_firstToResolve_40 : decode cX0_firstToResolve 40 = .ok (.getfield 31, 3) := by decide +kernel
theorem dX0_firstToResolve_43 : decode cX0_firstToResolve 43 = .ok (.iload_n 2, 1) := by decide +kernel
theorem dX0_firstToResolve_44 : decode cX0_firstToResolve 44 = .ok (.iconst 1, 1) := by decide +kernel
theorem dX0_firstToResolve_45 : decode cX0_firstToResolve 45 = .ok (.invokevirtual 84, 3) := by decide +kernel
theorem dX0_firstToResolve_48 : decode cX0_firstToResolve 48 = .ok (.invokevirtual 233, 3) := by decide +kernel
theorem dX0_firstToResolve_51 : decode cX0_firstToResolve 51 = .ok (.ifCond .eq 5, 3) := by decide +kernel
theorem dX0_firstToResolve_54 : decode cX0_firstToResolve 54 = .ok (.iload_n 2, 1) := by decide +kernel
theorem dX0_firstToResolve_55 : decode cX0_firstToResolve 55 = .ok (.ireturn, 1) := by decide +kernel
theorem dX0_firstToResolve_56 : decode cX0_firstToResolve 56 = .ok (.aload_n 0, 1) := by decide +kernel
theorem dX0_firstToResolve_57 : decode cX0_firstToResolve 57 = .ok (.getfield 31, 3) := by decide +kernel
theorem dX0_firstToResolve_60 : decode cX0_firstToResolve 60 = .ok (.iload_n 2, 1) := by decide +kernel
