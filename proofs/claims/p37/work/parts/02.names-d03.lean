theorem dX0_isFinite_7 : decode cX0_isFinite 7 = .ok (.putfield 98, 3) := by decide +kernel
theorem dX0_isFinite_10 : decode cX0_isFinite 10 = .ok (.aload_n 0, 1) := by decide +kernel
theorem dX0_isFinite_11 : decode cX0_isFinite 11 = .ok (.aload_n 0, 1) := by decide +kernel
theorem dX0_isFinite_12 : decode cX0_isFinite 12 = .ok (.iload_n 1, 1) := by decide +kernel
theorem dX0_isFinite_13 : decode cX0_isFinite 13 = .ok (.invokevirtual 237, 3) := by decide +kernel
theorem dX0_isFinite_16 : decode cX0_isFinite 16 = .ok (.invokevirtual 257, 3) := by decide +kernel
theorem dX0_isFinite_19 : decode cX0_isFinite 19 = .ok (.ireturn, 1) := by decide +kernel
theorem dX0_markOf_0 : decode cX0_markOf 0 = .ok (.aload_n 0, 1) := by decide +kernel
theorem dX0_markOf_1 : decode cX0_markOf 1 = .ok (.getfield 24, 3) := by decide +kernel
theorem dX0_markOf_4 : decode cX0_markOf 4 = .ok (.iload_n 1, 1) := by decide +kernel
theorem dX0_markOf_5 : decode cX0_markOf 5 = .ok (.iconst 4, 1) := by decide +kernel
theorem dX0_markOf_6 : decode cX0_markOf 6 = .ok (.invokevirtual 84, 3) := by decide +kernel
theorem dX0_markOf_9 : decode cX0_markOf 9 = .ok (.iconst 3, 1) := by decide +kernel
theorem dX0_markOf_10 : decode cX0_markOf 10 = .ok (.aload_n 0, 1) := by decide +kernel
theorem dX0_markOf_11 : decode cX0_markOf 11 = .ok (.getfield 98, 3) := by decide +kernel
theorem dX0_markOf_14 : decode cX0_markOf 14 = .ok (.imul, 1) := by decide +kernel
theorem dX0_markOf_15 : decode cX0_markOf 15 = .ok (.isub, 1) := by decide +kernel
theorem dX0_markOf_16 : decode cX0_markOf 16 = .ok (.istore_n 2, 1) := by decide +kernel
theorem dX0_markOf_17 : decode cX0_markOf 17 = .ok (.iload_n 1, 1) := by decide +kernel
theorem dX0_markOf_18 : decode cX0_markOf 18 = .ok (.aload_n 0, 1) := by decide +kernel
theorem dX0_markOf_19 : decode cX0_markOf 19 = .ok (.getfield 117, 3) := by decide +kernel
theorem dX0_markOf_22 : decode cX0_markOf 22 = .ok (.if_icmp .ge 7, 3) := by decide +kernel
theorem dX0_markOf_25 : decode cX0_markOf 25 = .ok (.iconst 1, 1) := by decide +kernel
theorem dX0_markOf_26 : decode cX0_markOf 26 = .ok (.goto 8, 3) := by decide +kernel
theorem dX0_markOf_29 : decode cX0_markOf 29 = .ok (.iload_n 2, 1) := by decide +kernel
theorem dX0_markOf_30 : decode cX0_markOf 30 = .ok (.iconst (-1), 1) := by decide +kernel
theorem dX0_markOf_31 : decode cX0_markOf 31 = .ok (.invokestatic 245, 3) := by decide +kernel
theorem dX0_markOf_34 : decode cX0_markOf 34 = .ok (.ireturn, 1) := by decide +kernel
theorem dX0_setMark_0 : decode cX0_setMark 0 = .ok (.aload_n 0, 1) := by decide +kernel
theorem dX0_setMark_1 : decode cX0_setMark 1 = .ok (.getfield 24, 3) := by decide +kernel
theorem dX0_setMark_4 : decode cX0_setMark 4 = .ok (.iload_n 1, 1) := by decide +kernel
theorem dX0_setMark_5 : decode cX0_setMark 5 = .ok (.iconst 4, 1) := by decide +kernel
theorem dX0_setMark_6 : decode cX0_setMark 6 = .ok (.iconst 3, 1) := by decide +kernel
theorem dX0_setMark_7 : decode cX0_setMark 7 = .ok (.aload_n 0, 1) := by decide +kernel
theorem dX0_setMark_8 : decode cX0_setMark 8 = .ok (.getfield 98, 3) := by decide +kernel
theorem dX0_setMark_11 : decode cX0_setMark 11 = .ok (.imul, 1) := by decide +kernel
theorem dX0_setMark_12 : decode cX0_setMark 12 = .ok (.iload_n 2, 1) := by decide +kernel
theorem dX0_setMark_13 : decode cX0_setMark 13 = .ok (.iadd, 1) := by decide +kernel
theorem dX0_setMark_14 : decode cX0_setMark 14 = .ok (.invokevirtual 142, 3) := by decide +kernel
theorem dX0_setMark_17 : decode cX0_setMark 17 = .ok (.return_, 1) := by decide +kernel
theorem dX0_scan_0 : decode cX0_scan 0 = .ok (.aload_n 0, 1) := by decide +kernel
theorem dX0_scan_1 : decode cX0_scan 1 = .ok (.getfield 46, 3) := by decide +kernel
theorem dX0_scan_4 : decode cX0_scan 4 = .ok (.iconst 0, 1) := by decide +kernel
theorem dX0_scan_5 : decode cX0_scan 5 = .ok (.invokevirtual 92, 3) := by decide +kernel
theorem dX0_scan_8 : decode cX0_scan 8 = .ok (.aload_n 0, 1) := by decide +kernel
theorem dX0_scan_9 : decode cX0_scan 9 = .ok (.getfield 46, 3) := by decide +kernel
theorem dX0_scan_12 : decode cX0_scan 12 = .ok (.iload_n 1, 1) := by decide +kernel
theorem dX0_scan_13 : decode cX0_scan 13 = .ok (.iconst 0, 1) := by decide +kernel
theorem dX0_scan_14 : decode cX0_scan 14 = .ok (.iconst 1, 1) := by decide +kernel
theorem dX0_scan_15 : decode cX0_scan 15 = .ok (.invokevirtual 113, 3) := by decide +kernel
theorem dX0_scan_18 : decode cX0_scan 18 = .ok (.pop, 1) := by decide +kernel
theorem dX0_scan_19 : decode cX0_scan 19 = .ok (.iconst 0, 1) := by decide +kernel
theorem dX0_scan_20 : decode cX0_scan 20 = .ok (.istore_n 2, 1) := by decide +kernel
theorem dX0_scan_21 : decode cX0_scan 21 = .ok (.iload_n 2, 1) := by decide +kernel
theorem dX0_scan_22 : decode cX0_scan 22 = .ok (.ldc 65, 2) := by decide +kernel
theorem dX0_scan_24 : decode cX0_scan 24 = .ok (.if_icmp .ge 217, 3) := by decide +kernel
theorem dX0_scan_27 : decode cX0_scan 27 = .ok (.aload_n 0, 1) := by decide +kernel
theorem dX0_scan_28 : decode cX0_scan 28 = .ok (.getfield 46, 3) := by decide +kernel
theorem dX0_scan_31 : decode cX0_scan 31 = .ok (.invokevirtual 70, 3) := by decide +kernel
theorem dX0_scan_34 : decode cX0_scan 34 = .ok (.ifCond .le 207, 3) := by decide +kernel
theorem dX0_scan_37 : decode cX0_scan 37 = .ok (.aload_n 0, 1) := by decide +kernel
theorem dX0_scan_38 : decode cX0_scan 38 = .ok (.getfield 46, 3) := by decide +kernel
theorem dX0_scan_41 : decode cX0_scan 41 = .ok (.invokevirtual 70, 3) := by decide +kernel
theorem dX0_scan_44 : decode cX0_scan 44 = .ok (.iconst 1, 1) := by decide +kernel
theorem dX0_scan_45 : decode cX0_scan 45 = .ok (.isub, 1) := by decide +kernel
theorem dX0_scan_46 : decode cX0_scan 46 = .ok (.istore_n 3, 1) := by decide +kernel
theorem dX0_scan_47 : decode cX0_scan 47 = .ok (.aload_n 0, 1) := by decide +kernel
theorem dX0_scan_48 : decode cX0_scan 48 = .ok (.getfield 46, 3) := by decide +kernel
theorem dX0_scan_51 : decode cX0_scan 51 = .ok (.iload_n 3, 1) := by decide +kernel
theorem dX0_scan_52 : decode cX0_scan 52 = .ok (.iconst 0, 1) := by decide +kernel
theorem dX0_scan_53 : decode cX0_scan 53 = .ok (.invokevirtual 84, 3) := by decide +kernel
theorem dX0_scan_56 : decode cX0_scan 56 = .ok (.istore 4, 2) := by decide +kernel
theorem dX0_scan_58 : decode cX0_scan 58 = .ok (.aload_n 0, 1) := by decide +kernel
theorem dX0_scan_59 : decode cX0_scan 59 = .ok (.getfield 46, 3) := by decide +kernel
theorem dX0_scan_62 : decode cX0_scan 62 = .ok (.iload_n 3, 1) := by decide +kernel
theorem dX0_scan_63 : decode cX0_scan 63 = .ok (.iconst 1, 1) := by decide +kernel
theorem dX0_scan_64 : decode cX0_scan 64 = .ok (.invokevirtual 84, 3) := by decide +kernel
theorem dX0_scan_67 : decode cX0_scan 67 = .ok (.istore 5, 2) := by decide +kernel
theorem dX0_scan_69 : decode cX0_scan 69 = .ok (.aload_n 0, 1) := by decide +kernel
theorem dX0_scan_70 : decode cX0_scan 70 = .ok (.getfield 24, 3) := by decide +kernel
theorem dX0_scan_73 : decode cX0_scan 73 = .ok (.iload 4, 2) := by decide +kernel
theorem dX0_scan_75 : decode cX0_scan 75 = .ok (.iconst 0, 1) := by decide +kernel
theorem dX0_scan_76 : decode cX0_scan 76 = .ok (.invokevirtual 84, 3) := by decide +kernel
theorem dX0_scan_79 : decode cX0_scan 79 = .ok (.istore 6, 2) := by decide +kernel
theorem dX0_scan_81 : decode cX0_scan 81 = .ok (.iload 5, 2) := by decide +kernel
theorem dX0_scan_83 : decode cX0_scan 83 = .ok (.aload_n 0, 1) := by decide +kernel
theorem dX0_scan_84 : decode cX0_scan 84 = .ok (.getfield 15, 3) := by decide +kernel
theorem dX0_scan_87 : decode cX0_scan 87 = .ok (.iload 6, 2) := by decide +kernel
theorem dX0_scan_89 : decode cX0_scan 89 = .ok (.invokevirtual 251, 3) := by decide +kernel
theorem dX0_scan_92 : decode cX0_scan 92 = .ok (.if_icmp .lt 39, 3) := by decide +kernel
theorem dX0_scan_95 : decode cX0_scan 95 = .ok (.aload_n 0, 1) := by decide +kernel
theorem dX0_scan_96 : decode cX0_scan 96 = .ok (.iload 4, 2) := by decide +kernel
theorem dX0_scan_98 : decode cX0_scan 98 = .ok (.iload 6, 2) := by decide +kernel
theorem dX0_scan_100 : decode cX0_scan 100 = .ok (.iconst (-1), 1) := by decide +kernel
theorem dX0_scan_101 : decode cX0_scan 101 = .ok (.if_icmp .ne 7, 3) := by decide +kernel
theorem dX0_scan_104 : decode cX0_scan 104 = .ok (.iconst 2, 1) := by decide +kernel
theorem dX0_scan_105 : decode cX0_scan 105 = .ok (.goto 12, 3) := by decide +kernel
theorem dX0_scan_108 : decode cX0_scan 108 = .ok (.aload_n 0, 1) := by decide +kernel
theorem dX0_scan_109 : decode cX0_scan 109 = .ok (.getfield 46, 3) := by decide +kernel
theorem dX0_scan_112 : decode cX0_scan 112 = .ok (.iload_n 3, 1) := by decide +kernel
theorem dX0_scan_113 : decode cX0_scan 113 = .ok (.iconst 2, 1) := by decide +kernel
theorem dX0_scan_114 : decode cX0_scan 114 = .ok (.invokevirtual 84, 3) := by decide +kernel
theorem dX0_scan_117 : decode cX0_scan 117 = .ok (.invokevirtual 260, 3) := by decide +kernel
theorem dX0_scan_120 : decode cX0_scan 120 = .ok (.aload_n 0, 1) := by decide +kernel
theorem dX0_scan_121 : decode cX0_scan 121 = .ok (.getfield 46, 3) := by decide +kernel
theorem dX0_scan_124 : decode cX0_scan 124 = .ok (.iload_n 3, 1) := by decide +kernel
theorem dX0_scan_125 : decode cX0_scan 125 = .ok (.invokevirtual 92, 3) := by decide +kernel
theorem dX0_scan_128 : decode cX0_scan 128 = .ok (.goto 107, 3) := by decide +kernel
theorem dX0_scan_131 : decode cX0_scan 131 = .ok (.aload_n 0, 1) := by decide +kernel
theorem dX0_scan_132 : decode cX0_scan 132 = .ok (.iload 4, 2) := by decide +kernel
theorem dX0_scan_134 : decode cX0_scan 134 = .ok (.iconst 0, 1) := by decide +kernel
theorem dX0_scan_135 : decode cX0_scan 135 = .ok (.invokevirtual 260, 3) := by decide +kernel
theorem dX0_scan_138 : decode cX0_scan 138 = .ok (.aload_n 0, 1) := by decide +kernel
theorem dX0_scan_139 : decode cX0_scan 139 = .ok (.aload_n 0, 1) := by decide +kernel
theorem dX0_scan_140 : decode cX0_scan 140 = .ok (.getfield 24, 3) := by decide +kernel
theorem dX0_scan_143 : decode cX0_scan 143 = .ok (.iload 4, 2) := by decide +kernel
theorem dX0_scan_145 : decode cX0_scan 145 = .ok (.iload 5, 2) := by decide +kernel
theorem dX0_scan_147 : decode cX0_scan 147 = .ok (.ifCond .ne 7, 3) := by decide +kernel
theorem dX0_scan_150 : decode cX0_scan 150 = .ok (.iconst 1, 1) := by decide +kernel
theorem dX0_scan_151 : decode cX0_scan 151 = .ok (.goto 4, 3) := by decide +kernel
theorem dX0_scan_154 : decode cX0_scan 154 = .ok (.iconst 2, 1) := by decide +kernel
theorem dX0_scan_155 : decode cX0_scan 155 = .ok (.invokevirtual 84, 3) := by decide +kernel
theorem dX0_scan_158 : decode cX0_scan 158 = .ok (.invokevirtual 237, 3) := by decide +kernel
theorem dX0_scan_161 : decode cX0_scan 161 = .ok (.istore 7, 2) := by decide +kernel
theorem dX0_scan_163 : decode cX0_scan 163 = .ok (.aload_n 0, 1) := by decide +kernel
theorem dX0_scan_164 : decode cX0_scan 164 = .ok (.iload 7, 2) := by decide +kernel
theorem dX0_scan_166 : decode cX0_scan 166 = .ok (.invokevirtual 254, 3) := by decide +kernel
theorem dX0_scan_169 : decode cX0_scan 169 = .ok (.istore 8, 2) := by decide +kernel
theorem dX0_scan_171 : decode cX0_scan 171 = .ok (.iload 8, 2) := by decide +kernel
theorem dX0_scan_173 : decode cX0_scan 173 = .ok (.ifCond .ne 5, 3) := by decide +kernel
theorem dX0_scan_176 : decode cX0_scan 176 = .ok (.iconst 0, 1) := by decide +kernel
theorem dX0_scan_177 : decode cX0_scan 177 = .ok (.ireturn, 1) := by decide +kernel
theorem dX0_scan_178 : decode cX0_scan 178 = .ok (.iload 8, 2) := by decide +kernel
theorem dX0_scan_180 : decode cX0_scan 180 = .ok (.iconst (-1), 1) := by decide +kernel
theorem dX0_scan_181 : decode cX0_scan 181 = .ok (.if_icmp .ne 18, 3) := by decide +kernel
theorem dX0_scan_184 : decode cX0_scan 184 = .ok (.aload_n 0, 1) := by decide +kernel
theorem dX0_scan_185 : decode cX0_scan 185 = .ok (.getfield 46, 3) := by decide +kernel
theorem dX0_scan_188 : decode cX0_scan 188 = .ok (.iload 7, 2) := by decide +kernel
theorem dX0_scan_190 : decode cX0_scan 190 = .ok (.iconst 0, 1) := by decide +kernel
theorem dX0_scan_191 : decode cX0_scan 191 = .ok (.iconst 1, 1) := by decide +kernel
theorem dX0_scan_192 : decode cX0_scan 192 = .ok (.invokevirtual 113, 3) := by decide +kernel
theorem dX0_scan_195 : decode cX0_scan 195 = .ok (.pop, 1) := by decide +kernel
theorem dX0_scan_196 : decode cX0_scan 196 = .ok (.goto 39, 3) := by decide +kernel
theorem dX0_scan_199 : decode cX0_scan 199 = .ok (.aload_n 0, 1) := by decide +kernel
theorem dX0_scan_200 : decode cX0_scan 200 = .ok (.getfield 46, 3) := by decide +kernel
theorem dX0_scan_203 : decode cX0_scan 203 = .ok (.iload_n 3, 1) := by decide +kernel
theorem dX0_scan_204 : decode cX0_scan 204 = .ok (.iconst 1, 1) := by decide +kernel
theorem dX0_scan_205 : decode cX0_scan 205 = .ok (.iload 5, 2) := by decide +kernel
theorem dX0_scan_207 : decode cX0_scan 207 = .ok (.iconst 1, 1) := by decide +kernel
theorem dX0_scan_208 : decode cX0_scan 208 = .ok (.iadd, 1) := by decide +kernel
theorem dX0_scan_209 : decode cX0_scan 209 = .ok (.invokevirtual 142, 3) := by decide +kernel
theorem dX0_scan_212 : decode cX0_scan 212 = .ok (.aload_n 0, 1) := by decide +kernel
theorem dX0_scan_213 : decode cX0_scan 213 = .ok (.getfield 46, 3) := by decide +kernel
theorem dX0_scan_216 : decode cX0_scan 216 = .ok (.iload_n 3, 1) := by decide +kernel
theorem dX0_scan_217 : decode cX0_scan 217 = .ok (.iconst 2, 1) := by decide +kernel
theorem dX0_scan_218 : decode cX0_scan 218 = .ok (.iload 8, 2) := by decide +kernel
theorem dX0_scan_220 : decode cX0_scan 220 = .ok (.aload_n 0, 1) := by decide +kernel
theorem dX0_scan_221 : decode cX0_scan 221 = .ok (.getfield 46, 3) := by decide +kernel
theorem dX0_scan_224 : decode cX0_scan 224 = .ok (.iload_n 3, 1) := by decide +kernel
theorem dX0_scan_225 : decode cX0_scan 225 = .ok (.iconst 2, 1) := by decide +kernel
theorem dX0_scan_226 : decode cX0_scan 226 = .ok (.invokevirtual 84, 3) := by decide +kernel
theorem dX0_scan_229 : decode cX0_scan 229 = .ok (.invokestatic 245, 3) := by decide +kernel
theorem dX0_scan_232 : decode cX0_scan 232 = .ok (.invokevirtual 142, 3) := by decide +kernel
theorem dX0_scan_235 : decode cX0_scan 235 = .ok (.iinc 2 1, 3) := by decide +kernel
theorem dX0_scan_238 : decode cX0_scan 238 = .ok (.goto (-217), 3) := by decide +kernel
theorem dX0_scan_241 : decode cX0_scan 241 = .ok (.iconst 1, 1) := by decide +kernel
theorem dX0_scan_242 : decode cX0_scan 242 = .ok (.ireturn, 1) := by decide +kernel
theorem dX1_init_0 : decode cX1_init 0 = .ok (.aload_n 0, 1) := by decide +kernel
theorem dX1_init_1 : decode cX1_init 1 = .ok (.invokespecial 3, 3) := by decide +kernel
theorem dX1_init_4 : decode cX1_init 4 = .ok (.aload_n 0, 1) := by decide +kernel
theorem dX1_init_5 : decode cX1_init 5 = .ok (.iload_n 1, 1) := by decide +kernel
theorem dX1_init_6 : decode cX1_init 6 = .ok (.putfield 9, 3) := by decide +kernel
theorem dX1_init_9 : decode cX1_init 9 = .ok (.aload_n 0, 1) := by decide +kernel
theorem dX1_init_10 : decode cX1_init 10 = .ok (.aload_n 2, 1) := by decide +kernel
theorem dX1_init_11 : decode cX1_init 11 = .ok (.putfield 15, 3) := by decide +kernel
theorem dX1_init_14 : decode cX1_init 14 = .ok (.aload_n 0, 1) := by decide +kernel
theorem dX1_init_15 : decode cX1_init 15 = .ok (.new 19, 3) := by decide +kernel
theorem dX1_init_18 : decode cX1_init 18 = .ok (.dup, 1) := by decide +kernel
theorem dX1_init_19 : decode cX1_init 19 = .ok (.iconst 1, 1) := by decide +kernel
theorem dX1_init_20 : decode cX1_init 20 = .ok (.bipush 8, 2) := by decide +kernel
theorem dX1_init_22 : decode cX1_init 22 = .ok (.invokespecial 21, 3) := by decide +kernel
theorem dX1_init_25 : decode cX1_init 25 = .ok (.putfield 24, 3) := by decide +kernel
theorem dX1_init_28 : decode cX1_init 28 = .ok (.iconst 0, 1) := by decide +kernel
theorem dX1_init_29 : decode cX1_init 29 = .ok (.istore_n 3, 1) := by decide +kernel
theorem dX1_init_30 : decode cX1_init 30 = .ok (.iload_n 3, 1) := by decide +kernel
theorem dX1_init_31 : decode cX1_init 31 = .ok (.bipush 8, 2) := by decide +kernel
theorem dX1_init_33 : decode cX1_init 33 = .ok (.if_icmp .ge 24, 3) := by decide +kernel
theorem dX1_init_36 : decode cX1_init 36 = .ok (.aload_n 0, 1) := by decide +kernel
theorem dX1_init_37 : decode cX1_init 37 = .ok (.getfield 24, 3) := by decide +kernel
theorem dX1_init_40 : decode cX1_init 40 = .ok (.aload_n 2, 1) := by decide +kernel
theorem dX1_init_41 : decode cX1_init 41 = .ok (.iload_n 3, 1) := by decide +kernel
theorem dX1_init_42 : decode cX1_init 42 = .ok (.invokevirtual 28, 3) := by decide +kernel
theorem dX1_init_45 : decode cX1_init 45 = .ok (.iconst (-1), 1) := by decide +kernel
theorem dX1_init_46 : decode cX1_init 46 = .ok (.iconst (-1), 1) := by decide +kernel
theorem dX1_init_47 : decode cX1_init 47 = .ok (.invokevirtual 34, 3) := by decide +kernel
theorem dX1_init_50 : decode cX1_init 50 = .ok (.pop, 1) := by decide +kernel
theorem dX1_init_51 : decode cX1_init 51 = .ok (.iinc 3 1, 3) := by decide +kernel
theorem dX1_init_54 : decode cX1_init 54 = .ok (.goto (-24), 3) := by decide +kernel
theorem dX1_init_57 : decode cX1_init 57 = .ok (.aload_n 0, 1) := by decide +kernel
theorem dX1_init_58 : decode cX1_init 58 = .ok (.new 38, 3) := by decide +kernel
theorem dX1_init_61 : decode cX1_init 61 = .ok (.dup, 1) := by decide +kernel
theorem dX1_init_62 : decode cX1_init 62 = .ok (.invokespecial 40, 3) := by decide +kernel
theorem dX1_init_65 : decode cX1_init 65 = .ok (.putfield 41, 3) := by decide +kernel
theorem dX1_init_68 : decode cX1_init 68 = .ok (.aload_n 0, 1) := by decide +kernel
theorem dX1_init_69 : decode cX1_init 69 = .ok (.iconst 2, 1) := by decide +kernel
theorem dX1_init_70 : decode cX1_init 70 = .ok (.newarray .int, 2) := by decide +kernel
theorem dX1_init_72 : decode cX1_init 72 = .ok (.putfield 45, 3) := by decide +kernel
theorem dX1_init_75 : decode cX1_init 75 = .ok (.aload_n 0, 1) := by decide +kernel
theorem dX1_init_76 : decode cX1_init 76 = .ok (.bipush 10, 2) := by decide +kernel
theorem dX1_init_78 : decode cX1_init 78 = .ok (.newarray .int, 2) := by decide +kernel
theorem dX1_init_80 : decode cX1_init 80 = .ok (.putfield 49, 3) := by decide +kernel
theorem dX1_init_83 : decode cX1_init 83 = .ok (.aload_n 0, 1) := by decide +kernel
theorem dX1_init_84 : decode cX1_init 84 = .ok (.bipush 10, 2) := by decide +kernel
theorem dX1_init_86 : decode cX1_init 86 = .ok (.anewarray 52, 3) := by decide +kernel
theorem dX1_init_89 : decode cX1_init 89 = .ok (.putfield 54, 3) := by decide +kernel
theorem dX1_init_92 : decode cX1_init 92 = .ok (.aload_n 0, 1) := by decide +kernel
theorem dX1_init_93 : decode cX1_init 93 = .ok (.bipush 10, 2) := by decide +kernel
theorem dX1_init_95 : decode cX1_init 95 = .ok (.anewarray 58, 3) := by decide +kernel
theorem dX1_init_98 : decode cX1_init 98 = .ok (.putfield 60, 3) := by decide +kernel
theorem dX1_init_101 : decode cX1_init 101 = .ok (.aload_n 0, 1) := by decide +kernel
theorem dX1_init_102 : decode cX1_init 102 = .ok (.bipush 10, 2) := by decide +kernel
theorem dX1_init_104 : decode cX1_init 104 = .ok (.newarray .int, 2) := by decide +kernel
theorem dX1_init_106 : decode cX1_init 106 = .ok (.putfield 64, 3) := by decide +kernel
theorem dX1_init_109 : decode cX1_init 109 = .ok (.return_, 1) := by decide +kernel
theorem dX1_typeAt_0 : decode cX1_typeAt 0 = .ok (.aload_n 0, 1) := by decide +kernel
theorem dX1_typeAt_1 : decode cX1_typeAt 1 = .ok (.getfield 24, 3) := by decide +kernel
theorem dX1_typeAt_4 : decode cX1_typeAt 4 = .ok (.iload_n 1, 1) := by decide +kernel
theorem dX1_typeAt_5 : decode cX1_typeAt 5 = .ok (.iconst 0, 1) := by decide +kernel
theorem dX1_typeAt_6 : decode cX1_typeAt 6 = .ok (.invokevirtual 67, 3) := by decide +kernel
theorem dX1_typeAt_9 : decode cX1_typeAt 9 = .ok (.ireturn, 1) := by decide +kernel
theorem dX1_goalCount_0 : decode cX1_goalCount 0 = .ok (.aload_n 0, 1) := by decide +kernel
theorem dX1_goalCount_1 : decode cX1_goalCount 1 = .ok (.getfield 41, 3) := by decide +kernel
theorem dX1_goalCount_4 : decode cX1_goalCount 4 = .ok (.invokevirtual 71, 3) := by decide +kernel
theorem dX1_goalCount_7 : decode cX1_goalCount 7 = .ok (.ireturn, 1) := by decide +kernel
theorem dX1_goalNumbered_0 : decode cX1_goalNumbered 0 = .ok (.iload_n 1, 1) := by decide +kernel
theorem dX1_goalNumbered_1 : decode cX1_goalNumbered 1 = .ok (.ifCond .lt 28, 3) := by decide +kernel
theorem dX1_goalNumbered_4 : decode cX1_goalNumbered 4 = .ok (.iload_n 1, 1) := by decide +kernel
theorem dX1_goalNumbered_5 : decode cX1_goalNumbered 5 = .ok (.aload_n 0, 1) := by decide +kernel
theorem dX1_goalNumbered_6 : decode cX1_goalNumbered 6 = .ok (.getfield 41, 3) := by decide +kernel
theorem dX1_goalNumbered_9 : decode cX1_goalNumbered 9 = .ok (.invokevirtual 71, 3) := by decide +kernel
theorem dX1_goalNumbered_12 : decode cX1_goalNumbered 12 = .ok (.if_icmp .ge 17, 3) := by decide +kernel
theorem dX1_goalNumbered_15 : decode cX1_goalNumbered 15 = .ok (.aload_n 0, 1) := by decide +kernel
theorem dX1_goalNumbered_16 : decode cX1_goalNumbered 16 = .ok (.getfield 41, 3) := by decide +kernel
theorem dX1_goalNumbered_19 : decode cX1_goalNumbered 19 = .ok (.iload_n 1, 1) := by decide +kernel
theorem dX1_goalNumbered_20 : decode cX1_goalNumbered 20 = .ok (.invokevirtual 75, 3) := by decide +kernel
theorem dX1_goalNumbered_23 : decode cX1_goalNumbered 23 = .ok (.checkcast 52, 3) := by decide +kernel
theorem dX1_goalNumbered_26 : decode cX1_goalNumbered 26 = .ok (.goto 4, 3) := by decide +kernel
theorem dX1_goalNumbered_29 : decode cX1_goalNumbered 29 = .ok (.aconst_null, 1) := by decide +kernel
theorem dX1_goalNumbered_30 : decode cX1_goalNumbered 30 = .ok (.areturn, 1) := by decide +kernel
theorem dX1_takesTypes_0 : decode cX1_takesTypes 0 = .ok (.iconst 0, 1) := by decide +kernel
theorem dX1_takesTypes_1 : decode cX1_takesTypes 1 = .ok (.istore 5, 2) := by decide +kernel
theorem dX1_takesTypes_3 : decode cX1_takesTypes 3 = .ok (.iload 5, 2) := by decide +kernel
theorem dX1_takesTypes_5 : decode cX1_takesTypes 5 = .ok (.aload_n 1, 1) := by decide +kernel
theorem dX1_takesTypes_6 : decode cX1_takesTypes 6 = .ok (.getfield 78, 3) := by decide +kernel
theorem dX1_takesTypes_9 : decode cX1_takesTypes 9 = .ok (.if_icmp .ge 95, 3) := by decide +kernel
theorem dX1_takesTypes_12 : decode cX1_takesTypes 12 = .ok (.iload 5, 2) := by decide +kernel
theorem dX1_takesTypes_14 : decode cX1_takesTypes 14 = .ok (.iload_n 2, 1) := by decide +kernel
theorem dX1_takesTypes_15 : decode cX1_takesTypes 15 = .ok (.iload_n 3, 1) := by decide +kernel
theorem dX1_takesTypes_16 : decode cX1_takesTypes 16 = .ok (.iload 4, 2) := by decide +kernel
theorem dX1_takesTypes_18 : decode cX1_takesTypes 18 = .ok (.invokestatic 81, 3) := by decide +kernel
theorem dX1_takesTypes_21 : decode cX1_takesTypes 21 = .ok (.istore 6, 2) := by decide +kernel
theorem dX1_takesTypes_23 : decode cX1_takesTypes 23 = .ok (.aload_n 0, 1) := by decide +kernel
theorem dX1_takesTypes_24 : decode cX1_takesTypes 24 = .ok (.aload_n 1, 1) := by decide +kernel
theorem dX1_takesTypes_25 : decode cX1_takesTypes 25 = .ok (.iload 5, 2) := by decide +kernel
theorem dX1_takesTypes_27 : decode cX1_takesTypes 27 = .ok (.invokevirtual 85, 3) := by decide +kernel
theorem dX1_takesTypes_30 : decode cX1_takesTypes 30 = .ok (.invokevirtual 88, 3) := by decide +kernel
theorem dX1_takesTypes_33 : decode cX1_takesTypes 33 = .ok (.istore 7, 2) := by decide +kernel
theorem dX1_takesTypes_35 : decode cX1_takesTypes 35 = .ok (.iconst 0, 1) := by decide +kernel
theorem dX1_takesTypes_36 : decode cX1_takesTypes 36 = .ok (.istore 8, 2) := by decide +kernel
theorem dX1_takesTypes_38 : decode cX1_takesTypes 38 = .ok (.iload 8, 2) := by decide +kernel
theorem dX1_takesTypes_40 : decode cX1_takesTypes 40 = .ok (.iload 5, 2) := by decide +kernel
theorem dX1_takesTypes_42 : decode cX1_takesTypes 42 = .ok (.if_icmp .ge 41, 3) := by decide +kernel
theorem dX1_takesTypes_45 : decode cX1_takesTypes 45 = .ok (.iload 7, 2) := by decide +kernel
theorem dX1_takesTypes_47 : decode cX1_takesTypes 47 = .ok (.iconst (-1), 1) := by decide +kernel
theorem dX1_takesTypes_48 : decode cX1_takesTypes 48 = .ok (.if_icmp .ne 35, 3) := by decide +kernel
theorem dX1_takesTypes_51 : decode cX1_takesTypes 51 = .ok (.aload_n 1, 1) := by decide +kernel
theorem dX1_takesTypes_52 : decode cX1_takesTypes 52 = .ok (.iload 8, 2) := by decide +kernel
theorem dX1_takesTypes_54 : decode cX1_takesTypes 54 = .ok (.invokevirtual 85, 3) := by decide +kernel
theorem dX1_takesTypes_57 : decode cX1_takesTypes 57 = .ok (.aload_n 1, 1) := by decide +kernel
theorem dX1_takesTypes_58 : decode cX1_takesTypes 58 = .ok (.iload 5, 2) := by decide +kernel
theorem dX1_takesTypes_60 : decode cX1_takesTypes 60 = .ok (.invokevirtual 85, 3) := by decide +kernel
theorem dX1_takesTypes_63 : decode cX1_takesTypes 63 = .ok (.if_icmp .ne 14, 3) := by decide +kernel
theorem dX1_takesTypes_66 : decode cX1_takesTypes 66 = .ok (.iload 8, 2) := by decide +kernel
theorem dX1_takesTypes_68 : decode cX1_takesTypes 68 = .ok (.iload_n 2, 1) := by decide +kernel
theorem dX1_takesTypes_69 : decode cX1_takesTypes 69 = .ok (.iload_n 3, 1) := by decide +kernel
theorem dX1_takesTypes_70 : decode cX1_takesTypes 70 = .ok (.iload 4, 2) := by decide +kernel
theorem dX1_takesTypes_72 : decode cX1_takesTypes 72 = .ok (.invokestatic 81, 3) := by decide +kernel
theorem dX1_takesTypes_75 : decode cX1_takesTypes 75 = .ok (.istore 7, 2) := by decide +kernel
theorem dX1_takesTypes_77 : decode cX1_takesTypes 77 = .ok (.iinc 8 1, 3) := by decide +kernel
theorem dX1_takesTypes_80 : decode cX1_takesTypes 80 = .ok (.goto (-42), 3) := by decide +kernel
theorem dX1_takesTypes_83 : decode cX1_takesTypes 83 = .ok (.iload 7, 2) := by decide +kernel
theorem dX1_takesTypes_85 : decode cX1_takesTypes 85 = .ok (.iconst (-1), 1) := by decide +kernel
theorem dX1_takesTypes_86 : decode cX1_takesTypes 86 = .ok (.if_icmp .eq 12, 3) := by decide +kernel
theorem dX1_takesTypes_89 : decode cX1_takesTypes 89 = .ok (.iload 7, 2) := by decide +kernel
theorem dX1_takesTypes_91 : decode cX1_takesTypes 91 = .ok (.iload 6, 2) := by decide +kernel
theorem dX1_takesTypes_93 : decode cX1_takesTypes 93 = .ok (.if_icmp .eq 5, 3) := by decide +kernel
theorem dX1_takesTypes_96 : decode cX1_takesTypes 96 = .ok (.iconst 0, 1) := by decide +kernel
theorem dX1_takesTypes_97 : decode cX1_takesTypes 97 = .ok (.ireturn, 1) := by decide +kernel
theorem dX1_takesTypes_98 : decode cX1_takesTypes 98 = .ok (.iinc 5 1, 3) := by decide +kernel
theorem dX1_takesTypes_101 : decode cX1_takesTypes 101 = .ok (.goto (-98), 3) := by decide +kernel
theorem dX1_takesTypes_104 : decode cX1_takesTypes 104 = .ok (.iconst 1, 1) := by decide +kernel
theorem dX1_takesTypes_105 : decode cX1_takesTypes 105 = .ok (.ireturn, 1) := by decide +kernel
theorem dX1_newGoal_0 : decode cX1_newGoal 0 = .ok (.iconst 0, 1) := by decide +kernel
theorem dX1_newGoal_1 : decode cX1_newGoal 1 = .ok (.istore 5, 2) := by decide +kernel
theorem dX1_newGoal_3 : decode cX1_newGoal 3 = .ok (.iload 5, 2) := by decide +kernel
theorem dX1_newGoal_5 : decode cX1_newGoal 5 = .ok (.aload_n 1, 1) := by decide +kernel
theorem dX1_newGoal_6 : decode cX1_newGoal 6 = .ok (.getfield 78, 3) := by decide +kernel
theorem dX1_newGoal_9 : decode cX1_newGoal 9 = .ok (.if_icmp .ge 32, 3) := by decide +kernel
theorem dX1_newGoal_12 : decode cX1_newGoal 12 = .ok (.aload_n 0, 1) := by decide +kernel
theorem dX1_newGoal_13 : decode cX1_newGoal 13 = .ok (.getfield 24, 3) := by decide +kernel
theorem dX1_newGoal_16 : decode cX1_newGoal 16 = .ok (.aload_n 1, 1) := by decide +kernel
theorem dX1_newGoal_17 : decode cX1_newGoal 17 = .ok (.iload 5, 2) := by decide +kernel
theorem dX1_newGoal_19 : decode cX1_newGoal 19 = .ok (.invokevirtual 85, 3) := by decide +kernel
theorem dX1_newGoal_22 : decode cX1_newGoal 22 = .ok (.iconst 0, 1) := by decide +kernel
theorem dX1_newGoal_23 : decode cX1_newGoal 23 = .ok (.iload 5, 2) := by decide +kernel
theorem dX1_newGoal_25 : decode cX1_newGoal 25 = .ok (.iload_n 2, 1) := by decide +kernel
theorem dX1_newGoal_26 : decode cX1_newGoal 26 = .ok (.iload_n 3, 1) := by decide +kernel
theorem dX1_newGoal_27 : decode cX1_newGoal 27 = .ok (.iload 4, 2) := by decide +kernel
theorem dX1_newGoal_29 : decode cX1_newGoal 29 = .ok (.invokestatic 81, 3) := by decide +kernel
theorem dX1_newGoal_32 : decode cX1_newGoal 32 = .ok (.invokevirtual 89, 3) := by decide +kernel
theorem dX1_newGoal_35 : decode cX1_newGoal 35 = .ok (.iinc 5 1, 3) := by decide +kernel
theorem dX1_newGoal_38 : decode cX1_newGoal 38 = .ok (.goto (-35), 3) := by decide +kernel
theorem dX1_newGoal_41 : decode cX1_newGoal 41 = .ok (.aload_n 0, 1) := by decide +kernel
theorem dX1_newGoal_42 : decode cX1_newGoal 42 = .ok (.getfield 41, 3) := by decide +kernel
theorem dX1_newGoal_45 : decode cX1_newGoal 45 = .ok (.aload_n 1, 1) := by decide +kernel
theorem dX1_newGoal_46 : decode cX1_newGoal 46 = .ok (.invokevirtual 93, 3) := by decide +kernel
theorem dX1_newGoal_49 : decode cX1_newGoal 49 = .ok (.pop, 1) := by decide +kernel
theorem dX1_newGoal_50 : decode cX1_newGoal 50 = .ok (.aload_n 0, 1) := by decide +kernel
theorem dX1_newGoal_51 : decode cX1_newGoal 51 = .ok (.getfield 41, 3) := by decide +kernel
theorem dX1_newGoal_54 : decode cX1_newGoal 54 = .ok (.invokevirtual 71, 3) := by decide +kernel
theorem dX1_newGoal_57 : decode cX1_newGoal 57 = .ok (.iconst 1, 1) := by decide +kernel
theorem dX1_newGoal_58 : decode cX1_newGoal 58 = .ok (.isub, 1) := by decide +kernel
theorem dX1_newGoal_59 : decode cX1_newGoal 59 = .ok (.ireturn, 1) := by decide +kernel
theorem dX1_placeCount_0 : decode cX1_placeCount 0 = .ok (.iload_n 1, 1) := by decide +kernel
theorem dX1_placeCount_1 : decode cX1_placeCount 1 = .ok (.ifCond .lt 21, 3) := by decide +kernel
theorem dX1_placeCount_4 : decode cX1_placeCount 4 = .ok (.iload_n 1, 1) := by decide +kernel
theorem dX1_placeCount_5 : decode cX1_placeCount 5 = .ok (.aload_n 0, 1) := by decide +kernel
theorem dX1_placeCount_6 : decode cX1_placeCount 6 = .ok (.getfield 45, 3) := by decide +kernel
theorem dX1_placeCount_9 : decode cX1_placeCount 9 = .ok (.arraylength, 1) := by decide +kernel
theorem dX1_placeCount_10 : decode cX1_placeCount 10 = .ok (.if_icmp .ge 12, 3) := by decide +kernel
theorem dX1_placeCount_13 : decode cX1_placeCount 13 = .ok (.aload_n 0, 1) := by decide +kernel
theorem dX1_placeCount_14 : decode cX1_placeCount 14 = .ok (.getfield 45, 3) := by decide +kernel
theorem dX1_placeCount_17 : decode cX1_placeCount 17 = .ok (.iload_n 1, 1) := by decide +kernel
theorem dX1_placeCount_18 : decode cX1_placeCount 18 = .ok (.iaload, 1) := by decide +kernel
theorem dX1_placeCount_19 : decode cX1_placeCount 19 = .ok (.goto 4, 3) := by decide +kernel
theorem dX1_placeCount_22 : decode cX1_placeCount 22 = .ok (.iconst 0, 1) := by decide +kernel
theorem dX1_placeCount_23 : decode cX1_placeCount 23 = .ok (.ireturn, 1) := by decide +kernel
theorem dX1_clearOrder_0 : decode cX1_clearOrder 0 = .ok (.iload_n 1, 1) := by decide +kernel
theorem dX1_clearOrder_1 : decode cX1_clearOrder 1 = .ok (.ifCond .lt 19, 3) := by decide +kernel
theorem dX1_clearOrder_4 : decode cX1_clearOrder 4 = .ok (.iload_n 1, 1) := by decide +kernel
theorem dX1_clearOrder_5 : decode cX1_clearOrder 5 = .ok (.aload_n 0, 1) := by decide +kernel
theorem dX1_clearOrder_6 : decode cX1_clearOrder 6 = .ok (.getfield 45, 3) := by decide +kernel
theorem dX1_clearOrder_9 : decode cX1_clearOrder 9 = .ok (.arraylength, 1) := by decide +kernel
theorem dX1_clearOrder_10 : decode cX1_clearOrder 10 = .ok (.if_icmp .ge 10, 3) := by decide +kernel
theorem dX1_clearOrder_13 : decode cX1_clearOrder 13 = .ok (.aload_n 0, 1) := by decide +kernel
theorem dX1_clearOrder_14 : decode cX1_clearOrder 14 = .ok (.getfield 45, 3) := by decide +kernel
theorem dX1_clearOrder_17 : decode cX1_clearOrder 17 = .ok (.iload_n 1, 1) := by decide +kernel
theorem dX1_clearOrder_18 : decode cX1_clearOrder 18 = .ok (.iconst 0, 1) := by decide +kernel
theorem dX1_clearOrder_19 : decode cX1_clearOrder 19 = .ok (.iastore, 1) := by decide +kernel
theorem dX1_clearOrder_20 : decode cX1_clearOrder 20 = .ok (.return_, 1) := by decide +kernel
theorem dX1_takeNext_0 : decode cX1_takeNext 0 = .ok (.aload_n 0, 1) := by decide +kernel
theorem dX1_takeNext_1 : decode cX1_takeNext 1 = .ok (.iload_n 1, 1) := by decide +kernel
theorem dX1_takeNext_2 : decode cX1_takeNext 2 = .ok (.invokevirtual 96, 3) := by decide +kernel
theorem dX1_takeNext_5 : decode cX1_takeNext 5 = .ok (.istore 5, 2) := by decide +kernel
theorem dX1_takeNext_7 : decode cX1_takeNext 7 = .ok (.iload_n 1, 1) := by decide +kernel
theorem dX1_takeNext_8 : decode cX1_takeNext 8 = .ok (.ifCond .lt 18, 3) := by decide +kernel
theorem dX1_takeNext_11 : decode cX1_takeNext 11 = .ok (.iload_n 1, 1) := by decide +kernel
theorem dX1_takeNext_12 : decode cX1_takeNext 12 = .ok (.aload_n 0, 1) := by decide +kernel
theorem dX1_takeNext_13 : decode cX1_takeNext 13 = .ok (.getfield 45, 3) := by decide +kernel
theorem dX1_takeNext_16 : decode cX1_takeNext 16 = .ok (.arraylength, 1) := by decide +kernel
theorem dX1_takeNext_17 : decode cX1_takeNext 17 = .ok (.if_icmp .ge 9, 3) := by decide +kernel
theorem dX1_takeNext_20 : decode cX1_takeNext 20 = .ok (.iload 5, 2) := by decide +kernel
theorem dX1_takeNext_22 : decode cX1_takeNext 22 = .ok (.iconst 5, 1) := by decide +kernel
theorem dX1_takeNext_23 : decode cX1_takeNext 23 = .ok (.if_icmp .lt 4, 3) := by decide +kernel
theorem dX1_takeNext_26 : decode cX1_takeNext 26 = .ok (.return_, 1) := by decide +kernel
theorem dX1_takeNext_27 : decode cX1_takeNext 27 = .ok (.aload_n 0, 1) := by decide +kernel
theorem dX1_takeNext_28 : decode cX1_takeNext 28 = .ok (.getfield 45, 3) := by decide +kernel
theorem dX1_takeNext_31 : decode cX1_takeNext 31 = .ok (.iload_n 1, 1) := by decide +kernel
theorem dX1_takeNext_32 : decode cX1_takeNext 32 = .ok (.iload 5, 2) := by decide +kernel
theorem dX1_takeNext_34 : decode cX1_takeNext 34 = .ok (.iconst 1, 1) := by decide +kernel
theorem dX1_takeNext_35 : decode cX1_takeNext 35 = .ok (.iadd, 1) := by decide +kernel
theorem dX1_takeNext_36 : decode cX1_takeNext 36 = .ok (.iastore, 1) := by decide +kernel
theorem dX1_takeNext_37 : decode cX1_takeNext 37 = .ok (.aload_n 0, 1) := by decide +kernel
theorem dX1_takeNext_38 : decode cX1_takeNext 38 = .ok (.iload_n 1, 1) := by decide +kernel
theorem dX1_takeNext_39 : decode cX1_takeNext 39 = .ok (.iload 5, 2) := by decide +kernel
theorem dX1_takeNext_41 : decode cX1_takeNext 41 = .ok (.invokevirtual 99, 3) := by decide +kernel
theorem dX1_takeNext_44 : decode cX1_takeNext 44 = .ok (.istore 6, 2) := by decide +kernel
theorem dX1_takeNext_46 : decode cX1_takeNext 46 = .ok (.iload 6, 2) := by decide +kernel
theorem dX1_takeNext_48 : decode cX1_takeNext 48 = .ok (.ifCond .lt 80, 3) := by decide +kernel
theorem dX1_takeNext_51 : decode cX1_takeNext 51 = .ok (.iload 6, 2) := by decide +kernel
theorem dX1_takeNext_53 : decode cX1_takeNext 53 = .ok (.aload_n 0, 1) := by decide +kernel
theorem dX1_takeNext_54 : decode cX1_takeNext 54 = .ok (.getfield 49, 3) := by decide +kernel
theorem dX1_takeNext_57 : decode cX1_takeNext 57 = .ok (.arraylength, 1) := by decide +kernel
theorem dX1_takeNext_58 : decode cX1_takeNext 58 = .ok (.if_icmp .ge 70, 3) := by decide +kernel
theorem dX1_takeNext_61 : decode cX1_takeNext 61 = .ok (.iload 6, 2) := by decide +kernel
theorem dX1_takeNext_63 : decode cX1_takeNext 63 = .ok (.aload_n 0, 1) := by decide +kernel
theorem dX1_takeNext_64 : decode cX1_takeNext 64 = .ok (.getfield 54, 3) := by decide +kernel
theorem dX1_takeNext_67 : decode cX1_takeNext 67 = .ok (.arraylength, 1) := by decide +kernel
theorem dX1_takeNext_68 : decode cX1_takeNext 68 = .ok (.if_icmp .ge 60, 3) := by decide +kernel
theorem dX1_takeNext_71 : decode cX1_takeNext 71 = .ok (.iload 6, 2) := by decide +kernel
