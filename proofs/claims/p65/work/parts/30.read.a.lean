theorem dX11_chamber_0 : decode cX11_chamber 0 = .ok (.aload_n 0, 1) := by decide +kernel
theorem dX11_chamber_1 : decode cX11_chamber 1 = .ok (.getfield 28, 3) := by decide +kernel
theorem dX11_chamber_4 : decode cX11_chamber 4 = .ok (.invokevirtual 99, 3) := by decide +kernel
theorem dX11_chamber_7 : decode cX11_chamber 7 = .ok (.aload_n 0, 1) := by decide +kernel
theorem dX11_chamber_8 : decode cX11_chamber 8 = .ok (.getfield 28, 3) := by decide +kernel
theorem dX11_chamber_11 : decode cX11_chamber 11 = .ok (.getfield 102, 3) := by decide +kernel
theorem dX11_chamber_14 : decode cX11_chamber 14 = .ok (.ifCond .eq 6, 3) := by decide +kernel
theorem dX11_chamber_17 : decode cX11_chamber 17 = .ok (.bipush (-4), 2) := by decide +kernel
theorem dX11_chamber_19 : decode cX11_chamber 19 = .ok (.ireturn, 1) := by decide +kernel
theorem dX11_chamber_20 : decode cX11_chamber 20 = .ok (.aload_n 0, 1) := by decide +kernel
theorem dX11_chamber_21 : decode cX11_chamber 21 = .ok (.getfield 32, 3) := by decide +kernel
theorem dX11_chamber_24 : decode cX11_chamber 24 = .ok (.aload_n 0, 1) := by decide +kernel
theorem dX11_chamber_25 : decode cX11_chamber 25 = .ok (.getfield 19, 3) := by decide +kernel
theorem dX11_chamber_28 : decode cX11_chamber 28 = .ok (.invokevirtual 105, 3) := by decide +kernel
theorem dX11_chamber_31 : decode cX11_chamber 31 = .ok (.aload_n 0, 1) := by decide +kernel
theorem dX11_chamber_32 : decode cX11_chamber 32 = .ok (.getfield 10, 3) := by decide +kernel
theorem dX11_chamber_35 : decode cX11_chamber 35 = .ok (.iconst 0, 1) := by decide +kernel
theorem dX11_chamber_36 : decode cX11_chamber 36 = .ok (.putfield 95, 3) := by decide +kernel
theorem dX11_chamber_39 : decode cX11_chamber 39 = .ok (.aload_n 0, 1) := by decide +kernel
theorem dX11_chamber_40 : decode cX11_chamber 40 = .ok (.getfield 32, 3) := by decide +kernel
theorem dX11_chamber_43 : decode cX11_chamber 43 = .ok (.getfield 108, 3) := by decide +kernel
theorem dX11_chamber_46 : decode cX11_chamber 46 = .ok (.ireturn, 1) := by decide +kernel
theorem dX4_advance_0 : decode cX4_advance 0 = .ok (.aload_n 0, 1) := by decide +kernel
theorem dX4_advance_1 : decode cX4_advance 1 = .ok (.aload_n 0, 1) := by decide +kernel
theorem dX4_advance_2 : decode cX4_advance 2 = .ok (.getfield 26, 3) := by decide +kernel
theorem dX4_advance_5 : decode cX4_advance 5 = .ok (.putfield 183, 3) := by decide +kernel
theorem dX4_advance_8 : decode cX4_advance 8 = .ok (.aload_n 0, 1) := by decide +kernel
theorem dX4_advance_9 : decode cX4_advance 9 = .ok (.getfield 183, 3) := by decide +kernel
theorem dX4_advance_12 : decode cX4_advance 12 = .ok (.aload_n 0, 1) := by decide +kernel
theorem dX4_advance_13 : decode cX4_advance 13 = .ok (.getfield 15, 3) := by decide +kernel
theorem dX4_advance_16 : decode cX4_advance 16 = .ok (.getfield 200, 3) := by decide +kernel
theorem dX4_advance_19 : decode cX4_advance 19 = .ok (.if_icmp .ge 33, 3) := by decide +kernel
theorem dX4_advance_22 : decode cX4_advance 22 = .ok (.aload_n 0, 1) := by decide +kernel
theorem dX4_advance_23 : decode cX4_advance 23 = .ok (.getfield 15, 3) := by decide +kernel
theorem dX4_advance_26 : decode cX4_advance 26 = .ok (.aload_n 0, 1) := by decide +kernel
theorem dX4_advance_27 : decode cX4_advance 27 = .ok (.getfield 183, 3) := by decide +kernel
theorem dX4_advance_30 : decode cX4_advance 30 = .ok (.invokevirtual 191, 3) := by decide +kernel
theorem dX4_advance_33 : decode cX4_advance 33 = .ok (.invokestatic 202, 3) := by decide +kernel
theorem dX4_advance_36 : decode cX4_advance 36 = .ok (.ifCond .eq 16, 3) := by decide +kernel
theorem dX4_advance_39 : decode cX4_advance 39 = .ok (.aload_n 0, 1) := by decide +kernel
theorem dX4_advance_40 : decode cX4_advance 40 = .ok (.dup, 1) := by decide +kernel
theorem dX4_advance_41 : decode cX4_advance 41 = .ok (.getfield 183, 3) := by decide +kernel
theorem dX4_advance_44 : decode cX4_advance 44 = .ok (.iconst 1, 1) := by decide +kernel
theorem dX4_advance_45 : decode cX4_advance 45 = .ok (.iadd, 1) := by decide +kernel
theorem dX4_advance_46 : decode cX4_advance 46 = .ok (.putfield 183, 3) := by decide +kernel
theorem dX4_advance_49 : decode cX4_advance 49 = .ok (.goto (-41), 3) := by decide +kernel
theorem dX4_advance_52 : decode cX4_advance 52 = .ok (.aload_n 0, 1) := by decide +kernel
theorem dX4_advance_53 : decode cX4_advance 53 = .ok (.aload_n 0, 1) := by decide +kernel
theorem dX4_advance_54 : decode cX4_advance 54 = .ok (.getfield 183, 3) := by decide +kernel
theorem dX4_advance_57 : decode cX4_advance 57 = .ok (.putfield 26, 3) := by decide +kernel
theorem dX4_advance_60 : decode cX4_advance 60 = .ok (.aload_n 0, 1) := by decide +kernel
theorem dX4_advance_61 : decode cX4_advance 61 = .ok (.getfield 183, 3) := by decide +kernel
theorem dX4_advance_64 : decode cX4_advance 64 = .ok (.aload_n 0, 1) := by decide +kernel
theorem dX4_advance_65 : decode cX4_advance 65 = .ok (.getfield 15, 3) := by decide +kernel
theorem dX4_advance_68 : decode cX4_advance 68 = .ok (.getfield 200, 3) := by decide +kernel
theorem dX4_advance_71 : decode cX4_advance 71 = .ok (.if_icmp .lt 11, 3) := by decide +kernel
theorem dX4_advance_74 : decode cX4_advance 74 = .ok (.aload_n 0, 1) := by decide +kernel
theorem dX4_advance_75 : decode cX4_advance 75 = .ok (.iconst 0, 1) := by decide +kernel
theorem dX4_advance_76 : decode cX4_advance 76 = .ok (.putfield 37, 3) := by decide +kernel
theorem dX4_advance_79 : decode cX4_advance 79 = .ok (.goto 207, 3) := by decide +kernel
theorem dX4_advance_82 : decode cX4_advance 82 = .ok (.aload_n 0, 1) := by decide +kernel
theorem dX4_advance_83 : decode cX4_advance 83 = .ok (.getfield 15, 3) := by decide +kernel
theorem dX4_advance_86 : decode cX4_advance 86 = .ok (.aload_n 0, 1) := by decide +kernel
theorem dX4_advance_87 : decode cX4_advance 87 = .ok (.getfield 183, 3) := by decide +kernel
theorem dX4_advance_90 : decode cX4_advance 90 = .ok (.invokevirtual 191, 3) := by decide +kernel
theorem dX4_advance_93 : decode cX4_advance 93 = .ok (.invokestatic 206, 3) := by decide +kernel
theorem dX4_advance_96 : decode cX4_advance 96 = .ok (.ifCond .eq 52, 3) := by decide +kernel
theorem dX4_advance_99 : decode cX4_advance 99 = .ok (.aload_n 0, 1) := by decide +kernel
theorem dX4_advance_100 : decode cX4_advance 100 = .ok (.iconst 1, 1) := by decide +kernel
theorem dX4_advance_101 : decode cX4_advance 101 = .ok (.putfield 37, 3) := by decide +kernel
theorem dX4_advance_104 : decode cX4_advance 104 = .ok (.aload_n 0, 1) := by decide +kernel
theorem dX4_advance_105 : decode cX4_advance 105 = .ok (.getfield 26, 3) := by decide +kernel
theorem dX4_advance_108 : decode cX4_advance 108 = .ok (.aload_n 0, 1) := by decide +kernel
theorem dX4_advance_109 : decode cX4_advance 109 = .ok (.getfield 15, 3) := by decide +kernel
theorem dX4_advance_112 : decode cX4_advance 112 = .ok (.getfield 200, 3) := by decide +kernel
theorem dX4_advance_115 : decode cX4_advance 115 = .ok (.if_icmp .ge 171, 3) := by decide +kernel
theorem dX4_advance_118 : decode cX4_advance 118 = .ok (.aload_n 0, 1) := by decide +kernel
theorem dX4_advance_119 : decode cX4_advance 119 = .ok (.getfield 15, 3) := by decide +kernel
theorem dX4_advance_122 : decode cX4_advance 122 = .ok (.aload_n 0, 1) := by decide +kernel
theorem dX4_advance_123 : decode cX4_advance 123 = .ok (.getfield 26, 3) := by decide +kernel
theorem dX4_advance_126 : decode cX4_advance 126 = .ok (.invokevirtual 191, 3) := by decide +kernel
theorem dX4_advance_129 : decode cX4_advance 129 = .ok (.invokestatic 206, 3) := by decide +kernel
theorem dX4_advance_132 : decode cX4_advance 132 = .ok (.ifCond .eq 154, 3) := by decide +kernel
theorem dX4_advance_135 : decode cX4_advance 135 = .ok (.aload_n 0, 1) := by decide +kernel
theorem dX4_advance_136 : decode cX4_advance 136 = .ok (.dup, 1) := by decide +kernel
theorem dX4_advance_137 : decode cX4_advance 137 = .ok (.getfield 26, 3) := by decide +kernel
theorem dX4_advance_140 : decode cX4_advance 140 = .ok (.iconst 1, 1) := by decide +kernel
theorem dX4_advance_141 : decode cX4_advance 141 = .ok (.iadd, 1) := by decide +kernel
theorem dX4_advance_142 : decode cX4_advance 142 = .ok (.putfield 26, 3) := by decide +kernel
theorem dX4_advance_145 : decode cX4_advance 145 = .ok (.goto (-41), 3) := by decide +kernel
theorem dX4_advance_148 : decode cX4_advance 148 = .ok (.aload_n 0, 1) := by decide +kernel
theorem dX4_advance_149 : decode cX4_advance 149 = .ok (.getfield 15, 3) := by decide +kernel
theorem dX4_advance_152 : decode cX4_advance 152 = .ok (.aload_n 0, 1) := by decide +kernel
theorem dX4_advance_153 : decode cX4_advance 153 = .ok (.getfield 183, 3) := by decide +kernel
theorem dX4_advance_156 : decode cX4_advance 156 = .ok (.invokevirtual 191, 3) := by decide +kernel
theorem dX4_advance_159 : decode cX4_advance 159 = .ok (.invokestatic 209, 3) := by decide +kernel
theorem dX4_advance_162 : decode cX4_advance 162 = .ok (.ifCond .eq 89, 3) := by decide +kernel
theorem dX4_advance_165 : decode cX4_advance 165 = .ok (.aload_n 0, 1) := by decide +kernel
theorem dX4_advance_166 : decode cX4_advance 166 = .ok (.iconst 2, 1) := by decide +kernel
theorem dX4_advance_167 : decode cX4_advance 167 = .ok (.putfield 37, 3) := by decide +kernel
theorem dX4_advance_170 : decode cX4_advance 170 = .ok (.aload_n 0, 1) := by decide +kernel
theorem dX4_advance_171 : decode cX4_advance 171 = .ok (.iconst 0, 1) := by decide +kernel
theorem dX4_advance_172 : decode cX4_advance 172 = .ok (.putfield 180, 3) := by decide +kernel
theorem dX4_advance_175 : decode cX4_advance 175 = .ok (.aload_n 0, 1) := by decide +kernel
theorem dX4_advance_176 : decode cX4_advance 176 = .ok (.getfield 26, 3) := by decide +kernel
theorem dX4_advance_179 : decode cX4_advance 179 = .ok (.aload_n 0, 1) := by decide +kernel
theorem dX4_advance_180 : decode cX4_advance 180 = .ok (.getfield 15, 3) := by decide +kernel
theorem dX4_advance_183 : decode cX4_advance 183 = .ok (.getfield 200, 3) := by decide +kernel
theorem dX4_advance_186 : decode cX4_advance 186 = .ok (.if_icmp .ge 100, 3) := by decide +kernel
theorem dX4_advance_189 : decode cX4_advance 189 = .ok (.aload_n 0, 1) := by decide +kernel
theorem dX4_advance_190 : decode cX4_advance 190 = .ok (.getfield 15, 3) := by decide +kernel
theorem dX4_advance_193 : decode cX4_advance 193 = .ok (.aload_n 0, 1) := by decide +kernel
theorem dX4_advance_194 : decode cX4_advance 194 = .ok (.getfield 26, 3) := by decide +kernel
theorem dX4_advance_197 : decode cX4_advance 197 = .ok (.invokevirtual 191, 3) := by decide +kernel
theorem dX4_advance_200 : decode cX4_advance 200 = .ok (.invokestatic 209, 3) := by decide +kernel
theorem dX4_advance_203 : decode cX4_advance 203 = .ok (.ifCond .eq 83, 3) := by decide +kernel
theorem dX4_advance_206 : decode cX4_advance 206 = .ok (.aload_n 0, 1) := by decide +kernel
theorem dX4_advance_207 : decode cX4_advance 207 = .ok (.sipush 1000, 3) := by decide +kernel
theorem dX4_advance_210 : decode cX4_advance 210 = .ok (.bipush 10, 2) := by decide +kernel
theorem dX4_advance_212 : decode cX4_advance 212 = .ok (.aload_n 0, 1) := by decide +kernel
theorem dX4_advance_213 : decode cX4_advance 213 = .ok (.getfield 180, 3) := by decide +kernel
theorem dX4_advance_216 : decode cX4_advance 216 = .ok (.imul, 1) := by decide +kernel
theorem dX4_advance_217 : decode cX4_advance 217 = .ok (.aload_n 0, 1) := by decide +kernel
theorem dX4_advance_218 : decode cX4_advance 218 = .ok (.getfield 15, 3) := by decide +kernel
theorem dX4_advance_221 : decode cX4_advance 221 = .ok (.aload_n 0, 1) := by decide +kernel
theorem dX4_advance_222 : decode cX4_advance 222 = .ok (.getfield 26, 3) := by decide +kernel
theorem dX4_advance_225 : decode cX4_advance 225 = .ok (.invokevirtual 191, 3) := by decide +kernel
theorem dX4_advance_228 : decode cX4_advance 228 = .ok (.iadd, 1) := by decide +kernel
theorem dX4_advance_229 : decode cX4_advance 229 = .ok (.bipush 48, 2) := by decide +kernel
theorem dX4_advance_231 : decode cX4_advance 231 = .ok (.isub, 1) := by decide +kernel
theorem dX4_advance_232 : decode cX4_advance 232 = .ok (.invokestatic 212, 3) := by decide +kernel
theorem dX4_advance_235 : decode cX4_advance 235 = .ok (.putfield 180, 3) := by decide +kernel
theorem dX4_advance_238 : decode cX4_advance 238 = .ok (.aload_n 0, 1) := by decide +kernel
theorem dX4_advance_239 : decode cX4_advance 239 = .ok (.dup, 1) := by decide +kernel
theorem dX4_advance_240 : decode cX4_advance 240 = .ok (.getfield 26, 3) := by decide +kernel
theorem dX4_advance_243 : decode cX4_advance 243 = .ok (.iconst 1, 1) := by decide +kernel
theorem dX4_advance_244 : decode cX4_advance 244 = .ok (.iadd, 1) := by decide +kernel
theorem dX4_advance_245 : decode cX4_advance 245 = .ok (.putfield 26, 3) := by decide +kernel
theorem dX4_advance_248 : decode cX4_advance 248 = .ok (.goto (-73), 3) := by decide +kernel
theorem dX4_advance_251 : decode cX4_advance 251 = .ok (.aload_n 0, 1) := by decide +kernel
theorem dX4_advance_252 : decode cX4_advance 252 = .ok (.aload_n 0, 1) := by decide +kernel
theorem dX4_advance_253 : decode cX4_advance 253 = .ok (.getfield 15, 3) := by decide +kernel
theorem dX4_advance_256 : decode cX4_advance 256 = .ok (.aload_n 0, 1) := by decide +kernel
theorem dX4_advance_257 : decode cX4_advance 257 = .ok (.getfield 183, 3) := by decide +kernel
theorem dX4_advance_260 : decode cX4_advance 260 = .ok (.invokevirtual 191, 3) := by decide +kernel
theorem dX4_advance_263 : decode cX4_advance 263 = .ok (.bipush 59, 2) := by decide +kernel
theorem dX4_advance_265 : decode cX4_advance 265 = .ok (.if_icmp .ne 7, 3) := by decide +kernel
theorem dX4_advance_268 : decode cX4_advance 268 = .ok (.iconst 3, 1) := by decide +kernel
theorem dX4_advance_269 : decode cX4_advance 269 = .ok (.goto 4, 3) := by decide +kernel
theorem dX4_advance_272 : decode cX4_advance 272 = .ok (.iconst 4, 1) := by decide +kernel
theorem dX4_advance_273 : decode cX4_advance 273 = .ok (.putfield 37, 3) := by decide +kernel
theorem dX4_advance_276 : decode cX4_advance 276 = .ok (.aload_n 0, 1) := by decide +kernel
theorem dX4_advance_277 : decode cX4_advance 277 = .ok (.dup, 1) := by decide +kernel
theorem dX4_advance_278 : decode cX4_advance 278 = .ok (.getfield 26, 3) := by decide +kernel
theorem dX4_advance_281 : decode cX4_advance 281 = .ok (.iconst 1, 1) := by decide +kernel
theorem dX4_advance_282 : decode cX4_advance 282 = .ok (.iadd, 1) := by decide +kernel
theorem dX4_advance_283 : decode cX4_advance 283 = .ok (.putfield 26, 3) := by decide +kernel
theorem dX4_advance_286 : decode cX4_advance 286 = .ok (.return_, 1) := by decide +kernel
theorem dX4_begin_0 : decode cX4_begin 0 = .ok (.iload_n 1, 1) := by decide +kernel
theorem dX4_begin_1 : decode cX4_begin 1 = .ok (.ifCond .ne 8, 3) := by decide +kernel
theorem dX4_begin_4 : decode cX4_begin 4 = .ok (.aload_n 0, 1) := by decide +kernel
theorem dX4_begin_5 : decode cX4_begin 5 = .ok (.iconst 3, 1) := by decide +kernel
theorem dX4_begin_6 : decode cX4_begin 6 = .ok (.invokevirtual 76, 3) := by decide +kernel
theorem dX4_begin_9 : decode cX4_begin 9 = .ok (.aload_n 0, 1) := by decide +kernel
theorem dX4_begin_10 : decode cX4_begin 10 = .ok (.getfield 23, 3) := by decide +kernel
theorem dX4_begin_13 : decode cX4_begin 13 = .ok (.ifCond .ne 7, 3) := by decide +kernel
theorem dX4_begin_16 : decode cX4_begin 16 = .ok (.aload_n 0, 1) := by decide +kernel
theorem dX4_begin_17 : decode cX4_begin 17 = .ok (.invokevirtual 34, 3) := by decide +kernel
theorem dX4_begin_20 : decode cX4_begin 20 = .ok (.return_, 1) := by decide +kernel
theorem dX4_blame_0 : decode cX4_blame 0 = .ok (.aload_n 0, 1) := by decide +kernel
theorem dX4_blame_1 : decode cX4_blame 1 = .ok (.getfield 23, 3) := by decide +kernel
theorem dX4_blame_4 : decode cX4_blame 4 = .ok (.ifCond .ne 16, 3) := by decide +kernel
theorem dX4_blame_7 : decode cX4_blame 7 = .ok (.aload_n 0, 1) := by decide +kernel
theorem dX4_blame_8 : decode cX4_blame 8 = .ok (.iload_n 1, 1) := by decide +kernel
theorem dX4_blame_9 : decode cX4_blame 9 = .ok (.putfield 23, 3) := by decide +kernel
theorem dX4_blame_12 : decode cX4_blame 12 = .ok (.aload_n 0, 1) := by decide +kernel
theorem dX4_blame_13 : decode cX4_blame 13 = .ok (.aload_n 0, 1) := by decide +kernel
theorem dX4_blame_14 : decode cX4_blame 14 = .ok (.getfield 183, 3) := by decide +kernel
theorem dX4_blame_17 : decode cX4_blame 17 = .ok (.putfield 9, 3) := by decide +kernel
theorem dX4_blame_20 : decode cX4_blame 20 = .ok (.return_, 1) := by decide +kernel
theorem dX4_expect_0 : decode cX4_expect 0 = .ok (.aload_n 0, 1) := by decide +kernel
theorem dX4_expect_1 : decode cX4_expect 1 = .ok (.aload_n 1, 1) := by decide +kernel
theorem dX4_expect_2 : decode cX4_expect 2 = .ok (.invokevirtual 54, 3) := by decide +kernel
theorem dX4_expect_5 : decode cX4_expect 5 = .ok (.ifCond .ne 8, 3) := by decide +kernel
theorem dX4_expect_8 : decode cX4_expect 8 = .ok (.aload_n 0, 1) := by decide +kernel
theorem dX4_expect_9 : decode cX4_expect 9 = .ok (.iconst 1, 1) := by decide +kernel
theorem dX4_expect_10 : decode cX4_expect 10 = .ok (.invokevirtual 76, 3) := by decide +kernel
theorem dX4_expect_13 : decode cX4_expect 13 = .ok (.aload_n 0, 1) := by decide +kernel
theorem dX4_expect_14 : decode cX4_expect 14 = .ok (.getfield 23, 3) := by decide +kernel
theorem dX4_expect_17 : decode cX4_expect 17 = .ok (.ifCond .ne 7, 3) := by decide +kernel
theorem dX4_expect_20 : decode cX4_expect 20 = .ok (.aload_n 0, 1) := by decide +kernel
theorem dX4_expect_21 : decode cX4_expect 21 = .ok (.invokevirtual 34, 3) := by decide +kernel
theorem dX4_expect_24 : decode cX4_expect 24 = .ok (.return_, 1) := by decide +kernel
theorem dX4_isBlank_0 : decode cX4_isBlank 0 = .ok (.iload_n 0, 1) := by decide +kernel
theorem dX4_isBlank_1 : decode cX4_isBlank 1 = .ok (.bipush 32, 2) := by decide +kernel
theorem dX4_isBlank_3 : decode cX4_isBlank 3 = .ok (.if_icmp .eq 9, 3) := by decide +kernel
theorem dX4_isBlank_6 : decode cX4_isBlank 6 = .ok (.iload_n 0, 1) := by decide +kernel
theorem dX4_isBlank_7 : decode cX4_isBlank 7 = .ok (.bipush 10, 2) := by decide +kernel
theorem dX4_isBlank_9 : decode cX4_isBlank 9 = .ok (.if_icmp .ne 7, 3) := by decide +kernel
theorem dX4_isBlank_12 : decode cX4_isBlank 12 = .ok (.iconst 1, 1) := by decide +kernel
theorem dX4_isBlank_13 : decode cX4_isBlank 13 = .ok (.goto 4, 3) := by decide +kernel
theorem dX4_isBlank_16 : decode cX4_isBlank 16 = .ok (.iconst 0, 1) := by decide +kernel
theorem dX4_isBlank_17 : decode cX4_isBlank 17 = .ok (.ireturn, 1) := by decide +kernel
theorem dX4_isDigit_0 : decode cX4_isDigit 0 = .ok (.iload_n 0, 1) := by decide +kernel
theorem dX4_isDigit_1 : decode cX4_isDigit 1 = .ok (.bipush 48, 2) := by decide +kernel
theorem dX4_isDigit_3 : decode cX4_isDigit 3 = .ok (.if_icmp .lt 13, 3) := by decide +kernel
theorem dX4_isDigit_6 : decode cX4_isDigit 6 = .ok (.iload_n 0, 1) := by decide +kernel
theorem dX4_isDigit_7 : decode cX4_isDigit 7 = .ok (.bipush 57, 2) := by decide +kernel
theorem dX4_isDigit_9 : decode cX4_isDigit 9 = .ok (.if_icmp .gt 7, 3) := by decide +kernel
theorem dX4_isDigit_12 : decode cX4_isDigit 12 = .ok (.iconst 1, 1) := by decide +kernel
theorem dX4_isDigit_13 : decode cX4_isDigit 13 = .ok (.goto 4, 3) := by decide +kernel
theorem dX4_isDigit_16 : decode cX4_isDigit 16 = .ok (.iconst 0, 1) := by decide +kernel
theorem dX4_isDigit_17 : decode cX4_isDigit 17 = .ok (.ireturn, 1) := by decide +kernel
theorem dX4_isLetter_0 : decode cX4_isLetter 0 = .ok (.iload_n 0, 1) := by decide +kernel
theorem dX4_isLetter_1 : decode cX4_isLetter 1 = .ok (.bipush 97, 2) := by decide +kernel
theorem dX4_isLetter_3 : decode cX4_isLetter 3 = .ok (.if_icmp .lt 13, 3) := by decide +kernel
theorem dX4_isLetter_6 : decode cX4_isLetter 6 = .ok (.iload_n 0, 1) := by decide +kernel
theorem dX4_isLetter_7 : decode cX4_isLetter 7 = .ok (.bipush 122, 2) := by decide +kernel
theorem dX4_isLetter_9 : decode cX4_isLetter 9 = .ok (.if_icmp .gt 7, 3) := by decide +kernel
theorem dX4_isLetter_12 : decode cX4_isLetter 12 = .ok (.iconst 1, 1) := by decide +kernel
theorem dX4_isLetter_13 : decode cX4_isLetter 13 = .ok (.goto 4, 3) := by decide +kernel
theorem dX4_isLetter_16 : decode cX4_isLetter 16 = .ok (.iconst 0, 1) := by decide +kernel
theorem dX4_isLetter_17 : decode cX4_isLetter 17 = .ok (.ireturn, 1) := by decide +kernel
theorem dX4_isName_0 : decode cX4_isName 0 = .ok (.aload_n 0, 1) := by decide +kernel
theorem dX4_isName_1 : decode cX4_isName 1 = .ok (.getfield 37, 3) := by decide +kernel
theorem dX4_isName_4 : decode cX4_isName 4 = .ok (.iconst 1, 1) := by decide +kernel
theorem dX4_isName_5 : decode cX4_isName 5 = .ok (.if_icmp .ne 19, 3) := by decide +kernel
theorem dX4_isName_8 : decode cX4_isName 8 = .ok (.aload_n 0, 1) := by decide +kernel
theorem dX4_isName_9 : decode cX4_isName 9 = .ok (.getfield 26, 3) := by decide +kernel
theorem dX4_isName_12 : decode cX4_isName 12 = .ok (.aload_n 0, 1) := by decide +kernel
theorem dX4_isName_13 : decode cX4_isName 13 = .ok (.getfield 183, 3) := by decide +kernel
theorem dX4_isName_16 : decode cX4_isName 16 = .ok (.isub, 1) := by decide +kernel
theorem dX4_isName_17 : decode cX4_isName 17 = .ok (.aload_n 1, 1) := by decide +kernel
theorem dX4_isName_18 : decode cX4_isName 18 = .ok (.invokevirtual 186, 3) := by decide +kernel
theorem dX4_isName_21 : decode cX4_isName 21 = .ok (.if_icmp .eq 5, 3) := by decide +kernel
theorem dX4_isName_24 : decode cX4_isName 24 = .ok (.iconst 0, 1) := by decide +kernel
theorem dX4_isName_25 : decode cX4_isName 25 = .ok (.ireturn, 1) := by decide +kernel
theorem dX4_isName_26 : decode cX4_isName 26 = .ok (.iconst 0, 1) := by decide +kernel
theorem dX4_isName_27 : decode cX4_isName 27 = .ok (.istore_n 2, 1) := by decide +kernel
theorem dX4_isName_28 : decode cX4_isName 28 = .ok (.iload_n 2, 1) := by decide +kernel
theorem dX4_isName_29 : decode cX4_isName 29 = .ok (.aload_n 1, 1) := by decide +kernel
theorem dX4_isName_30 : decode cX4_isName 30 = .ok (.invokevirtual 186, 3) := by decide +kernel
theorem dX4_isName_33 : decode cX4_isName 33 = .ok (.if_icmp .ge 32, 3) := by decide +kernel
theorem dX4_isName_36 : decode cX4_isName 36 = .ok (.aload_n 0, 1) := by decide +kernel
theorem dX4_isName_37 : decode cX4_isName 37 = .ok (.getfield 15, 3) := by decide +kernel
theorem dX4_isName_40 : decode cX4_isName 40 = .ok (.aload_n 0, 1) := by decide +kernel
theorem dX4_isName_41 : decode cX4_isName 41 = .ok (.getfield 183, 3) := by decide +kernel
theorem dX4_isName_44 : decode cX4_isName 44 = .ok (.iload_n 2, 1) := by decide +kernel
theorem dX4_isName_45 : decode cX4_isName 45 = .ok (.iadd, 1) := by decide +kernel
theorem dX4_isName_46 : decode cX4_isName 46 = .ok (.invokevirtual 191, 3) := by decide +kernel
theorem dX4_isName_49 : decode cX4_isName 49 = .ok (.aload_n 1, 1) := by decide +kernel
theorem dX4_isName_50 : decode cX4_isName 50 = .ok (.iload_n 2, 1) := by decide +kernel
theorem dX4_isName_51 : decode cX4_isName 51 = .ok (.invokevirtual 196, 3) := by decide +kernel
theorem dX4_isName_54 : decode cX4_isName 54 = .ok (.if_icmp .eq 5, 3) := by decide +kernel
theorem dX4_isName_57 : decode cX4_isName 57 = .ok (.iconst 0, 1) := by decide +kernel
theorem dX4_isName_58 : decode cX4_isName 58 = .ok (.ireturn, 1) := by decide +kernel
theorem dX4_isName_59 : decode cX4_isName 59 = .ok (.iinc 2 1, 3) := by decide +kernel
theorem dX4_isName_62 : decode cX4_isName 62 = .ok (.goto (-34), 3) := by decide +kernel
theorem dX4_isName_65 : decode cX4_isName 65 = .ok (.iconst 1, 1) := by decide +kernel
theorem dX4_isName_66 : decode cX4_isName 66 = .ok (.ireturn, 1) := by decide +kernel
theorem dX4_read_0 : decode cX4_read 0 = .ok (.aload_n 0, 1) := by decide +kernel
theorem dX4_read_1 : decode cX4_read 1 = .ok (.iconst 0, 1) := by decide +kernel
theorem dX4_read_2 : decode cX4_read 2 = .ok (.putfield 23, 3) := by decide +kernel
theorem dX4_read_5 : decode cX4_read 5 = .ok (.aload_n 0, 1) := by decide +kernel
theorem dX4_read_6 : decode cX4_read 6 = .ok (.iconst (-1), 1) := by decide +kernel
theorem dX4_read_7 : decode cX4_read 7 = .ok (.putfield 9, 3) := by decide +kernel
theorem dX4_read_10 : decode cX4_read 10 = .ok (.aload_n 0, 1) := by decide +kernel
theorem dX4_read_11 : decode cX4_read 11 = .ok (.iconst 0, 1) := by decide +kernel
theorem dX4_read_12 : decode cX4_read 12 = .ok (.putfield 26, 3) := by decide +kernel
theorem dX4_read_15 : decode cX4_read 15 = .ok (.aload_n 0, 1) := by decide +kernel
theorem dX4_read_16 : decode cX4_read 16 = .ok (.getfield 19, 3) := by decide +kernel
theorem dX4_read_19 : decode cX4_read 19 = .ok (.invokevirtual 29, 3) := by decide +kernel
theorem dX4_read_22 : decode cX4_read 22 = .ok (.aload_n 0, 1) := by decide +kernel
theorem dX4_read_23 : decode cX4_read 23 = .ok (.invokevirtual 34, 3) := by decide +kernel
theorem dX4_read_26 : decode cX4_read 26 = .ok (.iconst 0, 1) := by decide +kernel
theorem dX4_read_27 : decode cX4_read 27 = .ok (.istore_n 1, 1) := by decide +kernel
theorem dX4_read_28 : decode cX4_read 28 = .ok (.iload_n 1, 1) := by decide +kernel
theorem dX4_read_29 : decode cX4_read 29 = .ok (.sipush 1600, 3) := by decide +kernel
theorem dX4_read_32 : decode cX4_read 32 = .ok (.if_icmp .ge 31, 3) := by decide +kernel
theorem dX4_read_35 : decode cX4_read 35 = .ok (.aload_n 0, 1) := by decide +kernel
theorem dX4_read_36 : decode cX4_read 36 = .ok (.getfield 23, 3) := by decide +kernel
theorem dX4_read_39 : decode cX4_read 39 = .ok (.ifCond .ne 24, 3) := by decide +kernel
theorem dX4_read_42 : decode cX4_read 42 = .ok (.aload_n 0, 1) := by decide +kernel
theorem dX4_read_43 : decode cX4_read 43 = .ok (.getfield 37, 3) := by decide +kernel
theorem dX4_read_46 : decode cX4_read 46 = .ok (.ifCond .eq 17, 3) := by decide +kernel
theorem dX4_read_49 : decode cX4_read 49 = .ok (.aload_n 0, 1) := by decide +kernel
theorem dX4_read_50 : decode cX4_read 50 = .ok (.invokevirtual 40, 3) := by decide +kernel
theorem dX4_read_53 : decode cX4_read 53 = .ok (.aload_n 0, 1) := by decide +kernel
theorem dX4_read_54 : decode cX4_read 54 = .ok (.invokevirtual 43, 3) := by decide +kernel
theorem dX4_read_57 : decode cX4_read 57 = .ok (.iinc 1 1, 3) := by decide +kernel
theorem dX4_read_60 : decode cX4_read 60 = .ok (.goto (-32), 3) := by decide +kernel
theorem dX4_read_63 : decode cX4_read 63 = .ok (.return_, 1) := by decide +kernel
theorem dX4_readChamber_0 : decode cX4_readChamber 0 = .ok (.aload_n 0, 1) := by decide +kernel
theorem dX4_readChamber_1 : decode cX4_readChamber 1 = .ok (.ldc 80, 2) := by decide +kernel
theorem dX4_readChamber_3 : decode cX4_readChamber 3 = .ok (.invokevirtual 82, 3) := by decide +kernel
theorem dX4_readChamber_6 : decode cX4_readChamber 6 = .ok (.aload_n 0, 1) := by decide +kernel
theorem dX4_readChamber_7 : decode cX4_readChamber 7 = .ok (.ldc 86, 2) := by decide +kernel
theorem dX4_readChamber_9 : decode cX4_readChamber 9 = .ok (.invokevirtual 82, 3) := by decide +kernel
theorem dX4_readChamber_12 : decode cX4_readChamber 12 = .ok (.aload_n 0, 1) := by decide +kernel
theorem dX4_readChamber_13 : decode cX4_readChamber 13 = .ok (.iconst 1, 1) := by decide +kernel
theorem dX4_readChamber_14 : decode cX4_readChamber 14 = .ok (.bipush 8, 2) := by decide +kernel
theorem dX4_readChamber_16 : decode cX4_readChamber 16 = .ok (.invokevirtual 88, 3) := by decide +kernel
theorem dX4_readChamber_19 : decode cX4_readChamber 19 = .ok (.istore_n 1, 1) := by decide +kernel
theorem dX4_readChamber_20 : decode cX4_readChamber 20 = .ok (.aload_n 0, 1) := by decide +kernel
theorem dX4_readChamber_21 : decode cX4_readChamber 21 = .ok (.ldc 92, 2) := by decide +kernel
theorem dX4_readChamber_23 : decode cX4_readChamber 23 = .ok (.invokevirtual 82, 3) := by decide +kernel
theorem dX4_readChamber_26 : decode cX4_readChamber 26 = .ok (.aload_n 0, 1) := by decide +kernel
theorem dX4_readChamber_27 : decode cX4_readChamber 27 = .ok (.invokevirtual 94, 3) := by decide +kernel
theorem dX4_readChamber_30 : decode cX4_readChamber 30 = .ok (.istore_n 2, 1) := by decide +kernel
theorem dX4_readChamber_31 : decode cX4_readChamber 31 = .ok (.aload_n 0, 1) := by decide +kernel
theorem dX4_readChamber_32 : decode cX4_readChamber 32 = .ok (.ldc 98, 2) := by decide +kernel
theorem dX4_readChamber_34 : decode cX4_readChamber 34 = .ok (.invokevirtual 82, 3) := by decide +kernel
theorem dX4_readChamber_37 : decode cX4_readChamber 37 = .ok (.aload_n 0, 1) := by decide +kernel
theorem dX4_readChamber_38 : decode cX4_readChamber 38 = .ok (.iconst 0, 1) := by decide +kernel
theorem dX4_readChamber_39 : decode cX4_readChamber 39 = .ok (.bipush 100, 2) := by decide +kernel
theorem dX4_readChamber_41 : decode cX4_readChamber 41 = .ok (.invokevirtual 88, 3) := by decide +kernel
theorem dX4_readChamber_44 : decode cX4_readChamber 44 = .ok (.istore_n 3, 1) := by decide +kernel
theorem dX4_readChamber_45 : decode cX4_readChamber 45 = .ok (.aload_n 0, 1) := by decide +kernel
theorem dX4_readChamber_46 : decode cX4_readChamber 46 = .ok (.ldc 100, 2) := by decide +kernel
theorem dX4_readChamber_48 : decode cX4_readChamber 48 = .ok (.invokevirtual 82, 3) := by decide +kernel
theorem dX4_readChamber_51 : decode cX4_readChamber 51 = .ok (.aload_n 0, 1) := by decide +kernel
theorem dX4_readChamber_52 : decode cX4_readChamber 52 = .ok (.iconst 1, 1) := by decide +kernel
theorem dX4_readChamber_53 : decode cX4_readChamber 53 = .ok (.bipush 9, 2) := by decide +kernel
theorem dX4_readChamber_55 : decode cX4_readChamber 55 = .ok (.invokevirtual 88, 3) := by decide +kernel
theorem dX4_readChamber_58 : decode cX4_readChamber 58 = .ok (.istore 4, 2) := by decide +kernel
theorem dX4_readChamber_60 : decode cX4_readChamber 60 = .ok (.aload_n 0, 1) := by decide +kernel
theorem dX4_readChamber_61 : decode cX4_readChamber 61 = .ok (.getfield 19, 3) := by decide +kernel
theorem dX4_readChamber_64 : decode cX4_readChamber 64 = .ok (.iload_n 1, 1) := by decide +kernel
theorem dX4_readChamber_65 : decode cX4_readChamber 65 = .ok (.iload_n 2, 1) := by decide +kernel
theorem dX4_readChamber_66 : decode cX4_readChamber 66 = .ok (.iload_n 3, 1) := by decide +kernel
theorem dX4_readChamber_67 : decode cX4_readChamber 67 = .ok (.iload 4, 2) := by decide +kernel
theorem dX4_readChamber_69 : decode cX4_readChamber 69 = .ok (.invokevirtual 102, 3) := by decide +kernel
theorem dX4_readChamber_72 : decode cX4_readChamber 72 = .ok (.return_, 1) := by decide +kernel
theorem dX4_readClose_0 : decode cX4_readClose 0 = .ok (.aload_n 0, 1) := by decide +kernel
theorem dX4_readClose_1 : decode cX4_readClose 1 = .ok (.getfield 37, 3) := by decide +kernel
theorem dX4_readClose_4 : decode cX4_readClose 4 = .ok (.iconst 3, 1) := by decide +kernel
theorem dX4_readClose_5 : decode cX4_readClose 5 = .ok (.if_icmp .eq 8, 3) := by decide +kernel
theorem dX4_readClose_8 : decode cX4_readClose 8 = .ok (.aload_n 0, 1) := by decide +kernel
theorem dX4_readClose_9 : decode cX4_readClose 9 = .ok (.iconst 1, 1) := by decide +kernel
theorem dX4_readClose_10 : decode cX4_readClose 10 = .ok (.invokevirtual 76, 3) := by decide +kernel
theorem dX4_readClose_13 : decode cX4_readClose 13 = .ok (.aload_n 0, 1) := by decide +kernel
theorem dX4_readClose_14 : decode cX4_readClose 14 = .ok (.getfield 23, 3) := by decide +kernel
theorem dX4_readClose_17 : decode cX4_readClose 17 = .ok (.ifCond .ne 20, 3) := by decide +kernel
theorem dX4_readClose_20 : decode cX4_readClose 20 = .ok (.aload_n 0, 1) := by decide +kernel
theorem dX4_readClose_21 : decode cX4_readClose 21 = .ok (.getfield 19, 3) := by decide +kernel
theorem dX4_readClose_24 : decode cX4_readClose 24 = .ok (.dup, 1) := by decide +kernel
theorem dX4_readClose_25 : decode cX4_readClose 25 = .ok (.getfield 46, 3) := by decide +kernel
theorem dX4_readClose_28 : decode cX4_readClose 28 = .ok (.iconst 1, 1) := by decide +kernel
theorem dX4_readClose_29 : decode cX4_readClose 29 = .ok (.iadd, 1) := by decide +kernel
theorem dX4_readClose_30 : decode cX4_readClose 30 = .ok (.putfield 46, 3) := by decide +kernel
theorem dX4_readClose_33 : decode cX4_readClose 33 = .ok (.aload_n 0, 1) := by decide +kernel
theorem dX4_readClose_34 : decode cX4_readClose 34 = .ok (.invokevirtual 34, 3) := by decide +kernel
theorem dX4_readClose_37 : decode cX4_readClose 37 = .ok (.return_, 1) := by decide +kernel
theorem dX4_readDistrict_0 : decode cX4_readDistrict 0 = .ok (.aload_n 0, 1) := by decide +kernel
theorem dX4_readDistrict_1 : decode cX4_readDistrict 1 = .ok (.aload_n 0, 1) := by decide +kernel
theorem dX4_readDistrict_2 : decode cX4_readDistrict 2 = .ok (.getfield 19, 3) := by decide +kernel
theorem dX4_readDistrict_5 : decode cX4_readDistrict 5 = .ok (.getfield 116, 3) := by decide +kernel
theorem dX4_readDistrict_8 : decode cX4_readDistrict 8 = .ok (.iconst 4, 1) := by decide +kernel
theorem dX4_readDistrict_9 : decode cX4_readDistrict 9 = .ok (.if_icmp .ge 7, 3) := by decide +kernel
theorem dX4_readDistrict_12 : decode cX4_readDistrict 12 = .ok (.iconst 1, 1) := by decide +kernel
theorem dX4_readDistrict_13 : decode cX4_readDistrict 13 = .ok (.goto 4, 3) := by decide +kernel
theorem dX4_readDistrict_16 : decode cX4_readDistrict 16 = .ok (.iconst 0, 1) := by decide +kernel
theorem dX4_readDistrict_17 : decode cX4_readDistrict 17 = .ok (.invokevirtual 119, 3) := by decide +kernel
theorem dX4_readDistrict_20 : decode cX4_readDistrict 20 = .ok (.aload_n 0, 1) := by decide +kernel
theorem dX4_readDistrict_21 : decode cX4_readDistrict 21 = .ok (.ldc 123, 2) := by decide +kernel
theorem dX4_readDistrict_23 : decode cX4_readDistrict 23 = .ok (.invokevirtual 82, 3) := by decide +kernel
theorem dX4_readDistrict_26 : decode cX4_readDistrict 26 = .ok (.aload_n 0, 1) := by decide +kernel
theorem dX4_readDistrict_27 : decode cX4_readDistrict 27 = .ok (.iconst 1, 1) := by decide +kernel
theorem dX4_readDistrict_28 : decode cX4_readDistrict 28 = .ok (.bipush 9, 2) := by decide +kernel
theorem dX4_readDistrict_30 : decode cX4_readDistrict 30 = .ok (.invokevirtual 88, 3) := by decide +kernel
theorem dX4_readDistrict_33 : decode cX4_readDistrict 33 = .ok (.istore_n 1, 1) := by decide +kernel
theorem dX4_readDistrict_34 : decode cX4_readDistrict 34 = .ok (.aload_n 0, 1) := by decide +kernel
theorem dX4_readDistrict_35 : decode cX4_readDistrict 35 = .ok (.getfield 23, 3) := by decide +kernel
theorem dX4_readDistrict_38 : decode cX4_readDistrict 38 = .ok (.ifCond .ne 11, 3) := by decide +kernel
theorem dX4_readDistrict_41 : decode cX4_readDistrict 41 = .ok (.aload_n 0, 1) := by decide +kernel
theorem dX4_readDistrict_42 : decode cX4_readDistrict 42 = .ok (.getfield 19, 3) := by decide +kernel
theorem dX4_readDistrict_45 : decode cX4_readDistrict 45 = .ok (.iload_n 1, 1) := by decide +kernel
theorem dX4_readDistrict_46 : decode cX4_readDistrict 46 = .ok (.invokevirtual 125, 3) := by decide +kernel
theorem dX4_readDistrict_49 : decode cX4_readDistrict 49 = .ok (.return_, 1) := by decide +kernel
theorem dX4_readLaw_0 : decode cX4_readLaw 0 = .ok (.iconst (-1), 1) := by decide +kernel
theorem dX4_readLaw_1 : decode cX4_readLaw 1 = .ok (.istore_n 1, 1) := by decide +kernel
theorem dX4_readLaw_2 : decode cX4_readLaw 2 = .ok (.aload_n 0, 1) := by decide +kernel
theorem dX4_readLaw_3 : decode cX4_readLaw 3 = .ok (.ldc 106, 2) := by decide +kernel
theorem dX4_readLaw_5 : decode cX4_readLaw 5 = .ok (.invokevirtual 54, 3) := by decide +kernel
theorem dX4_readLaw_8 : decode cX4_readLaw 8 = .ok (.ifCond .eq 8, 3) := by decide +kernel
theorem dX4_readLaw_11 : decode cX4_readLaw 11 = .ok (.iconst 0, 1) := by decide +kernel
theorem dX4_readLaw_12 : decode cX4_readLaw 12 = .ok (.istore_n 1, 1) := by decide +kernel
theorem dX4_readLaw_13 : decode cX4_readLaw 13 = .ok (.goto 42, 3) := by decide +kernel
theorem dX4_readLaw_16 : decode cX4_readLaw 16 = .ok (.aload_n 0, 1) := by decide +kernel
theorem dX4_readLaw_17 : decode cX4_readLaw 17 = .ok (.ldc 110, 2) := by decide +kernel
theorem dX4_readLaw_19 : decode cX4_readLaw 19 = .ok (.invokevirtual 54, 3) := by decide +kernel
theorem dX4_readLaw_22 : decode cX4_readLaw 22 = .ok (.ifCond .eq 8, 3) := by decide +kernel
theorem dX4_readLaw_25 : decode cX4_readLaw 25 = .ok (.iconst 1, 1) := by decide +kernel
theorem dX4_readLaw_26 : decode cX4_readLaw 26 = .ok (.istore_n 1, 1) := by decide +kernel
theorem dX4_readLaw_27 : decode cX4_readLaw 27 = .ok (.goto 28, 3) := by decide +kernel
theorem dX4_readLaw_30 : decode cX4_readLaw 30 = .ok (.aload_n 0, 1) := by decide +kernel
theorem dX4_readLaw_31 : decode cX4_readLaw 31 = .ok (.ldc 112, 2) := by decide +kernel
theorem dX4_readLaw_33 : decode cX4_readLaw 33 = .ok (.invokevirtual 54, 3) := by decide +kernel
theorem dX4_readLaw_36 : decode cX4_readLaw 36 = .ok (.ifCond .eq 8, 3) := by decide +kernel
theorem dX4_readLaw_39 : decode cX4_readLaw 39 = .ok (.iconst 2, 1) := by decide +kernel
theorem dX4_readLaw_40 : decode cX4_readLaw 40 = .ok (.istore_n 1, 1) := by decide +kernel
theorem dX4_readLaw_41 : decode cX4_readLaw 41 = .ok (.goto 14, 3) := by decide +kernel
theorem dX4_readLaw_44 : decode cX4_readLaw 44 = .ok (.aload_n 0, 1) := by decide +kernel
theorem dX4_readLaw_45 : decode cX4_readLaw 45 = .ok (.ldc 114, 2) := by decide +kernel
theorem dX4_readLaw_47 : decode cX4_readLaw 47 = .ok (.invokevirtual 54, 3) := by decide +kernel
theorem dX4_readLaw_50 : decode cX4_readLaw 50 = .ok (.ifCond .eq 5, 3) := by decide +kernel
theorem dX4_readLaw_53 : decode cX4_readLaw 53 = .ok (.iconst 3, 1) := by decide +kernel
theorem dX4_readLaw_54 : decode cX4_readLaw 54 = .ok (.istore_n 1, 1) := by decide +kernel
theorem dX4_readLaw_55 : decode cX4_readLaw 55 = .ok (.iload_n 1, 1) := by decide +kernel
theorem dX4_readLaw_56 : decode cX4_readLaw 56 = .ok (.iconst (-1), 1) := by decide +kernel
theorem dX4_readLaw_57 : decode cX4_readLaw 57 = .ok (.if_icmp .ne 8, 3) := by decide +kernel
theorem dX4_readLaw_60 : decode cX4_readLaw 60 = .ok (.aload_n 0, 1) := by decide +kernel
theorem dX4_readLaw_61 : decode cX4_readLaw 61 = .ok (.iconst 1, 1) := by decide +kernel
theorem dX4_readLaw_62 : decode cX4_readLaw 62 = .ok (.invokevirtual 76, 3) := by decide +kernel
theorem dX4_readLaw_65 : decode cX4_readLaw 65 = .ok (.aload_n 0, 1) := by decide +kernel
theorem dX4_readLaw_66 : decode cX4_readLaw 66 = .ok (.getfield 23, 3) := by decide +kernel
theorem dX4_readLaw_69 : decode cX4_readLaw 69 = .ok (.ifCond .ne 7, 3) := by decide +kernel
theorem dX4_readLaw_72 : decode cX4_readLaw 72 = .ok (.aload_n 0, 1) := by decide +kernel
theorem dX4_readLaw_73 : decode cX4_readLaw 73 = .ok (.invokevirtual 34, 3) := by decide +kernel
theorem dX4_readLaw_76 : decode cX4_readLaw 76 = .ok (.iload_n 1, 1) := by decide +kernel
theorem dX4_readLaw_77 : decode cX4_readLaw 77 = .ok (.ireturn, 1) := by decide +kernel
theorem dX4_readLine_0 : decode cX4_readLine 0 = .ok (.aload_n 0, 1) := by decide +kernel
theorem dX4_readLine_1 : decode cX4_readLine 1 = .ok (.getfield 19, 3) := by decide +kernel
theorem dX4_readLine_4 : decode cX4_readLine 4 = .ok (.getfield 46, 3) := by decide +kernel
theorem dX4_readLine_7 : decode cX4_readLine 7 = .ok (.ifCond .ne 10, 3) := by decide +kernel
theorem dX4_readLine_10 : decode cX4_readLine 10 = .ok (.aload_n 0, 1) := by decide +kernel
theorem dX4_readLine_11 : decode cX4_readLine 11 = .ok (.invokevirtual 49, 3) := by decide +kernel
theorem dX4_readLine_14 : decode cX4_readLine 14 = .ok (.goto 72, 3) := by decide +kernel
theorem dX4_readLine_17 : decode cX4_readLine 17 = .ok (.aload_n 0, 1) := by decide +kernel
theorem dX4_readLine_18 : decode cX4_readLine 18 = .ok (.ldc 52, 2) := by decide +kernel
theorem dX4_readLine_20 : decode cX4_readLine 20 = .ok (.invokevirtual 54, 3) := by decide +kernel
theorem dX4_readLine_23 : decode cX4_readLine 23 = .ok (.ifCond .eq 10, 3) := by decide +kernel
theorem dX4_readLine_26 : decode cX4_readLine 26 = .ok (.aload_n 0, 1) := by decide +kernel
theorem dX4_readLine_27 : decode cX4_readLine 27 = .ok (.invokevirtual 58, 3) := by decide +kernel
theorem dX4_readLine_30 : decode cX4_readLine 30 = .ok (.goto 56, 3) := by decide +kernel
theorem dX4_readLine_33 : decode cX4_readLine 33 = .ok (.aload_n 0, 1) := by decide +kernel
theorem dX4_readLine_34 : decode cX4_readLine 34 = .ok (.ldc 61, 2) := by decide +kernel
theorem dX4_readLine_36 : decode cX4_readLine 36 = .ok (.invokevirtual 54, 3) := by decide +kernel
theorem dX4_readLine_39 : decode cX4_readLine 39 = .ok (.ifCond .eq 10, 3) := by decide +kernel
theorem dX4_readLine_42 : decode cX4_readLine 42 = .ok (.aload_n 0, 1) := by decide +kernel
theorem dX4_readLine_43 : decode cX4_readLine 43 = .ok (.invokevirtual 63, 3) := by decide +kernel
theorem dX4_readLine_46 : decode cX4_readLine 46 = .ok (.goto 40, 3) := by decide +kernel
theorem dX4_readLine_49 : decode cX4_readLine 49 = .ok (.aload_n 0, 1) := by decide +kernel
theorem dX4_readLine_50 : decode cX4_readLine 50 = .ok (.ldc 66, 2) := by decide +kernel
theorem dX4_readLine_52 : decode cX4_readLine 52 = .ok (.invokevirtual 54, 3) := by decide +kernel
theorem dX4_readLine_55 : decode cX4_readLine 55 = .ok (.ifCond .eq 10, 3) := by decide +kernel
theorem dX4_readLine_58 : decode cX4_readLine 58 = .ok (.aload_n 0, 1) := by decide +kernel
theorem dX4_readLine_59 : decode cX4_readLine 59 = .ok (.invokevirtual 68, 3) := by decide +kernel
theorem dX4_readLine_62 : decode cX4_readLine 62 = .ok (.goto 24, 3) := by decide +kernel
theorem dX4_readLine_65 : decode cX4_readLine 65 = .ok (.aload_n 0, 1) := by decide +kernel
theorem dX4_readLine_66 : decode cX4_readLine 66 = .ok (.ldc 71, 2) := by decide +kernel
theorem dX4_readLine_68 : decode cX4_readLine 68 = .ok (.invokevirtual 54, 3) := by decide +kernel
theorem dX4_readLine_71 : decode cX4_readLine 71 = .ok (.ifCond .eq 10, 3) := by decide +kernel
theorem dX4_readLine_74 : decode cX4_readLine 74 = .ok (.aload_n 0, 1) := by decide +kernel
theorem dX4_readLine_75 : decode cX4_readLine 75 = .ok (.invokevirtual 73, 3) := by decide +kernel
theorem dX4_readLine_78 : decode cX4_readLine 78 = .ok (.goto 8, 3) := by decide +kernel
theorem dX4_readLine_81 : decode cX4_readLine 81 = .ok (.aload_n 0, 1) := by decide +kernel
theorem dX4_readLine_82 : decode cX4_readLine 82 = .ok (.iconst 1, 1) := by decide +kernel
theorem dX4_readLine_83 : decode cX4_readLine 83 = .ok (.invokevirtual 76, 3) := by decide +kernel
theorem dX4_readLine_86 : decode cX4_readLine 86 = .ok (.return_, 1) := by decide +kernel
theorem dX4_readMeanings_0 : decode cX4_readMeanings 0 = .ok (.iconst 1, 1) := by decide +kernel
theorem dX4_readMeanings_1 : decode cX4_readMeanings 1 = .ok (.aload_n 0, 1) := by decide +kernel
theorem dX4_readMeanings_2 : decode cX4_readMeanings 2 = .ok (.iconst 0, 1) := by decide +kernel
theorem dX4_readMeanings_3 : decode cX4_readMeanings 3 = .ok (.aload_n 0, 1) := by decide +kernel
theorem dX4_readMeanings_4 : decode cX4_readMeanings 4 = .ok (.getfield 19, 3) := by decide +kernel
theorem dX4_readMeanings_7 : decode cX4_readMeanings 7 = .ok (.getfield 166, 3) := by decide +kernel
theorem dX4_readMeanings_10 : decode cX4_readMeanings 10 = .ok (.iconst 1, 1) := by decide +kernel
theorem dX4_readMeanings_11 : decode cX4_readMeanings 11 = .ok (.isub, 1) := by decide +kernel
theorem dX4_readMeanings_12 : decode cX4_readMeanings 12 = .ok (.invokevirtual 88, 3) := by decide +kernel
theorem dX4_readMeanings_15 : decode cX4_readMeanings 15 = .ok (.ishl, 1) := by decide +kernel
theorem dX4_readMeanings_16 : decode cX4_readMeanings 16 = .ok (.istore_n 1, 1) := by decide +kernel
theorem dX4_readMeanings_17 : decode cX4_readMeanings 17 = .ok (.iconst 0, 1) := by decide +kernel
theorem dX4_readMeanings_18 : decode cX4_readMeanings 18 = .ok (.istore_n 2, 1) := by decide +kernel
theorem dX4_readMeanings_19 : decode cX4_readMeanings 19 = .ok (.iload_n 2, 1) := by decide +kernel
theorem dX4_readMeanings_20 : decode cX4_readMeanings 20 = .ok (.sipush 1600, 3) := by decide +kernel
theorem dX4_readMeanings_23 : decode cX4_readMeanings 23 = .ok (.if_icmp .ge 43, 3) := by decide +kernel
theorem dX4_readMeanings_26 : decode cX4_readMeanings 26 = .ok (.aload_n 0, 1) := by decide +kernel
theorem dX4_readMeanings_27 : decode cX4_readMeanings 27 = .ok (.getfield 23, 3) := by decide +kernel
theorem dX4_readMeanings_30 : decode cX4_readMeanings 30 = .ok (.ifCond .ne 36, 3) := by decide +kernel
theorem dX4_readMeanings_33 : decode cX4_readMeanings 33 = .ok (.aload_n 0, 1) := by decide +kernel
theorem dX4_readMeanings_34 : decode cX4_readMeanings 34 = .ok (.getfield 37, 3) := by decide +kernel
theorem dX4_readMeanings_37 : decode cX4_readMeanings 37 = .ok (.iconst 2, 1) := by decide +kernel
theorem dX4_readMeanings_38 : decode cX4_readMeanings 38 = .ok (.if_icmp .ne 28, 3) := by decide +kernel
theorem dX4_readMeanings_41 : decode cX4_readMeanings 41 = .ok (.iload_n 1, 1) := by decide +kernel
theorem dX4_readMeanings_42 : decode cX4_readMeanings 42 = .ok (.iconst 1, 1) := by decide +kernel
theorem dX4_readMeanings_43 : decode cX4_readMeanings 43 = .ok (.aload_n 0, 1) := by decide +kernel
theorem dX4_readMeanings_44 : decode cX4_readMeanings 44 = .ok (.iconst 0, 1) := by decide +kernel
theorem dX4_readMeanings_45 : decode cX4_readMeanings 45 = .ok (.aload_n 0, 1) := by decide +kernel
theorem dX4_readMeanings_46 : decode cX4_readMeanings 46 = .ok (.getfield 19, 3) := by decide +kernel
theorem dX4_readMeanings_49 : decode cX4_readMeanings 49 = .ok (.getfield 166, 3) := by decide +kernel
theorem dX4_readMeanings_52 : decode cX4_readMeanings 52 = .ok (.iconst 1, 1) := by decide +kernel
theorem dX4_readMeanings_53 : decode cX4_readMeanings 53 = .ok (.isub, 1) := by decide +kernel
theorem dX4_readMeanings_54 : decode cX4_readMeanings 54 = .ok (.invokevirtual 88, 3) := by decide +kernel
theorem dX4_readMeanings_57 : decode cX4_readMeanings 57 = .ok (.ishl, 1) := by decide +kernel
theorem dX4_readMeanings_58 : decode cX4_readMeanings 58 = .ok (.ior, 1) := by decide +kernel
theorem dX4_readMeanings_59 : decode cX4_readMeanings 59 = .ok (.istore_n 1, 1) := by decide +kernel
theorem dX4_readMeanings_60 : decode cX4_readMeanings 60 = .ok (.iinc 2 1, 3) := by decide +kernel
theorem dX4_readMeanings_63 : decode cX4_readMeanings 63 = .ok (.goto (-44), 3) := by decide +kernel
theorem dX4_readMeanings_66 : decode cX4_readMeanings 66 = .ok (.iload_n 1, 1) := by decide +kernel
theorem dX4_readMeanings_67 : decode cX4_readMeanings 67 = .ok (.ireturn, 1) := by decide +kernel
theorem dX4_readNumber_0 : decode cX4_readNumber 0 = .ok (.aload_n 0, 1) := by decide +kernel
theorem dX4_readNumber_1 : decode cX4_readNumber 1 = .ok (.getfield 37, 3) := by decide +kernel
theorem dX4_readNumber_4 : decode cX4_readNumber 4 = .ok (.iconst 2, 1) := by decide +kernel
theorem dX4_readNumber_5 : decode cX4_readNumber 5 = .ok (.if_icmp .eq 11, 3) := by decide +kernel
theorem dX4_readNumber_8 : decode cX4_readNumber 8 = .ok (.aload_n 0, 1) := by decide +kernel
theorem dX4_readNumber_9 : decode cX4_readNumber 9 = .ok (.iconst 1, 1) := by decide +kernel
theorem dX4_readNumber_10 : decode cX4_readNumber 10 = .ok (.invokevirtual 76, 3) := by decide +kernel
theorem dX4_readNumber_13 : decode cX4_readNumber 13 = .ok (.goto 24, 3) := by decide +kernel
theorem dX4_readNumber_16 : decode cX4_readNumber 16 = .ok (.aload_n 0, 1) := by decide +kernel
theorem dX4_readNumber_17 : decode cX4_readNumber 17 = .ok (.getfield 180, 3) := by decide +kernel
theorem dX4_readNumber_20 : decode cX4_readNumber 20 = .ok (.iload_n 1, 1) := by decide +kernel
theorem dX4_readNumber_21 : decode cX4_readNumber 21 = .ok (.if_icmp .lt 11, 3) := by decide +kernel
theorem dX4_readNumber_24 : decode cX4_readNumber 24 = .ok (.aload_n 0, 1) := by decide +kernel
theorem dX4_readNumber_25 : decode cX4_readNumber 25 = .ok (.getfield 180, 3) := by decide +kernel
theorem dX4_readNumber_28 : decode cX4_readNumber 28 = .ok (.iload_n 2, 1) := by decide +kernel
theorem dX4_readNumber_29 : decode cX4_readNumber 29 = .ok (.if_icmp .le 8, 3) := by decide +kernel
theorem dX4_readNumber_32 : decode cX4_readNumber 32 = .ok (.aload_n 0, 1) := by decide +kernel
theorem dX4_readNumber_33 : decode cX4_readNumber 33 = .ok (.iconst 2, 1) := by decide +kernel
theorem dX4_readNumber_34 : decode cX4_readNumber 34 = .ok (.invokevirtual 76, 3) := by decide +kernel
theorem dX4_readNumber_37 : decode cX4_readNumber 37 = .ok (.aload_n 0, 1) := by decide +kernel
theorem dX4_readNumber_38 : decode cX4_readNumber 38 = .ok (.getfield 23, 3) := by decide +kernel
theorem dX4_readNumber_41 : decode cX4_readNumber 41 = .ok (.ifCond .eq 5, 3) := by decide +kernel
theorem dX4_readNumber_44 : decode cX4_readNumber 44 = .ok (.iconst 0, 1) := by decide +kernel
theorem dX4_readNumber_45 : decode cX4_readNumber 45 = .ok (.ireturn, 1) := by decide +kernel
theorem dX4_readNumber_46 : decode cX4_readNumber 46 = .ok (.aload_n 0, 1) := by decide +kernel
theorem dX4_readNumber_47 : decode cX4_readNumber 47 = .ok (.getfield 180, 3) := by decide +kernel
theorem dX4_readNumber_50 : decode cX4_readNumber 50 = .ok (.istore_n 3, 1) := by decide +kernel
theorem dX4_readNumber_51 : decode cX4_readNumber 51 = .ok (.aload_n 0, 1) := by decide +kernel
theorem dX4_readNumber_52 : decode cX4_readNumber 52 = .ok (.invokevirtual 34, 3) := by decide +kernel
theorem dX4_readNumber_55 : decode cX4_readNumber 55 = .ok (.iload_n 3, 1) := by decide +kernel
theorem dX4_readNumber_56 : decode cX4_readNumber 56 = .ok (.ireturn, 1) := by decide +kernel
theorem dX4_readOther_0 : decode cX4_readOther 0 = .ok (.aload_n 0, 1) := by decide +kernel
theorem dX4_readOther_1 : decode cX4_readOther 1 = .ok (.getfield 37, 3) := by decide +kernel
theorem dX4_readOther_4 : decode cX4_readOther 4 = .ok (.iconst 2, 1) := by decide +kernel
theorem dX4_readOther_5 : decode cX4_readOther 5 = .ok (.if_icmp .ne 16, 3) := by decide +kernel
theorem dX4_readOther_8 : decode cX4_readOther 8 = .ok (.aload_n 0, 1) := by decide +kernel
theorem dX4_readOther_9 : decode cX4_readOther 9 = .ok (.getfield 180, 3) := by decide +kernel
theorem dX4_readOther_12 : decode cX4_readOther 12 = .ok (.iload_n 1, 1) := by decide +kernel
theorem dX4_readOther_13 : decode cX4_readOther 13 = .ok (.if_icmp .ne 8, 3) := by decide +kernel
theorem dX4_readOther_16 : decode cX4_readOther 16 = .ok (.aload_n 0, 1) := by decide +kernel
theorem dX4_readOther_17 : decode cX4_readOther 17 = .ok (.iconst 2, 1) := by decide +kernel
theorem dX4_readOther_18 : decode cX4_readOther 18 = .ok (.invokevirtual 76, 3) := by decide +kernel
theorem dX4_readOther_21 : decode cX4_readOther 21 = .ok (.aload_n 0, 1) := by decide +kernel
theorem dX4_readOther_22 : decode cX4_readOther 22 = .ok (.iconst 0, 1) := by decide +kernel
theorem dX4_readOther_23 : decode cX4_readOther 23 = .ok (.aload_n 0, 1) := by decide +kernel
theorem dX4_readOther_24 : decode cX4_readOther 24 = .ok (.getfield 19, 3) := by decide +kernel
theorem dX4_readOther_27 : decode cX4_readOther 27 = .ok (.getfield 166, 3) := by decide +kernel
theorem dX4_readOther_30 : decode cX4_readOther 30 = .ok (.iconst 1, 1) := by decide +kernel
theorem dX4_readOther_31 : decode cX4_readOther 31 = .ok (.isub, 1) := by decide +kernel
theorem dX4_readOther_32 : decode cX4_readOther 32 = .ok (.invokevirtual 88, 3) := by decide +kernel
theorem dX4_readOther_35 : decode cX4_readOther 35 = .ok (.ireturn, 1) := by decide +kernel
theorem dX4_readRound_0 : decode cX4_readRound 0 = .ok (.aload_n 0, 1) := by decide +kernel
theorem dX4_readRound_1 : decode cX4_readRound 1 = .ok (.aload_n 0, 1) := by decide +kernel
theorem dX4_readRound_2 : decode cX4_readRound 2 = .ok (.getfield 19, 3) := by decide +kernel
theorem dX4_readRound_5 : decode cX4_readRound 5 = .ok (.getfield 157, 3) := by decide +kernel
theorem dX4_readRound_8 : decode cX4_readRound 8 = .ok (.getfield 161, 3) := by decide +kernel
theorem dX4_readRound_11 : decode cX4_readRound 11 = .ok (.bipush 8, 2) := by decide +kernel
theorem dX4_readRound_13 : decode cX4_readRound 13 = .ok (.if_icmp .ge 7, 3) := by decide +kernel
theorem dX4_readRound_16 : decode cX4_readRound 16 = .ok (.iconst 1, 1) := by decide +kernel
theorem dX4_readRound_17 : decode cX4_readRound 17 = .ok (.goto 4, 3) := by decide +kernel
theorem dX4_readRound_20 : decode cX4_readRound 20 = .ok (.iconst 0, 1) := by decide +kernel
theorem dX4_readRound_21 : decode cX4_readRound 21 = .ok (.invokevirtual 119, 3) := by decide +kernel
theorem dX4_readRound_24 : decode cX4_readRound 24 = .ok (.aload_n 0, 1) := by decide +kernel
theorem dX4_readRound_25 : decode cX4_readRound 25 = .ok (.iconst 0, 1) := by decide +kernel
theorem dX4_readRound_26 : decode cX4_readRound 26 = .ok (.aload_n 0, 1) := by decide +kernel
theorem dX4_readRound_27 : decode cX4_readRound 27 = .ok (.getfield 19, 3) := by decide +kernel
theorem dX4_readRound_30 : decode cX4_readRound 30 = .ok (.getfield 166, 3) := by decide +kernel
theorem dX4_readRound_33 : decode cX4_readRound 33 = .ok (.iconst 1, 1) := by decide +kernel
theorem dX4_readRound_34 : decode cX4_readRound 34 = .ok (.isub, 1) := by decide +kernel
theorem dX4_readRound_35 : decode cX4_readRound 35 = .ok (.invokevirtual 88, 3) := by decide +kernel
theorem dX4_readRound_38 : decode cX4_readRound 38 = .ok (.istore_n 1, 1) := by decide +kernel
theorem dX4_readRound_39 : decode cX4_readRound 39 = .ok (.aload_n 0, 1) := by decide +kernel
theorem dX4_readRound_40 : decode cX4_readRound 40 = .ok (.ldc 168, 2) := by decide +kernel
theorem dX4_readRound_42 : decode cX4_readRound 42 = .ok (.invokevirtual 82, 3) := by decide +kernel
theorem dX4_readRound_45 : decode cX4_readRound 45 = .ok (.aload_n 0, 1) := by decide +kernel
theorem dX4_readRound_46 : decode cX4_readRound 46 = .ok (.iload_n 1, 1) := by decide +kernel
theorem dX4_readRound_47 : decode cX4_readRound 47 = .ok (.invokevirtual 170, 3) := by decide +kernel
theorem dX4_readRound_50 : decode cX4_readRound 50 = .ok (.istore_n 2, 1) := by decide +kernel
theorem dX4_readRound_51 : decode cX4_readRound 51 = .ok (.aload_n 0, 1) := by decide +kernel
theorem dX4_readRound_52 : decode cX4_readRound 52 = .ok (.ldc 174, 2) := by decide +kernel
theorem dX4_readRound_54 : decode cX4_readRound 54 = .ok (.invokevirtual 82, 3) := by decide +kernel
theorem dX4_readRound_57 : decode cX4_readRound 57 = .ok (.aload_n 0, 1) := by decide +kernel
theorem dX4_readRound_58 : decode cX4_readRound 58 = .ok (.iload_n 1, 1) := by decide +kernel
theorem dX4_readRound_59 : decode cX4_readRound 59 = .ok (.invokevirtual 170, 3) := by decide +kernel
theorem dX4_readRound_62 : decode cX4_readRound 62 = .ok (.istore_n 3, 1) := by decide +kernel
theorem dX4_readRound_63 : decode cX4_readRound 63 = .ok (.aload_n 0, 1) := by decide +kernel
theorem dX4_readRound_64 : decode cX4_readRound 64 = .ok (.getfield 23, 3) := by decide +kernel
theorem dX4_readRound_67 : decode cX4_readRound 67 = .ok (.ifCond .ne 16, 3) := by decide +kernel
theorem dX4_readRound_70 : decode cX4_readRound 70 = .ok (.aload_n 0, 1) := by decide +kernel
theorem dX4_readRound_71 : decode cX4_readRound 71 = .ok (.getfield 19, 3) := by decide +kernel
theorem dX4_readRound_74 : decode cX4_readRound 74 = .ok (.getfield 157, 3) := by decide +kernel
theorem dX4_readRound_77 : decode cX4_readRound 77 = .ok (.iload_n 1, 1) := by decide +kernel
theorem dX4_readRound_78 : decode cX4_readRound 78 = .ok (.iload_n 2, 1) := by decide +kernel
theorem dX4_readRound_79 : decode cX4_readRound 79 = .ok (.iload_n 3, 1) := by decide +kernel
theorem dX4_readRound_80 : decode cX4_readRound 80 = .ok (.invokevirtual 176, 3) := by decide +kernel
theorem dX4_readRound_83 : decode cX4_readRound 83 = .ok (.return_, 1) := by decide +kernel
theorem dX4_readSpeaker_0 : decode cX4_readSpeaker 0 = .ok (.aload_n 0, 1) := by decide +kernel
theorem dX4_readSpeaker_1 : decode cX4_readSpeaker 1 = .ok (.aload_n 0, 1) := by decide +kernel
theorem dX4_readSpeaker_2 : decode cX4_readSpeaker 2 = .ok (.getfield 19, 3) := by decide +kernel
theorem dX4_readSpeaker_5 : decode cX4_readSpeaker 5 = .ok (.getfield 145, 3) := by decide +kernel
theorem dX4_readSpeaker_8 : decode cX4_readSpeaker 8 = .ok (.bipush 9, 2) := by decide +kernel
theorem dX4_readSpeaker_10 : decode cX4_readSpeaker 10 = .ok (.if_icmp .ge 7, 3) := by decide +kernel
theorem dX4_readSpeaker_13 : decode cX4_readSpeaker 13 = .ok (.iconst 1, 1) := by decide +kernel
theorem dX4_readSpeaker_14 : decode cX4_readSpeaker 14 = .ok (.goto 4, 3) := by decide +kernel
theorem dX4_readSpeaker_17 : decode cX4_readSpeaker 17 = .ok (.iconst 0, 1) := by decide +kernel
theorem dX4_readSpeaker_18 : decode cX4_readSpeaker 18 = .ok (.invokevirtual 119, 3) := by decide +kernel
theorem dX4_readSpeaker_21 : decode cX4_readSpeaker 21 = .ok (.aload_n 0, 1) := by decide +kernel
theorem dX4_readSpeaker_22 : decode cX4_readSpeaker 22 = .ok (.ldc 133, 2) := by decide +kernel
theorem dX4_readSpeaker_24 : decode cX4_readSpeaker 24 = .ok (.invokevirtual 82, 3) := by decide +kernel
theorem dX4_readSpeaker_27 : decode cX4_readSpeaker 27 = .ok (.aload_n 0, 1) := by decide +kernel
theorem dX4_readSpeaker_28 : decode cX4_readSpeaker 28 = .ok (.iconst 0, 1) := by decide +kernel
theorem dX4_readSpeaker_29 : decode cX4_readSpeaker 29 = .ok (.aload_n 0, 1) := by decide +kernel
theorem dX4_readSpeaker_30 : decode cX4_readSpeaker 30 = .ok (.getfield 19, 3) := by decide +kernel
theorem dX4_readSpeaker_33 : decode cX4_readSpeaker 33 = .ok (.getfield 116, 3) := by decide +kernel
theorem dX4_readSpeaker_36 : decode cX4_readSpeaker 36 = .ok (.iconst 1, 1) := by decide +kernel
theorem dX4_readSpeaker_37 : decode cX4_readSpeaker 37 = .ok (.isub, 1) := by decide +kernel
theorem dX4_readSpeaker_38 : decode cX4_readSpeaker 38 = .ok (.invokevirtual 88, 3) := by decide +kernel
theorem dX4_readSpeaker_41 : decode cX4_readSpeaker 41 = .ok (.istore_n 1, 1) := by decide +kernel
theorem dX4_readSpeaker_42 : decode cX4_readSpeaker 42 = .ok (.aload_n 0, 1) := by decide +kernel
theorem dX4_readSpeaker_43 : decode cX4_readSpeaker 43 = .ok (.ldc 148, 2) := by decide +kernel
theorem dX4_readSpeaker_45 : decode cX4_readSpeaker 45 = .ok (.invokevirtual 82, 3) := by decide +kernel
theorem dX4_readSpeaker_48 : decode cX4_readSpeaker 48 = .ok (.aload_n 0, 1) := by decide +kernel
theorem dX4_readSpeaker_49 : decode cX4_readSpeaker 49 = .ok (.iconst 1, 1) := by decide +kernel
theorem dX4_readSpeaker_50 : decode cX4_readSpeaker 50 = .ok (.bipush 99, 2) := by decide +kernel
theorem dX4_readSpeaker_52 : decode cX4_readSpeaker 52 = .ok (.invokevirtual 88, 3) := by decide +kernel
theorem dX4_readSpeaker_55 : decode cX4_readSpeaker 55 = .ok (.istore_n 2, 1) := by decide +kernel
theorem dX4_readSpeaker_56 : decode cX4_readSpeaker 56 = .ok (.aload_n 0, 1) := by decide +kernel
theorem dX4_readSpeaker_57 : decode cX4_readSpeaker 57 = .ok (.ldc 150, 2) := by decide +kernel
theorem dX4_readSpeaker_59 : decode cX4_readSpeaker 59 = .ok (.invokevirtual 82, 3) := by decide +kernel
theorem dX4_readSpeaker_62 : decode cX4_readSpeaker 62 = .ok (.aload_n 0, 1) := by decide +kernel
theorem dX4_readSpeaker_63 : decode cX4_readSpeaker 63 = .ok (.iconst 0, 1) := by decide +kernel
theorem dX4_readSpeaker_64 : decode cX4_readSpeaker 64 = .ok (.bipush 100, 2) := by decide +kernel
theorem dX4_readSpeaker_66 : decode cX4_readSpeaker 66 = .ok (.invokevirtual 88, 3) := by decide +kernel
theorem dX4_readSpeaker_69 : decode cX4_readSpeaker 69 = .ok (.istore_n 3, 1) := by decide +kernel
theorem dX4_readSpeaker_70 : decode cX4_readSpeaker 70 = .ok (.aload_n 0, 1) := by decide +kernel
theorem dX4_readSpeaker_71 : decode cX4_readSpeaker 71 = .ok (.ldc 152, 2) := by decide +kernel
theorem dX4_readSpeaker_73 : decode cX4_readSpeaker 73 = .ok (.invokevirtual 82, 3) := by decide +kernel
theorem dX4_readSpeaker_76 : decode cX4_readSpeaker 76 = .ok (.aload_n 0, 1) := by decide +kernel
theorem dX4_readSpeaker_77 : decode cX4_readSpeaker 77 = .ok (.invokevirtual 139, 3) := by decide +kernel
theorem dX4_readSpeaker_80 : decode cX4_readSpeaker 80 = .ok (.istore 4, 2) := by decide +kernel
theorem dX4_readSpeaker_82 : decode cX4_readSpeaker 82 = .ok (.aload_n 0, 1) := by decide +kernel
theorem dX4_readSpeaker_83 : decode cX4_readSpeaker 83 = .ok (.getfield 23, 3) := by decide +kernel
theorem dX4_readSpeaker_86 : decode cX4_readSpeaker 86 = .ok (.ifCond .ne 15, 3) := by decide +kernel
theorem dX4_readSpeaker_89 : decode cX4_readSpeaker 89 = .ok (.aload_n 0, 1) := by decide +kernel
theorem dX4_readSpeaker_90 : decode cX4_readSpeaker 90 = .ok (.getfield 19, 3) := by decide +kernel
theorem dX4_readSpeaker_93 : decode cX4_readSpeaker 93 = .ok (.iload_n 1, 1) := by decide +kernel
theorem dX4_readSpeaker_94 : decode cX4_readSpeaker 94 = .ok (.iload_n 2, 1) := by decide +kernel
theorem dX4_readSpeaker_95 : decode cX4_readSpeaker 95 = .ok (.iload_n 3, 1) := by decide +kernel
theorem dX4_readSpeaker_96 : decode cX4_readSpeaker 96 = .ok (.iload 4, 2) := by decide +kernel
theorem dX4_readSpeaker_98 : decode cX4_readSpeaker 98 = .ok (.invokevirtual 154, 3) := by decide +kernel
theorem dX4_readSpeaker_101 : decode cX4_readSpeaker 101 = .ok (.return_, 1) := by decide +kernel
theorem dX4_readWord_0 : decode cX4_readWord 0 = .ok (.aload_n 0, 1) := by decide +kernel
theorem dX4_readWord_1 : decode cX4_readWord 1 = .ok (.aload_n 0, 1) := by decide +kernel
theorem dX4_readWord_2 : decode cX4_readWord 2 = .ok (.getfield 19, 3) := by decide +kernel
theorem dX4_readWord_5 : decode cX4_readWord 5 = .ok (.getfield 128, 3) := by decide +kernel
theorem dX4_readWord_8 : decode cX4_readWord 8 = .ok (.bipush 9, 2) := by decide +kernel
theorem dX4_readWord_10 : decode cX4_readWord 10 = .ok (.if_icmp .ge 7, 3) := by decide +kernel
theorem dX4_readWord_13 : decode cX4_readWord 13 = .ok (.iconst 1, 1) := by decide +kernel
theorem dX4_readWord_14 : decode cX4_readWord 14 = .ok (.goto 4, 3) := by decide +kernel
theorem dX4_readWord_17 : decode cX4_readWord 17 = .ok (.iconst 0, 1) := by decide +kernel
theorem dX4_readWord_18 : decode cX4_readWord 18 = .ok (.invokevirtual 119, 3) := by decide +kernel
theorem dX4_readWord_21 : decode cX4_readWord 21 = .ok (.aload_n 0, 1) := by decide +kernel
theorem dX4_readWord_22 : decode cX4_readWord 22 = .ok (.ldc 131, 2) := by decide +kernel
theorem dX4_readWord_24 : decode cX4_readWord 24 = .ok (.invokevirtual 82, 3) := by decide +kernel
theorem dX4_readWord_27 : decode cX4_readWord 27 = .ok (.aload_n 0, 1) := by decide +kernel
theorem dX4_readWord_28 : decode cX4_readWord 28 = .ok (.iconst 1, 1) := by decide +kernel
theorem dX4_readWord_29 : decode cX4_readWord 29 = .ok (.bipush 12, 2) := by decide +kernel
theorem dX4_readWord_31 : decode cX4_readWord 31 = .ok (.invokevirtual 88, 3) := by decide +kernel
theorem dX4_readWord_34 : decode cX4_readWord 34 = .ok (.istore_n 1, 1) := by decide +kernel
theorem dX4_readWord_35 : decode cX4_readWord 35 = .ok (.aload_n 0, 1) := by decide +kernel
theorem dX4_readWord_36 : decode cX4_readWord 36 = .ok (.ldc 133, 2) := by decide +kernel
theorem dX4_readWord_38 : decode cX4_readWord 38 = .ok (.invokevirtual 82, 3) := by decide +kernel
theorem dX4_readWord_41 : decode cX4_readWord 41 = .ok (.aload_n 0, 1) := by decide +kernel
theorem dX4_readWord_42 : decode cX4_readWord 42 = .ok (.iconst 0, 1) := by decide +kernel
theorem dX4_readWord_43 : decode cX4_readWord 43 = .ok (.aload_n 0, 1) := by decide +kernel
theorem dX4_readWord_44 : decode cX4_readWord 44 = .ok (.getfield 19, 3) := by decide +kernel
theorem dX4_readWord_47 : decode cX4_readWord 47 = .ok (.getfield 116, 3) := by decide +kernel
theorem dX4_readWord_50 : decode cX4_readWord 50 = .ok (.iconst 1, 1) := by decide +kernel
theorem dX4_readWord_51 : decode cX4_readWord 51 = .ok (.isub, 1) := by decide +kernel
theorem dX4_readWord_52 : decode cX4_readWord 52 = .ok (.invokevirtual 88, 3) := by decide +kernel
theorem dX4_readWord_55 : decode cX4_readWord 55 = .ok (.istore_n 2, 1) := by decide +kernel
theorem dX4_readWord_56 : decode cX4_readWord 56 = .ok (.aload_n 0, 1) := by decide +kernel
theorem dX4_readWord_57 : decode cX4_readWord 57 = .ok (.ldc 135, 2) := by decide +kernel
theorem dX4_readWord_59 : decode cX4_readWord 59 = .ok (.invokevirtual 82, 3) := by decide +kernel
theorem dX4_readWord_62 : decode cX4_readWord 62 = .ok (.aload_n 0, 1) := by decide +kernel
theorem dX4_readWord_63 : decode cX4_readWord 63 = .ok (.iconst 0, 1) := by decide +kernel
theorem dX4_readWord_64 : decode cX4_readWord 64 = .ok (.iconst 3, 1) := by decide +kernel
theorem dX4_readWord_65 : decode cX4_readWord 65 = .ok (.invokevirtual 88, 3) := by decide +kernel
theorem dX4_readWord_68 : decode cX4_readWord 68 = .ok (.istore_n 3, 1) := by decide +kernel
theorem dX4_readWord_69 : decode cX4_readWord 69 = .ok (.aload_n 0, 1) := by decide +kernel
theorem dX4_readWord_70 : decode cX4_readWord 70 = .ok (.ldc 137, 2) := by decide +kernel
theorem dX4_readWord_72 : decode cX4_readWord 72 = .ok (.invokevirtual 82, 3) := by decide +kernel
theorem dX4_readWord_75 : decode cX4_readWord 75 = .ok (.aload_n 0, 1) := by decide +kernel
theorem dX4_readWord_76 : decode cX4_readWord 76 = .ok (.invokevirtual 139, 3) := by decide +kernel
theorem dX4_readWord_79 : decode cX4_readWord 79 = .ok (.istore 4, 2) := by decide +kernel
theorem dX4_readWord_81 : decode cX4_readWord 81 = .ok (.aload_n 0, 1) := by decide +kernel
theorem dX4_readWord_82 : decode cX4_readWord 82 = .ok (.getfield 23, 3) := by decide +kernel
theorem dX4_readWord_85 : decode cX4_readWord 85 = .ok (.ifCond .ne 15, 3) := by decide +kernel
theorem dX4_readWord_88 : decode cX4_readWord 88 = .ok (.aload_n 0, 1) := by decide +kernel
theorem dX4_readWord_89 : decode cX4_readWord 89 = .ok (.getfield 19, 3) := by decide +kernel
theorem dX4_readWord_92 : decode cX4_readWord 92 = .ok (.iload_n 1, 1) := by decide +kernel
theorem dX4_readWord_93 : decode cX4_readWord 93 = .ok (.iload_n 2, 1) := by decide +kernel
theorem dX4_readWord_94 : decode cX4_readWord 94 = .ok (.iload_n 3, 1) := by decide +kernel
theorem dX4_readWord_95 : decode cX4_readWord 95 = .ok (.iload 4, 2) := by decide +kernel
theorem dX4_readWord_97 : decode cX4_readWord 97 = .ok (.invokevirtual 142, 3) := by decide +kernel
theorem dX4_readWord_100 : decode cX4_readWord 100 = .ok (.return_, 1) := by decide +kernel
theorem m_239 : Cond.fieldLink RX4 15 "WordSeats$Reader" "tape" "LWordSeats$Tape;" ∈ TB := tb_m 239 (by decide +kernel) (by decide +kernel)
theorem m_240 : Cond.fieldLink RX4 19 "WordSeats$Reader" "draft" "LWordSeats$Chamber;" ∈ TB := tb_m 240 (by decide +kernel) (by decide +kernel)
theorem m_241 : Cond.fieldLink RX4 23 "WordSeats$Reader" "fault" "I" ∈ TB := tb_m 241 (by decide +kernel) (by decide +kernel)
theorem m_243 : Cond.fieldLink RX4 9 "WordSeats$Reader" "place" "I" ∈ TB := tb_m 243 (by decide +kernel) (by decide +kernel)
theorem m_245 : Cond.fieldLink RX4 37 "WordSeats$Reader" "kind" "I" ∈ TB := tb_m 245 (by decide +kernel) (by decide +kernel)
theorem m_246 : Cond.fieldLink RX4 183 "WordSeats$Reader" "from" "I" ∈ TB := tb_m 246 (by decide +kernel) (by decide +kernel)
theorem m_247 : Cond.fieldLink RX4 26 "WordSeats$Reader" "past" "I" ∈ TB := tb_m 247 (by decide +kernel) (by decide +kernel)
theorem m_248 : Cond.fieldLink RX4 180 "WordSeats$Reader" "value" "I" ∈ TB := tb_m 248 (by decide +kernel) (by decide +kernel)
theorem m_434 : Cond.fieldLink RX11 19 "WordSeats" "draft" "LWordSeats$Chamber;" ∈ TB := tb_m 434 (by decide +kernel) (by decide +kernel)
theorem m_490 : Cond.methodLink RX11 99 yX4_read ∈ TB := tb_m 490 (by decide +kernel) (by decide +kernel)
theorem m_491 : Cond.instanceMethod yX4_read ∈ TB := tb_m 491 (by decide +kernel) (by decide +kernel)
theorem m_492 : Cond.selects RX4 yX4_read yX4_read ∈ TB := tb_m 492 (by decide +kernel) (by decide +kernel)
theorem m_493 : Cond.code yX4_read cX4_read 2 none ∈ TB := tb_m 493 (by decide +kernel) (by decide +kernel)
theorem m_494 : Cond.methodLink RX4 29 yX0_clear ∈ TB := tb_m 494 (by decide +kernel) (by decide +kernel)
theorem m_495 : Cond.instanceMethod yX0_clear ∈ TB := tb_m 495 (by decide +kernel) (by decide +kernel)
theorem m_496 : Cond.selects RX0 yX0_clear yX0_clear ∈ TB := tb_m 496 (by decide +kernel) (by decide +kernel)
theorem m_497 : Cond.code yX0_clear cX0_clear 1 none ∈ TB := tb_m 497 (by decide +kernel) (by decide +kernel)
theorem m_509 : Cond.methodLink RX4 34 yX4_advance ∈ TB := tb_m 509 (by decide +kernel) (by decide +kernel)
theorem m_511 : Cond.instanceMethod yX4_advance ∈ TB := tb_m 511 (by decide +kernel) (by decide +kernel)
theorem m_512 : Cond.code yX4_advance cX4_advance 1 none ∈ TB := tb_m 512 (by decide +kernel) (by decide +kernel)
theorem m_513 : Cond.methodLink RX4 191 yX8_at ∈ TB := tb_m 513 (by decide +kernel) (by decide +kernel)
theorem m_514 : Cond.instanceMethod yX8_at ∈ TB := tb_m 514 (by decide +kernel) (by decide +kernel)
theorem m_515 : Cond.selects RX8 yX8_at yX8_at ∈ TB := tb_m 515 (by decide +kernel) (by decide +kernel)
theorem m_516 : Cond.code yX8_at cX8_at 2 (some .int) ∈ TB := tb_m 516 (by decide +kernel) (by decide +kernel)
theorem m_517 : Cond.methodLink RX4 202 yX4_isBlank ∈ TB := tb_m 517 (by decide +kernel) (by decide +kernel)
theorem m_518 : Cond.static yX4_isBlank ∈ TB := tb_m 518 (by decide +kernel) (by decide +kernel)
theorem m_519 : Cond.code yX4_isBlank cX4_isBlank 1 (some .boolean) ∈ TB := tb_m 519 (by decide +kernel) (by decide +kernel)
theorem m_520 : Cond.methodLink RX4 206 yX4_isLetter ∈ TB := tb_m 520 (by decide +kernel) (by decide +kernel)
theorem m_521 : Cond.static yX4_isLetter ∈ TB := tb_m 521 (by decide +kernel) (by decide +kernel)
theorem m_522 : Cond.code yX4_isLetter cX4_isLetter 1 (some .boolean) ∈ TB := tb_m 522 (by decide +kernel) (by decide +kernel)
theorem m_523 : Cond.methodLink RX4 209 yX4_isDigit ∈ TB := tb_m 523 (by decide +kernel) (by decide +kernel)
theorem m_524 : Cond.static yX4_isDigit ∈ TB := tb_m 524 (by decide +kernel) (by decide +kernel)
theorem m_525 : Cond.code yX4_isDigit cX4_isDigit 1 (some .boolean) ∈ TB := tb_m 525 (by decide +kernel) (by decide +kernel)
theorem m_526 : Cond.methodLink RX4 212 Lib.Math.min.name ∈ TB := tb_m 526 (by decide +kernel) (by decide +kernel)
theorem m_529 : Cond.methodLink RX4 40 yX4_readLine ∈ TB := tb_m 529 (by decide +kernel) (by decide +kernel)
theorem m_531 : Cond.instanceMethod yX4_readLine ∈ TB := tb_m 531 (by decide +kernel) (by decide +kernel)
theorem m_532 : Cond.code yX4_readLine cX4_readLine 1 none ∈ TB := tb_m 532 (by decide +kernel) (by decide +kernel)
theorem m_533 : Cond.methodLink RX4 49 yX4_readChamber ∈ TB := tb_m 533 (by decide +kernel) (by decide +kernel)
theorem m_535 : Cond.instanceMethod yX4_readChamber ∈ TB := tb_m 535 (by decide +kernel) (by decide +kernel)
theorem m_536 : Cond.code yX4_readChamber cX4_readChamber 5 none ∈ TB := tb_m 536 (by decide +kernel) (by decide +kernel)
theorem m_538 : Cond.methodLink RX4 82 yX4_expect ∈ TB := tb_m 538 (by decide +kernel) (by decide +kernel)
theorem m_540 : Cond.instanceMethod yX4_expect ∈ TB := tb_m 540 (by decide +kernel) (by decide +kernel)
theorem m_541 : Cond.code yX4_expect cX4_expect 2 none ∈ TB := tb_m 541 (by decide +kernel) (by decide +kernel)
theorem m_542 : Cond.methodLink RX4 54 yX4_isName ∈ TB := tb_m 542 (by decide +kernel) (by decide +kernel)
theorem m_544 : Cond.instanceMethod yX4_isName ∈ TB := tb_m 544 (by decide +kernel) (by decide +kernel)
theorem m_545 : Cond.code yX4_isName cX4_isName 3 (some .boolean) ∈ TB := tb_m 545 (by decide +kernel) (by decide +kernel)
theorem m_546 : Cond.methodLink RX4 186 yJ0_length_8abf5 ∈ TB := tb_m 546 (by decide +kernel) (by decide +kernel)
theorem m_556 : Cond.methodLink RX4 196 yJ0_charAt_5068e ∈ TB := tb_m 556 (by decide +kernel) (by decide +kernel)
theorem m_594 : Cond.methodLink RX4 76 yX4_blame ∈ TB := tb_m 594 (by decide +kernel) (by decide +kernel)
theorem m_596 : Cond.instanceMethod yX4_blame ∈ TB := tb_m 596 (by decide +kernel) (by decide +kernel)
theorem m_597 : Cond.code yX4_blame cX4_blame 2 none ∈ TB := tb_m 597 (by decide +kernel) (by decide +kernel)
theorem m_599 : Cond.methodLink RX4 88 yX4_readNumber ∈ TB := tb_m 599 (by decide +kernel) (by decide +kernel)
theorem m_6 : Cond.initialized RX4 ∈ TB := tb_m 6 (by decide +kernel) (by decide +kernel)
theorem m_601 : Cond.instanceMethod yX4_readNumber ∈ TB := tb_m 601 (by decide +kernel) (by decide +kernel)
theorem m_602 : Cond.code yX4_readNumber cX4_readNumber 4 (some .int) ∈ TB := tb_m 602 (by decide +kernel) (by decide +kernel)
theorem m_604 : Cond.methodLink RX4 94 yX4_readLaw ∈ TB := tb_m 604 (by decide +kernel) (by decide +kernel)
theorem m_606 : Cond.instanceMethod yX4_readLaw ∈ TB := tb_m 606 (by decide +kernel) (by decide +kernel)
theorem m_607 : Cond.code yX4_readLaw cX4_readLaw 2 (some .int) ∈ TB := tb_m 607 (by decide +kernel) (by decide +kernel)
theorem m_614 : Cond.methodLink RX4 102 yX0_open ∈ TB := tb_m 614 (by decide +kernel) (by decide +kernel)
theorem m_616 : Cond.methodLink RX4 58 yX4_readDistrict ∈ TB := tb_m 616 (by decide +kernel) (by decide +kernel)
theorem m_618 : Cond.instanceMethod yX4_readDistrict ∈ TB := tb_m 618 (by decide +kernel) (by decide +kernel)
theorem m_619 : Cond.code yX4_readDistrict cX4_readDistrict 2 none ∈ TB := tb_m 619 (by decide +kernel) (by decide +kernel)
theorem m_620 : Cond.methodLink RX4 119 yX4_begin ∈ TB := tb_m 620 (by decide +kernel) (by decide +kernel)
theorem m_622 : Cond.instanceMethod yX4_begin ∈ TB := tb_m 622 (by decide +kernel) (by decide +kernel)
theorem m_623 : Cond.code yX4_begin cX4_begin 2 none ∈ TB := tb_m 623 (by decide +kernel) (by decide +kernel)
theorem m_625 : Cond.methodLink RX4 125 yX0_addDistrict ∈ TB := tb_m 625 (by decide +kernel) (by decide +kernel)
theorem m_626 : Cond.instanceMethod yX0_addDistrict ∈ TB := tb_m 626 (by decide +kernel) (by decide +kernel)
theorem m_627 : Cond.selects RX0 yX0_addDistrict yX0_addDistrict ∈ TB := tb_m 627 (by decide +kernel) (by decide +kernel)
theorem m_628 : Cond.code yX0_addDistrict cX0_addDistrict 2 none ∈ TB := tb_m 628 (by decide +kernel) (by decide +kernel)
theorem m_630 : Cond.methodLink RX4 63 yX4_readWord ∈ TB := tb_m 630 (by decide +kernel) (by decide +kernel)
theorem m_632 : Cond.instanceMethod yX4_readWord ∈ TB := tb_m 632 (by decide +kernel) (by decide +kernel)
theorem m_633 : Cond.code yX4_readWord cX4_readWord 5 none ∈ TB := tb_m 633 (by decide +kernel) (by decide +kernel)
theorem m_638 : Cond.methodLink RX4 139 yX4_readMeanings ∈ TB := tb_m 638 (by decide +kernel) (by decide +kernel)
theorem m_640 : Cond.instanceMethod yX4_readMeanings ∈ TB := tb_m 640 (by decide +kernel) (by decide +kernel)
theorem m_641 : Cond.code yX4_readMeanings cX4_readMeanings 3 (some .int) ∈ TB := tb_m 641 (by decide +kernel) (by decide +kernel)
theorem m_642 : Cond.methodLink RX4 142 yX0_addWord ∈ TB := tb_m 642 (by decide +kernel) (by decide +kernel)
theorem m_643 : Cond.instanceMethod yX0_addWord ∈ TB := tb_m 643 (by decide +kernel) (by decide +kernel)
theorem m_644 : Cond.selects RX0 yX0_addWord yX0_addWord ∈ TB := tb_m 644 (by decide +kernel) (by decide +kernel)
theorem m_645 : Cond.code yX0_addWord cX0_addWord 5 none ∈ TB := tb_m 645 (by decide +kernel) (by decide +kernel)
theorem m_647 : Cond.methodLink RX4 68 yX4_readSpeaker ∈ TB := tb_m 647 (by decide +kernel) (by decide +kernel)
theorem m_649 : Cond.instanceMethod yX4_readSpeaker ∈ TB := tb_m 649 (by decide +kernel) (by decide +kernel)
theorem m_650 : Cond.code yX4_readSpeaker cX4_readSpeaker 5 none ∈ TB := tb_m 650 (by decide +kernel) (by decide +kernel)
theorem m_654 : Cond.methodLink RX4 154 yX0_addSpeaker ∈ TB := tb_m 654 (by decide +kernel) (by decide +kernel)
theorem m_655 : Cond.instanceMethod yX0_addSpeaker ∈ TB := tb_m 655 (by decide +kernel) (by decide +kernel)
theorem m_656 : Cond.selects RX0 yX0_addSpeaker yX0_addSpeaker ∈ TB := tb_m 656 (by decide +kernel) (by decide +kernel)
theorem m_657 : Cond.code yX0_addSpeaker cX0_addSpeaker 5 none ∈ TB := tb_m 657 (by decide +kernel) (by decide +kernel)
theorem m_659 : Cond.methodLink RX4 73 yX4_readRound ∈ TB := tb_m 659 (by decide +kernel) (by decide +kernel)
theorem m_661 : Cond.instanceMethod yX4_readRound ∈ TB := tb_m 661 (by decide +kernel) (by decide +kernel)
theorem m_662 : Cond.code yX4_readRound cX4_readRound 4 none ∈ TB := tb_m 662 (by decide +kernel) (by decide +kernel)
theorem m_664 : Cond.methodLink RX4 170 yX4_readOther ∈ TB := tb_m 664 (by decide +kernel) (by decide +kernel)
theorem m_666 : Cond.instanceMethod yX4_readOther ∈ TB := tb_m 666 (by decide +kernel) (by decide +kernel)
theorem m_667 : Cond.code yX4_readOther cX4_readOther 2 (some .int) ∈ TB := tb_m 667 (by decide +kernel) (by decide +kernel)
theorem m_669 : Cond.methodLink RX4 176 yX5_add ∈ TB := tb_m 669 (by decide +kernel) (by decide +kernel)
theorem m_670 : Cond.instanceMethod yX5_add ∈ TB := tb_m 670 (by decide +kernel) (by decide +kernel)
theorem m_671 : Cond.selects RX5 yX5_add yX5_add ∈ TB := tb_m 671 (by decide +kernel) (by decide +kernel)
theorem m_672 : Cond.code yX5_add cX5_add 4 none ∈ TB := tb_m 672 (by decide +kernel) (by decide +kernel)
theorem m_673 : Cond.methodLink RX4 43 yX4_readClose ∈ TB := tb_m 673 (by decide +kernel) (by decide +kernel)
theorem m_675 : Cond.instanceMethod yX4_readClose ∈ TB := tb_m 675 (by decide +kernel) (by decide +kernel)
theorem m_676 : Cond.code yX4_readClose cX4_readClose 1 none ∈ TB := tb_m 676 (by decide +kernel) (by decide +kernel)
theorem m_s0 : Cond.selects RX4 yX4_advance yX4_advance ∈ TB := tb_s 0 (by decide +kernel) (by decide +kernel)
theorem m_s1 : Cond.selects RX4 yX4_readLine yX4_readLine ∈ TB := tb_s 1 (by decide +kernel) (by decide +kernel)
theorem m_s10 : Cond.selects RX4 yX4_readWord yX4_readWord ∈ TB := tb_s 10 (by decide +kernel) (by decide +kernel)
theorem m_s11 : Cond.selects RX4 yX4_readMeanings yX4_readMeanings ∈ TB := tb_s 11 (by decide +kernel) (by decide +kernel)
theorem m_s12 : Cond.selects RX4 yX4_readSpeaker yX4_readSpeaker ∈ TB := tb_s 12 (by decide +kernel) (by decide +kernel)
theorem m_s13 : Cond.selects RX4 yX4_readRound yX4_readRound ∈ TB := tb_s 13 (by decide +kernel) (by decide +kernel)
theorem m_s14 : Cond.selects RX4 yX4_readOther yX4_readOther ∈ TB := tb_s 14 (by decide +kernel) (by decide +kernel)
theorem m_s15 : Cond.selects RX4 yX4_readClose yX4_readClose ∈ TB := tb_s 15 (by decide +kernel) (by decide +kernel)
theorem m_s2 : Cond.selects RX4 yX4_readChamber yX4_readChamber ∈ TB := tb_s 2 (by decide +kernel) (by decide +kernel)
theorem m_s3 : Cond.selects RX4 yX4_expect yX4_expect ∈ TB := tb_s 3 (by decide +kernel) (by decide +kernel)
theorem m_s4 : Cond.selects RX4 yX4_isName yX4_isName ∈ TB := tb_s 4 (by decide +kernel) (by decide +kernel)
theorem m_s5 : Cond.selects RX4 yX4_blame yX4_blame ∈ TB := tb_s 5 (by decide +kernel) (by decide +kernel)
theorem m_s6 : Cond.selects RX4 yX4_readNumber yX4_readNumber ∈ TB := tb_s 6 (by decide +kernel) (by decide +kernel)
theorem m_s7 : Cond.selects RX4 yX4_readLaw yX4_readLaw ∈ TB := tb_s 7 (by decide +kernel) (by decide +kernel)
theorem m_s8 : Cond.selects RX4 yX4_readDistrict yX4_readDistrict ∈ TB := tb_s 8 (by decide +kernel) (by decide +kernel)
theorem m_s9 : Cond.selects RX4 yX4_begin yX4_begin ∈ TB := tb_s 9 (by decide +kernel) (by decide +kernel)
theorem n_118 : Cond.fieldLinkNest RX4 46 "WordSeats$Chamber" "lines" "I" "WordSeats" ∈ NB := nb_m 118 (by decide +kernel) rfl
theorem n_123 : Cond.fieldLinkNest RX4 166 "WordSeats$Chamber" "meanings" "I" "WordSeats" ∈ NB := nb_m 123 (by decide +kernel) rfl
theorem n_137 : Cond.fieldLinkNest RX4 116 "WordSeats$Chamber" "districts" "I" "WordSeats" ∈ NB := nb_m 137 (by decide +kernel) rfl
theorem n_145 : Cond.fieldLinkNest RX4 128 "WordSeats$Chamber" "words" "I" "WordSeats" ∈ NB := nb_m 145 (by decide +kernel) rfl
theorem n_150 : Cond.fieldLinkNest RX4 145 "WordSeats$Chamber" "speakers" "I" "WordSeats" ∈ NB := nb_m 150 (by decide +kernel) rfl
theorem n_187 : Cond.fieldLinkNest RX4 157 "WordSeats$Chamber" "rounds" "LWordSeats$Rounds;" "WordSeats" ∈ NB := nb_m 187 (by decide +kernel) rfl
theorem n_39 : Cond.fieldLinkNest RX4 200 "WordSeats$Tape" "length" "I" "WordSeats" ∈ NB := nb_m 39 (by decide +kernel) rfl
theorem n_61 : Cond.fieldLinkNest RX4 161 "WordSeats$Rounds" "known" "I" "WordSeats" ∈ NB := nb_m 61 (by decide +kernel) rfl
theorem hd_X0_addDistrict : hdT yX0_addDistrict 1 := by decide +kernel
theorem hd_X0_addSpeaker : hdT yX0_addSpeaker 4 := by decide +kernel
theorem hd_X0_addWord : hdT yX0_addWord 4 := by decide +kernel
theorem hd_X0_clear : hdT yX0_clear 0 := by decide +kernel
theorem hd_X4_advance : hdT yX4_advance 0 := by decide +kernel
theorem hd_X4_begin : hdT yX4_begin 1 := by decide +kernel
theorem hd_X4_blame : hdT yX4_blame 1 := by decide +kernel
theorem hd_X4_expect : hdT yX4_expect 1 := by decide +kernel
theorem hd_X4_isBlank : hdT yX4_isBlank 1 := by decide +kernel
theorem hd_X4_isDigit : hdT yX4_isDigit 1 := by decide +kernel
theorem hd_X4_isLetter : hdT yX4_isLetter 1 := by decide +kernel
theorem hd_X4_isName : hdT yX4_isName 1 := by decide +kernel
theorem hd_X4_read : hdT yX4_read 0 := by decide +kernel
theorem hd_X4_readChamber : hdT yX4_readChamber 0 := by decide +kernel
theorem hd_X4_readClose : hdT yX4_readClose 0 := by decide +kernel
theorem hd_X4_readDistrict : hdT yX4_readDistrict 0 := by decide +kernel
theorem hd_X4_readLaw : hdT yX4_readLaw 0 := by decide +kernel
theorem hd_X4_readLine : hdT yX4_readLine 0 := by decide +kernel
theorem hd_X4_readMeanings : hdT yX4_readMeanings 0 := by decide +kernel
theorem hd_X4_readNumber : hdT yX4_readNumber 2 := by decide +kernel
theorem hd_X4_readOther : hdT yX4_readOther 1 := by decide +kernel
theorem hd_X4_readRound : hdT yX4_readRound 0 := by decide +kernel
theorem hd_X4_readSpeaker : hdT yX4_readSpeaker 0 := by decide +kernel
theorem hd_X4_readWord : hdT yX4_readWord 0 := by decide +kernel
theorem hd_X5_add : hdT yX5_add 3 := by decide +kernel
theorem hd_X8_at : hdT yX8_at 1 := by decide +kernel
