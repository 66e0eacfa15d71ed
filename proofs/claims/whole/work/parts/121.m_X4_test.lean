/-! X4_test X4_late X4_lastTurn X4_twoTurns -/
set_option maxRecDepth 20000 in
theorem ggX4_test_X4_isStation : GoodIn wsX4_test wsX4_isStation := goodIn_r _ [10, 1, 11, 12, 9, 13, 66, 67, 68, 69, 70, 71, 72, 73, 74, 75, 76, 77, 78, 79, 80, 81, 82, 83, 84, 85, 86, 87] (by decide +kernel) (by decide +kernel)
set_option maxRecDepth 20000 in
theorem gX4_test_X4_isStation : GoodIn wsX4_test (wsV RX4 132 RX4 yX4_isStation wsX4_isStation) := goodIn_app (goodIn_of _ (by decide +kernel)) ggX4_test_X4_isStation
set_option maxRecDepth 20000 in
theorem ggX4_test_X4_isRow : GoodIn wsX4_test wsX4_isRow := goodIn_r _ [16, 11, 12, 9, 13] (by decide +kernel) (by decide +kernel)
set_option maxRecDepth 20000 in
theorem gX4_test_X4_isRow : GoodIn wsX4_test (va_wsS RX4 77 yX4_isRow wsX4_isRow) := goodIn_app (goodIn_of _ (by decide +kernel)) ggX4_test_X4_isRow
set_option maxRecDepth 20000 in
theorem ggX4_test_X4_unfit : GoodIn wsX4_test wsX4_unfit := goodIn_r _ [20, 21, 22, 11, 12, 9, 13, 66, 67, 68, 69, 70, 71, 72, 73, 74, 75, 76, 77, 78, 79, 80, 81, 82, 83, 84, 85, 86, 87] (by decide +kernel) (by decide +kernel)
set_option maxRecDepth 20000 in
theorem gX4_test_X4_unfit : GoodIn wsX4_test (wsV RX4 175 RX4 yX4_unfit wsX4_unfit) := goodIn_app (goodIn_of _ (by decide +kernel)) ggX4_test_X4_unfit
set_option maxRecDepth 20000 in
theorem ggX4_test_X4_finds : GoodIn wsX4_test wsX4_finds := goodIn_r _ [26, 27, 28, 66, 67, 68, 69, 70, 71, 72, 73, 74, 75, 76, 77, 78, 79, 80, 81, 82, 83, 84, 85, 86, 87] (by decide +kernel) (by decide +kernel)
set_option maxRecDepth 20000 in
theorem gX4_test_X4_finds : GoodIn wsX4_test (wsV RX4 81 RX4 yX4_finds wsX4_finds) := goodIn_app (goodIn_of _ (by decide +kernel)) ggX4_test_X4_finds
set_option maxRecDepth 20000 in
theorem ggX4_test_X4_fitting : GoodIn wsX4_test wsX4_fitting := goodIn_r _ [32, 1, 2, 21, 22, 33, 34, 9, 35, 36, 37, 38, 39, 40, 41, 42, 43, 44, 45, 46, 47, 48, 49, 50, 51, 52, 53, 54, 55, 56, 57, 58, 59, 60, 61, 62, 63, 64, 65, 66, 67, 68, 69, 70, 71, 72, 73, 74, 75, 76, 77, 78, 79, 80, 81, 82, 83, 84, 85, 86, 87] (by decide +kernel) (by decide +kernel)
set_option maxRecDepth 20000 in
theorem gX4_test_X4_fitting : GoodIn wsX4_test (wsV RX4 178 RX4 yX4_fitting wsX4_fitting) := goodIn_app (goodIn_of _ (by decide +kernel)) ggX4_test_X4_fitting
set_option maxRecDepth 20000 in
theorem ggX4_test_X4_copies : GoodIn wsX4_test wsX4_copies := goodIn_r _ [35] (by decide +kernel) (by decide +kernel)
set_option maxRecDepth 20000 in
theorem gX4_test_X4_copies : GoodIn wsX4_test (va_wsS RX4 165 yX4_copies wsX4_copies) := goodIn_app (goodIn_of _ (by decide +kernel)) ggX4_test_X4_copies
set_option maxRecDepth 20000 in
theorem ggX4_test_X4_goes : GoodIn wsX4_test wsX4_goes := goodIn_r _ [38, 39, 40, 9, 41, 42, 43, 44, 45, 46, 47, 48, 49, 50, 51, 52, 53, 54, 55, 56, 57, 58, 59, 60, 61, 62, 63, 64, 65] (by decide +kernel) (by decide +kernel)
set_option maxRecDepth 20000 in
theorem gX4_test_X4_goes : GoodIn wsX4_test (va_wsS RX4 159 yX4_goes wsX4_goes) := goodIn_app (goodIn_of _ (by decide +kernel)) ggX4_test_X4_goes
set_option maxRecDepth 20000 in
theorem ggX4_test_X4_ones : GoodIn wsX4_test wsX4_ones := goodIn_r _ [53] (by decide +kernel) (by decide +kernel)
set_option maxRecDepth 20000 in
theorem gX4_test_X4_ones : GoodIn wsX4_test (va_wsS RX4 149 yX4_ones wsX4_ones) := goodIn_app (goodIn_of _ (by decide +kernel)) ggX4_test_X4_ones
set_option maxRecDepth 20000 in
theorem ggX4_test_X4_has : GoodIn wsX4_test wsX4_has := goodIn_r _ [50] (by decide +kernel) (by decide +kernel)
set_option maxRecDepth 20000 in
theorem gX4_test_X4_has : GoodIn wsX4_test (va_wsS RX4 125 yX4_has wsX4_has) := goodIn_app (goodIn_of _ (by decide +kernel)) ggX4_test_X4_has
theorem dX4_test_0 : decode cX4_test 0 = .ok (.aload_n 0, 1) := by decide +kernel
theorem dX4_test_1 : decode cX4_test 1 = .ok (.iload_n 1, 1) := by decide +kernel
theorem dX4_test_2 : decode cX4_test 2 = .ok (.invokevirtual 132, 3) := by decide +kernel
theorem dX4_test_5 : decode cX4_test 5 = .ok (.ifCond .eq 10, 3) := by decide +kernel
theorem dX4_test_8 : decode cX4_test 8 = .ok (.iload_n 2, 1) := by decide +kernel
theorem dX4_test_9 : decode cX4_test 9 = .ok (.invokestatic 77, 3) := by decide +kernel
theorem dX4_test_12 : decode cX4_test 12 = .ok (.ifCond .ne 5, 3) := by decide +kernel
theorem dX4_test_15 : decode cX4_test 15 = .ok (.iconst (-1), 1) := by decide +kernel
theorem dX4_test_16 : decode cX4_test 16 = .ok (.ireturn, 1) := by decide +kernel
theorem dX4_test_17 : decode cX4_test 17 = .ok (.aload_n 0, 1) := by decide +kernel
theorem dX4_test_18 : decode cX4_test 18 = .ok (.iload_n 2, 1) := by decide +kernel
theorem dX4_test_19 : decode cX4_test 19 = .ok (.invokevirtual 175, 3) := by decide +kernel
theorem dX4_test_22 : decode cX4_test 22 = .ok (.istore_n 3, 1) := by decide +kernel
theorem dX4_test_23 : decode cX4_test 23 = .ok (.iload_n 3, 1) := by decide +kernel
theorem dX4_test_24 : decode cX4_test 24 = .ok (.ifCond .eq 9, 3) := by decide +kernel
theorem dX4_test_27 : decode cX4_test 27 = .ok (.aload_n 0, 1) := by decide +kernel
theorem dX4_test_28 : decode cX4_test 28 = .ok (.iload_n 3, 1) := by decide +kernel
theorem dX4_test_29 : decode cX4_test 29 = .ok (.invokevirtual 81, 3) := by decide +kernel
theorem dX4_test_32 : decode cX4_test 32 = .ok (.ireturn, 1) := by decide +kernel
theorem dX4_test_33 : decode cX4_test 33 = .ok (.aload_n 0, 1) := by decide +kernel
theorem dX4_test_34 : decode cX4_test 34 = .ok (.bipush 33, 2) := by decide +kernel
theorem dX4_test_36 : decode cX4_test 36 = .ok (.iconst 5, 1) := by decide +kernel
theorem dX4_test_37 : decode cX4_test 37 = .ok (.iload_n 1, 1) := by decide +kernel
theorem dX4_test_38 : decode cX4_test 38 = .ok (.iload_n 2, 1) := by decide +kernel
theorem dX4_test_39 : decode cX4_test 39 = .ok (.invokevirtual 178, 3) := by decide +kernel
theorem dX4_test_42 : decode cX4_test 42 = .ok (.istore 4, 2) := by decide +kernel
theorem dX4_test_44 : decode cX4_test 44 = .ok (.iconst 0, 1) := by decide +kernel
theorem dX4_test_45 : decode cX4_test 45 = .ok (.istore 5, 2) := by decide +kernel
theorem dX4_test_47 : decode cX4_test 47 = .ok (.iload 5, 2) := by decide +kernel
theorem dX4_test_49 : decode cX4_test 49 = .ok (.iconst 5, 1) := by decide +kernel
theorem dX4_test_50 : decode cX4_test 50 = .ok (.if_icmp .gt 70, 3) := by decide +kernel
theorem dX4_test_53 : decode cX4_test 53 = .ok (.aload_n 0, 1) := by decide +kernel
theorem dX4_test_54 : decode cX4_test 54 = .ok (.getfield 26, 3) := by decide +kernel
theorem dX4_test_57 : decode cX4_test 57 = .ok (.aload_n 0, 1) := by decide +kernel
theorem dX4_test_58 : decode cX4_test 58 = .ok (.getfield 32, 3) := by decide +kernel
theorem dX4_test_61 : decode cX4_test 61 = .ok (.invokestatic 165, 3) := by decide +kernel
theorem dX4_test_64 : decode cX4_test 64 = .ok (.aload_n 0, 1) := by decide +kernel
theorem dX4_test_65 : decode cX4_test 65 = .ok (.getfield 32, 3) := by decide +kernel
theorem dX4_test_68 : decode cX4_test 68 = .ok (.bipush 33, 2) := by decide +kernel
theorem dX4_test_70 : decode cX4_test 70 = .ok (.iload_n 1, 1) := by decide +kernel
theorem dX4_test_71 : decode cX4_test 71 = .ok (.iadd, 1) := by decide +kernel
theorem dX4_test_72 : decode cX4_test 72 = .ok (.iload 5, 2) := by decide +kernel
theorem dX4_test_74 : decode cX4_test 74 = .ok (.iastore, 1) := by decide +kernel
theorem dX4_test_75 : decode cX4_test 75 = .ok (.iconst 1, 1) := by decide +kernel
theorem dX4_test_76 : decode cX4_test 76 = .ok (.istore 6, 2) := by decide +kernel
theorem dX4_test_78 : decode cX4_test 78 = .ok (.iload 6, 2) := by decide +kernel
theorem dX4_test_80 : decode cX4_test 80 = .ok (.bipush 21, 2) := by decide +kernel
theorem dX4_test_82 : decode cX4_test 82 = .ok (.if_icmp .ge 32, 3) := by decide +kernel
theorem dX4_test_85 : decode cX4_test 85 = .ok (.aload_n 0, 1) := by decide +kernel
theorem dX4_test_86 : decode cX4_test 86 = .ok (.getfield 63, 3) := by decide +kernel
theorem dX4_test_89 : decode cX4_test 89 = .ok (.bipush 21, 2) := by decide +kernel
theorem dX4_test_91 : decode cX4_test 91 = .ok (.iload 5, 2) := by decide +kernel
theorem dX4_test_93 : decode cX4_test 93 = .ok (.imul, 1) := by decide +kernel
theorem dX4_test_94 : decode cX4_test 94 = .ok (.iload 6, 2) := by decide +kernel
theorem dX4_test_96 : decode cX4_test 96 = .ok (.iadd, 1) := by decide +kernel
theorem dX4_test_97 : decode cX4_test 97 = .ok (.aload_n 0, 1) := by decide +kernel
theorem dX4_test_98 : decode cX4_test 98 = .ok (.getfield 32, 3) := by decide +kernel
theorem dX4_test_101 : decode cX4_test 101 = .ok (.invokestatic 159, 3) := by decide +kernel
theorem dX4_test_104 : decode cX4_test 104 = .ok (.invokestatic 149, 3) := by decide +kernel
theorem dX4_test_107 : decode cX4_test 107 = .ok (.iastore, 1) := by decide +kernel
theorem dX4_test_108 : decode cX4_test 108 = .ok (.iinc 6 1, 3) := by decide +kernel
theorem dX4_test_111 : decode cX4_test 111 = .ok (.goto (-33), 3) := by decide +kernel
theorem dX4_test_114 : decode cX4_test 114 = .ok (.iinc 5 1, 3) := by decide +kernel
theorem dX4_test_117 : decode cX4_test 117 = .ok (.goto (-70), 3) := by decide +kernel
theorem dX4_test_120 : decode cX4_test 120 = .ok (.bipush (-9), 2) := by decide +kernel
theorem dX4_test_122 : decode cX4_test 122 = .ok (.istore 5, 2) := by decide +kernel
theorem dX4_test_124 : decode cX4_test 124 = .ok (.bipush 99, 2) := by decide +kernel
theorem dX4_test_126 : decode cX4_test 126 = .ok (.istore 6, 2) := by decide +kernel
theorem dX4_test_128 : decode cX4_test 128 = .ok (.iconst 1, 1) := by decide +kernel
theorem dX4_test_129 : decode cX4_test 129 = .ok (.istore 7, 2) := by decide +kernel
theorem dX4_test_131 : decode cX4_test 131 = .ok (.iload 7, 2) := by decide +kernel
theorem dX4_test_133 : decode cX4_test 133 = .ok (.bipush 21, 2) := by decide +kernel
theorem dX4_test_135 : decode cX4_test 135 = .ok (.if_icmp .ge 154, 3) := by decide +kernel
theorem dX4_test_138 : decode cX4_test 138 = .ok (.iload 4, 2) := by decide +kernel
theorem dX4_test_140 : decode cX4_test 140 = .ok (.ifCond .eq 149, 3) := by decide +kernel
theorem dX4_test_143 : decode cX4_test 143 = .ok (.iconst 0, 1) := by decide +kernel
theorem dX4_test_144 : decode cX4_test 144 = .ok (.istore 8, 2) := by decide +kernel
theorem dX4_test_146 : decode cX4_test 146 = .ok (.iload 8, 2) := by decide +kernel
theorem dX4_test_148 : decode cX4_test 148 = .ok (.bipush 8, 2) := by decide +kernel
theorem dX4_test_150 : decode cX4_test 150 = .ok (.if_icmp .ge 17, 3) := by decide +kernel
theorem dX4_test_153 : decode cX4_test 153 = .ok (.aload_n 0, 1) := by decide +kernel
theorem dX4_test_154 : decode cX4_test 154 = .ok (.getfield 60, 3) := by decide +kernel
theorem dX4_test_157 : decode cX4_test 157 = .ok (.iload 8, 2) := by decide +kernel
theorem dX4_test_159 : decode cX4_test 159 = .ok (.iconst 0, 1) := by decide +kernel
theorem dX4_test_160 : decode cX4_test 160 = .ok (.iastore, 1) := by decide +kernel
theorem dX4_test_161 : decode cX4_test 161 = .ok (.iinc 8 1, 3) := by decide +kernel
theorem dX4_test_164 : decode cX4_test 164 = .ok (.goto (-18), 3) := by decide +kernel
theorem dX4_test_167 : decode cX4_test 167 = .ok (.iconst 0, 1) := by decide +kernel
theorem dX4_test_168 : decode cX4_test 168 = .ok (.istore 8, 2) := by decide +kernel
theorem dX4_test_170 : decode cX4_test 170 = .ok (.iconst 0, 1) := by decide +kernel
theorem dX4_test_171 : decode cX4_test 171 = .ok (.istore 9, 2) := by decide +kernel
theorem dX4_test_173 : decode cX4_test 173 = .ok (.iload 9, 2) := by decide +kernel
theorem dX4_test_175 : decode cX4_test 175 = .ok (.iconst 5, 1) := by decide +kernel
theorem dX4_test_176 : decode cX4_test 176 = .ok (.if_icmp .gt 75, 3) := by decide +kernel
theorem dX4_test_179 : decode cX4_test 179 = .ok (.aload_n 0, 1) := by decide +kernel
theorem dX4_test_180 : decode cX4_test 180 = .ok (.getfield 63, 3) := by decide +kernel
theorem dX4_test_183 : decode cX4_test 183 = .ok (.bipush 21, 2) := by decide +kernel
theorem dX4_test_185 : decode cX4_test 185 = .ok (.iload 9, 2) := by decide +kernel
theorem dX4_test_187 : decode cX4_test 187 = .ok (.imul, 1) := by decide +kernel
theorem dX4_test_188 : decode cX4_test 188 = .ok (.iload 7, 2) := by decide +kernel
theorem dX4_test_190 : decode cX4_test 190 = .ok (.iadd, 1) := by decide +kernel
theorem dX4_test_191 : decode cX4_test 191 = .ok (.iaload, 1) := by decide +kernel
theorem dX4_test_192 : decode cX4_test 192 = .ok (.istore 10, 2) := by decide +kernel
theorem dX4_test_194 : decode cX4_test 194 = .ok (.aload_n 0, 1) := by decide +kernel
theorem dX4_test_195 : decode cX4_test 195 = .ok (.getfield 60, 3) := by decide +kernel
theorem dX4_test_198 : decode cX4_test 198 = .ok (.iload 10, 2) := by decide +kernel
theorem dX4_test_200 : decode cX4_test 200 = .ok (.dup2, 1) := by decide +kernel
theorem dX4_test_201 : decode cX4_test 201 = .ok (.iaload, 1) := by decide +kernel
theorem dX4_test_202 : decode cX4_test 202 = .ok (.iload 4, 2) := by decide +kernel
theorem dX4_test_204 : decode cX4_test 204 = .ok (.iload 9, 2) := by decide +kernel
theorem dX4_test_206 : decode cX4_test 206 = .ok (.invokestatic 125, 3) := by decide +kernel
theorem dX4_test_209 : decode cX4_test 209 = .ok (.ifCond .eq 7, 3) := by decide +kernel
theorem dX4_test_212 : decode cX4_test 212 = .ok (.iconst 1, 1) := by decide +kernel
theorem dX4_test_213 : decode cX4_test 213 = .ok (.goto 4, 3) := by decide +kernel
theorem dX4_test_216 : decode cX4_test 216 = .ok (.iconst 0, 1) := by decide +kernel
theorem dX4_test_217 : decode cX4_test 217 = .ok (.iadd, 1) := by decide +kernel
theorem dX4_test_218 : decode cX4_test 218 = .ok (.iastore, 1) := by decide +kernel
theorem dX4_test_219 : decode cX4_test 219 = .ok (.aload_n 0, 1) := by decide +kernel
theorem dX4_test_220 : decode cX4_test 220 = .ok (.getfield 60, 3) := by decide +kernel
theorem dX4_test_223 : decode cX4_test 223 = .ok (.iload 10, 2) := by decide +kernel
theorem dX4_test_225 : decode cX4_test 225 = .ok (.iaload, 1) := by decide +kernel
theorem dX4_test_226 : decode cX4_test 226 = .ok (.iload 8, 2) := by decide +kernel
theorem dX4_test_228 : decode cX4_test 228 = .ok (.if_icmp .le 13, 3) := by decide +kernel
theorem dX4_test_231 : decode cX4_test 231 = .ok (.aload_n 0, 1) := by decide +kernel
theorem dX4_test_232 : decode cX4_test 232 = .ok (.getfield 60, 3) := by decide +kernel
theorem dX4_test_235 : decode cX4_test 235 = .ok (.iload 10, 2) := by decide +kernel
theorem dX4_test_237 : decode cX4_test 237 = .ok (.iaload, 1) := by decide +kernel
theorem dX4_test_238 : decode cX4_test 238 = .ok (.goto 5, 3) := by decide +kernel
theorem dX4_test_241 : decode cX4_test 241 = .ok (.iload 8, 2) := by decide +kernel
theorem dX4_test_243 : decode cX4_test 243 = .ok (.istore 8, 2) := by decide +kernel
theorem dX4_test_245 : decode cX4_test 245 = .ok (.iinc 9 1, 3) := by decide +kernel
theorem dX4_test_248 : decode cX4_test 248 = .ok (.goto (-75), 3) := by decide +kernel
theorem dX4_test_251 : decode cX4_test 251 = .ok (.iload 8, 2) := by decide +kernel
theorem dX4_test_253 : decode cX4_test 253 = .ok (.iload 6, 2) := by decide +kernel
theorem dX4_test_255 : decode cX4_test 255 = .ok (.if_icmp .ge 8, 3) := by decide +kernel
theorem dX4_test_258 : decode cX4_test 258 = .ok (.iload 7, 2) := by decide +kernel
theorem dX4_test_260 : decode cX4_test 260 = .ok (.goto 5, 3) := by decide +kernel
theorem dX4_test_263 : decode cX4_test 263 = .ok (.iload 5, 2) := by decide +kernel
theorem dX4_test_265 : decode cX4_test 265 = .ok (.istore 5, 2) := by decide +kernel
theorem dX4_test_267 : decode cX4_test 267 = .ok (.iload 8, 2) := by decide +kernel
theorem dX4_test_269 : decode cX4_test 269 = .ok (.iload 6, 2) := by decide +kernel
theorem dX4_test_271 : decode cX4_test 271 = .ok (.if_icmp .ge 8, 3) := by decide +kernel
theorem dX4_test_274 : decode cX4_test 274 = .ok (.iload 8, 2) := by decide +kernel
theorem dX4_test_276 : decode cX4_test 276 = .ok (.goto 5, 3) := by decide +kernel
theorem dX4_test_279 : decode cX4_test 279 = .ok (.iload 6, 2) := by decide +kernel
theorem dX4_test_281 : decode cX4_test 281 = .ok (.istore 6, 2) := by decide +kernel
theorem dX4_test_283 : decode cX4_test 283 = .ok (.iinc 7 1, 3) := by decide +kernel
theorem dX4_test_286 : decode cX4_test 286 = .ok (.goto (-155), 3) := by decide +kernel
theorem dX4_test_289 : decode cX4_test 289 = .ok (.aload_n 0, 1) := by decide +kernel
theorem dX4_test_290 : decode cX4_test 290 = .ok (.iload 5, 2) := by decide +kernel
theorem dX4_test_292 : decode cX4_test 292 = .ok (.bipush (-9), 2) := by decide +kernel
theorem dX4_test_294 : decode cX4_test 294 = .ok (.if_icmp .ne 10, 3) := by decide +kernel
theorem dX4_test_297 : decode cX4_test 297 = .ok (.aload_n 0, 1) := by decide +kernel
theorem dX4_test_298 : decode cX4_test 298 = .ok (.getfield 70, 3) := by decide +kernel
theorem dX4_test_301 : decode cX4_test 301 = .ok (.goto 5, 3) := by decide +kernel
theorem dX4_test_304 : decode cX4_test 304 = .ok (.iload 6, 2) := by decide +kernel
theorem dX4_test_306 : decode cX4_test 306 = .ok (.putfield 70, 3) := by decide +kernel
theorem dX4_test_309 : decode cX4_test 309 = .ok (.iload 5, 2) := by decide +kernel
theorem dX4_test_311 : decode cX4_test 311 = .ok (.ireturn, 1) := by decide +kernel
/-! X4_test (II)I -/
abbrev rmX4_test : Room := { frames := 6, cells := 0, slots := 0, locals := 141 }
theorem lkX4_test_0 : Cond.fieldLink RX4 70 (TX4 14).1 (TX4 14).2.1 (TX4 14).2.2.1 ∈ wsX4_test := by decide +kernel
theorem lkX4_test_1 : Cond.fieldLink RX4 63 (TX4 21).1 (TX4 21).2.1 (TX4 21).2.2.1 ∈ wsX4_test := by decide +kernel
theorem lkX4_test_2 : Cond.fieldLink RX4 60 (TX4 20).1 (TX4 20).2.1 (TX4 20).2.2.1 ∈ wsX4_test := by decide +kernel
theorem lkX4_test_3 : Cond.fieldLink RX4 26 (TX4 5).1 (TX4 5).2.1 (TX4 5).2.2.1 ∈ wsX4_test := by decide +kernel
theorem lkX4_test_4 : Cond.fieldLink RX4 32 (TX4 7).1 (TX4 7).2.1 (TX4 7).2.2.1 ∈ wsX4_test := by decide +kernel
theorem inX4_test_X4 : ∀ w ∈ u_ws RX4 TX4 22, w ∈ wsX4_test := by decide +kernel
noncomputable def fX4_test_b306 (G : mm_G) (a0 : Nat) (x1 : Int32) (x2 : Int32) (x5 : Int32) (sx0 : Int32) (sa1 : Nat) (σ : mm_M) : Option ((Int32 × mm_M) ⊕ ((Int32 × Int32 × mm_M) ⊕ ((Int32 × Int32 × Int32 × mm_M) ⊕ ((Int32 × Int32 × Int32 × Int32 × mm_M) ⊕ ((Int32 × Int32 × Int32 × Int32 × Int32 × mm_M) ⊕ (Int32 × Int32 × Int32 × Int32 × Int32 × Int32 × mm_M)))))) := some (.inl (x5, mm_up σ sa1 14 sx0))
noncomputable def fX4_test_b289 (G : mm_G) (a0 : Nat) (x1 : Int32) (x2 : Int32) (x5 : Int32) (x6 : Int32) (σ : mm_M) : Option ((Int32 × mm_M) ⊕ ((Int32 × Int32 × mm_M) ⊕ ((Int32 × Int32 × Int32 × mm_M) ⊕ ((Int32 × Int32 × Int32 × Int32 × mm_M) ⊕ ((Int32 × Int32 × Int32 × Int32 × Int32 × mm_M) ⊕ (Int32 × Int32 × Int32 × Int32 × Int32 × Int32 × mm_M)))))) := fX4_test_b306 G a0 x1 x2 x5 (if x5 = (-9 : Int32) then σ.1 a0 14 else x6) a0 σ
noncomputable def fX4_test_b265 (G : mm_G) (a0 : Nat) (x1 : Int32) (x2 : Int32) (x4 : Int32) (x6 : Int32) (x7 : Int32) (x8 : Int32) (sx0 : Int32) (σ : mm_M) : Option ((Int32 × mm_M) ⊕ ((Int32 × Int32 × mm_M) ⊕ ((Int32 × Int32 × Int32 × mm_M) ⊕ ((Int32 × Int32 × Int32 × Int32 × mm_M) ⊕ ((Int32 × Int32 × Int32 × Int32 × Int32 × mm_M) ⊕ (Int32 × Int32 × Int32 × Int32 × Int32 × Int32 × mm_M)))))) := some (.inr (.inr (.inr (.inl (x4, sx0, if x8 < x6 then x8 else x6, x7 + 1, σ)))))
noncomputable def fX4_test_b217 (G : mm_G) (a0 : Nat) (x1 : Int32) (x2 : Int32) (x4 : Int32) (x5 : Int32) (x6 : Int32) (x7 : Int32) (x8 : Int32) (x9 : Int32) (x10 : Int32) (sx0 : Int32) (sx1 : Int32) (sx2 : Int32) (sa3 : Nat) (σ : mm_M) : Option ((Int32 × mm_M) ⊕ ((Int32 × Int32 × mm_M) ⊕ ((Int32 × Int32 × Int32 × mm_M) ⊕ ((Int32 × Int32 × Int32 × Int32 × mm_M) ⊕ ((Int32 × Int32 × Int32 × Int32 × Int32 × mm_M) ⊕ (Int32 × Int32 × Int32 × Int32 × Int32 × Int32 × mm_M)))))) := if sx2 < 0 ∨ mm_N G sa3 ≤ sx2.toNatClampNeg then none else (if x10 < 0 ∨ mm_N G (mm_R G a0 20) ≤ x10.toNatClampNeg then none else (if x8 < ((mm_up σ sa3 sx2.toNatClampNeg (sx1 + sx0)).1 (mm_R G a0 20) x10.toNatClampNeg) then (if x10 < 0 ∨ mm_N G (mm_R G a0 20) ≤ x10.toNatClampNeg then none else (some (.inr (.inr (.inr (.inr (.inr (x4, x5, x6, x7, (mm_up σ sa3 sx2.toNatClampNeg (sx1 + sx0)).1 (mm_R G a0 20) x10.toNatClampNeg, x9 + 1, mm_up σ sa3 sx2.toNatClampNeg (sx1 + sx0))))))))) else (some (.inr (.inr (.inr (.inr (.inr (x4, x5, x6, x7, x8, x9 + 1, mm_up σ sa3 sx2.toNatClampNeg (sx1 + sx0))))))))))
noncomputable def fX4_test_b173 (G : mm_G) (a0 : Nat) (x1 : Int32) (x2 : Int32) (x4 : Int32) (x5 : Int32) (x6 : Int32) (x7 : Int32) (x8 : Int32) (x9 : Int32) (σ : mm_M) : Option ((Int32 × mm_M) ⊕ ((Int32 × Int32 × mm_M) ⊕ ((Int32 × Int32 × Int32 × mm_M) ⊕ ((Int32 × Int32 × Int32 × Int32 × mm_M) ⊕ ((Int32 × Int32 × Int32 × Int32 × Int32 × mm_M) ⊕ (Int32 × Int32 × Int32 × Int32 × Int32 × Int32 × mm_M)))))) := if (5 : Int32) < x9 then (fX4_test_b265 G a0 x1 x2 x4 x6 x7 x8 (if x8 < x6 then x7 else x5) σ) else (if (((21 : Int32) * x9) + x7) < 0 ∨ mm_N G (mm_R G a0 21) ≤ (((21 : Int32) * x9) + x7).toNatClampNeg then none else (if (σ.1 (mm_R G a0 21) (((21 : Int32) * x9) + x7).toNatClampNeg) < 0 ∨ mm_N G (mm_R G a0 20) ≤ (σ.1 (mm_R G a0 21) (((21 : Int32) * x9) + x7).toNatClampNeg).toNatClampNeg then none else ((fX4_has G x4 x9 σ).bind (fun q206 => fX4_test_b217 G a0 x1 x2 x4 x5 x6 x7 x8 x9 (σ.1 (mm_R G a0 21) (((21 : Int32) * x9) + x7).toNatClampNeg) (if q206.1 = 0 then (0 : Int32) else (1 : Int32)) (σ.1 (mm_R G a0 20) (σ.1 (mm_R G a0 21) (((21 : Int32) * x9) + x7).toNatClampNeg).toNatClampNeg) (σ.1 (mm_R G a0 21) (((21 : Int32) * x9) + x7).toNatClampNeg) (mm_R G a0 20) q206.2))))
noncomputable def fX4_test_b146 (G : mm_G) (a0 : Nat) (x1 : Int32) (x2 : Int32) (x4 : Int32) (x5 : Int32) (x6 : Int32) (x7 : Int32) (x8 : Int32) (σ : mm_M) : Option ((Int32 × mm_M) ⊕ ((Int32 × Int32 × mm_M) ⊕ ((Int32 × Int32 × Int32 × mm_M) ⊕ ((Int32 × Int32 × Int32 × Int32 × mm_M) ⊕ ((Int32 × Int32 × Int32 × Int32 × Int32 × mm_M) ⊕ (Int32 × Int32 × Int32 × Int32 × Int32 × Int32 × mm_M)))))) := if x8 < (8 : Int32) then (if x8 < 0 ∨ mm_N G (mm_R G a0 20) ≤ x8.toNatClampNeg then none else (some (.inr (.inr (.inr (.inr (.inl (x4, x5, x6, x7, x8 + 1, mm_up σ (mm_R G a0 20) x8.toNatClampNeg (0 : Int32))))))))) else (some (.inr (.inr (.inr (.inr (.inr (x4, x5, x6, x7, (0 : Int32), (0 : Int32), σ)))))))
noncomputable def fX4_test_b131 (G : mm_G) (a0 : Nat) (x1 : Int32) (x2 : Int32) (x4 : Int32) (x5 : Int32) (x6 : Int32) (x7 : Int32) (σ : mm_M) : Option ((Int32 × mm_M) ⊕ ((Int32 × Int32 × mm_M) ⊕ ((Int32 × Int32 × Int32 × mm_M) ⊕ ((Int32 × Int32 × Int32 × Int32 × mm_M) ⊕ ((Int32 × Int32 × Int32 × Int32 × Int32 × mm_M) ⊕ (Int32 × Int32 × Int32 × Int32 × Int32 × Int32 × mm_M)))))) := if x7 < (21 : Int32) then (if x4 = 0 then (fX4_test_b289 G a0 x1 x2 x5 x6 σ) else (some (.inr (.inr (.inr (.inr (.inl (x4, x5, x6, x7, (0 : Int32), σ)))))))) else (fX4_test_b289 G a0 x1 x2 x5 x6 σ)
noncomputable def fX4_test_b78 (G : mm_G) (a0 : Nat) (x1 : Int32) (x2 : Int32) (x4 : Int32) (x5 : Int32) (x6 : Int32) (σ : mm_M) : Option ((Int32 × mm_M) ⊕ ((Int32 × Int32 × mm_M) ⊕ ((Int32 × Int32 × Int32 × mm_M) ⊕ ((Int32 × Int32 × Int32 × Int32 × mm_M) ⊕ ((Int32 × Int32 × Int32 × Int32 × Int32 × mm_M) ⊕ (Int32 × Int32 × Int32 × Int32 × Int32 × Int32 × mm_M)))))) := if x6 < (21 : Int32) then ((fX4_goes G (mm_R G a0 7) σ).bind (fun q101 => (fX4_ones G q101.1 q101.2).bind (fun q104 => if (((21 : Int32) * x5) + x6) < 0 ∨ mm_N G (mm_R G a0 21) ≤ (((21 : Int32) * x5) + x6).toNatClampNeg then none else (some (.inr (.inr (.inl (x4, x5, x6 + 1, mm_up q104.2 (mm_R G a0 21) (((21 : Int32) * x5) + x6).toNatClampNeg q104.1)))))))) else (some (.inr (.inl (x4, x5 + 1, σ))))
noncomputable def fX4_test_b47 (G : mm_G) (a0 : Nat) (x1 : Int32) (x2 : Int32) (x4 : Int32) (x5 : Int32) (σ : mm_M) : Option ((Int32 × mm_M) ⊕ ((Int32 × Int32 × mm_M) ⊕ ((Int32 × Int32 × Int32 × mm_M) ⊕ ((Int32 × Int32 × Int32 × Int32 × mm_M) ⊕ ((Int32 × Int32 × Int32 × Int32 × Int32 × mm_M) ⊕ (Int32 × Int32 × Int32 × Int32 × Int32 × Int32 × mm_M)))))) := if (5 : Int32) < x5 then (some (.inr (.inr (.inr (.inl (x4, (-9 : Int32), (99 : Int32), (1 : Int32), σ)))))) else ((fX4_copies G (mm_R G a0 5) (mm_R G a0 7) σ).bind (fun q61 => if ((33 : Int32) + x1) < 0 ∨ mm_N G (mm_R G a0 7) ≤ ((33 : Int32) + x1).toNatClampNeg then none else (some (.inr (.inr (.inl (x4, x5, (1 : Int32), mm_up q61 (mm_R G a0 7) ((33 : Int32) + x1).toNatClampNeg x5)))))))
noncomputable def fX4_test_b0 (G : mm_G) (a0 : Nat) (x1 : Int32) (x2 : Int32) (σ : mm_M) : Option ((Int32 × mm_M) ⊕ ((Int32 × Int32 × mm_M) ⊕ ((Int32 × Int32 × Int32 × mm_M) ⊕ ((Int32 × Int32 × Int32 × Int32 × mm_M) ⊕ ((Int32 × Int32 × Int32 × Int32 × Int32 × mm_M) ⊕ (Int32 × Int32 × Int32 × Int32 × Int32 × Int32 × mm_M)))))) := (fX4_isStation G a0 x1 σ).bind (fun q2 => if q2.1 = 0 then (some (.inl ((-1 : Int32), q2.2))) else ((fX4_isRow G x2 q2.2).bind (fun q9 => if q9.1 = 0 then (some (.inl ((-1 : Int32), q9.2))) else ((fX4_unfit G a0 x2 q9.2).bind (fun q19 => if q19.1 = 0 then ((fX4_fitting G a0 (33 : Int32) (5 : Int32) x1 x2 q19.2).bind (fun q39 => some (.inr (.inl (q39.1, (0 : Int32), q39.2))))) else ((fX4_finds G a0 q19.1 q19.2).bind (fun q29 => some (.inl (q29.1, q29.2)))))))))
noncomputable def fX4_test_s (G : mm_G) (a0 : Nat) (x1 : Int32) (x2 : Int32) : ((Int32 × Int32 × mm_M) ⊕ ((Int32 × Int32 × Int32 × mm_M) ⊕ ((Int32 × Int32 × Int32 × Int32 × mm_M) ⊕ ((Int32 × Int32 × Int32 × Int32 × Int32 × mm_M) ⊕ (Int32 × Int32 × Int32 × Int32 × Int32 × Int32 × mm_M))))) → Option ((Int32 × mm_M) ⊕ ((Int32 × Int32 × mm_M) ⊕ ((Int32 × Int32 × Int32 × mm_M) ⊕ ((Int32 × Int32 × Int32 × Int32 × mm_M) ⊕ ((Int32 × Int32 × Int32 × Int32 × Int32 × mm_M) ⊕ (Int32 × Int32 × Int32 × Int32 × Int32 × Int32 × mm_M)))))) := (Sum.elim (fun s => fX4_test_b47 G a0 x1 x2 s.1 s.2.1 s.2.2) (Sum.elim (fun s => fX4_test_b78 G a0 x1 x2 s.1 s.2.1 s.2.2.1 s.2.2.2) (Sum.elim (fun s => fX4_test_b131 G a0 x1 x2 s.1 s.2.1 s.2.2.1 s.2.2.2.1 s.2.2.2.2) (Sum.elim (fun s => fX4_test_b146 G a0 x1 x2 s.1 s.2.1 s.2.2.1 s.2.2.2.1 s.2.2.2.2.1 s.2.2.2.2.2) (fun s => fX4_test_b173 G a0 x1 x2 s.1 s.2.1 s.2.2.1 s.2.2.2.1 s.2.2.2.2.1 s.2.2.2.2.2.1 s.2.2.2.2.2.2)))))
def PX4_test (E : mm_E) (G : mm_G) (a0 : Nat) (x1 : Int32) (x2 : Int32) (q : (Int32 × mm_M)) : ((Int32 × Int32 × mm_M) ⊕ ((Int32 × Int32 × Int32 × mm_M) ⊕ ((Int32 × Int32 × Int32 × Int32 × mm_M) ⊕ ((Int32 × Int32 × Int32 × Int32 × Int32 × mm_M) ⊕ (Int32 × Int32 × Int32 × Int32 × Int32 × Int32 × mm_M))))) → Prop := (Sum.elim (fun s => mm_At E G 11 (mm_Qi E G q) s.2.2 47 [(0, .ref a0), (1, .int x1), (4, .int s.1), (5, .int s.2.1)] []) (Sum.elim (fun s => mm_At E G 11 (mm_Qi E G q) s.2.2.2 78 [(0, .ref a0), (1, .int x1), (4, .int s.1), (5, .int s.2.1), (6, .int s.2.2.1)] []) (Sum.elim (fun s => mm_At E G 11 (mm_Qi E G q) s.2.2.2.2 131 [(0, .ref a0), (4, .int s.1), (5, .int s.2.1), (6, .int s.2.2.1), (7, .int s.2.2.2.1)] []) (Sum.elim (fun s => mm_At E G 11 (mm_Qi E G q) s.2.2.2.2.2 146 [(0, .ref a0), (4, .int s.1), (5, .int s.2.1), (6, .int s.2.2.1), (7, .int s.2.2.2.1), (8, .int s.2.2.2.2.1)] []) (fun s => mm_At E G 11 (mm_Qi E G q) s.2.2.2.2.2.2 173 [(0, .ref a0), (4, .int s.1), (5, .int s.2.1), (6, .int s.2.2.1), (7, .int s.2.2.2.1), (8, .int s.2.2.2.2.1), (9, .int s.2.2.2.2.2.1)] [])))))
noncomputable def fX4_test (G : mm_G) (a0 : Nat) (x1 : Int32) (x2 : Int32) (σ : mm_M) : Option (Int32 × mm_M) := mm_run (fX4_test_b0 G a0 x1 x2 σ) (fX4_test_s G a0 x1 x2)
set_option maxHeartbeats 4000000 in
set_option maxRecDepth 100000 in
theorem wX4_test_b306 {E : mm_E} {G : mm_G} (X : mm_Cx E G cX4_test 11 RX4 wsX4_test rmX4_test (some .int)) {a0 : Nat} {x1 : Int32} {x2 : Int32} {x5 : Int32} {sx0 : Int32} {sa1 : Nat} {σ : mm_M} {q : (Int32 × mm_M)} (ha0 : mm_Is G 4 a0) (hsa1 : mm_Is G 4 sa1) {o : (Int32 × mm_M) ⊕ ((Int32 × Int32 × mm_M) ⊕ ((Int32 × Int32 × Int32 × mm_M) ⊕ ((Int32 × Int32 × Int32 × Int32 × mm_M) ⊕ ((Int32 × Int32 × Int32 × Int32 × Int32 × mm_M) ⊕ (Int32 × Int32 × Int32 × Int32 × Int32 × Int32 × mm_M)))))} (h : fX4_test_b306 G a0 x1 x2 x5 sx0 sa1 σ = some o) (hk : mm_Ok q (PX4_test E G a0 x1 x2 q) o) : mm_At E G 11 (mm_Qi E G q) σ 306 [(5, .int x5)] [.int sx0, .ref sa1] := by
  unfold fX4_test_b306 at h
  refine at_put (pc := 306) X 4 14 hsa1 (by decide) rfl inX4_test_X4 tyX4 tyX4_ok nmX4 (by decide) lkX4_test_0 rfl (ty := .int) rfl rfl rfl (Nat.le_of_ble_eq_true rfl) (ms_4_14 G _ _ _) mm_up_ne dX4_test_306 ?_
  refine at_iload (pc := 309) X 5 0 dX4_test_309 rfl ?_
  exact at_iret (pc := 311) X (mm_inl h hk) dX4_test_311
set_option maxHeartbeats 4000000 in
set_option maxRecDepth 100000 in
theorem wX4_test_b289 {E : mm_E} {G : mm_G} (X : mm_Cx E G cX4_test 11 RX4 wsX4_test rmX4_test (some .int)) {a0 : Nat} {x1 : Int32} {x2 : Int32} {x5 : Int32} {x6 : Int32} {σ : mm_M} {q : (Int32 × mm_M)} (ha0 : mm_Is G 4 a0) {o : (Int32 × mm_M) ⊕ ((Int32 × Int32 × mm_M) ⊕ ((Int32 × Int32 × Int32 × mm_M) ⊕ ((Int32 × Int32 × Int32 × Int32 × mm_M) ⊕ ((Int32 × Int32 × Int32 × Int32 × Int32 × mm_M) ⊕ (Int32 × Int32 × Int32 × Int32 × Int32 × Int32 × mm_M)))))} (h : fX4_test_b289 G a0 x1 x2 x5 x6 σ = some o) (hk : mm_Ok q (PX4_test E G a0 x1 x2 q) o) : mm_At E G 11 (mm_Qi E G q) σ 289 [(0, .ref a0), (5, .int x5), (6, .int x6)] [] := by
  unfold fX4_test_b289 at h
  refine at_aload_n (pc := 289) X 0 0 dX4_test_289 rfl rfl ?_
  refine at_iload (pc := 290) X 5 1 dX4_test_290 rfl ?_
  refine at_bipush (pc := 292) X (-9 : Int32) dX4_test_292 ib_m9 ?_
  have hj294 : mm_At E G 11 (mm_Qi E G q) σ 306 [(5, .int x5)] [.int (if x5 = (-9 : Int32) then σ.1 a0 14 else x6), .ref a0] := by
    exact at_sub [0] rfl (wX4_test_b306 X ha0 ha0 h hk)
  refine at_icmp_ne (pc := 294) X 304 dX4_test_294 (by decide) (fun c294 => ?_) (fun c294 => ?_)
  · try simp only [if_neg c294] at hj294
    refine at_iload (pc := 304) X 6 2 dX4_test_304 rfl ?_
    exact at_sub [1] rfl hj294
  · try simp only [if_pos c294] at hj294
    refine at_aload_n (pc := 297) X 0 0 dX4_test_297 rfl rfl ?_
    refine at_get (pc := 298) X 4 14 (.int (σ.1 a0 14)) ha0 (by decide) rfl inX4_test_X4 (by decide) lkX4_test_0 rfl dX4_test_298 ?_
    refine at_goto (pc := 301) X 306 dX4_test_301 (by decide) ?_
    exact at_sub [1] rfl hj294
set_option maxHeartbeats 4000000 in
set_option maxRecDepth 100000 in
theorem wX4_test_b265 {E : mm_E} {G : mm_G} (X : mm_Cx E G cX4_test 11 RX4 wsX4_test rmX4_test (some .int)) {a0 : Nat} {x1 : Int32} {x2 : Int32} {x4 : Int32} {x6 : Int32} {x7 : Int32} {x8 : Int32} {sx0 : Int32} {σ : mm_M} {q : (Int32 × mm_M)} (ha0 : mm_Is G 4 a0) {o : (Int32 × mm_M) ⊕ ((Int32 × Int32 × mm_M) ⊕ ((Int32 × Int32 × Int32 × mm_M) ⊕ ((Int32 × Int32 × Int32 × Int32 × mm_M) ⊕ ((Int32 × Int32 × Int32 × Int32 × Int32 × mm_M) ⊕ (Int32 × Int32 × Int32 × Int32 × Int32 × Int32 × mm_M)))))} (h : fX4_test_b265 G a0 x1 x2 x4 x6 x7 x8 sx0 σ = some o) (hk : mm_Ok q (PX4_test E G a0 x1 x2 q) o) : mm_At E G 11 (mm_Qi E G q) σ 265 [(0, .ref a0), (4, .int x4), (6, .int x6), (7, .int x7), (8, .int x8)] [.int sx0] := by
  unfold fX4_test_b265 at h
  refine at_istore (pc := 265) X 5 [(5, .int sx0), (0, .ref a0), (4, .int x4), (6, .int x6), (7, .int x7), (8, .int x8)] dX4_test_265 (by decide) rfl ?_
  refine at_iload (pc := 267) X 8 5 dX4_test_267 rfl ?_
  refine at_iload (pc := 269) X 6 3 dX4_test_269 rfl ?_
  have hj271 : mm_At E G 11 (mm_Qi E G q) σ 281 [(0, .ref a0), (4, .int x4), (5, .int sx0), (7, .int x7)] [.int (if x8 < x6 then x8 else x6)] := by
    refine at_istore (pc := 281) X 6 [(6, .int (if x8 < x6 then x8 else x6)), (0, .ref a0), (4, .int x4), (5, .int sx0), (7, .int x7)] dX4_test_281 (by decide) rfl ?_
    refine at_iinc (pc := 283) X 7 4 (x7 + 1) [(7, .int (x7 + 1)), (6, .int (if x8 < x6 then x8 else x6)), (0, .ref a0), (4, .int x4), (5, .int sx0)] dX4_test_283 rfl (ii_1 _) (by decide) rfl ?_
    refine at_goto (pc := 286) X 131 dX4_test_286 (by decide) ?_
    have h2 := mm_inr h hk; exact at_sub [2, 3, 4, 1, 0] rfl h2
  refine at_icmp_ge (pc := 271) X 279 dX4_test_271 (by decide) (fun c271 => ?_) (fun c271 => ?_)
  · try simp only [if_neg c271] at hj271
    refine at_iload (pc := 279) X 6 3 dX4_test_279 rfl ?_
    exact at_sub [1, 2, 0, 4] rfl hj271
  · try simp only [if_pos c271] at hj271
    refine at_iload (pc := 274) X 8 5 dX4_test_274 rfl ?_
    refine at_goto (pc := 276) X 281 dX4_test_276 (by decide) ?_
    exact at_sub [1, 2, 0, 4] rfl hj271
set_option maxHeartbeats 4000000 in
set_option maxRecDepth 100000 in
theorem wX4_test_b217 {E : mm_E} {G : mm_G} (X : mm_Cx E G cX4_test 11 RX4 wsX4_test rmX4_test (some .int)) {a0 : Nat} {x1 : Int32} {x2 : Int32} {x4 : Int32} {x5 : Int32} {x6 : Int32} {x7 : Int32} {x8 : Int32} {x9 : Int32} {x10 : Int32} {sx0 : Int32} {sx1 : Int32} {sx2 : Int32} {sa3 : Nat} {σ : mm_M} {q : (Int32 × mm_M)} (ha0 : mm_Is G 4 a0) (hsa3 : mm_Is G 6 sa3) {o : (Int32 × mm_M) ⊕ ((Int32 × Int32 × mm_M) ⊕ ((Int32 × Int32 × Int32 × mm_M) ⊕ ((Int32 × Int32 × Int32 × Int32 × mm_M) ⊕ ((Int32 × Int32 × Int32 × Int32 × Int32 × mm_M) ⊕ (Int32 × Int32 × Int32 × Int32 × Int32 × Int32 × mm_M)))))} (h : fX4_test_b217 G a0 x1 x2 x4 x5 x6 x7 x8 x9 x10 sx0 sx1 sx2 sa3 σ = some o) (hk : mm_Ok q (PX4_test E G a0 x1 x2 q) o) : mm_At E G 11 (mm_Qi E G q) σ 217 [(0, .ref a0), (4, .int x4), (5, .int x5), (6, .int x6), (7, .int x7), (8, .int x8), (9, .int x9), (10, .int x10)] [.int sx0, .int sx1, .int sx2, .ref sa3] := by
  unfold fX4_test_b217 at h
  refine at_iadd (pc := 217) X dX4_test_217 ?_
  obtain ⟨hc218, h⟩ := mm_chk h
  refine at_iast (pc := 218) X hsa3 hc218 dX4_test_218 ?_
  refine at_aload_n (pc := 219) X 0 0 dX4_test_219 rfl rfl ?_
  refine at_get (pc := 220) X 4 20 (.ref (mm_R G a0 20)) ha0 (by decide) rfl inX4_test_X4 (by decide) lkX4_test_2 rfl dX4_test_220 ?_
  refine at_iload (pc := 223) X 10 7 dX4_test_223 rfl ?_
  obtain ⟨hc225, h⟩ := mm_chk h
  refine at_iald (pc := 225) X (wf_4_20 X.wf ha0) hc225 dX4_test_225 ?_
  refine at_iload (pc := 226) X 8 5 dX4_test_226 rfl ?_
  refine at_icmp_le (pc := 228) X 241 dX4_test_228 (by decide) (fun c228 => ?_) (fun c228 => ?_)
  · have h := mm_neg c228 h
    refine at_iload (pc := 241) X 8 5 dX4_test_241 rfl ?_
    refine at_istore (pc := 243) X 8 [(8, .int x8), (0, .ref a0), (4, .int x4), (5, .int x5), (6, .int x6), (7, .int x7), (9, .int x9), (10, .int x10)] dX4_test_243 (by decide) rfl ?_
    refine at_iinc (pc := 245) X 9 6 (x9 + 1) [(9, .int (x9 + 1)), (8, .int x8), (0, .ref a0), (4, .int x4), (5, .int x5), (6, .int x6), (7, .int x7), (10, .int x10)] dX4_test_245 rfl (ii_1 _) (by decide) rfl ?_
    refine at_goto (pc := 248) X 173 dX4_test_248 (by decide) ?_
    have h2 := mm_inr h hk; exact at_sub [2, 3, 4, 5, 6, 1, 0] rfl h2
  · have h := mm_pos c228 h
    refine at_aload_n (pc := 231) X 0 0 dX4_test_231 rfl rfl ?_
    refine at_get (pc := 232) X 4 20 (.ref (mm_R G a0 20)) ha0 (by decide) rfl inX4_test_X4 (by decide) lkX4_test_2 rfl dX4_test_232 ?_
    refine at_iload (pc := 235) X 10 7 dX4_test_235 rfl ?_
    obtain ⟨hc237, h⟩ := mm_chk h
    refine at_iald (pc := 237) X (wf_4_20 X.wf ha0) hc237 dX4_test_237 ?_
    refine at_goto (pc := 238) X 243 dX4_test_238 (by decide) ?_
    refine at_istore (pc := 243) X 8 [(8, .int ((mm_up σ sa3 sx2.toNatClampNeg (sx1 + sx0)).1 (mm_R G a0 20) x10.toNatClampNeg)), (0, .ref a0), (4, .int x4), (5, .int x5), (6, .int x6), (7, .int x7), (9, .int x9), (10, .int x10)] dX4_test_243 (by decide) rfl ?_
    refine at_iinc (pc := 245) X 9 6 (x9 + 1) [(9, .int (x9 + 1)), (8, .int ((mm_up σ sa3 sx2.toNatClampNeg (sx1 + sx0)).1 (mm_R G a0 20) x10.toNatClampNeg)), (0, .ref a0), (4, .int x4), (5, .int x5), (6, .int x6), (7, .int x7), (10, .int x10)] dX4_test_245 rfl (ii_1 _) (by decide) rfl ?_
    refine at_goto (pc := 248) X 173 dX4_test_248 (by decide) ?_
    have h2 := mm_inr h hk; exact at_sub [2, 3, 4, 5, 6, 1, 0] rfl h2
set_option maxHeartbeats 4000000 in
set_option maxRecDepth 100000 in
theorem wX4_test_b173 {E : mm_E} {G : mm_G} (X : mm_Cx E G cX4_test 11 RX4 wsX4_test rmX4_test (some .int)) {a0 : Nat} {x1 : Int32} {x2 : Int32} {x4 : Int32} {x5 : Int32} {x6 : Int32} {x7 : Int32} {x8 : Int32} {x9 : Int32} {σ : mm_M} {q : (Int32 × mm_M)} (ha0 : mm_Is G 4 a0) {o : (Int32 × mm_M) ⊕ ((Int32 × Int32 × mm_M) ⊕ ((Int32 × Int32 × Int32 × mm_M) ⊕ ((Int32 × Int32 × Int32 × Int32 × mm_M) ⊕ ((Int32 × Int32 × Int32 × Int32 × Int32 × mm_M) ⊕ (Int32 × Int32 × Int32 × Int32 × Int32 × Int32 × mm_M)))))} (h : fX4_test_b173 G a0 x1 x2 x4 x5 x6 x7 x8 x9 σ = some o) (hk : mm_Ok q (PX4_test E G a0 x1 x2 q) o) : mm_At E G 11 (mm_Qi E G q) σ 173 [(0, .ref a0), (4, .int x4), (5, .int x5), (6, .int x6), (7, .int x7), (8, .int x8), (9, .int x9)] [] := by
  unfold fX4_test_b173 at h
  refine at_iload (pc := 173) X 9 6 dX4_test_173 rfl ?_
  refine at_iconst (pc := 175) X (5 : Int32) dX4_test_175 ic_5 ?_
  refine at_icmp_gt (pc := 176) X 251 dX4_test_176 (by decide) (fun c176 => ?_) (fun c176 => ?_)
  · have h := mm_pos c176 h
    refine at_iload (pc := 251) X 8 5 dX4_test_251 rfl ?_
    refine at_iload (pc := 253) X 6 3 dX4_test_253 rfl ?_
    have hj255 : mm_At E G 11 (mm_Qi E G q) σ 265 [(0, .ref a0), (4, .int x4), (6, .int x6), (7, .int x7), (8, .int x8)] [.int (if x8 < x6 then x7 else x5)] := by
      exact at_sub [0, 1, 2, 3, 4] rfl (wX4_test_b265 X ha0 h hk)
    refine at_icmp_ge (pc := 255) X 263 dX4_test_255 (by decide) (fun c255 => ?_) (fun c255 => ?_)
    · try simp only [if_neg c255] at hj255
      refine at_iload (pc := 263) X 5 2 dX4_test_263 rfl ?_
      exact at_sub [0, 1, 3, 4, 5] rfl hj255
    · try simp only [if_pos c255] at hj255
      refine at_iload (pc := 258) X 7 4 dX4_test_258 rfl ?_
      refine at_goto (pc := 260) X 265 dX4_test_260 (by decide) ?_
      exact at_sub [0, 1, 3, 4, 5] rfl hj255
  · have h := mm_neg c176 h
    refine at_aload_n (pc := 179) X 0 0 dX4_test_179 rfl rfl ?_
    refine at_get (pc := 180) X 4 21 (.ref (mm_R G a0 21)) ha0 (by decide) rfl inX4_test_X4 (by decide) lkX4_test_1 rfl dX4_test_180 ?_
    refine at_bipush (pc := 183) X (21 : Int32) dX4_test_183 ib_21 ?_
    refine at_iload (pc := 185) X 9 6 dX4_test_185 rfl ?_
    refine at_imul (pc := 187) X dX4_test_187 ?_
    refine at_iload (pc := 188) X 7 4 dX4_test_188 rfl ?_
    refine at_iadd (pc := 190) X dX4_test_190 ?_
    obtain ⟨hc191, h⟩ := mm_chk h
    refine at_iald (pc := 191) X (wf_4_21 X.wf ha0) hc191 dX4_test_191 ?_
    refine at_istore (pc := 192) X 10 [(10, .int (σ.1 (mm_R G a0 21) (((21 : Int32) * x9) + x7).toNatClampNeg)), (0, .ref a0), (4, .int x4), (5, .int x5), (6, .int x6), (7, .int x7), (8, .int x8), (9, .int x9)] dX4_test_192 (by decide) rfl ?_
    refine at_aload_n (pc := 194) X 0 1 dX4_test_194 rfl rfl ?_
    refine at_get (pc := 195) X 4 20 (.ref (mm_R G a0 20)) ha0 (by decide) rfl inX4_test_X4 (by decide) lkX4_test_2 rfl dX4_test_195 ?_
    refine at_iload (pc := 198) X 10 0 dX4_test_198 rfl ?_
    refine at_dup2 (pc := 200) X dX4_test_200 rfl rfl ?_
    obtain ⟨hc201, h⟩ := mm_chk h
    refine at_iald (pc := 201) X (wf_4_20 X.wf ha0) hc201 dX4_test_201 ?_
    refine at_iload (pc := 202) X 4 2 dX4_test_202 rfl ?_
    refine at_iload (pc := 204) X 9 7 dX4_test_204 rfl ?_
    obtain ⟨q206, hq206, h⟩ := mm_bind h
    refine at_scalli (n := 2) (pc := 206) X [.int x4, .int x9] [.int (σ.1 (mm_R G a0 20) (σ.1 (mm_R G a0 21) (((21 : Int32) * x9) + x7).toNatClampNeg).toNatClampNeg), .int (σ.1 (mm_R G a0 21) (((21 : Int32) * x9) + x7).toNatClampNeg), .ref (mm_R G a0 20)] (mX4_has (eL E) X.wf hq206) gX4_test_X4_has rfl ⟨rfl, rfl⟩ (by decide +kernel) ⟨by decide, by decide⟩ rfl rfl (Nat.le_of_ble_eq_true rfl) dX4_test_206 ?_
    have hj209 : mm_At E G 11 (mm_Qi E G q) q206.2 217 [(0, .ref a0), (4, .int x4), (5, .int x5), (6, .int x6), (7, .int x7), (8, .int x8), (9, .int x9), (10, .int (σ.1 (mm_R G a0 21) (((21 : Int32) * x9) + x7).toNatClampNeg))] [.int (if q206.1 = 0 then (0 : Int32) else (1 : Int32)), .int (σ.1 (mm_R G a0 20) (σ.1 (mm_R G a0 21) (((21 : Int32) * x9) + x7).toNatClampNeg).toNatClampNeg), .int (σ.1 (mm_R G a0 21) (((21 : Int32) * x9) + x7).toNatClampNeg), .ref (mm_R G a0 20)] := by
      exact at_sub [0, 1, 2, 3, 4, 5, 6, 7] rfl (wX4_test_b217 X ha0 (wf_4_20 X.wf ha0) h hk)
    refine at_if_eq (pc := 209) X 216 dX4_test_209 (by decide) (fun c209 => ?_) (fun c209 => ?_)
    · try simp only [if_pos c209] at hj209
      refine at_iconst (pc := 216) X (0 : Int32) dX4_test_216 ic_0 ?_
      exact at_sub [1, 2, 3, 4, 5, 6, 7, 0] rfl hj209
    · try simp only [if_neg c209] at hj209
      refine at_iconst (pc := 212) X (1 : Int32) dX4_test_212 ic_1 ?_
      refine at_goto (pc := 213) X 217 dX4_test_213 (by decide) ?_
      exact at_sub [1, 2, 3, 4, 5, 6, 7, 0] rfl hj209
set_option maxHeartbeats 4000000 in
set_option maxRecDepth 100000 in
theorem wX4_test_b146 {E : mm_E} {G : mm_G} (X : mm_Cx E G cX4_test 11 RX4 wsX4_test rmX4_test (some .int)) {a0 : Nat} {x1 : Int32} {x2 : Int32} {x4 : Int32} {x5 : Int32} {x6 : Int32} {x7 : Int32} {x8 : Int32} {σ : mm_M} {q : (Int32 × mm_M)} (ha0 : mm_Is G 4 a0) {o : (Int32 × mm_M) ⊕ ((Int32 × Int32 × mm_M) ⊕ ((Int32 × Int32 × Int32 × mm_M) ⊕ ((Int32 × Int32 × Int32 × Int32 × mm_M) ⊕ ((Int32 × Int32 × Int32 × Int32 × Int32 × mm_M) ⊕ (Int32 × Int32 × Int32 × Int32 × Int32 × Int32 × mm_M)))))} (h : fX4_test_b146 G a0 x1 x2 x4 x5 x6 x7 x8 σ = some o) (hk : mm_Ok q (PX4_test E G a0 x1 x2 q) o) : mm_At E G 11 (mm_Qi E G q) σ 146 [(0, .ref a0), (4, .int x4), (5, .int x5), (6, .int x6), (7, .int x7), (8, .int x8)] [] := by
  unfold fX4_test_b146 at h
  refine at_iload (pc := 146) X 8 5 dX4_test_146 rfl ?_
  refine at_bipush (pc := 148) X (8 : Int32) dX4_test_148 ib_8 ?_
  refine at_icmp_ge (pc := 150) X 167 dX4_test_150 (by decide) (fun c150 => ?_) (fun c150 => ?_)
  · have h := mm_neg c150 h
    refine at_iconst (pc := 167) X (0 : Int32) dX4_test_167 ic_0 ?_
    refine at_istore (pc := 168) X 8 [(8, .int (0 : Int32)), (0, .ref a0), (4, .int x4), (5, .int x5), (6, .int x6), (7, .int x7)] dX4_test_168 (by decide) rfl ?_
    refine at_iconst (pc := 170) X (0 : Int32) dX4_test_170 ic_0 ?_
    refine at_istore (pc := 171) X 9 [(9, .int (0 : Int32)), (8, .int (0 : Int32)), (0, .ref a0), (4, .int x4), (5, .int x5), (6, .int x6), (7, .int x7)] dX4_test_171 (by decide) rfl ?_
    have h2 := mm_inr h hk; exact at_sub [2, 3, 4, 5, 6, 1, 0] rfl h2
  · have h := mm_pos c150 h
    refine at_aload_n (pc := 153) X 0 0 dX4_test_153 rfl rfl ?_
    refine at_get (pc := 154) X 4 20 (.ref (mm_R G a0 20)) ha0 (by decide) rfl inX4_test_X4 (by decide) lkX4_test_2 rfl dX4_test_154 ?_
    refine at_iload (pc := 157) X 8 5 dX4_test_157 rfl ?_
    refine at_iconst (pc := 159) X (0 : Int32) dX4_test_159 ic_0 ?_
    obtain ⟨hc160, h⟩ := mm_chk h
    refine at_iast (pc := 160) X (wf_4_20 X.wf ha0) hc160 dX4_test_160 ?_
    refine at_iinc (pc := 161) X 8 5 (x8 + 1) [(8, .int (x8 + 1)), (0, .ref a0), (4, .int x4), (5, .int x5), (6, .int x6), (7, .int x7)] dX4_test_161 rfl (ii_1 _) (by decide) rfl ?_
    refine at_goto (pc := 164) X 146 dX4_test_164 (by decide) ?_
    have h2 := mm_inr h hk; exact at_sub [1, 2, 3, 4, 5, 0] rfl h2
set_option maxHeartbeats 4000000 in
set_option maxRecDepth 100000 in
theorem wX4_test_b131 {E : mm_E} {G : mm_G} (X : mm_Cx E G cX4_test 11 RX4 wsX4_test rmX4_test (some .int)) {a0 : Nat} {x1 : Int32} {x2 : Int32} {x4 : Int32} {x5 : Int32} {x6 : Int32} {x7 : Int32} {σ : mm_M} {q : (Int32 × mm_M)} (ha0 : mm_Is G 4 a0) {o : (Int32 × mm_M) ⊕ ((Int32 × Int32 × mm_M) ⊕ ((Int32 × Int32 × Int32 × mm_M) ⊕ ((Int32 × Int32 × Int32 × Int32 × mm_M) ⊕ ((Int32 × Int32 × Int32 × Int32 × Int32 × mm_M) ⊕ (Int32 × Int32 × Int32 × Int32 × Int32 × Int32 × mm_M)))))} (h : fX4_test_b131 G a0 x1 x2 x4 x5 x6 x7 σ = some o) (hk : mm_Ok q (PX4_test E G a0 x1 x2 q) o) : mm_At E G 11 (mm_Qi E G q) σ 131 [(0, .ref a0), (4, .int x4), (5, .int x5), (6, .int x6), (7, .int x7)] [] := by
  unfold fX4_test_b131 at h
  refine at_iload (pc := 131) X 7 4 dX4_test_131 rfl ?_
  refine at_bipush (pc := 133) X (21 : Int32) dX4_test_133 ib_21 ?_
  refine at_icmp_ge (pc := 135) X 289 dX4_test_135 (by decide) (fun c135 => ?_) (fun c135 => ?_)
  · have h := mm_neg c135 h
    exact at_sub [0, 2, 3] rfl (wX4_test_b289 X ha0 h hk)
  · have h := mm_pos c135 h
    refine at_iload (pc := 138) X 4 1 dX4_test_138 rfl ?_
    refine at_if_eq (pc := 140) X 289 dX4_test_140 (by decide) (fun c140 => ?_) (fun c140 => ?_)
    · have h := mm_pos c140 h
      exact at_sub [0, 2, 3] rfl (wX4_test_b289 X ha0 h hk)
    · have h := mm_neg c140 h
      refine at_iconst (pc := 143) X (0 : Int32) dX4_test_143 ic_0 ?_
      refine at_istore (pc := 144) X 8 [(8, .int (0 : Int32)), (0, .ref a0), (4, .int x4), (5, .int x5), (6, .int x6), (7, .int x7)] dX4_test_144 (by decide) rfl ?_
      have h2 := mm_inr h hk; exact at_sub [1, 2, 3, 4, 5, 0] rfl h2
set_option maxHeartbeats 4000000 in
set_option maxRecDepth 100000 in
theorem wX4_test_b78 {E : mm_E} {G : mm_G} (X : mm_Cx E G cX4_test 11 RX4 wsX4_test rmX4_test (some .int)) {a0 : Nat} {x1 : Int32} {x2 : Int32} {x4 : Int32} {x5 : Int32} {x6 : Int32} {σ : mm_M} {q : (Int32 × mm_M)} (ha0 : mm_Is G 4 a0) {o : (Int32 × mm_M) ⊕ ((Int32 × Int32 × mm_M) ⊕ ((Int32 × Int32 × Int32 × mm_M) ⊕ ((Int32 × Int32 × Int32 × Int32 × mm_M) ⊕ ((Int32 × Int32 × Int32 × Int32 × Int32 × mm_M) ⊕ (Int32 × Int32 × Int32 × Int32 × Int32 × Int32 × mm_M)))))} (h : fX4_test_b78 G a0 x1 x2 x4 x5 x6 σ = some o) (hk : mm_Ok q (PX4_test E G a0 x1 x2 q) o) : mm_At E G 11 (mm_Qi E G q) σ 78 [(0, .ref a0), (1, .int x1), (4, .int x4), (5, .int x5), (6, .int x6)] [] := by
  unfold fX4_test_b78 at h
  refine at_iload (pc := 78) X 6 4 dX4_test_78 rfl ?_
  refine at_bipush (pc := 80) X (21 : Int32) dX4_test_80 ib_21 ?_
  refine at_icmp_ge (pc := 82) X 114 dX4_test_82 (by decide) (fun c82 => ?_) (fun c82 => ?_)
  · have h := mm_neg c82 h
    refine at_iinc (pc := 114) X 5 3 (x5 + 1) [(5, .int (x5 + 1)), (0, .ref a0), (1, .int x1), (4, .int x4), (6, .int x6)] dX4_test_114 rfl (ii_1 _) (by decide) rfl ?_
    refine at_goto (pc := 117) X 47 dX4_test_117 (by decide) ?_
    have h2 := mm_inr h hk; exact at_sub [1, 2, 3, 0] rfl h2
  · have h := mm_pos c82 h
    refine at_aload_n (pc := 85) X 0 0 dX4_test_85 rfl rfl ?_
    refine at_get (pc := 86) X 4 21 (.ref (mm_R G a0 21)) ha0 (by decide) rfl inX4_test_X4 (by decide) lkX4_test_1 rfl dX4_test_86 ?_
    refine at_bipush (pc := 89) X (21 : Int32) dX4_test_89 ib_21 ?_
    refine at_iload (pc := 91) X 5 3 dX4_test_91 rfl ?_
    refine at_imul (pc := 93) X dX4_test_93 ?_
    refine at_iload (pc := 94) X 6 4 dX4_test_94 rfl ?_
    refine at_iadd (pc := 96) X dX4_test_96 ?_
    refine at_aload_n (pc := 97) X 0 0 dX4_test_97 rfl rfl ?_
    refine at_get (pc := 98) X 4 7 (.ref (mm_R G a0 7)) ha0 (by decide) rfl inX4_test_X4 (by decide) lkX4_test_4 rfl dX4_test_98 ?_
    obtain ⟨q101, hq101, h⟩ := mm_bind h
    refine at_scalli (n := 1) (pc := 101) X [.ref (mm_R G a0 7)] [.int (((21 : Int32) * x5) + x6), .ref (mm_R G a0 21)] (mX4_goes (eL E) X.wf (wf_4_7 X.wf ha0) hq101) gX4_test_X4_goes rfl ⟨rfl, rfl⟩ (by decide +kernel) ⟨by decide, by decide⟩ rfl rfl (Nat.le_of_ble_eq_true rfl) dX4_test_101 ?_
    obtain ⟨q104, hq104, h⟩ := mm_bind h
    refine at_scalli (n := 1) (pc := 104) X [.int q101.1] [.int (((21 : Int32) * x5) + x6), .ref (mm_R G a0 21)] (mX4_ones (eL E) X.wf hq104) gX4_test_X4_ones rfl ⟨rfl, rfl⟩ (by decide +kernel) ⟨by decide, by decide⟩ rfl rfl (Nat.le_of_ble_eq_true rfl) dX4_test_104 ?_
    obtain ⟨hc107, h⟩ := mm_chk h
    refine at_iast (pc := 107) X (wf_4_21 X.wf ha0) hc107 dX4_test_107 ?_
    refine at_iinc (pc := 108) X 6 4 (x6 + 1) [(6, .int (x6 + 1)), (0, .ref a0), (1, .int x1), (4, .int x4), (5, .int x5)] dX4_test_108 rfl (ii_1 _) (by decide) rfl ?_
    refine at_goto (pc := 111) X 78 dX4_test_111 (by decide) ?_
    have h2 := mm_inr h hk; exact at_sub [1, 2, 3, 4, 0] rfl h2
set_option maxHeartbeats 4000000 in
set_option maxRecDepth 100000 in
theorem wX4_test_b47 {E : mm_E} {G : mm_G} (X : mm_Cx E G cX4_test 11 RX4 wsX4_test rmX4_test (some .int)) {a0 : Nat} {x1 : Int32} {x2 : Int32} {x4 : Int32} {x5 : Int32} {σ : mm_M} {q : (Int32 × mm_M)} (ha0 : mm_Is G 4 a0) {o : (Int32 × mm_M) ⊕ ((Int32 × Int32 × mm_M) ⊕ ((Int32 × Int32 × Int32 × mm_M) ⊕ ((Int32 × Int32 × Int32 × Int32 × mm_M) ⊕ ((Int32 × Int32 × Int32 × Int32 × Int32 × mm_M) ⊕ (Int32 × Int32 × Int32 × Int32 × Int32 × Int32 × mm_M)))))} (h : fX4_test_b47 G a0 x1 x2 x4 x5 σ = some o) (hk : mm_Ok q (PX4_test E G a0 x1 x2 q) o) : mm_At E G 11 (mm_Qi E G q) σ 47 [(0, .ref a0), (1, .int x1), (4, .int x4), (5, .int x5)] [] := by
  unfold fX4_test_b47 at h
  refine at_iload (pc := 47) X 5 3 dX4_test_47 rfl ?_
  refine at_iconst (pc := 49) X (5 : Int32) dX4_test_49 ic_5 ?_
  refine at_icmp_gt (pc := 50) X 120 dX4_test_50 (by decide) (fun c50 => ?_) (fun c50 => ?_)
  · have h := mm_pos c50 h
    refine at_bipush (pc := 120) X (-9 : Int32) dX4_test_120 ib_m9 ?_
    refine at_istore (pc := 122) X 5 [(5, .int (-9 : Int32)), (0, .ref a0), (1, .int x1), (4, .int x4)] dX4_test_122 (by decide) rfl ?_
    refine at_bipush (pc := 124) X (99 : Int32) dX4_test_124 ib_99 ?_
    refine at_istore (pc := 126) X 6 [(6, .int (99 : Int32)), (5, .int (-9 : Int32)), (0, .ref a0), (1, .int x1), (4, .int x4)] dX4_test_126 (by decide) rfl ?_
    refine at_iconst (pc := 128) X (1 : Int32) dX4_test_128 ic_1 ?_
    refine at_istore (pc := 129) X 7 [(7, .int (1 : Int32)), (6, .int (99 : Int32)), (5, .int (-9 : Int32)), (0, .ref a0), (1, .int x1), (4, .int x4)] dX4_test_129 (by decide) rfl ?_
    have h2 := mm_inr h hk; exact at_sub [3, 5, 2, 1, 0] rfl h2
  · have h := mm_neg c50 h
    refine at_aload_n (pc := 53) X 0 0 dX4_test_53 rfl rfl ?_
    refine at_get (pc := 54) X 4 5 (.ref (mm_R G a0 5)) ha0 (by decide) rfl inX4_test_X4 (by decide) lkX4_test_3 rfl dX4_test_54 ?_
    refine at_aload_n (pc := 57) X 0 0 dX4_test_57 rfl rfl ?_
    refine at_get (pc := 58) X 4 7 (.ref (mm_R G a0 7)) ha0 (by decide) rfl inX4_test_X4 (by decide) lkX4_test_4 rfl dX4_test_58 ?_
    obtain ⟨q61, hq61, h⟩ := mm_bind h
    refine at_scallv (n := 2) (pc := 61) X [.ref (mm_R G a0 5), .ref (mm_R G a0 7)] [] (mX4_copies (eL E) X.wf (wf_4_5 X.wf ha0) (wf_4_7 X.wf ha0) hq61) gX4_test_X4_copies rfl ⟨rfl, rfl⟩ (by decide +kernel) ⟨by decide, by decide⟩ rfl rfl (Nat.le_of_ble_eq_true rfl) dX4_test_61 ?_
    refine at_aload_n (pc := 64) X 0 0 dX4_test_64 rfl rfl ?_
    refine at_get (pc := 65) X 4 7 (.ref (mm_R G a0 7)) ha0 (by decide) rfl inX4_test_X4 (by decide) lkX4_test_4 rfl dX4_test_65 ?_
    refine at_bipush (pc := 68) X (33 : Int32) dX4_test_68 ib_33 ?_
    refine at_iload_n (pc := 70) X 1 1 dX4_test_70 rfl rfl ?_
    refine at_iadd (pc := 71) X dX4_test_71 ?_
    refine at_iload (pc := 72) X 5 3 dX4_test_72 rfl ?_
    obtain ⟨hc74, h⟩ := mm_chk h
    refine at_iast (pc := 74) X (wf_4_7 X.wf ha0) hc74 dX4_test_74 ?_
    refine at_iconst (pc := 75) X (1 : Int32) dX4_test_75 ic_1 ?_
    refine at_istore (pc := 76) X 6 [(6, .int (1 : Int32)), (0, .ref a0), (1, .int x1), (4, .int x4), (5, .int x5)] dX4_test_76 (by decide) rfl ?_
    have h2 := mm_inr h hk; exact at_sub [1, 2, 3, 4, 0] rfl h2
set_option maxHeartbeats 4000000 in
set_option maxRecDepth 100000 in
theorem wX4_test_b0 {E : mm_E} {G : mm_G} (X : mm_Cx E G cX4_test 11 RX4 wsX4_test rmX4_test (some .int)) {a0 : Nat} {x1 : Int32} {x2 : Int32} {σ : mm_M} {q : (Int32 × mm_M)} (ha0 : mm_Is G 4 a0) {o : (Int32 × mm_M) ⊕ ((Int32 × Int32 × mm_M) ⊕ ((Int32 × Int32 × Int32 × mm_M) ⊕ ((Int32 × Int32 × Int32 × Int32 × mm_M) ⊕ ((Int32 × Int32 × Int32 × Int32 × Int32 × mm_M) ⊕ (Int32 × Int32 × Int32 × Int32 × Int32 × Int32 × mm_M)))))} (h : fX4_test_b0 G a0 x1 x2 σ = some o) (hk : mm_Ok q (PX4_test E G a0 x1 x2 q) o) : mm_At E G 11 (mm_Qi E G q) σ 0 [(0, .ref a0), (1, .int x1), (2, .int x2)] [] := by
  unfold fX4_test_b0 at h
  refine at_aload_n (pc := 0) X 0 0 dX4_test_0 rfl rfl ?_
  refine at_iload_n (pc := 1) X 1 1 dX4_test_1 rfl rfl ?_
  obtain ⟨q2, hq2, h⟩ := mm_bind h
  refine at_calli (n := 1) (pc := 2) X 4 [.int x1] [] (mX4_isStation (eL E) X.wf ha0 hq2) gX4_test_X4_isStation rfl ⟨rfl, rfl⟩ (by decide +kernel) ⟨by decide, by decide⟩ (by decide) rfl ha0 rfl rfl (Nat.le_of_ble_eq_true rfl) dX4_test_2 ?_
  refine at_if_eq (pc := 5) X 15 dX4_test_5 (by decide) (fun c5 => ?_) (fun c5 => ?_)
  · have h := mm_pos c5 h
    refine at_iconst (pc := 15) X (-1 : Int32) dX4_test_15 ic_m1 ?_
    exact at_iret (pc := 16) X (mm_inl h hk) dX4_test_16
  · have h := mm_neg c5 h
    refine at_iload_n (pc := 8) X 2 2 dX4_test_8 rfl rfl ?_
    obtain ⟨q9, hq9, h⟩ := mm_bind h
    refine at_scalli (n := 1) (pc := 9) X [.int x2] [] (mX4_isRow (eL E) X.wf hq9) gX4_test_X4_isRow rfl ⟨rfl, rfl⟩ (by decide +kernel) ⟨by decide, by decide⟩ rfl rfl (Nat.le_of_ble_eq_true rfl) dX4_test_9 ?_
    refine at_if_ne (pc := 12) X 17 dX4_test_12 (by decide) (fun c12 => ?_) (fun c12 => ?_)
    · have h := mm_neg c12 h
      refine at_aload_n (pc := 17) X 0 0 dX4_test_17 rfl rfl ?_
      refine at_iload_n (pc := 18) X 2 2 dX4_test_18 rfl rfl ?_
      obtain ⟨q19, hq19, h⟩ := mm_bind h
      refine at_calli (n := 1) (pc := 19) X 4 [.int x2] [] (mX4_unfit (eL E) X.wf ha0 hq19) gX4_test_X4_unfit rfl ⟨rfl, rfl⟩ (by decide +kernel) ⟨by decide, by decide⟩ (by decide) rfl ha0 rfl rfl (Nat.le_of_ble_eq_true rfl) dX4_test_19 ?_
      refine at_istore_n (pc := 22) X 3 [(3, .int q19.1), (0, .ref a0), (1, .int x1), (2, .int x2)] dX4_test_22 rfl (by decide) rfl ?_
      refine at_iload_n (pc := 23) X 3 0 dX4_test_23 rfl rfl ?_
      refine at_if_eq (pc := 24) X 33 dX4_test_24 (by decide) (fun c24 => ?_) (fun c24 => ?_)
      · have h := mm_pos c24 h
        refine at_aload_n (pc := 33) X 0 1 dX4_test_33 rfl rfl ?_
        refine at_bipush (pc := 34) X (33 : Int32) dX4_test_34 ib_33 ?_
        refine at_iconst (pc := 36) X (5 : Int32) dX4_test_36 ic_5 ?_
        refine at_iload_n (pc := 37) X 1 2 dX4_test_37 rfl rfl ?_
        refine at_iload_n (pc := 38) X 2 3 dX4_test_38 rfl rfl ?_
        obtain ⟨q39, hq39, h⟩ := mm_bind h
        refine at_calli (n := 4) (pc := 39) X 4 [.int (33 : Int32), .int (5 : Int32), .int x1, .int x2] [] (mX4_fitting (eL E) X.wf ha0 hq39) gX4_test_X4_fitting rfl ⟨rfl, rfl⟩ (by decide +kernel) ⟨by decide, by decide⟩ (by decide) rfl ha0 rfl rfl (Nat.le_of_ble_eq_true rfl) dX4_test_39 ?_
        refine at_istore (pc := 42) X 4 [(4, .int q39.1), (3, .int q19.1), (0, .ref a0), (1, .int x1), (2, .int x2)] dX4_test_42 (by decide) rfl ?_
        refine at_iconst (pc := 44) X (0 : Int32) dX4_test_44 ic_0 ?_
        refine at_istore (pc := 45) X 5 [(5, .int (0 : Int32)), (4, .int q39.1), (3, .int q19.1), (0, .ref a0), (1, .int x1), (2, .int x2)] dX4_test_45 (by decide) rfl ?_
        have h2 := mm_inr h hk; exact at_sub [3, 4, 1, 0] rfl h2
      · have h := mm_neg c24 h
        refine at_aload_n (pc := 27) X 0 1 dX4_test_27 rfl rfl ?_
        refine at_iload_n (pc := 28) X 3 0 dX4_test_28 rfl rfl ?_
        obtain ⟨q29, hq29, h⟩ := mm_bind h
        refine at_calli (n := 1) (pc := 29) X 4 [.int q19.1] [] (mX4_finds (eL E) X.wf ha0 hq29) gX4_test_X4_finds rfl ⟨rfl, rfl⟩ (by decide +kernel) ⟨by decide, by decide⟩ (by decide) rfl ha0 rfl rfl (Nat.le_of_ble_eq_true rfl) dX4_test_29 ?_
        exact at_iret (pc := 32) X (mm_inl h hk) dX4_test_32
    · have h := mm_pos c12 h
      refine at_iconst (pc := 15) X (-1 : Int32) dX4_test_15 ic_m1 ?_
      exact at_iret (pc := 16) X (mm_inl h hk) dX4_test_16
set_option maxHeartbeats 4000000 in
set_option maxRecDepth 100000 in
theorem mX4_test (l : Launch) {G : mm_G} (hwf : mm_WF G) {a0 : Nat} {x1 : Int32} {x2 : Int32} {σ : mm_M} {q : (Int32 × mm_M)} (ha0 : mm_Is G 4 a0) (h : fX4_test G a0 x1 x2 σ = some q) : mm_Mi l yX4_test wsX4_test rmX4_test G [.ref a0, .int x1, .int x2] σ q := by
  refine mm_ofi (cc := cX4_test) (nL := 11) (ret := some .int) (own := RX4) (lv0 := [(0, .ref a0), (1, .int x1), (2, .int x2)]) (by decide) rfl rfl (Nat.le_of_ble_eq_true rfl) rfl hwf (fun E hE X => ?_)
  obtain ⟨o, h0, hk⟩ := mm_run_ok (P := PX4_test E G a0 x1 x2 q) h (fun s o hs hk => by cases s with | inl s => exact wX4_test_b47 X ha0 hs hk | inr s => (cases s with | inl s => exact wX4_test_b78 X ha0 hs hk | inr s => (cases s with | inl s => exact wX4_test_b131 X ha0 hs hk | inr s => (cases s with | inl s => exact wX4_test_b146 X ha0 hs hk | inr s => (exact wX4_test_b173 X ha0 hs hk)))))
  exact wX4_test_b0 X ha0 h0 hk
set_option maxRecDepth 20000 in
theorem ggX4_late_X4_copies : GoodIn wsX4_late wsX4_copies := goodIn_r _ [6] (by decide +kernel) (by decide +kernel)
set_option maxRecDepth 20000 in
theorem gX4_late_X4_copies : GoodIn wsX4_late (va_wsS RX4 165 yX4_copies wsX4_copies) := goodIn_app (goodIn_of _ (by decide +kernel)) ggX4_late_X4_copies
set_option maxRecDepth 20000 in
theorem ggX4_late_X4_done : GoodIn wsX4_late wsX4_done := goodIn_r _ [9, 10, 11, 5, 12, 13, 14, 15, 16, 17, 18, 19, 20, 21, 22, 23, 24, 25, 26, 27, 28, 29, 30, 31, 32, 33, 34, 35, 36, 37, 38, 39, 40, 41, 42] (by decide +kernel) (by decide +kernel)
set_option maxRecDepth 20000 in
theorem gX4_late_X4_done : GoodIn wsX4_late (va_wsS RX4 172 yX4_done wsX4_done) := goodIn_app (goodIn_of _ (by decide +kernel)) ggX4_late_X4_done
theorem dX4_late_0 : decode cX4_late 0 = .ok (.aload_n 0, 1) := by decide +kernel
theorem dX4_late_1 : decode cX4_late 1 = .ok (.getfield 35, 3) := by decide +kernel
theorem dX4_late_4 : decode cX4_late 4 = .ok (.aload_n 0, 1) := by decide +kernel
theorem dX4_late_5 : decode cX4_late 5 = .ok (.getfield 32, 3) := by decide +kernel
theorem dX4_late_8 : decode cX4_late 8 = .ok (.invokestatic 165, 3) := by decide +kernel
theorem dX4_late_11 : decode cX4_late 11 = .ok (.aload_n 0, 1) := by decide +kernel
theorem dX4_late_12 : decode cX4_late 12 = .ok (.getfield 32, 3) := by decide +kernel
theorem dX4_late_15 : decode cX4_late 15 = .ok (.invokestatic 172, 3) := by decide +kernel
theorem dX4_late_18 : decode cX4_late 18 = .ok (.istore_n 1, 1) := by decide +kernel
theorem dX4_late_19 : decode cX4_late 19 = .ok (.iload_n 1, 1) := by decide +kernel
theorem dX4_late_20 : decode cX4_late 20 = .ok (.bipush (-9), 2) := by decide +kernel
theorem dX4_late_22 : decode cX4_late 22 = .ok (.if_icmp .ne 9, 3) := by decide +kernel
theorem dX4_late_25 : decode cX4_late 25 = .ok (.sipush 201, 3) := by decide +kernel
theorem dX4_late_28 : decode cX4_late 28 = .ok (.goto 4, 3) := by decide +kernel
theorem dX4_late_31 : decode cX4_late 31 = .ok (.iload_n 1, 1) := by decide +kernel
theorem dX4_late_32 : decode cX4_late 32 = .ok (.ireturn, 1) := by decide +kernel
/-! X4_late ()I -/
abbrev rmX4_late : Room := { frames := 6, cells := 0, slots := 0, locals := 134 }
theorem lkX4_late_0 : Cond.fieldLink RX4 35 (TX4 8).1 (TX4 8).2.1 (TX4 8).2.2.1 ∈ wsX4_late := by decide +kernel
theorem lkX4_late_1 : Cond.fieldLink RX4 32 (TX4 7).1 (TX4 7).2.1 (TX4 7).2.2.1 ∈ wsX4_late := by decide +kernel
theorem inX4_late_X4 : ∀ w ∈ u_ws RX4 TX4 22, w ∈ wsX4_late := by decide +kernel
noncomputable def fX4_late (G : mm_G) (a0 : Nat) (σ : mm_M) : Option (Int32 × mm_M) := (fX4_copies G (mm_R G a0 8) (mm_R G a0 7) σ).bind (fun q8 => (fX4_done G (mm_R G a0 7) q8).bind (fun q15 => some (if q15.1 = (-9 : Int32) then (201 : Int32) else q15.1, q15.2)))
set_option maxHeartbeats 4000000 in
set_option maxRecDepth 100000 in
theorem wX4_late_b0 {E : mm_E} {G : mm_G} (X : mm_Cx E G cX4_late 2 RX4 wsX4_late rmX4_late (some .int)) {a0 : Nat} {σ : mm_M} {q : (Int32 × mm_M)} (ha0 : mm_Is G 4 a0) (h : fX4_late G a0 σ = some q) : mm_At E G 2 (mm_Qi E G q) σ 0 [(0, .ref a0)] [] := by
  unfold fX4_late at h
  refine at_aload_n (pc := 0) X 0 0 dX4_late_0 rfl rfl ?_
  refine at_get (pc := 1) X 4 8 (.ref (mm_R G a0 8)) ha0 (by decide) rfl inX4_late_X4 (by decide) lkX4_late_0 rfl dX4_late_1 ?_
  refine at_aload_n (pc := 4) X 0 0 dX4_late_4 rfl rfl ?_
  refine at_get (pc := 5) X 4 7 (.ref (mm_R G a0 7)) ha0 (by decide) rfl inX4_late_X4 (by decide) lkX4_late_1 rfl dX4_late_5 ?_
  obtain ⟨q8, hq8, h⟩ := mm_bind h
  refine at_scallv (n := 2) (pc := 8) X [.ref (mm_R G a0 8), .ref (mm_R G a0 7)] [] (mX4_copies (eL E) X.wf (wf_4_8 X.wf ha0) (wf_4_7 X.wf ha0) hq8) gX4_late_X4_copies rfl ⟨rfl, rfl⟩ (by decide +kernel) ⟨by decide, by decide⟩ rfl rfl (Nat.le_of_ble_eq_true rfl) dX4_late_8 ?_
  refine at_aload_n (pc := 11) X 0 0 dX4_late_11 rfl rfl ?_
  refine at_get (pc := 12) X 4 7 (.ref (mm_R G a0 7)) ha0 (by decide) rfl inX4_late_X4 (by decide) lkX4_late_1 rfl dX4_late_12 ?_
  obtain ⟨q15, hq15, h⟩ := mm_bind h
  refine at_scalli (n := 1) (pc := 15) X [.ref (mm_R G a0 7)] [] (mX4_done (eL E) X.wf (wf_4_7 X.wf ha0) hq15) gX4_late_X4_done rfl ⟨rfl, rfl⟩ (by decide +kernel) ⟨by decide, by decide⟩ rfl rfl (Nat.le_of_ble_eq_true rfl) dX4_late_15 ?_
  refine at_istore_n (pc := 18) X 1 [(1, .int q15.1), (0, .ref a0)] dX4_late_18 rfl (by decide) rfl ?_
  refine at_iload_n (pc := 19) X 1 0 dX4_late_19 rfl rfl ?_
  refine at_bipush (pc := 20) X (-9 : Int32) dX4_late_20 ib_m9 ?_
  have hj22 : mm_At E G 2 (mm_Qi E G q) q15.2 32 [] [.int (if q15.1 = (-9 : Int32) then (201 : Int32) else q15.1)] := by
    exact at_iret (pc := 32) X (Option.some.inj h) dX4_late_32
  refine at_icmp_ne (pc := 22) X 31 dX4_late_22 (by decide) (fun c22 => ?_) (fun c22 => ?_)
  · try simp only [if_neg c22] at hj22
    refine at_iload_n (pc := 31) X 1 0 dX4_late_31 rfl rfl ?_
    exact at_sub [] rfl hj22
  · try simp only [if_pos c22] at hj22
    refine at_sipush (pc := 25) X (201 : Int32) dX4_late_25 is_201 ?_
    refine at_goto (pc := 28) X 32 dX4_late_28 (by decide) ?_
    exact at_sub [] rfl hj22
set_option maxHeartbeats 4000000 in
set_option maxRecDepth 100000 in
theorem mX4_late (l : Launch) {G : mm_G} (hwf : mm_WF G) {a0 : Nat} {σ : mm_M} {q : (Int32 × mm_M)} (ha0 : mm_Is G 4 a0) (h : fX4_late G a0 σ = some q) : mm_Mi l yX4_late wsX4_late rmX4_late G [.ref a0] σ q := by
  refine mm_ofi (cc := cX4_late) (nL := 2) (ret := some .int) (own := RX4) (lv0 := [(0, .ref a0)]) (by decide) rfl rfl (Nat.le_of_ble_eq_true rfl) rfl hwf (fun E hE X => ?_)
  exact wX4_late_b0 X ha0 h
set_option maxRecDepth 20000 in
theorem ggX4_lastTurn_X4_late : GoodIn wsX4_lastTurn wsX4_late := goodIn_r _ [7, 2, 8, 9, 10, 6, 11, 12, 13, 14, 15, 16, 17, 18, 19, 20, 21, 22, 23, 24, 25, 26, 27, 28, 29, 30, 31, 32, 33, 34, 35, 36, 37, 38, 39, 40, 41, 42, 43, 44, 45, 46, 47, 48, 49, 50, 51, 52, 53, 54, 55, 56, 57, 58, 59, 60, 61, 62, 63, 64, 65, 66, 67, 68, 69] (by decide +kernel) (by decide +kernel)
set_option maxRecDepth 20000 in
theorem gX4_lastTurn_X4_late : GoodIn wsX4_lastTurn (wsV RX4 182 RX4 yX4_late wsX4_late) := goodIn_app (goodIn_of _ (by decide +kernel)) ggX4_lastTurn_X4_late
theorem dX4_lastTurn_0 : decode cX4_lastTurn 0 = .ok (.iload_n 1, 1) := by decide +kernel
theorem dX4_lastTurn_1 : decode cX4_lastTurn 1 = .ok (.ifCond .eq 7, 3) := by decide +kernel
theorem dX4_lastTurn_4 : decode cX4_lastTurn 4 = .ok (.iconst (-1), 1) := by decide +kernel
theorem dX4_lastTurn_5 : decode cX4_lastTurn 5 = .ok (.goto 6, 3) := by decide +kernel
theorem dX4_lastTurn_8 : decode cX4_lastTurn 8 = .ok (.sipush 999, 3) := by decide +kernel
theorem dX4_lastTurn_11 : decode cX4_lastTurn 11 = .ok (.istore_n 2, 1) := by decide +kernel
theorem dX4_lastTurn_12 : decode cX4_lastTurn 12 = .ok (.iconst 0, 1) := by decide +kernel
theorem dX4_lastTurn_13 : decode cX4_lastTurn 13 = .ok (.istore_n 3, 1) := by decide +kernel
theorem dX4_lastTurn_14 : decode cX4_lastTurn 14 = .ok (.iload_n 3, 1) := by decide +kernel
theorem dX4_lastTurn_15 : decode cX4_lastTurn 15 = .ok (.aload_n 0, 1) := by decide +kernel
theorem dX4_lastTurn_16 : decode cX4_lastTurn 16 = .ok (.getfield 26, 3) := by decide +kernel
theorem dX4_lastTurn_19 : decode cX4_lastTurn 19 = .ok (.bipush 32, 2) := by decide +kernel
theorem dX4_lastTurn_21 : decode cX4_lastTurn 21 = .ok (.iaload, 1) := by decide +kernel
theorem dX4_lastTurn_22 : decode cX4_lastTurn 22 = .ok (.if_icmp .ge 73, 3) := by decide +kernel
theorem dX4_lastTurn_25 : decode cX4_lastTurn 25 = .ok (.aload_n 0, 1) := by decide +kernel
theorem dX4_lastTurn_26 : decode cX4_lastTurn 26 = .ok (.getfield 35, 3) := by decide +kernel
theorem dX4_lastTurn_29 : decode cX4_lastTurn 29 = .ok (.bipush 11, 2) := by decide +kernel
theorem dX4_lastTurn_31 : decode cX4_lastTurn 31 = .ok (.iload_n 3, 1) := by decide +kernel
theorem dX4_lastTurn_32 : decode cX4_lastTurn 32 = .ok (.iadd, 1) := by decide +kernel
theorem dX4_lastTurn_33 : decode cX4_lastTurn 33 = .ok (.dup2, 1) := by decide +kernel
theorem dX4_lastTurn_34 : decode cX4_lastTurn 34 = .ok (.iaload, 1) := by decide +kernel
theorem dX4_lastTurn_35 : decode cX4_lastTurn 35 = .ok (.iconst 1, 1) := by decide +kernel
theorem dX4_lastTurn_36 : decode cX4_lastTurn 36 = .ok (.iadd, 1) := by decide +kernel
theorem dX4_lastTurn_37 : decode cX4_lastTurn 37 = .ok (.iastore, 1) := by decide +kernel
theorem dX4_lastTurn_38 : decode cX4_lastTurn 38 = .ok (.aload_n 0, 1) := by decide +kernel
theorem dX4_lastTurn_39 : decode cX4_lastTurn 39 = .ok (.invokevirtual 182, 3) := by decide +kernel
theorem dX4_lastTurn_42 : decode cX4_lastTurn 42 = .ok (.istore 4, 2) := by decide +kernel
theorem dX4_lastTurn_44 : decode cX4_lastTurn 44 = .ok (.aload_n 0, 1) := by decide +kernel
theorem dX4_lastTurn_45 : decode cX4_lastTurn 45 = .ok (.getfield 35, 3) := by decide +kernel
theorem dX4_lastTurn_48 : decode cX4_lastTurn 48 = .ok (.bipush 11, 2) := by decide +kernel
theorem dX4_lastTurn_50 : decode cX4_lastTurn 50 = .ok (.iload_n 3, 1) := by decide +kernel
theorem dX4_lastTurn_51 : decode cX4_lastTurn 51 = .ok (.iadd, 1) := by decide +kernel
theorem dX4_lastTurn_52 : decode cX4_lastTurn 52 = .ok (.dup2, 1) := by decide +kernel
theorem dX4_lastTurn_53 : decode cX4_lastTurn 53 = .ok (.iaload, 1) := by decide +kernel
theorem dX4_lastTurn_54 : decode cX4_lastTurn 54 = .ok (.iconst 1, 1) := by decide +kernel
theorem dX4_lastTurn_55 : decode cX4_lastTurn 55 = .ok (.isub, 1) := by decide +kernel
theorem dX4_lastTurn_56 : decode cX4_lastTurn 56 = .ok (.iastore, 1) := by decide +kernel
theorem dX4_lastTurn_57 : decode cX4_lastTurn 57 = .ok (.iload_n 1, 1) := by decide +kernel
theorem dX4_lastTurn_58 : decode cX4_lastTurn 58 = .ok (.ifCond .eq 18, 3) := by decide +kernel
theorem dX4_lastTurn_61 : decode cX4_lastTurn 61 = .ok (.iload 4, 2) := by decide +kernel
theorem dX4_lastTurn_63 : decode cX4_lastTurn 63 = .ok (.iload_n 2, 1) := by decide +kernel
theorem dX4_lastTurn_64 : decode cX4_lastTurn 64 = .ok (.if_icmp .le 8, 3) := by decide +kernel
theorem dX4_lastTurn_67 : decode cX4_lastTurn 67 = .ok (.iload 4, 2) := by decide +kernel
theorem dX4_lastTurn_69 : decode cX4_lastTurn 69 = .ok (.goto 19, 3) := by decide +kernel
theorem dX4_lastTurn_72 : decode cX4_lastTurn 72 = .ok (.iload_n 2, 1) := by decide +kernel
theorem dX4_lastTurn_73 : decode cX4_lastTurn 73 = .ok (.goto 15, 3) := by decide +kernel
theorem dX4_lastTurn_76 : decode cX4_lastTurn 76 = .ok (.iload 4, 2) := by decide +kernel
theorem dX4_lastTurn_78 : decode cX4_lastTurn 78 = .ok (.iload_n 2, 1) := by decide +kernel
theorem dX4_lastTurn_79 : decode cX4_lastTurn 79 = .ok (.if_icmp .ge 8, 3) := by decide +kernel
theorem dX4_lastTurn_82 : decode cX4_lastTurn 82 = .ok (.iload 4, 2) := by decide +kernel
theorem dX4_lastTurn_84 : decode cX4_lastTurn 84 = .ok (.goto 4, 3) := by decide +kernel
theorem dX4_lastTurn_87 : decode cX4_lastTurn 87 = .ok (.iload_n 2, 1) := by decide +kernel
theorem dX4_lastTurn_88 : decode cX4_lastTurn 88 = .ok (.istore_n 2, 1) := by decide +kernel
theorem dX4_lastTurn_89 : decode cX4_lastTurn 89 = .ok (.iinc 3 1, 3) := by decide +kernel
theorem dX4_lastTurn_92 : decode cX4_lastTurn 92 = .ok (.goto (-78), 3) := by decide +kernel
theorem dX4_lastTurn_95 : decode cX4_lastTurn 95 = .ok (.iload_n 2, 1) := by decide +kernel
theorem dX4_lastTurn_96 : decode cX4_lastTurn 96 = .ok (.ireturn, 1) := by decide +kernel
/-! X4_lastTurn (Z)I -/
abbrev rmX4_lastTurn : Room := { frames := 7, cells := 0, slots := 0, locals := 155 }
theorem lkX4_lastTurn_0 : Cond.fieldLink RX4 26 (TX4 5).1 (TX4 5).2.1 (TX4 5).2.2.1 ∈ wsX4_lastTurn := by decide +kernel
theorem lkX4_lastTurn_1 : Cond.fieldLink RX4 35 (TX4 8).1 (TX4 8).2.1 (TX4 8).2.2.1 ∈ wsX4_lastTurn := by decide +kernel
theorem inX4_lastTurn_X4 : ∀ w ∈ u_ws RX4 TX4 22, w ∈ wsX4_lastTurn := by decide +kernel
noncomputable def fX4_lastTurn_b14 (G : mm_G) (a0 : Nat) (x1 : Int32) (x2 : Int32) (x3 : Int32) (σ : mm_M) : Option ((Int32 × mm_M) ⊕ (Int32 × Int32 × mm_M)) := if (32 : Int32) < 0 ∨ mm_N G (mm_R G a0 5) ≤ (32 : Int32).toNatClampNeg then none else (if x3 < (σ.1 (mm_R G a0 5) (32 : Int32).toNatClampNeg) then (if ((11 : Int32) + x3) < 0 ∨ mm_N G (mm_R G a0 8) ≤ ((11 : Int32) + x3).toNatClampNeg then none else (if ((11 : Int32) + x3) < 0 ∨ mm_N G (mm_R G a0 8) ≤ ((11 : Int32) + x3).toNatClampNeg then none else ((fX4_late G a0 (mm_up σ (mm_R G a0 8) ((11 : Int32) + x3).toNatClampNeg ((σ.1 (mm_R G a0 8) ((11 : Int32) + x3).toNatClampNeg) + (1 : Int32)))).bind (fun q39 => if ((11 : Int32) + x3) < 0 ∨ mm_N G (mm_R G a0 8) ≤ ((11 : Int32) + x3).toNatClampNeg then none else (if ((11 : Int32) + x3) < 0 ∨ mm_N G (mm_R G a0 8) ≤ ((11 : Int32) + x3).toNatClampNeg then none else (some (.inr (if x1 = 0 then if q39.1 < x2 then q39.1 else x2 else if x2 < q39.1 then q39.1 else x2, x3 + 1, mm_up q39.2 (mm_R G a0 8) ((11 : Int32) + x3).toNatClampNeg ((q39.2.1 (mm_R G a0 8) ((11 : Int32) + x3).toNatClampNeg) - (1 : Int32)))))))))) else (some (.inl (x2, σ))))
noncomputable def fX4_lastTurn_b0 (G : mm_G) (a0 : Nat) (x1 : Int32) (σ : mm_M) : Option ((Int32 × mm_M) ⊕ (Int32 × Int32 × mm_M)) := some (.inr (if x1 = 0 then (999 : Int32) else (-1 : Int32), (0 : Int32), σ))
noncomputable def fX4_lastTurn_s (G : mm_G) (a0 : Nat) (x1 : Int32) : (Int32 × Int32 × mm_M) → Option ((Int32 × mm_M) ⊕ (Int32 × Int32 × mm_M)) := (fun s => fX4_lastTurn_b14 G a0 x1 s.1 s.2.1 s.2.2)
def PX4_lastTurn (E : mm_E) (G : mm_G) (a0 : Nat) (x1 : Int32) (q : (Int32 × mm_M)) : (Int32 × Int32 × mm_M) → Prop := (fun s => mm_At E G 5 (mm_Qi E G q) s.2.2 14 [(0, .ref a0), (1, .int x1), (2, .int s.1), (3, .int s.2.1)] [])
noncomputable def fX4_lastTurn (G : mm_G) (a0 : Nat) (x1 : Int32) (σ : mm_M) : Option (Int32 × mm_M) := mm_run (fX4_lastTurn_b0 G a0 x1 σ) (fX4_lastTurn_s G a0 x1)
set_option maxHeartbeats 4000000 in
set_option maxRecDepth 100000 in
theorem wX4_lastTurn_b14 {E : mm_E} {G : mm_G} (X : mm_Cx E G cX4_lastTurn 5 RX4 wsX4_lastTurn rmX4_lastTurn (some .int)) {a0 : Nat} {x1 : Int32} {x2 : Int32} {x3 : Int32} {σ : mm_M} {q : (Int32 × mm_M)} (ha0 : mm_Is G 4 a0) {o : (Int32 × mm_M) ⊕ (Int32 × Int32 × mm_M)} (h : fX4_lastTurn_b14 G a0 x1 x2 x3 σ = some o) (hk : mm_Ok q (PX4_lastTurn E G a0 x1 q) o) : mm_At E G 5 (mm_Qi E G q) σ 14 [(0, .ref a0), (1, .int x1), (2, .int x2), (3, .int x3)] [] := by
  unfold fX4_lastTurn_b14 at h
  refine at_iload_n (pc := 14) X 3 3 dX4_lastTurn_14 rfl rfl ?_
  refine at_aload_n (pc := 15) X 0 0 dX4_lastTurn_15 rfl rfl ?_
  refine at_get (pc := 16) X 4 5 (.ref (mm_R G a0 5)) ha0 (by decide) rfl inX4_lastTurn_X4 (by decide) lkX4_lastTurn_0 rfl dX4_lastTurn_16 ?_
  refine at_bipush (pc := 19) X (32 : Int32) dX4_lastTurn_19 ib_32 ?_
  obtain ⟨hc21, h⟩ := mm_chk h
  refine at_iald (pc := 21) X (wf_4_5 X.wf ha0) hc21 dX4_lastTurn_21 ?_
  refine at_icmp_ge (pc := 22) X 95 dX4_lastTurn_22 (by decide) (fun c22 => ?_) (fun c22 => ?_)
  · have h := mm_neg c22 h
    refine at_iload_n (pc := 95) X 2 2 dX4_lastTurn_95 rfl rfl ?_
    exact at_iret (pc := 96) X (mm_inl h hk) dX4_lastTurn_96
  · have h := mm_pos c22 h
    refine at_aload_n (pc := 25) X 0 0 dX4_lastTurn_25 rfl rfl ?_
    refine at_get (pc := 26) X 4 8 (.ref (mm_R G a0 8)) ha0 (by decide) rfl inX4_lastTurn_X4 (by decide) lkX4_lastTurn_1 rfl dX4_lastTurn_26 ?_
    refine at_bipush (pc := 29) X (11 : Int32) dX4_lastTurn_29 ib_11 ?_
    refine at_iload_n (pc := 31) X 3 3 dX4_lastTurn_31 rfl rfl ?_
    refine at_iadd (pc := 32) X dX4_lastTurn_32 ?_
    refine at_dup2 (pc := 33) X dX4_lastTurn_33 rfl rfl ?_
    obtain ⟨hc34, h⟩ := mm_chk h
    refine at_iald (pc := 34) X (wf_4_8 X.wf ha0) hc34 dX4_lastTurn_34 ?_
    refine at_iconst (pc := 35) X (1 : Int32) dX4_lastTurn_35 ic_1 ?_
    refine at_iadd (pc := 36) X dX4_lastTurn_36 ?_
    obtain ⟨hc37, h⟩ := mm_chk h
    refine at_iast (pc := 37) X (wf_4_8 X.wf ha0) hc37 dX4_lastTurn_37 ?_
    refine at_aload_n (pc := 38) X 0 0 dX4_lastTurn_38 rfl rfl ?_
    obtain ⟨q39, hq39, h⟩ := mm_bind h
    refine at_calli (n := 0) (pc := 39) X 4 [] [] (mX4_late (eL E) X.wf ha0 hq39) gX4_lastTurn_X4_late rfl ⟨rfl, rfl⟩ (by decide +kernel) ⟨by decide, by decide⟩ (by decide) rfl ha0 rfl rfl (Nat.le_of_ble_eq_true rfl) dX4_lastTurn_39 ?_
    refine at_istore (pc := 42) X 4 [(4, .int q39.1), (0, .ref a0), (1, .int x1), (2, .int x2), (3, .int x3)] dX4_lastTurn_42 (by decide) rfl ?_
    refine at_aload_n (pc := 44) X 0 1 dX4_lastTurn_44 rfl rfl ?_
    refine at_get (pc := 45) X 4 8 (.ref (mm_R G a0 8)) ha0 (by decide) rfl inX4_lastTurn_X4 (by decide) lkX4_lastTurn_1 rfl dX4_lastTurn_45 ?_
    refine at_bipush (pc := 48) X (11 : Int32) dX4_lastTurn_48 ib_11 ?_
    refine at_iload_n (pc := 50) X 3 4 dX4_lastTurn_50 rfl rfl ?_
    refine at_iadd (pc := 51) X dX4_lastTurn_51 ?_
    refine at_dup2 (pc := 52) X dX4_lastTurn_52 rfl rfl ?_
    obtain ⟨hc53, h⟩ := mm_chk h
    refine at_iald (pc := 53) X (wf_4_8 X.wf ha0) hc53 dX4_lastTurn_53 ?_
    refine at_iconst (pc := 54) X (1 : Int32) dX4_lastTurn_54 ic_1 ?_
    refine at_isub (pc := 55) X dX4_lastTurn_55 ?_
    obtain ⟨hc56, h⟩ := mm_chk h
    refine at_iast (pc := 56) X (wf_4_8 X.wf ha0) hc56 dX4_lastTurn_56 ?_
    refine at_iload_n (pc := 57) X 1 2 dX4_lastTurn_57 rfl rfl ?_
    have hj58 : mm_At E G 5 (mm_Qi E G q) (mm_up q39.2 (mm_R G a0 8) ((11 : Int32) + x3).toNatClampNeg ((q39.2.1 (mm_R G a0 8) ((11 : Int32) + x3).toNatClampNeg) - (1 : Int32))) 88 [(0, .ref a0), (1, .int x1), (3, .int x3)] [.int (if x1 = 0 then if q39.1 < x2 then q39.1 else x2 else if x2 < q39.1 then q39.1 else x2)] := by
      refine at_istore_n (pc := 88) X 2 [(2, .int (if x1 = 0 then if q39.1 < x2 then q39.1 else x2 else if x2 < q39.1 then q39.1 else x2)), (0, .ref a0), (1, .int x1), (3, .int x3)] dX4_lastTurn_88 rfl (by decide) rfl ?_
      refine at_iinc (pc := 89) X 3 3 (x3 + 1) [(3, .int (x3 + 1)), (2, .int (if x1 = 0 then if q39.1 < x2 then q39.1 else x2 else if x2 < q39.1 then q39.1 else x2)), (0, .ref a0), (1, .int x1)] dX4_lastTurn_89 rfl (ii_1 _) (by decide) rfl ?_
      refine at_goto (pc := 92) X 14 dX4_lastTurn_92 (by decide) ?_
      have h2 := mm_inr h hk; exact at_sub [2, 3, 1, 0] rfl h2
    refine at_if_eq (pc := 58) X 76 dX4_lastTurn_58 (by decide) (fun c58 => ?_) (fun c58 => ?_)
    · try simp only [if_pos c58] at hj58
      refine at_iload (pc := 76) X 4 0 dX4_lastTurn_76 rfl ?_
      refine at_iload_n (pc := 78) X 2 3 dX4_lastTurn_78 rfl rfl ?_
      refine at_icmp_ge (pc := 79) X 87 dX4_lastTurn_79 (by decide) (fun c79 => ?_) (fun c79 => ?_)
      · try simp only [if_neg c79] at hj58
        refine at_iload_n (pc := 87) X 2 3 dX4_lastTurn_87 rfl rfl ?_
        exact at_sub [1, 2, 4] rfl hj58
      · try simp only [if_pos c79] at hj58
        refine at_iload (pc := 82) X 4 0 dX4_lastTurn_82 rfl ?_
        refine at_goto (pc := 84) X 88 dX4_lastTurn_84 (by decide) ?_
        exact at_sub [1, 2, 4] rfl hj58
    · try simp only [if_neg c58] at hj58
      refine at_iload (pc := 61) X 4 0 dX4_lastTurn_61 rfl ?_
      refine at_iload_n (pc := 63) X 2 3 dX4_lastTurn_63 rfl rfl ?_
      refine at_icmp_le (pc := 64) X 72 dX4_lastTurn_64 (by decide) (fun c64 => ?_) (fun c64 => ?_)
      · try simp only [if_neg c64] at hj58
        refine at_iload_n (pc := 72) X 2 3 dX4_lastTurn_72 rfl rfl ?_
        refine at_goto (pc := 73) X 88 dX4_lastTurn_73 (by decide) ?_
        exact at_sub [1, 2, 4] rfl hj58
      · try simp only [if_pos c64] at hj58
        refine at_iload (pc := 67) X 4 0 dX4_lastTurn_67 rfl ?_
        refine at_goto (pc := 69) X 88 dX4_lastTurn_69 (by decide) ?_
        exact at_sub [1, 2, 4] rfl hj58
set_option maxHeartbeats 4000000 in
set_option maxRecDepth 100000 in
theorem wX4_lastTurn_b0 {E : mm_E} {G : mm_G} (X : mm_Cx E G cX4_lastTurn 5 RX4 wsX4_lastTurn rmX4_lastTurn (some .int)) {a0 : Nat} {x1 : Int32} {σ : mm_M} {q : (Int32 × mm_M)} (ha0 : mm_Is G 4 a0) {o : (Int32 × mm_M) ⊕ (Int32 × Int32 × mm_M)} (h : fX4_lastTurn_b0 G a0 x1 σ = some o) (hk : mm_Ok q (PX4_lastTurn E G a0 x1 q) o) : mm_At E G 5 (mm_Qi E G q) σ 0 [(0, .ref a0), (1, .int x1)] [] := by
  unfold fX4_lastTurn_b0 at h
  refine at_iload_n (pc := 0) X 1 1 dX4_lastTurn_0 rfl rfl ?_
  have hj1 : mm_At E G 5 (mm_Qi E G q) σ 11 [(0, .ref a0), (1, .int x1)] [.int (if x1 = 0 then (999 : Int32) else (-1 : Int32))] := by
    refine at_istore_n (pc := 11) X 2 [(2, .int (if x1 = 0 then (999 : Int32) else (-1 : Int32))), (0, .ref a0), (1, .int x1)] dX4_lastTurn_11 rfl (by decide) rfl ?_
    refine at_iconst (pc := 12) X (0 : Int32) dX4_lastTurn_12 ic_0 ?_
    refine at_istore_n (pc := 13) X 3 [(3, .int (0 : Int32)), (2, .int (if x1 = 0 then (999 : Int32) else (-1 : Int32))), (0, .ref a0), (1, .int x1)] dX4_lastTurn_13 rfl (by decide) rfl ?_
    have h2 := mm_inr h hk; exact at_sub [2, 3, 1, 0] rfl h2
  refine at_if_eq (pc := 1) X 8 dX4_lastTurn_1 (by decide) (fun c1 => ?_) (fun c1 => ?_)
  · try simp only [if_pos c1] at hj1
    refine at_sipush (pc := 8) X (999 : Int32) dX4_lastTurn_8 is_999 ?_
    exact at_sub [0, 1] rfl hj1
  · try simp only [if_neg c1] at hj1
    refine at_iconst (pc := 4) X (-1 : Int32) dX4_lastTurn_4 ic_m1 ?_
    refine at_goto (pc := 5) X 11 dX4_lastTurn_5 (by decide) ?_
    exact at_sub [0, 1] rfl hj1
set_option maxHeartbeats 4000000 in
set_option maxRecDepth 100000 in
theorem mX4_lastTurn (l : Launch) {G : mm_G} (hwf : mm_WF G) {a0 : Nat} {x1 : Int32} {σ : mm_M} {q : (Int32 × mm_M)} (ha0 : mm_Is G 4 a0) (h : fX4_lastTurn G a0 x1 σ = some q) : mm_Mi l yX4_lastTurn wsX4_lastTurn rmX4_lastTurn G [.ref a0, .int x1] σ q := by
  refine mm_ofi (cc := cX4_lastTurn) (nL := 5) (ret := some .int) (own := RX4) (lv0 := [(0, .ref a0), (1, .int x1)]) (by decide) rfl rfl (Nat.le_of_ble_eq_true rfl) rfl hwf (fun E hE X => ?_)
  obtain ⟨o, h0, hk⟩ := mm_run_ok (P := PX4_lastTurn E G a0 x1 q) h (fun s o hs hk => by exact wX4_lastTurn_b14 X ha0 hs hk)
  exact wX4_lastTurn_b0 X ha0 h0 hk
set_option maxRecDepth 20000 in
theorem ggX4_twoTurns_X4_lastTurn : GoodIn wsX4_twoTurns wsX4_lastTurn := goodIn_r _ [7, 1, 2, 8, 9, 10, 6, 11, 12, 13, 14, 15, 16, 17, 18, 19, 20, 21, 22, 23, 24, 25, 26, 27, 28, 29, 30, 31, 32, 33, 34, 35, 36, 37, 38, 39, 40, 41, 42, 43, 44, 45, 46, 47, 48, 49, 50, 51, 52, 53, 54, 55, 56, 57, 58, 59, 60, 61, 62, 63, 64, 65, 66, 67, 68, 69, 70, 71, 72, 73] (by decide +kernel) (by decide +kernel)
set_option maxRecDepth 20000 in
theorem gX4_twoTurns_X4_lastTurn : GoodIn wsX4_twoTurns (wsV RX4 186 RX4 yX4_lastTurn wsX4_lastTurn) := goodIn_app (goodIn_of _ (by decide +kernel)) ggX4_twoTurns_X4_lastTurn
theorem dX4_twoTurns_0 : decode cX4_twoTurns 0 = .ok (.iload_n 1, 1) := by decide +kernel
theorem dX4_twoTurns_1 : decode cX4_twoTurns 1 = .ok (.ifCond .eq 7, 3) := by decide +kernel
theorem dX4_twoTurns_4 : decode cX4_twoTurns 4 = .ok (.iconst (-1), 1) := by decide +kernel
theorem dX4_twoTurns_5 : decode cX4_twoTurns 5 = .ok (.goto 6, 3) := by decide +kernel
theorem dX4_twoTurns_8 : decode cX4_twoTurns 8 = .ok (.sipush 999, 3) := by decide +kernel
theorem dX4_twoTurns_11 : decode cX4_twoTurns 11 = .ok (.istore_n 2, 1) := by decide +kernel
theorem dX4_twoTurns_12 : decode cX4_twoTurns 12 = .ok (.iconst 0, 1) := by decide +kernel
theorem dX4_twoTurns_13 : decode cX4_twoTurns 13 = .ok (.istore_n 3, 1) := by decide +kernel
theorem dX4_twoTurns_14 : decode cX4_twoTurns 14 = .ok (.iload_n 3, 1) := by decide +kernel
theorem dX4_twoTurns_15 : decode cX4_twoTurns 15 = .ok (.aload_n 0, 1) := by decide +kernel
theorem dX4_twoTurns_16 : decode cX4_twoTurns 16 = .ok (.getfield 26, 3) := by decide +kernel
theorem dX4_twoTurns_19 : decode cX4_twoTurns 19 = .ok (.bipush 32, 2) := by decide +kernel
theorem dX4_twoTurns_21 : decode cX4_twoTurns 21 = .ok (.iaload, 1) := by decide +kernel
theorem dX4_twoTurns_22 : decode cX4_twoTurns 22 = .ok (.if_icmp .ge 82, 3) := by decide +kernel
theorem dX4_twoTurns_25 : decode cX4_twoTurns 25 = .ok (.aload_n 0, 1) := by decide +kernel
theorem dX4_twoTurns_26 : decode cX4_twoTurns 26 = .ok (.getfield 35, 3) := by decide +kernel
theorem dX4_twoTurns_29 : decode cX4_twoTurns 29 = .ok (.bipush 11, 2) := by decide +kernel
theorem dX4_twoTurns_31 : decode cX4_twoTurns 31 = .ok (.iload_n 3, 1) := by decide +kernel
theorem dX4_twoTurns_32 : decode cX4_twoTurns 32 = .ok (.iadd, 1) := by decide +kernel
theorem dX4_twoTurns_33 : decode cX4_twoTurns 33 = .ok (.dup2, 1) := by decide +kernel
theorem dX4_twoTurns_34 : decode cX4_twoTurns 34 = .ok (.iaload, 1) := by decide +kernel
theorem dX4_twoTurns_35 : decode cX4_twoTurns 35 = .ok (.iconst 1, 1) := by decide +kernel
theorem dX4_twoTurns_36 : decode cX4_twoTurns 36 = .ok (.iadd, 1) := by decide +kernel
theorem dX4_twoTurns_37 : decode cX4_twoTurns 37 = .ok (.iastore, 1) := by decide +kernel
theorem dX4_twoTurns_38 : decode cX4_twoTurns 38 = .ok (.aload_n 0, 1) := by decide +kernel
theorem dX4_twoTurns_39 : decode cX4_twoTurns 39 = .ok (.iload_n 1, 1) := by decide +kernel
theorem dX4_twoTurns_40 : decode cX4_twoTurns 40 = .ok (.ifCond .ne 7, 3) := by decide +kernel
theorem dX4_twoTurns_43 : decode cX4_twoTurns 43 = .ok (.iconst 1, 1) := by decide +kernel
theorem dX4_twoTurns_44 : decode cX4_twoTurns 44 = .ok (.goto 4, 3) := by decide +kernel
theorem dX4_twoTurns_47 : decode cX4_twoTurns 47 = .ok (.iconst 0, 1) := by decide +kernel
theorem dX4_twoTurns_48 : decode cX4_twoTurns 48 = .ok (.invokevirtual 186, 3) := by decide +kernel
theorem dX4_twoTurns_51 : decode cX4_twoTurns 51 = .ok (.istore 4, 2) := by decide +kernel
theorem dX4_twoTurns_53 : decode cX4_twoTurns 53 = .ok (.aload_n 0, 1) := by decide +kernel
theorem dX4_twoTurns_54 : decode cX4_twoTurns 54 = .ok (.getfield 35, 3) := by decide +kernel
theorem dX4_twoTurns_57 : decode cX4_twoTurns 57 = .ok (.bipush 11, 2) := by decide +kernel
theorem dX4_twoTurns_59 : decode cX4_twoTurns 59 = .ok (.iload_n 3, 1) := by decide +kernel
theorem dX4_twoTurns_60 : decode cX4_twoTurns 60 = .ok (.iadd, 1) := by decide +kernel
theorem dX4_twoTurns_61 : decode cX4_twoTurns 61 = .ok (.dup2, 1) := by decide +kernel
theorem dX4_twoTurns_62 : decode cX4_twoTurns 62 = .ok (.iaload, 1) := by decide +kernel
theorem dX4_twoTurns_63 : decode cX4_twoTurns 63 = .ok (.iconst 1, 1) := by decide +kernel
theorem dX4_twoTurns_64 : decode cX4_twoTurns 64 = .ok (.isub, 1) := by decide +kernel
theorem dX4_twoTurns_65 : decode cX4_twoTurns 65 = .ok (.iastore, 1) := by decide +kernel
theorem dX4_twoTurns_66 : decode cX4_twoTurns 66 = .ok (.iload_n 1, 1) := by decide +kernel
theorem dX4_twoTurns_67 : decode cX4_twoTurns 67 = .ok (.ifCond .eq 18, 3) := by decide +kernel
theorem dX4_twoTurns_70 : decode cX4_twoTurns 70 = .ok (.iload 4, 2) := by decide +kernel
theorem dX4_twoTurns_72 : decode cX4_twoTurns 72 = .ok (.iload_n 2, 1) := by decide +kernel
theorem dX4_twoTurns_73 : decode cX4_twoTurns 73 = .ok (.if_icmp .le 8, 3) := by decide +kernel
theorem dX4_twoTurns_76 : decode cX4_twoTurns 76 = .ok (.iload 4, 2) := by decide +kernel
theorem dX4_twoTurns_78 : decode cX4_twoTurns 78 = .ok (.goto 19, 3) := by decide +kernel
theorem dX4_twoTurns_81 : decode cX4_twoTurns 81 = .ok (.iload_n 2, 1) := by decide +kernel
theorem dX4_twoTurns_82 : decode cX4_twoTurns 82 = .ok (.goto 15, 3) := by decide +kernel
theorem dX4_twoTurns_85 : decode cX4_twoTurns 85 = .ok (.iload 4, 2) := by decide +kernel
theorem dX4_twoTurns_87 : decode cX4_twoTurns 87 = .ok (.iload_n 2, 1) := by decide +kernel
theorem dX4_twoTurns_88 : decode cX4_twoTurns 88 = .ok (.if_icmp .ge 8, 3) := by decide +kernel
theorem dX4_twoTurns_91 : decode cX4_twoTurns 91 = .ok (.iload 4, 2) := by decide +kernel
theorem dX4_twoTurns_93 : decode cX4_twoTurns 93 = .ok (.goto 4, 3) := by decide +kernel
theorem dX4_twoTurns_96 : decode cX4_twoTurns 96 = .ok (.iload_n 2, 1) := by decide +kernel
theorem dX4_twoTurns_97 : decode cX4_twoTurns 97 = .ok (.istore_n 2, 1) := by decide +kernel
theorem dX4_twoTurns_98 : decode cX4_twoTurns 98 = .ok (.iinc 3 1, 3) := by decide +kernel
theorem dX4_twoTurns_101 : decode cX4_twoTurns 101 = .ok (.goto (-87), 3) := by decide +kernel
theorem dX4_twoTurns_104 : decode cX4_twoTurns 104 = .ok (.iload_n 2, 1) := by decide +kernel
theorem dX4_twoTurns_105 : decode cX4_twoTurns 105 = .ok (.ireturn, 1) := by decide +kernel
/-! X4_twoTurns (Z)I -/
abbrev rmX4_twoTurns : Room := { frames := 8, cells := 0, slots := 0, locals := 179 }
theorem lkX4_twoTurns_0 : Cond.fieldLink RX4 26 (TX4 5).1 (TX4 5).2.1 (TX4 5).2.2.1 ∈ wsX4_twoTurns := by decide +kernel
theorem lkX4_twoTurns_1 : Cond.fieldLink RX4 35 (TX4 8).1 (TX4 8).2.1 (TX4 8).2.2.1 ∈ wsX4_twoTurns := by decide +kernel
theorem inX4_twoTurns_X4 : ∀ w ∈ u_ws RX4 TX4 22, w ∈ wsX4_twoTurns := by decide +kernel
noncomputable def fX4_twoTurns_b48 (G : mm_G) (a0 : Nat) (x1 : Int32) (x2 : Int32) (x3 : Int32) (sx0 : Int32) (sa1 : Nat) (σ : mm_M) : Option ((Int32 × mm_M) ⊕ (Int32 × Int32 × mm_M)) := (fX4_lastTurn G sa1 sx0 σ).bind (fun q48 => if ((11 : Int32) + x3) < 0 ∨ mm_N G (mm_R G a0 8) ≤ ((11 : Int32) + x3).toNatClampNeg then none else (if ((11 : Int32) + x3) < 0 ∨ mm_N G (mm_R G a0 8) ≤ ((11 : Int32) + x3).toNatClampNeg then none else (some (.inr (if x1 = 0 then if q48.1 < x2 then q48.1 else x2 else if x2 < q48.1 then q48.1 else x2, x3 + 1, mm_up q48.2 (mm_R G a0 8) ((11 : Int32) + x3).toNatClampNeg ((q48.2.1 (mm_R G a0 8) ((11 : Int32) + x3).toNatClampNeg) - (1 : Int32)))))))
noncomputable def fX4_twoTurns_b14 (G : mm_G) (a0 : Nat) (x1 : Int32) (x2 : Int32) (x3 : Int32) (σ : mm_M) : Option ((Int32 × mm_M) ⊕ (Int32 × Int32 × mm_M)) := if (32 : Int32) < 0 ∨ mm_N G (mm_R G a0 5) ≤ (32 : Int32).toNatClampNeg then none else (if x3 < (σ.1 (mm_R G a0 5) (32 : Int32).toNatClampNeg) then (if ((11 : Int32) + x3) < 0 ∨ mm_N G (mm_R G a0 8) ≤ ((11 : Int32) + x3).toNatClampNeg then none else (if ((11 : Int32) + x3) < 0 ∨ mm_N G (mm_R G a0 8) ≤ ((11 : Int32) + x3).toNatClampNeg then none else (fX4_twoTurns_b48 G a0 x1 x2 x3 (if x1 = 0 then (1 : Int32) else (0 : Int32)) a0 (mm_up σ (mm_R G a0 8) ((11 : Int32) + x3).toNatClampNeg ((σ.1 (mm_R G a0 8) ((11 : Int32) + x3).toNatClampNeg) + (1 : Int32)))))) else (some (.inl (x2, σ))))
noncomputable def fX4_twoTurns_b0 (G : mm_G) (a0 : Nat) (x1 : Int32) (σ : mm_M) : Option ((Int32 × mm_M) ⊕ (Int32 × Int32 × mm_M)) := some (.inr (if x1 = 0 then (999 : Int32) else (-1 : Int32), (0 : Int32), σ))
noncomputable def fX4_twoTurns_s (G : mm_G) (a0 : Nat) (x1 : Int32) : (Int32 × Int32 × mm_M) → Option ((Int32 × mm_M) ⊕ (Int32 × Int32 × mm_M)) := (fun s => fX4_twoTurns_b14 G a0 x1 s.1 s.2.1 s.2.2)
def PX4_twoTurns (E : mm_E) (G : mm_G) (a0 : Nat) (x1 : Int32) (q : (Int32 × mm_M)) : (Int32 × Int32 × mm_M) → Prop := (fun s => mm_At E G 5 (mm_Qi E G q) s.2.2 14 [(0, .ref a0), (1, .int x1), (2, .int s.1), (3, .int s.2.1)] [])
noncomputable def fX4_twoTurns (G : mm_G) (a0 : Nat) (x1 : Int32) (σ : mm_M) : Option (Int32 × mm_M) := mm_run (fX4_twoTurns_b0 G a0 x1 σ) (fX4_twoTurns_s G a0 x1)
set_option maxHeartbeats 4000000 in
set_option maxRecDepth 100000 in
theorem wX4_twoTurns_b48 {E : mm_E} {G : mm_G} (X : mm_Cx E G cX4_twoTurns 5 RX4 wsX4_twoTurns rmX4_twoTurns (some .int)) {a0 : Nat} {x1 : Int32} {x2 : Int32} {x3 : Int32} {sx0 : Int32} {sa1 : Nat} {σ : mm_M} {q : (Int32 × mm_M)} (ha0 : mm_Is G 4 a0) (hsa1 : mm_Is G 4 sa1) {o : (Int32 × mm_M) ⊕ (Int32 × Int32 × mm_M)} (h : fX4_twoTurns_b48 G a0 x1 x2 x3 sx0 sa1 σ = some o) (hk : mm_Ok q (PX4_twoTurns E G a0 x1 q) o) : mm_At E G 5 (mm_Qi E G q) σ 48 [(0, .ref a0), (1, .int x1), (2, .int x2), (3, .int x3)] [.int sx0, .ref sa1] := by
  unfold fX4_twoTurns_b48 at h
  obtain ⟨q48, hq48, h⟩ := mm_bind h
  refine at_calli (n := 1) (pc := 48) X 4 [.int sx0] [] (mX4_lastTurn (eL E) X.wf hsa1 hq48) gX4_twoTurns_X4_lastTurn rfl ⟨rfl, rfl⟩ (by decide +kernel) ⟨by decide, by decide⟩ (by decide) rfl hsa1 rfl rfl (Nat.le_of_ble_eq_true rfl) dX4_twoTurns_48 ?_
  refine at_istore (pc := 51) X 4 [(4, .int q48.1), (0, .ref a0), (1, .int x1), (2, .int x2), (3, .int x3)] dX4_twoTurns_51 (by decide) rfl ?_
  refine at_aload_n (pc := 53) X 0 1 dX4_twoTurns_53 rfl rfl ?_
  refine at_get (pc := 54) X 4 8 (.ref (mm_R G a0 8)) ha0 (by decide) rfl inX4_twoTurns_X4 (by decide) lkX4_twoTurns_1 rfl dX4_twoTurns_54 ?_
  refine at_bipush (pc := 57) X (11 : Int32) dX4_twoTurns_57 ib_11 ?_
  refine at_iload_n (pc := 59) X 3 4 dX4_twoTurns_59 rfl rfl ?_
  refine at_iadd (pc := 60) X dX4_twoTurns_60 ?_
  refine at_dup2 (pc := 61) X dX4_twoTurns_61 rfl rfl ?_
  obtain ⟨hc62, h⟩ := mm_chk h
  refine at_iald (pc := 62) X (wf_4_8 X.wf ha0) hc62 dX4_twoTurns_62 ?_
  refine at_iconst (pc := 63) X (1 : Int32) dX4_twoTurns_63 ic_1 ?_
  refine at_isub (pc := 64) X dX4_twoTurns_64 ?_
  obtain ⟨hc65, h⟩ := mm_chk h
  refine at_iast (pc := 65) X (wf_4_8 X.wf ha0) hc65 dX4_twoTurns_65 ?_
  refine at_iload_n (pc := 66) X 1 2 dX4_twoTurns_66 rfl rfl ?_
  have hj67 : mm_At E G 5 (mm_Qi E G q) (mm_up q48.2 (mm_R G a0 8) ((11 : Int32) + x3).toNatClampNeg ((q48.2.1 (mm_R G a0 8) ((11 : Int32) + x3).toNatClampNeg) - (1 : Int32))) 97 [(0, .ref a0), (1, .int x1), (3, .int x3)] [.int (if x1 = 0 then if q48.1 < x2 then q48.1 else x2 else if x2 < q48.1 then q48.1 else x2)] := by
    refine at_istore_n (pc := 97) X 2 [(2, .int (if x1 = 0 then if q48.1 < x2 then q48.1 else x2 else if x2 < q48.1 then q48.1 else x2)), (0, .ref a0), (1, .int x1), (3, .int x3)] dX4_twoTurns_97 rfl (by decide) rfl ?_
    refine at_iinc (pc := 98) X 3 3 (x3 + 1) [(3, .int (x3 + 1)), (2, .int (if x1 = 0 then if q48.1 < x2 then q48.1 else x2 else if x2 < q48.1 then q48.1 else x2)), (0, .ref a0), (1, .int x1)] dX4_twoTurns_98 rfl (ii_1 _) (by decide) rfl ?_
    refine at_goto (pc := 101) X 14 dX4_twoTurns_101 (by decide) ?_
    have h2 := mm_inr h hk; exact at_sub [2, 3, 1, 0] rfl h2
  refine at_if_eq (pc := 67) X 85 dX4_twoTurns_67 (by decide) (fun c67 => ?_) (fun c67 => ?_)
  · try simp only [if_pos c67] at hj67
    refine at_iload (pc := 85) X 4 0 dX4_twoTurns_85 rfl ?_
    refine at_iload_n (pc := 87) X 2 3 dX4_twoTurns_87 rfl rfl ?_
    refine at_icmp_ge (pc := 88) X 96 dX4_twoTurns_88 (by decide) (fun c88 => ?_) (fun c88 => ?_)
    · try simp only [if_neg c88] at hj67
      refine at_iload_n (pc := 96) X 2 3 dX4_twoTurns_96 rfl rfl ?_
      exact at_sub [1, 2, 4] rfl hj67
    · try simp only [if_pos c88] at hj67
      refine at_iload (pc := 91) X 4 0 dX4_twoTurns_91 rfl ?_
      refine at_goto (pc := 93) X 97 dX4_twoTurns_93 (by decide) ?_
      exact at_sub [1, 2, 4] rfl hj67
  · try simp only [if_neg c67] at hj67
    refine at_iload (pc := 70) X 4 0 dX4_twoTurns_70 rfl ?_
    refine at_iload_n (pc := 72) X 2 3 dX4_twoTurns_72 rfl rfl ?_
    refine at_icmp_le (pc := 73) X 81 dX4_twoTurns_73 (by decide) (fun c73 => ?_) (fun c73 => ?_)
    · try simp only [if_neg c73] at hj67
      refine at_iload_n (pc := 81) X 2 3 dX4_twoTurns_81 rfl rfl ?_
      refine at_goto (pc := 82) X 97 dX4_twoTurns_82 (by decide) ?_
      exact at_sub [1, 2, 4] rfl hj67
    · try simp only [if_pos c73] at hj67
      refine at_iload (pc := 76) X 4 0 dX4_twoTurns_76 rfl ?_
      refine at_goto (pc := 78) X 97 dX4_twoTurns_78 (by decide) ?_
      exact at_sub [1, 2, 4] rfl hj67
set_option maxHeartbeats 4000000 in
set_option maxRecDepth 100000 in
theorem wX4_twoTurns_b14 {E : mm_E} {G : mm_G} (X : mm_Cx E G cX4_twoTurns 5 RX4 wsX4_twoTurns rmX4_twoTurns (some .int)) {a0 : Nat} {x1 : Int32} {x2 : Int32} {x3 : Int32} {σ : mm_M} {q : (Int32 × mm_M)} (ha0 : mm_Is G 4 a0) {o : (Int32 × mm_M) ⊕ (Int32 × Int32 × mm_M)} (h : fX4_twoTurns_b14 G a0 x1 x2 x3 σ = some o) (hk : mm_Ok q (PX4_twoTurns E G a0 x1 q) o) : mm_At E G 5 (mm_Qi E G q) σ 14 [(0, .ref a0), (1, .int x1), (2, .int x2), (3, .int x3)] [] := by
  unfold fX4_twoTurns_b14 at h
  refine at_iload_n (pc := 14) X 3 3 dX4_twoTurns_14 rfl rfl ?_
  refine at_aload_n (pc := 15) X 0 0 dX4_twoTurns_15 rfl rfl ?_
  refine at_get (pc := 16) X 4 5 (.ref (mm_R G a0 5)) ha0 (by decide) rfl inX4_twoTurns_X4 (by decide) lkX4_twoTurns_0 rfl dX4_twoTurns_16 ?_
  refine at_bipush (pc := 19) X (32 : Int32) dX4_twoTurns_19 ib_32 ?_
  obtain ⟨hc21, h⟩ := mm_chk h
  refine at_iald (pc := 21) X (wf_4_5 X.wf ha0) hc21 dX4_twoTurns_21 ?_
  refine at_icmp_ge (pc := 22) X 104 dX4_twoTurns_22 (by decide) (fun c22 => ?_) (fun c22 => ?_)
  · have h := mm_neg c22 h
    refine at_iload_n (pc := 104) X 2 2 dX4_twoTurns_104 rfl rfl ?_
    exact at_iret (pc := 105) X (mm_inl h hk) dX4_twoTurns_105
  · have h := mm_pos c22 h
    refine at_aload_n (pc := 25) X 0 0 dX4_twoTurns_25 rfl rfl ?_
    refine at_get (pc := 26) X 4 8 (.ref (mm_R G a0 8)) ha0 (by decide) rfl inX4_twoTurns_X4 (by decide) lkX4_twoTurns_1 rfl dX4_twoTurns_26 ?_
    refine at_bipush (pc := 29) X (11 : Int32) dX4_twoTurns_29 ib_11 ?_
    refine at_iload_n (pc := 31) X 3 3 dX4_twoTurns_31 rfl rfl ?_
    refine at_iadd (pc := 32) X dX4_twoTurns_32 ?_
    refine at_dup2 (pc := 33) X dX4_twoTurns_33 rfl rfl ?_
    obtain ⟨hc34, h⟩ := mm_chk h
    refine at_iald (pc := 34) X (wf_4_8 X.wf ha0) hc34 dX4_twoTurns_34 ?_
    refine at_iconst (pc := 35) X (1 : Int32) dX4_twoTurns_35 ic_1 ?_
    refine at_iadd (pc := 36) X dX4_twoTurns_36 ?_
    obtain ⟨hc37, h⟩ := mm_chk h
    refine at_iast (pc := 37) X (wf_4_8 X.wf ha0) hc37 dX4_twoTurns_37 ?_
    refine at_aload_n (pc := 38) X 0 0 dX4_twoTurns_38 rfl rfl ?_
    refine at_iload_n (pc := 39) X 1 1 dX4_twoTurns_39 rfl rfl ?_
    have hj40 : mm_At E G 5 (mm_Qi E G q) (mm_up σ (mm_R G a0 8) ((11 : Int32) + x3).toNatClampNeg ((σ.1 (mm_R G a0 8) ((11 : Int32) + x3).toNatClampNeg) + (1 : Int32))) 48 [(0, .ref a0), (1, .int x1), (2, .int x2), (3, .int x3)] [.int (if x1 = 0 then (1 : Int32) else (0 : Int32)), .ref a0] := by
      exact at_sub [0, 1, 2, 3] rfl (wX4_twoTurns_b48 X ha0 ha0 h hk)
    refine at_if_ne (pc := 40) X 47 dX4_twoTurns_40 (by decide) (fun c40 => ?_) (fun c40 => ?_)
    · try simp only [if_neg c40] at hj40
      refine at_iconst (pc := 47) X (0 : Int32) dX4_twoTurns_47 ic_0 ?_
      exact at_sub [0, 1, 2, 3] rfl hj40
    · try simp only [if_pos c40] at hj40
      refine at_iconst (pc := 43) X (1 : Int32) dX4_twoTurns_43 ic_1 ?_
      refine at_goto (pc := 44) X 48 dX4_twoTurns_44 (by decide) ?_
      exact at_sub [0, 1, 2, 3] rfl hj40
set_option maxHeartbeats 4000000 in
set_option maxRecDepth 100000 in
theorem wX4_twoTurns_b0 {E : mm_E} {G : mm_G} (X : mm_Cx E G cX4_twoTurns 5 RX4 wsX4_twoTurns rmX4_twoTurns (some .int)) {a0 : Nat} {x1 : Int32} {σ : mm_M} {q : (Int32 × mm_M)} (ha0 : mm_Is G 4 a0) {o : (Int32 × mm_M) ⊕ (Int32 × Int32 × mm_M)} (h : fX4_twoTurns_b0 G a0 x1 σ = some o) (hk : mm_Ok q (PX4_twoTurns E G a0 x1 q) o) : mm_At E G 5 (mm_Qi E G q) σ 0 [(0, .ref a0), (1, .int x1)] [] := by
  unfold fX4_twoTurns_b0 at h
  refine at_iload_n (pc := 0) X 1 1 dX4_twoTurns_0 rfl rfl ?_
  have hj1 : mm_At E G 5 (mm_Qi E G q) σ 11 [(0, .ref a0), (1, .int x1)] [.int (if x1 = 0 then (999 : Int32) else (-1 : Int32))] := by
    refine at_istore_n (pc := 11) X 2 [(2, .int (if x1 = 0 then (999 : Int32) else (-1 : Int32))), (0, .ref a0), (1, .int x1)] dX4_twoTurns_11 rfl (by decide) rfl ?_
    refine at_iconst (pc := 12) X (0 : Int32) dX4_twoTurns_12 ic_0 ?_
    refine at_istore_n (pc := 13) X 3 [(3, .int (0 : Int32)), (2, .int (if x1 = 0 then (999 : Int32) else (-1 : Int32))), (0, .ref a0), (1, .int x1)] dX4_twoTurns_13 rfl (by decide) rfl ?_
    have h2 := mm_inr h hk; exact at_sub [2, 3, 1, 0] rfl h2
  refine at_if_eq (pc := 1) X 8 dX4_twoTurns_1 (by decide) (fun c1 => ?_) (fun c1 => ?_)
  · try simp only [if_pos c1] at hj1
    refine at_sipush (pc := 8) X (999 : Int32) dX4_twoTurns_8 is_999 ?_
    exact at_sub [0, 1] rfl hj1
  · try simp only [if_neg c1] at hj1
    refine at_iconst (pc := 4) X (-1 : Int32) dX4_twoTurns_4 ic_m1 ?_
    refine at_goto (pc := 5) X 11 dX4_twoTurns_5 (by decide) ?_
    exact at_sub [0, 1] rfl hj1
set_option maxHeartbeats 4000000 in
set_option maxRecDepth 100000 in
theorem mX4_twoTurns (l : Launch) {G : mm_G} (hwf : mm_WF G) {a0 : Nat} {x1 : Int32} {σ : mm_M} {q : (Int32 × mm_M)} (ha0 : mm_Is G 4 a0) (h : fX4_twoTurns G a0 x1 σ = some q) : mm_Mi l yX4_twoTurns wsX4_twoTurns rmX4_twoTurns G [.ref a0, .int x1] σ q := by
  refine mm_ofi (cc := cX4_twoTurns) (nL := 5) (ret := some .int) (own := RX4) (lv0 := [(0, .ref a0), (1, .int x1)]) (by decide) rfl rfl (Nat.le_of_ble_eq_true rfl) rfl hwf (fun E hE X => ?_)
  obtain ⟨o, h0, hk⟩ := mm_run_ok (P := PX4_twoTurns E G a0 x1 q) h (fun s o hs hk => by exact wX4_twoTurns_b14 X ha0 hs hk)
  exact wX4_twoTurns_b0 X ha0 h0 hk
