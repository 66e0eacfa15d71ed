/-! X4_digest -/
set_option maxRecDepth 20000 in
theorem ggX4_digest_X4_count : GoodIn wsX4_digest wsX4_count := goodIn_r _ [13, 3, 14, 5, 7, 4, 15, 16, 12, 17, 18, 19, 20, 21, 22, 23, 24, 35, 36, 37, 38, 39, 40, 41, 42, 43, 44, 45, 46, 47, 48, 49, 50, 51, 52, 53, 54, 55, 56] (by decide +kernel) (by decide +kernel)
set_option maxRecDepth 20000 in
theorem gX4_digest_X4_count : GoodIn wsX4_digest (wsV RX4 220 RX4 yX4_count wsX4_count) := goodIn_app (goodIn_of _ (by decide +kernel)) ggX4_digest_X4_count
set_option maxRecDepth 20000 in
theorem ggX4_digest_X4_of : GoodIn wsX4_digest wsX4_of := goodIn_r _ [28, 3, 29, 30, 12, 31, 22, 23, 24, 32, 33, 34, 35, 36, 37, 38, 39, 40, 41, 42, 43, 44, 45, 46, 47, 48, 49, 50, 51, 52, 53, 54, 55, 56] (by decide +kernel) (by decide +kernel)
set_option maxRecDepth 20000 in
theorem gX4_digest_X4_of : GoodIn wsX4_digest (wsV RX4 135 RX4 yX4_of wsX4_of) := goodIn_app (goodIn_of _ (by decide +kernel)) ggX4_digest_X4_of
theorem dX4_digest_0 : decode cX4_digest 0 = .ok (.ldc2_w 216, 3) := by decide +kernel
theorem dX4_digest_3 : decode cX4_digest 3 = .ok (.lstore_n 1, 1) := by decide +kernel
theorem dX4_digest_4 : decode cX4_digest 4 = .ok (.iconst 0, 1) := by decide +kernel
theorem dX4_digest_5 : decode cX4_digest 5 = .ok (.istore_n 3, 1) := by decide +kernel
theorem dX4_digest_6 : decode cX4_digest 6 = .ok (.iload_n 3, 1) := by decide +kernel
theorem dX4_digest_7 : decode cX4_digest 7 = .ok (.bipush 12, 2) := by decide +kernel
theorem dX4_digest_9 : decode cX4_digest 9 = .ok (.if_icmp .ge 22, 3) := by decide +kernel
theorem dX4_digest_12 : decode cX4_digest 12 = .ok (.ldc2_w 218, 3) := by decide +kernel
theorem dX4_digest_15 : decode cX4_digest 15 = .ok (.lload_n 1, 1) := by decide +kernel
theorem dX4_digest_16 : decode cX4_digest 16 = .ok (.lmul, 1) := by decide +kernel
theorem dX4_digest_17 : decode cX4_digest 17 = .ok (.aload_n 0, 1) := by decide +kernel
theorem dX4_digest_18 : decode cX4_digest 18 = .ok (.iload_n 3, 1) := by decide +kernel
theorem dX4_digest_19 : decode cX4_digest 19 = .ok (.invokevirtual 220, 3) := by decide +kernel
theorem dX4_digest_22 : decode cX4_digest 22 = .ok (.i2l, 1) := by decide +kernel
theorem dX4_digest_23 : decode cX4_digest 23 = .ok (.ladd, 1) := by decide +kernel
theorem dX4_digest_24 : decode cX4_digest 24 = .ok (.lstore_n 1, 1) := by decide +kernel
theorem dX4_digest_25 : decode cX4_digest 25 = .ok (.iinc 3 1, 3) := by decide +kernel
theorem dX4_digest_28 : decode cX4_digest 28 = .ok (.goto (-22), 3) := by decide +kernel
theorem dX4_digest_31 : decode cX4_digest 31 = .ok (.iconst 0, 1) := by decide +kernel
theorem dX4_digest_32 : decode cX4_digest 32 = .ok (.istore_n 3, 1) := by decide +kernel
theorem dX4_digest_33 : decode cX4_digest 33 = .ok (.iload_n 3, 1) := by decide +kernel
theorem dX4_digest_34 : decode cX4_digest 34 = .ok (.aload_n 0, 1) := by decide +kernel
theorem dX4_digest_35 : decode cX4_digest 35 = .ok (.getfield 26, 3) := by decide +kernel
theorem dX4_digest_38 : decode cX4_digest 38 = .ok (.bipush 32, 2) := by decide +kernel
theorem dX4_digest_40 : decode cX4_digest 40 = .ok (.iaload, 1) := by decide +kernel
theorem dX4_digest_41 : decode cX4_digest 41 = .ok (.if_icmp .ge 40, 3) := by decide +kernel
theorem dX4_digest_44 : decode cX4_digest 44 = .ok (.iconst 0, 1) := by decide +kernel
theorem dX4_digest_45 : decode cX4_digest 45 = .ok (.istore 4, 2) := by decide +kernel
theorem dX4_digest_47 : decode cX4_digest 47 = .ok (.iload 4, 2) := by decide +kernel
theorem dX4_digest_49 : decode cX4_digest 49 = .ok (.bipush 7, 2) := by decide +kernel
theorem dX4_digest_51 : decode cX4_digest 51 = .ok (.if_icmp .ge 24, 3) := by decide +kernel
theorem dX4_digest_54 : decode cX4_digest 54 = .ok (.ldc2_w 218, 3) := by decide +kernel
theorem dX4_digest_57 : decode cX4_digest 57 = .ok (.lload_n 1, 1) := by decide +kernel
theorem dX4_digest_58 : decode cX4_digest 58 = .ok (.lmul, 1) := by decide +kernel
theorem dX4_digest_59 : decode cX4_digest 59 = .ok (.aload_n 0, 1) := by decide +kernel
theorem dX4_digest_60 : decode cX4_digest 60 = .ok (.iload_n 3, 1) := by decide +kernel
theorem dX4_digest_61 : decode cX4_digest 61 = .ok (.iload 4, 2) := by decide +kernel
theorem dX4_digest_63 : decode cX4_digest 63 = .ok (.invokevirtual 135, 3) := by decide +kernel
theorem dX4_digest_66 : decode cX4_digest 66 = .ok (.i2l, 1) := by decide +kernel
theorem dX4_digest_67 : decode cX4_digest 67 = .ok (.ladd, 1) := by decide +kernel
theorem dX4_digest_68 : decode cX4_digest 68 = .ok (.lstore_n 1, 1) := by decide +kernel
theorem dX4_digest_69 : decode cX4_digest 69 = .ok (.iinc 4 1, 3) := by decide +kernel
theorem dX4_digest_72 : decode cX4_digest 72 = .ok (.goto (-25), 3) := by decide +kernel
theorem dX4_digest_75 : decode cX4_digest 75 = .ok (.iinc 3 1, 3) := by decide +kernel
theorem dX4_digest_78 : decode cX4_digest 78 = .ok (.goto (-45), 3) := by decide +kernel
theorem dX4_digest_81 : decode cX4_digest 81 = .ok (.iconst 0, 1) := by decide +kernel
theorem dX4_digest_82 : decode cX4_digest 82 = .ok (.istore_n 3, 1) := by decide +kernel
theorem dX4_digest_83 : decode cX4_digest 83 = .ok (.iload_n 3, 1) := by decide +kernel
theorem dX4_digest_84 : decode cX4_digest 84 = .ok (.aload_n 0, 1) := by decide +kernel
theorem dX4_digest_85 : decode cX4_digest 85 = .ok (.getfield 47, 3) := by decide +kernel
theorem dX4_digest_88 : decode cX4_digest 88 = .ok (.arraylength, 1) := by decide +kernel
theorem dX4_digest_89 : decode cX4_digest 89 = .ok (.if_icmp .ge 23, 3) := by decide +kernel
theorem dX4_digest_92 : decode cX4_digest 92 = .ok (.ldc2_w 218, 3) := by decide +kernel
theorem dX4_digest_95 : decode cX4_digest 95 = .ok (.lload_n 1, 1) := by decide +kernel
theorem dX4_digest_96 : decode cX4_digest 96 = .ok (.lmul, 1) := by decide +kernel
theorem dX4_digest_97 : decode cX4_digest 97 = .ok (.aload_n 0, 1) := by decide +kernel
theorem dX4_digest_98 : decode cX4_digest 98 = .ok (.getfield 47, 3) := by decide +kernel
theorem dX4_digest_101 : decode cX4_digest 101 = .ok (.iload_n 3, 1) := by decide +kernel
theorem dX4_digest_102 : decode cX4_digest 102 = .ok (.iaload, 1) := by decide +kernel
theorem dX4_digest_103 : decode cX4_digest 103 = .ok (.i2l, 1) := by decide +kernel
theorem dX4_digest_104 : decode cX4_digest 104 = .ok (.ladd, 1) := by decide +kernel
theorem dX4_digest_105 : decode cX4_digest 105 = .ok (.lstore_n 1, 1) := by decide +kernel
theorem dX4_digest_106 : decode cX4_digest 106 = .ok (.iinc 3 1, 3) := by decide +kernel
theorem dX4_digest_109 : decode cX4_digest 109 = .ok (.goto (-26), 3) := by decide +kernel
theorem dX4_digest_112 : decode cX4_digest 112 = .ok (.iconst 0, 1) := by decide +kernel
theorem dX4_digest_113 : decode cX4_digest 113 = .ok (.istore_n 3, 1) := by decide +kernel
theorem dX4_digest_114 : decode cX4_digest 114 = .ok (.iload_n 3, 1) := by decide +kernel
theorem dX4_digest_115 : decode cX4_digest 115 = .ok (.bipush 6, 2) := by decide +kernel
theorem dX4_digest_117 : decode cX4_digest 117 = .ok (.if_icmp .ge 63, 3) := by decide +kernel
theorem dX4_digest_120 : decode cX4_digest 120 = .ok (.ldc2_w 218, 3) := by decide +kernel
theorem dX4_digest_123 : decode cX4_digest 123 = .ok (.lload_n 1, 1) := by decide +kernel
theorem dX4_digest_124 : decode cX4_digest 124 = .ok (.lmul, 1) := by decide +kernel
theorem dX4_digest_125 : decode cX4_digest 125 = .ok (.aload_n 0, 1) := by decide +kernel
theorem dX4_digest_126 : decode cX4_digest 126 = .ok (.getfield 7, 3) := by decide +kernel
theorem dX4_digest_129 : decode cX4_digest 129 = .ok (.iload_n 3, 1) := by decide +kernel
theorem dX4_digest_130 : decode cX4_digest 130 = .ok (.iaload, 1) := by decide +kernel
theorem dX4_digest_131 : decode cX4_digest 131 = .ok (.i2l, 1) := by decide +kernel
theorem dX4_digest_132 : decode cX4_digest 132 = .ok (.ladd, 1) := by decide +kernel
theorem dX4_digest_133 : decode cX4_digest 133 = .ok (.lstore_n 1, 1) := by decide +kernel
theorem dX4_digest_134 : decode cX4_digest 134 = .ok (.iconst 0, 1) := by decide +kernel
theorem dX4_digest_135 : decode cX4_digest 135 = .ok (.istore 4, 2) := by decide +kernel
theorem dX4_digest_137 : decode cX4_digest 137 = .ok (.iload 4, 2) := by decide +kernel
theorem dX4_digest_139 : decode cX4_digest 139 = .ok (.aload_n 0, 1) := by decide +kernel
theorem dX4_digest_140 : decode cX4_digest 140 = .ok (.getfield 7, 3) := by decide +kernel
theorem dX4_digest_143 : decode cX4_digest 143 = .ok (.iload_n 3, 1) := by decide +kernel
theorem dX4_digest_144 : decode cX4_digest 144 = .ok (.iaload, 1) := by decide +kernel
theorem dX4_digest_145 : decode cX4_digest 145 = .ok (.if_icmp .ge 29, 3) := by decide +kernel
theorem dX4_digest_148 : decode cX4_digest 148 = .ok (.ldc2_w 218, 3) := by decide +kernel
theorem dX4_digest_151 : decode cX4_digest 151 = .ok (.lload_n 1, 1) := by decide +kernel
theorem dX4_digest_152 : decode cX4_digest 152 = .ok (.lmul, 1) := by decide +kernel
theorem dX4_digest_153 : decode cX4_digest 153 = .ok (.aload_n 0, 1) := by decide +kernel
theorem dX4_digest_154 : decode cX4_digest 154 = .ok (.getfield 13, 3) := by decide +kernel
theorem dX4_digest_157 : decode cX4_digest 157 = .ok (.bipush 40, 2) := by decide +kernel
theorem dX4_digest_159 : decode cX4_digest 159 = .ok (.iload_n 3, 1) := by decide +kernel
theorem dX4_digest_160 : decode cX4_digest 160 = .ok (.imul, 1) := by decide +kernel
theorem dX4_digest_161 : decode cX4_digest 161 = .ok (.iload 4, 2) := by decide +kernel
theorem dX4_digest_163 : decode cX4_digest 163 = .ok (.iadd, 1) := by decide +kernel
theorem dX4_digest_164 : decode cX4_digest 164 = .ok (.iaload, 1) := by decide +kernel
theorem dX4_digest_165 : decode cX4_digest 165 = .ok (.i2l, 1) := by decide +kernel
theorem dX4_digest_166 : decode cX4_digest 166 = .ok (.ladd, 1) := by decide +kernel
theorem dX4_digest_167 : decode cX4_digest 167 = .ok (.lstore_n 1, 1) := by decide +kernel
theorem dX4_digest_168 : decode cX4_digest 168 = .ok (.iinc 4 1, 3) := by decide +kernel
theorem dX4_digest_171 : decode cX4_digest 171 = .ok (.goto (-34), 3) := by decide +kernel
theorem dX4_digest_174 : decode cX4_digest 174 = .ok (.iinc 3 1, 3) := by decide +kernel
theorem dX4_digest_177 : decode cX4_digest 177 = .ok (.goto (-63), 3) := by decide +kernel
theorem dX4_digest_180 : decode cX4_digest 180 = .ok (.iconst 0, 1) := by decide +kernel
theorem dX4_digest_181 : decode cX4_digest 181 = .ok (.istore_n 3, 1) := by decide +kernel
theorem dX4_digest_182 : decode cX4_digest 182 = .ok (.iload_n 3, 1) := by decide +kernel
theorem dX4_digest_183 : decode cX4_digest 183 = .ok (.iconst 4, 1) := by decide +kernel
theorem dX4_digest_184 : decode cX4_digest 184 = .ok (.if_icmp .ge 63, 3) := by decide +kernel
theorem dX4_digest_187 : decode cX4_digest 187 = .ok (.ldc2_w 218, 3) := by decide +kernel
theorem dX4_digest_190 : decode cX4_digest 190 = .ok (.lload_n 1, 1) := by decide +kernel
theorem dX4_digest_191 : decode cX4_digest 191 = .ok (.lmul, 1) := by decide +kernel
theorem dX4_digest_192 : decode cX4_digest 192 = .ok (.aload_n 0, 1) := by decide +kernel
theorem dX4_digest_193 : decode cX4_digest 193 = .ok (.getfield 19, 3) := by decide +kernel
theorem dX4_digest_196 : decode cX4_digest 196 = .ok (.iload_n 3, 1) := by decide +kernel
theorem dX4_digest_197 : decode cX4_digest 197 = .ok (.iaload, 1) := by decide +kernel
theorem dX4_digest_198 : decode cX4_digest 198 = .ok (.i2l, 1) := by decide +kernel
theorem dX4_digest_199 : decode cX4_digest 199 = .ok (.ladd, 1) := by decide +kernel
theorem dX4_digest_200 : decode cX4_digest 200 = .ok (.lstore_n 1, 1) := by decide +kernel
theorem dX4_digest_201 : decode cX4_digest 201 = .ok (.iconst 0, 1) := by decide +kernel
theorem dX4_digest_202 : decode cX4_digest 202 = .ok (.istore 4, 2) := by decide +kernel
theorem dX4_digest_204 : decode cX4_digest 204 = .ok (.iload 4, 2) := by decide +kernel
theorem dX4_digest_206 : decode cX4_digest 206 = .ok (.aload_n 0, 1) := by decide +kernel
theorem dX4_digest_207 : decode cX4_digest 207 = .ok (.getfield 19, 3) := by decide +kernel
theorem dX4_digest_210 : decode cX4_digest 210 = .ok (.iload_n 3, 1) := by decide +kernel
theorem dX4_digest_211 : decode cX4_digest 211 = .ok (.iaload, 1) := by decide +kernel
theorem dX4_digest_212 : decode cX4_digest 212 = .ok (.if_icmp .ge 29, 3) := by decide +kernel
theorem dX4_digest_215 : decode cX4_digest 215 = .ok (.ldc2_w 218, 3) := by decide +kernel
theorem dX4_digest_218 : decode cX4_digest 218 = .ok (.lload_n 1, 1) := by decide +kernel
theorem dX4_digest_219 : decode cX4_digest 219 = .ok (.lmul, 1) := by decide +kernel
theorem dX4_digest_220 : decode cX4_digest 220 = .ok (.aload_n 0, 1) := by decide +kernel
theorem dX4_digest_221 : decode cX4_digest 221 = .ok (.getfield 22, 3) := by decide +kernel
theorem dX4_digest_224 : decode cX4_digest 224 = .ok (.bipush 60, 2) := by decide +kernel
theorem dX4_digest_226 : decode cX4_digest 226 = .ok (.iload_n 3, 1) := by decide +kernel
theorem dX4_digest_227 : decode cX4_digest 227 = .ok (.imul, 1) := by decide +kernel
theorem dX4_digest_228 : decode cX4_digest 228 = .ok (.iload 4, 2) := by decide +kernel
theorem dX4_digest_230 : decode cX4_digest 230 = .ok (.iadd, 1) := by decide +kernel
theorem dX4_digest_231 : decode cX4_digest 231 = .ok (.baload, 1) := by decide +kernel
theorem dX4_digest_232 : decode cX4_digest 232 = .ok (.i2l, 1) := by decide +kernel
theorem dX4_digest_233 : decode cX4_digest 233 = .ok (.ladd, 1) := by decide +kernel
theorem dX4_digest_234 : decode cX4_digest 234 = .ok (.lstore_n 1, 1) := by decide +kernel
theorem dX4_digest_235 : decode cX4_digest 235 = .ok (.iinc 4 1, 3) := by decide +kernel
theorem dX4_digest_238 : decode cX4_digest 238 = .ok (.goto (-34), 3) := by decide +kernel
theorem dX4_digest_241 : decode cX4_digest 241 = .ok (.iinc 3 1, 3) := by decide +kernel
theorem dX4_digest_244 : decode cX4_digest 244 = .ok (.goto (-62), 3) := by decide +kernel
theorem dX4_digest_247 : decode cX4_digest 247 = .ok (.lload_n 1, 1) := by decide +kernel
theorem dX4_digest_248 : decode cX4_digest 248 = .ok (.lreturn, 1) := by decide +kernel
/-! X4_digest ()J -/
abbrev rmX4_digest : Room := { frames := 3, cells := 0, slots := 0, locals := 67 }
theorem lkX4_digest_0 : Cond.constantLong RX4 216 (17) ∈ wsX4_digest := by decide +kernel
theorem lkX4_digest_1 : Cond.fieldLink RX4 26 (TX4 5).1 (TX4 5).2.1 (TX4 5).2.2.1 ∈ wsX4_digest := by decide +kernel
theorem lkX4_digest_2 : Cond.fieldLink RX4 47 (TX4 13).1 (TX4 13).2.1 (TX4 13).2.2.1 ∈ wsX4_digest := by decide +kernel
theorem lkX4_digest_3 : Cond.constantLong RX4 218 (31) ∈ wsX4_digest := by decide +kernel
theorem lkX4_digest_4 : Cond.fieldLink RX4 19 (TX4 3).1 (TX4 3).2.1 (TX4 3).2.2.1 ∈ wsX4_digest := by decide +kernel
theorem lkX4_digest_5 : Cond.fieldLink RX4 22 (TX4 4).1 (TX4 4).2.1 (TX4 4).2.2.1 ∈ wsX4_digest := by decide +kernel
theorem lkX4_digest_6 : Cond.fieldLink RX4 7 (TX4 0).1 (TX4 0).2.1 (TX4 0).2.2.1 ∈ wsX4_digest := by decide +kernel
theorem lkX4_digest_7 : Cond.fieldLink RX4 13 (TX4 1).1 (TX4 1).2.1 (TX4 1).2.2.1 ∈ wsX4_digest := by decide +kernel
theorem inX4_digest_X4 : ∀ w ∈ u_ws RX4 TX4 22, w ∈ wsX4_digest := by decide +kernel
noncomputable def fX4_digest_b204 (G : mm_G) (a0 : Nat) (y1 : Int64) (x3 : Int32) (x4 : Int32) (σ : mm_M) : Option ((Int64 × mm_M) ⊕ ((Int64 × Int32 × mm_M) ⊕ ((Int64 × Int32 × mm_M) ⊕ ((Int64 × Int32 × Int32 × mm_M) ⊕ ((Int64 × Int32 × mm_M) ⊕ ((Int64 × Int32 × mm_M) ⊕ ((Int64 × Int32 × Int32 × mm_M) ⊕ ((Int64 × Int32 × mm_M) ⊕ (Int64 × Int32 × Int32 × mm_M))))))))) := if x3 < 0 ∨ mm_N G (mm_R G a0 3) ≤ x3.toNatClampNeg then none else (if x4 < (σ.1 (mm_R G a0 3) x3.toNatClampNeg) then (if (((60 : Int32) * x3) + x4) < 0 ∨ mm_N G (mm_R G a0 4) ≤ (((60 : Int32) * x3) + x4).toNatClampNeg then none else (some (.inr (.inr (.inr (.inr (.inr (.inr (.inr (.inr (((31 : Int64) * y1) + ((σ.1 (mm_R G a0 4) (((60 : Int32) * x3) + x4).toNatClampNeg).toInt64), x3, x4 + 1, σ))))))))))) else (some (.inr (.inr (.inr (.inr (.inr (.inr (.inr (.inl (y1, x3 + 1, σ)))))))))))
noncomputable def fX4_digest_b182 (G : mm_G) (a0 : Nat) (y1 : Int64) (x3 : Int32) (σ : mm_M) : Option ((Int64 × mm_M) ⊕ ((Int64 × Int32 × mm_M) ⊕ ((Int64 × Int32 × mm_M) ⊕ ((Int64 × Int32 × Int32 × mm_M) ⊕ ((Int64 × Int32 × mm_M) ⊕ ((Int64 × Int32 × mm_M) ⊕ ((Int64 × Int32 × Int32 × mm_M) ⊕ ((Int64 × Int32 × mm_M) ⊕ (Int64 × Int32 × Int32 × mm_M))))))))) := if x3 < (4 : Int32) then (if x3 < 0 ∨ mm_N G (mm_R G a0 3) ≤ x3.toNatClampNeg then none else (some (.inr (.inr (.inr (.inr (.inr (.inr (.inr (.inr (((31 : Int64) * y1) + ((σ.1 (mm_R G a0 3) x3.toNatClampNeg).toInt64), x3, (0 : Int32), σ))))))))))) else (some (.inl (y1, σ)))
noncomputable def fX4_digest_b137 (G : mm_G) (a0 : Nat) (y1 : Int64) (x3 : Int32) (x4 : Int32) (σ : mm_M) : Option ((Int64 × mm_M) ⊕ ((Int64 × Int32 × mm_M) ⊕ ((Int64 × Int32 × mm_M) ⊕ ((Int64 × Int32 × Int32 × mm_M) ⊕ ((Int64 × Int32 × mm_M) ⊕ ((Int64 × Int32 × mm_M) ⊕ ((Int64 × Int32 × Int32 × mm_M) ⊕ ((Int64 × Int32 × mm_M) ⊕ (Int64 × Int32 × Int32 × mm_M))))))))) := if x3 < 0 ∨ mm_N G (mm_R G a0 0) ≤ x3.toNatClampNeg then none else (if x4 < (σ.1 (mm_R G a0 0) x3.toNatClampNeg) then (if (((40 : Int32) * x3) + x4) < 0 ∨ mm_N G (mm_R G a0 1) ≤ (((40 : Int32) * x3) + x4).toNatClampNeg then none else (some (.inr (.inr (.inr (.inr (.inr (.inr (.inl (((31 : Int64) * y1) + ((σ.1 (mm_R G a0 1) (((40 : Int32) * x3) + x4).toNatClampNeg).toInt64), x3, x4 + 1, σ)))))))))) else (some (.inr (.inr (.inr (.inr (.inr (.inl (y1, x3 + 1, σ)))))))))
noncomputable def fX4_digest_b114 (G : mm_G) (a0 : Nat) (y1 : Int64) (x3 : Int32) (σ : mm_M) : Option ((Int64 × mm_M) ⊕ ((Int64 × Int32 × mm_M) ⊕ ((Int64 × Int32 × mm_M) ⊕ ((Int64 × Int32 × Int32 × mm_M) ⊕ ((Int64 × Int32 × mm_M) ⊕ ((Int64 × Int32 × mm_M) ⊕ ((Int64 × Int32 × Int32 × mm_M) ⊕ ((Int64 × Int32 × mm_M) ⊕ (Int64 × Int32 × Int32 × mm_M))))))))) := if x3 < (6 : Int32) then (if x3 < 0 ∨ mm_N G (mm_R G a0 0) ≤ x3.toNatClampNeg then none else (some (.inr (.inr (.inr (.inr (.inr (.inr (.inl (((31 : Int64) * y1) + ((σ.1 (mm_R G a0 0) x3.toNatClampNeg).toInt64), x3, (0 : Int32), σ)))))))))) else (some (.inr (.inr (.inr (.inr (.inr (.inr (.inr (.inl (y1, (0 : Int32), σ))))))))))
noncomputable def fX4_digest_b83 (G : mm_G) (a0 : Nat) (y1 : Int64) (x3 : Int32) (σ : mm_M) : Option ((Int64 × mm_M) ⊕ ((Int64 × Int32 × mm_M) ⊕ ((Int64 × Int32 × mm_M) ⊕ ((Int64 × Int32 × Int32 × mm_M) ⊕ ((Int64 × Int32 × mm_M) ⊕ ((Int64 × Int32 × mm_M) ⊕ ((Int64 × Int32 × Int32 × mm_M) ⊕ ((Int64 × Int32 × mm_M) ⊕ (Int64 × Int32 × Int32 × mm_M))))))))) := if x3 < (Int32.ofNat (mm_N G (mm_R G a0 13))) then (if x3 < 0 ∨ mm_N G (mm_R G a0 13) ≤ x3.toNatClampNeg then none else (some (.inr (.inr (.inr (.inr (.inl (((31 : Int64) * y1) + ((σ.1 (mm_R G a0 13) x3.toNatClampNeg).toInt64), x3 + 1, σ)))))))) else (some (.inr (.inr (.inr (.inr (.inr (.inl (y1, (0 : Int32), σ))))))))
noncomputable def fX4_digest_b47 (G : mm_G) (a0 : Nat) (y1 : Int64) (x3 : Int32) (x4 : Int32) (σ : mm_M) : Option ((Int64 × mm_M) ⊕ ((Int64 × Int32 × mm_M) ⊕ ((Int64 × Int32 × mm_M) ⊕ ((Int64 × Int32 × Int32 × mm_M) ⊕ ((Int64 × Int32 × mm_M) ⊕ ((Int64 × Int32 × mm_M) ⊕ ((Int64 × Int32 × Int32 × mm_M) ⊕ ((Int64 × Int32 × mm_M) ⊕ (Int64 × Int32 × Int32 × mm_M))))))))) := if x4 < (7 : Int32) then ((fX4_of G a0 x3 x4 σ).bind (fun q63 => some (.inr (.inr (.inr (.inl (((31 : Int64) * y1) + q63.1.toInt64, x3, x4 + 1, q63.2))))))) else (some (.inr (.inr (.inl (y1, x3 + 1, σ)))))
noncomputable def fX4_digest_b33 (G : mm_G) (a0 : Nat) (y1 : Int64) (x3 : Int32) (σ : mm_M) : Option ((Int64 × mm_M) ⊕ ((Int64 × Int32 × mm_M) ⊕ ((Int64 × Int32 × mm_M) ⊕ ((Int64 × Int32 × Int32 × mm_M) ⊕ ((Int64 × Int32 × mm_M) ⊕ ((Int64 × Int32 × mm_M) ⊕ ((Int64 × Int32 × Int32 × mm_M) ⊕ ((Int64 × Int32 × mm_M) ⊕ (Int64 × Int32 × Int32 × mm_M))))))))) := if (32 : Int32) < 0 ∨ mm_N G (mm_R G a0 5) ≤ (32 : Int32).toNatClampNeg then none else (if x3 < (σ.1 (mm_R G a0 5) (32 : Int32).toNatClampNeg) then (some (.inr (.inr (.inr (.inl (y1, x3, (0 : Int32), σ)))))) else (some (.inr (.inr (.inr (.inr (.inl (y1, (0 : Int32), σ))))))))
noncomputable def fX4_digest_b6 (G : mm_G) (a0 : Nat) (y1 : Int64) (x3 : Int32) (σ : mm_M) : Option ((Int64 × mm_M) ⊕ ((Int64 × Int32 × mm_M) ⊕ ((Int64 × Int32 × mm_M) ⊕ ((Int64 × Int32 × Int32 × mm_M) ⊕ ((Int64 × Int32 × mm_M) ⊕ ((Int64 × Int32 × mm_M) ⊕ ((Int64 × Int32 × Int32 × mm_M) ⊕ ((Int64 × Int32 × mm_M) ⊕ (Int64 × Int32 × Int32 × mm_M))))))))) := if x3 < (12 : Int32) then ((fX4_count G a0 x3 σ).bind (fun q19 => some (.inr (.inl (((31 : Int64) * y1) + q19.1.toInt64, x3 + 1, q19.2))))) else (some (.inr (.inr (.inl (y1, (0 : Int32), σ)))))
noncomputable def fX4_digest_b0 (G : mm_G) (a0 : Nat) (σ : mm_M) : Option ((Int64 × mm_M) ⊕ ((Int64 × Int32 × mm_M) ⊕ ((Int64 × Int32 × mm_M) ⊕ ((Int64 × Int32 × Int32 × mm_M) ⊕ ((Int64 × Int32 × mm_M) ⊕ ((Int64 × Int32 × mm_M) ⊕ ((Int64 × Int32 × Int32 × mm_M) ⊕ ((Int64 × Int32 × mm_M) ⊕ (Int64 × Int32 × Int32 × mm_M))))))))) := some (.inr (.inl ((17 : Int64), (0 : Int32), σ)))
noncomputable def fX4_digest_s (G : mm_G) (a0 : Nat) : ((Int64 × Int32 × mm_M) ⊕ ((Int64 × Int32 × mm_M) ⊕ ((Int64 × Int32 × Int32 × mm_M) ⊕ ((Int64 × Int32 × mm_M) ⊕ ((Int64 × Int32 × mm_M) ⊕ ((Int64 × Int32 × Int32 × mm_M) ⊕ ((Int64 × Int32 × mm_M) ⊕ (Int64 × Int32 × Int32 × mm_M)))))))) → Option ((Int64 × mm_M) ⊕ ((Int64 × Int32 × mm_M) ⊕ ((Int64 × Int32 × mm_M) ⊕ ((Int64 × Int32 × Int32 × mm_M) ⊕ ((Int64 × Int32 × mm_M) ⊕ ((Int64 × Int32 × mm_M) ⊕ ((Int64 × Int32 × Int32 × mm_M) ⊕ ((Int64 × Int32 × mm_M) ⊕ (Int64 × Int32 × Int32 × mm_M))))))))) := (Sum.elim (fun s => fX4_digest_b6 G a0 s.1 s.2.1 s.2.2) (Sum.elim (fun s => fX4_digest_b33 G a0 s.1 s.2.1 s.2.2) (Sum.elim (fun s => fX4_digest_b47 G a0 s.1 s.2.1 s.2.2.1 s.2.2.2) (Sum.elim (fun s => fX4_digest_b83 G a0 s.1 s.2.1 s.2.2) (Sum.elim (fun s => fX4_digest_b114 G a0 s.1 s.2.1 s.2.2) (Sum.elim (fun s => fX4_digest_b137 G a0 s.1 s.2.1 s.2.2.1 s.2.2.2) (Sum.elim (fun s => fX4_digest_b182 G a0 s.1 s.2.1 s.2.2) (fun s => fX4_digest_b204 G a0 s.1 s.2.1 s.2.2.1 s.2.2.2))))))))
def PX4_digest (E : mm_E) (G : mm_G) (a0 : Nat) (q : (Int64 × mm_M)) : ((Int64 × Int32 × mm_M) ⊕ ((Int64 × Int32 × mm_M) ⊕ ((Int64 × Int32 × Int32 × mm_M) ⊕ ((Int64 × Int32 × mm_M) ⊕ ((Int64 × Int32 × mm_M) ⊕ ((Int64 × Int32 × Int32 × mm_M) ⊕ ((Int64 × Int32 × mm_M) ⊕ (Int64 × Int32 × Int32 × mm_M)))))))) → Prop := (Sum.elim (fun s => mm_At E G 5 (mm_Ql E G q) s.2.2 6 [(0, .ref a0), (1, .long s.1), (3, .int s.2.1)] []) (Sum.elim (fun s => mm_At E G 5 (mm_Ql E G q) s.2.2 33 [(0, .ref a0), (1, .long s.1), (3, .int s.2.1)] []) (Sum.elim (fun s => mm_At E G 5 (mm_Ql E G q) s.2.2.2 47 [(0, .ref a0), (1, .long s.1), (3, .int s.2.1), (4, .int s.2.2.1)] []) (Sum.elim (fun s => mm_At E G 5 (mm_Ql E G q) s.2.2 83 [(0, .ref a0), (1, .long s.1), (3, .int s.2.1)] []) (Sum.elim (fun s => mm_At E G 5 (mm_Ql E G q) s.2.2 114 [(0, .ref a0), (1, .long s.1), (3, .int s.2.1)] []) (Sum.elim (fun s => mm_At E G 5 (mm_Ql E G q) s.2.2.2 137 [(0, .ref a0), (1, .long s.1), (3, .int s.2.1), (4, .int s.2.2.1)] []) (Sum.elim (fun s => mm_At E G 5 (mm_Ql E G q) s.2.2 182 [(0, .ref a0), (1, .long s.1), (3, .int s.2.1)] []) (fun s => mm_At E G 5 (mm_Ql E G q) s.2.2.2 204 [(0, .ref a0), (1, .long s.1), (3, .int s.2.1), (4, .int s.2.2.1)] []))))))))
noncomputable def fX4_digest (G : mm_G) (a0 : Nat) (σ : mm_M) : Option (Int64 × mm_M) := mm_run (fX4_digest_b0 G a0 σ) (fX4_digest_s G a0)
set_option maxHeartbeats 4000000 in
set_option maxRecDepth 100000 in
theorem wX4_digest_b204 {E : mm_E} {G : mm_G} (X : mm_Cx E G cX4_digest 5 RX4 wsX4_digest rmX4_digest (some .long)) {a0 : Nat} {y1 : Int64} {x3 : Int32} {x4 : Int32} {σ : mm_M} {q : (Int64 × mm_M)} (ha0 : mm_Is G 4 a0) {o : (Int64 × mm_M) ⊕ ((Int64 × Int32 × mm_M) ⊕ ((Int64 × Int32 × mm_M) ⊕ ((Int64 × Int32 × Int32 × mm_M) ⊕ ((Int64 × Int32 × mm_M) ⊕ ((Int64 × Int32 × mm_M) ⊕ ((Int64 × Int32 × Int32 × mm_M) ⊕ ((Int64 × Int32 × mm_M) ⊕ (Int64 × Int32 × Int32 × mm_M))))))))} (h : fX4_digest_b204 G a0 y1 x3 x4 σ = some o) (hk : mm_Ok q (PX4_digest E G a0 q) o) : mm_At E G 5 (mm_Ql E G q) σ 204 [(0, .ref a0), (1, .long y1), (3, .int x3), (4, .int x4)] [] := by
  unfold fX4_digest_b204 at h
  refine at_iload (pc := 204) X 4 3 dX4_digest_204 rfl ?_
  refine at_aload_n (pc := 206) X 0 0 dX4_digest_206 rfl rfl ?_
  refine at_get (pc := 207) X 4 3 (.ref (mm_R G a0 3)) ha0 (by decide) rfl inX4_digest_X4 (by decide) lkX4_digest_4 rfl dX4_digest_207 ?_
  refine at_iload_n (pc := 210) X 3 2 dX4_digest_210 rfl rfl ?_
  obtain ⟨hc211, h⟩ := mm_chk h
  refine at_iald (pc := 211) X (wf_4_3 X.wf ha0) hc211 dX4_digest_211 ?_
  refine at_icmp_ge (pc := 212) X 241 dX4_digest_212 (by decide) (fun c212 => ?_) (fun c212 => ?_)
  · have h := mm_neg c212 h
    refine at_iinc (pc := 241) X 3 2 (x3 + 1) [(3, .int (x3 + 1)), (0, .ref a0), (1, .long y1), (4, .int x4)] dX4_digest_241 rfl (ii_1 _) (by decide) rfl ?_
    refine at_goto (pc := 244) X 182 dX4_digest_244 (by decide) ?_
    have h2 := mm_inr h hk; exact at_sub [1, 2, 0] rfl h2
  · have h := mm_pos c212 h
    refine at_ldc2_w (pc := 215) X (31 : Int64) lkX4_digest_3 dX4_digest_215 ?_
    refine at_lload_n (pc := 218) X 1 1 dX4_digest_218 rfl rfl ?_
    refine at_lmul (pc := 219) X dX4_digest_219 ?_
    refine at_aload_n (pc := 220) X 0 0 dX4_digest_220 rfl rfl ?_
    refine at_get (pc := 221) X 4 4 (.ref (mm_R G a0 4)) ha0 (by decide) rfl inX4_digest_X4 (by decide) lkX4_digest_5 rfl dX4_digest_221 ?_
    refine at_bipush (pc := 224) X (60 : Int32) dX4_digest_224 ib_60 ?_
    refine at_iload_n (pc := 226) X 3 2 dX4_digest_226 rfl rfl ?_
    refine at_imul (pc := 227) X dX4_digest_227 ?_
    refine at_iload (pc := 228) X 4 3 dX4_digest_228 rfl ?_
    refine at_iadd (pc := 230) X dX4_digest_230 ?_
    obtain ⟨hc231, h⟩ := mm_chk h
    refine at_bald (pc := 231) X (wf_4_4 X.wf ha0) hc231 dX4_digest_231 ?_
    refine at_i2l (pc := 232) X dX4_digest_232 ?_
    refine at_ladd (pc := 233) X dX4_digest_233 ?_
    refine at_lstore_n (pc := 234) X 1 [(1, .long (((31 : Int64) * y1) + ((σ.1 (mm_R G a0 4) (((60 : Int32) * x3) + x4).toNatClampNeg).toInt64))), (0, .ref a0), (3, .int x3), (4, .int x4)] dX4_digest_234 rfl (by decide) rfl ?_
    refine at_iinc (pc := 235) X 4 3 (x4 + 1) [(4, .int (x4 + 1)), (1, .long (((31 : Int64) * y1) + ((σ.1 (mm_R G a0 4) (((60 : Int32) * x3) + x4).toNatClampNeg).toInt64))), (0, .ref a0), (3, .int x3)] dX4_digest_235 rfl (ii_1 _) (by decide) rfl ?_
    refine at_goto (pc := 238) X 204 dX4_digest_238 (by decide) ?_
    have h2 := mm_inr h hk; exact at_sub [2, 1, 3, 0] rfl h2
set_option maxHeartbeats 4000000 in
set_option maxRecDepth 100000 in
theorem wX4_digest_b182 {E : mm_E} {G : mm_G} (X : mm_Cx E G cX4_digest 5 RX4 wsX4_digest rmX4_digest (some .long)) {a0 : Nat} {y1 : Int64} {x3 : Int32} {σ : mm_M} {q : (Int64 × mm_M)} (ha0 : mm_Is G 4 a0) {o : (Int64 × mm_M) ⊕ ((Int64 × Int32 × mm_M) ⊕ ((Int64 × Int32 × mm_M) ⊕ ((Int64 × Int32 × Int32 × mm_M) ⊕ ((Int64 × Int32 × mm_M) ⊕ ((Int64 × Int32 × mm_M) ⊕ ((Int64 × Int32 × Int32 × mm_M) ⊕ ((Int64 × Int32 × mm_M) ⊕ (Int64 × Int32 × Int32 × mm_M))))))))} (h : fX4_digest_b182 G a0 y1 x3 σ = some o) (hk : mm_Ok q (PX4_digest E G a0 q) o) : mm_At E G 5 (mm_Ql E G q) σ 182 [(0, .ref a0), (1, .long y1), (3, .int x3)] [] := by
  unfold fX4_digest_b182 at h
  refine at_iload_n (pc := 182) X 3 2 dX4_digest_182 rfl rfl ?_
  refine at_iconst (pc := 183) X (4 : Int32) dX4_digest_183 ic_4 ?_
  refine at_icmp_ge (pc := 184) X 247 dX4_digest_184 (by decide) (fun c184 => ?_) (fun c184 => ?_)
  · have h := mm_neg c184 h
    refine at_lload_n (pc := 247) X 1 1 dX4_digest_247 rfl rfl ?_
    exact at_lret (pc := 248) X (mm_inl h hk) dX4_digest_248
  · have h := mm_pos c184 h
    refine at_ldc2_w (pc := 187) X (31 : Int64) lkX4_digest_3 dX4_digest_187 ?_
    refine at_lload_n (pc := 190) X 1 1 dX4_digest_190 rfl rfl ?_
    refine at_lmul (pc := 191) X dX4_digest_191 ?_
    refine at_aload_n (pc := 192) X 0 0 dX4_digest_192 rfl rfl ?_
    refine at_get (pc := 193) X 4 3 (.ref (mm_R G a0 3)) ha0 (by decide) rfl inX4_digest_X4 (by decide) lkX4_digest_4 rfl dX4_digest_193 ?_
    refine at_iload_n (pc := 196) X 3 2 dX4_digest_196 rfl rfl ?_
    obtain ⟨hc197, h⟩ := mm_chk h
    refine at_iald (pc := 197) X (wf_4_3 X.wf ha0) hc197 dX4_digest_197 ?_
    refine at_i2l (pc := 198) X dX4_digest_198 ?_
    refine at_ladd (pc := 199) X dX4_digest_199 ?_
    refine at_lstore_n (pc := 200) X 1 [(1, .long (((31 : Int64) * y1) + ((σ.1 (mm_R G a0 3) x3.toNatClampNeg).toInt64))), (0, .ref a0), (3, .int x3)] dX4_digest_200 rfl (by decide) rfl ?_
    refine at_iconst (pc := 201) X (0 : Int32) dX4_digest_201 ic_0 ?_
    refine at_istore (pc := 202) X 4 [(4, .int (0 : Int32)), (1, .long (((31 : Int64) * y1) + ((σ.1 (mm_R G a0 3) x3.toNatClampNeg).toInt64))), (0, .ref a0), (3, .int x3)] dX4_digest_202 (by decide) rfl ?_
    have h2 := mm_inr h hk; exact at_sub [2, 1, 3, 0] rfl h2
set_option maxHeartbeats 4000000 in
set_option maxRecDepth 100000 in
theorem wX4_digest_b137 {E : mm_E} {G : mm_G} (X : mm_Cx E G cX4_digest 5 RX4 wsX4_digest rmX4_digest (some .long)) {a0 : Nat} {y1 : Int64} {x3 : Int32} {x4 : Int32} {σ : mm_M} {q : (Int64 × mm_M)} (ha0 : mm_Is G 4 a0) {o : (Int64 × mm_M) ⊕ ((Int64 × Int32 × mm_M) ⊕ ((Int64 × Int32 × mm_M) ⊕ ((Int64 × Int32 × Int32 × mm_M) ⊕ ((Int64 × Int32 × mm_M) ⊕ ((Int64 × Int32 × mm_M) ⊕ ((Int64 × Int32 × Int32 × mm_M) ⊕ ((Int64 × Int32 × mm_M) ⊕ (Int64 × Int32 × Int32 × mm_M))))))))} (h : fX4_digest_b137 G a0 y1 x3 x4 σ = some o) (hk : mm_Ok q (PX4_digest E G a0 q) o) : mm_At E G 5 (mm_Ql E G q) σ 137 [(0, .ref a0), (1, .long y1), (3, .int x3), (4, .int x4)] [] := by
  unfold fX4_digest_b137 at h
  refine at_iload (pc := 137) X 4 3 dX4_digest_137 rfl ?_
  refine at_aload_n (pc := 139) X 0 0 dX4_digest_139 rfl rfl ?_
  refine at_get (pc := 140) X 4 0 (.ref (mm_R G a0 0)) ha0 (by decide) rfl inX4_digest_X4 (by decide) lkX4_digest_6 rfl dX4_digest_140 ?_
  refine at_iload_n (pc := 143) X 3 2 dX4_digest_143 rfl rfl ?_
  obtain ⟨hc144, h⟩ := mm_chk h
  refine at_iald (pc := 144) X (wf_4_0 X.wf ha0) hc144 dX4_digest_144 ?_
  refine at_icmp_ge (pc := 145) X 174 dX4_digest_145 (by decide) (fun c145 => ?_) (fun c145 => ?_)
  · have h := mm_neg c145 h
    refine at_iinc (pc := 174) X 3 2 (x3 + 1) [(3, .int (x3 + 1)), (0, .ref a0), (1, .long y1), (4, .int x4)] dX4_digest_174 rfl (ii_1 _) (by decide) rfl ?_
    refine at_goto (pc := 177) X 114 dX4_digest_177 (by decide) ?_
    have h2 := mm_inr h hk; exact at_sub [1, 2, 0] rfl h2
  · have h := mm_pos c145 h
    refine at_ldc2_w (pc := 148) X (31 : Int64) lkX4_digest_3 dX4_digest_148 ?_
    refine at_lload_n (pc := 151) X 1 1 dX4_digest_151 rfl rfl ?_
    refine at_lmul (pc := 152) X dX4_digest_152 ?_
    refine at_aload_n (pc := 153) X 0 0 dX4_digest_153 rfl rfl ?_
    refine at_get (pc := 154) X 4 1 (.ref (mm_R G a0 1)) ha0 (by decide) rfl inX4_digest_X4 (by decide) lkX4_digest_7 rfl dX4_digest_154 ?_
    refine at_bipush (pc := 157) X (40 : Int32) dX4_digest_157 ib_40 ?_
    refine at_iload_n (pc := 159) X 3 2 dX4_digest_159 rfl rfl ?_
    refine at_imul (pc := 160) X dX4_digest_160 ?_
    refine at_iload (pc := 161) X 4 3 dX4_digest_161 rfl ?_
    refine at_iadd (pc := 163) X dX4_digest_163 ?_
    obtain ⟨hc164, h⟩ := mm_chk h
    refine at_iald (pc := 164) X (wf_4_1 X.wf ha0) hc164 dX4_digest_164 ?_
    refine at_i2l (pc := 165) X dX4_digest_165 ?_
    refine at_ladd (pc := 166) X dX4_digest_166 ?_
    refine at_lstore_n (pc := 167) X 1 [(1, .long (((31 : Int64) * y1) + ((σ.1 (mm_R G a0 1) (((40 : Int32) * x3) + x4).toNatClampNeg).toInt64))), (0, .ref a0), (3, .int x3), (4, .int x4)] dX4_digest_167 rfl (by decide) rfl ?_
    refine at_iinc (pc := 168) X 4 3 (x4 + 1) [(4, .int (x4 + 1)), (1, .long (((31 : Int64) * y1) + ((σ.1 (mm_R G a0 1) (((40 : Int32) * x3) + x4).toNatClampNeg).toInt64))), (0, .ref a0), (3, .int x3)] dX4_digest_168 rfl (ii_1 _) (by decide) rfl ?_
    refine at_goto (pc := 171) X 137 dX4_digest_171 (by decide) ?_
    have h2 := mm_inr h hk; exact at_sub [2, 1, 3, 0] rfl h2
set_option maxHeartbeats 4000000 in
set_option maxRecDepth 100000 in
theorem wX4_digest_b114 {E : mm_E} {G : mm_G} (X : mm_Cx E G cX4_digest 5 RX4 wsX4_digest rmX4_digest (some .long)) {a0 : Nat} {y1 : Int64} {x3 : Int32} {σ : mm_M} {q : (Int64 × mm_M)} (ha0 : mm_Is G 4 a0) {o : (Int64 × mm_M) ⊕ ((Int64 × Int32 × mm_M) ⊕ ((Int64 × Int32 × mm_M) ⊕ ((Int64 × Int32 × Int32 × mm_M) ⊕ ((Int64 × Int32 × mm_M) ⊕ ((Int64 × Int32 × mm_M) ⊕ ((Int64 × Int32 × Int32 × mm_M) ⊕ ((Int64 × Int32 × mm_M) ⊕ (Int64 × Int32 × Int32 × mm_M))))))))} (h : fX4_digest_b114 G a0 y1 x3 σ = some o) (hk : mm_Ok q (PX4_digest E G a0 q) o) : mm_At E G 5 (mm_Ql E G q) σ 114 [(0, .ref a0), (1, .long y1), (3, .int x3)] [] := by
  unfold fX4_digest_b114 at h
  refine at_iload_n (pc := 114) X 3 2 dX4_digest_114 rfl rfl ?_
  refine at_bipush (pc := 115) X (6 : Int32) dX4_digest_115 ib_6 ?_
  refine at_icmp_ge (pc := 117) X 180 dX4_digest_117 (by decide) (fun c117 => ?_) (fun c117 => ?_)
  · have h := mm_neg c117 h
    refine at_iconst (pc := 180) X (0 : Int32) dX4_digest_180 ic_0 ?_
    refine at_istore_n (pc := 181) X 3 [(3, .int (0 : Int32)), (0, .ref a0), (1, .long y1)] dX4_digest_181 rfl (by decide) rfl ?_
    have h2 := mm_inr h hk; exact at_sub [1, 2, 0] rfl h2
  · have h := mm_pos c117 h
    refine at_ldc2_w (pc := 120) X (31 : Int64) lkX4_digest_3 dX4_digest_120 ?_
    refine at_lload_n (pc := 123) X 1 1 dX4_digest_123 rfl rfl ?_
    refine at_lmul (pc := 124) X dX4_digest_124 ?_
    refine at_aload_n (pc := 125) X 0 0 dX4_digest_125 rfl rfl ?_
    refine at_get (pc := 126) X 4 0 (.ref (mm_R G a0 0)) ha0 (by decide) rfl inX4_digest_X4 (by decide) lkX4_digest_6 rfl dX4_digest_126 ?_
    refine at_iload_n (pc := 129) X 3 2 dX4_digest_129 rfl rfl ?_
    obtain ⟨hc130, h⟩ := mm_chk h
    refine at_iald (pc := 130) X (wf_4_0 X.wf ha0) hc130 dX4_digest_130 ?_
    refine at_i2l (pc := 131) X dX4_digest_131 ?_
    refine at_ladd (pc := 132) X dX4_digest_132 ?_
    refine at_lstore_n (pc := 133) X 1 [(1, .long (((31 : Int64) * y1) + ((σ.1 (mm_R G a0 0) x3.toNatClampNeg).toInt64))), (0, .ref a0), (3, .int x3)] dX4_digest_133 rfl (by decide) rfl ?_
    refine at_iconst (pc := 134) X (0 : Int32) dX4_digest_134 ic_0 ?_
    refine at_istore (pc := 135) X 4 [(4, .int (0 : Int32)), (1, .long (((31 : Int64) * y1) + ((σ.1 (mm_R G a0 0) x3.toNatClampNeg).toInt64))), (0, .ref a0), (3, .int x3)] dX4_digest_135 (by decide) rfl ?_
    have h2 := mm_inr h hk; exact at_sub [2, 1, 3, 0] rfl h2
set_option maxHeartbeats 4000000 in
set_option maxRecDepth 100000 in
theorem wX4_digest_b83 {E : mm_E} {G : mm_G} (X : mm_Cx E G cX4_digest 5 RX4 wsX4_digest rmX4_digest (some .long)) {a0 : Nat} {y1 : Int64} {x3 : Int32} {σ : mm_M} {q : (Int64 × mm_M)} (ha0 : mm_Is G 4 a0) {o : (Int64 × mm_M) ⊕ ((Int64 × Int32 × mm_M) ⊕ ((Int64 × Int32 × mm_M) ⊕ ((Int64 × Int32 × Int32 × mm_M) ⊕ ((Int64 × Int32 × mm_M) ⊕ ((Int64 × Int32 × mm_M) ⊕ ((Int64 × Int32 × Int32 × mm_M) ⊕ ((Int64 × Int32 × mm_M) ⊕ (Int64 × Int32 × Int32 × mm_M))))))))} (h : fX4_digest_b83 G a0 y1 x3 σ = some o) (hk : mm_Ok q (PX4_digest E G a0 q) o) : mm_At E G 5 (mm_Ql E G q) σ 83 [(0, .ref a0), (1, .long y1), (3, .int x3)] [] := by
  unfold fX4_digest_b83 at h
  refine at_iload_n (pc := 83) X 3 2 dX4_digest_83 rfl rfl ?_
  refine at_aload_n (pc := 84) X 0 0 dX4_digest_84 rfl rfl ?_
  refine at_get (pc := 85) X 4 13 (.ref (mm_R G a0 13)) ha0 (by decide) rfl inX4_digest_X4 (by decide) lkX4_digest_2 rfl dX4_digest_85 ?_
  refine at_alen (pc := 88) X (wf_4_13 X.wf ha0) dX4_digest_88 ?_
  refine at_icmp_ge (pc := 89) X 112 dX4_digest_89 (by decide) (fun c89 => ?_) (fun c89 => ?_)
  · have h := mm_neg c89 h
    refine at_iconst (pc := 112) X (0 : Int32) dX4_digest_112 ic_0 ?_
    refine at_istore_n (pc := 113) X 3 [(3, .int (0 : Int32)), (0, .ref a0), (1, .long y1)] dX4_digest_113 rfl (by decide) rfl ?_
    have h2 := mm_inr h hk; exact at_sub [1, 2, 0] rfl h2
  · have h := mm_pos c89 h
    refine at_ldc2_w (pc := 92) X (31 : Int64) lkX4_digest_3 dX4_digest_92 ?_
    refine at_lload_n (pc := 95) X 1 1 dX4_digest_95 rfl rfl ?_
    refine at_lmul (pc := 96) X dX4_digest_96 ?_
    refine at_aload_n (pc := 97) X 0 0 dX4_digest_97 rfl rfl ?_
    refine at_get (pc := 98) X 4 13 (.ref (mm_R G a0 13)) ha0 (by decide) rfl inX4_digest_X4 (by decide) lkX4_digest_2 rfl dX4_digest_98 ?_
    refine at_iload_n (pc := 101) X 3 2 dX4_digest_101 rfl rfl ?_
    obtain ⟨hc102, h⟩ := mm_chk h
    refine at_iald (pc := 102) X (wf_4_13 X.wf ha0) hc102 dX4_digest_102 ?_
    refine at_i2l (pc := 103) X dX4_digest_103 ?_
    refine at_ladd (pc := 104) X dX4_digest_104 ?_
    refine at_lstore_n (pc := 105) X 1 [(1, .long (((31 : Int64) * y1) + ((σ.1 (mm_R G a0 13) x3.toNatClampNeg).toInt64))), (0, .ref a0), (3, .int x3)] dX4_digest_105 rfl (by decide) rfl ?_
    refine at_iinc (pc := 106) X 3 2 (x3 + 1) [(3, .int (x3 + 1)), (1, .long (((31 : Int64) * y1) + ((σ.1 (mm_R G a0 13) x3.toNatClampNeg).toInt64))), (0, .ref a0)] dX4_digest_106 rfl (ii_1 _) (by decide) rfl ?_
    refine at_goto (pc := 109) X 83 dX4_digest_109 (by decide) ?_
    have h2 := mm_inr h hk; exact at_sub [2, 1, 0] rfl h2
set_option maxHeartbeats 4000000 in
set_option maxRecDepth 100000 in
theorem wX4_digest_b47 {E : mm_E} {G : mm_G} (X : mm_Cx E G cX4_digest 5 RX4 wsX4_digest rmX4_digest (some .long)) {a0 : Nat} {y1 : Int64} {x3 : Int32} {x4 : Int32} {σ : mm_M} {q : (Int64 × mm_M)} (ha0 : mm_Is G 4 a0) {o : (Int64 × mm_M) ⊕ ((Int64 × Int32 × mm_M) ⊕ ((Int64 × Int32 × mm_M) ⊕ ((Int64 × Int32 × Int32 × mm_M) ⊕ ((Int64 × Int32 × mm_M) ⊕ ((Int64 × Int32 × mm_M) ⊕ ((Int64 × Int32 × Int32 × mm_M) ⊕ ((Int64 × Int32 × mm_M) ⊕ (Int64 × Int32 × Int32 × mm_M))))))))} (h : fX4_digest_b47 G a0 y1 x3 x4 σ = some o) (hk : mm_Ok q (PX4_digest E G a0 q) o) : mm_At E G 5 (mm_Ql E G q) σ 47 [(0, .ref a0), (1, .long y1), (3, .int x3), (4, .int x4)] [] := by
  unfold fX4_digest_b47 at h
  refine at_iload (pc := 47) X 4 3 dX4_digest_47 rfl ?_
  refine at_bipush (pc := 49) X (7 : Int32) dX4_digest_49 ib_7 ?_
  refine at_icmp_ge (pc := 51) X 75 dX4_digest_51 (by decide) (fun c51 => ?_) (fun c51 => ?_)
  · have h := mm_neg c51 h
    refine at_iinc (pc := 75) X 3 2 (x3 + 1) [(3, .int (x3 + 1)), (0, .ref a0), (1, .long y1), (4, .int x4)] dX4_digest_75 rfl (ii_1 _) (by decide) rfl ?_
    refine at_goto (pc := 78) X 33 dX4_digest_78 (by decide) ?_
    have h2 := mm_inr h hk; exact at_sub [1, 2, 0] rfl h2
  · have h := mm_pos c51 h
    refine at_ldc2_w (pc := 54) X (31 : Int64) lkX4_digest_3 dX4_digest_54 ?_
    refine at_lload_n (pc := 57) X 1 1 dX4_digest_57 rfl rfl ?_
    refine at_lmul (pc := 58) X dX4_digest_58 ?_
    refine at_aload_n (pc := 59) X 0 0 dX4_digest_59 rfl rfl ?_
    refine at_iload_n (pc := 60) X 3 2 dX4_digest_60 rfl rfl ?_
    refine at_iload (pc := 61) X 4 3 dX4_digest_61 rfl ?_
    obtain ⟨q63, hq63, h⟩ := mm_bind h
    refine at_calli (n := 2) (pc := 63) X 4 [.int x3, .int x4] [.long ((31 : Int64) * y1)] (mX4_of (eL E) X.wf ha0 hq63) gX4_digest_X4_of rfl ⟨rfl, rfl⟩ (by decide +kernel) ⟨by decide, by decide⟩ (by decide) rfl ha0 rfl rfl (Nat.le_of_ble_eq_true rfl) dX4_digest_63 ?_
    refine at_i2l (pc := 66) X dX4_digest_66 ?_
    refine at_ladd (pc := 67) X dX4_digest_67 ?_
    refine at_lstore_n (pc := 68) X 1 [(1, .long (((31 : Int64) * y1) + q63.1.toInt64)), (0, .ref a0), (3, .int x3), (4, .int x4)] dX4_digest_68 rfl (by decide) rfl ?_
    refine at_iinc (pc := 69) X 4 3 (x4 + 1) [(4, .int (x4 + 1)), (1, .long (((31 : Int64) * y1) + q63.1.toInt64)), (0, .ref a0), (3, .int x3)] dX4_digest_69 rfl (ii_1 _) (by decide) rfl ?_
    refine at_goto (pc := 72) X 47 dX4_digest_72 (by decide) ?_
    have h2 := mm_inr h hk; exact at_sub [2, 1, 3, 0] rfl h2
set_option maxHeartbeats 4000000 in
set_option maxRecDepth 100000 in
theorem wX4_digest_b33 {E : mm_E} {G : mm_G} (X : mm_Cx E G cX4_digest 5 RX4 wsX4_digest rmX4_digest (some .long)) {a0 : Nat} {y1 : Int64} {x3 : Int32} {σ : mm_M} {q : (Int64 × mm_M)} (ha0 : mm_Is G 4 a0) {o : (Int64 × mm_M) ⊕ ((Int64 × Int32 × mm_M) ⊕ ((Int64 × Int32 × mm_M) ⊕ ((Int64 × Int32 × Int32 × mm_M) ⊕ ((Int64 × Int32 × mm_M) ⊕ ((Int64 × Int32 × mm_M) ⊕ ((Int64 × Int32 × Int32 × mm_M) ⊕ ((Int64 × Int32 × mm_M) ⊕ (Int64 × Int32 × Int32 × mm_M))))))))} (h : fX4_digest_b33 G a0 y1 x3 σ = some o) (hk : mm_Ok q (PX4_digest E G a0 q) o) : mm_At E G 5 (mm_Ql E G q) σ 33 [(0, .ref a0), (1, .long y1), (3, .int x3)] [] := by
  unfold fX4_digest_b33 at h
  refine at_iload_n (pc := 33) X 3 2 dX4_digest_33 rfl rfl ?_
  refine at_aload_n (pc := 34) X 0 0 dX4_digest_34 rfl rfl ?_
  refine at_get (pc := 35) X 4 5 (.ref (mm_R G a0 5)) ha0 (by decide) rfl inX4_digest_X4 (by decide) lkX4_digest_1 rfl dX4_digest_35 ?_
  refine at_bipush (pc := 38) X (32 : Int32) dX4_digest_38 ib_32 ?_
  obtain ⟨hc40, h⟩ := mm_chk h
  refine at_iald (pc := 40) X (wf_4_5 X.wf ha0) hc40 dX4_digest_40 ?_
  refine at_icmp_ge (pc := 41) X 81 dX4_digest_41 (by decide) (fun c41 => ?_) (fun c41 => ?_)
  · have h := mm_neg c41 h
    refine at_iconst (pc := 81) X (0 : Int32) dX4_digest_81 ic_0 ?_
    refine at_istore_n (pc := 82) X 3 [(3, .int (0 : Int32)), (0, .ref a0), (1, .long y1)] dX4_digest_82 rfl (by decide) rfl ?_
    have h2 := mm_inr h hk; exact at_sub [1, 2, 0] rfl h2
  · have h := mm_pos c41 h
    refine at_iconst (pc := 44) X (0 : Int32) dX4_digest_44 ic_0 ?_
    refine at_istore (pc := 45) X 4 [(4, .int (0 : Int32)), (0, .ref a0), (1, .long y1), (3, .int x3)] dX4_digest_45 (by decide) rfl ?_
    have h2 := mm_inr h hk; exact at_sub [1, 2, 3, 0] rfl h2
set_option maxHeartbeats 4000000 in
set_option maxRecDepth 100000 in
theorem wX4_digest_b6 {E : mm_E} {G : mm_G} (X : mm_Cx E G cX4_digest 5 RX4 wsX4_digest rmX4_digest (some .long)) {a0 : Nat} {y1 : Int64} {x3 : Int32} {σ : mm_M} {q : (Int64 × mm_M)} (ha0 : mm_Is G 4 a0) {o : (Int64 × mm_M) ⊕ ((Int64 × Int32 × mm_M) ⊕ ((Int64 × Int32 × mm_M) ⊕ ((Int64 × Int32 × Int32 × mm_M) ⊕ ((Int64 × Int32 × mm_M) ⊕ ((Int64 × Int32 × mm_M) ⊕ ((Int64 × Int32 × Int32 × mm_M) ⊕ ((Int64 × Int32 × mm_M) ⊕ (Int64 × Int32 × Int32 × mm_M))))))))} (h : fX4_digest_b6 G a0 y1 x3 σ = some o) (hk : mm_Ok q (PX4_digest E G a0 q) o) : mm_At E G 5 (mm_Ql E G q) σ 6 [(0, .ref a0), (1, .long y1), (3, .int x3)] [] := by
  unfold fX4_digest_b6 at h
  refine at_iload_n (pc := 6) X 3 2 dX4_digest_6 rfl rfl ?_
  refine at_bipush (pc := 7) X (12 : Int32) dX4_digest_7 ib_12 ?_
  refine at_icmp_ge (pc := 9) X 31 dX4_digest_9 (by decide) (fun c9 => ?_) (fun c9 => ?_)
  · have h := mm_neg c9 h
    refine at_iconst (pc := 31) X (0 : Int32) dX4_digest_31 ic_0 ?_
    refine at_istore_n (pc := 32) X 3 [(3, .int (0 : Int32)), (0, .ref a0), (1, .long y1)] dX4_digest_32 rfl (by decide) rfl ?_
    have h2 := mm_inr h hk; exact at_sub [1, 2, 0] rfl h2
  · have h := mm_pos c9 h
    refine at_ldc2_w (pc := 12) X (31 : Int64) lkX4_digest_3 dX4_digest_12 ?_
    refine at_lload_n (pc := 15) X 1 1 dX4_digest_15 rfl rfl ?_
    refine at_lmul (pc := 16) X dX4_digest_16 ?_
    refine at_aload_n (pc := 17) X 0 0 dX4_digest_17 rfl rfl ?_
    refine at_iload_n (pc := 18) X 3 2 dX4_digest_18 rfl rfl ?_
    obtain ⟨q19, hq19, h⟩ := mm_bind h
    refine at_calli (n := 1) (pc := 19) X 4 [.int x3] [.long ((31 : Int64) * y1)] (mX4_count (eL E) X.wf ha0 hq19) gX4_digest_X4_count rfl ⟨rfl, rfl⟩ (by decide +kernel) ⟨by decide, by decide⟩ (by decide) rfl ha0 rfl rfl (Nat.le_of_ble_eq_true rfl) dX4_digest_19 ?_
    refine at_i2l (pc := 22) X dX4_digest_22 ?_
    refine at_ladd (pc := 23) X dX4_digest_23 ?_
    refine at_lstore_n (pc := 24) X 1 [(1, .long (((31 : Int64) * y1) + q19.1.toInt64)), (0, .ref a0), (3, .int x3)] dX4_digest_24 rfl (by decide) rfl ?_
    refine at_iinc (pc := 25) X 3 2 (x3 + 1) [(3, .int (x3 + 1)), (1, .long (((31 : Int64) * y1) + q19.1.toInt64)), (0, .ref a0)] dX4_digest_25 rfl (ii_1 _) (by decide) rfl ?_
    refine at_goto (pc := 28) X 6 dX4_digest_28 (by decide) ?_
    have h2 := mm_inr h hk; exact at_sub [2, 1, 0] rfl h2
set_option maxHeartbeats 4000000 in
set_option maxRecDepth 100000 in
theorem wX4_digest_b0 {E : mm_E} {G : mm_G} (X : mm_Cx E G cX4_digest 5 RX4 wsX4_digest rmX4_digest (some .long)) {a0 : Nat} {σ : mm_M} {q : (Int64 × mm_M)} (ha0 : mm_Is G 4 a0) {o : (Int64 × mm_M) ⊕ ((Int64 × Int32 × mm_M) ⊕ ((Int64 × Int32 × mm_M) ⊕ ((Int64 × Int32 × Int32 × mm_M) ⊕ ((Int64 × Int32 × mm_M) ⊕ ((Int64 × Int32 × mm_M) ⊕ ((Int64 × Int32 × Int32 × mm_M) ⊕ ((Int64 × Int32 × mm_M) ⊕ (Int64 × Int32 × Int32 × mm_M))))))))} (h : fX4_digest_b0 G a0 σ = some o) (hk : mm_Ok q (PX4_digest E G a0 q) o) : mm_At E G 5 (mm_Ql E G q) σ 0 [(0, .ref a0)] [] := by
  unfold fX4_digest_b0 at h
  refine at_ldc2_w (pc := 0) X (17 : Int64) lkX4_digest_0 dX4_digest_0 ?_
  refine at_lstore_n (pc := 3) X 1 [(1, .long (17 : Int64)), (0, .ref a0)] dX4_digest_3 rfl (by decide) rfl ?_
  refine at_iconst (pc := 4) X (0 : Int32) dX4_digest_4 ic_0 ?_
  refine at_istore_n (pc := 5) X 3 [(3, .int (0 : Int32)), (1, .long (17 : Int64)), (0, .ref a0)] dX4_digest_5 rfl (by decide) rfl ?_
  have h2 := mm_inr h hk; exact at_sub [2, 1, 0] rfl h2
set_option maxHeartbeats 4000000 in
set_option maxRecDepth 100000 in
theorem mX4_digest (l : Launch) {G : mm_G} (hwf : mm_WF G) {a0 : Nat} {σ : mm_M} {q : (Int64 × mm_M)} (ha0 : mm_Is G 4 a0) (h : fX4_digest G a0 σ = some q) : mm_Ml l yX4_digest wsX4_digest rmX4_digest G [.ref a0] σ q := by
  refine mm_ofl (cc := cX4_digest) (nL := 5) (ret := some .long) (own := RX4) (lv0 := [(0, .ref a0)]) (by decide) rfl rfl (Nat.le_of_ble_eq_true rfl) rfl hwf (fun E hE X => ?_)
  obtain ⟨o, h0, hk⟩ := mm_run_ok (P := PX4_digest E G a0 q) h (fun s o hs hk => by cases s with | inl s => exact wX4_digest_b6 X ha0 hs hk | inr s => (cases s with | inl s => exact wX4_digest_b33 X ha0 hs hk | inr s => (cases s with | inl s => exact wX4_digest_b47 X ha0 hs hk | inr s => (cases s with | inl s => exact wX4_digest_b83 X ha0 hs hk | inr s => (cases s with | inl s => exact wX4_digest_b114 X ha0 hs hk | inr s => (cases s with | inl s => exact wX4_digest_b137 X ha0 hs hk | inr s => (cases s with | inl s => exact wX4_digest_b182 X ha0 hs hk | inr s => (exact wX4_digest_b204 X ha0 hs hk))))))))
  exact wX4_digest_b0 X ha0 h0 hk
