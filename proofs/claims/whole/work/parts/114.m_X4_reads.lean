/-! X4_reads X4_fault X4_air X4_isStation X4_has X4_is X4_capped X4_doubled -/
set_option maxRecDepth 20000 in
theorem ggX4_reads_X4_skips : GoodIn wsX4_reads wsX4_skips := goodIn_r _ [7, 8, 9, 10, 6, 11, 2, 12, 19, 20, 21, 22, 23, 24, 25, 26, 27, 28, 29, 30, 31, 32, 33, 34, 35, 36, 37, 38, 39, 40] (by decide +kernel) (by decide +kernel)
set_option maxRecDepth 20000 in
theorem gX4_reads_X4_skips : GoodIn wsX4_reads (wsV RX4 102 RX4 yX4_skips wsX4_skips) := goodIn_app (goodIn_of _ (by decide +kernel)) ggX4_reads_X4_skips
set_option maxRecDepth 20000 in
theorem ggX4_reads_X4_byteAt : GoodIn wsX4_reads wsX4_byteAt := goodIn_r _ [11, 2, 12, 19, 20, 21, 22, 23, 24, 25, 26, 27, 28, 29, 30, 31, 32, 33, 34, 35, 36, 37, 38, 39, 40] (by decide +kernel) (by decide +kernel)
set_option maxRecDepth 20000 in
theorem gX4_reads_X4_byteAt : GoodIn wsX4_reads (wsV RX4 98 RX4 yX4_byteAt wsX4_byteAt) := goodIn_app (goodIn_of _ (by decide +kernel)) ggX4_reads_X4_byteAt
set_option maxRecDepth 20000 in
theorem ggX4_reads_X4_kindBy : GoodIn wsX4_reads wsX4_kindBy := goodIn_r _ [15] (by decide +kernel) (by decide +kernel)
set_option maxRecDepth 20000 in
theorem gX4_reads_X4_kindBy : GoodIn wsX4_reads (va_wsS RX4 105 yX4_kindBy wsX4_kindBy) := goodIn_app (goodIn_of _ (by decide +kernel)) ggX4_reads_X4_kindBy
set_option maxRecDepth 20000 in
theorem ggX4_reads_X4_in : GoodIn wsX4_reads wsX4_in := goodIn_r _ [18] (by decide +kernel) (by decide +kernel)
set_option maxRecDepth 20000 in
theorem gX4_reads_X4_in : GoodIn wsX4_reads (va_wsS RX4 73 yX4_in wsX4_in) := goodIn_app (goodIn_of _ (by decide +kernel)) ggX4_reads_X4_in
theorem dX4_reads_0 : decode cX4_reads 0 = .ok (.iconst 0, 1) := by decide +kernel
theorem dX4_reads_1 : decode cX4_reads 1 = .ok (.istore_n 2, 1) := by decide +kernel
theorem dX4_reads_2 : decode cX4_reads 2 = .ok (.iload_n 2, 1) := by decide +kernel
theorem dX4_reads_3 : decode cX4_reads 3 = .ok (.bipush 48, 2) := by decide +kernel
theorem dX4_reads_5 : decode cX4_reads 5 = .ok (.if_icmp .ge 16, 3) := by decide +kernel
theorem dX4_reads_8 : decode cX4_reads 8 = .ok (.aload_n 0, 1) := by decide +kernel
theorem dX4_reads_9 : decode cX4_reads 9 = .ok (.getfield 29, 3) := by decide +kernel
theorem dX4_reads_12 : decode cX4_reads 12 = .ok (.iload_n 2, 1) := by decide +kernel
theorem dX4_reads_13 : decode cX4_reads 13 = .ok (.iconst 0, 1) := by decide +kernel
theorem dX4_reads_14 : decode cX4_reads 14 = .ok (.iastore, 1) := by decide +kernel
theorem dX4_reads_15 : decode cX4_reads 15 = .ok (.iinc 2 1, 3) := by decide +kernel
theorem dX4_reads_18 : decode cX4_reads 18 = .ok (.goto (-16), 3) := by decide +kernel
theorem dX4_reads_21 : decode cX4_reads 21 = .ok (.aload_n 0, 1) := by decide +kernel
theorem dX4_reads_22 : decode cX4_reads 22 = .ok (.iload_n 1, 1) := by decide +kernel
theorem dX4_reads_23 : decode cX4_reads 23 = .ok (.iconst 0, 1) := by decide +kernel
theorem dX4_reads_24 : decode cX4_reads 24 = .ok (.invokevirtual 102, 3) := by decide +kernel
theorem dX4_reads_27 : decode cX4_reads 27 = .ok (.istore_n 2, 1) := by decide +kernel
theorem dX4_reads_28 : decode cX4_reads 28 = .ok (.iload_n 2, 1) := by decide +kernel
theorem dX4_reads_29 : decode cX4_reads 29 = .ok (.aload_n 0, 1) := by decide +kernel
theorem dX4_reads_30 : decode cX4_reads 30 = .ok (.getfield 19, 3) := by decide +kernel
theorem dX4_reads_33 : decode cX4_reads 33 = .ok (.iload_n 1, 1) := by decide +kernel
theorem dX4_reads_34 : decode cX4_reads 34 = .ok (.iaload, 1) := by decide +kernel
theorem dX4_reads_35 : decode cX4_reads 35 = .ok (.if_icmp .ge 180, 3) := by decide +kernel
theorem dX4_reads_38 : decode cX4_reads 38 = .ok (.aload_n 0, 1) := by decide +kernel
theorem dX4_reads_39 : decode cX4_reads 39 = .ok (.getfield 29, 3) := by decide +kernel
theorem dX4_reads_42 : decode cX4_reads 42 = .ok (.bipush 32, 2) := by decide +kernel
theorem dX4_reads_44 : decode cX4_reads 44 = .ok (.iaload, 1) := by decide +kernel
theorem dX4_reads_45 : decode cX4_reads 45 = .ok (.istore_n 3, 1) := by decide +kernel
theorem dX4_reads_46 : decode cX4_reads 46 = .ok (.aload_n 0, 1) := by decide +kernel
theorem dX4_reads_47 : decode cX4_reads 47 = .ok (.iload_n 1, 1) := by decide +kernel
theorem dX4_reads_48 : decode cX4_reads 48 = .ok (.iload_n 2, 1) := by decide +kernel
theorem dX4_reads_49 : decode cX4_reads 49 = .ok (.invokevirtual 98, 3) := by decide +kernel
theorem dX4_reads_52 : decode cX4_reads 52 = .ok (.invokestatic 105, 3) := by decide +kernel
theorem dX4_reads_55 : decode cX4_reads 55 = .ok (.istore 4, 2) := by decide +kernel
theorem dX4_reads_57 : decode cX4_reads 57 = .ok (.iload 4, 2) := by decide +kernel
theorem dX4_reads_59 : decode cX4_reads 59 = .ok (.bipush (-9), 2) := by decide +kernel
theorem dX4_reads_61 : decode cX4_reads 61 = .ok (.if_icmp .eq 9, 3) := by decide +kernel
theorem dX4_reads_64 : decode cX4_reads 64 = .ok (.iload_n 3, 1) := by decide +kernel
theorem dX4_reads_65 : decode cX4_reads 65 = .ok (.bipush 7, 2) := by decide +kernel
theorem dX4_reads_67 : decode cX4_reads 67 = .ok (.if_icmp .ne 5, 3) := by decide +kernel
theorem dX4_reads_70 : decode cX4_reads 70 = .ok (.iload_n 2, 1) := by decide +kernel
theorem dX4_reads_71 : decode cX4_reads 71 = .ok (.ireturn, 1) := by decide +kernel
theorem dX4_reads_72 : decode cX4_reads 72 = .ok (.iconst 1, 1) := by decide +kernel
theorem dX4_reads_73 : decode cX4_reads 73 = .ok (.istore 5, 2) := by decide +kernel
theorem dX4_reads_75 : decode cX4_reads 75 = .ok (.iload 5, 2) := by decide +kernel
theorem dX4_reads_77 : decode cX4_reads 77 = .ok (.iconst 4, 1) := by decide +kernel
theorem dX4_reads_78 : decode cX4_reads 78 = .ok (.if_icmp .ge 44, 3) := by decide +kernel
theorem dX4_reads_81 : decode cX4_reads 81 = .ok (.aload_n 0, 1) := by decide +kernel
theorem dX4_reads_82 : decode cX4_reads 82 = .ok (.iload_n 1, 1) := by decide +kernel
theorem dX4_reads_83 : decode cX4_reads 83 = .ok (.iload_n 2, 1) := by decide +kernel
theorem dX4_reads_84 : decode cX4_reads 84 = .ok (.iload 5, 2) := by decide +kernel
theorem dX4_reads_86 : decode cX4_reads 86 = .ok (.iadd, 1) := by decide +kernel
theorem dX4_reads_87 : decode cX4_reads 87 = .ok (.invokevirtual 98, 3) := by decide +kernel
theorem dX4_reads_90 : decode cX4_reads 90 = .ok (.iload 5, 2) := by decide +kernel
theorem dX4_reads_92 : decode cX4_reads 92 = .ok (.iconst 2, 1) := by decide +kernel
theorem dX4_reads_93 : decode cX4_reads 93 = .ok (.if_icmp .ne 8, 3) := by decide +kernel
theorem dX4_reads_96 : decode cX4_reads 96 = .ok (.bipush 49, 2) := by decide +kernel
theorem dX4_reads_98 : decode cX4_reads 98 = .ok (.goto 5, 3) := by decide +kernel
theorem dX4_reads_101 : decode cX4_reads 101 = .ok (.bipush 48, 2) := by decide +kernel
theorem dX4_reads_103 : decode cX4_reads 103 = .ok (.bipush 57, 2) := by decide +kernel
theorem dX4_reads_105 : decode cX4_reads 105 = .ok (.invokestatic 73, 3) := by decide +kernel
theorem dX4_reads_108 : decode cX4_reads 108 = .ok (.ifCond .ne 8, 3) := by decide +kernel
theorem dX4_reads_111 : decode cX4_reads 111 = .ok (.iload_n 2, 1) := by decide +kernel
theorem dX4_reads_112 : decode cX4_reads 112 = .ok (.iload 5, 2) := by decide +kernel
theorem dX4_reads_114 : decode cX4_reads 114 = .ok (.iadd, 1) := by decide +kernel
theorem dX4_reads_115 : decode cX4_reads 115 = .ok (.ireturn, 1) := by decide +kernel
theorem dX4_reads_116 : decode cX4_reads 116 = .ok (.iinc 5 1, 3) := by decide +kernel
theorem dX4_reads_119 : decode cX4_reads 119 = .ok (.goto (-44), 3) := by decide +kernel
theorem dX4_reads_122 : decode cX4_reads 122 = .ok (.aload_n 0, 1) := by decide +kernel
theorem dX4_reads_123 : decode cX4_reads 123 = .ok (.getfield 29, 3) := by decide +kernel
theorem dX4_reads_126 : decode cX4_reads 126 = .ok (.bipush 33, 2) := by decide +kernel
theorem dX4_reads_128 : decode cX4_reads 128 = .ok (.iload_n 3, 1) := by decide +kernel
theorem dX4_reads_129 : decode cX4_reads 129 = .ok (.iadd, 1) := by decide +kernel
theorem dX4_reads_130 : decode cX4_reads 130 = .ok (.iload 4, 2) := by decide +kernel
theorem dX4_reads_132 : decode cX4_reads 132 = .ok (.iastore, 1) := by decide +kernel
theorem dX4_reads_133 : decode cX4_reads 133 = .ok (.aload_n 0, 1) := by decide +kernel
theorem dX4_reads_134 : decode cX4_reads 134 = .ok (.getfield 29, 3) := by decide +kernel
theorem dX4_reads_137 : decode cX4_reads 137 = .ok (.iconst 4, 1) := by decide +kernel
theorem dX4_reads_138 : decode cX4_reads 138 = .ok (.iload_n 3, 1) := by decide +kernel
theorem dX4_reads_139 : decode cX4_reads 139 = .ok (.iadd, 1) := by decide +kernel
theorem dX4_reads_140 : decode cX4_reads 140 = .ok (.aload_n 0, 1) := by decide +kernel
theorem dX4_reads_141 : decode cX4_reads 141 = .ok (.iload_n 1, 1) := by decide +kernel
theorem dX4_reads_142 : decode cX4_reads 142 = .ok (.iload_n 2, 1) := by decide +kernel
theorem dX4_reads_143 : decode cX4_reads 143 = .ok (.iconst 1, 1) := by decide +kernel
theorem dX4_reads_144 : decode cX4_reads 144 = .ok (.iadd, 1) := by decide +kernel
theorem dX4_reads_145 : decode cX4_reads 145 = .ok (.invokevirtual 98, 3) := by decide +kernel
theorem dX4_reads_148 : decode cX4_reads 148 = .ok (.bipush 48, 2) := by decide +kernel
theorem dX4_reads_150 : decode cX4_reads 150 = .ok (.isub, 1) := by decide +kernel
theorem dX4_reads_151 : decode cX4_reads 151 = .ok (.iastore, 1) := by decide +kernel
theorem dX4_reads_152 : decode cX4_reads 152 = .ok (.aload_n 0, 1) := by decide +kernel
theorem dX4_reads_153 : decode cX4_reads 153 = .ok (.getfield 29, 3) := by decide +kernel
theorem dX4_reads_156 : decode cX4_reads 156 = .ok (.bipush 40, 2) := by decide +kernel
theorem dX4_reads_158 : decode cX4_reads 158 = .ok (.iload_n 3, 1) := by decide +kernel
theorem dX4_reads_159 : decode cX4_reads 159 = .ok (.iadd, 1) := by decide +kernel
theorem dX4_reads_160 : decode cX4_reads 160 = .ok (.aload_n 0, 1) := by decide +kernel
theorem dX4_reads_161 : decode cX4_reads 161 = .ok (.iload_n 1, 1) := by decide +kernel
theorem dX4_reads_162 : decode cX4_reads 162 = .ok (.iload_n 2, 1) := by decide +kernel
theorem dX4_reads_163 : decode cX4_reads 163 = .ok (.iconst 2, 1) := by decide +kernel
theorem dX4_reads_164 : decode cX4_reads 164 = .ok (.iadd, 1) := by decide +kernel
theorem dX4_reads_165 : decode cX4_reads 165 = .ok (.invokevirtual 98, 3) := by decide +kernel
theorem dX4_reads_168 : decode cX4_reads 168 = .ok (.bipush 48, 2) := by decide +kernel
theorem dX4_reads_170 : decode cX4_reads 170 = .ok (.isub, 1) := by decide +kernel
theorem dX4_reads_171 : decode cX4_reads 171 = .ok (.iastore, 1) := by decide +kernel
theorem dX4_reads_172 : decode cX4_reads 172 = .ok (.aload_n 0, 1) := by decide +kernel
theorem dX4_reads_173 : decode cX4_reads 173 = .ok (.getfield 29, 3) := by decide +kernel
theorem dX4_reads_176 : decode cX4_reads 176 = .ok (.bipush 11, 2) := by decide +kernel
theorem dX4_reads_178 : decode cX4_reads 178 = .ok (.iload_n 3, 1) := by decide +kernel
theorem dX4_reads_179 : decode cX4_reads 179 = .ok (.iadd, 1) := by decide +kernel
theorem dX4_reads_180 : decode cX4_reads 180 = .ok (.aload_n 0, 1) := by decide +kernel
theorem dX4_reads_181 : decode cX4_reads 181 = .ok (.iload_n 1, 1) := by decide +kernel
theorem dX4_reads_182 : decode cX4_reads 182 = .ok (.iload_n 2, 1) := by decide +kernel
theorem dX4_reads_183 : decode cX4_reads 183 = .ok (.iconst 3, 1) := by decide +kernel
theorem dX4_reads_184 : decode cX4_reads 184 = .ok (.iadd, 1) := by decide +kernel
theorem dX4_reads_185 : decode cX4_reads 185 = .ok (.invokevirtual 98, 3) := by decide +kernel
theorem dX4_reads_188 : decode cX4_reads 188 = .ok (.bipush 48, 2) := by decide +kernel
theorem dX4_reads_190 : decode cX4_reads 190 = .ok (.isub, 1) := by decide +kernel
theorem dX4_reads_191 : decode cX4_reads 191 = .ok (.iastore, 1) := by decide +kernel
theorem dX4_reads_192 : decode cX4_reads 192 = .ok (.aload_n 0, 1) := by decide +kernel
theorem dX4_reads_193 : decode cX4_reads 193 = .ok (.getfield 29, 3) := by decide +kernel
theorem dX4_reads_196 : decode cX4_reads 196 = .ok (.bipush 32, 2) := by decide +kernel
theorem dX4_reads_198 : decode cX4_reads 198 = .ok (.dup2, 1) := by decide +kernel
theorem dX4_reads_199 : decode cX4_reads 199 = .ok (.iaload, 1) := by decide +kernel
theorem dX4_reads_200 : decode cX4_reads 200 = .ok (.iconst 1, 1) := by decide +kernel
theorem dX4_reads_201 : decode cX4_reads 201 = .ok (.iadd, 1) := by decide +kernel
theorem dX4_reads_202 : decode cX4_reads 202 = .ok (.iastore, 1) := by decide +kernel
theorem dX4_reads_203 : decode cX4_reads 203 = .ok (.aload_n 0, 1) := by decide +kernel
theorem dX4_reads_204 : decode cX4_reads 204 = .ok (.iload_n 1, 1) := by decide +kernel
theorem dX4_reads_205 : decode cX4_reads 205 = .ok (.iload_n 2, 1) := by decide +kernel
theorem dX4_reads_206 : decode cX4_reads 206 = .ok (.iconst 4, 1) := by decide +kernel
theorem dX4_reads_207 : decode cX4_reads 207 = .ok (.iadd, 1) := by decide +kernel
theorem dX4_reads_208 : decode cX4_reads 208 = .ok (.invokevirtual 102, 3) := by decide +kernel
theorem dX4_reads_211 : decode cX4_reads 211 = .ok (.istore_n 2, 1) := by decide +kernel
theorem dX4_reads_212 : decode cX4_reads 212 = .ok (.goto (-184), 3) := by decide +kernel
theorem dX4_reads_215 : decode cX4_reads 215 = .ok (.aload_n 0, 1) := by decide +kernel
theorem dX4_reads_216 : decode cX4_reads 216 = .ok (.getfield 29, 3) := by decide +kernel
theorem dX4_reads_219 : decode cX4_reads 219 = .ok (.bipush 32, 2) := by decide +kernel
theorem dX4_reads_221 : decode cX4_reads 221 = .ok (.iaload, 1) := by decide +kernel
theorem dX4_reads_222 : decode cX4_reads 222 = .ok (.iconst 2, 1) := by decide +kernel
theorem dX4_reads_223 : decode cX4_reads 223 = .ok (.if_icmp .ge 7, 3) := by decide +kernel
theorem dX4_reads_226 : decode cX4_reads 226 = .ok (.iload_n 2, 1) := by decide +kernel
theorem dX4_reads_227 : decode cX4_reads 227 = .ok (.goto 5, 3) := by decide +kernel
theorem dX4_reads_230 : decode cX4_reads 230 = .ok (.bipush (-9), 2) := by decide +kernel
theorem dX4_reads_232 : decode cX4_reads 232 = .ok (.ireturn, 1) := by decide +kernel
/-! X4_reads (I)I -/
abbrev rmX4_reads : Room := { frames := 2, cells := 0, slots := 0, locals := 45 }
theorem lkX4_reads_0 : Cond.fieldLink RX4 19 (TX4 3).1 (TX4 3).2.1 (TX4 3).2.2.1 ∈ wsX4_reads := by decide +kernel
theorem lkX4_reads_1 : Cond.fieldLink RX4 29 (TX4 6).1 (TX4 6).2.1 (TX4 6).2.2.1 ∈ wsX4_reads := by decide +kernel
theorem inX4_reads_X4 : ∀ w ∈ u_ws RX4 TX4 22, w ∈ wsX4_reads := by decide +kernel
noncomputable def fX4_reads_b103 (G : mm_G) (a0 : Nat) (x1 : Int32) (x2 : Int32) (x3 : Int32) (x4 : Int32) (x5 : Int32) (sx0 : Int32) (sx1 : Int32) (σ : mm_M) : Option ((Int32 × mm_M) ⊕ ((Int32 × mm_M) ⊕ ((Int32 × mm_M) ⊕ (Int32 × Int32 × Int32 × Int32 × mm_M)))) := (fX4_in G sx1 sx0 (57 : Int32) σ).bind (fun q105 => if q105.1 = 0 then (some (.inl (x2 + x5, q105.2))) else (some (.inr (.inr (.inr (x2, x3, x4, x5 + 1, q105.2))))))
noncomputable def fX4_reads_b75 (G : mm_G) (a0 : Nat) (x1 : Int32) (x2 : Int32) (x3 : Int32) (x4 : Int32) (x5 : Int32) (σ : mm_M) : Option ((Int32 × mm_M) ⊕ ((Int32 × mm_M) ⊕ ((Int32 × mm_M) ⊕ (Int32 × Int32 × Int32 × Int32 × mm_M)))) := if x5 < (4 : Int32) then ((fX4_byteAt G a0 x1 (x2 + x5) σ).bind (fun q87 => fX4_reads_b103 G a0 x1 x2 x3 x4 x5 (if x5 = (2 : Int32) then (49 : Int32) else (48 : Int32)) q87.1 q87.2)) else (if ((33 : Int32) + x3) < 0 ∨ mm_N G (mm_R G a0 6) ≤ ((33 : Int32) + x3).toNatClampNeg then none else ((fX4_byteAt G a0 x1 (x2 + (1 : Int32)) (mm_up σ (mm_R G a0 6) ((33 : Int32) + x3).toNatClampNeg x4)).bind (fun q145 => if ((4 : Int32) + x3) < 0 ∨ mm_N G (mm_R G a0 6) ≤ ((4 : Int32) + x3).toNatClampNeg then none else ((fX4_byteAt G a0 x1 (x2 + (2 : Int32)) (mm_up q145.2 (mm_R G a0 6) ((4 : Int32) + x3).toNatClampNeg (q145.1 - (48 : Int32)))).bind (fun q165 => if ((40 : Int32) + x3) < 0 ∨ mm_N G (mm_R G a0 6) ≤ ((40 : Int32) + x3).toNatClampNeg then none else ((fX4_byteAt G a0 x1 (x2 + (3 : Int32)) (mm_up q165.2 (mm_R G a0 6) ((40 : Int32) + x3).toNatClampNeg (q165.1 - (48 : Int32)))).bind (fun q185 => if ((11 : Int32) + x3) < 0 ∨ mm_N G (mm_R G a0 6) ≤ ((11 : Int32) + x3).toNatClampNeg then none else (if (32 : Int32) < 0 ∨ mm_N G (mm_R G a0 6) ≤ (32 : Int32).toNatClampNeg then none else (if (32 : Int32) < 0 ∨ mm_N G (mm_R G a0 6) ≤ (32 : Int32).toNatClampNeg then none else ((fX4_skips G a0 x1 (x2 + (4 : Int32)) (mm_up (mm_up q185.2 (mm_R G a0 6) ((11 : Int32) + x3).toNatClampNeg (q185.1 - (48 : Int32))) (mm_R G a0 6) (32 : Int32).toNatClampNeg (((mm_up q185.2 (mm_R G a0 6) ((11 : Int32) + x3).toNatClampNeg (q185.1 - (48 : Int32))).1 (mm_R G a0 6) (32 : Int32).toNatClampNeg) + (1 : Int32)))).bind (fun q208 => some (.inr (.inr (.inl (q208.1, q208.2)))))))))))))))
noncomputable def fX4_reads_b28 (G : mm_G) (a0 : Nat) (x1 : Int32) (x2 : Int32) (σ : mm_M) : Option ((Int32 × mm_M) ⊕ ((Int32 × mm_M) ⊕ ((Int32 × mm_M) ⊕ (Int32 × Int32 × Int32 × Int32 × mm_M)))) := if x1 < 0 ∨ mm_N G (mm_R G a0 3) ≤ x1.toNatClampNeg then none else (if x2 < (σ.1 (mm_R G a0 3) x1.toNatClampNeg) then (if (32 : Int32) < 0 ∨ mm_N G (mm_R G a0 6) ≤ (32 : Int32).toNatClampNeg then none else ((fX4_byteAt G a0 x1 x2 σ).bind (fun q49 => (fX4_kindBy G q49.1 q49.2).bind (fun q52 => if q52.1 = (-9 : Int32) then (some (.inl (x2, q52.2))) else (if (σ.1 (mm_R G a0 6) (32 : Int32).toNatClampNeg) = (7 : Int32) then (some (.inl (x2, q52.2))) else (some (.inr (.inr (.inr (x2, σ.1 (mm_R G a0 6) (32 : Int32).toNatClampNeg, q52.1, (1 : Int32), q52.2)))))))))) else (if (32 : Int32) < 0 ∨ mm_N G (mm_R G a0 6) ≤ (32 : Int32).toNatClampNeg then none else (some (.inl (if (σ.1 (mm_R G a0 6) (32 : Int32).toNatClampNeg) < (2 : Int32) then x2 else (-9 : Int32), σ)))))
noncomputable def fX4_reads_b2 (G : mm_G) (a0 : Nat) (x1 : Int32) (x2 : Int32) (σ : mm_M) : Option ((Int32 × mm_M) ⊕ ((Int32 × mm_M) ⊕ ((Int32 × mm_M) ⊕ (Int32 × Int32 × Int32 × Int32 × mm_M)))) := if x2 < (48 : Int32) then (if x2 < 0 ∨ mm_N G (mm_R G a0 6) ≤ x2.toNatClampNeg then none else (some (.inr (.inl (x2 + 1, mm_up σ (mm_R G a0 6) x2.toNatClampNeg (0 : Int32)))))) else ((fX4_skips G a0 x1 (0 : Int32) σ).bind (fun q24 => some (.inr (.inr (.inl (q24.1, q24.2))))))
noncomputable def fX4_reads_b0 (G : mm_G) (a0 : Nat) (x1 : Int32) (σ : mm_M) : Option ((Int32 × mm_M) ⊕ ((Int32 × mm_M) ⊕ ((Int32 × mm_M) ⊕ (Int32 × Int32 × Int32 × Int32 × mm_M)))) := some (.inr (.inl ((0 : Int32), σ)))
noncomputable def fX4_reads_s (G : mm_G) (a0 : Nat) (x1 : Int32) : ((Int32 × mm_M) ⊕ ((Int32 × mm_M) ⊕ (Int32 × Int32 × Int32 × Int32 × mm_M))) → Option ((Int32 × mm_M) ⊕ ((Int32 × mm_M) ⊕ ((Int32 × mm_M) ⊕ (Int32 × Int32 × Int32 × Int32 × mm_M)))) := (Sum.elim (fun s => fX4_reads_b2 G a0 x1 s.1 s.2) (Sum.elim (fun s => fX4_reads_b28 G a0 x1 s.1 s.2) (fun s => fX4_reads_b75 G a0 x1 s.1 s.2.1 s.2.2.1 s.2.2.2.1 s.2.2.2.2)))
def PX4_reads (E : mm_E) (G : mm_G) (a0 : Nat) (x1 : Int32) (q : (Int32 × mm_M)) : ((Int32 × mm_M) ⊕ ((Int32 × mm_M) ⊕ (Int32 × Int32 × Int32 × Int32 × mm_M))) → Prop := (Sum.elim (fun s => mm_At E G 6 (mm_Qi E G q) s.2 2 [(0, .ref a0), (1, .int x1), (2, .int s.1)] []) (Sum.elim (fun s => mm_At E G 6 (mm_Qi E G q) s.2 28 [(0, .ref a0), (1, .int x1), (2, .int s.1)] []) (fun s => mm_At E G 6 (mm_Qi E G q) s.2.2.2.2 75 [(0, .ref a0), (1, .int x1), (2, .int s.1), (3, .int s.2.1), (4, .int s.2.2.1), (5, .int s.2.2.2.1)] [])))
noncomputable def fX4_reads (G : mm_G) (a0 : Nat) (x1 : Int32) (σ : mm_M) : Option (Int32 × mm_M) := mm_run (fX4_reads_b0 G a0 x1 σ) (fX4_reads_s G a0 x1)
set_option maxHeartbeats 4000000 in
set_option maxRecDepth 100000 in
theorem wX4_reads_b103 {E : mm_E} {G : mm_G} (X : mm_Cx E G cX4_reads 6 RX4 wsX4_reads rmX4_reads (some .int)) {a0 : Nat} {x1 : Int32} {x2 : Int32} {x3 : Int32} {x4 : Int32} {x5 : Int32} {sx0 : Int32} {sx1 : Int32} {σ : mm_M} {q : (Int32 × mm_M)} (ha0 : mm_Is G 4 a0) {o : (Int32 × mm_M) ⊕ ((Int32 × mm_M) ⊕ ((Int32 × mm_M) ⊕ (Int32 × Int32 × Int32 × Int32 × mm_M)))} (h : fX4_reads_b103 G a0 x1 x2 x3 x4 x5 sx0 sx1 σ = some o) (hk : mm_Ok q (PX4_reads E G a0 x1 q) o) : mm_At E G 6 (mm_Qi E G q) σ 103 [(0, .ref a0), (1, .int x1), (2, .int x2), (3, .int x3), (4, .int x4), (5, .int x5)] [.int sx0, .int sx1] := by
  unfold fX4_reads_b103 at h
  refine at_bipush (pc := 103) X (57 : Int32) dX4_reads_103 ib_57 ?_
  obtain ⟨q105, hq105, h⟩ := mm_bind h
  refine at_scalli (n := 3) (pc := 105) X [.int sx1, .int sx0, .int (57 : Int32)] [] (mX4_in (eL E) X.wf hq105) gX4_reads_X4_in rfl ⟨rfl, rfl⟩ (by decide +kernel) ⟨by decide, by decide⟩ rfl rfl (Nat.le_of_ble_eq_true rfl) dX4_reads_105 ?_
  refine at_if_ne (pc := 108) X 116 dX4_reads_108 (by decide) (fun c108 => ?_) (fun c108 => ?_)
  · have h := mm_neg c108 h
    refine at_iinc (pc := 116) X 5 5 (x5 + 1) [(5, .int (x5 + 1)), (0, .ref a0), (1, .int x1), (2, .int x2), (3, .int x3), (4, .int x4)] dX4_reads_116 rfl (ii_1 _) (by decide) rfl ?_
    refine at_goto (pc := 119) X 75 dX4_reads_119 (by decide) ?_
    have h2 := mm_inr h hk; exact at_sub [1, 2, 3, 4, 5, 0] rfl h2
  · have h := mm_pos c108 h
    refine at_iload_n (pc := 111) X 2 2 dX4_reads_111 rfl rfl ?_
    refine at_iload (pc := 112) X 5 5 dX4_reads_112 rfl ?_
    refine at_iadd (pc := 114) X dX4_reads_114 ?_
    exact at_iret (pc := 115) X (mm_inl h hk) dX4_reads_115
set_option maxHeartbeats 4000000 in
set_option maxRecDepth 100000 in
theorem wX4_reads_b75 {E : mm_E} {G : mm_G} (X : mm_Cx E G cX4_reads 6 RX4 wsX4_reads rmX4_reads (some .int)) {a0 : Nat} {x1 : Int32} {x2 : Int32} {x3 : Int32} {x4 : Int32} {x5 : Int32} {σ : mm_M} {q : (Int32 × mm_M)} (ha0 : mm_Is G 4 a0) {o : (Int32 × mm_M) ⊕ ((Int32 × mm_M) ⊕ ((Int32 × mm_M) ⊕ (Int32 × Int32 × Int32 × Int32 × mm_M)))} (h : fX4_reads_b75 G a0 x1 x2 x3 x4 x5 σ = some o) (hk : mm_Ok q (PX4_reads E G a0 x1 q) o) : mm_At E G 6 (mm_Qi E G q) σ 75 [(0, .ref a0), (1, .int x1), (2, .int x2), (3, .int x3), (4, .int x4), (5, .int x5)] [] := by
  unfold fX4_reads_b75 at h
  refine at_iload (pc := 75) X 5 5 dX4_reads_75 rfl ?_
  refine at_iconst (pc := 77) X (4 : Int32) dX4_reads_77 ic_4 ?_
  refine at_icmp_ge (pc := 78) X 122 dX4_reads_78 (by decide) (fun c78 => ?_) (fun c78 => ?_)
  · have h := mm_neg c78 h
    refine at_aload_n (pc := 122) X 0 0 dX4_reads_122 rfl rfl ?_
    refine at_get (pc := 123) X 4 6 (.ref (mm_R G a0 6)) ha0 (by decide) rfl inX4_reads_X4 (by decide) lkX4_reads_1 rfl dX4_reads_123 ?_
    refine at_bipush (pc := 126) X (33 : Int32) dX4_reads_126 ib_33 ?_
    refine at_iload_n (pc := 128) X 3 3 dX4_reads_128 rfl rfl ?_
    refine at_iadd (pc := 129) X dX4_reads_129 ?_
    refine at_iload (pc := 130) X 4 4 dX4_reads_130 rfl ?_
    obtain ⟨hc132, h⟩ := mm_chk h
    refine at_iast (pc := 132) X (wf_4_6 X.wf ha0) hc132 dX4_reads_132 ?_
    refine at_aload_n (pc := 133) X 0 0 dX4_reads_133 rfl rfl ?_
    refine at_get (pc := 134) X 4 6 (.ref (mm_R G a0 6)) ha0 (by decide) rfl inX4_reads_X4 (by decide) lkX4_reads_1 rfl dX4_reads_134 ?_
    refine at_iconst (pc := 137) X (4 : Int32) dX4_reads_137 ic_4 ?_
    refine at_iload_n (pc := 138) X 3 3 dX4_reads_138 rfl rfl ?_
    refine at_iadd (pc := 139) X dX4_reads_139 ?_
    refine at_aload_n (pc := 140) X 0 0 dX4_reads_140 rfl rfl ?_
    refine at_iload_n (pc := 141) X 1 1 dX4_reads_141 rfl rfl ?_
    refine at_iload_n (pc := 142) X 2 2 dX4_reads_142 rfl rfl ?_
    refine at_iconst (pc := 143) X (1 : Int32) dX4_reads_143 ic_1 ?_
    refine at_iadd (pc := 144) X dX4_reads_144 ?_
    obtain ⟨q145, hq145, h⟩ := mm_bind h
    refine at_calli (n := 2) (pc := 145) X 4 [.int x1, .int (x2 + (1 : Int32))] [.int ((4 : Int32) + x3), .ref (mm_R G a0 6)] (mX4_byteAt (eL E) X.wf ha0 hq145) gX4_reads_X4_byteAt rfl ⟨rfl, rfl⟩ (by decide +kernel) ⟨by decide, by decide⟩ (by decide) rfl ha0 rfl rfl (Nat.le_of_ble_eq_true rfl) dX4_reads_145 ?_
    refine at_bipush (pc := 148) X (48 : Int32) dX4_reads_148 ib_48 ?_
    refine at_isub (pc := 150) X dX4_reads_150 ?_
    obtain ⟨hc151, h⟩ := mm_chk h
    refine at_iast (pc := 151) X (wf_4_6 X.wf ha0) hc151 dX4_reads_151 ?_
    refine at_aload_n (pc := 152) X 0 0 dX4_reads_152 rfl rfl ?_
    refine at_get (pc := 153) X 4 6 (.ref (mm_R G a0 6)) ha0 (by decide) rfl inX4_reads_X4 (by decide) lkX4_reads_1 rfl dX4_reads_153 ?_
    refine at_bipush (pc := 156) X (40 : Int32) dX4_reads_156 ib_40 ?_
    refine at_iload_n (pc := 158) X 3 3 dX4_reads_158 rfl rfl ?_
    refine at_iadd (pc := 159) X dX4_reads_159 ?_
    refine at_aload_n (pc := 160) X 0 0 dX4_reads_160 rfl rfl ?_
    refine at_iload_n (pc := 161) X 1 1 dX4_reads_161 rfl rfl ?_
    refine at_iload_n (pc := 162) X 2 2 dX4_reads_162 rfl rfl ?_
    refine at_iconst (pc := 163) X (2 : Int32) dX4_reads_163 ic_2 ?_
    refine at_iadd (pc := 164) X dX4_reads_164 ?_
    obtain ⟨q165, hq165, h⟩ := mm_bind h
    refine at_calli (n := 2) (pc := 165) X 4 [.int x1, .int (x2 + (2 : Int32))] [.int ((40 : Int32) + x3), .ref (mm_R G a0 6)] (mX4_byteAt (eL E) X.wf ha0 hq165) gX4_reads_X4_byteAt rfl ⟨rfl, rfl⟩ (by decide +kernel) ⟨by decide, by decide⟩ (by decide) rfl ha0 rfl rfl (Nat.le_of_ble_eq_true rfl) dX4_reads_165 ?_
    refine at_bipush (pc := 168) X (48 : Int32) dX4_reads_168 ib_48 ?_
    refine at_isub (pc := 170) X dX4_reads_170 ?_
    obtain ⟨hc171, h⟩ := mm_chk h
    refine at_iast (pc := 171) X (wf_4_6 X.wf ha0) hc171 dX4_reads_171 ?_
    refine at_aload_n (pc := 172) X 0 0 dX4_reads_172 rfl rfl ?_
    refine at_get (pc := 173) X 4 6 (.ref (mm_R G a0 6)) ha0 (by decide) rfl inX4_reads_X4 (by decide) lkX4_reads_1 rfl dX4_reads_173 ?_
    refine at_bipush (pc := 176) X (11 : Int32) dX4_reads_176 ib_11 ?_
    refine at_iload_n (pc := 178) X 3 3 dX4_reads_178 rfl rfl ?_
    refine at_iadd (pc := 179) X dX4_reads_179 ?_
    refine at_aload_n (pc := 180) X 0 0 dX4_reads_180 rfl rfl ?_
    refine at_iload_n (pc := 181) X 1 1 dX4_reads_181 rfl rfl ?_
    refine at_iload_n (pc := 182) X 2 2 dX4_reads_182 rfl rfl ?_
    refine at_iconst (pc := 183) X (3 : Int32) dX4_reads_183 ic_3 ?_
    refine at_iadd (pc := 184) X dX4_reads_184 ?_
    obtain ⟨q185, hq185, h⟩ := mm_bind h
    refine at_calli (n := 2) (pc := 185) X 4 [.int x1, .int (x2 + (3 : Int32))] [.int ((11 : Int32) + x3), .ref (mm_R G a0 6)] (mX4_byteAt (eL E) X.wf ha0 hq185) gX4_reads_X4_byteAt rfl ⟨rfl, rfl⟩ (by decide +kernel) ⟨by decide, by decide⟩ (by decide) rfl ha0 rfl rfl (Nat.le_of_ble_eq_true rfl) dX4_reads_185 ?_
    refine at_bipush (pc := 188) X (48 : Int32) dX4_reads_188 ib_48 ?_
    refine at_isub (pc := 190) X dX4_reads_190 ?_
    obtain ⟨hc191, h⟩ := mm_chk h
    refine at_iast (pc := 191) X (wf_4_6 X.wf ha0) hc191 dX4_reads_191 ?_
    refine at_aload_n (pc := 192) X 0 0 dX4_reads_192 rfl rfl ?_
    refine at_get (pc := 193) X 4 6 (.ref (mm_R G a0 6)) ha0 (by decide) rfl inX4_reads_X4 (by decide) lkX4_reads_1 rfl dX4_reads_193 ?_
    refine at_bipush (pc := 196) X (32 : Int32) dX4_reads_196 ib_32 ?_
    refine at_dup2 (pc := 198) X dX4_reads_198 rfl rfl ?_
    obtain ⟨hc199, h⟩ := mm_chk h
    refine at_iald (pc := 199) X (wf_4_6 X.wf ha0) hc199 dX4_reads_199 ?_
    refine at_iconst (pc := 200) X (1 : Int32) dX4_reads_200 ic_1 ?_
    refine at_iadd (pc := 201) X dX4_reads_201 ?_
    obtain ⟨hc202, h⟩ := mm_chk h
    refine at_iast (pc := 202) X (wf_4_6 X.wf ha0) hc202 dX4_reads_202 ?_
    refine at_aload_n (pc := 203) X 0 0 dX4_reads_203 rfl rfl ?_
    refine at_iload_n (pc := 204) X 1 1 dX4_reads_204 rfl rfl ?_
    refine at_iload_n (pc := 205) X 2 2 dX4_reads_205 rfl rfl ?_
    refine at_iconst (pc := 206) X (4 : Int32) dX4_reads_206 ic_4 ?_
    refine at_iadd (pc := 207) X dX4_reads_207 ?_
    obtain ⟨q208, hq208, h⟩ := mm_bind h
    refine at_calli (n := 2) (pc := 208) X 4 [.int x1, .int (x2 + (4 : Int32))] [] (mX4_skips (eL E) X.wf ha0 hq208) gX4_reads_X4_skips rfl ⟨rfl, rfl⟩ (by decide +kernel) ⟨by decide, by decide⟩ (by decide) rfl ha0 rfl rfl (Nat.le_of_ble_eq_true rfl) dX4_reads_208 ?_
    refine at_istore_n (pc := 211) X 2 [(2, .int q208.1), (0, .ref a0), (1, .int x1), (3, .int x3), (4, .int x4), (5, .int x5)] dX4_reads_211 rfl (by decide) rfl ?_
    refine at_goto (pc := 212) X 28 dX4_reads_212 (by decide) ?_
    have h2 := mm_inr h hk; exact at_sub [1, 2, 0] rfl h2
  · have h := mm_pos c78 h
    refine at_aload_n (pc := 81) X 0 0 dX4_reads_81 rfl rfl ?_
    refine at_iload_n (pc := 82) X 1 1 dX4_reads_82 rfl rfl ?_
    refine at_iload_n (pc := 83) X 2 2 dX4_reads_83 rfl rfl ?_
    refine at_iload (pc := 84) X 5 5 dX4_reads_84 rfl ?_
    refine at_iadd (pc := 86) X dX4_reads_86 ?_
    obtain ⟨q87, hq87, h⟩ := mm_bind h
    refine at_calli (n := 2) (pc := 87) X 4 [.int x1, .int (x2 + x5)] [] (mX4_byteAt (eL E) X.wf ha0 hq87) gX4_reads_X4_byteAt rfl ⟨rfl, rfl⟩ (by decide +kernel) ⟨by decide, by decide⟩ (by decide) rfl ha0 rfl rfl (Nat.le_of_ble_eq_true rfl) dX4_reads_87 ?_
    refine at_iload (pc := 90) X 5 5 dX4_reads_90 rfl ?_
    refine at_iconst (pc := 92) X (2 : Int32) dX4_reads_92 ic_2 ?_
    have hj93 : mm_At E G 6 (mm_Qi E G q) q87.2 103 [(0, .ref a0), (1, .int x1), (2, .int x2), (3, .int x3), (4, .int x4), (5, .int x5)] [.int (if x5 = (2 : Int32) then (49 : Int32) else (48 : Int32)), .int q87.1] := by
      exact at_sub [0, 1, 2, 3, 4, 5] rfl (wX4_reads_b103 X ha0 h hk)
    refine at_icmp_ne (pc := 93) X 101 dX4_reads_93 (by decide) (fun c93 => ?_) (fun c93 => ?_)
    · try simp only [if_neg c93] at hj93
      refine at_bipush (pc := 101) X (48 : Int32) dX4_reads_101 ib_48 ?_
      exact at_sub [0, 1, 2, 3, 4, 5] rfl hj93
    · try simp only [if_pos c93] at hj93
      refine at_bipush (pc := 96) X (49 : Int32) dX4_reads_96 ib_49 ?_
      refine at_goto (pc := 98) X 103 dX4_reads_98 (by decide) ?_
      exact at_sub [0, 1, 2, 3, 4, 5] rfl hj93
set_option maxHeartbeats 4000000 in
set_option maxRecDepth 100000 in
theorem wX4_reads_b28 {E : mm_E} {G : mm_G} (X : mm_Cx E G cX4_reads 6 RX4 wsX4_reads rmX4_reads (some .int)) {a0 : Nat} {x1 : Int32} {x2 : Int32} {σ : mm_M} {q : (Int32 × mm_M)} (ha0 : mm_Is G 4 a0) {o : (Int32 × mm_M) ⊕ ((Int32 × mm_M) ⊕ ((Int32 × mm_M) ⊕ (Int32 × Int32 × Int32 × Int32 × mm_M)))} (h : fX4_reads_b28 G a0 x1 x2 σ = some o) (hk : mm_Ok q (PX4_reads E G a0 x1 q) o) : mm_At E G 6 (mm_Qi E G q) σ 28 [(0, .ref a0), (1, .int x1), (2, .int x2)] [] := by
  unfold fX4_reads_b28 at h
  refine at_iload_n (pc := 28) X 2 2 dX4_reads_28 rfl rfl ?_
  refine at_aload_n (pc := 29) X 0 0 dX4_reads_29 rfl rfl ?_
  refine at_get (pc := 30) X 4 3 (.ref (mm_R G a0 3)) ha0 (by decide) rfl inX4_reads_X4 (by decide) lkX4_reads_0 rfl dX4_reads_30 ?_
  refine at_iload_n (pc := 33) X 1 1 dX4_reads_33 rfl rfl ?_
  obtain ⟨hc34, h⟩ := mm_chk h
  refine at_iald (pc := 34) X (wf_4_3 X.wf ha0) hc34 dX4_reads_34 ?_
  refine at_icmp_ge (pc := 35) X 215 dX4_reads_35 (by decide) (fun c35 => ?_) (fun c35 => ?_)
  · have h := mm_neg c35 h
    refine at_aload_n (pc := 215) X 0 0 dX4_reads_215 rfl rfl ?_
    refine at_get (pc := 216) X 4 6 (.ref (mm_R G a0 6)) ha0 (by decide) rfl inX4_reads_X4 (by decide) lkX4_reads_1 rfl dX4_reads_216 ?_
    refine at_bipush (pc := 219) X (32 : Int32) dX4_reads_219 ib_32 ?_
    obtain ⟨hc221, h⟩ := mm_chk h
    refine at_iald (pc := 221) X (wf_4_6 X.wf ha0) hc221 dX4_reads_221 ?_
    refine at_iconst (pc := 222) X (2 : Int32) dX4_reads_222 ic_2 ?_
    have hj223 : mm_At E G 6 (mm_Qi E G q) σ 232 [] [.int (if (σ.1 (mm_R G a0 6) (32 : Int32).toNatClampNeg) < (2 : Int32) then x2 else (-9 : Int32))] := by
      exact at_iret (pc := 232) X (mm_inl h hk) dX4_reads_232
    refine at_icmp_ge (pc := 223) X 230 dX4_reads_223 (by decide) (fun c223 => ?_) (fun c223 => ?_)
    · try simp only [if_neg c223] at hj223
      refine at_bipush (pc := 230) X (-9 : Int32) dX4_reads_230 ib_m9 ?_
      exact at_sub [] rfl hj223
    · try simp only [if_pos c223] at hj223
      refine at_iload_n (pc := 226) X 2 2 dX4_reads_226 rfl rfl ?_
      refine at_goto (pc := 227) X 232 dX4_reads_227 (by decide) ?_
      exact at_sub [] rfl hj223
  · have h := mm_pos c35 h
    refine at_aload_n (pc := 38) X 0 0 dX4_reads_38 rfl rfl ?_
    refine at_get (pc := 39) X 4 6 (.ref (mm_R G a0 6)) ha0 (by decide) rfl inX4_reads_X4 (by decide) lkX4_reads_1 rfl dX4_reads_39 ?_
    refine at_bipush (pc := 42) X (32 : Int32) dX4_reads_42 ib_32 ?_
    obtain ⟨hc44, h⟩ := mm_chk h
    refine at_iald (pc := 44) X (wf_4_6 X.wf ha0) hc44 dX4_reads_44 ?_
    refine at_istore_n (pc := 45) X 3 [(3, .int (σ.1 (mm_R G a0 6) (32 : Int32).toNatClampNeg)), (0, .ref a0), (1, .int x1), (2, .int x2)] dX4_reads_45 rfl (by decide) rfl ?_
    refine at_aload_n (pc := 46) X 0 1 dX4_reads_46 rfl rfl ?_
    refine at_iload_n (pc := 47) X 1 2 dX4_reads_47 rfl rfl ?_
    refine at_iload_n (pc := 48) X 2 3 dX4_reads_48 rfl rfl ?_
    obtain ⟨q49, hq49, h⟩ := mm_bind h
    refine at_calli (n := 2) (pc := 49) X 4 [.int x1, .int x2] [] (mX4_byteAt (eL E) X.wf ha0 hq49) gX4_reads_X4_byteAt rfl ⟨rfl, rfl⟩ (by decide +kernel) ⟨by decide, by decide⟩ (by decide) rfl ha0 rfl rfl (Nat.le_of_ble_eq_true rfl) dX4_reads_49 ?_
    obtain ⟨q52, hq52, h⟩ := mm_bind h
    refine at_scalli (n := 1) (pc := 52) X [.int q49.1] [] (mX4_kindBy (eL E) X.wf hq52) gX4_reads_X4_kindBy rfl ⟨rfl, rfl⟩ (by decide +kernel) ⟨by decide, by decide⟩ rfl rfl (Nat.le_of_ble_eq_true rfl) dX4_reads_52 ?_
    refine at_istore (pc := 55) X 4 [(4, .int q52.1), (3, .int (σ.1 (mm_R G a0 6) (32 : Int32).toNatClampNeg)), (0, .ref a0), (1, .int x1), (2, .int x2)] dX4_reads_55 (by decide) rfl ?_
    refine at_iload (pc := 57) X 4 0 dX4_reads_57 rfl ?_
    refine at_bipush (pc := 59) X (-9 : Int32) dX4_reads_59 ib_m9 ?_
    refine at_icmp_eq (pc := 61) X 70 dX4_reads_61 (by decide) (fun c61 => ?_) (fun c61 => ?_)
    · have h := mm_pos c61 h
      refine at_iload_n (pc := 70) X 2 4 dX4_reads_70 rfl rfl ?_
      exact at_iret (pc := 71) X (mm_inl h hk) dX4_reads_71
    · have h := mm_neg c61 h
      refine at_iload_n (pc := 64) X 3 1 dX4_reads_64 rfl rfl ?_
      refine at_bipush (pc := 65) X (7 : Int32) dX4_reads_65 ib_7 ?_
      refine at_icmp_ne (pc := 67) X 72 dX4_reads_67 (by decide) (fun c67 => ?_) (fun c67 => ?_)
      · have h := mm_neg c67 h
        refine at_iconst (pc := 72) X (1 : Int32) dX4_reads_72 ic_1 ?_
        refine at_istore (pc := 73) X 5 [(5, .int (1 : Int32)), (4, .int q52.1), (3, .int (σ.1 (mm_R G a0 6) (32 : Int32).toNatClampNeg)), (0, .ref a0), (1, .int x1), (2, .int x2)] dX4_reads_73 (by decide) rfl ?_
        have h2 := mm_inr h hk; exact at_sub [3, 4, 5, 2, 1, 0] rfl h2
      · have h := mm_pos c67 h
        refine at_iload_n (pc := 70) X 2 4 dX4_reads_70 rfl rfl ?_
        exact at_iret (pc := 71) X (mm_inl h hk) dX4_reads_71
set_option maxHeartbeats 4000000 in
set_option maxRecDepth 100000 in
theorem wX4_reads_b2 {E : mm_E} {G : mm_G} (X : mm_Cx E G cX4_reads 6 RX4 wsX4_reads rmX4_reads (some .int)) {a0 : Nat} {x1 : Int32} {x2 : Int32} {σ : mm_M} {q : (Int32 × mm_M)} (ha0 : mm_Is G 4 a0) {o : (Int32 × mm_M) ⊕ ((Int32 × mm_M) ⊕ ((Int32 × mm_M) ⊕ (Int32 × Int32 × Int32 × Int32 × mm_M)))} (h : fX4_reads_b2 G a0 x1 x2 σ = some o) (hk : mm_Ok q (PX4_reads E G a0 x1 q) o) : mm_At E G 6 (mm_Qi E G q) σ 2 [(0, .ref a0), (1, .int x1), (2, .int x2)] [] := by
  unfold fX4_reads_b2 at h
  refine at_iload_n (pc := 2) X 2 2 dX4_reads_2 rfl rfl ?_
  refine at_bipush (pc := 3) X (48 : Int32) dX4_reads_3 ib_48 ?_
  refine at_icmp_ge (pc := 5) X 21 dX4_reads_5 (by decide) (fun c5 => ?_) (fun c5 => ?_)
  · have h := mm_neg c5 h
    refine at_aload_n (pc := 21) X 0 0 dX4_reads_21 rfl rfl ?_
    refine at_iload_n (pc := 22) X 1 1 dX4_reads_22 rfl rfl ?_
    refine at_iconst (pc := 23) X (0 : Int32) dX4_reads_23 ic_0 ?_
    obtain ⟨q24, hq24, h⟩ := mm_bind h
    refine at_calli (n := 2) (pc := 24) X 4 [.int x1, .int (0 : Int32)] [] (mX4_skips (eL E) X.wf ha0 hq24) gX4_reads_X4_skips rfl ⟨rfl, rfl⟩ (by decide +kernel) ⟨by decide, by decide⟩ (by decide) rfl ha0 rfl rfl (Nat.le_of_ble_eq_true rfl) dX4_reads_24 ?_
    refine at_istore_n (pc := 27) X 2 [(2, .int q24.1), (0, .ref a0), (1, .int x1)] dX4_reads_27 rfl (by decide) rfl ?_
    have h2 := mm_inr h hk; exact at_sub [1, 2, 0] rfl h2
  · have h := mm_pos c5 h
    refine at_aload_n (pc := 8) X 0 0 dX4_reads_8 rfl rfl ?_
    refine at_get (pc := 9) X 4 6 (.ref (mm_R G a0 6)) ha0 (by decide) rfl inX4_reads_X4 (by decide) lkX4_reads_1 rfl dX4_reads_9 ?_
    refine at_iload_n (pc := 12) X 2 2 dX4_reads_12 rfl rfl ?_
    refine at_iconst (pc := 13) X (0 : Int32) dX4_reads_13 ic_0 ?_
    obtain ⟨hc14, h⟩ := mm_chk h
    refine at_iast (pc := 14) X (wf_4_6 X.wf ha0) hc14 dX4_reads_14 ?_
    refine at_iinc (pc := 15) X 2 2 (x2 + 1) [(2, .int (x2 + 1)), (0, .ref a0), (1, .int x1)] dX4_reads_15 rfl (ii_1 _) (by decide) rfl ?_
    refine at_goto (pc := 18) X 2 dX4_reads_18 (by decide) ?_
    have h2 := mm_inr h hk; exact at_sub [1, 2, 0] rfl h2
set_option maxHeartbeats 4000000 in
set_option maxRecDepth 100000 in
theorem wX4_reads_b0 {E : mm_E} {G : mm_G} (X : mm_Cx E G cX4_reads 6 RX4 wsX4_reads rmX4_reads (some .int)) {a0 : Nat} {x1 : Int32} {σ : mm_M} {q : (Int32 × mm_M)} (ha0 : mm_Is G 4 a0) {o : (Int32 × mm_M) ⊕ ((Int32 × mm_M) ⊕ ((Int32 × mm_M) ⊕ (Int32 × Int32 × Int32 × Int32 × mm_M)))} (h : fX4_reads_b0 G a0 x1 σ = some o) (hk : mm_Ok q (PX4_reads E G a0 x1 q) o) : mm_At E G 6 (mm_Qi E G q) σ 0 [(0, .ref a0), (1, .int x1)] [] := by
  unfold fX4_reads_b0 at h
  refine at_iconst (pc := 0) X (0 : Int32) dX4_reads_0 ic_0 ?_
  refine at_istore_n (pc := 1) X 2 [(2, .int (0 : Int32)), (0, .ref a0), (1, .int x1)] dX4_reads_1 rfl (by decide) rfl ?_
  have h2 := mm_inr h hk; exact at_sub [1, 2, 0] rfl h2
set_option maxHeartbeats 4000000 in
set_option maxRecDepth 100000 in
theorem mX4_reads (l : Launch) {G : mm_G} (hwf : mm_WF G) {a0 : Nat} {x1 : Int32} {σ : mm_M} {q : (Int32 × mm_M)} (ha0 : mm_Is G 4 a0) (h : fX4_reads G a0 x1 σ = some q) : mm_Mi l yX4_reads wsX4_reads rmX4_reads G [.ref a0, .int x1] σ q := by
  refine mm_ofi (cc := cX4_reads) (nL := 6) (ret := some .int) (own := RX4) (lv0 := [(0, .ref a0), (1, .int x1)]) (by decide) rfl rfl (Nat.le_of_ble_eq_true rfl) rfl hwf (fun E hE X => ?_)
  obtain ⟨o, h0, hk⟩ := mm_run_ok (P := PX4_reads E G a0 x1 q) h (fun s o hs hk => by cases s with | inl s => exact wX4_reads_b2 X ha0 hs hk | inr s => (cases s with | inl s => exact wX4_reads_b28 X ha0 hs hk | inr s => (exact wX4_reads_b75 X ha0 hs hk)))
  exact wX4_reads_b0 X ha0 h0 hk
set_option maxRecDepth 20000 in
theorem ggX4_fault_X4_isText : GoodIn wsX4_fault wsX4_isText := goodIn_r _ [5, 6, 7, 4, 8] (by decide +kernel) (by decide +kernel)
set_option maxRecDepth 20000 in
theorem gX4_fault_X4_isText : GoodIn wsX4_fault (va_wsS RX4 95 yX4_isText wsX4_isText) := goodIn_app (goodIn_of _ (by decide +kernel)) ggX4_fault_X4_isText
set_option maxRecDepth 20000 in
theorem ggX4_fault_X4_finds : GoodIn wsX4_fault wsX4_finds := goodIn_r _ [12, 13, 14, 32, 33, 34, 35, 36, 37, 38, 39, 40, 41, 42, 43, 44, 45, 46, 47, 48, 49, 50, 51, 52, 53] (by decide +kernel) (by decide +kernel)
set_option maxRecDepth 20000 in
theorem gX4_fault_X4_finds : GoodIn wsX4_fault (wsV RX4 81 RX4 yX4_finds wsX4_finds) := goodIn_app (goodIn_of _ (by decide +kernel)) ggX4_fault_X4_finds
set_option maxRecDepth 20000 in
theorem ggX4_fault_X4_reads : GoodIn wsX4_fault wsX4_reads := goodIn_r _ [18, 19, 1, 20, 21, 22, 4, 23, 24, 25, 26, 27, 28, 29, 30, 31, 6, 7, 8, 32, 33, 34, 35, 36, 37, 38, 39, 40, 41, 42, 43, 44, 45, 46, 47, 48, 49, 50, 51, 52, 53] (by decide +kernel) (by decide +kernel)
set_option maxRecDepth 20000 in
theorem gX4_fault_X4_reads : GoodIn wsX4_fault (wsV RX4 108 RX4 yX4_reads wsX4_reads) := goodIn_app (goodIn_of _ (by decide +kernel)) ggX4_fault_X4_reads
theorem dX4_fault_0 : decode cX4_fault 0 = .ok (.iload_n 1, 1) := by decide +kernel
theorem dX4_fault_1 : decode cX4_fault 1 = .ok (.invokestatic 95, 3) := by decide +kernel
theorem dX4_fault_4 : decode cX4_fault 4 = .ok (.ifCond .ne 5, 3) := by decide +kernel
theorem dX4_fault_7 : decode cX4_fault 7 = .ok (.iconst (-1), 1) := by decide +kernel
theorem dX4_fault_8 : decode cX4_fault 8 = .ok (.ireturn, 1) := by decide +kernel
theorem dX4_fault_9 : decode cX4_fault 9 = .ok (.aload_n 0, 1) := by decide +kernel
theorem dX4_fault_10 : decode cX4_fault 10 = .ok (.getfield 19, 3) := by decide +kernel
theorem dX4_fault_13 : decode cX4_fault 13 = .ok (.iload_n 1, 1) := by decide +kernel
theorem dX4_fault_14 : decode cX4_fault 14 = .ok (.iaload, 1) := by decide +kernel
theorem dX4_fault_15 : decode cX4_fault 15 = .ok (.ifCond .ge 11, 3) := by decide +kernel
theorem dX4_fault_18 : decode cX4_fault 18 = .ok (.aload_n 0, 1) := by decide +kernel
theorem dX4_fault_19 : decode cX4_fault 19 = .ok (.iconst 1, 1) := by decide +kernel
theorem dX4_fault_20 : decode cX4_fault 20 = .ok (.invokevirtual 81, 3) := by decide +kernel
theorem dX4_fault_23 : decode cX4_fault 23 = .ok (.goto 8, 3) := by decide +kernel
theorem dX4_fault_26 : decode cX4_fault 26 = .ok (.aload_n 0, 1) := by decide +kernel
theorem dX4_fault_27 : decode cX4_fault 27 = .ok (.iload_n 1, 1) := by decide +kernel
theorem dX4_fault_28 : decode cX4_fault 28 = .ok (.invokevirtual 108, 3) := by decide +kernel
theorem dX4_fault_31 : decode cX4_fault 31 = .ok (.ireturn, 1) := by decide +kernel
/-! X4_fault (I)I -/
abbrev rmX4_fault : Room := { frames := 3, cells := 0, slots := 0, locals := 70 }
theorem lkX4_fault_0 : Cond.fieldLink RX4 19 (TX4 3).1 (TX4 3).2.1 (TX4 3).2.2.1 ∈ wsX4_fault := by decide +kernel
theorem inX4_fault_X4 : ∀ w ∈ u_ws RX4 TX4 22, w ∈ wsX4_fault := by decide +kernel
noncomputable def fX4_fault (G : mm_G) (a0 : Nat) (x1 : Int32) (σ : mm_M) : Option (Int32 × mm_M) := (fX4_isText G x1 σ).bind (fun q1 => if q1.1 = 0 then (some ((-1 : Int32), q1.2)) else (if x1 < 0 ∨ mm_N G (mm_R G a0 3) ≤ x1.toNatClampNeg then none else (if (q1.2.1 (mm_R G a0 3) x1.toNatClampNeg) < 0 then ((fX4_finds G a0 (1 : Int32) q1.2).bind (fun q20 => some (q20.1, q20.2))) else ((fX4_reads G a0 x1 q1.2).bind (fun q28 => some (q28.1, q28.2))))))
set_option maxHeartbeats 4000000 in
set_option maxRecDepth 100000 in
theorem wX4_fault_b0 {E : mm_E} {G : mm_G} (X : mm_Cx E G cX4_fault 2 RX4 wsX4_fault rmX4_fault (some .int)) {a0 : Nat} {x1 : Int32} {σ : mm_M} {q : (Int32 × mm_M)} (ha0 : mm_Is G 4 a0) (h : fX4_fault G a0 x1 σ = some q) : mm_At E G 2 (mm_Qi E G q) σ 0 [(0, .ref a0), (1, .int x1)] [] := by
  unfold fX4_fault at h
  refine at_iload_n (pc := 0) X 1 1 dX4_fault_0 rfl rfl ?_
  obtain ⟨q1, hq1, h⟩ := mm_bind h
  refine at_scalli (n := 1) (pc := 1) X [.int x1] [] (mX4_isText (eL E) X.wf hq1) gX4_fault_X4_isText rfl ⟨rfl, rfl⟩ (by decide +kernel) ⟨by decide, by decide⟩ rfl rfl (Nat.le_of_ble_eq_true rfl) dX4_fault_1 ?_
  refine at_if_ne (pc := 4) X 9 dX4_fault_4 (by decide) (fun c4 => ?_) (fun c4 => ?_)
  · have h := mm_neg c4 h
    refine at_aload_n (pc := 9) X 0 0 dX4_fault_9 rfl rfl ?_
    refine at_get (pc := 10) X 4 3 (.ref (mm_R G a0 3)) ha0 (by decide) rfl inX4_fault_X4 (by decide) lkX4_fault_0 rfl dX4_fault_10 ?_
    refine at_iload_n (pc := 13) X 1 1 dX4_fault_13 rfl rfl ?_
    obtain ⟨hc14, h⟩ := mm_chk h
    refine at_iald (pc := 14) X (wf_4_3 X.wf ha0) hc14 dX4_fault_14 ?_
    refine at_if_ge (pc := 15) X 26 dX4_fault_15 (by decide) (fun c15 => ?_) (fun c15 => ?_)
    · have h := mm_neg c15 h
      refine at_aload_n (pc := 26) X 0 0 dX4_fault_26 rfl rfl ?_
      refine at_iload_n (pc := 27) X 1 1 dX4_fault_27 rfl rfl ?_
      obtain ⟨q28, hq28, h⟩ := mm_bind h
      refine at_calli (n := 1) (pc := 28) X 4 [.int x1] [] (mX4_reads (eL E) X.wf ha0 hq28) gX4_fault_X4_reads rfl ⟨rfl, rfl⟩ (by decide +kernel) ⟨by decide, by decide⟩ (by decide) rfl ha0 rfl rfl (Nat.le_of_ble_eq_true rfl) dX4_fault_28 ?_
      exact at_iret (pc := 31) X (Option.some.inj h) dX4_fault_31
    · have h := mm_pos c15 h
      refine at_aload_n (pc := 18) X 0 0 dX4_fault_18 rfl rfl ?_
      refine at_iconst (pc := 19) X (1 : Int32) dX4_fault_19 ic_1 ?_
      obtain ⟨q20, hq20, h⟩ := mm_bind h
      refine at_calli (n := 1) (pc := 20) X 4 [.int (1 : Int32)] [] (mX4_finds (eL E) X.wf ha0 hq20) gX4_fault_X4_finds rfl ⟨rfl, rfl⟩ (by decide +kernel) ⟨by decide, by decide⟩ (by decide) rfl ha0 rfl rfl (Nat.le_of_ble_eq_true rfl) dX4_fault_20 ?_
      refine at_goto (pc := 23) X 31 dX4_fault_23 (by decide) ?_
      exact at_iret (pc := 31) X (Option.some.inj h) dX4_fault_31
  · have h := mm_pos c4 h
    refine at_iconst (pc := 7) X (-1 : Int32) dX4_fault_7 ic_m1 ?_
    exact at_iret (pc := 8) X (Option.some.inj h) dX4_fault_8
set_option maxHeartbeats 4000000 in
set_option maxRecDepth 100000 in
theorem mX4_fault (l : Launch) {G : mm_G} (hwf : mm_WF G) {a0 : Nat} {x1 : Int32} {σ : mm_M} {q : (Int32 × mm_M)} (ha0 : mm_Is G 4 a0) (h : fX4_fault G a0 x1 σ = some q) : mm_Mi l yX4_fault wsX4_fault rmX4_fault G [.ref a0, .int x1] σ q := by
  refine mm_ofi (cc := cX4_fault) (nL := 2) (ret := some .int) (own := RX4) (lv0 := [(0, .ref a0), (1, .int x1)]) (by decide) rfl rfl (Nat.le_of_ble_eq_true rfl) rfl hwf (fun E hE X => ?_)
  exact wX4_fault_b0 X ha0 h
set_option maxRecDepth 20000 in
theorem ggX4_air_X4_isText : GoodIn wsX4_air wsX4_isText := goodIn_r _ [9, 10, 11, 8, 12] (by decide +kernel) (by decide +kernel)
set_option maxRecDepth 20000 in
theorem gX4_air_X4_isText : GoodIn wsX4_air (va_wsS RX4 95 yX4_isText wsX4_isText) := goodIn_app (goodIn_of _ (by decide +kernel)) ggX4_air_X4_isText
set_option maxRecDepth 20000 in
theorem ggX4_air_X4_finds : GoodIn wsX4_air wsX4_finds := goodIn_r _ [16, 17, 18, 35, 36, 37, 38, 39, 40, 41, 42, 43, 44, 45, 46, 47, 48, 49, 50, 51, 52, 53, 54, 55, 56] (by decide +kernel) (by decide +kernel)
set_option maxRecDepth 20000 in
theorem gX4_air_X4_finds : GoodIn wsX4_air (wsV RX4 81 RX4 yX4_finds wsX4_finds) := goodIn_app (goodIn_of _ (by decide +kernel)) ggX4_air_X4_finds
set_option maxRecDepth 20000 in
theorem ggX4_air_X4_reads : GoodIn wsX4_air wsX4_reads := goodIn_r _ [22, 3, 1, 23, 24, 25, 8, 26, 27, 28, 29, 30, 31, 32, 33, 34, 10, 11, 12, 35, 36, 37, 38, 39, 40, 41, 42, 43, 44, 45, 46, 47, 48, 49, 50, 51, 52, 53, 54, 55, 56] (by decide +kernel) (by decide +kernel)
set_option maxRecDepth 20000 in
theorem gX4_air_X4_reads : GoodIn wsX4_air (wsV RX4 108 RX4 yX4_reads wsX4_reads) := goodIn_app (goodIn_of _ (by decide +kernel)) ggX4_air_X4_reads
theorem dX4_air_0 : decode cX4_air 0 = .ok (.iload_n 1, 1) := by decide +kernel
theorem dX4_air_1 : decode cX4_air 1 = .ok (.invokestatic 95, 3) := by decide +kernel
theorem dX4_air_4 : decode cX4_air 4 = .ok (.ifCond .ne 5, 3) := by decide +kernel
theorem dX4_air_7 : decode cX4_air 7 = .ok (.iconst (-1), 1) := by decide +kernel
theorem dX4_air_8 : decode cX4_air 8 = .ok (.ireturn, 1) := by decide +kernel
theorem dX4_air_9 : decode cX4_air 9 = .ok (.aload_n 0, 1) := by decide +kernel
theorem dX4_air_10 : decode cX4_air 10 = .ok (.getfield 19, 3) := by decide +kernel
theorem dX4_air_13 : decode cX4_air 13 = .ok (.iload_n 1, 1) := by decide +kernel
theorem dX4_air_14 : decode cX4_air 14 = .ok (.iaload, 1) := by decide +kernel
theorem dX4_air_15 : decode cX4_air 15 = .ok (.ifCond .ge 9, 3) := by decide +kernel
theorem dX4_air_18 : decode cX4_air 18 = .ok (.aload_n 0, 1) := by decide +kernel
theorem dX4_air_19 : decode cX4_air 19 = .ok (.iconst 1, 1) := by decide +kernel
theorem dX4_air_20 : decode cX4_air 20 = .ok (.invokevirtual 81, 3) := by decide +kernel
theorem dX4_air_23 : decode cX4_air 23 = .ok (.ireturn, 1) := by decide +kernel
theorem dX4_air_24 : decode cX4_air 24 = .ok (.aload_n 0, 1) := by decide +kernel
theorem dX4_air_25 : decode cX4_air 25 = .ok (.iload_n 1, 1) := by decide +kernel
theorem dX4_air_26 : decode cX4_air 26 = .ok (.invokevirtual 108, 3) := by decide +kernel
theorem dX4_air_29 : decode cX4_air 29 = .ok (.bipush (-9), 2) := by decide +kernel
theorem dX4_air_31 : decode cX4_air 31 = .ok (.if_icmp .eq 6, 3) := by decide +kernel
theorem dX4_air_34 : decode cX4_air 34 = .ok (.bipush (-4), 2) := by decide +kernel
theorem dX4_air_36 : decode cX4_air 36 = .ok (.ireturn, 1) := by decide +kernel
theorem dX4_air_37 : decode cX4_air 37 = .ok (.iconst 0, 1) := by decide +kernel
theorem dX4_air_38 : decode cX4_air 38 = .ok (.istore_n 2, 1) := by decide +kernel
theorem dX4_air_39 : decode cX4_air 39 = .ok (.iload_n 2, 1) := by decide +kernel
theorem dX4_air_40 : decode cX4_air 40 = .ok (.bipush 48, 2) := by decide +kernel
theorem dX4_air_42 : decode cX4_air 42 = .ok (.if_icmp .ge 21, 3) := by decide +kernel
theorem dX4_air_45 : decode cX4_air 45 = .ok (.aload_n 0, 1) := by decide +kernel
theorem dX4_air_46 : decode cX4_air 46 = .ok (.getfield 26, 3) := by decide +kernel
theorem dX4_air_49 : decode cX4_air 49 = .ok (.iload_n 2, 1) := by decide +kernel
theorem dX4_air_50 : decode cX4_air 50 = .ok (.aload_n 0, 1) := by decide +kernel
theorem dX4_air_51 : decode cX4_air 51 = .ok (.getfield 29, 3) := by decide +kernel
theorem dX4_air_54 : decode cX4_air 54 = .ok (.iload_n 2, 1) := by decide +kernel
theorem dX4_air_55 : decode cX4_air 55 = .ok (.iaload, 1) := by decide +kernel
theorem dX4_air_56 : decode cX4_air 56 = .ok (.iastore, 1) := by decide +kernel
theorem dX4_air_57 : decode cX4_air 57 = .ok (.iinc 2 1, 3) := by decide +kernel
theorem dX4_air_60 : decode cX4_air 60 = .ok (.goto (-21), 3) := by decide +kernel
theorem dX4_air_63 : decode cX4_air 63 = .ok (.aload_n 0, 1) := by decide +kernel
theorem dX4_air_64 : decode cX4_air 64 = .ok (.iconst 0, 1) := by decide +kernel
theorem dX4_air_65 : decode cX4_air 65 = .ok (.putfield 111, 3) := by decide +kernel
theorem dX4_air_68 : decode cX4_air 68 = .ok (.iconst 0, 1) := by decide +kernel
theorem dX4_air_69 : decode cX4_air 69 = .ok (.istore_n 2, 1) := by decide +kernel
theorem dX4_air_70 : decode cX4_air 70 = .ok (.iload_n 2, 1) := by decide +kernel
theorem dX4_air_71 : decode cX4_air 71 = .ok (.aload_n 0, 1) := by decide +kernel
theorem dX4_air_72 : decode cX4_air 72 = .ok (.getfield 47, 3) := by decide +kernel
theorem dX4_air_75 : decode cX4_air 75 = .ok (.arraylength, 1) := by decide +kernel
theorem dX4_air_76 : decode cX4_air 76 = .ok (.if_icmp .ge 16, 3) := by decide +kernel
theorem dX4_air_79 : decode cX4_air 79 = .ok (.aload_n 0, 1) := by decide +kernel
theorem dX4_air_80 : decode cX4_air 80 = .ok (.getfield 47, 3) := by decide +kernel
theorem dX4_air_83 : decode cX4_air 83 = .ok (.iload_n 2, 1) := by decide +kernel
theorem dX4_air_84 : decode cX4_air 84 = .ok (.iconst (-1), 1) := by decide +kernel
theorem dX4_air_85 : decode cX4_air 85 = .ok (.iastore, 1) := by decide +kernel
theorem dX4_air_86 : decode cX4_air 86 = .ok (.iinc 2 1, 3) := by decide +kernel
theorem dX4_air_89 : decode cX4_air 89 = .ok (.goto (-19), 3) := by decide +kernel
theorem dX4_air_92 : decode cX4_air 92 = .ok (.aload_n 0, 1) := by decide +kernel
theorem dX4_air_93 : decode cX4_air 93 = .ok (.getfield 26, 3) := by decide +kernel
theorem dX4_air_96 : decode cX4_air 96 = .ok (.bipush 32, 2) := by decide +kernel
theorem dX4_air_98 : decode cX4_air 98 = .ok (.iaload, 1) := by decide +kernel
theorem dX4_air_99 : decode cX4_air 99 = .ok (.ireturn, 1) := by decide +kernel
/-! X4_air (I)I -/
abbrev rmX4_air : Room := { frames := 3, cells := 0, slots := 0, locals := 70 }
theorem lkX4_air_0 : Cond.fieldLink RX4 19 (TX4 3).1 (TX4 3).2.1 (TX4 3).2.2.1 ∈ wsX4_air := by decide +kernel
theorem lkX4_air_1 : Cond.fieldLink RX4 111 (TX4 10).1 (TX4 10).2.1 (TX4 10).2.2.1 ∈ wsX4_air := by decide +kernel
theorem lkX4_air_2 : Cond.fieldLink RX4 47 (TX4 13).1 (TX4 13).2.1 (TX4 13).2.2.1 ∈ wsX4_air := by decide +kernel
theorem lkX4_air_3 : Cond.fieldLink RX4 26 (TX4 5).1 (TX4 5).2.1 (TX4 5).2.2.1 ∈ wsX4_air := by decide +kernel
theorem lkX4_air_4 : Cond.fieldLink RX4 29 (TX4 6).1 (TX4 6).2.1 (TX4 6).2.2.1 ∈ wsX4_air := by decide +kernel
theorem inX4_air_X4 : ∀ w ∈ u_ws RX4 TX4 22, w ∈ wsX4_air := by decide +kernel
noncomputable def fX4_air_b70 (G : mm_G) (a0 : Nat) (x1 : Int32) (x2 : Int32) (σ : mm_M) : Option ((Int32 × mm_M) ⊕ ((Int32 × mm_M) ⊕ (Int32 × mm_M))) := if x2 < (Int32.ofNat (mm_N G (mm_R G a0 13))) then (if x2 < 0 ∨ mm_N G (mm_R G a0 13) ≤ x2.toNatClampNeg then none else (some (.inr (.inr (x2 + 1, mm_up σ (mm_R G a0 13) x2.toNatClampNeg (-1 : Int32)))))) else (if (32 : Int32) < 0 ∨ mm_N G (mm_R G a0 5) ≤ (32 : Int32).toNatClampNeg then none else (some (.inl (σ.1 (mm_R G a0 5) (32 : Int32).toNatClampNeg, σ))))
noncomputable def fX4_air_b39 (G : mm_G) (a0 : Nat) (x1 : Int32) (x2 : Int32) (σ : mm_M) : Option ((Int32 × mm_M) ⊕ ((Int32 × mm_M) ⊕ (Int32 × mm_M))) := if x2 < (48 : Int32) then (if x2 < 0 ∨ mm_N G (mm_R G a0 6) ≤ x2.toNatClampNeg then none else (if x2 < 0 ∨ mm_N G (mm_R G a0 5) ≤ x2.toNatClampNeg then none else (some (.inr (.inl (x2 + 1, mm_up σ (mm_R G a0 5) x2.toNatClampNeg (σ.1 (mm_R G a0 6) x2.toNatClampNeg))))))) else (some (.inr (.inr ((0 : Int32), mm_up σ a0 10 (0 : Int32)))))
noncomputable def fX4_air_b0 (G : mm_G) (a0 : Nat) (x1 : Int32) (σ : mm_M) : Option ((Int32 × mm_M) ⊕ ((Int32 × mm_M) ⊕ (Int32 × mm_M))) := (fX4_isText G x1 σ).bind (fun q1 => if q1.1 = 0 then (some (.inl ((-1 : Int32), q1.2))) else (if x1 < 0 ∨ mm_N G (mm_R G a0 3) ≤ x1.toNatClampNeg then none else (if (q1.2.1 (mm_R G a0 3) x1.toNatClampNeg) < 0 then ((fX4_finds G a0 (1 : Int32) q1.2).bind (fun q20 => some (.inl (q20.1, q20.2)))) else ((fX4_reads G a0 x1 q1.2).bind (fun q26 => if q26.1 = (-9 : Int32) then (some (.inr (.inl ((0 : Int32), q26.2)))) else (some (.inl ((-4 : Int32), q26.2))))))))
noncomputable def fX4_air_s (G : mm_G) (a0 : Nat) (x1 : Int32) : ((Int32 × mm_M) ⊕ (Int32 × mm_M)) → Option ((Int32 × mm_M) ⊕ ((Int32 × mm_M) ⊕ (Int32 × mm_M))) := (Sum.elim (fun s => fX4_air_b39 G a0 x1 s.1 s.2) (fun s => fX4_air_b70 G a0 x1 s.1 s.2))
def PX4_air (E : mm_E) (G : mm_G) (a0 : Nat) (x1 : Int32) (q : (Int32 × mm_M)) : ((Int32 × mm_M) ⊕ (Int32 × mm_M)) → Prop := (Sum.elim (fun s => mm_At E G 3 (mm_Qi E G q) s.2 39 [(0, .ref a0), (2, .int s.1)] []) (fun s => mm_At E G 3 (mm_Qi E G q) s.2 70 [(0, .ref a0), (2, .int s.1)] []))
noncomputable def fX4_air (G : mm_G) (a0 : Nat) (x1 : Int32) (σ : mm_M) : Option (Int32 × mm_M) := mm_run (fX4_air_b0 G a0 x1 σ) (fX4_air_s G a0 x1)
set_option maxHeartbeats 4000000 in
set_option maxRecDepth 100000 in
theorem wX4_air_b70 {E : mm_E} {G : mm_G} (X : mm_Cx E G cX4_air 3 RX4 wsX4_air rmX4_air (some .int)) {a0 : Nat} {x1 : Int32} {x2 : Int32} {σ : mm_M} {q : (Int32 × mm_M)} (ha0 : mm_Is G 4 a0) {o : (Int32 × mm_M) ⊕ ((Int32 × mm_M) ⊕ (Int32 × mm_M))} (h : fX4_air_b70 G a0 x1 x2 σ = some o) (hk : mm_Ok q (PX4_air E G a0 x1 q) o) : mm_At E G 3 (mm_Qi E G q) σ 70 [(0, .ref a0), (2, .int x2)] [] := by
  unfold fX4_air_b70 at h
  refine at_iload_n (pc := 70) X 2 1 dX4_air_70 rfl rfl ?_
  refine at_aload_n (pc := 71) X 0 0 dX4_air_71 rfl rfl ?_
  refine at_get (pc := 72) X 4 13 (.ref (mm_R G a0 13)) ha0 (by decide) rfl inX4_air_X4 (by decide) lkX4_air_2 rfl dX4_air_72 ?_
  refine at_alen (pc := 75) X (wf_4_13 X.wf ha0) dX4_air_75 ?_
  refine at_icmp_ge (pc := 76) X 92 dX4_air_76 (by decide) (fun c76 => ?_) (fun c76 => ?_)
  · have h := mm_neg c76 h
    refine at_aload_n (pc := 92) X 0 0 dX4_air_92 rfl rfl ?_
    refine at_get (pc := 93) X 4 5 (.ref (mm_R G a0 5)) ha0 (by decide) rfl inX4_air_X4 (by decide) lkX4_air_3 rfl dX4_air_93 ?_
    refine at_bipush (pc := 96) X (32 : Int32) dX4_air_96 ib_32 ?_
    obtain ⟨hc98, h⟩ := mm_chk h
    refine at_iald (pc := 98) X (wf_4_5 X.wf ha0) hc98 dX4_air_98 ?_
    exact at_iret (pc := 99) X (mm_inl h hk) dX4_air_99
  · have h := mm_pos c76 h
    refine at_aload_n (pc := 79) X 0 0 dX4_air_79 rfl rfl ?_
    refine at_get (pc := 80) X 4 13 (.ref (mm_R G a0 13)) ha0 (by decide) rfl inX4_air_X4 (by decide) lkX4_air_2 rfl dX4_air_80 ?_
    refine at_iload_n (pc := 83) X 2 1 dX4_air_83 rfl rfl ?_
    refine at_iconst (pc := 84) X (-1 : Int32) dX4_air_84 ic_m1 ?_
    obtain ⟨hc85, h⟩ := mm_chk h
    refine at_iast (pc := 85) X (wf_4_13 X.wf ha0) hc85 dX4_air_85 ?_
    refine at_iinc (pc := 86) X 2 1 (x2 + 1) [(2, .int (x2 + 1)), (0, .ref a0)] dX4_air_86 rfl (ii_1 _) (by decide) rfl ?_
    refine at_goto (pc := 89) X 70 dX4_air_89 (by decide) ?_
    have h2 := mm_inr h hk; exact at_sub [1, 0] rfl h2
set_option maxHeartbeats 4000000 in
set_option maxRecDepth 100000 in
theorem wX4_air_b39 {E : mm_E} {G : mm_G} (X : mm_Cx E G cX4_air 3 RX4 wsX4_air rmX4_air (some .int)) {a0 : Nat} {x1 : Int32} {x2 : Int32} {σ : mm_M} {q : (Int32 × mm_M)} (ha0 : mm_Is G 4 a0) {o : (Int32 × mm_M) ⊕ ((Int32 × mm_M) ⊕ (Int32 × mm_M))} (h : fX4_air_b39 G a0 x1 x2 σ = some o) (hk : mm_Ok q (PX4_air E G a0 x1 q) o) : mm_At E G 3 (mm_Qi E G q) σ 39 [(0, .ref a0), (2, .int x2)] [] := by
  unfold fX4_air_b39 at h
  refine at_iload_n (pc := 39) X 2 1 dX4_air_39 rfl rfl ?_
  refine at_bipush (pc := 40) X (48 : Int32) dX4_air_40 ib_48 ?_
  refine at_icmp_ge (pc := 42) X 63 dX4_air_42 (by decide) (fun c42 => ?_) (fun c42 => ?_)
  · have h := mm_neg c42 h
    refine at_aload_n (pc := 63) X 0 0 dX4_air_63 rfl rfl ?_
    refine at_iconst (pc := 64) X (0 : Int32) dX4_air_64 ic_0 ?_
    refine at_put (pc := 65) X 4 10 ha0 (by decide) rfl inX4_air_X4 tyX4 tyX4_ok nmX4 (by decide) lkX4_air_1 rfl (ty := .int) rfl rfl rfl (Nat.le_of_ble_eq_true rfl) (ms_4_10 G _ _ _) mm_up_ne dX4_air_65 ?_
    refine at_iconst (pc := 68) X (0 : Int32) dX4_air_68 ic_0 ?_
    refine at_istore_n (pc := 69) X 2 [(2, .int (0 : Int32)), (0, .ref a0)] dX4_air_69 rfl (by decide) rfl ?_
    have h2 := mm_inr h hk; exact at_sub [1, 0] rfl h2
  · have h := mm_pos c42 h
    refine at_aload_n (pc := 45) X 0 0 dX4_air_45 rfl rfl ?_
    refine at_get (pc := 46) X 4 5 (.ref (mm_R G a0 5)) ha0 (by decide) rfl inX4_air_X4 (by decide) lkX4_air_3 rfl dX4_air_46 ?_
    refine at_iload_n (pc := 49) X 2 1 dX4_air_49 rfl rfl ?_
    refine at_aload_n (pc := 50) X 0 0 dX4_air_50 rfl rfl ?_
    refine at_get (pc := 51) X 4 6 (.ref (mm_R G a0 6)) ha0 (by decide) rfl inX4_air_X4 (by decide) lkX4_air_4 rfl dX4_air_51 ?_
    refine at_iload_n (pc := 54) X 2 1 dX4_air_54 rfl rfl ?_
    obtain ⟨hc55, h⟩ := mm_chk h
    refine at_iald (pc := 55) X (wf_4_6 X.wf ha0) hc55 dX4_air_55 ?_
    obtain ⟨hc56, h⟩ := mm_chk h
    refine at_iast (pc := 56) X (wf_4_5 X.wf ha0) hc56 dX4_air_56 ?_
    refine at_iinc (pc := 57) X 2 1 (x2 + 1) [(2, .int (x2 + 1)), (0, .ref a0)] dX4_air_57 rfl (ii_1 _) (by decide) rfl ?_
    refine at_goto (pc := 60) X 39 dX4_air_60 (by decide) ?_
    have h2 := mm_inr h hk; exact at_sub [1, 0] rfl h2
set_option maxHeartbeats 4000000 in
set_option maxRecDepth 100000 in
theorem wX4_air_b0 {E : mm_E} {G : mm_G} (X : mm_Cx E G cX4_air 3 RX4 wsX4_air rmX4_air (some .int)) {a0 : Nat} {x1 : Int32} {σ : mm_M} {q : (Int32 × mm_M)} (ha0 : mm_Is G 4 a0) {o : (Int32 × mm_M) ⊕ ((Int32 × mm_M) ⊕ (Int32 × mm_M))} (h : fX4_air_b0 G a0 x1 σ = some o) (hk : mm_Ok q (PX4_air E G a0 x1 q) o) : mm_At E G 3 (mm_Qi E G q) σ 0 [(0, .ref a0), (1, .int x1)] [] := by
  unfold fX4_air_b0 at h
  refine at_iload_n (pc := 0) X 1 1 dX4_air_0 rfl rfl ?_
  obtain ⟨q1, hq1, h⟩ := mm_bind h
  refine at_scalli (n := 1) (pc := 1) X [.int x1] [] (mX4_isText (eL E) X.wf hq1) gX4_air_X4_isText rfl ⟨rfl, rfl⟩ (by decide +kernel) ⟨by decide, by decide⟩ rfl rfl (Nat.le_of_ble_eq_true rfl) dX4_air_1 ?_
  refine at_if_ne (pc := 4) X 9 dX4_air_4 (by decide) (fun c4 => ?_) (fun c4 => ?_)
  · have h := mm_neg c4 h
    refine at_aload_n (pc := 9) X 0 0 dX4_air_9 rfl rfl ?_
    refine at_get (pc := 10) X 4 3 (.ref (mm_R G a0 3)) ha0 (by decide) rfl inX4_air_X4 (by decide) lkX4_air_0 rfl dX4_air_10 ?_
    refine at_iload_n (pc := 13) X 1 1 dX4_air_13 rfl rfl ?_
    obtain ⟨hc14, h⟩ := mm_chk h
    refine at_iald (pc := 14) X (wf_4_3 X.wf ha0) hc14 dX4_air_14 ?_
    refine at_if_ge (pc := 15) X 24 dX4_air_15 (by decide) (fun c15 => ?_) (fun c15 => ?_)
    · have h := mm_neg c15 h
      refine at_aload_n (pc := 24) X 0 0 dX4_air_24 rfl rfl ?_
      refine at_iload_n (pc := 25) X 1 1 dX4_air_25 rfl rfl ?_
      obtain ⟨q26, hq26, h⟩ := mm_bind h
      refine at_calli (n := 1) (pc := 26) X 4 [.int x1] [] (mX4_reads (eL E) X.wf ha0 hq26) gX4_air_X4_reads rfl ⟨rfl, rfl⟩ (by decide +kernel) ⟨by decide, by decide⟩ (by decide) rfl ha0 rfl rfl (Nat.le_of_ble_eq_true rfl) dX4_air_26 ?_
      refine at_bipush (pc := 29) X (-9 : Int32) dX4_air_29 ib_m9 ?_
      refine at_icmp_eq (pc := 31) X 37 dX4_air_31 (by decide) (fun c31 => ?_) (fun c31 => ?_)
      · have h := mm_pos c31 h
        refine at_iconst (pc := 37) X (0 : Int32) dX4_air_37 ic_0 ?_
        refine at_istore_n (pc := 38) X 2 [(2, .int (0 : Int32)), (0, .ref a0), (1, .int x1)] dX4_air_38 rfl (by decide) rfl ?_
        have h2 := mm_inr h hk; exact at_sub [1, 0] rfl h2
      · have h := mm_neg c31 h
        refine at_bipush (pc := 34) X (-4 : Int32) dX4_air_34 ib_m4 ?_
        exact at_iret (pc := 36) X (mm_inl h hk) dX4_air_36
    · have h := mm_pos c15 h
      refine at_aload_n (pc := 18) X 0 0 dX4_air_18 rfl rfl ?_
      refine at_iconst (pc := 19) X (1 : Int32) dX4_air_19 ic_1 ?_
      obtain ⟨q20, hq20, h⟩ := mm_bind h
      refine at_calli (n := 1) (pc := 20) X 4 [.int (1 : Int32)] [] (mX4_finds (eL E) X.wf ha0 hq20) gX4_air_X4_finds rfl ⟨rfl, rfl⟩ (by decide +kernel) ⟨by decide, by decide⟩ (by decide) rfl ha0 rfl rfl (Nat.le_of_ble_eq_true rfl) dX4_air_20 ?_
      exact at_iret (pc := 23) X (mm_inl h hk) dX4_air_23
  · have h := mm_pos c4 h
    refine at_iconst (pc := 7) X (-1 : Int32) dX4_air_7 ic_m1 ?_
    exact at_iret (pc := 8) X (mm_inl h hk) dX4_air_8
set_option maxHeartbeats 4000000 in
set_option maxRecDepth 100000 in
theorem mX4_air (l : Launch) {G : mm_G} (hwf : mm_WF G) {a0 : Nat} {x1 : Int32} {σ : mm_M} {q : (Int32 × mm_M)} (ha0 : mm_Is G 4 a0) (h : fX4_air G a0 x1 σ = some q) : mm_Mi l yX4_air wsX4_air rmX4_air G [.ref a0, .int x1] σ q := by
  refine mm_ofi (cc := cX4_air) (nL := 3) (ret := some .int) (own := RX4) (lv0 := [(0, .ref a0), (1, .int x1)]) (by decide) rfl rfl (Nat.le_of_ble_eq_true rfl) rfl hwf (fun E hE X => ?_)
  obtain ⟨o, h0, hk⟩ := mm_run_ok (P := PX4_air E G a0 x1 q) h (fun s o hs hk => by cases s with | inl s => exact wX4_air_b39 X ha0 hs hk | inr s => (exact wX4_air_b70 X ha0 hs hk))
  exact wX4_air_b0 X ha0 h0 hk
set_option maxRecDepth 20000 in
theorem ggX4_isStation_X4_in : GoodIn wsX4_isStation wsX4_in := goodIn_r _ [5] (by decide +kernel) (by decide +kernel)
set_option maxRecDepth 20000 in
theorem gX4_isStation_X4_in : GoodIn wsX4_isStation (va_wsS RX4 73 yX4_in wsX4_in) := goodIn_app (goodIn_of _ (by decide +kernel)) ggX4_isStation_X4_in
theorem dX4_isStation_0 : decode cX4_isStation 0 = .ok (.iload_n 1, 1) := by decide +kernel
theorem dX4_isStation_1 : decode cX4_isStation 1 = .ok (.iconst 0, 1) := by decide +kernel
theorem dX4_isStation_2 : decode cX4_isStation 2 = .ok (.aload_n 0, 1) := by decide +kernel
theorem dX4_isStation_3 : decode cX4_isStation 3 = .ok (.getfield 26, 3) := by decide +kernel
theorem dX4_isStation_6 : decode cX4_isStation 6 = .ok (.bipush 32, 2) := by decide +kernel
theorem dX4_isStation_8 : decode cX4_isStation 8 = .ok (.iaload, 1) := by decide +kernel
theorem dX4_isStation_9 : decode cX4_isStation 9 = .ok (.iconst 1, 1) := by decide +kernel
theorem dX4_isStation_10 : decode cX4_isStation 10 = .ok (.isub, 1) := by decide +kernel
theorem dX4_isStation_11 : decode cX4_isStation 11 = .ok (.invokestatic 73, 3) := by decide +kernel
theorem dX4_isStation_14 : decode cX4_isStation 14 = .ok (.ireturn, 1) := by decide +kernel
/-! X4_isStation (I)Z -/
abbrev rmX4_isStation : Room := { frames := 1, cells := 0, slots := 0, locals := 22 }
theorem lkX4_isStation_0 : Cond.fieldLink RX4 26 (TX4 5).1 (TX4 5).2.1 (TX4 5).2.2.1 ∈ wsX4_isStation := by decide +kernel
theorem inX4_isStation_X4 : ∀ w ∈ u_ws RX4 TX4 22, w ∈ wsX4_isStation := by decide +kernel
noncomputable def fX4_isStation (G : mm_G) (a0 : Nat) (x1 : Int32) (σ : mm_M) : Option (Int32 × mm_M) := if (32 : Int32) < 0 ∨ mm_N G (mm_R G a0 5) ≤ (32 : Int32).toNatClampNeg then none else ((fX4_in G x1 (0 : Int32) ((σ.1 (mm_R G a0 5) (32 : Int32).toNatClampNeg) - (1 : Int32)) σ).bind (fun q11 => if ¬ (q11.1 = 0 ∨ q11.1 = 1) then none else (some (q11.1, q11.2))))
set_option maxHeartbeats 4000000 in
set_option maxRecDepth 100000 in
theorem wX4_isStation_b0 {E : mm_E} {G : mm_G} (X : mm_Cx E G cX4_isStation 2 RX4 wsX4_isStation rmX4_isStation (some .boolean)) {a0 : Nat} {x1 : Int32} {σ : mm_M} {q : (Int32 × mm_M)} (ha0 : mm_Is G 4 a0) (h : fX4_isStation G a0 x1 σ = some q) : mm_At E G 2 (mm_Qi E G q) σ 0 [(0, .ref a0), (1, .int x1)] [] := by
  unfold fX4_isStation at h
  refine at_iload_n (pc := 0) X 1 1 dX4_isStation_0 rfl rfl ?_
  refine at_iconst (pc := 1) X (0 : Int32) dX4_isStation_1 ic_0 ?_
  refine at_aload_n (pc := 2) X 0 0 dX4_isStation_2 rfl rfl ?_
  refine at_get (pc := 3) X 4 5 (.ref (mm_R G a0 5)) ha0 (by decide) rfl inX4_isStation_X4 (by decide) lkX4_isStation_0 rfl dX4_isStation_3 ?_
  refine at_bipush (pc := 6) X (32 : Int32) dX4_isStation_6 ib_32 ?_
  obtain ⟨hc8, h⟩ := mm_chk h
  refine at_iald (pc := 8) X (wf_4_5 X.wf ha0) hc8 dX4_isStation_8 ?_
  refine at_iconst (pc := 9) X (1 : Int32) dX4_isStation_9 ic_1 ?_
  refine at_isub (pc := 10) X dX4_isStation_10 ?_
  obtain ⟨q11, hq11, h⟩ := mm_bind h
  refine at_scalli (n := 3) (pc := 11) X [.int x1, .int (0 : Int32), .int ((σ.1 (mm_R G a0 5) (32 : Int32).toNatClampNeg) - (1 : Int32))] [] (mX4_in (eL E) X.wf hq11) gX4_isStation_X4_in rfl ⟨rfl, rfl⟩ (by decide +kernel) ⟨by decide, by decide⟩ rfl rfl (Nat.le_of_ble_eq_true rfl) dX4_isStation_11 ?_
  obtain ⟨hg14, h⟩ := mm_chk h
  exact at_zret (pc := 14) X (Classical.not_not.mp hg14) (Option.some.inj h) dX4_isStation_14
set_option maxHeartbeats 4000000 in
set_option maxRecDepth 100000 in
theorem mX4_isStation (l : Launch) {G : mm_G} (hwf : mm_WF G) {a0 : Nat} {x1 : Int32} {σ : mm_M} {q : (Int32 × mm_M)} (ha0 : mm_Is G 4 a0) (h : fX4_isStation G a0 x1 σ = some q) : mm_Mi l yX4_isStation wsX4_isStation rmX4_isStation G [.ref a0, .int x1] σ q := by
  refine mm_ofi (cc := cX4_isStation) (nL := 2) (ret := some .boolean) (own := RX4) (lv0 := [(0, .ref a0), (1, .int x1)]) (by decide) rfl rfl (Nat.le_of_ble_eq_true rfl) rfl hwf (fun E hE X => ?_)
  exact wX4_isStation_b0 X ha0 h
theorem dX4_has_0 : decode cX4_has 0 = .ok (.iload_n 0, 1) := by decide +kernel
theorem dX4_has_1 : decode cX4_has 1 = .ok (.iload_n 1, 1) := by decide +kernel
theorem dX4_has_2 : decode cX4_has 2 = .ok (.ishr, 1) := by decide +kernel
theorem dX4_has_3 : decode cX4_has 3 = .ok (.iconst 1, 1) := by decide +kernel
theorem dX4_has_4 : decode cX4_has 4 = .ok (.iand, 1) := by decide +kernel
theorem dX4_has_5 : decode cX4_has 5 = .ok (.iconst 1, 1) := by decide +kernel
theorem dX4_has_6 : decode cX4_has 6 = .ok (.if_icmp .ne 7, 3) := by decide +kernel
theorem dX4_has_9 : decode cX4_has 9 = .ok (.iconst 1, 1) := by decide +kernel
theorem dX4_has_10 : decode cX4_has 10 = .ok (.goto 4, 3) := by decide +kernel
theorem dX4_has_13 : decode cX4_has 13 = .ok (.iconst 0, 1) := by decide +kernel
theorem dX4_has_14 : decode cX4_has 14 = .ok (.ireturn, 1) := by decide +kernel
/-! X4_has (II)Z -/
abbrev rmX4_has : Room := { frames := 0, cells := 0, slots := 0, locals := 0 }
noncomputable def fX4_has (G : mm_G) (x0 : Int32) (x1 : Int32) (σ : mm_M) : Option (Int32 × mm_M) := some (if ((x0 >>> (x1 &&& 31)) &&& (1 : Int32)) = (1 : Int32) then (1 : Int32) else (0 : Int32), σ)
set_option maxHeartbeats 4000000 in
set_option maxRecDepth 100000 in
theorem wX4_has_b0 {E : mm_E} {G : mm_G} (X : mm_Cx E G cX4_has 2 RX4 wsX4_has rmX4_has (some .boolean)) {x0 : Int32} {x1 : Int32} {σ : mm_M} {q : (Int32 × mm_M)} (h : fX4_has G x0 x1 σ = some q) : mm_At E G 2 (mm_Qi E G q) σ 0 [(0, .int x0), (1, .int x1)] [] := by
  unfold fX4_has at h
  refine at_iload_n (pc := 0) X 0 0 dX4_has_0 rfl rfl ?_
  refine at_iload_n (pc := 1) X 1 1 dX4_has_1 rfl rfl ?_
  refine at_ishr (pc := 2) X dX4_has_2 ?_
  refine at_iconst (pc := 3) X (1 : Int32) dX4_has_3 ic_1 ?_
  refine at_iand (pc := 4) X dX4_has_4 ?_
  refine at_iconst (pc := 5) X (1 : Int32) dX4_has_5 ic_1 ?_
  have hj6 : mm_At E G 2 (mm_Qi E G q) σ 14 [] [.int (if ((x0 >>> (x1 &&& 31)) &&& (1 : Int32)) = (1 : Int32) then (1 : Int32) else (0 : Int32))] := by
    exact at_zret (pc := 14) X mm_01 (Option.some.inj h) dX4_has_14
  refine at_icmp_ne (pc := 6) X 13 dX4_has_6 (by decide) (fun c6 => ?_) (fun c6 => ?_)
  · try simp only [if_neg c6] at hj6
    refine at_iconst (pc := 13) X (0 : Int32) dX4_has_13 ic_0 ?_
    exact at_sub [] rfl hj6
  · try simp only [if_pos c6] at hj6
    refine at_iconst (pc := 9) X (1 : Int32) dX4_has_9 ic_1 ?_
    refine at_goto (pc := 10) X 14 dX4_has_10 (by decide) ?_
    exact at_sub [] rfl hj6
set_option maxHeartbeats 4000000 in
set_option maxRecDepth 100000 in
theorem mX4_has (l : Launch) {G : mm_G} (hwf : mm_WF G) {x0 : Int32} {x1 : Int32} {σ : mm_M} {q : (Int32 × mm_M)} (h : fX4_has G x0 x1 σ = some q) : mm_Mi l yX4_has wsX4_has rmX4_has G [.int x0, .int x1] σ q := by
  refine mm_ofi (cc := cX4_has) (nL := 2) (ret := some .boolean) (own := RX4) (lv0 := [(0, .int x0), (1, .int x1)]) (by decide) rfl rfl (Nat.le_of_ble_eq_true rfl) rfl hwf (fun E hE X => ?_)
  exact wX4_has_b0 X  h
theorem dX4_is_0 : decode cX4_is 0 = .ok (.iload_n 1, 1) := by decide +kernel
theorem dX4_is_1 : decode cX4_is 1 = .ok (.ifCond .eq 28, 3) := by decide +kernel
theorem dX4_is_4 : decode cX4_is 4 = .ok (.iload_n 0, 1) := by decide +kernel
theorem dX4_is_5 : decode cX4_is 5 = .ok (.iload_n 1, 1) := by decide +kernel
theorem dX4_is_6 : decode cX4_is 6 = .ok (.if_icmp .eq 23, 3) := by decide +kernel
theorem dX4_is_9 : decode cX4_is 9 = .ok (.iload_n 0, 1) := by decide +kernel
theorem dX4_is_10 : decode cX4_is 10 = .ok (.iconst 4, 1) := by decide +kernel
theorem dX4_is_11 : decode cX4_is 11 = .ok (.if_icmp .ne 8, 3) := by decide +kernel
theorem dX4_is_14 : decode cX4_is 14 = .ok (.iload_n 1, 1) := by decide +kernel
theorem dX4_is_15 : decode cX4_is 15 = .ok (.iconst 1, 1) := by decide +kernel
theorem dX4_is_16 : decode cX4_is 16 = .ok (.if_icmp .eq 13, 3) := by decide +kernel
theorem dX4_is_19 : decode cX4_is 19 = .ok (.iload_n 0, 1) := by decide +kernel
theorem dX4_is_20 : decode cX4_is 20 = .ok (.iconst 5, 1) := by decide +kernel
theorem dX4_is_21 : decode cX4_is 21 = .ok (.if_icmp .ne 12, 3) := by decide +kernel
theorem dX4_is_24 : decode cX4_is 24 = .ok (.iload_n 1, 1) := by decide +kernel
theorem dX4_is_25 : decode cX4_is 25 = .ok (.iconst 2, 1) := by decide +kernel
theorem dX4_is_26 : decode cX4_is 26 = .ok (.if_icmp .ne 7, 3) := by decide +kernel
theorem dX4_is_29 : decode cX4_is 29 = .ok (.iconst 1, 1) := by decide +kernel
theorem dX4_is_30 : decode cX4_is 30 = .ok (.goto 4, 3) := by decide +kernel
theorem dX4_is_33 : decode cX4_is 33 = .ok (.iconst 0, 1) := by decide +kernel
theorem dX4_is_34 : decode cX4_is 34 = .ok (.ireturn, 1) := by decide +kernel
/-! X4_is (II)Z -/
abbrev rmX4_is : Room := { frames := 0, cells := 0, slots := 0, locals := 0 }
noncomputable def fX4_is (G : mm_G) (x0 : Int32) (x1 : Int32) (σ : mm_M) : Option (Int32 × mm_M) := if x1 = 0 then (some ((1 : Int32), σ)) else (if ¬ ((if x0 = x1 then (1 : Int32) else if x0 = (4 : Int32) then if x1 = (1 : Int32) then (1 : Int32) else if x0 = (5 : Int32) then if x1 = (2 : Int32) then (1 : Int32) else (0 : Int32) else (0 : Int32) else if x0 = (5 : Int32) then if x1 = (2 : Int32) then (1 : Int32) else (0 : Int32) else (0 : Int32)) = 0 ∨ (if x0 = x1 then (1 : Int32) else if x0 = (4 : Int32) then if x1 = (1 : Int32) then (1 : Int32) else if x0 = (5 : Int32) then if x1 = (2 : Int32) then (1 : Int32) else (0 : Int32) else (0 : Int32) else if x0 = (5 : Int32) then if x1 = (2 : Int32) then (1 : Int32) else (0 : Int32) else (0 : Int32)) = 1) then none else (some (if x0 = x1 then (1 : Int32) else if x0 = (4 : Int32) then if x1 = (1 : Int32) then (1 : Int32) else if x0 = (5 : Int32) then if x1 = (2 : Int32) then (1 : Int32) else (0 : Int32) else (0 : Int32) else if x0 = (5 : Int32) then if x1 = (2 : Int32) then (1 : Int32) else (0 : Int32) else (0 : Int32), σ)))
set_option maxHeartbeats 4000000 in
set_option maxRecDepth 100000 in
theorem wX4_is_b0 {E : mm_E} {G : mm_G} (X : mm_Cx E G cX4_is 2 RX4 wsX4_is rmX4_is (some .boolean)) {x0 : Int32} {x1 : Int32} {σ : mm_M} {q : (Int32 × mm_M)} (h : fX4_is G x0 x1 σ = some q) : mm_At E G 2 (mm_Qi E G q) σ 0 [(0, .int x0), (1, .int x1)] [] := by
  unfold fX4_is at h
  refine at_iload_n (pc := 0) X 1 1 dX4_is_0 rfl rfl ?_
  refine at_if_eq (pc := 1) X 29 dX4_is_1 (by decide) (fun c1 => ?_) (fun c1 => ?_)
  · have h := mm_pos c1 h
    refine at_iconst (pc := 29) X (1 : Int32) dX4_is_29 ic_1 ?_
    refine at_goto (pc := 30) X 34 dX4_is_30 (by decide) ?_
    exact at_zret (pc := 34) X (Or.inr rfl) (Option.some.inj h) dX4_is_34
  · have h := mm_neg c1 h
    refine at_iload_n (pc := 4) X 0 0 dX4_is_4 rfl rfl ?_
    refine at_iload_n (pc := 5) X 1 1 dX4_is_5 rfl rfl ?_
    have hj6 : mm_At E G 2 (mm_Qi E G q) σ 34 [] [.int (if x0 = x1 then (1 : Int32) else if x0 = (4 : Int32) then if x1 = (1 : Int32) then (1 : Int32) else if x0 = (5 : Int32) then if x1 = (2 : Int32) then (1 : Int32) else (0 : Int32) else (0 : Int32) else if x0 = (5 : Int32) then if x1 = (2 : Int32) then (1 : Int32) else (0 : Int32) else (0 : Int32))] := by
      obtain ⟨hg34, h⟩ := mm_chk h
      exact at_zret (pc := 34) X (Classical.not_not.mp hg34) (Option.some.inj h) dX4_is_34
    refine at_icmp_eq (pc := 6) X 29 dX4_is_6 (by decide) (fun c6 => ?_) (fun c6 => ?_)
    · try simp only [if_pos c6] at hj6
      refine at_iconst (pc := 29) X (1 : Int32) dX4_is_29 ic_1 ?_
      refine at_goto (pc := 30) X 34 dX4_is_30 (by decide) ?_
      exact at_sub [] rfl hj6
    · try simp only [if_neg c6] at hj6
      refine at_iload_n (pc := 9) X 0 0 dX4_is_9 rfl rfl ?_
      refine at_iconst (pc := 10) X (4 : Int32) dX4_is_10 ic_4 ?_
      refine at_icmp_ne (pc := 11) X 19 dX4_is_11 (by decide) (fun c11 => ?_) (fun c11 => ?_)
      · try simp only [if_neg c11] at hj6
        refine at_iload_n (pc := 19) X 0 0 dX4_is_19 rfl rfl ?_
        refine at_iconst (pc := 20) X (5 : Int32) dX4_is_20 ic_5 ?_
        refine at_icmp_ne (pc := 21) X 33 dX4_is_21 (by decide) (fun c21 => ?_) (fun c21 => ?_)
        · try simp only [if_neg c21] at hj6
          refine at_iconst (pc := 33) X (0 : Int32) dX4_is_33 ic_0 ?_
          exact at_sub [] rfl hj6
        · try simp only [if_pos c21] at hj6
          refine at_iload_n (pc := 24) X 1 1 dX4_is_24 rfl rfl ?_
          refine at_iconst (pc := 25) X (2 : Int32) dX4_is_25 ic_2 ?_
          refine at_icmp_ne (pc := 26) X 33 dX4_is_26 (by decide) (fun c26 => ?_) (fun c26 => ?_)
          · try simp only [if_neg c26] at hj6
            refine at_iconst (pc := 33) X (0 : Int32) dX4_is_33 ic_0 ?_
            exact at_sub [] rfl hj6
          · try simp only [if_pos c26] at hj6
            refine at_iconst (pc := 29) X (1 : Int32) dX4_is_29 ic_1 ?_
            refine at_goto (pc := 30) X 34 dX4_is_30 (by decide) ?_
            exact at_sub [] rfl hj6
      · try simp only [if_pos c11] at hj6
        refine at_iload_n (pc := 14) X 1 1 dX4_is_14 rfl rfl ?_
        refine at_iconst (pc := 15) X (1 : Int32) dX4_is_15 ic_1 ?_
        refine at_icmp_eq (pc := 16) X 29 dX4_is_16 (by decide) (fun c16 => ?_) (fun c16 => ?_)
        · try simp only [if_pos c16] at hj6
          refine at_iconst (pc := 29) X (1 : Int32) dX4_is_29 ic_1 ?_
          refine at_goto (pc := 30) X 34 dX4_is_30 (by decide) ?_
          exact at_sub [] rfl hj6
        · try simp only [if_neg c16] at hj6
          refine at_iload_n (pc := 19) X 0 0 dX4_is_19 rfl rfl ?_
          refine at_iconst (pc := 20) X (5 : Int32) dX4_is_20 ic_5 ?_
          refine at_icmp_ne (pc := 21) X 33 dX4_is_21 (by decide) (fun c21 => ?_) (fun c21 => ?_)
          · try simp only [if_neg c21] at hj6
            refine at_iconst (pc := 33) X (0 : Int32) dX4_is_33 ic_0 ?_
            exact at_sub [] rfl hj6
          · try simp only [if_pos c21] at hj6
            refine at_iload_n (pc := 24) X 1 1 dX4_is_24 rfl rfl ?_
            refine at_iconst (pc := 25) X (2 : Int32) dX4_is_25 ic_2 ?_
            refine at_icmp_ne (pc := 26) X 33 dX4_is_26 (by decide) (fun c26 => ?_) (fun c26 => ?_)
            · try simp only [if_neg c26] at hj6
              refine at_iconst (pc := 33) X (0 : Int32) dX4_is_33 ic_0 ?_
              exact at_sub [] rfl hj6
            · try simp only [if_pos c26] at hj6
              refine at_iconst (pc := 29) X (1 : Int32) dX4_is_29 ic_1 ?_
              refine at_goto (pc := 30) X 34 dX4_is_30 (by decide) ?_
              exact at_sub [] rfl hj6
set_option maxHeartbeats 4000000 in
set_option maxRecDepth 100000 in
theorem mX4_is (l : Launch) {G : mm_G} (hwf : mm_WF G) {x0 : Int32} {x1 : Int32} {σ : mm_M} {q : (Int32 × mm_M)} (h : fX4_is G x0 x1 σ = some q) : mm_Mi l yX4_is wsX4_is rmX4_is G [.int x0, .int x1] σ q := by
  refine mm_ofi (cc := cX4_is) (nL := 2) (ret := some .boolean) (own := RX4) (lv0 := [(0, .int x0), (1, .int x1)]) (by decide) rfl rfl (Nat.le_of_ble_eq_true rfl) rfl hwf (fun E hE X => ?_)
  exact wX4_is_b0 X  h
theorem dX4_capped_0 : decode cX4_capped 0 = .ok (.iload_n 0, 1) := by decide +kernel
theorem dX4_capped_1 : decode cX4_capped 1 = .ok (.bipush 64, 2) := by decide +kernel
theorem dX4_capped_3 : decode cX4_capped 3 = .ok (.if_icmp .le 8, 3) := by decide +kernel
theorem dX4_capped_6 : decode cX4_capped 6 = .ok (.bipush 64, 2) := by decide +kernel
theorem dX4_capped_8 : decode cX4_capped 8 = .ok (.goto 4, 3) := by decide +kernel
theorem dX4_capped_11 : decode cX4_capped 11 = .ok (.iload_n 0, 1) := by decide +kernel
theorem dX4_capped_12 : decode cX4_capped 12 = .ok (.ireturn, 1) := by decide +kernel
/-! X4_capped (I)I -/
abbrev rmX4_capped : Room := { frames := 0, cells := 0, slots := 0, locals := 0 }
noncomputable def fX4_capped (G : mm_G) (x0 : Int32) (σ : mm_M) : Option (Int32 × mm_M) := some (if (64 : Int32) < x0 then (64 : Int32) else x0, σ)
set_option maxHeartbeats 4000000 in
set_option maxRecDepth 100000 in
theorem wX4_capped_b0 {E : mm_E} {G : mm_G} (X : mm_Cx E G cX4_capped 1 RX4 wsX4_capped rmX4_capped (some .int)) {x0 : Int32} {σ : mm_M} {q : (Int32 × mm_M)} (h : fX4_capped G x0 σ = some q) : mm_At E G 1 (mm_Qi E G q) σ 0 [(0, .int x0)] [] := by
  unfold fX4_capped at h
  refine at_iload_n (pc := 0) X 0 0 dX4_capped_0 rfl rfl ?_
  refine at_bipush (pc := 1) X (64 : Int32) dX4_capped_1 ib_64 ?_
  have hj3 : mm_At E G 1 (mm_Qi E G q) σ 12 [] [.int (if (64 : Int32) < x0 then (64 : Int32) else x0)] := by
    exact at_iret (pc := 12) X (Option.some.inj h) dX4_capped_12
  refine at_icmp_le (pc := 3) X 11 dX4_capped_3 (by decide) (fun c3 => ?_) (fun c3 => ?_)
  · try simp only [if_neg c3] at hj3
    refine at_iload_n (pc := 11) X 0 0 dX4_capped_11 rfl rfl ?_
    exact at_sub [] rfl hj3
  · try simp only [if_pos c3] at hj3
    refine at_bipush (pc := 6) X (64 : Int32) dX4_capped_6 ib_64 ?_
    refine at_goto (pc := 8) X 12 dX4_capped_8 (by decide) ?_
    exact at_sub [] rfl hj3
set_option maxHeartbeats 4000000 in
set_option maxRecDepth 100000 in
theorem mX4_capped (l : Launch) {G : mm_G} (hwf : mm_WF G) {x0 : Int32} {σ : mm_M} {q : (Int32 × mm_M)} (h : fX4_capped G x0 σ = some q) : mm_Mi l yX4_capped wsX4_capped rmX4_capped G [.int x0] σ q := by
  refine mm_ofi (cc := cX4_capped) (nL := 1) (ret := some .int) (own := RX4) (lv0 := [(0, .int x0)]) (by decide) rfl rfl (Nat.le_of_ble_eq_true rfl) rfl hwf (fun E hE X => ?_)
  exact wX4_capped_b0 X  h
set_option maxRecDepth 20000 in
theorem ggX4_doubled_X4_capped : GoodIn wsX4_doubled wsX4_capped := goodIn_r _ [4] (by decide +kernel) (by decide +kernel)
set_option maxRecDepth 20000 in
theorem gX4_doubled_X4_capped : GoodIn wsX4_doubled (va_wsS RX4 114 yX4_capped wsX4_capped) := goodIn_app (goodIn_of _ (by decide +kernel)) ggX4_doubled_X4_capped
theorem dX4_doubled_0 : decode cX4_doubled 0 = .ok (.iload_n 2, 1) := by decide +kernel
theorem dX4_doubled_1 : decode cX4_doubled 1 = .ok (.bipush 7, 2) := by decide +kernel
theorem dX4_doubled_3 : decode cX4_doubled 3 = .ok (.if_icmp .le 8, 3) := by decide +kernel
theorem dX4_doubled_6 : decode cX4_doubled 6 = .ok (.bipush 64, 2) := by decide +kernel
theorem dX4_doubled_8 : decode cX4_doubled 8 = .ok (.goto 13, 3) := by decide +kernel
theorem dX4_doubled_11 : decode cX4_doubled 11 = .ok (.iload_n 0, 1) := by decide +kernel
theorem dX4_doubled_12 : decode cX4_doubled 12 = .ok (.iload_n 1, 1) := by decide +kernel
theorem dX4_doubled_13 : decode cX4_doubled 13 = .ok (.iload_n 2, 1) := by decide +kernel
theorem dX4_doubled_14 : decode cX4_doubled 14 = .ok (.iconst 1, 1) := by decide +kernel
theorem dX4_doubled_15 : decode cX4_doubled 15 = .ok (.isub, 1) := by decide +kernel
theorem dX4_doubled_16 : decode cX4_doubled 16 = .ok (.ishl, 1) := by decide +kernel
theorem dX4_doubled_17 : decode cX4_doubled 17 = .ok (.iadd, 1) := by decide +kernel
theorem dX4_doubled_18 : decode cX4_doubled 18 = .ok (.invokestatic 114, 3) := by decide +kernel
theorem dX4_doubled_21 : decode cX4_doubled 21 = .ok (.ireturn, 1) := by decide +kernel
/-! X4_doubled (III)I -/
abbrev rmX4_doubled : Room := { frames := 1, cells := 0, slots := 0, locals := 20 }
noncomputable def fX4_doubled (G : mm_G) (x0 : Int32) (x1 : Int32) (x2 : Int32) (σ : mm_M) : Option (Int32 × mm_M) := if (7 : Int32) < x2 then (some ((64 : Int32), σ)) else ((fX4_capped G (x0 + (x1 <<< ((x2 - (1 : Int32)) &&& 31))) σ).bind (fun q18 => some (q18.1, q18.2)))
set_option maxHeartbeats 4000000 in
set_option maxRecDepth 100000 in
theorem wX4_doubled_b0 {E : mm_E} {G : mm_G} (X : mm_Cx E G cX4_doubled 3 RX4 wsX4_doubled rmX4_doubled (some .int)) {x0 : Int32} {x1 : Int32} {x2 : Int32} {σ : mm_M} {q : (Int32 × mm_M)} (h : fX4_doubled G x0 x1 x2 σ = some q) : mm_At E G 3 (mm_Qi E G q) σ 0 [(0, .int x0), (1, .int x1), (2, .int x2)] [] := by
  unfold fX4_doubled at h
  refine at_iload_n (pc := 0) X 2 2 dX4_doubled_0 rfl rfl ?_
  refine at_bipush (pc := 1) X (7 : Int32) dX4_doubled_1 ib_7 ?_
  refine at_icmp_le (pc := 3) X 11 dX4_doubled_3 (by decide) (fun c3 => ?_) (fun c3 => ?_)
  · have h := mm_neg c3 h
    refine at_iload_n (pc := 11) X 0 0 dX4_doubled_11 rfl rfl ?_
    refine at_iload_n (pc := 12) X 1 1 dX4_doubled_12 rfl rfl ?_
    refine at_iload_n (pc := 13) X 2 2 dX4_doubled_13 rfl rfl ?_
    refine at_iconst (pc := 14) X (1 : Int32) dX4_doubled_14 ic_1 ?_
    refine at_isub (pc := 15) X dX4_doubled_15 ?_
    refine at_ishl (pc := 16) X dX4_doubled_16 ?_
    refine at_iadd (pc := 17) X dX4_doubled_17 ?_
    obtain ⟨q18, hq18, h⟩ := mm_bind h
    refine at_scalli (n := 1) (pc := 18) X [.int (x0 + (x1 <<< ((x2 - (1 : Int32)) &&& 31)))] [] (mX4_capped (eL E) X.wf hq18) gX4_doubled_X4_capped rfl ⟨rfl, rfl⟩ (by decide +kernel) ⟨by decide, by decide⟩ rfl rfl (Nat.le_of_ble_eq_true rfl) dX4_doubled_18 ?_
    exact at_iret (pc := 21) X (Option.some.inj h) dX4_doubled_21
  · have h := mm_pos c3 h
    refine at_bipush (pc := 6) X (64 : Int32) dX4_doubled_6 ib_64 ?_
    refine at_goto (pc := 8) X 21 dX4_doubled_8 (by decide) ?_
    exact at_iret (pc := 21) X (Option.some.inj h) dX4_doubled_21
set_option maxHeartbeats 4000000 in
set_option maxRecDepth 100000 in
theorem mX4_doubled (l : Launch) {G : mm_G} (hwf : mm_WF G) {x0 : Int32} {x1 : Int32} {x2 : Int32} {σ : mm_M} {q : (Int32 × mm_M)} (h : fX4_doubled G x0 x1 x2 σ = some q) : mm_Mi l yX4_doubled wsX4_doubled rmX4_doubled G [.int x0, .int x1, .int x2] σ q := by
  refine mm_ofi (cc := cX4_doubled) (nL := 3) (ret := some .int) (own := RX4) (lv0 := [(0, .int x0), (1, .int x1), (2, .int x2)]) (by decide) rfl rfl (Nat.le_of_ble_eq_true rfl) rfl hwf (fun E hE X => ?_)
  exact wX4_doubled_b0 X  h
