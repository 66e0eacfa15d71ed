/-! X4_lots X4_asked X4_upper X4_lower X4_ofKind X4_count X4_finding X4_findings -/
set_option maxRecDepth 20000 in
theorem ggX4_lots_X4_in : GoodIn wsX4_lots wsX4_in := goodIn_r _ [10] (by decide +kernel) (by decide +kernel)
set_option maxRecDepth 20000 in
theorem gX4_lots_X4_in : GoodIn wsX4_lots (va_wsS RX4 73 yX4_in wsX4_in) := goodIn_app (goodIn_of _ (by decide +kernel)) ggX4_lots_X4_in
set_option maxRecDepth 20000 in
theorem ggX4_lots_X4_does : GoodIn wsX4_lots wsX4_does := goodIn_r _ [14, 15, 3, 2, 49, 50, 51, 52, 53, 54, 55, 56, 57, 58, 59, 60, 61, 62, 63, 64, 65, 66, 67, 68, 69, 70] (by decide +kernel) (by decide +kernel)
set_option maxRecDepth 20000 in
theorem gX4_lots_X4_does : GoodIn wsX4_lots (wsV RX4 156 RX4 yX4_does wsX4_does) := goodIn_app (goodIn_of _ (by decide +kernel)) ggX4_lots_X4_does
set_option maxRecDepth 20000 in
theorem ggX4_lots_X4_drops : GoodIn wsX4_lots wsX4_drops := goodIn_r _ [18] (by decide +kernel) (by decide +kernel)
set_option maxRecDepth 20000 in
theorem gX4_lots_X4_drops : GoodIn wsX4_lots (va_wsS RX4 162 yX4_drops wsX4_drops) := goodIn_app (goodIn_of _ (by decide +kernel)) ggX4_lots_X4_drops
set_option maxRecDepth 20000 in
theorem ggX4_lots_X4_goes : GoodIn wsX4_lots wsX4_goes := goodIn_r _ [21, 22, 23, 9, 24, 25, 26, 27, 28, 29, 30, 31, 32, 33, 34, 35, 36, 37, 38, 39, 40, 41, 42, 43, 44, 45, 46, 47, 48] (by decide +kernel) (by decide +kernel)
set_option maxRecDepth 20000 in
theorem gX4_lots_X4_goes : GoodIn wsX4_lots (va_wsS RX4 159 yX4_goes wsX4_goes) := goodIn_app (goodIn_of _ (by decide +kernel)) ggX4_lots_X4_goes
theorem dX4_lots_0 : decode cX4_lots 0 = .ok (.iload_n 1, 1) := by decide +kernel
theorem dX4_lots_1 : decode cX4_lots 1 = .ok (.iconst 1, 1) := by decide +kernel
theorem dX4_lots_2 : decode cX4_lots 2 = .ok (.bipush 20, 2) := by decide +kernel
theorem dX4_lots_4 : decode cX4_lots 4 = .ok (.invokestatic 73, 3) := by decide +kernel
theorem dX4_lots_7 : decode cX4_lots 7 = .ok (.ifCond .eq 13, 3) := by decide +kernel
theorem dX4_lots_10 : decode cX4_lots 10 = .ok (.iload_n 2, 1) := by decide +kernel
theorem dX4_lots_11 : decode cX4_lots 11 = .ok (.iconst 1, 1) := by decide +kernel
theorem dX4_lots_12 : decode cX4_lots 12 = .ok (.ldc 206, 2) := by decide +kernel
theorem dX4_lots_14 : decode cX4_lots 14 = .ok (.invokestatic 73, 3) := by decide +kernel
theorem dX4_lots_17 : decode cX4_lots 17 = .ok (.ifCond .ne 5, 3) := by decide +kernel
theorem dX4_lots_20 : decode cX4_lots 20 = .ok (.iconst (-1), 1) := by decide +kernel
theorem dX4_lots_21 : decode cX4_lots 21 = .ok (.ireturn, 1) := by decide +kernel
theorem dX4_lots_22 : decode cX4_lots 22 = .ok (.aload_n 0, 1) := by decide +kernel
theorem dX4_lots_23 : decode cX4_lots 23 = .ok (.getfield 26, 3) := by decide +kernel
theorem dX4_lots_26 : decode cX4_lots 26 = .ok (.bipush 32, 2) := by decide +kernel
theorem dX4_lots_28 : decode cX4_lots 28 = .ok (.iaload, 1) := by decide +kernel
theorem dX4_lots_29 : decode cX4_lots 29 = .ok (.ifCond .ne 6, 3) := by decide +kernel
theorem dX4_lots_32 : decode cX4_lots 32 = .ok (.bipush (-4), 2) := by decide +kernel
theorem dX4_lots_34 : decode cX4_lots 34 = .ok (.ireturn, 1) := by decide +kernel
theorem dX4_lots_35 : decode cX4_lots 35 = .ok (.aload_n 0, 1) := by decide +kernel
theorem dX4_lots_36 : decode cX4_lots 36 = .ok (.getfield 111, 3) := by decide +kernel
theorem dX4_lots_39 : decode cX4_lots 39 = .ok (.iload_n 1, 1) := by decide +kernel
theorem dX4_lots_40 : decode cX4_lots 40 = .ok (.iadd, 1) := by decide +kernel
theorem dX4_lots_41 : decode cX4_lots 41 = .ok (.bipush 40, 2) := by decide +kernel
theorem dX4_lots_43 : decode cX4_lots 43 = .ok (.if_icmp .le 6, 3) := by decide +kernel
theorem dX4_lots_46 : decode cX4_lots 46 = .ok (.bipush (-2), 2) := by decide +kernel
theorem dX4_lots_48 : decode cX4_lots 48 = .ok (.ireturn, 1) := by decide +kernel
theorem dX4_lots_49 : decode cX4_lots 49 = .ok (.iload_n 2, 1) := by decide +kernel
theorem dX4_lots_50 : decode cX4_lots 50 = .ok (.i2l, 1) := by decide +kernel
theorem dX4_lots_51 : decode cX4_lots 51 = .ok (.lstore_n 3, 1) := by decide +kernel
theorem dX4_lots_52 : decode cX4_lots 52 = .ok (.iconst 0, 1) := by decide +kernel
theorem dX4_lots_53 : decode cX4_lots 53 = .ok (.istore 5, 2) := by decide +kernel
theorem dX4_lots_55 : decode cX4_lots 55 = .ok (.iload 5, 2) := by decide +kernel
theorem dX4_lots_57 : decode cX4_lots 57 = .ok (.iload_n 1, 1) := by decide +kernel
theorem dX4_lots_58 : decode cX4_lots 58 = .ok (.if_icmp .ge 128, 3) := by decide +kernel
theorem dX4_lots_61 : decode cX4_lots 61 = .ok (.lload_n 3, 1) := by decide +kernel
theorem dX4_lots_62 : decode cX4_lots 62 = .ok (.ldc2_w 207, 3) := by decide +kernel
theorem dX4_lots_65 : decode cX4_lots 65 = .ok (.lmul, 1) := by decide +kernel
theorem dX4_lots_66 : decode cX4_lots 66 = .ok (.ldc2_w 209, 3) := by decide +kernel
theorem dX4_lots_69 : decode cX4_lots 69 = .ok (.lrem, 1) := by decide +kernel
theorem dX4_lots_70 : decode cX4_lots 70 = .ok (.lstore_n 3, 1) := by decide +kernel
theorem dX4_lots_71 : decode cX4_lots 71 = .ok (.lload_n 3, 1) := by decide +kernel
theorem dX4_lots_72 : decode cX4_lots 72 = .ok (.ldc2_w 211, 3) := by decide +kernel
theorem dX4_lots_75 : decode cX4_lots 75 = .ok (.ldiv, 1) := by decide +kernel
theorem dX4_lots_76 : decode cX4_lots 76 = .ok (.aload_n 0, 1) := by decide +kernel
theorem dX4_lots_77 : decode cX4_lots 77 = .ok (.getfield 26, 3) := by decide +kernel
theorem dX4_lots_80 : decode cX4_lots 80 = .ok (.bipush 32, 2) := by decide +kernel
theorem dX4_lots_82 : decode cX4_lots 82 = .ok (.iaload, 1) := by decide +kernel
theorem dX4_lots_83 : decode cX4_lots 83 = .ok (.i2l, 1) := by decide +kernel
theorem dX4_lots_84 : decode cX4_lots 84 = .ok (.lrem, 1) := by decide +kernel
theorem dX4_lots_85 : decode cX4_lots 85 = .ok (.l2i, 1) := by decide +kernel
theorem dX4_lots_86 : decode cX4_lots 86 = .ok (.istore 6, 2) := by decide +kernel
theorem dX4_lots_88 : decode cX4_lots 88 = .ok (.lload_n 3, 1) := by decide +kernel
theorem dX4_lots_89 : decode cX4_lots 89 = .ok (.ldc2_w 211, 3) := by decide +kernel
theorem dX4_lots_92 : decode cX4_lots 92 = .ok (.lrem, 1) := by decide +kernel
theorem dX4_lots_93 : decode cX4_lots 93 = .ok (.l2i, 1) := by decide +kernel
theorem dX4_lots_94 : decode cX4_lots 94 = .ok (.istore 7, 2) := by decide +kernel
theorem dX4_lots_96 : decode cX4_lots 96 = .ok (.aload_n 0, 1) := by decide +kernel
theorem dX4_lots_97 : decode cX4_lots 97 = .ok (.invokevirtual 156, 3) := by decide +kernel
theorem dX4_lots_100 : decode cX4_lots 100 = .ok (.iload 7, 2) := by decide +kernel
theorem dX4_lots_102 : decode cX4_lots 102 = .ok (.iconst 2, 1) := by decide +kernel
theorem dX4_lots_103 : decode cX4_lots 103 = .ok (.if_icmp .ge 39, 3) := by decide +kernel
theorem dX4_lots_106 : decode cX4_lots 106 = .ok (.aload_n 0, 1) := by decide +kernel
theorem dX4_lots_107 : decode cX4_lots 107 = .ok (.getfield 26, 3) := by decide +kernel
theorem dX4_lots_110 : decode cX4_lots 110 = .ok (.bipush 11, 2) := by decide +kernel
theorem dX4_lots_112 : decode cX4_lots 112 = .ok (.iload 6, 2) := by decide +kernel
theorem dX4_lots_114 : decode cX4_lots 114 = .ok (.iadd, 1) := by decide +kernel
theorem dX4_lots_115 : decode cX4_lots 115 = .ok (.dup2, 1) := by decide +kernel
theorem dX4_lots_116 : decode cX4_lots 116 = .ok (.iaload, 1) := by decide +kernel
theorem dX4_lots_117 : decode cX4_lots 117 = .ok (.aload_n 0, 1) := by decide +kernel
theorem dX4_lots_118 : decode cX4_lots 118 = .ok (.getfield 26, 3) := by decide +kernel
theorem dX4_lots_121 : decode cX4_lots 121 = .ok (.bipush 11, 2) := by decide +kernel
theorem dX4_lots_123 : decode cX4_lots 123 = .ok (.iload 6, 2) := by decide +kernel
theorem dX4_lots_125 : decode cX4_lots 125 = .ok (.iadd, 1) := by decide +kernel
theorem dX4_lots_126 : decode cX4_lots 126 = .ok (.iaload, 1) := by decide +kernel
theorem dX4_lots_127 : decode cX4_lots 127 = .ok (.bipush 30, 2) := by decide +kernel
theorem dX4_lots_129 : decode cX4_lots 129 = .ok (.if_icmp .ge 7, 3) := by decide +kernel
theorem dX4_lots_132 : decode cX4_lots 132 = .ok (.iconst 1, 1) := by decide +kernel
theorem dX4_lots_133 : decode cX4_lots 133 = .ok (.goto 4, 3) := by decide +kernel
theorem dX4_lots_136 : decode cX4_lots 136 = .ok (.iconst 0, 1) := by decide +kernel
theorem dX4_lots_137 : decode cX4_lots 137 = .ok (.iadd, 1) := by decide +kernel
theorem dX4_lots_138 : decode cX4_lots 138 = .ok (.iastore, 1) := by decide +kernel
theorem dX4_lots_139 : decode cX4_lots 139 = .ok (.goto 41, 3) := by decide +kernel
theorem dX4_lots_142 : decode cX4_lots 142 = .ok (.iload 7, 2) := by decide +kernel
theorem dX4_lots_144 : decode cX4_lots 144 = .ok (.iconst 2, 1) := by decide +kernel
theorem dX4_lots_145 : decode cX4_lots 145 = .ok (.if_icmp .ne 15, 3) := by decide +kernel
theorem dX4_lots_148 : decode cX4_lots 148 = .ok (.aload_n 0, 1) := by decide +kernel
theorem dX4_lots_149 : decode cX4_lots 149 = .ok (.getfield 26, 3) := by decide +kernel
theorem dX4_lots_152 : decode cX4_lots 152 = .ok (.iload 6, 2) := by decide +kernel
theorem dX4_lots_154 : decode cX4_lots 154 = .ok (.invokestatic 162, 3) := by decide +kernel
theorem dX4_lots_157 : decode cX4_lots 157 = .ok (.goto 23, 3) := by decide +kernel
theorem dX4_lots_160 : decode cX4_lots 160 = .ok (.aload_n 0, 1) := by decide +kernel
theorem dX4_lots_161 : decode cX4_lots 161 = .ok (.getfield 26, 3) := by decide +kernel
theorem dX4_lots_164 : decode cX4_lots 164 = .ok (.iconst 0, 1) := by decide +kernel
theorem dX4_lots_165 : decode cX4_lots 165 = .ok (.iaload, 1) := by decide +kernel
theorem dX4_lots_166 : decode cX4_lots 166 = .ok (.sipush 199, 3) := by decide +kernel
theorem dX4_lots_169 : decode cX4_lots 169 = .ok (.if_icmp .ge 11, 3) := by decide +kernel
theorem dX4_lots_172 : decode cX4_lots 172 = .ok (.aload_n 0, 1) := by decide +kernel
theorem dX4_lots_173 : decode cX4_lots 173 = .ok (.getfield 26, 3) := by decide +kernel
theorem dX4_lots_176 : decode cX4_lots 176 = .ok (.invokestatic 159, 3) := by decide +kernel
theorem dX4_lots_179 : decode cX4_lots 179 = .ok (.pop, 1) := by decide +kernel
theorem dX4_lots_180 : decode cX4_lots 180 = .ok (.iinc 5 1, 3) := by decide +kernel
theorem dX4_lots_183 : decode cX4_lots 183 = .ok (.goto (-128), 3) := by decide +kernel
theorem dX4_lots_186 : decode cX4_lots 186 = .ok (.aload_n 0, 1) := by decide +kernel
theorem dX4_lots_187 : decode cX4_lots 187 = .ok (.getfield 26, 3) := by decide +kernel
theorem dX4_lots_190 : decode cX4_lots 190 = .ok (.iconst 2, 1) := by decide +kernel
theorem dX4_lots_191 : decode cX4_lots 191 = .ok (.iaload, 1) := by decide +kernel
theorem dX4_lots_192 : decode cX4_lots 192 = .ok (.ireturn, 1) := by decide +kernel
/-! X4_lots (II)I -/
abbrev rmX4_lots : Room := { frames := 5, cells := 0, slots := 0, locals := 113 }
theorem lkX4_lots_0 : Cond.constant RX4 206 (2147483646) ∈ wsX4_lots := by decide +kernel
theorem lkX4_lots_1 : Cond.fieldLink RX4 26 (TX4 5).1 (TX4 5).2.1 (TX4 5).2.2.1 ∈ wsX4_lots := by decide +kernel
theorem lkX4_lots_2 : Cond.fieldLink RX4 111 (TX4 10).1 (TX4 10).2.1 (TX4 10).2.2.1 ∈ wsX4_lots := by decide +kernel
theorem lkX4_lots_3 : Cond.constantLong RX4 207 (48271) ∈ wsX4_lots := by decide +kernel
theorem lkX4_lots_4 : Cond.constantLong RX4 209 (2147483647) ∈ wsX4_lots := by decide +kernel
theorem lkX4_lots_5 : Cond.constantLong RX4 211 (8) ∈ wsX4_lots := by decide +kernel
theorem inX4_lots_X4 : ∀ w ∈ u_ws RX4 TX4 22, w ∈ wsX4_lots := by decide +kernel
noncomputable def fX4_lots_b137 (G : mm_G) (a0 : Nat) (x1 : Int32) (x2 : Int32) (y3 : Int64) (x5 : Int32) (sx0 : Int32) (sx1 : Int32) (sx2 : Int32) (sa3 : Nat) (σ : mm_M) : Option ((Int32 × mm_M) ⊕ (Int64 × Int32 × mm_M)) := if sx2 < 0 ∨ mm_N G sa3 ≤ sx2.toNatClampNeg then none else (some (.inr (y3, x5 + 1, mm_up σ sa3 sx2.toNatClampNeg (sx1 + sx0))))
noncomputable def fX4_lots_b55 (G : mm_G) (a0 : Nat) (x1 : Int32) (x2 : Int32) (y3 : Int64) (x5 : Int32) (σ : mm_M) : Option ((Int32 × mm_M) ⊕ (Int64 × Int32 × mm_M)) := if x5 < x1 then (if (2147483647 : Int64) = 0 then none else (if (8 : Int64) = 0 then none else (if (32 : Int32) < 0 ∨ mm_N G (mm_R G a0 5) ≤ (32 : Int32).toNatClampNeg then none else (if ((σ.1 (mm_R G a0 5) (32 : Int32).toNatClampNeg).toInt64) = 0 then none else (if (8 : Int64) = 0 then none else ((fX4_does G a0 σ).bind (fun q97 => if ((((y3 * (48271 : Int64)) - (y3 * (48271 : Int64)) / (2147483647 : Int64) * (2147483647 : Int64)) - ((y3 * (48271 : Int64)) - (y3 * (48271 : Int64)) / (2147483647 : Int64) * (2147483647 : Int64)) / (8 : Int64) * (8 : Int64)).toInt32) < (2 : Int32) then (if ((11 : Int32) + (((((y3 * (48271 : Int64)) - (y3 * (48271 : Int64)) / (2147483647 : Int64) * (2147483647 : Int64)) / (8 : Int64)) - (((y3 * (48271 : Int64)) - (y3 * (48271 : Int64)) / (2147483647 : Int64) * (2147483647 : Int64)) / (8 : Int64)) / ((σ.1 (mm_R G a0 5) (32 : Int32).toNatClampNeg).toInt64) * ((σ.1 (mm_R G a0 5) (32 : Int32).toNatClampNeg).toInt64)).toInt32)) < 0 ∨ mm_N G (mm_R G a0 5) ≤ ((11 : Int32) + (((((y3 * (48271 : Int64)) - (y3 * (48271 : Int64)) / (2147483647 : Int64) * (2147483647 : Int64)) / (8 : Int64)) - (((y3 * (48271 : Int64)) - (y3 * (48271 : Int64)) / (2147483647 : Int64) * (2147483647 : Int64)) / (8 : Int64)) / ((σ.1 (mm_R G a0 5) (32 : Int32).toNatClampNeg).toInt64) * ((σ.1 (mm_R G a0 5) (32 : Int32).toNatClampNeg).toInt64)).toInt32)).toNatClampNeg then none else (if ((11 : Int32) + (((((y3 * (48271 : Int64)) - (y3 * (48271 : Int64)) / (2147483647 : Int64) * (2147483647 : Int64)) / (8 : Int64)) - (((y3 * (48271 : Int64)) - (y3 * (48271 : Int64)) / (2147483647 : Int64) * (2147483647 : Int64)) / (8 : Int64)) / ((σ.1 (mm_R G a0 5) (32 : Int32).toNatClampNeg).toInt64) * ((σ.1 (mm_R G a0 5) (32 : Int32).toNatClampNeg).toInt64)).toInt32)) < 0 ∨ mm_N G (mm_R G a0 5) ≤ ((11 : Int32) + (((((y3 * (48271 : Int64)) - (y3 * (48271 : Int64)) / (2147483647 : Int64) * (2147483647 : Int64)) / (8 : Int64)) - (((y3 * (48271 : Int64)) - (y3 * (48271 : Int64)) / (2147483647 : Int64) * (2147483647 : Int64)) / (8 : Int64)) / ((σ.1 (mm_R G a0 5) (32 : Int32).toNatClampNeg).toInt64) * ((σ.1 (mm_R G a0 5) (32 : Int32).toNatClampNeg).toInt64)).toInt32)).toNatClampNeg then none else (fX4_lots_b137 G a0 x1 x2 ((y3 * (48271 : Int64)) - (y3 * (48271 : Int64)) / (2147483647 : Int64) * (2147483647 : Int64)) x5 (if (q97.1 (mm_R G a0 5) ((11 : Int32) + (((((y3 * (48271 : Int64)) - (y3 * (48271 : Int64)) / (2147483647 : Int64) * (2147483647 : Int64)) / (8 : Int64)) - (((y3 * (48271 : Int64)) - (y3 * (48271 : Int64)) / (2147483647 : Int64) * (2147483647 : Int64)) / (8 : Int64)) / ((σ.1 (mm_R G a0 5) (32 : Int32).toNatClampNeg).toInt64) * ((σ.1 (mm_R G a0 5) (32 : Int32).toNatClampNeg).toInt64)).toInt32)).toNatClampNeg) < (30 : Int32) then (1 : Int32) else (0 : Int32)) (q97.1 (mm_R G a0 5) ((11 : Int32) + (((((y3 * (48271 : Int64)) - (y3 * (48271 : Int64)) / (2147483647 : Int64) * (2147483647 : Int64)) / (8 : Int64)) - (((y3 * (48271 : Int64)) - (y3 * (48271 : Int64)) / (2147483647 : Int64) * (2147483647 : Int64)) / (8 : Int64)) / ((σ.1 (mm_R G a0 5) (32 : Int32).toNatClampNeg).toInt64) * ((σ.1 (mm_R G a0 5) (32 : Int32).toNatClampNeg).toInt64)).toInt32)).toNatClampNeg) ((11 : Int32) + (((((y3 * (48271 : Int64)) - (y3 * (48271 : Int64)) / (2147483647 : Int64) * (2147483647 : Int64)) / (8 : Int64)) - (((y3 * (48271 : Int64)) - (y3 * (48271 : Int64)) / (2147483647 : Int64) * (2147483647 : Int64)) / (8 : Int64)) / ((σ.1 (mm_R G a0 5) (32 : Int32).toNatClampNeg).toInt64) * ((σ.1 (mm_R G a0 5) (32 : Int32).toNatClampNeg).toInt64)).toInt32)) (mm_R G a0 5) q97))) else (if ((((y3 * (48271 : Int64)) - (y3 * (48271 : Int64)) / (2147483647 : Int64) * (2147483647 : Int64)) - ((y3 * (48271 : Int64)) - (y3 * (48271 : Int64)) / (2147483647 : Int64) * (2147483647 : Int64)) / (8 : Int64) * (8 : Int64)).toInt32) = (2 : Int32) then ((fX4_drops G (mm_R G a0 5) (((((y3 * (48271 : Int64)) - (y3 * (48271 : Int64)) / (2147483647 : Int64) * (2147483647 : Int64)) / (8 : Int64)) - (((y3 * (48271 : Int64)) - (y3 * (48271 : Int64)) / (2147483647 : Int64) * (2147483647 : Int64)) / (8 : Int64)) / ((σ.1 (mm_R G a0 5) (32 : Int32).toNatClampNeg).toInt64) * ((σ.1 (mm_R G a0 5) (32 : Int32).toNatClampNeg).toInt64)).toInt32) q97).bind (fun q154 => some (.inr ((y3 * (48271 : Int64)) - (y3 * (48271 : Int64)) / (2147483647 : Int64) * (2147483647 : Int64), x5 + 1, q154)))) else (if (0 : Int32) < 0 ∨ mm_N G (mm_R G a0 5) ≤ (0 : Int32).toNatClampNeg then none else (if (q97.1 (mm_R G a0 5) (0 : Int32).toNatClampNeg) < (199 : Int32) then ((fX4_goes G (mm_R G a0 5) q97).bind (fun q176 => some (.inr ((y3 * (48271 : Int64)) - (y3 * (48271 : Int64)) / (2147483647 : Int64) * (2147483647 : Int64), x5 + 1, q176.2)))) else (some (.inr ((y3 * (48271 : Int64)) - (y3 * (48271 : Int64)) / (2147483647 : Int64) * (2147483647 : Int64), x5 + 1, q97))))))))))))) else (if (2 : Int32) < 0 ∨ mm_N G (mm_R G a0 5) ≤ (2 : Int32).toNatClampNeg then none else (some (.inl (σ.1 (mm_R G a0 5) (2 : Int32).toNatClampNeg, σ))))
noncomputable def fX4_lots_b0 (G : mm_G) (a0 : Nat) (x1 : Int32) (x2 : Int32) (σ : mm_M) : Option ((Int32 × mm_M) ⊕ (Int64 × Int32 × mm_M)) := (fX4_in G x1 (1 : Int32) (20 : Int32) σ).bind (fun q4 => if q4.1 = 0 then (some (.inl ((-1 : Int32), q4.2))) else ((fX4_in G x2 (1 : Int32) (2147483646 : Int32) q4.2).bind (fun q14 => if q14.1 = 0 then (some (.inl ((-1 : Int32), q14.2))) else (if (32 : Int32) < 0 ∨ mm_N G (mm_R G a0 5) ≤ (32 : Int32).toNatClampNeg then none else (if (q14.2.1 (mm_R G a0 5) (32 : Int32).toNatClampNeg) = 0 then (some (.inl ((-4 : Int32), q14.2))) else (if (40 : Int32) < ((q14.2.1 a0 10) + x1) then (some (.inl ((-2 : Int32), q14.2))) else (some (.inr (x2.toInt64, (0 : Int32), q14.2)))))))))
noncomputable def fX4_lots_s (G : mm_G) (a0 : Nat) (x1 : Int32) (x2 : Int32) : (Int64 × Int32 × mm_M) → Option ((Int32 × mm_M) ⊕ (Int64 × Int32 × mm_M)) := (fun s => fX4_lots_b55 G a0 x1 x2 s.1 s.2.1 s.2.2)
def PX4_lots (E : mm_E) (G : mm_G) (a0 : Nat) (x1 : Int32) (x2 : Int32) (q : (Int32 × mm_M)) : (Int64 × Int32 × mm_M) → Prop := (fun s => mm_At E G 8 (mm_Qi E G q) s.2.2 55 [(0, .ref a0), (1, .int x1), (3, .long s.1), (5, .int s.2.1)] [])
noncomputable def fX4_lots (G : mm_G) (a0 : Nat) (x1 : Int32) (x2 : Int32) (σ : mm_M) : Option (Int32 × mm_M) := mm_run (fX4_lots_b0 G a0 x1 x2 σ) (fX4_lots_s G a0 x1 x2)
set_option maxHeartbeats 4000000 in
set_option maxRecDepth 100000 in
theorem wX4_lots_b137 {E : mm_E} {G : mm_G} (X : mm_Cx E G cX4_lots 8 RX4 wsX4_lots rmX4_lots (some .int)) {a0 : Nat} {x1 : Int32} {x2 : Int32} {y3 : Int64} {x5 : Int32} {sx0 : Int32} {sx1 : Int32} {sx2 : Int32} {sa3 : Nat} {σ : mm_M} {q : (Int32 × mm_M)} (ha0 : mm_Is G 4 a0) (hsa3 : mm_Is G 6 sa3) {o : (Int32 × mm_M) ⊕ (Int64 × Int32 × mm_M)} (h : fX4_lots_b137 G a0 x1 x2 y3 x5 sx0 sx1 sx2 sa3 σ = some o) (hk : mm_Ok q (PX4_lots E G a0 x1 x2 q) o) : mm_At E G 8 (mm_Qi E G q) σ 137 [(0, .ref a0), (1, .int x1), (3, .long y3), (5, .int x5)] [.int sx0, .int sx1, .int sx2, .ref sa3] := by
  unfold fX4_lots_b137 at h
  refine at_iadd (pc := 137) X dX4_lots_137 ?_
  obtain ⟨hc138, h⟩ := mm_chk h
  refine at_iast (pc := 138) X hsa3 hc138 dX4_lots_138 ?_
  refine at_goto (pc := 139) X 180 dX4_lots_139 (by decide) ?_
  refine at_iinc (pc := 180) X 5 3 (x5 + 1) [(5, .int (x5 + 1)), (0, .ref a0), (1, .int x1), (3, .long y3)] dX4_lots_180 rfl (ii_1 _) (by decide) rfl ?_
  refine at_goto (pc := 183) X 55 dX4_lots_183 (by decide) ?_
  have h2 := mm_inr h hk; exact at_sub [1, 2, 3, 0] rfl h2
set_option maxHeartbeats 4000000 in
set_option maxRecDepth 100000 in
theorem wX4_lots_b55 {E : mm_E} {G : mm_G} (X : mm_Cx E G cX4_lots 8 RX4 wsX4_lots rmX4_lots (some .int)) {a0 : Nat} {x1 : Int32} {x2 : Int32} {y3 : Int64} {x5 : Int32} {σ : mm_M} {q : (Int32 × mm_M)} (ha0 : mm_Is G 4 a0) {o : (Int32 × mm_M) ⊕ (Int64 × Int32 × mm_M)} (h : fX4_lots_b55 G a0 x1 x2 y3 x5 σ = some o) (hk : mm_Ok q (PX4_lots E G a0 x1 x2 q) o) : mm_At E G 8 (mm_Qi E G q) σ 55 [(0, .ref a0), (1, .int x1), (3, .long y3), (5, .int x5)] [] := by
  unfold fX4_lots_b55 at h
  refine at_iload (pc := 55) X 5 3 dX4_lots_55 rfl ?_
  refine at_iload_n (pc := 57) X 1 1 dX4_lots_57 rfl rfl ?_
  refine at_icmp_ge (pc := 58) X 186 dX4_lots_58 (by decide) (fun c58 => ?_) (fun c58 => ?_)
  · have h := mm_neg c58 h
    refine at_aload_n (pc := 186) X 0 0 dX4_lots_186 rfl rfl ?_
    refine at_get (pc := 187) X 4 5 (.ref (mm_R G a0 5)) ha0 (by decide) rfl inX4_lots_X4 (by decide) lkX4_lots_1 rfl dX4_lots_187 ?_
    refine at_iconst (pc := 190) X (2 : Int32) dX4_lots_190 ic_2 ?_
    obtain ⟨hc191, h⟩ := mm_chk h
    refine at_iald (pc := 191) X (wf_4_5 X.wf ha0) hc191 dX4_lots_191 ?_
    exact at_iret (pc := 192) X (mm_inl h hk) dX4_lots_192
  · have h := mm_pos c58 h
    refine at_lload_n (pc := 61) X 3 2 dX4_lots_61 rfl rfl ?_
    refine at_ldc2_w (pc := 62) X (48271 : Int64) lkX4_lots_3 dX4_lots_62 ?_
    refine at_lmul (pc := 65) X dX4_lots_65 ?_
    refine at_ldc2_w (pc := 66) X (2147483647 : Int64) lkX4_lots_4 dX4_lots_66 ?_
    obtain ⟨hc69, h⟩ := mm_chk h
    refine at_lrem (pc := 69) X hc69 dX4_lots_69 ?_
    refine at_lstore_n (pc := 70) X 3 [(3, .long ((y3 * (48271 : Int64)) - (y3 * (48271 : Int64)) / (2147483647 : Int64) * (2147483647 : Int64))), (0, .ref a0), (1, .int x1), (5, .int x5)] dX4_lots_70 rfl (by decide) rfl ?_
    refine at_lload_n (pc := 71) X 3 0 dX4_lots_71 rfl rfl ?_
    refine at_ldc2_w (pc := 72) X (8 : Int64) lkX4_lots_5 dX4_lots_72 ?_
    obtain ⟨hc75, h⟩ := mm_chk h
    refine at_ldiv (pc := 75) X hc75 dX4_lots_75 ?_
    refine at_aload_n (pc := 76) X 0 1 dX4_lots_76 rfl rfl ?_
    refine at_get (pc := 77) X 4 5 (.ref (mm_R G a0 5)) ha0 (by decide) rfl inX4_lots_X4 (by decide) lkX4_lots_1 rfl dX4_lots_77 ?_
    refine at_bipush (pc := 80) X (32 : Int32) dX4_lots_80 ib_32 ?_
    obtain ⟨hc82, h⟩ := mm_chk h
    refine at_iald (pc := 82) X (wf_4_5 X.wf ha0) hc82 dX4_lots_82 ?_
    refine at_i2l (pc := 83) X dX4_lots_83 ?_
    obtain ⟨hc84, h⟩ := mm_chk h
    refine at_lrem (pc := 84) X hc84 dX4_lots_84 ?_
    refine at_l2i (pc := 85) X dX4_lots_85 ?_
    refine at_istore (pc := 86) X 6 [(6, .int (((((y3 * (48271 : Int64)) - (y3 * (48271 : Int64)) / (2147483647 : Int64) * (2147483647 : Int64)) / (8 : Int64)) - (((y3 * (48271 : Int64)) - (y3 * (48271 : Int64)) / (2147483647 : Int64) * (2147483647 : Int64)) / (8 : Int64)) / ((σ.1 (mm_R G a0 5) (32 : Int32).toNatClampNeg).toInt64) * ((σ.1 (mm_R G a0 5) (32 : Int32).toNatClampNeg).toInt64)).toInt32)), (3, .long ((y3 * (48271 : Int64)) - (y3 * (48271 : Int64)) / (2147483647 : Int64) * (2147483647 : Int64))), (0, .ref a0), (1, .int x1), (5, .int x5)] dX4_lots_86 (by decide) rfl ?_
    refine at_lload_n (pc := 88) X 3 1 dX4_lots_88 rfl rfl ?_
    refine at_ldc2_w (pc := 89) X (8 : Int64) lkX4_lots_5 dX4_lots_89 ?_
    obtain ⟨hc92, h⟩ := mm_chk h
    refine at_lrem (pc := 92) X hc92 dX4_lots_92 ?_
    refine at_l2i (pc := 93) X dX4_lots_93 ?_
    refine at_istore (pc := 94) X 7 [(7, .int ((((y3 * (48271 : Int64)) - (y3 * (48271 : Int64)) / (2147483647 : Int64) * (2147483647 : Int64)) - ((y3 * (48271 : Int64)) - (y3 * (48271 : Int64)) / (2147483647 : Int64) * (2147483647 : Int64)) / (8 : Int64) * (8 : Int64)).toInt32)), (6, .int (((((y3 * (48271 : Int64)) - (y3 * (48271 : Int64)) / (2147483647 : Int64) * (2147483647 : Int64)) / (8 : Int64)) - (((y3 * (48271 : Int64)) - (y3 * (48271 : Int64)) / (2147483647 : Int64) * (2147483647 : Int64)) / (8 : Int64)) / ((σ.1 (mm_R G a0 5) (32 : Int32).toNatClampNeg).toInt64) * ((σ.1 (mm_R G a0 5) (32 : Int32).toNatClampNeg).toInt64)).toInt32)), (3, .long ((y3 * (48271 : Int64)) - (y3 * (48271 : Int64)) / (2147483647 : Int64) * (2147483647 : Int64))), (0, .ref a0), (1, .int x1), (5, .int x5)] dX4_lots_94 (by decide) rfl ?_
    refine at_aload_n (pc := 96) X 0 3 dX4_lots_96 rfl rfl ?_
    obtain ⟨q97, hq97, h⟩ := mm_bind h
    refine at_callv (n := 0) (pc := 97) X 4 [] [] (mX4_does (eL E) X.wf ha0 hq97) gX4_lots_X4_does rfl ⟨rfl, rfl⟩ (by decide +kernel) ⟨by decide, by decide⟩ (by decide) rfl ha0 rfl rfl (Nat.le_of_ble_eq_true rfl) dX4_lots_97 ?_
    refine at_iload (pc := 100) X 7 0 dX4_lots_100 rfl ?_
    refine at_iconst (pc := 102) X (2 : Int32) dX4_lots_102 ic_2 ?_
    refine at_icmp_ge (pc := 103) X 142 dX4_lots_103 (by decide) (fun c103 => ?_) (fun c103 => ?_)
    · have h := mm_neg c103 h
      refine at_iload (pc := 142) X 7 0 dX4_lots_142 rfl ?_
      refine at_iconst (pc := 144) X (2 : Int32) dX4_lots_144 ic_2 ?_
      refine at_icmp_ne (pc := 145) X 160 dX4_lots_145 (by decide) (fun c145 => ?_) (fun c145 => ?_)
      · have h := mm_neg c145 h
        refine at_aload_n (pc := 160) X 0 3 dX4_lots_160 rfl rfl ?_
        refine at_get (pc := 161) X 4 5 (.ref (mm_R G a0 5)) ha0 (by decide) rfl inX4_lots_X4 (by decide) lkX4_lots_1 rfl dX4_lots_161 ?_
        refine at_iconst (pc := 164) X (0 : Int32) dX4_lots_164 ic_0 ?_
        obtain ⟨hc165, h⟩ := mm_chk h
        refine at_iald (pc := 165) X (wf_4_5 X.wf ha0) hc165 dX4_lots_165 ?_
        refine at_sipush (pc := 166) X (199 : Int32) dX4_lots_166 is_199 ?_
        refine at_icmp_ge (pc := 169) X 180 dX4_lots_169 (by decide) (fun c169 => ?_) (fun c169 => ?_)
        · have h := mm_neg c169 h
          refine at_iinc (pc := 180) X 5 5 (x5 + 1) [(5, .int (x5 + 1)), (7, .int ((((y3 * (48271 : Int64)) - (y3 * (48271 : Int64)) / (2147483647 : Int64) * (2147483647 : Int64)) - ((y3 * (48271 : Int64)) - (y3 * (48271 : Int64)) / (2147483647 : Int64) * (2147483647 : Int64)) / (8 : Int64) * (8 : Int64)).toInt32)), (6, .int (((((y3 * (48271 : Int64)) - (y3 * (48271 : Int64)) / (2147483647 : Int64) * (2147483647 : Int64)) / (8 : Int64)) - (((y3 * (48271 : Int64)) - (y3 * (48271 : Int64)) / (2147483647 : Int64) * (2147483647 : Int64)) / (8 : Int64)) / ((σ.1 (mm_R G a0 5) (32 : Int32).toNatClampNeg).toInt64) * ((σ.1 (mm_R G a0 5) (32 : Int32).toNatClampNeg).toInt64)).toInt32)), (3, .long ((y3 * (48271 : Int64)) - (y3 * (48271 : Int64)) / (2147483647 : Int64) * (2147483647 : Int64))), (0, .ref a0), (1, .int x1)] dX4_lots_180 rfl (ii_1 _) (by decide) rfl ?_
          refine at_goto (pc := 183) X 55 dX4_lots_183 (by decide) ?_
          have h2 := mm_inr h hk; exact at_sub [4, 5, 3, 0] rfl h2
        · have h := mm_pos c169 h
          refine at_aload_n (pc := 172) X 0 3 dX4_lots_172 rfl rfl ?_
          refine at_get (pc := 173) X 4 5 (.ref (mm_R G a0 5)) ha0 (by decide) rfl inX4_lots_X4 (by decide) lkX4_lots_1 rfl dX4_lots_173 ?_
          obtain ⟨q176, hq176, h⟩ := mm_bind h
          refine at_scalli (n := 1) (pc := 176) X [.ref (mm_R G a0 5)] [] (mX4_goes (eL E) X.wf (wf_4_5 X.wf ha0) hq176) gX4_lots_X4_goes rfl ⟨rfl, rfl⟩ (by decide +kernel) ⟨by decide, by decide⟩ rfl rfl (Nat.le_of_ble_eq_true rfl) dX4_lots_176 ?_
          refine at_pop (pc := 179) X dX4_lots_179 rfl ?_
          refine at_iinc (pc := 180) X 5 5 (x5 + 1) [(5, .int (x5 + 1)), (7, .int ((((y3 * (48271 : Int64)) - (y3 * (48271 : Int64)) / (2147483647 : Int64) * (2147483647 : Int64)) - ((y3 * (48271 : Int64)) - (y3 * (48271 : Int64)) / (2147483647 : Int64) * (2147483647 : Int64)) / (8 : Int64) * (8 : Int64)).toInt32)), (6, .int (((((y3 * (48271 : Int64)) - (y3 * (48271 : Int64)) / (2147483647 : Int64) * (2147483647 : Int64)) / (8 : Int64)) - (((y3 * (48271 : Int64)) - (y3 * (48271 : Int64)) / (2147483647 : Int64) * (2147483647 : Int64)) / (8 : Int64)) / ((σ.1 (mm_R G a0 5) (32 : Int32).toNatClampNeg).toInt64) * ((σ.1 (mm_R G a0 5) (32 : Int32).toNatClampNeg).toInt64)).toInt32)), (3, .long ((y3 * (48271 : Int64)) - (y3 * (48271 : Int64)) / (2147483647 : Int64) * (2147483647 : Int64))), (0, .ref a0), (1, .int x1)] dX4_lots_180 rfl (ii_1 _) (by decide) rfl ?_
          refine at_goto (pc := 183) X 55 dX4_lots_183 (by decide) ?_
          have h2 := mm_inr h hk; exact at_sub [4, 5, 3, 0] rfl h2
      · have h := mm_pos c145 h
        refine at_aload_n (pc := 148) X 0 3 dX4_lots_148 rfl rfl ?_
        refine at_get (pc := 149) X 4 5 (.ref (mm_R G a0 5)) ha0 (by decide) rfl inX4_lots_X4 (by decide) lkX4_lots_1 rfl dX4_lots_149 ?_
        refine at_iload (pc := 152) X 6 1 dX4_lots_152 rfl ?_
        obtain ⟨q154, hq154, h⟩ := mm_bind h
        refine at_scallv (n := 2) (pc := 154) X [.ref (mm_R G a0 5), .int (((((y3 * (48271 : Int64)) - (y3 * (48271 : Int64)) / (2147483647 : Int64) * (2147483647 : Int64)) / (8 : Int64)) - (((y3 * (48271 : Int64)) - (y3 * (48271 : Int64)) / (2147483647 : Int64) * (2147483647 : Int64)) / (8 : Int64)) / ((σ.1 (mm_R G a0 5) (32 : Int32).toNatClampNeg).toInt64) * ((σ.1 (mm_R G a0 5) (32 : Int32).toNatClampNeg).toInt64)).toInt32)] [] (mX4_drops (eL E) X.wf (wf_4_5 X.wf ha0) hq154) gX4_lots_X4_drops rfl ⟨rfl, rfl⟩ (by decide +kernel) ⟨by decide, by decide⟩ rfl rfl (Nat.le_of_ble_eq_true rfl) dX4_lots_154 ?_
        refine at_goto (pc := 157) X 180 dX4_lots_157 (by decide) ?_
        refine at_iinc (pc := 180) X 5 5 (x5 + 1) [(5, .int (x5 + 1)), (7, .int ((((y3 * (48271 : Int64)) - (y3 * (48271 : Int64)) / (2147483647 : Int64) * (2147483647 : Int64)) - ((y3 * (48271 : Int64)) - (y3 * (48271 : Int64)) / (2147483647 : Int64) * (2147483647 : Int64)) / (8 : Int64) * (8 : Int64)).toInt32)), (6, .int (((((y3 * (48271 : Int64)) - (y3 * (48271 : Int64)) / (2147483647 : Int64) * (2147483647 : Int64)) / (8 : Int64)) - (((y3 * (48271 : Int64)) - (y3 * (48271 : Int64)) / (2147483647 : Int64) * (2147483647 : Int64)) / (8 : Int64)) / ((σ.1 (mm_R G a0 5) (32 : Int32).toNatClampNeg).toInt64) * ((σ.1 (mm_R G a0 5) (32 : Int32).toNatClampNeg).toInt64)).toInt32)), (3, .long ((y3 * (48271 : Int64)) - (y3 * (48271 : Int64)) / (2147483647 : Int64) * (2147483647 : Int64))), (0, .ref a0), (1, .int x1)] dX4_lots_180 rfl (ii_1 _) (by decide) rfl ?_
        refine at_goto (pc := 183) X 55 dX4_lots_183 (by decide) ?_
        have h2 := mm_inr h hk; exact at_sub [4, 5, 3, 0] rfl h2
    · have h := mm_pos c103 h
      refine at_aload_n (pc := 106) X 0 3 dX4_lots_106 rfl rfl ?_
      refine at_get (pc := 107) X 4 5 (.ref (mm_R G a0 5)) ha0 (by decide) rfl inX4_lots_X4 (by decide) lkX4_lots_1 rfl dX4_lots_107 ?_
      refine at_bipush (pc := 110) X (11 : Int32) dX4_lots_110 ib_11 ?_
      refine at_iload (pc := 112) X 6 1 dX4_lots_112 rfl ?_
      refine at_iadd (pc := 114) X dX4_lots_114 ?_
      refine at_dup2 (pc := 115) X dX4_lots_115 rfl rfl ?_
      obtain ⟨hc116, h⟩ := mm_chk h
      refine at_iald (pc := 116) X (wf_4_5 X.wf ha0) hc116 dX4_lots_116 ?_
      refine at_aload_n (pc := 117) X 0 3 dX4_lots_117 rfl rfl ?_
      refine at_get (pc := 118) X 4 5 (.ref (mm_R G a0 5)) ha0 (by decide) rfl inX4_lots_X4 (by decide) lkX4_lots_1 rfl dX4_lots_118 ?_
      refine at_bipush (pc := 121) X (11 : Int32) dX4_lots_121 ib_11 ?_
      refine at_iload (pc := 123) X 6 1 dX4_lots_123 rfl ?_
      refine at_iadd (pc := 125) X dX4_lots_125 ?_
      obtain ⟨hc126, h⟩ := mm_chk h
      refine at_iald (pc := 126) X (wf_4_5 X.wf ha0) hc126 dX4_lots_126 ?_
      refine at_bipush (pc := 127) X (30 : Int32) dX4_lots_127 ib_30 ?_
      have hj129 : mm_At E G 8 (mm_Qi E G q) q97 137 [(0, .ref a0), (1, .int x1), (3, .long ((y3 * (48271 : Int64)) - (y3 * (48271 : Int64)) / (2147483647 : Int64) * (2147483647 : Int64))), (5, .int x5)] [.int (if (q97.1 (mm_R G a0 5) ((11 : Int32) + (((((y3 * (48271 : Int64)) - (y3 * (48271 : Int64)) / (2147483647 : Int64) * (2147483647 : Int64)) / (8 : Int64)) - (((y3 * (48271 : Int64)) - (y3 * (48271 : Int64)) / (2147483647 : Int64) * (2147483647 : Int64)) / (8 : Int64)) / ((σ.1 (mm_R G a0 5) (32 : Int32).toNatClampNeg).toInt64) * ((σ.1 (mm_R G a0 5) (32 : Int32).toNatClampNeg).toInt64)).toInt32)).toNatClampNeg) < (30 : Int32) then (1 : Int32) else (0 : Int32)), .int (q97.1 (mm_R G a0 5) ((11 : Int32) + (((((y3 * (48271 : Int64)) - (y3 * (48271 : Int64)) / (2147483647 : Int64) * (2147483647 : Int64)) / (8 : Int64)) - (((y3 * (48271 : Int64)) - (y3 * (48271 : Int64)) / (2147483647 : Int64) * (2147483647 : Int64)) / (8 : Int64)) / ((σ.1 (mm_R G a0 5) (32 : Int32).toNatClampNeg).toInt64) * ((σ.1 (mm_R G a0 5) (32 : Int32).toNatClampNeg).toInt64)).toInt32)).toNatClampNeg), .int ((11 : Int32) + (((((y3 * (48271 : Int64)) - (y3 * (48271 : Int64)) / (2147483647 : Int64) * (2147483647 : Int64)) / (8 : Int64)) - (((y3 * (48271 : Int64)) - (y3 * (48271 : Int64)) / (2147483647 : Int64) * (2147483647 : Int64)) / (8 : Int64)) / ((σ.1 (mm_R G a0 5) (32 : Int32).toNatClampNeg).toInt64) * ((σ.1 (mm_R G a0 5) (32 : Int32).toNatClampNeg).toInt64)).toInt32)), .ref (mm_R G a0 5)] := by
        exact at_sub [0, 1, 2, 3] rfl (wX4_lots_b137 X ha0 (wf_4_5 X.wf ha0) h hk)
      refine at_icmp_ge (pc := 129) X 136 dX4_lots_129 (by decide) (fun c129 => ?_) (fun c129 => ?_)
      · try simp only [if_neg c129] at hj129
        refine at_iconst (pc := 136) X (0 : Int32) dX4_lots_136 ic_0 ?_
        exact at_sub [3, 4, 2, 5] rfl hj129
      · try simp only [if_pos c129] at hj129
        refine at_iconst (pc := 132) X (1 : Int32) dX4_lots_132 ic_1 ?_
        refine at_goto (pc := 133) X 137 dX4_lots_133 (by decide) ?_
        exact at_sub [3, 4, 2, 5] rfl hj129
set_option maxHeartbeats 4000000 in
set_option maxRecDepth 100000 in
theorem wX4_lots_b0 {E : mm_E} {G : mm_G} (X : mm_Cx E G cX4_lots 8 RX4 wsX4_lots rmX4_lots (some .int)) {a0 : Nat} {x1 : Int32} {x2 : Int32} {σ : mm_M} {q : (Int32 × mm_M)} (ha0 : mm_Is G 4 a0) {o : (Int32 × mm_M) ⊕ (Int64 × Int32 × mm_M)} (h : fX4_lots_b0 G a0 x1 x2 σ = some o) (hk : mm_Ok q (PX4_lots E G a0 x1 x2 q) o) : mm_At E G 8 (mm_Qi E G q) σ 0 [(0, .ref a0), (1, .int x1), (2, .int x2)] [] := by
  unfold fX4_lots_b0 at h
  refine at_iload_n (pc := 0) X 1 1 dX4_lots_0 rfl rfl ?_
  refine at_iconst (pc := 1) X (1 : Int32) dX4_lots_1 ic_1 ?_
  refine at_bipush (pc := 2) X (20 : Int32) dX4_lots_2 ib_20 ?_
  obtain ⟨q4, hq4, h⟩ := mm_bind h
  refine at_scalli (n := 3) (pc := 4) X [.int x1, .int (1 : Int32), .int (20 : Int32)] [] (mX4_in (eL E) X.wf hq4) gX4_lots_X4_in rfl ⟨rfl, rfl⟩ (by decide +kernel) ⟨by decide, by decide⟩ rfl rfl (Nat.le_of_ble_eq_true rfl) dX4_lots_4 ?_
  refine at_if_eq (pc := 7) X 20 dX4_lots_7 (by decide) (fun c7 => ?_) (fun c7 => ?_)
  · have h := mm_pos c7 h
    refine at_iconst (pc := 20) X (-1 : Int32) dX4_lots_20 ic_m1 ?_
    exact at_iret (pc := 21) X (mm_inl h hk) dX4_lots_21
  · have h := mm_neg c7 h
    refine at_iload_n (pc := 10) X 2 2 dX4_lots_10 rfl rfl ?_
    refine at_iconst (pc := 11) X (1 : Int32) dX4_lots_11 ic_1 ?_
    refine at_ldc (pc := 12) X (2147483646 : Int32) lkX4_lots_0 dX4_lots_12 ?_
    obtain ⟨q14, hq14, h⟩ := mm_bind h
    refine at_scalli (n := 3) (pc := 14) X [.int x2, .int (1 : Int32), .int (2147483646 : Int32)] [] (mX4_in (eL E) X.wf hq14) gX4_lots_X4_in rfl ⟨rfl, rfl⟩ (by decide +kernel) ⟨by decide, by decide⟩ rfl rfl (Nat.le_of_ble_eq_true rfl) dX4_lots_14 ?_
    refine at_if_ne (pc := 17) X 22 dX4_lots_17 (by decide) (fun c17 => ?_) (fun c17 => ?_)
    · have h := mm_neg c17 h
      refine at_aload_n (pc := 22) X 0 0 dX4_lots_22 rfl rfl ?_
      refine at_get (pc := 23) X 4 5 (.ref (mm_R G a0 5)) ha0 (by decide) rfl inX4_lots_X4 (by decide) lkX4_lots_1 rfl dX4_lots_23 ?_
      refine at_bipush (pc := 26) X (32 : Int32) dX4_lots_26 ib_32 ?_
      obtain ⟨hc28, h⟩ := mm_chk h
      refine at_iald (pc := 28) X (wf_4_5 X.wf ha0) hc28 dX4_lots_28 ?_
      refine at_if_ne (pc := 29) X 35 dX4_lots_29 (by decide) (fun c29 => ?_) (fun c29 => ?_)
      · have h := mm_neg c29 h
        refine at_aload_n (pc := 35) X 0 0 dX4_lots_35 rfl rfl ?_
        refine at_get (pc := 36) X 4 10 (.int (q14.2.1 a0 10)) ha0 (by decide) rfl inX4_lots_X4 (by decide) lkX4_lots_2 rfl dX4_lots_36 ?_
        refine at_iload_n (pc := 39) X 1 1 dX4_lots_39 rfl rfl ?_
        refine at_iadd (pc := 40) X dX4_lots_40 ?_
        refine at_bipush (pc := 41) X (40 : Int32) dX4_lots_41 ib_40 ?_
        refine at_icmp_le (pc := 43) X 49 dX4_lots_43 (by decide) (fun c43 => ?_) (fun c43 => ?_)
        · have h := mm_neg c43 h
          refine at_iload_n (pc := 49) X 2 2 dX4_lots_49 rfl rfl ?_
          refine at_i2l (pc := 50) X dX4_lots_50 ?_
          refine at_lstore_n (pc := 51) X 3 [(3, .long x2.toInt64), (0, .ref a0), (1, .int x1), (2, .int x2)] dX4_lots_51 rfl (by decide) rfl ?_
          refine at_iconst (pc := 52) X (0 : Int32) dX4_lots_52 ic_0 ?_
          refine at_istore (pc := 53) X 5 [(5, .int (0 : Int32)), (3, .long x2.toInt64), (0, .ref a0), (1, .int x1), (2, .int x2)] dX4_lots_53 (by decide) rfl ?_
          have h2 := mm_inr h hk; exact at_sub [2, 3, 1, 0] rfl h2
        · have h := mm_pos c43 h
          refine at_bipush (pc := 46) X (-2 : Int32) dX4_lots_46 ib_m2 ?_
          exact at_iret (pc := 48) X (mm_inl h hk) dX4_lots_48
      · have h := mm_pos c29 h
        refine at_bipush (pc := 32) X (-4 : Int32) dX4_lots_32 ib_m4 ?_
        exact at_iret (pc := 34) X (mm_inl h hk) dX4_lots_34
    · have h := mm_pos c17 h
      refine at_iconst (pc := 20) X (-1 : Int32) dX4_lots_20 ic_m1 ?_
      exact at_iret (pc := 21) X (mm_inl h hk) dX4_lots_21
set_option maxHeartbeats 4000000 in
set_option maxRecDepth 100000 in
theorem mX4_lots (l : Launch) {G : mm_G} (hwf : mm_WF G) {a0 : Nat} {x1 : Int32} {x2 : Int32} {σ : mm_M} {q : (Int32 × mm_M)} (ha0 : mm_Is G 4 a0) (h : fX4_lots G a0 x1 x2 σ = some q) : mm_Mi l yX4_lots wsX4_lots rmX4_lots G [.ref a0, .int x1, .int x2] σ q := by
  refine mm_ofi (cc := cX4_lots) (nL := 8) (ret := some .int) (own := RX4) (lv0 := [(0, .ref a0), (1, .int x1), (2, .int x2)]) (by decide) rfl rfl (Nat.le_of_ble_eq_true rfl) rfl hwf (fun E hE X => ?_)
  obtain ⟨o, h0, hk⟩ := mm_run_ok (P := PX4_lots E G a0 x1 x2 q) h (fun s o hs hk => by exact wX4_lots_b55 X ha0 hs hk)
  exact wX4_lots_b0 X ha0 h0 hk
theorem dX4_asked_0 : decode cX4_asked 0 = .ok (.aload_n 0, 1) := by decide +kernel
theorem dX4_asked_1 : decode cX4_asked 1 = .ok (.getfield 70, 3) := by decide +kernel
theorem dX4_asked_4 : decode cX4_asked 4 = .ok (.ireturn, 1) := by decide +kernel
/-! X4_asked ()I -/
abbrev rmX4_asked : Room := { frames := 0, cells := 0, slots := 0, locals := 0 }
theorem lkX4_asked_0 : Cond.fieldLink RX4 70 (TX4 14).1 (TX4 14).2.1 (TX4 14).2.2.1 ∈ wsX4_asked := by decide +kernel
theorem inX4_asked_X4 : ∀ w ∈ u_ws RX4 TX4 22, w ∈ wsX4_asked := by decide +kernel
noncomputable def fX4_asked (G : mm_G) (a0 : Nat) (σ : mm_M) : Option (Int32 × mm_M) := some (σ.1 a0 14, σ)
set_option maxHeartbeats 4000000 in
set_option maxRecDepth 100000 in
theorem wX4_asked_b0 {E : mm_E} {G : mm_G} (X : mm_Cx E G cX4_asked 1 RX4 wsX4_asked rmX4_asked (some .int)) {a0 : Nat} {σ : mm_M} {q : (Int32 × mm_M)} (ha0 : mm_Is G 4 a0) (h : fX4_asked G a0 σ = some q) : mm_At E G 1 (mm_Qi E G q) σ 0 [(0, .ref a0)] [] := by
  unfold fX4_asked at h
  refine at_aload_n (pc := 0) X 0 0 dX4_asked_0 rfl rfl ?_
  refine at_get (pc := 1) X 4 14 (.int (σ.1 a0 14)) ha0 (by decide) rfl inX4_asked_X4 (by decide) lkX4_asked_0 rfl dX4_asked_1 ?_
  exact at_iret (pc := 4) X (Option.some.inj h) dX4_asked_4
set_option maxHeartbeats 4000000 in
set_option maxRecDepth 100000 in
theorem mX4_asked (l : Launch) {G : mm_G} (hwf : mm_WF G) {a0 : Nat} {σ : mm_M} {q : (Int32 × mm_M)} (ha0 : mm_Is G 4 a0) (h : fX4_asked G a0 σ = some q) : mm_Mi l yX4_asked wsX4_asked rmX4_asked G [.ref a0] σ q := by
  refine mm_ofi (cc := cX4_asked) (nL := 1) (ret := some .int) (own := RX4) (lv0 := [(0, .ref a0)]) (by decide) rfl rfl (Nat.le_of_ble_eq_true rfl) rfl hwf (fun E hE X => ?_)
  exact wX4_asked_b0 X ha0 h
theorem dX4_upper_0 : decode cX4_upper 0 = .ok (.aload_n 0, 1) := by decide +kernel
theorem dX4_upper_1 : decode cX4_upper 1 = .ok (.getfield 193, 3) := by decide +kernel
theorem dX4_upper_4 : decode cX4_upper 4 = .ok (.lreturn, 1) := by decide +kernel
/-! X4_upper ()J -/
abbrev rmX4_upper : Room := { frames := 0, cells := 0, slots := 0, locals := 0 }
theorem lkX4_upper_0 : Cond.fieldLink RX4 193 (TX4 15).1 (TX4 15).2.1 (TX4 15).2.2.1 ∈ wsX4_upper := by decide +kernel
theorem inX4_upper_X4 : ∀ w ∈ u_ws RX4 TX4 22, w ∈ wsX4_upper := by decide +kernel
noncomputable def fX4_upper (G : mm_G) (a0 : Nat) (σ : mm_M) : Option (Int64 × mm_M) := some (σ.2 a0 15, σ)
set_option maxHeartbeats 4000000 in
set_option maxRecDepth 100000 in
theorem wX4_upper_b0 {E : mm_E} {G : mm_G} (X : mm_Cx E G cX4_upper 1 RX4 wsX4_upper rmX4_upper (some .long)) {a0 : Nat} {σ : mm_M} {q : (Int64 × mm_M)} (ha0 : mm_Is G 4 a0) (h : fX4_upper G a0 σ = some q) : mm_At E G 1 (mm_Ql E G q) σ 0 [(0, .ref a0)] [] := by
  unfold fX4_upper at h
  refine at_aload_n (pc := 0) X 0 0 dX4_upper_0 rfl rfl ?_
  refine at_get (pc := 1) X 4 15 (.long (σ.2 a0 15)) ha0 (by decide) rfl inX4_upper_X4 (by decide) lkX4_upper_0 rfl dX4_upper_1 ?_
  exact at_lret (pc := 4) X (Option.some.inj h) dX4_upper_4
set_option maxHeartbeats 4000000 in
set_option maxRecDepth 100000 in
theorem mX4_upper (l : Launch) {G : mm_G} (hwf : mm_WF G) {a0 : Nat} {σ : mm_M} {q : (Int64 × mm_M)} (ha0 : mm_Is G 4 a0) (h : fX4_upper G a0 σ = some q) : mm_Ml l yX4_upper wsX4_upper rmX4_upper G [.ref a0] σ q := by
  refine mm_ofl (cc := cX4_upper) (nL := 1) (ret := some .long) (own := RX4) (lv0 := [(0, .ref a0)]) (by decide) rfl rfl (Nat.le_of_ble_eq_true rfl) rfl hwf (fun E hE X => ?_)
  exact wX4_upper_b0 X ha0 h
theorem dX4_lower_0 : decode cX4_lower 0 = .ok (.aload_n 0, 1) := by decide +kernel
theorem dX4_lower_1 : decode cX4_lower 1 = .ok (.getfield 50, 3) := by decide +kernel
theorem dX4_lower_4 : decode cX4_lower 4 = .ok (.lreturn, 1) := by decide +kernel
/-! X4_lower ()J -/
abbrev rmX4_lower : Room := { frames := 0, cells := 0, slots := 0, locals := 0 }
theorem lkX4_lower_0 : Cond.fieldLink RX4 50 (TX4 16).1 (TX4 16).2.1 (TX4 16).2.2.1 ∈ wsX4_lower := by decide +kernel
theorem inX4_lower_X4 : ∀ w ∈ u_ws RX4 TX4 22, w ∈ wsX4_lower := by decide +kernel
noncomputable def fX4_lower (G : mm_G) (a0 : Nat) (σ : mm_M) : Option (Int64 × mm_M) := some (σ.2 a0 16, σ)
set_option maxHeartbeats 4000000 in
set_option maxRecDepth 100000 in
theorem wX4_lower_b0 {E : mm_E} {G : mm_G} (X : mm_Cx E G cX4_lower 1 RX4 wsX4_lower rmX4_lower (some .long)) {a0 : Nat} {σ : mm_M} {q : (Int64 × mm_M)} (ha0 : mm_Is G 4 a0) (h : fX4_lower G a0 σ = some q) : mm_At E G 1 (mm_Ql E G q) σ 0 [(0, .ref a0)] [] := by
  unfold fX4_lower at h
  refine at_aload_n (pc := 0) X 0 0 dX4_lower_0 rfl rfl ?_
  refine at_get (pc := 1) X 4 16 (.long (σ.2 a0 16)) ha0 (by decide) rfl inX4_lower_X4 (by decide) lkX4_lower_0 rfl dX4_lower_1 ?_
  exact at_lret (pc := 4) X (Option.some.inj h) dX4_lower_4
set_option maxHeartbeats 4000000 in
set_option maxRecDepth 100000 in
theorem mX4_lower (l : Launch) {G : mm_G} (hwf : mm_WF G) {a0 : Nat} {σ : mm_M} {q : (Int64 × mm_M)} (ha0 : mm_Is G 4 a0) (h : fX4_lower G a0 σ = some q) : mm_Ml l yX4_lower wsX4_lower rmX4_lower G [.ref a0] σ q := by
  refine mm_ofl (cc := cX4_lower) (nL := 1) (ret := some .long) (own := RX4) (lv0 := [(0, .ref a0)]) (by decide) rfl rfl (Nat.le_of_ble_eq_true rfl) rfl hwf (fun E hE X => ?_)
  exact wX4_lower_b0 X ha0 h
set_option maxRecDepth 20000 in
theorem ggX4_ofKind_X4_is : GoodIn wsX4_ofKind wsX4_is := goodIn_r _ [5] (by decide +kernel) (by decide +kernel)
set_option maxRecDepth 20000 in
theorem gX4_ofKind_X4_is : GoodIn wsX4_ofKind (va_wsS RX4 121 yX4_is wsX4_is) := goodIn_app (goodIn_of _ (by decide +kernel)) ggX4_ofKind_X4_is
theorem dX4_ofKind_0 : decode cX4_ofKind 0 = .ok (.iconst 0, 1) := by decide +kernel
theorem dX4_ofKind_1 : decode cX4_ofKind 1 = .ok (.istore_n 2, 1) := by decide +kernel
theorem dX4_ofKind_2 : decode cX4_ofKind 2 = .ok (.iconst 0, 1) := by decide +kernel
theorem dX4_ofKind_3 : decode cX4_ofKind 3 = .ok (.istore_n 3, 1) := by decide +kernel
theorem dX4_ofKind_4 : decode cX4_ofKind 4 = .ok (.iload_n 3, 1) := by decide +kernel
theorem dX4_ofKind_5 : decode cX4_ofKind 5 = .ok (.aload_n 0, 1) := by decide +kernel
theorem dX4_ofKind_6 : decode cX4_ofKind 6 = .ok (.getfield 26, 3) := by decide +kernel
theorem dX4_ofKind_9 : decode cX4_ofKind 9 = .ok (.bipush 32, 2) := by decide +kernel
theorem dX4_ofKind_11 : decode cX4_ofKind 11 = .ok (.iaload, 1) := by decide +kernel
theorem dX4_ofKind_12 : decode cX4_ofKind 12 = .ok (.if_icmp .ge 33, 3) := by decide +kernel
theorem dX4_ofKind_15 : decode cX4_ofKind 15 = .ok (.iload_n 2, 1) := by decide +kernel
theorem dX4_ofKind_16 : decode cX4_ofKind 16 = .ok (.aload_n 0, 1) := by decide +kernel
theorem dX4_ofKind_17 : decode cX4_ofKind 17 = .ok (.getfield 26, 3) := by decide +kernel
theorem dX4_ofKind_20 : decode cX4_ofKind 20 = .ok (.bipush 33, 2) := by decide +kernel
theorem dX4_ofKind_22 : decode cX4_ofKind 22 = .ok (.iload_n 3, 1) := by decide +kernel
theorem dX4_ofKind_23 : decode cX4_ofKind 23 = .ok (.iadd, 1) := by decide +kernel
theorem dX4_ofKind_24 : decode cX4_ofKind 24 = .ok (.iaload, 1) := by decide +kernel
theorem dX4_ofKind_25 : decode cX4_ofKind 25 = .ok (.iload_n 1, 1) := by decide +kernel
theorem dX4_ofKind_26 : decode cX4_ofKind 26 = .ok (.invokestatic 121, 3) := by decide +kernel
theorem dX4_ofKind_29 : decode cX4_ofKind 29 = .ok (.ifCond .eq 7, 3) := by decide +kernel
theorem dX4_ofKind_32 : decode cX4_ofKind 32 = .ok (.iconst 1, 1) := by decide +kernel
theorem dX4_ofKind_33 : decode cX4_ofKind 33 = .ok (.goto 4, 3) := by decide +kernel
theorem dX4_ofKind_36 : decode cX4_ofKind 36 = .ok (.iconst 0, 1) := by decide +kernel
theorem dX4_ofKind_37 : decode cX4_ofKind 37 = .ok (.iadd, 1) := by decide +kernel
theorem dX4_ofKind_38 : decode cX4_ofKind 38 = .ok (.istore_n 2, 1) := by decide +kernel
theorem dX4_ofKind_39 : decode cX4_ofKind 39 = .ok (.iinc 3 1, 3) := by decide +kernel
theorem dX4_ofKind_42 : decode cX4_ofKind 42 = .ok (.goto (-38), 3) := by decide +kernel
theorem dX4_ofKind_45 : decode cX4_ofKind 45 = .ok (.iload_n 2, 1) := by decide +kernel
theorem dX4_ofKind_46 : decode cX4_ofKind 46 = .ok (.ireturn, 1) := by decide +kernel
/-! X4_ofKind (I)I -/
abbrev rmX4_ofKind : Room := { frames := 1, cells := 0, slots := 0, locals := 21 }
theorem lkX4_ofKind_0 : Cond.fieldLink RX4 26 (TX4 5).1 (TX4 5).2.1 (TX4 5).2.2.1 ∈ wsX4_ofKind := by decide +kernel
theorem inX4_ofKind_X4 : ∀ w ∈ u_ws RX4 TX4 22, w ∈ wsX4_ofKind := by decide +kernel
noncomputable def fX4_ofKind_b37 (G : mm_G) (a0 : Nat) (x1 : Int32) (x3 : Int32) (sx0 : Int32) (sx1 : Int32) (σ : mm_M) : Option ((Int32 × mm_M) ⊕ (Int32 × Int32 × mm_M)) := some (.inr (sx1 + sx0, x3 + 1, σ))
noncomputable def fX4_ofKind_b4 (G : mm_G) (a0 : Nat) (x1 : Int32) (x2 : Int32) (x3 : Int32) (σ : mm_M) : Option ((Int32 × mm_M) ⊕ (Int32 × Int32 × mm_M)) := if (32 : Int32) < 0 ∨ mm_N G (mm_R G a0 5) ≤ (32 : Int32).toNatClampNeg then none else (if x3 < (σ.1 (mm_R G a0 5) (32 : Int32).toNatClampNeg) then (if ((33 : Int32) + x3) < 0 ∨ mm_N G (mm_R G a0 5) ≤ ((33 : Int32) + x3).toNatClampNeg then none else ((fX4_is G (σ.1 (mm_R G a0 5) ((33 : Int32) + x3).toNatClampNeg) x1 σ).bind (fun q26 => fX4_ofKind_b37 G a0 x1 x3 (if q26.1 = 0 then (0 : Int32) else (1 : Int32)) x2 q26.2))) else (some (.inl (x2, σ))))
noncomputable def fX4_ofKind_b0 (G : mm_G) (a0 : Nat) (x1 : Int32) (σ : mm_M) : Option ((Int32 × mm_M) ⊕ (Int32 × Int32 × mm_M)) := some (.inr ((0 : Int32), (0 : Int32), σ))
noncomputable def fX4_ofKind_s (G : mm_G) (a0 : Nat) (x1 : Int32) : (Int32 × Int32 × mm_M) → Option ((Int32 × mm_M) ⊕ (Int32 × Int32 × mm_M)) := (fun s => fX4_ofKind_b4 G a0 x1 s.1 s.2.1 s.2.2)
def PX4_ofKind (E : mm_E) (G : mm_G) (a0 : Nat) (x1 : Int32) (q : (Int32 × mm_M)) : (Int32 × Int32 × mm_M) → Prop := (fun s => mm_At E G 4 (mm_Qi E G q) s.2.2 4 [(0, .ref a0), (1, .int x1), (2, .int s.1), (3, .int s.2.1)] [])
noncomputable def fX4_ofKind (G : mm_G) (a0 : Nat) (x1 : Int32) (σ : mm_M) : Option (Int32 × mm_M) := mm_run (fX4_ofKind_b0 G a0 x1 σ) (fX4_ofKind_s G a0 x1)
set_option maxHeartbeats 4000000 in
set_option maxRecDepth 100000 in
theorem wX4_ofKind_b37 {E : mm_E} {G : mm_G} (X : mm_Cx E G cX4_ofKind 4 RX4 wsX4_ofKind rmX4_ofKind (some .int)) {a0 : Nat} {x1 : Int32} {x3 : Int32} {sx0 : Int32} {sx1 : Int32} {σ : mm_M} {q : (Int32 × mm_M)} (ha0 : mm_Is G 4 a0) {o : (Int32 × mm_M) ⊕ (Int32 × Int32 × mm_M)} (h : fX4_ofKind_b37 G a0 x1 x3 sx0 sx1 σ = some o) (hk : mm_Ok q (PX4_ofKind E G a0 x1 q) o) : mm_At E G 4 (mm_Qi E G q) σ 37 [(0, .ref a0), (1, .int x1), (3, .int x3)] [.int sx0, .int sx1] := by
  unfold fX4_ofKind_b37 at h
  refine at_iadd (pc := 37) X dX4_ofKind_37 ?_
  refine at_istore_n (pc := 38) X 2 [(2, .int (sx1 + sx0)), (0, .ref a0), (1, .int x1), (3, .int x3)] dX4_ofKind_38 rfl (by decide) rfl ?_
  refine at_iinc (pc := 39) X 3 3 (x3 + 1) [(3, .int (x3 + 1)), (2, .int (sx1 + sx0)), (0, .ref a0), (1, .int x1)] dX4_ofKind_39 rfl (ii_1 _) (by decide) rfl ?_
  refine at_goto (pc := 42) X 4 dX4_ofKind_42 (by decide) ?_
  have h2 := mm_inr h hk; exact at_sub [2, 3, 1, 0] rfl h2
set_option maxHeartbeats 4000000 in
set_option maxRecDepth 100000 in
theorem wX4_ofKind_b4 {E : mm_E} {G : mm_G} (X : mm_Cx E G cX4_ofKind 4 RX4 wsX4_ofKind rmX4_ofKind (some .int)) {a0 : Nat} {x1 : Int32} {x2 : Int32} {x3 : Int32} {σ : mm_M} {q : (Int32 × mm_M)} (ha0 : mm_Is G 4 a0) {o : (Int32 × mm_M) ⊕ (Int32 × Int32 × mm_M)} (h : fX4_ofKind_b4 G a0 x1 x2 x3 σ = some o) (hk : mm_Ok q (PX4_ofKind E G a0 x1 q) o) : mm_At E G 4 (mm_Qi E G q) σ 4 [(0, .ref a0), (1, .int x1), (2, .int x2), (3, .int x3)] [] := by
  unfold fX4_ofKind_b4 at h
  refine at_iload_n (pc := 4) X 3 3 dX4_ofKind_4 rfl rfl ?_
  refine at_aload_n (pc := 5) X 0 0 dX4_ofKind_5 rfl rfl ?_
  refine at_get (pc := 6) X 4 5 (.ref (mm_R G a0 5)) ha0 (by decide) rfl inX4_ofKind_X4 (by decide) lkX4_ofKind_0 rfl dX4_ofKind_6 ?_
  refine at_bipush (pc := 9) X (32 : Int32) dX4_ofKind_9 ib_32 ?_
  obtain ⟨hc11, h⟩ := mm_chk h
  refine at_iald (pc := 11) X (wf_4_5 X.wf ha0) hc11 dX4_ofKind_11 ?_
  refine at_icmp_ge (pc := 12) X 45 dX4_ofKind_12 (by decide) (fun c12 => ?_) (fun c12 => ?_)
  · have h := mm_neg c12 h
    refine at_iload_n (pc := 45) X 2 2 dX4_ofKind_45 rfl rfl ?_
    exact at_iret (pc := 46) X (mm_inl h hk) dX4_ofKind_46
  · have h := mm_pos c12 h
    refine at_iload_n (pc := 15) X 2 2 dX4_ofKind_15 rfl rfl ?_
    refine at_aload_n (pc := 16) X 0 0 dX4_ofKind_16 rfl rfl ?_
    refine at_get (pc := 17) X 4 5 (.ref (mm_R G a0 5)) ha0 (by decide) rfl inX4_ofKind_X4 (by decide) lkX4_ofKind_0 rfl dX4_ofKind_17 ?_
    refine at_bipush (pc := 20) X (33 : Int32) dX4_ofKind_20 ib_33 ?_
    refine at_iload_n (pc := 22) X 3 3 dX4_ofKind_22 rfl rfl ?_
    refine at_iadd (pc := 23) X dX4_ofKind_23 ?_
    obtain ⟨hc24, h⟩ := mm_chk h
    refine at_iald (pc := 24) X (wf_4_5 X.wf ha0) hc24 dX4_ofKind_24 ?_
    refine at_iload_n (pc := 25) X 1 1 dX4_ofKind_25 rfl rfl ?_
    obtain ⟨q26, hq26, h⟩ := mm_bind h
    refine at_scalli (n := 2) (pc := 26) X [.int (σ.1 (mm_R G a0 5) ((33 : Int32) + x3).toNatClampNeg), .int x1] [.int x2] (mX4_is (eL E) X.wf hq26) gX4_ofKind_X4_is rfl ⟨rfl, rfl⟩ (by decide +kernel) ⟨by decide, by decide⟩ rfl rfl (Nat.le_of_ble_eq_true rfl) dX4_ofKind_26 ?_
    have hj29 : mm_At E G 4 (mm_Qi E G q) q26.2 37 [(0, .ref a0), (1, .int x1), (3, .int x3)] [.int (if q26.1 = 0 then (0 : Int32) else (1 : Int32)), .int x2] := by
      exact at_sub [0, 1, 2] rfl (wX4_ofKind_b37 X ha0 h hk)
    refine at_if_eq (pc := 29) X 36 dX4_ofKind_29 (by decide) (fun c29 => ?_) (fun c29 => ?_)
    · try simp only [if_pos c29] at hj29
      refine at_iconst (pc := 36) X (0 : Int32) dX4_ofKind_36 ic_0 ?_
      exact at_sub [0, 1, 3] rfl hj29
    · try simp only [if_neg c29] at hj29
      refine at_iconst (pc := 32) X (1 : Int32) dX4_ofKind_32 ic_1 ?_
      refine at_goto (pc := 33) X 37 dX4_ofKind_33 (by decide) ?_
      exact at_sub [0, 1, 3] rfl hj29
set_option maxHeartbeats 4000000 in
set_option maxRecDepth 100000 in
theorem wX4_ofKind_b0 {E : mm_E} {G : mm_G} (X : mm_Cx E G cX4_ofKind 4 RX4 wsX4_ofKind rmX4_ofKind (some .int)) {a0 : Nat} {x1 : Int32} {σ : mm_M} {q : (Int32 × mm_M)} (ha0 : mm_Is G 4 a0) {o : (Int32 × mm_M) ⊕ (Int32 × Int32 × mm_M)} (h : fX4_ofKind_b0 G a0 x1 σ = some o) (hk : mm_Ok q (PX4_ofKind E G a0 x1 q) o) : mm_At E G 4 (mm_Qi E G q) σ 0 [(0, .ref a0), (1, .int x1)] [] := by
  unfold fX4_ofKind_b0 at h
  refine at_iconst (pc := 0) X (0 : Int32) dX4_ofKind_0 ic_0 ?_
  refine at_istore_n (pc := 1) X 2 [(2, .int (0 : Int32)), (0, .ref a0), (1, .int x1)] dX4_ofKind_1 rfl (by decide) rfl ?_
  refine at_iconst (pc := 2) X (0 : Int32) dX4_ofKind_2 ic_0 ?_
  refine at_istore_n (pc := 3) X 3 [(3, .int (0 : Int32)), (2, .int (0 : Int32)), (0, .ref a0), (1, .int x1)] dX4_ofKind_3 rfl (by decide) rfl ?_
  have h2 := mm_inr h hk; exact at_sub [2, 3, 1, 0] rfl h2
set_option maxHeartbeats 4000000 in
set_option maxRecDepth 100000 in
theorem mX4_ofKind (l : Launch) {G : mm_G} (hwf : mm_WF G) {a0 : Nat} {x1 : Int32} {σ : mm_M} {q : (Int32 × mm_M)} (ha0 : mm_Is G 4 a0) (h : fX4_ofKind G a0 x1 σ = some q) : mm_Mi l yX4_ofKind wsX4_ofKind rmX4_ofKind G [.ref a0, .int x1] σ q := by
  refine mm_ofi (cc := cX4_ofKind) (nL := 4) (ret := some .int) (own := RX4) (lv0 := [(0, .ref a0), (1, .int x1)]) (by decide) rfl rfl (Nat.le_of_ble_eq_true rfl) rfl hwf (fun E hE X => ?_)
  obtain ⟨o, h0, hk⟩ := mm_run_ok (P := PX4_ofKind E G a0 x1 q) h (fun s o hs hk => by exact wX4_ofKind_b4 X ha0 hs hk)
  exact wX4_ofKind_b0 X ha0 h0 hk
set_option maxRecDepth 20000 in
theorem ggX4_count_X4_lettersOf : GoodIn wsX4_count wsX4_lettersOf := goodIn_r _ [9] (by decide +kernel) (by decide +kernel)
set_option maxRecDepth 20000 in
theorem gX4_count_X4_lettersOf : GoodIn wsX4_count (va_wsS RX4 169 yX4_lettersOf wsX4_lettersOf) := goodIn_app (goodIn_of _ (by decide +kernel)) ggX4_count_X4_lettersOf
set_option maxRecDepth 20000 in
theorem ggX4_count_X4_ofKind : GoodIn wsX4_count wsX4_ofKind := goodIn_r _ [13, 1, 14, 15, 8, 16, 17, 18, 19, 20, 21, 22, 23, 24, 25, 26, 27, 28, 29, 30, 31, 32, 33, 34, 35, 36, 37, 38] (by decide +kernel) (by decide +kernel)
set_option maxRecDepth 20000 in
theorem gX4_count_X4_ofKind : GoodIn wsX4_count (wsV RX4 213 RX4 yX4_ofKind wsX4_ofKind) := goodIn_app (goodIn_of _ (by decide +kernel)) ggX4_count_X4_ofKind
theorem dX4_count_0 : decode cX4_count 0 = .ok (.iconst 0, 1) := by decide +kernel
theorem dX4_count_1 : decode cX4_count 1 = .ok (.istore_n 2, 1) := by decide +kernel
theorem dX4_count_2 : decode cX4_count 2 = .ok (.iload_n 1, 1) := by decide +kernel
theorem dX4_count_3 : decode cX4_count 3 = .ok (.tableswitch 223 0 11 #[61, 69, 76, 81, 89, 96, 103, 110, 143, 175, 211, 217], 61) := by decide +kernel
theorem dX4_count_64 : decode cX4_count 64 = .ok (.aload_n 0, 1) := by decide +kernel
theorem dX4_count_65 : decode cX4_count 65 = .ok (.getfield 26, 3) := by decide +kernel
theorem dX4_count_68 : decode cX4_count 68 = .ok (.bipush 32, 2) := by decide +kernel
theorem dX4_count_70 : decode cX4_count 70 = .ok (.iaload, 1) := by decide +kernel
theorem dX4_count_71 : decode cX4_count 71 = .ok (.ireturn, 1) := by decide +kernel
theorem dX4_count_72 : decode cX4_count 72 = .ok (.aload_n 0, 1) := by decide +kernel
theorem dX4_count_73 : decode cX4_count 73 = .ok (.getfield 26, 3) := by decide +kernel
theorem dX4_count_76 : decode cX4_count 76 = .ok (.iconst 0, 1) := by decide +kernel
theorem dX4_count_77 : decode cX4_count 77 = .ok (.iaload, 1) := by decide +kernel
theorem dX4_count_78 : decode cX4_count 78 = .ok (.ireturn, 1) := by decide +kernel
theorem dX4_count_79 : decode cX4_count 79 = .ok (.aload_n 0, 1) := by decide +kernel
theorem dX4_count_80 : decode cX4_count 80 = .ok (.getfield 111, 3) := by decide +kernel
theorem dX4_count_83 : decode cX4_count 83 = .ok (.ireturn, 1) := by decide +kernel
theorem dX4_count_84 : decode cX4_count 84 = .ok (.aload_n 0, 1) := by decide +kernel
theorem dX4_count_85 : decode cX4_count 85 = .ok (.getfield 26, 3) := by decide +kernel
theorem dX4_count_88 : decode cX4_count 88 = .ok (.invokestatic 169, 3) := by decide +kernel
theorem dX4_count_91 : decode cX4_count 91 = .ok (.ireturn, 1) := by decide +kernel
theorem dX4_count_92 : decode cX4_count 92 = .ok (.aload_n 0, 1) := by decide +kernel
theorem dX4_count_93 : decode cX4_count 93 = .ok (.getfield 26, 3) := by decide +kernel
theorem dX4_count_96 : decode cX4_count 96 = .ok (.iconst 2, 1) := by decide +kernel
theorem dX4_count_97 : decode cX4_count 97 = .ok (.iaload, 1) := by decide +kernel
theorem dX4_count_98 : decode cX4_count 98 = .ok (.ireturn, 1) := by decide +kernel
theorem dX4_count_99 : decode cX4_count 99 = .ok (.aload_n 0, 1) := by decide +kernel
theorem dX4_count_100 : decode cX4_count 100 = .ok (.getfield 26, 3) := by decide +kernel
theorem dX4_count_103 : decode cX4_count 103 = .ok (.iconst 3, 1) := by decide +kernel
theorem dX4_count_104 : decode cX4_count 104 = .ok (.iaload, 1) := by decide +kernel
theorem dX4_count_105 : decode cX4_count 105 = .ok (.ireturn, 1) := by decide +kernel
theorem dX4_count_106 : decode cX4_count 106 = .ok (.aload_n 0, 1) := by decide +kernel
theorem dX4_count_107 : decode cX4_count 107 = .ok (.getfield 26, 3) := by decide +kernel
theorem dX4_count_110 : decode cX4_count 110 = .ok (.iconst 1, 1) := by decide +kernel
theorem dX4_count_111 : decode cX4_count 111 = .ok (.iaload, 1) := by decide +kernel
theorem dX4_count_112 : decode cX4_count 112 = .ok (.ireturn, 1) := by decide +kernel
theorem dX4_count_113 : decode cX4_count 113 = .ok (.iconst 0, 1) := by decide +kernel
theorem dX4_count_114 : decode cX4_count 114 = .ok (.istore_n 3, 1) := by decide +kernel
theorem dX4_count_115 : decode cX4_count 115 = .ok (.iload_n 3, 1) := by decide +kernel
theorem dX4_count_116 : decode cX4_count 116 = .ok (.bipush 6, 2) := by decide +kernel
theorem dX4_count_118 : decode cX4_count 118 = .ok (.if_icmp .ge 26, 3) := by decide +kernel
theorem dX4_count_121 : decode cX4_count 121 = .ok (.iload_n 2, 1) := by decide +kernel
theorem dX4_count_122 : decode cX4_count 122 = .ok (.aload_n 0, 1) := by decide +kernel
theorem dX4_count_123 : decode cX4_count 123 = .ok (.getfield 7, 3) := by decide +kernel
theorem dX4_count_126 : decode cX4_count 126 = .ok (.iload_n 3, 1) := by decide +kernel
theorem dX4_count_127 : decode cX4_count 127 = .ok (.iaload, 1) := by decide +kernel
theorem dX4_count_128 : decode cX4_count 128 = .ok (.ifCond .ge 7, 3) := by decide +kernel
theorem dX4_count_131 : decode cX4_count 131 = .ok (.iconst 0, 1) := by decide +kernel
theorem dX4_count_132 : decode cX4_count 132 = .ok (.goto 4, 3) := by decide +kernel
theorem dX4_count_135 : decode cX4_count 135 = .ok (.iconst 1, 1) := by decide +kernel
theorem dX4_count_136 : decode cX4_count 136 = .ok (.iadd, 1) := by decide +kernel
theorem dX4_count_137 : decode cX4_count 137 = .ok (.istore_n 2, 1) := by decide +kernel
theorem dX4_count_138 : decode cX4_count 138 = .ok (.iinc 3 1, 3) := by decide +kernel
theorem dX4_count_141 : decode cX4_count 141 = .ok (.goto (-26), 3) := by decide +kernel
theorem dX4_count_144 : decode cX4_count 144 = .ok (.iload_n 2, 1) := by decide +kernel
theorem dX4_count_145 : decode cX4_count 145 = .ok (.ireturn, 1) := by decide +kernel
theorem dX4_count_146 : decode cX4_count 146 = .ok (.iconst 0, 1) := by decide +kernel
theorem dX4_count_147 : decode cX4_count 147 = .ok (.istore_n 3, 1) := by decide +kernel
theorem dX4_count_148 : decode cX4_count 148 = .ok (.iload_n 3, 1) := by decide +kernel
theorem dX4_count_149 : decode cX4_count 149 = .ok (.iconst 4, 1) := by decide +kernel
theorem dX4_count_150 : decode cX4_count 150 = .ok (.if_icmp .ge 26, 3) := by decide +kernel
theorem dX4_count_153 : decode cX4_count 153 = .ok (.iload_n 2, 1) := by decide +kernel
theorem dX4_count_154 : decode cX4_count 154 = .ok (.aload_n 0, 1) := by decide +kernel
theorem dX4_count_155 : decode cX4_count 155 = .ok (.getfield 19, 3) := by decide +kernel
theorem dX4_count_158 : decode cX4_count 158 = .ok (.iload_n 3, 1) := by decide +kernel
theorem dX4_count_159 : decode cX4_count 159 = .ok (.iaload, 1) := by decide +kernel
theorem dX4_count_160 : decode cX4_count 160 = .ok (.ifCond .ge 7, 3) := by decide +kernel
theorem dX4_count_163 : decode cX4_count 163 = .ok (.iconst 0, 1) := by decide +kernel
theorem dX4_count_164 : decode cX4_count 164 = .ok (.goto 4, 3) := by decide +kernel
theorem dX4_count_167 : decode cX4_count 167 = .ok (.iconst 1, 1) := by decide +kernel
theorem dX4_count_168 : decode cX4_count 168 = .ok (.iadd, 1) := by decide +kernel
theorem dX4_count_169 : decode cX4_count 169 = .ok (.istore_n 2, 1) := by decide +kernel
theorem dX4_count_170 : decode cX4_count 170 = .ok (.iinc 3 1, 3) := by decide +kernel
theorem dX4_count_173 : decode cX4_count 173 = .ok (.goto (-25), 3) := by decide +kernel
theorem dX4_count_176 : decode cX4_count 176 = .ok (.iload_n 2, 1) := by decide +kernel
theorem dX4_count_177 : decode cX4_count 177 = .ok (.ireturn, 1) := by decide +kernel
theorem dX4_count_178 : decode cX4_count 178 = .ok (.iconst 0, 1) := by decide +kernel
theorem dX4_count_179 : decode cX4_count 179 = .ok (.istore_n 3, 1) := by decide +kernel
theorem dX4_count_180 : decode cX4_count 180 = .ok (.iload_n 3, 1) := by decide +kernel
theorem dX4_count_181 : decode cX4_count 181 = .ok (.aload_n 0, 1) := by decide +kernel
theorem dX4_count_182 : decode cX4_count 182 = .ok (.getfield 47, 3) := by decide +kernel
theorem dX4_count_185 : decode cX4_count 185 = .ok (.arraylength, 1) := by decide +kernel
theorem dX4_count_186 : decode cX4_count 186 = .ok (.if_icmp .ge 26, 3) := by decide +kernel
theorem dX4_count_189 : decode cX4_count 189 = .ok (.iload_n 2, 1) := by decide +kernel
theorem dX4_count_190 : decode cX4_count 190 = .ok (.aload_n 0, 1) := by decide +kernel
theorem dX4_count_191 : decode cX4_count 191 = .ok (.getfield 47, 3) := by decide +kernel
theorem dX4_count_194 : decode cX4_count 194 = .ok (.iload_n 3, 1) := by decide +kernel
theorem dX4_count_195 : decode cX4_count 195 = .ok (.iaload, 1) := by decide +kernel
theorem dX4_count_196 : decode cX4_count 196 = .ok (.ifCond .ge 7, 3) := by decide +kernel
theorem dX4_count_199 : decode cX4_count 199 = .ok (.iconst 0, 1) := by decide +kernel
theorem dX4_count_200 : decode cX4_count 200 = .ok (.goto 4, 3) := by decide +kernel
theorem dX4_count_203 : decode cX4_count 203 = .ok (.iconst 1, 1) := by decide +kernel
theorem dX4_count_204 : decode cX4_count 204 = .ok (.iadd, 1) := by decide +kernel
theorem dX4_count_205 : decode cX4_count 205 = .ok (.istore_n 2, 1) := by decide +kernel
theorem dX4_count_206 : decode cX4_count 206 = .ok (.iinc 3 1, 3) := by decide +kernel
theorem dX4_count_209 : decode cX4_count 209 = .ok (.goto (-29), 3) := by decide +kernel
theorem dX4_count_212 : decode cX4_count 212 = .ok (.iload_n 2, 1) := by decide +kernel
theorem dX4_count_213 : decode cX4_count 213 = .ok (.ireturn, 1) := by decide +kernel
theorem dX4_count_214 : decode cX4_count 214 = .ok (.aload_n 0, 1) := by decide +kernel
theorem dX4_count_215 : decode cX4_count 215 = .ok (.iconst 1, 1) := by decide +kernel
theorem dX4_count_216 : decode cX4_count 216 = .ok (.invokevirtual 213, 3) := by decide +kernel
theorem dX4_count_219 : decode cX4_count 219 = .ok (.ireturn, 1) := by decide +kernel
theorem dX4_count_220 : decode cX4_count 220 = .ok (.aload_n 0, 1) := by decide +kernel
theorem dX4_count_221 : decode cX4_count 221 = .ok (.iconst 2, 1) := by decide +kernel
theorem dX4_count_222 : decode cX4_count 222 = .ok (.invokevirtual 213, 3) := by decide +kernel
theorem dX4_count_225 : decode cX4_count 225 = .ok (.ireturn, 1) := by decide +kernel
theorem dX4_count_226 : decode cX4_count 226 = .ok (.iconst (-1), 1) := by decide +kernel
theorem dX4_count_227 : decode cX4_count 227 = .ok (.ireturn, 1) := by decide +kernel
/-! X4_count (I)I -/
abbrev rmX4_count : Room := { frames := 2, cells := 0, slots := 0, locals := 44 }
theorem lkX4_count_0 : Cond.fieldLink RX4 26 (TX4 5).1 (TX4 5).2.1 (TX4 5).2.2.1 ∈ wsX4_count := by decide +kernel
theorem lkX4_count_1 : Cond.fieldLink RX4 111 (TX4 10).1 (TX4 10).2.1 (TX4 10).2.2.1 ∈ wsX4_count := by decide +kernel
theorem lkX4_count_2 : Cond.fieldLink RX4 7 (TX4 0).1 (TX4 0).2.1 (TX4 0).2.2.1 ∈ wsX4_count := by decide +kernel
theorem lkX4_count_3 : Cond.fieldLink RX4 19 (TX4 3).1 (TX4 3).2.1 (TX4 3).2.2.1 ∈ wsX4_count := by decide +kernel
theorem lkX4_count_4 : Cond.fieldLink RX4 47 (TX4 13).1 (TX4 13).2.1 (TX4 13).2.2.1 ∈ wsX4_count := by decide +kernel
theorem inX4_count_X4 : ∀ w ∈ u_ws RX4 TX4 22, w ∈ wsX4_count := by decide +kernel
noncomputable def fX4_count_b136 (G : mm_G) (a0 : Nat) (x1 : Int32) (x3 : Int32) (sx0 : Int32) (sx1 : Int32) (σ : mm_M) : Option ((Int32 × mm_M) ⊕ ((Int32 × Int32 × mm_M) ⊕ ((Int32 × Int32 × mm_M) ⊕ (Int32 × Int32 × mm_M)))) := some (.inr (.inl (sx1 + sx0, x3 + 1, σ)))
noncomputable def fX4_count_b115 (G : mm_G) (a0 : Nat) (x1 : Int32) (x2 : Int32) (x3 : Int32) (σ : mm_M) : Option ((Int32 × mm_M) ⊕ ((Int32 × Int32 × mm_M) ⊕ ((Int32 × Int32 × mm_M) ⊕ (Int32 × Int32 × mm_M)))) := if x3 < (6 : Int32) then (if x3 < 0 ∨ mm_N G (mm_R G a0 0) ≤ x3.toNatClampNeg then none else (fX4_count_b136 G a0 x1 x3 (if (σ.1 (mm_R G a0 0) x3.toNatClampNeg) < 0 then (0 : Int32) else (1 : Int32)) x2 σ)) else (some (.inl (x2, σ)))
noncomputable def fX4_count_b168 (G : mm_G) (a0 : Nat) (x1 : Int32) (x3 : Int32) (sx0 : Int32) (sx1 : Int32) (σ : mm_M) : Option ((Int32 × mm_M) ⊕ ((Int32 × Int32 × mm_M) ⊕ ((Int32 × Int32 × mm_M) ⊕ (Int32 × Int32 × mm_M)))) := some (.inr (.inr (.inl (sx1 + sx0, x3 + 1, σ))))
noncomputable def fX4_count_b148 (G : mm_G) (a0 : Nat) (x1 : Int32) (x2 : Int32) (x3 : Int32) (σ : mm_M) : Option ((Int32 × mm_M) ⊕ ((Int32 × Int32 × mm_M) ⊕ ((Int32 × Int32 × mm_M) ⊕ (Int32 × Int32 × mm_M)))) := if x3 < (4 : Int32) then (if x3 < 0 ∨ mm_N G (mm_R G a0 3) ≤ x3.toNatClampNeg then none else (fX4_count_b168 G a0 x1 x3 (if (σ.1 (mm_R G a0 3) x3.toNatClampNeg) < 0 then (0 : Int32) else (1 : Int32)) x2 σ)) else (some (.inl (x2, σ)))
noncomputable def fX4_count_b204 (G : mm_G) (a0 : Nat) (x1 : Int32) (x3 : Int32) (sx0 : Int32) (sx1 : Int32) (σ : mm_M) : Option ((Int32 × mm_M) ⊕ ((Int32 × Int32 × mm_M) ⊕ ((Int32 × Int32 × mm_M) ⊕ (Int32 × Int32 × mm_M)))) := some (.inr (.inr (.inr (sx1 + sx0, x3 + 1, σ))))
noncomputable def fX4_count_b180 (G : mm_G) (a0 : Nat) (x1 : Int32) (x2 : Int32) (x3 : Int32) (σ : mm_M) : Option ((Int32 × mm_M) ⊕ ((Int32 × Int32 × mm_M) ⊕ ((Int32 × Int32 × mm_M) ⊕ (Int32 × Int32 × mm_M)))) := if x3 < (Int32.ofNat (mm_N G (mm_R G a0 13))) then (if x3 < 0 ∨ mm_N G (mm_R G a0 13) ≤ x3.toNatClampNeg then none else (fX4_count_b204 G a0 x1 x3 (if (σ.1 (mm_R G a0 13) x3.toNatClampNeg) < 0 then (0 : Int32) else (1 : Int32)) x2 σ)) else (some (.inl (x2, σ)))
noncomputable def fX4_count_b0 (G : mm_G) (a0 : Nat) (x1 : Int32) (σ : mm_M) : Option ((Int32 × mm_M) ⊕ ((Int32 × Int32 × mm_M) ⊕ ((Int32 × Int32 × mm_M) ⊕ (Int32 × Int32 × mm_M)))) := if x1 = 0 then (if (32 : Int32) < 0 ∨ mm_N G (mm_R G a0 5) ≤ (32 : Int32).toNatClampNeg then none else (some (.inl (σ.1 (mm_R G a0 5) (32 : Int32).toNatClampNeg, σ)))) else (if x1 = 1 then (if (0 : Int32) < 0 ∨ mm_N G (mm_R G a0 5) ≤ (0 : Int32).toNatClampNeg then none else (some (.inl (σ.1 (mm_R G a0 5) (0 : Int32).toNatClampNeg, σ)))) else (if x1 = 2 then (some (.inl (σ.1 a0 10, σ))) else (if x1 = 3 then ((fX4_lettersOf G (mm_R G a0 5) σ).bind (fun q88 => some (.inl (q88.1, q88.2)))) else (if x1 = 4 then (if (2 : Int32) < 0 ∨ mm_N G (mm_R G a0 5) ≤ (2 : Int32).toNatClampNeg then none else (some (.inl (σ.1 (mm_R G a0 5) (2 : Int32).toNatClampNeg, σ)))) else (if x1 = 5 then (if (3 : Int32) < 0 ∨ mm_N G (mm_R G a0 5) ≤ (3 : Int32).toNatClampNeg then none else (some (.inl (σ.1 (mm_R G a0 5) (3 : Int32).toNatClampNeg, σ)))) else (if x1 = 6 then (if (1 : Int32) < 0 ∨ mm_N G (mm_R G a0 5) ≤ (1 : Int32).toNatClampNeg then none else (some (.inl (σ.1 (mm_R G a0 5) (1 : Int32).toNatClampNeg, σ)))) else (if x1 = 7 then (some (.inr (.inl ((0 : Int32), (0 : Int32), σ)))) else (if x1 = 8 then (some (.inr (.inr (.inl ((0 : Int32), (0 : Int32), σ))))) else (if x1 = 9 then (some (.inr (.inr (.inr ((0 : Int32), (0 : Int32), σ))))) else (if x1 = 10 then ((fX4_ofKind G a0 (1 : Int32) σ).bind (fun q216 => some (.inl (q216.1, q216.2)))) else (if x1 = 11 then ((fX4_ofKind G a0 (2 : Int32) σ).bind (fun q222 => some (.inl (q222.1, q222.2)))) else (some (.inl ((-1 : Int32), σ))))))))))))))
noncomputable def fX4_count_s (G : mm_G) (a0 : Nat) (x1 : Int32) : ((Int32 × Int32 × mm_M) ⊕ ((Int32 × Int32 × mm_M) ⊕ (Int32 × Int32 × mm_M))) → Option ((Int32 × mm_M) ⊕ ((Int32 × Int32 × mm_M) ⊕ ((Int32 × Int32 × mm_M) ⊕ (Int32 × Int32 × mm_M)))) := (Sum.elim (fun s => fX4_count_b115 G a0 x1 s.1 s.2.1 s.2.2) (Sum.elim (fun s => fX4_count_b148 G a0 x1 s.1 s.2.1 s.2.2) (fun s => fX4_count_b180 G a0 x1 s.1 s.2.1 s.2.2)))
def PX4_count (E : mm_E) (G : mm_G) (a0 : Nat) (x1 : Int32) (q : (Int32 × mm_M)) : ((Int32 × Int32 × mm_M) ⊕ ((Int32 × Int32 × mm_M) ⊕ (Int32 × Int32 × mm_M))) → Prop := (Sum.elim (fun s => mm_At E G 4 (mm_Qi E G q) s.2.2 115 [(0, .ref a0), (2, .int s.1), (3, .int s.2.1)] []) (Sum.elim (fun s => mm_At E G 4 (mm_Qi E G q) s.2.2 148 [(0, .ref a0), (2, .int s.1), (3, .int s.2.1)] []) (fun s => mm_At E G 4 (mm_Qi E G q) s.2.2 180 [(0, .ref a0), (2, .int s.1), (3, .int s.2.1)] [])))
noncomputable def fX4_count (G : mm_G) (a0 : Nat) (x1 : Int32) (σ : mm_M) : Option (Int32 × mm_M) := mm_run (fX4_count_b0 G a0 x1 σ) (fX4_count_s G a0 x1)
set_option maxHeartbeats 4000000 in
set_option maxRecDepth 100000 in
theorem wX4_count_b136 {E : mm_E} {G : mm_G} (X : mm_Cx E G cX4_count 4 RX4 wsX4_count rmX4_count (some .int)) {a0 : Nat} {x1 : Int32} {x3 : Int32} {sx0 : Int32} {sx1 : Int32} {σ : mm_M} {q : (Int32 × mm_M)} (ha0 : mm_Is G 4 a0) {o : (Int32 × mm_M) ⊕ ((Int32 × Int32 × mm_M) ⊕ ((Int32 × Int32 × mm_M) ⊕ (Int32 × Int32 × mm_M)))} (h : fX4_count_b136 G a0 x1 x3 sx0 sx1 σ = some o) (hk : mm_Ok q (PX4_count E G a0 x1 q) o) : mm_At E G 4 (mm_Qi E G q) σ 136 [(0, .ref a0), (3, .int x3)] [.int sx0, .int sx1] := by
  unfold fX4_count_b136 at h
  refine at_iadd (pc := 136) X dX4_count_136 ?_
  refine at_istore_n (pc := 137) X 2 [(2, .int (sx1 + sx0)), (0, .ref a0), (3, .int x3)] dX4_count_137 rfl (by decide) rfl ?_
  refine at_iinc (pc := 138) X 3 2 (x3 + 1) [(3, .int (x3 + 1)), (2, .int (sx1 + sx0)), (0, .ref a0)] dX4_count_138 rfl (ii_1 _) (by decide) rfl ?_
  refine at_goto (pc := 141) X 115 dX4_count_141 (by decide) ?_
  have h2 := mm_inr h hk; exact at_sub [2, 1, 0] rfl h2
set_option maxHeartbeats 4000000 in
set_option maxRecDepth 100000 in
theorem wX4_count_b115 {E : mm_E} {G : mm_G} (X : mm_Cx E G cX4_count 4 RX4 wsX4_count rmX4_count (some .int)) {a0 : Nat} {x1 : Int32} {x2 : Int32} {x3 : Int32} {σ : mm_M} {q : (Int32 × mm_M)} (ha0 : mm_Is G 4 a0) {o : (Int32 × mm_M) ⊕ ((Int32 × Int32 × mm_M) ⊕ ((Int32 × Int32 × mm_M) ⊕ (Int32 × Int32 × mm_M)))} (h : fX4_count_b115 G a0 x1 x2 x3 σ = some o) (hk : mm_Ok q (PX4_count E G a0 x1 q) o) : mm_At E G 4 (mm_Qi E G q) σ 115 [(0, .ref a0), (2, .int x2), (3, .int x3)] [] := by
  unfold fX4_count_b115 at h
  refine at_iload_n (pc := 115) X 3 2 dX4_count_115 rfl rfl ?_
  refine at_bipush (pc := 116) X (6 : Int32) dX4_count_116 ib_6 ?_
  refine at_icmp_ge (pc := 118) X 144 dX4_count_118 (by decide) (fun c118 => ?_) (fun c118 => ?_)
  · have h := mm_neg c118 h
    refine at_iload_n (pc := 144) X 2 1 dX4_count_144 rfl rfl ?_
    exact at_iret (pc := 145) X (mm_inl h hk) dX4_count_145
  · have h := mm_pos c118 h
    refine at_iload_n (pc := 121) X 2 1 dX4_count_121 rfl rfl ?_
    refine at_aload_n (pc := 122) X 0 0 dX4_count_122 rfl rfl ?_
    refine at_get (pc := 123) X 4 0 (.ref (mm_R G a0 0)) ha0 (by decide) rfl inX4_count_X4 (by decide) lkX4_count_2 rfl dX4_count_123 ?_
    refine at_iload_n (pc := 126) X 3 2 dX4_count_126 rfl rfl ?_
    obtain ⟨hc127, h⟩ := mm_chk h
    refine at_iald (pc := 127) X (wf_4_0 X.wf ha0) hc127 dX4_count_127 ?_
    have hj128 : mm_At E G 4 (mm_Qi E G q) σ 136 [(0, .ref a0), (3, .int x3)] [.int (if (σ.1 (mm_R G a0 0) x3.toNatClampNeg) < 0 then (0 : Int32) else (1 : Int32)), .int x2] := by
      exact at_sub [0, 1] rfl (wX4_count_b136 X ha0 h hk)
    refine at_if_ge (pc := 128) X 135 dX4_count_128 (by decide) (fun c128 => ?_) (fun c128 => ?_)
    · try simp only [if_neg c128] at hj128
      refine at_iconst (pc := 135) X (1 : Int32) dX4_count_135 ic_1 ?_
      exact at_sub [0, 2] rfl hj128
    · try simp only [if_pos c128] at hj128
      refine at_iconst (pc := 131) X (0 : Int32) dX4_count_131 ic_0 ?_
      refine at_goto (pc := 132) X 136 dX4_count_132 (by decide) ?_
      exact at_sub [0, 2] rfl hj128
set_option maxHeartbeats 4000000 in
set_option maxRecDepth 100000 in
theorem wX4_count_b168 {E : mm_E} {G : mm_G} (X : mm_Cx E G cX4_count 4 RX4 wsX4_count rmX4_count (some .int)) {a0 : Nat} {x1 : Int32} {x3 : Int32} {sx0 : Int32} {sx1 : Int32} {σ : mm_M} {q : (Int32 × mm_M)} (ha0 : mm_Is G 4 a0) {o : (Int32 × mm_M) ⊕ ((Int32 × Int32 × mm_M) ⊕ ((Int32 × Int32 × mm_M) ⊕ (Int32 × Int32 × mm_M)))} (h : fX4_count_b168 G a0 x1 x3 sx0 sx1 σ = some o) (hk : mm_Ok q (PX4_count E G a0 x1 q) o) : mm_At E G 4 (mm_Qi E G q) σ 168 [(0, .ref a0), (3, .int x3)] [.int sx0, .int sx1] := by
  unfold fX4_count_b168 at h
  refine at_iadd (pc := 168) X dX4_count_168 ?_
  refine at_istore_n (pc := 169) X 2 [(2, .int (sx1 + sx0)), (0, .ref a0), (3, .int x3)] dX4_count_169 rfl (by decide) rfl ?_
  refine at_iinc (pc := 170) X 3 2 (x3 + 1) [(3, .int (x3 + 1)), (2, .int (sx1 + sx0)), (0, .ref a0)] dX4_count_170 rfl (ii_1 _) (by decide) rfl ?_
  refine at_goto (pc := 173) X 148 dX4_count_173 (by decide) ?_
  have h2 := mm_inr h hk; exact at_sub [2, 1, 0] rfl h2
set_option maxHeartbeats 4000000 in
set_option maxRecDepth 100000 in
theorem wX4_count_b148 {E : mm_E} {G : mm_G} (X : mm_Cx E G cX4_count 4 RX4 wsX4_count rmX4_count (some .int)) {a0 : Nat} {x1 : Int32} {x2 : Int32} {x3 : Int32} {σ : mm_M} {q : (Int32 × mm_M)} (ha0 : mm_Is G 4 a0) {o : (Int32 × mm_M) ⊕ ((Int32 × Int32 × mm_M) ⊕ ((Int32 × Int32 × mm_M) ⊕ (Int32 × Int32 × mm_M)))} (h : fX4_count_b148 G a0 x1 x2 x3 σ = some o) (hk : mm_Ok q (PX4_count E G a0 x1 q) o) : mm_At E G 4 (mm_Qi E G q) σ 148 [(0, .ref a0), (2, .int x2), (3, .int x3)] [] := by
  unfold fX4_count_b148 at h
  refine at_iload_n (pc := 148) X 3 2 dX4_count_148 rfl rfl ?_
  refine at_iconst (pc := 149) X (4 : Int32) dX4_count_149 ic_4 ?_
  refine at_icmp_ge (pc := 150) X 176 dX4_count_150 (by decide) (fun c150 => ?_) (fun c150 => ?_)
  · have h := mm_neg c150 h
    refine at_iload_n (pc := 176) X 2 1 dX4_count_176 rfl rfl ?_
    exact at_iret (pc := 177) X (mm_inl h hk) dX4_count_177
  · have h := mm_pos c150 h
    refine at_iload_n (pc := 153) X 2 1 dX4_count_153 rfl rfl ?_
    refine at_aload_n (pc := 154) X 0 0 dX4_count_154 rfl rfl ?_
    refine at_get (pc := 155) X 4 3 (.ref (mm_R G a0 3)) ha0 (by decide) rfl inX4_count_X4 (by decide) lkX4_count_3 rfl dX4_count_155 ?_
    refine at_iload_n (pc := 158) X 3 2 dX4_count_158 rfl rfl ?_
    obtain ⟨hc159, h⟩ := mm_chk h
    refine at_iald (pc := 159) X (wf_4_3 X.wf ha0) hc159 dX4_count_159 ?_
    have hj160 : mm_At E G 4 (mm_Qi E G q) σ 168 [(0, .ref a0), (3, .int x3)] [.int (if (σ.1 (mm_R G a0 3) x3.toNatClampNeg) < 0 then (0 : Int32) else (1 : Int32)), .int x2] := by
      exact at_sub [0, 1] rfl (wX4_count_b168 X ha0 h hk)
    refine at_if_ge (pc := 160) X 167 dX4_count_160 (by decide) (fun c160 => ?_) (fun c160 => ?_)
    · try simp only [if_neg c160] at hj160
      refine at_iconst (pc := 167) X (1 : Int32) dX4_count_167 ic_1 ?_
      exact at_sub [0, 2] rfl hj160
    · try simp only [if_pos c160] at hj160
      refine at_iconst (pc := 163) X (0 : Int32) dX4_count_163 ic_0 ?_
      refine at_goto (pc := 164) X 168 dX4_count_164 (by decide) ?_
      exact at_sub [0, 2] rfl hj160
set_option maxHeartbeats 4000000 in
set_option maxRecDepth 100000 in
theorem wX4_count_b204 {E : mm_E} {G : mm_G} (X : mm_Cx E G cX4_count 4 RX4 wsX4_count rmX4_count (some .int)) {a0 : Nat} {x1 : Int32} {x3 : Int32} {sx0 : Int32} {sx1 : Int32} {σ : mm_M} {q : (Int32 × mm_M)} (ha0 : mm_Is G 4 a0) {o : (Int32 × mm_M) ⊕ ((Int32 × Int32 × mm_M) ⊕ ((Int32 × Int32 × mm_M) ⊕ (Int32 × Int32 × mm_M)))} (h : fX4_count_b204 G a0 x1 x3 sx0 sx1 σ = some o) (hk : mm_Ok q (PX4_count E G a0 x1 q) o) : mm_At E G 4 (mm_Qi E G q) σ 204 [(0, .ref a0), (3, .int x3)] [.int sx0, .int sx1] := by
  unfold fX4_count_b204 at h
  refine at_iadd (pc := 204) X dX4_count_204 ?_
  refine at_istore_n (pc := 205) X 2 [(2, .int (sx1 + sx0)), (0, .ref a0), (3, .int x3)] dX4_count_205 rfl (by decide) rfl ?_
  refine at_iinc (pc := 206) X 3 2 (x3 + 1) [(3, .int (x3 + 1)), (2, .int (sx1 + sx0)), (0, .ref a0)] dX4_count_206 rfl (ii_1 _) (by decide) rfl ?_
  refine at_goto (pc := 209) X 180 dX4_count_209 (by decide) ?_
  have h2 := mm_inr h hk; exact at_sub [2, 1, 0] rfl h2
set_option maxHeartbeats 4000000 in
set_option maxRecDepth 100000 in
theorem wX4_count_b180 {E : mm_E} {G : mm_G} (X : mm_Cx E G cX4_count 4 RX4 wsX4_count rmX4_count (some .int)) {a0 : Nat} {x1 : Int32} {x2 : Int32} {x3 : Int32} {σ : mm_M} {q : (Int32 × mm_M)} (ha0 : mm_Is G 4 a0) {o : (Int32 × mm_M) ⊕ ((Int32 × Int32 × mm_M) ⊕ ((Int32 × Int32 × mm_M) ⊕ (Int32 × Int32 × mm_M)))} (h : fX4_count_b180 G a0 x1 x2 x3 σ = some o) (hk : mm_Ok q (PX4_count E G a0 x1 q) o) : mm_At E G 4 (mm_Qi E G q) σ 180 [(0, .ref a0), (2, .int x2), (3, .int x3)] [] := by
  unfold fX4_count_b180 at h
  refine at_iload_n (pc := 180) X 3 2 dX4_count_180 rfl rfl ?_
  refine at_aload_n (pc := 181) X 0 0 dX4_count_181 rfl rfl ?_
  refine at_get (pc := 182) X 4 13 (.ref (mm_R G a0 13)) ha0 (by decide) rfl inX4_count_X4 (by decide) lkX4_count_4 rfl dX4_count_182 ?_
  refine at_alen (pc := 185) X (wf_4_13 X.wf ha0) dX4_count_185 ?_
  refine at_icmp_ge (pc := 186) X 212 dX4_count_186 (by decide) (fun c186 => ?_) (fun c186 => ?_)
  · have h := mm_neg c186 h
    refine at_iload_n (pc := 212) X 2 1 dX4_count_212 rfl rfl ?_
    exact at_iret (pc := 213) X (mm_inl h hk) dX4_count_213
  · have h := mm_pos c186 h
    refine at_iload_n (pc := 189) X 2 1 dX4_count_189 rfl rfl ?_
    refine at_aload_n (pc := 190) X 0 0 dX4_count_190 rfl rfl ?_
    refine at_get (pc := 191) X 4 13 (.ref (mm_R G a0 13)) ha0 (by decide) rfl inX4_count_X4 (by decide) lkX4_count_4 rfl dX4_count_191 ?_
    refine at_iload_n (pc := 194) X 3 2 dX4_count_194 rfl rfl ?_
    obtain ⟨hc195, h⟩ := mm_chk h
    refine at_iald (pc := 195) X (wf_4_13 X.wf ha0) hc195 dX4_count_195 ?_
    have hj196 : mm_At E G 4 (mm_Qi E G q) σ 204 [(0, .ref a0), (3, .int x3)] [.int (if (σ.1 (mm_R G a0 13) x3.toNatClampNeg) < 0 then (0 : Int32) else (1 : Int32)), .int x2] := by
      exact at_sub [0, 1] rfl (wX4_count_b204 X ha0 h hk)
    refine at_if_ge (pc := 196) X 203 dX4_count_196 (by decide) (fun c196 => ?_) (fun c196 => ?_)
    · try simp only [if_neg c196] at hj196
      refine at_iconst (pc := 203) X (1 : Int32) dX4_count_203 ic_1 ?_
      exact at_sub [0, 2] rfl hj196
    · try simp only [if_pos c196] at hj196
      refine at_iconst (pc := 199) X (0 : Int32) dX4_count_199 ic_0 ?_
      refine at_goto (pc := 200) X 204 dX4_count_200 (by decide) ?_
      exact at_sub [0, 2] rfl hj196
set_option maxHeartbeats 4000000 in
set_option maxRecDepth 100000 in
theorem wX4_count_b0 {E : mm_E} {G : mm_G} (X : mm_Cx E G cX4_count 4 RX4 wsX4_count rmX4_count (some .int)) {a0 : Nat} {x1 : Int32} {σ : mm_M} {q : (Int32 × mm_M)} (ha0 : mm_Is G 4 a0) {o : (Int32 × mm_M) ⊕ ((Int32 × Int32 × mm_M) ⊕ ((Int32 × Int32 × mm_M) ⊕ (Int32 × Int32 × mm_M)))} (h : fX4_count_b0 G a0 x1 σ = some o) (hk : mm_Ok q (PX4_count E G a0 x1 q) o) : mm_At E G 4 (mm_Qi E G q) σ 0 [(0, .ref a0), (1, .int x1)] [] := by
  unfold fX4_count_b0 at h
  refine at_iconst (pc := 0) X (0 : Int32) dX4_count_0 ic_0 ?_
  refine at_istore_n (pc := 1) X 2 [(2, .int (0 : Int32)), (0, .ref a0), (1, .int x1)] dX4_count_1 rfl (by decide) rfl ?_
  refine at_iload_n (pc := 2) X 1 2 dX4_count_2 rfl rfl ?_
  by_cases c3_0 : x1 = 0
  · have h := mm_pos c3_0 h
    refine at_swIn (pc := 3) X 64 dX4_count_3 (by rw [c3_0]; decide) (by rw [c3_0]; decide) (by rw [c3_0]; rfl) (by decide) ?_
    refine at_aload_n (pc := 64) X 0 1 dX4_count_64 rfl rfl ?_
    refine at_get (pc := 65) X 4 5 (.ref (mm_R G a0 5)) ha0 (by decide) rfl inX4_count_X4 (by decide) lkX4_count_0 rfl dX4_count_65 ?_
    refine at_bipush (pc := 68) X (32 : Int32) dX4_count_68 ib_32 ?_
    obtain ⟨hc70, h⟩ := mm_chk h
    refine at_iald (pc := 70) X (wf_4_5 X.wf ha0) hc70 dX4_count_70 ?_
    exact at_iret (pc := 71) X (mm_inl h hk) dX4_count_71
  · have h := mm_neg c3_0 h
    by_cases c3_1 : x1 = 1
    · have h := mm_pos c3_1 h
      refine at_swIn (pc := 3) X 72 dX4_count_3 (by rw [c3_1]; decide) (by rw [c3_1]; decide) (by rw [c3_1]; rfl) (by decide) ?_
      refine at_aload_n (pc := 72) X 0 1 dX4_count_72 rfl rfl ?_
      refine at_get (pc := 73) X 4 5 (.ref (mm_R G a0 5)) ha0 (by decide) rfl inX4_count_X4 (by decide) lkX4_count_0 rfl dX4_count_73 ?_
      refine at_iconst (pc := 76) X (0 : Int32) dX4_count_76 ic_0 ?_
      obtain ⟨hc77, h⟩ := mm_chk h
      refine at_iald (pc := 77) X (wf_4_5 X.wf ha0) hc77 dX4_count_77 ?_
      exact at_iret (pc := 78) X (mm_inl h hk) dX4_count_78
    · have h := mm_neg c3_1 h
      by_cases c3_2 : x1 = 2
      · have h := mm_pos c3_2 h
        refine at_swIn (pc := 3) X 79 dX4_count_3 (by rw [c3_2]; decide) (by rw [c3_2]; decide) (by rw [c3_2]; rfl) (by decide) ?_
        refine at_aload_n (pc := 79) X 0 1 dX4_count_79 rfl rfl ?_
        refine at_get (pc := 80) X 4 10 (.int (σ.1 a0 10)) ha0 (by decide) rfl inX4_count_X4 (by decide) lkX4_count_1 rfl dX4_count_80 ?_
        exact at_iret (pc := 83) X (mm_inl h hk) dX4_count_83
      · have h := mm_neg c3_2 h
        by_cases c3_3 : x1 = 3
        · have h := mm_pos c3_3 h
          refine at_swIn (pc := 3) X 84 dX4_count_3 (by rw [c3_3]; decide) (by rw [c3_3]; decide) (by rw [c3_3]; rfl) (by decide) ?_
          refine at_aload_n (pc := 84) X 0 1 dX4_count_84 rfl rfl ?_
          refine at_get (pc := 85) X 4 5 (.ref (mm_R G a0 5)) ha0 (by decide) rfl inX4_count_X4 (by decide) lkX4_count_0 rfl dX4_count_85 ?_
          obtain ⟨q88, hq88, h⟩ := mm_bind h
          refine at_scalli (n := 1) (pc := 88) X [.ref (mm_R G a0 5)] [] (mX4_lettersOf (eL E) X.wf (wf_4_5 X.wf ha0) hq88) gX4_count_X4_lettersOf rfl ⟨rfl, rfl⟩ (by decide +kernel) ⟨by decide, by decide⟩ rfl rfl (Nat.le_of_ble_eq_true rfl) dX4_count_88 ?_
          exact at_iret (pc := 91) X (mm_inl h hk) dX4_count_91
        · have h := mm_neg c3_3 h
          by_cases c3_4 : x1 = 4
          · have h := mm_pos c3_4 h
            refine at_swIn (pc := 3) X 92 dX4_count_3 (by rw [c3_4]; decide) (by rw [c3_4]; decide) (by rw [c3_4]; rfl) (by decide) ?_
            refine at_aload_n (pc := 92) X 0 1 dX4_count_92 rfl rfl ?_
            refine at_get (pc := 93) X 4 5 (.ref (mm_R G a0 5)) ha0 (by decide) rfl inX4_count_X4 (by decide) lkX4_count_0 rfl dX4_count_93 ?_
            refine at_iconst (pc := 96) X (2 : Int32) dX4_count_96 ic_2 ?_
            obtain ⟨hc97, h⟩ := mm_chk h
            refine at_iald (pc := 97) X (wf_4_5 X.wf ha0) hc97 dX4_count_97 ?_
            exact at_iret (pc := 98) X (mm_inl h hk) dX4_count_98
          · have h := mm_neg c3_4 h
            by_cases c3_5 : x1 = 5
            · have h := mm_pos c3_5 h
              refine at_swIn (pc := 3) X 99 dX4_count_3 (by rw [c3_5]; decide) (by rw [c3_5]; decide) (by rw [c3_5]; rfl) (by decide) ?_
              refine at_aload_n (pc := 99) X 0 1 dX4_count_99 rfl rfl ?_
              refine at_get (pc := 100) X 4 5 (.ref (mm_R G a0 5)) ha0 (by decide) rfl inX4_count_X4 (by decide) lkX4_count_0 rfl dX4_count_100 ?_
              refine at_iconst (pc := 103) X (3 : Int32) dX4_count_103 ic_3 ?_
              obtain ⟨hc104, h⟩ := mm_chk h
              refine at_iald (pc := 104) X (wf_4_5 X.wf ha0) hc104 dX4_count_104 ?_
              exact at_iret (pc := 105) X (mm_inl h hk) dX4_count_105
            · have h := mm_neg c3_5 h
              by_cases c3_6 : x1 = 6
              · have h := mm_pos c3_6 h
                refine at_swIn (pc := 3) X 106 dX4_count_3 (by rw [c3_6]; decide) (by rw [c3_6]; decide) (by rw [c3_6]; rfl) (by decide) ?_
                refine at_aload_n (pc := 106) X 0 1 dX4_count_106 rfl rfl ?_
                refine at_get (pc := 107) X 4 5 (.ref (mm_R G a0 5)) ha0 (by decide) rfl inX4_count_X4 (by decide) lkX4_count_0 rfl dX4_count_107 ?_
                refine at_iconst (pc := 110) X (1 : Int32) dX4_count_110 ic_1 ?_
                obtain ⟨hc111, h⟩ := mm_chk h
                refine at_iald (pc := 111) X (wf_4_5 X.wf ha0) hc111 dX4_count_111 ?_
                exact at_iret (pc := 112) X (mm_inl h hk) dX4_count_112
              · have h := mm_neg c3_6 h
                by_cases c3_7 : x1 = 7
                · have h := mm_pos c3_7 h
                  refine at_swIn (pc := 3) X 113 dX4_count_3 (by rw [c3_7]; decide) (by rw [c3_7]; decide) (by rw [c3_7]; rfl) (by decide) ?_
                  refine at_iconst (pc := 113) X (0 : Int32) dX4_count_113 ic_0 ?_
                  refine at_istore_n (pc := 114) X 3 [(3, .int (0 : Int32)), (2, .int (0 : Int32)), (0, .ref a0), (1, .int x1)] dX4_count_114 rfl (by decide) rfl ?_
                  have h2 := mm_inr h hk; exact at_sub [2, 1, 0] rfl h2
                · have h := mm_neg c3_7 h
                  by_cases c3_8 : x1 = 8
                  · have h := mm_pos c3_8 h
                    refine at_swIn (pc := 3) X 146 dX4_count_3 (by rw [c3_8]; decide) (by rw [c3_8]; decide) (by rw [c3_8]; rfl) (by decide) ?_
                    refine at_iconst (pc := 146) X (0 : Int32) dX4_count_146 ic_0 ?_
                    refine at_istore_n (pc := 147) X 3 [(3, .int (0 : Int32)), (2, .int (0 : Int32)), (0, .ref a0), (1, .int x1)] dX4_count_147 rfl (by decide) rfl ?_
                    have h2 := mm_inr h hk; exact at_sub [2, 1, 0] rfl h2
                  · have h := mm_neg c3_8 h
                    by_cases c3_9 : x1 = 9
                    · have h := mm_pos c3_9 h
                      refine at_swIn (pc := 3) X 178 dX4_count_3 (by rw [c3_9]; decide) (by rw [c3_9]; decide) (by rw [c3_9]; rfl) (by decide) ?_
                      refine at_iconst (pc := 178) X (0 : Int32) dX4_count_178 ic_0 ?_
                      refine at_istore_n (pc := 179) X 3 [(3, .int (0 : Int32)), (2, .int (0 : Int32)), (0, .ref a0), (1, .int x1)] dX4_count_179 rfl (by decide) rfl ?_
                      have h2 := mm_inr h hk; exact at_sub [2, 1, 0] rfl h2
                    · have h := mm_neg c3_9 h
                      by_cases c3_10 : x1 = 10
                      · have h := mm_pos c3_10 h
                        refine at_swIn (pc := 3) X 214 dX4_count_3 (by rw [c3_10]; decide) (by rw [c3_10]; decide) (by rw [c3_10]; rfl) (by decide) ?_
                        refine at_aload_n (pc := 214) X 0 1 dX4_count_214 rfl rfl ?_
                        refine at_iconst (pc := 215) X (1 : Int32) dX4_count_215 ic_1 ?_
                        obtain ⟨q216, hq216, h⟩ := mm_bind h
                        refine at_calli (n := 1) (pc := 216) X 4 [.int (1 : Int32)] [] (mX4_ofKind (eL E) X.wf ha0 hq216) gX4_count_X4_ofKind rfl ⟨rfl, rfl⟩ (by decide +kernel) ⟨by decide, by decide⟩ (by decide) rfl ha0 rfl rfl (Nat.le_of_ble_eq_true rfl) dX4_count_216 ?_
                        exact at_iret (pc := 219) X (mm_inl h hk) dX4_count_219
                      · have h := mm_neg c3_10 h
                        by_cases c3_11 : x1 = 11
                        · have h := mm_pos c3_11 h
                          refine at_swIn (pc := 3) X 220 dX4_count_3 (by rw [c3_11]; decide) (by rw [c3_11]; decide) (by rw [c3_11]; rfl) (by decide) ?_
                          refine at_aload_n (pc := 220) X 0 1 dX4_count_220 rfl rfl ?_
                          refine at_iconst (pc := 221) X (2 : Int32) dX4_count_221 ic_2 ?_
                          obtain ⟨q222, hq222, h⟩ := mm_bind h
                          refine at_calli (n := 1) (pc := 222) X 4 [.int (2 : Int32)] [] (mX4_ofKind (eL E) X.wf ha0 hq222) gX4_count_X4_ofKind rfl ⟨rfl, rfl⟩ (by decide +kernel) ⟨by decide, by decide⟩ (by decide) rfl ha0 rfl rfl (Nat.le_of_ble_eq_true rfl) dX4_count_222 ?_
                          exact at_iret (pc := 225) X (mm_inl h hk) dX4_count_225
                        · have h := mm_neg c3_11 h
                          refine at_swOut (pc := 3) X 226 dX4_count_3 (sw_0_11 c3_0 c3_1 c3_2 c3_3 c3_4 c3_5 c3_6 c3_7 c3_8 c3_9 c3_10 c3_11) (by decide) ?_
                          refine at_iconst (pc := 226) X (-1 : Int32) dX4_count_226 ic_m1 ?_
                          exact at_iret (pc := 227) X (mm_inl h hk) dX4_count_227
set_option maxHeartbeats 4000000 in
set_option maxRecDepth 100000 in
theorem mX4_count (l : Launch) {G : mm_G} (hwf : mm_WF G) {a0 : Nat} {x1 : Int32} {σ : mm_M} {q : (Int32 × mm_M)} (ha0 : mm_Is G 4 a0) (h : fX4_count G a0 x1 σ = some q) : mm_Mi l yX4_count wsX4_count rmX4_count G [.ref a0, .int x1] σ q := by
  refine mm_ofi (cc := cX4_count) (nL := 4) (ret := some .int) (own := RX4) (lv0 := [(0, .ref a0), (1, .int x1)]) (by decide) rfl rfl (Nat.le_of_ble_eq_true rfl) rfl hwf (fun E hE X => ?_)
  obtain ⟨o, h0, hk⟩ := mm_run_ok (P := PX4_count E G a0 x1 q) h (fun s o hs hk => by cases s with | inl s => exact wX4_count_b115 X ha0 hs hk | inr s => (cases s with | inl s => exact wX4_count_b148 X ha0 hs hk | inr s => (exact wX4_count_b180 X ha0 hs hk)))
  exact wX4_count_b0 X ha0 h0 hk
theorem dX4_finding_0 : decode cX4_finding 0 = .ok (.aload_n 0, 1) := by decide +kernel
theorem dX4_finding_1 : decode cX4_finding 1 = .ok (.getfield 66, 3) := by decide +kernel
theorem dX4_finding_4 : decode cX4_finding 4 = .ok (.ireturn, 1) := by decide +kernel
/-! X4_finding ()I -/
abbrev rmX4_finding : Room := { frames := 0, cells := 0, slots := 0, locals := 0 }
theorem lkX4_finding_0 : Cond.fieldLink RX4 66 (TX4 17).1 (TX4 17).2.1 (TX4 17).2.2.1 ∈ wsX4_finding := by decide +kernel
theorem inX4_finding_X4 : ∀ w ∈ u_ws RX4 TX4 22, w ∈ wsX4_finding := by decide +kernel
noncomputable def fX4_finding (G : mm_G) (a0 : Nat) (σ : mm_M) : Option (Int32 × mm_M) := some (σ.1 a0 17, σ)
set_option maxHeartbeats 4000000 in
set_option maxRecDepth 100000 in
theorem wX4_finding_b0 {E : mm_E} {G : mm_G} (X : mm_Cx E G cX4_finding 1 RX4 wsX4_finding rmX4_finding (some .int)) {a0 : Nat} {σ : mm_M} {q : (Int32 × mm_M)} (ha0 : mm_Is G 4 a0) (h : fX4_finding G a0 σ = some q) : mm_At E G 1 (mm_Qi E G q) σ 0 [(0, .ref a0)] [] := by
  unfold fX4_finding at h
  refine at_aload_n (pc := 0) X 0 0 dX4_finding_0 rfl rfl ?_
  refine at_get (pc := 1) X 4 17 (.int (σ.1 a0 17)) ha0 (by decide) rfl inX4_finding_X4 (by decide) lkX4_finding_0 rfl dX4_finding_1 ?_
  exact at_iret (pc := 4) X (Option.some.inj h) dX4_finding_4
set_option maxHeartbeats 4000000 in
set_option maxRecDepth 100000 in
theorem mX4_finding (l : Launch) {G : mm_G} (hwf : mm_WF G) {a0 : Nat} {σ : mm_M} {q : (Int32 × mm_M)} (ha0 : mm_Is G 4 a0) (h : fX4_finding G a0 σ = some q) : mm_Mi l yX4_finding wsX4_finding rmX4_finding G [.ref a0] σ q := by
  refine mm_ofi (cc := cX4_finding) (nL := 1) (ret := some .int) (own := RX4) (lv0 := [(0, .ref a0)]) (by decide) rfl rfl (Nat.le_of_ble_eq_true rfl) rfl hwf (fun E hE X => ?_)
  exact wX4_finding_b0 X ha0 h
set_option maxRecDepth 20000 in
theorem ggX4_findings_X4_in : GoodIn wsX4_findings wsX4_in := goodIn_r _ [5] (by decide +kernel) (by decide +kernel)
set_option maxRecDepth 20000 in
theorem gX4_findings_X4_in : GoodIn wsX4_findings (va_wsS RX4 73 yX4_in wsX4_in) := goodIn_app (goodIn_of _ (by decide +kernel)) ggX4_findings_X4_in
theorem dX4_findings_0 : decode cX4_findings 0 = .ok (.iload_n 1, 1) := by decide +kernel
theorem dX4_findings_1 : decode cX4_findings 1 = .ok (.iconst 1, 1) := by decide +kernel
theorem dX4_findings_2 : decode cX4_findings 2 = .ok (.iconst 5, 1) := by decide +kernel
theorem dX4_findings_3 : decode cX4_findings 3 = .ok (.invokestatic 73, 3) := by decide +kernel
theorem dX4_findings_6 : decode cX4_findings 6 = .ok (.ifCond .eq 12, 3) := by decide +kernel
theorem dX4_findings_9 : decode cX4_findings 9 = .ok (.aload_n 0, 1) := by decide +kernel
theorem dX4_findings_10 : decode cX4_findings 10 = .ok (.getfield 54, 3) := by decide +kernel
theorem dX4_findings_13 : decode cX4_findings 13 = .ok (.iload_n 1, 1) := by decide +kernel
theorem dX4_findings_14 : decode cX4_findings 14 = .ok (.iaload, 1) := by decide +kernel
theorem dX4_findings_15 : decode cX4_findings 15 = .ok (.goto 4, 3) := by decide +kernel
theorem dX4_findings_18 : decode cX4_findings 18 = .ok (.iconst (-1), 1) := by decide +kernel
theorem dX4_findings_19 : decode cX4_findings 19 = .ok (.ireturn, 1) := by decide +kernel
/-! X4_findings (I)I -/
abbrev rmX4_findings : Room := { frames := 1, cells := 0, slots := 0, locals := 22 }
theorem lkX4_findings_0 : Cond.fieldLink RX4 54 (TX4 18).1 (TX4 18).2.1 (TX4 18).2.2.1 ∈ wsX4_findings := by decide +kernel
theorem inX4_findings_X4 : ∀ w ∈ u_ws RX4 TX4 22, w ∈ wsX4_findings := by decide +kernel
noncomputable def fX4_findings (G : mm_G) (a0 : Nat) (x1 : Int32) (σ : mm_M) : Option (Int32 × mm_M) := (fX4_in G x1 (1 : Int32) (5 : Int32) σ).bind (fun q3 => if q3.1 = 0 then (some ((-1 : Int32), q3.2)) else (if x1 < 0 ∨ mm_N G (mm_R G a0 18) ≤ x1.toNatClampNeg then none else (some (q3.2.1 (mm_R G a0 18) x1.toNatClampNeg, q3.2))))
set_option maxHeartbeats 4000000 in
set_option maxRecDepth 100000 in
theorem wX4_findings_b0 {E : mm_E} {G : mm_G} (X : mm_Cx E G cX4_findings 2 RX4 wsX4_findings rmX4_findings (some .int)) {a0 : Nat} {x1 : Int32} {σ : mm_M} {q : (Int32 × mm_M)} (ha0 : mm_Is G 4 a0) (h : fX4_findings G a0 x1 σ = some q) : mm_At E G 2 (mm_Qi E G q) σ 0 [(0, .ref a0), (1, .int x1)] [] := by
  unfold fX4_findings at h
  refine at_iload_n (pc := 0) X 1 1 dX4_findings_0 rfl rfl ?_
  refine at_iconst (pc := 1) X (1 : Int32) dX4_findings_1 ic_1 ?_
  refine at_iconst (pc := 2) X (5 : Int32) dX4_findings_2 ic_5 ?_
  obtain ⟨q3, hq3, h⟩ := mm_bind h
  refine at_scalli (n := 3) (pc := 3) X [.int x1, .int (1 : Int32), .int (5 : Int32)] [] (mX4_in (eL E) X.wf hq3) gX4_findings_X4_in rfl ⟨rfl, rfl⟩ (by decide +kernel) ⟨by decide, by decide⟩ rfl rfl (Nat.le_of_ble_eq_true rfl) dX4_findings_3 ?_
  refine at_if_eq (pc := 6) X 18 dX4_findings_6 (by decide) (fun c6 => ?_) (fun c6 => ?_)
  · have h := mm_pos c6 h
    refine at_iconst (pc := 18) X (-1 : Int32) dX4_findings_18 ic_m1 ?_
    exact at_iret (pc := 19) X (Option.some.inj h) dX4_findings_19
  · have h := mm_neg c6 h
    refine at_aload_n (pc := 9) X 0 0 dX4_findings_9 rfl rfl ?_
    refine at_get (pc := 10) X 4 18 (.ref (mm_R G a0 18)) ha0 (by decide) rfl inX4_findings_X4 (by decide) lkX4_findings_0 rfl dX4_findings_10 ?_
    refine at_iload_n (pc := 13) X 1 1 dX4_findings_13 rfl rfl ?_
    obtain ⟨hc14, h⟩ := mm_chk h
    refine at_iald (pc := 14) X (wf_4_18 X.wf ha0) hc14 dX4_findings_14 ?_
    refine at_goto (pc := 15) X 19 dX4_findings_15 (by decide) ?_
    exact at_iret (pc := 19) X (Option.some.inj h) dX4_findings_19
set_option maxHeartbeats 4000000 in
set_option maxRecDepth 100000 in
theorem mX4_findings (l : Launch) {G : mm_G} (hwf : mm_WF G) {a0 : Nat} {x1 : Int32} {σ : mm_M} {q : (Int32 × mm_M)} (ha0 : mm_Is G 4 a0) (h : fX4_findings G a0 x1 σ = some q) : mm_Mi l yX4_findings wsX4_findings rmX4_findings G [.ref a0, .int x1] σ q := by
  refine mm_ofi (cc := cX4_findings) (nL := 2) (ret := some .int) (own := RX4) (lv0 := [(0, .ref a0), (1, .int x1)]) (by decide) rfl rfl (Nat.le_of_ble_eq_true rfl) rfl hwf (fun E hE X => ?_)
  exact wX4_findings_b0 X ha0 h
