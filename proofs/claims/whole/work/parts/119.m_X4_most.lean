/-! X4_most X4_best X4_silence -/
set_option maxRecDepth 20000 in
theorem ggX4_most_X4_in : GoodIn wsX4_most wsX4_in := goodIn_r _ [8] (by decide +kernel) (by decide +kernel)
set_option maxRecDepth 20000 in
theorem gX4_most_X4_in : GoodIn wsX4_most (va_wsS RX4 73 yX4_in wsX4_in) := goodIn_app (goodIn_of _ (by decide +kernel)) ggX4_most_X4_in
set_option maxRecDepth 20000 in
theorem ggX4_most_X4_copies : GoodIn wsX4_most wsX4_copies := goodIn_r _ [11] (by decide +kernel) (by decide +kernel)
set_option maxRecDepth 20000 in
theorem gX4_most_X4_copies : GoodIn wsX4_most (va_wsS RX4 165 yX4_copies wsX4_copies) := goodIn_app (goodIn_of _ (by decide +kernel)) ggX4_most_X4_copies
set_option maxRecDepth 20000 in
theorem ggX4_most_X4_goes : GoodIn wsX4_most wsX4_goes := goodIn_r _ [14, 15, 16, 7, 17, 18, 19, 20, 21, 22, 23, 24, 25, 26, 27, 28, 29, 30, 31, 32, 33, 34, 35, 36, 37, 38, 39, 40, 41] (by decide +kernel) (by decide +kernel)
set_option maxRecDepth 20000 in
theorem gX4_most_X4_goes : GoodIn wsX4_most (va_wsS RX4 159 yX4_goes wsX4_goes) := goodIn_app (goodIn_of _ (by decide +kernel)) ggX4_most_X4_goes
theorem dX4_most_0 : decode cX4_most 0 = .ok (.iload_n 1, 1) := by decide +kernel
theorem dX4_most_1 : decode cX4_most 1 = .ok (.iconst 1, 1) := by decide +kernel
theorem dX4_most_2 : decode cX4_most 2 = .ok (.bipush 100, 2) := by decide +kernel
theorem dX4_most_4 : decode cX4_most 4 = .ok (.invokestatic 73, 3) := by decide +kernel
theorem dX4_most_7 : decode cX4_most 7 = .ok (.ifCond .ne 5, 3) := by decide +kernel
theorem dX4_most_10 : decode cX4_most 10 = .ok (.iconst (-1), 1) := by decide +kernel
theorem dX4_most_11 : decode cX4_most 11 = .ok (.ireturn, 1) := by decide +kernel
theorem dX4_most_12 : decode cX4_most 12 = .ok (.aload_n 0, 1) := by decide +kernel
theorem dX4_most_13 : decode cX4_most 13 = .ok (.getfield 26, 3) := by decide +kernel
theorem dX4_most_16 : decode cX4_most 16 = .ok (.bipush 32, 2) := by decide +kernel
theorem dX4_most_18 : decode cX4_most 18 = .ok (.iaload, 1) := by decide +kernel
theorem dX4_most_19 : decode cX4_most 19 = .ok (.ifCond .ne 6, 3) := by decide +kernel
theorem dX4_most_22 : decode cX4_most 22 = .ok (.bipush (-4), 2) := by decide +kernel
theorem dX4_most_24 : decode cX4_most 24 = .ok (.ireturn, 1) := by decide +kernel
theorem dX4_most_25 : decode cX4_most 25 = .ok (.iconst 0, 1) := by decide +kernel
theorem dX4_most_26 : decode cX4_most 26 = .ok (.istore_n 2, 1) := by decide +kernel
theorem dX4_most_27 : decode cX4_most 27 = .ok (.iload_n 2, 1) := by decide +kernel
theorem dX4_most_28 : decode cX4_most 28 = .ok (.bipush 7, 2) := by decide +kernel
theorem dX4_most_30 : decode cX4_most 30 = .ok (.if_icmp .ge 16, 3) := by decide +kernel
theorem dX4_most_33 : decode cX4_most 33 = .ok (.aload_n 0, 1) := by decide +kernel
theorem dX4_most_34 : decode cX4_most 34 = .ok (.getfield 57, 3) := by decide +kernel
theorem dX4_most_37 : decode cX4_most 37 = .ok (.iload_n 2, 1) := by decide +kernel
theorem dX4_most_38 : decode cX4_most 38 = .ok (.iconst 0, 1) := by decide +kernel
theorem dX4_most_39 : decode cX4_most 39 = .ok (.iastore, 1) := by decide +kernel
theorem dX4_most_40 : decode cX4_most 40 = .ok (.iinc 2 1, 3) := by decide +kernel
theorem dX4_most_43 : decode cX4_most 43 = .ok (.goto (-16), 3) := by decide +kernel
theorem dX4_most_46 : decode cX4_most 46 = .ok (.aload_n 0, 1) := by decide +kernel
theorem dX4_most_47 : decode cX4_most 47 = .ok (.getfield 26, 3) := by decide +kernel
theorem dX4_most_50 : decode cX4_most 50 = .ok (.aload_n 0, 1) := by decide +kernel
theorem dX4_most_51 : decode cX4_most 51 = .ok (.getfield 32, 3) := by decide +kernel
theorem dX4_most_54 : decode cX4_most 54 = .ok (.invokestatic 165, 3) := by decide +kernel
theorem dX4_most_57 : decode cX4_most 57 = .ok (.iconst 0, 1) := by decide +kernel
theorem dX4_most_58 : decode cX4_most 58 = .ok (.istore_n 2, 1) := by decide +kernel
theorem dX4_most_59 : decode cX4_most 59 = .ok (.iload_n 2, 1) := by decide +kernel
theorem dX4_most_60 : decode cX4_most 60 = .ok (.iload_n 1, 1) := by decide +kernel
theorem dX4_most_61 : decode cX4_most 61 = .ok (.if_icmp .ge 56, 3) := by decide +kernel
theorem dX4_most_64 : decode cX4_most 64 = .ok (.aload_n 0, 1) := by decide +kernel
theorem dX4_most_65 : decode cX4_most 65 = .ok (.getfield 32, 3) := by decide +kernel
theorem dX4_most_68 : decode cX4_most 68 = .ok (.invokestatic 159, 3) := by decide +kernel
theorem dX4_most_71 : decode cX4_most 71 = .ok (.istore_n 3, 1) := by decide +kernel
theorem dX4_most_72 : decode cX4_most 72 = .ok (.iconst 0, 1) := by decide +kernel
theorem dX4_most_73 : decode cX4_most 73 = .ok (.istore 4, 2) := by decide +kernel
theorem dX4_most_75 : decode cX4_most 75 = .ok (.iload 4, 2) := by decide +kernel
theorem dX4_most_77 : decode cX4_most 77 = .ok (.bipush 7, 2) := by decide +kernel
theorem dX4_most_79 : decode cX4_most 79 = .ok (.if_icmp .ge 32, 3) := by decide +kernel
theorem dX4_most_82 : decode cX4_most 82 = .ok (.aload_n 0, 1) := by decide +kernel
theorem dX4_most_83 : decode cX4_most 83 = .ok (.getfield 57, 3) := by decide +kernel
theorem dX4_most_86 : decode cX4_most 86 = .ok (.iload 4, 2) := by decide +kernel
theorem dX4_most_88 : decode cX4_most 88 = .ok (.dup2, 1) := by decide +kernel
theorem dX4_most_89 : decode cX4_most 89 = .ok (.iaload, 1) := by decide +kernel
theorem dX4_most_90 : decode cX4_most 90 = .ok (.iload_n 3, 1) := by decide +kernel
theorem dX4_most_91 : decode cX4_most 91 = .ok (.iconst 1, 1) := by decide +kernel
theorem dX4_most_92 : decode cX4_most 92 = .ok (.iload 4, 2) := by decide +kernel
theorem dX4_most_94 : decode cX4_most 94 = .ok (.ishl, 1) := by decide +kernel
theorem dX4_most_95 : decode cX4_most 95 = .ok (.if_icmp .ne 7, 3) := by decide +kernel
theorem dX4_most_98 : decode cX4_most 98 = .ok (.iconst 1, 1) := by decide +kernel
theorem dX4_most_99 : decode cX4_most 99 = .ok (.goto 4, 3) := by decide +kernel
theorem dX4_most_102 : decode cX4_most 102 = .ok (.iconst 0, 1) := by decide +kernel
theorem dX4_most_103 : decode cX4_most 103 = .ok (.iadd, 1) := by decide +kernel
theorem dX4_most_104 : decode cX4_most 104 = .ok (.iastore, 1) := by decide +kernel
theorem dX4_most_105 : decode cX4_most 105 = .ok (.iinc 4 1, 3) := by decide +kernel
theorem dX4_most_108 : decode cX4_most 108 = .ok (.goto (-33), 3) := by decide +kernel
theorem dX4_most_111 : decode cX4_most 111 = .ok (.iinc 2 1, 3) := by decide +kernel
theorem dX4_most_114 : decode cX4_most 114 = .ok (.goto (-55), 3) := by decide +kernel
theorem dX4_most_117 : decode cX4_most 117 = .ok (.bipush (-9), 2) := by decide +kernel
theorem dX4_most_119 : decode cX4_most 119 = .ok (.istore_n 2, 1) := by decide +kernel
theorem dX4_most_120 : decode cX4_most 120 = .ok (.iconst 0, 1) := by decide +kernel
theorem dX4_most_121 : decode cX4_most 121 = .ok (.istore_n 3, 1) := by decide +kernel
theorem dX4_most_122 : decode cX4_most 122 = .ok (.iconst 0, 1) := by decide +kernel
theorem dX4_most_123 : decode cX4_most 123 = .ok (.istore 4, 2) := by decide +kernel
theorem dX4_most_125 : decode cX4_most 125 = .ok (.iload 4, 2) := by decide +kernel
theorem dX4_most_127 : decode cX4_most 127 = .ok (.bipush 7, 2) := by decide +kernel
theorem dX4_most_129 : decode cX4_most 129 = .ok (.if_icmp .ge 50, 3) := by decide +kernel
theorem dX4_most_132 : decode cX4_most 132 = .ok (.aload_n 0, 1) := by decide +kernel
theorem dX4_most_133 : decode cX4_most 133 = .ok (.getfield 57, 3) := by decide +kernel
theorem dX4_most_136 : decode cX4_most 136 = .ok (.iload 4, 2) := by decide +kernel
theorem dX4_most_138 : decode cX4_most 138 = .ok (.iaload, 1) := by decide +kernel
theorem dX4_most_139 : decode cX4_most 139 = .ok (.iload_n 3, 1) := by decide +kernel
theorem dX4_most_140 : decode cX4_most 140 = .ok (.if_icmp .le 8, 3) := by decide +kernel
theorem dX4_most_143 : decode cX4_most 143 = .ok (.iload 4, 2) := by decide +kernel
theorem dX4_most_145 : decode cX4_most 145 = .ok (.goto 4, 3) := by decide +kernel
theorem dX4_most_148 : decode cX4_most 148 = .ok (.iload_n 2, 1) := by decide +kernel
theorem dX4_most_149 : decode cX4_most 149 = .ok (.istore_n 2, 1) := by decide +kernel
theorem dX4_most_150 : decode cX4_most 150 = .ok (.aload_n 0, 1) := by decide +kernel
theorem dX4_most_151 : decode cX4_most 151 = .ok (.getfield 57, 3) := by decide +kernel
theorem dX4_most_154 : decode cX4_most 154 = .ok (.iload 4, 2) := by decide +kernel
theorem dX4_most_156 : decode cX4_most 156 = .ok (.iaload, 1) := by decide +kernel
theorem dX4_most_157 : decode cX4_most 157 = .ok (.iload_n 3, 1) := by decide +kernel
theorem dX4_most_158 : decode cX4_most 158 = .ok (.if_icmp .le 13, 3) := by decide +kernel
theorem dX4_most_161 : decode cX4_most 161 = .ok (.aload_n 0, 1) := by decide +kernel
theorem dX4_most_162 : decode cX4_most 162 = .ok (.getfield 57, 3) := by decide +kernel
theorem dX4_most_165 : decode cX4_most 165 = .ok (.iload 4, 2) := by decide +kernel
theorem dX4_most_167 : decode cX4_most 167 = .ok (.iaload, 1) := by decide +kernel
theorem dX4_most_168 : decode cX4_most 168 = .ok (.goto 4, 3) := by decide +kernel
theorem dX4_most_171 : decode cX4_most 171 = .ok (.iload_n 3, 1) := by decide +kernel
theorem dX4_most_172 : decode cX4_most 172 = .ok (.istore_n 3, 1) := by decide +kernel
theorem dX4_most_173 : decode cX4_most 173 = .ok (.iinc 4 1, 3) := by decide +kernel
theorem dX4_most_176 : decode cX4_most 176 = .ok (.goto (-51), 3) := by decide +kernel
theorem dX4_most_179 : decode cX4_most 179 = .ok (.aload_n 0, 1) := by decide +kernel
theorem dX4_most_180 : decode cX4_most 180 = .ok (.iload_n 2, 1) := by decide +kernel
theorem dX4_most_181 : decode cX4_most 181 = .ok (.bipush (-9), 2) := by decide +kernel
theorem dX4_most_183 : decode cX4_most 183 = .ok (.if_icmp .ne 10, 3) := by decide +kernel
theorem dX4_most_186 : decode cX4_most 186 = .ok (.aload_n 0, 1) := by decide +kernel
theorem dX4_most_187 : decode cX4_most 187 = .ok (.getfield 70, 3) := by decide +kernel
theorem dX4_most_190 : decode cX4_most 190 = .ok (.goto 4, 3) := by decide +kernel
theorem dX4_most_193 : decode cX4_most 193 = .ok (.iload_n 3, 1) := by decide +kernel
theorem dX4_most_194 : decode cX4_most 194 = .ok (.putfield 70, 3) := by decide +kernel
theorem dX4_most_197 : decode cX4_most 197 = .ok (.iload_n 2, 1) := by decide +kernel
theorem dX4_most_198 : decode cX4_most 198 = .ok (.ireturn, 1) := by decide +kernel
/-! X4_most (I)I -/
abbrev rmX4_most : Room := { frames := 5, cells := 0, slots := 0, locals := 113 }
theorem lkX4_most_0 : Cond.fieldLink RX4 26 (TX4 5).1 (TX4 5).2.1 (TX4 5).2.2.1 ∈ wsX4_most := by decide +kernel
theorem lkX4_most_1 : Cond.fieldLink RX4 32 (TX4 7).1 (TX4 7).2.1 (TX4 7).2.2.1 ∈ wsX4_most := by decide +kernel
theorem lkX4_most_2 : Cond.fieldLink RX4 70 (TX4 14).1 (TX4 14).2.1 (TX4 14).2.2.1 ∈ wsX4_most := by decide +kernel
theorem lkX4_most_3 : Cond.fieldLink RX4 57 (TX4 19).1 (TX4 19).2.1 (TX4 19).2.2.1 ∈ wsX4_most := by decide +kernel
theorem inX4_most_X4 : ∀ w ∈ u_ws RX4 TX4 22, w ∈ wsX4_most := by decide +kernel
noncomputable def fX4_most_b194 (G : mm_G) (a0 : Nat) (x1 : Int32) (x2 : Int32) (sx0 : Int32) (sa1 : Nat) (σ : mm_M) : Option ((Int32 × mm_M) ⊕ ((Int32 × mm_M) ⊕ ((Int32 × mm_M) ⊕ ((Int32 × Int32 × Int32 × mm_M) ⊕ (Int32 × Int32 × Int32 × mm_M))))) := some (.inl (x2, mm_up σ sa1 14 sx0))
noncomputable def fX4_most_b149 (G : mm_G) (a0 : Nat) (x1 : Int32) (x3 : Int32) (x4 : Int32) (sx0 : Int32) (σ : mm_M) : Option ((Int32 × mm_M) ⊕ ((Int32 × mm_M) ⊕ ((Int32 × mm_M) ⊕ ((Int32 × Int32 × Int32 × mm_M) ⊕ (Int32 × Int32 × Int32 × mm_M))))) := if x4 < 0 ∨ mm_N G (mm_R G a0 19) ≤ x4.toNatClampNeg then none else (if x3 < (σ.1 (mm_R G a0 19) x4.toNatClampNeg) then (if x4 < 0 ∨ mm_N G (mm_R G a0 19) ≤ x4.toNatClampNeg then none else (some (.inr (.inr (.inr (.inr (sx0, σ.1 (mm_R G a0 19) x4.toNatClampNeg, x4 + 1, σ))))))) else (some (.inr (.inr (.inr (.inr (sx0, x3, x4 + 1, σ)))))))
noncomputable def fX4_most_b125 (G : mm_G) (a0 : Nat) (x1 : Int32) (x2 : Int32) (x3 : Int32) (x4 : Int32) (σ : mm_M) : Option ((Int32 × mm_M) ⊕ ((Int32 × mm_M) ⊕ ((Int32 × mm_M) ⊕ ((Int32 × Int32 × Int32 × mm_M) ⊕ (Int32 × Int32 × Int32 × mm_M))))) := if x4 < (7 : Int32) then (if x4 < 0 ∨ mm_N G (mm_R G a0 19) ≤ x4.toNatClampNeg then none else (fX4_most_b149 G a0 x1 x3 x4 (if x3 < (σ.1 (mm_R G a0 19) x4.toNatClampNeg) then x4 else x2) σ)) else (fX4_most_b194 G a0 x1 x2 (if x2 = (-9 : Int32) then σ.1 a0 14 else x3) a0 σ)
noncomputable def fX4_most_b103 (G : mm_G) (a0 : Nat) (x1 : Int32) (x2 : Int32) (x3 : Int32) (x4 : Int32) (sx0 : Int32) (sx1 : Int32) (sx2 : Int32) (sa3 : Nat) (σ : mm_M) : Option ((Int32 × mm_M) ⊕ ((Int32 × mm_M) ⊕ ((Int32 × mm_M) ⊕ ((Int32 × Int32 × Int32 × mm_M) ⊕ (Int32 × Int32 × Int32 × mm_M))))) := if sx2 < 0 ∨ mm_N G sa3 ≤ sx2.toNatClampNeg then none else (some (.inr (.inr (.inr (.inl (x2, x3, x4 + 1, mm_up σ sa3 sx2.toNatClampNeg (sx1 + sx0)))))))
noncomputable def fX4_most_b75 (G : mm_G) (a0 : Nat) (x1 : Int32) (x2 : Int32) (x3 : Int32) (x4 : Int32) (σ : mm_M) : Option ((Int32 × mm_M) ⊕ ((Int32 × mm_M) ⊕ ((Int32 × mm_M) ⊕ ((Int32 × Int32 × Int32 × mm_M) ⊕ (Int32 × Int32 × Int32 × mm_M))))) := if x4 < (7 : Int32) then (if x4 < 0 ∨ mm_N G (mm_R G a0 19) ≤ x4.toNatClampNeg then none else (fX4_most_b103 G a0 x1 x2 x3 x4 (if x3 = ((1 : Int32) <<< (x4 &&& 31)) then (1 : Int32) else (0 : Int32)) (σ.1 (mm_R G a0 19) x4.toNatClampNeg) x4 (mm_R G a0 19) σ)) else (some (.inr (.inr (.inl (x2 + 1, σ)))))
noncomputable def fX4_most_b59 (G : mm_G) (a0 : Nat) (x1 : Int32) (x2 : Int32) (σ : mm_M) : Option ((Int32 × mm_M) ⊕ ((Int32 × mm_M) ⊕ ((Int32 × mm_M) ⊕ ((Int32 × Int32 × Int32 × mm_M) ⊕ (Int32 × Int32 × Int32 × mm_M))))) := if x2 < x1 then ((fX4_goes G (mm_R G a0 7) σ).bind (fun q68 => some (.inr (.inr (.inr (.inl (x2, q68.1, (0 : Int32), q68.2))))))) else (some (.inr (.inr (.inr (.inr ((-9 : Int32), (0 : Int32), (0 : Int32), σ))))))
noncomputable def fX4_most_b27 (G : mm_G) (a0 : Nat) (x1 : Int32) (x2 : Int32) (σ : mm_M) : Option ((Int32 × mm_M) ⊕ ((Int32 × mm_M) ⊕ ((Int32 × mm_M) ⊕ ((Int32 × Int32 × Int32 × mm_M) ⊕ (Int32 × Int32 × Int32 × mm_M))))) := if x2 < (7 : Int32) then (if x2 < 0 ∨ mm_N G (mm_R G a0 19) ≤ x2.toNatClampNeg then none else (some (.inr (.inl (x2 + 1, mm_up σ (mm_R G a0 19) x2.toNatClampNeg (0 : Int32)))))) else ((fX4_copies G (mm_R G a0 5) (mm_R G a0 7) σ).bind (fun q54 => some (.inr (.inr (.inl ((0 : Int32), q54))))))
noncomputable def fX4_most_b0 (G : mm_G) (a0 : Nat) (x1 : Int32) (σ : mm_M) : Option ((Int32 × mm_M) ⊕ ((Int32 × mm_M) ⊕ ((Int32 × mm_M) ⊕ ((Int32 × Int32 × Int32 × mm_M) ⊕ (Int32 × Int32 × Int32 × mm_M))))) := (fX4_in G x1 (1 : Int32) (100 : Int32) σ).bind (fun q4 => if q4.1 = 0 then (some (.inl ((-1 : Int32), q4.2))) else (if (32 : Int32) < 0 ∨ mm_N G (mm_R G a0 5) ≤ (32 : Int32).toNatClampNeg then none else (if (q4.2.1 (mm_R G a0 5) (32 : Int32).toNatClampNeg) = 0 then (some (.inl ((-4 : Int32), q4.2))) else (some (.inr (.inl ((0 : Int32), q4.2)))))))
noncomputable def fX4_most_s (G : mm_G) (a0 : Nat) (x1 : Int32) : ((Int32 × mm_M) ⊕ ((Int32 × mm_M) ⊕ ((Int32 × Int32 × Int32 × mm_M) ⊕ (Int32 × Int32 × Int32 × mm_M)))) → Option ((Int32 × mm_M) ⊕ ((Int32 × mm_M) ⊕ ((Int32 × mm_M) ⊕ ((Int32 × Int32 × Int32 × mm_M) ⊕ (Int32 × Int32 × Int32 × mm_M))))) := (Sum.elim (fun s => fX4_most_b27 G a0 x1 s.1 s.2) (Sum.elim (fun s => fX4_most_b59 G a0 x1 s.1 s.2) (Sum.elim (fun s => fX4_most_b75 G a0 x1 s.1 s.2.1 s.2.2.1 s.2.2.2) (fun s => fX4_most_b125 G a0 x1 s.1 s.2.1 s.2.2.1 s.2.2.2))))
def PX4_most (E : mm_E) (G : mm_G) (a0 : Nat) (x1 : Int32) (q : (Int32 × mm_M)) : ((Int32 × mm_M) ⊕ ((Int32 × mm_M) ⊕ ((Int32 × Int32 × Int32 × mm_M) ⊕ (Int32 × Int32 × Int32 × mm_M)))) → Prop := (Sum.elim (fun s => mm_At E G 5 (mm_Qi E G q) s.2 27 [(0, .ref a0), (1, .int x1), (2, .int s.1)] []) (Sum.elim (fun s => mm_At E G 5 (mm_Qi E G q) s.2 59 [(0, .ref a0), (1, .int x1), (2, .int s.1)] []) (Sum.elim (fun s => mm_At E G 5 (mm_Qi E G q) s.2.2.2 75 [(0, .ref a0), (1, .int x1), (2, .int s.1), (3, .int s.2.1), (4, .int s.2.2.1)] []) (fun s => mm_At E G 5 (mm_Qi E G q) s.2.2.2 125 [(0, .ref a0), (2, .int s.1), (3, .int s.2.1), (4, .int s.2.2.1)] []))))
noncomputable def fX4_most (G : mm_G) (a0 : Nat) (x1 : Int32) (σ : mm_M) : Option (Int32 × mm_M) := mm_run (fX4_most_b0 G a0 x1 σ) (fX4_most_s G a0 x1)
set_option maxHeartbeats 4000000 in
set_option maxRecDepth 100000 in
theorem wX4_most_b194 {E : mm_E} {G : mm_G} (X : mm_Cx E G cX4_most 5 RX4 wsX4_most rmX4_most (some .int)) {a0 : Nat} {x1 : Int32} {x2 : Int32} {sx0 : Int32} {sa1 : Nat} {σ : mm_M} {q : (Int32 × mm_M)} (ha0 : mm_Is G 4 a0) (hsa1 : mm_Is G 4 sa1) {o : (Int32 × mm_M) ⊕ ((Int32 × mm_M) ⊕ ((Int32 × mm_M) ⊕ ((Int32 × Int32 × Int32 × mm_M) ⊕ (Int32 × Int32 × Int32 × mm_M))))} (h : fX4_most_b194 G a0 x1 x2 sx0 sa1 σ = some o) (hk : mm_Ok q (PX4_most E G a0 x1 q) o) : mm_At E G 5 (mm_Qi E G q) σ 194 [(2, .int x2)] [.int sx0, .ref sa1] := by
  unfold fX4_most_b194 at h
  refine at_put (pc := 194) X 4 14 hsa1 (by decide) rfl inX4_most_X4 tyX4 tyX4_ok nmX4 (by decide) lkX4_most_2 rfl (ty := .int) rfl rfl rfl (Nat.le_of_ble_eq_true rfl) (ms_4_14 G _ _ _) mm_up_ne dX4_most_194 ?_
  refine at_iload_n (pc := 197) X 2 0 dX4_most_197 rfl rfl ?_
  exact at_iret (pc := 198) X (mm_inl h hk) dX4_most_198
set_option maxHeartbeats 4000000 in
set_option maxRecDepth 100000 in
theorem wX4_most_b149 {E : mm_E} {G : mm_G} (X : mm_Cx E G cX4_most 5 RX4 wsX4_most rmX4_most (some .int)) {a0 : Nat} {x1 : Int32} {x3 : Int32} {x4 : Int32} {sx0 : Int32} {σ : mm_M} {q : (Int32 × mm_M)} (ha0 : mm_Is G 4 a0) {o : (Int32 × mm_M) ⊕ ((Int32 × mm_M) ⊕ ((Int32 × mm_M) ⊕ ((Int32 × Int32 × Int32 × mm_M) ⊕ (Int32 × Int32 × Int32 × mm_M))))} (h : fX4_most_b149 G a0 x1 x3 x4 sx0 σ = some o) (hk : mm_Ok q (PX4_most E G a0 x1 q) o) : mm_At E G 5 (mm_Qi E G q) σ 149 [(0, .ref a0), (3, .int x3), (4, .int x4)] [.int sx0] := by
  unfold fX4_most_b149 at h
  refine at_istore_n (pc := 149) X 2 [(2, .int sx0), (0, .ref a0), (3, .int x3), (4, .int x4)] dX4_most_149 rfl (by decide) rfl ?_
  refine at_aload_n (pc := 150) X 0 1 dX4_most_150 rfl rfl ?_
  refine at_get (pc := 151) X 4 19 (.ref (mm_R G a0 19)) ha0 (by decide) rfl inX4_most_X4 (by decide) lkX4_most_3 rfl dX4_most_151 ?_
  refine at_iload (pc := 154) X 4 3 dX4_most_154 rfl ?_
  obtain ⟨hc156, h⟩ := mm_chk h
  refine at_iald (pc := 156) X (wf_4_19 X.wf ha0) hc156 dX4_most_156 ?_
  refine at_iload_n (pc := 157) X 3 2 dX4_most_157 rfl rfl ?_
  refine at_icmp_le (pc := 158) X 171 dX4_most_158 (by decide) (fun c158 => ?_) (fun c158 => ?_)
  · have h := mm_neg c158 h
    refine at_iload_n (pc := 171) X 3 2 dX4_most_171 rfl rfl ?_
    refine at_istore_n (pc := 172) X 3 [(3, .int x3), (2, .int sx0), (0, .ref a0), (4, .int x4)] dX4_most_172 rfl (by decide) rfl ?_
    refine at_iinc (pc := 173) X 4 3 (x4 + 1) [(4, .int (x4 + 1)), (3, .int x3), (2, .int sx0), (0, .ref a0)] dX4_most_173 rfl (ii_1 _) (by decide) rfl ?_
    refine at_goto (pc := 176) X 125 dX4_most_176 (by decide) ?_
    have h2 := mm_inr h hk; exact at_sub [3, 2, 1, 0] rfl h2
  · have h := mm_pos c158 h
    refine at_aload_n (pc := 161) X 0 1 dX4_most_161 rfl rfl ?_
    refine at_get (pc := 162) X 4 19 (.ref (mm_R G a0 19)) ha0 (by decide) rfl inX4_most_X4 (by decide) lkX4_most_3 rfl dX4_most_162 ?_
    refine at_iload (pc := 165) X 4 3 dX4_most_165 rfl ?_
    obtain ⟨hc167, h⟩ := mm_chk h
    refine at_iald (pc := 167) X (wf_4_19 X.wf ha0) hc167 dX4_most_167 ?_
    refine at_goto (pc := 168) X 172 dX4_most_168 (by decide) ?_
    refine at_istore_n (pc := 172) X 3 [(3, .int (σ.1 (mm_R G a0 19) x4.toNatClampNeg)), (2, .int sx0), (0, .ref a0), (4, .int x4)] dX4_most_172 rfl (by decide) rfl ?_
    refine at_iinc (pc := 173) X 4 3 (x4 + 1) [(4, .int (x4 + 1)), (3, .int (σ.1 (mm_R G a0 19) x4.toNatClampNeg)), (2, .int sx0), (0, .ref a0)] dX4_most_173 rfl (ii_1 _) (by decide) rfl ?_
    refine at_goto (pc := 176) X 125 dX4_most_176 (by decide) ?_
    have h2 := mm_inr h hk; exact at_sub [3, 2, 1, 0] rfl h2
set_option maxHeartbeats 4000000 in
set_option maxRecDepth 100000 in
theorem wX4_most_b125 {E : mm_E} {G : mm_G} (X : mm_Cx E G cX4_most 5 RX4 wsX4_most rmX4_most (some .int)) {a0 : Nat} {x1 : Int32} {x2 : Int32} {x3 : Int32} {x4 : Int32} {σ : mm_M} {q : (Int32 × mm_M)} (ha0 : mm_Is G 4 a0) {o : (Int32 × mm_M) ⊕ ((Int32 × mm_M) ⊕ ((Int32 × mm_M) ⊕ ((Int32 × Int32 × Int32 × mm_M) ⊕ (Int32 × Int32 × Int32 × mm_M))))} (h : fX4_most_b125 G a0 x1 x2 x3 x4 σ = some o) (hk : mm_Ok q (PX4_most E G a0 x1 q) o) : mm_At E G 5 (mm_Qi E G q) σ 125 [(0, .ref a0), (2, .int x2), (3, .int x3), (4, .int x4)] [] := by
  unfold fX4_most_b125 at h
  refine at_iload (pc := 125) X 4 3 dX4_most_125 rfl ?_
  refine at_bipush (pc := 127) X (7 : Int32) dX4_most_127 ib_7 ?_
  refine at_icmp_ge (pc := 129) X 179 dX4_most_129 (by decide) (fun c129 => ?_) (fun c129 => ?_)
  · have h := mm_neg c129 h
    refine at_aload_n (pc := 179) X 0 0 dX4_most_179 rfl rfl ?_
    refine at_iload_n (pc := 180) X 2 1 dX4_most_180 rfl rfl ?_
    refine at_bipush (pc := 181) X (-9 : Int32) dX4_most_181 ib_m9 ?_
    have hj183 : mm_At E G 5 (mm_Qi E G q) σ 194 [(2, .int x2)] [.int (if x2 = (-9 : Int32) then σ.1 a0 14 else x3), .ref a0] := by
      exact at_sub [0] rfl (wX4_most_b194 X ha0 ha0 h hk)
    refine at_icmp_ne (pc := 183) X 193 dX4_most_183 (by decide) (fun c183 => ?_) (fun c183 => ?_)
    · try simp only [if_neg c183] at hj183
      refine at_iload_n (pc := 193) X 3 2 dX4_most_193 rfl rfl ?_
      exact at_sub [1] rfl hj183
    · try simp only [if_pos c183] at hj183
      refine at_aload_n (pc := 186) X 0 0 dX4_most_186 rfl rfl ?_
      refine at_get (pc := 187) X 4 14 (.int (σ.1 a0 14)) ha0 (by decide) rfl inX4_most_X4 (by decide) lkX4_most_2 rfl dX4_most_187 ?_
      refine at_goto (pc := 190) X 194 dX4_most_190 (by decide) ?_
      exact at_sub [1] rfl hj183
  · have h := mm_pos c129 h
    refine at_aload_n (pc := 132) X 0 0 dX4_most_132 rfl rfl ?_
    refine at_get (pc := 133) X 4 19 (.ref (mm_R G a0 19)) ha0 (by decide) rfl inX4_most_X4 (by decide) lkX4_most_3 rfl dX4_most_133 ?_
    refine at_iload (pc := 136) X 4 3 dX4_most_136 rfl ?_
    obtain ⟨hc138, h⟩ := mm_chk h
    refine at_iald (pc := 138) X (wf_4_19 X.wf ha0) hc138 dX4_most_138 ?_
    refine at_iload_n (pc := 139) X 3 2 dX4_most_139 rfl rfl ?_
    have hj140 : mm_At E G 5 (mm_Qi E G q) σ 149 [(0, .ref a0), (3, .int x3), (4, .int x4)] [.int (if x3 < (σ.1 (mm_R G a0 19) x4.toNatClampNeg) then x4 else x2)] := by
      exact at_sub [0, 1, 2] rfl (wX4_most_b149 X ha0 h hk)
    refine at_icmp_le (pc := 140) X 148 dX4_most_140 (by decide) (fun c140 => ?_) (fun c140 => ?_)
    · try simp only [if_neg c140] at hj140
      refine at_iload_n (pc := 148) X 2 1 dX4_most_148 rfl rfl ?_
      exact at_sub [0, 2, 3] rfl hj140
    · try simp only [if_pos c140] at hj140
      refine at_iload (pc := 143) X 4 3 dX4_most_143 rfl ?_
      refine at_goto (pc := 145) X 149 dX4_most_145 (by decide) ?_
      exact at_sub [0, 2, 3] rfl hj140
set_option maxHeartbeats 4000000 in
set_option maxRecDepth 100000 in
theorem wX4_most_b103 {E : mm_E} {G : mm_G} (X : mm_Cx E G cX4_most 5 RX4 wsX4_most rmX4_most (some .int)) {a0 : Nat} {x1 : Int32} {x2 : Int32} {x3 : Int32} {x4 : Int32} {sx0 : Int32} {sx1 : Int32} {sx2 : Int32} {sa3 : Nat} {σ : mm_M} {q : (Int32 × mm_M)} (ha0 : mm_Is G 4 a0) (hsa3 : mm_Is G 6 sa3) {o : (Int32 × mm_M) ⊕ ((Int32 × mm_M) ⊕ ((Int32 × mm_M) ⊕ ((Int32 × Int32 × Int32 × mm_M) ⊕ (Int32 × Int32 × Int32 × mm_M))))} (h : fX4_most_b103 G a0 x1 x2 x3 x4 sx0 sx1 sx2 sa3 σ = some o) (hk : mm_Ok q (PX4_most E G a0 x1 q) o) : mm_At E G 5 (mm_Qi E G q) σ 103 [(0, .ref a0), (1, .int x1), (2, .int x2), (3, .int x3), (4, .int x4)] [.int sx0, .int sx1, .int sx2, .ref sa3] := by
  unfold fX4_most_b103 at h
  refine at_iadd (pc := 103) X dX4_most_103 ?_
  obtain ⟨hc104, h⟩ := mm_chk h
  refine at_iast (pc := 104) X hsa3 hc104 dX4_most_104 ?_
  refine at_iinc (pc := 105) X 4 4 (x4 + 1) [(4, .int (x4 + 1)), (0, .ref a0), (1, .int x1), (2, .int x2), (3, .int x3)] dX4_most_105 rfl (ii_1 _) (by decide) rfl ?_
  refine at_goto (pc := 108) X 75 dX4_most_108 (by decide) ?_
  have h2 := mm_inr h hk; exact at_sub [1, 2, 3, 4, 0] rfl h2
set_option maxHeartbeats 4000000 in
set_option maxRecDepth 100000 in
theorem wX4_most_b75 {E : mm_E} {G : mm_G} (X : mm_Cx E G cX4_most 5 RX4 wsX4_most rmX4_most (some .int)) {a0 : Nat} {x1 : Int32} {x2 : Int32} {x3 : Int32} {x4 : Int32} {σ : mm_M} {q : (Int32 × mm_M)} (ha0 : mm_Is G 4 a0) {o : (Int32 × mm_M) ⊕ ((Int32 × mm_M) ⊕ ((Int32 × mm_M) ⊕ ((Int32 × Int32 × Int32 × mm_M) ⊕ (Int32 × Int32 × Int32 × mm_M))))} (h : fX4_most_b75 G a0 x1 x2 x3 x4 σ = some o) (hk : mm_Ok q (PX4_most E G a0 x1 q) o) : mm_At E G 5 (mm_Qi E G q) σ 75 [(0, .ref a0), (1, .int x1), (2, .int x2), (3, .int x3), (4, .int x4)] [] := by
  unfold fX4_most_b75 at h
  refine at_iload (pc := 75) X 4 4 dX4_most_75 rfl ?_
  refine at_bipush (pc := 77) X (7 : Int32) dX4_most_77 ib_7 ?_
  refine at_icmp_ge (pc := 79) X 111 dX4_most_79 (by decide) (fun c79 => ?_) (fun c79 => ?_)
  · have h := mm_neg c79 h
    refine at_iinc (pc := 111) X 2 2 (x2 + 1) [(2, .int (x2 + 1)), (0, .ref a0), (1, .int x1), (3, .int x3), (4, .int x4)] dX4_most_111 rfl (ii_1 _) (by decide) rfl ?_
    refine at_goto (pc := 114) X 59 dX4_most_114 (by decide) ?_
    have h2 := mm_inr h hk; exact at_sub [1, 2, 0] rfl h2
  · have h := mm_pos c79 h
    refine at_aload_n (pc := 82) X 0 0 dX4_most_82 rfl rfl ?_
    refine at_get (pc := 83) X 4 19 (.ref (mm_R G a0 19)) ha0 (by decide) rfl inX4_most_X4 (by decide) lkX4_most_3 rfl dX4_most_83 ?_
    refine at_iload (pc := 86) X 4 4 dX4_most_86 rfl ?_
    refine at_dup2 (pc := 88) X dX4_most_88 rfl rfl ?_
    obtain ⟨hc89, h⟩ := mm_chk h
    refine at_iald (pc := 89) X (wf_4_19 X.wf ha0) hc89 dX4_most_89 ?_
    refine at_iload_n (pc := 90) X 3 3 dX4_most_90 rfl rfl ?_
    refine at_iconst (pc := 91) X (1 : Int32) dX4_most_91 ic_1 ?_
    refine at_iload (pc := 92) X 4 4 dX4_most_92 rfl ?_
    refine at_ishl (pc := 94) X dX4_most_94 ?_
    have hj95 : mm_At E G 5 (mm_Qi E G q) σ 103 [(0, .ref a0), (1, .int x1), (2, .int x2), (3, .int x3), (4, .int x4)] [.int (if x3 = ((1 : Int32) <<< (x4 &&& 31)) then (1 : Int32) else (0 : Int32)), .int (σ.1 (mm_R G a0 19) x4.toNatClampNeg), .int x4, .ref (mm_R G a0 19)] := by
      exact at_sub [0, 1, 2, 3, 4] rfl (wX4_most_b103 X ha0 (wf_4_19 X.wf ha0) h hk)
    refine at_icmp_ne (pc := 95) X 102 dX4_most_95 (by decide) (fun c95 => ?_) (fun c95 => ?_)
    · try simp only [if_neg c95] at hj95
      refine at_iconst (pc := 102) X (0 : Int32) dX4_most_102 ic_0 ?_
      exact at_sub [0, 1, 2, 3, 4] rfl hj95
    · try simp only [if_pos c95] at hj95
      refine at_iconst (pc := 98) X (1 : Int32) dX4_most_98 ic_1 ?_
      refine at_goto (pc := 99) X 103 dX4_most_99 (by decide) ?_
      exact at_sub [0, 1, 2, 3, 4] rfl hj95
set_option maxHeartbeats 4000000 in
set_option maxRecDepth 100000 in
theorem wX4_most_b59 {E : mm_E} {G : mm_G} (X : mm_Cx E G cX4_most 5 RX4 wsX4_most rmX4_most (some .int)) {a0 : Nat} {x1 : Int32} {x2 : Int32} {σ : mm_M} {q : (Int32 × mm_M)} (ha0 : mm_Is G 4 a0) {o : (Int32 × mm_M) ⊕ ((Int32 × mm_M) ⊕ ((Int32 × mm_M) ⊕ ((Int32 × Int32 × Int32 × mm_M) ⊕ (Int32 × Int32 × Int32 × mm_M))))} (h : fX4_most_b59 G a0 x1 x2 σ = some o) (hk : mm_Ok q (PX4_most E G a0 x1 q) o) : mm_At E G 5 (mm_Qi E G q) σ 59 [(0, .ref a0), (1, .int x1), (2, .int x2)] [] := by
  unfold fX4_most_b59 at h
  refine at_iload_n (pc := 59) X 2 2 dX4_most_59 rfl rfl ?_
  refine at_iload_n (pc := 60) X 1 1 dX4_most_60 rfl rfl ?_
  refine at_icmp_ge (pc := 61) X 117 dX4_most_61 (by decide) (fun c61 => ?_) (fun c61 => ?_)
  · have h := mm_neg c61 h
    refine at_bipush (pc := 117) X (-9 : Int32) dX4_most_117 ib_m9 ?_
    refine at_istore_n (pc := 119) X 2 [(2, .int (-9 : Int32)), (0, .ref a0), (1, .int x1)] dX4_most_119 rfl (by decide) rfl ?_
    refine at_iconst (pc := 120) X (0 : Int32) dX4_most_120 ic_0 ?_
    refine at_istore_n (pc := 121) X 3 [(3, .int (0 : Int32)), (2, .int (-9 : Int32)), (0, .ref a0), (1, .int x1)] dX4_most_121 rfl (by decide) rfl ?_
    refine at_iconst (pc := 122) X (0 : Int32) dX4_most_122 ic_0 ?_
    refine at_istore (pc := 123) X 4 [(4, .int (0 : Int32)), (3, .int (0 : Int32)), (2, .int (-9 : Int32)), (0, .ref a0), (1, .int x1)] dX4_most_123 (by decide) rfl ?_
    have h2 := mm_inr h hk; exact at_sub [3, 2, 1, 0] rfl h2
  · have h := mm_pos c61 h
    refine at_aload_n (pc := 64) X 0 0 dX4_most_64 rfl rfl ?_
    refine at_get (pc := 65) X 4 7 (.ref (mm_R G a0 7)) ha0 (by decide) rfl inX4_most_X4 (by decide) lkX4_most_1 rfl dX4_most_65 ?_
    obtain ⟨q68, hq68, h⟩ := mm_bind h
    refine at_scalli (n := 1) (pc := 68) X [.ref (mm_R G a0 7)] [] (mX4_goes (eL E) X.wf (wf_4_7 X.wf ha0) hq68) gX4_most_X4_goes rfl ⟨rfl, rfl⟩ (by decide +kernel) ⟨by decide, by decide⟩ rfl rfl (Nat.le_of_ble_eq_true rfl) dX4_most_68 ?_
    refine at_istore_n (pc := 71) X 3 [(3, .int q68.1), (0, .ref a0), (1, .int x1), (2, .int x2)] dX4_most_71 rfl (by decide) rfl ?_
    refine at_iconst (pc := 72) X (0 : Int32) dX4_most_72 ic_0 ?_
    refine at_istore (pc := 73) X 4 [(4, .int (0 : Int32)), (3, .int q68.1), (0, .ref a0), (1, .int x1), (2, .int x2)] dX4_most_73 (by decide) rfl ?_
    have h2 := mm_inr h hk; exact at_sub [2, 3, 4, 1, 0] rfl h2
set_option maxHeartbeats 4000000 in
set_option maxRecDepth 100000 in
theorem wX4_most_b27 {E : mm_E} {G : mm_G} (X : mm_Cx E G cX4_most 5 RX4 wsX4_most rmX4_most (some .int)) {a0 : Nat} {x1 : Int32} {x2 : Int32} {σ : mm_M} {q : (Int32 × mm_M)} (ha0 : mm_Is G 4 a0) {o : (Int32 × mm_M) ⊕ ((Int32 × mm_M) ⊕ ((Int32 × mm_M) ⊕ ((Int32 × Int32 × Int32 × mm_M) ⊕ (Int32 × Int32 × Int32 × mm_M))))} (h : fX4_most_b27 G a0 x1 x2 σ = some o) (hk : mm_Ok q (PX4_most E G a0 x1 q) o) : mm_At E G 5 (mm_Qi E G q) σ 27 [(0, .ref a0), (1, .int x1), (2, .int x2)] [] := by
  unfold fX4_most_b27 at h
  refine at_iload_n (pc := 27) X 2 2 dX4_most_27 rfl rfl ?_
  refine at_bipush (pc := 28) X (7 : Int32) dX4_most_28 ib_7 ?_
  refine at_icmp_ge (pc := 30) X 46 dX4_most_30 (by decide) (fun c30 => ?_) (fun c30 => ?_)
  · have h := mm_neg c30 h
    refine at_aload_n (pc := 46) X 0 0 dX4_most_46 rfl rfl ?_
    refine at_get (pc := 47) X 4 5 (.ref (mm_R G a0 5)) ha0 (by decide) rfl inX4_most_X4 (by decide) lkX4_most_0 rfl dX4_most_47 ?_
    refine at_aload_n (pc := 50) X 0 0 dX4_most_50 rfl rfl ?_
    refine at_get (pc := 51) X 4 7 (.ref (mm_R G a0 7)) ha0 (by decide) rfl inX4_most_X4 (by decide) lkX4_most_1 rfl dX4_most_51 ?_
    obtain ⟨q54, hq54, h⟩ := mm_bind h
    refine at_scallv (n := 2) (pc := 54) X [.ref (mm_R G a0 5), .ref (mm_R G a0 7)] [] (mX4_copies (eL E) X.wf (wf_4_5 X.wf ha0) (wf_4_7 X.wf ha0) hq54) gX4_most_X4_copies rfl ⟨rfl, rfl⟩ (by decide +kernel) ⟨by decide, by decide⟩ rfl rfl (Nat.le_of_ble_eq_true rfl) dX4_most_54 ?_
    refine at_iconst (pc := 57) X (0 : Int32) dX4_most_57 ic_0 ?_
    refine at_istore_n (pc := 58) X 2 [(2, .int (0 : Int32)), (0, .ref a0), (1, .int x1)] dX4_most_58 rfl (by decide) rfl ?_
    have h2 := mm_inr h hk; exact at_sub [1, 2, 0] rfl h2
  · have h := mm_pos c30 h
    refine at_aload_n (pc := 33) X 0 0 dX4_most_33 rfl rfl ?_
    refine at_get (pc := 34) X 4 19 (.ref (mm_R G a0 19)) ha0 (by decide) rfl inX4_most_X4 (by decide) lkX4_most_3 rfl dX4_most_34 ?_
    refine at_iload_n (pc := 37) X 2 2 dX4_most_37 rfl rfl ?_
    refine at_iconst (pc := 38) X (0 : Int32) dX4_most_38 ic_0 ?_
    obtain ⟨hc39, h⟩ := mm_chk h
    refine at_iast (pc := 39) X (wf_4_19 X.wf ha0) hc39 dX4_most_39 ?_
    refine at_iinc (pc := 40) X 2 2 (x2 + 1) [(2, .int (x2 + 1)), (0, .ref a0), (1, .int x1)] dX4_most_40 rfl (ii_1 _) (by decide) rfl ?_
    refine at_goto (pc := 43) X 27 dX4_most_43 (by decide) ?_
    have h2 := mm_inr h hk; exact at_sub [1, 2, 0] rfl h2
set_option maxHeartbeats 4000000 in
set_option maxRecDepth 100000 in
theorem wX4_most_b0 {E : mm_E} {G : mm_G} (X : mm_Cx E G cX4_most 5 RX4 wsX4_most rmX4_most (some .int)) {a0 : Nat} {x1 : Int32} {σ : mm_M} {q : (Int32 × mm_M)} (ha0 : mm_Is G 4 a0) {o : (Int32 × mm_M) ⊕ ((Int32 × mm_M) ⊕ ((Int32 × mm_M) ⊕ ((Int32 × Int32 × Int32 × mm_M) ⊕ (Int32 × Int32 × Int32 × mm_M))))} (h : fX4_most_b0 G a0 x1 σ = some o) (hk : mm_Ok q (PX4_most E G a0 x1 q) o) : mm_At E G 5 (mm_Qi E G q) σ 0 [(0, .ref a0), (1, .int x1)] [] := by
  unfold fX4_most_b0 at h
  refine at_iload_n (pc := 0) X 1 1 dX4_most_0 rfl rfl ?_
  refine at_iconst (pc := 1) X (1 : Int32) dX4_most_1 ic_1 ?_
  refine at_bipush (pc := 2) X (100 : Int32) dX4_most_2 ib_100 ?_
  obtain ⟨q4, hq4, h⟩ := mm_bind h
  refine at_scalli (n := 3) (pc := 4) X [.int x1, .int (1 : Int32), .int (100 : Int32)] [] (mX4_in (eL E) X.wf hq4) gX4_most_X4_in rfl ⟨rfl, rfl⟩ (by decide +kernel) ⟨by decide, by decide⟩ rfl rfl (Nat.le_of_ble_eq_true rfl) dX4_most_4 ?_
  refine at_if_ne (pc := 7) X 12 dX4_most_7 (by decide) (fun c7 => ?_) (fun c7 => ?_)
  · have h := mm_neg c7 h
    refine at_aload_n (pc := 12) X 0 0 dX4_most_12 rfl rfl ?_
    refine at_get (pc := 13) X 4 5 (.ref (mm_R G a0 5)) ha0 (by decide) rfl inX4_most_X4 (by decide) lkX4_most_0 rfl dX4_most_13 ?_
    refine at_bipush (pc := 16) X (32 : Int32) dX4_most_16 ib_32 ?_
    obtain ⟨hc18, h⟩ := mm_chk h
    refine at_iald (pc := 18) X (wf_4_5 X.wf ha0) hc18 dX4_most_18 ?_
    refine at_if_ne (pc := 19) X 25 dX4_most_19 (by decide) (fun c19 => ?_) (fun c19 => ?_)
    · have h := mm_neg c19 h
      refine at_iconst (pc := 25) X (0 : Int32) dX4_most_25 ic_0 ?_
      refine at_istore_n (pc := 26) X 2 [(2, .int (0 : Int32)), (0, .ref a0), (1, .int x1)] dX4_most_26 rfl (by decide) rfl ?_
      have h2 := mm_inr h hk; exact at_sub [1, 2, 0] rfl h2
    · have h := mm_pos c19 h
      refine at_bipush (pc := 22) X (-4 : Int32) dX4_most_22 ib_m4 ?_
      exact at_iret (pc := 24) X (mm_inl h hk) dX4_most_24
  · have h := mm_pos c7 h
    refine at_iconst (pc := 10) X (-1 : Int32) dX4_most_10 ic_m1 ?_
    exact at_iret (pc := 11) X (mm_inl h hk) dX4_most_11
set_option maxHeartbeats 4000000 in
set_option maxRecDepth 100000 in
theorem mX4_most (l : Launch) {G : mm_G} (hwf : mm_WF G) {a0 : Nat} {x1 : Int32} {σ : mm_M} {q : (Int32 × mm_M)} (ha0 : mm_Is G 4 a0) (h : fX4_most G a0 x1 σ = some q) : mm_Mi l yX4_most wsX4_most rmX4_most G [.ref a0, .int x1] σ q := by
  refine mm_ofi (cc := cX4_most) (nL := 5) (ret := some .int) (own := RX4) (lv0 := [(0, .ref a0), (1, .int x1)]) (by decide) rfl rfl (Nat.le_of_ble_eq_true rfl) rfl hwf (fun E hE X => ?_)
  obtain ⟨o, h0, hk⟩ := mm_run_ok (P := PX4_most E G a0 x1 q) h (fun s o hs hk => by cases s with | inl s => exact wX4_most_b27 X ha0 hs hk | inr s => (cases s with | inl s => exact wX4_most_b59 X ha0 hs hk | inr s => (cases s with | inl s => exact wX4_most_b75 X ha0 hs hk | inr s => (exact wX4_most_b125 X ha0 hs hk))))
  exact wX4_most_b0 X ha0 h0 hk
set_option maxRecDepth 20000 in
theorem ggX4_best_X4_isStation : GoodIn wsX4_best wsX4_isStation := goodIn_r _ [8, 1, 9, 10, 7, 11, 51, 52, 53, 54, 55, 56, 57, 58, 59, 60, 61, 62, 63, 64, 65, 66, 67, 68, 69, 70, 71, 72] (by decide +kernel) (by decide +kernel)
set_option maxRecDepth 20000 in
theorem gX4_best_X4_isStation : GoodIn wsX4_best (wsV RX4 132 RX4 yX4_isStation wsX4_isStation) := goodIn_app (goodIn_of _ (by decide +kernel)) ggX4_best_X4_isStation
set_option maxRecDepth 20000 in
theorem ggX4_best_X4_copies : GoodIn wsX4_best wsX4_copies := goodIn_r _ [14] (by decide +kernel) (by decide +kernel)
set_option maxRecDepth 20000 in
theorem gX4_best_X4_copies : GoodIn wsX4_best (va_wsS RX4 165 yX4_copies wsX4_copies) := goodIn_app (goodIn_of _ (by decide +kernel)) ggX4_best_X4_copies
set_option maxRecDepth 20000 in
theorem ggX4_best_X4_done : GoodIn wsX4_best wsX4_done := goodIn_r _ [17, 18, 19, 7, 20, 21, 22, 23, 24, 25, 26, 27, 28, 29, 30, 31, 32, 33, 34, 35, 36, 37, 38, 39, 40, 41, 42, 43, 44, 45, 46, 47, 48, 49, 50] (by decide +kernel) (by decide +kernel)
set_option maxRecDepth 20000 in
theorem gX4_best_X4_done : GoodIn wsX4_best (va_wsS RX4 172 yX4_done wsX4_done) := goodIn_app (goodIn_of _ (by decide +kernel)) ggX4_best_X4_done
theorem dX4_best_0 : decode cX4_best 0 = .ok (.aload_n 0, 1) := by decide +kernel
theorem dX4_best_1 : decode cX4_best 1 = .ok (.iload_n 1, 1) := by decide +kernel
theorem dX4_best_2 : decode cX4_best 2 = .ok (.invokevirtual 132, 3) := by decide +kernel
theorem dX4_best_5 : decode cX4_best 5 = .ok (.ifCond .ne 5, 3) := by decide +kernel
theorem dX4_best_8 : decode cX4_best 8 = .ok (.iconst (-1), 1) := by decide +kernel
theorem dX4_best_9 : decode cX4_best 9 = .ok (.ireturn, 1) := by decide +kernel
theorem dX4_best_10 : decode cX4_best 10 = .ok (.bipush (-9), 2) := by decide +kernel
theorem dX4_best_12 : decode cX4_best 12 = .ok (.istore_n 2, 1) := by decide +kernel
theorem dX4_best_13 : decode cX4_best 13 = .ok (.sipush 201, 3) := by decide +kernel
theorem dX4_best_16 : decode cX4_best 16 = .ok (.istore_n 3, 1) := by decide +kernel
theorem dX4_best_17 : decode cX4_best 17 = .ok (.iconst 0, 1) := by decide +kernel
theorem dX4_best_18 : decode cX4_best 18 = .ok (.istore 4, 2) := by decide +kernel
theorem dX4_best_20 : decode cX4_best 20 = .ok (.iload 4, 2) := by decide +kernel
theorem dX4_best_22 : decode cX4_best 22 = .ok (.bipush 10, 2) := by decide +kernel
theorem dX4_best_24 : decode cX4_best 24 = .ok (.if_icmp .ge 83, 3) := by decide +kernel
theorem dX4_best_27 : decode cX4_best 27 = .ok (.aload_n 0, 1) := by decide +kernel
theorem dX4_best_28 : decode cX4_best 28 = .ok (.getfield 26, 3) := by decide +kernel
theorem dX4_best_31 : decode cX4_best 31 = .ok (.aload_n 0, 1) := by decide +kernel
theorem dX4_best_32 : decode cX4_best 32 = .ok (.getfield 32, 3) := by decide +kernel
theorem dX4_best_35 : decode cX4_best 35 = .ok (.invokestatic 165, 3) := by decide +kernel
theorem dX4_best_38 : decode cX4_best 38 = .ok (.aload_n 0, 1) := by decide +kernel
theorem dX4_best_39 : decode cX4_best 39 = .ok (.getfield 32, 3) := by decide +kernel
theorem dX4_best_42 : decode cX4_best 42 = .ok (.iconst 4, 1) := by decide +kernel
theorem dX4_best_43 : decode cX4_best 43 = .ok (.iload_n 1, 1) := by decide +kernel
theorem dX4_best_44 : decode cX4_best 44 = .ok (.iadd, 1) := by decide +kernel
theorem dX4_best_45 : decode cX4_best 45 = .ok (.iload 4, 2) := by decide +kernel
theorem dX4_best_47 : decode cX4_best 47 = .ok (.iastore, 1) := by decide +kernel
theorem dX4_best_48 : decode cX4_best 48 = .ok (.aload_n 0, 1) := by decide +kernel
theorem dX4_best_49 : decode cX4_best 49 = .ok (.getfield 32, 3) := by decide +kernel
theorem dX4_best_52 : decode cX4_best 52 = .ok (.invokestatic 172, 3) := by decide +kernel
theorem dX4_best_55 : decode cX4_best 55 = .ok (.istore 5, 2) := by decide +kernel
theorem dX4_best_57 : decode cX4_best 57 = .ok (.iload 5, 2) := by decide +kernel
theorem dX4_best_59 : decode cX4_best 59 = .ok (.bipush (-9), 2) := by decide +kernel
theorem dX4_best_61 : decode cX4_best 61 = .ok (.if_icmp .eq 13, 3) := by decide +kernel
theorem dX4_best_64 : decode cX4_best 64 = .ok (.iload 5, 2) := by decide +kernel
theorem dX4_best_66 : decode cX4_best 66 = .ok (.iload_n 3, 1) := by decide +kernel
theorem dX4_best_67 : decode cX4_best 67 = .ok (.if_icmp .ge 7, 3) := by decide +kernel
theorem dX4_best_70 : decode cX4_best 70 = .ok (.iconst 1, 1) := by decide +kernel
theorem dX4_best_71 : decode cX4_best 71 = .ok (.goto 4, 3) := by decide +kernel
theorem dX4_best_74 : decode cX4_best 74 = .ok (.iconst 0, 1) := by decide +kernel
theorem dX4_best_75 : decode cX4_best 75 = .ok (.istore 6, 2) := by decide +kernel
theorem dX4_best_77 : decode cX4_best 77 = .ok (.iload 6, 2) := by decide +kernel
theorem dX4_best_79 : decode cX4_best 79 = .ok (.ifCond .eq 8, 3) := by decide +kernel
theorem dX4_best_82 : decode cX4_best 82 = .ok (.iload 4, 2) := by decide +kernel
theorem dX4_best_84 : decode cX4_best 84 = .ok (.goto 4, 3) := by decide +kernel
theorem dX4_best_87 : decode cX4_best 87 = .ok (.iload_n 2, 1) := by decide +kernel
theorem dX4_best_88 : decode cX4_best 88 = .ok (.istore_n 2, 1) := by decide +kernel
theorem dX4_best_89 : decode cX4_best 89 = .ok (.iload 6, 2) := by decide +kernel
theorem dX4_best_91 : decode cX4_best 91 = .ok (.ifCond .eq 8, 3) := by decide +kernel
theorem dX4_best_94 : decode cX4_best 94 = .ok (.iload 5, 2) := by decide +kernel
theorem dX4_best_96 : decode cX4_best 96 = .ok (.goto 4, 3) := by decide +kernel
theorem dX4_best_99 : decode cX4_best 99 = .ok (.iload_n 3, 1) := by decide +kernel
theorem dX4_best_100 : decode cX4_best 100 = .ok (.istore_n 3, 1) := by decide +kernel
theorem dX4_best_101 : decode cX4_best 101 = .ok (.iinc 4 1, 3) := by decide +kernel
theorem dX4_best_104 : decode cX4_best 104 = .ok (.goto (-84), 3) := by decide +kernel
theorem dX4_best_107 : decode cX4_best 107 = .ok (.aload_n 0, 1) := by decide +kernel
theorem dX4_best_108 : decode cX4_best 108 = .ok (.iload_n 2, 1) := by decide +kernel
theorem dX4_best_109 : decode cX4_best 109 = .ok (.bipush (-9), 2) := by decide +kernel
theorem dX4_best_111 : decode cX4_best 111 = .ok (.if_icmp .ne 10, 3) := by decide +kernel
theorem dX4_best_114 : decode cX4_best 114 = .ok (.aload_n 0, 1) := by decide +kernel
theorem dX4_best_115 : decode cX4_best 115 = .ok (.getfield 70, 3) := by decide +kernel
theorem dX4_best_118 : decode cX4_best 118 = .ok (.goto 4, 3) := by decide +kernel
theorem dX4_best_121 : decode cX4_best 121 = .ok (.iload_n 3, 1) := by decide +kernel
theorem dX4_best_122 : decode cX4_best 122 = .ok (.putfield 70, 3) := by decide +kernel
theorem dX4_best_125 : decode cX4_best 125 = .ok (.iload_n 2, 1) := by decide +kernel
theorem dX4_best_126 : decode cX4_best 126 = .ok (.ireturn, 1) := by decide +kernel
/-! X4_best (I)I -/
abbrev rmX4_best : Room := { frames := 6, cells := 0, slots := 0, locals := 134 }
theorem lkX4_best_0 : Cond.fieldLink RX4 70 (TX4 14).1 (TX4 14).2.1 (TX4 14).2.2.1 ∈ wsX4_best := by decide +kernel
theorem lkX4_best_1 : Cond.fieldLink RX4 26 (TX4 5).1 (TX4 5).2.1 (TX4 5).2.2.1 ∈ wsX4_best := by decide +kernel
theorem lkX4_best_2 : Cond.fieldLink RX4 32 (TX4 7).1 (TX4 7).2.1 (TX4 7).2.2.1 ∈ wsX4_best := by decide +kernel
theorem inX4_best_X4 : ∀ w ∈ u_ws RX4 TX4 22, w ∈ wsX4_best := by decide +kernel
noncomputable def fX4_best_b122 (G : mm_G) (a0 : Nat) (x1 : Int32) (x2 : Int32) (sx0 : Int32) (sa1 : Nat) (σ : mm_M) : Option ((Int32 × mm_M) ⊕ (Int32 × Int32 × Int32 × mm_M)) := some (.inl (x2, mm_up σ sa1 14 sx0))
noncomputable def fX4_best_b88 (G : mm_G) (a0 : Nat) (x1 : Int32) (x3 : Int32) (x4 : Int32) (x5 : Int32) (x6 : Int32) (sx0 : Int32) (σ : mm_M) : Option ((Int32 × mm_M) ⊕ (Int32 × Int32 × Int32 × mm_M)) := some (.inr (sx0, if x6 = 0 then x3 else x5, x4 + 1, σ))
noncomputable def fX4_best_b75 (G : mm_G) (a0 : Nat) (x1 : Int32) (x2 : Int32) (x3 : Int32) (x4 : Int32) (x5 : Int32) (sx0 : Int32) (σ : mm_M) : Option ((Int32 × mm_M) ⊕ (Int32 × Int32 × Int32 × mm_M)) := fX4_best_b88 G a0 x1 x3 x4 x5 sx0 (if sx0 = 0 then x2 else x4) σ
noncomputable def fX4_best_b20 (G : mm_G) (a0 : Nat) (x1 : Int32) (x2 : Int32) (x3 : Int32) (x4 : Int32) (σ : mm_M) : Option ((Int32 × mm_M) ⊕ (Int32 × Int32 × Int32 × mm_M)) := if x4 < (10 : Int32) then ((fX4_copies G (mm_R G a0 5) (mm_R G a0 7) σ).bind (fun q35 => if ((4 : Int32) + x1) < 0 ∨ mm_N G (mm_R G a0 7) ≤ ((4 : Int32) + x1).toNatClampNeg then none else ((fX4_done G (mm_R G a0 7) (mm_up q35 (mm_R G a0 7) ((4 : Int32) + x1).toNatClampNeg x4)).bind (fun q52 => fX4_best_b75 G a0 x1 x2 x3 x4 q52.1 (if q52.1 = (-9 : Int32) then (0 : Int32) else if q52.1 < x3 then (1 : Int32) else (0 : Int32)) q52.2)))) else (fX4_best_b122 G a0 x1 x2 (if x2 = (-9 : Int32) then σ.1 a0 14 else x3) a0 σ)
noncomputable def fX4_best_b0 (G : mm_G) (a0 : Nat) (x1 : Int32) (σ : mm_M) : Option ((Int32 × mm_M) ⊕ (Int32 × Int32 × Int32 × mm_M)) := (fX4_isStation G a0 x1 σ).bind (fun q2 => if q2.1 = 0 then (some (.inl ((-1 : Int32), q2.2))) else (some (.inr ((-9 : Int32), (201 : Int32), (0 : Int32), q2.2))))
noncomputable def fX4_best_s (G : mm_G) (a0 : Nat) (x1 : Int32) : (Int32 × Int32 × Int32 × mm_M) → Option ((Int32 × mm_M) ⊕ (Int32 × Int32 × Int32 × mm_M)) := (fun s => fX4_best_b20 G a0 x1 s.1 s.2.1 s.2.2.1 s.2.2.2)
def PX4_best (E : mm_E) (G : mm_G) (a0 : Nat) (x1 : Int32) (q : (Int32 × mm_M)) : (Int32 × Int32 × Int32 × mm_M) → Prop := (fun s => mm_At E G 7 (mm_Qi E G q) s.2.2.2 20 [(0, .ref a0), (1, .int x1), (2, .int s.1), (3, .int s.2.1), (4, .int s.2.2.1)] [])
noncomputable def fX4_best (G : mm_G) (a0 : Nat) (x1 : Int32) (σ : mm_M) : Option (Int32 × mm_M) := mm_run (fX4_best_b0 G a0 x1 σ) (fX4_best_s G a0 x1)
set_option maxHeartbeats 4000000 in
set_option maxRecDepth 100000 in
theorem wX4_best_b122 {E : mm_E} {G : mm_G} (X : mm_Cx E G cX4_best 7 RX4 wsX4_best rmX4_best (some .int)) {a0 : Nat} {x1 : Int32} {x2 : Int32} {sx0 : Int32} {sa1 : Nat} {σ : mm_M} {q : (Int32 × mm_M)} (ha0 : mm_Is G 4 a0) (hsa1 : mm_Is G 4 sa1) {o : (Int32 × mm_M) ⊕ (Int32 × Int32 × Int32 × mm_M)} (h : fX4_best_b122 G a0 x1 x2 sx0 sa1 σ = some o) (hk : mm_Ok q (PX4_best E G a0 x1 q) o) : mm_At E G 7 (mm_Qi E G q) σ 122 [(2, .int x2)] [.int sx0, .ref sa1] := by
  unfold fX4_best_b122 at h
  refine at_put (pc := 122) X 4 14 hsa1 (by decide) rfl inX4_best_X4 tyX4 tyX4_ok nmX4 (by decide) lkX4_best_0 rfl (ty := .int) rfl rfl rfl (Nat.le_of_ble_eq_true rfl) (ms_4_14 G _ _ _) mm_up_ne dX4_best_122 ?_
  refine at_iload_n (pc := 125) X 2 0 dX4_best_125 rfl rfl ?_
  exact at_iret (pc := 126) X (mm_inl h hk) dX4_best_126
set_option maxHeartbeats 4000000 in
set_option maxRecDepth 100000 in
theorem wX4_best_b88 {E : mm_E} {G : mm_G} (X : mm_Cx E G cX4_best 7 RX4 wsX4_best rmX4_best (some .int)) {a0 : Nat} {x1 : Int32} {x3 : Int32} {x4 : Int32} {x5 : Int32} {x6 : Int32} {sx0 : Int32} {σ : mm_M} {q : (Int32 × mm_M)} (ha0 : mm_Is G 4 a0) {o : (Int32 × mm_M) ⊕ (Int32 × Int32 × Int32 × mm_M)} (h : fX4_best_b88 G a0 x1 x3 x4 x5 x6 sx0 σ = some o) (hk : mm_Ok q (PX4_best E G a0 x1 q) o) : mm_At E G 7 (mm_Qi E G q) σ 88 [(0, .ref a0), (1, .int x1), (3, .int x3), (4, .int x4), (5, .int x5), (6, .int x6)] [.int sx0] := by
  unfold fX4_best_b88 at h
  refine at_istore_n (pc := 88) X 2 [(2, .int sx0), (0, .ref a0), (1, .int x1), (3, .int x3), (4, .int x4), (5, .int x5), (6, .int x6)] dX4_best_88 rfl (by decide) rfl ?_
  refine at_iload (pc := 89) X 6 6 dX4_best_89 rfl ?_
  have hj91 : mm_At E G 7 (mm_Qi E G q) σ 100 [(0, .ref a0), (1, .int x1), (2, .int sx0), (4, .int x4)] [.int (if x6 = 0 then x3 else x5)] := by
    refine at_istore_n (pc := 100) X 3 [(3, .int (if x6 = 0 then x3 else x5)), (0, .ref a0), (1, .int x1), (2, .int sx0), (4, .int x4)] dX4_best_100 rfl (by decide) rfl ?_
    refine at_iinc (pc := 101) X 4 4 (x4 + 1) [(4, .int (x4 + 1)), (3, .int (if x6 = 0 then x3 else x5)), (0, .ref a0), (1, .int x1), (2, .int sx0)] dX4_best_101 rfl (ii_1 _) (by decide) rfl ?_
    refine at_goto (pc := 104) X 20 dX4_best_104 (by decide) ?_
    have h2 := mm_inr h hk; exact at_sub [2, 3, 4, 1, 0] rfl h2
  refine at_if_eq (pc := 91) X 99 dX4_best_91 (by decide) (fun c91 => ?_) (fun c91 => ?_)
  · try simp only [if_pos c91] at hj91
    refine at_iload_n (pc := 99) X 3 3 dX4_best_99 rfl rfl ?_
    exact at_sub [1, 2, 0, 4] rfl hj91
  · try simp only [if_neg c91] at hj91
    refine at_iload (pc := 94) X 5 5 dX4_best_94 rfl ?_
    refine at_goto (pc := 96) X 100 dX4_best_96 (by decide) ?_
    exact at_sub [1, 2, 0, 4] rfl hj91
set_option maxHeartbeats 4000000 in
set_option maxRecDepth 100000 in
theorem wX4_best_b75 {E : mm_E} {G : mm_G} (X : mm_Cx E G cX4_best 7 RX4 wsX4_best rmX4_best (some .int)) {a0 : Nat} {x1 : Int32} {x2 : Int32} {x3 : Int32} {x4 : Int32} {x5 : Int32} {sx0 : Int32} {σ : mm_M} {q : (Int32 × mm_M)} (ha0 : mm_Is G 4 a0) {o : (Int32 × mm_M) ⊕ (Int32 × Int32 × Int32 × mm_M)} (h : fX4_best_b75 G a0 x1 x2 x3 x4 x5 sx0 σ = some o) (hk : mm_Ok q (PX4_best E G a0 x1 q) o) : mm_At E G 7 (mm_Qi E G q) σ 75 [(0, .ref a0), (1, .int x1), (2, .int x2), (3, .int x3), (4, .int x4), (5, .int x5)] [.int sx0] := by
  unfold fX4_best_b75 at h
  refine at_istore (pc := 75) X 6 [(6, .int sx0), (0, .ref a0), (1, .int x1), (2, .int x2), (3, .int x3), (4, .int x4), (5, .int x5)] dX4_best_75 (by decide) rfl ?_
  refine at_iload (pc := 77) X 6 0 dX4_best_77 rfl ?_
  have hj79 : mm_At E G 7 (mm_Qi E G q) σ 88 [(0, .ref a0), (1, .int x1), (3, .int x3), (4, .int x4), (5, .int x5), (6, .int sx0)] [.int (if sx0 = 0 then x2 else x4)] := by
    exact at_sub [0, 1, 2, 3, 4, 5] rfl (wX4_best_b88 X ha0 h hk)
  refine at_if_eq (pc := 79) X 87 dX4_best_79 (by decide) (fun c79 => ?_) (fun c79 => ?_)
  · try simp only [if_pos c79] at hj79
    refine at_iload_n (pc := 87) X 2 3 dX4_best_87 rfl rfl ?_
    exact at_sub [1, 2, 4, 5, 6, 0] rfl hj79
  · try simp only [if_neg c79] at hj79
    refine at_iload (pc := 82) X 4 5 dX4_best_82 rfl ?_
    refine at_goto (pc := 84) X 88 dX4_best_84 (by decide) ?_
    exact at_sub [1, 2, 4, 5, 6, 0] rfl hj79
set_option maxHeartbeats 4000000 in
set_option maxRecDepth 100000 in
theorem wX4_best_b20 {E : mm_E} {G : mm_G} (X : mm_Cx E G cX4_best 7 RX4 wsX4_best rmX4_best (some .int)) {a0 : Nat} {x1 : Int32} {x2 : Int32} {x3 : Int32} {x4 : Int32} {σ : mm_M} {q : (Int32 × mm_M)} (ha0 : mm_Is G 4 a0) {o : (Int32 × mm_M) ⊕ (Int32 × Int32 × Int32 × mm_M)} (h : fX4_best_b20 G a0 x1 x2 x3 x4 σ = some o) (hk : mm_Ok q (PX4_best E G a0 x1 q) o) : mm_At E G 7 (mm_Qi E G q) σ 20 [(0, .ref a0), (1, .int x1), (2, .int x2), (3, .int x3), (4, .int x4)] [] := by
  unfold fX4_best_b20 at h
  refine at_iload (pc := 20) X 4 4 dX4_best_20 rfl ?_
  refine at_bipush (pc := 22) X (10 : Int32) dX4_best_22 ib_10 ?_
  refine at_icmp_ge (pc := 24) X 107 dX4_best_24 (by decide) (fun c24 => ?_) (fun c24 => ?_)
  · have h := mm_neg c24 h
    refine at_aload_n (pc := 107) X 0 0 dX4_best_107 rfl rfl ?_
    refine at_iload_n (pc := 108) X 2 2 dX4_best_108 rfl rfl ?_
    refine at_bipush (pc := 109) X (-9 : Int32) dX4_best_109 ib_m9 ?_
    have hj111 : mm_At E G 7 (mm_Qi E G q) σ 122 [(2, .int x2)] [.int (if x2 = (-9 : Int32) then σ.1 a0 14 else x3), .ref a0] := by
      exact at_sub [0] rfl (wX4_best_b122 X ha0 ha0 h hk)
    refine at_icmp_ne (pc := 111) X 121 dX4_best_111 (by decide) (fun c111 => ?_) (fun c111 => ?_)
    · try simp only [if_neg c111] at hj111
      refine at_iload_n (pc := 121) X 3 3 dX4_best_121 rfl rfl ?_
      exact at_sub [2] rfl hj111
    · try simp only [if_pos c111] at hj111
      refine at_aload_n (pc := 114) X 0 0 dX4_best_114 rfl rfl ?_
      refine at_get (pc := 115) X 4 14 (.int (σ.1 a0 14)) ha0 (by decide) rfl inX4_best_X4 (by decide) lkX4_best_0 rfl dX4_best_115 ?_
      refine at_goto (pc := 118) X 122 dX4_best_118 (by decide) ?_
      exact at_sub [2] rfl hj111
  · have h := mm_pos c24 h
    refine at_aload_n (pc := 27) X 0 0 dX4_best_27 rfl rfl ?_
    refine at_get (pc := 28) X 4 5 (.ref (mm_R G a0 5)) ha0 (by decide) rfl inX4_best_X4 (by decide) lkX4_best_1 rfl dX4_best_28 ?_
    refine at_aload_n (pc := 31) X 0 0 dX4_best_31 rfl rfl ?_
    refine at_get (pc := 32) X 4 7 (.ref (mm_R G a0 7)) ha0 (by decide) rfl inX4_best_X4 (by decide) lkX4_best_2 rfl dX4_best_32 ?_
    obtain ⟨q35, hq35, h⟩ := mm_bind h
    refine at_scallv (n := 2) (pc := 35) X [.ref (mm_R G a0 5), .ref (mm_R G a0 7)] [] (mX4_copies (eL E) X.wf (wf_4_5 X.wf ha0) (wf_4_7 X.wf ha0) hq35) gX4_best_X4_copies rfl ⟨rfl, rfl⟩ (by decide +kernel) ⟨by decide, by decide⟩ rfl rfl (Nat.le_of_ble_eq_true rfl) dX4_best_35 ?_
    refine at_aload_n (pc := 38) X 0 0 dX4_best_38 rfl rfl ?_
    refine at_get (pc := 39) X 4 7 (.ref (mm_R G a0 7)) ha0 (by decide) rfl inX4_best_X4 (by decide) lkX4_best_2 rfl dX4_best_39 ?_
    refine at_iconst (pc := 42) X (4 : Int32) dX4_best_42 ic_4 ?_
    refine at_iload_n (pc := 43) X 1 1 dX4_best_43 rfl rfl ?_
    refine at_iadd (pc := 44) X dX4_best_44 ?_
    refine at_iload (pc := 45) X 4 4 dX4_best_45 rfl ?_
    obtain ⟨hc47, h⟩ := mm_chk h
    refine at_iast (pc := 47) X (wf_4_7 X.wf ha0) hc47 dX4_best_47 ?_
    refine at_aload_n (pc := 48) X 0 0 dX4_best_48 rfl rfl ?_
    refine at_get (pc := 49) X 4 7 (.ref (mm_R G a0 7)) ha0 (by decide) rfl inX4_best_X4 (by decide) lkX4_best_2 rfl dX4_best_49 ?_
    obtain ⟨q52, hq52, h⟩ := mm_bind h
    refine at_scalli (n := 1) (pc := 52) X [.ref (mm_R G a0 7)] [] (mX4_done (eL E) X.wf (wf_4_7 X.wf ha0) hq52) gX4_best_X4_done rfl ⟨rfl, rfl⟩ (by decide +kernel) ⟨by decide, by decide⟩ rfl rfl (Nat.le_of_ble_eq_true rfl) dX4_best_52 ?_
    refine at_istore (pc := 55) X 5 [(5, .int q52.1), (0, .ref a0), (1, .int x1), (2, .int x2), (3, .int x3), (4, .int x4)] dX4_best_55 (by decide) rfl ?_
    refine at_iload (pc := 57) X 5 0 dX4_best_57 rfl ?_
    refine at_bipush (pc := 59) X (-9 : Int32) dX4_best_59 ib_m9 ?_
    have hj61 : mm_At E G 7 (mm_Qi E G q) q52.2 75 [(0, .ref a0), (1, .int x1), (2, .int x2), (3, .int x3), (4, .int x4), (5, .int q52.1)] [.int (if q52.1 = (-9 : Int32) then (0 : Int32) else if q52.1 < x3 then (1 : Int32) else (0 : Int32))] := by
      exact at_sub [0, 1, 2, 3, 4, 5] rfl (wX4_best_b75 X ha0 h hk)
    refine at_icmp_eq (pc := 61) X 74 dX4_best_61 (by decide) (fun c61 => ?_) (fun c61 => ?_)
    · try simp only [if_pos c61] at hj61
      refine at_iconst (pc := 74) X (0 : Int32) dX4_best_74 ic_0 ?_
      exact at_sub [1, 2, 3, 4, 5, 0] rfl hj61
    · try simp only [if_neg c61] at hj61
      refine at_iload (pc := 64) X 5 0 dX4_best_64 rfl ?_
      refine at_iload_n (pc := 66) X 3 4 dX4_best_66 rfl rfl ?_
      refine at_icmp_ge (pc := 67) X 74 dX4_best_67 (by decide) (fun c67 => ?_) (fun c67 => ?_)
      · try simp only [if_neg c67] at hj61
        refine at_iconst (pc := 74) X (0 : Int32) dX4_best_74 ic_0 ?_
        exact at_sub [1, 2, 3, 4, 5, 0] rfl hj61
      · try simp only [if_pos c67] at hj61
        refine at_iconst (pc := 70) X (1 : Int32) dX4_best_70 ic_1 ?_
        refine at_goto (pc := 71) X 75 dX4_best_71 (by decide) ?_
        exact at_sub [1, 2, 3, 4, 5, 0] rfl hj61
set_option maxHeartbeats 4000000 in
set_option maxRecDepth 100000 in
theorem wX4_best_b0 {E : mm_E} {G : mm_G} (X : mm_Cx E G cX4_best 7 RX4 wsX4_best rmX4_best (some .int)) {a0 : Nat} {x1 : Int32} {σ : mm_M} {q : (Int32 × mm_M)} (ha0 : mm_Is G 4 a0) {o : (Int32 × mm_M) ⊕ (Int32 × Int32 × Int32 × mm_M)} (h : fX4_best_b0 G a0 x1 σ = some o) (hk : mm_Ok q (PX4_best E G a0 x1 q) o) : mm_At E G 7 (mm_Qi E G q) σ 0 [(0, .ref a0), (1, .int x1)] [] := by
  unfold fX4_best_b0 at h
  refine at_aload_n (pc := 0) X 0 0 dX4_best_0 rfl rfl ?_
  refine at_iload_n (pc := 1) X 1 1 dX4_best_1 rfl rfl ?_
  obtain ⟨q2, hq2, h⟩ := mm_bind h
  refine at_calli (n := 1) (pc := 2) X 4 [.int x1] [] (mX4_isStation (eL E) X.wf ha0 hq2) gX4_best_X4_isStation rfl ⟨rfl, rfl⟩ (by decide +kernel) ⟨by decide, by decide⟩ (by decide) rfl ha0 rfl rfl (Nat.le_of_ble_eq_true rfl) dX4_best_2 ?_
  refine at_if_ne (pc := 5) X 10 dX4_best_5 (by decide) (fun c5 => ?_) (fun c5 => ?_)
  · have h := mm_neg c5 h
    refine at_bipush (pc := 10) X (-9 : Int32) dX4_best_10 ib_m9 ?_
    refine at_istore_n (pc := 12) X 2 [(2, .int (-9 : Int32)), (0, .ref a0), (1, .int x1)] dX4_best_12 rfl (by decide) rfl ?_
    refine at_sipush (pc := 13) X (201 : Int32) dX4_best_13 is_201 ?_
    refine at_istore_n (pc := 16) X 3 [(3, .int (201 : Int32)), (2, .int (-9 : Int32)), (0, .ref a0), (1, .int x1)] dX4_best_16 rfl (by decide) rfl ?_
    refine at_iconst (pc := 17) X (0 : Int32) dX4_best_17 ic_0 ?_
    refine at_istore (pc := 18) X 4 [(4, .int (0 : Int32)), (3, .int (201 : Int32)), (2, .int (-9 : Int32)), (0, .ref a0), (1, .int x1)] dX4_best_18 (by decide) rfl ?_
    have h2 := mm_inr h hk; exact at_sub [3, 4, 2, 1, 0] rfl h2
  · have h := mm_pos c5 h
    refine at_iconst (pc := 8) X (-1 : Int32) dX4_best_8 ic_m1 ?_
    exact at_iret (pc := 9) X (mm_inl h hk) dX4_best_9
set_option maxHeartbeats 4000000 in
set_option maxRecDepth 100000 in
theorem mX4_best (l : Launch) {G : mm_G} (hwf : mm_WF G) {a0 : Nat} {x1 : Int32} {σ : mm_M} {q : (Int32 × mm_M)} (ha0 : mm_Is G 4 a0) (h : fX4_best G a0 x1 σ = some q) : mm_Mi l yX4_best wsX4_best rmX4_best G [.ref a0, .int x1] σ q := by
  refine mm_ofi (cc := cX4_best) (nL := 7) (ret := some .int) (own := RX4) (lv0 := [(0, .ref a0), (1, .int x1)]) (by decide) rfl rfl (Nat.le_of_ble_eq_true rfl) rfl hwf (fun E hE X => ?_)
  obtain ⟨o, h0, hk⟩ := mm_run_ok (P := PX4_best E G a0 x1 q) h (fun s o hs hk => by exact wX4_best_b20 X ha0 hs hk)
  exact wX4_best_b0 X ha0 h0 hk
set_option maxRecDepth 20000 in
theorem ggX4_silence_X4_in : GoodIn wsX4_silence wsX4_in := goodIn_r _ [7] (by decide +kernel) (by decide +kernel)
set_option maxRecDepth 20000 in
theorem gX4_silence_X4_in : GoodIn wsX4_silence (va_wsS RX4 73 yX4_in wsX4_in) := goodIn_app (goodIn_of _ (by decide +kernel)) ggX4_silence_X4_in
set_option maxRecDepth 20000 in
theorem ggX4_silence_X4_copies : GoodIn wsX4_silence wsX4_copies := goodIn_r _ [10] (by decide +kernel) (by decide +kernel)
set_option maxRecDepth 20000 in
theorem gX4_silence_X4_copies : GoodIn wsX4_silence (va_wsS RX4 165 yX4_copies wsX4_copies) := goodIn_app (goodIn_of _ (by decide +kernel)) ggX4_silence_X4_copies
set_option maxRecDepth 20000 in
theorem ggX4_silence_X4_goes : GoodIn wsX4_silence wsX4_goes := goodIn_r _ [13, 14, 15, 6, 16, 17, 18, 19, 20, 21, 22, 23, 24, 25, 26, 27, 28, 29, 30, 31, 32, 33, 34, 35, 36, 37, 38, 39, 40] (by decide +kernel) (by decide +kernel)
set_option maxRecDepth 20000 in
theorem gX4_silence_X4_goes : GoodIn wsX4_silence (va_wsS RX4 159 yX4_goes wsX4_goes) := goodIn_app (goodIn_of _ (by decide +kernel)) ggX4_silence_X4_goes
set_option maxRecDepth 20000 in
theorem ggX4_silence_X4_ones : GoodIn wsX4_silence wsX4_ones := goodIn_r _ [28] (by decide +kernel) (by decide +kernel)
set_option maxRecDepth 20000 in
theorem gX4_silence_X4_ones : GoodIn wsX4_silence (va_wsS RX4 149 yX4_ones wsX4_ones) := goodIn_app (goodIn_of _ (by decide +kernel)) ggX4_silence_X4_ones
theorem dX4_silence_0 : decode cX4_silence 0 = .ok (.iload_n 1, 1) := by decide +kernel
theorem dX4_silence_1 : decode cX4_silence 1 = .ok (.iconst 1, 1) := by decide +kernel
theorem dX4_silence_2 : decode cX4_silence 2 = .ok (.bipush 40, 2) := by decide +kernel
theorem dX4_silence_4 : decode cX4_silence 4 = .ok (.invokestatic 73, 3) := by decide +kernel
theorem dX4_silence_7 : decode cX4_silence 7 = .ok (.ifCond .ne 5, 3) := by decide +kernel
theorem dX4_silence_10 : decode cX4_silence 10 = .ok (.iconst (-1), 1) := by decide +kernel
theorem dX4_silence_11 : decode cX4_silence 11 = .ok (.ireturn, 1) := by decide +kernel
theorem dX4_silence_12 : decode cX4_silence 12 = .ok (.aload_n 0, 1) := by decide +kernel
theorem dX4_silence_13 : decode cX4_silence 13 = .ok (.getfield 26, 3) := by decide +kernel
theorem dX4_silence_16 : decode cX4_silence 16 = .ok (.bipush 32, 2) := by decide +kernel
theorem dX4_silence_18 : decode cX4_silence 18 = .ok (.iaload, 1) := by decide +kernel
theorem dX4_silence_19 : decode cX4_silence 19 = .ok (.ifCond .ne 6, 3) := by decide +kernel
theorem dX4_silence_22 : decode cX4_silence 22 = .ok (.bipush (-4), 2) := by decide +kernel
theorem dX4_silence_24 : decode cX4_silence 24 = .ok (.ireturn, 1) := by decide +kernel
theorem dX4_silence_25 : decode cX4_silence 25 = .ok (.iconst 0, 1) := by decide +kernel
theorem dX4_silence_26 : decode cX4_silence 26 = .ok (.istore_n 2, 1) := by decide +kernel
theorem dX4_silence_27 : decode cX4_silence 27 = .ok (.iconst (-1), 1) := by decide +kernel
theorem dX4_silence_28 : decode cX4_silence 28 = .ok (.istore_n 3, 1) := by decide +kernel
theorem dX4_silence_29 : decode cX4_silence 29 = .ok (.iconst 0, 1) := by decide +kernel
theorem dX4_silence_30 : decode cX4_silence 30 = .ok (.istore 4, 2) := by decide +kernel
theorem dX4_silence_32 : decode cX4_silence 32 = .ok (.iload 4, 2) := by decide +kernel
theorem dX4_silence_34 : decode cX4_silence 34 = .ok (.iconst 1, 1) := by decide +kernel
theorem dX4_silence_35 : decode cX4_silence 35 = .ok (.aload_n 0, 1) := by decide +kernel
theorem dX4_silence_36 : decode cX4_silence 36 = .ok (.getfield 26, 3) := by decide +kernel
theorem dX4_silence_39 : decode cX4_silence 39 = .ok (.bipush 32, 2) := by decide +kernel
theorem dX4_silence_41 : decode cX4_silence 41 = .ok (.iaload, 1) := by decide +kernel
theorem dX4_silence_42 : decode cX4_silence 42 = .ok (.ishl, 1) := by decide +kernel
theorem dX4_silence_43 : decode cX4_silence 43 = .ok (.if_icmp .ge 122, 3) := by decide +kernel
theorem dX4_silence_46 : decode cX4_silence 46 = .ok (.aload_n 0, 1) := by decide +kernel
theorem dX4_silence_47 : decode cX4_silence 47 = .ok (.getfield 26, 3) := by decide +kernel
theorem dX4_silence_50 : decode cX4_silence 50 = .ok (.aload_n 0, 1) := by decide +kernel
theorem dX4_silence_51 : decode cX4_silence 51 = .ok (.getfield 32, 3) := by decide +kernel
theorem dX4_silence_54 : decode cX4_silence 54 = .ok (.invokestatic 165, 3) := by decide +kernel
theorem dX4_silence_57 : decode cX4_silence 57 = .ok (.aload_n 0, 1) := by decide +kernel
theorem dX4_silence_58 : decode cX4_silence 58 = .ok (.getfield 32, 3) := by decide +kernel
theorem dX4_silence_61 : decode cX4_silence 61 = .ok (.bipush 47, 2) := by decide +kernel
theorem dX4_silence_63 : decode cX4_silence 63 = .ok (.iload 4, 2) := by decide +kernel
theorem dX4_silence_65 : decode cX4_silence 65 = .ok (.iastore, 1) := by decide +kernel
theorem dX4_silence_66 : decode cX4_silence 66 = .ok (.iconst 0, 1) := by decide +kernel
theorem dX4_silence_67 : decode cX4_silence 67 = .ok (.istore 5, 2) := by decide +kernel
theorem dX4_silence_69 : decode cX4_silence 69 = .ok (.iload 5, 2) := by decide +kernel
theorem dX4_silence_71 : decode cX4_silence 71 = .ok (.iload_n 1, 1) := by decide +kernel
theorem dX4_silence_72 : decode cX4_silence 72 = .ok (.if_icmp .ge 17, 3) := by decide +kernel
theorem dX4_silence_75 : decode cX4_silence 75 = .ok (.aload_n 0, 1) := by decide +kernel
theorem dX4_silence_76 : decode cX4_silence 76 = .ok (.getfield 32, 3) := by decide +kernel
theorem dX4_silence_79 : decode cX4_silence 79 = .ok (.invokestatic 159, 3) := by decide +kernel
theorem dX4_silence_82 : decode cX4_silence 82 = .ok (.pop, 1) := by decide +kernel
theorem dX4_silence_83 : decode cX4_silence 83 = .ok (.iinc 5 1, 3) := by decide +kernel
theorem dX4_silence_86 : decode cX4_silence 86 = .ok (.goto (-17), 3) := by decide +kernel
theorem dX4_silence_89 : decode cX4_silence 89 = .ok (.aload_n 0, 1) := by decide +kernel
theorem dX4_silence_90 : decode cX4_silence 90 = .ok (.getfield 32, 3) := by decide +kernel
theorem dX4_silence_93 : decode cX4_silence 93 = .ok (.iconst 2, 1) := by decide +kernel
theorem dX4_silence_94 : decode cX4_silence 94 = .ok (.iaload, 1) := by decide +kernel
theorem dX4_silence_95 : decode cX4_silence 95 = .ok (.aload_n 0, 1) := by decide +kernel
theorem dX4_silence_96 : decode cX4_silence 96 = .ok (.getfield 26, 3) := by decide +kernel
theorem dX4_silence_99 : decode cX4_silence 99 = .ok (.iconst 2, 1) := by decide +kernel
theorem dX4_silence_100 : decode cX4_silence 100 = .ok (.iaload, 1) := by decide +kernel
theorem dX4_silence_101 : decode cX4_silence 101 = .ok (.isub, 1) := by decide +kernel
theorem dX4_silence_102 : decode cX4_silence 102 = .ok (.istore 5, 2) := by decide +kernel
theorem dX4_silence_104 : decode cX4_silence 104 = .ok (.iload 5, 2) := by decide +kernel
theorem dX4_silence_106 : decode cX4_silence 106 = .ok (.iload_n 3, 1) := by decide +kernel
theorem dX4_silence_107 : decode cX4_silence 107 = .ok (.if_icmp .gt 21, 3) := by decide +kernel
theorem dX4_silence_110 : decode cX4_silence 110 = .ok (.iload 5, 2) := by decide +kernel
theorem dX4_silence_112 : decode cX4_silence 112 = .ok (.iload_n 3, 1) := by decide +kernel
theorem dX4_silence_113 : decode cX4_silence 113 = .ok (.if_icmp .ne 19, 3) := by decide +kernel
theorem dX4_silence_116 : decode cX4_silence 116 = .ok (.iload 4, 2) := by decide +kernel
theorem dX4_silence_118 : decode cX4_silence 118 = .ok (.invokestatic 149, 3) := by decide +kernel
theorem dX4_silence_121 : decode cX4_silence 121 = .ok (.iload_n 2, 1) := by decide +kernel
theorem dX4_silence_122 : decode cX4_silence 122 = .ok (.invokestatic 149, 3) := by decide +kernel
theorem dX4_silence_125 : decode cX4_silence 125 = .ok (.if_icmp .ge 7, 3) := by decide +kernel
theorem dX4_silence_128 : decode cX4_silence 128 = .ok (.iconst 1, 1) := by decide +kernel
theorem dX4_silence_129 : decode cX4_silence 129 = .ok (.goto 4, 3) := by decide +kernel
theorem dX4_silence_132 : decode cX4_silence 132 = .ok (.iconst 0, 1) := by decide +kernel
theorem dX4_silence_133 : decode cX4_silence 133 = .ok (.istore 6, 2) := by decide +kernel
theorem dX4_silence_135 : decode cX4_silence 135 = .ok (.iload 6, 2) := by decide +kernel
theorem dX4_silence_137 : decode cX4_silence 137 = .ok (.ifCond .eq 8, 3) := by decide +kernel
theorem dX4_silence_140 : decode cX4_silence 140 = .ok (.iload 4, 2) := by decide +kernel
theorem dX4_silence_142 : decode cX4_silence 142 = .ok (.goto 4, 3) := by decide +kernel
theorem dX4_silence_145 : decode cX4_silence 145 = .ok (.iload_n 2, 1) := by decide +kernel
theorem dX4_silence_146 : decode cX4_silence 146 = .ok (.istore_n 2, 1) := by decide +kernel
theorem dX4_silence_147 : decode cX4_silence 147 = .ok (.iload 6, 2) := by decide +kernel
theorem dX4_silence_149 : decode cX4_silence 149 = .ok (.ifCond .eq 8, 3) := by decide +kernel
theorem dX4_silence_152 : decode cX4_silence 152 = .ok (.iload 5, 2) := by decide +kernel
theorem dX4_silence_154 : decode cX4_silence 154 = .ok (.goto 4, 3) := by decide +kernel
theorem dX4_silence_157 : decode cX4_silence 157 = .ok (.iload_n 3, 1) := by decide +kernel
theorem dX4_silence_158 : decode cX4_silence 158 = .ok (.istore_n 3, 1) := by decide +kernel
theorem dX4_silence_159 : decode cX4_silence 159 = .ok (.iinc 4 1, 3) := by decide +kernel
theorem dX4_silence_162 : decode cX4_silence 162 = .ok (.goto (-130), 3) := by decide +kernel
theorem dX4_silence_165 : decode cX4_silence 165 = .ok (.aload_n 0, 1) := by decide +kernel
theorem dX4_silence_166 : decode cX4_silence 166 = .ok (.iload_n 3, 1) := by decide +kernel
theorem dX4_silence_167 : decode cX4_silence 167 = .ok (.putfield 70, 3) := by decide +kernel
theorem dX4_silence_170 : decode cX4_silence 170 = .ok (.iload_n 2, 1) := by decide +kernel
theorem dX4_silence_171 : decode cX4_silence 171 = .ok (.ireturn, 1) := by decide +kernel
/-! X4_silence (I)I -/
abbrev rmX4_silence : Room := { frames := 5, cells := 0, slots := 0, locals := 113 }
theorem lkX4_silence_0 : Cond.fieldLink RX4 26 (TX4 5).1 (TX4 5).2.1 (TX4 5).2.2.1 ∈ wsX4_silence := by decide +kernel
theorem lkX4_silence_1 : Cond.fieldLink RX4 70 (TX4 14).1 (TX4 14).2.1 (TX4 14).2.2.1 ∈ wsX4_silence := by decide +kernel
theorem lkX4_silence_2 : Cond.fieldLink RX4 32 (TX4 7).1 (TX4 7).2.1 (TX4 7).2.2.1 ∈ wsX4_silence := by decide +kernel
theorem inX4_silence_X4 : ∀ w ∈ u_ws RX4 TX4 22, w ∈ wsX4_silence := by decide +kernel
noncomputable def fX4_silence_b146 (G : mm_G) (a0 : Nat) (x1 : Int32) (x3 : Int32) (x4 : Int32) (x5 : Int32) (x6 : Int32) (sx0 : Int32) (σ : mm_M) : Option ((Int32 × mm_M) ⊕ ((Int32 × Int32 × Int32 × mm_M) ⊕ (Int32 × Int32 × Int32 × Int32 × mm_M))) := some (.inr (.inl (sx0, if x6 = 0 then x3 else x5, x4 + 1, σ)))
noncomputable def fX4_silence_b133 (G : mm_G) (a0 : Nat) (x1 : Int32) (x2 : Int32) (x3 : Int32) (x4 : Int32) (x5 : Int32) (sx0 : Int32) (σ : mm_M) : Option ((Int32 × mm_M) ⊕ ((Int32 × Int32 × Int32 × mm_M) ⊕ (Int32 × Int32 × Int32 × Int32 × mm_M))) := fX4_silence_b146 G a0 x1 x3 x4 x5 sx0 (if sx0 = 0 then x2 else x4) σ
noncomputable def fX4_silence_b128 (G : mm_G) (a0 : Nat) (x1 : Int32) (x2 : Int32) (x3 : Int32) (x4 : Int32) (x5 : Int32) (σ : mm_M) : Option ((Int32 × mm_M) ⊕ ((Int32 × Int32 × Int32 × mm_M) ⊕ (Int32 × Int32 × Int32 × Int32 × mm_M))) := fX4_silence_b133 G a0 x1 x2 x3 x4 x5 (1 : Int32) σ
noncomputable def fX4_silence_b132 (G : mm_G) (a0 : Nat) (x1 : Int32) (x2 : Int32) (x3 : Int32) (x4 : Int32) (x5 : Int32) (σ : mm_M) : Option ((Int32 × mm_M) ⊕ ((Int32 × Int32 × Int32 × mm_M) ⊕ (Int32 × Int32 × Int32 × Int32 × mm_M))) := fX4_silence_b133 G a0 x1 x2 x3 x4 x5 (0 : Int32) σ
noncomputable def fX4_silence_b69 (G : mm_G) (a0 : Nat) (x1 : Int32) (x2 : Int32) (x3 : Int32) (x4 : Int32) (x5 : Int32) (σ : mm_M) : Option ((Int32 × mm_M) ⊕ ((Int32 × Int32 × Int32 × mm_M) ⊕ (Int32 × Int32 × Int32 × Int32 × mm_M))) := if x5 < x1 then ((fX4_goes G (mm_R G a0 7) σ).bind (fun q79 => some (.inr (.inr (x2, x3, x4, x5 + 1, q79.2))))) else (if (2 : Int32) < 0 ∨ mm_N G (mm_R G a0 7) ≤ (2 : Int32).toNatClampNeg then none else (if (2 : Int32) < 0 ∨ mm_N G (mm_R G a0 5) ≤ (2 : Int32).toNatClampNeg then none else (if x3 < ((σ.1 (mm_R G a0 7) (2 : Int32).toNatClampNeg) - (σ.1 (mm_R G a0 5) (2 : Int32).toNatClampNeg)) then (fX4_silence_b128 G a0 x1 x2 x3 x4 ((σ.1 (mm_R G a0 7) (2 : Int32).toNatClampNeg) - (σ.1 (mm_R G a0 5) (2 : Int32).toNatClampNeg)) σ) else (if ((σ.1 (mm_R G a0 7) (2 : Int32).toNatClampNeg) - (σ.1 (mm_R G a0 5) (2 : Int32).toNatClampNeg)) = x3 then ((fX4_ones G x4 σ).bind (fun q118 => (fX4_ones G x2 q118.2).bind (fun q122 => fX4_silence_b133 G a0 x1 x2 x3 x4 ((σ.1 (mm_R G a0 7) (2 : Int32).toNatClampNeg) - (σ.1 (mm_R G a0 5) (2 : Int32).toNatClampNeg)) (if q118.1 < q122.1 then (1 : Int32) else (0 : Int32)) q122.2))) else (fX4_silence_b132 G a0 x1 x2 x3 x4 ((σ.1 (mm_R G a0 7) (2 : Int32).toNatClampNeg) - (σ.1 (mm_R G a0 5) (2 : Int32).toNatClampNeg)) σ)))))
noncomputable def fX4_silence_b32 (G : mm_G) (a0 : Nat) (x1 : Int32) (x2 : Int32) (x3 : Int32) (x4 : Int32) (σ : mm_M) : Option ((Int32 × mm_M) ⊕ ((Int32 × Int32 × Int32 × mm_M) ⊕ (Int32 × Int32 × Int32 × Int32 × mm_M))) := if (32 : Int32) < 0 ∨ mm_N G (mm_R G a0 5) ≤ (32 : Int32).toNatClampNeg then none else (if x4 < ((1 : Int32) <<< ((σ.1 (mm_R G a0 5) (32 : Int32).toNatClampNeg) &&& 31)) then ((fX4_copies G (mm_R G a0 5) (mm_R G a0 7) σ).bind (fun q54 => if (47 : Int32) < 0 ∨ mm_N G (mm_R G a0 7) ≤ (47 : Int32).toNatClampNeg then none else (some (.inr (.inr (x2, x3, x4, (0 : Int32), mm_up q54 (mm_R G a0 7) (47 : Int32).toNatClampNeg x4)))))) else (some (.inl (x2, mm_up σ a0 14 x3))))
noncomputable def fX4_silence_b0 (G : mm_G) (a0 : Nat) (x1 : Int32) (σ : mm_M) : Option ((Int32 × mm_M) ⊕ ((Int32 × Int32 × Int32 × mm_M) ⊕ (Int32 × Int32 × Int32 × Int32 × mm_M))) := (fX4_in G x1 (1 : Int32) (40 : Int32) σ).bind (fun q4 => if q4.1 = 0 then (some (.inl ((-1 : Int32), q4.2))) else (if (32 : Int32) < 0 ∨ mm_N G (mm_R G a0 5) ≤ (32 : Int32).toNatClampNeg then none else (if (q4.2.1 (mm_R G a0 5) (32 : Int32).toNatClampNeg) = 0 then (some (.inl ((-4 : Int32), q4.2))) else (some (.inr (.inl ((0 : Int32), (-1 : Int32), (0 : Int32), q4.2)))))))
noncomputable def fX4_silence_s (G : mm_G) (a0 : Nat) (x1 : Int32) : ((Int32 × Int32 × Int32 × mm_M) ⊕ (Int32 × Int32 × Int32 × Int32 × mm_M)) → Option ((Int32 × mm_M) ⊕ ((Int32 × Int32 × Int32 × mm_M) ⊕ (Int32 × Int32 × Int32 × Int32 × mm_M))) := (Sum.elim (fun s => fX4_silence_b32 G a0 x1 s.1 s.2.1 s.2.2.1 s.2.2.2) (fun s => fX4_silence_b69 G a0 x1 s.1 s.2.1 s.2.2.1 s.2.2.2.1 s.2.2.2.2))
def PX4_silence (E : mm_E) (G : mm_G) (a0 : Nat) (x1 : Int32) (q : (Int32 × mm_M)) : ((Int32 × Int32 × Int32 × mm_M) ⊕ (Int32 × Int32 × Int32 × Int32 × mm_M)) → Prop := (Sum.elim (fun s => mm_At E G 7 (mm_Qi E G q) s.2.2.2 32 [(0, .ref a0), (1, .int x1), (2, .int s.1), (3, .int s.2.1), (4, .int s.2.2.1)] []) (fun s => mm_At E G 7 (mm_Qi E G q) s.2.2.2.2 69 [(0, .ref a0), (1, .int x1), (2, .int s.1), (3, .int s.2.1), (4, .int s.2.2.1), (5, .int s.2.2.2.1)] []))
noncomputable def fX4_silence (G : mm_G) (a0 : Nat) (x1 : Int32) (σ : mm_M) : Option (Int32 × mm_M) := mm_run (fX4_silence_b0 G a0 x1 σ) (fX4_silence_s G a0 x1)
set_option maxHeartbeats 4000000 in
set_option maxRecDepth 100000 in
theorem wX4_silence_b146 {E : mm_E} {G : mm_G} (X : mm_Cx E G cX4_silence 7 RX4 wsX4_silence rmX4_silence (some .int)) {a0 : Nat} {x1 : Int32} {x3 : Int32} {x4 : Int32} {x5 : Int32} {x6 : Int32} {sx0 : Int32} {σ : mm_M} {q : (Int32 × mm_M)} (ha0 : mm_Is G 4 a0) {o : (Int32 × mm_M) ⊕ ((Int32 × Int32 × Int32 × mm_M) ⊕ (Int32 × Int32 × Int32 × Int32 × mm_M))} (h : fX4_silence_b146 G a0 x1 x3 x4 x5 x6 sx0 σ = some o) (hk : mm_Ok q (PX4_silence E G a0 x1 q) o) : mm_At E G 7 (mm_Qi E G q) σ 146 [(0, .ref a0), (1, .int x1), (3, .int x3), (4, .int x4), (5, .int x5), (6, .int x6)] [.int sx0] := by
  unfold fX4_silence_b146 at h
  refine at_istore_n (pc := 146) X 2 [(2, .int sx0), (0, .ref a0), (1, .int x1), (3, .int x3), (4, .int x4), (5, .int x5), (6, .int x6)] dX4_silence_146 rfl (by decide) rfl ?_
  refine at_iload (pc := 147) X 6 6 dX4_silence_147 rfl ?_
  have hj149 : mm_At E G 7 (mm_Qi E G q) σ 158 [(0, .ref a0), (1, .int x1), (2, .int sx0), (4, .int x4)] [.int (if x6 = 0 then x3 else x5)] := by
    refine at_istore_n (pc := 158) X 3 [(3, .int (if x6 = 0 then x3 else x5)), (0, .ref a0), (1, .int x1), (2, .int sx0), (4, .int x4)] dX4_silence_158 rfl (by decide) rfl ?_
    refine at_iinc (pc := 159) X 4 4 (x4 + 1) [(4, .int (x4 + 1)), (3, .int (if x6 = 0 then x3 else x5)), (0, .ref a0), (1, .int x1), (2, .int sx0)] dX4_silence_159 rfl (ii_1 _) (by decide) rfl ?_
    refine at_goto (pc := 162) X 32 dX4_silence_162 (by decide) ?_
    have h2 := mm_inr h hk; exact at_sub [2, 3, 4, 1, 0] rfl h2
  refine at_if_eq (pc := 149) X 157 dX4_silence_149 (by decide) (fun c149 => ?_) (fun c149 => ?_)
  · try simp only [if_pos c149] at hj149
    refine at_iload_n (pc := 157) X 3 3 dX4_silence_157 rfl rfl ?_
    exact at_sub [1, 2, 0, 4] rfl hj149
  · try simp only [if_neg c149] at hj149
    refine at_iload (pc := 152) X 5 5 dX4_silence_152 rfl ?_
    refine at_goto (pc := 154) X 158 dX4_silence_154 (by decide) ?_
    exact at_sub [1, 2, 0, 4] rfl hj149
set_option maxHeartbeats 4000000 in
set_option maxRecDepth 100000 in
theorem wX4_silence_b133 {E : mm_E} {G : mm_G} (X : mm_Cx E G cX4_silence 7 RX4 wsX4_silence rmX4_silence (some .int)) {a0 : Nat} {x1 : Int32} {x2 : Int32} {x3 : Int32} {x4 : Int32} {x5 : Int32} {sx0 : Int32} {σ : mm_M} {q : (Int32 × mm_M)} (ha0 : mm_Is G 4 a0) {o : (Int32 × mm_M) ⊕ ((Int32 × Int32 × Int32 × mm_M) ⊕ (Int32 × Int32 × Int32 × Int32 × mm_M))} (h : fX4_silence_b133 G a0 x1 x2 x3 x4 x5 sx0 σ = some o) (hk : mm_Ok q (PX4_silence E G a0 x1 q) o) : mm_At E G 7 (mm_Qi E G q) σ 133 [(0, .ref a0), (1, .int x1), (2, .int x2), (3, .int x3), (4, .int x4), (5, .int x5)] [.int sx0] := by
  unfold fX4_silence_b133 at h
  refine at_istore (pc := 133) X 6 [(6, .int sx0), (0, .ref a0), (1, .int x1), (2, .int x2), (3, .int x3), (4, .int x4), (5, .int x5)] dX4_silence_133 (by decide) rfl ?_
  refine at_iload (pc := 135) X 6 0 dX4_silence_135 rfl ?_
  have hj137 : mm_At E G 7 (mm_Qi E G q) σ 146 [(0, .ref a0), (1, .int x1), (3, .int x3), (4, .int x4), (5, .int x5), (6, .int sx0)] [.int (if sx0 = 0 then x2 else x4)] := by
    exact at_sub [0, 1, 2, 3, 4, 5] rfl (wX4_silence_b146 X ha0 h hk)
  refine at_if_eq (pc := 137) X 145 dX4_silence_137 (by decide) (fun c137 => ?_) (fun c137 => ?_)
  · try simp only [if_pos c137] at hj137
    refine at_iload_n (pc := 145) X 2 3 dX4_silence_145 rfl rfl ?_
    exact at_sub [1, 2, 4, 5, 6, 0] rfl hj137
  · try simp only [if_neg c137] at hj137
    refine at_iload (pc := 140) X 4 5 dX4_silence_140 rfl ?_
    refine at_goto (pc := 142) X 146 dX4_silence_142 (by decide) ?_
    exact at_sub [1, 2, 4, 5, 6, 0] rfl hj137
set_option maxHeartbeats 4000000 in
set_option maxRecDepth 100000 in
theorem wX4_silence_b128 {E : mm_E} {G : mm_G} (X : mm_Cx E G cX4_silence 7 RX4 wsX4_silence rmX4_silence (some .int)) {a0 : Nat} {x1 : Int32} {x2 : Int32} {x3 : Int32} {x4 : Int32} {x5 : Int32} {σ : mm_M} {q : (Int32 × mm_M)} (ha0 : mm_Is G 4 a0) {o : (Int32 × mm_M) ⊕ ((Int32 × Int32 × Int32 × mm_M) ⊕ (Int32 × Int32 × Int32 × Int32 × mm_M))} (h : fX4_silence_b128 G a0 x1 x2 x3 x4 x5 σ = some o) (hk : mm_Ok q (PX4_silence E G a0 x1 q) o) : mm_At E G 7 (mm_Qi E G q) σ 128 [(0, .ref a0), (1, .int x1), (2, .int x2), (3, .int x3), (4, .int x4), (5, .int x5)] [] := by
  unfold fX4_silence_b128 at h
  refine at_iconst (pc := 128) X (1 : Int32) dX4_silence_128 ic_1 ?_
  refine at_goto (pc := 129) X 133 dX4_silence_129 (by decide) ?_
  exact at_sub [0, 1, 2, 3, 4, 5] rfl (wX4_silence_b133 X ha0 h hk)
set_option maxHeartbeats 4000000 in
set_option maxRecDepth 100000 in
theorem wX4_silence_b132 {E : mm_E} {G : mm_G} (X : mm_Cx E G cX4_silence 7 RX4 wsX4_silence rmX4_silence (some .int)) {a0 : Nat} {x1 : Int32} {x2 : Int32} {x3 : Int32} {x4 : Int32} {x5 : Int32} {σ : mm_M} {q : (Int32 × mm_M)} (ha0 : mm_Is G 4 a0) {o : (Int32 × mm_M) ⊕ ((Int32 × Int32 × Int32 × mm_M) ⊕ (Int32 × Int32 × Int32 × Int32 × mm_M))} (h : fX4_silence_b132 G a0 x1 x2 x3 x4 x5 σ = some o) (hk : mm_Ok q (PX4_silence E G a0 x1 q) o) : mm_At E G 7 (mm_Qi E G q) σ 132 [(0, .ref a0), (1, .int x1), (2, .int x2), (3, .int x3), (4, .int x4), (5, .int x5)] [] := by
  unfold fX4_silence_b132 at h
  refine at_iconst (pc := 132) X (0 : Int32) dX4_silence_132 ic_0 ?_
  exact at_sub [0, 1, 2, 3, 4, 5] rfl (wX4_silence_b133 X ha0 h hk)
set_option maxHeartbeats 4000000 in
set_option maxRecDepth 100000 in
theorem wX4_silence_b69 {E : mm_E} {G : mm_G} (X : mm_Cx E G cX4_silence 7 RX4 wsX4_silence rmX4_silence (some .int)) {a0 : Nat} {x1 : Int32} {x2 : Int32} {x3 : Int32} {x4 : Int32} {x5 : Int32} {σ : mm_M} {q : (Int32 × mm_M)} (ha0 : mm_Is G 4 a0) {o : (Int32 × mm_M) ⊕ ((Int32 × Int32 × Int32 × mm_M) ⊕ (Int32 × Int32 × Int32 × Int32 × mm_M))} (h : fX4_silence_b69 G a0 x1 x2 x3 x4 x5 σ = some o) (hk : mm_Ok q (PX4_silence E G a0 x1 q) o) : mm_At E G 7 (mm_Qi E G q) σ 69 [(0, .ref a0), (1, .int x1), (2, .int x2), (3, .int x3), (4, .int x4), (5, .int x5)] [] := by
  unfold fX4_silence_b69 at h
  refine at_iload (pc := 69) X 5 5 dX4_silence_69 rfl ?_
  refine at_iload_n (pc := 71) X 1 1 dX4_silence_71 rfl rfl ?_
  refine at_icmp_ge (pc := 72) X 89 dX4_silence_72 (by decide) (fun c72 => ?_) (fun c72 => ?_)
  · have h := mm_neg c72 h
    refine at_aload_n (pc := 89) X 0 0 dX4_silence_89 rfl rfl ?_
    refine at_get (pc := 90) X 4 7 (.ref (mm_R G a0 7)) ha0 (by decide) rfl inX4_silence_X4 (by decide) lkX4_silence_2 rfl dX4_silence_90 ?_
    refine at_iconst (pc := 93) X (2 : Int32) dX4_silence_93 ic_2 ?_
    obtain ⟨hc94, h⟩ := mm_chk h
    refine at_iald (pc := 94) X (wf_4_7 X.wf ha0) hc94 dX4_silence_94 ?_
    refine at_aload_n (pc := 95) X 0 0 dX4_silence_95 rfl rfl ?_
    refine at_get (pc := 96) X 4 5 (.ref (mm_R G a0 5)) ha0 (by decide) rfl inX4_silence_X4 (by decide) lkX4_silence_0 rfl dX4_silence_96 ?_
    refine at_iconst (pc := 99) X (2 : Int32) dX4_silence_99 ic_2 ?_
    obtain ⟨hc100, h⟩ := mm_chk h
    refine at_iald (pc := 100) X (wf_4_5 X.wf ha0) hc100 dX4_silence_100 ?_
    refine at_isub (pc := 101) X dX4_silence_101 ?_
    refine at_istore (pc := 102) X 5 [(5, .int ((σ.1 (mm_R G a0 7) (2 : Int32).toNatClampNeg) - (σ.1 (mm_R G a0 5) (2 : Int32).toNatClampNeg))), (0, .ref a0), (1, .int x1), (2, .int x2), (3, .int x3), (4, .int x4)] dX4_silence_102 (by decide) rfl ?_
    refine at_iload (pc := 104) X 5 0 dX4_silence_104 rfl ?_
    refine at_iload_n (pc := 106) X 3 4 dX4_silence_106 rfl rfl ?_
    refine at_icmp_gt (pc := 107) X 128 dX4_silence_107 (by decide) (fun c107 => ?_) (fun c107 => ?_)
    · have h := mm_pos c107 h
      exact at_sub [1, 2, 3, 4, 5, 0] rfl (wX4_silence_b128 X ha0 h hk)
    · have h := mm_neg c107 h
      refine at_iload (pc := 110) X 5 0 dX4_silence_110 rfl ?_
      refine at_iload_n (pc := 112) X 3 4 dX4_silence_112 rfl rfl ?_
      refine at_icmp_ne (pc := 113) X 132 dX4_silence_113 (by decide) (fun c113 => ?_) (fun c113 => ?_)
      · have h := mm_neg c113 h
        exact at_sub [1, 2, 3, 4, 5, 0] rfl (wX4_silence_b132 X ha0 h hk)
      · have h := mm_pos c113 h
        refine at_iload (pc := 116) X 4 5 dX4_silence_116 rfl ?_
        obtain ⟨q118, hq118, h⟩ := mm_bind h
        refine at_scalli (n := 1) (pc := 118) X [.int x4] [] (mX4_ones (eL E) X.wf hq118) gX4_silence_X4_ones rfl ⟨rfl, rfl⟩ (by decide +kernel) ⟨by decide, by decide⟩ rfl rfl (Nat.le_of_ble_eq_true rfl) dX4_silence_118 ?_
        refine at_iload_n (pc := 121) X 2 3 dX4_silence_121 rfl rfl ?_
        obtain ⟨q122, hq122, h⟩ := mm_bind h
        refine at_scalli (n := 1) (pc := 122) X [.int x2] [.int q118.1] (mX4_ones (eL E) X.wf hq122) gX4_silence_X4_ones rfl ⟨rfl, rfl⟩ (by decide +kernel) ⟨by decide, by decide⟩ rfl rfl (Nat.le_of_ble_eq_true rfl) dX4_silence_122 ?_
        have hj125 : mm_At E G 7 (mm_Qi E G q) q122.2 133 [(0, .ref a0), (1, .int x1), (2, .int x2), (3, .int x3), (4, .int x4), (5, .int ((σ.1 (mm_R G a0 7) (2 : Int32).toNatClampNeg) - (σ.1 (mm_R G a0 5) (2 : Int32).toNatClampNeg)))] [.int (if q118.1 < q122.1 then (1 : Int32) else (0 : Int32))] := by
          exact at_sub [0, 1, 2, 3, 4, 5] rfl (wX4_silence_b133 X ha0 h hk)
        refine at_icmp_ge (pc := 125) X 132 dX4_silence_125 (by decide) (fun c125 => ?_) (fun c125 => ?_)
        · try simp only [if_neg c125] at hj125
          refine at_iconst (pc := 132) X (0 : Int32) dX4_silence_132 ic_0 ?_
          exact at_sub [1, 2, 3, 4, 5, 0] rfl hj125
        · try simp only [if_pos c125] at hj125
          refine at_iconst (pc := 128) X (1 : Int32) dX4_silence_128 ic_1 ?_
          refine at_goto (pc := 129) X 133 dX4_silence_129 (by decide) ?_
          exact at_sub [1, 2, 3, 4, 5, 0] rfl hj125
  · have h := mm_pos c72 h
    refine at_aload_n (pc := 75) X 0 0 dX4_silence_75 rfl rfl ?_
    refine at_get (pc := 76) X 4 7 (.ref (mm_R G a0 7)) ha0 (by decide) rfl inX4_silence_X4 (by decide) lkX4_silence_2 rfl dX4_silence_76 ?_
    obtain ⟨q79, hq79, h⟩ := mm_bind h
    refine at_scalli (n := 1) (pc := 79) X [.ref (mm_R G a0 7)] [] (mX4_goes (eL E) X.wf (wf_4_7 X.wf ha0) hq79) gX4_silence_X4_goes rfl ⟨rfl, rfl⟩ (by decide +kernel) ⟨by decide, by decide⟩ rfl rfl (Nat.le_of_ble_eq_true rfl) dX4_silence_79 ?_
    refine at_pop (pc := 82) X dX4_silence_82 rfl ?_
    refine at_iinc (pc := 83) X 5 5 (x5 + 1) [(5, .int (x5 + 1)), (0, .ref a0), (1, .int x1), (2, .int x2), (3, .int x3), (4, .int x4)] dX4_silence_83 rfl (ii_1 _) (by decide) rfl ?_
    refine at_goto (pc := 86) X 69 dX4_silence_86 (by decide) ?_
    have h2 := mm_inr h hk; exact at_sub [1, 2, 3, 4, 5, 0] rfl h2
set_option maxHeartbeats 4000000 in
set_option maxRecDepth 100000 in
theorem wX4_silence_b32 {E : mm_E} {G : mm_G} (X : mm_Cx E G cX4_silence 7 RX4 wsX4_silence rmX4_silence (some .int)) {a0 : Nat} {x1 : Int32} {x2 : Int32} {x3 : Int32} {x4 : Int32} {σ : mm_M} {q : (Int32 × mm_M)} (ha0 : mm_Is G 4 a0) {o : (Int32 × mm_M) ⊕ ((Int32 × Int32 × Int32 × mm_M) ⊕ (Int32 × Int32 × Int32 × Int32 × mm_M))} (h : fX4_silence_b32 G a0 x1 x2 x3 x4 σ = some o) (hk : mm_Ok q (PX4_silence E G a0 x1 q) o) : mm_At E G 7 (mm_Qi E G q) σ 32 [(0, .ref a0), (1, .int x1), (2, .int x2), (3, .int x3), (4, .int x4)] [] := by
  unfold fX4_silence_b32 at h
  refine at_iload (pc := 32) X 4 4 dX4_silence_32 rfl ?_
  refine at_iconst (pc := 34) X (1 : Int32) dX4_silence_34 ic_1 ?_
  refine at_aload_n (pc := 35) X 0 0 dX4_silence_35 rfl rfl ?_
  refine at_get (pc := 36) X 4 5 (.ref (mm_R G a0 5)) ha0 (by decide) rfl inX4_silence_X4 (by decide) lkX4_silence_0 rfl dX4_silence_36 ?_
  refine at_bipush (pc := 39) X (32 : Int32) dX4_silence_39 ib_32 ?_
  obtain ⟨hc41, h⟩ := mm_chk h
  refine at_iald (pc := 41) X (wf_4_5 X.wf ha0) hc41 dX4_silence_41 ?_
  refine at_ishl (pc := 42) X dX4_silence_42 ?_
  refine at_icmp_ge (pc := 43) X 165 dX4_silence_43 (by decide) (fun c43 => ?_) (fun c43 => ?_)
  · have h := mm_neg c43 h
    refine at_aload_n (pc := 165) X 0 0 dX4_silence_165 rfl rfl ?_
    refine at_iload_n (pc := 166) X 3 3 dX4_silence_166 rfl rfl ?_
    refine at_put (pc := 167) X 4 14 ha0 (by decide) rfl inX4_silence_X4 tyX4 tyX4_ok nmX4 (by decide) lkX4_silence_1 rfl (ty := .int) rfl rfl rfl (Nat.le_of_ble_eq_true rfl) (ms_4_14 G _ _ _) mm_up_ne dX4_silence_167 ?_
    refine at_iload_n (pc := 170) X 2 2 dX4_silence_170 rfl rfl ?_
    exact at_iret (pc := 171) X (mm_inl h hk) dX4_silence_171
  · have h := mm_pos c43 h
    refine at_aload_n (pc := 46) X 0 0 dX4_silence_46 rfl rfl ?_
    refine at_get (pc := 47) X 4 5 (.ref (mm_R G a0 5)) ha0 (by decide) rfl inX4_silence_X4 (by decide) lkX4_silence_0 rfl dX4_silence_47 ?_
    refine at_aload_n (pc := 50) X 0 0 dX4_silence_50 rfl rfl ?_
    refine at_get (pc := 51) X 4 7 (.ref (mm_R G a0 7)) ha0 (by decide) rfl inX4_silence_X4 (by decide) lkX4_silence_2 rfl dX4_silence_51 ?_
    obtain ⟨q54, hq54, h⟩ := mm_bind h
    refine at_scallv (n := 2) (pc := 54) X [.ref (mm_R G a0 5), .ref (mm_R G a0 7)] [] (mX4_copies (eL E) X.wf (wf_4_5 X.wf ha0) (wf_4_7 X.wf ha0) hq54) gX4_silence_X4_copies rfl ⟨rfl, rfl⟩ (by decide +kernel) ⟨by decide, by decide⟩ rfl rfl (Nat.le_of_ble_eq_true rfl) dX4_silence_54 ?_
    refine at_aload_n (pc := 57) X 0 0 dX4_silence_57 rfl rfl ?_
    refine at_get (pc := 58) X 4 7 (.ref (mm_R G a0 7)) ha0 (by decide) rfl inX4_silence_X4 (by decide) lkX4_silence_2 rfl dX4_silence_58 ?_
    refine at_bipush (pc := 61) X (47 : Int32) dX4_silence_61 ib_47 ?_
    refine at_iload (pc := 63) X 4 4 dX4_silence_63 rfl ?_
    obtain ⟨hc65, h⟩ := mm_chk h
    refine at_iast (pc := 65) X (wf_4_7 X.wf ha0) hc65 dX4_silence_65 ?_
    refine at_iconst (pc := 66) X (0 : Int32) dX4_silence_66 ic_0 ?_
    refine at_istore (pc := 67) X 5 [(5, .int (0 : Int32)), (0, .ref a0), (1, .int x1), (2, .int x2), (3, .int x3), (4, .int x4)] dX4_silence_67 (by decide) rfl ?_
    have h2 := mm_inr h hk; exact at_sub [1, 2, 3, 4, 5, 0] rfl h2
set_option maxHeartbeats 4000000 in
set_option maxRecDepth 100000 in
theorem wX4_silence_b0 {E : mm_E} {G : mm_G} (X : mm_Cx E G cX4_silence 7 RX4 wsX4_silence rmX4_silence (some .int)) {a0 : Nat} {x1 : Int32} {σ : mm_M} {q : (Int32 × mm_M)} (ha0 : mm_Is G 4 a0) {o : (Int32 × mm_M) ⊕ ((Int32 × Int32 × Int32 × mm_M) ⊕ (Int32 × Int32 × Int32 × Int32 × mm_M))} (h : fX4_silence_b0 G a0 x1 σ = some o) (hk : mm_Ok q (PX4_silence E G a0 x1 q) o) : mm_At E G 7 (mm_Qi E G q) σ 0 [(0, .ref a0), (1, .int x1)] [] := by
  unfold fX4_silence_b0 at h
  refine at_iload_n (pc := 0) X 1 1 dX4_silence_0 rfl rfl ?_
  refine at_iconst (pc := 1) X (1 : Int32) dX4_silence_1 ic_1 ?_
  refine at_bipush (pc := 2) X (40 : Int32) dX4_silence_2 ib_40 ?_
  obtain ⟨q4, hq4, h⟩ := mm_bind h
  refine at_scalli (n := 3) (pc := 4) X [.int x1, .int (1 : Int32), .int (40 : Int32)] [] (mX4_in (eL E) X.wf hq4) gX4_silence_X4_in rfl ⟨rfl, rfl⟩ (by decide +kernel) ⟨by decide, by decide⟩ rfl rfl (Nat.le_of_ble_eq_true rfl) dX4_silence_4 ?_
  refine at_if_ne (pc := 7) X 12 dX4_silence_7 (by decide) (fun c7 => ?_) (fun c7 => ?_)
  · have h := mm_neg c7 h
    refine at_aload_n (pc := 12) X 0 0 dX4_silence_12 rfl rfl ?_
    refine at_get (pc := 13) X 4 5 (.ref (mm_R G a0 5)) ha0 (by decide) rfl inX4_silence_X4 (by decide) lkX4_silence_0 rfl dX4_silence_13 ?_
    refine at_bipush (pc := 16) X (32 : Int32) dX4_silence_16 ib_32 ?_
    obtain ⟨hc18, h⟩ := mm_chk h
    refine at_iald (pc := 18) X (wf_4_5 X.wf ha0) hc18 dX4_silence_18 ?_
    refine at_if_ne (pc := 19) X 25 dX4_silence_19 (by decide) (fun c19 => ?_) (fun c19 => ?_)
    · have h := mm_neg c19 h
      refine at_iconst (pc := 25) X (0 : Int32) dX4_silence_25 ic_0 ?_
      refine at_istore_n (pc := 26) X 2 [(2, .int (0 : Int32)), (0, .ref a0), (1, .int x1)] dX4_silence_26 rfl (by decide) rfl ?_
      refine at_iconst (pc := 27) X (-1 : Int32) dX4_silence_27 ic_m1 ?_
      refine at_istore_n (pc := 28) X 3 [(3, .int (-1 : Int32)), (2, .int (0 : Int32)), (0, .ref a0), (1, .int x1)] dX4_silence_28 rfl (by decide) rfl ?_
      refine at_iconst (pc := 29) X (0 : Int32) dX4_silence_29 ic_0 ?_
      refine at_istore (pc := 30) X 4 [(4, .int (0 : Int32)), (3, .int (-1 : Int32)), (2, .int (0 : Int32)), (0, .ref a0), (1, .int x1)] dX4_silence_30 (by decide) rfl ?_
      have h2 := mm_inr h hk; exact at_sub [3, 4, 2, 1, 0] rfl h2
    · have h := mm_pos c19 h
      refine at_bipush (pc := 22) X (-4 : Int32) dX4_silence_22 ib_m4 ?_
      exact at_iret (pc := 24) X (mm_inl h hk) dX4_silence_24
  · have h := mm_pos c7 h
    refine at_iconst (pc := 10) X (-1 : Int32) dX4_silence_10 ic_m1 ?_
    exact at_iret (pc := 11) X (mm_inl h hk) dX4_silence_11
set_option maxHeartbeats 4000000 in
set_option maxRecDepth 100000 in
theorem mX4_silence (l : Launch) {G : mm_G} (hwf : mm_WF G) {a0 : Nat} {x1 : Int32} {σ : mm_M} {q : (Int32 × mm_M)} (ha0 : mm_Is G 4 a0) (h : fX4_silence G a0 x1 σ = some q) : mm_Mi l yX4_silence wsX4_silence rmX4_silence G [.ref a0, .int x1] σ q := by
  refine mm_ofi (cc := cX4_silence) (nL := 7) (ret := some .int) (own := RX4) (lv0 := [(0, .ref a0), (1, .int x1)]) (by decide) rfl rfl (Nat.le_of_ble_eq_true rfl) rfl hwf (fun E hE X => ?_)
  obtain ⟨o, h0, hk⟩ := mm_run_ok (P := PX4_silence E G a0 x1 q) h (fun s o hs hk => by cases s with | inl s => exact wX4_silence_b32 X ha0 hs hk | inr s => (exact wX4_silence_b69 X ha0 hs hk))
  exact wX4_silence_b0 X ha0 h0 hk
