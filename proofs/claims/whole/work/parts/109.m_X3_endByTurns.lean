/-! X3_endByTurns X3_duel X3_weightOf -/
set_option maxRecDepth 20000 in
theorem ggX3_endByTurns_X0_become : GoodIn wsX3_endByTurns wsX0_become := goodIn_r _ [17, 18, 19, 20, 21, 22, 23, 24, 25, 26, 27, 28, 29, 30, 31, 32, 33, 34, 115, 116, 117, 118, 119, 120, 121, 122, 123, 124, 125, 126] (by decide +kernel) (by decide +kernel)
set_option maxRecDepth 20000 in
theorem gX3_endByTurns_X0_become : GoodIn wsX3_endByTurns (wsV RX3 108 RX0 yX0_become wsX0_become) := goodIn_app (goodIn_of _ (by decide +kernel)) ggX3_endByTurns_X0_become
set_option maxRecDepth 20000 in
theorem ggX3_endByTurns_X0_goToEnd : GoodIn wsX3_endByTurns wsX0_goToEnd := goodIn_r _ [38, 39, 40, 41, 16, 42, 18, 23, 43, 44, 45, 46, 47, 48, 20, 19, 21, 22, 49, 50, 51, 52, 53, 54, 55, 27, 56, 32, 33, 57, 58, 59, 60, 29, 61, 62, 63, 64, 65, 66, 67, 68, 69, 70, 71, 34, 72, 73, 74, 75, 76, 77, 78, 79, 80, 81, 82, 83, 30, 31, 84, 85, 86, 87, 88, 11, 8, 12, 89, 7, 9, 90, 91, 92, 93, 115, 116, 117, 118, 119, 120, 121, 122, 123, 124, 125, 126] (by decide +kernel) (by decide +kernel)
set_option maxRecDepth 20000 in
theorem gX3_endByTurns_X0_goToEnd : GoodIn wsX3_endByTurns (wsV RX3 176 RX0 yX0_goToEnd wsX0_goToEnd) := goodIn_app (goodIn_of _ (by decide +kernel)) ggX3_endByTurns_X0_goToEnd
set_option maxRecDepth 20000 in
theorem ggX3_endByTurns_X3_endByTurns : GoodIn wsX3_endByTurns wsX3_endByTurns := goodIn_r _ [0, 1, 2, 3, 4, 5, 6, 7, 8, 9, 10, 11, 12, 13, 14, 15, 16, 17, 18, 19, 20, 21, 22, 23, 24, 25, 26, 27, 28, 29, 30, 31, 32, 33, 34, 35, 36, 37, 38, 39, 40, 41, 42, 43, 44, 45, 46, 47, 48, 49, 50, 51, 52, 53, 54, 55, 56, 57, 58, 59, 60, 61, 62, 63, 64, 65, 66, 67, 68, 69, 70, 71, 72, 73, 74, 75, 76, 77, 78, 79, 80, 81, 82, 83, 84, 85, 86, 87, 88, 89, 90, 91, 92, 93, 94, 95, 96, 97, 98, 99, 100, 101, 102, 103, 104, 105, 106, 107, 108, 109, 110, 111, 112, 113, 114, 115, 116, 117, 118, 119, 120, 121, 122, 123, 124, 125, 126] (by decide +kernel) (by decide +kernel)
set_option maxRecDepth 20000 in
theorem gX3_endByTurns_X3_endByTurns : GoodIn wsX3_endByTurns (wsV RX3 209 RX3 yX3_endByTurns wsX3_endByTurns) := goodIn_app (goodIn_of _ (by decide +kernel)) ggX3_endByTurns_X3_endByTurns
theorem dX3_endByTurns_0 : decode cX3_endByTurns 0 = .ok (.iload_n 1, 1) := by decide +kernel
theorem dX3_endByTurns_1 : decode cX3_endByTurns 1 = .ok (.ifCond .gt 39, 3) := by decide +kernel
theorem dX3_endByTurns_4 : decode cX3_endByTurns 4 = .ok (.aload_n 0, 1) := by decide +kernel
theorem dX3_endByTurns_5 : decode cX3_endByTurns 5 = .ok (.getfield 47, 3) := by decide +kernel
theorem dX3_endByTurns_8 : decode cX3_endByTurns 8 = .ok (.aload_n 0, 1) := by decide +kernel
theorem dX3_endByTurns_9 : decode cX3_endByTurns 9 = .ok (.getfield 50, 3) := by decide +kernel
theorem dX3_endByTurns_12 : decode cX3_endByTurns 12 = .ok (.invokevirtual 108, 3) := by decide +kernel
theorem dX3_endByTurns_15 : decode cX3_endByTurns 15 = .ok (.aload_n 0, 1) := by decide +kernel
theorem dX3_endByTurns_16 : decode cX3_endByTurns 16 = .ok (.getfield 47, 3) := by decide +kernel
theorem dX3_endByTurns_19 : decode cX3_endByTurns 19 = .ok (.invokevirtual 176, 3) := by decide +kernel
theorem dX3_endByTurns_22 : decode cX3_endByTurns 22 = .ok (.istore 5, 2) := by decide +kernel
theorem dX3_endByTurns_24 : decode cX3_endByTurns 24 = .ok (.iload 5, 2) := by decide +kernel
theorem dX3_endByTurns_26 : decode cX3_endByTurns 26 = .ok (.bipush (-9), 2) := by decide +kernel
theorem dX3_endByTurns_28 : decode cX3_endByTurns 28 = .ok (.if_icmp .ne 9, 3) := by decide +kernel
theorem dX3_endByTurns_31 : decode cX3_endByTurns 31 = .ok (.sipush 201, 3) := by decide +kernel
theorem dX3_endByTurns_34 : decode cX3_endByTurns 34 = .ok (.goto 5, 3) := by decide +kernel
theorem dX3_endByTurns_37 : decode cX3_endByTurns 37 = .ok (.iload 5, 2) := by decide +kernel
theorem dX3_endByTurns_39 : decode cX3_endByTurns 39 = .ok (.ireturn, 1) := by decide +kernel
theorem dX3_endByTurns_40 : decode cX3_endByTurns 40 = .ok (.iload_n 3, 1) := by decide +kernel
theorem dX3_endByTurns_41 : decode cX3_endByTurns 41 = .ok (.istore 5, 2) := by decide +kernel
theorem dX3_endByTurns_43 : decode cX3_endByTurns 43 = .ok (.iload 4, 2) := by decide +kernel
theorem dX3_endByTurns_45 : decode cX3_endByTurns 45 = .ok (.istore 6, 2) := by decide +kernel
theorem dX3_endByTurns_47 : decode cX3_endByTurns 47 = .ok (.iconst 0, 1) := by decide +kernel
theorem dX3_endByTurns_48 : decode cX3_endByTurns 48 = .ok (.istore 7, 2) := by decide +kernel
theorem dX3_endByTurns_50 : decode cX3_endByTurns 50 = .ok (.iload 7, 2) := by decide +kernel
theorem dX3_endByTurns_52 : decode cX3_endByTurns 52 = .ok (.aload_n 0, 1) := by decide +kernel
theorem dX3_endByTurns_53 : decode cX3_endByTurns 53 = .ok (.getfield 50, 3) := by decide +kernel
theorem dX3_endByTurns_56 : decode cX3_endByTurns 56 = .ok (.getfield 112, 3) := by decide +kernel
theorem dX3_endByTurns_59 : decode cX3_endByTurns 59 = .ok (.if_icmp .ge 101, 3) := by decide +kernel
theorem dX3_endByTurns_62 : decode cX3_endByTurns 62 = .ok (.iload 5, 2) := by decide +kernel
theorem dX3_endByTurns_64 : decode cX3_endByTurns 64 = .ok (.iload 6, 2) := by decide +kernel
theorem dX3_endByTurns_66 : decode cX3_endByTurns 66 = .ok (.if_icmp .ge 94, 3) := by decide +kernel
theorem dX3_endByTurns_69 : decode cX3_endByTurns 69 = .ok (.aload_n 0, 1) := by decide +kernel
theorem dX3_endByTurns_70 : decode cX3_endByTurns 70 = .ok (.getfield 50, 3) := by decide +kernel
theorem dX3_endByTurns_73 : decode cX3_endByTurns 73 = .ok (.getfield 116, 3) := by decide +kernel
theorem dX3_endByTurns_76 : decode cX3_endByTurns 76 = .ok (.iload 7, 2) := by decide +kernel
theorem dX3_endByTurns_78 : decode cX3_endByTurns 78 = .ok (.aaload, 1) := by decide +kernel
theorem dX3_endByTurns_79 : decode cX3_endByTurns 79 = .ok (.dup, 1) := by decide +kernel
theorem dX3_endByTurns_80 : decode cX3_endByTurns 80 = .ok (.getfield 150, 3) := by decide +kernel
theorem dX3_endByTurns_83 : decode cX3_endByTurns 83 = .ok (.iconst 1, 1) := by decide +kernel
theorem dX3_endByTurns_84 : decode cX3_endByTurns 84 = .ok (.iadd, 1) := by decide +kernel
theorem dX3_endByTurns_85 : decode cX3_endByTurns 85 = .ok (.putfield 150, 3) := by decide +kernel
theorem dX3_endByTurns_88 : decode cX3_endByTurns 88 = .ok (.aload_n 0, 1) := by decide +kernel
theorem dX3_endByTurns_89 : decode cX3_endByTurns 89 = .ok (.iload_n 1, 1) := by decide +kernel
theorem dX3_endByTurns_90 : decode cX3_endByTurns 90 = .ok (.iconst 1, 1) := by decide +kernel
theorem dX3_endByTurns_91 : decode cX3_endByTurns 91 = .ok (.isub, 1) := by decide +kernel
theorem dX3_endByTurns_92 : decode cX3_endByTurns 92 = .ok (.iload_n 2, 1) := by decide +kernel
theorem dX3_endByTurns_93 : decode cX3_endByTurns 93 = .ok (.ifCond .ne 7, 3) := by decide +kernel
theorem dX3_endByTurns_96 : decode cX3_endByTurns 96 = .ok (.iconst 1, 1) := by decide +kernel
theorem dX3_endByTurns_97 : decode cX3_endByTurns 97 = .ok (.goto 4, 3) := by decide +kernel
theorem dX3_endByTurns_100 : decode cX3_endByTurns 100 = .ok (.iconst 0, 1) := by decide +kernel
theorem dX3_endByTurns_101 : decode cX3_endByTurns 101 = .ok (.iload 5, 2) := by decide +kernel
theorem dX3_endByTurns_103 : decode cX3_endByTurns 103 = .ok (.iload 6, 2) := by decide +kernel
theorem dX3_endByTurns_105 : decode cX3_endByTurns 105 = .ok (.invokevirtual 209, 3) := by decide +kernel
theorem dX3_endByTurns_108 : decode cX3_endByTurns 108 = .ok (.istore 8, 2) := by decide +kernel
theorem dX3_endByTurns_110 : decode cX3_endByTurns 110 = .ok (.aload_n 0, 1) := by decide +kernel
theorem dX3_endByTurns_111 : decode cX3_endByTurns 111 = .ok (.getfield 50, 3) := by decide +kernel
theorem dX3_endByTurns_114 : decode cX3_endByTurns 114 = .ok (.getfield 116, 3) := by decide +kernel
theorem dX3_endByTurns_117 : decode cX3_endByTurns 117 = .ok (.iload 7, 2) := by decide +kernel
theorem dX3_endByTurns_119 : decode cX3_endByTurns 119 = .ok (.aaload, 1) := by decide +kernel
theorem dX3_endByTurns_120 : decode cX3_endByTurns 120 = .ok (.dup, 1) := by decide +kernel
theorem dX3_endByTurns_121 : decode cX3_endByTurns 121 = .ok (.getfield 150, 3) := by decide +kernel
theorem dX3_endByTurns_124 : decode cX3_endByTurns 124 = .ok (.iconst 1, 1) := by decide +kernel
theorem dX3_endByTurns_125 : decode cX3_endByTurns 125 = .ok (.isub, 1) := by decide +kernel
theorem dX3_endByTurns_126 : decode cX3_endByTurns 126 = .ok (.putfield 150, 3) := by decide +kernel
theorem dX3_endByTurns_129 : decode cX3_endByTurns 129 = .ok (.iload_n 2, 1) := by decide +kernel
theorem dX3_endByTurns_130 : decode cX3_endByTurns 130 = .ok (.ifCond .eq 15, 3) := by decide +kernel
theorem dX3_endByTurns_133 : decode cX3_endByTurns 133 = .ok (.iload 5, 2) := by decide +kernel
theorem dX3_endByTurns_135 : decode cX3_endByTurns 135 = .ok (.iload 8, 2) := by decide +kernel
theorem dX3_endByTurns_137 : decode cX3_endByTurns 137 = .ok (.invokestatic 248, 3) := by decide +kernel
theorem dX3_endByTurns_140 : decode cX3_endByTurns 140 = .ok (.istore 5, 2) := by decide +kernel
theorem dX3_endByTurns_142 : decode cX3_endByTurns 142 = .ok (.goto 12, 3) := by decide +kernel
theorem dX3_endByTurns_145 : decode cX3_endByTurns 145 = .ok (.iload 6, 2) := by decide +kernel
theorem dX3_endByTurns_147 : decode cX3_endByTurns 147 = .ok (.iload 8, 2) := by decide +kernel
theorem dX3_endByTurns_149 : decode cX3_endByTurns 149 = .ok (.invokestatic 253, 3) := by decide +kernel
theorem dX3_endByTurns_152 : decode cX3_endByTurns 152 = .ok (.istore 6, 2) := by decide +kernel
theorem dX3_endByTurns_154 : decode cX3_endByTurns 154 = .ok (.iinc 7 1, 3) := by decide +kernel
theorem dX3_endByTurns_157 : decode cX3_endByTurns 157 = .ok (.goto (-107), 3) := by decide +kernel
theorem dX3_endByTurns_160 : decode cX3_endByTurns 160 = .ok (.iload_n 2, 1) := by decide +kernel
theorem dX3_endByTurns_161 : decode cX3_endByTurns 161 = .ok (.ifCond .eq 8, 3) := by decide +kernel
theorem dX3_endByTurns_164 : decode cX3_endByTurns 164 = .ok (.iload 5, 2) := by decide +kernel
theorem dX3_endByTurns_166 : decode cX3_endByTurns 166 = .ok (.goto 5, 3) := by decide +kernel
theorem dX3_endByTurns_169 : decode cX3_endByTurns 169 = .ok (.iload 6, 2) := by decide +kernel
theorem dX3_endByTurns_171 : decode cX3_endByTurns 171 = .ok (.ireturn, 1) := by decide +kernel
/-! X3_endByTurns (IZII)I -/
abbrev rmX3_endByTurnsL0 : Room := { frames := 6, cells := 0, slots := 0, locals := 126 }
theorem lkX3_endByTurnsL0_0 : Cond.fieldLink RX3 50 (TX3 9).1 (TX3 9).2.1 (TX3 9).2.2.1 ∈ wsX3_endByTurns := by decide +kernel
theorem lkX3_endByTurnsL0_1 : Cond.fieldLink RX3 112 (TX0 1).1 (TX0 1).2.1 (TX0 1).2.2.1 ∈ wsX3_endByTurns := by decide +kernel
theorem lkX3_endByTurnsL0_2 : Cond.fieldLink RX3 116 (TX0 0).1 (TX0 0).2.1 (TX0 0).2.2.1 ∈ wsX3_endByTurns := by decide +kernel
theorem lkX3_endByTurnsL0_3 : Cond.fieldLink RX3 150 (TX2 3).1 (TX2 3).2.1 (TX2 3).2.2.1 ∈ wsX3_endByTurns := by decide +kernel
theorem lkX3_endByTurnsL0_4 : Cond.fieldLink RX3 47 (TX3 8).1 (TX3 8).2.1 (TX3 8).2.2.1 ∈ wsX3_endByTurns := by decide +kernel
theorem inX3_endByTurnsL0_X3 : ∀ w ∈ u_ws RX3 TX3 17, w ∈ wsX3_endByTurns := by decide +kernel
theorem inX3_endByTurnsL0_X0 : ∀ w ∈ u_ws RX0 TX0 6, w ∈ wsX3_endByTurns := by decide +kernel
theorem inX3_endByTurnsL0_X2 : ∀ w ∈ u_ws RX2 TX2 6, w ∈ wsX3_endByTurns := by decide +kernel
noncomputable def fX3_endByTurnsL0_b160 (G : mm_G) (a0 : Nat) (x1 : Int32) (x2 : Int32) (x3 : Int32) (x4 : Int32) (x5 : Int32) (x6 : Int32) (σ : mm_M) : Option ((Int32 × mm_M) ⊕ (Int32 × Int32 × Int32 × mm_M)) := some (.inl (if x2 = 0 then x6 else x5, σ))
noncomputable def fX3_endByTurnsL0_b101 (G : mm_G) (a0 : Nat) (x1 : Int32) (x2 : Int32) (x3 : Int32) (x4 : Int32) (x5 : Int32) (x6 : Int32) (x7 : Int32) (sx0 : Int32) (sx1 : Int32) (sa2 : Nat) (σ : mm_M) : Option ((Int32 × mm_M) ⊕ (Int32 × Int32 × Int32 × mm_M)) := none
noncomputable def fX3_endByTurnsL0_b50 (G : mm_G) (a0 : Nat) (x1 : Int32) (x2 : Int32) (x3 : Int32) (x4 : Int32) (x5 : Int32) (x6 : Int32) (x7 : Int32) (σ : mm_M) : Option ((Int32 × mm_M) ⊕ (Int32 × Int32 × Int32 × mm_M)) := if x7 < (σ.1 (mm_R G a0 9) 1) then (if x5 < x6 then (if x7 < 0 ∨ mm_N G (mm_R G (mm_R G a0 9) 0) ≤ x7.toNatClampNeg then none else (fX3_endByTurnsL0_b101 G a0 x1 x2 x3 x4 x5 x6 x7 (if x2 = 0 then (1 : Int32) else (0 : Int32)) (x1 - (1 : Int32)) a0 (mm_up σ (mm_R G (mm_R G (mm_R G a0 9) 0) x7.toNatClampNeg) 3 ((σ.1 (mm_R G (mm_R G (mm_R G a0 9) 0) x7.toNatClampNeg) 3) + (1 : Int32))))) else (fX3_endByTurnsL0_b160 G a0 x1 x2 x3 x4 x5 x6 σ)) else (fX3_endByTurnsL0_b160 G a0 x1 x2 x3 x4 x5 x6 σ)
noncomputable def fX3_endByTurnsL0_b0 (G : mm_G) (a0 : Nat) (x1 : Int32) (x2 : Int32) (x3 : Int32) (x4 : Int32) (σ : mm_M) : Option ((Int32 × mm_M) ⊕ (Int32 × Int32 × Int32 × mm_M)) := if 0 < x1 then (some (.inr (x3, x4, (0 : Int32), σ))) else ((fX0_become G (mm_R G a0 8) (mm_R G a0 9) σ).bind (fun q12 => (fX0_goToEnd G (mm_R G a0 8) q12).bind (fun q19 => some (.inl (if q19.1 = (-9 : Int32) then (201 : Int32) else q19.1, q19.2)))))
noncomputable def fX3_endByTurnsL0_s (G : mm_G) (a0 : Nat) (x1 : Int32) (x2 : Int32) (x3 : Int32) (x4 : Int32) : (Int32 × Int32 × Int32 × mm_M) → Option ((Int32 × mm_M) ⊕ (Int32 × Int32 × Int32 × mm_M)) := (fun s => fX3_endByTurnsL0_b50 G a0 x1 x2 x3 x4 s.1 s.2.1 s.2.2.1 s.2.2.2)
def PX3_endByTurnsL0 (E : mm_E) (G : mm_G) (a0 : Nat) (x1 : Int32) (x2 : Int32) (x3 : Int32) (x4 : Int32) (q : (Int32 × mm_M)) : (Int32 × Int32 × Int32 × mm_M) → Prop := (fun s => mm_At E G 9 (mm_Qi E G q) s.2.2.2 50 [(0, .ref a0), (1, .int x1), (2, .int x2), (5, .int s.1), (6, .int s.2.1), (7, .int s.2.2.1)] [])
noncomputable def fX3_endByTurnsL0 (G : mm_G) (a0 : Nat) (x1 : Int32) (x2 : Int32) (x3 : Int32) (x4 : Int32) (σ : mm_M) : Option (Int32 × mm_M) := mm_run (fX3_endByTurnsL0_b0 G a0 x1 x2 x3 x4 σ) (fX3_endByTurnsL0_s G a0 x1 x2 x3 x4)
set_option maxHeartbeats 4000000 in
set_option maxRecDepth 100000 in
theorem wX3_endByTurnsL0_b160 {E : mm_E} {G : mm_G} (X : mm_Cx E G cX3_endByTurns 9 RX3 wsX3_endByTurns rmX3_endByTurnsL0 (some .int)) {a0 : Nat} {x1 : Int32} {x2 : Int32} {x3 : Int32} {x4 : Int32} {x5 : Int32} {x6 : Int32} {σ : mm_M} {q : (Int32 × mm_M)} (ha0 : mm_Is G 3 a0) {o : (Int32 × mm_M) ⊕ (Int32 × Int32 × Int32 × mm_M)} (h : fX3_endByTurnsL0_b160 G a0 x1 x2 x3 x4 x5 x6 σ = some o) (hk : mm_Ok q (PX3_endByTurnsL0 E G a0 x1 x2 x3 x4 q) o) : mm_At E G 9 (mm_Qi E G q) σ 160 [(2, .int x2), (5, .int x5), (6, .int x6)] [] := by
  unfold fX3_endByTurnsL0_b160 at h
  refine at_iload_n (pc := 160) X 2 0 dX3_endByTurns_160 rfl rfl ?_
  have hj161 : mm_At E G 9 (mm_Qi E G q) σ 171 [] [.int (if x2 = 0 then x6 else x5)] := by
    exact at_iret (pc := 171) X (mm_inl h hk) dX3_endByTurns_171
  refine at_if_eq (pc := 161) X 169 dX3_endByTurns_161 (by decide) (fun c161 => ?_) (fun c161 => ?_)
  · try simp only [if_pos c161] at hj161
    refine at_iload (pc := 169) X 6 2 dX3_endByTurns_169 rfl ?_
    exact at_sub [] rfl hj161
  · try simp only [if_neg c161] at hj161
    refine at_iload (pc := 164) X 5 1 dX3_endByTurns_164 rfl ?_
    refine at_goto (pc := 166) X 171 dX3_endByTurns_166 (by decide) ?_
    exact at_sub [] rfl hj161
set_option maxHeartbeats 4000000 in
set_option maxRecDepth 100000 in
theorem wX3_endByTurnsL0_b101 {E : mm_E} {G : mm_G} (X : mm_Cx E G cX3_endByTurns 9 RX3 wsX3_endByTurns rmX3_endByTurnsL0 (some .int)) {a0 : Nat} {x1 : Int32} {x2 : Int32} {x3 : Int32} {x4 : Int32} {x5 : Int32} {x6 : Int32} {x7 : Int32} {sx0 : Int32} {sx1 : Int32} {sa2 : Nat} {σ : mm_M} {q : (Int32 × mm_M)} (ha0 : mm_Is G 3 a0) (hsa2 : mm_Is G 3 sa2) {o : (Int32 × mm_M) ⊕ (Int32 × Int32 × Int32 × mm_M)} (h : fX3_endByTurnsL0_b101 G a0 x1 x2 x3 x4 x5 x6 x7 sx0 sx1 sa2 σ = some o) (hk : mm_Ok q (PX3_endByTurnsL0 E G a0 x1 x2 x3 x4 q) o) : mm_At E G 9 (mm_Qi E G q) σ 101 [(0, .ref a0), (1, .int x1), (2, .int x2), (5, .int x5), (6, .int x6), (7, .int x7)] [.int sx0, .int sx1, .ref sa2] := by
  unfold fX3_endByTurnsL0_b101 at h
  refine at_iload (pc := 101) X 5 3 dX3_endByTurns_101 rfl ?_
  refine at_iload (pc := 103) X 6 4 dX3_endByTurns_103 rfl ?_
  cases h
set_option maxHeartbeats 4000000 in
set_option maxRecDepth 100000 in
theorem wX3_endByTurnsL0_b50 {E : mm_E} {G : mm_G} (X : mm_Cx E G cX3_endByTurns 9 RX3 wsX3_endByTurns rmX3_endByTurnsL0 (some .int)) {a0 : Nat} {x1 : Int32} {x2 : Int32} {x3 : Int32} {x4 : Int32} {x5 : Int32} {x6 : Int32} {x7 : Int32} {σ : mm_M} {q : (Int32 × mm_M)} (ha0 : mm_Is G 3 a0) {o : (Int32 × mm_M) ⊕ (Int32 × Int32 × Int32 × mm_M)} (h : fX3_endByTurnsL0_b50 G a0 x1 x2 x3 x4 x5 x6 x7 σ = some o) (hk : mm_Ok q (PX3_endByTurnsL0 E G a0 x1 x2 x3 x4 q) o) : mm_At E G 9 (mm_Qi E G q) σ 50 [(0, .ref a0), (1, .int x1), (2, .int x2), (5, .int x5), (6, .int x6), (7, .int x7)] [] := by
  unfold fX3_endByTurnsL0_b50 at h
  refine at_iload (pc := 50) X 7 5 dX3_endByTurns_50 rfl ?_
  refine at_aload_n (pc := 52) X 0 0 dX3_endByTurns_52 rfl rfl ?_
  refine at_get (pc := 53) X 3 9 (.ref (mm_R G a0 9)) ha0 (by decide) rfl inX3_endByTurnsL0_X3 (by decide) lkX3_endByTurnsL0_0 rfl dX3_endByTurns_53 ?_
  refine at_get (pc := 56) X 0 1 (.int (σ.1 (mm_R G a0 9) 1)) (wf_3_9 X.wf ha0) (by decide) rfl inX3_endByTurnsL0_X0 (by decide) lkX3_endByTurnsL0_1 rfl dX3_endByTurns_56 ?_
  refine at_icmp_ge (pc := 59) X 160 dX3_endByTurns_59 (by decide) (fun c59 => ?_) (fun c59 => ?_)
  · have h := mm_neg c59 h
    exact at_sub [2, 3, 4] rfl (wX3_endByTurnsL0_b160 X ha0 h hk)
  · have h := mm_pos c59 h
    refine at_iload (pc := 62) X 5 3 dX3_endByTurns_62 rfl ?_
    refine at_iload (pc := 64) X 6 4 dX3_endByTurns_64 rfl ?_
    refine at_icmp_ge (pc := 66) X 160 dX3_endByTurns_66 (by decide) (fun c66 => ?_) (fun c66 => ?_)
    · have h := mm_neg c66 h
      exact at_sub [2, 3, 4] rfl (wX3_endByTurnsL0_b160 X ha0 h hk)
    · have h := mm_pos c66 h
      refine at_aload_n (pc := 69) X 0 0 dX3_endByTurns_69 rfl rfl ?_
      refine at_get (pc := 70) X 3 9 (.ref (mm_R G a0 9)) ha0 (by decide) rfl inX3_endByTurnsL0_X3 (by decide) lkX3_endByTurnsL0_0 rfl dX3_endByTurns_70 ?_
      refine at_get (pc := 73) X 0 0 (.ref (mm_R G (mm_R G a0 9) 0)) (wf_3_9 X.wf ha0) (by decide) rfl inX3_endByTurnsL0_X0 (by decide) lkX3_endByTurnsL0_2 rfl dX3_endByTurns_73 ?_
      refine at_iload (pc := 76) X 7 5 dX3_endByTurns_76 rfl ?_
      obtain ⟨hc78, h⟩ := mm_chk h
      refine at_aald (pc := 78) X 8 3 (wf_0_0 X.wf (wf_3_9 X.wf ha0)) (by decide) (by decide) rfl rfl hc78 dX3_endByTurns_78 ?_
      refine at_dup (pc := 79) X dX3_endByTurns_79 rfl ?_
      refine at_get (pc := 80) X 2 3 (.int (σ.1 (mm_R G (mm_R G (mm_R G a0 9) 0) x7.toNatClampNeg) 3)) (wf_8 X.wf (wf_0_0 X.wf (wf_3_9 X.wf ha0)) hc78) (by decide) rfl inX3_endByTurnsL0_X2 (by decide) lkX3_endByTurnsL0_3 rfl dX3_endByTurns_80 ?_
      refine at_iconst (pc := 83) X (1 : Int32) dX3_endByTurns_83 ic_1 ?_
      refine at_iadd (pc := 84) X dX3_endByTurns_84 ?_
      refine at_put (pc := 85) X 2 3 (wf_8 X.wf (wf_0_0 X.wf (wf_3_9 X.wf ha0)) hc78) (by decide) rfl inX3_endByTurnsL0_X2 tyX2 tyX2_ok nmX2 (by decide) lkX3_endByTurnsL0_3 rfl (ty := .int) rfl rfl rfl (Nat.le_of_ble_eq_true rfl) (ms_2_3 G _ _ _) mm_up_ne dX3_endByTurns_85 ?_
      refine at_aload_n (pc := 88) X 0 0 dX3_endByTurns_88 rfl rfl ?_
      refine at_iload_n (pc := 89) X 1 1 dX3_endByTurns_89 rfl rfl ?_
      refine at_iconst (pc := 90) X (1 : Int32) dX3_endByTurns_90 ic_1 ?_
      refine at_isub (pc := 91) X dX3_endByTurns_91 ?_
      refine at_iload_n (pc := 92) X 2 2 dX3_endByTurns_92 rfl rfl ?_
      have hj93 : mm_At E G 9 (mm_Qi E G q) (mm_up σ (mm_R G (mm_R G (mm_R G a0 9) 0) x7.toNatClampNeg) 3 ((σ.1 (mm_R G (mm_R G (mm_R G a0 9) 0) x7.toNatClampNeg) 3) + (1 : Int32))) 101 [(0, .ref a0), (1, .int x1), (2, .int x2), (5, .int x5), (6, .int x6), (7, .int x7)] [.int (if x2 = 0 then (1 : Int32) else (0 : Int32)), .int (x1 - (1 : Int32)), .ref a0] := by
        exact at_sub [0, 1, 2, 3, 4, 5] rfl (wX3_endByTurnsL0_b101 X ha0 ha0 h hk)
      refine at_if_ne (pc := 93) X 100 dX3_endByTurns_93 (by decide) (fun c93 => ?_) (fun c93 => ?_)
      · try simp only [if_neg c93] at hj93
        refine at_iconst (pc := 100) X (0 : Int32) dX3_endByTurns_100 ic_0 ?_
        exact at_sub [0, 1, 2, 3, 4, 5] rfl hj93
      · try simp only [if_pos c93] at hj93
        refine at_iconst (pc := 96) X (1 : Int32) dX3_endByTurns_96 ic_1 ?_
        refine at_goto (pc := 97) X 101 dX3_endByTurns_97 (by decide) ?_
        exact at_sub [0, 1, 2, 3, 4, 5] rfl hj93
set_option maxHeartbeats 4000000 in
set_option maxRecDepth 100000 in
theorem wX3_endByTurnsL0_b0 {E : mm_E} {G : mm_G} (X : mm_Cx E G cX3_endByTurns 9 RX3 wsX3_endByTurns rmX3_endByTurnsL0 (some .int)) {a0 : Nat} {x1 : Int32} {x2 : Int32} {x3 : Int32} {x4 : Int32} {σ : mm_M} {q : (Int32 × mm_M)} (ha0 : mm_Is G 3 a0) {o : (Int32 × mm_M) ⊕ (Int32 × Int32 × Int32 × mm_M)} (h : fX3_endByTurnsL0_b0 G a0 x1 x2 x3 x4 σ = some o) (hk : mm_Ok q (PX3_endByTurnsL0 E G a0 x1 x2 x3 x4 q) o) : mm_At E G 9 (mm_Qi E G q) σ 0 [(0, .ref a0), (1, .int x1), (2, .int x2), (3, .int x3), (4, .int x4)] [] := by
  unfold fX3_endByTurnsL0_b0 at h
  refine at_iload_n (pc := 0) X 1 1 dX3_endByTurns_0 rfl rfl ?_
  refine at_if_gt (pc := 1) X 40 dX3_endByTurns_1 (by decide) (fun c1 => ?_) (fun c1 => ?_)
  · have h := mm_pos c1 h
    refine at_iload_n (pc := 40) X 3 3 dX3_endByTurns_40 rfl rfl ?_
    refine at_istore (pc := 41) X 5 [(5, .int x3), (0, .ref a0), (1, .int x1), (2, .int x2), (3, .int x3), (4, .int x4)] dX3_endByTurns_41 (by decide) rfl ?_
    refine at_iload (pc := 43) X 4 5 dX3_endByTurns_43 rfl ?_
    refine at_istore (pc := 45) X 6 [(6, .int x4), (5, .int x3), (0, .ref a0), (1, .int x1), (2, .int x2), (3, .int x3), (4, .int x4)] dX3_endByTurns_45 (by decide) rfl ?_
    refine at_iconst (pc := 47) X (0 : Int32) dX3_endByTurns_47 ic_0 ?_
    refine at_istore (pc := 48) X 7 [(7, .int (0 : Int32)), (6, .int x4), (5, .int x3), (0, .ref a0), (1, .int x1), (2, .int x2), (3, .int x3), (4, .int x4)] dX3_endByTurns_48 (by decide) rfl ?_
    have h2 := mm_inr h hk; exact at_sub [3, 4, 5, 2, 1, 0] rfl h2
  · have h := mm_neg c1 h
    refine at_aload_n (pc := 4) X 0 0 dX3_endByTurns_4 rfl rfl ?_
    refine at_get (pc := 5) X 3 8 (.ref (mm_R G a0 8)) ha0 (by decide) rfl inX3_endByTurnsL0_X3 (by decide) lkX3_endByTurnsL0_4 rfl dX3_endByTurns_5 ?_
    refine at_aload_n (pc := 8) X 0 0 dX3_endByTurns_8 rfl rfl ?_
    refine at_get (pc := 9) X 3 9 (.ref (mm_R G a0 9)) ha0 (by decide) rfl inX3_endByTurnsL0_X3 (by decide) lkX3_endByTurnsL0_0 rfl dX3_endByTurns_9 ?_
    obtain ⟨q12, hq12, h⟩ := mm_bind h
    refine at_callv (n := 1) (pc := 12) X 0 [.ref (mm_R G a0 9)] [] (mX0_become (eL E) X.wf (wf_3_8 X.wf ha0) (wf_3_9 X.wf ha0) hq12) gX3_endByTurns_X0_become rfl ⟨rfl, rfl⟩ (by decide +kernel) ⟨by decide, by decide⟩ (by decide) rfl (wf_3_8 X.wf ha0) rfl rfl (Nat.le_of_ble_eq_true rfl) dX3_endByTurns_12 ?_
    refine at_aload_n (pc := 15) X 0 0 dX3_endByTurns_15 rfl rfl ?_
    refine at_get (pc := 16) X 3 8 (.ref (mm_R G a0 8)) ha0 (by decide) rfl inX3_endByTurnsL0_X3 (by decide) lkX3_endByTurnsL0_4 rfl dX3_endByTurns_16 ?_
    obtain ⟨q19, hq19, h⟩ := mm_bind h
    refine at_calli (n := 0) (pc := 19) X 0 [] [] (mX0_goToEnd (eL E) X.wf (wf_3_8 X.wf ha0) hq19) gX3_endByTurns_X0_goToEnd rfl ⟨rfl, rfl⟩ (by decide +kernel) ⟨by decide, by decide⟩ (by decide) rfl (wf_3_8 X.wf ha0) rfl rfl (Nat.le_of_ble_eq_true rfl) dX3_endByTurns_19 ?_
    refine at_istore (pc := 22) X 5 [(5, .int q19.1), (0, .ref a0), (1, .int x1), (2, .int x2), (3, .int x3), (4, .int x4)] dX3_endByTurns_22 (by decide) rfl ?_
    refine at_iload (pc := 24) X 5 0 dX3_endByTurns_24 rfl ?_
    refine at_bipush (pc := 26) X (-9 : Int32) dX3_endByTurns_26 ib_m9 ?_
    have hj28 : mm_At E G 9 (mm_Qi E G q) q19.2 39 [] [.int (if q19.1 = (-9 : Int32) then (201 : Int32) else q19.1)] := by
      exact at_iret (pc := 39) X (mm_inl h hk) dX3_endByTurns_39
    refine at_icmp_ne (pc := 28) X 37 dX3_endByTurns_28 (by decide) (fun c28 => ?_) (fun c28 => ?_)
    · try simp only [if_neg c28] at hj28
      refine at_iload (pc := 37) X 5 0 dX3_endByTurns_37 rfl ?_
      exact at_sub [] rfl hj28
    · try simp only [if_pos c28] at hj28
      refine at_sipush (pc := 31) X (201 : Int32) dX3_endByTurns_31 is_201 ?_
      refine at_goto (pc := 34) X 39 dX3_endByTurns_34 (by decide) ?_
      exact at_sub [] rfl hj28
set_option maxHeartbeats 4000000 in
set_option maxRecDepth 100000 in
theorem mX3_endByTurnsL0 (l : Launch) {G : mm_G} (hwf : mm_WF G) {a0 : Nat} {x1 : Int32} {x2 : Int32} {x3 : Int32} {x4 : Int32} {σ : mm_M} {q : (Int32 × mm_M)} (ha0 : mm_Is G 3 a0) (h : fX3_endByTurnsL0 G a0 x1 x2 x3 x4 σ = some q) : mm_Mi l yX3_endByTurns wsX3_endByTurns rmX3_endByTurnsL0 G [.ref a0, .int x1, .int x2, .int x3, .int x4] σ q := by
  refine mm_ofi (cc := cX3_endByTurns) (nL := 9) (ret := some .int) (own := RX3) (lv0 := [(0, .ref a0), (1, .int x1), (2, .int x2), (3, .int x3), (4, .int x4)]) (by decide) rfl rfl (Nat.le_of_ble_eq_true rfl) rfl hwf (fun E hE X => ?_)
  obtain ⟨o, h0, hk⟩ := mm_run_ok (P := PX3_endByTurnsL0 E G a0 x1 x2 x3 x4 q) h (fun s o hs hk => by exact wX3_endByTurnsL0_b50 X ha0 hs hk)
  exact wX3_endByTurnsL0_b0 X ha0 h0 hk
/-! X3_endByTurns (IZII)I -/
abbrev rmX3_endByTurnsL1 : Room := { frames := 7, cells := 0, slots := 0, locals := 154 }
theorem lkX3_endByTurnsL1_0 : Cond.fieldLink RX3 50 (TX3 9).1 (TX3 9).2.1 (TX3 9).2.2.1 ∈ wsX3_endByTurns := by decide +kernel
theorem lkX3_endByTurnsL1_1 : Cond.fieldLink RX3 112 (TX0 1).1 (TX0 1).2.1 (TX0 1).2.2.1 ∈ wsX3_endByTurns := by decide +kernel
theorem lkX3_endByTurnsL1_2 : Cond.fieldLink RX3 116 (TX0 0).1 (TX0 0).2.1 (TX0 0).2.2.1 ∈ wsX3_endByTurns := by decide +kernel
theorem lkX3_endByTurnsL1_3 : Cond.fieldLink RX3 150 (TX2 3).1 (TX2 3).2.1 (TX2 3).2.2.1 ∈ wsX3_endByTurns := by decide +kernel
theorem lkX3_endByTurnsL1_4 : Cond.methodLink RX3 253 Lib.Math.min.name ∈ wsX3_endByTurns := by decide +kernel
theorem lkX3_endByTurnsL1_5 : Cond.static Lib.Math.min.name ∈ wsX3_endByTurns := by decide +kernel
theorem lkX3_endByTurnsL1_6 : Cond.initialized "java/lang/Math" ∈ wsX3_endByTurns := by decide +kernel
theorem lkX3_endByTurnsL1_7 : Cond.code Lib.Math.min.name Lib.Math.min.code 2 (some .int) ∈ wsX3_endByTurns := by decide +kernel
theorem lkX3_endByTurnsL1_8 : Cond.methodLink RX3 248 Lib.Math.max.name ∈ wsX3_endByTurns := by decide +kernel
theorem lkX3_endByTurnsL1_9 : Cond.static Lib.Math.max.name ∈ wsX3_endByTurns := by decide +kernel
theorem lkX3_endByTurnsL1_10 : Cond.code Lib.Math.max.name Lib.Math.max.code 2 (some .int) ∈ wsX3_endByTurns := by decide +kernel
theorem lkX3_endByTurnsL1_11 : Cond.fieldLink RX3 47 (TX3 8).1 (TX3 8).2.1 (TX3 8).2.2.1 ∈ wsX3_endByTurns := by decide +kernel
theorem inX3_endByTurnsL1_X3 : ∀ w ∈ u_ws RX3 TX3 17, w ∈ wsX3_endByTurns := by decide +kernel
theorem inX3_endByTurnsL1_X0 : ∀ w ∈ u_ws RX0 TX0 6, w ∈ wsX3_endByTurns := by decide +kernel
theorem inX3_endByTurnsL1_X2 : ∀ w ∈ u_ws RX2 TX2 6, w ∈ wsX3_endByTurns := by decide +kernel
noncomputable def fX3_endByTurnsL1_b160 (G : mm_G) (a0 : Nat) (x1 : Int32) (x2 : Int32) (x3 : Int32) (x4 : Int32) (x5 : Int32) (x6 : Int32) (σ : mm_M) : Option ((Int32 × mm_M) ⊕ (Int32 × Int32 × Int32 × mm_M)) := some (.inl (if x2 = 0 then x6 else x5, σ))
noncomputable def fX3_endByTurnsL1_b101 (G : mm_G) (a0 : Nat) (x1 : Int32) (x2 : Int32) (x3 : Int32) (x4 : Int32) (x5 : Int32) (x6 : Int32) (x7 : Int32) (sx0 : Int32) (sx1 : Int32) (sa2 : Nat) (σ : mm_M) : Option ((Int32 × mm_M) ⊕ (Int32 × Int32 × Int32 × mm_M)) := (fX3_endByTurnsL0 G sa2 sx1 sx0 x5 x6 σ).bind (fun q105 => if x7 < 0 ∨ mm_N G (mm_R G (mm_R G a0 9) 0) ≤ x7.toNatClampNeg then none else (if x2 = 0 then (some (.inr (x5, if q105.1 < x6 then q105.1 else x6, x7 + 1, mm_up q105.2 (mm_R G (mm_R G (mm_R G a0 9) 0) x7.toNatClampNeg) 3 ((q105.2.1 (mm_R G (mm_R G (mm_R G a0 9) 0) x7.toNatClampNeg) 3) - (1 : Int32))))) else (some (.inr (if x5 < q105.1 then q105.1 else x5, x6, x7 + 1, mm_up q105.2 (mm_R G (mm_R G (mm_R G a0 9) 0) x7.toNatClampNeg) 3 ((q105.2.1 (mm_R G (mm_R G (mm_R G a0 9) 0) x7.toNatClampNeg) 3) - (1 : Int32)))))))
noncomputable def fX3_endByTurnsL1_b50 (G : mm_G) (a0 : Nat) (x1 : Int32) (x2 : Int32) (x3 : Int32) (x4 : Int32) (x5 : Int32) (x6 : Int32) (x7 : Int32) (σ : mm_M) : Option ((Int32 × mm_M) ⊕ (Int32 × Int32 × Int32 × mm_M)) := if x7 < (σ.1 (mm_R G a0 9) 1) then (if x5 < x6 then (if x7 < 0 ∨ mm_N G (mm_R G (mm_R G a0 9) 0) ≤ x7.toNatClampNeg then none else (fX3_endByTurnsL1_b101 G a0 x1 x2 x3 x4 x5 x6 x7 (if x2 = 0 then (1 : Int32) else (0 : Int32)) (x1 - (1 : Int32)) a0 (mm_up σ (mm_R G (mm_R G (mm_R G a0 9) 0) x7.toNatClampNeg) 3 ((σ.1 (mm_R G (mm_R G (mm_R G a0 9) 0) x7.toNatClampNeg) 3) + (1 : Int32))))) else (fX3_endByTurnsL1_b160 G a0 x1 x2 x3 x4 x5 x6 σ)) else (fX3_endByTurnsL1_b160 G a0 x1 x2 x3 x4 x5 x6 σ)
noncomputable def fX3_endByTurnsL1_b0 (G : mm_G) (a0 : Nat) (x1 : Int32) (x2 : Int32) (x3 : Int32) (x4 : Int32) (σ : mm_M) : Option ((Int32 × mm_M) ⊕ (Int32 × Int32 × Int32 × mm_M)) := if 0 < x1 then (some (.inr (x3, x4, (0 : Int32), σ))) else ((fX0_become G (mm_R G a0 8) (mm_R G a0 9) σ).bind (fun q12 => (fX0_goToEnd G (mm_R G a0 8) q12).bind (fun q19 => some (.inl (if q19.1 = (-9 : Int32) then (201 : Int32) else q19.1, q19.2)))))
noncomputable def fX3_endByTurnsL1_s (G : mm_G) (a0 : Nat) (x1 : Int32) (x2 : Int32) (x3 : Int32) (x4 : Int32) : (Int32 × Int32 × Int32 × mm_M) → Option ((Int32 × mm_M) ⊕ (Int32 × Int32 × Int32 × mm_M)) := (fun s => fX3_endByTurnsL1_b50 G a0 x1 x2 x3 x4 s.1 s.2.1 s.2.2.1 s.2.2.2)
def PX3_endByTurnsL1 (E : mm_E) (G : mm_G) (a0 : Nat) (x1 : Int32) (x2 : Int32) (x3 : Int32) (x4 : Int32) (q : (Int32 × mm_M)) : (Int32 × Int32 × Int32 × mm_M) → Prop := (fun s => mm_At E G 9 (mm_Qi E G q) s.2.2.2 50 [(0, .ref a0), (1, .int x1), (2, .int x2), (5, .int s.1), (6, .int s.2.1), (7, .int s.2.2.1)] [])
noncomputable def fX3_endByTurnsL1 (G : mm_G) (a0 : Nat) (x1 : Int32) (x2 : Int32) (x3 : Int32) (x4 : Int32) (σ : mm_M) : Option (Int32 × mm_M) := mm_run (fX3_endByTurnsL1_b0 G a0 x1 x2 x3 x4 σ) (fX3_endByTurnsL1_s G a0 x1 x2 x3 x4)
set_option maxHeartbeats 4000000 in
set_option maxRecDepth 100000 in
theorem wX3_endByTurnsL1_b160 {E : mm_E} {G : mm_G} (X : mm_Cx E G cX3_endByTurns 9 RX3 wsX3_endByTurns rmX3_endByTurnsL1 (some .int)) {a0 : Nat} {x1 : Int32} {x2 : Int32} {x3 : Int32} {x4 : Int32} {x5 : Int32} {x6 : Int32} {σ : mm_M} {q : (Int32 × mm_M)} (ha0 : mm_Is G 3 a0) {o : (Int32 × mm_M) ⊕ (Int32 × Int32 × Int32 × mm_M)} (h : fX3_endByTurnsL1_b160 G a0 x1 x2 x3 x4 x5 x6 σ = some o) (hk : mm_Ok q (PX3_endByTurnsL1 E G a0 x1 x2 x3 x4 q) o) : mm_At E G 9 (mm_Qi E G q) σ 160 [(2, .int x2), (5, .int x5), (6, .int x6)] [] := by
  unfold fX3_endByTurnsL1_b160 at h
  refine at_iload_n (pc := 160) X 2 0 dX3_endByTurns_160 rfl rfl ?_
  have hj161 : mm_At E G 9 (mm_Qi E G q) σ 171 [] [.int (if x2 = 0 then x6 else x5)] := by
    exact at_iret (pc := 171) X (mm_inl h hk) dX3_endByTurns_171
  refine at_if_eq (pc := 161) X 169 dX3_endByTurns_161 (by decide) (fun c161 => ?_) (fun c161 => ?_)
  · try simp only [if_pos c161] at hj161
    refine at_iload (pc := 169) X 6 2 dX3_endByTurns_169 rfl ?_
    exact at_sub [] rfl hj161
  · try simp only [if_neg c161] at hj161
    refine at_iload (pc := 164) X 5 1 dX3_endByTurns_164 rfl ?_
    refine at_goto (pc := 166) X 171 dX3_endByTurns_166 (by decide) ?_
    exact at_sub [] rfl hj161
set_option maxHeartbeats 4000000 in
set_option maxRecDepth 100000 in
theorem wX3_endByTurnsL1_b101 {E : mm_E} {G : mm_G} (X : mm_Cx E G cX3_endByTurns 9 RX3 wsX3_endByTurns rmX3_endByTurnsL1 (some .int)) {a0 : Nat} {x1 : Int32} {x2 : Int32} {x3 : Int32} {x4 : Int32} {x5 : Int32} {x6 : Int32} {x7 : Int32} {sx0 : Int32} {sx1 : Int32} {sa2 : Nat} {σ : mm_M} {q : (Int32 × mm_M)} (ha0 : mm_Is G 3 a0) (hsa2 : mm_Is G 3 sa2) {o : (Int32 × mm_M) ⊕ (Int32 × Int32 × Int32 × mm_M)} (h : fX3_endByTurnsL1_b101 G a0 x1 x2 x3 x4 x5 x6 x7 sx0 sx1 sa2 σ = some o) (hk : mm_Ok q (PX3_endByTurnsL1 E G a0 x1 x2 x3 x4 q) o) : mm_At E G 9 (mm_Qi E G q) σ 101 [(0, .ref a0), (1, .int x1), (2, .int x2), (5, .int x5), (6, .int x6), (7, .int x7)] [.int sx0, .int sx1, .ref sa2] := by
  unfold fX3_endByTurnsL1_b101 at h
  refine at_iload (pc := 101) X 5 3 dX3_endByTurns_101 rfl ?_
  refine at_iload (pc := 103) X 6 4 dX3_endByTurns_103 rfl ?_
  obtain ⟨q105, hq105, h⟩ := mm_bind h
  refine at_calli (n := 4) (pc := 105) X 3 [.int sx1, .int sx0, .int x5, .int x6] [] (mX3_endByTurnsL0 (eL E) X.wf hsa2 hq105) gX3_endByTurns_X3_endByTurns rfl ⟨rfl, rfl⟩ (by decide +kernel) ⟨by decide, by decide⟩ (by decide) rfl hsa2 rfl rfl (Nat.le_of_ble_eq_true rfl) dX3_endByTurns_105 ?_
  refine at_istore (pc := 108) X 8 [(8, .int q105.1), (0, .ref a0), (1, .int x1), (2, .int x2), (5, .int x5), (6, .int x6), (7, .int x7)] dX3_endByTurns_108 (by decide) rfl ?_
  refine at_aload_n (pc := 110) X 0 1 dX3_endByTurns_110 rfl rfl ?_
  refine at_get (pc := 111) X 3 9 (.ref (mm_R G a0 9)) ha0 (by decide) rfl inX3_endByTurnsL1_X3 (by decide) lkX3_endByTurnsL1_0 rfl dX3_endByTurns_111 ?_
  refine at_get (pc := 114) X 0 0 (.ref (mm_R G (mm_R G a0 9) 0)) (wf_3_9 X.wf ha0) (by decide) rfl inX3_endByTurnsL1_X0 (by decide) lkX3_endByTurnsL1_2 rfl dX3_endByTurns_114 ?_
  refine at_iload (pc := 117) X 7 6 dX3_endByTurns_117 rfl ?_
  obtain ⟨hc119, h⟩ := mm_chk h
  refine at_aald (pc := 119) X 8 3 (wf_0_0 X.wf (wf_3_9 X.wf ha0)) (by decide) (by decide) rfl rfl hc119 dX3_endByTurns_119 ?_
  refine at_dup (pc := 120) X dX3_endByTurns_120 rfl ?_
  refine at_get (pc := 121) X 2 3 (.int (q105.2.1 (mm_R G (mm_R G (mm_R G a0 9) 0) x7.toNatClampNeg) 3)) (wf_8 X.wf (wf_0_0 X.wf (wf_3_9 X.wf ha0)) hc119) (by decide) rfl inX3_endByTurnsL1_X2 (by decide) lkX3_endByTurnsL1_3 rfl dX3_endByTurns_121 ?_
  refine at_iconst (pc := 124) X (1 : Int32) dX3_endByTurns_124 ic_1 ?_
  refine at_isub (pc := 125) X dX3_endByTurns_125 ?_
  refine at_put (pc := 126) X 2 3 (wf_8 X.wf (wf_0_0 X.wf (wf_3_9 X.wf ha0)) hc119) (by decide) rfl inX3_endByTurnsL1_X2 tyX2 tyX2_ok nmX2 (by decide) lkX3_endByTurnsL1_3 rfl (ty := .int) rfl rfl rfl (Nat.le_of_ble_eq_true rfl) (ms_2_3 G _ _ _) mm_up_ne dX3_endByTurns_126 ?_
  refine at_iload_n (pc := 129) X 2 3 dX3_endByTurns_129 rfl rfl ?_
  refine at_if_eq (pc := 130) X 145 dX3_endByTurns_130 (by decide) (fun c130 => ?_) (fun c130 => ?_)
  · have h := mm_pos c130 h
    refine at_iload (pc := 145) X 6 5 dX3_endByTurns_145 rfl ?_
    refine at_iload (pc := 147) X 8 0 dX3_endByTurns_147 rfl ?_
    refine at_mmin (pc := 149) X lkX3_endByTurnsL1_4 lkX3_endByTurnsL1_5 lkX3_endByTurnsL1_6 lkX3_endByTurnsL1_7 (by decide) (by decide) dX3_endByTurns_149 ?_
    refine at_istore (pc := 152) X 6 [(6, .int (if q105.1 < x6 then q105.1 else x6)), (8, .int q105.1), (0, .ref a0), (1, .int x1), (2, .int x2), (5, .int x5), (7, .int x7)] dX3_endByTurns_152 (by decide) rfl ?_
    refine at_iinc (pc := 154) X 7 6 (x7 + 1) [(7, .int (x7 + 1)), (6, .int (if q105.1 < x6 then q105.1 else x6)), (8, .int q105.1), (0, .ref a0), (1, .int x1), (2, .int x2), (5, .int x5)] dX3_endByTurns_154 rfl (ii_1 _) (by decide) rfl ?_
    refine at_goto (pc := 157) X 50 dX3_endByTurns_157 (by decide) ?_
    have h2 := mm_inr h hk; exact at_sub [3, 4, 5, 6, 1, 0] rfl h2
  · have h := mm_neg c130 h
    refine at_iload (pc := 133) X 5 4 dX3_endByTurns_133 rfl ?_
    refine at_iload (pc := 135) X 8 0 dX3_endByTurns_135 rfl ?_
    refine at_mmax (pc := 137) X lkX3_endByTurnsL1_8 lkX3_endByTurnsL1_9 lkX3_endByTurnsL1_6 lkX3_endByTurnsL1_10 (by decide) (by decide) dX3_endByTurns_137 ?_
    refine at_istore (pc := 140) X 5 [(5, .int (if x5 < q105.1 then q105.1 else x5)), (8, .int q105.1), (0, .ref a0), (1, .int x1), (2, .int x2), (6, .int x6), (7, .int x7)] dX3_endByTurns_140 (by decide) rfl ?_
    refine at_goto (pc := 142) X 154 dX3_endByTurns_142 (by decide) ?_
    refine at_iinc (pc := 154) X 7 6 (x7 + 1) [(7, .int (x7 + 1)), (5, .int (if x5 < q105.1 then q105.1 else x5)), (8, .int q105.1), (0, .ref a0), (1, .int x1), (2, .int x2), (6, .int x6)] dX3_endByTurns_154 rfl (ii_1 _) (by decide) rfl ?_
    refine at_goto (pc := 157) X 50 dX3_endByTurns_157 (by decide) ?_
    have h2 := mm_inr h hk; exact at_sub [3, 4, 5, 1, 6, 0] rfl h2
set_option maxHeartbeats 4000000 in
set_option maxRecDepth 100000 in
theorem wX3_endByTurnsL1_b50 {E : mm_E} {G : mm_G} (X : mm_Cx E G cX3_endByTurns 9 RX3 wsX3_endByTurns rmX3_endByTurnsL1 (some .int)) {a0 : Nat} {x1 : Int32} {x2 : Int32} {x3 : Int32} {x4 : Int32} {x5 : Int32} {x6 : Int32} {x7 : Int32} {σ : mm_M} {q : (Int32 × mm_M)} (ha0 : mm_Is G 3 a0) {o : (Int32 × mm_M) ⊕ (Int32 × Int32 × Int32 × mm_M)} (h : fX3_endByTurnsL1_b50 G a0 x1 x2 x3 x4 x5 x6 x7 σ = some o) (hk : mm_Ok q (PX3_endByTurnsL1 E G a0 x1 x2 x3 x4 q) o) : mm_At E G 9 (mm_Qi E G q) σ 50 [(0, .ref a0), (1, .int x1), (2, .int x2), (5, .int x5), (6, .int x6), (7, .int x7)] [] := by
  unfold fX3_endByTurnsL1_b50 at h
  refine at_iload (pc := 50) X 7 5 dX3_endByTurns_50 rfl ?_
  refine at_aload_n (pc := 52) X 0 0 dX3_endByTurns_52 rfl rfl ?_
  refine at_get (pc := 53) X 3 9 (.ref (mm_R G a0 9)) ha0 (by decide) rfl inX3_endByTurnsL1_X3 (by decide) lkX3_endByTurnsL1_0 rfl dX3_endByTurns_53 ?_
  refine at_get (pc := 56) X 0 1 (.int (σ.1 (mm_R G a0 9) 1)) (wf_3_9 X.wf ha0) (by decide) rfl inX3_endByTurnsL1_X0 (by decide) lkX3_endByTurnsL1_1 rfl dX3_endByTurns_56 ?_
  refine at_icmp_ge (pc := 59) X 160 dX3_endByTurns_59 (by decide) (fun c59 => ?_) (fun c59 => ?_)
  · have h := mm_neg c59 h
    exact at_sub [2, 3, 4] rfl (wX3_endByTurnsL1_b160 X ha0 h hk)
  · have h := mm_pos c59 h
    refine at_iload (pc := 62) X 5 3 dX3_endByTurns_62 rfl ?_
    refine at_iload (pc := 64) X 6 4 dX3_endByTurns_64 rfl ?_
    refine at_icmp_ge (pc := 66) X 160 dX3_endByTurns_66 (by decide) (fun c66 => ?_) (fun c66 => ?_)
    · have h := mm_neg c66 h
      exact at_sub [2, 3, 4] rfl (wX3_endByTurnsL1_b160 X ha0 h hk)
    · have h := mm_pos c66 h
      refine at_aload_n (pc := 69) X 0 0 dX3_endByTurns_69 rfl rfl ?_
      refine at_get (pc := 70) X 3 9 (.ref (mm_R G a0 9)) ha0 (by decide) rfl inX3_endByTurnsL1_X3 (by decide) lkX3_endByTurnsL1_0 rfl dX3_endByTurns_70 ?_
      refine at_get (pc := 73) X 0 0 (.ref (mm_R G (mm_R G a0 9) 0)) (wf_3_9 X.wf ha0) (by decide) rfl inX3_endByTurnsL1_X0 (by decide) lkX3_endByTurnsL1_2 rfl dX3_endByTurns_73 ?_
      refine at_iload (pc := 76) X 7 5 dX3_endByTurns_76 rfl ?_
      obtain ⟨hc78, h⟩ := mm_chk h
      refine at_aald (pc := 78) X 8 3 (wf_0_0 X.wf (wf_3_9 X.wf ha0)) (by decide) (by decide) rfl rfl hc78 dX3_endByTurns_78 ?_
      refine at_dup (pc := 79) X dX3_endByTurns_79 rfl ?_
      refine at_get (pc := 80) X 2 3 (.int (σ.1 (mm_R G (mm_R G (mm_R G a0 9) 0) x7.toNatClampNeg) 3)) (wf_8 X.wf (wf_0_0 X.wf (wf_3_9 X.wf ha0)) hc78) (by decide) rfl inX3_endByTurnsL1_X2 (by decide) lkX3_endByTurnsL1_3 rfl dX3_endByTurns_80 ?_
      refine at_iconst (pc := 83) X (1 : Int32) dX3_endByTurns_83 ic_1 ?_
      refine at_iadd (pc := 84) X dX3_endByTurns_84 ?_
      refine at_put (pc := 85) X 2 3 (wf_8 X.wf (wf_0_0 X.wf (wf_3_9 X.wf ha0)) hc78) (by decide) rfl inX3_endByTurnsL1_X2 tyX2 tyX2_ok nmX2 (by decide) lkX3_endByTurnsL1_3 rfl (ty := .int) rfl rfl rfl (Nat.le_of_ble_eq_true rfl) (ms_2_3 G _ _ _) mm_up_ne dX3_endByTurns_85 ?_
      refine at_aload_n (pc := 88) X 0 0 dX3_endByTurns_88 rfl rfl ?_
      refine at_iload_n (pc := 89) X 1 1 dX3_endByTurns_89 rfl rfl ?_
      refine at_iconst (pc := 90) X (1 : Int32) dX3_endByTurns_90 ic_1 ?_
      refine at_isub (pc := 91) X dX3_endByTurns_91 ?_
      refine at_iload_n (pc := 92) X 2 2 dX3_endByTurns_92 rfl rfl ?_
      have hj93 : mm_At E G 9 (mm_Qi E G q) (mm_up σ (mm_R G (mm_R G (mm_R G a0 9) 0) x7.toNatClampNeg) 3 ((σ.1 (mm_R G (mm_R G (mm_R G a0 9) 0) x7.toNatClampNeg) 3) + (1 : Int32))) 101 [(0, .ref a0), (1, .int x1), (2, .int x2), (5, .int x5), (6, .int x6), (7, .int x7)] [.int (if x2 = 0 then (1 : Int32) else (0 : Int32)), .int (x1 - (1 : Int32)), .ref a0] := by
        exact at_sub [0, 1, 2, 3, 4, 5] rfl (wX3_endByTurnsL1_b101 X ha0 ha0 h hk)
      refine at_if_ne (pc := 93) X 100 dX3_endByTurns_93 (by decide) (fun c93 => ?_) (fun c93 => ?_)
      · try simp only [if_neg c93] at hj93
        refine at_iconst (pc := 100) X (0 : Int32) dX3_endByTurns_100 ic_0 ?_
        exact at_sub [0, 1, 2, 3, 4, 5] rfl hj93
      · try simp only [if_pos c93] at hj93
        refine at_iconst (pc := 96) X (1 : Int32) dX3_endByTurns_96 ic_1 ?_
        refine at_goto (pc := 97) X 101 dX3_endByTurns_97 (by decide) ?_
        exact at_sub [0, 1, 2, 3, 4, 5] rfl hj93
set_option maxHeartbeats 4000000 in
set_option maxRecDepth 100000 in
theorem wX3_endByTurnsL1_b0 {E : mm_E} {G : mm_G} (X : mm_Cx E G cX3_endByTurns 9 RX3 wsX3_endByTurns rmX3_endByTurnsL1 (some .int)) {a0 : Nat} {x1 : Int32} {x2 : Int32} {x3 : Int32} {x4 : Int32} {σ : mm_M} {q : (Int32 × mm_M)} (ha0 : mm_Is G 3 a0) {o : (Int32 × mm_M) ⊕ (Int32 × Int32 × Int32 × mm_M)} (h : fX3_endByTurnsL1_b0 G a0 x1 x2 x3 x4 σ = some o) (hk : mm_Ok q (PX3_endByTurnsL1 E G a0 x1 x2 x3 x4 q) o) : mm_At E G 9 (mm_Qi E G q) σ 0 [(0, .ref a0), (1, .int x1), (2, .int x2), (3, .int x3), (4, .int x4)] [] := by
  unfold fX3_endByTurnsL1_b0 at h
  refine at_iload_n (pc := 0) X 1 1 dX3_endByTurns_0 rfl rfl ?_
  refine at_if_gt (pc := 1) X 40 dX3_endByTurns_1 (by decide) (fun c1 => ?_) (fun c1 => ?_)
  · have h := mm_pos c1 h
    refine at_iload_n (pc := 40) X 3 3 dX3_endByTurns_40 rfl rfl ?_
    refine at_istore (pc := 41) X 5 [(5, .int x3), (0, .ref a0), (1, .int x1), (2, .int x2), (3, .int x3), (4, .int x4)] dX3_endByTurns_41 (by decide) rfl ?_
    refine at_iload (pc := 43) X 4 5 dX3_endByTurns_43 rfl ?_
    refine at_istore (pc := 45) X 6 [(6, .int x4), (5, .int x3), (0, .ref a0), (1, .int x1), (2, .int x2), (3, .int x3), (4, .int x4)] dX3_endByTurns_45 (by decide) rfl ?_
    refine at_iconst (pc := 47) X (0 : Int32) dX3_endByTurns_47 ic_0 ?_
    refine at_istore (pc := 48) X 7 [(7, .int (0 : Int32)), (6, .int x4), (5, .int x3), (0, .ref a0), (1, .int x1), (2, .int x2), (3, .int x3), (4, .int x4)] dX3_endByTurns_48 (by decide) rfl ?_
    have h2 := mm_inr h hk; exact at_sub [3, 4, 5, 2, 1, 0] rfl h2
  · have h := mm_neg c1 h
    refine at_aload_n (pc := 4) X 0 0 dX3_endByTurns_4 rfl rfl ?_
    refine at_get (pc := 5) X 3 8 (.ref (mm_R G a0 8)) ha0 (by decide) rfl inX3_endByTurnsL1_X3 (by decide) lkX3_endByTurnsL1_11 rfl dX3_endByTurns_5 ?_
    refine at_aload_n (pc := 8) X 0 0 dX3_endByTurns_8 rfl rfl ?_
    refine at_get (pc := 9) X 3 9 (.ref (mm_R G a0 9)) ha0 (by decide) rfl inX3_endByTurnsL1_X3 (by decide) lkX3_endByTurnsL1_0 rfl dX3_endByTurns_9 ?_
    obtain ⟨q12, hq12, h⟩ := mm_bind h
    refine at_callv (n := 1) (pc := 12) X 0 [.ref (mm_R G a0 9)] [] (mX0_become (eL E) X.wf (wf_3_8 X.wf ha0) (wf_3_9 X.wf ha0) hq12) gX3_endByTurns_X0_become rfl ⟨rfl, rfl⟩ (by decide +kernel) ⟨by decide, by decide⟩ (by decide) rfl (wf_3_8 X.wf ha0) rfl rfl (Nat.le_of_ble_eq_true rfl) dX3_endByTurns_12 ?_
    refine at_aload_n (pc := 15) X 0 0 dX3_endByTurns_15 rfl rfl ?_
    refine at_get (pc := 16) X 3 8 (.ref (mm_R G a0 8)) ha0 (by decide) rfl inX3_endByTurnsL1_X3 (by decide) lkX3_endByTurnsL1_11 rfl dX3_endByTurns_16 ?_
    obtain ⟨q19, hq19, h⟩ := mm_bind h
    refine at_calli (n := 0) (pc := 19) X 0 [] [] (mX0_goToEnd (eL E) X.wf (wf_3_8 X.wf ha0) hq19) gX3_endByTurns_X0_goToEnd rfl ⟨rfl, rfl⟩ (by decide +kernel) ⟨by decide, by decide⟩ (by decide) rfl (wf_3_8 X.wf ha0) rfl rfl (Nat.le_of_ble_eq_true rfl) dX3_endByTurns_19 ?_
    refine at_istore (pc := 22) X 5 [(5, .int q19.1), (0, .ref a0), (1, .int x1), (2, .int x2), (3, .int x3), (4, .int x4)] dX3_endByTurns_22 (by decide) rfl ?_
    refine at_iload (pc := 24) X 5 0 dX3_endByTurns_24 rfl ?_
    refine at_bipush (pc := 26) X (-9 : Int32) dX3_endByTurns_26 ib_m9 ?_
    have hj28 : mm_At E G 9 (mm_Qi E G q) q19.2 39 [] [.int (if q19.1 = (-9 : Int32) then (201 : Int32) else q19.1)] := by
      exact at_iret (pc := 39) X (mm_inl h hk) dX3_endByTurns_39
    refine at_icmp_ne (pc := 28) X 37 dX3_endByTurns_28 (by decide) (fun c28 => ?_) (fun c28 => ?_)
    · try simp only [if_neg c28] at hj28
      refine at_iload (pc := 37) X 5 0 dX3_endByTurns_37 rfl ?_
      exact at_sub [] rfl hj28
    · try simp only [if_pos c28] at hj28
      refine at_sipush (pc := 31) X (201 : Int32) dX3_endByTurns_31 is_201 ?_
      refine at_goto (pc := 34) X 39 dX3_endByTurns_34 (by decide) ?_
      exact at_sub [] rfl hj28
set_option maxHeartbeats 4000000 in
set_option maxRecDepth 100000 in
theorem mX3_endByTurnsL1 (l : Launch) {G : mm_G} (hwf : mm_WF G) {a0 : Nat} {x1 : Int32} {x2 : Int32} {x3 : Int32} {x4 : Int32} {σ : mm_M} {q : (Int32 × mm_M)} (ha0 : mm_Is G 3 a0) (h : fX3_endByTurnsL1 G a0 x1 x2 x3 x4 σ = some q) : mm_Mi l yX3_endByTurns wsX3_endByTurns rmX3_endByTurnsL1 G [.ref a0, .int x1, .int x2, .int x3, .int x4] σ q := by
  refine mm_ofi (cc := cX3_endByTurns) (nL := 9) (ret := some .int) (own := RX3) (lv0 := [(0, .ref a0), (1, .int x1), (2, .int x2), (3, .int x3), (4, .int x4)]) (by decide) rfl rfl (Nat.le_of_ble_eq_true rfl) rfl hwf (fun E hE X => ?_)
  obtain ⟨o, h0, hk⟩ := mm_run_ok (P := PX3_endByTurnsL1 E G a0 x1 x2 x3 x4 q) h (fun s o hs hk => by exact wX3_endByTurnsL1_b50 X ha0 hs hk)
  exact wX3_endByTurnsL1_b0 X ha0 h0 hk
/-! X3_endByTurns (IZII)I -/
abbrev rmX3_endByTurnsL2 : Room := { frames := 8, cells := 0, slots := 0, locals := 182 }
theorem lkX3_endByTurnsL2_0 : Cond.fieldLink RX3 50 (TX3 9).1 (TX3 9).2.1 (TX3 9).2.2.1 ∈ wsX3_endByTurns := by decide +kernel
theorem lkX3_endByTurnsL2_1 : Cond.fieldLink RX3 112 (TX0 1).1 (TX0 1).2.1 (TX0 1).2.2.1 ∈ wsX3_endByTurns := by decide +kernel
theorem lkX3_endByTurnsL2_2 : Cond.fieldLink RX3 116 (TX0 0).1 (TX0 0).2.1 (TX0 0).2.2.1 ∈ wsX3_endByTurns := by decide +kernel
theorem lkX3_endByTurnsL2_3 : Cond.fieldLink RX3 150 (TX2 3).1 (TX2 3).2.1 (TX2 3).2.2.1 ∈ wsX3_endByTurns := by decide +kernel
theorem lkX3_endByTurnsL2_4 : Cond.methodLink RX3 253 Lib.Math.min.name ∈ wsX3_endByTurns := by decide +kernel
theorem lkX3_endByTurnsL2_5 : Cond.static Lib.Math.min.name ∈ wsX3_endByTurns := by decide +kernel
theorem lkX3_endByTurnsL2_6 : Cond.initialized "java/lang/Math" ∈ wsX3_endByTurns := by decide +kernel
theorem lkX3_endByTurnsL2_7 : Cond.code Lib.Math.min.name Lib.Math.min.code 2 (some .int) ∈ wsX3_endByTurns := by decide +kernel
theorem lkX3_endByTurnsL2_8 : Cond.methodLink RX3 248 Lib.Math.max.name ∈ wsX3_endByTurns := by decide +kernel
theorem lkX3_endByTurnsL2_9 : Cond.static Lib.Math.max.name ∈ wsX3_endByTurns := by decide +kernel
theorem lkX3_endByTurnsL2_10 : Cond.code Lib.Math.max.name Lib.Math.max.code 2 (some .int) ∈ wsX3_endByTurns := by decide +kernel
theorem lkX3_endByTurnsL2_11 : Cond.fieldLink RX3 47 (TX3 8).1 (TX3 8).2.1 (TX3 8).2.2.1 ∈ wsX3_endByTurns := by decide +kernel
theorem inX3_endByTurnsL2_X3 : ∀ w ∈ u_ws RX3 TX3 17, w ∈ wsX3_endByTurns := by decide +kernel
theorem inX3_endByTurnsL2_X0 : ∀ w ∈ u_ws RX0 TX0 6, w ∈ wsX3_endByTurns := by decide +kernel
theorem inX3_endByTurnsL2_X2 : ∀ w ∈ u_ws RX2 TX2 6, w ∈ wsX3_endByTurns := by decide +kernel
noncomputable def fX3_endByTurnsL2_b160 (G : mm_G) (a0 : Nat) (x1 : Int32) (x2 : Int32) (x3 : Int32) (x4 : Int32) (x5 : Int32) (x6 : Int32) (σ : mm_M) : Option ((Int32 × mm_M) ⊕ (Int32 × Int32 × Int32 × mm_M)) := some (.inl (if x2 = 0 then x6 else x5, σ))
noncomputable def fX3_endByTurnsL2_b101 (G : mm_G) (a0 : Nat) (x1 : Int32) (x2 : Int32) (x3 : Int32) (x4 : Int32) (x5 : Int32) (x6 : Int32) (x7 : Int32) (sx0 : Int32) (sx1 : Int32) (sa2 : Nat) (σ : mm_M) : Option ((Int32 × mm_M) ⊕ (Int32 × Int32 × Int32 × mm_M)) := (fX3_endByTurnsL1 G sa2 sx1 sx0 x5 x6 σ).bind (fun q105 => if x7 < 0 ∨ mm_N G (mm_R G (mm_R G a0 9) 0) ≤ x7.toNatClampNeg then none else (if x2 = 0 then (some (.inr (x5, if q105.1 < x6 then q105.1 else x6, x7 + 1, mm_up q105.2 (mm_R G (mm_R G (mm_R G a0 9) 0) x7.toNatClampNeg) 3 ((q105.2.1 (mm_R G (mm_R G (mm_R G a0 9) 0) x7.toNatClampNeg) 3) - (1 : Int32))))) else (some (.inr (if x5 < q105.1 then q105.1 else x5, x6, x7 + 1, mm_up q105.2 (mm_R G (mm_R G (mm_R G a0 9) 0) x7.toNatClampNeg) 3 ((q105.2.1 (mm_R G (mm_R G (mm_R G a0 9) 0) x7.toNatClampNeg) 3) - (1 : Int32)))))))
noncomputable def fX3_endByTurnsL2_b50 (G : mm_G) (a0 : Nat) (x1 : Int32) (x2 : Int32) (x3 : Int32) (x4 : Int32) (x5 : Int32) (x6 : Int32) (x7 : Int32) (σ : mm_M) : Option ((Int32 × mm_M) ⊕ (Int32 × Int32 × Int32 × mm_M)) := if x7 < (σ.1 (mm_R G a0 9) 1) then (if x5 < x6 then (if x7 < 0 ∨ mm_N G (mm_R G (mm_R G a0 9) 0) ≤ x7.toNatClampNeg then none else (fX3_endByTurnsL2_b101 G a0 x1 x2 x3 x4 x5 x6 x7 (if x2 = 0 then (1 : Int32) else (0 : Int32)) (x1 - (1 : Int32)) a0 (mm_up σ (mm_R G (mm_R G (mm_R G a0 9) 0) x7.toNatClampNeg) 3 ((σ.1 (mm_R G (mm_R G (mm_R G a0 9) 0) x7.toNatClampNeg) 3) + (1 : Int32))))) else (fX3_endByTurnsL2_b160 G a0 x1 x2 x3 x4 x5 x6 σ)) else (fX3_endByTurnsL2_b160 G a0 x1 x2 x3 x4 x5 x6 σ)
noncomputable def fX3_endByTurnsL2_b0 (G : mm_G) (a0 : Nat) (x1 : Int32) (x2 : Int32) (x3 : Int32) (x4 : Int32) (σ : mm_M) : Option ((Int32 × mm_M) ⊕ (Int32 × Int32 × Int32 × mm_M)) := if 0 < x1 then (some (.inr (x3, x4, (0 : Int32), σ))) else ((fX0_become G (mm_R G a0 8) (mm_R G a0 9) σ).bind (fun q12 => (fX0_goToEnd G (mm_R G a0 8) q12).bind (fun q19 => some (.inl (if q19.1 = (-9 : Int32) then (201 : Int32) else q19.1, q19.2)))))
noncomputable def fX3_endByTurnsL2_s (G : mm_G) (a0 : Nat) (x1 : Int32) (x2 : Int32) (x3 : Int32) (x4 : Int32) : (Int32 × Int32 × Int32 × mm_M) → Option ((Int32 × mm_M) ⊕ (Int32 × Int32 × Int32 × mm_M)) := (fun s => fX3_endByTurnsL2_b50 G a0 x1 x2 x3 x4 s.1 s.2.1 s.2.2.1 s.2.2.2)
def PX3_endByTurnsL2 (E : mm_E) (G : mm_G) (a0 : Nat) (x1 : Int32) (x2 : Int32) (x3 : Int32) (x4 : Int32) (q : (Int32 × mm_M)) : (Int32 × Int32 × Int32 × mm_M) → Prop := (fun s => mm_At E G 9 (mm_Qi E G q) s.2.2.2 50 [(0, .ref a0), (1, .int x1), (2, .int x2), (5, .int s.1), (6, .int s.2.1), (7, .int s.2.2.1)] [])
noncomputable def fX3_endByTurnsL2 (G : mm_G) (a0 : Nat) (x1 : Int32) (x2 : Int32) (x3 : Int32) (x4 : Int32) (σ : mm_M) : Option (Int32 × mm_M) := mm_run (fX3_endByTurnsL2_b0 G a0 x1 x2 x3 x4 σ) (fX3_endByTurnsL2_s G a0 x1 x2 x3 x4)
set_option maxHeartbeats 4000000 in
set_option maxRecDepth 100000 in
theorem wX3_endByTurnsL2_b160 {E : mm_E} {G : mm_G} (X : mm_Cx E G cX3_endByTurns 9 RX3 wsX3_endByTurns rmX3_endByTurnsL2 (some .int)) {a0 : Nat} {x1 : Int32} {x2 : Int32} {x3 : Int32} {x4 : Int32} {x5 : Int32} {x6 : Int32} {σ : mm_M} {q : (Int32 × mm_M)} (ha0 : mm_Is G 3 a0) {o : (Int32 × mm_M) ⊕ (Int32 × Int32 × Int32 × mm_M)} (h : fX3_endByTurnsL2_b160 G a0 x1 x2 x3 x4 x5 x6 σ = some o) (hk : mm_Ok q (PX3_endByTurnsL2 E G a0 x1 x2 x3 x4 q) o) : mm_At E G 9 (mm_Qi E G q) σ 160 [(2, .int x2), (5, .int x5), (6, .int x6)] [] := by
  unfold fX3_endByTurnsL2_b160 at h
  refine at_iload_n (pc := 160) X 2 0 dX3_endByTurns_160 rfl rfl ?_
  have hj161 : mm_At E G 9 (mm_Qi E G q) σ 171 [] [.int (if x2 = 0 then x6 else x5)] := by
    exact at_iret (pc := 171) X (mm_inl h hk) dX3_endByTurns_171
  refine at_if_eq (pc := 161) X 169 dX3_endByTurns_161 (by decide) (fun c161 => ?_) (fun c161 => ?_)
  · try simp only [if_pos c161] at hj161
    refine at_iload (pc := 169) X 6 2 dX3_endByTurns_169 rfl ?_
    exact at_sub [] rfl hj161
  · try simp only [if_neg c161] at hj161
    refine at_iload (pc := 164) X 5 1 dX3_endByTurns_164 rfl ?_
    refine at_goto (pc := 166) X 171 dX3_endByTurns_166 (by decide) ?_
    exact at_sub [] rfl hj161
set_option maxHeartbeats 4000000 in
set_option maxRecDepth 100000 in
theorem wX3_endByTurnsL2_b101 {E : mm_E} {G : mm_G} (X : mm_Cx E G cX3_endByTurns 9 RX3 wsX3_endByTurns rmX3_endByTurnsL2 (some .int)) {a0 : Nat} {x1 : Int32} {x2 : Int32} {x3 : Int32} {x4 : Int32} {x5 : Int32} {x6 : Int32} {x7 : Int32} {sx0 : Int32} {sx1 : Int32} {sa2 : Nat} {σ : mm_M} {q : (Int32 × mm_M)} (ha0 : mm_Is G 3 a0) (hsa2 : mm_Is G 3 sa2) {o : (Int32 × mm_M) ⊕ (Int32 × Int32 × Int32 × mm_M)} (h : fX3_endByTurnsL2_b101 G a0 x1 x2 x3 x4 x5 x6 x7 sx0 sx1 sa2 σ = some o) (hk : mm_Ok q (PX3_endByTurnsL2 E G a0 x1 x2 x3 x4 q) o) : mm_At E G 9 (mm_Qi E G q) σ 101 [(0, .ref a0), (1, .int x1), (2, .int x2), (5, .int x5), (6, .int x6), (7, .int x7)] [.int sx0, .int sx1, .ref sa2] := by
  unfold fX3_endByTurnsL2_b101 at h
  refine at_iload (pc := 101) X 5 3 dX3_endByTurns_101 rfl ?_
  refine at_iload (pc := 103) X 6 4 dX3_endByTurns_103 rfl ?_
  obtain ⟨q105, hq105, h⟩ := mm_bind h
  refine at_calli (n := 4) (pc := 105) X 3 [.int sx1, .int sx0, .int x5, .int x6] [] (mX3_endByTurnsL1 (eL E) X.wf hsa2 hq105) gX3_endByTurns_X3_endByTurns rfl ⟨rfl, rfl⟩ (by decide +kernel) ⟨by decide, by decide⟩ (by decide) rfl hsa2 rfl rfl (Nat.le_of_ble_eq_true rfl) dX3_endByTurns_105 ?_
  refine at_istore (pc := 108) X 8 [(8, .int q105.1), (0, .ref a0), (1, .int x1), (2, .int x2), (5, .int x5), (6, .int x6), (7, .int x7)] dX3_endByTurns_108 (by decide) rfl ?_
  refine at_aload_n (pc := 110) X 0 1 dX3_endByTurns_110 rfl rfl ?_
  refine at_get (pc := 111) X 3 9 (.ref (mm_R G a0 9)) ha0 (by decide) rfl inX3_endByTurnsL2_X3 (by decide) lkX3_endByTurnsL2_0 rfl dX3_endByTurns_111 ?_
  refine at_get (pc := 114) X 0 0 (.ref (mm_R G (mm_R G a0 9) 0)) (wf_3_9 X.wf ha0) (by decide) rfl inX3_endByTurnsL2_X0 (by decide) lkX3_endByTurnsL2_2 rfl dX3_endByTurns_114 ?_
  refine at_iload (pc := 117) X 7 6 dX3_endByTurns_117 rfl ?_
  obtain ⟨hc119, h⟩ := mm_chk h
  refine at_aald (pc := 119) X 8 3 (wf_0_0 X.wf (wf_3_9 X.wf ha0)) (by decide) (by decide) rfl rfl hc119 dX3_endByTurns_119 ?_
  refine at_dup (pc := 120) X dX3_endByTurns_120 rfl ?_
  refine at_get (pc := 121) X 2 3 (.int (q105.2.1 (mm_R G (mm_R G (mm_R G a0 9) 0) x7.toNatClampNeg) 3)) (wf_8 X.wf (wf_0_0 X.wf (wf_3_9 X.wf ha0)) hc119) (by decide) rfl inX3_endByTurnsL2_X2 (by decide) lkX3_endByTurnsL2_3 rfl dX3_endByTurns_121 ?_
  refine at_iconst (pc := 124) X (1 : Int32) dX3_endByTurns_124 ic_1 ?_
  refine at_isub (pc := 125) X dX3_endByTurns_125 ?_
  refine at_put (pc := 126) X 2 3 (wf_8 X.wf (wf_0_0 X.wf (wf_3_9 X.wf ha0)) hc119) (by decide) rfl inX3_endByTurnsL2_X2 tyX2 tyX2_ok nmX2 (by decide) lkX3_endByTurnsL2_3 rfl (ty := .int) rfl rfl rfl (Nat.le_of_ble_eq_true rfl) (ms_2_3 G _ _ _) mm_up_ne dX3_endByTurns_126 ?_
  refine at_iload_n (pc := 129) X 2 3 dX3_endByTurns_129 rfl rfl ?_
  refine at_if_eq (pc := 130) X 145 dX3_endByTurns_130 (by decide) (fun c130 => ?_) (fun c130 => ?_)
  · have h := mm_pos c130 h
    refine at_iload (pc := 145) X 6 5 dX3_endByTurns_145 rfl ?_
    refine at_iload (pc := 147) X 8 0 dX3_endByTurns_147 rfl ?_
    refine at_mmin (pc := 149) X lkX3_endByTurnsL2_4 lkX3_endByTurnsL2_5 lkX3_endByTurnsL2_6 lkX3_endByTurnsL2_7 (by decide) (by decide) dX3_endByTurns_149 ?_
    refine at_istore (pc := 152) X 6 [(6, .int (if q105.1 < x6 then q105.1 else x6)), (8, .int q105.1), (0, .ref a0), (1, .int x1), (2, .int x2), (5, .int x5), (7, .int x7)] dX3_endByTurns_152 (by decide) rfl ?_
    refine at_iinc (pc := 154) X 7 6 (x7 + 1) [(7, .int (x7 + 1)), (6, .int (if q105.1 < x6 then q105.1 else x6)), (8, .int q105.1), (0, .ref a0), (1, .int x1), (2, .int x2), (5, .int x5)] dX3_endByTurns_154 rfl (ii_1 _) (by decide) rfl ?_
    refine at_goto (pc := 157) X 50 dX3_endByTurns_157 (by decide) ?_
    have h2 := mm_inr h hk; exact at_sub [3, 4, 5, 6, 1, 0] rfl h2
  · have h := mm_neg c130 h
    refine at_iload (pc := 133) X 5 4 dX3_endByTurns_133 rfl ?_
    refine at_iload (pc := 135) X 8 0 dX3_endByTurns_135 rfl ?_
    refine at_mmax (pc := 137) X lkX3_endByTurnsL2_8 lkX3_endByTurnsL2_9 lkX3_endByTurnsL2_6 lkX3_endByTurnsL2_10 (by decide) (by decide) dX3_endByTurns_137 ?_
    refine at_istore (pc := 140) X 5 [(5, .int (if x5 < q105.1 then q105.1 else x5)), (8, .int q105.1), (0, .ref a0), (1, .int x1), (2, .int x2), (6, .int x6), (7, .int x7)] dX3_endByTurns_140 (by decide) rfl ?_
    refine at_goto (pc := 142) X 154 dX3_endByTurns_142 (by decide) ?_
    refine at_iinc (pc := 154) X 7 6 (x7 + 1) [(7, .int (x7 + 1)), (5, .int (if x5 < q105.1 then q105.1 else x5)), (8, .int q105.1), (0, .ref a0), (1, .int x1), (2, .int x2), (6, .int x6)] dX3_endByTurns_154 rfl (ii_1 _) (by decide) rfl ?_
    refine at_goto (pc := 157) X 50 dX3_endByTurns_157 (by decide) ?_
    have h2 := mm_inr h hk; exact at_sub [3, 4, 5, 1, 6, 0] rfl h2
set_option maxHeartbeats 4000000 in
set_option maxRecDepth 100000 in
theorem wX3_endByTurnsL2_b50 {E : mm_E} {G : mm_G} (X : mm_Cx E G cX3_endByTurns 9 RX3 wsX3_endByTurns rmX3_endByTurnsL2 (some .int)) {a0 : Nat} {x1 : Int32} {x2 : Int32} {x3 : Int32} {x4 : Int32} {x5 : Int32} {x6 : Int32} {x7 : Int32} {σ : mm_M} {q : (Int32 × mm_M)} (ha0 : mm_Is G 3 a0) {o : (Int32 × mm_M) ⊕ (Int32 × Int32 × Int32 × mm_M)} (h : fX3_endByTurnsL2_b50 G a0 x1 x2 x3 x4 x5 x6 x7 σ = some o) (hk : mm_Ok q (PX3_endByTurnsL2 E G a0 x1 x2 x3 x4 q) o) : mm_At E G 9 (mm_Qi E G q) σ 50 [(0, .ref a0), (1, .int x1), (2, .int x2), (5, .int x5), (6, .int x6), (7, .int x7)] [] := by
  unfold fX3_endByTurnsL2_b50 at h
  refine at_iload (pc := 50) X 7 5 dX3_endByTurns_50 rfl ?_
  refine at_aload_n (pc := 52) X 0 0 dX3_endByTurns_52 rfl rfl ?_
  refine at_get (pc := 53) X 3 9 (.ref (mm_R G a0 9)) ha0 (by decide) rfl inX3_endByTurnsL2_X3 (by decide) lkX3_endByTurnsL2_0 rfl dX3_endByTurns_53 ?_
  refine at_get (pc := 56) X 0 1 (.int (σ.1 (mm_R G a0 9) 1)) (wf_3_9 X.wf ha0) (by decide) rfl inX3_endByTurnsL2_X0 (by decide) lkX3_endByTurnsL2_1 rfl dX3_endByTurns_56 ?_
  refine at_icmp_ge (pc := 59) X 160 dX3_endByTurns_59 (by decide) (fun c59 => ?_) (fun c59 => ?_)
  · have h := mm_neg c59 h
    exact at_sub [2, 3, 4] rfl (wX3_endByTurnsL2_b160 X ha0 h hk)
  · have h := mm_pos c59 h
    refine at_iload (pc := 62) X 5 3 dX3_endByTurns_62 rfl ?_
    refine at_iload (pc := 64) X 6 4 dX3_endByTurns_64 rfl ?_
    refine at_icmp_ge (pc := 66) X 160 dX3_endByTurns_66 (by decide) (fun c66 => ?_) (fun c66 => ?_)
    · have h := mm_neg c66 h
      exact at_sub [2, 3, 4] rfl (wX3_endByTurnsL2_b160 X ha0 h hk)
    · have h := mm_pos c66 h
      refine at_aload_n (pc := 69) X 0 0 dX3_endByTurns_69 rfl rfl ?_
      refine at_get (pc := 70) X 3 9 (.ref (mm_R G a0 9)) ha0 (by decide) rfl inX3_endByTurnsL2_X3 (by decide) lkX3_endByTurnsL2_0 rfl dX3_endByTurns_70 ?_
      refine at_get (pc := 73) X 0 0 (.ref (mm_R G (mm_R G a0 9) 0)) (wf_3_9 X.wf ha0) (by decide) rfl inX3_endByTurnsL2_X0 (by decide) lkX3_endByTurnsL2_2 rfl dX3_endByTurns_73 ?_
      refine at_iload (pc := 76) X 7 5 dX3_endByTurns_76 rfl ?_
      obtain ⟨hc78, h⟩ := mm_chk h
      refine at_aald (pc := 78) X 8 3 (wf_0_0 X.wf (wf_3_9 X.wf ha0)) (by decide) (by decide) rfl rfl hc78 dX3_endByTurns_78 ?_
      refine at_dup (pc := 79) X dX3_endByTurns_79 rfl ?_
      refine at_get (pc := 80) X 2 3 (.int (σ.1 (mm_R G (mm_R G (mm_R G a0 9) 0) x7.toNatClampNeg) 3)) (wf_8 X.wf (wf_0_0 X.wf (wf_3_9 X.wf ha0)) hc78) (by decide) rfl inX3_endByTurnsL2_X2 (by decide) lkX3_endByTurnsL2_3 rfl dX3_endByTurns_80 ?_
      refine at_iconst (pc := 83) X (1 : Int32) dX3_endByTurns_83 ic_1 ?_
      refine at_iadd (pc := 84) X dX3_endByTurns_84 ?_
      refine at_put (pc := 85) X 2 3 (wf_8 X.wf (wf_0_0 X.wf (wf_3_9 X.wf ha0)) hc78) (by decide) rfl inX3_endByTurnsL2_X2 tyX2 tyX2_ok nmX2 (by decide) lkX3_endByTurnsL2_3 rfl (ty := .int) rfl rfl rfl (Nat.le_of_ble_eq_true rfl) (ms_2_3 G _ _ _) mm_up_ne dX3_endByTurns_85 ?_
      refine at_aload_n (pc := 88) X 0 0 dX3_endByTurns_88 rfl rfl ?_
      refine at_iload_n (pc := 89) X 1 1 dX3_endByTurns_89 rfl rfl ?_
      refine at_iconst (pc := 90) X (1 : Int32) dX3_endByTurns_90 ic_1 ?_
      refine at_isub (pc := 91) X dX3_endByTurns_91 ?_
      refine at_iload_n (pc := 92) X 2 2 dX3_endByTurns_92 rfl rfl ?_
      have hj93 : mm_At E G 9 (mm_Qi E G q) (mm_up σ (mm_R G (mm_R G (mm_R G a0 9) 0) x7.toNatClampNeg) 3 ((σ.1 (mm_R G (mm_R G (mm_R G a0 9) 0) x7.toNatClampNeg) 3) + (1 : Int32))) 101 [(0, .ref a0), (1, .int x1), (2, .int x2), (5, .int x5), (6, .int x6), (7, .int x7)] [.int (if x2 = 0 then (1 : Int32) else (0 : Int32)), .int (x1 - (1 : Int32)), .ref a0] := by
        exact at_sub [0, 1, 2, 3, 4, 5] rfl (wX3_endByTurnsL2_b101 X ha0 ha0 h hk)
      refine at_if_ne (pc := 93) X 100 dX3_endByTurns_93 (by decide) (fun c93 => ?_) (fun c93 => ?_)
      · try simp only [if_neg c93] at hj93
        refine at_iconst (pc := 100) X (0 : Int32) dX3_endByTurns_100 ic_0 ?_
        exact at_sub [0, 1, 2, 3, 4, 5] rfl hj93
      · try simp only [if_pos c93] at hj93
        refine at_iconst (pc := 96) X (1 : Int32) dX3_endByTurns_96 ic_1 ?_
        refine at_goto (pc := 97) X 101 dX3_endByTurns_97 (by decide) ?_
        exact at_sub [0, 1, 2, 3, 4, 5] rfl hj93
set_option maxHeartbeats 4000000 in
set_option maxRecDepth 100000 in
theorem wX3_endByTurnsL2_b0 {E : mm_E} {G : mm_G} (X : mm_Cx E G cX3_endByTurns 9 RX3 wsX3_endByTurns rmX3_endByTurnsL2 (some .int)) {a0 : Nat} {x1 : Int32} {x2 : Int32} {x3 : Int32} {x4 : Int32} {σ : mm_M} {q : (Int32 × mm_M)} (ha0 : mm_Is G 3 a0) {o : (Int32 × mm_M) ⊕ (Int32 × Int32 × Int32 × mm_M)} (h : fX3_endByTurnsL2_b0 G a0 x1 x2 x3 x4 σ = some o) (hk : mm_Ok q (PX3_endByTurnsL2 E G a0 x1 x2 x3 x4 q) o) : mm_At E G 9 (mm_Qi E G q) σ 0 [(0, .ref a0), (1, .int x1), (2, .int x2), (3, .int x3), (4, .int x4)] [] := by
  unfold fX3_endByTurnsL2_b0 at h
  refine at_iload_n (pc := 0) X 1 1 dX3_endByTurns_0 rfl rfl ?_
  refine at_if_gt (pc := 1) X 40 dX3_endByTurns_1 (by decide) (fun c1 => ?_) (fun c1 => ?_)
  · have h := mm_pos c1 h
    refine at_iload_n (pc := 40) X 3 3 dX3_endByTurns_40 rfl rfl ?_
    refine at_istore (pc := 41) X 5 [(5, .int x3), (0, .ref a0), (1, .int x1), (2, .int x2), (3, .int x3), (4, .int x4)] dX3_endByTurns_41 (by decide) rfl ?_
    refine at_iload (pc := 43) X 4 5 dX3_endByTurns_43 rfl ?_
    refine at_istore (pc := 45) X 6 [(6, .int x4), (5, .int x3), (0, .ref a0), (1, .int x1), (2, .int x2), (3, .int x3), (4, .int x4)] dX3_endByTurns_45 (by decide) rfl ?_
    refine at_iconst (pc := 47) X (0 : Int32) dX3_endByTurns_47 ic_0 ?_
    refine at_istore (pc := 48) X 7 [(7, .int (0 : Int32)), (6, .int x4), (5, .int x3), (0, .ref a0), (1, .int x1), (2, .int x2), (3, .int x3), (4, .int x4)] dX3_endByTurns_48 (by decide) rfl ?_
    have h2 := mm_inr h hk; exact at_sub [3, 4, 5, 2, 1, 0] rfl h2
  · have h := mm_neg c1 h
    refine at_aload_n (pc := 4) X 0 0 dX3_endByTurns_4 rfl rfl ?_
    refine at_get (pc := 5) X 3 8 (.ref (mm_R G a0 8)) ha0 (by decide) rfl inX3_endByTurnsL2_X3 (by decide) lkX3_endByTurnsL2_11 rfl dX3_endByTurns_5 ?_
    refine at_aload_n (pc := 8) X 0 0 dX3_endByTurns_8 rfl rfl ?_
    refine at_get (pc := 9) X 3 9 (.ref (mm_R G a0 9)) ha0 (by decide) rfl inX3_endByTurnsL2_X3 (by decide) lkX3_endByTurnsL2_0 rfl dX3_endByTurns_9 ?_
    obtain ⟨q12, hq12, h⟩ := mm_bind h
    refine at_callv (n := 1) (pc := 12) X 0 [.ref (mm_R G a0 9)] [] (mX0_become (eL E) X.wf (wf_3_8 X.wf ha0) (wf_3_9 X.wf ha0) hq12) gX3_endByTurns_X0_become rfl ⟨rfl, rfl⟩ (by decide +kernel) ⟨by decide, by decide⟩ (by decide) rfl (wf_3_8 X.wf ha0) rfl rfl (Nat.le_of_ble_eq_true rfl) dX3_endByTurns_12 ?_
    refine at_aload_n (pc := 15) X 0 0 dX3_endByTurns_15 rfl rfl ?_
    refine at_get (pc := 16) X 3 8 (.ref (mm_R G a0 8)) ha0 (by decide) rfl inX3_endByTurnsL2_X3 (by decide) lkX3_endByTurnsL2_11 rfl dX3_endByTurns_16 ?_
    obtain ⟨q19, hq19, h⟩ := mm_bind h
    refine at_calli (n := 0) (pc := 19) X 0 [] [] (mX0_goToEnd (eL E) X.wf (wf_3_8 X.wf ha0) hq19) gX3_endByTurns_X0_goToEnd rfl ⟨rfl, rfl⟩ (by decide +kernel) ⟨by decide, by decide⟩ (by decide) rfl (wf_3_8 X.wf ha0) rfl rfl (Nat.le_of_ble_eq_true rfl) dX3_endByTurns_19 ?_
    refine at_istore (pc := 22) X 5 [(5, .int q19.1), (0, .ref a0), (1, .int x1), (2, .int x2), (3, .int x3), (4, .int x4)] dX3_endByTurns_22 (by decide) rfl ?_
    refine at_iload (pc := 24) X 5 0 dX3_endByTurns_24 rfl ?_
    refine at_bipush (pc := 26) X (-9 : Int32) dX3_endByTurns_26 ib_m9 ?_
    have hj28 : mm_At E G 9 (mm_Qi E G q) q19.2 39 [] [.int (if q19.1 = (-9 : Int32) then (201 : Int32) else q19.1)] := by
      exact at_iret (pc := 39) X (mm_inl h hk) dX3_endByTurns_39
    refine at_icmp_ne (pc := 28) X 37 dX3_endByTurns_28 (by decide) (fun c28 => ?_) (fun c28 => ?_)
    · try simp only [if_neg c28] at hj28
      refine at_iload (pc := 37) X 5 0 dX3_endByTurns_37 rfl ?_
      exact at_sub [] rfl hj28
    · try simp only [if_pos c28] at hj28
      refine at_sipush (pc := 31) X (201 : Int32) dX3_endByTurns_31 is_201 ?_
      refine at_goto (pc := 34) X 39 dX3_endByTurns_34 (by decide) ?_
      exact at_sub [] rfl hj28
set_option maxHeartbeats 4000000 in
set_option maxRecDepth 100000 in
theorem mX3_endByTurnsL2 (l : Launch) {G : mm_G} (hwf : mm_WF G) {a0 : Nat} {x1 : Int32} {x2 : Int32} {x3 : Int32} {x4 : Int32} {σ : mm_M} {q : (Int32 × mm_M)} (ha0 : mm_Is G 3 a0) (h : fX3_endByTurnsL2 G a0 x1 x2 x3 x4 σ = some q) : mm_Mi l yX3_endByTurns wsX3_endByTurns rmX3_endByTurnsL2 G [.ref a0, .int x1, .int x2, .int x3, .int x4] σ q := by
  refine mm_ofi (cc := cX3_endByTurns) (nL := 9) (ret := some .int) (own := RX3) (lv0 := [(0, .ref a0), (1, .int x1), (2, .int x2), (3, .int x3), (4, .int x4)]) (by decide) rfl rfl (Nat.le_of_ble_eq_true rfl) rfl hwf (fun E hE X => ?_)
  obtain ⟨o, h0, hk⟩ := mm_run_ok (P := PX3_endByTurnsL2 E G a0 x1 x2 x3 x4 q) h (fun s o hs hk => by exact wX3_endByTurnsL2_b50 X ha0 hs hk)
  exact wX3_endByTurnsL2_b0 X ha0 h0 hk
/-! X3_endByTurns (IZII)I -/
abbrev rmX3_endByTurnsL3 : Room := { frames := 9, cells := 0, slots := 0, locals := 210 }
theorem lkX3_endByTurnsL3_0 : Cond.fieldLink RX3 50 (TX3 9).1 (TX3 9).2.1 (TX3 9).2.2.1 ∈ wsX3_endByTurns := by decide +kernel
theorem lkX3_endByTurnsL3_1 : Cond.fieldLink RX3 112 (TX0 1).1 (TX0 1).2.1 (TX0 1).2.2.1 ∈ wsX3_endByTurns := by decide +kernel
theorem lkX3_endByTurnsL3_2 : Cond.fieldLink RX3 116 (TX0 0).1 (TX0 0).2.1 (TX0 0).2.2.1 ∈ wsX3_endByTurns := by decide +kernel
theorem lkX3_endByTurnsL3_3 : Cond.fieldLink RX3 150 (TX2 3).1 (TX2 3).2.1 (TX2 3).2.2.1 ∈ wsX3_endByTurns := by decide +kernel
theorem lkX3_endByTurnsL3_4 : Cond.methodLink RX3 253 Lib.Math.min.name ∈ wsX3_endByTurns := by decide +kernel
theorem lkX3_endByTurnsL3_5 : Cond.static Lib.Math.min.name ∈ wsX3_endByTurns := by decide +kernel
theorem lkX3_endByTurnsL3_6 : Cond.initialized "java/lang/Math" ∈ wsX3_endByTurns := by decide +kernel
theorem lkX3_endByTurnsL3_7 : Cond.code Lib.Math.min.name Lib.Math.min.code 2 (some .int) ∈ wsX3_endByTurns := by decide +kernel
theorem lkX3_endByTurnsL3_8 : Cond.methodLink RX3 248 Lib.Math.max.name ∈ wsX3_endByTurns := by decide +kernel
theorem lkX3_endByTurnsL3_9 : Cond.static Lib.Math.max.name ∈ wsX3_endByTurns := by decide +kernel
theorem lkX3_endByTurnsL3_10 : Cond.code Lib.Math.max.name Lib.Math.max.code 2 (some .int) ∈ wsX3_endByTurns := by decide +kernel
theorem lkX3_endByTurnsL3_11 : Cond.fieldLink RX3 47 (TX3 8).1 (TX3 8).2.1 (TX3 8).2.2.1 ∈ wsX3_endByTurns := by decide +kernel
theorem inX3_endByTurnsL3_X3 : ∀ w ∈ u_ws RX3 TX3 17, w ∈ wsX3_endByTurns := by decide +kernel
theorem inX3_endByTurnsL3_X0 : ∀ w ∈ u_ws RX0 TX0 6, w ∈ wsX3_endByTurns := by decide +kernel
theorem inX3_endByTurnsL3_X2 : ∀ w ∈ u_ws RX2 TX2 6, w ∈ wsX3_endByTurns := by decide +kernel
noncomputable def fX3_endByTurnsL3_b160 (G : mm_G) (a0 : Nat) (x1 : Int32) (x2 : Int32) (x3 : Int32) (x4 : Int32) (x5 : Int32) (x6 : Int32) (σ : mm_M) : Option ((Int32 × mm_M) ⊕ (Int32 × Int32 × Int32 × mm_M)) := some (.inl (if x2 = 0 then x6 else x5, σ))
noncomputable def fX3_endByTurnsL3_b101 (G : mm_G) (a0 : Nat) (x1 : Int32) (x2 : Int32) (x3 : Int32) (x4 : Int32) (x5 : Int32) (x6 : Int32) (x7 : Int32) (sx0 : Int32) (sx1 : Int32) (sa2 : Nat) (σ : mm_M) : Option ((Int32 × mm_M) ⊕ (Int32 × Int32 × Int32 × mm_M)) := (fX3_endByTurnsL2 G sa2 sx1 sx0 x5 x6 σ).bind (fun q105 => if x7 < 0 ∨ mm_N G (mm_R G (mm_R G a0 9) 0) ≤ x7.toNatClampNeg then none else (if x2 = 0 then (some (.inr (x5, if q105.1 < x6 then q105.1 else x6, x7 + 1, mm_up q105.2 (mm_R G (mm_R G (mm_R G a0 9) 0) x7.toNatClampNeg) 3 ((q105.2.1 (mm_R G (mm_R G (mm_R G a0 9) 0) x7.toNatClampNeg) 3) - (1 : Int32))))) else (some (.inr (if x5 < q105.1 then q105.1 else x5, x6, x7 + 1, mm_up q105.2 (mm_R G (mm_R G (mm_R G a0 9) 0) x7.toNatClampNeg) 3 ((q105.2.1 (mm_R G (mm_R G (mm_R G a0 9) 0) x7.toNatClampNeg) 3) - (1 : Int32)))))))
noncomputable def fX3_endByTurnsL3_b50 (G : mm_G) (a0 : Nat) (x1 : Int32) (x2 : Int32) (x3 : Int32) (x4 : Int32) (x5 : Int32) (x6 : Int32) (x7 : Int32) (σ : mm_M) : Option ((Int32 × mm_M) ⊕ (Int32 × Int32 × Int32 × mm_M)) := if x7 < (σ.1 (mm_R G a0 9) 1) then (if x5 < x6 then (if x7 < 0 ∨ mm_N G (mm_R G (mm_R G a0 9) 0) ≤ x7.toNatClampNeg then none else (fX3_endByTurnsL3_b101 G a0 x1 x2 x3 x4 x5 x6 x7 (if x2 = 0 then (1 : Int32) else (0 : Int32)) (x1 - (1 : Int32)) a0 (mm_up σ (mm_R G (mm_R G (mm_R G a0 9) 0) x7.toNatClampNeg) 3 ((σ.1 (mm_R G (mm_R G (mm_R G a0 9) 0) x7.toNatClampNeg) 3) + (1 : Int32))))) else (fX3_endByTurnsL3_b160 G a0 x1 x2 x3 x4 x5 x6 σ)) else (fX3_endByTurnsL3_b160 G a0 x1 x2 x3 x4 x5 x6 σ)
noncomputable def fX3_endByTurnsL3_b0 (G : mm_G) (a0 : Nat) (x1 : Int32) (x2 : Int32) (x3 : Int32) (x4 : Int32) (σ : mm_M) : Option ((Int32 × mm_M) ⊕ (Int32 × Int32 × Int32 × mm_M)) := if 0 < x1 then (some (.inr (x3, x4, (0 : Int32), σ))) else ((fX0_become G (mm_R G a0 8) (mm_R G a0 9) σ).bind (fun q12 => (fX0_goToEnd G (mm_R G a0 8) q12).bind (fun q19 => some (.inl (if q19.1 = (-9 : Int32) then (201 : Int32) else q19.1, q19.2)))))
noncomputable def fX3_endByTurnsL3_s (G : mm_G) (a0 : Nat) (x1 : Int32) (x2 : Int32) (x3 : Int32) (x4 : Int32) : (Int32 × Int32 × Int32 × mm_M) → Option ((Int32 × mm_M) ⊕ (Int32 × Int32 × Int32 × mm_M)) := (fun s => fX3_endByTurnsL3_b50 G a0 x1 x2 x3 x4 s.1 s.2.1 s.2.2.1 s.2.2.2)
def PX3_endByTurnsL3 (E : mm_E) (G : mm_G) (a0 : Nat) (x1 : Int32) (x2 : Int32) (x3 : Int32) (x4 : Int32) (q : (Int32 × mm_M)) : (Int32 × Int32 × Int32 × mm_M) → Prop := (fun s => mm_At E G 9 (mm_Qi E G q) s.2.2.2 50 [(0, .ref a0), (1, .int x1), (2, .int x2), (5, .int s.1), (6, .int s.2.1), (7, .int s.2.2.1)] [])
noncomputable def fX3_endByTurnsL3 (G : mm_G) (a0 : Nat) (x1 : Int32) (x2 : Int32) (x3 : Int32) (x4 : Int32) (σ : mm_M) : Option (Int32 × mm_M) := mm_run (fX3_endByTurnsL3_b0 G a0 x1 x2 x3 x4 σ) (fX3_endByTurnsL3_s G a0 x1 x2 x3 x4)
set_option maxHeartbeats 4000000 in
set_option maxRecDepth 100000 in
theorem wX3_endByTurnsL3_b160 {E : mm_E} {G : mm_G} (X : mm_Cx E G cX3_endByTurns 9 RX3 wsX3_endByTurns rmX3_endByTurnsL3 (some .int)) {a0 : Nat} {x1 : Int32} {x2 : Int32} {x3 : Int32} {x4 : Int32} {x5 : Int32} {x6 : Int32} {σ : mm_M} {q : (Int32 × mm_M)} (ha0 : mm_Is G 3 a0) {o : (Int32 × mm_M) ⊕ (Int32 × Int32 × Int32 × mm_M)} (h : fX3_endByTurnsL3_b160 G a0 x1 x2 x3 x4 x5 x6 σ = some o) (hk : mm_Ok q (PX3_endByTurnsL3 E G a0 x1 x2 x3 x4 q) o) : mm_At E G 9 (mm_Qi E G q) σ 160 [(2, .int x2), (5, .int x5), (6, .int x6)] [] := by
  unfold fX3_endByTurnsL3_b160 at h
  refine at_iload_n (pc := 160) X 2 0 dX3_endByTurns_160 rfl rfl ?_
  have hj161 : mm_At E G 9 (mm_Qi E G q) σ 171 [] [.int (if x2 = 0 then x6 else x5)] := by
    exact at_iret (pc := 171) X (mm_inl h hk) dX3_endByTurns_171
  refine at_if_eq (pc := 161) X 169 dX3_endByTurns_161 (by decide) (fun c161 => ?_) (fun c161 => ?_)
  · try simp only [if_pos c161] at hj161
    refine at_iload (pc := 169) X 6 2 dX3_endByTurns_169 rfl ?_
    exact at_sub [] rfl hj161
  · try simp only [if_neg c161] at hj161
    refine at_iload (pc := 164) X 5 1 dX3_endByTurns_164 rfl ?_
    refine at_goto (pc := 166) X 171 dX3_endByTurns_166 (by decide) ?_
    exact at_sub [] rfl hj161
set_option maxHeartbeats 4000000 in
set_option maxRecDepth 100000 in
theorem wX3_endByTurnsL3_b101 {E : mm_E} {G : mm_G} (X : mm_Cx E G cX3_endByTurns 9 RX3 wsX3_endByTurns rmX3_endByTurnsL3 (some .int)) {a0 : Nat} {x1 : Int32} {x2 : Int32} {x3 : Int32} {x4 : Int32} {x5 : Int32} {x6 : Int32} {x7 : Int32} {sx0 : Int32} {sx1 : Int32} {sa2 : Nat} {σ : mm_M} {q : (Int32 × mm_M)} (ha0 : mm_Is G 3 a0) (hsa2 : mm_Is G 3 sa2) {o : (Int32 × mm_M) ⊕ (Int32 × Int32 × Int32 × mm_M)} (h : fX3_endByTurnsL3_b101 G a0 x1 x2 x3 x4 x5 x6 x7 sx0 sx1 sa2 σ = some o) (hk : mm_Ok q (PX3_endByTurnsL3 E G a0 x1 x2 x3 x4 q) o) : mm_At E G 9 (mm_Qi E G q) σ 101 [(0, .ref a0), (1, .int x1), (2, .int x2), (5, .int x5), (6, .int x6), (7, .int x7)] [.int sx0, .int sx1, .ref sa2] := by
  unfold fX3_endByTurnsL3_b101 at h
  refine at_iload (pc := 101) X 5 3 dX3_endByTurns_101 rfl ?_
  refine at_iload (pc := 103) X 6 4 dX3_endByTurns_103 rfl ?_
  obtain ⟨q105, hq105, h⟩ := mm_bind h
  refine at_calli (n := 4) (pc := 105) X 3 [.int sx1, .int sx0, .int x5, .int x6] [] (mX3_endByTurnsL2 (eL E) X.wf hsa2 hq105) gX3_endByTurns_X3_endByTurns rfl ⟨rfl, rfl⟩ (by decide +kernel) ⟨by decide, by decide⟩ (by decide) rfl hsa2 rfl rfl (Nat.le_of_ble_eq_true rfl) dX3_endByTurns_105 ?_
  refine at_istore (pc := 108) X 8 [(8, .int q105.1), (0, .ref a0), (1, .int x1), (2, .int x2), (5, .int x5), (6, .int x6), (7, .int x7)] dX3_endByTurns_108 (by decide) rfl ?_
  refine at_aload_n (pc := 110) X 0 1 dX3_endByTurns_110 rfl rfl ?_
  refine at_get (pc := 111) X 3 9 (.ref (mm_R G a0 9)) ha0 (by decide) rfl inX3_endByTurnsL3_X3 (by decide) lkX3_endByTurnsL3_0 rfl dX3_endByTurns_111 ?_
  refine at_get (pc := 114) X 0 0 (.ref (mm_R G (mm_R G a0 9) 0)) (wf_3_9 X.wf ha0) (by decide) rfl inX3_endByTurnsL3_X0 (by decide) lkX3_endByTurnsL3_2 rfl dX3_endByTurns_114 ?_
  refine at_iload (pc := 117) X 7 6 dX3_endByTurns_117 rfl ?_
  obtain ⟨hc119, h⟩ := mm_chk h
  refine at_aald (pc := 119) X 8 3 (wf_0_0 X.wf (wf_3_9 X.wf ha0)) (by decide) (by decide) rfl rfl hc119 dX3_endByTurns_119 ?_
  refine at_dup (pc := 120) X dX3_endByTurns_120 rfl ?_
  refine at_get (pc := 121) X 2 3 (.int (q105.2.1 (mm_R G (mm_R G (mm_R G a0 9) 0) x7.toNatClampNeg) 3)) (wf_8 X.wf (wf_0_0 X.wf (wf_3_9 X.wf ha0)) hc119) (by decide) rfl inX3_endByTurnsL3_X2 (by decide) lkX3_endByTurnsL3_3 rfl dX3_endByTurns_121 ?_
  refine at_iconst (pc := 124) X (1 : Int32) dX3_endByTurns_124 ic_1 ?_
  refine at_isub (pc := 125) X dX3_endByTurns_125 ?_
  refine at_put (pc := 126) X 2 3 (wf_8 X.wf (wf_0_0 X.wf (wf_3_9 X.wf ha0)) hc119) (by decide) rfl inX3_endByTurnsL3_X2 tyX2 tyX2_ok nmX2 (by decide) lkX3_endByTurnsL3_3 rfl (ty := .int) rfl rfl rfl (Nat.le_of_ble_eq_true rfl) (ms_2_3 G _ _ _) mm_up_ne dX3_endByTurns_126 ?_
  refine at_iload_n (pc := 129) X 2 3 dX3_endByTurns_129 rfl rfl ?_
  refine at_if_eq (pc := 130) X 145 dX3_endByTurns_130 (by decide) (fun c130 => ?_) (fun c130 => ?_)
  · have h := mm_pos c130 h
    refine at_iload (pc := 145) X 6 5 dX3_endByTurns_145 rfl ?_
    refine at_iload (pc := 147) X 8 0 dX3_endByTurns_147 rfl ?_
    refine at_mmin (pc := 149) X lkX3_endByTurnsL3_4 lkX3_endByTurnsL3_5 lkX3_endByTurnsL3_6 lkX3_endByTurnsL3_7 (by decide) (by decide) dX3_endByTurns_149 ?_
    refine at_istore (pc := 152) X 6 [(6, .int (if q105.1 < x6 then q105.1 else x6)), (8, .int q105.1), (0, .ref a0), (1, .int x1), (2, .int x2), (5, .int x5), (7, .int x7)] dX3_endByTurns_152 (by decide) rfl ?_
    refine at_iinc (pc := 154) X 7 6 (x7 + 1) [(7, .int (x7 + 1)), (6, .int (if q105.1 < x6 then q105.1 else x6)), (8, .int q105.1), (0, .ref a0), (1, .int x1), (2, .int x2), (5, .int x5)] dX3_endByTurns_154 rfl (ii_1 _) (by decide) rfl ?_
    refine at_goto (pc := 157) X 50 dX3_endByTurns_157 (by decide) ?_
    have h2 := mm_inr h hk; exact at_sub [3, 4, 5, 6, 1, 0] rfl h2
  · have h := mm_neg c130 h
    refine at_iload (pc := 133) X 5 4 dX3_endByTurns_133 rfl ?_
    refine at_iload (pc := 135) X 8 0 dX3_endByTurns_135 rfl ?_
    refine at_mmax (pc := 137) X lkX3_endByTurnsL3_8 lkX3_endByTurnsL3_9 lkX3_endByTurnsL3_6 lkX3_endByTurnsL3_10 (by decide) (by decide) dX3_endByTurns_137 ?_
    refine at_istore (pc := 140) X 5 [(5, .int (if x5 < q105.1 then q105.1 else x5)), (8, .int q105.1), (0, .ref a0), (1, .int x1), (2, .int x2), (6, .int x6), (7, .int x7)] dX3_endByTurns_140 (by decide) rfl ?_
    refine at_goto (pc := 142) X 154 dX3_endByTurns_142 (by decide) ?_
    refine at_iinc (pc := 154) X 7 6 (x7 + 1) [(7, .int (x7 + 1)), (5, .int (if x5 < q105.1 then q105.1 else x5)), (8, .int q105.1), (0, .ref a0), (1, .int x1), (2, .int x2), (6, .int x6)] dX3_endByTurns_154 rfl (ii_1 _) (by decide) rfl ?_
    refine at_goto (pc := 157) X 50 dX3_endByTurns_157 (by decide) ?_
    have h2 := mm_inr h hk; exact at_sub [3, 4, 5, 1, 6, 0] rfl h2
set_option maxHeartbeats 4000000 in
set_option maxRecDepth 100000 in
theorem wX3_endByTurnsL3_b50 {E : mm_E} {G : mm_G} (X : mm_Cx E G cX3_endByTurns 9 RX3 wsX3_endByTurns rmX3_endByTurnsL3 (some .int)) {a0 : Nat} {x1 : Int32} {x2 : Int32} {x3 : Int32} {x4 : Int32} {x5 : Int32} {x6 : Int32} {x7 : Int32} {σ : mm_M} {q : (Int32 × mm_M)} (ha0 : mm_Is G 3 a0) {o : (Int32 × mm_M) ⊕ (Int32 × Int32 × Int32 × mm_M)} (h : fX3_endByTurnsL3_b50 G a0 x1 x2 x3 x4 x5 x6 x7 σ = some o) (hk : mm_Ok q (PX3_endByTurnsL3 E G a0 x1 x2 x3 x4 q) o) : mm_At E G 9 (mm_Qi E G q) σ 50 [(0, .ref a0), (1, .int x1), (2, .int x2), (5, .int x5), (6, .int x6), (7, .int x7)] [] := by
  unfold fX3_endByTurnsL3_b50 at h
  refine at_iload (pc := 50) X 7 5 dX3_endByTurns_50 rfl ?_
  refine at_aload_n (pc := 52) X 0 0 dX3_endByTurns_52 rfl rfl ?_
  refine at_get (pc := 53) X 3 9 (.ref (mm_R G a0 9)) ha0 (by decide) rfl inX3_endByTurnsL3_X3 (by decide) lkX3_endByTurnsL3_0 rfl dX3_endByTurns_53 ?_
  refine at_get (pc := 56) X 0 1 (.int (σ.1 (mm_R G a0 9) 1)) (wf_3_9 X.wf ha0) (by decide) rfl inX3_endByTurnsL3_X0 (by decide) lkX3_endByTurnsL3_1 rfl dX3_endByTurns_56 ?_
  refine at_icmp_ge (pc := 59) X 160 dX3_endByTurns_59 (by decide) (fun c59 => ?_) (fun c59 => ?_)
  · have h := mm_neg c59 h
    exact at_sub [2, 3, 4] rfl (wX3_endByTurnsL3_b160 X ha0 h hk)
  · have h := mm_pos c59 h
    refine at_iload (pc := 62) X 5 3 dX3_endByTurns_62 rfl ?_
    refine at_iload (pc := 64) X 6 4 dX3_endByTurns_64 rfl ?_
    refine at_icmp_ge (pc := 66) X 160 dX3_endByTurns_66 (by decide) (fun c66 => ?_) (fun c66 => ?_)
    · have h := mm_neg c66 h
      exact at_sub [2, 3, 4] rfl (wX3_endByTurnsL3_b160 X ha0 h hk)
    · have h := mm_pos c66 h
      refine at_aload_n (pc := 69) X 0 0 dX3_endByTurns_69 rfl rfl ?_
      refine at_get (pc := 70) X 3 9 (.ref (mm_R G a0 9)) ha0 (by decide) rfl inX3_endByTurnsL3_X3 (by decide) lkX3_endByTurnsL3_0 rfl dX3_endByTurns_70 ?_
      refine at_get (pc := 73) X 0 0 (.ref (mm_R G (mm_R G a0 9) 0)) (wf_3_9 X.wf ha0) (by decide) rfl inX3_endByTurnsL3_X0 (by decide) lkX3_endByTurnsL3_2 rfl dX3_endByTurns_73 ?_
      refine at_iload (pc := 76) X 7 5 dX3_endByTurns_76 rfl ?_
      obtain ⟨hc78, h⟩ := mm_chk h
      refine at_aald (pc := 78) X 8 3 (wf_0_0 X.wf (wf_3_9 X.wf ha0)) (by decide) (by decide) rfl rfl hc78 dX3_endByTurns_78 ?_
      refine at_dup (pc := 79) X dX3_endByTurns_79 rfl ?_
      refine at_get (pc := 80) X 2 3 (.int (σ.1 (mm_R G (mm_R G (mm_R G a0 9) 0) x7.toNatClampNeg) 3)) (wf_8 X.wf (wf_0_0 X.wf (wf_3_9 X.wf ha0)) hc78) (by decide) rfl inX3_endByTurnsL3_X2 (by decide) lkX3_endByTurnsL3_3 rfl dX3_endByTurns_80 ?_
      refine at_iconst (pc := 83) X (1 : Int32) dX3_endByTurns_83 ic_1 ?_
      refine at_iadd (pc := 84) X dX3_endByTurns_84 ?_
      refine at_put (pc := 85) X 2 3 (wf_8 X.wf (wf_0_0 X.wf (wf_3_9 X.wf ha0)) hc78) (by decide) rfl inX3_endByTurnsL3_X2 tyX2 tyX2_ok nmX2 (by decide) lkX3_endByTurnsL3_3 rfl (ty := .int) rfl rfl rfl (Nat.le_of_ble_eq_true rfl) (ms_2_3 G _ _ _) mm_up_ne dX3_endByTurns_85 ?_
      refine at_aload_n (pc := 88) X 0 0 dX3_endByTurns_88 rfl rfl ?_
      refine at_iload_n (pc := 89) X 1 1 dX3_endByTurns_89 rfl rfl ?_
      refine at_iconst (pc := 90) X (1 : Int32) dX3_endByTurns_90 ic_1 ?_
      refine at_isub (pc := 91) X dX3_endByTurns_91 ?_
      refine at_iload_n (pc := 92) X 2 2 dX3_endByTurns_92 rfl rfl ?_
      have hj93 : mm_At E G 9 (mm_Qi E G q) (mm_up σ (mm_R G (mm_R G (mm_R G a0 9) 0) x7.toNatClampNeg) 3 ((σ.1 (mm_R G (mm_R G (mm_R G a0 9) 0) x7.toNatClampNeg) 3) + (1 : Int32))) 101 [(0, .ref a0), (1, .int x1), (2, .int x2), (5, .int x5), (6, .int x6), (7, .int x7)] [.int (if x2 = 0 then (1 : Int32) else (0 : Int32)), .int (x1 - (1 : Int32)), .ref a0] := by
        exact at_sub [0, 1, 2, 3, 4, 5] rfl (wX3_endByTurnsL3_b101 X ha0 ha0 h hk)
      refine at_if_ne (pc := 93) X 100 dX3_endByTurns_93 (by decide) (fun c93 => ?_) (fun c93 => ?_)
      · try simp only [if_neg c93] at hj93
        refine at_iconst (pc := 100) X (0 : Int32) dX3_endByTurns_100 ic_0 ?_
        exact at_sub [0, 1, 2, 3, 4, 5] rfl hj93
      · try simp only [if_pos c93] at hj93
        refine at_iconst (pc := 96) X (1 : Int32) dX3_endByTurns_96 ic_1 ?_
        refine at_goto (pc := 97) X 101 dX3_endByTurns_97 (by decide) ?_
        exact at_sub [0, 1, 2, 3, 4, 5] rfl hj93
set_option maxHeartbeats 4000000 in
set_option maxRecDepth 100000 in
theorem wX3_endByTurnsL3_b0 {E : mm_E} {G : mm_G} (X : mm_Cx E G cX3_endByTurns 9 RX3 wsX3_endByTurns rmX3_endByTurnsL3 (some .int)) {a0 : Nat} {x1 : Int32} {x2 : Int32} {x3 : Int32} {x4 : Int32} {σ : mm_M} {q : (Int32 × mm_M)} (ha0 : mm_Is G 3 a0) {o : (Int32 × mm_M) ⊕ (Int32 × Int32 × Int32 × mm_M)} (h : fX3_endByTurnsL3_b0 G a0 x1 x2 x3 x4 σ = some o) (hk : mm_Ok q (PX3_endByTurnsL3 E G a0 x1 x2 x3 x4 q) o) : mm_At E G 9 (mm_Qi E G q) σ 0 [(0, .ref a0), (1, .int x1), (2, .int x2), (3, .int x3), (4, .int x4)] [] := by
  unfold fX3_endByTurnsL3_b0 at h
  refine at_iload_n (pc := 0) X 1 1 dX3_endByTurns_0 rfl rfl ?_
  refine at_if_gt (pc := 1) X 40 dX3_endByTurns_1 (by decide) (fun c1 => ?_) (fun c1 => ?_)
  · have h := mm_pos c1 h
    refine at_iload_n (pc := 40) X 3 3 dX3_endByTurns_40 rfl rfl ?_
    refine at_istore (pc := 41) X 5 [(5, .int x3), (0, .ref a0), (1, .int x1), (2, .int x2), (3, .int x3), (4, .int x4)] dX3_endByTurns_41 (by decide) rfl ?_
    refine at_iload (pc := 43) X 4 5 dX3_endByTurns_43 rfl ?_
    refine at_istore (pc := 45) X 6 [(6, .int x4), (5, .int x3), (0, .ref a0), (1, .int x1), (2, .int x2), (3, .int x3), (4, .int x4)] dX3_endByTurns_45 (by decide) rfl ?_
    refine at_iconst (pc := 47) X (0 : Int32) dX3_endByTurns_47 ic_0 ?_
    refine at_istore (pc := 48) X 7 [(7, .int (0 : Int32)), (6, .int x4), (5, .int x3), (0, .ref a0), (1, .int x1), (2, .int x2), (3, .int x3), (4, .int x4)] dX3_endByTurns_48 (by decide) rfl ?_
    have h2 := mm_inr h hk; exact at_sub [3, 4, 5, 2, 1, 0] rfl h2
  · have h := mm_neg c1 h
    refine at_aload_n (pc := 4) X 0 0 dX3_endByTurns_4 rfl rfl ?_
    refine at_get (pc := 5) X 3 8 (.ref (mm_R G a0 8)) ha0 (by decide) rfl inX3_endByTurnsL3_X3 (by decide) lkX3_endByTurnsL3_11 rfl dX3_endByTurns_5 ?_
    refine at_aload_n (pc := 8) X 0 0 dX3_endByTurns_8 rfl rfl ?_
    refine at_get (pc := 9) X 3 9 (.ref (mm_R G a0 9)) ha0 (by decide) rfl inX3_endByTurnsL3_X3 (by decide) lkX3_endByTurnsL3_0 rfl dX3_endByTurns_9 ?_
    obtain ⟨q12, hq12, h⟩ := mm_bind h
    refine at_callv (n := 1) (pc := 12) X 0 [.ref (mm_R G a0 9)] [] (mX0_become (eL E) X.wf (wf_3_8 X.wf ha0) (wf_3_9 X.wf ha0) hq12) gX3_endByTurns_X0_become rfl ⟨rfl, rfl⟩ (by decide +kernel) ⟨by decide, by decide⟩ (by decide) rfl (wf_3_8 X.wf ha0) rfl rfl (Nat.le_of_ble_eq_true rfl) dX3_endByTurns_12 ?_
    refine at_aload_n (pc := 15) X 0 0 dX3_endByTurns_15 rfl rfl ?_
    refine at_get (pc := 16) X 3 8 (.ref (mm_R G a0 8)) ha0 (by decide) rfl inX3_endByTurnsL3_X3 (by decide) lkX3_endByTurnsL3_11 rfl dX3_endByTurns_16 ?_
    obtain ⟨q19, hq19, h⟩ := mm_bind h
    refine at_calli (n := 0) (pc := 19) X 0 [] [] (mX0_goToEnd (eL E) X.wf (wf_3_8 X.wf ha0) hq19) gX3_endByTurns_X0_goToEnd rfl ⟨rfl, rfl⟩ (by decide +kernel) ⟨by decide, by decide⟩ (by decide) rfl (wf_3_8 X.wf ha0) rfl rfl (Nat.le_of_ble_eq_true rfl) dX3_endByTurns_19 ?_
    refine at_istore (pc := 22) X 5 [(5, .int q19.1), (0, .ref a0), (1, .int x1), (2, .int x2), (3, .int x3), (4, .int x4)] dX3_endByTurns_22 (by decide) rfl ?_
    refine at_iload (pc := 24) X 5 0 dX3_endByTurns_24 rfl ?_
    refine at_bipush (pc := 26) X (-9 : Int32) dX3_endByTurns_26 ib_m9 ?_
    have hj28 : mm_At E G 9 (mm_Qi E G q) q19.2 39 [] [.int (if q19.1 = (-9 : Int32) then (201 : Int32) else q19.1)] := by
      exact at_iret (pc := 39) X (mm_inl h hk) dX3_endByTurns_39
    refine at_icmp_ne (pc := 28) X 37 dX3_endByTurns_28 (by decide) (fun c28 => ?_) (fun c28 => ?_)
    · try simp only [if_neg c28] at hj28
      refine at_iload (pc := 37) X 5 0 dX3_endByTurns_37 rfl ?_
      exact at_sub [] rfl hj28
    · try simp only [if_pos c28] at hj28
      refine at_sipush (pc := 31) X (201 : Int32) dX3_endByTurns_31 is_201 ?_
      refine at_goto (pc := 34) X 39 dX3_endByTurns_34 (by decide) ?_
      exact at_sub [] rfl hj28
set_option maxHeartbeats 4000000 in
set_option maxRecDepth 100000 in
theorem mX3_endByTurnsL3 (l : Launch) {G : mm_G} (hwf : mm_WF G) {a0 : Nat} {x1 : Int32} {x2 : Int32} {x3 : Int32} {x4 : Int32} {σ : mm_M} {q : (Int32 × mm_M)} (ha0 : mm_Is G 3 a0) (h : fX3_endByTurnsL3 G a0 x1 x2 x3 x4 σ = some q) : mm_Mi l yX3_endByTurns wsX3_endByTurns rmX3_endByTurnsL3 G [.ref a0, .int x1, .int x2, .int x3, .int x4] σ q := by
  refine mm_ofi (cc := cX3_endByTurns) (nL := 9) (ret := some .int) (own := RX3) (lv0 := [(0, .ref a0), (1, .int x1), (2, .int x2), (3, .int x3), (4, .int x4)]) (by decide) rfl rfl (Nat.le_of_ble_eq_true rfl) rfl hwf (fun E hE X => ?_)
  obtain ⟨o, h0, hk⟩ := mm_run_ok (P := PX3_endByTurnsL3 E G a0 x1 x2 x3 x4 q) h (fun s o hs hk => by exact wX3_endByTurnsL3_b50 X ha0 hs hk)
  exact wX3_endByTurnsL3_b0 X ha0 h0 hk
set_option maxRecDepth 20000 in
theorem ggX3_duel_X0_become : GoodIn wsX3_duel wsX0_become := goodIn_r _ [8, 9, 10, 11, 12, 13, 14, 15, 16, 17, 18, 19, 20, 21, 22, 23, 24, 25, 117, 118, 119, 120, 121, 122, 123, 124, 125, 126, 127, 128] (by decide +kernel) (by decide +kernel)
set_option maxRecDepth 20000 in
theorem gX3_duel_X0_become : GoodIn wsX3_duel (wsV RX3 108 RX0 yX0_become wsX0_become) := goodIn_app (goodIn_of _ (by decide +kernel)) ggX3_duel_X0_become
set_option maxRecDepth 20000 in
theorem ggX3_duel_X3_endByTurns : GoodIn wsX3_duel wsX3_endByTurns := goodIn_r _ [30, 31, 3, 2, 32, 33, 34, 35, 36, 37, 38, 39, 40, 4, 5, 6, 7, 8, 9, 10, 11, 12, 13, 14, 15, 16, 17, 18, 19, 20, 21, 22, 23, 24, 25, 41, 42, 43, 44, 45, 46, 47, 48, 49, 50, 51, 52, 53, 54, 55, 56, 57, 58, 59, 60, 61, 62, 63, 64, 65, 66, 67, 68, 69, 70, 71, 72, 73, 74, 75, 76, 77, 78, 79, 80, 81, 82, 83, 84, 85, 86, 87, 88, 89, 90, 91, 92, 93, 94, 95, 96, 97, 98, 99, 26, 27, 28, 29, 100, 101, 102, 103, 104, 105, 106, 107, 108, 109, 110, 111, 112, 113, 114, 115, 116, 117, 118, 119, 120, 121, 122, 123, 124, 125, 126, 127, 128] (by decide +kernel) (by decide +kernel)
set_option maxRecDepth 20000 in
theorem gX3_duel_X3_endByTurns : GoodIn wsX3_duel (wsV RX3 209 RX3 yX3_endByTurns wsX3_endByTurns) := goodIn_app (goodIn_of _ (by decide +kernel)) ggX3_duel_X3_endByTurns
theorem dX3_duel_0 : decode cX3_duel 0 = .ok (.iload_n 1, 1) := by decide +kernel
theorem dX3_duel_1 : decode cX3_duel 1 = .ok (.ifCond .lt 8, 3) := by decide +kernel
theorem dX3_duel_4 : decode cX3_duel 4 = .ok (.iload_n 1, 1) := by decide +kernel
theorem dX3_duel_5 : decode cX3_duel 5 = .ok (.iconst 3, 1) := by decide +kernel
theorem dX3_duel_6 : decode cX3_duel 6 = .ok (.if_icmp .le 5, 3) := by decide +kernel
theorem dX3_duel_9 : decode cX3_duel 9 = .ok (.iconst (-1), 1) := by decide +kernel
theorem dX3_duel_10 : decode cX3_duel 10 = .ok (.ireturn, 1) := by decide +kernel
theorem dX3_duel_11 : decode cX3_duel 11 = .ok (.aload_n 0, 1) := by decide +kernel
theorem dX3_duel_12 : decode cX3_duel 12 = .ok (.getfield 33, 3) := by decide +kernel
theorem dX3_duel_15 : decode cX3_duel 15 = .ok (.getfield 112, 3) := by decide +kernel
theorem dX3_duel_18 : decode cX3_duel 18 = .ok (.ifCond .ne 6, 3) := by decide +kernel
theorem dX3_duel_21 : decode cX3_duel 21 = .ok (.bipush (-4), 2) := by decide +kernel
theorem dX3_duel_23 : decode cX3_duel 23 = .ok (.ireturn, 1) := by decide +kernel
theorem dX3_duel_24 : decode cX3_duel 24 = .ok (.aload_n 0, 1) := by decide +kernel
theorem dX3_duel_25 : decode cX3_duel 25 = .ok (.getfield 50, 3) := by decide +kernel
theorem dX3_duel_28 : decode cX3_duel 28 = .ok (.aload_n 0, 1) := by decide +kernel
theorem dX3_duel_29 : decode cX3_duel 29 = .ok (.getfield 33, 3) := by decide +kernel
theorem dX3_duel_32 : decode cX3_duel 32 = .ok (.invokevirtual 108, 3) := by decide +kernel
theorem dX3_duel_35 : decode cX3_duel 35 = .ok (.aload_n 0, 1) := by decide +kernel
theorem dX3_duel_36 : decode cX3_duel 36 = .ok (.iload_n 1, 1) := by decide +kernel
theorem dX3_duel_37 : decode cX3_duel 37 = .ok (.iconst 1, 1) := by decide +kernel
theorem dX3_duel_38 : decode cX3_duel 38 = .ok (.iconst 0, 1) := by decide +kernel
theorem dX3_duel_39 : decode cX3_duel 39 = .ok (.sipush 201, 3) := by decide +kernel
theorem dX3_duel_42 : decode cX3_duel 42 = .ok (.invokevirtual 209, 3) := by decide +kernel
theorem dX3_duel_45 : decode cX3_duel 45 = .ok (.ireturn, 1) := by decide +kernel
/-! X3_duel (I)I -/
abbrev rmX3_duel : Room := { frames := 10, cells := 0, slots := 0, locals := 238 }
theorem lkX3_duel_0 : Cond.fieldLink RX3 33 (TX3 5).1 (TX3 5).2.1 (TX3 5).2.2.1 ∈ wsX3_duel := by decide +kernel
theorem lkX3_duel_1 : Cond.fieldLink RX3 112 (TX0 1).1 (TX0 1).2.1 (TX0 1).2.2.1 ∈ wsX3_duel := by decide +kernel
theorem lkX3_duel_2 : Cond.fieldLink RX3 50 (TX3 9).1 (TX3 9).2.1 (TX3 9).2.2.1 ∈ wsX3_duel := by decide +kernel
theorem inX3_duel_X3 : ∀ w ∈ u_ws RX3 TX3 17, w ∈ wsX3_duel := by decide +kernel
theorem inX3_duel_X0 : ∀ w ∈ u_ws RX0 TX0 6, w ∈ wsX3_duel := by decide +kernel
noncomputable def fX3_duel (G : mm_G) (a0 : Nat) (x1 : Int32) (σ : mm_M) : Option (Int32 × mm_M) := if x1 < 0 then (some ((-1 : Int32), σ)) else (if (3 : Int32) < x1 then (some ((-1 : Int32), σ)) else (if (σ.1 (mm_R G a0 5) 1) = 0 then (some ((-4 : Int32), σ)) else ((fX0_become G (mm_R G a0 9) (mm_R G a0 5) σ).bind (fun q32 => (fX3_endByTurnsL3 G a0 x1 (1 : Int32) (0 : Int32) (201 : Int32) q32).bind (fun q42 => some (q42.1, q42.2))))))
set_option maxHeartbeats 4000000 in
set_option maxRecDepth 100000 in
theorem wX3_duel_b0 {E : mm_E} {G : mm_G} (X : mm_Cx E G cX3_duel 2 RX3 wsX3_duel rmX3_duel (some .int)) {a0 : Nat} {x1 : Int32} {σ : mm_M} {q : (Int32 × mm_M)} (ha0 : mm_Is G 3 a0) (h : fX3_duel G a0 x1 σ = some q) : mm_At E G 2 (mm_Qi E G q) σ 0 [(0, .ref a0), (1, .int x1)] [] := by
  unfold fX3_duel at h
  refine at_iload_n (pc := 0) X 1 1 dX3_duel_0 rfl rfl ?_
  refine at_if_lt (pc := 1) X 9 dX3_duel_1 (by decide) (fun c1 => ?_) (fun c1 => ?_)
  · have h := mm_pos c1 h
    refine at_iconst (pc := 9) X (-1 : Int32) dX3_duel_9 ic_m1 ?_
    exact at_iret (pc := 10) X (Option.some.inj h) dX3_duel_10
  · have h := mm_neg c1 h
    refine at_iload_n (pc := 4) X 1 1 dX3_duel_4 rfl rfl ?_
    refine at_iconst (pc := 5) X (3 : Int32) dX3_duel_5 ic_3 ?_
    refine at_icmp_le (pc := 6) X 11 dX3_duel_6 (by decide) (fun c6 => ?_) (fun c6 => ?_)
    · have h := mm_neg c6 h
      refine at_aload_n (pc := 11) X 0 0 dX3_duel_11 rfl rfl ?_
      refine at_get (pc := 12) X 3 5 (.ref (mm_R G a0 5)) ha0 (by decide) rfl inX3_duel_X3 (by decide) lkX3_duel_0 rfl dX3_duel_12 ?_
      refine at_get (pc := 15) X 0 1 (.int (σ.1 (mm_R G a0 5) 1)) (wf_3_5 X.wf ha0) (by decide) rfl inX3_duel_X0 (by decide) lkX3_duel_1 rfl dX3_duel_15 ?_
      refine at_if_ne (pc := 18) X 24 dX3_duel_18 (by decide) (fun c18 => ?_) (fun c18 => ?_)
      · have h := mm_neg c18 h
        refine at_aload_n (pc := 24) X 0 0 dX3_duel_24 rfl rfl ?_
        refine at_get (pc := 25) X 3 9 (.ref (mm_R G a0 9)) ha0 (by decide) rfl inX3_duel_X3 (by decide) lkX3_duel_2 rfl dX3_duel_25 ?_
        refine at_aload_n (pc := 28) X 0 0 dX3_duel_28 rfl rfl ?_
        refine at_get (pc := 29) X 3 5 (.ref (mm_R G a0 5)) ha0 (by decide) rfl inX3_duel_X3 (by decide) lkX3_duel_0 rfl dX3_duel_29 ?_
        obtain ⟨q32, hq32, h⟩ := mm_bind h
        refine at_callv (n := 1) (pc := 32) X 0 [.ref (mm_R G a0 5)] [] (mX0_become (eL E) X.wf (wf_3_9 X.wf ha0) (wf_3_5 X.wf ha0) hq32) gX3_duel_X0_become rfl ⟨rfl, rfl⟩ (by decide +kernel) ⟨by decide, by decide⟩ (by decide) rfl (wf_3_9 X.wf ha0) rfl rfl (Nat.le_of_ble_eq_true rfl) dX3_duel_32 ?_
        refine at_aload_n (pc := 35) X 0 0 dX3_duel_35 rfl rfl ?_
        refine at_iload_n (pc := 36) X 1 1 dX3_duel_36 rfl rfl ?_
        refine at_iconst (pc := 37) X (1 : Int32) dX3_duel_37 ic_1 ?_
        refine at_iconst (pc := 38) X (0 : Int32) dX3_duel_38 ic_0 ?_
        refine at_sipush (pc := 39) X (201 : Int32) dX3_duel_39 is_201 ?_
        obtain ⟨q42, hq42, h⟩ := mm_bind h
        refine at_calli (n := 4) (pc := 42) X 3 [.int x1, .int (1 : Int32), .int (0 : Int32), .int (201 : Int32)] [] (mX3_endByTurnsL3 (eL E) X.wf ha0 hq42) gX3_duel_X3_endByTurns rfl ⟨rfl, rfl⟩ (by decide +kernel) ⟨by decide, by decide⟩ (by decide) rfl ha0 rfl rfl (Nat.le_of_ble_eq_true rfl) dX3_duel_42 ?_
        exact at_iret (pc := 45) X (Option.some.inj h) dX3_duel_45
      · have h := mm_pos c18 h
        refine at_bipush (pc := 21) X (-4 : Int32) dX3_duel_21 ib_m4 ?_
        exact at_iret (pc := 23) X (Option.some.inj h) dX3_duel_23
    · have h := mm_pos c6 h
      refine at_iconst (pc := 9) X (-1 : Int32) dX3_duel_9 ic_m1 ?_
      exact at_iret (pc := 10) X (Option.some.inj h) dX3_duel_10
set_option maxHeartbeats 4000000 in
set_option maxRecDepth 100000 in
theorem mX3_duel (l : Launch) {G : mm_G} (hwf : mm_WF G) {a0 : Nat} {x1 : Int32} {σ : mm_M} {q : (Int32 × mm_M)} (ha0 : mm_Is G 3 a0) (h : fX3_duel G a0 x1 σ = some q) : mm_Mi l yX3_duel wsX3_duel rmX3_duel G [.ref a0, .int x1] σ q := by
  refine mm_ofi (cc := cX3_duel) (nL := 2) (ret := some .int) (own := RX3) (lv0 := [(0, .ref a0), (1, .int x1)]) (by decide) rfl rfl (Nat.le_of_ble_eq_true rfl) rfl hwf (fun E hE X => ?_)
  exact wX3_duel_b0 X ha0 h
theorem dX3_weightOf_0 : decode cX3_weightOf 0 = .ok (.lconst 1, 1) := by decide +kernel
theorem dX3_weightOf_1 : decode cX3_weightOf 1 = .ok (.lstore_n 3, 1) := by decide +kernel
theorem dX3_weightOf_2 : decode cX3_weightOf 2 = .ok (.iconst 0, 1) := by decide +kernel
theorem dX3_weightOf_3 : decode cX3_weightOf 3 = .ok (.istore 5, 2) := by decide +kernel
theorem dX3_weightOf_5 : decode cX3_weightOf 5 = .ok (.iload 5, 2) := by decide +kernel
theorem dX3_weightOf_7 : decode cX3_weightOf 7 = .ok (.aload_n 0, 1) := by decide +kernel
theorem dX3_weightOf_8 : decode cX3_weightOf 8 = .ok (.getfield 33, 3) := by decide +kernel
theorem dX3_weightOf_11 : decode cX3_weightOf 11 = .ok (.getfield 112, 3) := by decide +kernel
theorem dX3_weightOf_14 : decode cX3_weightOf 14 = .ok (.if_icmp .ge 31, 3) := by decide +kernel
theorem dX3_weightOf_17 : decode cX3_weightOf 17 = .ok (.lload_n 3, 1) := by decide +kernel
theorem dX3_weightOf_18 : decode cX3_weightOf 18 = .ok (.iload_n 1, 1) := by decide +kernel
theorem dX3_weightOf_19 : decode cX3_weightOf 19 = .ok (.iload 5, 2) := by decide +kernel
theorem dX3_weightOf_21 : decode cX3_weightOf 21 = .ok (.ishr, 1) := by decide +kernel
theorem dX3_weightOf_22 : decode cX3_weightOf 22 = .ok (.iconst 1, 1) := by decide +kernel
theorem dX3_weightOf_23 : decode cX3_weightOf 23 = .ok (.iand, 1) := by decide +kernel
theorem dX3_weightOf_24 : decode cX3_weightOf 24 = .ok (.ifCond .eq 8, 3) := by decide +kernel
theorem dX3_weightOf_27 : decode cX3_weightOf 27 = .ok (.iload_n 2, 1) := by decide +kernel
theorem dX3_weightOf_28 : decode cX3_weightOf 28 = .ok (.i2l, 1) := by decide +kernel
theorem dX3_weightOf_29 : decode cX3_weightOf 29 = .ok (.goto 8, 3) := by decide +kernel
theorem dX3_weightOf_32 : decode cX3_weightOf 32 = .ok (.bipush 12, 2) := by decide +kernel
theorem dX3_weightOf_34 : decode cX3_weightOf 34 = .ok (.iload_n 2, 1) := by decide +kernel
theorem dX3_weightOf_35 : decode cX3_weightOf 35 = .ok (.isub, 1) := by decide +kernel
theorem dX3_weightOf_36 : decode cX3_weightOf 36 = .ok (.i2l, 1) := by decide +kernel
theorem dX3_weightOf_37 : decode cX3_weightOf 37 = .ok (.lmul, 1) := by decide +kernel
theorem dX3_weightOf_38 : decode cX3_weightOf 38 = .ok (.lstore_n 3, 1) := by decide +kernel
theorem dX3_weightOf_39 : decode cX3_weightOf 39 = .ok (.iinc 5 1, 3) := by decide +kernel
theorem dX3_weightOf_42 : decode cX3_weightOf 42 = .ok (.goto (-37), 3) := by decide +kernel
theorem dX3_weightOf_45 : decode cX3_weightOf 45 = .ok (.lload_n 3, 1) := by decide +kernel
theorem dX3_weightOf_46 : decode cX3_weightOf 46 = .ok (.lreturn, 1) := by decide +kernel
/-! X3_weightOf (II)J -/
abbrev rmX3_weightOf : Room := { frames := 0, cells := 0, slots := 0, locals := 0 }
theorem lkX3_weightOf_0 : Cond.fieldLink RX3 33 (TX3 5).1 (TX3 5).2.1 (TX3 5).2.2.1 ∈ wsX3_weightOf := by decide +kernel
theorem lkX3_weightOf_1 : Cond.fieldLink RX3 112 (TX0 1).1 (TX0 1).2.1 (TX0 1).2.2.1 ∈ wsX3_weightOf := by decide +kernel
theorem inX3_weightOf_X3 : ∀ w ∈ u_ws RX3 TX3 17, w ∈ wsX3_weightOf := by decide +kernel
theorem inX3_weightOf_X0 : ∀ w ∈ u_ws RX0 TX0 6, w ∈ wsX3_weightOf := by decide +kernel
noncomputable def fX3_weightOf_b37 (G : mm_G) (a0 : Nat) (x1 : Int32) (x2 : Int32) (x5 : Int32) (sy0 : Int64) (sy1 : Int64) (σ : mm_M) : Option ((Int64 × mm_M) ⊕ (Int64 × Int32 × mm_M)) := some (.inr (sy1 * sy0, x5 + 1, σ))
noncomputable def fX3_weightOf_b5 (G : mm_G) (a0 : Nat) (x1 : Int32) (x2 : Int32) (y3 : Int64) (x5 : Int32) (σ : mm_M) : Option ((Int64 × mm_M) ⊕ (Int64 × Int32 × mm_M)) := if x5 < (σ.1 (mm_R G a0 5) 1) then (fX3_weightOf_b37 G a0 x1 x2 x5 (if ((x1 >>> (x5 &&& 31)) &&& (1 : Int32)) = 0 then ((12 : Int32) - x2).toInt64 else x2.toInt64) y3 σ) else (some (.inl (y3, σ)))
noncomputable def fX3_weightOf_b0 (G : mm_G) (a0 : Nat) (x1 : Int32) (x2 : Int32) (σ : mm_M) : Option ((Int64 × mm_M) ⊕ (Int64 × Int32 × mm_M)) := some (.inr ((1 : Int64), (0 : Int32), σ))
noncomputable def fX3_weightOf_s (G : mm_G) (a0 : Nat) (x1 : Int32) (x2 : Int32) : (Int64 × Int32 × mm_M) → Option ((Int64 × mm_M) ⊕ (Int64 × Int32 × mm_M)) := (fun s => fX3_weightOf_b5 G a0 x1 x2 s.1 s.2.1 s.2.2)
def PX3_weightOf (E : mm_E) (G : mm_G) (a0 : Nat) (x1 : Int32) (x2 : Int32) (q : (Int64 × mm_M)) : (Int64 × Int32 × mm_M) → Prop := (fun s => mm_At E G 6 (mm_Ql E G q) s.2.2 5 [(0, .ref a0), (1, .int x1), (2, .int x2), (3, .long s.1), (5, .int s.2.1)] [])
noncomputable def fX3_weightOf (G : mm_G) (a0 : Nat) (x1 : Int32) (x2 : Int32) (σ : mm_M) : Option (Int64 × mm_M) := mm_run (fX3_weightOf_b0 G a0 x1 x2 σ) (fX3_weightOf_s G a0 x1 x2)
set_option maxHeartbeats 4000000 in
set_option maxRecDepth 100000 in
theorem wX3_weightOf_b37 {E : mm_E} {G : mm_G} (X : mm_Cx E G cX3_weightOf 6 RX3 wsX3_weightOf rmX3_weightOf (some .long)) {a0 : Nat} {x1 : Int32} {x2 : Int32} {x5 : Int32} {sy0 : Int64} {sy1 : Int64} {σ : mm_M} {q : (Int64 × mm_M)} (ha0 : mm_Is G 3 a0) {o : (Int64 × mm_M) ⊕ (Int64 × Int32 × mm_M)} (h : fX3_weightOf_b37 G a0 x1 x2 x5 sy0 sy1 σ = some o) (hk : mm_Ok q (PX3_weightOf E G a0 x1 x2 q) o) : mm_At E G 6 (mm_Ql E G q) σ 37 [(0, .ref a0), (1, .int x1), (2, .int x2), (5, .int x5)] [.long sy0, .long sy1] := by
  unfold fX3_weightOf_b37 at h
  refine at_lmul (pc := 37) X dX3_weightOf_37 ?_
  refine at_lstore_n (pc := 38) X 3 [(3, .long (sy1 * sy0)), (0, .ref a0), (1, .int x1), (2, .int x2), (5, .int x5)] dX3_weightOf_38 rfl (by decide) rfl ?_
  refine at_iinc (pc := 39) X 5 4 (x5 + 1) [(5, .int (x5 + 1)), (3, .long (sy1 * sy0)), (0, .ref a0), (1, .int x1), (2, .int x2)] dX3_weightOf_39 rfl (ii_1 _) (by decide) rfl ?_
  refine at_goto (pc := 42) X 5 dX3_weightOf_42 (by decide) ?_
  have h2 := mm_inr h hk; exact at_sub [2, 3, 4, 1, 0] rfl h2
set_option maxHeartbeats 4000000 in
set_option maxRecDepth 100000 in
theorem wX3_weightOf_b5 {E : mm_E} {G : mm_G} (X : mm_Cx E G cX3_weightOf 6 RX3 wsX3_weightOf rmX3_weightOf (some .long)) {a0 : Nat} {x1 : Int32} {x2 : Int32} {y3 : Int64} {x5 : Int32} {σ : mm_M} {q : (Int64 × mm_M)} (ha0 : mm_Is G 3 a0) {o : (Int64 × mm_M) ⊕ (Int64 × Int32 × mm_M)} (h : fX3_weightOf_b5 G a0 x1 x2 y3 x5 σ = some o) (hk : mm_Ok q (PX3_weightOf E G a0 x1 x2 q) o) : mm_At E G 6 (mm_Ql E G q) σ 5 [(0, .ref a0), (1, .int x1), (2, .int x2), (3, .long y3), (5, .int x5)] [] := by
  unfold fX3_weightOf_b5 at h
  refine at_iload (pc := 5) X 5 4 dX3_weightOf_5 rfl ?_
  refine at_aload_n (pc := 7) X 0 0 dX3_weightOf_7 rfl rfl ?_
  refine at_get (pc := 8) X 3 5 (.ref (mm_R G a0 5)) ha0 (by decide) rfl inX3_weightOf_X3 (by decide) lkX3_weightOf_0 rfl dX3_weightOf_8 ?_
  refine at_get (pc := 11) X 0 1 (.int (σ.1 (mm_R G a0 5) 1)) (wf_3_5 X.wf ha0) (by decide) rfl inX3_weightOf_X0 (by decide) lkX3_weightOf_1 rfl dX3_weightOf_11 ?_
  refine at_icmp_ge (pc := 14) X 45 dX3_weightOf_14 (by decide) (fun c14 => ?_) (fun c14 => ?_)
  · have h := mm_neg c14 h
    refine at_lload_n (pc := 45) X 3 3 dX3_weightOf_45 rfl rfl ?_
    exact at_lret (pc := 46) X (mm_inl h hk) dX3_weightOf_46
  · have h := mm_pos c14 h
    refine at_lload_n (pc := 17) X 3 3 dX3_weightOf_17 rfl rfl ?_
    refine at_iload_n (pc := 18) X 1 1 dX3_weightOf_18 rfl rfl ?_
    refine at_iload (pc := 19) X 5 4 dX3_weightOf_19 rfl ?_
    refine at_ishr (pc := 21) X dX3_weightOf_21 ?_
    refine at_iconst (pc := 22) X (1 : Int32) dX3_weightOf_22 ic_1 ?_
    refine at_iand (pc := 23) X dX3_weightOf_23 ?_
    have hj24 : mm_At E G 6 (mm_Ql E G q) σ 37 [(0, .ref a0), (1, .int x1), (2, .int x2), (5, .int x5)] [.long (if ((x1 >>> (x5 &&& 31)) &&& (1 : Int32)) = 0 then ((12 : Int32) - x2).toInt64 else x2.toInt64), .long y3] := by
      exact at_sub [0, 1, 2, 3] rfl (wX3_weightOf_b37 X ha0 h hk)
    refine at_if_eq (pc := 24) X 32 dX3_weightOf_24 (by decide) (fun c24 => ?_) (fun c24 => ?_)
    · try simp only [if_pos c24] at hj24
      refine at_bipush (pc := 32) X (12 : Int32) dX3_weightOf_32 ib_12 ?_
      refine at_iload_n (pc := 34) X 2 2 dX3_weightOf_34 rfl rfl ?_
      refine at_isub (pc := 35) X dX3_weightOf_35 ?_
      refine at_i2l (pc := 36) X dX3_weightOf_36 ?_
      exact at_sub [0, 1, 2, 4] rfl hj24
    · try simp only [if_neg c24] at hj24
      refine at_iload_n (pc := 27) X 2 2 dX3_weightOf_27 rfl rfl ?_
      refine at_i2l (pc := 28) X dX3_weightOf_28 ?_
      refine at_goto (pc := 29) X 37 dX3_weightOf_29 (by decide) ?_
      exact at_sub [0, 1, 2, 4] rfl hj24
set_option maxHeartbeats 4000000 in
set_option maxRecDepth 100000 in
theorem wX3_weightOf_b0 {E : mm_E} {G : mm_G} (X : mm_Cx E G cX3_weightOf 6 RX3 wsX3_weightOf rmX3_weightOf (some .long)) {a0 : Nat} {x1 : Int32} {x2 : Int32} {σ : mm_M} {q : (Int64 × mm_M)} (ha0 : mm_Is G 3 a0) {o : (Int64 × mm_M) ⊕ (Int64 × Int32 × mm_M)} (h : fX3_weightOf_b0 G a0 x1 x2 σ = some o) (hk : mm_Ok q (PX3_weightOf E G a0 x1 x2 q) o) : mm_At E G 6 (mm_Ql E G q) σ 0 [(0, .ref a0), (1, .int x1), (2, .int x2)] [] := by
  unfold fX3_weightOf_b0 at h
  refine at_lconst (pc := 0) X (1 : Int64) dX3_weightOf_0 (by decide) ?_
  refine at_lstore_n (pc := 1) X 3 [(3, .long (1 : Int64)), (0, .ref a0), (1, .int x1), (2, .int x2)] dX3_weightOf_1 rfl (by decide) rfl ?_
  refine at_iconst (pc := 2) X (0 : Int32) dX3_weightOf_2 ic_0 ?_
  refine at_istore (pc := 3) X 5 [(5, .int (0 : Int32)), (3, .long (1 : Int64)), (0, .ref a0), (1, .int x1), (2, .int x2)] dX3_weightOf_3 (by decide) rfl ?_
  have h2 := mm_inr h hk; exact at_sub [2, 3, 4, 1, 0] rfl h2
set_option maxHeartbeats 4000000 in
set_option maxRecDepth 100000 in
theorem mX3_weightOf (l : Launch) {G : mm_G} (hwf : mm_WF G) {a0 : Nat} {x1 : Int32} {x2 : Int32} {σ : mm_M} {q : (Int64 × mm_M)} (ha0 : mm_Is G 3 a0) (h : fX3_weightOf G a0 x1 x2 σ = some q) : mm_Ml l yX3_weightOf wsX3_weightOf rmX3_weightOf G [.ref a0, .int x1, .int x2] σ q := by
  refine mm_ofl (cc := cX3_weightOf) (nL := 6) (ret := some .long) (own := RX3) (lv0 := [(0, .ref a0), (1, .int x1), (2, .int x2)]) (by decide) rfl rfl (Nat.le_of_ble_eq_true rfl) rfl hwf (fun E hE X => ?_)
  obtain ⟨o, h0, hk⟩ := mm_run_ok (P := PX3_weightOf E G a0 x1 x2 q) h (fun s o hs hk => by exact wX3_weightOf_b5 X ha0 hs hk)
  exact wX3_weightOf_b0 X ha0 h0 hk
