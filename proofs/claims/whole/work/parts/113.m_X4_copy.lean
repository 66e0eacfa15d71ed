/-! X4_copy X4_mean X4_text X4_put X4_byteAt X4_skips X4_kindBy -/
set_option maxRecDepth 20000 in
theorem ggX4_copy_X4_isRow : GoodIn wsX4_copy wsX4_isRow := goodIn_r _ [7, 8, 9, 6, 10] (by decide +kernel) (by decide +kernel)
set_option maxRecDepth 20000 in
theorem gX4_copy_X4_isRow : GoodIn wsX4_copy (va_wsS RX4 77 yX4_isRow wsX4_isRow) := goodIn_app (goodIn_of _ (by decide +kernel)) ggX4_copy_X4_isRow
set_option maxRecDepth 20000 in
theorem ggX4_copy_X4_finds : GoodIn wsX4_copy wsX4_finds := goodIn_r _ [14, 15, 16, 21, 22, 23, 24, 25, 26, 27, 28, 29, 30, 31, 32, 33, 34, 35, 36, 37, 38, 39, 40, 41, 42] (by decide +kernel) (by decide +kernel)
set_option maxRecDepth 20000 in
theorem gX4_copy_X4_finds : GoodIn wsX4_copy (wsV RX4 81 RX4 yX4_finds wsX4_finds) := goodIn_app (goodIn_of _ (by decide +kernel)) ggX4_copy_X4_finds
set_option maxRecDepth 20000 in
theorem ggX4_copy_X4_lies : GoodIn wsX4_copy wsX4_lies := goodIn_r _ [20, 1, 21, 22, 23, 24, 25, 26, 27, 28, 29, 30, 31, 32, 33, 34, 35, 36, 37, 38, 39, 40, 41, 42] (by decide +kernel) (by decide +kernel)
set_option maxRecDepth 20000 in
theorem gX4_copy_X4_lies : GoodIn wsX4_copy (wsV RX4 92 RX4 yX4_lies wsX4_lies) := goodIn_app (goodIn_of _ (by decide +kernel)) ggX4_copy_X4_lies
theorem dX4_copy_0 : decode cX4_copy 0 = .ok (.iload_n 1, 1) := by decide +kernel
theorem dX4_copy_1 : decode cX4_copy 1 = .ok (.invokestatic 77, 3) := by decide +kernel
theorem dX4_copy_4 : decode cX4_copy 4 = .ok (.ifCond .eq 10, 3) := by decide +kernel
theorem dX4_copy_7 : decode cX4_copy 7 = .ok (.iload_n 3, 1) := by decide +kernel
theorem dX4_copy_8 : decode cX4_copy 8 = .ok (.invokestatic 77, 3) := by decide +kernel
theorem dX4_copy_11 : decode cX4_copy 11 = .ok (.ifCond .ne 5, 3) := by decide +kernel
theorem dX4_copy_14 : decode cX4_copy 14 = .ok (.iconst (-1), 1) := by decide +kernel
theorem dX4_copy_15 : decode cX4_copy 15 = .ok (.ireturn, 1) := by decide +kernel
theorem dX4_copy_16 : decode cX4_copy 16 = .ok (.iload 5, 2) := by decide +kernel
theorem dX4_copy_18 : decode cX4_copy 18 = .ok (.ifCond .ge 9, 3) := by decide +kernel
theorem dX4_copy_21 : decode cX4_copy 21 = .ok (.aload_n 0, 1) := by decide +kernel
theorem dX4_copy_22 : decode cX4_copy 22 = .ok (.iconst 5, 1) := by decide +kernel
theorem dX4_copy_23 : decode cX4_copy 23 = .ok (.invokevirtual 81, 3) := by decide +kernel
theorem dX4_copy_26 : decode cX4_copy 26 = .ok (.ireturn, 1) := by decide +kernel
theorem dX4_copy_27 : decode cX4_copy 27 = .ok (.aload_n 0, 1) := by decide +kernel
theorem dX4_copy_28 : decode cX4_copy 28 = .ok (.getfield 7, 3) := by decide +kernel
theorem dX4_copy_31 : decode cX4_copy 31 = .ok (.iload_n 1, 1) := by decide +kernel
theorem dX4_copy_32 : decode cX4_copy 32 = .ok (.iaload, 1) := by decide +kernel
theorem dX4_copy_33 : decode cX4_copy 33 = .ok (.ifCond .lt 12, 3) := by decide +kernel
theorem dX4_copy_36 : decode cX4_copy 36 = .ok (.aload_n 0, 1) := by decide +kernel
theorem dX4_copy_37 : decode cX4_copy 37 = .ok (.getfield 7, 3) := by decide +kernel
theorem dX4_copy_40 : decode cX4_copy 40 = .ok (.iload_n 3, 1) := by decide +kernel
theorem dX4_copy_41 : decode cX4_copy 41 = .ok (.iaload, 1) := by decide +kernel
theorem dX4_copy_42 : decode cX4_copy 42 = .ok (.ifCond .ge 9, 3) := by decide +kernel
theorem dX4_copy_45 : decode cX4_copy 45 = .ok (.aload_n 0, 1) := by decide +kernel
theorem dX4_copy_46 : decode cX4_copy 46 = .ok (.iconst 1, 1) := by decide +kernel
theorem dX4_copy_47 : decode cX4_copy 47 = .ok (.invokevirtual 81, 3) := by decide +kernel
theorem dX4_copy_50 : decode cX4_copy 50 = .ok (.ireturn, 1) := by decide +kernel
theorem dX4_copy_51 : decode cX4_copy 51 = .ok (.aload_n 0, 1) := by decide +kernel
theorem dX4_copy_52 : decode cX4_copy 52 = .ok (.iload_n 1, 1) := by decide +kernel
theorem dX4_copy_53 : decode cX4_copy 53 = .ok (.iload_n 2, 1) := by decide +kernel
theorem dX4_copy_54 : decode cX4_copy 54 = .ok (.iload 5, 2) := by decide +kernel
theorem dX4_copy_56 : decode cX4_copy 56 = .ok (.invokevirtual 92, 3) := by decide +kernel
theorem dX4_copy_59 : decode cX4_copy 59 = .ok (.ifCond .eq 15, 3) := by decide +kernel
theorem dX4_copy_62 : decode cX4_copy 62 = .ok (.aload_n 0, 1) := by decide +kernel
theorem dX4_copy_63 : decode cX4_copy 63 = .ok (.iload_n 3, 1) := by decide +kernel
theorem dX4_copy_64 : decode cX4_copy 64 = .ok (.iload 4, 2) := by decide +kernel
theorem dX4_copy_66 : decode cX4_copy 66 = .ok (.iload 5, 2) := by decide +kernel
theorem dX4_copy_68 : decode cX4_copy 68 = .ok (.invokevirtual 92, 3) := by decide +kernel
theorem dX4_copy_71 : decode cX4_copy 71 = .ok (.ifCond .ne 9, 3) := by decide +kernel
theorem dX4_copy_74 : decode cX4_copy 74 = .ok (.aload_n 0, 1) := by decide +kernel
theorem dX4_copy_75 : decode cX4_copy 75 = .ok (.iconst 2, 1) := by decide +kernel
theorem dX4_copy_76 : decode cX4_copy 76 = .ok (.invokevirtual 81, 3) := by decide +kernel
theorem dX4_copy_79 : decode cX4_copy 79 = .ok (.ireturn, 1) := by decide +kernel
theorem dX4_copy_80 : decode cX4_copy 80 = .ok (.iconst 0, 1) := by decide +kernel
theorem dX4_copy_81 : decode cX4_copy 81 = .ok (.istore 6, 2) := by decide +kernel
theorem dX4_copy_83 : decode cX4_copy 83 = .ok (.iload 6, 2) := by decide +kernel
theorem dX4_copy_85 : decode cX4_copy 85 = .ok (.iload 5, 2) := by decide +kernel
theorem dX4_copy_87 : decode cX4_copy 87 = .ok (.if_icmp .ge 30, 3) := by decide +kernel
theorem dX4_copy_90 : decode cX4_copy 90 = .ok (.aload_n 0, 1) := by decide +kernel
theorem dX4_copy_91 : decode cX4_copy 91 = .ok (.getfield 16, 3) := by decide +kernel
theorem dX4_copy_94 : decode cX4_copy 94 = .ok (.iload 6, 2) := by decide +kernel
theorem dX4_copy_96 : decode cX4_copy 96 = .ok (.aload_n 0, 1) := by decide +kernel
theorem dX4_copy_97 : decode cX4_copy 97 = .ok (.getfield 13, 3) := by decide +kernel
theorem dX4_copy_100 : decode cX4_copy 100 = .ok (.bipush 40, 2) := by decide +kernel
theorem dX4_copy_102 : decode cX4_copy 102 = .ok (.iload_n 1, 1) := by decide +kernel
theorem dX4_copy_103 : decode cX4_copy 103 = .ok (.imul, 1) := by decide +kernel
theorem dX4_copy_104 : decode cX4_copy 104 = .ok (.iload_n 2, 1) := by decide +kernel
theorem dX4_copy_105 : decode cX4_copy 105 = .ok (.iadd, 1) := by decide +kernel
theorem dX4_copy_106 : decode cX4_copy 106 = .ok (.iload 6, 2) := by decide +kernel
theorem dX4_copy_108 : decode cX4_copy 108 = .ok (.iadd, 1) := by decide +kernel
theorem dX4_copy_109 : decode cX4_copy 109 = .ok (.iaload, 1) := by decide +kernel
theorem dX4_copy_110 : decode cX4_copy 110 = .ok (.iastore, 1) := by decide +kernel
theorem dX4_copy_111 : decode cX4_copy 111 = .ok (.iinc 6 1, 3) := by decide +kernel
theorem dX4_copy_114 : decode cX4_copy 114 = .ok (.goto (-31), 3) := by decide +kernel
theorem dX4_copy_117 : decode cX4_copy 117 = .ok (.iconst 0, 1) := by decide +kernel
theorem dX4_copy_118 : decode cX4_copy 118 = .ok (.istore 6, 2) := by decide +kernel
theorem dX4_copy_120 : decode cX4_copy 120 = .ok (.iload 6, 2) := by decide +kernel
theorem dX4_copy_122 : decode cX4_copy 122 = .ok (.iload 5, 2) := by decide +kernel
theorem dX4_copy_124 : decode cX4_copy 124 = .ok (.if_icmp .ge 31, 3) := by decide +kernel
theorem dX4_copy_127 : decode cX4_copy 127 = .ok (.aload_n 0, 1) := by decide +kernel
theorem dX4_copy_128 : decode cX4_copy 128 = .ok (.getfield 13, 3) := by decide +kernel
theorem dX4_copy_131 : decode cX4_copy 131 = .ok (.bipush 40, 2) := by decide +kernel
theorem dX4_copy_133 : decode cX4_copy 133 = .ok (.iload_n 3, 1) := by decide +kernel
theorem dX4_copy_134 : decode cX4_copy 134 = .ok (.imul, 1) := by decide +kernel
theorem dX4_copy_135 : decode cX4_copy 135 = .ok (.iload 4, 2) := by decide +kernel
theorem dX4_copy_137 : decode cX4_copy 137 = .ok (.iadd, 1) := by decide +kernel
theorem dX4_copy_138 : decode cX4_copy 138 = .ok (.iload 6, 2) := by decide +kernel
theorem dX4_copy_140 : decode cX4_copy 140 = .ok (.iadd, 1) := by decide +kernel
theorem dX4_copy_141 : decode cX4_copy 141 = .ok (.aload_n 0, 1) := by decide +kernel
theorem dX4_copy_142 : decode cX4_copy 142 = .ok (.getfield 16, 3) := by decide +kernel
theorem dX4_copy_145 : decode cX4_copy 145 = .ok (.iload 6, 2) := by decide +kernel
theorem dX4_copy_147 : decode cX4_copy 147 = .ok (.iaload, 1) := by decide +kernel
theorem dX4_copy_148 : decode cX4_copy 148 = .ok (.iastore, 1) := by decide +kernel
theorem dX4_copy_149 : decode cX4_copy 149 = .ok (.iinc 6 1, 3) := by decide +kernel
theorem dX4_copy_152 : decode cX4_copy 152 = .ok (.goto (-32), 3) := by decide +kernel
theorem dX4_copy_155 : decode cX4_copy 155 = .ok (.iconst 1, 1) := by decide +kernel
theorem dX4_copy_156 : decode cX4_copy 156 = .ok (.ireturn, 1) := by decide +kernel
/-! X4_copy (IIIII)I -/
abbrev rmX4_copy : Room := { frames := 2, cells := 0, slots := 0, locals := 42 }
theorem lkX4_copy_0 : Cond.fieldLink RX4 7 (TX4 0).1 (TX4 0).2.1 (TX4 0).2.2.1 ∈ wsX4_copy := by decide +kernel
theorem lkX4_copy_1 : Cond.fieldLink RX4 13 (TX4 1).1 (TX4 1).2.1 (TX4 1).2.2.1 ∈ wsX4_copy := by decide +kernel
theorem lkX4_copy_2 : Cond.fieldLink RX4 16 (TX4 2).1 (TX4 2).2.1 (TX4 2).2.2.1 ∈ wsX4_copy := by decide +kernel
theorem inX4_copy_X4 : ∀ w ∈ u_ws RX4 TX4 22, w ∈ wsX4_copy := by decide +kernel
noncomputable def fX4_copy_b45 (G : mm_G) (a0 : Nat) (x1 : Int32) (x2 : Int32) (x3 : Int32) (x4 : Int32) (x5 : Int32) (σ : mm_M) : Option ((Int32 × mm_M) ⊕ ((Int32 × mm_M) ⊕ (Int32 × mm_M))) := (fX4_finds G a0 (1 : Int32) σ).bind (fun q47 => some (.inl (q47.1, q47.2)))
noncomputable def fX4_copy_b74 (G : mm_G) (a0 : Nat) (x1 : Int32) (x2 : Int32) (x3 : Int32) (x4 : Int32) (x5 : Int32) (σ : mm_M) : Option ((Int32 × mm_M) ⊕ ((Int32 × mm_M) ⊕ (Int32 × mm_M))) := (fX4_finds G a0 (2 : Int32) σ).bind (fun q76 => some (.inl (q76.1, q76.2)))
noncomputable def fX4_copy_b120 (G : mm_G) (a0 : Nat) (x1 : Int32) (x2 : Int32) (x3 : Int32) (x4 : Int32) (x5 : Int32) (x6 : Int32) (σ : mm_M) : Option ((Int32 × mm_M) ⊕ ((Int32 × mm_M) ⊕ (Int32 × mm_M))) := if x6 < x5 then (if x6 < 0 ∨ mm_N G (mm_R G a0 2) ≤ x6.toNatClampNeg then none else (if ((((40 : Int32) * x3) + x4) + x6) < 0 ∨ mm_N G (mm_R G a0 1) ≤ ((((40 : Int32) * x3) + x4) + x6).toNatClampNeg then none else (some (.inr (.inr (x6 + 1, mm_up σ (mm_R G a0 1) ((((40 : Int32) * x3) + x4) + x6).toNatClampNeg (σ.1 (mm_R G a0 2) x6.toNatClampNeg))))))) else (some (.inl ((1 : Int32), σ)))
noncomputable def fX4_copy_b83 (G : mm_G) (a0 : Nat) (x1 : Int32) (x2 : Int32) (x3 : Int32) (x4 : Int32) (x5 : Int32) (x6 : Int32) (σ : mm_M) : Option ((Int32 × mm_M) ⊕ ((Int32 × mm_M) ⊕ (Int32 × mm_M))) := if x6 < x5 then (if ((((40 : Int32) * x1) + x2) + x6) < 0 ∨ mm_N G (mm_R G a0 1) ≤ ((((40 : Int32) * x1) + x2) + x6).toNatClampNeg then none else (if x6 < 0 ∨ mm_N G (mm_R G a0 2) ≤ x6.toNatClampNeg then none else (some (.inr (.inl (x6 + 1, mm_up σ (mm_R G a0 2) x6.toNatClampNeg (σ.1 (mm_R G a0 1) ((((40 : Int32) * x1) + x2) + x6).toNatClampNeg))))))) else (some (.inr (.inr ((0 : Int32), σ))))
noncomputable def fX4_copy_b0 (G : mm_G) (a0 : Nat) (x1 : Int32) (x2 : Int32) (x3 : Int32) (x4 : Int32) (x5 : Int32) (σ : mm_M) : Option ((Int32 × mm_M) ⊕ ((Int32 × mm_M) ⊕ (Int32 × mm_M))) := (fX4_isRow G x1 σ).bind (fun q1 => if q1.1 = 0 then (some (.inl ((-1 : Int32), q1.2))) else ((fX4_isRow G x3 q1.2).bind (fun q8 => if q8.1 = 0 then (some (.inl ((-1 : Int32), q8.2))) else (if x5 < 0 then ((fX4_finds G a0 (5 : Int32) q8.2).bind (fun q23 => some (.inl (q23.1, q23.2)))) else (if x1 < 0 ∨ mm_N G (mm_R G a0 0) ≤ x1.toNatClampNeg then none else (if (q8.2.1 (mm_R G a0 0) x1.toNatClampNeg) < 0 then (fX4_copy_b45 G a0 x1 x2 x3 x4 x5 q8.2) else (if x3 < 0 ∨ mm_N G (mm_R G a0 0) ≤ x3.toNatClampNeg then none else (if (q8.2.1 (mm_R G a0 0) x3.toNatClampNeg) < 0 then (fX4_copy_b45 G a0 x1 x2 x3 x4 x5 q8.2) else ((fX4_lies G a0 x1 x2 x5 q8.2).bind (fun q56 => if q56.1 = 0 then (fX4_copy_b74 G a0 x1 x2 x3 x4 x5 q56.2) else ((fX4_lies G a0 x3 x4 x5 q56.2).bind (fun q68 => if q68.1 = 0 then (fX4_copy_b74 G a0 x1 x2 x3 x4 x5 q68.2) else (some (.inr (.inl ((0 : Int32), q68.2))))))))))))))))
noncomputable def fX4_copy_s (G : mm_G) (a0 : Nat) (x1 : Int32) (x2 : Int32) (x3 : Int32) (x4 : Int32) (x5 : Int32) : ((Int32 × mm_M) ⊕ (Int32 × mm_M)) → Option ((Int32 × mm_M) ⊕ ((Int32 × mm_M) ⊕ (Int32 × mm_M))) := (Sum.elim (fun s => fX4_copy_b83 G a0 x1 x2 x3 x4 x5 s.1 s.2) (fun s => fX4_copy_b120 G a0 x1 x2 x3 x4 x5 s.1 s.2))
def PX4_copy (E : mm_E) (G : mm_G) (a0 : Nat) (x1 : Int32) (x2 : Int32) (x3 : Int32) (x4 : Int32) (x5 : Int32) (q : (Int32 × mm_M)) : ((Int32 × mm_M) ⊕ (Int32 × mm_M)) → Prop := (Sum.elim (fun s => mm_At E G 7 (mm_Qi E G q) s.2 83 [(0, .ref a0), (1, .int x1), (2, .int x2), (3, .int x3), (4, .int x4), (5, .int x5), (6, .int s.1)] []) (fun s => mm_At E G 7 (mm_Qi E G q) s.2 120 [(0, .ref a0), (3, .int x3), (4, .int x4), (5, .int x5), (6, .int s.1)] []))
noncomputable def fX4_copy (G : mm_G) (a0 : Nat) (x1 : Int32) (x2 : Int32) (x3 : Int32) (x4 : Int32) (x5 : Int32) (σ : mm_M) : Option (Int32 × mm_M) := mm_run (fX4_copy_b0 G a0 x1 x2 x3 x4 x5 σ) (fX4_copy_s G a0 x1 x2 x3 x4 x5)
set_option maxHeartbeats 4000000 in
set_option maxRecDepth 100000 in
theorem wX4_copy_b45 {E : mm_E} {G : mm_G} (X : mm_Cx E G cX4_copy 7 RX4 wsX4_copy rmX4_copy (some .int)) {a0 : Nat} {x1 : Int32} {x2 : Int32} {x3 : Int32} {x4 : Int32} {x5 : Int32} {σ : mm_M} {q : (Int32 × mm_M)} (ha0 : mm_Is G 4 a0) {o : (Int32 × mm_M) ⊕ ((Int32 × mm_M) ⊕ (Int32 × mm_M))} (h : fX4_copy_b45 G a0 x1 x2 x3 x4 x5 σ = some o) (hk : mm_Ok q (PX4_copy E G a0 x1 x2 x3 x4 x5 q) o) : mm_At E G 7 (mm_Qi E G q) σ 45 [(0, .ref a0)] [] := by
  unfold fX4_copy_b45 at h
  refine at_aload_n (pc := 45) X 0 0 dX4_copy_45 rfl rfl ?_
  refine at_iconst (pc := 46) X (1 : Int32) dX4_copy_46 ic_1 ?_
  obtain ⟨q47, hq47, h⟩ := mm_bind h
  refine at_calli (n := 1) (pc := 47) X 4 [.int (1 : Int32)] [] (mX4_finds (eL E) X.wf ha0 hq47) gX4_copy_X4_finds rfl ⟨rfl, rfl⟩ (by decide +kernel) ⟨by decide, by decide⟩ (by decide) rfl ha0 rfl rfl (Nat.le_of_ble_eq_true rfl) dX4_copy_47 ?_
  exact at_iret (pc := 50) X (mm_inl h hk) dX4_copy_50
set_option maxHeartbeats 4000000 in
set_option maxRecDepth 100000 in
theorem wX4_copy_b74 {E : mm_E} {G : mm_G} (X : mm_Cx E G cX4_copy 7 RX4 wsX4_copy rmX4_copy (some .int)) {a0 : Nat} {x1 : Int32} {x2 : Int32} {x3 : Int32} {x4 : Int32} {x5 : Int32} {σ : mm_M} {q : (Int32 × mm_M)} (ha0 : mm_Is G 4 a0) {o : (Int32 × mm_M) ⊕ ((Int32 × mm_M) ⊕ (Int32 × mm_M))} (h : fX4_copy_b74 G a0 x1 x2 x3 x4 x5 σ = some o) (hk : mm_Ok q (PX4_copy E G a0 x1 x2 x3 x4 x5 q) o) : mm_At E G 7 (mm_Qi E G q) σ 74 [(0, .ref a0)] [] := by
  unfold fX4_copy_b74 at h
  refine at_aload_n (pc := 74) X 0 0 dX4_copy_74 rfl rfl ?_
  refine at_iconst (pc := 75) X (2 : Int32) dX4_copy_75 ic_2 ?_
  obtain ⟨q76, hq76, h⟩ := mm_bind h
  refine at_calli (n := 1) (pc := 76) X 4 [.int (2 : Int32)] [] (mX4_finds (eL E) X.wf ha0 hq76) gX4_copy_X4_finds rfl ⟨rfl, rfl⟩ (by decide +kernel) ⟨by decide, by decide⟩ (by decide) rfl ha0 rfl rfl (Nat.le_of_ble_eq_true rfl) dX4_copy_76 ?_
  exact at_iret (pc := 79) X (mm_inl h hk) dX4_copy_79
set_option maxHeartbeats 4000000 in
set_option maxRecDepth 100000 in
theorem wX4_copy_b120 {E : mm_E} {G : mm_G} (X : mm_Cx E G cX4_copy 7 RX4 wsX4_copy rmX4_copy (some .int)) {a0 : Nat} {x1 : Int32} {x2 : Int32} {x3 : Int32} {x4 : Int32} {x5 : Int32} {x6 : Int32} {σ : mm_M} {q : (Int32 × mm_M)} (ha0 : mm_Is G 4 a0) {o : (Int32 × mm_M) ⊕ ((Int32 × mm_M) ⊕ (Int32 × mm_M))} (h : fX4_copy_b120 G a0 x1 x2 x3 x4 x5 x6 σ = some o) (hk : mm_Ok q (PX4_copy E G a0 x1 x2 x3 x4 x5 q) o) : mm_At E G 7 (mm_Qi E G q) σ 120 [(0, .ref a0), (3, .int x3), (4, .int x4), (5, .int x5), (6, .int x6)] [] := by
  unfold fX4_copy_b120 at h
  refine at_iload (pc := 120) X 6 4 dX4_copy_120 rfl ?_
  refine at_iload (pc := 122) X 5 3 dX4_copy_122 rfl ?_
  refine at_icmp_ge (pc := 124) X 155 dX4_copy_124 (by decide) (fun c124 => ?_) (fun c124 => ?_)
  · have h := mm_neg c124 h
    refine at_iconst (pc := 155) X (1 : Int32) dX4_copy_155 ic_1 ?_
    exact at_iret (pc := 156) X (mm_inl h hk) dX4_copy_156
  · have h := mm_pos c124 h
    refine at_aload_n (pc := 127) X 0 0 dX4_copy_127 rfl rfl ?_
    refine at_get (pc := 128) X 4 1 (.ref (mm_R G a0 1)) ha0 (by decide) rfl inX4_copy_X4 (by decide) lkX4_copy_1 rfl dX4_copy_128 ?_
    refine at_bipush (pc := 131) X (40 : Int32) dX4_copy_131 ib_40 ?_
    refine at_iload_n (pc := 133) X 3 1 dX4_copy_133 rfl rfl ?_
    refine at_imul (pc := 134) X dX4_copy_134 ?_
    refine at_iload (pc := 135) X 4 2 dX4_copy_135 rfl ?_
    refine at_iadd (pc := 137) X dX4_copy_137 ?_
    refine at_iload (pc := 138) X 6 4 dX4_copy_138 rfl ?_
    refine at_iadd (pc := 140) X dX4_copy_140 ?_
    refine at_aload_n (pc := 141) X 0 0 dX4_copy_141 rfl rfl ?_
    refine at_get (pc := 142) X 4 2 (.ref (mm_R G a0 2)) ha0 (by decide) rfl inX4_copy_X4 (by decide) lkX4_copy_2 rfl dX4_copy_142 ?_
    refine at_iload (pc := 145) X 6 4 dX4_copy_145 rfl ?_
    obtain ⟨hc147, h⟩ := mm_chk h
    refine at_iald (pc := 147) X (wf_4_2 X.wf ha0) hc147 dX4_copy_147 ?_
    obtain ⟨hc148, h⟩ := mm_chk h
    refine at_iast (pc := 148) X (wf_4_1 X.wf ha0) hc148 dX4_copy_148 ?_
    refine at_iinc (pc := 149) X 6 4 (x6 + 1) [(6, .int (x6 + 1)), (0, .ref a0), (3, .int x3), (4, .int x4), (5, .int x5)] dX4_copy_149 rfl (ii_1 _) (by decide) rfl ?_
    refine at_goto (pc := 152) X 120 dX4_copy_152 (by decide) ?_
    have h2 := mm_inr h hk; exact at_sub [1, 2, 3, 4, 0] rfl h2
set_option maxHeartbeats 4000000 in
set_option maxRecDepth 100000 in
theorem wX4_copy_b83 {E : mm_E} {G : mm_G} (X : mm_Cx E G cX4_copy 7 RX4 wsX4_copy rmX4_copy (some .int)) {a0 : Nat} {x1 : Int32} {x2 : Int32} {x3 : Int32} {x4 : Int32} {x5 : Int32} {x6 : Int32} {σ : mm_M} {q : (Int32 × mm_M)} (ha0 : mm_Is G 4 a0) {o : (Int32 × mm_M) ⊕ ((Int32 × mm_M) ⊕ (Int32 × mm_M))} (h : fX4_copy_b83 G a0 x1 x2 x3 x4 x5 x6 σ = some o) (hk : mm_Ok q (PX4_copy E G a0 x1 x2 x3 x4 x5 q) o) : mm_At E G 7 (mm_Qi E G q) σ 83 [(0, .ref a0), (1, .int x1), (2, .int x2), (3, .int x3), (4, .int x4), (5, .int x5), (6, .int x6)] [] := by
  unfold fX4_copy_b83 at h
  refine at_iload (pc := 83) X 6 6 dX4_copy_83 rfl ?_
  refine at_iload (pc := 85) X 5 5 dX4_copy_85 rfl ?_
  refine at_icmp_ge (pc := 87) X 117 dX4_copy_87 (by decide) (fun c87 => ?_) (fun c87 => ?_)
  · have h := mm_neg c87 h
    refine at_iconst (pc := 117) X (0 : Int32) dX4_copy_117 ic_0 ?_
    refine at_istore (pc := 118) X 6 [(6, .int (0 : Int32)), (0, .ref a0), (1, .int x1), (2, .int x2), (3, .int x3), (4, .int x4), (5, .int x5)] dX4_copy_118 (by decide) rfl ?_
    have h2 := mm_inr h hk; exact at_sub [1, 4, 5, 6, 0] rfl h2
  · have h := mm_pos c87 h
    refine at_aload_n (pc := 90) X 0 0 dX4_copy_90 rfl rfl ?_
    refine at_get (pc := 91) X 4 2 (.ref (mm_R G a0 2)) ha0 (by decide) rfl inX4_copy_X4 (by decide) lkX4_copy_2 rfl dX4_copy_91 ?_
    refine at_iload (pc := 94) X 6 6 dX4_copy_94 rfl ?_
    refine at_aload_n (pc := 96) X 0 0 dX4_copy_96 rfl rfl ?_
    refine at_get (pc := 97) X 4 1 (.ref (mm_R G a0 1)) ha0 (by decide) rfl inX4_copy_X4 (by decide) lkX4_copy_1 rfl dX4_copy_97 ?_
    refine at_bipush (pc := 100) X (40 : Int32) dX4_copy_100 ib_40 ?_
    refine at_iload_n (pc := 102) X 1 1 dX4_copy_102 rfl rfl ?_
    refine at_imul (pc := 103) X dX4_copy_103 ?_
    refine at_iload_n (pc := 104) X 2 2 dX4_copy_104 rfl rfl ?_
    refine at_iadd (pc := 105) X dX4_copy_105 ?_
    refine at_iload (pc := 106) X 6 6 dX4_copy_106 rfl ?_
    refine at_iadd (pc := 108) X dX4_copy_108 ?_
    obtain ⟨hc109, h⟩ := mm_chk h
    refine at_iald (pc := 109) X (wf_4_1 X.wf ha0) hc109 dX4_copy_109 ?_
    obtain ⟨hc110, h⟩ := mm_chk h
    refine at_iast (pc := 110) X (wf_4_2 X.wf ha0) hc110 dX4_copy_110 ?_
    refine at_iinc (pc := 111) X 6 6 (x6 + 1) [(6, .int (x6 + 1)), (0, .ref a0), (1, .int x1), (2, .int x2), (3, .int x3), (4, .int x4), (5, .int x5)] dX4_copy_111 rfl (ii_1 _) (by decide) rfl ?_
    refine at_goto (pc := 114) X 83 dX4_copy_114 (by decide) ?_
    have h2 := mm_inr h hk; exact at_sub [1, 2, 3, 4, 5, 6, 0] rfl h2
set_option maxHeartbeats 4000000 in
set_option maxRecDepth 100000 in
theorem wX4_copy_b0 {E : mm_E} {G : mm_G} (X : mm_Cx E G cX4_copy 7 RX4 wsX4_copy rmX4_copy (some .int)) {a0 : Nat} {x1 : Int32} {x2 : Int32} {x3 : Int32} {x4 : Int32} {x5 : Int32} {σ : mm_M} {q : (Int32 × mm_M)} (ha0 : mm_Is G 4 a0) {o : (Int32 × mm_M) ⊕ ((Int32 × mm_M) ⊕ (Int32 × mm_M))} (h : fX4_copy_b0 G a0 x1 x2 x3 x4 x5 σ = some o) (hk : mm_Ok q (PX4_copy E G a0 x1 x2 x3 x4 x5 q) o) : mm_At E G 7 (mm_Qi E G q) σ 0 [(0, .ref a0), (1, .int x1), (2, .int x2), (3, .int x3), (4, .int x4), (5, .int x5)] [] := by
  unfold fX4_copy_b0 at h
  refine at_iload_n (pc := 0) X 1 1 dX4_copy_0 rfl rfl ?_
  obtain ⟨q1, hq1, h⟩ := mm_bind h
  refine at_scalli (n := 1) (pc := 1) X [.int x1] [] (mX4_isRow (eL E) X.wf hq1) gX4_copy_X4_isRow rfl ⟨rfl, rfl⟩ (by decide +kernel) ⟨by decide, by decide⟩ rfl rfl (Nat.le_of_ble_eq_true rfl) dX4_copy_1 ?_
  refine at_if_eq (pc := 4) X 14 dX4_copy_4 (by decide) (fun c4 => ?_) (fun c4 => ?_)
  · have h := mm_pos c4 h
    refine at_iconst (pc := 14) X (-1 : Int32) dX4_copy_14 ic_m1 ?_
    exact at_iret (pc := 15) X (mm_inl h hk) dX4_copy_15
  · have h := mm_neg c4 h
    refine at_iload_n (pc := 7) X 3 3 dX4_copy_7 rfl rfl ?_
    obtain ⟨q8, hq8, h⟩ := mm_bind h
    refine at_scalli (n := 1) (pc := 8) X [.int x3] [] (mX4_isRow (eL E) X.wf hq8) gX4_copy_X4_isRow rfl ⟨rfl, rfl⟩ (by decide +kernel) ⟨by decide, by decide⟩ rfl rfl (Nat.le_of_ble_eq_true rfl) dX4_copy_8 ?_
    refine at_if_ne (pc := 11) X 16 dX4_copy_11 (by decide) (fun c11 => ?_) (fun c11 => ?_)
    · have h := mm_neg c11 h
      refine at_iload (pc := 16) X 5 5 dX4_copy_16 rfl ?_
      refine at_if_ge (pc := 18) X 27 dX4_copy_18 (by decide) (fun c18 => ?_) (fun c18 => ?_)
      · have h := mm_neg c18 h
        refine at_aload_n (pc := 27) X 0 0 dX4_copy_27 rfl rfl ?_
        refine at_get (pc := 28) X 4 0 (.ref (mm_R G a0 0)) ha0 (by decide) rfl inX4_copy_X4 (by decide) lkX4_copy_0 rfl dX4_copy_28 ?_
        refine at_iload_n (pc := 31) X 1 1 dX4_copy_31 rfl rfl ?_
        obtain ⟨hc32, h⟩ := mm_chk h
        refine at_iald (pc := 32) X (wf_4_0 X.wf ha0) hc32 dX4_copy_32 ?_
        refine at_if_lt (pc := 33) X 45 dX4_copy_33 (by decide) (fun c33 => ?_) (fun c33 => ?_)
        · have h := mm_pos c33 h
          exact at_sub [0] rfl (wX4_copy_b45 X ha0 h hk)
        · have h := mm_neg c33 h
          refine at_aload_n (pc := 36) X 0 0 dX4_copy_36 rfl rfl ?_
          refine at_get (pc := 37) X 4 0 (.ref (mm_R G a0 0)) ha0 (by decide) rfl inX4_copy_X4 (by decide) lkX4_copy_0 rfl dX4_copy_37 ?_
          refine at_iload_n (pc := 40) X 3 3 dX4_copy_40 rfl rfl ?_
          obtain ⟨hc41, h⟩ := mm_chk h
          refine at_iald (pc := 41) X (wf_4_0 X.wf ha0) hc41 dX4_copy_41 ?_
          refine at_if_ge (pc := 42) X 51 dX4_copy_42 (by decide) (fun c42 => ?_) (fun c42 => ?_)
          · have h := mm_neg c42 h
            refine at_aload_n (pc := 51) X 0 0 dX4_copy_51 rfl rfl ?_
            refine at_iload_n (pc := 52) X 1 1 dX4_copy_52 rfl rfl ?_
            refine at_iload_n (pc := 53) X 2 2 dX4_copy_53 rfl rfl ?_
            refine at_iload (pc := 54) X 5 5 dX4_copy_54 rfl ?_
            obtain ⟨q56, hq56, h⟩ := mm_bind h
            refine at_calli (n := 3) (pc := 56) X 4 [.int x1, .int x2, .int x5] [] (mX4_lies (eL E) X.wf ha0 hq56) gX4_copy_X4_lies rfl ⟨rfl, rfl⟩ (by decide +kernel) ⟨by decide, by decide⟩ (by decide) rfl ha0 rfl rfl (Nat.le_of_ble_eq_true rfl) dX4_copy_56 ?_
            refine at_if_eq (pc := 59) X 74 dX4_copy_59 (by decide) (fun c59 => ?_) (fun c59 => ?_)
            · have h := mm_pos c59 h
              exact at_sub [0] rfl (wX4_copy_b74 X ha0 h hk)
            · have h := mm_neg c59 h
              refine at_aload_n (pc := 62) X 0 0 dX4_copy_62 rfl rfl ?_
              refine at_iload_n (pc := 63) X 3 3 dX4_copy_63 rfl rfl ?_
              refine at_iload (pc := 64) X 4 4 dX4_copy_64 rfl ?_
              refine at_iload (pc := 66) X 5 5 dX4_copy_66 rfl ?_
              obtain ⟨q68, hq68, h⟩ := mm_bind h
              refine at_calli (n := 3) (pc := 68) X 4 [.int x3, .int x4, .int x5] [] (mX4_lies (eL E) X.wf ha0 hq68) gX4_copy_X4_lies rfl ⟨rfl, rfl⟩ (by decide +kernel) ⟨by decide, by decide⟩ (by decide) rfl ha0 rfl rfl (Nat.le_of_ble_eq_true rfl) dX4_copy_68 ?_
              refine at_if_ne (pc := 71) X 80 dX4_copy_71 (by decide) (fun c71 => ?_) (fun c71 => ?_)
              · have h := mm_neg c71 h
                refine at_iconst (pc := 80) X (0 : Int32) dX4_copy_80 ic_0 ?_
                refine at_istore (pc := 81) X 6 [(6, .int (0 : Int32)), (0, .ref a0), (1, .int x1), (2, .int x2), (3, .int x3), (4, .int x4), (5, .int x5)] dX4_copy_81 (by decide) rfl ?_
                have h2 := mm_inr h hk; exact at_sub [1, 2, 3, 4, 5, 6, 0] rfl h2
              · have h := mm_pos c71 h
                exact at_sub [0] rfl (wX4_copy_b74 X ha0 h hk)
          · have h := mm_pos c42 h
            exact at_sub [0] rfl (wX4_copy_b45 X ha0 h hk)
      · have h := mm_pos c18 h
        refine at_aload_n (pc := 21) X 0 0 dX4_copy_21 rfl rfl ?_
        refine at_iconst (pc := 22) X (5 : Int32) dX4_copy_22 ic_5 ?_
        obtain ⟨q23, hq23, h⟩ := mm_bind h
        refine at_calli (n := 1) (pc := 23) X 4 [.int (5 : Int32)] [] (mX4_finds (eL E) X.wf ha0 hq23) gX4_copy_X4_finds rfl ⟨rfl, rfl⟩ (by decide +kernel) ⟨by decide, by decide⟩ (by decide) rfl ha0 rfl rfl (Nat.le_of_ble_eq_true rfl) dX4_copy_23 ?_
        exact at_iret (pc := 26) X (mm_inl h hk) dX4_copy_26
    · have h := mm_pos c11 h
      refine at_iconst (pc := 14) X (-1 : Int32) dX4_copy_14 ic_m1 ?_
      exact at_iret (pc := 15) X (mm_inl h hk) dX4_copy_15
set_option maxHeartbeats 4000000 in
set_option maxRecDepth 100000 in
theorem mX4_copy (l : Launch) {G : mm_G} (hwf : mm_WF G) {a0 : Nat} {x1 : Int32} {x2 : Int32} {x3 : Int32} {x4 : Int32} {x5 : Int32} {σ : mm_M} {q : (Int32 × mm_M)} (ha0 : mm_Is G 4 a0) (h : fX4_copy G a0 x1 x2 x3 x4 x5 σ = some q) : mm_Mi l yX4_copy wsX4_copy rmX4_copy G [.ref a0, .int x1, .int x2, .int x3, .int x4, .int x5] σ q := by
  refine mm_ofi (cc := cX4_copy) (nL := 7) (ret := some .int) (own := RX4) (lv0 := [(0, .ref a0), (1, .int x1), (2, .int x2), (3, .int x3), (4, .int x4), (5, .int x5)]) (by decide) rfl rfl (Nat.le_of_ble_eq_true rfl) rfl hwf (fun E hE X => ?_)
  obtain ⟨o, h0, hk⟩ := mm_run_ok (P := PX4_copy E G a0 x1 x2 x3 x4 x5 q) h (fun s o hs hk => by cases s with | inl s => exact wX4_copy_b83 X ha0 hs hk | inr s => (exact wX4_copy_b120 X ha0 hs hk))
  exact wX4_copy_b0 X ha0 h0 hk
set_option maxRecDepth 20000 in
theorem ggX4_mean_X4_isRow : GoodIn wsX4_mean wsX4_isRow := goodIn_r _ [6, 7, 8, 5, 9] (by decide +kernel) (by decide +kernel)
set_option maxRecDepth 20000 in
theorem gX4_mean_X4_isRow : GoodIn wsX4_mean (va_wsS RX4 77 yX4_isRow wsX4_isRow) := goodIn_app (goodIn_of _ (by decide +kernel)) ggX4_mean_X4_isRow
set_option maxRecDepth 20000 in
theorem ggX4_mean_X4_finds : GoodIn wsX4_mean wsX4_finds := goodIn_r _ [13, 14, 15, 21, 22, 23, 24, 25, 26, 27, 28, 29, 30, 31, 32, 33, 34, 35, 36, 37, 38, 39, 40, 41, 42] (by decide +kernel) (by decide +kernel)
set_option maxRecDepth 20000 in
theorem gX4_mean_X4_finds : GoodIn wsX4_mean (wsV RX4 81 RX4 yX4_finds wsX4_finds) := goodIn_app (goodIn_of _ (by decide +kernel)) ggX4_mean_X4_finds
set_option maxRecDepth 20000 in
theorem ggX4_mean_X4_tells : GoodIn wsX4_mean wsX4_tells := goodIn_r _ [19, 20, 21, 22, 23, 24, 25, 26, 27, 28, 29, 30, 31, 32, 33, 34, 35, 36, 37, 38, 39, 40, 41, 42] (by decide +kernel) (by decide +kernel)
set_option maxRecDepth 20000 in
theorem gX4_mean_X4_tells : GoodIn wsX4_mean (wsV RX4 89 RX4 yX4_tells wsX4_tells) := goodIn_app (goodIn_of _ (by decide +kernel)) ggX4_mean_X4_tells
theorem dX4_mean_0 : decode cX4_mean 0 = .ok (.iload_n 1, 1) := by decide +kernel
theorem dX4_mean_1 : decode cX4_mean 1 = .ok (.invokestatic 77, 3) := by decide +kernel
theorem dX4_mean_4 : decode cX4_mean 4 = .ok (.ifCond .ne 5, 3) := by decide +kernel
theorem dX4_mean_7 : decode cX4_mean 7 = .ok (.iconst (-1), 1) := by decide +kernel
theorem dX4_mean_8 : decode cX4_mean 8 = .ok (.ireturn, 1) := by decide +kernel
theorem dX4_mean_9 : decode cX4_mean 9 = .ok (.aload_n 0, 1) := by decide +kernel
theorem dX4_mean_10 : decode cX4_mean 10 = .ok (.getfield 7, 3) := by decide +kernel
theorem dX4_mean_13 : decode cX4_mean 13 = .ok (.iload_n 1, 1) := by decide +kernel
theorem dX4_mean_14 : decode cX4_mean 14 = .ok (.iaload, 1) := by decide +kernel
theorem dX4_mean_15 : decode cX4_mean 15 = .ok (.ifCond .ge 9, 3) := by decide +kernel
theorem dX4_mean_18 : decode cX4_mean 18 = .ok (.aload_n 0, 1) := by decide +kernel
theorem dX4_mean_19 : decode cX4_mean 19 = .ok (.iconst 1, 1) := by decide +kernel
theorem dX4_mean_20 : decode cX4_mean 20 = .ok (.invokevirtual 81, 3) := by decide +kernel
theorem dX4_mean_23 : decode cX4_mean 23 = .ok (.ireturn, 1) := by decide +kernel
theorem dX4_mean_24 : decode cX4_mean 24 = .ok (.aload_n 0, 1) := by decide +kernel
theorem dX4_mean_25 : decode cX4_mean 25 = .ok (.getfield 7, 3) := by decide +kernel
theorem dX4_mean_28 : decode cX4_mean 28 = .ok (.iload_n 1, 1) := by decide +kernel
theorem dX4_mean_29 : decode cX4_mean 29 = .ok (.iaload, 1) := by decide +kernel
theorem dX4_mean_30 : decode cX4_mean 30 = .ok (.ifCond .ne 9, 3) := by decide +kernel
theorem dX4_mean_33 : decode cX4_mean 33 = .ok (.aload_n 0, 1) := by decide +kernel
theorem dX4_mean_34 : decode cX4_mean 34 = .ok (.iconst 4, 1) := by decide +kernel
theorem dX4_mean_35 : decode cX4_mean 35 = .ok (.invokevirtual 81, 3) := by decide +kernel
theorem dX4_mean_38 : decode cX4_mean 38 = .ok (.ireturn, 1) := by decide +kernel
theorem dX4_mean_39 : decode cX4_mean 39 = .ok (.lconst 0, 1) := by decide +kernel
theorem dX4_mean_40 : decode cX4_mean 40 = .ok (.lstore_n 2, 1) := by decide +kernel
theorem dX4_mean_41 : decode cX4_mean 41 = .ok (.iconst 0, 1) := by decide +kernel
theorem dX4_mean_42 : decode cX4_mean 42 = .ok (.istore 4, 2) := by decide +kernel
theorem dX4_mean_44 : decode cX4_mean 44 = .ok (.iload 4, 2) := by decide +kernel
theorem dX4_mean_46 : decode cX4_mean 46 = .ok (.aload_n 0, 1) := by decide +kernel
theorem dX4_mean_47 : decode cX4_mean 47 = .ok (.getfield 7, 3) := by decide +kernel
theorem dX4_mean_50 : decode cX4_mean 50 = .ok (.iload_n 1, 1) := by decide +kernel
theorem dX4_mean_51 : decode cX4_mean 51 = .ok (.iaload, 1) := by decide +kernel
theorem dX4_mean_52 : decode cX4_mean 52 = .ok (.if_icmp .ge 25, 3) := by decide +kernel
theorem dX4_mean_55 : decode cX4_mean 55 = .ok (.lload_n 2, 1) := by decide +kernel
theorem dX4_mean_56 : decode cX4_mean 56 = .ok (.aload_n 0, 1) := by decide +kernel
theorem dX4_mean_57 : decode cX4_mean 57 = .ok (.getfield 13, 3) := by decide +kernel
theorem dX4_mean_60 : decode cX4_mean 60 = .ok (.bipush 40, 2) := by decide +kernel
theorem dX4_mean_62 : decode cX4_mean 62 = .ok (.iload_n 1, 1) := by decide +kernel
theorem dX4_mean_63 : decode cX4_mean 63 = .ok (.imul, 1) := by decide +kernel
theorem dX4_mean_64 : decode cX4_mean 64 = .ok (.iload 4, 2) := by decide +kernel
theorem dX4_mean_66 : decode cX4_mean 66 = .ok (.iadd, 1) := by decide +kernel
theorem dX4_mean_67 : decode cX4_mean 67 = .ok (.iaload, 1) := by decide +kernel
theorem dX4_mean_68 : decode cX4_mean 68 = .ok (.i2l, 1) := by decide +kernel
theorem dX4_mean_69 : decode cX4_mean 69 = .ok (.ladd, 1) := by decide +kernel
theorem dX4_mean_70 : decode cX4_mean 70 = .ok (.lstore_n 2, 1) := by decide +kernel
theorem dX4_mean_71 : decode cX4_mean 71 = .ok (.iinc 4 1, 3) := by decide +kernel
theorem dX4_mean_74 : decode cX4_mean 74 = .ok (.goto (-30), 3) := by decide +kernel
theorem dX4_mean_77 : decode cX4_mean 77 = .ok (.aload_n 0, 1) := by decide +kernel
theorem dX4_mean_78 : decode cX4_mean 78 = .ok (.lload_n 2, 1) := by decide +kernel
theorem dX4_mean_79 : decode cX4_mean 79 = .ok (.aload_n 0, 1) := by decide +kernel
theorem dX4_mean_80 : decode cX4_mean 80 = .ok (.getfield 7, 3) := by decide +kernel
theorem dX4_mean_83 : decode cX4_mean 83 = .ok (.iload_n 1, 1) := by decide +kernel
theorem dX4_mean_84 : decode cX4_mean 84 = .ok (.iaload, 1) := by decide +kernel
theorem dX4_mean_85 : decode cX4_mean 85 = .ok (.i2l, 1) := by decide +kernel
theorem dX4_mean_86 : decode cX4_mean 86 = .ok (.ldiv, 1) := by decide +kernel
theorem dX4_mean_87 : decode cX4_mean 87 = .ok (.l2i, 1) := by decide +kernel
theorem dX4_mean_88 : decode cX4_mean 88 = .ok (.invokevirtual 89, 3) := by decide +kernel
theorem dX4_mean_91 : decode cX4_mean 91 = .ok (.ireturn, 1) := by decide +kernel
/-! X4_mean (I)I -/
abbrev rmX4_mean : Room := { frames := 2, cells := 0, slots := 0, locals := 42 }
theorem lkX4_mean_0 : Cond.fieldLink RX4 7 (TX4 0).1 (TX4 0).2.1 (TX4 0).2.2.1 ∈ wsX4_mean := by decide +kernel
theorem lkX4_mean_1 : Cond.fieldLink RX4 13 (TX4 1).1 (TX4 1).2.1 (TX4 1).2.2.1 ∈ wsX4_mean := by decide +kernel
theorem inX4_mean_X4 : ∀ w ∈ u_ws RX4 TX4 22, w ∈ wsX4_mean := by decide +kernel
noncomputable def fX4_mean_b44 (G : mm_G) (a0 : Nat) (x1 : Int32) (y2 : Int64) (x4 : Int32) (σ : mm_M) : Option ((Int32 × mm_M) ⊕ (Int64 × Int32 × mm_M)) := if x1 < 0 ∨ mm_N G (mm_R G a0 0) ≤ x1.toNatClampNeg then none else (if x4 < (σ.1 (mm_R G a0 0) x1.toNatClampNeg) then (if (((40 : Int32) * x1) + x4) < 0 ∨ mm_N G (mm_R G a0 1) ≤ (((40 : Int32) * x1) + x4).toNatClampNeg then none else (some (.inr (y2 + ((σ.1 (mm_R G a0 1) (((40 : Int32) * x1) + x4).toNatClampNeg).toInt64), x4 + 1, σ)))) else (if x1 < 0 ∨ mm_N G (mm_R G a0 0) ≤ x1.toNatClampNeg then none else (if ((σ.1 (mm_R G a0 0) x1.toNatClampNeg).toInt64) = 0 then none else ((fX4_tells G a0 ((y2 / ((σ.1 (mm_R G a0 0) x1.toNatClampNeg).toInt64)).toInt32) σ).bind (fun q88 => some (.inl (q88.1, q88.2)))))))
noncomputable def fX4_mean_b0 (G : mm_G) (a0 : Nat) (x1 : Int32) (σ : mm_M) : Option ((Int32 × mm_M) ⊕ (Int64 × Int32 × mm_M)) := (fX4_isRow G x1 σ).bind (fun q1 => if q1.1 = 0 then (some (.inl ((-1 : Int32), q1.2))) else (if x1 < 0 ∨ mm_N G (mm_R G a0 0) ≤ x1.toNatClampNeg then none else (if (q1.2.1 (mm_R G a0 0) x1.toNatClampNeg) < 0 then ((fX4_finds G a0 (1 : Int32) q1.2).bind (fun q20 => some (.inl (q20.1, q20.2)))) else (if x1 < 0 ∨ mm_N G (mm_R G a0 0) ≤ x1.toNatClampNeg then none else (if (q1.2.1 (mm_R G a0 0) x1.toNatClampNeg) = 0 then ((fX4_finds G a0 (4 : Int32) q1.2).bind (fun q35 => some (.inl (q35.1, q35.2)))) else (some (.inr ((0 : Int64), (0 : Int32), q1.2))))))))
noncomputable def fX4_mean_s (G : mm_G) (a0 : Nat) (x1 : Int32) : (Int64 × Int32 × mm_M) → Option ((Int32 × mm_M) ⊕ (Int64 × Int32 × mm_M)) := (fun s => fX4_mean_b44 G a0 x1 s.1 s.2.1 s.2.2)
def PX4_mean (E : mm_E) (G : mm_G) (a0 : Nat) (x1 : Int32) (q : (Int32 × mm_M)) : (Int64 × Int32 × mm_M) → Prop := (fun s => mm_At E G 5 (mm_Qi E G q) s.2.2 44 [(0, .ref a0), (1, .int x1), (2, .long s.1), (4, .int s.2.1)] [])
noncomputable def fX4_mean (G : mm_G) (a0 : Nat) (x1 : Int32) (σ : mm_M) : Option (Int32 × mm_M) := mm_run (fX4_mean_b0 G a0 x1 σ) (fX4_mean_s G a0 x1)
set_option maxHeartbeats 4000000 in
set_option maxRecDepth 100000 in
theorem wX4_mean_b44 {E : mm_E} {G : mm_G} (X : mm_Cx E G cX4_mean 5 RX4 wsX4_mean rmX4_mean (some .int)) {a0 : Nat} {x1 : Int32} {y2 : Int64} {x4 : Int32} {σ : mm_M} {q : (Int32 × mm_M)} (ha0 : mm_Is G 4 a0) {o : (Int32 × mm_M) ⊕ (Int64 × Int32 × mm_M)} (h : fX4_mean_b44 G a0 x1 y2 x4 σ = some o) (hk : mm_Ok q (PX4_mean E G a0 x1 q) o) : mm_At E G 5 (mm_Qi E G q) σ 44 [(0, .ref a0), (1, .int x1), (2, .long y2), (4, .int x4)] [] := by
  unfold fX4_mean_b44 at h
  refine at_iload (pc := 44) X 4 3 dX4_mean_44 rfl ?_
  refine at_aload_n (pc := 46) X 0 0 dX4_mean_46 rfl rfl ?_
  refine at_get (pc := 47) X 4 0 (.ref (mm_R G a0 0)) ha0 (by decide) rfl inX4_mean_X4 (by decide) lkX4_mean_0 rfl dX4_mean_47 ?_
  refine at_iload_n (pc := 50) X 1 1 dX4_mean_50 rfl rfl ?_
  obtain ⟨hc51, h⟩ := mm_chk h
  refine at_iald (pc := 51) X (wf_4_0 X.wf ha0) hc51 dX4_mean_51 ?_
  refine at_icmp_ge (pc := 52) X 77 dX4_mean_52 (by decide) (fun c52 => ?_) (fun c52 => ?_)
  · have h := mm_neg c52 h
    refine at_aload_n (pc := 77) X 0 0 dX4_mean_77 rfl rfl ?_
    refine at_lload_n (pc := 78) X 2 2 dX4_mean_78 rfl rfl ?_
    refine at_aload_n (pc := 79) X 0 0 dX4_mean_79 rfl rfl ?_
    refine at_get (pc := 80) X 4 0 (.ref (mm_R G a0 0)) ha0 (by decide) rfl inX4_mean_X4 (by decide) lkX4_mean_0 rfl dX4_mean_80 ?_
    refine at_iload_n (pc := 83) X 1 1 dX4_mean_83 rfl rfl ?_
    obtain ⟨hc84, h⟩ := mm_chk h
    refine at_iald (pc := 84) X (wf_4_0 X.wf ha0) hc84 dX4_mean_84 ?_
    refine at_i2l (pc := 85) X dX4_mean_85 ?_
    obtain ⟨hc86, h⟩ := mm_chk h
    refine at_ldiv (pc := 86) X hc86 dX4_mean_86 ?_
    refine at_l2i (pc := 87) X dX4_mean_87 ?_
    obtain ⟨q88, hq88, h⟩ := mm_bind h
    refine at_calli (n := 1) (pc := 88) X 4 [.int ((y2 / ((σ.1 (mm_R G a0 0) x1.toNatClampNeg).toInt64)).toInt32)] [] (mX4_tells (eL E) X.wf ha0 hq88) gX4_mean_X4_tells rfl ⟨rfl, rfl⟩ (by decide +kernel) ⟨by decide, by decide⟩ (by decide) rfl ha0 rfl rfl (Nat.le_of_ble_eq_true rfl) dX4_mean_88 ?_
    exact at_iret (pc := 91) X (mm_inl h hk) dX4_mean_91
  · have h := mm_pos c52 h
    refine at_lload_n (pc := 55) X 2 2 dX4_mean_55 rfl rfl ?_
    refine at_aload_n (pc := 56) X 0 0 dX4_mean_56 rfl rfl ?_
    refine at_get (pc := 57) X 4 1 (.ref (mm_R G a0 1)) ha0 (by decide) rfl inX4_mean_X4 (by decide) lkX4_mean_1 rfl dX4_mean_57 ?_
    refine at_bipush (pc := 60) X (40 : Int32) dX4_mean_60 ib_40 ?_
    refine at_iload_n (pc := 62) X 1 1 dX4_mean_62 rfl rfl ?_
    refine at_imul (pc := 63) X dX4_mean_63 ?_
    refine at_iload (pc := 64) X 4 3 dX4_mean_64 rfl ?_
    refine at_iadd (pc := 66) X dX4_mean_66 ?_
    obtain ⟨hc67, h⟩ := mm_chk h
    refine at_iald (pc := 67) X (wf_4_1 X.wf ha0) hc67 dX4_mean_67 ?_
    refine at_i2l (pc := 68) X dX4_mean_68 ?_
    refine at_ladd (pc := 69) X dX4_mean_69 ?_
    refine at_lstore_n (pc := 70) X 2 [(2, .long (y2 + ((σ.1 (mm_R G a0 1) (((40 : Int32) * x1) + x4).toNatClampNeg).toInt64))), (0, .ref a0), (1, .int x1), (4, .int x4)] dX4_mean_70 rfl (by decide) rfl ?_
    refine at_iinc (pc := 71) X 4 3 (x4 + 1) [(4, .int (x4 + 1)), (2, .long (y2 + ((σ.1 (mm_R G a0 1) (((40 : Int32) * x1) + x4).toNatClampNeg).toInt64))), (0, .ref a0), (1, .int x1)] dX4_mean_71 rfl (ii_1 _) (by decide) rfl ?_
    refine at_goto (pc := 74) X 44 dX4_mean_74 (by decide) ?_
    have h2 := mm_inr h hk; exact at_sub [2, 3, 1, 0] rfl h2
set_option maxHeartbeats 4000000 in
set_option maxRecDepth 100000 in
theorem wX4_mean_b0 {E : mm_E} {G : mm_G} (X : mm_Cx E G cX4_mean 5 RX4 wsX4_mean rmX4_mean (some .int)) {a0 : Nat} {x1 : Int32} {σ : mm_M} {q : (Int32 × mm_M)} (ha0 : mm_Is G 4 a0) {o : (Int32 × mm_M) ⊕ (Int64 × Int32 × mm_M)} (h : fX4_mean_b0 G a0 x1 σ = some o) (hk : mm_Ok q (PX4_mean E G a0 x1 q) o) : mm_At E G 5 (mm_Qi E G q) σ 0 [(0, .ref a0), (1, .int x1)] [] := by
  unfold fX4_mean_b0 at h
  refine at_iload_n (pc := 0) X 1 1 dX4_mean_0 rfl rfl ?_
  obtain ⟨q1, hq1, h⟩ := mm_bind h
  refine at_scalli (n := 1) (pc := 1) X [.int x1] [] (mX4_isRow (eL E) X.wf hq1) gX4_mean_X4_isRow rfl ⟨rfl, rfl⟩ (by decide +kernel) ⟨by decide, by decide⟩ rfl rfl (Nat.le_of_ble_eq_true rfl) dX4_mean_1 ?_
  refine at_if_ne (pc := 4) X 9 dX4_mean_4 (by decide) (fun c4 => ?_) (fun c4 => ?_)
  · have h := mm_neg c4 h
    refine at_aload_n (pc := 9) X 0 0 dX4_mean_9 rfl rfl ?_
    refine at_get (pc := 10) X 4 0 (.ref (mm_R G a0 0)) ha0 (by decide) rfl inX4_mean_X4 (by decide) lkX4_mean_0 rfl dX4_mean_10 ?_
    refine at_iload_n (pc := 13) X 1 1 dX4_mean_13 rfl rfl ?_
    obtain ⟨hc14, h⟩ := mm_chk h
    refine at_iald (pc := 14) X (wf_4_0 X.wf ha0) hc14 dX4_mean_14 ?_
    refine at_if_ge (pc := 15) X 24 dX4_mean_15 (by decide) (fun c15 => ?_) (fun c15 => ?_)
    · have h := mm_neg c15 h
      refine at_aload_n (pc := 24) X 0 0 dX4_mean_24 rfl rfl ?_
      refine at_get (pc := 25) X 4 0 (.ref (mm_R G a0 0)) ha0 (by decide) rfl inX4_mean_X4 (by decide) lkX4_mean_0 rfl dX4_mean_25 ?_
      refine at_iload_n (pc := 28) X 1 1 dX4_mean_28 rfl rfl ?_
      obtain ⟨hc29, h⟩ := mm_chk h
      refine at_iald (pc := 29) X (wf_4_0 X.wf ha0) hc29 dX4_mean_29 ?_
      refine at_if_ne (pc := 30) X 39 dX4_mean_30 (by decide) (fun c30 => ?_) (fun c30 => ?_)
      · have h := mm_neg c30 h
        refine at_lconst (pc := 39) X (0 : Int64) dX4_mean_39 (by decide) ?_
        refine at_lstore_n (pc := 40) X 2 [(2, .long (0 : Int64)), (0, .ref a0), (1, .int x1)] dX4_mean_40 rfl (by decide) rfl ?_
        refine at_iconst (pc := 41) X (0 : Int32) dX4_mean_41 ic_0 ?_
        refine at_istore (pc := 42) X 4 [(4, .int (0 : Int32)), (2, .long (0 : Int64)), (0, .ref a0), (1, .int x1)] dX4_mean_42 (by decide) rfl ?_
        have h2 := mm_inr h hk; exact at_sub [2, 3, 1, 0] rfl h2
      · have h := mm_pos c30 h
        refine at_aload_n (pc := 33) X 0 0 dX4_mean_33 rfl rfl ?_
        refine at_iconst (pc := 34) X (4 : Int32) dX4_mean_34 ic_4 ?_
        obtain ⟨q35, hq35, h⟩ := mm_bind h
        refine at_calli (n := 1) (pc := 35) X 4 [.int (4 : Int32)] [] (mX4_finds (eL E) X.wf ha0 hq35) gX4_mean_X4_finds rfl ⟨rfl, rfl⟩ (by decide +kernel) ⟨by decide, by decide⟩ (by decide) rfl ha0 rfl rfl (Nat.le_of_ble_eq_true rfl) dX4_mean_35 ?_
        exact at_iret (pc := 38) X (mm_inl h hk) dX4_mean_38
    · have h := mm_pos c15 h
      refine at_aload_n (pc := 18) X 0 0 dX4_mean_18 rfl rfl ?_
      refine at_iconst (pc := 19) X (1 : Int32) dX4_mean_19 ic_1 ?_
      obtain ⟨q20, hq20, h⟩ := mm_bind h
      refine at_calli (n := 1) (pc := 20) X 4 [.int (1 : Int32)] [] (mX4_finds (eL E) X.wf ha0 hq20) gX4_mean_X4_finds rfl ⟨rfl, rfl⟩ (by decide +kernel) ⟨by decide, by decide⟩ (by decide) rfl ha0 rfl rfl (Nat.le_of_ble_eq_true rfl) dX4_mean_20 ?_
      exact at_iret (pc := 23) X (mm_inl h hk) dX4_mean_23
  · have h := mm_pos c4 h
    refine at_iconst (pc := 7) X (-1 : Int32) dX4_mean_7 ic_m1 ?_
    exact at_iret (pc := 8) X (mm_inl h hk) dX4_mean_8
set_option maxHeartbeats 4000000 in
set_option maxRecDepth 100000 in
theorem mX4_mean (l : Launch) {G : mm_G} (hwf : mm_WF G) {a0 : Nat} {x1 : Int32} {σ : mm_M} {q : (Int32 × mm_M)} (ha0 : mm_Is G 4 a0) (h : fX4_mean G a0 x1 σ = some q) : mm_Mi l yX4_mean wsX4_mean rmX4_mean G [.ref a0, .int x1] σ q := by
  refine mm_ofi (cc := cX4_mean) (nL := 5) (ret := some .int) (own := RX4) (lv0 := [(0, .ref a0), (1, .int x1)]) (by decide) rfl rfl (Nat.le_of_ble_eq_true rfl) rfl hwf (fun E hE X => ?_)
  obtain ⟨o, h0, hk⟩ := mm_run_ok (P := PX4_mean E G a0 x1 q) h (fun s o hs hk => by exact wX4_mean_b44 X ha0 hs hk)
  exact wX4_mean_b0 X ha0 h0 hk
set_option maxRecDepth 20000 in
theorem ggX4_text_X4_isText : GoodIn wsX4_text wsX4_isText := goodIn_r _ [6, 7, 8, 5, 9] (by decide +kernel) (by decide +kernel)
set_option maxRecDepth 20000 in
theorem gX4_text_X4_isText : GoodIn wsX4_text (va_wsS RX4 95 yX4_isText wsX4_isText) := goodIn_app (goodIn_of _ (by decide +kernel)) ggX4_text_X4_isText
set_option maxRecDepth 20000 in
theorem ggX4_text_X4_finds : GoodIn wsX4_text wsX4_finds := goodIn_r _ [13, 14, 15, 16, 17, 18, 19, 20, 21, 22, 23, 24, 25, 26, 27, 28, 29, 30, 31, 32, 33, 34, 35, 36, 37] (by decide +kernel) (by decide +kernel)
set_option maxRecDepth 20000 in
theorem gX4_text_X4_finds : GoodIn wsX4_text (wsV RX4 81 RX4 yX4_finds wsX4_finds) := goodIn_app (goodIn_of _ (by decide +kernel)) ggX4_text_X4_finds
theorem dX4_text_0 : decode cX4_text 0 = .ok (.iload_n 1, 1) := by decide +kernel
theorem dX4_text_1 : decode cX4_text 1 = .ok (.invokestatic 95, 3) := by decide +kernel
theorem dX4_text_4 : decode cX4_text 4 = .ok (.ifCond .eq 9, 3) := by decide +kernel
theorem dX4_text_7 : decode cX4_text 7 = .ok (.iload_n 2, 1) := by decide +kernel
theorem dX4_text_8 : decode cX4_text 8 = .ok (.bipush 60, 2) := by decide +kernel
theorem dX4_text_10 : decode cX4_text 10 = .ok (.if_icmp .le 5, 3) := by decide +kernel
theorem dX4_text_13 : decode cX4_text 13 = .ok (.iconst (-1), 1) := by decide +kernel
theorem dX4_text_14 : decode cX4_text 14 = .ok (.ireturn, 1) := by decide +kernel
theorem dX4_text_15 : decode cX4_text 15 = .ok (.iload_n 2, 1) := by decide +kernel
theorem dX4_text_16 : decode cX4_text 16 = .ok (.ifCond .ge 9, 3) := by decide +kernel
theorem dX4_text_19 : decode cX4_text 19 = .ok (.aload_n 0, 1) := by decide +kernel
theorem dX4_text_20 : decode cX4_text 20 = .ok (.iconst 5, 1) := by decide +kernel
theorem dX4_text_21 : decode cX4_text 21 = .ok (.invokevirtual 81, 3) := by decide +kernel
theorem dX4_text_24 : decode cX4_text 24 = .ok (.ireturn, 1) := by decide +kernel
theorem dX4_text_25 : decode cX4_text 25 = .ok (.aload_n 0, 1) := by decide +kernel
theorem dX4_text_26 : decode cX4_text 26 = .ok (.getfield 19, 3) := by decide +kernel
theorem dX4_text_29 : decode cX4_text 29 = .ok (.iload_n 1, 1) := by decide +kernel
theorem dX4_text_30 : decode cX4_text 30 = .ok (.iload_n 2, 1) := by decide +kernel
theorem dX4_text_31 : decode cX4_text 31 = .ok (.iastore, 1) := by decide +kernel
theorem dX4_text_32 : decode cX4_text 32 = .ok (.iconst 0, 1) := by decide +kernel
theorem dX4_text_33 : decode cX4_text 33 = .ok (.istore_n 3, 1) := by decide +kernel
theorem dX4_text_34 : decode cX4_text 34 = .ok (.iload_n 3, 1) := by decide +kernel
theorem dX4_text_35 : decode cX4_text 35 = .ok (.bipush 60, 2) := by decide +kernel
theorem dX4_text_37 : decode cX4_text 37 = .ok (.if_icmp .ge 22, 3) := by decide +kernel
theorem dX4_text_40 : decode cX4_text 40 = .ok (.aload_n 0, 1) := by decide +kernel
theorem dX4_text_41 : decode cX4_text 41 = .ok (.getfield 22, 3) := by decide +kernel
theorem dX4_text_44 : decode cX4_text 44 = .ok (.bipush 60, 2) := by decide +kernel
theorem dX4_text_46 : decode cX4_text 46 = .ok (.iload_n 1, 1) := by decide +kernel
theorem dX4_text_47 : decode cX4_text 47 = .ok (.imul, 1) := by decide +kernel
theorem dX4_text_48 : decode cX4_text 48 = .ok (.iload_n 3, 1) := by decide +kernel
theorem dX4_text_49 : decode cX4_text 49 = .ok (.iadd, 1) := by decide +kernel
theorem dX4_text_50 : decode cX4_text 50 = .ok (.bipush 32, 2) := by decide +kernel
theorem dX4_text_52 : decode cX4_text 52 = .ok (.bastore, 1) := by decide +kernel
theorem dX4_text_53 : decode cX4_text 53 = .ok (.iinc 3 1, 3) := by decide +kernel
theorem dX4_text_56 : decode cX4_text 56 = .ok (.goto (-22), 3) := by decide +kernel
theorem dX4_text_59 : decode cX4_text 59 = .ok (.iload_n 2, 1) := by decide +kernel
theorem dX4_text_60 : decode cX4_text 60 = .ok (.ireturn, 1) := by decide +kernel
/-! X4_text (II)I -/
abbrev rmX4_text : Room := { frames := 2, cells := 0, slots := 0, locals := 42 }
theorem lkX4_text_0 : Cond.fieldLink RX4 19 (TX4 3).1 (TX4 3).2.1 (TX4 3).2.2.1 ∈ wsX4_text := by decide +kernel
theorem lkX4_text_1 : Cond.fieldLink RX4 22 (TX4 4).1 (TX4 4).2.1 (TX4 4).2.2.1 ∈ wsX4_text := by decide +kernel
theorem inX4_text_X4 : ∀ w ∈ u_ws RX4 TX4 22, w ∈ wsX4_text := by decide +kernel
noncomputable def fX4_text_b34 (G : mm_G) (a0 : Nat) (x1 : Int32) (x2 : Int32) (x3 : Int32) (σ : mm_M) : Option ((Int32 × mm_M) ⊕ (Int32 × mm_M)) := if x3 < (60 : Int32) then (if (((60 : Int32) * x1) + x3) < 0 ∨ mm_N G (mm_R G a0 4) ≤ (((60 : Int32) * x1) + x3).toNatClampNeg then none else (some (.inr (x3 + 1, mm_up σ (mm_R G a0 4) (((60 : Int32) * x1) + x3).toNatClampNeg (vp_nar .byte (32 : Int32)))))) else (some (.inl (x2, σ)))
noncomputable def fX4_text_b0 (G : mm_G) (a0 : Nat) (x1 : Int32) (x2 : Int32) (σ : mm_M) : Option ((Int32 × mm_M) ⊕ (Int32 × mm_M)) := (fX4_isText G x1 σ).bind (fun q1 => if q1.1 = 0 then (some (.inl ((-1 : Int32), q1.2))) else (if (60 : Int32) < x2 then (some (.inl ((-1 : Int32), q1.2))) else (if x2 < 0 then ((fX4_finds G a0 (5 : Int32) q1.2).bind (fun q21 => some (.inl (q21.1, q21.2)))) else (if x1 < 0 ∨ mm_N G (mm_R G a0 3) ≤ x1.toNatClampNeg then none else (some (.inr ((0 : Int32), mm_up q1.2 (mm_R G a0 3) x1.toNatClampNeg x2)))))))
noncomputable def fX4_text_s (G : mm_G) (a0 : Nat) (x1 : Int32) (x2 : Int32) : (Int32 × mm_M) → Option ((Int32 × mm_M) ⊕ (Int32 × mm_M)) := (fun s => fX4_text_b34 G a0 x1 x2 s.1 s.2)
def PX4_text (E : mm_E) (G : mm_G) (a0 : Nat) (x1 : Int32) (x2 : Int32) (q : (Int32 × mm_M)) : (Int32 × mm_M) → Prop := (fun s => mm_At E G 4 (mm_Qi E G q) s.2 34 [(0, .ref a0), (1, .int x1), (2, .int x2), (3, .int s.1)] [])
noncomputable def fX4_text (G : mm_G) (a0 : Nat) (x1 : Int32) (x2 : Int32) (σ : mm_M) : Option (Int32 × mm_M) := mm_run (fX4_text_b0 G a0 x1 x2 σ) (fX4_text_s G a0 x1 x2)
set_option maxHeartbeats 4000000 in
set_option maxRecDepth 100000 in
theorem wX4_text_b34 {E : mm_E} {G : mm_G} (X : mm_Cx E G cX4_text 4 RX4 wsX4_text rmX4_text (some .int)) {a0 : Nat} {x1 : Int32} {x2 : Int32} {x3 : Int32} {σ : mm_M} {q : (Int32 × mm_M)} (ha0 : mm_Is G 4 a0) {o : (Int32 × mm_M) ⊕ (Int32 × mm_M)} (h : fX4_text_b34 G a0 x1 x2 x3 σ = some o) (hk : mm_Ok q (PX4_text E G a0 x1 x2 q) o) : mm_At E G 4 (mm_Qi E G q) σ 34 [(0, .ref a0), (1, .int x1), (2, .int x2), (3, .int x3)] [] := by
  unfold fX4_text_b34 at h
  refine at_iload_n (pc := 34) X 3 3 dX4_text_34 rfl rfl ?_
  refine at_bipush (pc := 35) X (60 : Int32) dX4_text_35 ib_60 ?_
  refine at_icmp_ge (pc := 37) X 59 dX4_text_37 (by decide) (fun c37 => ?_) (fun c37 => ?_)
  · have h := mm_neg c37 h
    refine at_iload_n (pc := 59) X 2 2 dX4_text_59 rfl rfl ?_
    exact at_iret (pc := 60) X (mm_inl h hk) dX4_text_60
  · have h := mm_pos c37 h
    refine at_aload_n (pc := 40) X 0 0 dX4_text_40 rfl rfl ?_
    refine at_get (pc := 41) X 4 4 (.ref (mm_R G a0 4)) ha0 (by decide) rfl inX4_text_X4 (by decide) lkX4_text_1 rfl dX4_text_41 ?_
    refine at_bipush (pc := 44) X (60 : Int32) dX4_text_44 ib_60 ?_
    refine at_iload_n (pc := 46) X 1 1 dX4_text_46 rfl rfl ?_
    refine at_imul (pc := 47) X dX4_text_47 ?_
    refine at_iload_n (pc := 48) X 3 3 dX4_text_48 rfl rfl ?_
    refine at_iadd (pc := 49) X dX4_text_49 ?_
    refine at_bipush (pc := 50) X (32 : Int32) dX4_text_50 ib_32 ?_
    obtain ⟨hc52, h⟩ := mm_chk h
    refine at_bast (pc := 52) X (wf_4_4 X.wf ha0) hc52 dX4_text_52 ?_
    refine at_iinc (pc := 53) X 3 3 (x3 + 1) [(3, .int (x3 + 1)), (0, .ref a0), (1, .int x1), (2, .int x2)] dX4_text_53 rfl (ii_1 _) (by decide) rfl ?_
    refine at_goto (pc := 56) X 34 dX4_text_56 (by decide) ?_
    have h2 := mm_inr h hk; exact at_sub [1, 2, 3, 0] rfl h2
set_option maxHeartbeats 4000000 in
set_option maxRecDepth 100000 in
theorem wX4_text_b0 {E : mm_E} {G : mm_G} (X : mm_Cx E G cX4_text 4 RX4 wsX4_text rmX4_text (some .int)) {a0 : Nat} {x1 : Int32} {x2 : Int32} {σ : mm_M} {q : (Int32 × mm_M)} (ha0 : mm_Is G 4 a0) {o : (Int32 × mm_M) ⊕ (Int32 × mm_M)} (h : fX4_text_b0 G a0 x1 x2 σ = some o) (hk : mm_Ok q (PX4_text E G a0 x1 x2 q) o) : mm_At E G 4 (mm_Qi E G q) σ 0 [(0, .ref a0), (1, .int x1), (2, .int x2)] [] := by
  unfold fX4_text_b0 at h
  refine at_iload_n (pc := 0) X 1 1 dX4_text_0 rfl rfl ?_
  obtain ⟨q1, hq1, h⟩ := mm_bind h
  refine at_scalli (n := 1) (pc := 1) X [.int x1] [] (mX4_isText (eL E) X.wf hq1) gX4_text_X4_isText rfl ⟨rfl, rfl⟩ (by decide +kernel) ⟨by decide, by decide⟩ rfl rfl (Nat.le_of_ble_eq_true rfl) dX4_text_1 ?_
  refine at_if_eq (pc := 4) X 13 dX4_text_4 (by decide) (fun c4 => ?_) (fun c4 => ?_)
  · have h := mm_pos c4 h
    refine at_iconst (pc := 13) X (-1 : Int32) dX4_text_13 ic_m1 ?_
    exact at_iret (pc := 14) X (mm_inl h hk) dX4_text_14
  · have h := mm_neg c4 h
    refine at_iload_n (pc := 7) X 2 2 dX4_text_7 rfl rfl ?_
    refine at_bipush (pc := 8) X (60 : Int32) dX4_text_8 ib_60 ?_
    refine at_icmp_le (pc := 10) X 15 dX4_text_10 (by decide) (fun c10 => ?_) (fun c10 => ?_)
    · have h := mm_neg c10 h
      refine at_iload_n (pc := 15) X 2 2 dX4_text_15 rfl rfl ?_
      refine at_if_ge (pc := 16) X 25 dX4_text_16 (by decide) (fun c16 => ?_) (fun c16 => ?_)
      · have h := mm_neg c16 h
        refine at_aload_n (pc := 25) X 0 0 dX4_text_25 rfl rfl ?_
        refine at_get (pc := 26) X 4 3 (.ref (mm_R G a0 3)) ha0 (by decide) rfl inX4_text_X4 (by decide) lkX4_text_0 rfl dX4_text_26 ?_
        refine at_iload_n (pc := 29) X 1 1 dX4_text_29 rfl rfl ?_
        refine at_iload_n (pc := 30) X 2 2 dX4_text_30 rfl rfl ?_
        obtain ⟨hc31, h⟩ := mm_chk h
        refine at_iast (pc := 31) X (wf_4_3 X.wf ha0) hc31 dX4_text_31 ?_
        refine at_iconst (pc := 32) X (0 : Int32) dX4_text_32 ic_0 ?_
        refine at_istore_n (pc := 33) X 3 [(3, .int (0 : Int32)), (0, .ref a0), (1, .int x1), (2, .int x2)] dX4_text_33 rfl (by decide) rfl ?_
        have h2 := mm_inr h hk; exact at_sub [1, 2, 3, 0] rfl h2
      · have h := mm_pos c16 h
        refine at_aload_n (pc := 19) X 0 0 dX4_text_19 rfl rfl ?_
        refine at_iconst (pc := 20) X (5 : Int32) dX4_text_20 ic_5 ?_
        obtain ⟨q21, hq21, h⟩ := mm_bind h
        refine at_calli (n := 1) (pc := 21) X 4 [.int (5 : Int32)] [] (mX4_finds (eL E) X.wf ha0 hq21) gX4_text_X4_finds rfl ⟨rfl, rfl⟩ (by decide +kernel) ⟨by decide, by decide⟩ (by decide) rfl ha0 rfl rfl (Nat.le_of_ble_eq_true rfl) dX4_text_21 ?_
        exact at_iret (pc := 24) X (mm_inl h hk) dX4_text_24
    · have h := mm_pos c10 h
      refine at_iconst (pc := 13) X (-1 : Int32) dX4_text_13 ic_m1 ?_
      exact at_iret (pc := 14) X (mm_inl h hk) dX4_text_14
set_option maxHeartbeats 4000000 in
set_option maxRecDepth 100000 in
theorem mX4_text (l : Launch) {G : mm_G} (hwf : mm_WF G) {a0 : Nat} {x1 : Int32} {x2 : Int32} {σ : mm_M} {q : (Int32 × mm_M)} (ha0 : mm_Is G 4 a0) (h : fX4_text G a0 x1 x2 σ = some q) : mm_Mi l yX4_text wsX4_text rmX4_text G [.ref a0, .int x1, .int x2] σ q := by
  refine mm_ofi (cc := cX4_text) (nL := 4) (ret := some .int) (own := RX4) (lv0 := [(0, .ref a0), (1, .int x1), (2, .int x2)]) (by decide) rfl rfl (Nat.le_of_ble_eq_true rfl) rfl hwf (fun E hE X => ?_)
  obtain ⟨o, h0, hk⟩ := mm_run_ok (P := PX4_text E G a0 x1 x2 q) h (fun s o hs hk => by exact wX4_text_b34 X ha0 hs hk)
  exact wX4_text_b0 X ha0 h0 hk
set_option maxRecDepth 20000 in
theorem ggX4_put_X4_isText : GoodIn wsX4_put wsX4_isText := goodIn_r _ [6, 7, 8, 5, 9] (by decide +kernel) (by decide +kernel)
set_option maxRecDepth 20000 in
theorem gX4_put_X4_isText : GoodIn wsX4_put (va_wsS RX4 95 yX4_isText wsX4_isText) := goodIn_app (goodIn_of _ (by decide +kernel)) ggX4_put_X4_isText
set_option maxRecDepth 20000 in
theorem ggX4_put_X4_finds : GoodIn wsX4_put wsX4_finds := goodIn_r _ [13, 14, 15, 16, 17, 18, 19, 20, 21, 22, 23, 24, 25, 26, 27, 28, 29, 30, 31, 32, 33, 34, 35, 36, 37] (by decide +kernel) (by decide +kernel)
set_option maxRecDepth 20000 in
theorem gX4_put_X4_finds : GoodIn wsX4_put (wsV RX4 81 RX4 yX4_finds wsX4_finds) := goodIn_app (goodIn_of _ (by decide +kernel)) ggX4_put_X4_finds
set_option maxRecDepth 20000 in
theorem ggX4_put_X4_in : GoodIn wsX4_put wsX4_in := goodIn_r _ [9] (by decide +kernel) (by decide +kernel)
set_option maxRecDepth 20000 in
theorem gX4_put_X4_in : GoodIn wsX4_put (va_wsS RX4 73 yX4_in wsX4_in) := goodIn_app (goodIn_of _ (by decide +kernel)) ggX4_put_X4_in
theorem dX4_put_0 : decode cX4_put 0 = .ok (.iload_n 1, 1) := by decide +kernel
theorem dX4_put_1 : decode cX4_put 1 = .ok (.invokestatic 95, 3) := by decide +kernel
theorem dX4_put_4 : decode cX4_put 4 = .ok (.ifCond .ne 5, 3) := by decide +kernel
theorem dX4_put_7 : decode cX4_put 7 = .ok (.iconst (-1), 1) := by decide +kernel
theorem dX4_put_8 : decode cX4_put 8 = .ok (.ireturn, 1) := by decide +kernel
theorem dX4_put_9 : decode cX4_put 9 = .ok (.aload_n 0, 1) := by decide +kernel
theorem dX4_put_10 : decode cX4_put 10 = .ok (.getfield 19, 3) := by decide +kernel
theorem dX4_put_13 : decode cX4_put 13 = .ok (.iload_n 1, 1) := by decide +kernel
theorem dX4_put_14 : decode cX4_put 14 = .ok (.iaload, 1) := by decide +kernel
theorem dX4_put_15 : decode cX4_put 15 = .ok (.ifCond .ge 9, 3) := by decide +kernel
theorem dX4_put_18 : decode cX4_put 18 = .ok (.aload_n 0, 1) := by decide +kernel
theorem dX4_put_19 : decode cX4_put 19 = .ok (.iconst 1, 1) := by decide +kernel
theorem dX4_put_20 : decode cX4_put 20 = .ok (.invokevirtual 81, 3) := by decide +kernel
theorem dX4_put_23 : decode cX4_put 23 = .ok (.ireturn, 1) := by decide +kernel
theorem dX4_put_24 : decode cX4_put 24 = .ok (.iload_n 2, 1) := by decide +kernel
theorem dX4_put_25 : decode cX4_put 25 = .ok (.iconst 0, 1) := by decide +kernel
theorem dX4_put_26 : decode cX4_put 26 = .ok (.aload_n 0, 1) := by decide +kernel
theorem dX4_put_27 : decode cX4_put 27 = .ok (.getfield 19, 3) := by decide +kernel
theorem dX4_put_30 : decode cX4_put 30 = .ok (.iload_n 1, 1) := by decide +kernel
theorem dX4_put_31 : decode cX4_put 31 = .ok (.iaload, 1) := by decide +kernel
theorem dX4_put_32 : decode cX4_put 32 = .ok (.iconst 1, 1) := by decide +kernel
theorem dX4_put_33 : decode cX4_put 33 = .ok (.isub, 1) := by decide +kernel
theorem dX4_put_34 : decode cX4_put 34 = .ok (.invokestatic 73, 3) := by decide +kernel
theorem dX4_put_37 : decode cX4_put 37 = .ok (.ifCond .ne 9, 3) := by decide +kernel
theorem dX4_put_40 : decode cX4_put 40 = .ok (.aload_n 0, 1) := by decide +kernel
theorem dX4_put_41 : decode cX4_put 41 = .ok (.iconst 2, 1) := by decide +kernel
theorem dX4_put_42 : decode cX4_put 42 = .ok (.invokevirtual 81, 3) := by decide +kernel
theorem dX4_put_45 : decode cX4_put 45 = .ok (.ireturn, 1) := by decide +kernel
theorem dX4_put_46 : decode cX4_put 46 = .ok (.aload_n 0, 1) := by decide +kernel
theorem dX4_put_47 : decode cX4_put 47 = .ok (.getfield 22, 3) := by decide +kernel
theorem dX4_put_50 : decode cX4_put 50 = .ok (.bipush 60, 2) := by decide +kernel
theorem dX4_put_52 : decode cX4_put 52 = .ok (.iload_n 1, 1) := by decide +kernel
theorem dX4_put_53 : decode cX4_put 53 = .ok (.imul, 1) := by decide +kernel
theorem dX4_put_54 : decode cX4_put 54 = .ok (.iload_n 2, 1) := by decide +kernel
theorem dX4_put_55 : decode cX4_put 55 = .ok (.iadd, 1) := by decide +kernel
theorem dX4_put_56 : decode cX4_put 56 = .ok (.baload, 1) := by decide +kernel
theorem dX4_put_57 : decode cX4_put 57 = .ok (.istore 4, 2) := by decide +kernel
theorem dX4_put_59 : decode cX4_put 59 = .ok (.aload_n 0, 1) := by decide +kernel
theorem dX4_put_60 : decode cX4_put 60 = .ok (.getfield 22, 3) := by decide +kernel
theorem dX4_put_63 : decode cX4_put 63 = .ok (.bipush 60, 2) := by decide +kernel
theorem dX4_put_65 : decode cX4_put 65 = .ok (.iload_n 1, 1) := by decide +kernel
theorem dX4_put_66 : decode cX4_put 66 = .ok (.imul, 1) := by decide +kernel
theorem dX4_put_67 : decode cX4_put 67 = .ok (.iload_n 2, 1) := by decide +kernel
theorem dX4_put_68 : decode cX4_put 68 = .ok (.iadd, 1) := by decide +kernel
theorem dX4_put_69 : decode cX4_put 69 = .ok (.iload_n 3, 1) := by decide +kernel
theorem dX4_put_70 : decode cX4_put 70 = .ok (.i2b, 1) := by decide +kernel
theorem dX4_put_71 : decode cX4_put 71 = .ok (.bastore, 1) := by decide +kernel
theorem dX4_put_72 : decode cX4_put 72 = .ok (.iload 4, 2) := by decide +kernel
theorem dX4_put_74 : decode cX4_put 74 = .ok (.sipush 1000, 3) := by decide +kernel
theorem dX4_put_77 : decode cX4_put 77 = .ok (.iadd, 1) := by decide +kernel
theorem dX4_put_78 : decode cX4_put 78 = .ok (.ireturn, 1) := by decide +kernel
/-! X4_put (III)I -/
abbrev rmX4_put : Room := { frames := 2, cells := 0, slots := 0, locals := 42 }
theorem lkX4_put_0 : Cond.fieldLink RX4 19 (TX4 3).1 (TX4 3).2.1 (TX4 3).2.2.1 ∈ wsX4_put := by decide +kernel
theorem lkX4_put_1 : Cond.fieldLink RX4 22 (TX4 4).1 (TX4 4).2.1 (TX4 4).2.2.1 ∈ wsX4_put := by decide +kernel
theorem inX4_put_X4 : ∀ w ∈ u_ws RX4 TX4 22, w ∈ wsX4_put := by decide +kernel
noncomputable def fX4_put (G : mm_G) (a0 : Nat) (x1 : Int32) (x2 : Int32) (x3 : Int32) (σ : mm_M) : Option (Int32 × mm_M) := (fX4_isText G x1 σ).bind (fun q1 => if q1.1 = 0 then (some ((-1 : Int32), q1.2)) else (if x1 < 0 ∨ mm_N G (mm_R G a0 3) ≤ x1.toNatClampNeg then none else (if (q1.2.1 (mm_R G a0 3) x1.toNatClampNeg) < 0 then ((fX4_finds G a0 (1 : Int32) q1.2).bind (fun q20 => some (q20.1, q20.2))) else (if x1 < 0 ∨ mm_N G (mm_R G a0 3) ≤ x1.toNatClampNeg then none else ((fX4_in G x2 (0 : Int32) ((q1.2.1 (mm_R G a0 3) x1.toNatClampNeg) - (1 : Int32)) q1.2).bind (fun q34 => if q34.1 = 0 then ((fX4_finds G a0 (2 : Int32) q34.2).bind (fun q42 => some (q42.1, q42.2))) else (if (((60 : Int32) * x1) + x2) < 0 ∨ mm_N G (mm_R G a0 4) ≤ (((60 : Int32) * x1) + x2).toNatClampNeg then none else (if (((60 : Int32) * x1) + x2) < 0 ∨ mm_N G (mm_R G a0 4) ≤ (((60 : Int32) * x1) + x2).toNatClampNeg then none else (some ((q34.2.1 (mm_R G a0 4) (((60 : Int32) * x1) + x2).toNatClampNeg) + (1000 : Int32), mm_up q34.2 (mm_R G a0 4) (((60 : Int32) * x1) + x2).toNatClampNeg (vp_nar .byte x3.toInt8.toInt32)))))))))))
set_option maxHeartbeats 4000000 in
set_option maxRecDepth 100000 in
theorem wX4_put_b0 {E : mm_E} {G : mm_G} (X : mm_Cx E G cX4_put 5 RX4 wsX4_put rmX4_put (some .int)) {a0 : Nat} {x1 : Int32} {x2 : Int32} {x3 : Int32} {σ : mm_M} {q : (Int32 × mm_M)} (ha0 : mm_Is G 4 a0) (h : fX4_put G a0 x1 x2 x3 σ = some q) : mm_At E G 5 (mm_Qi E G q) σ 0 [(0, .ref a0), (1, .int x1), (2, .int x2), (3, .int x3)] [] := by
  unfold fX4_put at h
  refine at_iload_n (pc := 0) X 1 1 dX4_put_0 rfl rfl ?_
  obtain ⟨q1, hq1, h⟩ := mm_bind h
  refine at_scalli (n := 1) (pc := 1) X [.int x1] [] (mX4_isText (eL E) X.wf hq1) gX4_put_X4_isText rfl ⟨rfl, rfl⟩ (by decide +kernel) ⟨by decide, by decide⟩ rfl rfl (Nat.le_of_ble_eq_true rfl) dX4_put_1 ?_
  refine at_if_ne (pc := 4) X 9 dX4_put_4 (by decide) (fun c4 => ?_) (fun c4 => ?_)
  · have h := mm_neg c4 h
    refine at_aload_n (pc := 9) X 0 0 dX4_put_9 rfl rfl ?_
    refine at_get (pc := 10) X 4 3 (.ref (mm_R G a0 3)) ha0 (by decide) rfl inX4_put_X4 (by decide) lkX4_put_0 rfl dX4_put_10 ?_
    refine at_iload_n (pc := 13) X 1 1 dX4_put_13 rfl rfl ?_
    obtain ⟨hc14, h⟩ := mm_chk h
    refine at_iald (pc := 14) X (wf_4_3 X.wf ha0) hc14 dX4_put_14 ?_
    refine at_if_ge (pc := 15) X 24 dX4_put_15 (by decide) (fun c15 => ?_) (fun c15 => ?_)
    · have h := mm_neg c15 h
      refine at_iload_n (pc := 24) X 2 2 dX4_put_24 rfl rfl ?_
      refine at_iconst (pc := 25) X (0 : Int32) dX4_put_25 ic_0 ?_
      refine at_aload_n (pc := 26) X 0 0 dX4_put_26 rfl rfl ?_
      refine at_get (pc := 27) X 4 3 (.ref (mm_R G a0 3)) ha0 (by decide) rfl inX4_put_X4 (by decide) lkX4_put_0 rfl dX4_put_27 ?_
      refine at_iload_n (pc := 30) X 1 1 dX4_put_30 rfl rfl ?_
      obtain ⟨hc31, h⟩ := mm_chk h
      refine at_iald (pc := 31) X (wf_4_3 X.wf ha0) hc31 dX4_put_31 ?_
      refine at_iconst (pc := 32) X (1 : Int32) dX4_put_32 ic_1 ?_
      refine at_isub (pc := 33) X dX4_put_33 ?_
      obtain ⟨q34, hq34, h⟩ := mm_bind h
      refine at_scalli (n := 3) (pc := 34) X [.int x2, .int (0 : Int32), .int ((q1.2.1 (mm_R G a0 3) x1.toNatClampNeg) - (1 : Int32))] [] (mX4_in (eL E) X.wf hq34) gX4_put_X4_in rfl ⟨rfl, rfl⟩ (by decide +kernel) ⟨by decide, by decide⟩ rfl rfl (Nat.le_of_ble_eq_true rfl) dX4_put_34 ?_
      refine at_if_ne (pc := 37) X 46 dX4_put_37 (by decide) (fun c37 => ?_) (fun c37 => ?_)
      · have h := mm_neg c37 h
        refine at_aload_n (pc := 46) X 0 0 dX4_put_46 rfl rfl ?_
        refine at_get (pc := 47) X 4 4 (.ref (mm_R G a0 4)) ha0 (by decide) rfl inX4_put_X4 (by decide) lkX4_put_1 rfl dX4_put_47 ?_
        refine at_bipush (pc := 50) X (60 : Int32) dX4_put_50 ib_60 ?_
        refine at_iload_n (pc := 52) X 1 1 dX4_put_52 rfl rfl ?_
        refine at_imul (pc := 53) X dX4_put_53 ?_
        refine at_iload_n (pc := 54) X 2 2 dX4_put_54 rfl rfl ?_
        refine at_iadd (pc := 55) X dX4_put_55 ?_
        obtain ⟨hc56, h⟩ := mm_chk h
        refine at_bald (pc := 56) X (wf_4_4 X.wf ha0) hc56 dX4_put_56 ?_
        refine at_istore (pc := 57) X 4 [(4, .int (q34.2.1 (mm_R G a0 4) (((60 : Int32) * x1) + x2).toNatClampNeg)), (0, .ref a0), (1, .int x1), (2, .int x2), (3, .int x3)] dX4_put_57 (by decide) rfl ?_
        refine at_aload_n (pc := 59) X 0 1 dX4_put_59 rfl rfl ?_
        refine at_get (pc := 60) X 4 4 (.ref (mm_R G a0 4)) ha0 (by decide) rfl inX4_put_X4 (by decide) lkX4_put_1 rfl dX4_put_60 ?_
        refine at_bipush (pc := 63) X (60 : Int32) dX4_put_63 ib_60 ?_
        refine at_iload_n (pc := 65) X 1 2 dX4_put_65 rfl rfl ?_
        refine at_imul (pc := 66) X dX4_put_66 ?_
        refine at_iload_n (pc := 67) X 2 3 dX4_put_67 rfl rfl ?_
        refine at_iadd (pc := 68) X dX4_put_68 ?_
        refine at_iload_n (pc := 69) X 3 4 dX4_put_69 rfl rfl ?_
        refine at_i2b (pc := 70) X dX4_put_70 ?_
        obtain ⟨hc71, h⟩ := mm_chk h
        refine at_bast (pc := 71) X (wf_4_4 X.wf ha0) hc71 dX4_put_71 ?_
        refine at_iload (pc := 72) X 4 0 dX4_put_72 rfl ?_
        refine at_sipush (pc := 74) X (1000 : Int32) dX4_put_74 is_1000 ?_
        refine at_iadd (pc := 77) X dX4_put_77 ?_
        exact at_iret (pc := 78) X (Option.some.inj h) dX4_put_78
      · have h := mm_pos c37 h
        refine at_aload_n (pc := 40) X 0 0 dX4_put_40 rfl rfl ?_
        refine at_iconst (pc := 41) X (2 : Int32) dX4_put_41 ic_2 ?_
        obtain ⟨q42, hq42, h⟩ := mm_bind h
        refine at_calli (n := 1) (pc := 42) X 4 [.int (2 : Int32)] [] (mX4_finds (eL E) X.wf ha0 hq42) gX4_put_X4_finds rfl ⟨rfl, rfl⟩ (by decide +kernel) ⟨by decide, by decide⟩ (by decide) rfl ha0 rfl rfl (Nat.le_of_ble_eq_true rfl) dX4_put_42 ?_
        exact at_iret (pc := 45) X (Option.some.inj h) dX4_put_45
    · have h := mm_pos c15 h
      refine at_aload_n (pc := 18) X 0 0 dX4_put_18 rfl rfl ?_
      refine at_iconst (pc := 19) X (1 : Int32) dX4_put_19 ic_1 ?_
      obtain ⟨q20, hq20, h⟩ := mm_bind h
      refine at_calli (n := 1) (pc := 20) X 4 [.int (1 : Int32)] [] (mX4_finds (eL E) X.wf ha0 hq20) gX4_put_X4_finds rfl ⟨rfl, rfl⟩ (by decide +kernel) ⟨by decide, by decide⟩ (by decide) rfl ha0 rfl rfl (Nat.le_of_ble_eq_true rfl) dX4_put_20 ?_
      exact at_iret (pc := 23) X (Option.some.inj h) dX4_put_23
  · have h := mm_pos c4 h
    refine at_iconst (pc := 7) X (-1 : Int32) dX4_put_7 ic_m1 ?_
    exact at_iret (pc := 8) X (Option.some.inj h) dX4_put_8
set_option maxHeartbeats 4000000 in
set_option maxRecDepth 100000 in
theorem mX4_put (l : Launch) {G : mm_G} (hwf : mm_WF G) {a0 : Nat} {x1 : Int32} {x2 : Int32} {x3 : Int32} {σ : mm_M} {q : (Int32 × mm_M)} (ha0 : mm_Is G 4 a0) (h : fX4_put G a0 x1 x2 x3 σ = some q) : mm_Mi l yX4_put wsX4_put rmX4_put G [.ref a0, .int x1, .int x2, .int x3] σ q := by
  refine mm_ofi (cc := cX4_put) (nL := 5) (ret := some .int) (own := RX4) (lv0 := [(0, .ref a0), (1, .int x1), (2, .int x2), (3, .int x3)]) (by decide) rfl rfl (Nat.le_of_ble_eq_true rfl) rfl hwf (fun E hE X => ?_)
  exact wX4_put_b0 X ha0 h
theorem dX4_byteAt_0 : decode cX4_byteAt 0 = .ok (.iload_n 2, 1) := by decide +kernel
theorem dX4_byteAt_1 : decode cX4_byteAt 1 = .ok (.aload_n 0, 1) := by decide +kernel
theorem dX4_byteAt_2 : decode cX4_byteAt 2 = .ok (.getfield 19, 3) := by decide +kernel
theorem dX4_byteAt_5 : decode cX4_byteAt 5 = .ok (.iload_n 1, 1) := by decide +kernel
theorem dX4_byteAt_6 : decode cX4_byteAt 6 = .ok (.iaload, 1) := by decide +kernel
theorem dX4_byteAt_7 : decode cX4_byteAt 7 = .ok (.if_icmp .ge 17, 3) := by decide +kernel
theorem dX4_byteAt_10 : decode cX4_byteAt 10 = .ok (.aload_n 0, 1) := by decide +kernel
theorem dX4_byteAt_11 : decode cX4_byteAt 11 = .ok (.getfield 22, 3) := by decide +kernel
theorem dX4_byteAt_14 : decode cX4_byteAt 14 = .ok (.bipush 60, 2) := by decide +kernel
theorem dX4_byteAt_16 : decode cX4_byteAt 16 = .ok (.iload_n 1, 1) := by decide +kernel
theorem dX4_byteAt_17 : decode cX4_byteAt 17 = .ok (.imul, 1) := by decide +kernel
theorem dX4_byteAt_18 : decode cX4_byteAt 18 = .ok (.iload_n 2, 1) := by decide +kernel
theorem dX4_byteAt_19 : decode cX4_byteAt 19 = .ok (.iadd, 1) := by decide +kernel
theorem dX4_byteAt_20 : decode cX4_byteAt 20 = .ok (.baload, 1) := by decide +kernel
theorem dX4_byteAt_21 : decode cX4_byteAt 21 = .ok (.goto 6, 3) := by decide +kernel
theorem dX4_byteAt_24 : decode cX4_byteAt 24 = .ok (.sipush (-1000), 3) := by decide +kernel
theorem dX4_byteAt_27 : decode cX4_byteAt 27 = .ok (.ireturn, 1) := by decide +kernel
/-! X4_byteAt (II)I -/
abbrev rmX4_byteAt : Room := { frames := 0, cells := 0, slots := 0, locals := 0 }
theorem lkX4_byteAt_0 : Cond.fieldLink RX4 19 (TX4 3).1 (TX4 3).2.1 (TX4 3).2.2.1 ∈ wsX4_byteAt := by decide +kernel
theorem lkX4_byteAt_1 : Cond.fieldLink RX4 22 (TX4 4).1 (TX4 4).2.1 (TX4 4).2.2.1 ∈ wsX4_byteAt := by decide +kernel
theorem inX4_byteAt_X4 : ∀ w ∈ u_ws RX4 TX4 22, w ∈ wsX4_byteAt := by decide +kernel
noncomputable def fX4_byteAt (G : mm_G) (a0 : Nat) (x1 : Int32) (x2 : Int32) (σ : mm_M) : Option (Int32 × mm_M) := if x1 < 0 ∨ mm_N G (mm_R G a0 3) ≤ x1.toNatClampNeg then none else (if x2 < (σ.1 (mm_R G a0 3) x1.toNatClampNeg) then (if (((60 : Int32) * x1) + x2) < 0 ∨ mm_N G (mm_R G a0 4) ≤ (((60 : Int32) * x1) + x2).toNatClampNeg then none else (some (σ.1 (mm_R G a0 4) (((60 : Int32) * x1) + x2).toNatClampNeg, σ))) else (some ((-1000 : Int32), σ)))
set_option maxHeartbeats 4000000 in
set_option maxRecDepth 100000 in
theorem wX4_byteAt_b0 {E : mm_E} {G : mm_G} (X : mm_Cx E G cX4_byteAt 3 RX4 wsX4_byteAt rmX4_byteAt (some .int)) {a0 : Nat} {x1 : Int32} {x2 : Int32} {σ : mm_M} {q : (Int32 × mm_M)} (ha0 : mm_Is G 4 a0) (h : fX4_byteAt G a0 x1 x2 σ = some q) : mm_At E G 3 (mm_Qi E G q) σ 0 [(0, .ref a0), (1, .int x1), (2, .int x2)] [] := by
  unfold fX4_byteAt at h
  refine at_iload_n (pc := 0) X 2 2 dX4_byteAt_0 rfl rfl ?_
  refine at_aload_n (pc := 1) X 0 0 dX4_byteAt_1 rfl rfl ?_
  refine at_get (pc := 2) X 4 3 (.ref (mm_R G a0 3)) ha0 (by decide) rfl inX4_byteAt_X4 (by decide) lkX4_byteAt_0 rfl dX4_byteAt_2 ?_
  refine at_iload_n (pc := 5) X 1 1 dX4_byteAt_5 rfl rfl ?_
  obtain ⟨hc6, h⟩ := mm_chk h
  refine at_iald (pc := 6) X (wf_4_3 X.wf ha0) hc6 dX4_byteAt_6 ?_
  refine at_icmp_ge (pc := 7) X 24 dX4_byteAt_7 (by decide) (fun c7 => ?_) (fun c7 => ?_)
  · have h := mm_neg c7 h
    refine at_sipush (pc := 24) X (-1000 : Int32) dX4_byteAt_24 is_m1000 ?_
    exact at_iret (pc := 27) X (Option.some.inj h) dX4_byteAt_27
  · have h := mm_pos c7 h
    refine at_aload_n (pc := 10) X 0 0 dX4_byteAt_10 rfl rfl ?_
    refine at_get (pc := 11) X 4 4 (.ref (mm_R G a0 4)) ha0 (by decide) rfl inX4_byteAt_X4 (by decide) lkX4_byteAt_1 rfl dX4_byteAt_11 ?_
    refine at_bipush (pc := 14) X (60 : Int32) dX4_byteAt_14 ib_60 ?_
    refine at_iload_n (pc := 16) X 1 1 dX4_byteAt_16 rfl rfl ?_
    refine at_imul (pc := 17) X dX4_byteAt_17 ?_
    refine at_iload_n (pc := 18) X 2 2 dX4_byteAt_18 rfl rfl ?_
    refine at_iadd (pc := 19) X dX4_byteAt_19 ?_
    obtain ⟨hc20, h⟩ := mm_chk h
    refine at_bald (pc := 20) X (wf_4_4 X.wf ha0) hc20 dX4_byteAt_20 ?_
    refine at_goto (pc := 21) X 27 dX4_byteAt_21 (by decide) ?_
    exact at_iret (pc := 27) X (Option.some.inj h) dX4_byteAt_27
set_option maxHeartbeats 4000000 in
set_option maxRecDepth 100000 in
theorem mX4_byteAt (l : Launch) {G : mm_G} (hwf : mm_WF G) {a0 : Nat} {x1 : Int32} {x2 : Int32} {σ : mm_M} {q : (Int32 × mm_M)} (ha0 : mm_Is G 4 a0) (h : fX4_byteAt G a0 x1 x2 σ = some q) : mm_Mi l yX4_byteAt wsX4_byteAt rmX4_byteAt G [.ref a0, .int x1, .int x2] σ q := by
  refine mm_ofi (cc := cX4_byteAt) (nL := 3) (ret := some .int) (own := RX4) (lv0 := [(0, .ref a0), (1, .int x1), (2, .int x2)]) (by decide) rfl rfl (Nat.le_of_ble_eq_true rfl) rfl hwf (fun E hE X => ?_)
  exact wX4_byteAt_b0 X ha0 h
set_option maxRecDepth 20000 in
theorem ggX4_skips_X4_byteAt : GoodIn wsX4_skips wsX4_byteAt := goodIn_r _ [5, 6, 7, 8, 9, 10, 11, 12, 13, 14, 15, 16, 17, 18, 19, 20, 21, 22, 23, 24, 25, 26, 27, 28, 29] (by decide +kernel) (by decide +kernel)
set_option maxRecDepth 20000 in
theorem gX4_skips_X4_byteAt : GoodIn wsX4_skips (wsV RX4 98 RX4 yX4_byteAt wsX4_byteAt) := goodIn_app (goodIn_of _ (by decide +kernel)) ggX4_skips_X4_byteAt
theorem dX4_skips_0 : decode cX4_skips 0 = .ok (.iload_n 2, 1) := by decide +kernel
theorem dX4_skips_1 : decode cX4_skips 1 = .ok (.istore_n 3, 1) := by decide +kernel
theorem dX4_skips_2 : decode cX4_skips 2 = .ok (.aload_n 0, 1) := by decide +kernel
theorem dX4_skips_3 : decode cX4_skips 3 = .ok (.iload_n 1, 1) := by decide +kernel
theorem dX4_skips_4 : decode cX4_skips 4 = .ok (.iload_n 3, 1) := by decide +kernel
theorem dX4_skips_5 : decode cX4_skips 5 = .ok (.invokevirtual 98, 3) := by decide +kernel
theorem dX4_skips_8 : decode cX4_skips 8 = .ok (.bipush 32, 2) := by decide +kernel
theorem dX4_skips_10 : decode cX4_skips 10 = .ok (.if_icmp .ne 9, 3) := by decide +kernel
theorem dX4_skips_13 : decode cX4_skips 13 = .ok (.iinc 3 1, 3) := by decide +kernel
theorem dX4_skips_16 : decode cX4_skips 16 = .ok (.goto (-14), 3) := by decide +kernel
theorem dX4_skips_19 : decode cX4_skips 19 = .ok (.iload_n 3, 1) := by decide +kernel
theorem dX4_skips_20 : decode cX4_skips 20 = .ok (.ireturn, 1) := by decide +kernel
/-! X4_skips (II)I -/
abbrev rmX4_skips : Room := { frames := 1, cells := 0, slots := 0, locals := 22 }
noncomputable def fX4_skips_b2 (G : mm_G) (a0 : Nat) (x1 : Int32) (x2 : Int32) (x3 : Int32) (σ : mm_M) : Option ((Int32 × mm_M) ⊕ (Int32 × mm_M)) := (fX4_byteAt G a0 x1 x3 σ).bind (fun q5 => if q5.1 = (32 : Int32) then (some (.inr (x3 + 1, q5.2))) else (some (.inl (x3, q5.2))))
noncomputable def fX4_skips_b0 (G : mm_G) (a0 : Nat) (x1 : Int32) (x2 : Int32) (σ : mm_M) : Option ((Int32 × mm_M) ⊕ (Int32 × mm_M)) := some (.inr (x2, σ))
noncomputable def fX4_skips_s (G : mm_G) (a0 : Nat) (x1 : Int32) (x2 : Int32) : (Int32 × mm_M) → Option ((Int32 × mm_M) ⊕ (Int32 × mm_M)) := (fun s => fX4_skips_b2 G a0 x1 x2 s.1 s.2)
def PX4_skips (E : mm_E) (G : mm_G) (a0 : Nat) (x1 : Int32) (x2 : Int32) (q : (Int32 × mm_M)) : (Int32 × mm_M) → Prop := (fun s => mm_At E G 4 (mm_Qi E G q) s.2 2 [(0, .ref a0), (1, .int x1), (3, .int s.1)] [])
noncomputable def fX4_skips (G : mm_G) (a0 : Nat) (x1 : Int32) (x2 : Int32) (σ : mm_M) : Option (Int32 × mm_M) := mm_run (fX4_skips_b0 G a0 x1 x2 σ) (fX4_skips_s G a0 x1 x2)
set_option maxHeartbeats 4000000 in
set_option maxRecDepth 100000 in
theorem wX4_skips_b2 {E : mm_E} {G : mm_G} (X : mm_Cx E G cX4_skips 4 RX4 wsX4_skips rmX4_skips (some .int)) {a0 : Nat} {x1 : Int32} {x2 : Int32} {x3 : Int32} {σ : mm_M} {q : (Int32 × mm_M)} (ha0 : mm_Is G 4 a0) {o : (Int32 × mm_M) ⊕ (Int32 × mm_M)} (h : fX4_skips_b2 G a0 x1 x2 x3 σ = some o) (hk : mm_Ok q (PX4_skips E G a0 x1 x2 q) o) : mm_At E G 4 (mm_Qi E G q) σ 2 [(0, .ref a0), (1, .int x1), (3, .int x3)] [] := by
  unfold fX4_skips_b2 at h
  refine at_aload_n (pc := 2) X 0 0 dX4_skips_2 rfl rfl ?_
  refine at_iload_n (pc := 3) X 1 1 dX4_skips_3 rfl rfl ?_
  refine at_iload_n (pc := 4) X 3 2 dX4_skips_4 rfl rfl ?_
  obtain ⟨q5, hq5, h⟩ := mm_bind h
  refine at_calli (n := 2) (pc := 5) X 4 [.int x1, .int x3] [] (mX4_byteAt (eL E) X.wf ha0 hq5) gX4_skips_X4_byteAt rfl ⟨rfl, rfl⟩ (by decide +kernel) ⟨by decide, by decide⟩ (by decide) rfl ha0 rfl rfl (Nat.le_of_ble_eq_true rfl) dX4_skips_5 ?_
  refine at_bipush (pc := 8) X (32 : Int32) dX4_skips_8 ib_32 ?_
  refine at_icmp_ne (pc := 10) X 19 dX4_skips_10 (by decide) (fun c10 => ?_) (fun c10 => ?_)
  · have h := mm_neg c10 h
    refine at_iload_n (pc := 19) X 3 2 dX4_skips_19 rfl rfl ?_
    exact at_iret (pc := 20) X (mm_inl h hk) dX4_skips_20
  · have h := mm_pos c10 h
    refine at_iinc (pc := 13) X 3 2 (x3 + 1) [(3, .int (x3 + 1)), (0, .ref a0), (1, .int x1)] dX4_skips_13 rfl (ii_1 _) (by decide) rfl ?_
    refine at_goto (pc := 16) X 2 dX4_skips_16 (by decide) ?_
    have h2 := mm_inr h hk; exact at_sub [1, 2, 0] rfl h2
set_option maxHeartbeats 4000000 in
set_option maxRecDepth 100000 in
theorem wX4_skips_b0 {E : mm_E} {G : mm_G} (X : mm_Cx E G cX4_skips 4 RX4 wsX4_skips rmX4_skips (some .int)) {a0 : Nat} {x1 : Int32} {x2 : Int32} {σ : mm_M} {q : (Int32 × mm_M)} (ha0 : mm_Is G 4 a0) {o : (Int32 × mm_M) ⊕ (Int32 × mm_M)} (h : fX4_skips_b0 G a0 x1 x2 σ = some o) (hk : mm_Ok q (PX4_skips E G a0 x1 x2 q) o) : mm_At E G 4 (mm_Qi E G q) σ 0 [(0, .ref a0), (1, .int x1), (2, .int x2)] [] := by
  unfold fX4_skips_b0 at h
  refine at_iload_n (pc := 0) X 2 2 dX4_skips_0 rfl rfl ?_
  refine at_istore_n (pc := 1) X 3 [(3, .int x2), (0, .ref a0), (1, .int x1), (2, .int x2)] dX4_skips_1 rfl (by decide) rfl ?_
  have h2 := mm_inr h hk; exact at_sub [1, 2, 0] rfl h2
set_option maxHeartbeats 4000000 in
set_option maxRecDepth 100000 in
theorem mX4_skips (l : Launch) {G : mm_G} (hwf : mm_WF G) {a0 : Nat} {x1 : Int32} {x2 : Int32} {σ : mm_M} {q : (Int32 × mm_M)} (ha0 : mm_Is G 4 a0) (h : fX4_skips G a0 x1 x2 σ = some q) : mm_Mi l yX4_skips wsX4_skips rmX4_skips G [.ref a0, .int x1, .int x2] σ q := by
  refine mm_ofi (cc := cX4_skips) (nL := 4) (ret := some .int) (own := RX4) (lv0 := [(0, .ref a0), (1, .int x1), (2, .int x2)]) (by decide) rfl rfl (Nat.le_of_ble_eq_true rfl) rfl hwf (fun E hE X => ?_)
  obtain ⟨o, h0, hk⟩ := mm_run_ok (P := PX4_skips E G a0 x1 x2 q) h (fun s o hs hk => by exact wX4_skips_b2 X ha0 hs hk)
  exact wX4_skips_b0 X ha0 h0 hk
theorem dX4_kindBy_0 : decode cX4_kindBy 0 = .ok (.iload_n 0, 1) := by decide +kernel
theorem dX4_kindBy_1 : decode cX4_kindBy 1 = .ok (.bipush 112, 2) := by decide +kernel
theorem dX4_kindBy_3 : decode cX4_kindBy 3 = .ok (.if_icmp .ne 7, 3) := by decide +kernel
theorem dX4_kindBy_6 : decode cX4_kindBy 6 = .ok (.iconst 0, 1) := by decide +kernel
theorem dX4_kindBy_7 : decode cX4_kindBy 7 = .ok (.goto 55, 3) := by decide +kernel
theorem dX4_kindBy_10 : decode cX4_kindBy 10 = .ok (.iload_n 0, 1) := by decide +kernel
theorem dX4_kindBy_11 : decode cX4_kindBy 11 = .ok (.bipush 100, 2) := by decide +kernel
theorem dX4_kindBy_13 : decode cX4_kindBy 13 = .ok (.if_icmp .ne 7, 3) := by decide +kernel
theorem dX4_kindBy_16 : decode cX4_kindBy 16 = .ok (.iconst 1, 1) := by decide +kernel
theorem dX4_kindBy_17 : decode cX4_kindBy 17 = .ok (.goto 45, 3) := by decide +kernel
theorem dX4_kindBy_20 : decode cX4_kindBy 20 = .ok (.iload_n 0, 1) := by decide +kernel
theorem dX4_kindBy_21 : decode cX4_kindBy 21 = .ok (.bipush 111, 2) := by decide +kernel
theorem dX4_kindBy_23 : decode cX4_kindBy 23 = .ok (.if_icmp .ne 7, 3) := by decide +kernel
theorem dX4_kindBy_26 : decode cX4_kindBy 26 = .ok (.iconst 2, 1) := by decide +kernel
theorem dX4_kindBy_27 : decode cX4_kindBy 27 = .ok (.goto 35, 3) := by decide +kernel
theorem dX4_kindBy_30 : decode cX4_kindBy 30 = .ok (.iload_n 0, 1) := by decide +kernel
theorem dX4_kindBy_31 : decode cX4_kindBy 31 = .ok (.bipush 115, 2) := by decide +kernel
theorem dX4_kindBy_33 : decode cX4_kindBy 33 = .ok (.if_icmp .ne 7, 3) := by decide +kernel
theorem dX4_kindBy_36 : decode cX4_kindBy 36 = .ok (.iconst 3, 1) := by decide +kernel
theorem dX4_kindBy_37 : decode cX4_kindBy 37 = .ok (.goto 25, 3) := by decide +kernel
theorem dX4_kindBy_40 : decode cX4_kindBy 40 = .ok (.iload_n 0, 1) := by decide +kernel
theorem dX4_kindBy_41 : decode cX4_kindBy 41 = .ok (.bipush 108, 2) := by decide +kernel
theorem dX4_kindBy_43 : decode cX4_kindBy 43 = .ok (.if_icmp .ne 7, 3) := by decide +kernel
theorem dX4_kindBy_46 : decode cX4_kindBy 46 = .ok (.iconst 4, 1) := by decide +kernel
theorem dX4_kindBy_47 : decode cX4_kindBy 47 = .ok (.goto 15, 3) := by decide +kernel
theorem dX4_kindBy_50 : decode cX4_kindBy 50 = .ok (.iload_n 0, 1) := by decide +kernel
theorem dX4_kindBy_51 : decode cX4_kindBy 51 = .ok (.bipush 121, 2) := by decide +kernel
theorem dX4_kindBy_53 : decode cX4_kindBy 53 = .ok (.if_icmp .ne 7, 3) := by decide +kernel
theorem dX4_kindBy_56 : decode cX4_kindBy 56 = .ok (.iconst 5, 1) := by decide +kernel
theorem dX4_kindBy_57 : decode cX4_kindBy 57 = .ok (.goto 5, 3) := by decide +kernel
theorem dX4_kindBy_60 : decode cX4_kindBy 60 = .ok (.bipush (-9), 2) := by decide +kernel
theorem dX4_kindBy_62 : decode cX4_kindBy 62 = .ok (.ireturn, 1) := by decide +kernel
/-! X4_kindBy (I)I -/
abbrev rmX4_kindBy : Room := { frames := 0, cells := 0, slots := 0, locals := 0 }
noncomputable def fX4_kindBy (G : mm_G) (x0 : Int32) (σ : mm_M) : Option (Int32 × mm_M) := some (if x0 = (112 : Int32) then (0 : Int32) else if x0 = (100 : Int32) then (1 : Int32) else if x0 = (111 : Int32) then (2 : Int32) else if x0 = (115 : Int32) then (3 : Int32) else if x0 = (108 : Int32) then (4 : Int32) else if x0 = (121 : Int32) then (5 : Int32) else (-9 : Int32), σ)
set_option maxHeartbeats 4000000 in
set_option maxRecDepth 100000 in
theorem wX4_kindBy_b0 {E : mm_E} {G : mm_G} (X : mm_Cx E G cX4_kindBy 1 RX4 wsX4_kindBy rmX4_kindBy (some .int)) {x0 : Int32} {σ : mm_M} {q : (Int32 × mm_M)} (h : fX4_kindBy G x0 σ = some q) : mm_At E G 1 (mm_Qi E G q) σ 0 [(0, .int x0)] [] := by
  unfold fX4_kindBy at h
  refine at_iload_n (pc := 0) X 0 0 dX4_kindBy_0 rfl rfl ?_
  refine at_bipush (pc := 1) X (112 : Int32) dX4_kindBy_1 ib_112 ?_
  have hj3 : mm_At E G 1 (mm_Qi E G q) σ 62 [] [.int (if x0 = (112 : Int32) then (0 : Int32) else if x0 = (100 : Int32) then (1 : Int32) else if x0 = (111 : Int32) then (2 : Int32) else if x0 = (115 : Int32) then (3 : Int32) else if x0 = (108 : Int32) then (4 : Int32) else if x0 = (121 : Int32) then (5 : Int32) else (-9 : Int32))] := by
    exact at_iret (pc := 62) X (Option.some.inj h) dX4_kindBy_62
  refine at_icmp_ne (pc := 3) X 10 dX4_kindBy_3 (by decide) (fun c3 => ?_) (fun c3 => ?_)
  · try simp only [if_neg c3] at hj3
    refine at_iload_n (pc := 10) X 0 0 dX4_kindBy_10 rfl rfl ?_
    refine at_bipush (pc := 11) X (100 : Int32) dX4_kindBy_11 ib_100 ?_
    refine at_icmp_ne (pc := 13) X 20 dX4_kindBy_13 (by decide) (fun c13 => ?_) (fun c13 => ?_)
    · try simp only [if_neg c13] at hj3
      refine at_iload_n (pc := 20) X 0 0 dX4_kindBy_20 rfl rfl ?_
      refine at_bipush (pc := 21) X (111 : Int32) dX4_kindBy_21 ib_111 ?_
      refine at_icmp_ne (pc := 23) X 30 dX4_kindBy_23 (by decide) (fun c23 => ?_) (fun c23 => ?_)
      · try simp only [if_neg c23] at hj3
        refine at_iload_n (pc := 30) X 0 0 dX4_kindBy_30 rfl rfl ?_
        refine at_bipush (pc := 31) X (115 : Int32) dX4_kindBy_31 ib_115 ?_
        refine at_icmp_ne (pc := 33) X 40 dX4_kindBy_33 (by decide) (fun c33 => ?_) (fun c33 => ?_)
        · try simp only [if_neg c33] at hj3
          refine at_iload_n (pc := 40) X 0 0 dX4_kindBy_40 rfl rfl ?_
          refine at_bipush (pc := 41) X (108 : Int32) dX4_kindBy_41 ib_108 ?_
          refine at_icmp_ne (pc := 43) X 50 dX4_kindBy_43 (by decide) (fun c43 => ?_) (fun c43 => ?_)
          · try simp only [if_neg c43] at hj3
            refine at_iload_n (pc := 50) X 0 0 dX4_kindBy_50 rfl rfl ?_
            refine at_bipush (pc := 51) X (121 : Int32) dX4_kindBy_51 ib_121 ?_
            refine at_icmp_ne (pc := 53) X 60 dX4_kindBy_53 (by decide) (fun c53 => ?_) (fun c53 => ?_)
            · try simp only [if_neg c53] at hj3
              refine at_bipush (pc := 60) X (-9 : Int32) dX4_kindBy_60 ib_m9 ?_
              exact at_sub [] rfl hj3
            · try simp only [if_pos c53] at hj3
              refine at_iconst (pc := 56) X (5 : Int32) dX4_kindBy_56 ic_5 ?_
              refine at_goto (pc := 57) X 62 dX4_kindBy_57 (by decide) ?_
              exact at_sub [] rfl hj3
          · try simp only [if_pos c43] at hj3
            refine at_iconst (pc := 46) X (4 : Int32) dX4_kindBy_46 ic_4 ?_
            refine at_goto (pc := 47) X 62 dX4_kindBy_47 (by decide) ?_
            exact at_sub [] rfl hj3
        · try simp only [if_pos c33] at hj3
          refine at_iconst (pc := 36) X (3 : Int32) dX4_kindBy_36 ic_3 ?_
          refine at_goto (pc := 37) X 62 dX4_kindBy_37 (by decide) ?_
          exact at_sub [] rfl hj3
      · try simp only [if_pos c23] at hj3
        refine at_iconst (pc := 26) X (2 : Int32) dX4_kindBy_26 ic_2 ?_
        refine at_goto (pc := 27) X 62 dX4_kindBy_27 (by decide) ?_
        exact at_sub [] rfl hj3
    · try simp only [if_pos c13] at hj3
      refine at_iconst (pc := 16) X (1 : Int32) dX4_kindBy_16 ic_1 ?_
      refine at_goto (pc := 17) X 62 dX4_kindBy_17 (by decide) ?_
      exact at_sub [] rfl hj3
  · try simp only [if_pos c3] at hj3
    refine at_iconst (pc := 6) X (0 : Int32) dX4_kindBy_6 ic_0 ?_
    refine at_goto (pc := 7) X 62 dX4_kindBy_7 (by decide) ?_
    exact at_sub [] rfl hj3
set_option maxHeartbeats 4000000 in
set_option maxRecDepth 100000 in
theorem mX4_kindBy (l : Launch) {G : mm_G} (hwf : mm_WF G) {x0 : Int32} {σ : mm_M} {q : (Int32 × mm_M)} (h : fX4_kindBy G x0 σ = some q) : mm_Mi l yX4_kindBy wsX4_kindBy rmX4_kindBy G [.int x0] σ q := by
  refine mm_ofi (cc := cX4_kindBy) (nL := 1) (ret := some .int) (own := RX4) (lv0 := [(0, .int x0)]) (by decide) rfl rfl (Nat.le_of_ble_eq_true rfl) rfl hwf (fun E hE X => ?_)
  exact wX4_kindBy_b0 X  h
