/-! X4_duel X4_lowest X4_chances X4_odds X4_mid -/
set_option maxRecDepth 20000 in
theorem ggX4_duel_X4_in : GoodIn wsX4_duel wsX4_in := goodIn_r _ [6] (by decide +kernel) (by decide +kernel)
set_option maxRecDepth 20000 in
theorem gX4_duel_X4_in : GoodIn wsX4_duel (va_wsS RX4 73 yX4_in wsX4_in) := goodIn_app (goodIn_of _ (by decide +kernel)) ggX4_duel_X4_in
set_option maxRecDepth 20000 in
theorem ggX4_duel_X4_copies : GoodIn wsX4_duel wsX4_copies := goodIn_r _ [9] (by decide +kernel) (by decide +kernel)
set_option maxRecDepth 20000 in
theorem gX4_duel_X4_copies : GoodIn wsX4_duel (va_wsS RX4 165 yX4_copies wsX4_copies) := goodIn_app (goodIn_of _ (by decide +kernel)) ggX4_duel_X4_copies
set_option maxRecDepth 20000 in
theorem ggX4_duel_X4_late : GoodIn wsX4_duel wsX4_late := goodIn_r _ [13, 2, 14, 7, 8, 5, 9, 15, 16, 17, 18, 19, 20, 21, 22, 23, 24, 25, 26, 27, 28, 29, 30, 31, 32, 33, 34, 35, 36, 37, 38, 39, 40, 41, 42, 43, 44, 45, 46, 47, 48, 49, 50, 59, 60, 61, 62, 63, 64, 65, 66, 67, 68, 69, 70, 71, 72, 73, 74, 75, 76, 77, 78, 79, 80] (by decide +kernel) (by decide +kernel)
set_option maxRecDepth 20000 in
theorem gX4_duel_X4_late : GoodIn wsX4_duel (wsV RX4 182 RX4 yX4_late wsX4_late) := goodIn_app (goodIn_of _ (by decide +kernel)) ggX4_duel_X4_late
set_option maxRecDepth 20000 in
theorem ggX4_duel_X4_lastTurn : GoodIn wsX4_duel wsX4_lastTurn := goodIn_r _ [54, 1, 2, 10, 11, 12, 5, 13, 14, 7, 8, 9, 15, 16, 17, 18, 19, 20, 21, 22, 23, 24, 25, 26, 27, 28, 29, 30, 31, 32, 33, 34, 35, 36, 37, 38, 39, 40, 41, 42, 43, 44, 45, 46, 47, 48, 49, 50, 59, 60, 61, 62, 63, 64, 65, 66, 67, 68, 69, 70, 71, 72, 73, 74, 75, 76, 77, 78, 79, 80] (by decide +kernel) (by decide +kernel)
set_option maxRecDepth 20000 in
theorem gX4_duel_X4_lastTurn : GoodIn wsX4_duel (wsV RX4 186 RX4 yX4_lastTurn wsX4_lastTurn) := goodIn_app (goodIn_of _ (by decide +kernel)) ggX4_duel_X4_lastTurn
set_option maxRecDepth 20000 in
theorem ggX4_duel_X4_twoTurns : GoodIn wsX4_duel wsX4_twoTurns := goodIn_r _ [58, 1, 2, 51, 52, 53, 5, 54, 10, 11, 12, 13, 14, 7, 8, 9, 15, 16, 17, 18, 19, 20, 21, 22, 23, 24, 25, 26, 27, 28, 29, 30, 31, 32, 33, 34, 35, 36, 37, 38, 39, 40, 41, 42, 43, 44, 45, 46, 47, 48, 49, 50, 59, 60, 61, 62, 63, 64, 65, 66, 67, 68, 69, 70, 71, 72, 73, 74, 75, 76, 77, 78, 79, 80] (by decide +kernel) (by decide +kernel)
set_option maxRecDepth 20000 in
theorem gX4_duel_X4_twoTurns : GoodIn wsX4_duel (wsV RX4 190 RX4 yX4_twoTurns wsX4_twoTurns) := goodIn_app (goodIn_of _ (by decide +kernel)) ggX4_duel_X4_twoTurns
theorem dX4_duel_0 : decode cX4_duel 0 = .ok (.iload_n 1, 1) := by decide +kernel
theorem dX4_duel_1 : decode cX4_duel 1 = .ok (.iconst 0, 1) := by decide +kernel
theorem dX4_duel_2 : decode cX4_duel 2 = .ok (.iconst 3, 1) := by decide +kernel
theorem dX4_duel_3 : decode cX4_duel 3 = .ok (.invokestatic 73, 3) := by decide +kernel
theorem dX4_duel_6 : decode cX4_duel 6 = .ok (.ifCond .ne 5, 3) := by decide +kernel
theorem dX4_duel_9 : decode cX4_duel 9 = .ok (.iconst (-1), 1) := by decide +kernel
theorem dX4_duel_10 : decode cX4_duel 10 = .ok (.ireturn, 1) := by decide +kernel
theorem dX4_duel_11 : decode cX4_duel 11 = .ok (.aload_n 0, 1) := by decide +kernel
theorem dX4_duel_12 : decode cX4_duel 12 = .ok (.getfield 26, 3) := by decide +kernel
theorem dX4_duel_15 : decode cX4_duel 15 = .ok (.bipush 32, 2) := by decide +kernel
theorem dX4_duel_17 : decode cX4_duel 17 = .ok (.iaload, 1) := by decide +kernel
theorem dX4_duel_18 : decode cX4_duel 18 = .ok (.ifCond .ne 6, 3) := by decide +kernel
theorem dX4_duel_21 : decode cX4_duel 21 = .ok (.bipush (-4), 2) := by decide +kernel
theorem dX4_duel_23 : decode cX4_duel 23 = .ok (.ireturn, 1) := by decide +kernel
theorem dX4_duel_24 : decode cX4_duel 24 = .ok (.aload_n 0, 1) := by decide +kernel
theorem dX4_duel_25 : decode cX4_duel 25 = .ok (.getfield 26, 3) := by decide +kernel
theorem dX4_duel_28 : decode cX4_duel 28 = .ok (.aload_n 0, 1) := by decide +kernel
theorem dX4_duel_29 : decode cX4_duel 29 = .ok (.getfield 35, 3) := by decide +kernel
theorem dX4_duel_32 : decode cX4_duel 32 = .ok (.invokestatic 165, 3) := by decide +kernel
theorem dX4_duel_35 : decode cX4_duel 35 = .ok (.iload_n 1, 1) := by decide +kernel
theorem dX4_duel_36 : decode cX4_duel 36 = .ok (.iconst 3, 1) := by decide +kernel
theorem dX4_duel_37 : decode cX4_duel 37 = .ok (.if_icmp .ge 33, 3) := by decide +kernel
theorem dX4_duel_40 : decode cX4_duel 40 = .ok (.iload_n 1, 1) := by decide +kernel
theorem dX4_duel_41 : decode cX4_duel 41 = .ok (.ifCond .ne 10, 3) := by decide +kernel
theorem dX4_duel_44 : decode cX4_duel 44 = .ok (.aload_n 0, 1) := by decide +kernel
theorem dX4_duel_45 : decode cX4_duel 45 = .ok (.invokevirtual 182, 3) := by decide +kernel
theorem dX4_duel_48 : decode cX4_duel 48 = .ok (.goto 21, 3) := by decide +kernel
theorem dX4_duel_51 : decode cX4_duel 51 = .ok (.iload_n 1, 1) := by decide +kernel
theorem dX4_duel_52 : decode cX4_duel 52 = .ok (.iconst 1, 1) := by decide +kernel
theorem dX4_duel_53 : decode cX4_duel 53 = .ok (.if_icmp .ne 11, 3) := by decide +kernel
theorem dX4_duel_56 : decode cX4_duel 56 = .ok (.aload_n 0, 1) := by decide +kernel
theorem dX4_duel_57 : decode cX4_duel 57 = .ok (.iconst 1, 1) := by decide +kernel
theorem dX4_duel_58 : decode cX4_duel 58 = .ok (.invokevirtual 186, 3) := by decide +kernel
theorem dX4_duel_61 : decode cX4_duel 61 = .ok (.goto 8, 3) := by decide +kernel
theorem dX4_duel_64 : decode cX4_duel 64 = .ok (.aload_n 0, 1) := by decide +kernel
theorem dX4_duel_65 : decode cX4_duel 65 = .ok (.iconst 1, 1) := by decide +kernel
theorem dX4_duel_66 : decode cX4_duel 66 = .ok (.invokevirtual 190, 3) := by decide +kernel
theorem dX4_duel_69 : decode cX4_duel 69 = .ok (.ireturn, 1) := by decide +kernel
theorem dX4_duel_70 : decode cX4_duel 70 = .ok (.iconst (-1), 1) := by decide +kernel
theorem dX4_duel_71 : decode cX4_duel 71 = .ok (.istore_n 2, 1) := by decide +kernel
theorem dX4_duel_72 : decode cX4_duel 72 = .ok (.iconst 0, 1) := by decide +kernel
theorem dX4_duel_73 : decode cX4_duel 73 = .ok (.istore_n 3, 1) := by decide +kernel
theorem dX4_duel_74 : decode cX4_duel 74 = .ok (.iload_n 3, 1) := by decide +kernel
theorem dX4_duel_75 : decode cX4_duel 75 = .ok (.aload_n 0, 1) := by decide +kernel
theorem dX4_duel_76 : decode cX4_duel 76 = .ok (.getfield 26, 3) := by decide +kernel
theorem dX4_duel_79 : decode cX4_duel 79 = .ok (.bipush 32, 2) := by decide +kernel
theorem dX4_duel_81 : decode cX4_duel 81 = .ok (.iaload, 1) := by decide +kernel
theorem dX4_duel_82 : decode cX4_duel 82 = .ok (.if_icmp .ge 55, 3) := by decide +kernel
theorem dX4_duel_85 : decode cX4_duel 85 = .ok (.aload_n 0, 1) := by decide +kernel
theorem dX4_duel_86 : decode cX4_duel 86 = .ok (.getfield 35, 3) := by decide +kernel
theorem dX4_duel_89 : decode cX4_duel 89 = .ok (.bipush 11, 2) := by decide +kernel
theorem dX4_duel_91 : decode cX4_duel 91 = .ok (.iload_n 3, 1) := by decide +kernel
theorem dX4_duel_92 : decode cX4_duel 92 = .ok (.iadd, 1) := by decide +kernel
theorem dX4_duel_93 : decode cX4_duel 93 = .ok (.dup2, 1) := by decide +kernel
theorem dX4_duel_94 : decode cX4_duel 94 = .ok (.iaload, 1) := by decide +kernel
theorem dX4_duel_95 : decode cX4_duel 95 = .ok (.iconst 1, 1) := by decide +kernel
theorem dX4_duel_96 : decode cX4_duel 96 = .ok (.iadd, 1) := by decide +kernel
theorem dX4_duel_97 : decode cX4_duel 97 = .ok (.iastore, 1) := by decide +kernel
theorem dX4_duel_98 : decode cX4_duel 98 = .ok (.aload_n 0, 1) := by decide +kernel
theorem dX4_duel_99 : decode cX4_duel 99 = .ok (.iconst 0, 1) := by decide +kernel
theorem dX4_duel_100 : decode cX4_duel 100 = .ok (.invokevirtual 190, 3) := by decide +kernel
theorem dX4_duel_103 : decode cX4_duel 103 = .ok (.istore 4, 2) := by decide +kernel
theorem dX4_duel_105 : decode cX4_duel 105 = .ok (.aload_n 0, 1) := by decide +kernel
theorem dX4_duel_106 : decode cX4_duel 106 = .ok (.getfield 35, 3) := by decide +kernel
theorem dX4_duel_109 : decode cX4_duel 109 = .ok (.bipush 11, 2) := by decide +kernel
theorem dX4_duel_111 : decode cX4_duel 111 = .ok (.iload_n 3, 1) := by decide +kernel
theorem dX4_duel_112 : decode cX4_duel 112 = .ok (.iadd, 1) := by decide +kernel
theorem dX4_duel_113 : decode cX4_duel 113 = .ok (.dup2, 1) := by decide +kernel
theorem dX4_duel_114 : decode cX4_duel 114 = .ok (.iaload, 1) := by decide +kernel
theorem dX4_duel_115 : decode cX4_duel 115 = .ok (.iconst 1, 1) := by decide +kernel
theorem dX4_duel_116 : decode cX4_duel 116 = .ok (.isub, 1) := by decide +kernel
theorem dX4_duel_117 : decode cX4_duel 117 = .ok (.iastore, 1) := by decide +kernel
theorem dX4_duel_118 : decode cX4_duel 118 = .ok (.iload 4, 2) := by decide +kernel
theorem dX4_duel_120 : decode cX4_duel 120 = .ok (.iload_n 2, 1) := by decide +kernel
theorem dX4_duel_121 : decode cX4_duel 121 = .ok (.if_icmp .le 8, 3) := by decide +kernel
theorem dX4_duel_124 : decode cX4_duel 124 = .ok (.iload 4, 2) := by decide +kernel
theorem dX4_duel_126 : decode cX4_duel 126 = .ok (.goto 4, 3) := by decide +kernel
theorem dX4_duel_129 : decode cX4_duel 129 = .ok (.iload_n 2, 1) := by decide +kernel
theorem dX4_duel_130 : decode cX4_duel 130 = .ok (.istore_n 2, 1) := by decide +kernel
theorem dX4_duel_131 : decode cX4_duel 131 = .ok (.iinc 3 1, 3) := by decide +kernel
theorem dX4_duel_134 : decode cX4_duel 134 = .ok (.goto (-60), 3) := by decide +kernel
theorem dX4_duel_137 : decode cX4_duel 137 = .ok (.iload_n 2, 1) := by decide +kernel
theorem dX4_duel_138 : decode cX4_duel 138 = .ok (.ireturn, 1) := by decide +kernel
/-! X4_duel (I)I -/
abbrev rmX4_duel : Room := { frames := 9, cells := 0, slots := 0, locals := 203 }
theorem lkX4_duel_0 : Cond.fieldLink RX4 26 (TX4 5).1 (TX4 5).2.1 (TX4 5).2.2.1 ∈ wsX4_duel := by decide +kernel
theorem lkX4_duel_1 : Cond.fieldLink RX4 35 (TX4 8).1 (TX4 8).2.1 (TX4 8).2.2.1 ∈ wsX4_duel := by decide +kernel
theorem inX4_duel_X4 : ∀ w ∈ u_ws RX4 TX4 22, w ∈ wsX4_duel := by decide +kernel
noncomputable def fX4_duel_b74 (G : mm_G) (a0 : Nat) (x1 : Int32) (x2 : Int32) (x3 : Int32) (σ : mm_M) : Option ((Int32 × mm_M) ⊕ (Int32 × Int32 × mm_M)) := if (32 : Int32) < 0 ∨ mm_N G (mm_R G a0 5) ≤ (32 : Int32).toNatClampNeg then none else (if x3 < (σ.1 (mm_R G a0 5) (32 : Int32).toNatClampNeg) then (if ((11 : Int32) + x3) < 0 ∨ mm_N G (mm_R G a0 8) ≤ ((11 : Int32) + x3).toNatClampNeg then none else (if ((11 : Int32) + x3) < 0 ∨ mm_N G (mm_R G a0 8) ≤ ((11 : Int32) + x3).toNatClampNeg then none else ((fX4_twoTurns G a0 (0 : Int32) (mm_up σ (mm_R G a0 8) ((11 : Int32) + x3).toNatClampNeg ((σ.1 (mm_R G a0 8) ((11 : Int32) + x3).toNatClampNeg) + (1 : Int32)))).bind (fun q100 => if ((11 : Int32) + x3) < 0 ∨ mm_N G (mm_R G a0 8) ≤ ((11 : Int32) + x3).toNatClampNeg then none else (if ((11 : Int32) + x3) < 0 ∨ mm_N G (mm_R G a0 8) ≤ ((11 : Int32) + x3).toNatClampNeg then none else (some (.inr (if x2 < q100.1 then q100.1 else x2, x3 + 1, mm_up q100.2 (mm_R G a0 8) ((11 : Int32) + x3).toNatClampNeg ((q100.2.1 (mm_R G a0 8) ((11 : Int32) + x3).toNatClampNeg) - (1 : Int32)))))))))) else (some (.inl (x2, σ))))
noncomputable def fX4_duel_b0 (G : mm_G) (a0 : Nat) (x1 : Int32) (σ : mm_M) : Option ((Int32 × mm_M) ⊕ (Int32 × Int32 × mm_M)) := (fX4_in G x1 (0 : Int32) (3 : Int32) σ).bind (fun q3 => if q3.1 = 0 then (some (.inl ((-1 : Int32), q3.2))) else (if (32 : Int32) < 0 ∨ mm_N G (mm_R G a0 5) ≤ (32 : Int32).toNatClampNeg then none else (if (q3.2.1 (mm_R G a0 5) (32 : Int32).toNatClampNeg) = 0 then (some (.inl ((-4 : Int32), q3.2))) else ((fX4_copies G (mm_R G a0 5) (mm_R G a0 8) q3.2).bind (fun q32 => if x1 < (3 : Int32) then (if x1 = 0 then ((fX4_late G a0 q32).bind (fun q45 => some (.inl (q45.1, q45.2)))) else (if x1 = (1 : Int32) then ((fX4_lastTurn G a0 (1 : Int32) q32).bind (fun q58 => some (.inl (q58.1, q58.2)))) else ((fX4_twoTurns G a0 (1 : Int32) q32).bind (fun q66 => some (.inl (q66.1, q66.2)))))) else (some (.inr ((-1 : Int32), (0 : Int32), q32))))))))
noncomputable def fX4_duel_s (G : mm_G) (a0 : Nat) (x1 : Int32) : (Int32 × Int32 × mm_M) → Option ((Int32 × mm_M) ⊕ (Int32 × Int32 × mm_M)) := (fun s => fX4_duel_b74 G a0 x1 s.1 s.2.1 s.2.2)
def PX4_duel (E : mm_E) (G : mm_G) (a0 : Nat) (x1 : Int32) (q : (Int32 × mm_M)) : (Int32 × Int32 × mm_M) → Prop := (fun s => mm_At E G 5 (mm_Qi E G q) s.2.2 74 [(0, .ref a0), (2, .int s.1), (3, .int s.2.1)] [])
noncomputable def fX4_duel (G : mm_G) (a0 : Nat) (x1 : Int32) (σ : mm_M) : Option (Int32 × mm_M) := mm_run (fX4_duel_b0 G a0 x1 σ) (fX4_duel_s G a0 x1)
set_option maxHeartbeats 4000000 in
set_option maxRecDepth 100000 in
theorem wX4_duel_b74 {E : mm_E} {G : mm_G} (X : mm_Cx E G cX4_duel 5 RX4 wsX4_duel rmX4_duel (some .int)) {a0 : Nat} {x1 : Int32} {x2 : Int32} {x3 : Int32} {σ : mm_M} {q : (Int32 × mm_M)} (ha0 : mm_Is G 4 a0) {o : (Int32 × mm_M) ⊕ (Int32 × Int32 × mm_M)} (h : fX4_duel_b74 G a0 x1 x2 x3 σ = some o) (hk : mm_Ok q (PX4_duel E G a0 x1 q) o) : mm_At E G 5 (mm_Qi E G q) σ 74 [(0, .ref a0), (2, .int x2), (3, .int x3)] [] := by
  unfold fX4_duel_b74 at h
  refine at_iload_n (pc := 74) X 3 2 dX4_duel_74 rfl rfl ?_
  refine at_aload_n (pc := 75) X 0 0 dX4_duel_75 rfl rfl ?_
  refine at_get (pc := 76) X 4 5 (.ref (mm_R G a0 5)) ha0 (by decide) rfl inX4_duel_X4 (by decide) lkX4_duel_0 rfl dX4_duel_76 ?_
  refine at_bipush (pc := 79) X (32 : Int32) dX4_duel_79 ib_32 ?_
  obtain ⟨hc81, h⟩ := mm_chk h
  refine at_iald (pc := 81) X (wf_4_5 X.wf ha0) hc81 dX4_duel_81 ?_
  refine at_icmp_ge (pc := 82) X 137 dX4_duel_82 (by decide) (fun c82 => ?_) (fun c82 => ?_)
  · have h := mm_neg c82 h
    refine at_iload_n (pc := 137) X 2 1 dX4_duel_137 rfl rfl ?_
    exact at_iret (pc := 138) X (mm_inl h hk) dX4_duel_138
  · have h := mm_pos c82 h
    refine at_aload_n (pc := 85) X 0 0 dX4_duel_85 rfl rfl ?_
    refine at_get (pc := 86) X 4 8 (.ref (mm_R G a0 8)) ha0 (by decide) rfl inX4_duel_X4 (by decide) lkX4_duel_1 rfl dX4_duel_86 ?_
    refine at_bipush (pc := 89) X (11 : Int32) dX4_duel_89 ib_11 ?_
    refine at_iload_n (pc := 91) X 3 2 dX4_duel_91 rfl rfl ?_
    refine at_iadd (pc := 92) X dX4_duel_92 ?_
    refine at_dup2 (pc := 93) X dX4_duel_93 rfl rfl ?_
    obtain ⟨hc94, h⟩ := mm_chk h
    refine at_iald (pc := 94) X (wf_4_8 X.wf ha0) hc94 dX4_duel_94 ?_
    refine at_iconst (pc := 95) X (1 : Int32) dX4_duel_95 ic_1 ?_
    refine at_iadd (pc := 96) X dX4_duel_96 ?_
    obtain ⟨hc97, h⟩ := mm_chk h
    refine at_iast (pc := 97) X (wf_4_8 X.wf ha0) hc97 dX4_duel_97 ?_
    refine at_aload_n (pc := 98) X 0 0 dX4_duel_98 rfl rfl ?_
    refine at_iconst (pc := 99) X (0 : Int32) dX4_duel_99 ic_0 ?_
    obtain ⟨q100, hq100, h⟩ := mm_bind h
    refine at_calli (n := 1) (pc := 100) X 4 [.int (0 : Int32)] [] (mX4_twoTurns (eL E) X.wf ha0 hq100) gX4_duel_X4_twoTurns rfl ⟨rfl, rfl⟩ (by decide +kernel) ⟨by decide, by decide⟩ (by decide) rfl ha0 rfl rfl (Nat.le_of_ble_eq_true rfl) dX4_duel_100 ?_
    refine at_istore (pc := 103) X 4 [(4, .int q100.1), (0, .ref a0), (2, .int x2), (3, .int x3)] dX4_duel_103 (by decide) rfl ?_
    refine at_aload_n (pc := 105) X 0 1 dX4_duel_105 rfl rfl ?_
    refine at_get (pc := 106) X 4 8 (.ref (mm_R G a0 8)) ha0 (by decide) rfl inX4_duel_X4 (by decide) lkX4_duel_1 rfl dX4_duel_106 ?_
    refine at_bipush (pc := 109) X (11 : Int32) dX4_duel_109 ib_11 ?_
    refine at_iload_n (pc := 111) X 3 3 dX4_duel_111 rfl rfl ?_
    refine at_iadd (pc := 112) X dX4_duel_112 ?_
    refine at_dup2 (pc := 113) X dX4_duel_113 rfl rfl ?_
    obtain ⟨hc114, h⟩ := mm_chk h
    refine at_iald (pc := 114) X (wf_4_8 X.wf ha0) hc114 dX4_duel_114 ?_
    refine at_iconst (pc := 115) X (1 : Int32) dX4_duel_115 ic_1 ?_
    refine at_isub (pc := 116) X dX4_duel_116 ?_
    obtain ⟨hc117, h⟩ := mm_chk h
    refine at_iast (pc := 117) X (wf_4_8 X.wf ha0) hc117 dX4_duel_117 ?_
    refine at_iload (pc := 118) X 4 0 dX4_duel_118 rfl ?_
    refine at_iload_n (pc := 120) X 2 2 dX4_duel_120 rfl rfl ?_
    have hj121 : mm_At E G 5 (mm_Qi E G q) (mm_up q100.2 (mm_R G a0 8) ((11 : Int32) + x3).toNatClampNeg ((q100.2.1 (mm_R G a0 8) ((11 : Int32) + x3).toNatClampNeg) - (1 : Int32))) 130 [(0, .ref a0), (3, .int x3)] [.int (if x2 < q100.1 then q100.1 else x2)] := by
      refine at_istore_n (pc := 130) X 2 [(2, .int (if x2 < q100.1 then q100.1 else x2)), (0, .ref a0), (3, .int x3)] dX4_duel_130 rfl (by decide) rfl ?_
      refine at_iinc (pc := 131) X 3 2 (x3 + 1) [(3, .int (x3 + 1)), (2, .int (if x2 < q100.1 then q100.1 else x2)), (0, .ref a0)] dX4_duel_131 rfl (ii_1 _) (by decide) rfl ?_
      refine at_goto (pc := 134) X 74 dX4_duel_134 (by decide) ?_
      have h2 := mm_inr h hk; exact at_sub [2, 1, 0] rfl h2
    refine at_icmp_le (pc := 121) X 129 dX4_duel_121 (by decide) (fun c121 => ?_) (fun c121 => ?_)
    · try simp only [if_neg c121] at hj121
      refine at_iload_n (pc := 129) X 2 2 dX4_duel_129 rfl rfl ?_
      exact at_sub [1, 3] rfl hj121
    · try simp only [if_pos c121] at hj121
      refine at_iload (pc := 124) X 4 0 dX4_duel_124 rfl ?_
      refine at_goto (pc := 126) X 130 dX4_duel_126 (by decide) ?_
      exact at_sub [1, 3] rfl hj121
set_option maxHeartbeats 4000000 in
set_option maxRecDepth 100000 in
theorem wX4_duel_b0 {E : mm_E} {G : mm_G} (X : mm_Cx E G cX4_duel 5 RX4 wsX4_duel rmX4_duel (some .int)) {a0 : Nat} {x1 : Int32} {σ : mm_M} {q : (Int32 × mm_M)} (ha0 : mm_Is G 4 a0) {o : (Int32 × mm_M) ⊕ (Int32 × Int32 × mm_M)} (h : fX4_duel_b0 G a0 x1 σ = some o) (hk : mm_Ok q (PX4_duel E G a0 x1 q) o) : mm_At E G 5 (mm_Qi E G q) σ 0 [(0, .ref a0), (1, .int x1)] [] := by
  unfold fX4_duel_b0 at h
  refine at_iload_n (pc := 0) X 1 1 dX4_duel_0 rfl rfl ?_
  refine at_iconst (pc := 1) X (0 : Int32) dX4_duel_1 ic_0 ?_
  refine at_iconst (pc := 2) X (3 : Int32) dX4_duel_2 ic_3 ?_
  obtain ⟨q3, hq3, h⟩ := mm_bind h
  refine at_scalli (n := 3) (pc := 3) X [.int x1, .int (0 : Int32), .int (3 : Int32)] [] (mX4_in (eL E) X.wf hq3) gX4_duel_X4_in rfl ⟨rfl, rfl⟩ (by decide +kernel) ⟨by decide, by decide⟩ rfl rfl (Nat.le_of_ble_eq_true rfl) dX4_duel_3 ?_
  refine at_if_ne (pc := 6) X 11 dX4_duel_6 (by decide) (fun c6 => ?_) (fun c6 => ?_)
  · have h := mm_neg c6 h
    refine at_aload_n (pc := 11) X 0 0 dX4_duel_11 rfl rfl ?_
    refine at_get (pc := 12) X 4 5 (.ref (mm_R G a0 5)) ha0 (by decide) rfl inX4_duel_X4 (by decide) lkX4_duel_0 rfl dX4_duel_12 ?_
    refine at_bipush (pc := 15) X (32 : Int32) dX4_duel_15 ib_32 ?_
    obtain ⟨hc17, h⟩ := mm_chk h
    refine at_iald (pc := 17) X (wf_4_5 X.wf ha0) hc17 dX4_duel_17 ?_
    refine at_if_ne (pc := 18) X 24 dX4_duel_18 (by decide) (fun c18 => ?_) (fun c18 => ?_)
    · have h := mm_neg c18 h
      refine at_aload_n (pc := 24) X 0 0 dX4_duel_24 rfl rfl ?_
      refine at_get (pc := 25) X 4 5 (.ref (mm_R G a0 5)) ha0 (by decide) rfl inX4_duel_X4 (by decide) lkX4_duel_0 rfl dX4_duel_25 ?_
      refine at_aload_n (pc := 28) X 0 0 dX4_duel_28 rfl rfl ?_
      refine at_get (pc := 29) X 4 8 (.ref (mm_R G a0 8)) ha0 (by decide) rfl inX4_duel_X4 (by decide) lkX4_duel_1 rfl dX4_duel_29 ?_
      obtain ⟨q32, hq32, h⟩ := mm_bind h
      refine at_scallv (n := 2) (pc := 32) X [.ref (mm_R G a0 5), .ref (mm_R G a0 8)] [] (mX4_copies (eL E) X.wf (wf_4_5 X.wf ha0) (wf_4_8 X.wf ha0) hq32) gX4_duel_X4_copies rfl ⟨rfl, rfl⟩ (by decide +kernel) ⟨by decide, by decide⟩ rfl rfl (Nat.le_of_ble_eq_true rfl) dX4_duel_32 ?_
      refine at_iload_n (pc := 35) X 1 1 dX4_duel_35 rfl rfl ?_
      refine at_iconst (pc := 36) X (3 : Int32) dX4_duel_36 ic_3 ?_
      refine at_icmp_ge (pc := 37) X 70 dX4_duel_37 (by decide) (fun c37 => ?_) (fun c37 => ?_)
      · have h := mm_neg c37 h
        refine at_iconst (pc := 70) X (-1 : Int32) dX4_duel_70 ic_m1 ?_
        refine at_istore_n (pc := 71) X 2 [(2, .int (-1 : Int32)), (0, .ref a0), (1, .int x1)] dX4_duel_71 rfl (by decide) rfl ?_
        refine at_iconst (pc := 72) X (0 : Int32) dX4_duel_72 ic_0 ?_
        refine at_istore_n (pc := 73) X 3 [(3, .int (0 : Int32)), (2, .int (-1 : Int32)), (0, .ref a0), (1, .int x1)] dX4_duel_73 rfl (by decide) rfl ?_
        have h2 := mm_inr h hk; exact at_sub [2, 1, 0] rfl h2
      · have h := mm_pos c37 h
        refine at_iload_n (pc := 40) X 1 1 dX4_duel_40 rfl rfl ?_
        refine at_if_ne (pc := 41) X 51 dX4_duel_41 (by decide) (fun c41 => ?_) (fun c41 => ?_)
        · have h := mm_neg c41 h
          refine at_iload_n (pc := 51) X 1 1 dX4_duel_51 rfl rfl ?_
          refine at_iconst (pc := 52) X (1 : Int32) dX4_duel_52 ic_1 ?_
          refine at_icmp_ne (pc := 53) X 64 dX4_duel_53 (by decide) (fun c53 => ?_) (fun c53 => ?_)
          · have h := mm_neg c53 h
            refine at_aload_n (pc := 64) X 0 0 dX4_duel_64 rfl rfl ?_
            refine at_iconst (pc := 65) X (1 : Int32) dX4_duel_65 ic_1 ?_
            obtain ⟨q66, hq66, h⟩ := mm_bind h
            refine at_calli (n := 1) (pc := 66) X 4 [.int (1 : Int32)] [] (mX4_twoTurns (eL E) X.wf ha0 hq66) gX4_duel_X4_twoTurns rfl ⟨rfl, rfl⟩ (by decide +kernel) ⟨by decide, by decide⟩ (by decide) rfl ha0 rfl rfl (Nat.le_of_ble_eq_true rfl) dX4_duel_66 ?_
            exact at_iret (pc := 69) X (mm_inl h hk) dX4_duel_69
          · have h := mm_pos c53 h
            refine at_aload_n (pc := 56) X 0 0 dX4_duel_56 rfl rfl ?_
            refine at_iconst (pc := 57) X (1 : Int32) dX4_duel_57 ic_1 ?_
            obtain ⟨q58, hq58, h⟩ := mm_bind h
            refine at_calli (n := 1) (pc := 58) X 4 [.int (1 : Int32)] [] (mX4_lastTurn (eL E) X.wf ha0 hq58) gX4_duel_X4_lastTurn rfl ⟨rfl, rfl⟩ (by decide +kernel) ⟨by decide, by decide⟩ (by decide) rfl ha0 rfl rfl (Nat.le_of_ble_eq_true rfl) dX4_duel_58 ?_
            refine at_goto (pc := 61) X 69 dX4_duel_61 (by decide) ?_
            exact at_iret (pc := 69) X (mm_inl h hk) dX4_duel_69
        · have h := mm_pos c41 h
          refine at_aload_n (pc := 44) X 0 0 dX4_duel_44 rfl rfl ?_
          obtain ⟨q45, hq45, h⟩ := mm_bind h
          refine at_calli (n := 0) (pc := 45) X 4 [] [] (mX4_late (eL E) X.wf ha0 hq45) gX4_duel_X4_late rfl ⟨rfl, rfl⟩ (by decide +kernel) ⟨by decide, by decide⟩ (by decide) rfl ha0 rfl rfl (Nat.le_of_ble_eq_true rfl) dX4_duel_45 ?_
          refine at_goto (pc := 48) X 69 dX4_duel_48 (by decide) ?_
          exact at_iret (pc := 69) X (mm_inl h hk) dX4_duel_69
    · have h := mm_pos c18 h
      refine at_bipush (pc := 21) X (-4 : Int32) dX4_duel_21 ib_m4 ?_
      exact at_iret (pc := 23) X (mm_inl h hk) dX4_duel_23
  · have h := mm_pos c6 h
    refine at_iconst (pc := 9) X (-1 : Int32) dX4_duel_9 ic_m1 ?_
    exact at_iret (pc := 10) X (mm_inl h hk) dX4_duel_10
set_option maxHeartbeats 4000000 in
set_option maxRecDepth 100000 in
theorem mX4_duel (l : Launch) {G : mm_G} (hwf : mm_WF G) {a0 : Nat} {x1 : Int32} {σ : mm_M} {q : (Int32 × mm_M)} (ha0 : mm_Is G 4 a0) (h : fX4_duel G a0 x1 σ = some q) : mm_Mi l yX4_duel wsX4_duel rmX4_duel G [.ref a0, .int x1] σ q := by
  refine mm_ofi (cc := cX4_duel) (nL := 5) (ret := some .int) (own := RX4) (lv0 := [(0, .ref a0), (1, .int x1)]) (by decide) rfl rfl (Nat.le_of_ble_eq_true rfl) rfl hwf (fun E hE X => ?_)
  obtain ⟨o, h0, hk⟩ := mm_run_ok (P := PX4_duel E G a0 x1 q) h (fun s o hs hk => by exact wX4_duel_b74 X ha0 hs hk)
  exact wX4_duel_b0 X ha0 h0 hk
theorem dX4_lowest_0 : decode cX4_lowest 0 = .ok (.lload_n 1, 1) := by decide +kernel
theorem dX4_lowest_1 : decode cX4_lowest 1 = .ok (.lstore 5, 2) := by decide +kernel
theorem dX4_lowest_3 : decode cX4_lowest 3 = .ok (.lload_n 3, 1) := by decide +kernel
theorem dX4_lowest_4 : decode cX4_lowest 4 = .ok (.lstore 7, 2) := by decide +kernel
theorem dX4_lowest_6 : decode cX4_lowest 6 = .ok (.lload 7, 2) := by decide +kernel
theorem dX4_lowest_8 : decode cX4_lowest 8 = .ok (.lconst 0, 1) := by decide +kernel
theorem dX4_lowest_9 : decode cX4_lowest 9 = .ok (.lcmp, 1) := by decide +kernel
theorem dX4_lowest_10 : decode cX4_lowest 10 = .ok (.ifCond .le 21, 3) := by decide +kernel
theorem dX4_lowest_13 : decode cX4_lowest 13 = .ok (.lload 5, 2) := by decide +kernel
theorem dX4_lowest_15 : decode cX4_lowest 15 = .ok (.lload 7, 2) := by decide +kernel
theorem dX4_lowest_17 : decode cX4_lowest 17 = .ok (.lrem, 1) := by decide +kernel
theorem dX4_lowest_18 : decode cX4_lowest 18 = .ok (.lstore 9, 2) := by decide +kernel
theorem dX4_lowest_20 : decode cX4_lowest 20 = .ok (.lload 7, 2) := by decide +kernel
theorem dX4_lowest_22 : decode cX4_lowest 22 = .ok (.lstore 5, 2) := by decide +kernel
theorem dX4_lowest_24 : decode cX4_lowest 24 = .ok (.lload 9, 2) := by decide +kernel
theorem dX4_lowest_26 : decode cX4_lowest 26 = .ok (.lstore 7, 2) := by decide +kernel
theorem dX4_lowest_28 : decode cX4_lowest 28 = .ok (.goto (-22), 3) := by decide +kernel
theorem dX4_lowest_31 : decode cX4_lowest 31 = .ok (.aload_n 0, 1) := by decide +kernel
theorem dX4_lowest_32 : decode cX4_lowest 32 = .ok (.lload_n 1, 1) := by decide +kernel
theorem dX4_lowest_33 : decode cX4_lowest 33 = .ok (.lload 5, 2) := by decide +kernel
theorem dX4_lowest_35 : decode cX4_lowest 35 = .ok (.ldiv, 1) := by decide +kernel
theorem dX4_lowest_36 : decode cX4_lowest 36 = .ok (.putfield 193, 3) := by decide +kernel
theorem dX4_lowest_39 : decode cX4_lowest 39 = .ok (.aload_n 0, 1) := by decide +kernel
theorem dX4_lowest_40 : decode cX4_lowest 40 = .ok (.lload_n 3, 1) := by decide +kernel
theorem dX4_lowest_41 : decode cX4_lowest 41 = .ok (.lload 5, 2) := by decide +kernel
theorem dX4_lowest_43 : decode cX4_lowest 43 = .ok (.ldiv, 1) := by decide +kernel
theorem dX4_lowest_44 : decode cX4_lowest 44 = .ok (.putfield 50, 3) := by decide +kernel
theorem dX4_lowest_47 : decode cX4_lowest 47 = .ok (.return_, 1) := by decide +kernel
/-! X4_lowest (JJ)V -/
abbrev rmX4_lowest : Room := { frames := 0, cells := 0, slots := 0, locals := 0 }
theorem lkX4_lowest_0 : Cond.fieldLink RX4 193 (TX4 15).1 (TX4 15).2.1 (TX4 15).2.2.1 ∈ wsX4_lowest := by decide +kernel
theorem lkX4_lowest_1 : Cond.fieldLink RX4 50 (TX4 16).1 (TX4 16).2.1 (TX4 16).2.2.1 ∈ wsX4_lowest := by decide +kernel
theorem inX4_lowest_X4 : ∀ w ∈ u_ws RX4 TX4 22, w ∈ wsX4_lowest := by decide +kernel
noncomputable def fX4_lowest_b6 (G : mm_G) (a0 : Nat) (y1 : Int64) (y3 : Int64) (y5 : Int64) (y7 : Int64) (σ : mm_M) : Option (mm_M ⊕ (Int64 × Int64 × mm_M)) := if 0 < (lg_cmp y7 (0 : Int64)) then (if y7 = 0 then none else (some (.inr (y7, y5 - y5 / y7 * y7, σ)))) else (if y5 = 0 then none else (if y5 = 0 then none else (some (.inl (mm_upL (mm_upL σ a0 15 (y1 / y5)) a0 16 (y3 / y5))))))
noncomputable def fX4_lowest_b0 (G : mm_G) (a0 : Nat) (y1 : Int64) (y3 : Int64) (σ : mm_M) : Option (mm_M ⊕ (Int64 × Int64 × mm_M)) := some (.inr (y1, y3, σ))
noncomputable def fX4_lowest_s (G : mm_G) (a0 : Nat) (y1 : Int64) (y3 : Int64) : (Int64 × Int64 × mm_M) → Option (mm_M ⊕ (Int64 × Int64 × mm_M)) := (fun s => fX4_lowest_b6 G a0 y1 y3 s.1 s.2.1 s.2.2)
def PX4_lowest (E : mm_E) (G : mm_G) (a0 : Nat) (y1 : Int64) (y3 : Int64) (q : mm_M) : (Int64 × Int64 × mm_M) → Prop := (fun s => mm_At E G 11 (mm_Qv E G q) s.2.2 6 [(0, .ref a0), (1, .long y1), (3, .long y3), (5, .long s.1), (7, .long s.2.1)] [])
noncomputable def fX4_lowest (G : mm_G) (a0 : Nat) (y1 : Int64) (y3 : Int64) (σ : mm_M) : Option mm_M := mm_run (fX4_lowest_b0 G a0 y1 y3 σ) (fX4_lowest_s G a0 y1 y3)
set_option maxHeartbeats 4000000 in
set_option maxRecDepth 100000 in
theorem wX4_lowest_b6 {E : mm_E} {G : mm_G} (X : mm_Cx E G cX4_lowest 11 RX4 wsX4_lowest rmX4_lowest (none)) {a0 : Nat} {y1 : Int64} {y3 : Int64} {y5 : Int64} {y7 : Int64} {σ : mm_M} {q : mm_M} (ha0 : mm_Is G 4 a0) {o : mm_M ⊕ (Int64 × Int64 × mm_M)} (h : fX4_lowest_b6 G a0 y1 y3 y5 y7 σ = some o) (hk : mm_Ok q (PX4_lowest E G a0 y1 y3 q) o) : mm_At E G 11 (mm_Qv E G q) σ 6 [(0, .ref a0), (1, .long y1), (3, .long y3), (5, .long y5), (7, .long y7)] [] := by
  unfold fX4_lowest_b6 at h
  refine at_lload (pc := 6) X 7 4 dX4_lowest_6 rfl ?_
  refine at_lconst (pc := 8) X (0 : Int64) dX4_lowest_8 (by decide) ?_
  refine at_lcmp (pc := 9) X dX4_lowest_9 ?_
  refine at_if_le (pc := 10) X 31 dX4_lowest_10 (by decide) (fun c10 => ?_) (fun c10 => ?_)
  · have h := mm_neg c10 h
    refine at_aload_n (pc := 31) X 0 0 dX4_lowest_31 rfl rfl ?_
    refine at_lload_n (pc := 32) X 1 1 dX4_lowest_32 rfl rfl ?_
    refine at_lload (pc := 33) X 5 3 dX4_lowest_33 rfl ?_
    obtain ⟨hc35, h⟩ := mm_chk h
    refine at_ldiv (pc := 35) X hc35 dX4_lowest_35 ?_
    refine at_put (pc := 36) X 4 15 ha0 (by decide) rfl inX4_lowest_X4 tyX4 tyX4_ok nmX4 (by decide) lkX4_lowest_0 rfl (ty := .long) rfl rfl rfl (Nat.le_of_ble_eq_true rfl) (ms_4_15 G _ _ _) mm_upL_ne dX4_lowest_36 ?_
    refine at_aload_n (pc := 39) X 0 0 dX4_lowest_39 rfl rfl ?_
    refine at_lload_n (pc := 40) X 3 2 dX4_lowest_40 rfl rfl ?_
    refine at_lload (pc := 41) X 5 3 dX4_lowest_41 rfl ?_
    obtain ⟨hc43, h⟩ := mm_chk h
    refine at_ldiv (pc := 43) X hc43 dX4_lowest_43 ?_
    refine at_put (pc := 44) X 4 16 ha0 (by decide) rfl inX4_lowest_X4 tyX4 tyX4_ok nmX4 (by decide) lkX4_lowest_1 rfl (ty := .long) rfl rfl rfl (Nat.le_of_ble_eq_true rfl) (ms_4_16 G _ _ _) mm_upL_ne dX4_lowest_44 ?_
    exact at_vret (pc := 47) X (mm_inl h hk) dX4_lowest_47
  · have h := mm_pos c10 h
    refine at_lload (pc := 13) X 5 3 dX4_lowest_13 rfl ?_
    refine at_lload (pc := 15) X 7 4 dX4_lowest_15 rfl ?_
    obtain ⟨hc17, h⟩ := mm_chk h
    refine at_lrem (pc := 17) X hc17 dX4_lowest_17 ?_
    refine at_lstore (pc := 18) X 9 [(9, .long (y5 - y5 / y7 * y7)), (0, .ref a0), (1, .long y1), (3, .long y3), (5, .long y5), (7, .long y7)] dX4_lowest_18 (by decide) rfl ?_
    refine at_lload (pc := 20) X 7 5 dX4_lowest_20 rfl ?_
    refine at_lstore (pc := 22) X 5 [(5, .long y7), (9, .long (y5 - y5 / y7 * y7)), (0, .ref a0), (1, .long y1), (3, .long y3), (7, .long y7)] dX4_lowest_22 (by decide) rfl ?_
    refine at_lload (pc := 24) X 9 1 dX4_lowest_24 rfl ?_
    refine at_lstore (pc := 26) X 7 [(7, .long (y5 - y5 / y7 * y7)), (5, .long y7), (9, .long (y5 - y5 / y7 * y7)), (0, .ref a0), (1, .long y1), (3, .long y3)] dX4_lowest_26 (by decide) rfl ?_
    refine at_goto (pc := 28) X 6 dX4_lowest_28 (by decide) ?_
    have h2 := mm_inr h hk; exact at_sub [3, 4, 5, 1, 0] rfl h2
set_option maxHeartbeats 4000000 in
set_option maxRecDepth 100000 in
theorem wX4_lowest_b0 {E : mm_E} {G : mm_G} (X : mm_Cx E G cX4_lowest 11 RX4 wsX4_lowest rmX4_lowest (none)) {a0 : Nat} {y1 : Int64} {y3 : Int64} {σ : mm_M} {q : mm_M} (ha0 : mm_Is G 4 a0) {o : mm_M ⊕ (Int64 × Int64 × mm_M)} (h : fX4_lowest_b0 G a0 y1 y3 σ = some o) (hk : mm_Ok q (PX4_lowest E G a0 y1 y3 q) o) : mm_At E G 11 (mm_Qv E G q) σ 0 [(0, .ref a0), (1, .long y1), (3, .long y3)] [] := by
  unfold fX4_lowest_b0 at h
  refine at_lload_n (pc := 0) X 1 1 dX4_lowest_0 rfl rfl ?_
  refine at_lstore (pc := 1) X 5 [(5, .long y1), (0, .ref a0), (1, .long y1), (3, .long y3)] dX4_lowest_1 (by decide) rfl ?_
  refine at_lload_n (pc := 3) X 3 3 dX4_lowest_3 rfl rfl ?_
  refine at_lstore (pc := 4) X 7 [(7, .long y3), (5, .long y1), (0, .ref a0), (1, .long y1), (3, .long y3)] dX4_lowest_4 (by decide) rfl ?_
  have h2 := mm_inr h hk; exact at_sub [2, 3, 4, 1, 0] rfl h2
set_option maxHeartbeats 4000000 in
set_option maxRecDepth 100000 in
theorem mX4_lowest (l : Launch) {G : mm_G} (hwf : mm_WF G) {a0 : Nat} {y1 : Int64} {y3 : Int64} {σ : mm_M} {q : mm_M} (ha0 : mm_Is G 4 a0) (h : fX4_lowest G a0 y1 y3 σ = some q) : mm_Mv l yX4_lowest wsX4_lowest rmX4_lowest G [.ref a0, .long y1, .long y3] σ q := by
  refine mm_ofv (cc := cX4_lowest) (nL := 11) (ret := none) (own := RX4) (lv0 := [(0, .ref a0), (1, .long y1), (3, .long y3)]) (by decide) rfl rfl (Nat.le_of_ble_eq_true rfl) rfl hwf (fun E hE X => ?_)
  obtain ⟨o, h0, hk⟩ := mm_run_ok (P := PX4_lowest E G a0 y1 y3 q) h (fun s o hs hk => by exact wX4_lowest_b6 X ha0 hs hk)
  exact wX4_lowest_b0 X ha0 h0 hk
set_option maxRecDepth 20000 in
theorem ggX4_chances_X4_copies : GoodIn wsX4_chances wsX4_copies := goodIn_r _ [7] (by decide +kernel) (by decide +kernel)
set_option maxRecDepth 20000 in
theorem gX4_chances_X4_copies : GoodIn wsX4_chances (va_wsS RX4 165 yX4_copies wsX4_copies) := goodIn_app (goodIn_of _ (by decide +kernel)) ggX4_chances_X4_copies
set_option maxRecDepth 20000 in
theorem ggX4_chances_X4_has : GoodIn wsX4_chances wsX4_has := goodIn_r _ [10] (by decide +kernel) (by decide +kernel)
set_option maxRecDepth 20000 in
theorem gX4_chances_X4_has : GoodIn wsX4_chances (va_wsS RX4 125 yX4_has wsX4_has) := goodIn_app (goodIn_of _ (by decide +kernel)) ggX4_chances_X4_has
set_option maxRecDepth 20000 in
theorem ggX4_chances_X4_goes : GoodIn wsX4_chances wsX4_goes := goodIn_r _ [13, 14, 15, 6, 16, 17, 18, 19, 20, 21, 22, 8, 9, 10, 23, 24, 25, 26, 27, 28, 29, 30, 31, 32, 33, 34, 35, 36, 37] (by decide +kernel) (by decide +kernel)
set_option maxRecDepth 20000 in
theorem gX4_chances_X4_goes : GoodIn wsX4_chances (va_wsS RX4 159 yX4_goes wsX4_goes) := goodIn_app (goodIn_of _ (by decide +kernel)) ggX4_chances_X4_goes
set_option maxRecDepth 20000 in
theorem ggX4_chances_X4_lettersOf : GoodIn wsX4_chances wsX4_lettersOf := goodIn_r _ [40] (by decide +kernel) (by decide +kernel)
set_option maxRecDepth 20000 in
theorem gX4_chances_X4_lettersOf : GoodIn wsX4_chances (va_wsS RX4 169 yX4_lettersOf wsX4_lettersOf) := goodIn_app (goodIn_of _ (by decide +kernel)) ggX4_chances_X4_lettersOf
set_option maxRecDepth 20000 in
theorem ggX4_chances_X4_lowest : GoodIn wsX4_chances wsX4_lowest := goodIn_r _ [44, 45, 46, 47, 48, 49, 50, 51, 52, 53, 54, 55, 56, 57, 58, 59, 60, 61, 62, 63, 64, 65, 66, 67, 68] (by decide +kernel) (by decide +kernel)
set_option maxRecDepth 20000 in
theorem gX4_chances_X4_lowest : GoodIn wsX4_chances (wsV RX4 198 RX4 yX4_lowest wsX4_lowest) := goodIn_app (goodIn_of _ (by decide +kernel)) ggX4_chances_X4_lowest
theorem dX4_chances_0 : decode cX4_chances 0 = .ok (.lconst 0, 1) := by decide +kernel
theorem dX4_chances_1 : decode cX4_chances 1 = .ok (.lstore 4, 2) := by decide +kernel
theorem dX4_chances_3 : decode cX4_chances 3 = .ok (.lconst 1, 1) := by decide +kernel
theorem dX4_chances_4 : decode cX4_chances 4 = .ok (.lstore 6, 2) := by decide +kernel
theorem dX4_chances_6 : decode cX4_chances 6 = .ok (.iconst 0, 1) := by decide +kernel
theorem dX4_chances_7 : decode cX4_chances 7 = .ok (.istore 8, 2) := by decide +kernel
theorem dX4_chances_9 : decode cX4_chances 9 = .ok (.iload 8, 2) := by decide +kernel
theorem dX4_chances_11 : decode cX4_chances 11 = .ok (.aload_n 0, 1) := by decide +kernel
theorem dX4_chances_12 : decode cX4_chances 12 = .ok (.getfield 26, 3) := by decide +kernel
theorem dX4_chances_15 : decode cX4_chances 15 = .ok (.bipush 32, 2) := by decide +kernel
theorem dX4_chances_17 : decode cX4_chances 17 = .ok (.iaload, 1) := by decide +kernel
theorem dX4_chances_18 : decode cX4_chances 18 = .ok (.if_icmp .ge 17, 3) := by decide +kernel
theorem dX4_chances_21 : decode cX4_chances 21 = .ok (.lload 6, 2) := by decide +kernel
theorem dX4_chances_23 : decode cX4_chances 23 = .ok (.ldc2_w 196, 3) := by decide +kernel
theorem dX4_chances_26 : decode cX4_chances 26 = .ok (.lmul, 1) := by decide +kernel
theorem dX4_chances_27 : decode cX4_chances 27 = .ok (.lstore 6, 2) := by decide +kernel
theorem dX4_chances_29 : decode cX4_chances 29 = .ok (.iinc 8 1, 3) := by decide +kernel
theorem dX4_chances_32 : decode cX4_chances 32 = .ok (.goto (-23), 3) := by decide +kernel
theorem dX4_chances_35 : decode cX4_chances 35 = .ok (.iconst 0, 1) := by decide +kernel
theorem dX4_chances_36 : decode cX4_chances 36 = .ok (.istore 8, 2) := by decide +kernel
theorem dX4_chances_38 : decode cX4_chances 38 = .ok (.iload 8, 2) := by decide +kernel
theorem dX4_chances_40 : decode cX4_chances 40 = .ok (.iconst 1, 1) := by decide +kernel
theorem dX4_chances_41 : decode cX4_chances 41 = .ok (.aload_n 0, 1) := by decide +kernel
theorem dX4_chances_42 : decode cX4_chances 42 = .ok (.getfield 26, 3) := by decide +kernel
theorem dX4_chances_45 : decode cX4_chances 45 = .ok (.bipush 32, 2) := by decide +kernel
theorem dX4_chances_47 : decode cX4_chances 47 = .ok (.iaload, 1) := by decide +kernel
theorem dX4_chances_48 : decode cX4_chances 48 = .ok (.ishl, 1) := by decide +kernel
theorem dX4_chances_49 : decode cX4_chances 49 = .ok (.if_icmp .ge 180, 3) := by decide +kernel
theorem dX4_chances_52 : decode cX4_chances 52 = .ok (.lconst 1, 1) := by decide +kernel
theorem dX4_chances_53 : decode cX4_chances 53 = .ok (.lstore 9, 2) := by decide +kernel
theorem dX4_chances_55 : decode cX4_chances 55 = .ok (.aload_n 0, 1) := by decide +kernel
theorem dX4_chances_56 : decode cX4_chances 56 = .ok (.getfield 26, 3) := by decide +kernel
theorem dX4_chances_59 : decode cX4_chances 59 = .ok (.aload_n 0, 1) := by decide +kernel
theorem dX4_chances_60 : decode cX4_chances 60 = .ok (.getfield 32, 3) := by decide +kernel
theorem dX4_chances_63 : decode cX4_chances 63 = .ok (.invokestatic 165, 3) := by decide +kernel
theorem dX4_chances_66 : decode cX4_chances 66 = .ok (.aload_n 0, 1) := by decide +kernel
theorem dX4_chances_67 : decode cX4_chances 67 = .ok (.getfield 32, 3) := by decide +kernel
theorem dX4_chances_70 : decode cX4_chances 70 = .ok (.bipush 47, 2) := by decide +kernel
theorem dX4_chances_72 : decode cX4_chances 72 = .ok (.iload 8, 2) := by decide +kernel
theorem dX4_chances_74 : decode cX4_chances 74 = .ok (.iastore, 1) := by decide +kernel
theorem dX4_chances_75 : decode cX4_chances 75 = .ok (.iconst 0, 1) := by decide +kernel
theorem dX4_chances_76 : decode cX4_chances 76 = .ok (.istore 11, 2) := by decide +kernel
theorem dX4_chances_78 : decode cX4_chances 78 = .ok (.iload 11, 2) := by decide +kernel
theorem dX4_chances_80 : decode cX4_chances 80 = .ok (.aload_n 0, 1) := by decide +kernel
theorem dX4_chances_81 : decode cX4_chances 81 = .ok (.getfield 26, 3) := by decide +kernel
theorem dX4_chances_84 : decode cX4_chances 84 = .ok (.bipush 32, 2) := by decide +kernel
theorem dX4_chances_86 : decode cX4_chances 86 = .ok (.iaload, 1) := by decide +kernel
theorem dX4_chances_87 : decode cX4_chances 87 = .ok (.if_icmp .ge 68, 3) := by decide +kernel
theorem dX4_chances_90 : decode cX4_chances 90 = .ok (.lload 9, 2) := by decide +kernel
theorem dX4_chances_92 : decode cX4_chances 92 = .ok (.iload 8, 2) := by decide +kernel
theorem dX4_chances_94 : decode cX4_chances 94 = .ok (.iload 11, 2) := by decide +kernel
theorem dX4_chances_96 : decode cX4_chances 96 = .ok (.invokestatic 125, 3) := by decide +kernel
theorem dX4_chances_99 : decode cX4_chances 99 = .ok (.ifCond .eq 8, 3) := by decide +kernel
theorem dX4_chances_102 : decode cX4_chances 102 = .ok (.iload_n 2, 1) := by decide +kernel
theorem dX4_chances_103 : decode cX4_chances 103 = .ok (.i2l, 1) := by decide +kernel
theorem dX4_chances_104 : decode cX4_chances 104 = .ok (.goto 8, 3) := by decide +kernel
theorem dX4_chances_107 : decode cX4_chances 107 = .ok (.bipush 12, 2) := by decide +kernel
theorem dX4_chances_109 : decode cX4_chances 109 = .ok (.iload_n 2, 1) := by decide +kernel
theorem dX4_chances_110 : decode cX4_chances 110 = .ok (.isub, 1) := by decide +kernel
theorem dX4_chances_111 : decode cX4_chances 111 = .ok (.i2l, 1) := by decide +kernel
theorem dX4_chances_112 : decode cX4_chances 112 = .ok (.lmul, 1) := by decide +kernel
theorem dX4_chances_113 : decode cX4_chances 113 = .ok (.lstore 9, 2) := by decide +kernel
theorem dX4_chances_115 : decode cX4_chances 115 = .ok (.aload_n 0, 1) := by decide +kernel
theorem dX4_chances_116 : decode cX4_chances 116 = .ok (.getfield 32, 3) := by decide +kernel
theorem dX4_chances_119 : decode cX4_chances 119 = .ok (.bipush 11, 2) := by decide +kernel
theorem dX4_chances_121 : decode cX4_chances 121 = .ok (.iload 11, 2) := by decide +kernel
theorem dX4_chances_123 : decode cX4_chances 123 = .ok (.iadd, 1) := by decide +kernel
theorem dX4_chances_124 : decode cX4_chances 124 = .ok (.iload 8, 2) := by decide +kernel
theorem dX4_chances_126 : decode cX4_chances 126 = .ok (.iload 11, 2) := by decide +kernel
theorem dX4_chances_128 : decode cX4_chances 128 = .ok (.invokestatic 125, 3) := by decide +kernel
theorem dX4_chances_131 : decode cX4_chances 131 = .ok (.ifCond .eq 7, 3) := by decide +kernel
theorem dX4_chances_134 : decode cX4_chances 134 = .ok (.iconst 0, 1) := by decide +kernel
theorem dX4_chances_135 : decode cX4_chances 135 = .ok (.goto 13, 3) := by decide +kernel
theorem dX4_chances_138 : decode cX4_chances 138 = .ok (.aload_n 0, 1) := by decide +kernel
theorem dX4_chances_139 : decode cX4_chances 139 = .ok (.getfield 32, 3) := by decide +kernel
theorem dX4_chances_142 : decode cX4_chances 142 = .ok (.bipush 11, 2) := by decide +kernel
theorem dX4_chances_144 : decode cX4_chances 144 = .ok (.iload 11, 2) := by decide +kernel
theorem dX4_chances_146 : decode cX4_chances 146 = .ok (.iadd, 1) := by decide +kernel
theorem dX4_chances_147 : decode cX4_chances 147 = .ok (.iaload, 1) := by decide +kernel
theorem dX4_chances_148 : decode cX4_chances 148 = .ok (.iastore, 1) := by decide +kernel
theorem dX4_chances_149 : decode cX4_chances 149 = .ok (.iinc 11 1, 3) := by decide +kernel
theorem dX4_chances_152 : decode cX4_chances 152 = .ok (.goto (-74), 3) := by decide +kernel
theorem dX4_chances_155 : decode cX4_chances 155 = .ok (.iconst 0, 1) := by decide +kernel
theorem dX4_chances_156 : decode cX4_chances 156 = .ok (.istore 11, 2) := by decide +kernel
theorem dX4_chances_158 : decode cX4_chances 158 = .ok (.iload 11, 2) := by decide +kernel
theorem dX4_chances_160 : decode cX4_chances 160 = .ok (.iload_n 1, 1) := by decide +kernel
theorem dX4_chances_161 : decode cX4_chances 161 = .ok (.if_icmp .ge 17, 3) := by decide +kernel
theorem dX4_chances_164 : decode cX4_chances 164 = .ok (.aload_n 0, 1) := by decide +kernel
theorem dX4_chances_165 : decode cX4_chances 165 = .ok (.getfield 32, 3) := by decide +kernel
theorem dX4_chances_168 : decode cX4_chances 168 = .ok (.invokestatic 159, 3) := by decide +kernel
theorem dX4_chances_171 : decode cX4_chances 171 = .ok (.pop, 1) := by decide +kernel
theorem dX4_chances_172 : decode cX4_chances 172 = .ok (.iinc 11 1, 3) := by decide +kernel
theorem dX4_chances_175 : decode cX4_chances 175 = .ok (.goto (-17), 3) := by decide +kernel
theorem dX4_chances_178 : decode cX4_chances 178 = .ok (.lload 4, 2) := by decide +kernel
theorem dX4_chances_180 : decode cX4_chances 180 = .ok (.iload_n 3, 1) := by decide +kernel
theorem dX4_chances_181 : decode cX4_chances 181 = .ok (.ifCond .eq 23, 3) := by decide +kernel
theorem dX4_chances_184 : decode cX4_chances 184 = .ok (.lload 9, 2) := by decide +kernel
theorem dX4_chances_186 : decode cX4_chances 186 = .ok (.aload_n 0, 1) := by decide +kernel
theorem dX4_chances_187 : decode cX4_chances 187 = .ok (.getfield 32, 3) := by decide +kernel
theorem dX4_chances_190 : decode cX4_chances 190 = .ok (.iconst 2, 1) := by decide +kernel
theorem dX4_chances_191 : decode cX4_chances 191 = .ok (.iaload, 1) := by decide +kernel
theorem dX4_chances_192 : decode cX4_chances 192 = .ok (.aload_n 0, 1) := by decide +kernel
theorem dX4_chances_193 : decode cX4_chances 193 = .ok (.getfield 26, 3) := by decide +kernel
theorem dX4_chances_196 : decode cX4_chances 196 = .ok (.iconst 2, 1) := by decide +kernel
theorem dX4_chances_197 : decode cX4_chances 197 = .ok (.iaload, 1) := by decide +kernel
theorem dX4_chances_198 : decode cX4_chances 198 = .ok (.isub, 1) := by decide +kernel
theorem dX4_chances_199 : decode cX4_chances 199 = .ok (.i2l, 1) := by decide +kernel
theorem dX4_chances_200 : decode cX4_chances 200 = .ok (.lmul, 1) := by decide +kernel
theorem dX4_chances_201 : decode cX4_chances 201 = .ok (.goto 19, 3) := by decide +kernel
theorem dX4_chances_204 : decode cX4_chances 204 = .ok (.aload_n 0, 1) := by decide +kernel
theorem dX4_chances_205 : decode cX4_chances 205 = .ok (.getfield 32, 3) := by decide +kernel
theorem dX4_chances_208 : decode cX4_chances 208 = .ok (.invokestatic 169, 3) := by decide +kernel
theorem dX4_chances_211 : decode cX4_chances 211 = .ok (.ifCond .ne 8, 3) := by decide +kernel
theorem dX4_chances_214 : decode cX4_chances 214 = .ok (.lload 9, 2) := by decide +kernel
theorem dX4_chances_216 : decode cX4_chances 216 = .ok (.goto 4, 3) := by decide +kernel
theorem dX4_chances_219 : decode cX4_chances 219 = .ok (.lconst 0, 1) := by decide +kernel
theorem dX4_chances_220 : decode cX4_chances 220 = .ok (.ladd, 1) := by decide +kernel
theorem dX4_chances_221 : decode cX4_chances 221 = .ok (.lstore 4, 2) := by decide +kernel
theorem dX4_chances_223 : decode cX4_chances 223 = .ok (.iinc 8 1, 3) := by decide +kernel
theorem dX4_chances_226 : decode cX4_chances 226 = .ok (.goto (-188), 3) := by decide +kernel
theorem dX4_chances_229 : decode cX4_chances 229 = .ok (.aload_n 0, 1) := by decide +kernel
theorem dX4_chances_230 : decode cX4_chances 230 = .ok (.lload 4, 2) := by decide +kernel
theorem dX4_chances_232 : decode cX4_chances 232 = .ok (.lload 6, 2) := by decide +kernel
theorem dX4_chances_234 : decode cX4_chances 234 = .ok (.invokevirtual 198, 3) := by decide +kernel
theorem dX4_chances_237 : decode cX4_chances 237 = .ok (.return_, 1) := by decide +kernel
/-! X4_chances (IIZ)V -/
abbrev rmX4_chances : Room := { frames := 5, cells := 0, slots := 0, locals := 113 }
theorem lkX4_chances_0 : Cond.fieldLink RX4 26 (TX4 5).1 (TX4 5).2.1 (TX4 5).2.2.1 ∈ wsX4_chances := by decide +kernel
theorem lkX4_chances_1 : Cond.fieldLink RX4 32 (TX4 7).1 (TX4 7).2.1 (TX4 7).2.2.1 ∈ wsX4_chances := by decide +kernel
theorem lkX4_chances_2 : Cond.constantLong RX4 196 (12) ∈ wsX4_chances := by decide +kernel
theorem inX4_chances_X4 : ∀ w ∈ u_ws RX4 TX4 22, w ∈ wsX4_chances := by decide +kernel
noncomputable def fX4_chances_b220 (G : mm_G) (a0 : Nat) (x1 : Int32) (x2 : Int32) (x3 : Int32) (y6 : Int64) (x8 : Int32) (sy0 : Int64) (sy1 : Int64) (σ : mm_M) : Option (mm_M ⊕ ((Int64 × Int64 × Int32 × mm_M) ⊕ ((Int64 × Int64 × Int32 × mm_M) ⊕ ((Int64 × Int64 × Int32 × Int64 × Int32 × mm_M) ⊕ (Int64 × Int64 × Int32 × Int64 × Int32 × mm_M))))) := some (.inr (.inr (.inl (sy1 + sy0, y6, x8 + 1, σ))))
noncomputable def fX4_chances_b158 (G : mm_G) (a0 : Nat) (x1 : Int32) (x2 : Int32) (x3 : Int32) (y4 : Int64) (y6 : Int64) (x8 : Int32) (y9 : Int64) (x11 : Int32) (σ : mm_M) : Option (mm_M ⊕ ((Int64 × Int64 × Int32 × mm_M) ⊕ ((Int64 × Int64 × Int32 × mm_M) ⊕ ((Int64 × Int64 × Int32 × Int64 × Int32 × mm_M) ⊕ (Int64 × Int64 × Int32 × Int64 × Int32 × mm_M))))) := if x11 < x1 then ((fX4_goes G (mm_R G a0 7) σ).bind (fun q168 => some (.inr (.inr (.inr (.inr (y4, y6, x8, y9, x11 + 1, q168.2))))))) else (if x3 = 0 then ((fX4_lettersOf G (mm_R G a0 7) σ).bind (fun q208 => fX4_chances_b220 G a0 x1 x2 x3 y6 x8 (if q208.1 = 0 then y9 else (0 : Int64)) y4 q208.2)) else (if (2 : Int32) < 0 ∨ mm_N G (mm_R G a0 7) ≤ (2 : Int32).toNatClampNeg then none else (if (2 : Int32) < 0 ∨ mm_N G (mm_R G a0 5) ≤ (2 : Int32).toNatClampNeg then none else (fX4_chances_b220 G a0 x1 x2 x3 y6 x8 (y9 * (((σ.1 (mm_R G a0 7) (2 : Int32).toNatClampNeg) - (σ.1 (mm_R G a0 5) (2 : Int32).toNatClampNeg)).toInt64)) y4 σ))))
noncomputable def fX4_chances_b148 (G : mm_G) (a0 : Nat) (x1 : Int32) (x2 : Int32) (x3 : Int32) (y4 : Int64) (y6 : Int64) (x8 : Int32) (y9 : Int64) (x11 : Int32) (sx0 : Int32) (sx1 : Int32) (sa2 : Nat) (σ : mm_M) : Option (mm_M ⊕ ((Int64 × Int64 × Int32 × mm_M) ⊕ ((Int64 × Int64 × Int32 × mm_M) ⊕ ((Int64 × Int64 × Int32 × Int64 × Int32 × mm_M) ⊕ (Int64 × Int64 × Int32 × Int64 × Int32 × mm_M))))) := if sx1 < 0 ∨ mm_N G sa2 ≤ sx1.toNatClampNeg then none else (some (.inr (.inr (.inr (.inl (y4, y6, x8, y9, x11 + 1, mm_up σ sa2 sx1.toNatClampNeg sx0))))))
noncomputable def fX4_chances_b112 (G : mm_G) (a0 : Nat) (x1 : Int32) (x2 : Int32) (x3 : Int32) (y4 : Int64) (y6 : Int64) (x8 : Int32) (x11 : Int32) (sy0 : Int64) (sy1 : Int64) (σ : mm_M) : Option (mm_M ⊕ ((Int64 × Int64 × Int32 × mm_M) ⊕ ((Int64 × Int64 × Int32 × mm_M) ⊕ ((Int64 × Int64 × Int32 × Int64 × Int32 × mm_M) ⊕ (Int64 × Int64 × Int32 × Int64 × Int32 × mm_M))))) := (fX4_has G x8 x11 σ).bind (fun q128 => if q128.1 = 0 then (if ((11 : Int32) + x11) < 0 ∨ mm_N G (mm_R G a0 7) ≤ ((11 : Int32) + x11).toNatClampNeg then none else (fX4_chances_b148 G a0 x1 x2 x3 y4 y6 x8 (sy1 * sy0) x11 (q128.2.1 (mm_R G a0 7) ((11 : Int32) + x11).toNatClampNeg) ((11 : Int32) + x11) (mm_R G a0 7) q128.2)) else (fX4_chances_b148 G a0 x1 x2 x3 y4 y6 x8 (sy1 * sy0) x11 (0 : Int32) ((11 : Int32) + x11) (mm_R G a0 7) q128.2))
noncomputable def fX4_chances_b78 (G : mm_G) (a0 : Nat) (x1 : Int32) (x2 : Int32) (x3 : Int32) (y4 : Int64) (y6 : Int64) (x8 : Int32) (y9 : Int64) (x11 : Int32) (σ : mm_M) : Option (mm_M ⊕ ((Int64 × Int64 × Int32 × mm_M) ⊕ ((Int64 × Int64 × Int32 × mm_M) ⊕ ((Int64 × Int64 × Int32 × Int64 × Int32 × mm_M) ⊕ (Int64 × Int64 × Int32 × Int64 × Int32 × mm_M))))) := if (32 : Int32) < 0 ∨ mm_N G (mm_R G a0 5) ≤ (32 : Int32).toNatClampNeg then none else (if x11 < (σ.1 (mm_R G a0 5) (32 : Int32).toNatClampNeg) then ((fX4_has G x8 x11 σ).bind (fun q96 => fX4_chances_b112 G a0 x1 x2 x3 y4 y6 x8 x11 (if q96.1 = 0 then ((12 : Int32) - x2).toInt64 else x2.toInt64) y9 q96.2)) else (some (.inr (.inr (.inr (.inr (y4, y6, x8, y9, (0 : Int32), σ)))))))
noncomputable def fX4_chances_b38 (G : mm_G) (a0 : Nat) (x1 : Int32) (x2 : Int32) (x3 : Int32) (y4 : Int64) (y6 : Int64) (x8 : Int32) (σ : mm_M) : Option (mm_M ⊕ ((Int64 × Int64 × Int32 × mm_M) ⊕ ((Int64 × Int64 × Int32 × mm_M) ⊕ ((Int64 × Int64 × Int32 × Int64 × Int32 × mm_M) ⊕ (Int64 × Int64 × Int32 × Int64 × Int32 × mm_M))))) := if (32 : Int32) < 0 ∨ mm_N G (mm_R G a0 5) ≤ (32 : Int32).toNatClampNeg then none else (if x8 < ((1 : Int32) <<< ((σ.1 (mm_R G a0 5) (32 : Int32).toNatClampNeg) &&& 31)) then ((fX4_copies G (mm_R G a0 5) (mm_R G a0 7) σ).bind (fun q63 => if (47 : Int32) < 0 ∨ mm_N G (mm_R G a0 7) ≤ (47 : Int32).toNatClampNeg then none else (some (.inr (.inr (.inr (.inl (y4, y6, x8, (1 : Int64), (0 : Int32), mm_up q63 (mm_R G a0 7) (47 : Int32).toNatClampNeg x8)))))))) else ((fX4_lowest G a0 y4 y6 σ).bind (fun q234 => some (.inl q234))))
noncomputable def fX4_chances_b9 (G : mm_G) (a0 : Nat) (x1 : Int32) (x2 : Int32) (x3 : Int32) (y4 : Int64) (y6 : Int64) (x8 : Int32) (σ : mm_M) : Option (mm_M ⊕ ((Int64 × Int64 × Int32 × mm_M) ⊕ ((Int64 × Int64 × Int32 × mm_M) ⊕ ((Int64 × Int64 × Int32 × Int64 × Int32 × mm_M) ⊕ (Int64 × Int64 × Int32 × Int64 × Int32 × mm_M))))) := if (32 : Int32) < 0 ∨ mm_N G (mm_R G a0 5) ≤ (32 : Int32).toNatClampNeg then none else (if x8 < (σ.1 (mm_R G a0 5) (32 : Int32).toNatClampNeg) then (some (.inr (.inl (y4, y6 * (12 : Int64), x8 + 1, σ)))) else (some (.inr (.inr (.inl (y4, y6, (0 : Int32), σ))))))
noncomputable def fX4_chances_b0 (G : mm_G) (a0 : Nat) (x1 : Int32) (x2 : Int32) (x3 : Int32) (σ : mm_M) : Option (mm_M ⊕ ((Int64 × Int64 × Int32 × mm_M) ⊕ ((Int64 × Int64 × Int32 × mm_M) ⊕ ((Int64 × Int64 × Int32 × Int64 × Int32 × mm_M) ⊕ (Int64 × Int64 × Int32 × Int64 × Int32 × mm_M))))) := some (.inr (.inl ((0 : Int64), (1 : Int64), (0 : Int32), σ)))
noncomputable def fX4_chances_s (G : mm_G) (a0 : Nat) (x1 : Int32) (x2 : Int32) (x3 : Int32) : ((Int64 × Int64 × Int32 × mm_M) ⊕ ((Int64 × Int64 × Int32 × mm_M) ⊕ ((Int64 × Int64 × Int32 × Int64 × Int32 × mm_M) ⊕ (Int64 × Int64 × Int32 × Int64 × Int32 × mm_M)))) → Option (mm_M ⊕ ((Int64 × Int64 × Int32 × mm_M) ⊕ ((Int64 × Int64 × Int32 × mm_M) ⊕ ((Int64 × Int64 × Int32 × Int64 × Int32 × mm_M) ⊕ (Int64 × Int64 × Int32 × Int64 × Int32 × mm_M))))) := (Sum.elim (fun s => fX4_chances_b9 G a0 x1 x2 x3 s.1 s.2.1 s.2.2.1 s.2.2.2) (Sum.elim (fun s => fX4_chances_b38 G a0 x1 x2 x3 s.1 s.2.1 s.2.2.1 s.2.2.2) (Sum.elim (fun s => fX4_chances_b78 G a0 x1 x2 x3 s.1 s.2.1 s.2.2.1 s.2.2.2.1 s.2.2.2.2.1 s.2.2.2.2.2) (fun s => fX4_chances_b158 G a0 x1 x2 x3 s.1 s.2.1 s.2.2.1 s.2.2.2.1 s.2.2.2.2.1 s.2.2.2.2.2))))
def PX4_chances (E : mm_E) (G : mm_G) (a0 : Nat) (x1 : Int32) (x2 : Int32) (x3 : Int32) (q : mm_M) : ((Int64 × Int64 × Int32 × mm_M) ⊕ ((Int64 × Int64 × Int32 × mm_M) ⊕ ((Int64 × Int64 × Int32 × Int64 × Int32 × mm_M) ⊕ (Int64 × Int64 × Int32 × Int64 × Int32 × mm_M)))) → Prop := (Sum.elim (fun s => mm_At E G 12 (mm_Qv E G q) s.2.2.2 9 [(0, .ref a0), (1, .int x1), (2, .int x2), (3, .int x3), (4, .long s.1), (6, .long s.2.1), (8, .int s.2.2.1)] []) (Sum.elim (fun s => mm_At E G 12 (mm_Qv E G q) s.2.2.2 38 [(0, .ref a0), (1, .int x1), (2, .int x2), (3, .int x3), (4, .long s.1), (6, .long s.2.1), (8, .int s.2.2.1)] []) (Sum.elim (fun s => mm_At E G 12 (mm_Qv E G q) s.2.2.2.2.2 78 [(0, .ref a0), (1, .int x1), (2, .int x2), (3, .int x3), (4, .long s.1), (6, .long s.2.1), (8, .int s.2.2.1), (9, .long s.2.2.2.1), (11, .int s.2.2.2.2.1)] []) (fun s => mm_At E G 12 (mm_Qv E G q) s.2.2.2.2.2 158 [(0, .ref a0), (1, .int x1), (2, .int x2), (3, .int x3), (4, .long s.1), (6, .long s.2.1), (8, .int s.2.2.1), (9, .long s.2.2.2.1), (11, .int s.2.2.2.2.1)] []))))
noncomputable def fX4_chances (G : mm_G) (a0 : Nat) (x1 : Int32) (x2 : Int32) (x3 : Int32) (σ : mm_M) : Option mm_M := mm_run (fX4_chances_b0 G a0 x1 x2 x3 σ) (fX4_chances_s G a0 x1 x2 x3)
set_option maxHeartbeats 4000000 in
set_option maxRecDepth 100000 in
theorem wX4_chances_b220 {E : mm_E} {G : mm_G} (X : mm_Cx E G cX4_chances 12 RX4 wsX4_chances rmX4_chances (none)) {a0 : Nat} {x1 : Int32} {x2 : Int32} {x3 : Int32} {y6 : Int64} {x8 : Int32} {sy0 : Int64} {sy1 : Int64} {σ : mm_M} {q : mm_M} (ha0 : mm_Is G 4 a0) {o : mm_M ⊕ ((Int64 × Int64 × Int32 × mm_M) ⊕ ((Int64 × Int64 × Int32 × mm_M) ⊕ ((Int64 × Int64 × Int32 × Int64 × Int32 × mm_M) ⊕ (Int64 × Int64 × Int32 × Int64 × Int32 × mm_M))))} (h : fX4_chances_b220 G a0 x1 x2 x3 y6 x8 sy0 sy1 σ = some o) (hk : mm_Ok q (PX4_chances E G a0 x1 x2 x3 q) o) : mm_At E G 12 (mm_Qv E G q) σ 220 [(0, .ref a0), (1, .int x1), (2, .int x2), (3, .int x3), (6, .long y6), (8, .int x8)] [.long sy0, .long sy1] := by
  unfold fX4_chances_b220 at h
  refine at_ladd (pc := 220) X dX4_chances_220 ?_
  refine at_lstore (pc := 221) X 4 [(4, .long (sy1 + sy0)), (0, .ref a0), (1, .int x1), (2, .int x2), (3, .int x3), (6, .long y6), (8, .int x8)] dX4_chances_221 (by decide) rfl ?_
  refine at_iinc (pc := 223) X 8 6 (x8 + 1) [(8, .int (x8 + 1)), (4, .long (sy1 + sy0)), (0, .ref a0), (1, .int x1), (2, .int x2), (3, .int x3), (6, .long y6)] dX4_chances_223 rfl (ii_1 _) (by decide) rfl ?_
  refine at_goto (pc := 226) X 38 dX4_chances_226 (by decide) ?_
  have h2 := mm_inr h hk; exact at_sub [2, 3, 4, 5, 1, 6, 0] rfl h2
set_option maxHeartbeats 4000000 in
set_option maxRecDepth 100000 in
theorem wX4_chances_b158 {E : mm_E} {G : mm_G} (X : mm_Cx E G cX4_chances 12 RX4 wsX4_chances rmX4_chances (none)) {a0 : Nat} {x1 : Int32} {x2 : Int32} {x3 : Int32} {y4 : Int64} {y6 : Int64} {x8 : Int32} {y9 : Int64} {x11 : Int32} {σ : mm_M} {q : mm_M} (ha0 : mm_Is G 4 a0) {o : mm_M ⊕ ((Int64 × Int64 × Int32 × mm_M) ⊕ ((Int64 × Int64 × Int32 × mm_M) ⊕ ((Int64 × Int64 × Int32 × Int64 × Int32 × mm_M) ⊕ (Int64 × Int64 × Int32 × Int64 × Int32 × mm_M))))} (h : fX4_chances_b158 G a0 x1 x2 x3 y4 y6 x8 y9 x11 σ = some o) (hk : mm_Ok q (PX4_chances E G a0 x1 x2 x3 q) o) : mm_At E G 12 (mm_Qv E G q) σ 158 [(0, .ref a0), (1, .int x1), (2, .int x2), (3, .int x3), (4, .long y4), (6, .long y6), (8, .int x8), (9, .long y9), (11, .int x11)] [] := by
  unfold fX4_chances_b158 at h
  refine at_iload (pc := 158) X 11 8 dX4_chances_158 rfl ?_
  refine at_iload_n (pc := 160) X 1 1 dX4_chances_160 rfl rfl ?_
  refine at_icmp_ge (pc := 161) X 178 dX4_chances_161 (by decide) (fun c161 => ?_) (fun c161 => ?_)
  · have h := mm_neg c161 h
    refine at_lload (pc := 178) X 4 4 dX4_chances_178 rfl ?_
    refine at_iload_n (pc := 180) X 3 3 dX4_chances_180 rfl rfl ?_
    refine at_if_eq (pc := 181) X 204 dX4_chances_181 (by decide) (fun c181 => ?_) (fun c181 => ?_)
    · have h := mm_pos c181 h
      refine at_aload_n (pc := 204) X 0 0 dX4_chances_204 rfl rfl ?_
      refine at_get (pc := 205) X 4 7 (.ref (mm_R G a0 7)) ha0 (by decide) rfl inX4_chances_X4 (by decide) lkX4_chances_1 rfl dX4_chances_205 ?_
      obtain ⟨q208, hq208, h⟩ := mm_bind h
      refine at_scalli (n := 1) (pc := 208) X [.ref (mm_R G a0 7)] [.long y4] (mX4_lettersOf (eL E) X.wf (wf_4_7 X.wf ha0) hq208) gX4_chances_X4_lettersOf rfl ⟨rfl, rfl⟩ (by decide +kernel) ⟨by decide, by decide⟩ rfl rfl (Nat.le_of_ble_eq_true rfl) dX4_chances_208 ?_
      have hj211 : mm_At E G 12 (mm_Qv E G q) q208.2 220 [(0, .ref a0), (1, .int x1), (2, .int x2), (3, .int x3), (6, .long y6), (8, .int x8)] [.long (if q208.1 = 0 then y9 else (0 : Int64)), .long y4] := by
        exact at_sub [0, 1, 2, 3, 4, 5] rfl (wX4_chances_b220 X ha0 h hk)
      refine at_if_ne (pc := 211) X 219 dX4_chances_211 (by decide) (fun c211 => ?_) (fun c211 => ?_)
      · try simp only [if_neg c211] at hj211
        refine at_lconst (pc := 219) X (0 : Int64) dX4_chances_219 (by decide) ?_
        exact at_sub [0, 1, 2, 3, 5, 6] rfl hj211
      · try simp only [if_pos c211] at hj211
        refine at_lload (pc := 214) X 9 7 dX4_chances_214 rfl ?_
        refine at_goto (pc := 216) X 220 dX4_chances_216 (by decide) ?_
        exact at_sub [0, 1, 2, 3, 5, 6] rfl hj211
    · have h := mm_neg c181 h
      refine at_lload (pc := 184) X 9 7 dX4_chances_184 rfl ?_
      refine at_aload_n (pc := 186) X 0 0 dX4_chances_186 rfl rfl ?_
      refine at_get (pc := 187) X 4 7 (.ref (mm_R G a0 7)) ha0 (by decide) rfl inX4_chances_X4 (by decide) lkX4_chances_1 rfl dX4_chances_187 ?_
      refine at_iconst (pc := 190) X (2 : Int32) dX4_chances_190 ic_2 ?_
      obtain ⟨hc191, h⟩ := mm_chk h
      refine at_iald (pc := 191) X (wf_4_7 X.wf ha0) hc191 dX4_chances_191 ?_
      refine at_aload_n (pc := 192) X 0 0 dX4_chances_192 rfl rfl ?_
      refine at_get (pc := 193) X 4 5 (.ref (mm_R G a0 5)) ha0 (by decide) rfl inX4_chances_X4 (by decide) lkX4_chances_0 rfl dX4_chances_193 ?_
      refine at_iconst (pc := 196) X (2 : Int32) dX4_chances_196 ic_2 ?_
      obtain ⟨hc197, h⟩ := mm_chk h
      refine at_iald (pc := 197) X (wf_4_5 X.wf ha0) hc197 dX4_chances_197 ?_
      refine at_isub (pc := 198) X dX4_chances_198 ?_
      refine at_i2l (pc := 199) X dX4_chances_199 ?_
      refine at_lmul (pc := 200) X dX4_chances_200 ?_
      refine at_goto (pc := 201) X 220 dX4_chances_201 (by decide) ?_
      exact at_sub [0, 1, 2, 3, 5, 6] rfl (wX4_chances_b220 X ha0 h hk)
  · have h := mm_pos c161 h
    refine at_aload_n (pc := 164) X 0 0 dX4_chances_164 rfl rfl ?_
    refine at_get (pc := 165) X 4 7 (.ref (mm_R G a0 7)) ha0 (by decide) rfl inX4_chances_X4 (by decide) lkX4_chances_1 rfl dX4_chances_165 ?_
    obtain ⟨q168, hq168, h⟩ := mm_bind h
    refine at_scalli (n := 1) (pc := 168) X [.ref (mm_R G a0 7)] [] (mX4_goes (eL E) X.wf (wf_4_7 X.wf ha0) hq168) gX4_chances_X4_goes rfl ⟨rfl, rfl⟩ (by decide +kernel) ⟨by decide, by decide⟩ rfl rfl (Nat.le_of_ble_eq_true rfl) dX4_chances_168 ?_
    refine at_pop (pc := 171) X dX4_chances_171 rfl ?_
    refine at_iinc (pc := 172) X 11 8 (x11 + 1) [(11, .int (x11 + 1)), (0, .ref a0), (1, .int x1), (2, .int x2), (3, .int x3), (4, .long y4), (6, .long y6), (8, .int x8), (9, .long y9)] dX4_chances_172 rfl (ii_1 _) (by decide) rfl ?_
    refine at_goto (pc := 175) X 158 dX4_chances_175 (by decide) ?_
    have h2 := mm_inr h hk; exact at_sub [1, 2, 3, 4, 5, 6, 7, 8, 0] rfl h2
set_option maxHeartbeats 4000000 in
set_option maxRecDepth 100000 in
theorem wX4_chances_b148 {E : mm_E} {G : mm_G} (X : mm_Cx E G cX4_chances 12 RX4 wsX4_chances rmX4_chances (none)) {a0 : Nat} {x1 : Int32} {x2 : Int32} {x3 : Int32} {y4 : Int64} {y6 : Int64} {x8 : Int32} {y9 : Int64} {x11 : Int32} {sx0 : Int32} {sx1 : Int32} {sa2 : Nat} {σ : mm_M} {q : mm_M} (ha0 : mm_Is G 4 a0) (hsa2 : mm_Is G 6 sa2) {o : mm_M ⊕ ((Int64 × Int64 × Int32 × mm_M) ⊕ ((Int64 × Int64 × Int32 × mm_M) ⊕ ((Int64 × Int64 × Int32 × Int64 × Int32 × mm_M) ⊕ (Int64 × Int64 × Int32 × Int64 × Int32 × mm_M))))} (h : fX4_chances_b148 G a0 x1 x2 x3 y4 y6 x8 y9 x11 sx0 sx1 sa2 σ = some o) (hk : mm_Ok q (PX4_chances E G a0 x1 x2 x3 q) o) : mm_At E G 12 (mm_Qv E G q) σ 148 [(0, .ref a0), (1, .int x1), (2, .int x2), (3, .int x3), (4, .long y4), (6, .long y6), (8, .int x8), (9, .long y9), (11, .int x11)] [.int sx0, .int sx1, .ref sa2] := by
  unfold fX4_chances_b148 at h
  obtain ⟨hc148, h⟩ := mm_chk h
  refine at_iast (pc := 148) X hsa2 hc148 dX4_chances_148 ?_
  refine at_iinc (pc := 149) X 11 8 (x11 + 1) [(11, .int (x11 + 1)), (0, .ref a0), (1, .int x1), (2, .int x2), (3, .int x3), (4, .long y4), (6, .long y6), (8, .int x8), (9, .long y9)] dX4_chances_149 rfl (ii_1 _) (by decide) rfl ?_
  refine at_goto (pc := 152) X 78 dX4_chances_152 (by decide) ?_
  have h2 := mm_inr h hk; exact at_sub [1, 2, 3, 4, 5, 6, 7, 8, 0] rfl h2
set_option maxHeartbeats 4000000 in
set_option maxRecDepth 100000 in
theorem wX4_chances_b112 {E : mm_E} {G : mm_G} (X : mm_Cx E G cX4_chances 12 RX4 wsX4_chances rmX4_chances (none)) {a0 : Nat} {x1 : Int32} {x2 : Int32} {x3 : Int32} {y4 : Int64} {y6 : Int64} {x8 : Int32} {x11 : Int32} {sy0 : Int64} {sy1 : Int64} {σ : mm_M} {q : mm_M} (ha0 : mm_Is G 4 a0) {o : mm_M ⊕ ((Int64 × Int64 × Int32 × mm_M) ⊕ ((Int64 × Int64 × Int32 × mm_M) ⊕ ((Int64 × Int64 × Int32 × Int64 × Int32 × mm_M) ⊕ (Int64 × Int64 × Int32 × Int64 × Int32 × mm_M))))} (h : fX4_chances_b112 G a0 x1 x2 x3 y4 y6 x8 x11 sy0 sy1 σ = some o) (hk : mm_Ok q (PX4_chances E G a0 x1 x2 x3 q) o) : mm_At E G 12 (mm_Qv E G q) σ 112 [(0, .ref a0), (1, .int x1), (2, .int x2), (3, .int x3), (4, .long y4), (6, .long y6), (8, .int x8), (11, .int x11)] [.long sy0, .long sy1] := by
  unfold fX4_chances_b112 at h
  refine at_lmul (pc := 112) X dX4_chances_112 ?_
  refine at_lstore (pc := 113) X 9 [(9, .long (sy1 * sy0)), (0, .ref a0), (1, .int x1), (2, .int x2), (3, .int x3), (4, .long y4), (6, .long y6), (8, .int x8), (11, .int x11)] dX4_chances_113 (by decide) rfl ?_
  refine at_aload_n (pc := 115) X 0 1 dX4_chances_115 rfl rfl ?_
  refine at_get (pc := 116) X 4 7 (.ref (mm_R G a0 7)) ha0 (by decide) rfl inX4_chances_X4 (by decide) lkX4_chances_1 rfl dX4_chances_116 ?_
  refine at_bipush (pc := 119) X (11 : Int32) dX4_chances_119 ib_11 ?_
  refine at_iload (pc := 121) X 11 8 dX4_chances_121 rfl ?_
  refine at_iadd (pc := 123) X dX4_chances_123 ?_
  refine at_iload (pc := 124) X 8 7 dX4_chances_124 rfl ?_
  refine at_iload (pc := 126) X 11 8 dX4_chances_126 rfl ?_
  obtain ⟨q128, hq128, h⟩ := mm_bind h
  refine at_scalli (n := 2) (pc := 128) X [.int x8, .int x11] [.int ((11 : Int32) + x11), .ref (mm_R G a0 7)] (mX4_has (eL E) X.wf hq128) gX4_chances_X4_has rfl ⟨rfl, rfl⟩ (by decide +kernel) ⟨by decide, by decide⟩ rfl rfl (Nat.le_of_ble_eq_true rfl) dX4_chances_128 ?_
  refine at_if_eq (pc := 131) X 138 dX4_chances_131 (by decide) (fun c131 => ?_) (fun c131 => ?_)
  · have h := mm_pos c131 h
    refine at_aload_n (pc := 138) X 0 1 dX4_chances_138 rfl rfl ?_
    refine at_get (pc := 139) X 4 7 (.ref (mm_R G a0 7)) ha0 (by decide) rfl inX4_chances_X4 (by decide) lkX4_chances_1 rfl dX4_chances_139 ?_
    refine at_bipush (pc := 142) X (11 : Int32) dX4_chances_142 ib_11 ?_
    refine at_iload (pc := 144) X 11 8 dX4_chances_144 rfl ?_
    refine at_iadd (pc := 146) X dX4_chances_146 ?_
    obtain ⟨hc147, h⟩ := mm_chk h
    refine at_iald (pc := 147) X (wf_4_7 X.wf ha0) hc147 dX4_chances_147 ?_
    exact at_sub [1, 2, 3, 4, 5, 6, 7, 0, 8] rfl (wX4_chances_b148 X ha0 (wf_4_7 X.wf ha0) h hk)
  · have h := mm_neg c131 h
    refine at_iconst (pc := 134) X (0 : Int32) dX4_chances_134 ic_0 ?_
    refine at_goto (pc := 135) X 148 dX4_chances_135 (by decide) ?_
    exact at_sub [1, 2, 3, 4, 5, 6, 7, 0, 8] rfl (wX4_chances_b148 X ha0 (wf_4_7 X.wf ha0) h hk)
set_option maxHeartbeats 4000000 in
set_option maxRecDepth 100000 in
theorem wX4_chances_b78 {E : mm_E} {G : mm_G} (X : mm_Cx E G cX4_chances 12 RX4 wsX4_chances rmX4_chances (none)) {a0 : Nat} {x1 : Int32} {x2 : Int32} {x3 : Int32} {y4 : Int64} {y6 : Int64} {x8 : Int32} {y9 : Int64} {x11 : Int32} {σ : mm_M} {q : mm_M} (ha0 : mm_Is G 4 a0) {o : mm_M ⊕ ((Int64 × Int64 × Int32 × mm_M) ⊕ ((Int64 × Int64 × Int32 × mm_M) ⊕ ((Int64 × Int64 × Int32 × Int64 × Int32 × mm_M) ⊕ (Int64 × Int64 × Int32 × Int64 × Int32 × mm_M))))} (h : fX4_chances_b78 G a0 x1 x2 x3 y4 y6 x8 y9 x11 σ = some o) (hk : mm_Ok q (PX4_chances E G a0 x1 x2 x3 q) o) : mm_At E G 12 (mm_Qv E G q) σ 78 [(0, .ref a0), (1, .int x1), (2, .int x2), (3, .int x3), (4, .long y4), (6, .long y6), (8, .int x8), (9, .long y9), (11, .int x11)] [] := by
  unfold fX4_chances_b78 at h
  refine at_iload (pc := 78) X 11 8 dX4_chances_78 rfl ?_
  refine at_aload_n (pc := 80) X 0 0 dX4_chances_80 rfl rfl ?_
  refine at_get (pc := 81) X 4 5 (.ref (mm_R G a0 5)) ha0 (by decide) rfl inX4_chances_X4 (by decide) lkX4_chances_0 rfl dX4_chances_81 ?_
  refine at_bipush (pc := 84) X (32 : Int32) dX4_chances_84 ib_32 ?_
  obtain ⟨hc86, h⟩ := mm_chk h
  refine at_iald (pc := 86) X (wf_4_5 X.wf ha0) hc86 dX4_chances_86 ?_
  refine at_icmp_ge (pc := 87) X 155 dX4_chances_87 (by decide) (fun c87 => ?_) (fun c87 => ?_)
  · have h := mm_neg c87 h
    refine at_iconst (pc := 155) X (0 : Int32) dX4_chances_155 ic_0 ?_
    refine at_istore (pc := 156) X 11 [(11, .int (0 : Int32)), (0, .ref a0), (1, .int x1), (2, .int x2), (3, .int x3), (4, .long y4), (6, .long y6), (8, .int x8), (9, .long y9)] dX4_chances_156 (by decide) rfl ?_
    have h2 := mm_inr h hk; exact at_sub [1, 2, 3, 4, 5, 6, 7, 8, 0] rfl h2
  · have h := mm_pos c87 h
    refine at_lload (pc := 90) X 9 7 dX4_chances_90 rfl ?_
    refine at_iload (pc := 92) X 8 6 dX4_chances_92 rfl ?_
    refine at_iload (pc := 94) X 11 8 dX4_chances_94 rfl ?_
    obtain ⟨q96, hq96, h⟩ := mm_bind h
    refine at_scalli (n := 2) (pc := 96) X [.int x8, .int x11] [.long y9] (mX4_has (eL E) X.wf hq96) gX4_chances_X4_has rfl ⟨rfl, rfl⟩ (by decide +kernel) ⟨by decide, by decide⟩ rfl rfl (Nat.le_of_ble_eq_true rfl) dX4_chances_96 ?_
    have hj99 : mm_At E G 12 (mm_Qv E G q) q96.2 112 [(0, .ref a0), (1, .int x1), (2, .int x2), (3, .int x3), (4, .long y4), (6, .long y6), (8, .int x8), (11, .int x11)] [.long (if q96.1 = 0 then ((12 : Int32) - x2).toInt64 else x2.toInt64), .long y9] := by
      exact at_sub [0, 1, 2, 3, 4, 5, 6, 7] rfl (wX4_chances_b112 X ha0 h hk)
    refine at_if_eq (pc := 99) X 107 dX4_chances_99 (by decide) (fun c99 => ?_) (fun c99 => ?_)
    · try simp only [if_pos c99] at hj99
      refine at_bipush (pc := 107) X (12 : Int32) dX4_chances_107 ib_12 ?_
      refine at_iload_n (pc := 109) X 2 2 dX4_chances_109 rfl rfl ?_
      refine at_isub (pc := 110) X dX4_chances_110 ?_
      refine at_i2l (pc := 111) X dX4_chances_111 ?_
      exact at_sub [0, 1, 2, 3, 4, 5, 6, 8] rfl hj99
    · try simp only [if_neg c99] at hj99
      refine at_iload_n (pc := 102) X 2 2 dX4_chances_102 rfl rfl ?_
      refine at_i2l (pc := 103) X dX4_chances_103 ?_
      refine at_goto (pc := 104) X 112 dX4_chances_104 (by decide) ?_
      exact at_sub [0, 1, 2, 3, 4, 5, 6, 8] rfl hj99
set_option maxHeartbeats 4000000 in
set_option maxRecDepth 100000 in
theorem wX4_chances_b38 {E : mm_E} {G : mm_G} (X : mm_Cx E G cX4_chances 12 RX4 wsX4_chances rmX4_chances (none)) {a0 : Nat} {x1 : Int32} {x2 : Int32} {x3 : Int32} {y4 : Int64} {y6 : Int64} {x8 : Int32} {σ : mm_M} {q : mm_M} (ha0 : mm_Is G 4 a0) {o : mm_M ⊕ ((Int64 × Int64 × Int32 × mm_M) ⊕ ((Int64 × Int64 × Int32 × mm_M) ⊕ ((Int64 × Int64 × Int32 × Int64 × Int32 × mm_M) ⊕ (Int64 × Int64 × Int32 × Int64 × Int32 × mm_M))))} (h : fX4_chances_b38 G a0 x1 x2 x3 y4 y6 x8 σ = some o) (hk : mm_Ok q (PX4_chances E G a0 x1 x2 x3 q) o) : mm_At E G 12 (mm_Qv E G q) σ 38 [(0, .ref a0), (1, .int x1), (2, .int x2), (3, .int x3), (4, .long y4), (6, .long y6), (8, .int x8)] [] := by
  unfold fX4_chances_b38 at h
  refine at_iload (pc := 38) X 8 6 dX4_chances_38 rfl ?_
  refine at_iconst (pc := 40) X (1 : Int32) dX4_chances_40 ic_1 ?_
  refine at_aload_n (pc := 41) X 0 0 dX4_chances_41 rfl rfl ?_
  refine at_get (pc := 42) X 4 5 (.ref (mm_R G a0 5)) ha0 (by decide) rfl inX4_chances_X4 (by decide) lkX4_chances_0 rfl dX4_chances_42 ?_
  refine at_bipush (pc := 45) X (32 : Int32) dX4_chances_45 ib_32 ?_
  obtain ⟨hc47, h⟩ := mm_chk h
  refine at_iald (pc := 47) X (wf_4_5 X.wf ha0) hc47 dX4_chances_47 ?_
  refine at_ishl (pc := 48) X dX4_chances_48 ?_
  refine at_icmp_ge (pc := 49) X 229 dX4_chances_49 (by decide) (fun c49 => ?_) (fun c49 => ?_)
  · have h := mm_neg c49 h
    refine at_aload_n (pc := 229) X 0 0 dX4_chances_229 rfl rfl ?_
    refine at_lload (pc := 230) X 4 4 dX4_chances_230 rfl ?_
    refine at_lload (pc := 232) X 6 5 dX4_chances_232 rfl ?_
    obtain ⟨q234, hq234, h⟩ := mm_bind h
    refine at_callv (n := 2) (pc := 234) X 4 [.long y4, .long y6] [] (mX4_lowest (eL E) X.wf ha0 hq234) gX4_chances_X4_lowest rfl ⟨rfl, rfl⟩ (by decide +kernel) ⟨by decide, by decide⟩ (by decide) rfl ha0 rfl rfl (Nat.le_of_ble_eq_true rfl) dX4_chances_234 ?_
    exact at_vret (pc := 237) X (mm_inl h hk) dX4_chances_237
  · have h := mm_pos c49 h
    refine at_lconst (pc := 52) X (1 : Int64) dX4_chances_52 (by decide) ?_
    refine at_lstore (pc := 53) X 9 [(9, .long (1 : Int64)), (0, .ref a0), (1, .int x1), (2, .int x2), (3, .int x3), (4, .long y4), (6, .long y6), (8, .int x8)] dX4_chances_53 (by decide) rfl ?_
    refine at_aload_n (pc := 55) X 0 1 dX4_chances_55 rfl rfl ?_
    refine at_get (pc := 56) X 4 5 (.ref (mm_R G a0 5)) ha0 (by decide) rfl inX4_chances_X4 (by decide) lkX4_chances_0 rfl dX4_chances_56 ?_
    refine at_aload_n (pc := 59) X 0 1 dX4_chances_59 rfl rfl ?_
    refine at_get (pc := 60) X 4 7 (.ref (mm_R G a0 7)) ha0 (by decide) rfl inX4_chances_X4 (by decide) lkX4_chances_1 rfl dX4_chances_60 ?_
    obtain ⟨q63, hq63, h⟩ := mm_bind h
    refine at_scallv (n := 2) (pc := 63) X [.ref (mm_R G a0 5), .ref (mm_R G a0 7)] [] (mX4_copies (eL E) X.wf (wf_4_5 X.wf ha0) (wf_4_7 X.wf ha0) hq63) gX4_chances_X4_copies rfl ⟨rfl, rfl⟩ (by decide +kernel) ⟨by decide, by decide⟩ rfl rfl (Nat.le_of_ble_eq_true rfl) dX4_chances_63 ?_
    refine at_aload_n (pc := 66) X 0 1 dX4_chances_66 rfl rfl ?_
    refine at_get (pc := 67) X 4 7 (.ref (mm_R G a0 7)) ha0 (by decide) rfl inX4_chances_X4 (by decide) lkX4_chances_1 rfl dX4_chances_67 ?_
    refine at_bipush (pc := 70) X (47 : Int32) dX4_chances_70 ib_47 ?_
    refine at_iload (pc := 72) X 8 7 dX4_chances_72 rfl ?_
    obtain ⟨hc74, h⟩ := mm_chk h
    refine at_iast (pc := 74) X (wf_4_7 X.wf ha0) hc74 dX4_chances_74 ?_
    refine at_iconst (pc := 75) X (0 : Int32) dX4_chances_75 ic_0 ?_
    refine at_istore (pc := 76) X 11 [(11, .int (0 : Int32)), (9, .long (1 : Int64)), (0, .ref a0), (1, .int x1), (2, .int x2), (3, .int x3), (4, .long y4), (6, .long y6), (8, .int x8)] dX4_chances_76 (by decide) rfl ?_
    have h2 := mm_inr h hk; exact at_sub [2, 3, 4, 5, 6, 7, 8, 1, 0] rfl h2
set_option maxHeartbeats 4000000 in
set_option maxRecDepth 100000 in
theorem wX4_chances_b9 {E : mm_E} {G : mm_G} (X : mm_Cx E G cX4_chances 12 RX4 wsX4_chances rmX4_chances (none)) {a0 : Nat} {x1 : Int32} {x2 : Int32} {x3 : Int32} {y4 : Int64} {y6 : Int64} {x8 : Int32} {σ : mm_M} {q : mm_M} (ha0 : mm_Is G 4 a0) {o : mm_M ⊕ ((Int64 × Int64 × Int32 × mm_M) ⊕ ((Int64 × Int64 × Int32 × mm_M) ⊕ ((Int64 × Int64 × Int32 × Int64 × Int32 × mm_M) ⊕ (Int64 × Int64 × Int32 × Int64 × Int32 × mm_M))))} (h : fX4_chances_b9 G a0 x1 x2 x3 y4 y6 x8 σ = some o) (hk : mm_Ok q (PX4_chances E G a0 x1 x2 x3 q) o) : mm_At E G 12 (mm_Qv E G q) σ 9 [(0, .ref a0), (1, .int x1), (2, .int x2), (3, .int x3), (4, .long y4), (6, .long y6), (8, .int x8)] [] := by
  unfold fX4_chances_b9 at h
  refine at_iload (pc := 9) X 8 6 dX4_chances_9 rfl ?_
  refine at_aload_n (pc := 11) X 0 0 dX4_chances_11 rfl rfl ?_
  refine at_get (pc := 12) X 4 5 (.ref (mm_R G a0 5)) ha0 (by decide) rfl inX4_chances_X4 (by decide) lkX4_chances_0 rfl dX4_chances_12 ?_
  refine at_bipush (pc := 15) X (32 : Int32) dX4_chances_15 ib_32 ?_
  obtain ⟨hc17, h⟩ := mm_chk h
  refine at_iald (pc := 17) X (wf_4_5 X.wf ha0) hc17 dX4_chances_17 ?_
  refine at_icmp_ge (pc := 18) X 35 dX4_chances_18 (by decide) (fun c18 => ?_) (fun c18 => ?_)
  · have h := mm_neg c18 h
    refine at_iconst (pc := 35) X (0 : Int32) dX4_chances_35 ic_0 ?_
    refine at_istore (pc := 36) X 8 [(8, .int (0 : Int32)), (0, .ref a0), (1, .int x1), (2, .int x2), (3, .int x3), (4, .long y4), (6, .long y6)] dX4_chances_36 (by decide) rfl ?_
    have h2 := mm_inr h hk; exact at_sub [1, 2, 3, 4, 5, 6, 0] rfl h2
  · have h := mm_pos c18 h
    refine at_lload (pc := 21) X 6 5 dX4_chances_21 rfl ?_
    refine at_ldc2_w (pc := 23) X (12 : Int64) lkX4_chances_2 dX4_chances_23 ?_
    refine at_lmul (pc := 26) X dX4_chances_26 ?_
    refine at_lstore (pc := 27) X 6 [(6, .long (y6 * (12 : Int64))), (0, .ref a0), (1, .int x1), (2, .int x2), (3, .int x3), (4, .long y4), (8, .int x8)] dX4_chances_27 (by decide) rfl ?_
    refine at_iinc (pc := 29) X 8 6 (x8 + 1) [(8, .int (x8 + 1)), (6, .long (y6 * (12 : Int64))), (0, .ref a0), (1, .int x1), (2, .int x2), (3, .int x3), (4, .long y4)] dX4_chances_29 rfl (ii_1 _) (by decide) rfl ?_
    refine at_goto (pc := 32) X 9 dX4_chances_32 (by decide) ?_
    have h2 := mm_inr h hk; exact at_sub [2, 3, 4, 5, 6, 1, 0] rfl h2
set_option maxHeartbeats 4000000 in
set_option maxRecDepth 100000 in
theorem wX4_chances_b0 {E : mm_E} {G : mm_G} (X : mm_Cx E G cX4_chances 12 RX4 wsX4_chances rmX4_chances (none)) {a0 : Nat} {x1 : Int32} {x2 : Int32} {x3 : Int32} {σ : mm_M} {q : mm_M} (ha0 : mm_Is G 4 a0) {o : mm_M ⊕ ((Int64 × Int64 × Int32 × mm_M) ⊕ ((Int64 × Int64 × Int32 × mm_M) ⊕ ((Int64 × Int64 × Int32 × Int64 × Int32 × mm_M) ⊕ (Int64 × Int64 × Int32 × Int64 × Int32 × mm_M))))} (h : fX4_chances_b0 G a0 x1 x2 x3 σ = some o) (hk : mm_Ok q (PX4_chances E G a0 x1 x2 x3 q) o) : mm_At E G 12 (mm_Qv E G q) σ 0 [(0, .ref a0), (1, .int x1), (2, .int x2), (3, .int x3)] [] := by
  unfold fX4_chances_b0 at h
  refine at_lconst (pc := 0) X (0 : Int64) dX4_chances_0 (by decide) ?_
  refine at_lstore (pc := 1) X 4 [(4, .long (0 : Int64)), (0, .ref a0), (1, .int x1), (2, .int x2), (3, .int x3)] dX4_chances_1 (by decide) rfl ?_
  refine at_lconst (pc := 3) X (1 : Int64) dX4_chances_3 (by decide) ?_
  refine at_lstore (pc := 4) X 6 [(6, .long (1 : Int64)), (4, .long (0 : Int64)), (0, .ref a0), (1, .int x1), (2, .int x2), (3, .int x3)] dX4_chances_4 (by decide) rfl ?_
  refine at_iconst (pc := 6) X (0 : Int32) dX4_chances_6 ic_0 ?_
  refine at_istore (pc := 7) X 8 [(8, .int (0 : Int32)), (6, .long (1 : Int64)), (4, .long (0 : Int64)), (0, .ref a0), (1, .int x1), (2, .int x2), (3, .int x3)] dX4_chances_7 (by decide) rfl ?_
  have h2 := mm_inr h hk; exact at_sub [3, 4, 5, 6, 2, 1, 0] rfl h2
set_option maxHeartbeats 4000000 in
set_option maxRecDepth 100000 in
theorem mX4_chances (l : Launch) {G : mm_G} (hwf : mm_WF G) {a0 : Nat} {x1 : Int32} {x2 : Int32} {x3 : Int32} {σ : mm_M} {q : mm_M} (ha0 : mm_Is G 4 a0) (h : fX4_chances G a0 x1 x2 x3 σ = some q) : mm_Mv l yX4_chances wsX4_chances rmX4_chances G [.ref a0, .int x1, .int x2, .int x3] σ q := by
  refine mm_ofv (cc := cX4_chances) (nL := 12) (ret := none) (own := RX4) (lv0 := [(0, .ref a0), (1, .int x1), (2, .int x2), (3, .int x3)]) (by decide) rfl rfl (Nat.le_of_ble_eq_true rfl) rfl hwf (fun E hE X => ?_)
  obtain ⟨o, h0, hk⟩ := mm_run_ok (P := PX4_chances E G a0 x1 x2 x3 q) h (fun s o hs hk => by cases s with | inl s => exact wX4_chances_b9 X ha0 hs hk | inr s => (cases s with | inl s => exact wX4_chances_b38 X ha0 hs hk | inr s => (cases s with | inl s => exact wX4_chances_b78 X ha0 hs hk | inr s => (exact wX4_chances_b158 X ha0 hs hk))))
  exact wX4_chances_b0 X ha0 h0 hk
set_option maxRecDepth 20000 in
theorem ggX4_odds_X4_in : GoodIn wsX4_odds wsX4_in := goodIn_r _ [5] (by decide +kernel) (by decide +kernel)
set_option maxRecDepth 20000 in
theorem gX4_odds_X4_in : GoodIn wsX4_odds (va_wsS RX4 73 yX4_in wsX4_in) := goodIn_app (goodIn_of _ (by decide +kernel)) ggX4_odds_X4_in
set_option maxRecDepth 20000 in
theorem ggX4_odds_X4_chances : GoodIn wsX4_odds wsX4_chances := goodIn_r _ [9, 1, 10, 11, 12, 13, 4, 14, 15, 16, 17, 18, 19, 20, 21, 22, 23, 24, 25, 26, 27, 28, 29, 30, 31, 32, 33, 34, 35, 36, 37, 38, 39, 40, 41, 42, 43, 44, 45, 46, 47, 48, 49, 50, 51, 52, 53, 54, 55, 56, 57, 58, 59, 60, 61, 62, 63, 64, 65, 66, 67, 68, 69, 70, 71, 72, 73, 74, 75] (by decide +kernel) (by decide +kernel)
set_option maxRecDepth 20000 in
theorem gX4_odds_X4_chances : GoodIn wsX4_odds (wsV RX4 202 RX4 yX4_chances wsX4_chances) := goodIn_app (goodIn_of _ (by decide +kernel)) ggX4_odds_X4_chances
theorem dX4_odds_0 : decode cX4_odds 0 = .ok (.iload_n 1, 1) := by decide +kernel
theorem dX4_odds_1 : decode cX4_odds 1 = .ok (.iconst 0, 1) := by decide +kernel
theorem dX4_odds_2 : decode cX4_odds 2 = .ok (.bipush 40, 2) := by decide +kernel
theorem dX4_odds_4 : decode cX4_odds 4 = .ok (.invokestatic 73, 3) := by decide +kernel
theorem dX4_odds_7 : decode cX4_odds 7 = .ok (.ifCond .eq 13, 3) := by decide +kernel
theorem dX4_odds_10 : decode cX4_odds 10 = .ok (.iload_n 2, 1) := by decide +kernel
theorem dX4_odds_11 : decode cX4_odds 11 = .ok (.iconst 0, 1) := by decide +kernel
theorem dX4_odds_12 : decode cX4_odds 12 = .ok (.bipush 12, 2) := by decide +kernel
theorem dX4_odds_14 : decode cX4_odds 14 = .ok (.invokestatic 73, 3) := by decide +kernel
theorem dX4_odds_17 : decode cX4_odds 17 = .ok (.ifCond .ne 5, 3) := by decide +kernel
theorem dX4_odds_20 : decode cX4_odds 20 = .ok (.iconst (-1), 1) := by decide +kernel
theorem dX4_odds_21 : decode cX4_odds 21 = .ok (.ireturn, 1) := by decide +kernel
theorem dX4_odds_22 : decode cX4_odds 22 = .ok (.aload_n 0, 1) := by decide +kernel
theorem dX4_odds_23 : decode cX4_odds 23 = .ok (.getfield 26, 3) := by decide +kernel
theorem dX4_odds_26 : decode cX4_odds 26 = .ok (.bipush 32, 2) := by decide +kernel
theorem dX4_odds_28 : decode cX4_odds 28 = .ok (.iaload, 1) := by decide +kernel
theorem dX4_odds_29 : decode cX4_odds 29 = .ok (.ifCond .ne 6, 3) := by decide +kernel
theorem dX4_odds_32 : decode cX4_odds 32 = .ok (.bipush (-4), 2) := by decide +kernel
theorem dX4_odds_34 : decode cX4_odds 34 = .ok (.ireturn, 1) := by decide +kernel
theorem dX4_odds_35 : decode cX4_odds 35 = .ok (.aload_n 0, 1) := by decide +kernel
theorem dX4_odds_36 : decode cX4_odds 36 = .ok (.iload_n 1, 1) := by decide +kernel
theorem dX4_odds_37 : decode cX4_odds 37 = .ok (.iload_n 2, 1) := by decide +kernel
theorem dX4_odds_38 : decode cX4_odds 38 = .ok (.iconst 0, 1) := by decide +kernel
theorem dX4_odds_39 : decode cX4_odds 39 = .ok (.invokevirtual 202, 3) := by decide +kernel
theorem dX4_odds_42 : decode cX4_odds 42 = .ok (.iconst 1, 1) := by decide +kernel
theorem dX4_odds_43 : decode cX4_odds 43 = .ok (.ireturn, 1) := by decide +kernel
/-! X4_odds (II)I -/
abbrev rmX4_odds : Room := { frames := 6, cells := 0, slots := 0, locals := 144 }
theorem lkX4_odds_0 : Cond.fieldLink RX4 26 (TX4 5).1 (TX4 5).2.1 (TX4 5).2.2.1 ∈ wsX4_odds := by decide +kernel
theorem inX4_odds_X4 : ∀ w ∈ u_ws RX4 TX4 22, w ∈ wsX4_odds := by decide +kernel
noncomputable def fX4_odds (G : mm_G) (a0 : Nat) (x1 : Int32) (x2 : Int32) (σ : mm_M) : Option (Int32 × mm_M) := (fX4_in G x1 (0 : Int32) (40 : Int32) σ).bind (fun q4 => if q4.1 = 0 then (some ((-1 : Int32), q4.2)) else ((fX4_in G x2 (0 : Int32) (12 : Int32) q4.2).bind (fun q14 => if q14.1 = 0 then (some ((-1 : Int32), q14.2)) else (if (32 : Int32) < 0 ∨ mm_N G (mm_R G a0 5) ≤ (32 : Int32).toNatClampNeg then none else (if (q14.2.1 (mm_R G a0 5) (32 : Int32).toNatClampNeg) = 0 then (some ((-4 : Int32), q14.2)) else ((fX4_chances G a0 x1 x2 (0 : Int32) q14.2).bind (fun q39 => some ((1 : Int32), q39))))))))
set_option maxHeartbeats 4000000 in
set_option maxRecDepth 100000 in
theorem wX4_odds_b0 {E : mm_E} {G : mm_G} (X : mm_Cx E G cX4_odds 3 RX4 wsX4_odds rmX4_odds (some .int)) {a0 : Nat} {x1 : Int32} {x2 : Int32} {σ : mm_M} {q : (Int32 × mm_M)} (ha0 : mm_Is G 4 a0) (h : fX4_odds G a0 x1 x2 σ = some q) : mm_At E G 3 (mm_Qi E G q) σ 0 [(0, .ref a0), (1, .int x1), (2, .int x2)] [] := by
  unfold fX4_odds at h
  refine at_iload_n (pc := 0) X 1 1 dX4_odds_0 rfl rfl ?_
  refine at_iconst (pc := 1) X (0 : Int32) dX4_odds_1 ic_0 ?_
  refine at_bipush (pc := 2) X (40 : Int32) dX4_odds_2 ib_40 ?_
  obtain ⟨q4, hq4, h⟩ := mm_bind h
  refine at_scalli (n := 3) (pc := 4) X [.int x1, .int (0 : Int32), .int (40 : Int32)] [] (mX4_in (eL E) X.wf hq4) gX4_odds_X4_in rfl ⟨rfl, rfl⟩ (by decide +kernel) ⟨by decide, by decide⟩ rfl rfl (Nat.le_of_ble_eq_true rfl) dX4_odds_4 ?_
  refine at_if_eq (pc := 7) X 20 dX4_odds_7 (by decide) (fun c7 => ?_) (fun c7 => ?_)
  · have h := mm_pos c7 h
    refine at_iconst (pc := 20) X (-1 : Int32) dX4_odds_20 ic_m1 ?_
    exact at_iret (pc := 21) X (Option.some.inj h) dX4_odds_21
  · have h := mm_neg c7 h
    refine at_iload_n (pc := 10) X 2 2 dX4_odds_10 rfl rfl ?_
    refine at_iconst (pc := 11) X (0 : Int32) dX4_odds_11 ic_0 ?_
    refine at_bipush (pc := 12) X (12 : Int32) dX4_odds_12 ib_12 ?_
    obtain ⟨q14, hq14, h⟩ := mm_bind h
    refine at_scalli (n := 3) (pc := 14) X [.int x2, .int (0 : Int32), .int (12 : Int32)] [] (mX4_in (eL E) X.wf hq14) gX4_odds_X4_in rfl ⟨rfl, rfl⟩ (by decide +kernel) ⟨by decide, by decide⟩ rfl rfl (Nat.le_of_ble_eq_true rfl) dX4_odds_14 ?_
    refine at_if_ne (pc := 17) X 22 dX4_odds_17 (by decide) (fun c17 => ?_) (fun c17 => ?_)
    · have h := mm_neg c17 h
      refine at_aload_n (pc := 22) X 0 0 dX4_odds_22 rfl rfl ?_
      refine at_get (pc := 23) X 4 5 (.ref (mm_R G a0 5)) ha0 (by decide) rfl inX4_odds_X4 (by decide) lkX4_odds_0 rfl dX4_odds_23 ?_
      refine at_bipush (pc := 26) X (32 : Int32) dX4_odds_26 ib_32 ?_
      obtain ⟨hc28, h⟩ := mm_chk h
      refine at_iald (pc := 28) X (wf_4_5 X.wf ha0) hc28 dX4_odds_28 ?_
      refine at_if_ne (pc := 29) X 35 dX4_odds_29 (by decide) (fun c29 => ?_) (fun c29 => ?_)
      · have h := mm_neg c29 h
        refine at_aload_n (pc := 35) X 0 0 dX4_odds_35 rfl rfl ?_
        refine at_iload_n (pc := 36) X 1 1 dX4_odds_36 rfl rfl ?_
        refine at_iload_n (pc := 37) X 2 2 dX4_odds_37 rfl rfl ?_
        refine at_iconst (pc := 38) X (0 : Int32) dX4_odds_38 ic_0 ?_
        obtain ⟨q39, hq39, h⟩ := mm_bind h
        refine at_callv (n := 3) (pc := 39) X 4 [.int x1, .int x2, .int (0 : Int32)] [] (mX4_chances (eL E) X.wf ha0 hq39) gX4_odds_X4_chances rfl ⟨rfl, rfl⟩ (by decide +kernel) ⟨by decide, by decide⟩ (by decide) rfl ha0 rfl rfl (Nat.le_of_ble_eq_true rfl) dX4_odds_39 ?_
        refine at_iconst (pc := 42) X (1 : Int32) dX4_odds_42 ic_1 ?_
        exact at_iret (pc := 43) X (Option.some.inj h) dX4_odds_43
      · have h := mm_pos c29 h
        refine at_bipush (pc := 32) X (-4 : Int32) dX4_odds_32 ib_m4 ?_
        exact at_iret (pc := 34) X (Option.some.inj h) dX4_odds_34
    · have h := mm_pos c17 h
      refine at_iconst (pc := 20) X (-1 : Int32) dX4_odds_20 ic_m1 ?_
      exact at_iret (pc := 21) X (Option.some.inj h) dX4_odds_21
set_option maxHeartbeats 4000000 in
set_option maxRecDepth 100000 in
theorem mX4_odds (l : Launch) {G : mm_G} (hwf : mm_WF G) {a0 : Nat} {x1 : Int32} {x2 : Int32} {σ : mm_M} {q : (Int32 × mm_M)} (ha0 : mm_Is G 4 a0) (h : fX4_odds G a0 x1 x2 σ = some q) : mm_Mi l yX4_odds wsX4_odds rmX4_odds G [.ref a0, .int x1, .int x2] σ q := by
  refine mm_ofi (cc := cX4_odds) (nL := 3) (ret := some .int) (own := RX4) (lv0 := [(0, .ref a0), (1, .int x1), (2, .int x2)]) (by decide) rfl rfl (Nat.le_of_ble_eq_true rfl) rfl hwf (fun E hE X => ?_)
  exact wX4_odds_b0 X ha0 h
set_option maxRecDepth 20000 in
theorem ggX4_mid_X4_in : GoodIn wsX4_mid wsX4_in := goodIn_r _ [5] (by decide +kernel) (by decide +kernel)
set_option maxRecDepth 20000 in
theorem gX4_mid_X4_in : GoodIn wsX4_mid (va_wsS RX4 73 yX4_in wsX4_in) := goodIn_app (goodIn_of _ (by decide +kernel)) ggX4_mid_X4_in
set_option maxRecDepth 20000 in
theorem ggX4_mid_X4_chances : GoodIn wsX4_mid wsX4_chances := goodIn_r _ [9, 1, 10, 11, 12, 13, 4, 14, 15, 16, 17, 18, 19, 20, 21, 22, 23, 24, 25, 26, 27, 28, 29, 30, 31, 32, 33, 34, 35, 36, 37, 38, 39, 40, 41, 42, 43, 44, 45, 46, 47, 48, 49, 50, 51, 52, 53, 54, 55, 56, 57, 58, 59, 60, 61, 62, 63, 64, 65, 66, 67, 68, 69, 70, 71, 72, 73, 74, 75] (by decide +kernel) (by decide +kernel)
set_option maxRecDepth 20000 in
theorem gX4_mid_X4_chances : GoodIn wsX4_mid (wsV RX4 202 RX4 yX4_chances wsX4_chances) := goodIn_app (goodIn_of _ (by decide +kernel)) ggX4_mid_X4_chances
theorem dX4_mid_0 : decode cX4_mid 0 = .ok (.iload_n 1, 1) := by decide +kernel
theorem dX4_mid_1 : decode cX4_mid 1 = .ok (.iconst 0, 1) := by decide +kernel
theorem dX4_mid_2 : decode cX4_mid 2 = .ok (.bipush 40, 2) := by decide +kernel
theorem dX4_mid_4 : decode cX4_mid 4 = .ok (.invokestatic 73, 3) := by decide +kernel
theorem dX4_mid_7 : decode cX4_mid 7 = .ok (.ifCond .eq 13, 3) := by decide +kernel
theorem dX4_mid_10 : decode cX4_mid 10 = .ok (.iload_n 2, 1) := by decide +kernel
theorem dX4_mid_11 : decode cX4_mid 11 = .ok (.iconst 0, 1) := by decide +kernel
theorem dX4_mid_12 : decode cX4_mid 12 = .ok (.bipush 12, 2) := by decide +kernel
theorem dX4_mid_14 : decode cX4_mid 14 = .ok (.invokestatic 73, 3) := by decide +kernel
theorem dX4_mid_17 : decode cX4_mid 17 = .ok (.ifCond .ne 5, 3) := by decide +kernel
theorem dX4_mid_20 : decode cX4_mid 20 = .ok (.iconst (-1), 1) := by decide +kernel
theorem dX4_mid_21 : decode cX4_mid 21 = .ok (.ireturn, 1) := by decide +kernel
theorem dX4_mid_22 : decode cX4_mid 22 = .ok (.aload_n 0, 1) := by decide +kernel
theorem dX4_mid_23 : decode cX4_mid 23 = .ok (.getfield 26, 3) := by decide +kernel
theorem dX4_mid_26 : decode cX4_mid 26 = .ok (.bipush 32, 2) := by decide +kernel
theorem dX4_mid_28 : decode cX4_mid 28 = .ok (.iaload, 1) := by decide +kernel
theorem dX4_mid_29 : decode cX4_mid 29 = .ok (.ifCond .ne 6, 3) := by decide +kernel
theorem dX4_mid_32 : decode cX4_mid 32 = .ok (.bipush (-4), 2) := by decide +kernel
theorem dX4_mid_34 : decode cX4_mid 34 = .ok (.ireturn, 1) := by decide +kernel
theorem dX4_mid_35 : decode cX4_mid 35 = .ok (.aload_n 0, 1) := by decide +kernel
theorem dX4_mid_36 : decode cX4_mid 36 = .ok (.iload_n 1, 1) := by decide +kernel
theorem dX4_mid_37 : decode cX4_mid 37 = .ok (.iload_n 2, 1) := by decide +kernel
theorem dX4_mid_38 : decode cX4_mid 38 = .ok (.iconst 1, 1) := by decide +kernel
theorem dX4_mid_39 : decode cX4_mid 39 = .ok (.invokevirtual 202, 3) := by decide +kernel
theorem dX4_mid_42 : decode cX4_mid 42 = .ok (.iconst 1, 1) := by decide +kernel
theorem dX4_mid_43 : decode cX4_mid 43 = .ok (.ireturn, 1) := by decide +kernel
/-! X4_mid (II)I -/
abbrev rmX4_mid : Room := { frames := 6, cells := 0, slots := 0, locals := 144 }
theorem lkX4_mid_0 : Cond.fieldLink RX4 26 (TX4 5).1 (TX4 5).2.1 (TX4 5).2.2.1 ∈ wsX4_mid := by decide +kernel
theorem inX4_mid_X4 : ∀ w ∈ u_ws RX4 TX4 22, w ∈ wsX4_mid := by decide +kernel
noncomputable def fX4_mid (G : mm_G) (a0 : Nat) (x1 : Int32) (x2 : Int32) (σ : mm_M) : Option (Int32 × mm_M) := (fX4_in G x1 (0 : Int32) (40 : Int32) σ).bind (fun q4 => if q4.1 = 0 then (some ((-1 : Int32), q4.2)) else ((fX4_in G x2 (0 : Int32) (12 : Int32) q4.2).bind (fun q14 => if q14.1 = 0 then (some ((-1 : Int32), q14.2)) else (if (32 : Int32) < 0 ∨ mm_N G (mm_R G a0 5) ≤ (32 : Int32).toNatClampNeg then none else (if (q14.2.1 (mm_R G a0 5) (32 : Int32).toNatClampNeg) = 0 then (some ((-4 : Int32), q14.2)) else ((fX4_chances G a0 x1 x2 (1 : Int32) q14.2).bind (fun q39 => some ((1 : Int32), q39))))))))
set_option maxHeartbeats 4000000 in
set_option maxRecDepth 100000 in
theorem wX4_mid_b0 {E : mm_E} {G : mm_G} (X : mm_Cx E G cX4_mid 3 RX4 wsX4_mid rmX4_mid (some .int)) {a0 : Nat} {x1 : Int32} {x2 : Int32} {σ : mm_M} {q : (Int32 × mm_M)} (ha0 : mm_Is G 4 a0) (h : fX4_mid G a0 x1 x2 σ = some q) : mm_At E G 3 (mm_Qi E G q) σ 0 [(0, .ref a0), (1, .int x1), (2, .int x2)] [] := by
  unfold fX4_mid at h
  refine at_iload_n (pc := 0) X 1 1 dX4_mid_0 rfl rfl ?_
  refine at_iconst (pc := 1) X (0 : Int32) dX4_mid_1 ic_0 ?_
  refine at_bipush (pc := 2) X (40 : Int32) dX4_mid_2 ib_40 ?_
  obtain ⟨q4, hq4, h⟩ := mm_bind h
  refine at_scalli (n := 3) (pc := 4) X [.int x1, .int (0 : Int32), .int (40 : Int32)] [] (mX4_in (eL E) X.wf hq4) gX4_mid_X4_in rfl ⟨rfl, rfl⟩ (by decide +kernel) ⟨by decide, by decide⟩ rfl rfl (Nat.le_of_ble_eq_true rfl) dX4_mid_4 ?_
  refine at_if_eq (pc := 7) X 20 dX4_mid_7 (by decide) (fun c7 => ?_) (fun c7 => ?_)
  · have h := mm_pos c7 h
    refine at_iconst (pc := 20) X (-1 : Int32) dX4_mid_20 ic_m1 ?_
    exact at_iret (pc := 21) X (Option.some.inj h) dX4_mid_21
  · have h := mm_neg c7 h
    refine at_iload_n (pc := 10) X 2 2 dX4_mid_10 rfl rfl ?_
    refine at_iconst (pc := 11) X (0 : Int32) dX4_mid_11 ic_0 ?_
    refine at_bipush (pc := 12) X (12 : Int32) dX4_mid_12 ib_12 ?_
    obtain ⟨q14, hq14, h⟩ := mm_bind h
    refine at_scalli (n := 3) (pc := 14) X [.int x2, .int (0 : Int32), .int (12 : Int32)] [] (mX4_in (eL E) X.wf hq14) gX4_mid_X4_in rfl ⟨rfl, rfl⟩ (by decide +kernel) ⟨by decide, by decide⟩ rfl rfl (Nat.le_of_ble_eq_true rfl) dX4_mid_14 ?_
    refine at_if_ne (pc := 17) X 22 dX4_mid_17 (by decide) (fun c17 => ?_) (fun c17 => ?_)
    · have h := mm_neg c17 h
      refine at_aload_n (pc := 22) X 0 0 dX4_mid_22 rfl rfl ?_
      refine at_get (pc := 23) X 4 5 (.ref (mm_R G a0 5)) ha0 (by decide) rfl inX4_mid_X4 (by decide) lkX4_mid_0 rfl dX4_mid_23 ?_
      refine at_bipush (pc := 26) X (32 : Int32) dX4_mid_26 ib_32 ?_
      obtain ⟨hc28, h⟩ := mm_chk h
      refine at_iald (pc := 28) X (wf_4_5 X.wf ha0) hc28 dX4_mid_28 ?_
      refine at_if_ne (pc := 29) X 35 dX4_mid_29 (by decide) (fun c29 => ?_) (fun c29 => ?_)
      · have h := mm_neg c29 h
        refine at_aload_n (pc := 35) X 0 0 dX4_mid_35 rfl rfl ?_
        refine at_iload_n (pc := 36) X 1 1 dX4_mid_36 rfl rfl ?_
        refine at_iload_n (pc := 37) X 2 2 dX4_mid_37 rfl rfl ?_
        refine at_iconst (pc := 38) X (1 : Int32) dX4_mid_38 ic_1 ?_
        obtain ⟨q39, hq39, h⟩ := mm_bind h
        refine at_callv (n := 3) (pc := 39) X 4 [.int x1, .int x2, .int (1 : Int32)] [] (mX4_chances (eL E) X.wf ha0 hq39) gX4_mid_X4_chances rfl ⟨rfl, rfl⟩ (by decide +kernel) ⟨by decide, by decide⟩ (by decide) rfl ha0 rfl rfl (Nat.le_of_ble_eq_true rfl) dX4_mid_39 ?_
        refine at_iconst (pc := 42) X (1 : Int32) dX4_mid_42 ic_1 ?_
        exact at_iret (pc := 43) X (Option.some.inj h) dX4_mid_43
      · have h := mm_pos c29 h
        refine at_bipush (pc := 32) X (-4 : Int32) dX4_mid_32 ib_m4 ?_
        exact at_iret (pc := 34) X (Option.some.inj h) dX4_mid_34
    · have h := mm_pos c17 h
      refine at_iconst (pc := 20) X (-1 : Int32) dX4_mid_20 ic_m1 ?_
      exact at_iret (pc := 21) X (Option.some.inj h) dX4_mid_21
set_option maxHeartbeats 4000000 in
set_option maxRecDepth 100000 in
theorem mX4_mid (l : Launch) {G : mm_G} (hwf : mm_WF G) {a0 : Nat} {x1 : Int32} {x2 : Int32} {σ : mm_M} {q : (Int32 × mm_M)} (ha0 : mm_Is G 4 a0) (h : fX4_mid G a0 x1 x2 σ = some q) : mm_Mi l yX4_mid wsX4_mid rmX4_mid G [.ref a0, .int x1, .int x2] σ q := by
  refine mm_ofi (cc := cX4_mid) (nL := 3) (ret := some .int) (own := RX4) (lv0 := [(0, .ref a0), (1, .int x1), (2, .int x2)]) (by decide) rfl rfl (Nat.le_of_ble_eq_true rfl) rfl hwf (fun E hE X => ?_)
  exact wX4_mid_b0 X ha0 h
