/-! X3_silence X3_refusedWatch X3_asideFits X3_kindsThatFit X3_kinds X3_firsts -/
set_option maxRecDepth 20000 in
theorem ggX3_silence_X0_sets : GoodIn wsX3_silence wsX0_sets := goodIn_r _ [8, 9, 115, 116, 117, 118, 119, 120] (by decide +kernel) (by decide +kernel)
set_option maxRecDepth 20000 in
theorem gX3_silence_X0_sets : GoodIn wsX3_silence (wsV RX3 190 RX0 yX0_sets wsX0_sets) := goodIn_app (goodIn_of _ (by decide +kernel)) ggX3_silence_X0_sets
set_option maxRecDepth 20000 in
theorem ggX3_silence_X3_heardAside : GoodIn wsX3_silence wsX3_heardAside := goodIn_r _ [14, 15, 1, 16, 17, 18, 19, 7, 20, 9, 21, 22, 23, 24, 25, 26, 27, 28, 29, 30, 31, 32, 33, 34, 35, 36, 37, 38, 39, 40, 41, 42, 43, 44, 45, 46, 47, 48, 49, 50, 51, 52, 53, 54, 55, 56, 57, 58, 59, 60, 61, 62, 63, 64, 65, 66, 67, 68, 69, 70, 71, 72, 73, 74, 75, 76, 77, 78, 79, 80, 81, 82, 83, 84, 85, 86, 87, 88, 89, 90, 91, 92, 93, 94, 95, 96, 98, 99, 100, 101, 102, 103, 104, 105, 106, 107, 108, 109, 110, 111, 112, 113, 114, 115, 116, 117, 118, 119, 120, 121, 122, 123, 124, 125, 126] (by decide +kernel) (by decide +kernel)
set_option maxRecDepth 20000 in
theorem gX3_silence_X3_heardAside : GoodIn wsX3_silence (wsV RX3 173 RX3 yX3_heardAside wsX3_heardAside) := goodIn_app (goodIn_of _ (by decide +kernel)) ggX3_silence_X3_heardAside
set_option maxRecDepth 20000 in
theorem ggX3_silence_J6_bitCount_0f7a4 : GoodIn wsX3_silence wsJ6_bitCount_0f7a4 := goodIn_r _ [62, 63, 64, 65] (by decide +kernel) (by decide +kernel)
set_option maxRecDepth 20000 in
theorem gX3_silence_J6_bitCount_0f7a4 : GoodIn wsX3_silence (va_wsS RX3 168 yJ6_bitCount_0f7a4 wsJ6_bitCount_0f7a4) := goodIn_app (goodIn_of _ (by decide +kernel)) ggX3_silence_J6_bitCount_0f7a4
theorem dX3_silence_0 : decode cX3_silence 0 = .ok (.iload_n 1, 1) := by decide +kernel
theorem dX3_silence_1 : decode cX3_silence 1 = .ok (.iconst 1, 1) := by decide +kernel
theorem dX3_silence_2 : decode cX3_silence 2 = .ok (.if_icmp .lt 9, 3) := by decide +kernel
theorem dX3_silence_5 : decode cX3_silence 5 = .ok (.iload_n 1, 1) := by decide +kernel
theorem dX3_silence_6 : decode cX3_silence 6 = .ok (.bipush 40, 2) := by decide +kernel
theorem dX3_silence_8 : decode cX3_silence 8 = .ok (.if_icmp .le 5, 3) := by decide +kernel
theorem dX3_silence_11 : decode cX3_silence 11 = .ok (.iconst (-1), 1) := by decide +kernel
theorem dX3_silence_12 : decode cX3_silence 12 = .ok (.ireturn, 1) := by decide +kernel
theorem dX3_silence_13 : decode cX3_silence 13 = .ok (.aload_n 0, 1) := by decide +kernel
theorem dX3_silence_14 : decode cX3_silence 14 = .ok (.getfield 33, 3) := by decide +kernel
theorem dX3_silence_17 : decode cX3_silence 17 = .ok (.getfield 112, 3) := by decide +kernel
theorem dX3_silence_20 : decode cX3_silence 20 = .ok (.ifCond .ne 6, 3) := by decide +kernel
theorem dX3_silence_23 : decode cX3_silence 23 = .ok (.bipush (-4), 2) := by decide +kernel
theorem dX3_silence_25 : decode cX3_silence 25 = .ok (.ireturn, 1) := by decide +kernel
theorem dX3_silence_26 : decode cX3_silence 26 = .ok (.iconst 0, 1) := by decide +kernel
theorem dX3_silence_27 : decode cX3_silence 27 = .ok (.istore_n 2, 1) := by decide +kernel
theorem dX3_silence_28 : decode cX3_silence 28 = .ok (.iconst (-1), 1) := by decide +kernel
theorem dX3_silence_29 : decode cX3_silence 29 = .ok (.istore_n 3, 1) := by decide +kernel
theorem dX3_silence_30 : decode cX3_silence 30 = .ok (.iconst 0, 1) := by decide +kernel
theorem dX3_silence_31 : decode cX3_silence 31 = .ok (.istore 4, 2) := by decide +kernel
theorem dX3_silence_33 : decode cX3_silence 33 = .ok (.iload 4, 2) := by decide +kernel
theorem dX3_silence_35 : decode cX3_silence 35 = .ok (.aload_n 0, 1) := by decide +kernel
theorem dX3_silence_36 : decode cX3_silence 36 = .ok (.getfield 33, 3) := by decide +kernel
theorem dX3_silence_39 : decode cX3_silence 39 = .ok (.invokevirtual 190, 3) := by decide +kernel
theorem dX3_silence_42 : decode cX3_silence 42 = .ok (.if_icmp .ge 60, 3) := by decide +kernel
theorem dX3_silence_45 : decode cX3_silence 45 = .ok (.aload_n 0, 1) := by decide +kernel
theorem dX3_silence_46 : decode cX3_silence 46 = .ok (.iload_n 1, 1) := by decide +kernel
theorem dX3_silence_47 : decode cX3_silence 47 = .ok (.iload 4, 2) := by decide +kernel
theorem dX3_silence_49 : decode cX3_silence 49 = .ok (.invokevirtual 173, 3) := by decide +kernel
theorem dX3_silence_52 : decode cX3_silence 52 = .ok (.istore 5, 2) := by decide +kernel
theorem dX3_silence_54 : decode cX3_silence 54 = .ok (.iload 4, 2) := by decide +kernel
theorem dX3_silence_56 : decode cX3_silence 56 = .ok (.invokestatic 168, 3) := by decide +kernel
theorem dX3_silence_59 : decode cX3_silence 59 = .ok (.iload_n 2, 1) := by decide +kernel
theorem dX3_silence_60 : decode cX3_silence 60 = .ok (.invokestatic 168, 3) := by decide +kernel
theorem dX3_silence_63 : decode cX3_silence 63 = .ok (.if_icmp .ge 7, 3) := by decide +kernel
theorem dX3_silence_66 : decode cX3_silence 66 = .ok (.iconst 1, 1) := by decide +kernel
theorem dX3_silence_67 : decode cX3_silence 67 = .ok (.goto 4, 3) := by decide +kernel
theorem dX3_silence_70 : decode cX3_silence 70 = .ok (.iconst 0, 1) := by decide +kernel
theorem dX3_silence_71 : decode cX3_silence 71 = .ok (.istore 6, 2) := by decide +kernel
theorem dX3_silence_73 : decode cX3_silence 73 = .ok (.iload 5, 2) := by decide +kernel
theorem dX3_silence_75 : decode cX3_silence 75 = .ok (.iload_n 3, 1) := by decide +kernel
theorem dX3_silence_76 : decode cX3_silence 76 = .ok (.if_icmp .gt 14, 3) := by decide +kernel
theorem dX3_silence_79 : decode cX3_silence 79 = .ok (.iload 5, 2) := by decide +kernel
theorem dX3_silence_81 : decode cX3_silence 81 = .ok (.iload_n 3, 1) := by decide +kernel
theorem dX3_silence_82 : decode cX3_silence 82 = .ok (.if_icmp .ne 14, 3) := by decide +kernel
theorem dX3_silence_85 : decode cX3_silence 85 = .ok (.iload 6, 2) := by decide +kernel
theorem dX3_silence_87 : decode cX3_silence 87 = .ok (.ifCond .eq 9, 3) := by decide +kernel
theorem dX3_silence_90 : decode cX3_silence 90 = .ok (.iload 4, 2) := by decide +kernel
theorem dX3_silence_92 : decode cX3_silence 92 = .ok (.istore_n 2, 1) := by decide +kernel
theorem dX3_silence_93 : decode cX3_silence 93 = .ok (.iload 5, 2) := by decide +kernel
theorem dX3_silence_95 : decode cX3_silence 95 = .ok (.istore_n 3, 1) := by decide +kernel
theorem dX3_silence_96 : decode cX3_silence 96 = .ok (.iinc 4 1, 3) := by decide +kernel
theorem dX3_silence_99 : decode cX3_silence 99 = .ok (.goto (-66), 3) := by decide +kernel
theorem dX3_silence_102 : decode cX3_silence 102 = .ok (.aload_n 0, 1) := by decide +kernel
theorem dX3_silence_103 : decode cX3_silence 103 = .ok (.iload_n 3, 1) := by decide +kernel
theorem dX3_silence_104 : decode cX3_silence 104 = .ok (.putfield 59, 3) := by decide +kernel
theorem dX3_silence_107 : decode cX3_silence 107 = .ok (.iload_n 2, 1) := by decide +kernel
theorem dX3_silence_108 : decode cX3_silence 108 = .ok (.ireturn, 1) := by decide +kernel
/-! X3_silence (I)I -/
abbrev rmX3_silence : Room := { frames := 6, cells := 0, slots := 0, locals := 128 }
theorem lkX3_silence_0 : Cond.fieldLink RX3 33 (TX3 5).1 (TX3 5).2.1 (TX3 5).2.2.1 ∈ wsX3_silence := by decide +kernel
theorem lkX3_silence_1 : Cond.fieldLink RX3 112 (TX0 1).1 (TX0 1).2.1 (TX0 1).2.2.1 ∈ wsX3_silence := by decide +kernel
theorem lkX3_silence_2 : Cond.fieldLink RX3 59 (TX3 12).1 (TX3 12).2.1 (TX3 12).2.2.1 ∈ wsX3_silence := by decide +kernel
theorem inX3_silence_X3 : ∀ w ∈ u_ws RX3 TX3 17, w ∈ wsX3_silence := by decide +kernel
theorem inX3_silence_X0 : ∀ w ∈ u_ws RX0 TX0 6, w ∈ wsX3_silence := by decide +kernel
noncomputable def fX3_silence_b71 (G : mm_G) (a0 : Nat) (x1 : Int32) (x2 : Int32) (x3 : Int32) (x4 : Int32) (x5 : Int32) (sx0 : Int32) (σ : mm_M) : Option ((Int32 × mm_M) ⊕ (Int32 × Int32 × Int32 × mm_M)) := some (.inr (if x3 < x5 then x4 else if x5 = x3 then if sx0 = 0 then x2 else x4 else x2, if x3 < x5 then x5 else if x5 = x3 then if sx0 = 0 then x3 else x5 else x3, x4 + 1, σ))
noncomputable def fX3_silence_b33 (G : mm_G) (a0 : Nat) (x1 : Int32) (x2 : Int32) (x3 : Int32) (x4 : Int32) (σ : mm_M) : Option ((Int32 × mm_M) ⊕ (Int32 × Int32 × Int32 × mm_M)) := (fX0_sets G (mm_R G a0 5) σ).bind (fun q39 => if x4 < q39.1 then ((fX3_heardAside G a0 x1 x4 q39.2).bind (fun q49 => (fJ6_bitCount_0f7a4 G x4 q49.2).bind (fun q56 => (fJ6_bitCount_0f7a4 G x2 q56.2).bind (fun q60 => fX3_silence_b71 G a0 x1 x2 x3 x4 q49.1 (if q56.1 < q60.1 then (1 : Int32) else (0 : Int32)) q60.2)))) else (some (.inl (x2, mm_up q39.2 a0 12 x3))))
noncomputable def fX3_silence_b0 (G : mm_G) (a0 : Nat) (x1 : Int32) (σ : mm_M) : Option ((Int32 × mm_M) ⊕ (Int32 × Int32 × Int32 × mm_M)) := if x1 < (1 : Int32) then (some (.inl ((-1 : Int32), σ))) else (if (40 : Int32) < x1 then (some (.inl ((-1 : Int32), σ))) else (if (σ.1 (mm_R G a0 5) 1) = 0 then (some (.inl ((-4 : Int32), σ))) else (some (.inr ((0 : Int32), (-1 : Int32), (0 : Int32), σ)))))
noncomputable def fX3_silence_s (G : mm_G) (a0 : Nat) (x1 : Int32) : (Int32 × Int32 × Int32 × mm_M) → Option ((Int32 × mm_M) ⊕ (Int32 × Int32 × Int32 × mm_M)) := (fun s => fX3_silence_b33 G a0 x1 s.1 s.2.1 s.2.2.1 s.2.2.2)
def PX3_silence (E : mm_E) (G : mm_G) (a0 : Nat) (x1 : Int32) (q : (Int32 × mm_M)) : (Int32 × Int32 × Int32 × mm_M) → Prop := (fun s => mm_At E G 7 (mm_Qi E G q) s.2.2.2 33 [(0, .ref a0), (1, .int x1), (2, .int s.1), (3, .int s.2.1), (4, .int s.2.2.1)] [])
noncomputable def fX3_silence (G : mm_G) (a0 : Nat) (x1 : Int32) (σ : mm_M) : Option (Int32 × mm_M) := mm_run (fX3_silence_b0 G a0 x1 σ) (fX3_silence_s G a0 x1)
set_option maxHeartbeats 4000000 in
set_option maxRecDepth 100000 in
theorem wX3_silence_b71 {E : mm_E} {G : mm_G} (X : mm_Cx E G cX3_silence 7 RX3 wsX3_silence rmX3_silence (some .int)) {a0 : Nat} {x1 : Int32} {x2 : Int32} {x3 : Int32} {x4 : Int32} {x5 : Int32} {sx0 : Int32} {σ : mm_M} {q : (Int32 × mm_M)} (ha0 : mm_Is G 3 a0) {o : (Int32 × mm_M) ⊕ (Int32 × Int32 × Int32 × mm_M)} (h : fX3_silence_b71 G a0 x1 x2 x3 x4 x5 sx0 σ = some o) (hk : mm_Ok q (PX3_silence E G a0 x1 q) o) : mm_At E G 7 (mm_Qi E G q) σ 71 [(0, .ref a0), (1, .int x1), (2, .int x2), (3, .int x3), (4, .int x4), (5, .int x5)] [.int sx0] := by
  unfold fX3_silence_b71 at h
  refine at_istore (pc := 71) X 6 [(6, .int sx0), (0, .ref a0), (1, .int x1), (2, .int x2), (3, .int x3), (4, .int x4), (5, .int x5)] dX3_silence_71 (by decide) rfl ?_
  refine at_iload (pc := 73) X 5 6 dX3_silence_73 rfl ?_
  refine at_iload_n (pc := 75) X 3 4 dX3_silence_75 rfl rfl ?_
  have hj76 : mm_At E G 7 (mm_Qi E G q) σ 96 [(0, .ref a0), (1, .int x1), (2, .int (if x3 < x5 then x4 else if x5 = x3 then if sx0 = 0 then x2 else x4 else x2)), (3, .int (if x3 < x5 then x5 else if x5 = x3 then if sx0 = 0 then x3 else x5 else x3)), (4, .int x4)] [] := by
    refine at_iinc (pc := 96) X 4 4 (x4 + 1) [(4, .int (x4 + 1)), (0, .ref a0), (1, .int x1), (2, .int (if x3 < x5 then x4 else if x5 = x3 then if sx0 = 0 then x2 else x4 else x2)), (3, .int (if x3 < x5 then x5 else if x5 = x3 then if sx0 = 0 then x3 else x5 else x3))] dX3_silence_96 rfl (ii_1 _) (by decide) rfl ?_
    refine at_goto (pc := 99) X 33 dX3_silence_99 (by decide) ?_
    have h2 := mm_inr h hk; exact at_sub [1, 2, 3, 4, 0] rfl h2
  refine at_icmp_gt (pc := 76) X 90 dX3_silence_76 (by decide) (fun c76 => ?_) (fun c76 => ?_)
  · try simp only [if_pos c76] at hj76
    refine at_iload (pc := 90) X 4 5 dX3_silence_90 rfl ?_
    refine at_istore_n (pc := 92) X 2 [(2, .int x4), (6, .int sx0), (0, .ref a0), (1, .int x1), (3, .int x3), (4, .int x4), (5, .int x5)] dX3_silence_92 rfl (by decide) rfl ?_
    refine at_iload (pc := 93) X 5 6 dX3_silence_93 rfl ?_
    refine at_istore_n (pc := 95) X 3 [(3, .int x5), (2, .int x4), (6, .int sx0), (0, .ref a0), (1, .int x1), (4, .int x4), (5, .int x5)] dX3_silence_95 rfl (by decide) rfl ?_
    exact at_sub [3, 4, 1, 0, 5] rfl hj76
  · try simp only [if_neg c76] at hj76
    refine at_iload (pc := 79) X 5 6 dX3_silence_79 rfl ?_
    refine at_iload_n (pc := 81) X 3 4 dX3_silence_81 rfl rfl ?_
    refine at_icmp_ne (pc := 82) X 96 dX3_silence_82 (by decide) (fun c82 => ?_) (fun c82 => ?_)
    · try simp only [if_neg c82] at hj76
      exact at_sub [1, 2, 3, 4, 5] rfl hj76
    · try simp only [if_pos c82] at hj76
      refine at_iload (pc := 85) X 6 0 dX3_silence_85 rfl ?_
      refine at_if_eq (pc := 87) X 96 dX3_silence_87 (by decide) (fun c87 => ?_) (fun c87 => ?_)
      · try simp only [if_pos c87] at hj76
        exact at_sub [1, 2, 3, 4, 5] rfl hj76
      · try simp only [if_neg c87] at hj76
        refine at_iload (pc := 90) X 4 5 dX3_silence_90 rfl ?_
        refine at_istore_n (pc := 92) X 2 [(2, .int x4), (6, .int sx0), (0, .ref a0), (1, .int x1), (3, .int x3), (4, .int x4), (5, .int x5)] dX3_silence_92 rfl (by decide) rfl ?_
        refine at_iload (pc := 93) X 5 6 dX3_silence_93 rfl ?_
        refine at_istore_n (pc := 95) X 3 [(3, .int x5), (2, .int x4), (6, .int sx0), (0, .ref a0), (1, .int x1), (4, .int x4), (5, .int x5)] dX3_silence_95 rfl (by decide) rfl ?_
        exact at_sub [3, 4, 1, 0, 5] rfl hj76
set_option maxHeartbeats 4000000 in
set_option maxRecDepth 100000 in
theorem wX3_silence_b33 {E : mm_E} {G : mm_G} (X : mm_Cx E G cX3_silence 7 RX3 wsX3_silence rmX3_silence (some .int)) {a0 : Nat} {x1 : Int32} {x2 : Int32} {x3 : Int32} {x4 : Int32} {σ : mm_M} {q : (Int32 × mm_M)} (ha0 : mm_Is G 3 a0) {o : (Int32 × mm_M) ⊕ (Int32 × Int32 × Int32 × mm_M)} (h : fX3_silence_b33 G a0 x1 x2 x3 x4 σ = some o) (hk : mm_Ok q (PX3_silence E G a0 x1 q) o) : mm_At E G 7 (mm_Qi E G q) σ 33 [(0, .ref a0), (1, .int x1), (2, .int x2), (3, .int x3), (4, .int x4)] [] := by
  unfold fX3_silence_b33 at h
  refine at_iload (pc := 33) X 4 4 dX3_silence_33 rfl ?_
  refine at_aload_n (pc := 35) X 0 0 dX3_silence_35 rfl rfl ?_
  refine at_get (pc := 36) X 3 5 (.ref (mm_R G a0 5)) ha0 (by decide) rfl inX3_silence_X3 (by decide) lkX3_silence_0 rfl dX3_silence_36 ?_
  obtain ⟨q39, hq39, h⟩ := mm_bind h
  refine at_calli (n := 0) (pc := 39) X 0 [] [.int x4] (mX0_sets (eL E) X.wf (wf_3_5 X.wf ha0) hq39) gX3_silence_X0_sets rfl ⟨rfl, rfl⟩ (by decide +kernel) ⟨by decide, by decide⟩ (by decide) rfl (wf_3_5 X.wf ha0) rfl rfl (Nat.le_of_ble_eq_true rfl) dX3_silence_39 ?_
  refine at_icmp_ge (pc := 42) X 102 dX3_silence_42 (by decide) (fun c42 => ?_) (fun c42 => ?_)
  · have h := mm_neg c42 h
    refine at_aload_n (pc := 102) X 0 0 dX3_silence_102 rfl rfl ?_
    refine at_iload_n (pc := 103) X 3 3 dX3_silence_103 rfl rfl ?_
    refine at_put (pc := 104) X 3 12 ha0 (by decide) rfl inX3_silence_X3 tyX3 tyX3_ok nmX3 (by decide) lkX3_silence_2 rfl (ty := .int) rfl rfl rfl (Nat.le_of_ble_eq_true rfl) (ms_3_12 G _ _ _) mm_up_ne dX3_silence_104 ?_
    refine at_iload_n (pc := 107) X 2 2 dX3_silence_107 rfl rfl ?_
    exact at_iret (pc := 108) X (mm_inl h hk) dX3_silence_108
  · have h := mm_pos c42 h
    refine at_aload_n (pc := 45) X 0 0 dX3_silence_45 rfl rfl ?_
    refine at_iload_n (pc := 46) X 1 1 dX3_silence_46 rfl rfl ?_
    refine at_iload (pc := 47) X 4 4 dX3_silence_47 rfl ?_
    obtain ⟨q49, hq49, h⟩ := mm_bind h
    refine at_calli (n := 2) (pc := 49) X 3 [.int x1, .int x4] [] (mX3_heardAside (eL E) X.wf ha0 hq49) gX3_silence_X3_heardAside rfl ⟨rfl, rfl⟩ (by decide +kernel) ⟨by decide, by decide⟩ (by decide) rfl ha0 rfl rfl (Nat.le_of_ble_eq_true rfl) dX3_silence_49 ?_
    refine at_istore (pc := 52) X 5 [(5, .int q49.1), (0, .ref a0), (1, .int x1), (2, .int x2), (3, .int x3), (4, .int x4)] dX3_silence_52 (by decide) rfl ?_
    refine at_iload (pc := 54) X 4 5 dX3_silence_54 rfl ?_
    obtain ⟨q56, hq56, h⟩ := mm_bind h
    refine at_scalli (n := 1) (pc := 56) X [.int x4] [] (mJ6_bitCount_0f7a4 (eL E) X.wf hq56) gX3_silence_J6_bitCount_0f7a4 rfl ⟨rfl, rfl⟩ (by decide +kernel) ⟨by decide, by decide⟩ rfl rfl (Nat.le_of_ble_eq_true rfl) dX3_silence_56 ?_
    refine at_iload_n (pc := 59) X 2 3 dX3_silence_59 rfl rfl ?_
    obtain ⟨q60, hq60, h⟩ := mm_bind h
    refine at_scalli (n := 1) (pc := 60) X [.int x2] [.int q56.1] (mJ6_bitCount_0f7a4 (eL E) X.wf hq60) gX3_silence_J6_bitCount_0f7a4 rfl ⟨rfl, rfl⟩ (by decide +kernel) ⟨by decide, by decide⟩ rfl rfl (Nat.le_of_ble_eq_true rfl) dX3_silence_60 ?_
    have hj63 : mm_At E G 7 (mm_Qi E G q) q60.2 71 [(0, .ref a0), (1, .int x1), (2, .int x2), (3, .int x3), (4, .int x4), (5, .int q49.1)] [.int (if q56.1 < q60.1 then (1 : Int32) else (0 : Int32))] := by
      exact at_sub [0, 1, 2, 3, 4, 5] rfl (wX3_silence_b71 X ha0 h hk)
    refine at_icmp_ge (pc := 63) X 70 dX3_silence_63 (by decide) (fun c63 => ?_) (fun c63 => ?_)
    · try simp only [if_neg c63] at hj63
      refine at_iconst (pc := 70) X (0 : Int32) dX3_silence_70 ic_0 ?_
      exact at_sub [1, 2, 3, 4, 5, 0] rfl hj63
    · try simp only [if_pos c63] at hj63
      refine at_iconst (pc := 66) X (1 : Int32) dX3_silence_66 ic_1 ?_
      refine at_goto (pc := 67) X 71 dX3_silence_67 (by decide) ?_
      exact at_sub [1, 2, 3, 4, 5, 0] rfl hj63
set_option maxHeartbeats 4000000 in
set_option maxRecDepth 100000 in
theorem wX3_silence_b0 {E : mm_E} {G : mm_G} (X : mm_Cx E G cX3_silence 7 RX3 wsX3_silence rmX3_silence (some .int)) {a0 : Nat} {x1 : Int32} {σ : mm_M} {q : (Int32 × mm_M)} (ha0 : mm_Is G 3 a0) {o : (Int32 × mm_M) ⊕ (Int32 × Int32 × Int32 × mm_M)} (h : fX3_silence_b0 G a0 x1 σ = some o) (hk : mm_Ok q (PX3_silence E G a0 x1 q) o) : mm_At E G 7 (mm_Qi E G q) σ 0 [(0, .ref a0), (1, .int x1)] [] := by
  unfold fX3_silence_b0 at h
  refine at_iload_n (pc := 0) X 1 1 dX3_silence_0 rfl rfl ?_
  refine at_iconst (pc := 1) X (1 : Int32) dX3_silence_1 ic_1 ?_
  refine at_icmp_lt (pc := 2) X 11 dX3_silence_2 (by decide) (fun c2 => ?_) (fun c2 => ?_)
  · have h := mm_pos c2 h
    refine at_iconst (pc := 11) X (-1 : Int32) dX3_silence_11 ic_m1 ?_
    exact at_iret (pc := 12) X (mm_inl h hk) dX3_silence_12
  · have h := mm_neg c2 h
    refine at_iload_n (pc := 5) X 1 1 dX3_silence_5 rfl rfl ?_
    refine at_bipush (pc := 6) X (40 : Int32) dX3_silence_6 ib_40 ?_
    refine at_icmp_le (pc := 8) X 13 dX3_silence_8 (by decide) (fun c8 => ?_) (fun c8 => ?_)
    · have h := mm_neg c8 h
      refine at_aload_n (pc := 13) X 0 0 dX3_silence_13 rfl rfl ?_
      refine at_get (pc := 14) X 3 5 (.ref (mm_R G a0 5)) ha0 (by decide) rfl inX3_silence_X3 (by decide) lkX3_silence_0 rfl dX3_silence_14 ?_
      refine at_get (pc := 17) X 0 1 (.int (σ.1 (mm_R G a0 5) 1)) (wf_3_5 X.wf ha0) (by decide) rfl inX3_silence_X0 (by decide) lkX3_silence_1 rfl dX3_silence_17 ?_
      refine at_if_ne (pc := 20) X 26 dX3_silence_20 (by decide) (fun c20 => ?_) (fun c20 => ?_)
      · have h := mm_neg c20 h
        refine at_iconst (pc := 26) X (0 : Int32) dX3_silence_26 ic_0 ?_
        refine at_istore_n (pc := 27) X 2 [(2, .int (0 : Int32)), (0, .ref a0), (1, .int x1)] dX3_silence_27 rfl (by decide) rfl ?_
        refine at_iconst (pc := 28) X (-1 : Int32) dX3_silence_28 ic_m1 ?_
        refine at_istore_n (pc := 29) X 3 [(3, .int (-1 : Int32)), (2, .int (0 : Int32)), (0, .ref a0), (1, .int x1)] dX3_silence_29 rfl (by decide) rfl ?_
        refine at_iconst (pc := 30) X (0 : Int32) dX3_silence_30 ic_0 ?_
        refine at_istore (pc := 31) X 4 [(4, .int (0 : Int32)), (3, .int (-1 : Int32)), (2, .int (0 : Int32)), (0, .ref a0), (1, .int x1)] dX3_silence_31 (by decide) rfl ?_
        have h2 := mm_inr h hk; exact at_sub [3, 4, 2, 1, 0] rfl h2
      · have h := mm_pos c20 h
        refine at_bipush (pc := 23) X (-4 : Int32) dX3_silence_23 ib_m4 ?_
        exact at_iret (pc := 25) X (mm_inl h hk) dX3_silence_25
    · have h := mm_pos c8 h
      refine at_iconst (pc := 11) X (-1 : Int32) dX3_silence_11 ic_m1 ?_
      exact at_iret (pc := 12) X (mm_inl h hk) dX3_silence_12
set_option maxHeartbeats 4000000 in
set_option maxRecDepth 100000 in
theorem mX3_silence (l : Launch) {G : mm_G} (hwf : mm_WF G) {a0 : Nat} {x1 : Int32} {σ : mm_M} {q : (Int32 × mm_M)} (ha0 : mm_Is G 3 a0) (h : fX3_silence G a0 x1 σ = some q) : mm_Mi l yX3_silence wsX3_silence rmX3_silence G [.ref a0, .int x1] σ q := by
  refine mm_ofi (cc := cX3_silence) (nL := 7) (ret := some .int) (own := RX3) (lv0 := [(0, .ref a0), (1, .int x1)]) (by decide) rfl rfl (Nat.le_of_ble_eq_true rfl) rfl hwf (fun E hE X => ?_)
  obtain ⟨o, h0, hk⟩ := mm_run_ok (P := PX3_silence E G a0 x1 q) h (fun s o hs hk => by exact wX3_silence_b33 X ha0 hs hk)
  exact wX3_silence_b0 X ha0 h0 hk
set_option maxRecDepth 20000 in
theorem ggX3_refusedWatch_X0_has : GoodIn wsX3_refusedWatch wsX0_has := goodIn_r _ [8, 9, 37, 38, 39, 40, 41, 42] (by decide +kernel) (by decide +kernel)
set_option maxRecDepth 20000 in
theorem gX3_refusedWatch_X0_has : GoodIn wsX3_refusedWatch (wsV RX3 113 RX0 yX0_has wsX0_has) := goodIn_app (goodIn_of _ (by decide +kernel)) ggX3_refusedWatch_X0_has
set_option maxRecDepth 20000 in
theorem ggX3_refusedWatch_X3_isRow : GoodIn wsX3_refusedWatch wsX3_isRow := goodIn_r _ [13] (by decide +kernel) (by decide +kernel)
set_option maxRecDepth 20000 in
theorem gX3_refusedWatch_X3_isRow : GoodIn wsX3_refusedWatch (va_wsS RX3 79 yX3_isRow wsX3_isRow) := goodIn_app (goodIn_of _ (by decide +kernel)) ggX3_refusedWatch_X3_isRow
set_option maxRecDepth 20000 in
theorem ggX3_refusedWatch_X3_found : GoodIn wsX3_refusedWatch wsX3_found := goodIn_r _ [17, 18, 19, 20, 21, 22, 23, 24, 25, 26, 27, 28, 29, 30, 31, 32, 33, 34, 35, 36] (by decide +kernel) (by decide +kernel)
set_option maxRecDepth 20000 in
theorem gX3_refusedWatch_X3_found : GoodIn wsX3_refusedWatch (wsV RX3 83 RX3 yX3_found wsX3_found) := goodIn_app (goodIn_of _ (by decide +kernel)) ggX3_refusedWatch_X3_found
theorem dX3_refusedWatch_0 : decode cX3_refusedWatch 0 = .ok (.aload_n 0, 1) := by decide +kernel
theorem dX3_refusedWatch_1 : decode cX3_refusedWatch 1 = .ok (.getfield 33, 3) := by decide +kernel
theorem dX3_refusedWatch_4 : decode cX3_refusedWatch 4 = .ok (.iload_n 1, 1) := by decide +kernel
theorem dX3_refusedWatch_5 : decode cX3_refusedWatch 5 = .ok (.invokevirtual 113, 3) := by decide +kernel
theorem dX3_refusedWatch_8 : decode cX3_refusedWatch 8 = .ok (.ifCond .eq 10, 3) := by decide +kernel
theorem dX3_refusedWatch_11 : decode cX3_refusedWatch 11 = .ok (.iload_n 2, 1) := by decide +kernel
theorem dX3_refusedWatch_12 : decode cX3_refusedWatch 12 = .ok (.invokestatic 79, 3) := by decide +kernel
theorem dX3_refusedWatch_15 : decode cX3_refusedWatch 15 = .ok (.ifCond .ne 5, 3) := by decide +kernel
theorem dX3_refusedWatch_18 : decode cX3_refusedWatch 18 = .ok (.iconst (-1), 1) := by decide +kernel
theorem dX3_refusedWatch_19 : decode cX3_refusedWatch 19 = .ok (.ireturn, 1) := by decide +kernel
theorem dX3_refusedWatch_20 : decode cX3_refusedWatch 20 = .ok (.aload_n 0, 1) := by decide +kernel
theorem dX3_refusedWatch_21 : decode cX3_refusedWatch 21 = .ok (.getfield 14, 3) := by decide +kernel
theorem dX3_refusedWatch_24 : decode cX3_refusedWatch 24 = .ok (.iload_n 2, 1) := by decide +kernel
theorem dX3_refusedWatch_25 : decode cX3_refusedWatch 25 = .ok (.iaload, 1) := by decide +kernel
theorem dX3_refusedWatch_26 : decode cX3_refusedWatch 26 = .ok (.istore_n 3, 1) := by decide +kernel
theorem dX3_refusedWatch_27 : decode cX3_refusedWatch 27 = .ok (.iload_n 3, 1) := by decide +kernel
theorem dX3_refusedWatch_28 : decode cX3_refusedWatch 28 = .ok (.iconst (-1), 1) := by decide +kernel
theorem dX3_refusedWatch_29 : decode cX3_refusedWatch 29 = .ok (.if_icmp .ne 9, 3) := by decide +kernel
theorem dX3_refusedWatch_32 : decode cX3_refusedWatch 32 = .ok (.aload_n 0, 1) := by decide +kernel
theorem dX3_refusedWatch_33 : decode cX3_refusedWatch 33 = .ok (.iconst 1, 1) := by decide +kernel
theorem dX3_refusedWatch_34 : decode cX3_refusedWatch 34 = .ok (.invokevirtual 83, 3) := by decide +kernel
theorem dX3_refusedWatch_37 : decode cX3_refusedWatch 37 = .ok (.ireturn, 1) := by decide +kernel
theorem dX3_refusedWatch_38 : decode cX3_refusedWatch 38 = .ok (.iload_n 3, 1) := by decide +kernel
theorem dX3_refusedWatch_39 : decode cX3_refusedWatch 39 = .ok (.iconst 1, 1) := by decide +kernel
theorem dX3_refusedWatch_40 : decode cX3_refusedWatch 40 = .ok (.if_icmp .lt 9, 3) := by decide +kernel
theorem dX3_refusedWatch_43 : decode cX3_refusedWatch 43 = .ok (.iload_n 3, 1) := by decide +kernel
theorem dX3_refusedWatch_44 : decode cX3_refusedWatch 44 = .ok (.bipush 20, 2) := by decide +kernel
theorem dX3_refusedWatch_46 : decode cX3_refusedWatch 46 = .ok (.if_icmp .le 9, 3) := by decide +kernel
theorem dX3_refusedWatch_49 : decode cX3_refusedWatch 49 = .ok (.aload_n 0, 1) := by decide +kernel
theorem dX3_refusedWatch_50 : decode cX3_refusedWatch 50 = .ok (.iconst 5, 1) := by decide +kernel
theorem dX3_refusedWatch_51 : decode cX3_refusedWatch 51 = .ok (.invokevirtual 83, 3) := by decide +kernel
theorem dX3_refusedWatch_54 : decode cX3_refusedWatch 54 = .ok (.ireturn, 1) := by decide +kernel
theorem dX3_refusedWatch_55 : decode cX3_refusedWatch 55 = .ok (.iconst 0, 1) := by decide +kernel
theorem dX3_refusedWatch_56 : decode cX3_refusedWatch 56 = .ok (.istore 4, 2) := by decide +kernel
theorem dX3_refusedWatch_58 : decode cX3_refusedWatch 58 = .ok (.iload 4, 2) := by decide +kernel
theorem dX3_refusedWatch_60 : decode cX3_refusedWatch 60 = .ok (.iload_n 3, 1) := by decide +kernel
theorem dX3_refusedWatch_61 : decode cX3_refusedWatch 61 = .ok (.if_icmp .ge 41, 3) := by decide +kernel
theorem dX3_refusedWatch_64 : decode cX3_refusedWatch 64 = .ok (.aload_n 0, 1) := by decide +kernel
theorem dX3_refusedWatch_65 : decode cX3_refusedWatch 65 = .ok (.getfield 11, 3) := by decide +kernel
theorem dX3_refusedWatch_68 : decode cX3_refusedWatch 68 = .ok (.iload_n 2, 1) := by decide +kernel
theorem dX3_refusedWatch_69 : decode cX3_refusedWatch 69 = .ok (.aaload, 1) := by decide +kernel
theorem dX3_refusedWatch_70 : decode cX3_refusedWatch 70 = .ok (.iload 4, 2) := by decide +kernel
theorem dX3_refusedWatch_72 : decode cX3_refusedWatch 72 = .ok (.iaload, 1) := by decide +kernel
theorem dX3_refusedWatch_73 : decode cX3_refusedWatch 73 = .ok (.ifCond .lt 17, 3) := by decide +kernel
theorem dX3_refusedWatch_76 : decode cX3_refusedWatch 76 = .ok (.aload_n 0, 1) := by decide +kernel
theorem dX3_refusedWatch_77 : decode cX3_refusedWatch 77 = .ok (.getfield 11, 3) := by decide +kernel
theorem dX3_refusedWatch_80 : decode cX3_refusedWatch 80 = .ok (.iload_n 2, 1) := by decide +kernel
theorem dX3_refusedWatch_81 : decode cX3_refusedWatch 81 = .ok (.aaload, 1) := by decide +kernel
theorem dX3_refusedWatch_82 : decode cX3_refusedWatch 82 = .ok (.iload 4, 2) := by decide +kernel
theorem dX3_refusedWatch_84 : decode cX3_refusedWatch 84 = .ok (.iaload, 1) := by decide +kernel
theorem dX3_refusedWatch_85 : decode cX3_refusedWatch 85 = .ok (.bipush 7, 2) := by decide +kernel
theorem dX3_refusedWatch_87 : decode cX3_refusedWatch 87 = .ok (.if_icmp .le 9, 3) := by decide +kernel
theorem dX3_refusedWatch_90 : decode cX3_refusedWatch 90 = .ok (.aload_n 0, 1) := by decide +kernel
theorem dX3_refusedWatch_91 : decode cX3_refusedWatch 91 = .ok (.iconst 3, 1) := by decide +kernel
theorem dX3_refusedWatch_92 : decode cX3_refusedWatch 92 = .ok (.invokevirtual 83, 3) := by decide +kernel
theorem dX3_refusedWatch_95 : decode cX3_refusedWatch 95 = .ok (.ireturn, 1) := by decide +kernel
theorem dX3_refusedWatch_96 : decode cX3_refusedWatch 96 = .ok (.iinc 4 1, 3) := by decide +kernel
theorem dX3_refusedWatch_99 : decode cX3_refusedWatch 99 = .ok (.goto (-41), 3) := by decide +kernel
theorem dX3_refusedWatch_102 : decode cX3_refusedWatch 102 = .ok (.iconst 0, 1) := by decide +kernel
theorem dX3_refusedWatch_103 : decode cX3_refusedWatch 103 = .ok (.ireturn, 1) := by decide +kernel
/-! X3_refusedWatch (II)I -/
abbrev rmX3_refusedWatch : Room := { frames := 1, cells := 0, slots := 0, locals := 21 }
theorem lkX3_refusedWatch_0 : Cond.fieldLink RX3 33 (TX3 5).1 (TX3 5).2.1 (TX3 5).2.2.1 ∈ wsX3_refusedWatch := by decide +kernel
theorem lkX3_refusedWatch_1 : Cond.fieldLink RX3 14 (TX3 1).1 (TX3 1).2.1 (TX3 1).2.2.1 ∈ wsX3_refusedWatch := by decide +kernel
theorem lkX3_refusedWatch_2 : Cond.fieldLink RX3 11 (TX3 0).1 (TX3 0).2.1 (TX3 0).2.2.1 ∈ wsX3_refusedWatch := by decide +kernel
theorem inX3_refusedWatch_X3 : ∀ w ∈ u_ws RX3 TX3 17, w ∈ wsX3_refusedWatch := by decide +kernel
noncomputable def fX3_refusedWatch_b49 (G : mm_G) (a0 : Nat) (x1 : Int32) (x2 : Int32) (σ : mm_M) : Option ((Int32 × mm_M) ⊕ (Int32 × Int32 × mm_M)) := (fX3_found G a0 (5 : Int32) σ).bind (fun q51 => some (.inl (q51.1, q51.2)))
noncomputable def fX3_refusedWatch_b90 (G : mm_G) (a0 : Nat) (x1 : Int32) (x2 : Int32) (σ : mm_M) : Option ((Int32 × mm_M) ⊕ (Int32 × Int32 × mm_M)) := (fX3_found G a0 (3 : Int32) σ).bind (fun q92 => some (.inl (q92.1, q92.2)))
noncomputable def fX3_refusedWatch_b58 (G : mm_G) (a0 : Nat) (x1 : Int32) (x2 : Int32) (x3 : Int32) (x4 : Int32) (σ : mm_M) : Option ((Int32 × mm_M) ⊕ (Int32 × Int32 × mm_M)) := if x4 < x3 then (if x2 < 0 ∨ mm_N G (mm_R G a0 0) ≤ x2.toNatClampNeg then none else (if x4 < 0 ∨ mm_N G (mm_R G (mm_R G a0 0) x2.toNatClampNeg) ≤ x4.toNatClampNeg then none else (if (σ.1 (mm_R G (mm_R G a0 0) x2.toNatClampNeg) x4.toNatClampNeg) < 0 then (fX3_refusedWatch_b90 G a0 x1 x2 σ) else (if x2 < 0 ∨ mm_N G (mm_R G a0 0) ≤ x2.toNatClampNeg then none else (if x4 < 0 ∨ mm_N G (mm_R G (mm_R G a0 0) x2.toNatClampNeg) ≤ x4.toNatClampNeg then none else (if (7 : Int32) < (σ.1 (mm_R G (mm_R G a0 0) x2.toNatClampNeg) x4.toNatClampNeg) then (fX3_refusedWatch_b90 G a0 x1 x2 σ) else (some (.inr (x3, x4 + 1, σ))))))))) else (some (.inl ((0 : Int32), σ)))
noncomputable def fX3_refusedWatch_b0 (G : mm_G) (a0 : Nat) (x1 : Int32) (x2 : Int32) (σ : mm_M) : Option ((Int32 × mm_M) ⊕ (Int32 × Int32 × mm_M)) := (fX0_has G (mm_R G a0 5) x1 σ).bind (fun q5 => if q5.1 = 0 then (some (.inl ((-1 : Int32), q5.2))) else ((fX3_isRow G x2 q5.2).bind (fun q12 => if q12.1 = 0 then (some (.inl ((-1 : Int32), q12.2))) else (if x2 < 0 ∨ mm_N G (mm_R G a0 1) ≤ x2.toNatClampNeg then none else (if (q12.2.1 (mm_R G a0 1) x2.toNatClampNeg) = (-1 : Int32) then ((fX3_found G a0 (1 : Int32) q12.2).bind (fun q34 => some (.inl (q34.1, q34.2)))) else (if (q12.2.1 (mm_R G a0 1) x2.toNatClampNeg) < (1 : Int32) then (fX3_refusedWatch_b49 G a0 x1 x2 q12.2) else (if (20 : Int32) < (q12.2.1 (mm_R G a0 1) x2.toNatClampNeg) then (fX3_refusedWatch_b49 G a0 x1 x2 q12.2) else (some (.inr (q12.2.1 (mm_R G a0 1) x2.toNatClampNeg, (0 : Int32), q12.2))))))))))
noncomputable def fX3_refusedWatch_s (G : mm_G) (a0 : Nat) (x1 : Int32) (x2 : Int32) : (Int32 × Int32 × mm_M) → Option ((Int32 × mm_M) ⊕ (Int32 × Int32 × mm_M)) := (fun s => fX3_refusedWatch_b58 G a0 x1 x2 s.1 s.2.1 s.2.2)
def PX3_refusedWatch (E : mm_E) (G : mm_G) (a0 : Nat) (x1 : Int32) (x2 : Int32) (q : (Int32 × mm_M)) : (Int32 × Int32 × mm_M) → Prop := (fun s => mm_At E G 5 (mm_Qi E G q) s.2.2 58 [(0, .ref a0), (2, .int x2), (3, .int s.1), (4, .int s.2.1)] [])
noncomputable def fX3_refusedWatch (G : mm_G) (a0 : Nat) (x1 : Int32) (x2 : Int32) (σ : mm_M) : Option (Int32 × mm_M) := mm_run (fX3_refusedWatch_b0 G a0 x1 x2 σ) (fX3_refusedWatch_s G a0 x1 x2)
set_option maxHeartbeats 4000000 in
set_option maxRecDepth 100000 in
theorem wX3_refusedWatch_b49 {E : mm_E} {G : mm_G} (X : mm_Cx E G cX3_refusedWatch 5 RX3 wsX3_refusedWatch rmX3_refusedWatch (some .int)) {a0 : Nat} {x1 : Int32} {x2 : Int32} {σ : mm_M} {q : (Int32 × mm_M)} (ha0 : mm_Is G 3 a0) {o : (Int32 × mm_M) ⊕ (Int32 × Int32 × mm_M)} (h : fX3_refusedWatch_b49 G a0 x1 x2 σ = some o) (hk : mm_Ok q (PX3_refusedWatch E G a0 x1 x2 q) o) : mm_At E G 5 (mm_Qi E G q) σ 49 [(0, .ref a0)] [] := by
  unfold fX3_refusedWatch_b49 at h
  refine at_aload_n (pc := 49) X 0 0 dX3_refusedWatch_49 rfl rfl ?_
  refine at_iconst (pc := 50) X (5 : Int32) dX3_refusedWatch_50 ic_5 ?_
  obtain ⟨q51, hq51, h⟩ := mm_bind h
  refine at_calli (n := 1) (pc := 51) X 3 [.int (5 : Int32)] [] (mX3_found (eL E) X.wf ha0 hq51) gX3_refusedWatch_X3_found rfl ⟨rfl, rfl⟩ (by decide +kernel) ⟨by decide, by decide⟩ (by decide) rfl ha0 rfl rfl (Nat.le_of_ble_eq_true rfl) dX3_refusedWatch_51 ?_
  exact at_iret (pc := 54) X (mm_inl h hk) dX3_refusedWatch_54
set_option maxHeartbeats 4000000 in
set_option maxRecDepth 100000 in
theorem wX3_refusedWatch_b90 {E : mm_E} {G : mm_G} (X : mm_Cx E G cX3_refusedWatch 5 RX3 wsX3_refusedWatch rmX3_refusedWatch (some .int)) {a0 : Nat} {x1 : Int32} {x2 : Int32} {σ : mm_M} {q : (Int32 × mm_M)} (ha0 : mm_Is G 3 a0) {o : (Int32 × mm_M) ⊕ (Int32 × Int32 × mm_M)} (h : fX3_refusedWatch_b90 G a0 x1 x2 σ = some o) (hk : mm_Ok q (PX3_refusedWatch E G a0 x1 x2 q) o) : mm_At E G 5 (mm_Qi E G q) σ 90 [(0, .ref a0)] [] := by
  unfold fX3_refusedWatch_b90 at h
  refine at_aload_n (pc := 90) X 0 0 dX3_refusedWatch_90 rfl rfl ?_
  refine at_iconst (pc := 91) X (3 : Int32) dX3_refusedWatch_91 ic_3 ?_
  obtain ⟨q92, hq92, h⟩ := mm_bind h
  refine at_calli (n := 1) (pc := 92) X 3 [.int (3 : Int32)] [] (mX3_found (eL E) X.wf ha0 hq92) gX3_refusedWatch_X3_found rfl ⟨rfl, rfl⟩ (by decide +kernel) ⟨by decide, by decide⟩ (by decide) rfl ha0 rfl rfl (Nat.le_of_ble_eq_true rfl) dX3_refusedWatch_92 ?_
  exact at_iret (pc := 95) X (mm_inl h hk) dX3_refusedWatch_95
set_option maxHeartbeats 4000000 in
set_option maxRecDepth 100000 in
theorem wX3_refusedWatch_b58 {E : mm_E} {G : mm_G} (X : mm_Cx E G cX3_refusedWatch 5 RX3 wsX3_refusedWatch rmX3_refusedWatch (some .int)) {a0 : Nat} {x1 : Int32} {x2 : Int32} {x3 : Int32} {x4 : Int32} {σ : mm_M} {q : (Int32 × mm_M)} (ha0 : mm_Is G 3 a0) {o : (Int32 × mm_M) ⊕ (Int32 × Int32 × mm_M)} (h : fX3_refusedWatch_b58 G a0 x1 x2 x3 x4 σ = some o) (hk : mm_Ok q (PX3_refusedWatch E G a0 x1 x2 q) o) : mm_At E G 5 (mm_Qi E G q) σ 58 [(0, .ref a0), (2, .int x2), (3, .int x3), (4, .int x4)] [] := by
  unfold fX3_refusedWatch_b58 at h
  refine at_iload (pc := 58) X 4 3 dX3_refusedWatch_58 rfl ?_
  refine at_iload_n (pc := 60) X 3 2 dX3_refusedWatch_60 rfl rfl ?_
  refine at_icmp_ge (pc := 61) X 102 dX3_refusedWatch_61 (by decide) (fun c61 => ?_) (fun c61 => ?_)
  · have h := mm_neg c61 h
    refine at_iconst (pc := 102) X (0 : Int32) dX3_refusedWatch_102 ic_0 ?_
    exact at_iret (pc := 103) X (mm_inl h hk) dX3_refusedWatch_103
  · have h := mm_pos c61 h
    refine at_aload_n (pc := 64) X 0 0 dX3_refusedWatch_64 rfl rfl ?_
    refine at_get (pc := 65) X 3 0 (.ref (mm_R G a0 0)) ha0 (by decide) rfl inX3_refusedWatch_X3 (by decide) lkX3_refusedWatch_2 rfl dX3_refusedWatch_65 ?_
    refine at_iload_n (pc := 68) X 2 1 dX3_refusedWatch_68 rfl rfl ?_
    obtain ⟨hc69, h⟩ := mm_chk h
    refine at_aald (pc := 69) X 10 5 (wf_3_0 X.wf ha0) (by decide) (by decide) rfl rfl hc69 dX3_refusedWatch_69 ?_
    refine at_iload (pc := 70) X 4 3 dX3_refusedWatch_70 rfl ?_
    obtain ⟨hc72, h⟩ := mm_chk h
    refine at_iald (pc := 72) X (wf_10 X.wf (wf_3_0 X.wf ha0) hc69) hc72 dX3_refusedWatch_72 ?_
    refine at_if_lt (pc := 73) X 90 dX3_refusedWatch_73 (by decide) (fun c73 => ?_) (fun c73 => ?_)
    · have h := mm_pos c73 h
      exact at_sub [0] rfl (wX3_refusedWatch_b90 X ha0 h hk)
    · have h := mm_neg c73 h
      refine at_aload_n (pc := 76) X 0 0 dX3_refusedWatch_76 rfl rfl ?_
      refine at_get (pc := 77) X 3 0 (.ref (mm_R G a0 0)) ha0 (by decide) rfl inX3_refusedWatch_X3 (by decide) lkX3_refusedWatch_2 rfl dX3_refusedWatch_77 ?_
      refine at_iload_n (pc := 80) X 2 1 dX3_refusedWatch_80 rfl rfl ?_
      obtain ⟨hc81, h⟩ := mm_chk h
      refine at_aald (pc := 81) X 10 5 (wf_3_0 X.wf ha0) (by decide) (by decide) rfl rfl hc81 dX3_refusedWatch_81 ?_
      refine at_iload (pc := 82) X 4 3 dX3_refusedWatch_82 rfl ?_
      obtain ⟨hc84, h⟩ := mm_chk h
      refine at_iald (pc := 84) X (wf_10 X.wf (wf_3_0 X.wf ha0) hc81) hc84 dX3_refusedWatch_84 ?_
      refine at_bipush (pc := 85) X (7 : Int32) dX3_refusedWatch_85 ib_7 ?_
      refine at_icmp_le (pc := 87) X 96 dX3_refusedWatch_87 (by decide) (fun c87 => ?_) (fun c87 => ?_)
      · have h := mm_neg c87 h
        refine at_iinc (pc := 96) X 4 3 (x4 + 1) [(4, .int (x4 + 1)), (0, .ref a0), (2, .int x2), (3, .int x3)] dX3_refusedWatch_96 rfl (ii_1 _) (by decide) rfl ?_
        refine at_goto (pc := 99) X 58 dX3_refusedWatch_99 (by decide) ?_
        have h2 := mm_inr h hk; exact at_sub [1, 2, 3, 0] rfl h2
      · have h := mm_pos c87 h
        exact at_sub [0] rfl (wX3_refusedWatch_b90 X ha0 h hk)
set_option maxHeartbeats 4000000 in
set_option maxRecDepth 100000 in
theorem wX3_refusedWatch_b0 {E : mm_E} {G : mm_G} (X : mm_Cx E G cX3_refusedWatch 5 RX3 wsX3_refusedWatch rmX3_refusedWatch (some .int)) {a0 : Nat} {x1 : Int32} {x2 : Int32} {σ : mm_M} {q : (Int32 × mm_M)} (ha0 : mm_Is G 3 a0) {o : (Int32 × mm_M) ⊕ (Int32 × Int32 × mm_M)} (h : fX3_refusedWatch_b0 G a0 x1 x2 σ = some o) (hk : mm_Ok q (PX3_refusedWatch E G a0 x1 x2 q) o) : mm_At E G 5 (mm_Qi E G q) σ 0 [(0, .ref a0), (1, .int x1), (2, .int x2)] [] := by
  unfold fX3_refusedWatch_b0 at h
  refine at_aload_n (pc := 0) X 0 0 dX3_refusedWatch_0 rfl rfl ?_
  refine at_get (pc := 1) X 3 5 (.ref (mm_R G a0 5)) ha0 (by decide) rfl inX3_refusedWatch_X3 (by decide) lkX3_refusedWatch_0 rfl dX3_refusedWatch_1 ?_
  refine at_iload_n (pc := 4) X 1 1 dX3_refusedWatch_4 rfl rfl ?_
  obtain ⟨q5, hq5, h⟩ := mm_bind h
  refine at_calli (n := 1) (pc := 5) X 0 [.int x1] [] (mX0_has (eL E) X.wf (wf_3_5 X.wf ha0) hq5) gX3_refusedWatch_X0_has rfl ⟨rfl, rfl⟩ (by decide +kernel) ⟨by decide, by decide⟩ (by decide) rfl (wf_3_5 X.wf ha0) rfl rfl (Nat.le_of_ble_eq_true rfl) dX3_refusedWatch_5 ?_
  refine at_if_eq (pc := 8) X 18 dX3_refusedWatch_8 (by decide) (fun c8 => ?_) (fun c8 => ?_)
  · have h := mm_pos c8 h
    refine at_iconst (pc := 18) X (-1 : Int32) dX3_refusedWatch_18 ic_m1 ?_
    exact at_iret (pc := 19) X (mm_inl h hk) dX3_refusedWatch_19
  · have h := mm_neg c8 h
    refine at_iload_n (pc := 11) X 2 2 dX3_refusedWatch_11 rfl rfl ?_
    obtain ⟨q12, hq12, h⟩ := mm_bind h
    refine at_scalli (n := 1) (pc := 12) X [.int x2] [] (mX3_isRow (eL E) X.wf hq12) gX3_refusedWatch_X3_isRow rfl ⟨rfl, rfl⟩ (by decide +kernel) ⟨by decide, by decide⟩ rfl rfl (Nat.le_of_ble_eq_true rfl) dX3_refusedWatch_12 ?_
    refine at_if_ne (pc := 15) X 20 dX3_refusedWatch_15 (by decide) (fun c15 => ?_) (fun c15 => ?_)
    · have h := mm_neg c15 h
      refine at_aload_n (pc := 20) X 0 0 dX3_refusedWatch_20 rfl rfl ?_
      refine at_get (pc := 21) X 3 1 (.ref (mm_R G a0 1)) ha0 (by decide) rfl inX3_refusedWatch_X3 (by decide) lkX3_refusedWatch_1 rfl dX3_refusedWatch_21 ?_
      refine at_iload_n (pc := 24) X 2 2 dX3_refusedWatch_24 rfl rfl ?_
      obtain ⟨hc25, h⟩ := mm_chk h
      refine at_iald (pc := 25) X (wf_3_1 X.wf ha0) hc25 dX3_refusedWatch_25 ?_
      refine at_istore_n (pc := 26) X 3 [(3, .int (q12.2.1 (mm_R G a0 1) x2.toNatClampNeg)), (0, .ref a0), (1, .int x1), (2, .int x2)] dX3_refusedWatch_26 rfl (by decide) rfl ?_
      refine at_iload_n (pc := 27) X 3 0 dX3_refusedWatch_27 rfl rfl ?_
      refine at_iconst (pc := 28) X (-1 : Int32) dX3_refusedWatch_28 ic_m1 ?_
      refine at_icmp_ne (pc := 29) X 38 dX3_refusedWatch_29 (by decide) (fun c29 => ?_) (fun c29 => ?_)
      · have h := mm_neg c29 h
        refine at_iload_n (pc := 38) X 3 0 dX3_refusedWatch_38 rfl rfl ?_
        refine at_iconst (pc := 39) X (1 : Int32) dX3_refusedWatch_39 ic_1 ?_
        refine at_icmp_lt (pc := 40) X 49 dX3_refusedWatch_40 (by decide) (fun c40 => ?_) (fun c40 => ?_)
        · have h := mm_pos c40 h
          exact at_sub [1] rfl (wX3_refusedWatch_b49 X ha0 h hk)
        · have h := mm_neg c40 h
          refine at_iload_n (pc := 43) X 3 0 dX3_refusedWatch_43 rfl rfl ?_
          refine at_bipush (pc := 44) X (20 : Int32) dX3_refusedWatch_44 ib_20 ?_
          refine at_icmp_le (pc := 46) X 55 dX3_refusedWatch_46 (by decide) (fun c46 => ?_) (fun c46 => ?_)
          · have h := mm_neg c46 h
            refine at_iconst (pc := 55) X (0 : Int32) dX3_refusedWatch_55 ic_0 ?_
            refine at_istore (pc := 56) X 4 [(4, .int (0 : Int32)), (3, .int (q12.2.1 (mm_R G a0 1) x2.toNatClampNeg)), (0, .ref a0), (1, .int x1), (2, .int x2)] dX3_refusedWatch_56 (by decide) rfl ?_
            have h2 := mm_inr h hk; exact at_sub [2, 4, 1, 0] rfl h2
          · have h := mm_pos c46 h
            exact at_sub [1] rfl (wX3_refusedWatch_b49 X ha0 h hk)
      · have h := mm_pos c29 h
        refine at_aload_n (pc := 32) X 0 1 dX3_refusedWatch_32 rfl rfl ?_
        refine at_iconst (pc := 33) X (1 : Int32) dX3_refusedWatch_33 ic_1 ?_
        obtain ⟨q34, hq34, h⟩ := mm_bind h
        refine at_calli (n := 1) (pc := 34) X 3 [.int (1 : Int32)] [] (mX3_found (eL E) X.wf ha0 hq34) gX3_refusedWatch_X3_found rfl ⟨rfl, rfl⟩ (by decide +kernel) ⟨by decide, by decide⟩ (by decide) rfl ha0 rfl rfl (Nat.le_of_ble_eq_true rfl) dX3_refusedWatch_34 ?_
        exact at_iret (pc := 37) X (mm_inl h hk) dX3_refusedWatch_37
    · have h := mm_pos c15 h
      refine at_iconst (pc := 18) X (-1 : Int32) dX3_refusedWatch_18 ic_m1 ?_
      exact at_iret (pc := 19) X (mm_inl h hk) dX3_refusedWatch_19
set_option maxHeartbeats 4000000 in
set_option maxRecDepth 100000 in
theorem mX3_refusedWatch (l : Launch) {G : mm_G} (hwf : mm_WF G) {a0 : Nat} {x1 : Int32} {x2 : Int32} {σ : mm_M} {q : (Int32 × mm_M)} (ha0 : mm_Is G 3 a0) (h : fX3_refusedWatch G a0 x1 x2 σ = some q) : mm_Mi l yX3_refusedWatch wsX3_refusedWatch rmX3_refusedWatch G [.ref a0, .int x1, .int x2] σ q := by
  refine mm_ofi (cc := cX3_refusedWatch) (nL := 5) (ret := some .int) (own := RX3) (lv0 := [(0, .ref a0), (1, .int x1), (2, .int x2)]) (by decide) rfl rfl (Nat.le_of_ble_eq_true rfl) rfl hwf (fun E hE X => ?_)
  obtain ⟨o, h0, hk⟩ := mm_run_ok (P := PX3_refusedWatch E G a0 x1 x2 q) h (fun s o hs hk => by exact wX3_refusedWatch_b58 X ha0 hs hk)
  exact wX3_refusedWatch_b0 X ha0 h0 hk
set_option maxRecDepth 20000 in
theorem ggX3_asideFits_X0_goBy : GoodIn wsX3_asideFits wsX0_goBy := goodIn_r _ [8, 9, 10, 11, 12, 13, 14, 15, 16, 17, 18, 7, 19, 20, 21, 22, 23, 24, 25, 26, 27, 28, 29, 30, 31, 32, 33, 34, 35, 36, 37, 38, 39, 40, 41, 42, 43, 44, 45, 46, 47, 48, 49, 50, 51, 52, 53, 54, 55, 56, 57, 58, 59, 60, 61, 62, 63, 64, 65, 66, 67, 68, 69, 70, 71, 72, 91, 92, 93, 94, 95, 96, 97, 98, 99, 100, 101, 102] (by decide +kernel) (by decide +kernel)
set_option maxRecDepth 20000 in
theorem gX3_asideFits_X0_goBy : GoodIn wsX3_asideFits (wsV RX3 183 RX0 yX0_goBy wsX0_goBy) := goodIn_app (goodIn_of _ (by decide +kernel)) ggX3_asideFits_X0_goBy
set_option maxRecDepth 20000 in
theorem ggX3_asideFits_J6_bitCount_0f7a4 : GoodIn wsX3_asideFits wsJ6_bitCount_0f7a4 := goodIn_r _ [35, 36, 37, 38] (by decide +kernel) (by decide +kernel)
set_option maxRecDepth 20000 in
theorem gX3_asideFits_J6_bitCount_0f7a4 : GoodIn wsX3_asideFits (va_wsS RX3 168 yJ6_bitCount_0f7a4 wsJ6_bitCount_0f7a4) := goodIn_app (goodIn_of _ (by decide +kernel)) ggX3_asideFits_J6_bitCount_0f7a4
theorem dX3_asideFits_0 : decode cX3_asideFits 0 = .ok (.iconst 0, 1) := by decide +kernel
theorem dX3_asideFits_1 : decode cX3_asideFits 1 = .ok (.istore_n 2, 1) := by decide +kernel
theorem dX3_asideFits_2 : decode cX3_asideFits 2 = .ok (.iload_n 2, 1) := by decide +kernel
theorem dX3_asideFits_3 : decode cX3_asideFits 3 = .ok (.aload_n 0, 1) := by decide +kernel
theorem dX3_asideFits_4 : decode cX3_asideFits 4 = .ok (.getfield 14, 3) := by decide +kernel
theorem dX3_asideFits_7 : decode cX3_asideFits 7 = .ok (.iload_n 1, 1) := by decide +kernel
theorem dX3_asideFits_8 : decode cX3_asideFits 8 = .ok (.iaload, 1) := by decide +kernel
theorem dX3_asideFits_9 : decode cX3_asideFits 9 = .ok (.if_icmp .ge 33, 3) := by decide +kernel
theorem dX3_asideFits_12 : decode cX3_asideFits 12 = .ok (.aload_n 0, 1) := by decide +kernel
theorem dX3_asideFits_13 : decode cX3_asideFits 13 = .ok (.getfield 47, 3) := by decide +kernel
theorem dX3_asideFits_16 : decode cX3_asideFits 16 = .ok (.iconst 0, 1) := by decide +kernel
theorem dX3_asideFits_17 : decode cX3_asideFits 17 = .ok (.invokevirtual 183, 3) := by decide +kernel
theorem dX3_asideFits_20 : decode cX3_asideFits 20 = .ok (.invokestatic 168, 3) := by decide +kernel
theorem dX3_asideFits_23 : decode cX3_asideFits 23 = .ok (.aload_n 0, 1) := by decide +kernel
theorem dX3_asideFits_24 : decode cX3_asideFits 24 = .ok (.getfield 11, 3) := by decide +kernel
theorem dX3_asideFits_27 : decode cX3_asideFits 27 = .ok (.iload_n 1, 1) := by decide +kernel
theorem dX3_asideFits_28 : decode cX3_asideFits 28 = .ok (.aaload, 1) := by decide +kernel
theorem dX3_asideFits_29 : decode cX3_asideFits 29 = .ok (.iload_n 2, 1) := by decide +kernel
theorem dX3_asideFits_30 : decode cX3_asideFits 30 = .ok (.iaload, 1) := by decide +kernel
theorem dX3_asideFits_31 : decode cX3_asideFits 31 = .ok (.if_icmp .eq 5, 3) := by decide +kernel
theorem dX3_asideFits_34 : decode cX3_asideFits 34 = .ok (.iconst 0, 1) := by decide +kernel
theorem dX3_asideFits_35 : decode cX3_asideFits 35 = .ok (.ireturn, 1) := by decide +kernel
theorem dX3_asideFits_36 : decode cX3_asideFits 36 = .ok (.iinc 2 1, 3) := by decide +kernel
theorem dX3_asideFits_39 : decode cX3_asideFits 39 = .ok (.goto (-37), 3) := by decide +kernel
theorem dX3_asideFits_42 : decode cX3_asideFits 42 = .ok (.iconst 1, 1) := by decide +kernel
theorem dX3_asideFits_43 : decode cX3_asideFits 43 = .ok (.ireturn, 1) := by decide +kernel
/-! X3_asideFits (I)Z -/
abbrev rmX3_asideFits : Room := { frames := 5, cells := 0, slots := 0, locals := 105 }
theorem lkX3_asideFits_0 : Cond.fieldLink RX3 14 (TX3 1).1 (TX3 1).2.1 (TX3 1).2.2.1 ∈ wsX3_asideFits := by decide +kernel
theorem lkX3_asideFits_1 : Cond.fieldLink RX3 47 (TX3 8).1 (TX3 8).2.1 (TX3 8).2.2.1 ∈ wsX3_asideFits := by decide +kernel
theorem lkX3_asideFits_2 : Cond.fieldLink RX3 11 (TX3 0).1 (TX3 0).2.1 (TX3 0).2.2.1 ∈ wsX3_asideFits := by decide +kernel
theorem inX3_asideFits_X3 : ∀ w ∈ u_ws RX3 TX3 17, w ∈ wsX3_asideFits := by decide +kernel
noncomputable def fX3_asideFits_b2 (G : mm_G) (a0 : Nat) (x1 : Int32) (x2 : Int32) (σ : mm_M) : Option ((Int32 × mm_M) ⊕ (Int32 × mm_M)) := if x1 < 0 ∨ mm_N G (mm_R G a0 1) ≤ x1.toNatClampNeg then none else (if x2 < (σ.1 (mm_R G a0 1) x1.toNatClampNeg) then ((fX0_goBy G (mm_R G a0 8) (0 : Int32) σ).bind (fun q17 => (fJ6_bitCount_0f7a4 G q17.1 q17.2).bind (fun q20 => if x1 < 0 ∨ mm_N G (mm_R G a0 0) ≤ x1.toNatClampNeg then none else (if x2 < 0 ∨ mm_N G (mm_R G (mm_R G a0 0) x1.toNatClampNeg) ≤ x2.toNatClampNeg then none else (if q20.1 = (q20.2.1 (mm_R G (mm_R G a0 0) x1.toNatClampNeg) x2.toNatClampNeg) then (some (.inr (x2 + 1, q20.2))) else (some (.inl ((0 : Int32), q20.2)))))))) else (some (.inl ((1 : Int32), σ))))
noncomputable def fX3_asideFits_b0 (G : mm_G) (a0 : Nat) (x1 : Int32) (σ : mm_M) : Option ((Int32 × mm_M) ⊕ (Int32 × mm_M)) := some (.inr ((0 : Int32), σ))
noncomputable def fX3_asideFits_s (G : mm_G) (a0 : Nat) (x1 : Int32) : (Int32 × mm_M) → Option ((Int32 × mm_M) ⊕ (Int32 × mm_M)) := (fun s => fX3_asideFits_b2 G a0 x1 s.1 s.2)
def PX3_asideFits (E : mm_E) (G : mm_G) (a0 : Nat) (x1 : Int32) (q : (Int32 × mm_M)) : (Int32 × mm_M) → Prop := (fun s => mm_At E G 3 (mm_Qi E G q) s.2 2 [(0, .ref a0), (1, .int x1), (2, .int s.1)] [])
noncomputable def fX3_asideFits (G : mm_G) (a0 : Nat) (x1 : Int32) (σ : mm_M) : Option (Int32 × mm_M) := mm_run (fX3_asideFits_b0 G a0 x1 σ) (fX3_asideFits_s G a0 x1)
set_option maxHeartbeats 4000000 in
set_option maxRecDepth 100000 in
theorem wX3_asideFits_b2 {E : mm_E} {G : mm_G} (X : mm_Cx E G cX3_asideFits 3 RX3 wsX3_asideFits rmX3_asideFits (some .boolean)) {a0 : Nat} {x1 : Int32} {x2 : Int32} {σ : mm_M} {q : (Int32 × mm_M)} (ha0 : mm_Is G 3 a0) {o : (Int32 × mm_M) ⊕ (Int32 × mm_M)} (h : fX3_asideFits_b2 G a0 x1 x2 σ = some o) (hk : mm_Ok q (PX3_asideFits E G a0 x1 q) o) : mm_At E G 3 (mm_Qi E G q) σ 2 [(0, .ref a0), (1, .int x1), (2, .int x2)] [] := by
  unfold fX3_asideFits_b2 at h
  refine at_iload_n (pc := 2) X 2 2 dX3_asideFits_2 rfl rfl ?_
  refine at_aload_n (pc := 3) X 0 0 dX3_asideFits_3 rfl rfl ?_
  refine at_get (pc := 4) X 3 1 (.ref (mm_R G a0 1)) ha0 (by decide) rfl inX3_asideFits_X3 (by decide) lkX3_asideFits_0 rfl dX3_asideFits_4 ?_
  refine at_iload_n (pc := 7) X 1 1 dX3_asideFits_7 rfl rfl ?_
  obtain ⟨hc8, h⟩ := mm_chk h
  refine at_iald (pc := 8) X (wf_3_1 X.wf ha0) hc8 dX3_asideFits_8 ?_
  refine at_icmp_ge (pc := 9) X 42 dX3_asideFits_9 (by decide) (fun c9 => ?_) (fun c9 => ?_)
  · have h := mm_neg c9 h
    refine at_iconst (pc := 42) X (1 : Int32) dX3_asideFits_42 ic_1 ?_
    exact at_zret (pc := 43) X (Or.inr rfl) (mm_inl h hk) dX3_asideFits_43
  · have h := mm_pos c9 h
    refine at_aload_n (pc := 12) X 0 0 dX3_asideFits_12 rfl rfl ?_
    refine at_get (pc := 13) X 3 8 (.ref (mm_R G a0 8)) ha0 (by decide) rfl inX3_asideFits_X3 (by decide) lkX3_asideFits_1 rfl dX3_asideFits_13 ?_
    refine at_iconst (pc := 16) X (0 : Int32) dX3_asideFits_16 ic_0 ?_
    obtain ⟨q17, hq17, h⟩ := mm_bind h
    refine at_calli (n := 1) (pc := 17) X 0 [.int (0 : Int32)] [] (mX0_goBy (eL E) X.wf (wf_3_8 X.wf ha0) hq17) gX3_asideFits_X0_goBy rfl ⟨rfl, rfl⟩ (by decide +kernel) ⟨by decide, by decide⟩ (by decide) rfl (wf_3_8 X.wf ha0) rfl rfl (Nat.le_of_ble_eq_true rfl) dX3_asideFits_17 ?_
    obtain ⟨q20, hq20, h⟩ := mm_bind h
    refine at_scalli (n := 1) (pc := 20) X [.int q17.1] [] (mJ6_bitCount_0f7a4 (eL E) X.wf hq20) gX3_asideFits_J6_bitCount_0f7a4 rfl ⟨rfl, rfl⟩ (by decide +kernel) ⟨by decide, by decide⟩ rfl rfl (Nat.le_of_ble_eq_true rfl) dX3_asideFits_20 ?_
    refine at_aload_n (pc := 23) X 0 0 dX3_asideFits_23 rfl rfl ?_
    refine at_get (pc := 24) X 3 0 (.ref (mm_R G a0 0)) ha0 (by decide) rfl inX3_asideFits_X3 (by decide) lkX3_asideFits_2 rfl dX3_asideFits_24 ?_
    refine at_iload_n (pc := 27) X 1 1 dX3_asideFits_27 rfl rfl ?_
    obtain ⟨hc28, h⟩ := mm_chk h
    refine at_aald (pc := 28) X 10 5 (wf_3_0 X.wf ha0) (by decide) (by decide) rfl rfl hc28 dX3_asideFits_28 ?_
    refine at_iload_n (pc := 29) X 2 2 dX3_asideFits_29 rfl rfl ?_
    obtain ⟨hc30, h⟩ := mm_chk h
    refine at_iald (pc := 30) X (wf_10 X.wf (wf_3_0 X.wf ha0) hc28) hc30 dX3_asideFits_30 ?_
    refine at_icmp_eq (pc := 31) X 36 dX3_asideFits_31 (by decide) (fun c31 => ?_) (fun c31 => ?_)
    · have h := mm_pos c31 h
      refine at_iinc (pc := 36) X 2 2 (x2 + 1) [(2, .int (x2 + 1)), (0, .ref a0), (1, .int x1)] dX3_asideFits_36 rfl (ii_1 _) (by decide) rfl ?_
      refine at_goto (pc := 39) X 2 dX3_asideFits_39 (by decide) ?_
      have h2 := mm_inr h hk; exact at_sub [1, 2, 0] rfl h2
    · have h := mm_neg c31 h
      refine at_iconst (pc := 34) X (0 : Int32) dX3_asideFits_34 ic_0 ?_
      exact at_zret (pc := 35) X (Or.inl rfl) (mm_inl h hk) dX3_asideFits_35
set_option maxHeartbeats 4000000 in
set_option maxRecDepth 100000 in
theorem wX3_asideFits_b0 {E : mm_E} {G : mm_G} (X : mm_Cx E G cX3_asideFits 3 RX3 wsX3_asideFits rmX3_asideFits (some .boolean)) {a0 : Nat} {x1 : Int32} {σ : mm_M} {q : (Int32 × mm_M)} (ha0 : mm_Is G 3 a0) {o : (Int32 × mm_M) ⊕ (Int32 × mm_M)} (h : fX3_asideFits_b0 G a0 x1 σ = some o) (hk : mm_Ok q (PX3_asideFits E G a0 x1 q) o) : mm_At E G 3 (mm_Qi E G q) σ 0 [(0, .ref a0), (1, .int x1)] [] := by
  unfold fX3_asideFits_b0 at h
  refine at_iconst (pc := 0) X (0 : Int32) dX3_asideFits_0 ic_0 ?_
  refine at_istore_n (pc := 1) X 2 [(2, .int (0 : Int32)), (0, .ref a0), (1, .int x1)] dX3_asideFits_1 rfl (by decide) rfl ?_
  have h2 := mm_inr h hk; exact at_sub [1, 2, 0] rfl h2
set_option maxHeartbeats 4000000 in
set_option maxRecDepth 100000 in
theorem mX3_asideFits (l : Launch) {G : mm_G} (hwf : mm_WF G) {a0 : Nat} {x1 : Int32} {σ : mm_M} {q : (Int32 × mm_M)} (ha0 : mm_Is G 3 a0) (h : fX3_asideFits G a0 x1 σ = some q) : mm_Mi l yX3_asideFits wsX3_asideFits rmX3_asideFits G [.ref a0, .int x1] σ q := by
  refine mm_ofi (cc := cX3_asideFits) (nL := 3) (ret := some .boolean) (own := RX3) (lv0 := [(0, .ref a0), (1, .int x1)]) (by decide) rfl rfl (Nat.le_of_ble_eq_true rfl) rfl hwf (fun E hE X => ?_)
  obtain ⟨o, h0, hk⟩ := mm_run_ok (P := PX3_asideFits E G a0 x1 q) h (fun s o hs hk => by exact wX3_asideFits_b2 X ha0 hs hk)
  exact wX3_asideFits_b0 X ha0 h0 hk
set_option maxRecDepth 20000 in
theorem ggX3_kindsThatFit_X0_become : GoodIn wsX3_kindsThatFit wsX0_become := goodIn_r _ [9, 10, 11, 12, 13, 14, 15, 16, 17, 18, 19, 20, 21, 22, 23, 24, 25, 26, 107, 108, 109, 110, 111, 112, 113, 114, 115, 116, 117, 118] (by decide +kernel) (by decide +kernel)
set_option maxRecDepth 20000 in
theorem gX3_kindsThatFit_X0_become : GoodIn wsX3_kindsThatFit (wsV RX3 108 RX0 yX0_become wsX0_become) := goodIn_app (goodIn_of _ (by decide +kernel)) ggX3_kindsThatFit_X0_become
set_option maxRecDepth 20000 in
theorem ggX3_kindsThatFit_X3_asideFits : GoodIn wsX3_kindsThatFit wsX3_asideFits := goodIn_r _ [31, 32, 1, 33, 34, 35, 36, 8, 37, 10, 15, 38, 12, 11, 13, 14, 39, 40, 41, 42, 43, 44, 45, 19, 46, 24, 25, 47, 48, 49, 50, 21, 51, 52, 53, 54, 55, 56, 57, 58, 59, 60, 61, 26, 62, 63, 64, 65, 66, 67, 68, 69, 70, 71, 72, 73, 22, 23, 74, 75, 76, 77, 78, 79, 80, 81, 82, 83, 84, 85, 86, 87, 88, 89, 90, 91, 92, 93, 94, 95, 96, 97, 98, 99, 100, 101, 102, 103, 104, 105, 106, 107, 108, 109, 110, 111, 112, 113, 114, 115, 116, 117, 118] (by decide +kernel) (by decide +kernel)
set_option maxRecDepth 20000 in
theorem gX3_kindsThatFit_X3_asideFits : GoodIn wsX3_kindsThatFit (wsV RX3 199 RX3 yX3_asideFits wsX3_asideFits) := goodIn_app (goodIn_of _ (by decide +kernel)) ggX3_kindsThatFit_X3_asideFits
theorem dX3_kindsThatFit_0 : decode cX3_kindsThatFit 0 = .ok (.iconst 0, 1) := by decide +kernel
theorem dX3_kindsThatFit_1 : decode cX3_kindsThatFit 1 = .ok (.istore_n 3, 1) := by decide +kernel
theorem dX3_kindsThatFit_2 : decode cX3_kindsThatFit 2 = .ok (.iconst 0, 1) := by decide +kernel
theorem dX3_kindsThatFit_3 : decode cX3_kindsThatFit 3 = .ok (.istore 4, 2) := by decide +kernel
theorem dX3_kindsThatFit_5 : decode cX3_kindsThatFit 5 = .ok (.iload 4, 2) := by decide +kernel
theorem dX3_kindsThatFit_7 : decode cX3_kindsThatFit 7 = .ok (.bipush 6, 2) := by decide +kernel
theorem dX3_kindsThatFit_9 : decode cX3_kindsThatFit 9 = .ok (.if_icmp .ge 49, 3) := by decide +kernel
theorem dX3_kindsThatFit_12 : decode cX3_kindsThatFit 12 = .ok (.aload_n 0, 1) := by decide +kernel
theorem dX3_kindsThatFit_13 : decode cX3_kindsThatFit 13 = .ok (.getfield 47, 3) := by decide +kernel
theorem dX3_kindsThatFit_16 : decode cX3_kindsThatFit 16 = .ok (.aload_n 0, 1) := by decide +kernel
theorem dX3_kindsThatFit_17 : decode cX3_kindsThatFit 17 = .ok (.getfield 33, 3) := by decide +kernel
theorem dX3_kindsThatFit_20 : decode cX3_kindsThatFit 20 = .ok (.invokevirtual 108, 3) := by decide +kernel
theorem dX3_kindsThatFit_23 : decode cX3_kindsThatFit 23 = .ok (.aload_n 0, 1) := by decide +kernel
theorem dX3_kindsThatFit_24 : decode cX3_kindsThatFit 24 = .ok (.getfield 47, 3) := by decide +kernel
theorem dX3_kindsThatFit_27 : decode cX3_kindsThatFit 27 = .ok (.getfield 116, 3) := by decide +kernel
theorem dX3_kindsThatFit_30 : decode cX3_kindsThatFit 30 = .ok (.iload_n 1, 1) := by decide +kernel
theorem dX3_kindsThatFit_31 : decode cX3_kindsThatFit 31 = .ok (.aaload, 1) := by decide +kernel
theorem dX3_kindsThatFit_32 : decode cX3_kindsThatFit 32 = .ok (.iload 4, 2) := by decide +kernel
theorem dX3_kindsThatFit_34 : decode cX3_kindsThatFit 34 = .ok (.putfield 245, 3) := by decide +kernel
theorem dX3_kindsThatFit_37 : decode cX3_kindsThatFit 37 = .ok (.aload_n 0, 1) := by decide +kernel
theorem dX3_kindsThatFit_38 : decode cX3_kindsThatFit 38 = .ok (.iload_n 2, 1) := by decide +kernel
theorem dX3_kindsThatFit_39 : decode cX3_kindsThatFit 39 = .ok (.invokevirtual 199, 3) := by decide +kernel
theorem dX3_kindsThatFit_42 : decode cX3_kindsThatFit 42 = .ok (.ifCond .eq 10, 3) := by decide +kernel
theorem dX3_kindsThatFit_45 : decode cX3_kindsThatFit 45 = .ok (.iload_n 3, 1) := by decide +kernel
theorem dX3_kindsThatFit_46 : decode cX3_kindsThatFit 46 = .ok (.iconst 1, 1) := by decide +kernel
theorem dX3_kindsThatFit_47 : decode cX3_kindsThatFit 47 = .ok (.iload 4, 2) := by decide +kernel
theorem dX3_kindsThatFit_49 : decode cX3_kindsThatFit 49 = .ok (.ishl, 1) := by decide +kernel
theorem dX3_kindsThatFit_50 : decode cX3_kindsThatFit 50 = .ok (.ior, 1) := by decide +kernel
theorem dX3_kindsThatFit_51 : decode cX3_kindsThatFit 51 = .ok (.istore_n 3, 1) := by decide +kernel
theorem dX3_kindsThatFit_52 : decode cX3_kindsThatFit 52 = .ok (.iinc 4 1, 3) := by decide +kernel
theorem dX3_kindsThatFit_55 : decode cX3_kindsThatFit 55 = .ok (.goto (-50), 3) := by decide +kernel
theorem dX3_kindsThatFit_58 : decode cX3_kindsThatFit 58 = .ok (.iload_n 3, 1) := by decide +kernel
theorem dX3_kindsThatFit_59 : decode cX3_kindsThatFit 59 = .ok (.ireturn, 1) := by decide +kernel
/-! X3_kindsThatFit (II)I -/
abbrev rmX3_kindsThatFit : Room := { frames := 6, cells := 0, slots := 0, locals := 127 }
theorem lkX3_kindsThatFit_0 : Cond.fieldLink RX3 47 (TX3 8).1 (TX3 8).2.1 (TX3 8).2.2.1 ∈ wsX3_kindsThatFit := by decide +kernel
theorem lkX3_kindsThatFit_1 : Cond.fieldLink RX3 33 (TX3 5).1 (TX3 5).2.1 (TX3 5).2.2.1 ∈ wsX3_kindsThatFit := by decide +kernel
theorem lkX3_kindsThatFit_2 : Cond.fieldLink RX3 116 (TX0 0).1 (TX0 0).2.1 (TX0 0).2.2.1 ∈ wsX3_kindsThatFit := by decide +kernel
theorem lkX3_kindsThatFit_3 : Cond.fieldLink RX3 245 (TX2 0).1 (TX2 0).2.1 (TX2 0).2.2.1 ∈ wsX3_kindsThatFit := by decide +kernel
theorem inX3_kindsThatFit_X3 : ∀ w ∈ u_ws RX3 TX3 17, w ∈ wsX3_kindsThatFit := by decide +kernel
theorem inX3_kindsThatFit_X0 : ∀ w ∈ u_ws RX0 TX0 6, w ∈ wsX3_kindsThatFit := by decide +kernel
theorem inX3_kindsThatFit_X2 : ∀ w ∈ u_ws RX2 TX2 6, w ∈ wsX3_kindsThatFit := by decide +kernel
noncomputable def fX3_kindsThatFit_b5 (G : mm_G) (a0 : Nat) (x1 : Int32) (x2 : Int32) (x3 : Int32) (x4 : Int32) (σ : mm_M) : Option ((Int32 × mm_M) ⊕ (Int32 × Int32 × mm_M)) := if x4 < (6 : Int32) then ((fX0_become G (mm_R G a0 8) (mm_R G a0 5) σ).bind (fun q20 => if x1 < 0 ∨ mm_N G (mm_R G (mm_R G a0 8) 0) ≤ x1.toNatClampNeg then none else ((fX3_asideFits G a0 x2 (mm_up q20 (mm_R G (mm_R G (mm_R G a0 8) 0) x1.toNatClampNeg) 0 x4)).bind (fun q39 => some (.inr (if q39.1 = 0 then x3 else x3 ||| ((1 : Int32) <<< (x4 &&& 31)), x4 + 1, q39.2)))))) else (some (.inl (x3, σ)))
noncomputable def fX3_kindsThatFit_b0 (G : mm_G) (a0 : Nat) (x1 : Int32) (x2 : Int32) (σ : mm_M) : Option ((Int32 × mm_M) ⊕ (Int32 × Int32 × mm_M)) := some (.inr ((0 : Int32), (0 : Int32), σ))
noncomputable def fX3_kindsThatFit_s (G : mm_G) (a0 : Nat) (x1 : Int32) (x2 : Int32) : (Int32 × Int32 × mm_M) → Option ((Int32 × mm_M) ⊕ (Int32 × Int32 × mm_M)) := (fun s => fX3_kindsThatFit_b5 G a0 x1 x2 s.1 s.2.1 s.2.2)
def PX3_kindsThatFit (E : mm_E) (G : mm_G) (a0 : Nat) (x1 : Int32) (x2 : Int32) (q : (Int32 × mm_M)) : (Int32 × Int32 × mm_M) → Prop := (fun s => mm_At E G 5 (mm_Qi E G q) s.2.2 5 [(0, .ref a0), (1, .int x1), (2, .int x2), (3, .int s.1), (4, .int s.2.1)] [])
noncomputable def fX3_kindsThatFit (G : mm_G) (a0 : Nat) (x1 : Int32) (x2 : Int32) (σ : mm_M) : Option (Int32 × mm_M) := mm_run (fX3_kindsThatFit_b0 G a0 x1 x2 σ) (fX3_kindsThatFit_s G a0 x1 x2)
set_option maxHeartbeats 4000000 in
set_option maxRecDepth 100000 in
theorem wX3_kindsThatFit_b5 {E : mm_E} {G : mm_G} (X : mm_Cx E G cX3_kindsThatFit 5 RX3 wsX3_kindsThatFit rmX3_kindsThatFit (some .int)) {a0 : Nat} {x1 : Int32} {x2 : Int32} {x3 : Int32} {x4 : Int32} {σ : mm_M} {q : (Int32 × mm_M)} (ha0 : mm_Is G 3 a0) {o : (Int32 × mm_M) ⊕ (Int32 × Int32 × mm_M)} (h : fX3_kindsThatFit_b5 G a0 x1 x2 x3 x4 σ = some o) (hk : mm_Ok q (PX3_kindsThatFit E G a0 x1 x2 q) o) : mm_At E G 5 (mm_Qi E G q) σ 5 [(0, .ref a0), (1, .int x1), (2, .int x2), (3, .int x3), (4, .int x4)] [] := by
  unfold fX3_kindsThatFit_b5 at h
  refine at_iload (pc := 5) X 4 4 dX3_kindsThatFit_5 rfl ?_
  refine at_bipush (pc := 7) X (6 : Int32) dX3_kindsThatFit_7 ib_6 ?_
  refine at_icmp_ge (pc := 9) X 58 dX3_kindsThatFit_9 (by decide) (fun c9 => ?_) (fun c9 => ?_)
  · have h := mm_neg c9 h
    refine at_iload_n (pc := 58) X 3 3 dX3_kindsThatFit_58 rfl rfl ?_
    exact at_iret (pc := 59) X (mm_inl h hk) dX3_kindsThatFit_59
  · have h := mm_pos c9 h
    refine at_aload_n (pc := 12) X 0 0 dX3_kindsThatFit_12 rfl rfl ?_
    refine at_get (pc := 13) X 3 8 (.ref (mm_R G a0 8)) ha0 (by decide) rfl inX3_kindsThatFit_X3 (by decide) lkX3_kindsThatFit_0 rfl dX3_kindsThatFit_13 ?_
    refine at_aload_n (pc := 16) X 0 0 dX3_kindsThatFit_16 rfl rfl ?_
    refine at_get (pc := 17) X 3 5 (.ref (mm_R G a0 5)) ha0 (by decide) rfl inX3_kindsThatFit_X3 (by decide) lkX3_kindsThatFit_1 rfl dX3_kindsThatFit_17 ?_
    obtain ⟨q20, hq20, h⟩ := mm_bind h
    refine at_callv (n := 1) (pc := 20) X 0 [.ref (mm_R G a0 5)] [] (mX0_become (eL E) X.wf (wf_3_8 X.wf ha0) (wf_3_5 X.wf ha0) hq20) gX3_kindsThatFit_X0_become rfl ⟨rfl, rfl⟩ (by decide +kernel) ⟨by decide, by decide⟩ (by decide) rfl (wf_3_8 X.wf ha0) rfl rfl (Nat.le_of_ble_eq_true rfl) dX3_kindsThatFit_20 ?_
    refine at_aload_n (pc := 23) X 0 0 dX3_kindsThatFit_23 rfl rfl ?_
    refine at_get (pc := 24) X 3 8 (.ref (mm_R G a0 8)) ha0 (by decide) rfl inX3_kindsThatFit_X3 (by decide) lkX3_kindsThatFit_0 rfl dX3_kindsThatFit_24 ?_
    refine at_get (pc := 27) X 0 0 (.ref (mm_R G (mm_R G a0 8) 0)) (wf_3_8 X.wf ha0) (by decide) rfl inX3_kindsThatFit_X0 (by decide) lkX3_kindsThatFit_2 rfl dX3_kindsThatFit_27 ?_
    refine at_iload_n (pc := 30) X 1 1 dX3_kindsThatFit_30 rfl rfl ?_
    obtain ⟨hc31, h⟩ := mm_chk h
    refine at_aald (pc := 31) X 8 3 (wf_0_0 X.wf (wf_3_8 X.wf ha0)) (by decide) (by decide) rfl rfl hc31 dX3_kindsThatFit_31 ?_
    refine at_iload (pc := 32) X 4 4 dX3_kindsThatFit_32 rfl ?_
    refine at_put (pc := 34) X 2 0 (wf_8 X.wf (wf_0_0 X.wf (wf_3_8 X.wf ha0)) hc31) (by decide) rfl inX3_kindsThatFit_X2 tyX2 tyX2_ok nmX2 (by decide) lkX3_kindsThatFit_3 rfl (ty := .int) rfl rfl rfl (Nat.le_of_ble_eq_true rfl) (ms_2_0 G _ _ _) mm_up_ne dX3_kindsThatFit_34 ?_
    refine at_aload_n (pc := 37) X 0 0 dX3_kindsThatFit_37 rfl rfl ?_
    refine at_iload_n (pc := 38) X 2 2 dX3_kindsThatFit_38 rfl rfl ?_
    obtain ⟨q39, hq39, h⟩ := mm_bind h
    refine at_calli (n := 1) (pc := 39) X 3 [.int x2] [] (mX3_asideFits (eL E) X.wf ha0 hq39) gX3_kindsThatFit_X3_asideFits rfl ⟨rfl, rfl⟩ (by decide +kernel) ⟨by decide, by decide⟩ (by decide) rfl ha0 rfl rfl (Nat.le_of_ble_eq_true rfl) dX3_kindsThatFit_39 ?_
    have hj42 : mm_At E G 5 (mm_Qi E G q) q39.2 52 [(0, .ref a0), (1, .int x1), (2, .int x2), (3, .int (if q39.1 = 0 then x3 else x3 ||| ((1 : Int32) <<< (x4 &&& 31)))), (4, .int x4)] [] := by
      refine at_iinc (pc := 52) X 4 4 (x4 + 1) [(4, .int (x4 + 1)), (0, .ref a0), (1, .int x1), (2, .int x2), (3, .int (if q39.1 = 0 then x3 else x3 ||| ((1 : Int32) <<< (x4 &&& 31))))] dX3_kindsThatFit_52 rfl (ii_1 _) (by decide) rfl ?_
      refine at_goto (pc := 55) X 5 dX3_kindsThatFit_55 (by decide) ?_
      have h2 := mm_inr h hk; exact at_sub [1, 2, 3, 4, 0] rfl h2
    refine at_if_eq (pc := 42) X 52 dX3_kindsThatFit_42 (by decide) (fun c42 => ?_) (fun c42 => ?_)
    · try simp only [if_pos c42] at hj42
      exact at_sub [0, 1, 2, 3, 4] rfl hj42
    · try simp only [if_neg c42] at hj42
      refine at_iload_n (pc := 45) X 3 3 dX3_kindsThatFit_45 rfl rfl ?_
      refine at_iconst (pc := 46) X (1 : Int32) dX3_kindsThatFit_46 ic_1 ?_
      refine at_iload (pc := 47) X 4 4 dX3_kindsThatFit_47 rfl ?_
      refine at_ishl (pc := 49) X dX3_kindsThatFit_49 ?_
      refine at_ior (pc := 50) X dX3_kindsThatFit_50 ?_
      refine at_istore_n (pc := 51) X 3 [(3, .int (x3 ||| ((1 : Int32) <<< (x4 &&& 31)))), (0, .ref a0), (1, .int x1), (2, .int x2), (4, .int x4)] dX3_kindsThatFit_51 rfl (by decide) rfl ?_
      exact at_sub [1, 2, 3, 0, 4] rfl hj42
set_option maxHeartbeats 4000000 in
set_option maxRecDepth 100000 in
theorem wX3_kindsThatFit_b0 {E : mm_E} {G : mm_G} (X : mm_Cx E G cX3_kindsThatFit 5 RX3 wsX3_kindsThatFit rmX3_kindsThatFit (some .int)) {a0 : Nat} {x1 : Int32} {x2 : Int32} {σ : mm_M} {q : (Int32 × mm_M)} (ha0 : mm_Is G 3 a0) {o : (Int32 × mm_M) ⊕ (Int32 × Int32 × mm_M)} (h : fX3_kindsThatFit_b0 G a0 x1 x2 σ = some o) (hk : mm_Ok q (PX3_kindsThatFit E G a0 x1 x2 q) o) : mm_At E G 5 (mm_Qi E G q) σ 0 [(0, .ref a0), (1, .int x1), (2, .int x2)] [] := by
  unfold fX3_kindsThatFit_b0 at h
  refine at_iconst (pc := 0) X (0 : Int32) dX3_kindsThatFit_0 ic_0 ?_
  refine at_istore_n (pc := 1) X 3 [(3, .int (0 : Int32)), (0, .ref a0), (1, .int x1), (2, .int x2)] dX3_kindsThatFit_1 rfl (by decide) rfl ?_
  refine at_iconst (pc := 2) X (0 : Int32) dX3_kindsThatFit_2 ic_0 ?_
  refine at_istore (pc := 3) X 4 [(4, .int (0 : Int32)), (3, .int (0 : Int32)), (0, .ref a0), (1, .int x1), (2, .int x2)] dX3_kindsThatFit_3 (by decide) rfl ?_
  have h2 := mm_inr h hk; exact at_sub [2, 3, 4, 1, 0] rfl h2
set_option maxHeartbeats 4000000 in
set_option maxRecDepth 100000 in
theorem mX3_kindsThatFit (l : Launch) {G : mm_G} (hwf : mm_WF G) {a0 : Nat} {x1 : Int32} {x2 : Int32} {σ : mm_M} {q : (Int32 × mm_M)} (ha0 : mm_Is G 3 a0) (h : fX3_kindsThatFit G a0 x1 x2 σ = some q) : mm_Mi l yX3_kindsThatFit wsX3_kindsThatFit rmX3_kindsThatFit G [.ref a0, .int x1, .int x2] σ q := by
  refine mm_ofi (cc := cX3_kindsThatFit) (nL := 5) (ret := some .int) (own := RX3) (lv0 := [(0, .ref a0), (1, .int x1), (2, .int x2)]) (by decide) rfl rfl (Nat.le_of_ble_eq_true rfl) rfl hwf (fun E hE X => ?_)
  obtain ⟨o, h0, hk⟩ := mm_run_ok (P := PX3_kindsThatFit E G a0 x1 x2 q) h (fun s o hs hk => by exact wX3_kindsThatFit_b5 X ha0 hs hk)
  exact wX3_kindsThatFit_b0 X ha0 h0 hk
set_option maxRecDepth 20000 in
theorem ggX3_kinds_X3_refusedWatch : GoodIn wsX3_kinds wsX3_refusedWatch := goodIn_r _ [5, 6, 7, 8, 9, 10, 11, 12, 13, 14, 15, 16, 4, 17, 18, 19, 20, 21, 22, 23, 111, 112, 113, 114, 115, 116, 117, 118, 119, 120, 121, 122, 123, 124, 125, 126, 127, 128, 129, 130, 131, 132, 133] (by decide +kernel) (by decide +kernel)
set_option maxRecDepth 20000 in
theorem gX3_kinds_X3_refusedWatch : GoodIn wsX3_kinds (wsV RX3 193 RX3 yX3_refusedWatch wsX3_refusedWatch) := goodIn_app (goodIn_of _ (by decide +kernel)) ggX3_kinds_X3_refusedWatch
set_option maxRecDepth 20000 in
theorem ggX3_kinds_X3_kindsThatFit : GoodIn wsX3_kinds wsX3_kindsThatFit := goodIn_r _ [27, 28, 6, 29, 30, 31, 32, 33, 12, 34, 14, 35, 36, 37, 38, 39, 40, 41, 42, 43, 44, 45, 46, 47, 48, 49, 50, 51, 52, 53, 4, 54, 7, 8, 55, 56, 57, 58, 59, 60, 61, 62, 63, 64, 65, 66, 67, 68, 69, 70, 71, 72, 73, 74, 75, 76, 77, 78, 79, 80, 81, 82, 83, 84, 85, 86, 87, 88, 89, 90, 91, 92, 93, 94, 95, 96, 97, 98, 99, 100, 101, 102, 103, 104, 105, 106, 107, 108, 109, 110, 111, 112, 113, 114, 115, 116, 117, 118, 119, 120, 121, 122, 123, 124, 125, 126, 127, 128, 129, 130, 131, 132, 133, 134, 135, 136, 137, 138, 139] (by decide +kernel) (by decide +kernel)
set_option maxRecDepth 20000 in
theorem gX3_kinds_X3_kindsThatFit : GoodIn wsX3_kinds (wsV RX3 196 RX3 yX3_kindsThatFit wsX3_kindsThatFit) := goodIn_app (goodIn_of _ (by decide +kernel)) ggX3_kinds_X3_kindsThatFit
theorem dX3_kinds_0 : decode cX3_kinds 0 = .ok (.aload_n 0, 1) := by decide +kernel
theorem dX3_kinds_1 : decode cX3_kinds 1 = .ok (.iload_n 1, 1) := by decide +kernel
theorem dX3_kinds_2 : decode cX3_kinds 2 = .ok (.iload_n 2, 1) := by decide +kernel
theorem dX3_kinds_3 : decode cX3_kinds 3 = .ok (.invokevirtual 193, 3) := by decide +kernel
theorem dX3_kinds_6 : decode cX3_kinds 6 = .ok (.istore_n 3, 1) := by decide +kernel
theorem dX3_kinds_7 : decode cX3_kinds 7 = .ok (.iload_n 3, 1) := by decide +kernel
theorem dX3_kinds_8 : decode cX3_kinds 8 = .ok (.ifCond .eq 7, 3) := by decide +kernel
theorem dX3_kinds_11 : decode cX3_kinds 11 = .ok (.iload_n 3, 1) := by decide +kernel
theorem dX3_kinds_12 : decode cX3_kinds 12 = .ok (.goto 9, 3) := by decide +kernel
theorem dX3_kinds_15 : decode cX3_kinds 15 = .ok (.aload_n 0, 1) := by decide +kernel
theorem dX3_kinds_16 : decode cX3_kinds 16 = .ok (.iload_n 1, 1) := by decide +kernel
theorem dX3_kinds_17 : decode cX3_kinds 17 = .ok (.iload_n 2, 1) := by decide +kernel
theorem dX3_kinds_18 : decode cX3_kinds 18 = .ok (.invokevirtual 196, 3) := by decide +kernel
theorem dX3_kinds_21 : decode cX3_kinds 21 = .ok (.ireturn, 1) := by decide +kernel
/-! X3_kinds (II)I -/
abbrev rmX3_kinds : Room := { frames := 7, cells := 0, slots := 0, locals := 151 }
noncomputable def fX3_kinds (G : mm_G) (a0 : Nat) (x1 : Int32) (x2 : Int32) (σ : mm_M) : Option (Int32 × mm_M) := (fX3_refusedWatch G a0 x1 x2 σ).bind (fun q3 => if q3.1 = 0 then ((fX3_kindsThatFit G a0 x1 x2 q3.2).bind (fun q18 => some (q18.1, q18.2))) else (some (q3.1, q3.2)))
set_option maxHeartbeats 4000000 in
set_option maxRecDepth 100000 in
theorem wX3_kinds_b0 {E : mm_E} {G : mm_G} (X : mm_Cx E G cX3_kinds 4 RX3 wsX3_kinds rmX3_kinds (some .int)) {a0 : Nat} {x1 : Int32} {x2 : Int32} {σ : mm_M} {q : (Int32 × mm_M)} (ha0 : mm_Is G 3 a0) (h : fX3_kinds G a0 x1 x2 σ = some q) : mm_At E G 4 (mm_Qi E G q) σ 0 [(0, .ref a0), (1, .int x1), (2, .int x2)] [] := by
  unfold fX3_kinds at h
  refine at_aload_n (pc := 0) X 0 0 dX3_kinds_0 rfl rfl ?_
  refine at_iload_n (pc := 1) X 1 1 dX3_kinds_1 rfl rfl ?_
  refine at_iload_n (pc := 2) X 2 2 dX3_kinds_2 rfl rfl ?_
  obtain ⟨q3, hq3, h⟩ := mm_bind h
  refine at_calli (n := 2) (pc := 3) X 3 [.int x1, .int x2] [] (mX3_refusedWatch (eL E) X.wf ha0 hq3) gX3_kinds_X3_refusedWatch rfl ⟨rfl, rfl⟩ (by decide +kernel) ⟨by decide, by decide⟩ (by decide) rfl ha0 rfl rfl (Nat.le_of_ble_eq_true rfl) dX3_kinds_3 ?_
  refine at_istore_n (pc := 6) X 3 [(3, .int q3.1), (0, .ref a0), (1, .int x1), (2, .int x2)] dX3_kinds_6 rfl (by decide) rfl ?_
  refine at_iload_n (pc := 7) X 3 0 dX3_kinds_7 rfl rfl ?_
  refine at_if_eq (pc := 8) X 15 dX3_kinds_8 (by decide) (fun c8 => ?_) (fun c8 => ?_)
  · have h := mm_pos c8 h
    refine at_aload_n (pc := 15) X 0 1 dX3_kinds_15 rfl rfl ?_
    refine at_iload_n (pc := 16) X 1 2 dX3_kinds_16 rfl rfl ?_
    refine at_iload_n (pc := 17) X 2 3 dX3_kinds_17 rfl rfl ?_
    obtain ⟨q18, hq18, h⟩ := mm_bind h
    refine at_calli (n := 2) (pc := 18) X 3 [.int x1, .int x2] [] (mX3_kindsThatFit (eL E) X.wf ha0 hq18) gX3_kinds_X3_kindsThatFit rfl ⟨rfl, rfl⟩ (by decide +kernel) ⟨by decide, by decide⟩ (by decide) rfl ha0 rfl rfl (Nat.le_of_ble_eq_true rfl) dX3_kinds_18 ?_
    exact at_iret (pc := 21) X (Option.some.inj h) dX3_kinds_21
  · have h := mm_neg c8 h
    refine at_iload_n (pc := 11) X 3 0 dX3_kinds_11 rfl rfl ?_
    refine at_goto (pc := 12) X 21 dX3_kinds_12 (by decide) ?_
    exact at_iret (pc := 21) X (Option.some.inj h) dX3_kinds_21
set_option maxHeartbeats 4000000 in
set_option maxRecDepth 100000 in
theorem mX3_kinds (l : Launch) {G : mm_G} (hwf : mm_WF G) {a0 : Nat} {x1 : Int32} {x2 : Int32} {σ : mm_M} {q : (Int32 × mm_M)} (ha0 : mm_Is G 3 a0) (h : fX3_kinds G a0 x1 x2 σ = some q) : mm_Mi l yX3_kinds wsX3_kinds rmX3_kinds G [.ref a0, .int x1, .int x2] σ q := by
  refine mm_ofi (cc := cX3_kinds) (nL := 4) (ret := some .int) (own := RX3) (lv0 := [(0, .ref a0), (1, .int x1), (2, .int x2)]) (by decide) rfl rfl (Nat.le_of_ble_eq_true rfl) rfl hwf (fun E hE X => ?_)
  exact wX3_kinds_b0 X ha0 h
set_option maxRecDepth 20000 in
theorem ggX3_firsts_X3_refusedWatch : GoodIn wsX3_firsts wsX3_refusedWatch := goodIn_r _ [9, 2, 10, 11, 12, 13, 14, 15, 16, 17, 18, 19, 8, 20, 21, 22, 23, 24, 25, 26, 107, 108, 109, 110, 111, 112, 113, 114, 115, 116, 117, 118, 119, 120, 121, 122, 123, 124, 125, 126, 127, 128, 129] (by decide +kernel) (by decide +kernel)
set_option maxRecDepth 20000 in
theorem gX3_firsts_X3_refusedWatch : GoodIn wsX3_firsts (wsV RX3 193 RX3 yX3_refusedWatch wsX3_refusedWatch) := goodIn_app (goodIn_of _ (by decide +kernel)) ggX3_firsts_X3_refusedWatch
set_option maxRecDepth 20000 in
theorem ggX3_firsts_X0_become : GoodIn wsX3_firsts wsX0_become := goodIn_r _ [30, 17, 31, 32, 33, 34, 35, 36, 37, 38, 39, 40, 41, 42, 43, 44, 45, 46, 124, 125, 126, 127, 128, 129, 130, 131, 132, 133, 134, 135] (by decide +kernel) (by decide +kernel)
set_option maxRecDepth 20000 in
theorem gX3_firsts_X0_become : GoodIn wsX3_firsts (wsV RX3 108 RX0 yX0_become wsX0_become) := goodIn_app (goodIn_of _ (by decide +kernel)) ggX3_firsts_X0_become
set_option maxRecDepth 20000 in
theorem ggX3_firsts_X3_asideFits : GoodIn wsX3_firsts wsX3_asideFits := goodIn_r _ [50, 10, 1, 11, 51, 52, 53, 15, 54, 17, 35, 55, 32, 31, 33, 34, 56, 57, 58, 59, 60, 61, 62, 39, 63, 44, 45, 64, 65, 66, 67, 41, 68, 69, 70, 71, 72, 73, 74, 75, 76, 77, 78, 46, 79, 80, 81, 82, 83, 84, 85, 86, 87, 88, 89, 90, 42, 43, 91, 92, 93, 94, 95, 96, 97, 98, 99, 100, 101, 102, 103, 104, 105, 106, 107, 108, 109, 110, 111, 112, 113, 114, 115, 116, 117, 118, 119, 120, 121, 122, 123, 124, 125, 126, 127, 128, 129, 130, 131, 132, 133, 134, 135] (by decide +kernel) (by decide +kernel)
set_option maxRecDepth 20000 in
theorem gX3_firsts_X3_asideFits : GoodIn wsX3_firsts (wsV RX3 199 RX3 yX3_asideFits wsX3_asideFits) := goodIn_app (goodIn_of _ (by decide +kernel)) ggX3_firsts_X3_asideFits
theorem dX3_firsts_0 : decode cX3_firsts 0 = .ok (.aload_n 0, 1) := by decide +kernel
theorem dX3_firsts_1 : decode cX3_firsts 1 = .ok (.iload_n 1, 1) := by decide +kernel
theorem dX3_firsts_2 : decode cX3_firsts 2 = .ok (.iload_n 2, 1) := by decide +kernel
theorem dX3_firsts_3 : decode cX3_firsts 3 = .ok (.invokevirtual 193, 3) := by decide +kernel
theorem dX3_firsts_6 : decode cX3_firsts 6 = .ok (.istore_n 3, 1) := by decide +kernel
theorem dX3_firsts_7 : decode cX3_firsts 7 = .ok (.iload_n 3, 1) := by decide +kernel
theorem dX3_firsts_8 : decode cX3_firsts 8 = .ok (.ifCond .eq 5, 3) := by decide +kernel
theorem dX3_firsts_11 : decode cX3_firsts 11 = .ok (.iload_n 3, 1) := by decide +kernel
theorem dX3_firsts_12 : decode cX3_firsts 12 = .ok (.ireturn, 1) := by decide +kernel
theorem dX3_firsts_13 : decode cX3_firsts 13 = .ok (.iconst 0, 1) := by decide +kernel
theorem dX3_firsts_14 : decode cX3_firsts 14 = .ok (.istore 4, 2) := by decide +kernel
theorem dX3_firsts_16 : decode cX3_firsts 16 = .ok (.iconst 0, 1) := by decide +kernel
theorem dX3_firsts_17 : decode cX3_firsts 17 = .ok (.istore 5, 2) := by decide +kernel
theorem dX3_firsts_19 : decode cX3_firsts 19 = .ok (.iload 5, 2) := by decide +kernel
theorem dX3_firsts_21 : decode cX3_firsts 21 = .ok (.bipush 10, 2) := by decide +kernel
theorem dX3_firsts_23 : decode cX3_firsts 23 = .ok (.if_icmp .ge 51, 3) := by decide +kernel
theorem dX3_firsts_26 : decode cX3_firsts 26 = .ok (.aload_n 0, 1) := by decide +kernel
theorem dX3_firsts_27 : decode cX3_firsts 27 = .ok (.getfield 47, 3) := by decide +kernel
theorem dX3_firsts_30 : decode cX3_firsts 30 = .ok (.aload_n 0, 1) := by decide +kernel
theorem dX3_firsts_31 : decode cX3_firsts 31 = .ok (.getfield 33, 3) := by decide +kernel
theorem dX3_firsts_34 : decode cX3_firsts 34 = .ok (.invokevirtual 108, 3) := by decide +kernel
theorem dX3_firsts_37 : decode cX3_firsts 37 = .ok (.aload_n 0, 1) := by decide +kernel
theorem dX3_firsts_38 : decode cX3_firsts 38 = .ok (.getfield 47, 3) := by decide +kernel
theorem dX3_firsts_41 : decode cX3_firsts 41 = .ok (.getfield 116, 3) := by decide +kernel
theorem dX3_firsts_44 : decode cX3_firsts 44 = .ok (.iload_n 1, 1) := by decide +kernel
theorem dX3_firsts_45 : decode cX3_firsts 45 = .ok (.aaload, 1) := by decide +kernel
theorem dX3_firsts_46 : decode cX3_firsts 46 = .ok (.iload 5, 2) := by decide +kernel
theorem dX3_firsts_48 : decode cX3_firsts 48 = .ok (.putfield 153, 3) := by decide +kernel
theorem dX3_firsts_51 : decode cX3_firsts 51 = .ok (.aload_n 0, 1) := by decide +kernel
theorem dX3_firsts_52 : decode cX3_firsts 52 = .ok (.iload_n 2, 1) := by decide +kernel
theorem dX3_firsts_53 : decode cX3_firsts 53 = .ok (.invokevirtual 199, 3) := by decide +kernel
theorem dX3_firsts_56 : decode cX3_firsts 56 = .ok (.ifCond .eq 12, 3) := by decide +kernel
theorem dX3_firsts_59 : decode cX3_firsts 59 = .ok (.iload 4, 2) := by decide +kernel
theorem dX3_firsts_61 : decode cX3_firsts 61 = .ok (.iconst 1, 1) := by decide +kernel
theorem dX3_firsts_62 : decode cX3_firsts 62 = .ok (.iload 5, 2) := by decide +kernel
theorem dX3_firsts_64 : decode cX3_firsts 64 = .ok (.ishl, 1) := by decide +kernel
theorem dX3_firsts_65 : decode cX3_firsts 65 = .ok (.ior, 1) := by decide +kernel
theorem dX3_firsts_66 : decode cX3_firsts 66 = .ok (.istore 4, 2) := by decide +kernel
theorem dX3_firsts_68 : decode cX3_firsts 68 = .ok (.iinc 5 1, 3) := by decide +kernel
theorem dX3_firsts_71 : decode cX3_firsts 71 = .ok (.goto (-52), 3) := by decide +kernel
theorem dX3_firsts_74 : decode cX3_firsts 74 = .ok (.iload 4, 2) := by decide +kernel
theorem dX3_firsts_76 : decode cX3_firsts 76 = .ok (.ireturn, 1) := by decide +kernel
/-! X3_firsts (II)I -/
abbrev rmX3_firsts : Room := { frames := 6, cells := 0, slots := 0, locals := 127 }
theorem lkX3_firsts_0 : Cond.fieldLink RX3 47 (TX3 8).1 (TX3 8).2.1 (TX3 8).2.2.1 ∈ wsX3_firsts := by decide +kernel
theorem lkX3_firsts_1 : Cond.fieldLink RX3 33 (TX3 5).1 (TX3 5).2.1 (TX3 5).2.2.1 ∈ wsX3_firsts := by decide +kernel
theorem lkX3_firsts_2 : Cond.fieldLink RX3 116 (TX0 0).1 (TX0 0).2.1 (TX0 0).2.2.1 ∈ wsX3_firsts := by decide +kernel
theorem lkX3_firsts_3 : Cond.fieldLink RX3 153 (TX2 1).1 (TX2 1).2.1 (TX2 1).2.2.1 ∈ wsX3_firsts := by decide +kernel
theorem inX3_firsts_X3 : ∀ w ∈ u_ws RX3 TX3 17, w ∈ wsX3_firsts := by decide +kernel
theorem inX3_firsts_X0 : ∀ w ∈ u_ws RX0 TX0 6, w ∈ wsX3_firsts := by decide +kernel
theorem inX3_firsts_X2 : ∀ w ∈ u_ws RX2 TX2 6, w ∈ wsX3_firsts := by decide +kernel
noncomputable def fX3_firsts_b19 (G : mm_G) (a0 : Nat) (x1 : Int32) (x2 : Int32) (x4 : Int32) (x5 : Int32) (σ : mm_M) : Option ((Int32 × mm_M) ⊕ (Int32 × Int32 × mm_M)) := if x5 < (10 : Int32) then ((fX0_become G (mm_R G a0 8) (mm_R G a0 5) σ).bind (fun q34 => if x1 < 0 ∨ mm_N G (mm_R G (mm_R G a0 8) 0) ≤ x1.toNatClampNeg then none else ((fX3_asideFits G a0 x2 (mm_up q34 (mm_R G (mm_R G (mm_R G a0 8) 0) x1.toNatClampNeg) 1 x5)).bind (fun q53 => some (.inr (if q53.1 = 0 then x4 else x4 ||| ((1 : Int32) <<< (x5 &&& 31)), x5 + 1, q53.2)))))) else (some (.inl (x4, σ)))
noncomputable def fX3_firsts_b0 (G : mm_G) (a0 : Nat) (x1 : Int32) (x2 : Int32) (σ : mm_M) : Option ((Int32 × mm_M) ⊕ (Int32 × Int32 × mm_M)) := (fX3_refusedWatch G a0 x1 x2 σ).bind (fun q3 => if q3.1 = 0 then (some (.inr ((0 : Int32), (0 : Int32), q3.2))) else (some (.inl (q3.1, q3.2))))
noncomputable def fX3_firsts_s (G : mm_G) (a0 : Nat) (x1 : Int32) (x2 : Int32) : (Int32 × Int32 × mm_M) → Option ((Int32 × mm_M) ⊕ (Int32 × Int32 × mm_M)) := (fun s => fX3_firsts_b19 G a0 x1 x2 s.1 s.2.1 s.2.2)
def PX3_firsts (E : mm_E) (G : mm_G) (a0 : Nat) (x1 : Int32) (x2 : Int32) (q : (Int32 × mm_M)) : (Int32 × Int32 × mm_M) → Prop := (fun s => mm_At E G 6 (mm_Qi E G q) s.2.2 19 [(0, .ref a0), (1, .int x1), (2, .int x2), (4, .int s.1), (5, .int s.2.1)] [])
noncomputable def fX3_firsts (G : mm_G) (a0 : Nat) (x1 : Int32) (x2 : Int32) (σ : mm_M) : Option (Int32 × mm_M) := mm_run (fX3_firsts_b0 G a0 x1 x2 σ) (fX3_firsts_s G a0 x1 x2)
set_option maxHeartbeats 4000000 in
set_option maxRecDepth 100000 in
theorem wX3_firsts_b19 {E : mm_E} {G : mm_G} (X : mm_Cx E G cX3_firsts 6 RX3 wsX3_firsts rmX3_firsts (some .int)) {a0 : Nat} {x1 : Int32} {x2 : Int32} {x4 : Int32} {x5 : Int32} {σ : mm_M} {q : (Int32 × mm_M)} (ha0 : mm_Is G 3 a0) {o : (Int32 × mm_M) ⊕ (Int32 × Int32 × mm_M)} (h : fX3_firsts_b19 G a0 x1 x2 x4 x5 σ = some o) (hk : mm_Ok q (PX3_firsts E G a0 x1 x2 q) o) : mm_At E G 6 (mm_Qi E G q) σ 19 [(0, .ref a0), (1, .int x1), (2, .int x2), (4, .int x4), (5, .int x5)] [] := by
  unfold fX3_firsts_b19 at h
  refine at_iload (pc := 19) X 5 4 dX3_firsts_19 rfl ?_
  refine at_bipush (pc := 21) X (10 : Int32) dX3_firsts_21 ib_10 ?_
  refine at_icmp_ge (pc := 23) X 74 dX3_firsts_23 (by decide) (fun c23 => ?_) (fun c23 => ?_)
  · have h := mm_neg c23 h
    refine at_iload (pc := 74) X 4 3 dX3_firsts_74 rfl ?_
    exact at_iret (pc := 76) X (mm_inl h hk) dX3_firsts_76
  · have h := mm_pos c23 h
    refine at_aload_n (pc := 26) X 0 0 dX3_firsts_26 rfl rfl ?_
    refine at_get (pc := 27) X 3 8 (.ref (mm_R G a0 8)) ha0 (by decide) rfl inX3_firsts_X3 (by decide) lkX3_firsts_0 rfl dX3_firsts_27 ?_
    refine at_aload_n (pc := 30) X 0 0 dX3_firsts_30 rfl rfl ?_
    refine at_get (pc := 31) X 3 5 (.ref (mm_R G a0 5)) ha0 (by decide) rfl inX3_firsts_X3 (by decide) lkX3_firsts_1 rfl dX3_firsts_31 ?_
    obtain ⟨q34, hq34, h⟩ := mm_bind h
    refine at_callv (n := 1) (pc := 34) X 0 [.ref (mm_R G a0 5)] [] (mX0_become (eL E) X.wf (wf_3_8 X.wf ha0) (wf_3_5 X.wf ha0) hq34) gX3_firsts_X0_become rfl ⟨rfl, rfl⟩ (by decide +kernel) ⟨by decide, by decide⟩ (by decide) rfl (wf_3_8 X.wf ha0) rfl rfl (Nat.le_of_ble_eq_true rfl) dX3_firsts_34 ?_
    refine at_aload_n (pc := 37) X 0 0 dX3_firsts_37 rfl rfl ?_
    refine at_get (pc := 38) X 3 8 (.ref (mm_R G a0 8)) ha0 (by decide) rfl inX3_firsts_X3 (by decide) lkX3_firsts_0 rfl dX3_firsts_38 ?_
    refine at_get (pc := 41) X 0 0 (.ref (mm_R G (mm_R G a0 8) 0)) (wf_3_8 X.wf ha0) (by decide) rfl inX3_firsts_X0 (by decide) lkX3_firsts_2 rfl dX3_firsts_41 ?_
    refine at_iload_n (pc := 44) X 1 1 dX3_firsts_44 rfl rfl ?_
    obtain ⟨hc45, h⟩ := mm_chk h
    refine at_aald (pc := 45) X 8 3 (wf_0_0 X.wf (wf_3_8 X.wf ha0)) (by decide) (by decide) rfl rfl hc45 dX3_firsts_45 ?_
    refine at_iload (pc := 46) X 5 4 dX3_firsts_46 rfl ?_
    refine at_put (pc := 48) X 2 1 (wf_8 X.wf (wf_0_0 X.wf (wf_3_8 X.wf ha0)) hc45) (by decide) rfl inX3_firsts_X2 tyX2 tyX2_ok nmX2 (by decide) lkX3_firsts_3 rfl (ty := .int) rfl rfl rfl (Nat.le_of_ble_eq_true rfl) (ms_2_1 G _ _ _) mm_up_ne dX3_firsts_48 ?_
    refine at_aload_n (pc := 51) X 0 0 dX3_firsts_51 rfl rfl ?_
    refine at_iload_n (pc := 52) X 2 2 dX3_firsts_52 rfl rfl ?_
    obtain ⟨q53, hq53, h⟩ := mm_bind h
    refine at_calli (n := 1) (pc := 53) X 3 [.int x2] [] (mX3_asideFits (eL E) X.wf ha0 hq53) gX3_firsts_X3_asideFits rfl ⟨rfl, rfl⟩ (by decide +kernel) ⟨by decide, by decide⟩ (by decide) rfl ha0 rfl rfl (Nat.le_of_ble_eq_true rfl) dX3_firsts_53 ?_
    have hj56 : mm_At E G 6 (mm_Qi E G q) q53.2 68 [(0, .ref a0), (1, .int x1), (2, .int x2), (4, .int (if q53.1 = 0 then x4 else x4 ||| ((1 : Int32) <<< (x5 &&& 31)))), (5, .int x5)] [] := by
      refine at_iinc (pc := 68) X 5 4 (x5 + 1) [(5, .int (x5 + 1)), (0, .ref a0), (1, .int x1), (2, .int x2), (4, .int (if q53.1 = 0 then x4 else x4 ||| ((1 : Int32) <<< (x5 &&& 31))))] dX3_firsts_68 rfl (ii_1 _) (by decide) rfl ?_
      refine at_goto (pc := 71) X 19 dX3_firsts_71 (by decide) ?_
      have h2 := mm_inr h hk; exact at_sub [1, 2, 3, 4, 0] rfl h2
    refine at_if_eq (pc := 56) X 68 dX3_firsts_56 (by decide) (fun c56 => ?_) (fun c56 => ?_)
    · try simp only [if_pos c56] at hj56
      exact at_sub [0, 1, 2, 3, 4] rfl hj56
    · try simp only [if_neg c56] at hj56
      refine at_iload (pc := 59) X 4 3 dX3_firsts_59 rfl ?_
      refine at_iconst (pc := 61) X (1 : Int32) dX3_firsts_61 ic_1 ?_
      refine at_iload (pc := 62) X 5 4 dX3_firsts_62 rfl ?_
      refine at_ishl (pc := 64) X dX3_firsts_64 ?_
      refine at_ior (pc := 65) X dX3_firsts_65 ?_
      refine at_istore (pc := 66) X 4 [(4, .int (x4 ||| ((1 : Int32) <<< (x5 &&& 31)))), (0, .ref a0), (1, .int x1), (2, .int x2), (5, .int x5)] dX3_firsts_66 (by decide) rfl ?_
      exact at_sub [1, 2, 3, 0, 4] rfl hj56
set_option maxHeartbeats 4000000 in
set_option maxRecDepth 100000 in
theorem wX3_firsts_b0 {E : mm_E} {G : mm_G} (X : mm_Cx E G cX3_firsts 6 RX3 wsX3_firsts rmX3_firsts (some .int)) {a0 : Nat} {x1 : Int32} {x2 : Int32} {σ : mm_M} {q : (Int32 × mm_M)} (ha0 : mm_Is G 3 a0) {o : (Int32 × mm_M) ⊕ (Int32 × Int32 × mm_M)} (h : fX3_firsts_b0 G a0 x1 x2 σ = some o) (hk : mm_Ok q (PX3_firsts E G a0 x1 x2 q) o) : mm_At E G 6 (mm_Qi E G q) σ 0 [(0, .ref a0), (1, .int x1), (2, .int x2)] [] := by
  unfold fX3_firsts_b0 at h
  refine at_aload_n (pc := 0) X 0 0 dX3_firsts_0 rfl rfl ?_
  refine at_iload_n (pc := 1) X 1 1 dX3_firsts_1 rfl rfl ?_
  refine at_iload_n (pc := 2) X 2 2 dX3_firsts_2 rfl rfl ?_
  obtain ⟨q3, hq3, h⟩ := mm_bind h
  refine at_calli (n := 2) (pc := 3) X 3 [.int x1, .int x2] [] (mX3_refusedWatch (eL E) X.wf ha0 hq3) gX3_firsts_X3_refusedWatch rfl ⟨rfl, rfl⟩ (by decide +kernel) ⟨by decide, by decide⟩ (by decide) rfl ha0 rfl rfl (Nat.le_of_ble_eq_true rfl) dX3_firsts_3 ?_
  refine at_istore_n (pc := 6) X 3 [(3, .int q3.1), (0, .ref a0), (1, .int x1), (2, .int x2)] dX3_firsts_6 rfl (by decide) rfl ?_
  refine at_iload_n (pc := 7) X 3 0 dX3_firsts_7 rfl rfl ?_
  refine at_if_eq (pc := 8) X 13 dX3_firsts_8 (by decide) (fun c8 => ?_) (fun c8 => ?_)
  · have h := mm_pos c8 h
    refine at_iconst (pc := 13) X (0 : Int32) dX3_firsts_13 ic_0 ?_
    refine at_istore (pc := 14) X 4 [(4, .int (0 : Int32)), (3, .int q3.1), (0, .ref a0), (1, .int x1), (2, .int x2)] dX3_firsts_14 (by decide) rfl ?_
    refine at_iconst (pc := 16) X (0 : Int32) dX3_firsts_16 ic_0 ?_
    refine at_istore (pc := 17) X 5 [(5, .int (0 : Int32)), (4, .int (0 : Int32)), (3, .int q3.1), (0, .ref a0), (1, .int x1), (2, .int x2)] dX3_firsts_17 (by decide) rfl ?_
    have h2 := mm_inr h hk; exact at_sub [3, 4, 5, 1, 0] rfl h2
  · have h := mm_neg c8 h
    refine at_iload_n (pc := 11) X 3 0 dX3_firsts_11 rfl rfl ?_
    exact at_iret (pc := 12) X (mm_inl h hk) dX3_firsts_12
set_option maxHeartbeats 4000000 in
set_option maxRecDepth 100000 in
theorem mX3_firsts (l : Launch) {G : mm_G} (hwf : mm_WF G) {a0 : Nat} {x1 : Int32} {x2 : Int32} {σ : mm_M} {q : (Int32 × mm_M)} (ha0 : mm_Is G 3 a0) (h : fX3_firsts G a0 x1 x2 σ = some q) : mm_Mi l yX3_firsts wsX3_firsts rmX3_firsts G [.ref a0, .int x1, .int x2] σ q := by
  refine mm_ofi (cc := cX3_firsts) (nL := 6) (ret := some .int) (own := RX3) (lv0 := [(0, .ref a0), (1, .int x1), (2, .int x2)]) (by decide) rfl rfl (Nat.le_of_ble_eq_true rfl) rfl hwf (fun E hE X => ?_)
  obtain ⟨o, h0, hk⟩ := mm_run_ok (P := PX3_firsts E G a0 x1 x2 q) h (fun s o hs hk => by exact wX3_firsts_b19 X ha0 hs hk)
  exact wX3_firsts_b0 X ha0 h0 hk
