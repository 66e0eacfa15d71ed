/-! X3_tellRatio X3_tellMean X3_odds X3_mid X3_deedByLot X3_lots X3_asked X3_upper X3_lower -/
theorem dX3_tellRatio_0 : decode cX3_tellRatio 0 = .ok (.lload_n 1, 1) := by decide +kernel
theorem dX3_tellRatio_1 : decode cX3_tellRatio 1 = .ok (.lstore 5, 2) := by decide +kernel
theorem dX3_tellRatio_3 : decode cX3_tellRatio 3 = .ok (.lload_n 3, 1) := by decide +kernel
theorem dX3_tellRatio_4 : decode cX3_tellRatio 4 = .ok (.lstore 7, 2) := by decide +kernel
theorem dX3_tellRatio_6 : decode cX3_tellRatio 6 = .ok (.iconst 0, 1) := by decide +kernel
theorem dX3_tellRatio_7 : decode cX3_tellRatio 7 = .ok (.istore 9, 2) := by decide +kernel
theorem dX3_tellRatio_9 : decode cX3_tellRatio 9 = .ok (.iload 9, 2) := by decide +kernel
theorem dX3_tellRatio_11 : decode cX3_tellRatio 11 = .ok (.bipush 100, 2) := by decide +kernel
theorem dX3_tellRatio_13 : decode cX3_tellRatio 13 = .ok (.if_icmp .ge 31, 3) := by decide +kernel
theorem dX3_tellRatio_16 : decode cX3_tellRatio 16 = .ok (.lload 7, 2) := by decide +kernel
theorem dX3_tellRatio_18 : decode cX3_tellRatio 18 = .ok (.lconst 0, 1) := by decide +kernel
theorem dX3_tellRatio_19 : decode cX3_tellRatio 19 = .ok (.lcmp, 1) := by decide +kernel
theorem dX3_tellRatio_20 : decode cX3_tellRatio 20 = .ok (.ifCond .eq 24, 3) := by decide +kernel
theorem dX3_tellRatio_23 : decode cX3_tellRatio 23 = .ok (.lload 5, 2) := by decide +kernel
theorem dX3_tellRatio_25 : decode cX3_tellRatio 25 = .ok (.lload 7, 2) := by decide +kernel
theorem dX3_tellRatio_27 : decode cX3_tellRatio 27 = .ok (.lrem, 1) := by decide +kernel
theorem dX3_tellRatio_28 : decode cX3_tellRatio 28 = .ok (.lstore 10, 2) := by decide +kernel
theorem dX3_tellRatio_30 : decode cX3_tellRatio 30 = .ok (.lload 7, 2) := by decide +kernel
theorem dX3_tellRatio_32 : decode cX3_tellRatio 32 = .ok (.lstore 5, 2) := by decide +kernel
theorem dX3_tellRatio_34 : decode cX3_tellRatio 34 = .ok (.lload 10, 2) := by decide +kernel
theorem dX3_tellRatio_36 : decode cX3_tellRatio 36 = .ok (.lstore 7, 2) := by decide +kernel
theorem dX3_tellRatio_38 : decode cX3_tellRatio 38 = .ok (.iinc 9 1, 3) := by decide +kernel
theorem dX3_tellRatio_41 : decode cX3_tellRatio 41 = .ok (.goto (-32), 3) := by decide +kernel
theorem dX3_tellRatio_44 : decode cX3_tellRatio 44 = .ok (.lload 5, 2) := by decide +kernel
theorem dX3_tellRatio_46 : decode cX3_tellRatio 46 = .ok (.lconst 0, 1) := by decide +kernel
theorem dX3_tellRatio_47 : decode cX3_tellRatio 47 = .ok (.lcmp, 1) := by decide +kernel
theorem dX3_tellRatio_48 : decode cX3_tellRatio 48 = .ok (.ifCond .le 19, 3) := by decide +kernel
theorem dX3_tellRatio_51 : decode cX3_tellRatio 51 = .ok (.aload_n 0, 1) := by decide +kernel
theorem dX3_tellRatio_52 : decode cX3_tellRatio 52 = .ok (.lload_n 1, 1) := by decide +kernel
theorem dX3_tellRatio_53 : decode cX3_tellRatio 53 = .ok (.lload 5, 2) := by decide +kernel
theorem dX3_tellRatio_55 : decode cX3_tellRatio 55 = .ok (.ldiv, 1) := by decide +kernel
theorem dX3_tellRatio_56 : decode cX3_tellRatio 56 = .ok (.putfield 63, 3) := by decide +kernel
theorem dX3_tellRatio_59 : decode cX3_tellRatio 59 = .ok (.aload_n 0, 1) := by decide +kernel
theorem dX3_tellRatio_60 : decode cX3_tellRatio 60 = .ok (.lload_n 3, 1) := by decide +kernel
theorem dX3_tellRatio_61 : decode cX3_tellRatio 61 = .ok (.lload 5, 2) := by decide +kernel
theorem dX3_tellRatio_63 : decode cX3_tellRatio 63 = .ok (.ldiv, 1) := by decide +kernel
theorem dX3_tellRatio_64 : decode cX3_tellRatio 64 = .ok (.putfield 67, 3) := by decide +kernel
theorem dX3_tellRatio_67 : decode cX3_tellRatio 67 = .ok (.return_, 1) := by decide +kernel
/-! X3_tellRatio (JJ)V -/
abbrev rmX3_tellRatio : Room := { frames := 0, cells := 0, slots := 0, locals := 0 }
theorem lkX3_tellRatio_0 : Cond.fieldLink RX3 63 (TX3 13).1 (TX3 13).2.1 (TX3 13).2.2.1 ∈ wsX3_tellRatio := by decide +kernel
theorem lkX3_tellRatio_1 : Cond.fieldLink RX3 67 (TX3 14).1 (TX3 14).2.1 (TX3 14).2.2.1 ∈ wsX3_tellRatio := by decide +kernel
theorem inX3_tellRatio_X3 : ∀ w ∈ u_ws RX3 TX3 17, w ∈ wsX3_tellRatio := by decide +kernel
noncomputable def fX3_tellRatio_b44 (G : mm_G) (a0 : Nat) (y1 : Int64) (y3 : Int64) (y5 : Int64) (σ : mm_M) : Option (mm_M ⊕ (Int64 × Int64 × Int32 × mm_M)) := if 0 < (lg_cmp y5 (0 : Int64)) then (if y5 = 0 then none else (if y5 = 0 then none else (some (.inl (mm_upL (mm_upL σ a0 13 (y1 / y5)) a0 14 (y3 / y5)))))) else (some (.inl σ))
noncomputable def fX3_tellRatio_b9 (G : mm_G) (a0 : Nat) (y1 : Int64) (y3 : Int64) (y5 : Int64) (y7 : Int64) (x9 : Int32) (σ : mm_M) : Option (mm_M ⊕ (Int64 × Int64 × Int32 × mm_M)) := if x9 < (100 : Int32) then (if (lg_cmp y7 (0 : Int64)) = 0 then (fX3_tellRatio_b44 G a0 y1 y3 y5 σ) else (if y7 = 0 then none else (some (.inr (y7, y5 - y5 / y7 * y7, x9 + 1, σ))))) else (fX3_tellRatio_b44 G a0 y1 y3 y5 σ)
noncomputable def fX3_tellRatio_b0 (G : mm_G) (a0 : Nat) (y1 : Int64) (y3 : Int64) (σ : mm_M) : Option (mm_M ⊕ (Int64 × Int64 × Int32 × mm_M)) := some (.inr (y1, y3, (0 : Int32), σ))
noncomputable def fX3_tellRatio_s (G : mm_G) (a0 : Nat) (y1 : Int64) (y3 : Int64) : (Int64 × Int64 × Int32 × mm_M) → Option (mm_M ⊕ (Int64 × Int64 × Int32 × mm_M)) := (fun s => fX3_tellRatio_b9 G a0 y1 y3 s.1 s.2.1 s.2.2.1 s.2.2.2)
def PX3_tellRatio (E : mm_E) (G : mm_G) (a0 : Nat) (y1 : Int64) (y3 : Int64) (q : mm_M) : (Int64 × Int64 × Int32 × mm_M) → Prop := (fun s => mm_At E G 12 (mm_Qv E G q) s.2.2.2 9 [(0, .ref a0), (1, .long y1), (3, .long y3), (5, .long s.1), (7, .long s.2.1), (9, .int s.2.2.1)] [])
noncomputable def fX3_tellRatio (G : mm_G) (a0 : Nat) (y1 : Int64) (y3 : Int64) (σ : mm_M) : Option mm_M := mm_run (fX3_tellRatio_b0 G a0 y1 y3 σ) (fX3_tellRatio_s G a0 y1 y3)
set_option maxHeartbeats 4000000 in
set_option maxRecDepth 100000 in
theorem wX3_tellRatio_b44 {E : mm_E} {G : mm_G} (X : mm_Cx E G cX3_tellRatio 12 RX3 wsX3_tellRatio rmX3_tellRatio (none)) {a0 : Nat} {y1 : Int64} {y3 : Int64} {y5 : Int64} {σ : mm_M} {q : mm_M} (ha0 : mm_Is G 3 a0) {o : mm_M ⊕ (Int64 × Int64 × Int32 × mm_M)} (h : fX3_tellRatio_b44 G a0 y1 y3 y5 σ = some o) (hk : mm_Ok q (PX3_tellRatio E G a0 y1 y3 q) o) : mm_At E G 12 (mm_Qv E G q) σ 44 [(0, .ref a0), (1, .long y1), (3, .long y3), (5, .long y5)] [] := by
  unfold fX3_tellRatio_b44 at h
  refine at_lload (pc := 44) X 5 3 dX3_tellRatio_44 rfl ?_
  refine at_lconst (pc := 46) X (0 : Int64) dX3_tellRatio_46 (by decide) ?_
  refine at_lcmp (pc := 47) X dX3_tellRatio_47 ?_
  refine at_if_le (pc := 48) X 67 dX3_tellRatio_48 (by decide) (fun c48 => ?_) (fun c48 => ?_)
  · have h := mm_neg c48 h
    exact at_vret (pc := 67) X (mm_inl h hk) dX3_tellRatio_67
  · have h := mm_pos c48 h
    refine at_aload_n (pc := 51) X 0 0 dX3_tellRatio_51 rfl rfl ?_
    refine at_lload_n (pc := 52) X 1 1 dX3_tellRatio_52 rfl rfl ?_
    refine at_lload (pc := 53) X 5 3 dX3_tellRatio_53 rfl ?_
    obtain ⟨hc55, h⟩ := mm_chk h
    refine at_ldiv (pc := 55) X hc55 dX3_tellRatio_55 ?_
    refine at_put (pc := 56) X 3 13 ha0 (by decide) rfl inX3_tellRatio_X3 tyX3 tyX3_ok nmX3 (by decide) lkX3_tellRatio_0 rfl (ty := .long) rfl rfl rfl (Nat.le_of_ble_eq_true rfl) (ms_3_13 G _ _ _) mm_upL_ne dX3_tellRatio_56 ?_
    refine at_aload_n (pc := 59) X 0 0 dX3_tellRatio_59 rfl rfl ?_
    refine at_lload_n (pc := 60) X 3 2 dX3_tellRatio_60 rfl rfl ?_
    refine at_lload (pc := 61) X 5 3 dX3_tellRatio_61 rfl ?_
    obtain ⟨hc63, h⟩ := mm_chk h
    refine at_ldiv (pc := 63) X hc63 dX3_tellRatio_63 ?_
    refine at_put (pc := 64) X 3 14 ha0 (by decide) rfl inX3_tellRatio_X3 tyX3 tyX3_ok nmX3 (by decide) lkX3_tellRatio_1 rfl (ty := .long) rfl rfl rfl (Nat.le_of_ble_eq_true rfl) (ms_3_14 G _ _ _) mm_upL_ne dX3_tellRatio_64 ?_
    exact at_vret (pc := 67) X (mm_inl h hk) dX3_tellRatio_67
set_option maxHeartbeats 4000000 in
set_option maxRecDepth 100000 in
theorem wX3_tellRatio_b9 {E : mm_E} {G : mm_G} (X : mm_Cx E G cX3_tellRatio 12 RX3 wsX3_tellRatio rmX3_tellRatio (none)) {a0 : Nat} {y1 : Int64} {y3 : Int64} {y5 : Int64} {y7 : Int64} {x9 : Int32} {σ : mm_M} {q : mm_M} (ha0 : mm_Is G 3 a0) {o : mm_M ⊕ (Int64 × Int64 × Int32 × mm_M)} (h : fX3_tellRatio_b9 G a0 y1 y3 y5 y7 x9 σ = some o) (hk : mm_Ok q (PX3_tellRatio E G a0 y1 y3 q) o) : mm_At E G 12 (mm_Qv E G q) σ 9 [(0, .ref a0), (1, .long y1), (3, .long y3), (5, .long y5), (7, .long y7), (9, .int x9)] [] := by
  unfold fX3_tellRatio_b9 at h
  refine at_iload (pc := 9) X 9 5 dX3_tellRatio_9 rfl ?_
  refine at_bipush (pc := 11) X (100 : Int32) dX3_tellRatio_11 ib_100 ?_
  refine at_icmp_ge (pc := 13) X 44 dX3_tellRatio_13 (by decide) (fun c13 => ?_) (fun c13 => ?_)
  · have h := mm_neg c13 h
    exact at_sub [0, 1, 2, 3] rfl (wX3_tellRatio_b44 X ha0 h hk)
  · have h := mm_pos c13 h
    refine at_lload (pc := 16) X 7 4 dX3_tellRatio_16 rfl ?_
    refine at_lconst (pc := 18) X (0 : Int64) dX3_tellRatio_18 (by decide) ?_
    refine at_lcmp (pc := 19) X dX3_tellRatio_19 ?_
    refine at_if_eq (pc := 20) X 44 dX3_tellRatio_20 (by decide) (fun c20 => ?_) (fun c20 => ?_)
    · have h := mm_pos c20 h
      exact at_sub [0, 1, 2, 3] rfl (wX3_tellRatio_b44 X ha0 h hk)
    · have h := mm_neg c20 h
      refine at_lload (pc := 23) X 5 3 dX3_tellRatio_23 rfl ?_
      refine at_lload (pc := 25) X 7 4 dX3_tellRatio_25 rfl ?_
      obtain ⟨hc27, h⟩ := mm_chk h
      refine at_lrem (pc := 27) X hc27 dX3_tellRatio_27 ?_
      refine at_lstore (pc := 28) X 10 [(10, .long (y5 - y5 / y7 * y7)), (0, .ref a0), (1, .long y1), (3, .long y3), (5, .long y5), (7, .long y7), (9, .int x9)] dX3_tellRatio_28 (by decide) rfl ?_
      refine at_lload (pc := 30) X 7 5 dX3_tellRatio_30 rfl ?_
      refine at_lstore (pc := 32) X 5 [(5, .long y7), (10, .long (y5 - y5 / y7 * y7)), (0, .ref a0), (1, .long y1), (3, .long y3), (7, .long y7), (9, .int x9)] dX3_tellRatio_32 (by decide) rfl ?_
      refine at_lload (pc := 34) X 10 1 dX3_tellRatio_34 rfl ?_
      refine at_lstore (pc := 36) X 7 [(7, .long (y5 - y5 / y7 * y7)), (5, .long y7), (10, .long (y5 - y5 / y7 * y7)), (0, .ref a0), (1, .long y1), (3, .long y3), (9, .int x9)] dX3_tellRatio_36 (by decide) rfl ?_
      refine at_iinc (pc := 38) X 9 6 (x9 + 1) [(9, .int (x9 + 1)), (7, .long (y5 - y5 / y7 * y7)), (5, .long y7), (10, .long (y5 - y5 / y7 * y7)), (0, .ref a0), (1, .long y1), (3, .long y3)] dX3_tellRatio_38 rfl (ii_1 _) (by decide) rfl ?_
      refine at_goto (pc := 41) X 9 dX3_tellRatio_41 (by decide) ?_
      have h2 := mm_inr h hk; exact at_sub [4, 5, 6, 2, 1, 0] rfl h2
set_option maxHeartbeats 4000000 in
set_option maxRecDepth 100000 in
theorem wX3_tellRatio_b0 {E : mm_E} {G : mm_G} (X : mm_Cx E G cX3_tellRatio 12 RX3 wsX3_tellRatio rmX3_tellRatio (none)) {a0 : Nat} {y1 : Int64} {y3 : Int64} {σ : mm_M} {q : mm_M} (ha0 : mm_Is G 3 a0) {o : mm_M ⊕ (Int64 × Int64 × Int32 × mm_M)} (h : fX3_tellRatio_b0 G a0 y1 y3 σ = some o) (hk : mm_Ok q (PX3_tellRatio E G a0 y1 y3 q) o) : mm_At E G 12 (mm_Qv E G q) σ 0 [(0, .ref a0), (1, .long y1), (3, .long y3)] [] := by
  unfold fX3_tellRatio_b0 at h
  refine at_lload_n (pc := 0) X 1 1 dX3_tellRatio_0 rfl rfl ?_
  refine at_lstore (pc := 1) X 5 [(5, .long y1), (0, .ref a0), (1, .long y1), (3, .long y3)] dX3_tellRatio_1 (by decide) rfl ?_
  refine at_lload_n (pc := 3) X 3 3 dX3_tellRatio_3 rfl rfl ?_
  refine at_lstore (pc := 4) X 7 [(7, .long y3), (5, .long y1), (0, .ref a0), (1, .long y1), (3, .long y3)] dX3_tellRatio_4 (by decide) rfl ?_
  refine at_iconst (pc := 6) X (0 : Int32) dX3_tellRatio_6 ic_0 ?_
  refine at_istore (pc := 7) X 9 [(9, .int (0 : Int32)), (7, .long y3), (5, .long y1), (0, .ref a0), (1, .long y1), (3, .long y3)] dX3_tellRatio_7 (by decide) rfl ?_
  have h2 := mm_inr h hk; exact at_sub [3, 4, 5, 2, 1, 0] rfl h2
set_option maxHeartbeats 4000000 in
set_option maxRecDepth 100000 in
theorem mX3_tellRatio (l : Launch) {G : mm_G} (hwf : mm_WF G) {a0 : Nat} {y1 : Int64} {y3 : Int64} {σ : mm_M} {q : mm_M} (ha0 : mm_Is G 3 a0) (h : fX3_tellRatio G a0 y1 y3 σ = some q) : mm_Mv l yX3_tellRatio wsX3_tellRatio rmX3_tellRatio G [.ref a0, .long y1, .long y3] σ q := by
  refine mm_ofv (cc := cX3_tellRatio) (nL := 12) (ret := none) (own := RX3) (lv0 := [(0, .ref a0), (1, .long y1), (3, .long y3)]) (by decide) rfl rfl (Nat.le_of_ble_eq_true rfl) rfl hwf (fun E hE X => ?_)
  obtain ⟨o, h0, hk⟩ := mm_run_ok (P := PX3_tellRatio E G a0 y1 y3 q) h (fun s o hs hk => by exact wX3_tellRatio_b9 X ha0 hs hk)
  exact wX3_tellRatio_b0 X ha0 h0 hk
set_option maxRecDepth 20000 in
theorem ggX3_tellMean_X0_sets : GoodIn wsX3_tellMean wsX0_sets := goodIn_r _ [8, 9, 123, 124, 125, 126, 127, 128] (by decide +kernel) (by decide +kernel)
set_option maxRecDepth 20000 in
theorem gX3_tellMean_X0_sets : GoodIn wsX3_tellMean (wsV RX3 190 RX0 yX0_sets wsX0_sets) := goodIn_app (goodIn_of _ (by decide +kernel)) ggX3_tellMean_X0_sets
set_option maxRecDepth 20000 in
theorem ggX3_tellMean_X3_weightOf : GoodIn wsX3_tellMean wsX3_weightOf := goodIn_r _ [14, 1, 2, 106, 107, 108, 109, 110, 111, 112, 113, 114, 115, 116, 117, 118, 119, 120, 121, 122, 123, 124, 125, 126, 127, 128] (by decide +kernel) (by decide +kernel)
set_option maxRecDepth 20000 in
theorem gX3_tellMean_X3_weightOf : GoodIn wsX3_tellMean (wsV RX3 256 RX3 yX3_weightOf wsX3_weightOf) := goodIn_app (goodIn_of _ (by decide +kernel)) ggX3_tellMean_X3_weightOf
set_option maxRecDepth 20000 in
theorem ggX3_tellMean_X3_heardAside : GoodIn wsX3_tellMean wsX3_heardAside := goodIn_r _ [18, 3, 1, 19, 20, 21, 22, 7, 23, 9, 24, 25, 26, 27, 28, 29, 30, 31, 32, 33, 34, 35, 36, 37, 38, 39, 40, 41, 42, 43, 44, 45, 46, 47, 48, 49, 50, 51, 52, 53, 54, 55, 56, 57, 58, 59, 60, 61, 62, 63, 64, 65, 66, 67, 68, 69, 70, 71, 72, 73, 74, 75, 76, 77, 78, 79, 80, 81, 82, 83, 84, 85, 86, 87, 88, 89, 90, 91, 92, 93, 94, 95, 96, 97, 98, 99, 106, 107, 108, 109, 110, 111, 112, 113, 114, 115, 116, 117, 118, 119, 120, 121, 122, 123, 124, 125, 126, 127, 128, 129, 130, 131, 132, 133, 134] (by decide +kernel) (by decide +kernel)
set_option maxRecDepth 20000 in
theorem gX3_tellMean_X3_heardAside : GoodIn wsX3_tellMean (wsV RX3 173 RX3 yX3_heardAside wsX3_heardAside) := goodIn_app (goodIn_of _ (by decide +kernel)) ggX3_tellMean_X3_heardAside
set_option maxRecDepth 20000 in
theorem ggX3_tellMean_X0_lettersBut : GoodIn wsX3_tellMean wsX0_lettersBut := goodIn_r _ [43, 9, 28, 44, 123, 124, 125, 126, 127, 128, 129, 130, 131, 132, 133, 134] (by decide +kernel) (by decide +kernel)
set_option maxRecDepth 20000 in
theorem gX3_tellMean_X0_lettersBut : GoodIn wsX3_tellMean (wsV RX3 242 RX0 yX0_lettersBut wsX0_lettersBut) := goodIn_app (goodIn_of _ (by decide +kernel)) ggX3_tellMean_X0_lettersBut
set_option maxRecDepth 20000 in
theorem ggX3_tellMean_X3_tellRatio : GoodIn wsX3_tellMean wsX3_tellRatio := goodIn_r _ [103, 104, 105, 106, 107, 108, 109, 110, 111, 112, 113, 114, 115, 116, 117, 118, 119, 120, 121, 122] (by decide +kernel) (by decide +kernel)
set_option maxRecDepth 20000 in
theorem gX3_tellMean_X3_tellRatio : GoodIn wsX3_tellMean (wsV RX3 260 RX3 yX3_tellRatio wsX3_tellRatio) := goodIn_app (goodIn_of _ (by decide +kernel)) ggX3_tellMean_X3_tellRatio
theorem dX3_tellMean_0 : decode cX3_tellMean 0 = .ok (.iload_n 1, 1) := by decide +kernel
theorem dX3_tellMean_1 : decode cX3_tellMean 1 = .ok (.ifCond .lt 19, 3) := by decide +kernel
theorem dX3_tellMean_4 : decode cX3_tellMean 4 = .ok (.iload_n 1, 1) := by decide +kernel
theorem dX3_tellMean_5 : decode cX3_tellMean 5 = .ok (.bipush 40, 2) := by decide +kernel
theorem dX3_tellMean_7 : decode cX3_tellMean 7 = .ok (.if_icmp .gt 13, 3) := by decide +kernel
theorem dX3_tellMean_10 : decode cX3_tellMean 10 = .ok (.iload_n 2, 1) := by decide +kernel
theorem dX3_tellMean_11 : decode cX3_tellMean 11 = .ok (.ifCond .lt 9, 3) := by decide +kernel
theorem dX3_tellMean_14 : decode cX3_tellMean 14 = .ok (.iload_n 2, 1) := by decide +kernel
theorem dX3_tellMean_15 : decode cX3_tellMean 15 = .ok (.bipush 12, 2) := by decide +kernel
theorem dX3_tellMean_17 : decode cX3_tellMean 17 = .ok (.if_icmp .le 5, 3) := by decide +kernel
theorem dX3_tellMean_20 : decode cX3_tellMean 20 = .ok (.iconst (-1), 1) := by decide +kernel
theorem dX3_tellMean_21 : decode cX3_tellMean 21 = .ok (.ireturn, 1) := by decide +kernel
theorem dX3_tellMean_22 : decode cX3_tellMean 22 = .ok (.aload_n 0, 1) := by decide +kernel
theorem dX3_tellMean_23 : decode cX3_tellMean 23 = .ok (.getfield 33, 3) := by decide +kernel
theorem dX3_tellMean_26 : decode cX3_tellMean 26 = .ok (.getfield 112, 3) := by decide +kernel
theorem dX3_tellMean_29 : decode cX3_tellMean 29 = .ok (.ifCond .ne 6, 3) := by decide +kernel
theorem dX3_tellMean_32 : decode cX3_tellMean 32 = .ok (.bipush (-4), 2) := by decide +kernel
theorem dX3_tellMean_34 : decode cX3_tellMean 34 = .ok (.ireturn, 1) := by decide +kernel
theorem dX3_tellMean_35 : decode cX3_tellMean 35 = .ok (.lconst 0, 1) := by decide +kernel
theorem dX3_tellMean_36 : decode cX3_tellMean 36 = .ok (.lstore 4, 2) := by decide +kernel
theorem dX3_tellMean_38 : decode cX3_tellMean 38 = .ok (.lconst 0, 1) := by decide +kernel
theorem dX3_tellMean_39 : decode cX3_tellMean 39 = .ok (.lstore 6, 2) := by decide +kernel
theorem dX3_tellMean_41 : decode cX3_tellMean 41 = .ok (.iconst 0, 1) := by decide +kernel
theorem dX3_tellMean_42 : decode cX3_tellMean 42 = .ok (.istore 8, 2) := by decide +kernel
theorem dX3_tellMean_44 : decode cX3_tellMean 44 = .ok (.iload 8, 2) := by decide +kernel
theorem dX3_tellMean_46 : decode cX3_tellMean 46 = .ok (.aload_n 0, 1) := by decide +kernel
theorem dX3_tellMean_47 : decode cX3_tellMean 47 = .ok (.getfield 33, 3) := by decide +kernel
theorem dX3_tellMean_50 : decode cX3_tellMean 50 = .ok (.invokevirtual 190, 3) := by decide +kernel
theorem dX3_tellMean_53 : decode cX3_tellMean 53 = .ok (.if_icmp .ge 83, 3) := by decide +kernel
theorem dX3_tellMean_56 : decode cX3_tellMean 56 = .ok (.aload_n 0, 1) := by decide +kernel
theorem dX3_tellMean_57 : decode cX3_tellMean 57 = .ok (.iload 8, 2) := by decide +kernel
theorem dX3_tellMean_59 : decode cX3_tellMean 59 = .ok (.iload_n 2, 1) := by decide +kernel
theorem dX3_tellMean_60 : decode cX3_tellMean 60 = .ok (.invokevirtual 256, 3) := by decide +kernel
theorem dX3_tellMean_63 : decode cX3_tellMean 63 = .ok (.lstore 9, 2) := by decide +kernel
theorem dX3_tellMean_65 : decode cX3_tellMean 65 = .ok (.lload 6, 2) := by decide +kernel
theorem dX3_tellMean_67 : decode cX3_tellMean 67 = .ok (.lload 9, 2) := by decide +kernel
theorem dX3_tellMean_69 : decode cX3_tellMean 69 = .ok (.ladd, 1) := by decide +kernel
theorem dX3_tellMean_70 : decode cX3_tellMean 70 = .ok (.lstore 6, 2) := by decide +kernel
theorem dX3_tellMean_72 : decode cX3_tellMean 72 = .ok (.lload 9, 2) := by decide +kernel
theorem dX3_tellMean_74 : decode cX3_tellMean 74 = .ok (.lconst 0, 1) := by decide +kernel
theorem dX3_tellMean_75 : decode cX3_tellMean 75 = .ok (.lcmp, 1) := by decide +kernel
theorem dX3_tellMean_76 : decode cX3_tellMean 76 = .ok (.ifCond .ne 6, 3) := by decide +kernel
theorem dX3_tellMean_79 : decode cX3_tellMean 79 = .ok (.goto 51, 3) := by decide +kernel
theorem dX3_tellMean_82 : decode cX3_tellMean 82 = .ok (.aload_n 0, 1) := by decide +kernel
theorem dX3_tellMean_83 : decode cX3_tellMean 83 = .ok (.iload_n 1, 1) := by decide +kernel
theorem dX3_tellMean_84 : decode cX3_tellMean 84 = .ok (.iload 8, 2) := by decide +kernel
theorem dX3_tellMean_86 : decode cX3_tellMean 86 = .ok (.invokevirtual 173, 3) := by decide +kernel
theorem dX3_tellMean_89 : decode cX3_tellMean 89 = .ok (.istore 11, 2) := by decide +kernel
theorem dX3_tellMean_91 : decode cX3_tellMean 91 = .ok (.aload_n 0, 1) := by decide +kernel
theorem dX3_tellMean_92 : decode cX3_tellMean 92 = .ok (.getfield 47, 3) := by decide +kernel
theorem dX3_tellMean_95 : decode cX3_tellMean 95 = .ok (.iload 8, 2) := by decide +kernel
theorem dX3_tellMean_97 : decode cX3_tellMean 97 = .ok (.invokevirtual 242, 3) := by decide +kernel
theorem dX3_tellMean_100 : decode cX3_tellMean 100 = .ok (.ifCond .ne 7, 3) := by decide +kernel
theorem dX3_tellMean_103 : decode cX3_tellMean 103 = .ok (.iconst 1, 1) := by decide +kernel
theorem dX3_tellMean_104 : decode cX3_tellMean 104 = .ok (.goto 4, 3) := by decide +kernel
theorem dX3_tellMean_107 : decode cX3_tellMean 107 = .ok (.iconst 0, 1) := by decide +kernel
theorem dX3_tellMean_108 : decode cX3_tellMean 108 = .ok (.istore 12, 2) := by decide +kernel
theorem dX3_tellMean_110 : decode cX3_tellMean 110 = .ok (.lload 4, 2) := by decide +kernel
theorem dX3_tellMean_112 : decode cX3_tellMean 112 = .ok (.lload 9, 2) := by decide +kernel
theorem dX3_tellMean_114 : decode cX3_tellMean 114 = .ok (.iload_n 3, 1) := by decide +kernel
theorem dX3_tellMean_115 : decode cX3_tellMean 115 = .ok (.ifCond .eq 8, 3) := by decide +kernel
theorem dX3_tellMean_118 : decode cX3_tellMean 118 = .ok (.iload 12, 2) := by decide +kernel
theorem dX3_tellMean_120 : decode cX3_tellMean 120 = .ok (.goto 5, 3) := by decide +kernel
theorem dX3_tellMean_123 : decode cX3_tellMean 123 = .ok (.iload 11, 2) := by decide +kernel
theorem dX3_tellMean_125 : decode cX3_tellMean 125 = .ok (.i2l, 1) := by decide +kernel
theorem dX3_tellMean_126 : decode cX3_tellMean 126 = .ok (.lmul, 1) := by decide +kernel
theorem dX3_tellMean_127 : decode cX3_tellMean 127 = .ok (.ladd, 1) := by decide +kernel
theorem dX3_tellMean_128 : decode cX3_tellMean 128 = .ok (.lstore 4, 2) := by decide +kernel
theorem dX3_tellMean_130 : decode cX3_tellMean 130 = .ok (.iinc 8 1, 3) := by decide +kernel
theorem dX3_tellMean_133 : decode cX3_tellMean 133 = .ok (.goto (-89), 3) := by decide +kernel
theorem dX3_tellMean_136 : decode cX3_tellMean 136 = .ok (.aload_n 0, 1) := by decide +kernel
theorem dX3_tellMean_137 : decode cX3_tellMean 137 = .ok (.lload 4, 2) := by decide +kernel
theorem dX3_tellMean_139 : decode cX3_tellMean 139 = .ok (.lload 6, 2) := by decide +kernel
theorem dX3_tellMean_141 : decode cX3_tellMean 141 = .ok (.invokevirtual 260, 3) := by decide +kernel
theorem dX3_tellMean_144 : decode cX3_tellMean 144 = .ok (.iconst 1, 1) := by decide +kernel
theorem dX3_tellMean_145 : decode cX3_tellMean 145 = .ok (.ireturn, 1) := by decide +kernel
/-! X3_tellMean (IIZ)I -/
abbrev rmX3_tellMean : Room := { frames := 6, cells := 0, slots := 0, locals := 128 }
theorem lkX3_tellMean_0 : Cond.fieldLink RX3 33 (TX3 5).1 (TX3 5).2.1 (TX3 5).2.2.1 ∈ wsX3_tellMean := by decide +kernel
theorem lkX3_tellMean_1 : Cond.fieldLink RX3 112 (TX0 1).1 (TX0 1).2.1 (TX0 1).2.2.1 ∈ wsX3_tellMean := by decide +kernel
theorem lkX3_tellMean_2 : Cond.fieldLink RX3 47 (TX3 8).1 (TX3 8).2.1 (TX3 8).2.2.1 ∈ wsX3_tellMean := by decide +kernel
theorem inX3_tellMean_X3 : ∀ w ∈ u_ws RX3 TX3 17, w ∈ wsX3_tellMean := by decide +kernel
theorem inX3_tellMean_X0 : ∀ w ∈ u_ws RX0 TX0 6, w ∈ wsX3_tellMean := by decide +kernel
noncomputable def fX3_tellMean_b125 (G : mm_G) (a0 : Nat) (x1 : Int32) (x2 : Int32) (x3 : Int32) (y6 : Int64) (x8 : Int32) (sx0 : Int32) (sy1 : Int64) (sy2 : Int64) (σ : mm_M) : Option ((Int32 × mm_M) ⊕ (Int64 × Int64 × Int32 × mm_M)) := some (.inr (sy2 + (sy1 * sx0.toInt64), y6, x8 + 1, σ))
noncomputable def fX3_tellMean_b108 (G : mm_G) (a0 : Nat) (x1 : Int32) (x2 : Int32) (x3 : Int32) (y4 : Int64) (y6 : Int64) (x8 : Int32) (y9 : Int64) (x11 : Int32) (sx0 : Int32) (σ : mm_M) : Option ((Int32 × mm_M) ⊕ (Int64 × Int64 × Int32 × mm_M)) := fX3_tellMean_b125 G a0 x1 x2 x3 y6 x8 (if x3 = 0 then x11 else sx0) y9 y4 σ
noncomputable def fX3_tellMean_b44 (G : mm_G) (a0 : Nat) (x1 : Int32) (x2 : Int32) (x3 : Int32) (y4 : Int64) (y6 : Int64) (x8 : Int32) (σ : mm_M) : Option ((Int32 × mm_M) ⊕ (Int64 × Int64 × Int32 × mm_M)) := (fX0_sets G (mm_R G a0 5) σ).bind (fun q50 => if x8 < q50.1 then ((fX3_weightOf G a0 x8 x2 q50.2).bind (fun q60 => if (lg_cmp q60.1 (0 : Int64)) = 0 then (some (.inr (y4, y6 + q60.1, x8 + 1, q60.2))) else ((fX3_heardAside G a0 x1 x8 q60.2).bind (fun q86 => (fX0_lettersBut G (mm_R G a0 8) x8 q86.2).bind (fun q97 => fX3_tellMean_b108 G a0 x1 x2 x3 y4 (y6 + q60.1) x8 q60.1 q86.1 (if q97.1 = 0 then (1 : Int32) else (0 : Int32)) q97.2))))) else ((fX3_tellRatio G a0 y4 y6 q50.2).bind (fun q141 => some (.inl ((1 : Int32), q141)))))
noncomputable def fX3_tellMean_b0 (G : mm_G) (a0 : Nat) (x1 : Int32) (x2 : Int32) (x3 : Int32) (σ : mm_M) : Option ((Int32 × mm_M) ⊕ (Int64 × Int64 × Int32 × mm_M)) := if x1 < 0 then (some (.inl ((-1 : Int32), σ))) else (if (40 : Int32) < x1 then (some (.inl ((-1 : Int32), σ))) else (if x2 < 0 then (some (.inl ((-1 : Int32), σ))) else (if (12 : Int32) < x2 then (some (.inl ((-1 : Int32), σ))) else (if (σ.1 (mm_R G a0 5) 1) = 0 then (some (.inl ((-4 : Int32), σ))) else (some (.inr ((0 : Int64), (0 : Int64), (0 : Int32), σ)))))))
noncomputable def fX3_tellMean_s (G : mm_G) (a0 : Nat) (x1 : Int32) (x2 : Int32) (x3 : Int32) : (Int64 × Int64 × Int32 × mm_M) → Option ((Int32 × mm_M) ⊕ (Int64 × Int64 × Int32 × mm_M)) := (fun s => fX3_tellMean_b44 G a0 x1 x2 x3 s.1 s.2.1 s.2.2.1 s.2.2.2)
def PX3_tellMean (E : mm_E) (G : mm_G) (a0 : Nat) (x1 : Int32) (x2 : Int32) (x3 : Int32) (q : (Int32 × mm_M)) : (Int64 × Int64 × Int32 × mm_M) → Prop := (fun s => mm_At E G 13 (mm_Qi E G q) s.2.2.2 44 [(0, .ref a0), (1, .int x1), (2, .int x2), (3, .int x3), (4, .long s.1), (6, .long s.2.1), (8, .int s.2.2.1)] [])
noncomputable def fX3_tellMean (G : mm_G) (a0 : Nat) (x1 : Int32) (x2 : Int32) (x3 : Int32) (σ : mm_M) : Option (Int32 × mm_M) := mm_run (fX3_tellMean_b0 G a0 x1 x2 x3 σ) (fX3_tellMean_s G a0 x1 x2 x3)
set_option maxHeartbeats 4000000 in
set_option maxRecDepth 100000 in
theorem wX3_tellMean_b125 {E : mm_E} {G : mm_G} (X : mm_Cx E G cX3_tellMean 13 RX3 wsX3_tellMean rmX3_tellMean (some .int)) {a0 : Nat} {x1 : Int32} {x2 : Int32} {x3 : Int32} {y6 : Int64} {x8 : Int32} {sx0 : Int32} {sy1 : Int64} {sy2 : Int64} {σ : mm_M} {q : (Int32 × mm_M)} (ha0 : mm_Is G 3 a0) {o : (Int32 × mm_M) ⊕ (Int64 × Int64 × Int32 × mm_M)} (h : fX3_tellMean_b125 G a0 x1 x2 x3 y6 x8 sx0 sy1 sy2 σ = some o) (hk : mm_Ok q (PX3_tellMean E G a0 x1 x2 x3 q) o) : mm_At E G 13 (mm_Qi E G q) σ 125 [(0, .ref a0), (1, .int x1), (2, .int x2), (3, .int x3), (6, .long y6), (8, .int x8)] [.int sx0, .long sy1, .long sy2] := by
  unfold fX3_tellMean_b125 at h
  refine at_i2l (pc := 125) X dX3_tellMean_125 ?_
  refine at_lmul (pc := 126) X dX3_tellMean_126 ?_
  refine at_ladd (pc := 127) X dX3_tellMean_127 ?_
  refine at_lstore (pc := 128) X 4 [(4, .long (sy2 + (sy1 * sx0.toInt64))), (0, .ref a0), (1, .int x1), (2, .int x2), (3, .int x3), (6, .long y6), (8, .int x8)] dX3_tellMean_128 (by decide) rfl ?_
  refine at_iinc (pc := 130) X 8 6 (x8 + 1) [(8, .int (x8 + 1)), (4, .long (sy2 + (sy1 * sx0.toInt64))), (0, .ref a0), (1, .int x1), (2, .int x2), (3, .int x3), (6, .long y6)] dX3_tellMean_130 rfl (ii_1 _) (by decide) rfl ?_
  refine at_goto (pc := 133) X 44 dX3_tellMean_133 (by decide) ?_
  have h2 := mm_inr h hk; exact at_sub [2, 3, 4, 5, 1, 6, 0] rfl h2
set_option maxHeartbeats 4000000 in
set_option maxRecDepth 100000 in
theorem wX3_tellMean_b108 {E : mm_E} {G : mm_G} (X : mm_Cx E G cX3_tellMean 13 RX3 wsX3_tellMean rmX3_tellMean (some .int)) {a0 : Nat} {x1 : Int32} {x2 : Int32} {x3 : Int32} {y4 : Int64} {y6 : Int64} {x8 : Int32} {y9 : Int64} {x11 : Int32} {sx0 : Int32} {σ : mm_M} {q : (Int32 × mm_M)} (ha0 : mm_Is G 3 a0) {o : (Int32 × mm_M) ⊕ (Int64 × Int64 × Int32 × mm_M)} (h : fX3_tellMean_b108 G a0 x1 x2 x3 y4 y6 x8 y9 x11 sx0 σ = some o) (hk : mm_Ok q (PX3_tellMean E G a0 x1 x2 x3 q) o) : mm_At E G 13 (mm_Qi E G q) σ 108 [(0, .ref a0), (1, .int x1), (2, .int x2), (3, .int x3), (4, .long y4), (6, .long y6), (8, .int x8), (9, .long y9), (11, .int x11)] [.int sx0] := by
  unfold fX3_tellMean_b108 at h
  refine at_istore (pc := 108) X 12 [(12, .int sx0), (0, .ref a0), (1, .int x1), (2, .int x2), (3, .int x3), (4, .long y4), (6, .long y6), (8, .int x8), (9, .long y9), (11, .int x11)] dX3_tellMean_108 (by decide) rfl ?_
  refine at_lload (pc := 110) X 4 5 dX3_tellMean_110 rfl ?_
  refine at_lload (pc := 112) X 9 8 dX3_tellMean_112 rfl ?_
  refine at_iload_n (pc := 114) X 3 4 dX3_tellMean_114 rfl rfl ?_
  have hj115 : mm_At E G 13 (mm_Qi E G q) σ 125 [(0, .ref a0), (1, .int x1), (2, .int x2), (3, .int x3), (6, .long y6), (8, .int x8)] [.int (if x3 = 0 then x11 else sx0), .long y9, .long y4] := by
    exact at_sub [0, 1, 2, 3, 4, 5] rfl (wX3_tellMean_b125 X ha0 h hk)
  refine at_if_eq (pc := 115) X 123 dX3_tellMean_115 (by decide) (fun c115 => ?_) (fun c115 => ?_)
  · try simp only [if_pos c115] at hj115
    refine at_iload (pc := 123) X 11 9 dX3_tellMean_123 rfl ?_
    exact at_sub [1, 2, 3, 4, 6, 7] rfl hj115
  · try simp only [if_neg c115] at hj115
    refine at_iload (pc := 118) X 12 0 dX3_tellMean_118 rfl ?_
    refine at_goto (pc := 120) X 125 dX3_tellMean_120 (by decide) ?_
    exact at_sub [1, 2, 3, 4, 6, 7] rfl hj115
set_option maxHeartbeats 4000000 in
set_option maxRecDepth 100000 in
theorem wX3_tellMean_b44 {E : mm_E} {G : mm_G} (X : mm_Cx E G cX3_tellMean 13 RX3 wsX3_tellMean rmX3_tellMean (some .int)) {a0 : Nat} {x1 : Int32} {x2 : Int32} {x3 : Int32} {y4 : Int64} {y6 : Int64} {x8 : Int32} {σ : mm_M} {q : (Int32 × mm_M)} (ha0 : mm_Is G 3 a0) {o : (Int32 × mm_M) ⊕ (Int64 × Int64 × Int32 × mm_M)} (h : fX3_tellMean_b44 G a0 x1 x2 x3 y4 y6 x8 σ = some o) (hk : mm_Ok q (PX3_tellMean E G a0 x1 x2 x3 q) o) : mm_At E G 13 (mm_Qi E G q) σ 44 [(0, .ref a0), (1, .int x1), (2, .int x2), (3, .int x3), (4, .long y4), (6, .long y6), (8, .int x8)] [] := by
  unfold fX3_tellMean_b44 at h
  refine at_iload (pc := 44) X 8 6 dX3_tellMean_44 rfl ?_
  refine at_aload_n (pc := 46) X 0 0 dX3_tellMean_46 rfl rfl ?_
  refine at_get (pc := 47) X 3 5 (.ref (mm_R G a0 5)) ha0 (by decide) rfl inX3_tellMean_X3 (by decide) lkX3_tellMean_0 rfl dX3_tellMean_47 ?_
  obtain ⟨q50, hq50, h⟩ := mm_bind h
  refine at_calli (n := 0) (pc := 50) X 0 [] [.int x8] (mX0_sets (eL E) X.wf (wf_3_5 X.wf ha0) hq50) gX3_tellMean_X0_sets rfl ⟨rfl, rfl⟩ (by decide +kernel) ⟨by decide, by decide⟩ (by decide) rfl (wf_3_5 X.wf ha0) rfl rfl (Nat.le_of_ble_eq_true rfl) dX3_tellMean_50 ?_
  refine at_icmp_ge (pc := 53) X 136 dX3_tellMean_53 (by decide) (fun c53 => ?_) (fun c53 => ?_)
  · have h := mm_neg c53 h
    refine at_aload_n (pc := 136) X 0 0 dX3_tellMean_136 rfl rfl ?_
    refine at_lload (pc := 137) X 4 4 dX3_tellMean_137 rfl ?_
    refine at_lload (pc := 139) X 6 5 dX3_tellMean_139 rfl ?_
    obtain ⟨q141, hq141, h⟩ := mm_bind h
    refine at_callv (n := 2) (pc := 141) X 3 [.long y4, .long y6] [] (mX3_tellRatio (eL E) X.wf ha0 hq141) gX3_tellMean_X3_tellRatio rfl ⟨rfl, rfl⟩ (by decide +kernel) ⟨by decide, by decide⟩ (by decide) rfl ha0 rfl rfl (Nat.le_of_ble_eq_true rfl) dX3_tellMean_141 ?_
    refine at_iconst (pc := 144) X (1 : Int32) dX3_tellMean_144 ic_1 ?_
    exact at_iret (pc := 145) X (mm_inl h hk) dX3_tellMean_145
  · have h := mm_pos c53 h
    refine at_aload_n (pc := 56) X 0 0 dX3_tellMean_56 rfl rfl ?_
    refine at_iload (pc := 57) X 8 6 dX3_tellMean_57 rfl ?_
    refine at_iload_n (pc := 59) X 2 2 dX3_tellMean_59 rfl rfl ?_
    obtain ⟨q60, hq60, h⟩ := mm_bind h
    refine at_calll (n := 2) (pc := 60) X 3 [.int x8, .int x2] [] (mX3_weightOf (eL E) X.wf ha0 hq60) gX3_tellMean_X3_weightOf rfl ⟨rfl, rfl⟩ (by decide +kernel) ⟨by decide, by decide⟩ (by decide) rfl ha0 rfl rfl (Nat.le_of_ble_eq_true rfl) dX3_tellMean_60 ?_
    refine at_lstore (pc := 63) X 9 [(9, .long q60.1), (0, .ref a0), (1, .int x1), (2, .int x2), (3, .int x3), (4, .long y4), (6, .long y6), (8, .int x8)] dX3_tellMean_63 (by decide) rfl ?_
    refine at_lload (pc := 65) X 6 6 dX3_tellMean_65 rfl ?_
    refine at_lload (pc := 67) X 9 0 dX3_tellMean_67 rfl ?_
    refine at_ladd (pc := 69) X dX3_tellMean_69 ?_
    refine at_lstore (pc := 70) X 6 [(6, .long (y6 + q60.1)), (9, .long q60.1), (0, .ref a0), (1, .int x1), (2, .int x2), (3, .int x3), (4, .long y4), (8, .int x8)] dX3_tellMean_70 (by decide) rfl ?_
    refine at_lload (pc := 72) X 9 1 dX3_tellMean_72 rfl ?_
    refine at_lconst (pc := 74) X (0 : Int64) dX3_tellMean_74 (by decide) ?_
    refine at_lcmp (pc := 75) X dX3_tellMean_75 ?_
    refine at_if_ne (pc := 76) X 82 dX3_tellMean_76 (by decide) (fun c76 => ?_) (fun c76 => ?_)
    · have h := mm_neg c76 h
      refine at_aload_n (pc := 82) X 0 2 dX3_tellMean_82 rfl rfl ?_
      refine at_iload_n (pc := 83) X 1 3 dX3_tellMean_83 rfl rfl ?_
      refine at_iload (pc := 84) X 8 7 dX3_tellMean_84 rfl ?_
      obtain ⟨q86, hq86, h⟩ := mm_bind h
      refine at_calli (n := 2) (pc := 86) X 3 [.int x1, .int x8] [] (mX3_heardAside (eL E) X.wf ha0 hq86) gX3_tellMean_X3_heardAside rfl ⟨rfl, rfl⟩ (by decide +kernel) ⟨by decide, by decide⟩ (by decide) rfl ha0 rfl rfl (Nat.le_of_ble_eq_true rfl) dX3_tellMean_86 ?_
      refine at_istore (pc := 89) X 11 [(11, .int q86.1), (6, .long (y6 + q60.1)), (9, .long q60.1), (0, .ref a0), (1, .int x1), (2, .int x2), (3, .int x3), (4, .long y4), (8, .int x8)] dX3_tellMean_89 (by decide) rfl ?_
      refine at_aload_n (pc := 91) X 0 3 dX3_tellMean_91 rfl rfl ?_
      refine at_get (pc := 92) X 3 8 (.ref (mm_R G a0 8)) ha0 (by decide) rfl inX3_tellMean_X3 (by decide) lkX3_tellMean_2 rfl dX3_tellMean_92 ?_
      refine at_iload (pc := 95) X 8 8 dX3_tellMean_95 rfl ?_
      obtain ⟨q97, hq97, h⟩ := mm_bind h
      refine at_calli (n := 1) (pc := 97) X 0 [.int x8] [] (mX0_lettersBut (eL E) X.wf (wf_3_8 X.wf ha0) hq97) gX3_tellMean_X0_lettersBut rfl ⟨rfl, rfl⟩ (by decide +kernel) ⟨by decide, by decide⟩ (by decide) rfl (wf_3_8 X.wf ha0) rfl rfl (Nat.le_of_ble_eq_true rfl) dX3_tellMean_97 ?_
      have hj100 : mm_At E G 13 (mm_Qi E G q) q97.2 108 [(0, .ref a0), (1, .int x1), (2, .int x2), (3, .int x3), (4, .long y4), (6, .long (y6 + q60.1)), (8, .int x8), (9, .long q60.1), (11, .int q86.1)] [.int (if q97.1 = 0 then (1 : Int32) else (0 : Int32))] := by
        exact at_sub [0, 1, 2, 3, 4, 5, 6, 7, 8] rfl (wX3_tellMean_b108 X ha0 h hk)
      refine at_if_ne (pc := 100) X 107 dX3_tellMean_100 (by decide) (fun c100 => ?_) (fun c100 => ?_)
      · try simp only [if_neg c100] at hj100
        refine at_iconst (pc := 107) X (0 : Int32) dX3_tellMean_107 ic_0 ?_
        exact at_sub [3, 4, 5, 6, 7, 1, 8, 2, 0] rfl hj100
      · try simp only [if_pos c100] at hj100
        refine at_iconst (pc := 103) X (1 : Int32) dX3_tellMean_103 ic_1 ?_
        refine at_goto (pc := 104) X 108 dX3_tellMean_104 (by decide) ?_
        exact at_sub [3, 4, 5, 6, 7, 1, 8, 2, 0] rfl hj100
    · have h := mm_pos c76 h
      refine at_goto (pc := 79) X 130 dX3_tellMean_79 (by decide) ?_
      refine at_iinc (pc := 130) X 8 7 (x8 + 1) [(8, .int (x8 + 1)), (6, .long (y6 + q60.1)), (9, .long q60.1), (0, .ref a0), (1, .int x1), (2, .int x2), (3, .int x3), (4, .long y4)] dX3_tellMean_130 rfl (ii_1 _) (by decide) rfl ?_
      refine at_goto (pc := 133) X 44 dX3_tellMean_133 (by decide) ?_
      have h2 := mm_inr h hk; exact at_sub [3, 4, 5, 6, 7, 1, 0] rfl h2
set_option maxHeartbeats 4000000 in
set_option maxRecDepth 100000 in
theorem wX3_tellMean_b0 {E : mm_E} {G : mm_G} (X : mm_Cx E G cX3_tellMean 13 RX3 wsX3_tellMean rmX3_tellMean (some .int)) {a0 : Nat} {x1 : Int32} {x2 : Int32} {x3 : Int32} {σ : mm_M} {q : (Int32 × mm_M)} (ha0 : mm_Is G 3 a0) {o : (Int32 × mm_M) ⊕ (Int64 × Int64 × Int32 × mm_M)} (h : fX3_tellMean_b0 G a0 x1 x2 x3 σ = some o) (hk : mm_Ok q (PX3_tellMean E G a0 x1 x2 x3 q) o) : mm_At E G 13 (mm_Qi E G q) σ 0 [(0, .ref a0), (1, .int x1), (2, .int x2), (3, .int x3)] [] := by
  unfold fX3_tellMean_b0 at h
  refine at_iload_n (pc := 0) X 1 1 dX3_tellMean_0 rfl rfl ?_
  refine at_if_lt (pc := 1) X 20 dX3_tellMean_1 (by decide) (fun c1 => ?_) (fun c1 => ?_)
  · have h := mm_pos c1 h
    refine at_iconst (pc := 20) X (-1 : Int32) dX3_tellMean_20 ic_m1 ?_
    exact at_iret (pc := 21) X (mm_inl h hk) dX3_tellMean_21
  · have h := mm_neg c1 h
    refine at_iload_n (pc := 4) X 1 1 dX3_tellMean_4 rfl rfl ?_
    refine at_bipush (pc := 5) X (40 : Int32) dX3_tellMean_5 ib_40 ?_
    refine at_icmp_gt (pc := 7) X 20 dX3_tellMean_7 (by decide) (fun c7 => ?_) (fun c7 => ?_)
    · have h := mm_pos c7 h
      refine at_iconst (pc := 20) X (-1 : Int32) dX3_tellMean_20 ic_m1 ?_
      exact at_iret (pc := 21) X (mm_inl h hk) dX3_tellMean_21
    · have h := mm_neg c7 h
      refine at_iload_n (pc := 10) X 2 2 dX3_tellMean_10 rfl rfl ?_
      refine at_if_lt (pc := 11) X 20 dX3_tellMean_11 (by decide) (fun c11 => ?_) (fun c11 => ?_)
      · have h := mm_pos c11 h
        refine at_iconst (pc := 20) X (-1 : Int32) dX3_tellMean_20 ic_m1 ?_
        exact at_iret (pc := 21) X (mm_inl h hk) dX3_tellMean_21
      · have h := mm_neg c11 h
        refine at_iload_n (pc := 14) X 2 2 dX3_tellMean_14 rfl rfl ?_
        refine at_bipush (pc := 15) X (12 : Int32) dX3_tellMean_15 ib_12 ?_
        refine at_icmp_le (pc := 17) X 22 dX3_tellMean_17 (by decide) (fun c17 => ?_) (fun c17 => ?_)
        · have h := mm_neg c17 h
          refine at_aload_n (pc := 22) X 0 0 dX3_tellMean_22 rfl rfl ?_
          refine at_get (pc := 23) X 3 5 (.ref (mm_R G a0 5)) ha0 (by decide) rfl inX3_tellMean_X3 (by decide) lkX3_tellMean_0 rfl dX3_tellMean_23 ?_
          refine at_get (pc := 26) X 0 1 (.int (σ.1 (mm_R G a0 5) 1)) (wf_3_5 X.wf ha0) (by decide) rfl inX3_tellMean_X0 (by decide) lkX3_tellMean_1 rfl dX3_tellMean_26 ?_
          refine at_if_ne (pc := 29) X 35 dX3_tellMean_29 (by decide) (fun c29 => ?_) (fun c29 => ?_)
          · have h := mm_neg c29 h
            refine at_lconst (pc := 35) X (0 : Int64) dX3_tellMean_35 (by decide) ?_
            refine at_lstore (pc := 36) X 4 [(4, .long (0 : Int64)), (0, .ref a0), (1, .int x1), (2, .int x2), (3, .int x3)] dX3_tellMean_36 (by decide) rfl ?_
            refine at_lconst (pc := 38) X (0 : Int64) dX3_tellMean_38 (by decide) ?_
            refine at_lstore (pc := 39) X 6 [(6, .long (0 : Int64)), (4, .long (0 : Int64)), (0, .ref a0), (1, .int x1), (2, .int x2), (3, .int x3)] dX3_tellMean_39 (by decide) rfl ?_
            refine at_iconst (pc := 41) X (0 : Int32) dX3_tellMean_41 ic_0 ?_
            refine at_istore (pc := 42) X 8 [(8, .int (0 : Int32)), (6, .long (0 : Int64)), (4, .long (0 : Int64)), (0, .ref a0), (1, .int x1), (2, .int x2), (3, .int x3)] dX3_tellMean_42 (by decide) rfl ?_
            have h2 := mm_inr h hk; exact at_sub [3, 4, 5, 6, 2, 1, 0] rfl h2
          · have h := mm_pos c29 h
            refine at_bipush (pc := 32) X (-4 : Int32) dX3_tellMean_32 ib_m4 ?_
            exact at_iret (pc := 34) X (mm_inl h hk) dX3_tellMean_34
        · have h := mm_pos c17 h
          refine at_iconst (pc := 20) X (-1 : Int32) dX3_tellMean_20 ic_m1 ?_
          exact at_iret (pc := 21) X (mm_inl h hk) dX3_tellMean_21
set_option maxHeartbeats 4000000 in
set_option maxRecDepth 100000 in
theorem mX3_tellMean (l : Launch) {G : mm_G} (hwf : mm_WF G) {a0 : Nat} {x1 : Int32} {x2 : Int32} {x3 : Int32} {σ : mm_M} {q : (Int32 × mm_M)} (ha0 : mm_Is G 3 a0) (h : fX3_tellMean G a0 x1 x2 x3 σ = some q) : mm_Mi l yX3_tellMean wsX3_tellMean rmX3_tellMean G [.ref a0, .int x1, .int x2, .int x3] σ q := by
  refine mm_ofi (cc := cX3_tellMean) (nL := 13) (ret := some .int) (own := RX3) (lv0 := [(0, .ref a0), (1, .int x1), (2, .int x2), (3, .int x3)]) (by decide) rfl rfl (Nat.le_of_ble_eq_true rfl) rfl hwf (fun E hE X => ?_)
  obtain ⟨o, h0, hk⟩ := mm_run_ok (P := PX3_tellMean E G a0 x1 x2 x3 q) h (fun s o hs hk => by exact wX3_tellMean_b44 X ha0 hs hk)
  exact wX3_tellMean_b0 X ha0 h0 hk
set_option maxRecDepth 20000 in
theorem ggX3_odds_X3_tellMean : GoodIn wsX3_odds wsX3_tellMean := goodIn_r _ [5, 6, 7, 8, 9, 10, 11, 12, 13, 14, 15, 16, 17, 4, 18, 19, 20, 21, 22, 23, 24, 25, 26, 27, 28, 29, 30, 31, 32, 33, 34, 35, 36, 37, 38, 39, 40, 41, 42, 43, 44, 45, 46, 47, 48, 49, 50, 51, 52, 53, 54, 55, 56, 57, 58, 59, 60, 61, 62, 63, 64, 65, 66, 67, 68, 69, 70, 71, 72, 73, 74, 75, 76, 77, 78, 79, 80, 81, 82, 83, 84, 85, 86, 87, 88, 89, 90, 91, 92, 93, 94, 95, 96, 97, 98, 99, 100, 101, 102, 103, 104, 105, 106, 107, 108, 109, 110, 111, 112, 113, 114, 115, 116, 117, 118, 119, 120, 121, 122, 123, 124, 125, 126, 127, 128, 129, 130, 131, 132, 133, 134, 135, 136, 137, 138] (by decide +kernel) (by decide +kernel)
set_option maxRecDepth 20000 in
theorem gX3_odds_X3_tellMean : GoodIn wsX3_odds (wsV RX3 213 RX3 yX3_tellMean wsX3_tellMean) := goodIn_app (goodIn_of _ (by decide +kernel)) ggX3_odds_X3_tellMean
theorem dX3_odds_0 : decode cX3_odds 0 = .ok (.aload_n 0, 1) := by decide +kernel
theorem dX3_odds_1 : decode cX3_odds 1 = .ok (.iload_n 1, 1) := by decide +kernel
theorem dX3_odds_2 : decode cX3_odds 2 = .ok (.iload_n 2, 1) := by decide +kernel
theorem dX3_odds_3 : decode cX3_odds 3 = .ok (.iconst 1, 1) := by decide +kernel
theorem dX3_odds_4 : decode cX3_odds 4 = .ok (.invokevirtual 213, 3) := by decide +kernel
theorem dX3_odds_7 : decode cX3_odds 7 = .ok (.ireturn, 1) := by decide +kernel
/-! X3_odds (II)I -/
abbrev rmX3_odds : Room := { frames := 7, cells := 0, slots := 0, locals := 160 }
noncomputable def fX3_odds (G : mm_G) (a0 : Nat) (x1 : Int32) (x2 : Int32) (σ : mm_M) : Option (Int32 × mm_M) := (fX3_tellMean G a0 x1 x2 (1 : Int32) σ).bind (fun q4 => some (q4.1, q4.2))
set_option maxHeartbeats 4000000 in
set_option maxRecDepth 100000 in
theorem wX3_odds_b0 {E : mm_E} {G : mm_G} (X : mm_Cx E G cX3_odds 3 RX3 wsX3_odds rmX3_odds (some .int)) {a0 : Nat} {x1 : Int32} {x2 : Int32} {σ : mm_M} {q : (Int32 × mm_M)} (ha0 : mm_Is G 3 a0) (h : fX3_odds G a0 x1 x2 σ = some q) : mm_At E G 3 (mm_Qi E G q) σ 0 [(0, .ref a0), (1, .int x1), (2, .int x2)] [] := by
  unfold fX3_odds at h
  refine at_aload_n (pc := 0) X 0 0 dX3_odds_0 rfl rfl ?_
  refine at_iload_n (pc := 1) X 1 1 dX3_odds_1 rfl rfl ?_
  refine at_iload_n (pc := 2) X 2 2 dX3_odds_2 rfl rfl ?_
  refine at_iconst (pc := 3) X (1 : Int32) dX3_odds_3 ic_1 ?_
  obtain ⟨q4, hq4, h⟩ := mm_bind h
  refine at_calli (n := 3) (pc := 4) X 3 [.int x1, .int x2, .int (1 : Int32)] [] (mX3_tellMean (eL E) X.wf ha0 hq4) gX3_odds_X3_tellMean rfl ⟨rfl, rfl⟩ (by decide +kernel) ⟨by decide, by decide⟩ (by decide) rfl ha0 rfl rfl (Nat.le_of_ble_eq_true rfl) dX3_odds_4 ?_
  exact at_iret (pc := 7) X (Option.some.inj h) dX3_odds_7
set_option maxHeartbeats 4000000 in
set_option maxRecDepth 100000 in
theorem mX3_odds (l : Launch) {G : mm_G} (hwf : mm_WF G) {a0 : Nat} {x1 : Int32} {x2 : Int32} {σ : mm_M} {q : (Int32 × mm_M)} (ha0 : mm_Is G 3 a0) (h : fX3_odds G a0 x1 x2 σ = some q) : mm_Mi l yX3_odds wsX3_odds rmX3_odds G [.ref a0, .int x1, .int x2] σ q := by
  refine mm_ofi (cc := cX3_odds) (nL := 3) (ret := some .int) (own := RX3) (lv0 := [(0, .ref a0), (1, .int x1), (2, .int x2)]) (by decide) rfl rfl (Nat.le_of_ble_eq_true rfl) rfl hwf (fun E hE X => ?_)
  exact wX3_odds_b0 X ha0 h
set_option maxRecDepth 20000 in
theorem ggX3_mid_X3_tellMean : GoodIn wsX3_mid wsX3_tellMean := goodIn_r _ [5, 6, 7, 8, 9, 10, 11, 12, 13, 14, 15, 16, 17, 4, 18, 19, 20, 21, 22, 23, 24, 25, 26, 27, 28, 29, 30, 31, 32, 33, 34, 35, 36, 37, 38, 39, 40, 41, 42, 43, 44, 45, 46, 47, 48, 49, 50, 51, 52, 53, 54, 55, 56, 57, 58, 59, 60, 61, 62, 63, 64, 65, 66, 67, 68, 69, 70, 71, 72, 73, 74, 75, 76, 77, 78, 79, 80, 81, 82, 83, 84, 85, 86, 87, 88, 89, 90, 91, 92, 93, 94, 95, 96, 97, 98, 99, 100, 101, 102, 103, 104, 105, 106, 107, 108, 109, 110, 111, 112, 113, 114, 115, 116, 117, 118, 119, 120, 121, 122, 123, 124, 125, 126, 127, 128, 129, 130, 131, 132, 133, 134, 135, 136, 137, 138] (by decide +kernel) (by decide +kernel)
set_option maxRecDepth 20000 in
theorem gX3_mid_X3_tellMean : GoodIn wsX3_mid (wsV RX3 213 RX3 yX3_tellMean wsX3_tellMean) := goodIn_app (goodIn_of _ (by decide +kernel)) ggX3_mid_X3_tellMean
theorem dX3_mid_0 : decode cX3_mid 0 = .ok (.aload_n 0, 1) := by decide +kernel
theorem dX3_mid_1 : decode cX3_mid 1 = .ok (.iload_n 1, 1) := by decide +kernel
theorem dX3_mid_2 : decode cX3_mid 2 = .ok (.iload_n 2, 1) := by decide +kernel
theorem dX3_mid_3 : decode cX3_mid 3 = .ok (.iconst 0, 1) := by decide +kernel
theorem dX3_mid_4 : decode cX3_mid 4 = .ok (.invokevirtual 213, 3) := by decide +kernel
theorem dX3_mid_7 : decode cX3_mid 7 = .ok (.ireturn, 1) := by decide +kernel
/-! X3_mid (II)I -/
abbrev rmX3_mid : Room := { frames := 7, cells := 0, slots := 0, locals := 160 }
noncomputable def fX3_mid (G : mm_G) (a0 : Nat) (x1 : Int32) (x2 : Int32) (σ : mm_M) : Option (Int32 × mm_M) := (fX3_tellMean G a0 x1 x2 (0 : Int32) σ).bind (fun q4 => some (q4.1, q4.2))
set_option maxHeartbeats 4000000 in
set_option maxRecDepth 100000 in
theorem wX3_mid_b0 {E : mm_E} {G : mm_G} (X : mm_Cx E G cX3_mid 3 RX3 wsX3_mid rmX3_mid (some .int)) {a0 : Nat} {x1 : Int32} {x2 : Int32} {σ : mm_M} {q : (Int32 × mm_M)} (ha0 : mm_Is G 3 a0) (h : fX3_mid G a0 x1 x2 σ = some q) : mm_At E G 3 (mm_Qi E G q) σ 0 [(0, .ref a0), (1, .int x1), (2, .int x2)] [] := by
  unfold fX3_mid at h
  refine at_aload_n (pc := 0) X 0 0 dX3_mid_0 rfl rfl ?_
  refine at_iload_n (pc := 1) X 1 1 dX3_mid_1 rfl rfl ?_
  refine at_iload_n (pc := 2) X 2 2 dX3_mid_2 rfl rfl ?_
  refine at_iconst (pc := 3) X (0 : Int32) dX3_mid_3 ic_0 ?_
  obtain ⟨q4, hq4, h⟩ := mm_bind h
  refine at_calli (n := 3) (pc := 4) X 3 [.int x1, .int x2, .int (0 : Int32)] [] (mX3_tellMean (eL E) X.wf ha0 hq4) gX3_mid_X3_tellMean rfl ⟨rfl, rfl⟩ (by decide +kernel) ⟨by decide, by decide⟩ (by decide) rfl ha0 rfl rfl (Nat.le_of_ble_eq_true rfl) dX3_mid_4 ?_
  exact at_iret (pc := 7) X (Option.some.inj h) dX3_mid_7
set_option maxHeartbeats 4000000 in
set_option maxRecDepth 100000 in
theorem mX3_mid (l : Launch) {G : mm_G} (hwf : mm_WF G) {a0 : Nat} {x1 : Int32} {x2 : Int32} {σ : mm_M} {q : (Int32 × mm_M)} (ha0 : mm_Is G 3 a0) (h : fX3_mid G a0 x1 x2 σ = some q) : mm_Mi l yX3_mid wsX3_mid rmX3_mid G [.ref a0, .int x1, .int x2] σ q := by
  refine mm_ofi (cc := cX3_mid) (nL := 3) (ret := some .int) (own := RX3) (lv0 := [(0, .ref a0), (1, .int x1), (2, .int x2)]) (by decide) rfl rfl (Nat.le_of_ble_eq_true rfl) rfl hwf (fun E hE X => ?_)
  exact wX3_mid_b0 X ha0 h
set_option maxRecDepth 20000 in
theorem ggX3_deedByLot_X3_deedOf : GoodIn wsX3_deedByLot wsX3_deedOf := goodIn_r _ [9] (by decide +kernel) (by decide +kernel)
set_option maxRecDepth 20000 in
theorem gX3_deedByLot_X3_deedOf : GoodIn wsX3_deedByLot (va_wsS RX3 143 yX3_deedOf wsX3_deedOf) := goodIn_app (goodIn_of _ (by decide +kernel)) ggX3_deedByLot_X3_deedOf
theorem dX3_deedByLot_0 : decode cX3_deedByLot 0 = .ok (.aload_n 0, 1) := by decide +kernel
theorem dX3_deedByLot_1 : decode cX3_deedByLot 1 = .ok (.getfield 33, 3) := by decide +kernel
theorem dX3_deedByLot_4 : decode cX3_deedByLot 4 = .ok (.getfield 112, 3) := by decide +kernel
theorem dX3_deedByLot_7 : decode cX3_deedByLot 7 = .ok (.iconst 1, 1) := by decide +kernel
theorem dX3_deedByLot_8 : decode cX3_deedByLot 8 = .ok (.if_icmp .ge 7, 3) := by decide +kernel
theorem dX3_deedByLot_11 : decode cX3_deedByLot 11 = .ok (.iconst 0, 1) := by decide +kernel
theorem dX3_deedByLot_12 : decode cX3_deedByLot 12 = .ok (.goto 15, 3) := by decide +kernel
theorem dX3_deedByLot_15 : decode cX3_deedByLot 15 = .ok (.iload_n 1, 1) := by decide +kernel
theorem dX3_deedByLot_16 : decode cX3_deedByLot 16 = .ok (.bipush 8, 2) := by decide +kernel
theorem dX3_deedByLot_18 : decode cX3_deedByLot 18 = .ok (.idiv, 1) := by decide +kernel
theorem dX3_deedByLot_19 : decode cX3_deedByLot 19 = .ok (.aload_n 0, 1) := by decide +kernel
theorem dX3_deedByLot_20 : decode cX3_deedByLot 20 = .ok (.getfield 33, 3) := by decide +kernel
theorem dX3_deedByLot_23 : decode cX3_deedByLot 23 = .ok (.getfield 112, 3) := by decide +kernel
theorem dX3_deedByLot_26 : decode cX3_deedByLot 26 = .ok (.irem, 1) := by decide +kernel
theorem dX3_deedByLot_27 : decode cX3_deedByLot 27 = .ok (.istore_n 2, 1) := by decide +kernel
theorem dX3_deedByLot_28 : decode cX3_deedByLot 28 = .ok (.iload_n 1, 1) := by decide +kernel
theorem dX3_deedByLot_29 : decode cX3_deedByLot 29 = .ok (.bipush 8, 2) := by decide +kernel
theorem dX3_deedByLot_31 : decode cX3_deedByLot 31 = .ok (.irem, 1) := by decide +kernel
theorem dX3_deedByLot_32 : decode cX3_deedByLot 32 = .ok (.istore_n 3, 1) := by decide +kernel
theorem dX3_deedByLot_33 : decode cX3_deedByLot 33 = .ok (.iload_n 3, 1) := by decide +kernel
theorem dX3_deedByLot_34 : decode cX3_deedByLot 34 = .ok (.iconst 1, 1) := by decide +kernel
theorem dX3_deedByLot_35 : decode cX3_deedByLot 35 = .ok (.if_icmp .gt 48, 3) := by decide +kernel
theorem dX3_deedByLot_38 : decode cX3_deedByLot 38 = .ok (.aload_n 0, 1) := by decide +kernel
theorem dX3_deedByLot_39 : decode cX3_deedByLot 39 = .ok (.getfield 33, 3) := by decide +kernel
theorem dX3_deedByLot_42 : decode cX3_deedByLot 42 = .ok (.getfield 116, 3) := by decide +kernel
theorem dX3_deedByLot_45 : decode cX3_deedByLot 45 = .ok (.iload_n 2, 1) := by decide +kernel
theorem dX3_deedByLot_46 : decode cX3_deedByLot 46 = .ok (.aaload, 1) := by decide +kernel
theorem dX3_deedByLot_47 : decode cX3_deedByLot 47 = .ok (.getfield 150, 3) := by decide +kernel
theorem dX3_deedByLot_50 : decode cX3_deedByLot 50 = .ok (.bipush 30, 2) := by decide +kernel
theorem dX3_deedByLot_52 : decode cX3_deedByLot 52 = .ok (.if_icmp .ge 7, 3) := by decide +kernel
theorem dX3_deedByLot_55 : decode cX3_deedByLot 55 = .ok (.iconst 1, 1) := by decide +kernel
theorem dX3_deedByLot_56 : decode cX3_deedByLot 56 = .ok (.goto 4, 3) := by decide +kernel
theorem dX3_deedByLot_59 : decode cX3_deedByLot 59 = .ok (.iconst 0, 1) := by decide +kernel
theorem dX3_deedByLot_60 : decode cX3_deedByLot 60 = .ok (.istore 4, 2) := by decide +kernel
theorem dX3_deedByLot_62 : decode cX3_deedByLot 62 = .ok (.iload 4, 2) := by decide +kernel
theorem dX3_deedByLot_64 : decode cX3_deedByLot 64 = .ok (.ifCond .eq 12, 3) := by decide +kernel
theorem dX3_deedByLot_67 : decode cX3_deedByLot 67 = .ok (.iconst 2, 1) := by decide +kernel
theorem dX3_deedByLot_68 : decode cX3_deedByLot 68 = .ok (.iload_n 2, 1) := by decide +kernel
theorem dX3_deedByLot_69 : decode cX3_deedByLot 69 = .ok (.iconst 1, 1) := by decide +kernel
theorem dX3_deedByLot_70 : decode cX3_deedByLot 70 = .ok (.invokestatic 143, 3) := by decide +kernel
theorem dX3_deedByLot_73 : decode cX3_deedByLot 73 = .ok (.goto 9, 3) := by decide +kernel
theorem dX3_deedByLot_76 : decode cX3_deedByLot 76 = .ok (.iconst 0, 1) := by decide +kernel
theorem dX3_deedByLot_77 : decode cX3_deedByLot 77 = .ok (.iconst 0, 1) := by decide +kernel
theorem dX3_deedByLot_78 : decode cX3_deedByLot 78 = .ok (.iconst 0, 1) := by decide +kernel
theorem dX3_deedByLot_79 : decode cX3_deedByLot 79 = .ok (.invokestatic 143, 3) := by decide +kernel
theorem dX3_deedByLot_82 : decode cX3_deedByLot 82 = .ok (.ireturn, 1) := by decide +kernel
theorem dX3_deedByLot_83 : decode cX3_deedByLot 83 = .ok (.iload_n 3, 1) := by decide +kernel
theorem dX3_deedByLot_84 : decode cX3_deedByLot 84 = .ok (.iconst 2, 1) := by decide +kernel
theorem dX3_deedByLot_85 : decode cX3_deedByLot 85 = .ok (.if_icmp .ne 10, 3) := by decide +kernel
theorem dX3_deedByLot_88 : decode cX3_deedByLot 88 = .ok (.iconst 3, 1) := by decide +kernel
theorem dX3_deedByLot_89 : decode cX3_deedByLot 89 = .ok (.iload_n 2, 1) := by decide +kernel
theorem dX3_deedByLot_90 : decode cX3_deedByLot 90 = .ok (.iconst 0, 1) := by decide +kernel
theorem dX3_deedByLot_91 : decode cX3_deedByLot 91 = .ok (.invokestatic 143, 3) := by decide +kernel
theorem dX3_deedByLot_94 : decode cX3_deedByLot 94 = .ok (.ireturn, 1) := by decide +kernel
theorem dX3_deedByLot_95 : decode cX3_deedByLot 95 = .ok (.aload_n 0, 1) := by decide +kernel
theorem dX3_deedByLot_96 : decode cX3_deedByLot 96 = .ok (.getfield 33, 3) := by decide +kernel
theorem dX3_deedByLot_99 : decode cX3_deedByLot 99 = .ok (.getfield 133, 3) := by decide +kernel
theorem dX3_deedByLot_102 : decode cX3_deedByLot 102 = .ok (.sipush 199, 3) := by decide +kernel
theorem dX3_deedByLot_105 : decode cX3_deedByLot 105 = .ok (.if_icmp .ge 12, 3) := by decide +kernel
theorem dX3_deedByLot_108 : decode cX3_deedByLot 108 = .ok (.iconst 1, 1) := by decide +kernel
theorem dX3_deedByLot_109 : decode cX3_deedByLot 109 = .ok (.iconst 0, 1) := by decide +kernel
theorem dX3_deedByLot_110 : decode cX3_deedByLot 110 = .ok (.iconst 0, 1) := by decide +kernel
theorem dX3_deedByLot_111 : decode cX3_deedByLot 111 = .ok (.invokestatic 143, 3) := by decide +kernel
theorem dX3_deedByLot_114 : decode cX3_deedByLot 114 = .ok (.goto 9, 3) := by decide +kernel
theorem dX3_deedByLot_117 : decode cX3_deedByLot 117 = .ok (.iconst 0, 1) := by decide +kernel
theorem dX3_deedByLot_118 : decode cX3_deedByLot 118 = .ok (.iconst 0, 1) := by decide +kernel
theorem dX3_deedByLot_119 : decode cX3_deedByLot 119 = .ok (.iconst 0, 1) := by decide +kernel
theorem dX3_deedByLot_120 : decode cX3_deedByLot 120 = .ok (.invokestatic 143, 3) := by decide +kernel
theorem dX3_deedByLot_123 : decode cX3_deedByLot 123 = .ok (.ireturn, 1) := by decide +kernel
/-! X3_deedByLot (I)I -/
abbrev rmX3_deedByLot : Room := { frames := 1, cells := 0, slots := 0, locals := 22 }
theorem lkX3_deedByLot_0 : Cond.fieldLink RX3 33 (TX3 5).1 (TX3 5).2.1 (TX3 5).2.2.1 ∈ wsX3_deedByLot := by decide +kernel
theorem lkX3_deedByLot_1 : Cond.fieldLink RX3 112 (TX0 1).1 (TX0 1).2.1 (TX0 1).2.2.1 ∈ wsX3_deedByLot := by decide +kernel
theorem lkX3_deedByLot_2 : Cond.fieldLink RX3 133 (TX0 2).1 (TX0 2).2.1 (TX0 2).2.2.1 ∈ wsX3_deedByLot := by decide +kernel
theorem lkX3_deedByLot_3 : Cond.fieldLink RX3 116 (TX0 0).1 (TX0 0).2.1 (TX0 0).2.2.1 ∈ wsX3_deedByLot := by decide +kernel
theorem lkX3_deedByLot_4 : Cond.fieldLink RX3 150 (TX2 3).1 (TX2 3).2.1 (TX2 3).2.2.1 ∈ wsX3_deedByLot := by decide +kernel
theorem inX3_deedByLot_X3 : ∀ w ∈ u_ws RX3 TX3 17, w ∈ wsX3_deedByLot := by decide +kernel
theorem inX3_deedByLot_X0 : ∀ w ∈ u_ws RX0 TX0 6, w ∈ wsX3_deedByLot := by decide +kernel
theorem inX3_deedByLot_X2 : ∀ w ∈ u_ws RX2 TX2 6, w ∈ wsX3_deedByLot := by decide +kernel
noncomputable def fX3_deedByLot_b60 (G : mm_G) (a0 : Nat) (x1 : Int32) (x2 : Int32) (sx0 : Int32) (σ : mm_M) : Option (Int32 × mm_M) := if sx0 = 0 then ((fX3_deedOf G (0 : Int32) (0 : Int32) (0 : Int32) σ).bind (fun q79 => some (q79.1, q79.2))) else ((fX3_deedOf G (2 : Int32) x2 (1 : Int32) σ).bind (fun q70 => some (q70.1, q70.2)))
noncomputable def fX3_deedByLot_b27 (G : mm_G) (a0 : Nat) (x1 : Int32) (sx0 : Int32) (σ : mm_M) : Option (Int32 × mm_M) := if (8 : Int32) = 0 then none else (if (1 : Int32) < (x1 - x1 / (8 : Int32) * (8 : Int32)) then (if (x1 - x1 / (8 : Int32) * (8 : Int32)) = (2 : Int32) then ((fX3_deedOf G (3 : Int32) sx0 (0 : Int32) σ).bind (fun q91 => some (q91.1, q91.2))) else (if (σ.1 (mm_R G a0 5) 2) < (199 : Int32) then ((fX3_deedOf G (1 : Int32) (0 : Int32) (0 : Int32) σ).bind (fun q111 => some (q111.1, q111.2))) else ((fX3_deedOf G (0 : Int32) (0 : Int32) (0 : Int32) σ).bind (fun q120 => some (q120.1, q120.2))))) else (if sx0 < 0 ∨ mm_N G (mm_R G (mm_R G a0 5) 0) ≤ sx0.toNatClampNeg then none else (fX3_deedByLot_b60 G a0 x1 sx0 (if (σ.1 (mm_R G (mm_R G (mm_R G a0 5) 0) sx0.toNatClampNeg) 3) < (30 : Int32) then (1 : Int32) else (0 : Int32)) σ)))
noncomputable def fX3_deedByLot (G : mm_G) (a0 : Nat) (x1 : Int32) (σ : mm_M) : Option (Int32 × mm_M) := if (σ.1 (mm_R G a0 5) 1) < (1 : Int32) then (fX3_deedByLot_b27 G a0 x1 (0 : Int32) σ) else (if (8 : Int32) = 0 then none else (if (σ.1 (mm_R G a0 5) 1) = 0 then none else (fX3_deedByLot_b27 G a0 x1 ((x1 / (8 : Int32)) - (x1 / (8 : Int32)) / (σ.1 (mm_R G a0 5) 1) * (σ.1 (mm_R G a0 5) 1)) σ)))
set_option maxHeartbeats 4000000 in
set_option maxRecDepth 100000 in
theorem wX3_deedByLot_b60 {E : mm_E} {G : mm_G} (X : mm_Cx E G cX3_deedByLot 5 RX3 wsX3_deedByLot rmX3_deedByLot (some .int)) {a0 : Nat} {x1 : Int32} {x2 : Int32} {sx0 : Int32} {σ : mm_M} {q : (Int32 × mm_M)} (ha0 : mm_Is G 3 a0) (h : fX3_deedByLot_b60 G a0 x1 x2 sx0 σ = some q) : mm_At E G 5 (mm_Qi E G q) σ 60 [(2, .int x2)] [.int sx0] := by
  unfold fX3_deedByLot_b60 at h
  refine at_istore (pc := 60) X 4 [(4, .int sx0), (2, .int x2)] dX3_deedByLot_60 (by decide) rfl ?_
  refine at_iload (pc := 62) X 4 0 dX3_deedByLot_62 rfl ?_
  refine at_if_eq (pc := 64) X 76 dX3_deedByLot_64 (by decide) (fun c64 => ?_) (fun c64 => ?_)
  · have h := mm_pos c64 h
    refine at_iconst (pc := 76) X (0 : Int32) dX3_deedByLot_76 ic_0 ?_
    refine at_iconst (pc := 77) X (0 : Int32) dX3_deedByLot_77 ic_0 ?_
    refine at_iconst (pc := 78) X (0 : Int32) dX3_deedByLot_78 ic_0 ?_
    obtain ⟨q79, hq79, h⟩ := mm_bind h
    refine at_scalli (n := 3) (pc := 79) X [.int (0 : Int32), .int (0 : Int32), .int (0 : Int32)] [] (mX3_deedOf (eL E) X.wf hq79) gX3_deedByLot_X3_deedOf rfl ⟨rfl, rfl⟩ (by decide +kernel) ⟨by decide, by decide⟩ rfl rfl (Nat.le_of_ble_eq_true rfl) dX3_deedByLot_79 ?_
    exact at_iret (pc := 82) X (Option.some.inj h) dX3_deedByLot_82
  · have h := mm_neg c64 h
    refine at_iconst (pc := 67) X (2 : Int32) dX3_deedByLot_67 ic_2 ?_
    refine at_iload_n (pc := 68) X 2 1 dX3_deedByLot_68 rfl rfl ?_
    refine at_iconst (pc := 69) X (1 : Int32) dX3_deedByLot_69 ic_1 ?_
    obtain ⟨q70, hq70, h⟩ := mm_bind h
    refine at_scalli (n := 3) (pc := 70) X [.int (2 : Int32), .int x2, .int (1 : Int32)] [] (mX3_deedOf (eL E) X.wf hq70) gX3_deedByLot_X3_deedOf rfl ⟨rfl, rfl⟩ (by decide +kernel) ⟨by decide, by decide⟩ rfl rfl (Nat.le_of_ble_eq_true rfl) dX3_deedByLot_70 ?_
    refine at_goto (pc := 73) X 82 dX3_deedByLot_73 (by decide) ?_
    exact at_iret (pc := 82) X (Option.some.inj h) dX3_deedByLot_82
set_option maxHeartbeats 4000000 in
set_option maxRecDepth 100000 in
theorem wX3_deedByLot_b27 {E : mm_E} {G : mm_G} (X : mm_Cx E G cX3_deedByLot 5 RX3 wsX3_deedByLot rmX3_deedByLot (some .int)) {a0 : Nat} {x1 : Int32} {sx0 : Int32} {σ : mm_M} {q : (Int32 × mm_M)} (ha0 : mm_Is G 3 a0) (h : fX3_deedByLot_b27 G a0 x1 sx0 σ = some q) : mm_At E G 5 (mm_Qi E G q) σ 27 [(0, .ref a0), (1, .int x1)] [.int sx0] := by
  unfold fX3_deedByLot_b27 at h
  refine at_istore_n (pc := 27) X 2 [(2, .int sx0), (0, .ref a0), (1, .int x1)] dX3_deedByLot_27 rfl (by decide) rfl ?_
  refine at_iload_n (pc := 28) X 1 2 dX3_deedByLot_28 rfl rfl ?_
  refine at_bipush (pc := 29) X (8 : Int32) dX3_deedByLot_29 ib_8 ?_
  obtain ⟨hc31, h⟩ := mm_chk h
  refine at_irem (pc := 31) X hc31 dX3_deedByLot_31 ?_
  refine at_istore_n (pc := 32) X 3 [(3, .int (x1 - x1 / (8 : Int32) * (8 : Int32))), (2, .int sx0), (0, .ref a0), (1, .int x1)] dX3_deedByLot_32 rfl (by decide) rfl ?_
  refine at_iload_n (pc := 33) X 3 0 dX3_deedByLot_33 rfl rfl ?_
  refine at_iconst (pc := 34) X (1 : Int32) dX3_deedByLot_34 ic_1 ?_
  refine at_icmp_gt (pc := 35) X 83 dX3_deedByLot_35 (by decide) (fun c35 => ?_) (fun c35 => ?_)
  · have h := mm_pos c35 h
    refine at_iload_n (pc := 83) X 3 0 dX3_deedByLot_83 rfl rfl ?_
    refine at_iconst (pc := 84) X (2 : Int32) dX3_deedByLot_84 ic_2 ?_
    refine at_icmp_ne (pc := 85) X 95 dX3_deedByLot_85 (by decide) (fun c85 => ?_) (fun c85 => ?_)
    · have h := mm_neg c85 h
      refine at_aload_n (pc := 95) X 0 2 dX3_deedByLot_95 rfl rfl ?_
      refine at_get (pc := 96) X 3 5 (.ref (mm_R G a0 5)) ha0 (by decide) rfl inX3_deedByLot_X3 (by decide) lkX3_deedByLot_0 rfl dX3_deedByLot_96 ?_
      refine at_get (pc := 99) X 0 2 (.int (σ.1 (mm_R G a0 5) 2)) (wf_3_5 X.wf ha0) (by decide) rfl inX3_deedByLot_X0 (by decide) lkX3_deedByLot_2 rfl dX3_deedByLot_99 ?_
      refine at_sipush (pc := 102) X (199 : Int32) dX3_deedByLot_102 is_199 ?_
      refine at_icmp_ge (pc := 105) X 117 dX3_deedByLot_105 (by decide) (fun c105 => ?_) (fun c105 => ?_)
      · have h := mm_neg c105 h
        refine at_iconst (pc := 117) X (0 : Int32) dX3_deedByLot_117 ic_0 ?_
        refine at_iconst (pc := 118) X (0 : Int32) dX3_deedByLot_118 ic_0 ?_
        refine at_iconst (pc := 119) X (0 : Int32) dX3_deedByLot_119 ic_0 ?_
        obtain ⟨q120, hq120, h⟩ := mm_bind h
        refine at_scalli (n := 3) (pc := 120) X [.int (0 : Int32), .int (0 : Int32), .int (0 : Int32)] [] (mX3_deedOf (eL E) X.wf hq120) gX3_deedByLot_X3_deedOf rfl ⟨rfl, rfl⟩ (by decide +kernel) ⟨by decide, by decide⟩ rfl rfl (Nat.le_of_ble_eq_true rfl) dX3_deedByLot_120 ?_
        exact at_iret (pc := 123) X (Option.some.inj h) dX3_deedByLot_123
      · have h := mm_pos c105 h
        refine at_iconst (pc := 108) X (1 : Int32) dX3_deedByLot_108 ic_1 ?_
        refine at_iconst (pc := 109) X (0 : Int32) dX3_deedByLot_109 ic_0 ?_
        refine at_iconst (pc := 110) X (0 : Int32) dX3_deedByLot_110 ic_0 ?_
        obtain ⟨q111, hq111, h⟩ := mm_bind h
        refine at_scalli (n := 3) (pc := 111) X [.int (1 : Int32), .int (0 : Int32), .int (0 : Int32)] [] (mX3_deedOf (eL E) X.wf hq111) gX3_deedByLot_X3_deedOf rfl ⟨rfl, rfl⟩ (by decide +kernel) ⟨by decide, by decide⟩ rfl rfl (Nat.le_of_ble_eq_true rfl) dX3_deedByLot_111 ?_
        refine at_goto (pc := 114) X 123 dX3_deedByLot_114 (by decide) ?_
        exact at_iret (pc := 123) X (Option.some.inj h) dX3_deedByLot_123
    · have h := mm_pos c85 h
      refine at_iconst (pc := 88) X (3 : Int32) dX3_deedByLot_88 ic_3 ?_
      refine at_iload_n (pc := 89) X 2 1 dX3_deedByLot_89 rfl rfl ?_
      refine at_iconst (pc := 90) X (0 : Int32) dX3_deedByLot_90 ic_0 ?_
      obtain ⟨q91, hq91, h⟩ := mm_bind h
      refine at_scalli (n := 3) (pc := 91) X [.int (3 : Int32), .int sx0, .int (0 : Int32)] [] (mX3_deedOf (eL E) X.wf hq91) gX3_deedByLot_X3_deedOf rfl ⟨rfl, rfl⟩ (by decide +kernel) ⟨by decide, by decide⟩ rfl rfl (Nat.le_of_ble_eq_true rfl) dX3_deedByLot_91 ?_
      exact at_iret (pc := 94) X (Option.some.inj h) dX3_deedByLot_94
  · have h := mm_neg c35 h
    refine at_aload_n (pc := 38) X 0 2 dX3_deedByLot_38 rfl rfl ?_
    refine at_get (pc := 39) X 3 5 (.ref (mm_R G a0 5)) ha0 (by decide) rfl inX3_deedByLot_X3 (by decide) lkX3_deedByLot_0 rfl dX3_deedByLot_39 ?_
    refine at_get (pc := 42) X 0 0 (.ref (mm_R G (mm_R G a0 5) 0)) (wf_3_5 X.wf ha0) (by decide) rfl inX3_deedByLot_X0 (by decide) lkX3_deedByLot_3 rfl dX3_deedByLot_42 ?_
    refine at_iload_n (pc := 45) X 2 1 dX3_deedByLot_45 rfl rfl ?_
    obtain ⟨hc46, h⟩ := mm_chk h
    refine at_aald (pc := 46) X 8 3 (wf_0_0 X.wf (wf_3_5 X.wf ha0)) (by decide) (by decide) rfl rfl hc46 dX3_deedByLot_46 ?_
    refine at_get (pc := 47) X 2 3 (.int (σ.1 (mm_R G (mm_R G (mm_R G a0 5) 0) sx0.toNatClampNeg) 3)) (wf_8 X.wf (wf_0_0 X.wf (wf_3_5 X.wf ha0)) hc46) (by decide) rfl inX3_deedByLot_X2 (by decide) lkX3_deedByLot_4 rfl dX3_deedByLot_47 ?_
    refine at_bipush (pc := 50) X (30 : Int32) dX3_deedByLot_50 ib_30 ?_
    have hj52 : mm_At E G 5 (mm_Qi E G q) σ 60 [(2, .int sx0)] [.int (if (σ.1 (mm_R G (mm_R G (mm_R G a0 5) 0) sx0.toNatClampNeg) 3) < (30 : Int32) then (1 : Int32) else (0 : Int32))] := by
      exact at_sub [0] rfl (wX3_deedByLot_b60 X ha0 h)
    refine at_icmp_ge (pc := 52) X 59 dX3_deedByLot_52 (by decide) (fun c52 => ?_) (fun c52 => ?_)
    · try simp only [if_neg c52] at hj52
      refine at_iconst (pc := 59) X (0 : Int32) dX3_deedByLot_59 ic_0 ?_
      exact at_sub [1] rfl hj52
    · try simp only [if_pos c52] at hj52
      refine at_iconst (pc := 55) X (1 : Int32) dX3_deedByLot_55 ic_1 ?_
      refine at_goto (pc := 56) X 60 dX3_deedByLot_56 (by decide) ?_
      exact at_sub [1] rfl hj52
set_option maxHeartbeats 4000000 in
set_option maxRecDepth 100000 in
theorem wX3_deedByLot_b0 {E : mm_E} {G : mm_G} (X : mm_Cx E G cX3_deedByLot 5 RX3 wsX3_deedByLot rmX3_deedByLot (some .int)) {a0 : Nat} {x1 : Int32} {σ : mm_M} {q : (Int32 × mm_M)} (ha0 : mm_Is G 3 a0) (h : fX3_deedByLot G a0 x1 σ = some q) : mm_At E G 5 (mm_Qi E G q) σ 0 [(0, .ref a0), (1, .int x1)] [] := by
  unfold fX3_deedByLot at h
  refine at_aload_n (pc := 0) X 0 0 dX3_deedByLot_0 rfl rfl ?_
  refine at_get (pc := 1) X 3 5 (.ref (mm_R G a0 5)) ha0 (by decide) rfl inX3_deedByLot_X3 (by decide) lkX3_deedByLot_0 rfl dX3_deedByLot_1 ?_
  refine at_get (pc := 4) X 0 1 (.int (σ.1 (mm_R G a0 5) 1)) (wf_3_5 X.wf ha0) (by decide) rfl inX3_deedByLot_X0 (by decide) lkX3_deedByLot_1 rfl dX3_deedByLot_4 ?_
  refine at_iconst (pc := 7) X (1 : Int32) dX3_deedByLot_7 ic_1 ?_
  refine at_icmp_ge (pc := 8) X 15 dX3_deedByLot_8 (by decide) (fun c8 => ?_) (fun c8 => ?_)
  · have h := mm_neg c8 h
    refine at_iload_n (pc := 15) X 1 1 dX3_deedByLot_15 rfl rfl ?_
    refine at_bipush (pc := 16) X (8 : Int32) dX3_deedByLot_16 ib_8 ?_
    obtain ⟨hc18, h⟩ := mm_chk h
    refine at_idiv (pc := 18) X hc18 dX3_deedByLot_18 ?_
    refine at_aload_n (pc := 19) X 0 0 dX3_deedByLot_19 rfl rfl ?_
    refine at_get (pc := 20) X 3 5 (.ref (mm_R G a0 5)) ha0 (by decide) rfl inX3_deedByLot_X3 (by decide) lkX3_deedByLot_0 rfl dX3_deedByLot_20 ?_
    refine at_get (pc := 23) X 0 1 (.int (σ.1 (mm_R G a0 5) 1)) (wf_3_5 X.wf ha0) (by decide) rfl inX3_deedByLot_X0 (by decide) lkX3_deedByLot_1 rfl dX3_deedByLot_23 ?_
    obtain ⟨hc26, h⟩ := mm_chk h
    refine at_irem (pc := 26) X hc26 dX3_deedByLot_26 ?_
    exact at_sub [0, 1] rfl (wX3_deedByLot_b27 X ha0 h)
  · have h := mm_pos c8 h
    refine at_iconst (pc := 11) X (0 : Int32) dX3_deedByLot_11 ic_0 ?_
    refine at_goto (pc := 12) X 27 dX3_deedByLot_12 (by decide) ?_
    exact at_sub [0, 1] rfl (wX3_deedByLot_b27 X ha0 h)
set_option maxHeartbeats 4000000 in
set_option maxRecDepth 100000 in
theorem mX3_deedByLot (l : Launch) {G : mm_G} (hwf : mm_WF G) {a0 : Nat} {x1 : Int32} {σ : mm_M} {q : (Int32 × mm_M)} (ha0 : mm_Is G 3 a0) (h : fX3_deedByLot G a0 x1 σ = some q) : mm_Mi l yX3_deedByLot wsX3_deedByLot rmX3_deedByLot G [.ref a0, .int x1] σ q := by
  refine mm_ofi (cc := cX3_deedByLot) (nL := 5) (ret := some .int) (own := RX3) (lv0 := [(0, .ref a0), (1, .int x1)]) (by decide) rfl rfl (Nat.le_of_ble_eq_true rfl) rfl hwf (fun E hE X => ?_)
  exact wX3_deedByLot_b0 X ha0 h
set_option maxRecDepth 20000 in
theorem ggX3_lots_X1_hasRoomFor : GoodIn wsX3_lots wsX1_hasRoomFor := goodIn_r _ [11, 12, 136, 137] (by decide +kernel) (by decide +kernel)
set_option maxRecDepth 20000 in
theorem gX3_lots_X1_hasRoomFor : GoodIn wsX3_lots (wsV RX3 140 RX1 yX1_hasRoomFor wsX1_hasRoomFor) := goodIn_app (goodIn_of _ (by decide +kernel)) ggX3_lots_X1_hasRoomFor
set_option maxRecDepth 20000 in
theorem ggX3_lots_X3_deedByLot : GoodIn wsX3_lots wsX3_deedByLot := goodIn_r _ [17, 2, 3, 18, 19, 20, 21, 22, 16, 23, 113, 114, 115, 116, 117, 118, 119, 120, 121, 122, 123, 124, 125, 126, 127, 128, 129, 130, 131, 132, 133, 134, 135, 138, 139, 140, 141, 142, 143] (by decide +kernel) (by decide +kernel)
set_option maxRecDepth 20000 in
theorem gX3_lots_X3_deedByLot : GoodIn wsX3_lots (wsV RX3 220 RX3 yX3_deedByLot wsX3_deedByLot) := goodIn_app (goodIn_of _ (by decide +kernel)) ggX3_lots_X3_deedByLot
set_option maxRecDepth 20000 in
theorem ggX3_lots_X3_carryOut : GoodIn wsX3_lots wsX3_carryOut := goodIn_r _ [27, 4, 2, 28, 29, 30, 10, 31, 12, 32, 33, 34, 35, 36, 37, 38, 39, 40, 41, 42, 43, 44, 45, 46, 47, 48, 49, 50, 51, 52, 53, 54, 55, 56, 57, 58, 59, 60, 61, 62, 63, 64, 65, 66, 67, 68, 69, 70, 71, 72, 73, 74, 75, 76, 77, 78, 79, 80, 81, 82, 83, 84, 85, 86, 87, 88, 89, 90, 91, 92, 93, 94, 95, 96, 97, 98, 99, 100, 101, 102, 103, 104, 105, 106, 107, 108, 109, 110, 111, 112, 113, 114, 115, 116, 117, 118, 119, 120, 121, 122, 123, 124, 125, 126, 127, 128, 129, 136, 137, 130, 131, 132, 133, 134, 135, 138, 139, 140, 141, 142, 143] (by decide +kernel) (by decide +kernel)
set_option maxRecDepth 20000 in
theorem gX3_lots_X3_carryOut : GoodIn wsX3_lots (wsV RX3 147 RX3 yX3_carryOut wsX3_carryOut) := goodIn_app (goodIn_of _ (by decide +kernel)) ggX3_lots_X3_carryOut
theorem dX3_lots_0 : decode cX3_lots 0 = .ok (.iload_n 1, 1) := by decide +kernel
theorem dX3_lots_1 : decode cX3_lots 1 = .ok (.iconst 1, 1) := by decide +kernel
theorem dX3_lots_2 : decode cX3_lots 2 = .ok (.if_icmp .lt 23, 3) := by decide +kernel
theorem dX3_lots_5 : decode cX3_lots 5 = .ok (.iload_n 1, 1) := by decide +kernel
theorem dX3_lots_6 : decode cX3_lots 6 = .ok (.bipush 20, 2) := by decide +kernel
theorem dX3_lots_8 : decode cX3_lots 8 = .ok (.if_icmp .gt 17, 3) := by decide +kernel
theorem dX3_lots_11 : decode cX3_lots 11 = .ok (.iload_n 2, 1) := by decide +kernel
theorem dX3_lots_12 : decode cX3_lots 12 = .ok (.iconst 1, 1) := by decide +kernel
theorem dX3_lots_13 : decode cX3_lots 13 = .ok (.if_icmp .lt 12, 3) := by decide +kernel
theorem dX3_lots_16 : decode cX3_lots 16 = .ok (.iload_n 2, 1) := by decide +kernel
theorem dX3_lots_17 : decode cX3_lots 17 = .ok (.i2l, 1) := by decide +kernel
theorem dX3_lots_18 : decode cX3_lots 18 = .ok (.ldc2_w 216, 3) := by decide +kernel
theorem dX3_lots_21 : decode cX3_lots 21 = .ok (.lcmp, 1) := by decide +kernel
theorem dX3_lots_22 : decode cX3_lots 22 = .ok (.ifCond .lt 5, 3) := by decide +kernel
theorem dX3_lots_25 : decode cX3_lots 25 = .ok (.iconst (-1), 1) := by decide +kernel
theorem dX3_lots_26 : decode cX3_lots 26 = .ok (.ireturn, 1) := by decide +kernel
theorem dX3_lots_27 : decode cX3_lots 27 = .ok (.aload_n 0, 1) := by decide +kernel
theorem dX3_lots_28 : decode cX3_lots 28 = .ok (.getfield 33, 3) := by decide +kernel
theorem dX3_lots_31 : decode cX3_lots 31 = .ok (.getfield 112, 3) := by decide +kernel
theorem dX3_lots_34 : decode cX3_lots 34 = .ok (.ifCond .ne 6, 3) := by decide +kernel
theorem dX3_lots_37 : decode cX3_lots 37 = .ok (.bipush (-4), 2) := by decide +kernel
theorem dX3_lots_39 : decode cX3_lots 39 = .ok (.ireturn, 1) := by decide +kernel
theorem dX3_lots_40 : decode cX3_lots 40 = .ok (.aload_n 0, 1) := by decide +kernel
theorem dX3_lots_41 : decode cX3_lots 41 = .ok (.getfield 39, 3) := by decide +kernel
theorem dX3_lots_44 : decode cX3_lots 44 = .ok (.iload_n 1, 1) := by decide +kernel
theorem dX3_lots_45 : decode cX3_lots 45 = .ok (.invokevirtual 140, 3) := by decide +kernel
theorem dX3_lots_48 : decode cX3_lots 48 = .ok (.ifCond .ne 6, 3) := by decide +kernel
theorem dX3_lots_51 : decode cX3_lots 51 = .ok (.bipush (-2), 2) := by decide +kernel
theorem dX3_lots_53 : decode cX3_lots 53 = .ok (.ireturn, 1) := by decide +kernel
theorem dX3_lots_54 : decode cX3_lots 54 = .ok (.iload_n 2, 1) := by decide +kernel
theorem dX3_lots_55 : decode cX3_lots 55 = .ok (.i2l, 1) := by decide +kernel
theorem dX3_lots_56 : decode cX3_lots 56 = .ok (.lstore_n 3, 1) := by decide +kernel
theorem dX3_lots_57 : decode cX3_lots 57 = .ok (.iconst 0, 1) := by decide +kernel
theorem dX3_lots_58 : decode cX3_lots 58 = .ok (.istore 5, 2) := by decide +kernel
theorem dX3_lots_60 : decode cX3_lots 60 = .ok (.iload 5, 2) := by decide +kernel
theorem dX3_lots_62 : decode cX3_lots 62 = .ok (.iload_n 1, 1) := by decide +kernel
theorem dX3_lots_63 : decode cX3_lots 63 = .ok (.if_icmp .ge 30, 3) := by decide +kernel
theorem dX3_lots_66 : decode cX3_lots 66 = .ok (.lload_n 3, 1) := by decide +kernel
theorem dX3_lots_67 : decode cX3_lots 67 = .ok (.ldc2_w 218, 3) := by decide +kernel
theorem dX3_lots_70 : decode cX3_lots 70 = .ok (.lmul, 1) := by decide +kernel
theorem dX3_lots_71 : decode cX3_lots 71 = .ok (.ldc2_w 216, 3) := by decide +kernel
theorem dX3_lots_74 : decode cX3_lots 74 = .ok (.lrem, 1) := by decide +kernel
theorem dX3_lots_75 : decode cX3_lots 75 = .ok (.lstore_n 3, 1) := by decide +kernel
theorem dX3_lots_76 : decode cX3_lots 76 = .ok (.aload_n 0, 1) := by decide +kernel
theorem dX3_lots_77 : decode cX3_lots 77 = .ok (.aload_n 0, 1) := by decide +kernel
theorem dX3_lots_78 : decode cX3_lots 78 = .ok (.lload_n 3, 1) := by decide +kernel
theorem dX3_lots_79 : decode cX3_lots 79 = .ok (.l2i, 1) := by decide +kernel
theorem dX3_lots_80 : decode cX3_lots 80 = .ok (.invokevirtual 220, 3) := by decide +kernel
theorem dX3_lots_83 : decode cX3_lots 83 = .ok (.invokevirtual 147, 3) := by decide +kernel
theorem dX3_lots_86 : decode cX3_lots 86 = .ok (.pop, 1) := by decide +kernel
theorem dX3_lots_87 : decode cX3_lots 87 = .ok (.iinc 5 1, 3) := by decide +kernel
theorem dX3_lots_90 : decode cX3_lots 90 = .ok (.goto (-30), 3) := by decide +kernel
theorem dX3_lots_93 : decode cX3_lots 93 = .ok (.aload_n 0, 1) := by decide +kernel
theorem dX3_lots_94 : decode cX3_lots 94 = .ok (.getfield 33, 3) := by decide +kernel
theorem dX3_lots_97 : decode cX3_lots 97 = .ok (.getfield 223, 3) := by decide +kernel
theorem dX3_lots_100 : decode cX3_lots 100 = .ok (.ireturn, 1) := by decide +kernel
/-! X3_lots (II)I -/
abbrev rmX3_lots : Room := { frames := 7, cells := 0, slots := 0, locals := 153 }
theorem lkX3_lots_0 : Cond.constantLong RX3 216 (2147483647) ∈ wsX3_lots := by decide +kernel
theorem lkX3_lots_1 : Cond.fieldLink RX3 33 (TX3 5).1 (TX3 5).2.1 (TX3 5).2.2.1 ∈ wsX3_lots := by decide +kernel
theorem lkX3_lots_2 : Cond.fieldLink RX3 112 (TX0 1).1 (TX0 1).2.1 (TX0 1).2.2.1 ∈ wsX3_lots := by decide +kernel
theorem lkX3_lots_3 : Cond.fieldLink RX3 39 (TX3 6).1 (TX3 6).2.1 (TX3 6).2.2.1 ∈ wsX3_lots := by decide +kernel
theorem lkX3_lots_4 : Cond.fieldLink RX3 223 (TX0 3).1 (TX0 3).2.1 (TX0 3).2.2.1 ∈ wsX3_lots := by decide +kernel
theorem lkX3_lots_5 : Cond.constantLong RX3 218 (48271) ∈ wsX3_lots := by decide +kernel
theorem inX3_lots_X3 : ∀ w ∈ u_ws RX3 TX3 17, w ∈ wsX3_lots := by decide +kernel
theorem inX3_lots_X0 : ∀ w ∈ u_ws RX0 TX0 6, w ∈ wsX3_lots := by decide +kernel
noncomputable def fX3_lots_b60 (G : mm_G) (a0 : Nat) (x1 : Int32) (x2 : Int32) (y3 : Int64) (x5 : Int32) (σ : mm_M) : Option ((Int32 × mm_M) ⊕ (Int64 × Int32 × mm_M)) := if x5 < x1 then (if (2147483647 : Int64) = 0 then none else ((fX3_deedByLot G a0 (((y3 * (48271 : Int64)) - (y3 * (48271 : Int64)) / (2147483647 : Int64) * (2147483647 : Int64)).toInt32) σ).bind (fun q80 => (fX3_carryOut G a0 q80.1 q80.2).bind (fun q83 => some (.inr ((y3 * (48271 : Int64)) - (y3 * (48271 : Int64)) / (2147483647 : Int64) * (2147483647 : Int64), x5 + 1, q83.2)))))) else (some (.inl (σ.1 (mm_R G a0 5) 3, σ)))
noncomputable def fX3_lots_b0 (G : mm_G) (a0 : Nat) (x1 : Int32) (x2 : Int32) (σ : mm_M) : Option ((Int32 × mm_M) ⊕ (Int64 × Int32 × mm_M)) := if x1 < (1 : Int32) then (some (.inl ((-1 : Int32), σ))) else (if (20 : Int32) < x1 then (some (.inl ((-1 : Int32), σ))) else (if x2 < (1 : Int32) then (some (.inl ((-1 : Int32), σ))) else (if (lg_cmp x2.toInt64 (2147483647 : Int64)) < 0 then (if (σ.1 (mm_R G a0 5) 1) = 0 then (some (.inl ((-4 : Int32), σ))) else ((fX1_hasRoomFor G (mm_R G a0 6) x1 σ).bind (fun q45 => if q45.1 = 0 then (some (.inl ((-2 : Int32), q45.2))) else (some (.inr (x2.toInt64, (0 : Int32), q45.2)))))) else (some (.inl ((-1 : Int32), σ))))))
noncomputable def fX3_lots_s (G : mm_G) (a0 : Nat) (x1 : Int32) (x2 : Int32) : (Int64 × Int32 × mm_M) → Option ((Int32 × mm_M) ⊕ (Int64 × Int32 × mm_M)) := (fun s => fX3_lots_b60 G a0 x1 x2 s.1 s.2.1 s.2.2)
def PX3_lots (E : mm_E) (G : mm_G) (a0 : Nat) (x1 : Int32) (x2 : Int32) (q : (Int32 × mm_M)) : (Int64 × Int32 × mm_M) → Prop := (fun s => mm_At E G 6 (mm_Qi E G q) s.2.2 60 [(0, .ref a0), (1, .int x1), (3, .long s.1), (5, .int s.2.1)] [])
noncomputable def fX3_lots (G : mm_G) (a0 : Nat) (x1 : Int32) (x2 : Int32) (σ : mm_M) : Option (Int32 × mm_M) := mm_run (fX3_lots_b0 G a0 x1 x2 σ) (fX3_lots_s G a0 x1 x2)
set_option maxHeartbeats 4000000 in
set_option maxRecDepth 100000 in
theorem wX3_lots_b60 {E : mm_E} {G : mm_G} (X : mm_Cx E G cX3_lots 6 RX3 wsX3_lots rmX3_lots (some .int)) {a0 : Nat} {x1 : Int32} {x2 : Int32} {y3 : Int64} {x5 : Int32} {σ : mm_M} {q : (Int32 × mm_M)} (ha0 : mm_Is G 3 a0) {o : (Int32 × mm_M) ⊕ (Int64 × Int32 × mm_M)} (h : fX3_lots_b60 G a0 x1 x2 y3 x5 σ = some o) (hk : mm_Ok q (PX3_lots E G a0 x1 x2 q) o) : mm_At E G 6 (mm_Qi E G q) σ 60 [(0, .ref a0), (1, .int x1), (3, .long y3), (5, .int x5)] [] := by
  unfold fX3_lots_b60 at h
  refine at_iload (pc := 60) X 5 3 dX3_lots_60 rfl ?_
  refine at_iload_n (pc := 62) X 1 1 dX3_lots_62 rfl rfl ?_
  refine at_icmp_ge (pc := 63) X 93 dX3_lots_63 (by decide) (fun c63 => ?_) (fun c63 => ?_)
  · have h := mm_neg c63 h
    refine at_aload_n (pc := 93) X 0 0 dX3_lots_93 rfl rfl ?_
    refine at_get (pc := 94) X 3 5 (.ref (mm_R G a0 5)) ha0 (by decide) rfl inX3_lots_X3 (by decide) lkX3_lots_1 rfl dX3_lots_94 ?_
    refine at_get (pc := 97) X 0 3 (.int (σ.1 (mm_R G a0 5) 3)) (wf_3_5 X.wf ha0) (by decide) rfl inX3_lots_X0 (by decide) lkX3_lots_4 rfl dX3_lots_97 ?_
    exact at_iret (pc := 100) X (mm_inl h hk) dX3_lots_100
  · have h := mm_pos c63 h
    refine at_lload_n (pc := 66) X 3 2 dX3_lots_66 rfl rfl ?_
    refine at_ldc2_w (pc := 67) X (48271 : Int64) lkX3_lots_5 dX3_lots_67 ?_
    refine at_lmul (pc := 70) X dX3_lots_70 ?_
    refine at_ldc2_w (pc := 71) X (2147483647 : Int64) lkX3_lots_0 dX3_lots_71 ?_
    obtain ⟨hc74, h⟩ := mm_chk h
    refine at_lrem (pc := 74) X hc74 dX3_lots_74 ?_
    refine at_lstore_n (pc := 75) X 3 [(3, .long ((y3 * (48271 : Int64)) - (y3 * (48271 : Int64)) / (2147483647 : Int64) * (2147483647 : Int64))), (0, .ref a0), (1, .int x1), (5, .int x5)] dX3_lots_75 rfl (by decide) rfl ?_
    refine at_aload_n (pc := 76) X 0 1 dX3_lots_76 rfl rfl ?_
    refine at_aload_n (pc := 77) X 0 1 dX3_lots_77 rfl rfl ?_
    refine at_lload_n (pc := 78) X 3 0 dX3_lots_78 rfl rfl ?_
    refine at_l2i (pc := 79) X dX3_lots_79 ?_
    obtain ⟨q80, hq80, h⟩ := mm_bind h
    refine at_calli (n := 1) (pc := 80) X 3 [.int (((y3 * (48271 : Int64)) - (y3 * (48271 : Int64)) / (2147483647 : Int64) * (2147483647 : Int64)).toInt32)] [.ref a0] (mX3_deedByLot (eL E) X.wf ha0 hq80) gX3_lots_X3_deedByLot rfl ⟨rfl, rfl⟩ (by decide +kernel) ⟨by decide, by decide⟩ (by decide) rfl ha0 rfl rfl (Nat.le_of_ble_eq_true rfl) dX3_lots_80 ?_
    obtain ⟨q83, hq83, h⟩ := mm_bind h
    refine at_calli (n := 1) (pc := 83) X 3 [.int q80.1] [] (mX3_carryOut (eL E) X.wf ha0 hq83) gX3_lots_X3_carryOut rfl ⟨rfl, rfl⟩ (by decide +kernel) ⟨by decide, by decide⟩ (by decide) rfl ha0 rfl rfl (Nat.le_of_ble_eq_true rfl) dX3_lots_83 ?_
    refine at_pop (pc := 86) X dX3_lots_86 rfl ?_
    refine at_iinc (pc := 87) X 5 3 (x5 + 1) [(5, .int (x5 + 1)), (3, .long ((y3 * (48271 : Int64)) - (y3 * (48271 : Int64)) / (2147483647 : Int64) * (2147483647 : Int64))), (0, .ref a0), (1, .int x1)] dX3_lots_87 rfl (ii_1 _) (by decide) rfl ?_
    refine at_goto (pc := 90) X 60 dX3_lots_90 (by decide) ?_
    have h2 := mm_inr h hk; exact at_sub [2, 3, 1, 0] rfl h2
set_option maxHeartbeats 4000000 in
set_option maxRecDepth 100000 in
theorem wX3_lots_b0 {E : mm_E} {G : mm_G} (X : mm_Cx E G cX3_lots 6 RX3 wsX3_lots rmX3_lots (some .int)) {a0 : Nat} {x1 : Int32} {x2 : Int32} {σ : mm_M} {q : (Int32 × mm_M)} (ha0 : mm_Is G 3 a0) {o : (Int32 × mm_M) ⊕ (Int64 × Int32 × mm_M)} (h : fX3_lots_b0 G a0 x1 x2 σ = some o) (hk : mm_Ok q (PX3_lots E G a0 x1 x2 q) o) : mm_At E G 6 (mm_Qi E G q) σ 0 [(0, .ref a0), (1, .int x1), (2, .int x2)] [] := by
  unfold fX3_lots_b0 at h
  refine at_iload_n (pc := 0) X 1 1 dX3_lots_0 rfl rfl ?_
  refine at_iconst (pc := 1) X (1 : Int32) dX3_lots_1 ic_1 ?_
  refine at_icmp_lt (pc := 2) X 25 dX3_lots_2 (by decide) (fun c2 => ?_) (fun c2 => ?_)
  · have h := mm_pos c2 h
    refine at_iconst (pc := 25) X (-1 : Int32) dX3_lots_25 ic_m1 ?_
    exact at_iret (pc := 26) X (mm_inl h hk) dX3_lots_26
  · have h := mm_neg c2 h
    refine at_iload_n (pc := 5) X 1 1 dX3_lots_5 rfl rfl ?_
    refine at_bipush (pc := 6) X (20 : Int32) dX3_lots_6 ib_20 ?_
    refine at_icmp_gt (pc := 8) X 25 dX3_lots_8 (by decide) (fun c8 => ?_) (fun c8 => ?_)
    · have h := mm_pos c8 h
      refine at_iconst (pc := 25) X (-1 : Int32) dX3_lots_25 ic_m1 ?_
      exact at_iret (pc := 26) X (mm_inl h hk) dX3_lots_26
    · have h := mm_neg c8 h
      refine at_iload_n (pc := 11) X 2 2 dX3_lots_11 rfl rfl ?_
      refine at_iconst (pc := 12) X (1 : Int32) dX3_lots_12 ic_1 ?_
      refine at_icmp_lt (pc := 13) X 25 dX3_lots_13 (by decide) (fun c13 => ?_) (fun c13 => ?_)
      · have h := mm_pos c13 h
        refine at_iconst (pc := 25) X (-1 : Int32) dX3_lots_25 ic_m1 ?_
        exact at_iret (pc := 26) X (mm_inl h hk) dX3_lots_26
      · have h := mm_neg c13 h
        refine at_iload_n (pc := 16) X 2 2 dX3_lots_16 rfl rfl ?_
        refine at_i2l (pc := 17) X dX3_lots_17 ?_
        refine at_ldc2_w (pc := 18) X (2147483647 : Int64) lkX3_lots_0 dX3_lots_18 ?_
        refine at_lcmp (pc := 21) X dX3_lots_21 ?_
        refine at_if_lt (pc := 22) X 27 dX3_lots_22 (by decide) (fun c22 => ?_) (fun c22 => ?_)
        · have h := mm_pos c22 h
          refine at_aload_n (pc := 27) X 0 0 dX3_lots_27 rfl rfl ?_
          refine at_get (pc := 28) X 3 5 (.ref (mm_R G a0 5)) ha0 (by decide) rfl inX3_lots_X3 (by decide) lkX3_lots_1 rfl dX3_lots_28 ?_
          refine at_get (pc := 31) X 0 1 (.int (σ.1 (mm_R G a0 5) 1)) (wf_3_5 X.wf ha0) (by decide) rfl inX3_lots_X0 (by decide) lkX3_lots_2 rfl dX3_lots_31 ?_
          refine at_if_ne (pc := 34) X 40 dX3_lots_34 (by decide) (fun c34 => ?_) (fun c34 => ?_)
          · have h := mm_neg c34 h
            refine at_aload_n (pc := 40) X 0 0 dX3_lots_40 rfl rfl ?_
            refine at_get (pc := 41) X 3 6 (.ref (mm_R G a0 6)) ha0 (by decide) rfl inX3_lots_X3 (by decide) lkX3_lots_3 rfl dX3_lots_41 ?_
            refine at_iload_n (pc := 44) X 1 1 dX3_lots_44 rfl rfl ?_
            obtain ⟨q45, hq45, h⟩ := mm_bind h
            refine at_calli (n := 1) (pc := 45) X 1 [.int x1] [] (mX1_hasRoomFor (eL E) X.wf (wf_3_6 X.wf ha0) hq45) gX3_lots_X1_hasRoomFor rfl ⟨rfl, rfl⟩ (by decide +kernel) ⟨by decide, by decide⟩ (by decide) rfl (wf_3_6 X.wf ha0) rfl rfl (Nat.le_of_ble_eq_true rfl) dX3_lots_45 ?_
            refine at_if_ne (pc := 48) X 54 dX3_lots_48 (by decide) (fun c48 => ?_) (fun c48 => ?_)
            · have h := mm_neg c48 h
              refine at_iload_n (pc := 54) X 2 2 dX3_lots_54 rfl rfl ?_
              refine at_i2l (pc := 55) X dX3_lots_55 ?_
              refine at_lstore_n (pc := 56) X 3 [(3, .long x2.toInt64), (0, .ref a0), (1, .int x1), (2, .int x2)] dX3_lots_56 rfl (by decide) rfl ?_
              refine at_iconst (pc := 57) X (0 : Int32) dX3_lots_57 ic_0 ?_
              refine at_istore (pc := 58) X 5 [(5, .int (0 : Int32)), (3, .long x2.toInt64), (0, .ref a0), (1, .int x1), (2, .int x2)] dX3_lots_58 (by decide) rfl ?_
              have h2 := mm_inr h hk; exact at_sub [2, 3, 1, 0] rfl h2
            · have h := mm_pos c48 h
              refine at_bipush (pc := 51) X (-2 : Int32) dX3_lots_51 ib_m2 ?_
              exact at_iret (pc := 53) X (mm_inl h hk) dX3_lots_53
          · have h := mm_pos c34 h
            refine at_bipush (pc := 37) X (-4 : Int32) dX3_lots_37 ib_m4 ?_
            exact at_iret (pc := 39) X (mm_inl h hk) dX3_lots_39
        · have h := mm_neg c22 h
          refine at_iconst (pc := 25) X (-1 : Int32) dX3_lots_25 ic_m1 ?_
          exact at_iret (pc := 26) X (mm_inl h hk) dX3_lots_26
set_option maxHeartbeats 4000000 in
set_option maxRecDepth 100000 in
theorem mX3_lots (l : Launch) {G : mm_G} (hwf : mm_WF G) {a0 : Nat} {x1 : Int32} {x2 : Int32} {σ : mm_M} {q : (Int32 × mm_M)} (ha0 : mm_Is G 3 a0) (h : fX3_lots G a0 x1 x2 σ = some q) : mm_Mi l yX3_lots wsX3_lots rmX3_lots G [.ref a0, .int x1, .int x2] σ q := by
  refine mm_ofi (cc := cX3_lots) (nL := 6) (ret := some .int) (own := RX3) (lv0 := [(0, .ref a0), (1, .int x1), (2, .int x2)]) (by decide) rfl rfl (Nat.le_of_ble_eq_true rfl) rfl hwf (fun E hE X => ?_)
  obtain ⟨o, h0, hk⟩ := mm_run_ok (P := PX3_lots E G a0 x1 x2 q) h (fun s o hs hk => by exact wX3_lots_b60 X ha0 hs hk)
  exact wX3_lots_b0 X ha0 h0 hk
theorem dX3_asked_0 : decode cX3_asked 0 = .ok (.aload_n 0, 1) := by decide +kernel
theorem dX3_asked_1 : decode cX3_asked 1 = .ok (.getfield 59, 3) := by decide +kernel
theorem dX3_asked_4 : decode cX3_asked 4 = .ok (.ireturn, 1) := by decide +kernel
/-! X3_asked ()I -/
abbrev rmX3_asked : Room := { frames := 0, cells := 0, slots := 0, locals := 0 }
theorem lkX3_asked_0 : Cond.fieldLink RX3 59 (TX3 12).1 (TX3 12).2.1 (TX3 12).2.2.1 ∈ wsX3_asked := by decide +kernel
theorem inX3_asked_X3 : ∀ w ∈ u_ws RX3 TX3 17, w ∈ wsX3_asked := by decide +kernel
noncomputable def fX3_asked (G : mm_G) (a0 : Nat) (σ : mm_M) : Option (Int32 × mm_M) := some (σ.1 a0 12, σ)
set_option maxHeartbeats 4000000 in
set_option maxRecDepth 100000 in
theorem wX3_asked_b0 {E : mm_E} {G : mm_G} (X : mm_Cx E G cX3_asked 1 RX3 wsX3_asked rmX3_asked (some .int)) {a0 : Nat} {σ : mm_M} {q : (Int32 × mm_M)} (ha0 : mm_Is G 3 a0) (h : fX3_asked G a0 σ = some q) : mm_At E G 1 (mm_Qi E G q) σ 0 [(0, .ref a0)] [] := by
  unfold fX3_asked at h
  refine at_aload_n (pc := 0) X 0 0 dX3_asked_0 rfl rfl ?_
  refine at_get (pc := 1) X 3 12 (.int (σ.1 a0 12)) ha0 (by decide) rfl inX3_asked_X3 (by decide) lkX3_asked_0 rfl dX3_asked_1 ?_
  exact at_iret (pc := 4) X (Option.some.inj h) dX3_asked_4
set_option maxHeartbeats 4000000 in
set_option maxRecDepth 100000 in
theorem mX3_asked (l : Launch) {G : mm_G} (hwf : mm_WF G) {a0 : Nat} {σ : mm_M} {q : (Int32 × mm_M)} (ha0 : mm_Is G 3 a0) (h : fX3_asked G a0 σ = some q) : mm_Mi l yX3_asked wsX3_asked rmX3_asked G [.ref a0] σ q := by
  refine mm_ofi (cc := cX3_asked) (nL := 1) (ret := some .int) (own := RX3) (lv0 := [(0, .ref a0)]) (by decide) rfl rfl (Nat.le_of_ble_eq_true rfl) rfl hwf (fun E hE X => ?_)
  exact wX3_asked_b0 X ha0 h
theorem dX3_upper_0 : decode cX3_upper 0 = .ok (.aload_n 0, 1) := by decide +kernel
theorem dX3_upper_1 : decode cX3_upper 1 = .ok (.getfield 63, 3) := by decide +kernel
theorem dX3_upper_4 : decode cX3_upper 4 = .ok (.lreturn, 1) := by decide +kernel
/-! X3_upper ()J -/
abbrev rmX3_upper : Room := { frames := 0, cells := 0, slots := 0, locals := 0 }
theorem lkX3_upper_0 : Cond.fieldLink RX3 63 (TX3 13).1 (TX3 13).2.1 (TX3 13).2.2.1 ∈ wsX3_upper := by decide +kernel
theorem inX3_upper_X3 : ∀ w ∈ u_ws RX3 TX3 17, w ∈ wsX3_upper := by decide +kernel
noncomputable def fX3_upper (G : mm_G) (a0 : Nat) (σ : mm_M) : Option (Int64 × mm_M) := some (σ.2 a0 13, σ)
set_option maxHeartbeats 4000000 in
set_option maxRecDepth 100000 in
theorem wX3_upper_b0 {E : mm_E} {G : mm_G} (X : mm_Cx E G cX3_upper 1 RX3 wsX3_upper rmX3_upper (some .long)) {a0 : Nat} {σ : mm_M} {q : (Int64 × mm_M)} (ha0 : mm_Is G 3 a0) (h : fX3_upper G a0 σ = some q) : mm_At E G 1 (mm_Ql E G q) σ 0 [(0, .ref a0)] [] := by
  unfold fX3_upper at h
  refine at_aload_n (pc := 0) X 0 0 dX3_upper_0 rfl rfl ?_
  refine at_get (pc := 1) X 3 13 (.long (σ.2 a0 13)) ha0 (by decide) rfl inX3_upper_X3 (by decide) lkX3_upper_0 rfl dX3_upper_1 ?_
  exact at_lret (pc := 4) X (Option.some.inj h) dX3_upper_4
set_option maxHeartbeats 4000000 in
set_option maxRecDepth 100000 in
theorem mX3_upper (l : Launch) {G : mm_G} (hwf : mm_WF G) {a0 : Nat} {σ : mm_M} {q : (Int64 × mm_M)} (ha0 : mm_Is G 3 a0) (h : fX3_upper G a0 σ = some q) : mm_Ml l yX3_upper wsX3_upper rmX3_upper G [.ref a0] σ q := by
  refine mm_ofl (cc := cX3_upper) (nL := 1) (ret := some .long) (own := RX3) (lv0 := [(0, .ref a0)]) (by decide) rfl rfl (Nat.le_of_ble_eq_true rfl) rfl hwf (fun E hE X => ?_)
  exact wX3_upper_b0 X ha0 h
theorem dX3_lower_0 : decode cX3_lower 0 = .ok (.aload_n 0, 1) := by decide +kernel
theorem dX3_lower_1 : decode cX3_lower 1 = .ok (.getfield 67, 3) := by decide +kernel
theorem dX3_lower_4 : decode cX3_lower 4 = .ok (.lreturn, 1) := by decide +kernel
/-! X3_lower ()J -/
abbrev rmX3_lower : Room := { frames := 0, cells := 0, slots := 0, locals := 0 }
theorem lkX3_lower_0 : Cond.fieldLink RX3 67 (TX3 14).1 (TX3 14).2.1 (TX3 14).2.2.1 ∈ wsX3_lower := by decide +kernel
theorem inX3_lower_X3 : ∀ w ∈ u_ws RX3 TX3 17, w ∈ wsX3_lower := by decide +kernel
noncomputable def fX3_lower (G : mm_G) (a0 : Nat) (σ : mm_M) : Option (Int64 × mm_M) := some (σ.2 a0 14, σ)
set_option maxHeartbeats 4000000 in
set_option maxRecDepth 100000 in
theorem wX3_lower_b0 {E : mm_E} {G : mm_G} (X : mm_Cx E G cX3_lower 1 RX3 wsX3_lower rmX3_lower (some .long)) {a0 : Nat} {σ : mm_M} {q : (Int64 × mm_M)} (ha0 : mm_Is G 3 a0) (h : fX3_lower G a0 σ = some q) : mm_At E G 1 (mm_Ql E G q) σ 0 [(0, .ref a0)] [] := by
  unfold fX3_lower at h
  refine at_aload_n (pc := 0) X 0 0 dX3_lower_0 rfl rfl ?_
  refine at_get (pc := 1) X 3 14 (.long (σ.2 a0 14)) ha0 (by decide) rfl inX3_lower_X3 (by decide) lkX3_lower_0 rfl dX3_lower_1 ?_
  exact at_lret (pc := 4) X (Option.some.inj h) dX3_lower_4
set_option maxHeartbeats 4000000 in
set_option maxRecDepth 100000 in
theorem mX3_lower (l : Launch) {G : mm_G} (hwf : mm_WF G) {a0 : Nat} {σ : mm_M} {q : (Int64 × mm_M)} (ha0 : mm_Is G 3 a0) (h : fX3_lower G a0 σ = some q) : mm_Ml l yX3_lower wsX3_lower rmX3_lower G [.ref a0] σ q := by
  refine mm_ofl (cc := cX3_lower) (nL := 1) (ret := some .long) (own := RX3) (lv0 := [(0, .ref a0)]) (by decide) rfl rfl (Nat.le_of_ble_eq_true rfl) rfl hwf (fun E hE X => ?_)
  exact wX3_lower_b0 X ha0 h
