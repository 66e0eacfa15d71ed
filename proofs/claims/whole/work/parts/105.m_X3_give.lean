/-! X3_give X3_drop X3_first X3_goOnFromStart X3_undo X3_isKept X3_keep X3_on X3_talks -/
set_option maxRecDepth 20000 in
theorem ggX3_give_X0_has : GoodIn wsX3_give wsX0_has := goodIn_r _ [9, 10, 122, 123, 124, 125, 126, 127] (by decide +kernel) (by decide +kernel)
set_option maxRecDepth 20000 in
theorem gX3_give_X0_has : GoodIn wsX3_give (wsV RX3 113 RX0 yX0_has wsX0_has) := goodIn_app (goodIn_of _ (by decide +kernel)) ggX3_give_X0_has
set_option maxRecDepth 20000 in
theorem ggX3_give_X1_hasRoomFor : GoodIn wsX3_give wsX1_hasRoomFor := goodIn_r _ [15, 16, 134, 135] (by decide +kernel) (by decide +kernel)
set_option maxRecDepth 20000 in
theorem gX3_give_X1_hasRoomFor : GoodIn wsX3_give (wsV RX3 140 RX1 yX1_hasRoomFor wsX1_hasRoomFor) := goodIn_app (goodIn_of _ (by decide +kernel)) ggX3_give_X1_hasRoomFor
set_option maxRecDepth 20000 in
theorem ggX3_give_X3_deedOf : GoodIn wsX3_give wsX3_deedOf := goodIn_r _ [20] (by decide +kernel) (by decide +kernel)
set_option maxRecDepth 20000 in
theorem gX3_give_X3_deedOf : GoodIn wsX3_give (va_wsS RX3 143 yX3_deedOf wsX3_deedOf) := goodIn_app (goodIn_of _ (by decide +kernel)) ggX3_give_X3_deedOf
set_option maxRecDepth 20000 in
theorem ggX3_give_X3_carryOut : GoodIn wsX3_give wsX3_carryOut := goodIn_r _ [24, 4, 1, 25, 26, 27, 14, 28, 16, 29, 30, 31, 32, 8, 33, 34, 35, 36, 37, 6, 7, 9, 10, 38, 39, 40, 41, 42, 43, 44, 45, 46, 47, 48, 49, 50, 51, 52, 53, 54, 55, 56, 57, 58, 59, 60, 61, 62, 63, 64, 65, 66, 67, 68, 69, 70, 71, 72, 73, 74, 75, 76, 77, 78, 79, 80, 81, 82, 83, 84, 85, 86, 87, 88, 89, 90, 91, 92, 93, 94, 95, 96, 97, 98, 99, 100, 101, 102, 103, 104, 105, 106, 107, 108, 109, 110, 111, 112, 113, 114, 115, 116, 117, 118, 119, 120, 121, 134, 135, 122, 123, 124, 125, 126, 127, 128, 129, 130, 131, 132, 133] (by decide +kernel) (by decide +kernel)
set_option maxRecDepth 20000 in
theorem gX3_give_X3_carryOut : GoodIn wsX3_give (wsV RX3 147 RX3 yX3_carryOut wsX3_carryOut) := goodIn_app (goodIn_of _ (by decide +kernel)) ggX3_give_X3_carryOut
theorem dX3_give_0 : decode cX3_give 0 = .ok (.aload_n 0, 1) := by decide +kernel
theorem dX3_give_1 : decode cX3_give 1 = .ok (.getfield 33, 3) := by decide +kernel
theorem dX3_give_4 : decode cX3_give 4 = .ok (.iload_n 1, 1) := by decide +kernel
theorem dX3_give_5 : decode cX3_give 5 = .ok (.invokevirtual 113, 3) := by decide +kernel
theorem dX3_give_8 : decode cX3_give 8 = .ok (.ifCond .eq 14, 3) := by decide +kernel
theorem dX3_give_11 : decode cX3_give 11 = .ok (.iload_n 2, 1) := by decide +kernel
theorem dX3_give_12 : decode cX3_give 12 = .ok (.iconst 1, 1) := by decide +kernel
theorem dX3_give_13 : decode cX3_give 13 = .ok (.if_icmp .lt 9, 3) := by decide +kernel
theorem dX3_give_16 : decode cX3_give 16 = .ok (.iload_n 2, 1) := by decide +kernel
theorem dX3_give_17 : decode cX3_give 17 = .ok (.bipush 9, 2) := by decide +kernel
theorem dX3_give_19 : decode cX3_give 19 = .ok (.if_icmp .le 5, 3) := by decide +kernel
theorem dX3_give_22 : decode cX3_give 22 = .ok (.iconst (-1), 1) := by decide +kernel
theorem dX3_give_23 : decode cX3_give 23 = .ok (.ireturn, 1) := by decide +kernel
theorem dX3_give_24 : decode cX3_give 24 = .ok (.aload_n 0, 1) := by decide +kernel
theorem dX3_give_25 : decode cX3_give 25 = .ok (.getfield 33, 3) := by decide +kernel
theorem dX3_give_28 : decode cX3_give 28 = .ok (.getfield 116, 3) := by decide +kernel
theorem dX3_give_31 : decode cX3_give 31 = .ok (.iload_n 1, 1) := by decide +kernel
theorem dX3_give_32 : decode cX3_give 32 = .ok (.aaload, 1) := by decide +kernel
theorem dX3_give_33 : decode cX3_give 33 = .ok (.getfield 150, 3) := by decide +kernel
theorem dX3_give_36 : decode cX3_give 36 = .ok (.iload_n 2, 1) := by decide +kernel
theorem dX3_give_37 : decode cX3_give 37 = .ok (.iadd, 1) := by decide +kernel
theorem dX3_give_38 : decode cX3_give 38 = .ok (.bipush 30, 2) := by decide +kernel
theorem dX3_give_40 : decode cX3_give 40 = .ok (.if_icmp .le 6, 3) := by decide +kernel
theorem dX3_give_43 : decode cX3_give 43 = .ok (.bipush (-6), 2) := by decide +kernel
theorem dX3_give_45 : decode cX3_give 45 = .ok (.ireturn, 1) := by decide +kernel
theorem dX3_give_46 : decode cX3_give 46 = .ok (.aload_n 0, 1) := by decide +kernel
theorem dX3_give_47 : decode cX3_give 47 = .ok (.getfield 39, 3) := by decide +kernel
theorem dX3_give_50 : decode cX3_give 50 = .ok (.iconst 1, 1) := by decide +kernel
theorem dX3_give_51 : decode cX3_give 51 = .ok (.invokevirtual 140, 3) := by decide +kernel
theorem dX3_give_54 : decode cX3_give 54 = .ok (.ifCond .ne 6, 3) := by decide +kernel
theorem dX3_give_57 : decode cX3_give 57 = .ok (.bipush (-2), 2) := by decide +kernel
theorem dX3_give_59 : decode cX3_give 59 = .ok (.ireturn, 1) := by decide +kernel
theorem dX3_give_60 : decode cX3_give 60 = .ok (.aload_n 0, 1) := by decide +kernel
theorem dX3_give_61 : decode cX3_give 61 = .ok (.iconst 2, 1) := by decide +kernel
theorem dX3_give_62 : decode cX3_give 62 = .ok (.iload_n 1, 1) := by decide +kernel
theorem dX3_give_63 : decode cX3_give 63 = .ok (.iload_n 2, 1) := by decide +kernel
theorem dX3_give_64 : decode cX3_give 64 = .ok (.invokestatic 143, 3) := by decide +kernel
theorem dX3_give_67 : decode cX3_give 67 = .ok (.invokevirtual 147, 3) := by decide +kernel
theorem dX3_give_70 : decode cX3_give 70 = .ok (.ireturn, 1) := by decide +kernel
/-! X3_give (II)I -/
abbrev rmX3_give : Room := { frames := 7, cells := 0, slots := 0, locals := 153 }
theorem lkX3_give_0 : Cond.fieldLink RX3 33 (TX3 5).1 (TX3 5).2.1 (TX3 5).2.2.1 ∈ wsX3_give := by decide +kernel
theorem lkX3_give_1 : Cond.fieldLink RX3 116 (TX0 0).1 (TX0 0).2.1 (TX0 0).2.2.1 ∈ wsX3_give := by decide +kernel
theorem lkX3_give_2 : Cond.fieldLink RX3 150 (TX2 3).1 (TX2 3).2.1 (TX2 3).2.2.1 ∈ wsX3_give := by decide +kernel
theorem lkX3_give_3 : Cond.fieldLink RX3 39 (TX3 6).1 (TX3 6).2.1 (TX3 6).2.2.1 ∈ wsX3_give := by decide +kernel
theorem inX3_give_X3 : ∀ w ∈ u_ws RX3 TX3 17, w ∈ wsX3_give := by decide +kernel
theorem inX3_give_X0 : ∀ w ∈ u_ws RX0 TX0 6, w ∈ wsX3_give := by decide +kernel
theorem inX3_give_X2 : ∀ w ∈ u_ws RX2 TX2 6, w ∈ wsX3_give := by decide +kernel
noncomputable def fX3_give (G : mm_G) (a0 : Nat) (x1 : Int32) (x2 : Int32) (σ : mm_M) : Option (Int32 × mm_M) := (fX0_has G (mm_R G a0 5) x1 σ).bind (fun q5 => if q5.1 = 0 then (some ((-1 : Int32), q5.2)) else (if x2 < (1 : Int32) then (some ((-1 : Int32), q5.2)) else (if (9 : Int32) < x2 then (some ((-1 : Int32), q5.2)) else (if x1 < 0 ∨ mm_N G (mm_R G (mm_R G a0 5) 0) ≤ x1.toNatClampNeg then none else (if (30 : Int32) < ((q5.2.1 (mm_R G (mm_R G (mm_R G a0 5) 0) x1.toNatClampNeg) 3) + x2) then (some ((-6 : Int32), q5.2)) else ((fX1_hasRoomFor G (mm_R G a0 6) (1 : Int32) q5.2).bind (fun q51 => if q51.1 = 0 then (some ((-2 : Int32), q51.2)) else ((fX3_deedOf G (2 : Int32) x1 x2 q51.2).bind (fun q64 => (fX3_carryOut G a0 q64.1 q64.2).bind (fun q67 => some (q67.1, q67.2)))))))))))
set_option maxHeartbeats 4000000 in
set_option maxRecDepth 100000 in
theorem wX3_give_b0 {E : mm_E} {G : mm_G} (X : mm_Cx E G cX3_give 3 RX3 wsX3_give rmX3_give (some .int)) {a0 : Nat} {x1 : Int32} {x2 : Int32} {σ : mm_M} {q : (Int32 × mm_M)} (ha0 : mm_Is G 3 a0) (h : fX3_give G a0 x1 x2 σ = some q) : mm_At E G 3 (mm_Qi E G q) σ 0 [(0, .ref a0), (1, .int x1), (2, .int x2)] [] := by
  unfold fX3_give at h
  refine at_aload_n (pc := 0) X 0 0 dX3_give_0 rfl rfl ?_
  refine at_get (pc := 1) X 3 5 (.ref (mm_R G a0 5)) ha0 (by decide) rfl inX3_give_X3 (by decide) lkX3_give_0 rfl dX3_give_1 ?_
  refine at_iload_n (pc := 4) X 1 1 dX3_give_4 rfl rfl ?_
  obtain ⟨q5, hq5, h⟩ := mm_bind h
  refine at_calli (n := 1) (pc := 5) X 0 [.int x1] [] (mX0_has (eL E) X.wf (wf_3_5 X.wf ha0) hq5) gX3_give_X0_has rfl ⟨rfl, rfl⟩ (by decide +kernel) ⟨by decide, by decide⟩ (by decide) rfl (wf_3_5 X.wf ha0) rfl rfl (Nat.le_of_ble_eq_true rfl) dX3_give_5 ?_
  refine at_if_eq (pc := 8) X 22 dX3_give_8 (by decide) (fun c8 => ?_) (fun c8 => ?_)
  · have h := mm_pos c8 h
    refine at_iconst (pc := 22) X (-1 : Int32) dX3_give_22 ic_m1 ?_
    exact at_iret (pc := 23) X (Option.some.inj h) dX3_give_23
  · have h := mm_neg c8 h
    refine at_iload_n (pc := 11) X 2 2 dX3_give_11 rfl rfl ?_
    refine at_iconst (pc := 12) X (1 : Int32) dX3_give_12 ic_1 ?_
    refine at_icmp_lt (pc := 13) X 22 dX3_give_13 (by decide) (fun c13 => ?_) (fun c13 => ?_)
    · have h := mm_pos c13 h
      refine at_iconst (pc := 22) X (-1 : Int32) dX3_give_22 ic_m1 ?_
      exact at_iret (pc := 23) X (Option.some.inj h) dX3_give_23
    · have h := mm_neg c13 h
      refine at_iload_n (pc := 16) X 2 2 dX3_give_16 rfl rfl ?_
      refine at_bipush (pc := 17) X (9 : Int32) dX3_give_17 ib_9 ?_
      refine at_icmp_le (pc := 19) X 24 dX3_give_19 (by decide) (fun c19 => ?_) (fun c19 => ?_)
      · have h := mm_neg c19 h
        refine at_aload_n (pc := 24) X 0 0 dX3_give_24 rfl rfl ?_
        refine at_get (pc := 25) X 3 5 (.ref (mm_R G a0 5)) ha0 (by decide) rfl inX3_give_X3 (by decide) lkX3_give_0 rfl dX3_give_25 ?_
        refine at_get (pc := 28) X 0 0 (.ref (mm_R G (mm_R G a0 5) 0)) (wf_3_5 X.wf ha0) (by decide) rfl inX3_give_X0 (by decide) lkX3_give_1 rfl dX3_give_28 ?_
        refine at_iload_n (pc := 31) X 1 1 dX3_give_31 rfl rfl ?_
        obtain ⟨hc32, h⟩ := mm_chk h
        refine at_aald (pc := 32) X 8 3 (wf_0_0 X.wf (wf_3_5 X.wf ha0)) (by decide) (by decide) rfl rfl hc32 dX3_give_32 ?_
        refine at_get (pc := 33) X 2 3 (.int (q5.2.1 (mm_R G (mm_R G (mm_R G a0 5) 0) x1.toNatClampNeg) 3)) (wf_8 X.wf (wf_0_0 X.wf (wf_3_5 X.wf ha0)) hc32) (by decide) rfl inX3_give_X2 (by decide) lkX3_give_2 rfl dX3_give_33 ?_
        refine at_iload_n (pc := 36) X 2 2 dX3_give_36 rfl rfl ?_
        refine at_iadd (pc := 37) X dX3_give_37 ?_
        refine at_bipush (pc := 38) X (30 : Int32) dX3_give_38 ib_30 ?_
        refine at_icmp_le (pc := 40) X 46 dX3_give_40 (by decide) (fun c40 => ?_) (fun c40 => ?_)
        · have h := mm_neg c40 h
          refine at_aload_n (pc := 46) X 0 0 dX3_give_46 rfl rfl ?_
          refine at_get (pc := 47) X 3 6 (.ref (mm_R G a0 6)) ha0 (by decide) rfl inX3_give_X3 (by decide) lkX3_give_3 rfl dX3_give_47 ?_
          refine at_iconst (pc := 50) X (1 : Int32) dX3_give_50 ic_1 ?_
          obtain ⟨q51, hq51, h⟩ := mm_bind h
          refine at_calli (n := 1) (pc := 51) X 1 [.int (1 : Int32)] [] (mX1_hasRoomFor (eL E) X.wf (wf_3_6 X.wf ha0) hq51) gX3_give_X1_hasRoomFor rfl ⟨rfl, rfl⟩ (by decide +kernel) ⟨by decide, by decide⟩ (by decide) rfl (wf_3_6 X.wf ha0) rfl rfl (Nat.le_of_ble_eq_true rfl) dX3_give_51 ?_
          refine at_if_ne (pc := 54) X 60 dX3_give_54 (by decide) (fun c54 => ?_) (fun c54 => ?_)
          · have h := mm_neg c54 h
            refine at_aload_n (pc := 60) X 0 0 dX3_give_60 rfl rfl ?_
            refine at_iconst (pc := 61) X (2 : Int32) dX3_give_61 ic_2 ?_
            refine at_iload_n (pc := 62) X 1 1 dX3_give_62 rfl rfl ?_
            refine at_iload_n (pc := 63) X 2 2 dX3_give_63 rfl rfl ?_
            obtain ⟨q64, hq64, h⟩ := mm_bind h
            refine at_scalli (n := 3) (pc := 64) X [.int (2 : Int32), .int x1, .int x2] [.ref a0] (mX3_deedOf (eL E) X.wf hq64) gX3_give_X3_deedOf rfl ⟨rfl, rfl⟩ (by decide +kernel) ⟨by decide, by decide⟩ rfl rfl (Nat.le_of_ble_eq_true rfl) dX3_give_64 ?_
            obtain ⟨q67, hq67, h⟩ := mm_bind h
            refine at_calli (n := 1) (pc := 67) X 3 [.int q64.1] [] (mX3_carryOut (eL E) X.wf ha0 hq67) gX3_give_X3_carryOut rfl ⟨rfl, rfl⟩ (by decide +kernel) ⟨by decide, by decide⟩ (by decide) rfl ha0 rfl rfl (Nat.le_of_ble_eq_true rfl) dX3_give_67 ?_
            exact at_iret (pc := 70) X (Option.some.inj h) dX3_give_70
          · have h := mm_pos c54 h
            refine at_bipush (pc := 57) X (-2 : Int32) dX3_give_57 ib_m2 ?_
            exact at_iret (pc := 59) X (Option.some.inj h) dX3_give_59
        · have h := mm_pos c40 h
          refine at_bipush (pc := 43) X (-6 : Int32) dX3_give_43 ib_m6 ?_
          exact at_iret (pc := 45) X (Option.some.inj h) dX3_give_45
      · have h := mm_pos c19 h
        refine at_iconst (pc := 22) X (-1 : Int32) dX3_give_22 ic_m1 ?_
        exact at_iret (pc := 23) X (Option.some.inj h) dX3_give_23
set_option maxHeartbeats 4000000 in
set_option maxRecDepth 100000 in
theorem mX3_give (l : Launch) {G : mm_G} (hwf : mm_WF G) {a0 : Nat} {x1 : Int32} {x2 : Int32} {σ : mm_M} {q : (Int32 × mm_M)} (ha0 : mm_Is G 3 a0) (h : fX3_give G a0 x1 x2 σ = some q) : mm_Mi l yX3_give wsX3_give rmX3_give G [.ref a0, .int x1, .int x2] σ q := by
  refine mm_ofi (cc := cX3_give) (nL := 3) (ret := some .int) (own := RX3) (lv0 := [(0, .ref a0), (1, .int x1), (2, .int x2)]) (by decide) rfl rfl (Nat.le_of_ble_eq_true rfl) rfl hwf (fun E hE X => ?_)
  exact wX3_give_b0 X ha0 h
set_option maxRecDepth 20000 in
theorem ggX3_drop_X0_has : GoodIn wsX3_drop wsX0_has := goodIn_r _ [9, 10, 122, 123, 124, 125, 126, 127] (by decide +kernel) (by decide +kernel)
set_option maxRecDepth 20000 in
theorem gX3_drop_X0_has : GoodIn wsX3_drop (wsV RX3 113 RX0 yX0_has wsX0_has) := goodIn_app (goodIn_of _ (by decide +kernel)) ggX3_drop_X0_has
set_option maxRecDepth 20000 in
theorem ggX3_drop_X1_hasRoomFor : GoodIn wsX3_drop wsX1_hasRoomFor := goodIn_r _ [15, 16, 134, 135] (by decide +kernel) (by decide +kernel)
set_option maxRecDepth 20000 in
theorem gX3_drop_X1_hasRoomFor : GoodIn wsX3_drop (wsV RX3 140 RX1 yX1_hasRoomFor wsX1_hasRoomFor) := goodIn_app (goodIn_of _ (by decide +kernel)) ggX3_drop_X1_hasRoomFor
set_option maxRecDepth 20000 in
theorem ggX3_drop_X3_deedOf : GoodIn wsX3_drop wsX3_deedOf := goodIn_r _ [20] (by decide +kernel) (by decide +kernel)
set_option maxRecDepth 20000 in
theorem gX3_drop_X3_deedOf : GoodIn wsX3_drop (va_wsS RX3 143 yX3_deedOf wsX3_deedOf) := goodIn_app (goodIn_of _ (by decide +kernel)) ggX3_drop_X3_deedOf
set_option maxRecDepth 20000 in
theorem ggX3_drop_X3_carryOut : GoodIn wsX3_drop wsX3_carryOut := goodIn_r _ [24, 4, 1, 25, 26, 27, 14, 28, 16, 29, 30, 31, 32, 8, 33, 34, 35, 36, 37, 6, 7, 9, 10, 38, 39, 40, 41, 42, 43, 44, 45, 46, 47, 48, 49, 50, 51, 52, 53, 54, 55, 56, 57, 58, 59, 60, 61, 62, 63, 64, 65, 66, 67, 68, 69, 70, 71, 72, 73, 74, 75, 76, 77, 78, 79, 80, 81, 82, 83, 84, 85, 86, 87, 88, 89, 90, 91, 92, 93, 94, 95, 96, 97, 98, 99, 100, 101, 102, 103, 104, 105, 106, 107, 108, 109, 110, 111, 112, 113, 114, 115, 116, 117, 118, 119, 120, 121, 134, 135, 122, 123, 124, 125, 126, 127, 128, 129, 130, 131, 132, 133] (by decide +kernel) (by decide +kernel)
set_option maxRecDepth 20000 in
theorem gX3_drop_X3_carryOut : GoodIn wsX3_drop (wsV RX3 147 RX3 yX3_carryOut wsX3_carryOut) := goodIn_app (goodIn_of _ (by decide +kernel)) ggX3_drop_X3_carryOut
theorem dX3_drop_0 : decode cX3_drop 0 = .ok (.aload_n 0, 1) := by decide +kernel
theorem dX3_drop_1 : decode cX3_drop 1 = .ok (.getfield 33, 3) := by decide +kernel
theorem dX3_drop_4 : decode cX3_drop 4 = .ok (.iload_n 1, 1) := by decide +kernel
theorem dX3_drop_5 : decode cX3_drop 5 = .ok (.invokevirtual 113, 3) := by decide +kernel
theorem dX3_drop_8 : decode cX3_drop 8 = .ok (.ifCond .ne 5, 3) := by decide +kernel
theorem dX3_drop_11 : decode cX3_drop 11 = .ok (.iconst (-1), 1) := by decide +kernel
theorem dX3_drop_12 : decode cX3_drop 12 = .ok (.ireturn, 1) := by decide +kernel
theorem dX3_drop_13 : decode cX3_drop 13 = .ok (.aload_n 0, 1) := by decide +kernel
theorem dX3_drop_14 : decode cX3_drop 14 = .ok (.getfield 33, 3) := by decide +kernel
theorem dX3_drop_17 : decode cX3_drop 17 = .ok (.getfield 116, 3) := by decide +kernel
theorem dX3_drop_20 : decode cX3_drop 20 = .ok (.iload_n 1, 1) := by decide +kernel
theorem dX3_drop_21 : decode cX3_drop 21 = .ok (.aaload, 1) := by decide +kernel
theorem dX3_drop_22 : decode cX3_drop 22 = .ok (.getfield 150, 3) := by decide +kernel
theorem dX3_drop_25 : decode cX3_drop 25 = .ok (.ifCond .ne 6, 3) := by decide +kernel
theorem dX3_drop_28 : decode cX3_drop 28 = .ok (.bipush (-4), 2) := by decide +kernel
theorem dX3_drop_30 : decode cX3_drop 30 = .ok (.ireturn, 1) := by decide +kernel
theorem dX3_drop_31 : decode cX3_drop 31 = .ok (.aload_n 0, 1) := by decide +kernel
theorem dX3_drop_32 : decode cX3_drop 32 = .ok (.getfield 39, 3) := by decide +kernel
theorem dX3_drop_35 : decode cX3_drop 35 = .ok (.iconst 1, 1) := by decide +kernel
theorem dX3_drop_36 : decode cX3_drop 36 = .ok (.invokevirtual 140, 3) := by decide +kernel
theorem dX3_drop_39 : decode cX3_drop 39 = .ok (.ifCond .ne 6, 3) := by decide +kernel
theorem dX3_drop_42 : decode cX3_drop 42 = .ok (.bipush (-2), 2) := by decide +kernel
theorem dX3_drop_44 : decode cX3_drop 44 = .ok (.ireturn, 1) := by decide +kernel
theorem dX3_drop_45 : decode cX3_drop 45 = .ok (.aload_n 0, 1) := by decide +kernel
theorem dX3_drop_46 : decode cX3_drop 46 = .ok (.iconst 3, 1) := by decide +kernel
theorem dX3_drop_47 : decode cX3_drop 47 = .ok (.iload_n 1, 1) := by decide +kernel
theorem dX3_drop_48 : decode cX3_drop 48 = .ok (.iconst 0, 1) := by decide +kernel
theorem dX3_drop_49 : decode cX3_drop 49 = .ok (.invokestatic 143, 3) := by decide +kernel
theorem dX3_drop_52 : decode cX3_drop 52 = .ok (.invokevirtual 147, 3) := by decide +kernel
theorem dX3_drop_55 : decode cX3_drop 55 = .ok (.ireturn, 1) := by decide +kernel
/-! X3_drop (I)I -/
abbrev rmX3_drop : Room := { frames := 7, cells := 0, slots := 0, locals := 153 }
theorem lkX3_drop_0 : Cond.fieldLink RX3 33 (TX3 5).1 (TX3 5).2.1 (TX3 5).2.2.1 ∈ wsX3_drop := by decide +kernel
theorem lkX3_drop_1 : Cond.fieldLink RX3 116 (TX0 0).1 (TX0 0).2.1 (TX0 0).2.2.1 ∈ wsX3_drop := by decide +kernel
theorem lkX3_drop_2 : Cond.fieldLink RX3 150 (TX2 3).1 (TX2 3).2.1 (TX2 3).2.2.1 ∈ wsX3_drop := by decide +kernel
theorem lkX3_drop_3 : Cond.fieldLink RX3 39 (TX3 6).1 (TX3 6).2.1 (TX3 6).2.2.1 ∈ wsX3_drop := by decide +kernel
theorem inX3_drop_X3 : ∀ w ∈ u_ws RX3 TX3 17, w ∈ wsX3_drop := by decide +kernel
theorem inX3_drop_X0 : ∀ w ∈ u_ws RX0 TX0 6, w ∈ wsX3_drop := by decide +kernel
theorem inX3_drop_X2 : ∀ w ∈ u_ws RX2 TX2 6, w ∈ wsX3_drop := by decide +kernel
noncomputable def fX3_drop (G : mm_G) (a0 : Nat) (x1 : Int32) (σ : mm_M) : Option (Int32 × mm_M) := (fX0_has G (mm_R G a0 5) x1 σ).bind (fun q5 => if q5.1 = 0 then (some ((-1 : Int32), q5.2)) else (if x1 < 0 ∨ mm_N G (mm_R G (mm_R G a0 5) 0) ≤ x1.toNatClampNeg then none else (if (q5.2.1 (mm_R G (mm_R G (mm_R G a0 5) 0) x1.toNatClampNeg) 3) = 0 then (some ((-4 : Int32), q5.2)) else ((fX1_hasRoomFor G (mm_R G a0 6) (1 : Int32) q5.2).bind (fun q36 => if q36.1 = 0 then (some ((-2 : Int32), q36.2)) else ((fX3_deedOf G (3 : Int32) x1 (0 : Int32) q36.2).bind (fun q49 => (fX3_carryOut G a0 q49.1 q49.2).bind (fun q52 => some (q52.1, q52.2)))))))))
set_option maxHeartbeats 4000000 in
set_option maxRecDepth 100000 in
theorem wX3_drop_b0 {E : mm_E} {G : mm_G} (X : mm_Cx E G cX3_drop 2 RX3 wsX3_drop rmX3_drop (some .int)) {a0 : Nat} {x1 : Int32} {σ : mm_M} {q : (Int32 × mm_M)} (ha0 : mm_Is G 3 a0) (h : fX3_drop G a0 x1 σ = some q) : mm_At E G 2 (mm_Qi E G q) σ 0 [(0, .ref a0), (1, .int x1)] [] := by
  unfold fX3_drop at h
  refine at_aload_n (pc := 0) X 0 0 dX3_drop_0 rfl rfl ?_
  refine at_get (pc := 1) X 3 5 (.ref (mm_R G a0 5)) ha0 (by decide) rfl inX3_drop_X3 (by decide) lkX3_drop_0 rfl dX3_drop_1 ?_
  refine at_iload_n (pc := 4) X 1 1 dX3_drop_4 rfl rfl ?_
  obtain ⟨q5, hq5, h⟩ := mm_bind h
  refine at_calli (n := 1) (pc := 5) X 0 [.int x1] [] (mX0_has (eL E) X.wf (wf_3_5 X.wf ha0) hq5) gX3_drop_X0_has rfl ⟨rfl, rfl⟩ (by decide +kernel) ⟨by decide, by decide⟩ (by decide) rfl (wf_3_5 X.wf ha0) rfl rfl (Nat.le_of_ble_eq_true rfl) dX3_drop_5 ?_
  refine at_if_ne (pc := 8) X 13 dX3_drop_8 (by decide) (fun c8 => ?_) (fun c8 => ?_)
  · have h := mm_neg c8 h
    refine at_aload_n (pc := 13) X 0 0 dX3_drop_13 rfl rfl ?_
    refine at_get (pc := 14) X 3 5 (.ref (mm_R G a0 5)) ha0 (by decide) rfl inX3_drop_X3 (by decide) lkX3_drop_0 rfl dX3_drop_14 ?_
    refine at_get (pc := 17) X 0 0 (.ref (mm_R G (mm_R G a0 5) 0)) (wf_3_5 X.wf ha0) (by decide) rfl inX3_drop_X0 (by decide) lkX3_drop_1 rfl dX3_drop_17 ?_
    refine at_iload_n (pc := 20) X 1 1 dX3_drop_20 rfl rfl ?_
    obtain ⟨hc21, h⟩ := mm_chk h
    refine at_aald (pc := 21) X 8 3 (wf_0_0 X.wf (wf_3_5 X.wf ha0)) (by decide) (by decide) rfl rfl hc21 dX3_drop_21 ?_
    refine at_get (pc := 22) X 2 3 (.int (q5.2.1 (mm_R G (mm_R G (mm_R G a0 5) 0) x1.toNatClampNeg) 3)) (wf_8 X.wf (wf_0_0 X.wf (wf_3_5 X.wf ha0)) hc21) (by decide) rfl inX3_drop_X2 (by decide) lkX3_drop_2 rfl dX3_drop_22 ?_
    refine at_if_ne (pc := 25) X 31 dX3_drop_25 (by decide) (fun c25 => ?_) (fun c25 => ?_)
    · have h := mm_neg c25 h
      refine at_aload_n (pc := 31) X 0 0 dX3_drop_31 rfl rfl ?_
      refine at_get (pc := 32) X 3 6 (.ref (mm_R G a0 6)) ha0 (by decide) rfl inX3_drop_X3 (by decide) lkX3_drop_3 rfl dX3_drop_32 ?_
      refine at_iconst (pc := 35) X (1 : Int32) dX3_drop_35 ic_1 ?_
      obtain ⟨q36, hq36, h⟩ := mm_bind h
      refine at_calli (n := 1) (pc := 36) X 1 [.int (1 : Int32)] [] (mX1_hasRoomFor (eL E) X.wf (wf_3_6 X.wf ha0) hq36) gX3_drop_X1_hasRoomFor rfl ⟨rfl, rfl⟩ (by decide +kernel) ⟨by decide, by decide⟩ (by decide) rfl (wf_3_6 X.wf ha0) rfl rfl (Nat.le_of_ble_eq_true rfl) dX3_drop_36 ?_
      refine at_if_ne (pc := 39) X 45 dX3_drop_39 (by decide) (fun c39 => ?_) (fun c39 => ?_)
      · have h := mm_neg c39 h
        refine at_aload_n (pc := 45) X 0 0 dX3_drop_45 rfl rfl ?_
        refine at_iconst (pc := 46) X (3 : Int32) dX3_drop_46 ic_3 ?_
        refine at_iload_n (pc := 47) X 1 1 dX3_drop_47 rfl rfl ?_
        refine at_iconst (pc := 48) X (0 : Int32) dX3_drop_48 ic_0 ?_
        obtain ⟨q49, hq49, h⟩ := mm_bind h
        refine at_scalli (n := 3) (pc := 49) X [.int (3 : Int32), .int x1, .int (0 : Int32)] [.ref a0] (mX3_deedOf (eL E) X.wf hq49) gX3_drop_X3_deedOf rfl ⟨rfl, rfl⟩ (by decide +kernel) ⟨by decide, by decide⟩ rfl rfl (Nat.le_of_ble_eq_true rfl) dX3_drop_49 ?_
        obtain ⟨q52, hq52, h⟩ := mm_bind h
        refine at_calli (n := 1) (pc := 52) X 3 [.int q49.1] [] (mX3_carryOut (eL E) X.wf ha0 hq52) gX3_drop_X3_carryOut rfl ⟨rfl, rfl⟩ (by decide +kernel) ⟨by decide, by decide⟩ (by decide) rfl ha0 rfl rfl (Nat.le_of_ble_eq_true rfl) dX3_drop_52 ?_
        exact at_iret (pc := 55) X (Option.some.inj h) dX3_drop_55
      · have h := mm_pos c39 h
        refine at_bipush (pc := 42) X (-2 : Int32) dX3_drop_42 ib_m2 ?_
        exact at_iret (pc := 44) X (Option.some.inj h) dX3_drop_44
    · have h := mm_pos c25 h
      refine at_bipush (pc := 28) X (-4 : Int32) dX3_drop_28 ib_m4 ?_
      exact at_iret (pc := 30) X (Option.some.inj h) dX3_drop_30
  · have h := mm_pos c8 h
    refine at_iconst (pc := 11) X (-1 : Int32) dX3_drop_11 ic_m1 ?_
    exact at_iret (pc := 12) X (Option.some.inj h) dX3_drop_12
set_option maxHeartbeats 4000000 in
set_option maxRecDepth 100000 in
theorem mX3_drop (l : Launch) {G : mm_G} (hwf : mm_WF G) {a0 : Nat} {x1 : Int32} {σ : mm_M} {q : (Int32 × mm_M)} (ha0 : mm_Is G 3 a0) (h : fX3_drop G a0 x1 σ = some q) : mm_Mi l yX3_drop wsX3_drop rmX3_drop G [.ref a0, .int x1] σ q := by
  refine mm_ofi (cc := cX3_drop) (nL := 2) (ret := some .int) (own := RX3) (lv0 := [(0, .ref a0), (1, .int x1)]) (by decide) rfl rfl (Nat.le_of_ble_eq_true rfl) rfl hwf (fun E hE X => ?_)
  exact wX3_drop_b0 X ha0 h
set_option maxRecDepth 20000 in
theorem ggX3_first_X0_has : GoodIn wsX3_first wsX0_has := goodIn_r _ [9, 10, 122, 123, 124, 125, 126, 127] (by decide +kernel) (by decide +kernel)
set_option maxRecDepth 20000 in
theorem gX3_first_X0_has : GoodIn wsX3_first (wsV RX3 113 RX0 yX0_has wsX0_has) := goodIn_app (goodIn_of _ (by decide +kernel)) ggX3_first_X0_has
set_option maxRecDepth 20000 in
theorem ggX3_first_X1_hasRoomFor : GoodIn wsX3_first wsX1_hasRoomFor := goodIn_r _ [15, 16, 134, 135] (by decide +kernel) (by decide +kernel)
set_option maxRecDepth 20000 in
theorem gX3_first_X1_hasRoomFor : GoodIn wsX3_first (wsV RX3 140 RX1 yX1_hasRoomFor wsX1_hasRoomFor) := goodIn_app (goodIn_of _ (by decide +kernel)) ggX3_first_X1_hasRoomFor
set_option maxRecDepth 20000 in
theorem ggX3_first_X3_deedOf : GoodIn wsX3_first wsX3_deedOf := goodIn_r _ [20] (by decide +kernel) (by decide +kernel)
set_option maxRecDepth 20000 in
theorem gX3_first_X3_deedOf : GoodIn wsX3_first (va_wsS RX3 143 yX3_deedOf wsX3_deedOf) := goodIn_app (goodIn_of _ (by decide +kernel)) ggX3_first_X3_deedOf
set_option maxRecDepth 20000 in
theorem ggX3_first_X3_carryOut : GoodIn wsX3_first wsX3_carryOut := goodIn_r _ [24, 4, 1, 25, 26, 27, 14, 28, 16, 29, 30, 31, 32, 8, 33, 34, 35, 36, 37, 6, 7, 9, 10, 38, 39, 40, 41, 42, 43, 44, 45, 46, 47, 48, 49, 50, 51, 52, 53, 54, 55, 56, 57, 58, 59, 60, 61, 62, 63, 64, 65, 66, 67, 68, 69, 70, 71, 72, 73, 74, 75, 76, 77, 78, 79, 80, 81, 82, 83, 84, 85, 86, 87, 88, 89, 90, 91, 92, 93, 94, 95, 96, 97, 98, 99, 100, 101, 102, 103, 104, 105, 106, 107, 108, 109, 110, 111, 112, 113, 114, 115, 116, 117, 118, 119, 120, 121, 134, 135, 122, 123, 124, 125, 126, 127, 128, 129, 130, 131, 132, 133] (by decide +kernel) (by decide +kernel)
set_option maxRecDepth 20000 in
theorem gX3_first_X3_carryOut : GoodIn wsX3_first (wsV RX3 147 RX3 yX3_carryOut wsX3_carryOut) := goodIn_app (goodIn_of _ (by decide +kernel)) ggX3_first_X3_carryOut
theorem dX3_first_0 : decode cX3_first 0 = .ok (.aload_n 0, 1) := by decide +kernel
theorem dX3_first_1 : decode cX3_first 1 = .ok (.getfield 33, 3) := by decide +kernel
theorem dX3_first_4 : decode cX3_first 4 = .ok (.iload_n 1, 1) := by decide +kernel
theorem dX3_first_5 : decode cX3_first 5 = .ok (.invokevirtual 113, 3) := by decide +kernel
theorem dX3_first_8 : decode cX3_first 8 = .ok (.ifCond .eq 13, 3) := by decide +kernel
theorem dX3_first_11 : decode cX3_first 11 = .ok (.iload_n 2, 1) := by decide +kernel
theorem dX3_first_12 : decode cX3_first 12 = .ok (.ifCond .lt 9, 3) := by decide +kernel
theorem dX3_first_15 : decode cX3_first 15 = .ok (.iload_n 2, 1) := by decide +kernel
theorem dX3_first_16 : decode cX3_first 16 = .ok (.bipush 10, 2) := by decide +kernel
theorem dX3_first_18 : decode cX3_first 18 = .ok (.if_icmp .lt 5, 3) := by decide +kernel
theorem dX3_first_21 : decode cX3_first 21 = .ok (.iconst (-1), 1) := by decide +kernel
theorem dX3_first_22 : decode cX3_first 22 = .ok (.ireturn, 1) := by decide +kernel
theorem dX3_first_23 : decode cX3_first 23 = .ok (.aload_n 0, 1) := by decide +kernel
theorem dX3_first_24 : decode cX3_first 24 = .ok (.getfield 33, 3) := by decide +kernel
theorem dX3_first_27 : decode cX3_first 27 = .ok (.getfield 116, 3) := by decide +kernel
theorem dX3_first_30 : decode cX3_first 30 = .ok (.iload_n 1, 1) := by decide +kernel
theorem dX3_first_31 : decode cX3_first 31 = .ok (.aaload, 1) := by decide +kernel
theorem dX3_first_32 : decode cX3_first 32 = .ok (.getfield 153, 3) := by decide +kernel
theorem dX3_first_35 : decode cX3_first 35 = .ok (.iload_n 2, 1) := by decide +kernel
theorem dX3_first_36 : decode cX3_first 36 = .ok (.if_icmp .ne 6, 3) := by decide +kernel
theorem dX3_first_39 : decode cX3_first 39 = .ok (.bipush (-4), 2) := by decide +kernel
theorem dX3_first_41 : decode cX3_first 41 = .ok (.ireturn, 1) := by decide +kernel
theorem dX3_first_42 : decode cX3_first 42 = .ok (.aload_n 0, 1) := by decide +kernel
theorem dX3_first_43 : decode cX3_first 43 = .ok (.getfield 39, 3) := by decide +kernel
theorem dX3_first_46 : decode cX3_first 46 = .ok (.iconst 1, 1) := by decide +kernel
theorem dX3_first_47 : decode cX3_first 47 = .ok (.invokevirtual 140, 3) := by decide +kernel
theorem dX3_first_50 : decode cX3_first 50 = .ok (.ifCond .ne 6, 3) := by decide +kernel
theorem dX3_first_53 : decode cX3_first 53 = .ok (.bipush (-2), 2) := by decide +kernel
theorem dX3_first_55 : decode cX3_first 55 = .ok (.ireturn, 1) := by decide +kernel
theorem dX3_first_56 : decode cX3_first 56 = .ok (.aload_n 0, 1) := by decide +kernel
theorem dX3_first_57 : decode cX3_first 57 = .ok (.iconst 4, 1) := by decide +kernel
theorem dX3_first_58 : decode cX3_first 58 = .ok (.iload_n 1, 1) := by decide +kernel
theorem dX3_first_59 : decode cX3_first 59 = .ok (.iload_n 2, 1) := by decide +kernel
theorem dX3_first_60 : decode cX3_first 60 = .ok (.invokestatic 143, 3) := by decide +kernel
theorem dX3_first_63 : decode cX3_first 63 = .ok (.invokevirtual 147, 3) := by decide +kernel
theorem dX3_first_66 : decode cX3_first 66 = .ok (.ireturn, 1) := by decide +kernel
/-! X3_first (II)I -/
abbrev rmX3_first : Room := { frames := 7, cells := 0, slots := 0, locals := 153 }
theorem lkX3_first_0 : Cond.fieldLink RX3 33 (TX3 5).1 (TX3 5).2.1 (TX3 5).2.2.1 ∈ wsX3_first := by decide +kernel
theorem lkX3_first_1 : Cond.fieldLink RX3 116 (TX0 0).1 (TX0 0).2.1 (TX0 0).2.2.1 ∈ wsX3_first := by decide +kernel
theorem lkX3_first_2 : Cond.fieldLink RX3 153 (TX2 1).1 (TX2 1).2.1 (TX2 1).2.2.1 ∈ wsX3_first := by decide +kernel
theorem lkX3_first_3 : Cond.fieldLink RX3 39 (TX3 6).1 (TX3 6).2.1 (TX3 6).2.2.1 ∈ wsX3_first := by decide +kernel
theorem inX3_first_X3 : ∀ w ∈ u_ws RX3 TX3 17, w ∈ wsX3_first := by decide +kernel
theorem inX3_first_X0 : ∀ w ∈ u_ws RX0 TX0 6, w ∈ wsX3_first := by decide +kernel
theorem inX3_first_X2 : ∀ w ∈ u_ws RX2 TX2 6, w ∈ wsX3_first := by decide +kernel
noncomputable def fX3_first (G : mm_G) (a0 : Nat) (x1 : Int32) (x2 : Int32) (σ : mm_M) : Option (Int32 × mm_M) := (fX0_has G (mm_R G a0 5) x1 σ).bind (fun q5 => if q5.1 = 0 then (some ((-1 : Int32), q5.2)) else (if x2 < 0 then (some ((-1 : Int32), q5.2)) else (if x2 < (10 : Int32) then (if x1 < 0 ∨ mm_N G (mm_R G (mm_R G a0 5) 0) ≤ x1.toNatClampNeg then none else (if (q5.2.1 (mm_R G (mm_R G (mm_R G a0 5) 0) x1.toNatClampNeg) 1) = x2 then (some ((-4 : Int32), q5.2)) else ((fX1_hasRoomFor G (mm_R G a0 6) (1 : Int32) q5.2).bind (fun q47 => if q47.1 = 0 then (some ((-2 : Int32), q47.2)) else ((fX3_deedOf G (4 : Int32) x1 x2 q47.2).bind (fun q60 => (fX3_carryOut G a0 q60.1 q60.2).bind (fun q63 => some (q63.1, q63.2)))))))) else (some ((-1 : Int32), q5.2)))))
set_option maxHeartbeats 4000000 in
set_option maxRecDepth 100000 in
theorem wX3_first_b0 {E : mm_E} {G : mm_G} (X : mm_Cx E G cX3_first 3 RX3 wsX3_first rmX3_first (some .int)) {a0 : Nat} {x1 : Int32} {x2 : Int32} {σ : mm_M} {q : (Int32 × mm_M)} (ha0 : mm_Is G 3 a0) (h : fX3_first G a0 x1 x2 σ = some q) : mm_At E G 3 (mm_Qi E G q) σ 0 [(0, .ref a0), (1, .int x1), (2, .int x2)] [] := by
  unfold fX3_first at h
  refine at_aload_n (pc := 0) X 0 0 dX3_first_0 rfl rfl ?_
  refine at_get (pc := 1) X 3 5 (.ref (mm_R G a0 5)) ha0 (by decide) rfl inX3_first_X3 (by decide) lkX3_first_0 rfl dX3_first_1 ?_
  refine at_iload_n (pc := 4) X 1 1 dX3_first_4 rfl rfl ?_
  obtain ⟨q5, hq5, h⟩ := mm_bind h
  refine at_calli (n := 1) (pc := 5) X 0 [.int x1] [] (mX0_has (eL E) X.wf (wf_3_5 X.wf ha0) hq5) gX3_first_X0_has rfl ⟨rfl, rfl⟩ (by decide +kernel) ⟨by decide, by decide⟩ (by decide) rfl (wf_3_5 X.wf ha0) rfl rfl (Nat.le_of_ble_eq_true rfl) dX3_first_5 ?_
  refine at_if_eq (pc := 8) X 21 dX3_first_8 (by decide) (fun c8 => ?_) (fun c8 => ?_)
  · have h := mm_pos c8 h
    refine at_iconst (pc := 21) X (-1 : Int32) dX3_first_21 ic_m1 ?_
    exact at_iret (pc := 22) X (Option.some.inj h) dX3_first_22
  · have h := mm_neg c8 h
    refine at_iload_n (pc := 11) X 2 2 dX3_first_11 rfl rfl ?_
    refine at_if_lt (pc := 12) X 21 dX3_first_12 (by decide) (fun c12 => ?_) (fun c12 => ?_)
    · have h := mm_pos c12 h
      refine at_iconst (pc := 21) X (-1 : Int32) dX3_first_21 ic_m1 ?_
      exact at_iret (pc := 22) X (Option.some.inj h) dX3_first_22
    · have h := mm_neg c12 h
      refine at_iload_n (pc := 15) X 2 2 dX3_first_15 rfl rfl ?_
      refine at_bipush (pc := 16) X (10 : Int32) dX3_first_16 ib_10 ?_
      refine at_icmp_lt (pc := 18) X 23 dX3_first_18 (by decide) (fun c18 => ?_) (fun c18 => ?_)
      · have h := mm_pos c18 h
        refine at_aload_n (pc := 23) X 0 0 dX3_first_23 rfl rfl ?_
        refine at_get (pc := 24) X 3 5 (.ref (mm_R G a0 5)) ha0 (by decide) rfl inX3_first_X3 (by decide) lkX3_first_0 rfl dX3_first_24 ?_
        refine at_get (pc := 27) X 0 0 (.ref (mm_R G (mm_R G a0 5) 0)) (wf_3_5 X.wf ha0) (by decide) rfl inX3_first_X0 (by decide) lkX3_first_1 rfl dX3_first_27 ?_
        refine at_iload_n (pc := 30) X 1 1 dX3_first_30 rfl rfl ?_
        obtain ⟨hc31, h⟩ := mm_chk h
        refine at_aald (pc := 31) X 8 3 (wf_0_0 X.wf (wf_3_5 X.wf ha0)) (by decide) (by decide) rfl rfl hc31 dX3_first_31 ?_
        refine at_get (pc := 32) X 2 1 (.int (q5.2.1 (mm_R G (mm_R G (mm_R G a0 5) 0) x1.toNatClampNeg) 1)) (wf_8 X.wf (wf_0_0 X.wf (wf_3_5 X.wf ha0)) hc31) (by decide) rfl inX3_first_X2 (by decide) lkX3_first_2 rfl dX3_first_32 ?_
        refine at_iload_n (pc := 35) X 2 2 dX3_first_35 rfl rfl ?_
        refine at_icmp_ne (pc := 36) X 42 dX3_first_36 (by decide) (fun c36 => ?_) (fun c36 => ?_)
        · have h := mm_neg c36 h
          refine at_aload_n (pc := 42) X 0 0 dX3_first_42 rfl rfl ?_
          refine at_get (pc := 43) X 3 6 (.ref (mm_R G a0 6)) ha0 (by decide) rfl inX3_first_X3 (by decide) lkX3_first_3 rfl dX3_first_43 ?_
          refine at_iconst (pc := 46) X (1 : Int32) dX3_first_46 ic_1 ?_
          obtain ⟨q47, hq47, h⟩ := mm_bind h
          refine at_calli (n := 1) (pc := 47) X 1 [.int (1 : Int32)] [] (mX1_hasRoomFor (eL E) X.wf (wf_3_6 X.wf ha0) hq47) gX3_first_X1_hasRoomFor rfl ⟨rfl, rfl⟩ (by decide +kernel) ⟨by decide, by decide⟩ (by decide) rfl (wf_3_6 X.wf ha0) rfl rfl (Nat.le_of_ble_eq_true rfl) dX3_first_47 ?_
          refine at_if_ne (pc := 50) X 56 dX3_first_50 (by decide) (fun c50 => ?_) (fun c50 => ?_)
          · have h := mm_neg c50 h
            refine at_aload_n (pc := 56) X 0 0 dX3_first_56 rfl rfl ?_
            refine at_iconst (pc := 57) X (4 : Int32) dX3_first_57 ic_4 ?_
            refine at_iload_n (pc := 58) X 1 1 dX3_first_58 rfl rfl ?_
            refine at_iload_n (pc := 59) X 2 2 dX3_first_59 rfl rfl ?_
            obtain ⟨q60, hq60, h⟩ := mm_bind h
            refine at_scalli (n := 3) (pc := 60) X [.int (4 : Int32), .int x1, .int x2] [.ref a0] (mX3_deedOf (eL E) X.wf hq60) gX3_first_X3_deedOf rfl ⟨rfl, rfl⟩ (by decide +kernel) ⟨by decide, by decide⟩ rfl rfl (Nat.le_of_ble_eq_true rfl) dX3_first_60 ?_
            obtain ⟨q63, hq63, h⟩ := mm_bind h
            refine at_calli (n := 1) (pc := 63) X 3 [.int q60.1] [] (mX3_carryOut (eL E) X.wf ha0 hq63) gX3_first_X3_carryOut rfl ⟨rfl, rfl⟩ (by decide +kernel) ⟨by decide, by decide⟩ (by decide) rfl ha0 rfl rfl (Nat.le_of_ble_eq_true rfl) dX3_first_63 ?_
            exact at_iret (pc := 66) X (Option.some.inj h) dX3_first_66
          · have h := mm_pos c50 h
            refine at_bipush (pc := 53) X (-2 : Int32) dX3_first_53 ib_m2 ?_
            exact at_iret (pc := 55) X (Option.some.inj h) dX3_first_55
        · have h := mm_pos c36 h
          refine at_bipush (pc := 39) X (-4 : Int32) dX3_first_39 ib_m4 ?_
          exact at_iret (pc := 41) X (Option.some.inj h) dX3_first_41
      · have h := mm_neg c18 h
        refine at_iconst (pc := 21) X (-1 : Int32) dX3_first_21 ic_m1 ?_
        exact at_iret (pc := 22) X (Option.some.inj h) dX3_first_22
set_option maxHeartbeats 4000000 in
set_option maxRecDepth 100000 in
theorem mX3_first (l : Launch) {G : mm_G} (hwf : mm_WF G) {a0 : Nat} {x1 : Int32} {x2 : Int32} {σ : mm_M} {q : (Int32 × mm_M)} (ha0 : mm_Is G 3 a0) (h : fX3_first G a0 x1 x2 σ = some q) : mm_Mi l yX3_first wsX3_first rmX3_first G [.ref a0, .int x1, .int x2] σ q := by
  refine mm_ofi (cc := cX3_first) (nL := 3) (ret := some .int) (own := RX3) (lv0 := [(0, .ref a0), (1, .int x1), (2, .int x2)]) (by decide) rfl rfl (Nat.le_of_ble_eq_true rfl) rfl hwf (fun E hE X => ?_)
  exact wX3_first_b0 X ha0 h
set_option maxRecDepth 20000 in
theorem ggX3_goOnFromStart_X0_become : GoodIn wsX3_goOnFromStart wsX0_become := goodIn_r _ [10, 11, 12, 13, 14, 15, 16, 17, 18, 19, 20, 21, 22, 23, 24, 25, 26, 27, 113, 114, 115, 116, 117, 118, 119, 120, 121, 122, 123, 124] (by decide +kernel) (by decide +kernel)
set_option maxRecDepth 20000 in
theorem gX3_goOnFromStart_X0_become : GoodIn wsX3_goOnFromStart (wsV RX3 108 RX0 yX0_become wsX0_become) := goodIn_app (goodIn_of _ (by decide +kernel)) ggX3_goOnFromStart_X0_become
set_option maxRecDepth 20000 in
theorem ggX3_goOnFromStart_X0_act : GoodIn wsX3_goOnFromStart wsX0_act := goodIn_r _ [31, 16, 32, 33, 34, 35, 36, 9, 37, 11, 38, 39, 40, 41, 42, 13, 12, 14, 15, 43, 44, 45, 46, 47, 48, 49, 20, 50, 25, 26, 51, 52, 53, 54, 22, 55, 56, 57, 58, 59, 60, 61, 62, 63, 64, 65, 27, 66, 67, 68, 69, 70, 71, 72, 73, 74, 75, 76, 77, 23, 24, 78, 79, 80, 81, 82, 83, 84, 85, 86, 87, 88, 89, 90, 91, 92, 93, 113, 114, 115, 116, 117, 118, 119, 120, 121, 122, 123, 124] (by decide +kernel) (by decide +kernel)
set_option maxRecDepth 20000 in
theorem gX3_goOnFromStart_X0_act : GoodIn wsX3_goOnFromStart (wsV RX3 236 RX0 yX0_act wsX0_act) := goodIn_app (goodIn_of _ (by decide +kernel)) ggX3_goOnFromStart_X0_act
theorem dX3_goOnFromStart_0 : decode cX3_goOnFromStart 0 = .ok (.aload_n 0, 1) := by decide +kernel
theorem dX3_goOnFromStart_1 : decode cX3_goOnFromStart 1 = .ok (.getfield 33, 3) := by decide +kernel
theorem dX3_goOnFromStart_4 : decode cX3_goOnFromStart 4 = .ok (.aload_n 0, 1) := by decide +kernel
theorem dX3_goOnFromStart_5 : decode cX3_goOnFromStart 5 = .ok (.getfield 29, 3) := by decide +kernel
theorem dX3_goOnFromStart_8 : decode cX3_goOnFromStart 8 = .ok (.invokevirtual 108, 3) := by decide +kernel
theorem dX3_goOnFromStart_11 : decode cX3_goOnFromStart 11 = .ok (.iconst 0, 1) := by decide +kernel
theorem dX3_goOnFromStart_12 : decode cX3_goOnFromStart 12 = .ok (.istore_n 1, 1) := by decide +kernel
theorem dX3_goOnFromStart_13 : decode cX3_goOnFromStart 13 = .ok (.iload_n 1, 1) := by decide +kernel
theorem dX3_goOnFromStart_14 : decode cX3_goOnFromStart 14 = .ok (.aload_n 0, 1) := by decide +kernel
theorem dX3_goOnFromStart_15 : decode cX3_goOnFromStart 15 = .ok (.getfield 39, 3) := by decide +kernel
theorem dX3_goOnFromStart_18 : decode cX3_goOnFromStart 18 = .ok (.getfield 76, 3) := by decide +kernel
theorem dX3_goOnFromStart_21 : decode cX3_goOnFromStart 21 = .ok (.if_icmp .ge 26, 3) := by decide +kernel
theorem dX3_goOnFromStart_24 : decode cX3_goOnFromStart 24 = .ok (.aload_n 0, 1) := by decide +kernel
theorem dX3_goOnFromStart_25 : decode cX3_goOnFromStart 25 = .ok (.getfield 33, 3) := by decide +kernel
theorem dX3_goOnFromStart_28 : decode cX3_goOnFromStart 28 = .ok (.aload_n 0, 1) := by decide +kernel
theorem dX3_goOnFromStart_29 : decode cX3_goOnFromStart 29 = .ok (.getfield 39, 3) := by decide +kernel
theorem dX3_goOnFromStart_32 : decode cX3_goOnFromStart 32 = .ok (.getfield 239, 3) := by decide +kernel
theorem dX3_goOnFromStart_35 : decode cX3_goOnFromStart 35 = .ok (.iload_n 1, 1) := by decide +kernel
theorem dX3_goOnFromStart_36 : decode cX3_goOnFromStart 36 = .ok (.iaload, 1) := by decide +kernel
theorem dX3_goOnFromStart_37 : decode cX3_goOnFromStart 37 = .ok (.invokevirtual 236, 3) := by decide +kernel
theorem dX3_goOnFromStart_40 : decode cX3_goOnFromStart 40 = .ok (.pop, 1) := by decide +kernel
theorem dX3_goOnFromStart_41 : decode cX3_goOnFromStart 41 = .ok (.iinc 1 1, 3) := by decide +kernel
theorem dX3_goOnFromStart_44 : decode cX3_goOnFromStart 44 = .ok (.goto (-31), 3) := by decide +kernel
theorem dX3_goOnFromStart_47 : decode cX3_goOnFromStart 47 = .ok (.return_, 1) := by decide +kernel
/-! X3_goOnFromStart ()V -/
abbrev rmX3_goOnFromStart : Room := { frames := 6, cells := 0, slots := 0, locals := 132 }
theorem lkX3_goOnFromStart_0 : Cond.fieldLink RX3 33 (TX3 5).1 (TX3 5).2.1 (TX3 5).2.2.1 ∈ wsX3_goOnFromStart := by decide +kernel
theorem lkX3_goOnFromStart_1 : Cond.fieldLink RX3 29 (TX3 4).1 (TX3 4).2.1 (TX3 4).2.2.1 ∈ wsX3_goOnFromStart := by decide +kernel
theorem lkX3_goOnFromStart_2 : Cond.fieldLink RX3 39 (TX3 6).1 (TX3 6).2.1 (TX3 6).2.2.1 ∈ wsX3_goOnFromStart := by decide +kernel
theorem lkX3_goOnFromStart_3 : Cond.fieldLink RX3 76 (TX1 1).1 (TX1 1).2.1 (TX1 1).2.2.1 ∈ wsX3_goOnFromStart := by decide +kernel
theorem lkX3_goOnFromStart_4 : Cond.fieldLink RX3 239 (TX1 0).1 (TX1 0).2.1 (TX1 0).2.2.1 ∈ wsX3_goOnFromStart := by decide +kernel
theorem inX3_goOnFromStart_X3 : ∀ w ∈ u_ws RX3 TX3 17, w ∈ wsX3_goOnFromStart := by decide +kernel
theorem inX3_goOnFromStart_X1 : ∀ w ∈ u_ws RX1 TX1 2, w ∈ wsX3_goOnFromStart := by decide +kernel
noncomputable def fX3_goOnFromStart_b13 (G : mm_G) (a0 : Nat) (x1 : Int32) (σ : mm_M) : Option (mm_M ⊕ (Int32 × mm_M)) := if x1 < (σ.1 (mm_R G a0 6) 1) then (if x1 < 0 ∨ mm_N G (mm_R G (mm_R G a0 6) 0) ≤ x1.toNatClampNeg then none else ((fX0_act G (mm_R G a0 5) (σ.1 (mm_R G (mm_R G a0 6) 0) x1.toNatClampNeg) σ).bind (fun q37 => some (.inr (x1 + 1, q37.2))))) else (some (.inl σ))
noncomputable def fX3_goOnFromStart_b0 (G : mm_G) (a0 : Nat) (σ : mm_M) : Option (mm_M ⊕ (Int32 × mm_M)) := (fX0_become G (mm_R G a0 5) (mm_R G a0 4) σ).bind (fun q8 => some (.inr ((0 : Int32), q8)))
noncomputable def fX3_goOnFromStart_s (G : mm_G) (a0 : Nat) : (Int32 × mm_M) → Option (mm_M ⊕ (Int32 × mm_M)) := (fun s => fX3_goOnFromStart_b13 G a0 s.1 s.2)
def PX3_goOnFromStart (E : mm_E) (G : mm_G) (a0 : Nat) (q : mm_M) : (Int32 × mm_M) → Prop := (fun s => mm_At E G 2 (mm_Qv E G q) s.2 13 [(0, .ref a0), (1, .int s.1)] [])
noncomputable def fX3_goOnFromStart (G : mm_G) (a0 : Nat) (σ : mm_M) : Option mm_M := mm_run (fX3_goOnFromStart_b0 G a0 σ) (fX3_goOnFromStart_s G a0)
set_option maxHeartbeats 4000000 in
set_option maxRecDepth 100000 in
theorem wX3_goOnFromStart_b13 {E : mm_E} {G : mm_G} (X : mm_Cx E G cX3_goOnFromStart 2 RX3 wsX3_goOnFromStart rmX3_goOnFromStart (none)) {a0 : Nat} {x1 : Int32} {σ : mm_M} {q : mm_M} (ha0 : mm_Is G 3 a0) {o : mm_M ⊕ (Int32 × mm_M)} (h : fX3_goOnFromStart_b13 G a0 x1 σ = some o) (hk : mm_Ok q (PX3_goOnFromStart E G a0 q) o) : mm_At E G 2 (mm_Qv E G q) σ 13 [(0, .ref a0), (1, .int x1)] [] := by
  unfold fX3_goOnFromStart_b13 at h
  refine at_iload_n (pc := 13) X 1 1 dX3_goOnFromStart_13 rfl rfl ?_
  refine at_aload_n (pc := 14) X 0 0 dX3_goOnFromStart_14 rfl rfl ?_
  refine at_get (pc := 15) X 3 6 (.ref (mm_R G a0 6)) ha0 (by decide) rfl inX3_goOnFromStart_X3 (by decide) lkX3_goOnFromStart_2 rfl dX3_goOnFromStart_15 ?_
  refine at_get (pc := 18) X 1 1 (.int (σ.1 (mm_R G a0 6) 1)) (wf_3_6 X.wf ha0) (by decide) rfl inX3_goOnFromStart_X1 (by decide) lkX3_goOnFromStart_3 rfl dX3_goOnFromStart_18 ?_
  refine at_icmp_ge (pc := 21) X 47 dX3_goOnFromStart_21 (by decide) (fun c21 => ?_) (fun c21 => ?_)
  · have h := mm_neg c21 h
    exact at_vret (pc := 47) X (mm_inl h hk) dX3_goOnFromStart_47
  · have h := mm_pos c21 h
    refine at_aload_n (pc := 24) X 0 0 dX3_goOnFromStart_24 rfl rfl ?_
    refine at_get (pc := 25) X 3 5 (.ref (mm_R G a0 5)) ha0 (by decide) rfl inX3_goOnFromStart_X3 (by decide) lkX3_goOnFromStart_0 rfl dX3_goOnFromStart_25 ?_
    refine at_aload_n (pc := 28) X 0 0 dX3_goOnFromStart_28 rfl rfl ?_
    refine at_get (pc := 29) X 3 6 (.ref (mm_R G a0 6)) ha0 (by decide) rfl inX3_goOnFromStart_X3 (by decide) lkX3_goOnFromStart_2 rfl dX3_goOnFromStart_29 ?_
    refine at_get (pc := 32) X 1 0 (.ref (mm_R G (mm_R G a0 6) 0)) (wf_3_6 X.wf ha0) (by decide) rfl inX3_goOnFromStart_X1 (by decide) lkX3_goOnFromStart_4 rfl dX3_goOnFromStart_32 ?_
    refine at_iload_n (pc := 35) X 1 1 dX3_goOnFromStart_35 rfl rfl ?_
    obtain ⟨hc36, h⟩ := mm_chk h
    refine at_iald (pc := 36) X (wf_1_0 X.wf (wf_3_6 X.wf ha0)) hc36 dX3_goOnFromStart_36 ?_
    obtain ⟨q37, hq37, h⟩ := mm_bind h
    refine at_calli (n := 1) (pc := 37) X 0 [.int (σ.1 (mm_R G (mm_R G a0 6) 0) x1.toNatClampNeg)] [] (mX0_act (eL E) X.wf (wf_3_5 X.wf ha0) hq37) gX3_goOnFromStart_X0_act rfl ⟨rfl, rfl⟩ (by decide +kernel) ⟨by decide, by decide⟩ (by decide) rfl (wf_3_5 X.wf ha0) rfl rfl (Nat.le_of_ble_eq_true rfl) dX3_goOnFromStart_37 ?_
    refine at_pop (pc := 40) X dX3_goOnFromStart_40 rfl ?_
    refine at_iinc (pc := 41) X 1 1 (x1 + 1) [(1, .int (x1 + 1)), (0, .ref a0)] dX3_goOnFromStart_41 rfl (ii_1 _) (by decide) rfl ?_
    refine at_goto (pc := 44) X 13 dX3_goOnFromStart_44 (by decide) ?_
    have h2 := mm_inr h hk; exact at_sub [1, 0] rfl h2
set_option maxHeartbeats 4000000 in
set_option maxRecDepth 100000 in
theorem wX3_goOnFromStart_b0 {E : mm_E} {G : mm_G} (X : mm_Cx E G cX3_goOnFromStart 2 RX3 wsX3_goOnFromStart rmX3_goOnFromStart (none)) {a0 : Nat} {σ : mm_M} {q : mm_M} (ha0 : mm_Is G 3 a0) {o : mm_M ⊕ (Int32 × mm_M)} (h : fX3_goOnFromStart_b0 G a0 σ = some o) (hk : mm_Ok q (PX3_goOnFromStart E G a0 q) o) : mm_At E G 2 (mm_Qv E G q) σ 0 [(0, .ref a0)] [] := by
  unfold fX3_goOnFromStart_b0 at h
  refine at_aload_n (pc := 0) X 0 0 dX3_goOnFromStart_0 rfl rfl ?_
  refine at_get (pc := 1) X 3 5 (.ref (mm_R G a0 5)) ha0 (by decide) rfl inX3_goOnFromStart_X3 (by decide) lkX3_goOnFromStart_0 rfl dX3_goOnFromStart_1 ?_
  refine at_aload_n (pc := 4) X 0 0 dX3_goOnFromStart_4 rfl rfl ?_
  refine at_get (pc := 5) X 3 4 (.ref (mm_R G a0 4)) ha0 (by decide) rfl inX3_goOnFromStart_X3 (by decide) lkX3_goOnFromStart_1 rfl dX3_goOnFromStart_5 ?_
  obtain ⟨q8, hq8, h⟩ := mm_bind h
  refine at_callv (n := 1) (pc := 8) X 0 [.ref (mm_R G a0 4)] [] (mX0_become (eL E) X.wf (wf_3_5 X.wf ha0) (wf_3_4 X.wf ha0) hq8) gX3_goOnFromStart_X0_become rfl ⟨rfl, rfl⟩ (by decide +kernel) ⟨by decide, by decide⟩ (by decide) rfl (wf_3_5 X.wf ha0) rfl rfl (Nat.le_of_ble_eq_true rfl) dX3_goOnFromStart_8 ?_
  refine at_iconst (pc := 11) X (0 : Int32) dX3_goOnFromStart_11 ic_0 ?_
  refine at_istore_n (pc := 12) X 1 [(1, .int (0 : Int32)), (0, .ref a0)] dX3_goOnFromStart_12 rfl (by decide) rfl ?_
  have h2 := mm_inr h hk; exact at_sub [1, 0] rfl h2
set_option maxHeartbeats 4000000 in
set_option maxRecDepth 100000 in
theorem mX3_goOnFromStart (l : Launch) {G : mm_G} (hwf : mm_WF G) {a0 : Nat} {σ : mm_M} {q : mm_M} (ha0 : mm_Is G 3 a0) (h : fX3_goOnFromStart G a0 σ = some q) : mm_Mv l yX3_goOnFromStart wsX3_goOnFromStart rmX3_goOnFromStart G [.ref a0] σ q := by
  refine mm_ofv (cc := cX3_goOnFromStart) (nL := 2) (ret := none) (own := RX3) (lv0 := [(0, .ref a0)]) (by decide) rfl rfl (Nat.le_of_ble_eq_true rfl) rfl hwf (fun E hE X => ?_)
  obtain ⟨o, h0, hk⟩ := mm_run_ok (P := PX3_goOnFromStart E G a0 q) h (fun s o hs hk => by exact wX3_goOnFromStart_b13 X ha0 hs hk)
  exact wX3_goOnFromStart_b0 X ha0 h0 hk
set_option maxRecDepth 20000 in
theorem ggX3_undo_X3_goOnFromStart : GoodIn wsX3_undo wsX3_goOnFromStart := goodIn_r _ [7, 8, 9, 1, 2, 10, 11, 12, 13, 14, 15, 16, 17, 18, 19, 20, 21, 22, 23, 24, 25, 26, 27, 28, 29, 30, 31, 32, 33, 34, 35, 36, 37, 38, 39, 40, 41, 42, 43, 44, 45, 46, 47, 48, 49, 50, 51, 52, 53, 54, 55, 56, 57, 58, 59, 60, 61, 62, 63, 64, 65, 66, 67, 68, 69, 70, 71, 72, 73, 74, 75, 76, 77, 78, 79, 80, 81, 82, 83, 84, 85, 86, 87, 88, 89, 90, 91, 92, 93, 94, 95, 96, 97, 98, 99, 100, 101, 102, 103, 104, 105, 106, 107, 108, 109, 110, 111, 112, 113, 114, 115, 116, 117, 118, 119, 120, 121, 122, 123, 124, 125, 126, 127, 128, 129] (by decide +kernel) (by decide +kernel)
set_option maxRecDepth 20000 in
theorem gX3_undo_X3_goOnFromStart : GoodIn wsX3_undo (wsV RX3 156 RX3 yX3_goOnFromStart wsX3_goOnFromStart) := goodIn_app (goodIn_of _ (by decide +kernel)) ggX3_undo_X3_goOnFromStart
theorem dX3_undo_0 : decode cX3_undo 0 = .ok (.iload_n 1, 1) := by decide +kernel
theorem dX3_undo_1 : decode cX3_undo 1 = .ok (.ifCond .lt 14, 3) := by decide +kernel
theorem dX3_undo_4 : decode cX3_undo 4 = .ok (.iload_n 1, 1) := by decide +kernel
theorem dX3_undo_5 : decode cX3_undo 5 = .ok (.aload_n 0, 1) := by decide +kernel
theorem dX3_undo_6 : decode cX3_undo 6 = .ok (.getfield 39, 3) := by decide +kernel
theorem dX3_undo_9 : decode cX3_undo 9 = .ok (.getfield 76, 3) := by decide +kernel
theorem dX3_undo_12 : decode cX3_undo 12 = .ok (.if_icmp .le 5, 3) := by decide +kernel
theorem dX3_undo_15 : decode cX3_undo 15 = .ok (.iconst (-1), 1) := by decide +kernel
theorem dX3_undo_16 : decode cX3_undo 16 = .ok (.ireturn, 1) := by decide +kernel
theorem dX3_undo_17 : decode cX3_undo 17 = .ok (.aload_n 0, 1) := by decide +kernel
theorem dX3_undo_18 : decode cX3_undo 18 = .ok (.getfield 39, 3) := by decide +kernel
theorem dX3_undo_21 : decode cX3_undo 21 = .ok (.getfield 76, 3) := by decide +kernel
theorem dX3_undo_24 : decode cX3_undo 24 = .ok (.iload_n 1, 1) := by decide +kernel
theorem dX3_undo_25 : decode cX3_undo 25 = .ok (.isub, 1) := by decide +kernel
theorem dX3_undo_26 : decode cX3_undo 26 = .ok (.istore_n 2, 1) := by decide +kernel
theorem dX3_undo_27 : decode cX3_undo 27 = .ok (.aload_n 0, 1) := by decide +kernel
theorem dX3_undo_28 : decode cX3_undo 28 = .ok (.getfield 39, 3) := by decide +kernel
theorem dX3_undo_31 : decode cX3_undo 31 = .ok (.iload_n 1, 1) := by decide +kernel
theorem dX3_undo_32 : decode cX3_undo 32 = .ok (.putfield 76, 3) := by decide +kernel
theorem dX3_undo_35 : decode cX3_undo 35 = .ok (.aload_n 0, 1) := by decide +kernel
theorem dX3_undo_36 : decode cX3_undo 36 = .ok (.invokevirtual 156, 3) := by decide +kernel
theorem dX3_undo_39 : decode cX3_undo 39 = .ok (.iload_n 2, 1) := by decide +kernel
theorem dX3_undo_40 : decode cX3_undo 40 = .ok (.ireturn, 1) := by decide +kernel
/-! X3_undo (I)I -/
abbrev rmX3_undo : Room := { frames := 7, cells := 0, slots := 0, locals := 153 }
theorem lkX3_undo_0 : Cond.fieldLink RX3 39 (TX3 6).1 (TX3 6).2.1 (TX3 6).2.2.1 ∈ wsX3_undo := by decide +kernel
theorem lkX3_undo_1 : Cond.fieldLink RX3 76 (TX1 1).1 (TX1 1).2.1 (TX1 1).2.2.1 ∈ wsX3_undo := by decide +kernel
theorem inX3_undo_X3 : ∀ w ∈ u_ws RX3 TX3 17, w ∈ wsX3_undo := by decide +kernel
theorem inX3_undo_X1 : ∀ w ∈ u_ws RX1 TX1 2, w ∈ wsX3_undo := by decide +kernel
noncomputable def fX3_undo (G : mm_G) (a0 : Nat) (x1 : Int32) (σ : mm_M) : Option (Int32 × mm_M) := if x1 < 0 then (some ((-1 : Int32), σ)) else (if (σ.1 (mm_R G a0 6) 1) < x1 then (some ((-1 : Int32), σ)) else ((fX3_goOnFromStart G a0 (mm_up σ (mm_R G a0 6) 1 x1)).bind (fun q36 => some ((σ.1 (mm_R G a0 6) 1) - x1, q36))))
set_option maxHeartbeats 4000000 in
set_option maxRecDepth 100000 in
theorem wX3_undo_b0 {E : mm_E} {G : mm_G} (X : mm_Cx E G cX3_undo 3 RX3 wsX3_undo rmX3_undo (some .int)) {a0 : Nat} {x1 : Int32} {σ : mm_M} {q : (Int32 × mm_M)} (ha0 : mm_Is G 3 a0) (h : fX3_undo G a0 x1 σ = some q) : mm_At E G 3 (mm_Qi E G q) σ 0 [(0, .ref a0), (1, .int x1)] [] := by
  unfold fX3_undo at h
  refine at_iload_n (pc := 0) X 1 1 dX3_undo_0 rfl rfl ?_
  refine at_if_lt (pc := 1) X 15 dX3_undo_1 (by decide) (fun c1 => ?_) (fun c1 => ?_)
  · have h := mm_pos c1 h
    refine at_iconst (pc := 15) X (-1 : Int32) dX3_undo_15 ic_m1 ?_
    exact at_iret (pc := 16) X (Option.some.inj h) dX3_undo_16
  · have h := mm_neg c1 h
    refine at_iload_n (pc := 4) X 1 1 dX3_undo_4 rfl rfl ?_
    refine at_aload_n (pc := 5) X 0 0 dX3_undo_5 rfl rfl ?_
    refine at_get (pc := 6) X 3 6 (.ref (mm_R G a0 6)) ha0 (by decide) rfl inX3_undo_X3 (by decide) lkX3_undo_0 rfl dX3_undo_6 ?_
    refine at_get (pc := 9) X 1 1 (.int (σ.1 (mm_R G a0 6) 1)) (wf_3_6 X.wf ha0) (by decide) rfl inX3_undo_X1 (by decide) lkX3_undo_1 rfl dX3_undo_9 ?_
    refine at_icmp_le (pc := 12) X 17 dX3_undo_12 (by decide) (fun c12 => ?_) (fun c12 => ?_)
    · have h := mm_neg c12 h
      refine at_aload_n (pc := 17) X 0 0 dX3_undo_17 rfl rfl ?_
      refine at_get (pc := 18) X 3 6 (.ref (mm_R G a0 6)) ha0 (by decide) rfl inX3_undo_X3 (by decide) lkX3_undo_0 rfl dX3_undo_18 ?_
      refine at_get (pc := 21) X 1 1 (.int (σ.1 (mm_R G a0 6) 1)) (wf_3_6 X.wf ha0) (by decide) rfl inX3_undo_X1 (by decide) lkX3_undo_1 rfl dX3_undo_21 ?_
      refine at_iload_n (pc := 24) X 1 1 dX3_undo_24 rfl rfl ?_
      refine at_isub (pc := 25) X dX3_undo_25 ?_
      refine at_istore_n (pc := 26) X 2 [(2, .int ((σ.1 (mm_R G a0 6) 1) - x1)), (0, .ref a0), (1, .int x1)] dX3_undo_26 rfl (by decide) rfl ?_
      refine at_aload_n (pc := 27) X 0 1 dX3_undo_27 rfl rfl ?_
      refine at_get (pc := 28) X 3 6 (.ref (mm_R G a0 6)) ha0 (by decide) rfl inX3_undo_X3 (by decide) lkX3_undo_0 rfl dX3_undo_28 ?_
      refine at_iload_n (pc := 31) X 1 2 dX3_undo_31 rfl rfl ?_
      refine at_put (pc := 32) X 1 1 (wf_3_6 X.wf ha0) (by decide) rfl inX3_undo_X1 tyX1 tyX1_ok nmX1 (by decide) lkX3_undo_1 rfl (ty := .int) rfl rfl rfl (Nat.le_of_ble_eq_true rfl) (ms_1_1 G _ _ _) mm_up_ne dX3_undo_32 ?_
      refine at_aload_n (pc := 35) X 0 1 dX3_undo_35 rfl rfl ?_
      obtain ⟨q36, hq36, h⟩ := mm_bind h
      refine at_callv (n := 0) (pc := 36) X 3 [] [] (mX3_goOnFromStart (eL E) X.wf ha0 hq36) gX3_undo_X3_goOnFromStart rfl ⟨rfl, rfl⟩ (by decide +kernel) ⟨by decide, by decide⟩ (by decide) rfl ha0 rfl rfl (Nat.le_of_ble_eq_true rfl) dX3_undo_36 ?_
      refine at_iload_n (pc := 39) X 2 0 dX3_undo_39 rfl rfl ?_
      exact at_iret (pc := 40) X (Option.some.inj h) dX3_undo_40
    · have h := mm_pos c12 h
      refine at_iconst (pc := 15) X (-1 : Int32) dX3_undo_15 ic_m1 ?_
      exact at_iret (pc := 16) X (Option.some.inj h) dX3_undo_16
set_option maxHeartbeats 4000000 in
set_option maxRecDepth 100000 in
theorem mX3_undo (l : Launch) {G : mm_G} (hwf : mm_WF G) {a0 : Nat} {x1 : Int32} {σ : mm_M} {q : (Int32 × mm_M)} (ha0 : mm_Is G 3 a0) (h : fX3_undo G a0 x1 σ = some q) : mm_Mi l yX3_undo wsX3_undo rmX3_undo G [.ref a0, .int x1] σ q := by
  refine mm_ofi (cc := cX3_undo) (nL := 3) (ret := some .int) (own := RX3) (lv0 := [(0, .ref a0), (1, .int x1)]) (by decide) rfl rfl (Nat.le_of_ble_eq_true rfl) rfl hwf (fun E hE X => ?_)
  exact wX3_undo_b0 X ha0 h
theorem dX3_isKept_0 : decode cX3_isKept 0 = .ok (.iload_n 0, 1) := by decide +kernel
theorem dX3_isKept_1 : decode cX3_isKept 1 = .ok (.ifCond .lt 12, 3) := by decide +kernel
theorem dX3_isKept_4 : decode cX3_isKept 4 = .ok (.iload_n 0, 1) := by decide +kernel
theorem dX3_isKept_5 : decode cX3_isKept 5 = .ok (.iconst 3, 1) := by decide +kernel
theorem dX3_isKept_6 : decode cX3_isKept 6 = .ok (.if_icmp .ge 7, 3) := by decide +kernel
theorem dX3_isKept_9 : decode cX3_isKept 9 = .ok (.iconst 1, 1) := by decide +kernel
theorem dX3_isKept_10 : decode cX3_isKept 10 = .ok (.goto 4, 3) := by decide +kernel
theorem dX3_isKept_13 : decode cX3_isKept 13 = .ok (.iconst 0, 1) := by decide +kernel
theorem dX3_isKept_14 : decode cX3_isKept 14 = .ok (.ireturn, 1) := by decide +kernel
/-! X3_isKept (I)Z -/
abbrev rmX3_isKept : Room := { frames := 0, cells := 0, slots := 0, locals := 0 }
noncomputable def fX3_isKept (G : mm_G) (x0 : Int32) (σ : mm_M) : Option (Int32 × mm_M) := if ¬ ((if x0 < 0 then (0 : Int32) else if x0 < (3 : Int32) then (1 : Int32) else (0 : Int32)) = 0 ∨ (if x0 < 0 then (0 : Int32) else if x0 < (3 : Int32) then (1 : Int32) else (0 : Int32)) = 1) then none else (some (if x0 < 0 then (0 : Int32) else if x0 < (3 : Int32) then (1 : Int32) else (0 : Int32), σ))
set_option maxHeartbeats 4000000 in
set_option maxRecDepth 100000 in
theorem wX3_isKept_b0 {E : mm_E} {G : mm_G} (X : mm_Cx E G cX3_isKept 1 RX3 wsX3_isKept rmX3_isKept (some .boolean)) {x0 : Int32} {σ : mm_M} {q : (Int32 × mm_M)} (h : fX3_isKept G x0 σ = some q) : mm_At E G 1 (mm_Qi E G q) σ 0 [(0, .int x0)] [] := by
  unfold fX3_isKept at h
  refine at_iload_n (pc := 0) X 0 0 dX3_isKept_0 rfl rfl ?_
  have hj1 : mm_At E G 1 (mm_Qi E G q) σ 14 [] [.int (if x0 < 0 then (0 : Int32) else if x0 < (3 : Int32) then (1 : Int32) else (0 : Int32))] := by
    obtain ⟨hg14, h⟩ := mm_chk h
    exact at_zret (pc := 14) X (Classical.not_not.mp hg14) (Option.some.inj h) dX3_isKept_14
  refine at_if_lt (pc := 1) X 13 dX3_isKept_1 (by decide) (fun c1 => ?_) (fun c1 => ?_)
  · try simp only [if_pos c1] at hj1
    refine at_iconst (pc := 13) X (0 : Int32) dX3_isKept_13 ic_0 ?_
    exact at_sub [] rfl hj1
  · try simp only [if_neg c1] at hj1
    refine at_iload_n (pc := 4) X 0 0 dX3_isKept_4 rfl rfl ?_
    refine at_iconst (pc := 5) X (3 : Int32) dX3_isKept_5 ic_3 ?_
    refine at_icmp_ge (pc := 6) X 13 dX3_isKept_6 (by decide) (fun c6 => ?_) (fun c6 => ?_)
    · try simp only [if_neg c6] at hj1
      refine at_iconst (pc := 13) X (0 : Int32) dX3_isKept_13 ic_0 ?_
      exact at_sub [] rfl hj1
    · try simp only [if_pos c6] at hj1
      refine at_iconst (pc := 9) X (1 : Int32) dX3_isKept_9 ic_1 ?_
      refine at_goto (pc := 10) X 14 dX3_isKept_10 (by decide) ?_
      exact at_sub [] rfl hj1
set_option maxHeartbeats 4000000 in
set_option maxRecDepth 100000 in
theorem mX3_isKept (l : Launch) {G : mm_G} (hwf : mm_WF G) {x0 : Int32} {σ : mm_M} {q : (Int32 × mm_M)} (h : fX3_isKept G x0 σ = some q) : mm_Mi l yX3_isKept wsX3_isKept rmX3_isKept G [.int x0] σ q := by
  refine mm_ofi (cc := cX3_isKept) (nL := 1) (ret := some .boolean) (own := RX3) (lv0 := [(0, .int x0)]) (by decide) rfl rfl (Nat.le_of_ble_eq_true rfl) rfl hwf (fun E hE X => ?_)
  exact wX3_isKept_b0 X  h
set_option maxRecDepth 20000 in
theorem ggX3_keep_X3_isKept : GoodIn wsX3_keep wsX3_isKept := goodIn_r _ [9] (by decide +kernel) (by decide +kernel)
set_option maxRecDepth 20000 in
theorem gX3_keep_X3_isKept : GoodIn wsX3_keep (va_wsS RX3 159 yX3_isKept wsX3_isKept) := goodIn_app (goodIn_of _ (by decide +kernel)) ggX3_keep_X3_isKept
set_option maxRecDepth 20000 in
theorem ggX3_keep_X1_become : GoodIn wsX3_keep wsX1_become := goodIn_r _ [14, 15, 16, 17, 18, 19, 20, 44, 45] (by decide +kernel) (by decide +kernel)
set_option maxRecDepth 20000 in
theorem gX3_keep_X1_become : GoodIn wsX3_keep (wsV RX3 162 RX1 yX1_become wsX1_become) := goodIn_app (goodIn_of _ (by decide +kernel)) ggX3_keep_X1_become
theorem dX3_keep_0 : decode cX3_keep 0 = .ok (.iload_n 1, 1) := by decide +kernel
theorem dX3_keep_1 : decode cX3_keep 1 = .ok (.invokestatic 159, 3) := by decide +kernel
theorem dX3_keep_4 : decode cX3_keep 4 = .ok (.ifCond .ne 5, 3) := by decide +kernel
theorem dX3_keep_7 : decode cX3_keep 7 = .ok (.iconst (-1), 1) := by decide +kernel
theorem dX3_keep_8 : decode cX3_keep 8 = .ok (.ireturn, 1) := by decide +kernel
theorem dX3_keep_9 : decode cX3_keep 9 = .ok (.aload_n 0, 1) := by decide +kernel
theorem dX3_keep_10 : decode cX3_keep 10 = .ok (.getfield 33, 3) := by decide +kernel
theorem dX3_keep_13 : decode cX3_keep 13 = .ok (.getfield 112, 3) := by decide +kernel
theorem dX3_keep_16 : decode cX3_keep 16 = .ok (.ifCond .ne 6, 3) := by decide +kernel
theorem dX3_keep_19 : decode cX3_keep 19 = .ok (.bipush (-4), 2) := by decide +kernel
theorem dX3_keep_21 : decode cX3_keep 21 = .ok (.ireturn, 1) := by decide +kernel
theorem dX3_keep_22 : decode cX3_keep 22 = .ok (.aload_n 0, 1) := by decide +kernel
theorem dX3_keep_23 : decode cX3_keep 23 = .ok (.getfield 43, 3) := by decide +kernel
theorem dX3_keep_26 : decode cX3_keep 26 = .ok (.iload_n 1, 1) := by decide +kernel
theorem dX3_keep_27 : decode cX3_keep 27 = .ok (.aaload, 1) := by decide +kernel
theorem dX3_keep_28 : decode cX3_keep 28 = .ok (.aload_n 0, 1) := by decide +kernel
theorem dX3_keep_29 : decode cX3_keep 29 = .ok (.getfield 39, 3) := by decide +kernel
theorem dX3_keep_32 : decode cX3_keep 32 = .ok (.invokevirtual 162, 3) := by decide +kernel
theorem dX3_keep_35 : decode cX3_keep 35 = .ok (.aload_n 0, 1) := by decide +kernel
theorem dX3_keep_36 : decode cX3_keep 36 = .ok (.getfield 39, 3) := by decide +kernel
theorem dX3_keep_39 : decode cX3_keep 39 = .ok (.getfield 76, 3) := by decide +kernel
theorem dX3_keep_42 : decode cX3_keep 42 = .ok (.ireturn, 1) := by decide +kernel
/-! X3_keep (I)I -/
abbrev rmX3_keep : Room := { frames := 2, cells := 0, slots := 0, locals := 61 }
theorem lkX3_keep_0 : Cond.fieldLink RX3 33 (TX3 5).1 (TX3 5).2.1 (TX3 5).2.2.1 ∈ wsX3_keep := by decide +kernel
theorem lkX3_keep_1 : Cond.fieldLink RX3 112 (TX0 1).1 (TX0 1).2.1 (TX0 1).2.2.1 ∈ wsX3_keep := by decide +kernel
theorem lkX3_keep_2 : Cond.fieldLink RX3 43 (TX3 7).1 (TX3 7).2.1 (TX3 7).2.2.1 ∈ wsX3_keep := by decide +kernel
theorem lkX3_keep_3 : Cond.fieldLink RX3 39 (TX3 6).1 (TX3 6).2.1 (TX3 6).2.2.1 ∈ wsX3_keep := by decide +kernel
theorem lkX3_keep_4 : Cond.fieldLink RX3 76 (TX1 1).1 (TX1 1).2.1 (TX1 1).2.2.1 ∈ wsX3_keep := by decide +kernel
theorem inX3_keep_X3 : ∀ w ∈ u_ws RX3 TX3 17, w ∈ wsX3_keep := by decide +kernel
theorem inX3_keep_X0 : ∀ w ∈ u_ws RX0 TX0 6, w ∈ wsX3_keep := by decide +kernel
theorem inX3_keep_X1 : ∀ w ∈ u_ws RX1 TX1 2, w ∈ wsX3_keep := by decide +kernel
noncomputable def fX3_keep (G : mm_G) (a0 : Nat) (x1 : Int32) (σ : mm_M) : Option (Int32 × mm_M) := (fX3_isKept G x1 σ).bind (fun q1 => if q1.1 = 0 then (some ((-1 : Int32), q1.2)) else (if (q1.2.1 (mm_R G a0 5) 1) = 0 then (some ((-4 : Int32), q1.2)) else (if x1 < 0 ∨ mm_N G (mm_R G a0 7) ≤ x1.toNatClampNeg then none else ((fX1_become G (mm_R G (mm_R G a0 7) x1.toNatClampNeg) (mm_R G a0 6) q1.2).bind (fun q32 => some (q32.1 (mm_R G a0 6) 1, q32))))))
set_option maxHeartbeats 4000000 in
set_option maxRecDepth 100000 in
theorem wX3_keep_b0 {E : mm_E} {G : mm_G} (X : mm_Cx E G cX3_keep 2 RX3 wsX3_keep rmX3_keep (some .int)) {a0 : Nat} {x1 : Int32} {σ : mm_M} {q : (Int32 × mm_M)} (ha0 : mm_Is G 3 a0) (h : fX3_keep G a0 x1 σ = some q) : mm_At E G 2 (mm_Qi E G q) σ 0 [(0, .ref a0), (1, .int x1)] [] := by
  unfold fX3_keep at h
  refine at_iload_n (pc := 0) X 1 1 dX3_keep_0 rfl rfl ?_
  obtain ⟨q1, hq1, h⟩ := mm_bind h
  refine at_scalli (n := 1) (pc := 1) X [.int x1] [] (mX3_isKept (eL E) X.wf hq1) gX3_keep_X3_isKept rfl ⟨rfl, rfl⟩ (by decide +kernel) ⟨by decide, by decide⟩ rfl rfl (Nat.le_of_ble_eq_true rfl) dX3_keep_1 ?_
  refine at_if_ne (pc := 4) X 9 dX3_keep_4 (by decide) (fun c4 => ?_) (fun c4 => ?_)
  · have h := mm_neg c4 h
    refine at_aload_n (pc := 9) X 0 0 dX3_keep_9 rfl rfl ?_
    refine at_get (pc := 10) X 3 5 (.ref (mm_R G a0 5)) ha0 (by decide) rfl inX3_keep_X3 (by decide) lkX3_keep_0 rfl dX3_keep_10 ?_
    refine at_get (pc := 13) X 0 1 (.int (q1.2.1 (mm_R G a0 5) 1)) (wf_3_5 X.wf ha0) (by decide) rfl inX3_keep_X0 (by decide) lkX3_keep_1 rfl dX3_keep_13 ?_
    refine at_if_ne (pc := 16) X 22 dX3_keep_16 (by decide) (fun c16 => ?_) (fun c16 => ?_)
    · have h := mm_neg c16 h
      refine at_aload_n (pc := 22) X 0 0 dX3_keep_22 rfl rfl ?_
      refine at_get (pc := 23) X 3 7 (.ref (mm_R G a0 7)) ha0 (by decide) rfl inX3_keep_X3 (by decide) lkX3_keep_2 rfl dX3_keep_23 ?_
      refine at_iload_n (pc := 26) X 1 1 dX3_keep_26 rfl rfl ?_
      obtain ⟨hc27, h⟩ := mm_chk h
      refine at_aald (pc := 27) X 7 2 (wf_3_7 X.wf ha0) (by decide) (by decide) rfl rfl hc27 dX3_keep_27 ?_
      refine at_aload_n (pc := 28) X 0 0 dX3_keep_28 rfl rfl ?_
      refine at_get (pc := 29) X 3 6 (.ref (mm_R G a0 6)) ha0 (by decide) rfl inX3_keep_X3 (by decide) lkX3_keep_3 rfl dX3_keep_29 ?_
      obtain ⟨q32, hq32, h⟩ := mm_bind h
      refine at_callv (n := 1) (pc := 32) X 1 [.ref (mm_R G a0 6)] [] (mX1_become (eL E) X.wf (wf_7 X.wf (wf_3_7 X.wf ha0) hc27) (wf_3_6 X.wf ha0) hq32) gX3_keep_X1_become rfl ⟨rfl, rfl⟩ (by decide +kernel) ⟨by decide, by decide⟩ (by decide) rfl (wf_7 X.wf (wf_3_7 X.wf ha0) hc27) rfl rfl (Nat.le_of_ble_eq_true rfl) dX3_keep_32 ?_
      refine at_aload_n (pc := 35) X 0 0 dX3_keep_35 rfl rfl ?_
      refine at_get (pc := 36) X 3 6 (.ref (mm_R G a0 6)) ha0 (by decide) rfl inX3_keep_X3 (by decide) lkX3_keep_3 rfl dX3_keep_36 ?_
      refine at_get (pc := 39) X 1 1 (.int (q32.1 (mm_R G a0 6) 1)) (wf_3_6 X.wf ha0) (by decide) rfl inX3_keep_X1 (by decide) lkX3_keep_4 rfl dX3_keep_39 ?_
      exact at_iret (pc := 42) X (Option.some.inj h) dX3_keep_42
    · have h := mm_pos c16 h
      refine at_bipush (pc := 19) X (-4 : Int32) dX3_keep_19 ib_m4 ?_
      exact at_iret (pc := 21) X (Option.some.inj h) dX3_keep_21
  · have h := mm_pos c4 h
    refine at_iconst (pc := 7) X (-1 : Int32) dX3_keep_7 ic_m1 ?_
    exact at_iret (pc := 8) X (Option.some.inj h) dX3_keep_8
set_option maxHeartbeats 4000000 in
set_option maxRecDepth 100000 in
theorem mX3_keep (l : Launch) {G : mm_G} (hwf : mm_WF G) {a0 : Nat} {x1 : Int32} {σ : mm_M} {q : (Int32 × mm_M)} (ha0 : mm_Is G 3 a0) (h : fX3_keep G a0 x1 σ = some q) : mm_Mi l yX3_keep wsX3_keep rmX3_keep G [.ref a0, .int x1] σ q := by
  refine mm_ofi (cc := cX3_keep) (nL := 2) (ret := some .int) (own := RX3) (lv0 := [(0, .ref a0), (1, .int x1)]) (by decide) rfl rfl (Nat.le_of_ble_eq_true rfl) rfl hwf (fun E hE X => ?_)
  exact wX3_keep_b0 X ha0 h
set_option maxRecDepth 20000 in
theorem ggX3_on_X3_isKept : GoodIn wsX3_on wsX3_isKept := goodIn_r _ [7] (by decide +kernel) (by decide +kernel)
set_option maxRecDepth 20000 in
theorem gX3_on_X3_isKept : GoodIn wsX3_on (va_wsS RX3 159 yX3_isKept wsX3_isKept) := goodIn_app (goodIn_of _ (by decide +kernel)) ggX3_on_X3_isKept
set_option maxRecDepth 20000 in
theorem ggX3_on_X3_found : GoodIn wsX3_on wsX3_found := goodIn_r _ [11, 12, 13, 120, 121, 122, 123, 124, 125, 126, 127, 128, 129, 130, 131, 132, 133, 134, 135, 136] (by decide +kernel) (by decide +kernel)
set_option maxRecDepth 20000 in
theorem gX3_on_X3_found : GoodIn wsX3_on (wsV RX3 83 RX3 yX3_found wsX3_found) := goodIn_app (goodIn_of _ (by decide +kernel)) ggX3_on_X3_found
set_option maxRecDepth 20000 in
theorem ggX3_on_X1_become : GoodIn wsX3_on wsX1_become := goodIn_r _ [18, 19, 20, 21, 22, 23, 24, 137, 138] (by decide +kernel) (by decide +kernel)
set_option maxRecDepth 20000 in
theorem gX3_on_X1_become : GoodIn wsX3_on (wsV RX3 162 RX1 yX1_become wsX1_become) := goodIn_app (goodIn_of _ (by decide +kernel)) ggX3_on_X1_become
set_option maxRecDepth 20000 in
theorem ggX3_on_X3_goOnFromStart : GoodIn wsX3_on wsX3_goOnFromStart := goodIn_r _ [28, 29, 30, 3, 2, 31, 32, 33, 34, 35, 36, 37, 38, 39, 40, 41, 42, 43, 44, 45, 46, 47, 48, 49, 50, 51, 52, 53, 54, 55, 56, 57, 58, 59, 60, 61, 62, 63, 64, 65, 66, 67, 68, 69, 70, 71, 72, 73, 74, 75, 76, 77, 78, 79, 80, 81, 82, 83, 84, 85, 86, 87, 88, 89, 90, 91, 92, 93, 94, 95, 96, 97, 98, 99, 100, 101, 102, 103, 104, 105, 106, 107, 108, 109, 110, 111, 112, 113, 114, 115, 116, 117, 118, 119, 120, 121, 122, 123, 124, 125, 126, 127, 128, 129, 130, 131, 132, 133, 134, 135, 136, 137, 138, 139, 140, 141, 142, 143, 144, 145, 146, 147, 148, 149, 150] (by decide +kernel) (by decide +kernel)
set_option maxRecDepth 20000 in
theorem gX3_on_X3_goOnFromStart : GoodIn wsX3_on (wsV RX3 156 RX3 yX3_goOnFromStart wsX3_goOnFromStart) := goodIn_app (goodIn_of _ (by decide +kernel)) ggX3_on_X3_goOnFromStart
theorem dX3_on_0 : decode cX3_on 0 = .ok (.iload_n 1, 1) := by decide +kernel
theorem dX3_on_1 : decode cX3_on 1 = .ok (.invokestatic 159, 3) := by decide +kernel
theorem dX3_on_4 : decode cX3_on 4 = .ok (.ifCond .ne 5, 3) := by decide +kernel
theorem dX3_on_7 : decode cX3_on 7 = .ok (.iconst (-1), 1) := by decide +kernel
theorem dX3_on_8 : decode cX3_on 8 = .ok (.ireturn, 1) := by decide +kernel
theorem dX3_on_9 : decode cX3_on 9 = .ok (.aload_n 0, 1) := by decide +kernel
theorem dX3_on_10 : decode cX3_on 10 = .ok (.getfield 43, 3) := by decide +kernel
theorem dX3_on_13 : decode cX3_on 13 = .ok (.iload_n 1, 1) := by decide +kernel
theorem dX3_on_14 : decode cX3_on 14 = .ok (.aaload, 1) := by decide +kernel
theorem dX3_on_15 : decode cX3_on 15 = .ok (.getfield 76, 3) := by decide +kernel
theorem dX3_on_18 : decode cX3_on 18 = .ok (.iconst (-1), 1) := by decide +kernel
theorem dX3_on_19 : decode cX3_on 19 = .ok (.if_icmp .ne 9, 3) := by decide +kernel
theorem dX3_on_22 : decode cX3_on 22 = .ok (.aload_n 0, 1) := by decide +kernel
theorem dX3_on_23 : decode cX3_on 23 = .ok (.iconst 1, 1) := by decide +kernel
theorem dX3_on_24 : decode cX3_on 24 = .ok (.invokevirtual 83, 3) := by decide +kernel
theorem dX3_on_27 : decode cX3_on 27 = .ok (.ireturn, 1) := by decide +kernel
theorem dX3_on_28 : decode cX3_on 28 = .ok (.aload_n 0, 1) := by decide +kernel
theorem dX3_on_29 : decode cX3_on 29 = .ok (.getfield 39, 3) := by decide +kernel
theorem dX3_on_32 : decode cX3_on 32 = .ok (.aload_n 0, 1) := by decide +kernel
theorem dX3_on_33 : decode cX3_on 33 = .ok (.getfield 43, 3) := by decide +kernel
theorem dX3_on_36 : decode cX3_on 36 = .ok (.iload_n 1, 1) := by decide +kernel
theorem dX3_on_37 : decode cX3_on 37 = .ok (.aaload, 1) := by decide +kernel
theorem dX3_on_38 : decode cX3_on 38 = .ok (.invokevirtual 162, 3) := by decide +kernel
theorem dX3_on_41 : decode cX3_on 41 = .ok (.aload_n 0, 1) := by decide +kernel
theorem dX3_on_42 : decode cX3_on 42 = .ok (.invokevirtual 156, 3) := by decide +kernel
theorem dX3_on_45 : decode cX3_on 45 = .ok (.aload_n 0, 1) := by decide +kernel
theorem dX3_on_46 : decode cX3_on 46 = .ok (.getfield 39, 3) := by decide +kernel
theorem dX3_on_49 : decode cX3_on 49 = .ok (.getfield 76, 3) := by decide +kernel
theorem dX3_on_52 : decode cX3_on 52 = .ok (.ireturn, 1) := by decide +kernel
/-! X3_on (I)I -/
abbrev rmX3_on : Room := { frames := 7, cells := 0, slots := 0, locals := 153 }
theorem lkX3_on_0 : Cond.fieldLink RX3 43 (TX3 7).1 (TX3 7).2.1 (TX3 7).2.2.1 ∈ wsX3_on := by decide +kernel
theorem lkX3_on_1 : Cond.fieldLink RX3 76 (TX1 1).1 (TX1 1).2.1 (TX1 1).2.2.1 ∈ wsX3_on := by decide +kernel
theorem lkX3_on_2 : Cond.fieldLink RX3 39 (TX3 6).1 (TX3 6).2.1 (TX3 6).2.2.1 ∈ wsX3_on := by decide +kernel
theorem inX3_on_X3 : ∀ w ∈ u_ws RX3 TX3 17, w ∈ wsX3_on := by decide +kernel
theorem inX3_on_X1 : ∀ w ∈ u_ws RX1 TX1 2, w ∈ wsX3_on := by decide +kernel
noncomputable def fX3_on (G : mm_G) (a0 : Nat) (x1 : Int32) (σ : mm_M) : Option (Int32 × mm_M) := (fX3_isKept G x1 σ).bind (fun q1 => if q1.1 = 0 then (some ((-1 : Int32), q1.2)) else (if x1 < 0 ∨ mm_N G (mm_R G a0 7) ≤ x1.toNatClampNeg then none else (if (q1.2.1 (mm_R G (mm_R G a0 7) x1.toNatClampNeg) 1) = (-1 : Int32) then ((fX3_found G a0 (1 : Int32) q1.2).bind (fun q24 => some (q24.1, q24.2))) else (if x1 < 0 ∨ mm_N G (mm_R G a0 7) ≤ x1.toNatClampNeg then none else ((fX1_become G (mm_R G a0 6) (mm_R G (mm_R G a0 7) x1.toNatClampNeg) q1.2).bind (fun q38 => (fX3_goOnFromStart G a0 q38).bind (fun q42 => some (q42.1 (mm_R G a0 6) 1, q42))))))))
set_option maxHeartbeats 4000000 in
set_option maxRecDepth 100000 in
theorem wX3_on_b0 {E : mm_E} {G : mm_G} (X : mm_Cx E G cX3_on 2 RX3 wsX3_on rmX3_on (some .int)) {a0 : Nat} {x1 : Int32} {σ : mm_M} {q : (Int32 × mm_M)} (ha0 : mm_Is G 3 a0) (h : fX3_on G a0 x1 σ = some q) : mm_At E G 2 (mm_Qi E G q) σ 0 [(0, .ref a0), (1, .int x1)] [] := by
  unfold fX3_on at h
  refine at_iload_n (pc := 0) X 1 1 dX3_on_0 rfl rfl ?_
  obtain ⟨q1, hq1, h⟩ := mm_bind h
  refine at_scalli (n := 1) (pc := 1) X [.int x1] [] (mX3_isKept (eL E) X.wf hq1) gX3_on_X3_isKept rfl ⟨rfl, rfl⟩ (by decide +kernel) ⟨by decide, by decide⟩ rfl rfl (Nat.le_of_ble_eq_true rfl) dX3_on_1 ?_
  refine at_if_ne (pc := 4) X 9 dX3_on_4 (by decide) (fun c4 => ?_) (fun c4 => ?_)
  · have h := mm_neg c4 h
    refine at_aload_n (pc := 9) X 0 0 dX3_on_9 rfl rfl ?_
    refine at_get (pc := 10) X 3 7 (.ref (mm_R G a0 7)) ha0 (by decide) rfl inX3_on_X3 (by decide) lkX3_on_0 rfl dX3_on_10 ?_
    refine at_iload_n (pc := 13) X 1 1 dX3_on_13 rfl rfl ?_
    obtain ⟨hc14, h⟩ := mm_chk h
    refine at_aald (pc := 14) X 7 2 (wf_3_7 X.wf ha0) (by decide) (by decide) rfl rfl hc14 dX3_on_14 ?_
    refine at_get (pc := 15) X 1 1 (.int (q1.2.1 (mm_R G (mm_R G a0 7) x1.toNatClampNeg) 1)) (wf_7 X.wf (wf_3_7 X.wf ha0) hc14) (by decide) rfl inX3_on_X1 (by decide) lkX3_on_1 rfl dX3_on_15 ?_
    refine at_iconst (pc := 18) X (-1 : Int32) dX3_on_18 ic_m1 ?_
    refine at_icmp_ne (pc := 19) X 28 dX3_on_19 (by decide) (fun c19 => ?_) (fun c19 => ?_)
    · have h := mm_neg c19 h
      refine at_aload_n (pc := 28) X 0 0 dX3_on_28 rfl rfl ?_
      refine at_get (pc := 29) X 3 6 (.ref (mm_R G a0 6)) ha0 (by decide) rfl inX3_on_X3 (by decide) lkX3_on_2 rfl dX3_on_29 ?_
      refine at_aload_n (pc := 32) X 0 0 dX3_on_32 rfl rfl ?_
      refine at_get (pc := 33) X 3 7 (.ref (mm_R G a0 7)) ha0 (by decide) rfl inX3_on_X3 (by decide) lkX3_on_0 rfl dX3_on_33 ?_
      refine at_iload_n (pc := 36) X 1 1 dX3_on_36 rfl rfl ?_
      obtain ⟨hc37, h⟩ := mm_chk h
      refine at_aald (pc := 37) X 7 2 (wf_3_7 X.wf ha0) (by decide) (by decide) rfl rfl hc37 dX3_on_37 ?_
      obtain ⟨q38, hq38, h⟩ := mm_bind h
      refine at_callv (n := 1) (pc := 38) X 1 [.ref (mm_R G (mm_R G a0 7) x1.toNatClampNeg)] [] (mX1_become (eL E) X.wf (wf_3_6 X.wf ha0) (wf_7 X.wf (wf_3_7 X.wf ha0) hc37) hq38) gX3_on_X1_become rfl ⟨rfl, rfl⟩ (by decide +kernel) ⟨by decide, by decide⟩ (by decide) rfl (wf_3_6 X.wf ha0) rfl rfl (Nat.le_of_ble_eq_true rfl) dX3_on_38 ?_
      refine at_aload_n (pc := 41) X 0 0 dX3_on_41 rfl rfl ?_
      obtain ⟨q42, hq42, h⟩ := mm_bind h
      refine at_callv (n := 0) (pc := 42) X 3 [] [] (mX3_goOnFromStart (eL E) X.wf ha0 hq42) gX3_on_X3_goOnFromStart rfl ⟨rfl, rfl⟩ (by decide +kernel) ⟨by decide, by decide⟩ (by decide) rfl ha0 rfl rfl (Nat.le_of_ble_eq_true rfl) dX3_on_42 ?_
      refine at_aload_n (pc := 45) X 0 0 dX3_on_45 rfl rfl ?_
      refine at_get (pc := 46) X 3 6 (.ref (mm_R G a0 6)) ha0 (by decide) rfl inX3_on_X3 (by decide) lkX3_on_2 rfl dX3_on_46 ?_
      refine at_get (pc := 49) X 1 1 (.int (q42.1 (mm_R G a0 6) 1)) (wf_3_6 X.wf ha0) (by decide) rfl inX3_on_X1 (by decide) lkX3_on_1 rfl dX3_on_49 ?_
      exact at_iret (pc := 52) X (Option.some.inj h) dX3_on_52
    · have h := mm_pos c19 h
      refine at_aload_n (pc := 22) X 0 0 dX3_on_22 rfl rfl ?_
      refine at_iconst (pc := 23) X (1 : Int32) dX3_on_23 ic_1 ?_
      obtain ⟨q24, hq24, h⟩ := mm_bind h
      refine at_calli (n := 1) (pc := 24) X 3 [.int (1 : Int32)] [] (mX3_found (eL E) X.wf ha0 hq24) gX3_on_X3_found rfl ⟨rfl, rfl⟩ (by decide +kernel) ⟨by decide, by decide⟩ (by decide) rfl ha0 rfl rfl (Nat.le_of_ble_eq_true rfl) dX3_on_24 ?_
      exact at_iret (pc := 27) X (Option.some.inj h) dX3_on_27
  · have h := mm_pos c4 h
    refine at_iconst (pc := 7) X (-1 : Int32) dX3_on_7 ic_m1 ?_
    exact at_iret (pc := 8) X (Option.some.inj h) dX3_on_8
set_option maxHeartbeats 4000000 in
set_option maxRecDepth 100000 in
theorem mX3_on (l : Launch) {G : mm_G} (hwf : mm_WF G) {a0 : Nat} {x1 : Int32} {σ : mm_M} {q : (Int32 × mm_M)} (ha0 : mm_Is G 3 a0) (h : fX3_on G a0 x1 σ = some q) : mm_Mi l yX3_on wsX3_on rmX3_on G [.ref a0, .int x1] σ q := by
  refine mm_ofi (cc := cX3_on) (nL := 2) (ret := some .int) (own := RX3) (lv0 := [(0, .ref a0), (1, .int x1)]) (by decide) rfl rfl (Nat.le_of_ble_eq_true rfl) rfl hwf (fun E hE X => ?_)
  exact wX3_on_b0 X ha0 h
set_option maxRecDepth 20000 in
theorem ggX3_talks_X0_talkers : GoodIn wsX3_talks wsX0_talkers := goodIn_r _ [7, 8, 9, 10, 11, 12, 13, 14, 15, 16, 17, 18, 19, 20, 21, 22, 47, 48, 49, 50, 51, 52, 53, 54, 55, 56, 57, 58] (by decide +kernel) (by decide +kernel)
set_option maxRecDepth 20000 in
theorem gX3_talks_X0_talkers : GoodIn wsX3_talks (wsV RX3 165 RX0 yX0_talkers wsX0_talkers) := goodIn_app (goodIn_of _ (by decide +kernel)) ggX3_talks_X0_talkers
set_option maxRecDepth 20000 in
theorem ggX3_talks_J6_bitCount_0f7a4 : GoodIn wsX3_talks wsJ6_bitCount_0f7a4 := goodIn_r _ [26, 27, 28, 29] (by decide +kernel) (by decide +kernel)
set_option maxRecDepth 20000 in
theorem gX3_talks_J6_bitCount_0f7a4 : GoodIn wsX3_talks (va_wsS RX3 168 yJ6_bitCount_0f7a4 wsJ6_bitCount_0f7a4) := goodIn_app (goodIn_of _ (by decide +kernel)) ggX3_talks_J6_bitCount_0f7a4
theorem dX3_talks_0 : decode cX3_talks 0 = .ok (.aload_n 0, 1) := by decide +kernel
theorem dX3_talks_1 : decode cX3_talks 1 = .ok (.getfield 33, 3) := by decide +kernel
theorem dX3_talks_4 : decode cX3_talks 4 = .ok (.iconst 0, 1) := by decide +kernel
theorem dX3_talks_5 : decode cX3_talks 5 = .ok (.invokevirtual 165, 3) := by decide +kernel
theorem dX3_talks_8 : decode cX3_talks 8 = .ok (.istore_n 1, 1) := by decide +kernel
theorem dX3_talks_9 : decode cX3_talks 9 = .ok (.aload_n 0, 1) := by decide +kernel
theorem dX3_talks_10 : decode cX3_talks 10 = .ok (.iload_n 1, 1) := by decide +kernel
theorem dX3_talks_11 : decode cX3_talks 11 = .ok (.invokestatic 168, 3) := by decide +kernel
theorem dX3_talks_14 : decode cX3_talks 14 = .ok (.iconst 1, 1) := by decide +kernel
theorem dX3_talks_15 : decode cX3_talks 15 = .ok (.if_icmp .ne 7, 3) := by decide +kernel
theorem dX3_talks_18 : decode cX3_talks 18 = .ok (.iconst 1, 1) := by decide +kernel
theorem dX3_talks_19 : decode cX3_talks 19 = .ok (.goto 4, 3) := by decide +kernel
theorem dX3_talks_22 : decode cX3_talks 22 = .ok (.iconst 0, 1) := by decide +kernel
theorem dX3_talks_23 : decode cX3_talks 23 = .ok (.putfield 59, 3) := by decide +kernel
theorem dX3_talks_26 : decode cX3_talks 26 = .ok (.iload_n 1, 1) := by decide +kernel
theorem dX3_talks_27 : decode cX3_talks 27 = .ok (.ireturn, 1) := by decide +kernel
/-! X3_talks ()I -/
abbrev rmX3_talks : Room := { frames := 3, cells := 0, slots := 0, locals := 65 }
theorem lkX3_talks_0 : Cond.fieldLink RX3 33 (TX3 5).1 (TX3 5).2.1 (TX3 5).2.2.1 ∈ wsX3_talks := by decide +kernel
theorem lkX3_talks_1 : Cond.fieldLink RX3 59 (TX3 12).1 (TX3 12).2.1 (TX3 12).2.2.1 ∈ wsX3_talks := by decide +kernel
theorem inX3_talks_X3 : ∀ w ∈ u_ws RX3 TX3 17, w ∈ wsX3_talks := by decide +kernel
noncomputable def fX3_talks_b23 (G : mm_G) (a0 : Nat) (x1 : Int32) (sx0 : Int32) (sa1 : Nat) (σ : mm_M) : Option (Int32 × mm_M) := some (x1, mm_up σ sa1 12 sx0)
noncomputable def fX3_talks (G : mm_G) (a0 : Nat) (σ : mm_M) : Option (Int32 × mm_M) := (fX0_talkers G (mm_R G a0 5) (0 : Int32) σ).bind (fun q5 => (fJ6_bitCount_0f7a4 G q5.1 q5.2).bind (fun q11 => fX3_talks_b23 G a0 q5.1 (if q11.1 = (1 : Int32) then (1 : Int32) else (0 : Int32)) a0 q11.2))
set_option maxHeartbeats 4000000 in
set_option maxRecDepth 100000 in
theorem wX3_talks_b23 {E : mm_E} {G : mm_G} (X : mm_Cx E G cX3_talks 2 RX3 wsX3_talks rmX3_talks (some .int)) {a0 : Nat} {x1 : Int32} {sx0 : Int32} {sa1 : Nat} {σ : mm_M} {q : (Int32 × mm_M)} (ha0 : mm_Is G 3 a0) (hsa1 : mm_Is G 3 sa1) (h : fX3_talks_b23 G a0 x1 sx0 sa1 σ = some q) : mm_At E G 2 (mm_Qi E G q) σ 23 [(1, .int x1)] [.int sx0, .ref sa1] := by
  unfold fX3_talks_b23 at h
  refine at_put (pc := 23) X 3 12 hsa1 (by decide) rfl inX3_talks_X3 tyX3 tyX3_ok nmX3 (by decide) lkX3_talks_1 rfl (ty := .int) rfl rfl rfl (Nat.le_of_ble_eq_true rfl) (ms_3_12 G _ _ _) mm_up_ne dX3_talks_23 ?_
  refine at_iload_n (pc := 26) X 1 0 dX3_talks_26 rfl rfl ?_
  exact at_iret (pc := 27) X (Option.some.inj h) dX3_talks_27
set_option maxHeartbeats 4000000 in
set_option maxRecDepth 100000 in
theorem wX3_talks_b0 {E : mm_E} {G : mm_G} (X : mm_Cx E G cX3_talks 2 RX3 wsX3_talks rmX3_talks (some .int)) {a0 : Nat} {σ : mm_M} {q : (Int32 × mm_M)} (ha0 : mm_Is G 3 a0) (h : fX3_talks G a0 σ = some q) : mm_At E G 2 (mm_Qi E G q) σ 0 [(0, .ref a0)] [] := by
  unfold fX3_talks at h
  refine at_aload_n (pc := 0) X 0 0 dX3_talks_0 rfl rfl ?_
  refine at_get (pc := 1) X 3 5 (.ref (mm_R G a0 5)) ha0 (by decide) rfl inX3_talks_X3 (by decide) lkX3_talks_0 rfl dX3_talks_1 ?_
  refine at_iconst (pc := 4) X (0 : Int32) dX3_talks_4 ic_0 ?_
  obtain ⟨q5, hq5, h⟩ := mm_bind h
  refine at_calli (n := 1) (pc := 5) X 0 [.int (0 : Int32)] [] (mX0_talkers (eL E) X.wf (wf_3_5 X.wf ha0) hq5) gX3_talks_X0_talkers rfl ⟨rfl, rfl⟩ (by decide +kernel) ⟨by decide, by decide⟩ (by decide) rfl (wf_3_5 X.wf ha0) rfl rfl (Nat.le_of_ble_eq_true rfl) dX3_talks_5 ?_
  refine at_istore_n (pc := 8) X 1 [(1, .int q5.1), (0, .ref a0)] dX3_talks_8 rfl (by decide) rfl ?_
  refine at_aload_n (pc := 9) X 0 1 dX3_talks_9 rfl rfl ?_
  refine at_iload_n (pc := 10) X 1 0 dX3_talks_10 rfl rfl ?_
  obtain ⟨q11, hq11, h⟩ := mm_bind h
  refine at_scalli (n := 1) (pc := 11) X [.int q5.1] [.ref a0] (mJ6_bitCount_0f7a4 (eL E) X.wf hq11) gX3_talks_J6_bitCount_0f7a4 rfl ⟨rfl, rfl⟩ (by decide +kernel) ⟨by decide, by decide⟩ rfl rfl (Nat.le_of_ble_eq_true rfl) dX3_talks_11 ?_
  refine at_iconst (pc := 14) X (1 : Int32) dX3_talks_14 ic_1 ?_
  have hj15 : mm_At E G 2 (mm_Qi E G q) q11.2 23 [(1, .int q5.1)] [.int (if q11.1 = (1 : Int32) then (1 : Int32) else (0 : Int32)), .ref a0] := by
    exact at_sub [0] rfl (wX3_talks_b23 X ha0 ha0 h)
  refine at_icmp_ne (pc := 15) X 22 dX3_talks_15 (by decide) (fun c15 => ?_) (fun c15 => ?_)
  · try simp only [if_neg c15] at hj15
    refine at_iconst (pc := 22) X (0 : Int32) dX3_talks_22 ic_0 ?_
    exact at_sub [0] rfl hj15
  · try simp only [if_pos c15] at hj15
    refine at_iconst (pc := 18) X (1 : Int32) dX3_talks_18 ic_1 ?_
    refine at_goto (pc := 19) X 23 dX3_talks_19 (by decide) ?_
    exact at_sub [0] rfl hj15
set_option maxHeartbeats 4000000 in
set_option maxRecDepth 100000 in
theorem mX3_talks (l : Launch) {G : mm_G} (hwf : mm_WF G) {a0 : Nat} {σ : mm_M} {q : (Int32 × mm_M)} (ha0 : mm_Is G 3 a0) (h : fX3_talks G a0 σ = some q) : mm_Mi l yX3_talks wsX3_talks rmX3_talks G [.ref a0] σ q := by
  refine mm_ofi (cc := cX3_talks) (nL := 2) (ret := some .int) (own := RX3) (lv0 := [(0, .ref a0)]) (by decide) rfl rfl (Nat.le_of_ble_eq_true rfl) rfl hwf (fun E hE X => ?_)
  exact wX3_talks_b0 X ha0 h
