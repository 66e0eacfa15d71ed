/-! X4_give X4_drops X4_drop X4_first X4_undo X4_keep -/
set_option maxRecDepth 20000 in
theorem ggX4_give_X4_isStation : GoodIn wsX4_give wsX4_isStation := goodIn_r _ [7, 1, 8, 9, 6, 10, 16, 17, 18, 19, 20, 21, 22, 23, 24, 25, 26, 27, 28, 29, 30, 31, 32, 33, 34, 35, 36, 37] (by decide +kernel) (by decide +kernel)
set_option maxRecDepth 20000 in
theorem gX4_give_X4_isStation : GoodIn wsX4_give (wsV RX4 132 RX4 yX4_isStation wsX4_isStation) := goodIn_app (goodIn_of _ (by decide +kernel)) ggX4_give_X4_isStation
set_option maxRecDepth 20000 in
theorem ggX4_give_X4_in : GoodIn wsX4_give wsX4_in := goodIn_r _ [10] (by decide +kernel) (by decide +kernel)
set_option maxRecDepth 20000 in
theorem gX4_give_X4_in : GoodIn wsX4_give (va_wsS RX4 73 yX4_in wsX4_in) := goodIn_app (goodIn_of _ (by decide +kernel)) ggX4_give_X4_in
set_option maxRecDepth 20000 in
theorem ggX4_give_X4_does : GoodIn wsX4_give wsX4_does := goodIn_r _ [14, 15, 2, 1, 16, 17, 18, 19, 20, 21, 22, 23, 24, 25, 26, 27, 28, 29, 30, 31, 32, 33, 34, 35, 36, 37] (by decide +kernel) (by decide +kernel)
set_option maxRecDepth 20000 in
theorem gX4_give_X4_does : GoodIn wsX4_give (wsV RX4 156 RX4 yX4_does wsX4_does) := goodIn_app (goodIn_of _ (by decide +kernel)) ggX4_give_X4_does
theorem dX4_give_0 : decode cX4_give 0 = .ok (.aload_n 0, 1) := by decide +kernel
theorem dX4_give_1 : decode cX4_give 1 = .ok (.iload_n 1, 1) := by decide +kernel
theorem dX4_give_2 : decode cX4_give 2 = .ok (.invokevirtual 132, 3) := by decide +kernel
theorem dX4_give_5 : decode cX4_give 5 = .ok (.ifCond .eq 13, 3) := by decide +kernel
theorem dX4_give_8 : decode cX4_give 8 = .ok (.iload_n 2, 1) := by decide +kernel
theorem dX4_give_9 : decode cX4_give 9 = .ok (.iconst 1, 1) := by decide +kernel
theorem dX4_give_10 : decode cX4_give 10 = .ok (.bipush 9, 2) := by decide +kernel
theorem dX4_give_12 : decode cX4_give 12 = .ok (.invokestatic 73, 3) := by decide +kernel
theorem dX4_give_15 : decode cX4_give 15 = .ok (.ifCond .ne 5, 3) := by decide +kernel
theorem dX4_give_18 : decode cX4_give 18 = .ok (.iconst (-1), 1) := by decide +kernel
theorem dX4_give_19 : decode cX4_give 19 = .ok (.ireturn, 1) := by decide +kernel
theorem dX4_give_20 : decode cX4_give 20 = .ok (.aload_n 0, 1) := by decide +kernel
theorem dX4_give_21 : decode cX4_give 21 = .ok (.getfield 26, 3) := by decide +kernel
theorem dX4_give_24 : decode cX4_give 24 = .ok (.bipush 11, 2) := by decide +kernel
theorem dX4_give_26 : decode cX4_give 26 = .ok (.iload_n 1, 1) := by decide +kernel
theorem dX4_give_27 : decode cX4_give 27 = .ok (.iadd, 1) := by decide +kernel
theorem dX4_give_28 : decode cX4_give 28 = .ok (.iaload, 1) := by decide +kernel
theorem dX4_give_29 : decode cX4_give 29 = .ok (.iload_n 2, 1) := by decide +kernel
theorem dX4_give_30 : decode cX4_give 30 = .ok (.iadd, 1) := by decide +kernel
theorem dX4_give_31 : decode cX4_give 31 = .ok (.bipush 30, 2) := by decide +kernel
theorem dX4_give_33 : decode cX4_give 33 = .ok (.if_icmp .le 6, 3) := by decide +kernel
theorem dX4_give_36 : decode cX4_give 36 = .ok (.bipush (-6), 2) := by decide +kernel
theorem dX4_give_38 : decode cX4_give 38 = .ok (.ireturn, 1) := by decide +kernel
theorem dX4_give_39 : decode cX4_give 39 = .ok (.aload_n 0, 1) := by decide +kernel
theorem dX4_give_40 : decode cX4_give 40 = .ok (.getfield 111, 3) := by decide +kernel
theorem dX4_give_43 : decode cX4_give 43 = .ok (.bipush 40, 2) := by decide +kernel
theorem dX4_give_45 : decode cX4_give 45 = .ok (.if_icmp .ne 6, 3) := by decide +kernel
theorem dX4_give_48 : decode cX4_give 48 = .ok (.bipush (-2), 2) := by decide +kernel
theorem dX4_give_50 : decode cX4_give 50 = .ok (.ireturn, 1) := by decide +kernel
theorem dX4_give_51 : decode cX4_give 51 = .ok (.aload_n 0, 1) := by decide +kernel
theorem dX4_give_52 : decode cX4_give 52 = .ok (.invokevirtual 156, 3) := by decide +kernel
theorem dX4_give_55 : decode cX4_give 55 = .ok (.aload_n 0, 1) := by decide +kernel
theorem dX4_give_56 : decode cX4_give 56 = .ok (.getfield 26, 3) := by decide +kernel
theorem dX4_give_59 : decode cX4_give 59 = .ok (.bipush 11, 2) := by decide +kernel
theorem dX4_give_61 : decode cX4_give 61 = .ok (.iload_n 1, 1) := by decide +kernel
theorem dX4_give_62 : decode cX4_give 62 = .ok (.iadd, 1) := by decide +kernel
theorem dX4_give_63 : decode cX4_give 63 = .ok (.dup2, 1) := by decide +kernel
theorem dX4_give_64 : decode cX4_give 64 = .ok (.iaload, 1) := by decide +kernel
theorem dX4_give_65 : decode cX4_give 65 = .ok (.iload_n 2, 1) := by decide +kernel
theorem dX4_give_66 : decode cX4_give 66 = .ok (.iadd, 1) := by decide +kernel
theorem dX4_give_67 : decode cX4_give 67 = .ok (.iastore, 1) := by decide +kernel
theorem dX4_give_68 : decode cX4_give 68 = .ok (.aload_n 0, 1) := by decide +kernel
theorem dX4_give_69 : decode cX4_give 69 = .ok (.getfield 26, 3) := by decide +kernel
theorem dX4_give_72 : decode cX4_give 72 = .ok (.bipush 11, 2) := by decide +kernel
theorem dX4_give_74 : decode cX4_give 74 = .ok (.iload_n 1, 1) := by decide +kernel
theorem dX4_give_75 : decode cX4_give 75 = .ok (.iadd, 1) := by decide +kernel
theorem dX4_give_76 : decode cX4_give 76 = .ok (.iaload, 1) := by decide +kernel
theorem dX4_give_77 : decode cX4_give 77 = .ok (.ireturn, 1) := by decide +kernel
/-! X4_give (II)I -/
abbrev rmX4_give : Room := { frames := 2, cells := 0, slots := 0, locals := 43 }
theorem lkX4_give_0 : Cond.fieldLink RX4 26 (TX4 5).1 (TX4 5).2.1 (TX4 5).2.2.1 ∈ wsX4_give := by decide +kernel
theorem lkX4_give_1 : Cond.fieldLink RX4 111 (TX4 10).1 (TX4 10).2.1 (TX4 10).2.2.1 ∈ wsX4_give := by decide +kernel
theorem inX4_give_X4 : ∀ w ∈ u_ws RX4 TX4 22, w ∈ wsX4_give := by decide +kernel
noncomputable def fX4_give (G : mm_G) (a0 : Nat) (x1 : Int32) (x2 : Int32) (σ : mm_M) : Option (Int32 × mm_M) := (fX4_isStation G a0 x1 σ).bind (fun q2 => if q2.1 = 0 then (some ((-1 : Int32), q2.2)) else ((fX4_in G x2 (1 : Int32) (9 : Int32) q2.2).bind (fun q12 => if q12.1 = 0 then (some ((-1 : Int32), q12.2)) else (if ((11 : Int32) + x1) < 0 ∨ mm_N G (mm_R G a0 5) ≤ ((11 : Int32) + x1).toNatClampNeg then none else (if (30 : Int32) < ((q12.2.1 (mm_R G a0 5) ((11 : Int32) + x1).toNatClampNeg) + x2) then (some ((-6 : Int32), q12.2)) else (if (q12.2.1 a0 10) = (40 : Int32) then (some ((-2 : Int32), q12.2)) else ((fX4_does G a0 q12.2).bind (fun q52 => if ((11 : Int32) + x1) < 0 ∨ mm_N G (mm_R G a0 5) ≤ ((11 : Int32) + x1).toNatClampNeg then none else (if ((11 : Int32) + x1) < 0 ∨ mm_N G (mm_R G a0 5) ≤ ((11 : Int32) + x1).toNatClampNeg then none else (if ((11 : Int32) + x1) < 0 ∨ mm_N G (mm_R G a0 5) ≤ ((11 : Int32) + x1).toNatClampNeg then none else (some ((mm_up q52 (mm_R G a0 5) ((11 : Int32) + x1).toNatClampNeg ((q52.1 (mm_R G a0 5) ((11 : Int32) + x1).toNatClampNeg) + x2)).1 (mm_R G a0 5) ((11 : Int32) + x1).toNatClampNeg, mm_up q52 (mm_R G a0 5) ((11 : Int32) + x1).toNatClampNeg ((q52.1 (mm_R G a0 5) ((11 : Int32) + x1).toNatClampNeg) + x2)))))))))))))
set_option maxHeartbeats 4000000 in
set_option maxRecDepth 100000 in
theorem wX4_give_b0 {E : mm_E} {G : mm_G} (X : mm_Cx E G cX4_give 3 RX4 wsX4_give rmX4_give (some .int)) {a0 : Nat} {x1 : Int32} {x2 : Int32} {σ : mm_M} {q : (Int32 × mm_M)} (ha0 : mm_Is G 4 a0) (h : fX4_give G a0 x1 x2 σ = some q) : mm_At E G 3 (mm_Qi E G q) σ 0 [(0, .ref a0), (1, .int x1), (2, .int x2)] [] := by
  unfold fX4_give at h
  refine at_aload_n (pc := 0) X 0 0 dX4_give_0 rfl rfl ?_
  refine at_iload_n (pc := 1) X 1 1 dX4_give_1 rfl rfl ?_
  obtain ⟨q2, hq2, h⟩ := mm_bind h
  refine at_calli (n := 1) (pc := 2) X 4 [.int x1] [] (mX4_isStation (eL E) X.wf ha0 hq2) gX4_give_X4_isStation rfl ⟨rfl, rfl⟩ (by decide +kernel) ⟨by decide, by decide⟩ (by decide) rfl ha0 rfl rfl (Nat.le_of_ble_eq_true rfl) dX4_give_2 ?_
  refine at_if_eq (pc := 5) X 18 dX4_give_5 (by decide) (fun c5 => ?_) (fun c5 => ?_)
  · have h := mm_pos c5 h
    refine at_iconst (pc := 18) X (-1 : Int32) dX4_give_18 ic_m1 ?_
    exact at_iret (pc := 19) X (Option.some.inj h) dX4_give_19
  · have h := mm_neg c5 h
    refine at_iload_n (pc := 8) X 2 2 dX4_give_8 rfl rfl ?_
    refine at_iconst (pc := 9) X (1 : Int32) dX4_give_9 ic_1 ?_
    refine at_bipush (pc := 10) X (9 : Int32) dX4_give_10 ib_9 ?_
    obtain ⟨q12, hq12, h⟩ := mm_bind h
    refine at_scalli (n := 3) (pc := 12) X [.int x2, .int (1 : Int32), .int (9 : Int32)] [] (mX4_in (eL E) X.wf hq12) gX4_give_X4_in rfl ⟨rfl, rfl⟩ (by decide +kernel) ⟨by decide, by decide⟩ rfl rfl (Nat.le_of_ble_eq_true rfl) dX4_give_12 ?_
    refine at_if_ne (pc := 15) X 20 dX4_give_15 (by decide) (fun c15 => ?_) (fun c15 => ?_)
    · have h := mm_neg c15 h
      refine at_aload_n (pc := 20) X 0 0 dX4_give_20 rfl rfl ?_
      refine at_get (pc := 21) X 4 5 (.ref (mm_R G a0 5)) ha0 (by decide) rfl inX4_give_X4 (by decide) lkX4_give_0 rfl dX4_give_21 ?_
      refine at_bipush (pc := 24) X (11 : Int32) dX4_give_24 ib_11 ?_
      refine at_iload_n (pc := 26) X 1 1 dX4_give_26 rfl rfl ?_
      refine at_iadd (pc := 27) X dX4_give_27 ?_
      obtain ⟨hc28, h⟩ := mm_chk h
      refine at_iald (pc := 28) X (wf_4_5 X.wf ha0) hc28 dX4_give_28 ?_
      refine at_iload_n (pc := 29) X 2 2 dX4_give_29 rfl rfl ?_
      refine at_iadd (pc := 30) X dX4_give_30 ?_
      refine at_bipush (pc := 31) X (30 : Int32) dX4_give_31 ib_30 ?_
      refine at_icmp_le (pc := 33) X 39 dX4_give_33 (by decide) (fun c33 => ?_) (fun c33 => ?_)
      · have h := mm_neg c33 h
        refine at_aload_n (pc := 39) X 0 0 dX4_give_39 rfl rfl ?_
        refine at_get (pc := 40) X 4 10 (.int (q12.2.1 a0 10)) ha0 (by decide) rfl inX4_give_X4 (by decide) lkX4_give_1 rfl dX4_give_40 ?_
        refine at_bipush (pc := 43) X (40 : Int32) dX4_give_43 ib_40 ?_
        refine at_icmp_ne (pc := 45) X 51 dX4_give_45 (by decide) (fun c45 => ?_) (fun c45 => ?_)
        · have h := mm_neg c45 h
          refine at_aload_n (pc := 51) X 0 0 dX4_give_51 rfl rfl ?_
          obtain ⟨q52, hq52, h⟩ := mm_bind h
          refine at_callv (n := 0) (pc := 52) X 4 [] [] (mX4_does (eL E) X.wf ha0 hq52) gX4_give_X4_does rfl ⟨rfl, rfl⟩ (by decide +kernel) ⟨by decide, by decide⟩ (by decide) rfl ha0 rfl rfl (Nat.le_of_ble_eq_true rfl) dX4_give_52 ?_
          refine at_aload_n (pc := 55) X 0 0 dX4_give_55 rfl rfl ?_
          refine at_get (pc := 56) X 4 5 (.ref (mm_R G a0 5)) ha0 (by decide) rfl inX4_give_X4 (by decide) lkX4_give_0 rfl dX4_give_56 ?_
          refine at_bipush (pc := 59) X (11 : Int32) dX4_give_59 ib_11 ?_
          refine at_iload_n (pc := 61) X 1 1 dX4_give_61 rfl rfl ?_
          refine at_iadd (pc := 62) X dX4_give_62 ?_
          refine at_dup2 (pc := 63) X dX4_give_63 rfl rfl ?_
          obtain ⟨hc64, h⟩ := mm_chk h
          refine at_iald (pc := 64) X (wf_4_5 X.wf ha0) hc64 dX4_give_64 ?_
          refine at_iload_n (pc := 65) X 2 2 dX4_give_65 rfl rfl ?_
          refine at_iadd (pc := 66) X dX4_give_66 ?_
          obtain ⟨hc67, h⟩ := mm_chk h
          refine at_iast (pc := 67) X (wf_4_5 X.wf ha0) hc67 dX4_give_67 ?_
          refine at_aload_n (pc := 68) X 0 0 dX4_give_68 rfl rfl ?_
          refine at_get (pc := 69) X 4 5 (.ref (mm_R G a0 5)) ha0 (by decide) rfl inX4_give_X4 (by decide) lkX4_give_0 rfl dX4_give_69 ?_
          refine at_bipush (pc := 72) X (11 : Int32) dX4_give_72 ib_11 ?_
          refine at_iload_n (pc := 74) X 1 1 dX4_give_74 rfl rfl ?_
          refine at_iadd (pc := 75) X dX4_give_75 ?_
          obtain ⟨hc76, h⟩ := mm_chk h
          refine at_iald (pc := 76) X (wf_4_5 X.wf ha0) hc76 dX4_give_76 ?_
          exact at_iret (pc := 77) X (Option.some.inj h) dX4_give_77
        · have h := mm_pos c45 h
          refine at_bipush (pc := 48) X (-2 : Int32) dX4_give_48 ib_m2 ?_
          exact at_iret (pc := 50) X (Option.some.inj h) dX4_give_50
      · have h := mm_pos c33 h
        refine at_bipush (pc := 36) X (-6 : Int32) dX4_give_36 ib_m6 ?_
        exact at_iret (pc := 38) X (Option.some.inj h) dX4_give_38
    · have h := mm_pos c15 h
      refine at_iconst (pc := 18) X (-1 : Int32) dX4_give_18 ic_m1 ?_
      exact at_iret (pc := 19) X (Option.some.inj h) dX4_give_19
set_option maxHeartbeats 4000000 in
set_option maxRecDepth 100000 in
theorem mX4_give (l : Launch) {G : mm_G} (hwf : mm_WF G) {a0 : Nat} {x1 : Int32} {x2 : Int32} {σ : mm_M} {q : (Int32 × mm_M)} (ha0 : mm_Is G 4 a0) (h : fX4_give G a0 x1 x2 σ = some q) : mm_Mi l yX4_give wsX4_give rmX4_give G [.ref a0, .int x1, .int x2] σ q := by
  refine mm_ofi (cc := cX4_give) (nL := 3) (ret := some .int) (own := RX4) (lv0 := [(0, .ref a0), (1, .int x1), (2, .int x2)]) (by decide) rfl rfl (Nat.le_of_ble_eq_true rfl) rfl hwf (fun E hE X => ?_)
  exact wX4_give_b0 X ha0 h
theorem dX4_drops_0 : decode cX4_drops 0 = .ok (.aload_n 0, 1) := by decide +kernel
theorem dX4_drops_1 : decode cX4_drops 1 = .ok (.bipush 11, 2) := by decide +kernel
theorem dX4_drops_3 : decode cX4_drops 3 = .ok (.iload_n 1, 1) := by decide +kernel
theorem dX4_drops_4 : decode cX4_drops 4 = .ok (.iadd, 1) := by decide +kernel
theorem dX4_drops_5 : decode cX4_drops 5 = .ok (.iconst 0, 1) := by decide +kernel
theorem dX4_drops_6 : decode cX4_drops 6 = .ok (.iastore, 1) := by decide +kernel
theorem dX4_drops_7 : decode cX4_drops 7 = .ok (.aload_n 0, 1) := by decide +kernel
theorem dX4_drops_8 : decode cX4_drops 8 = .ok (.bipush 18, 2) := by decide +kernel
theorem dX4_drops_10 : decode cX4_drops 10 = .ok (.iload_n 1, 1) := by decide +kernel
theorem dX4_drops_11 : decode cX4_drops 11 = .ok (.iadd, 1) := by decide +kernel
theorem dX4_drops_12 : decode cX4_drops 12 = .ok (.iconst 0, 1) := by decide +kernel
theorem dX4_drops_13 : decode cX4_drops 13 = .ok (.iastore, 1) := by decide +kernel
theorem dX4_drops_14 : decode cX4_drops 14 = .ok (.aload_n 0, 1) := by decide +kernel
theorem dX4_drops_15 : decode cX4_drops 15 = .ok (.bipush 25, 2) := by decide +kernel
theorem dX4_drops_17 : decode cX4_drops 17 = .ok (.iload_n 1, 1) := by decide +kernel
theorem dX4_drops_18 : decode cX4_drops 18 = .ok (.iadd, 1) := by decide +kernel
theorem dX4_drops_19 : decode cX4_drops 19 = .ok (.iconst 0, 1) := by decide +kernel
theorem dX4_drops_20 : decode cX4_drops 20 = .ok (.iastore, 1) := by decide +kernel
theorem dX4_drops_21 : decode cX4_drops 21 = .ok (.return_, 1) := by decide +kernel
/-! X4_drops ([II)V -/
abbrev rmX4_drops : Room := { frames := 0, cells := 0, slots := 0, locals := 0 }
noncomputable def fX4_drops (G : mm_G) (a0 : Nat) (x1 : Int32) (σ : mm_M) : Option mm_M := if ((11 : Int32) + x1) < 0 ∨ mm_N G a0 ≤ ((11 : Int32) + x1).toNatClampNeg then none else (if ((18 : Int32) + x1) < 0 ∨ mm_N G a0 ≤ ((18 : Int32) + x1).toNatClampNeg then none else (if ((25 : Int32) + x1) < 0 ∨ mm_N G a0 ≤ ((25 : Int32) + x1).toNatClampNeg then none else (some (mm_up (mm_up (mm_up σ a0 ((11 : Int32) + x1).toNatClampNeg (0 : Int32)) a0 ((18 : Int32) + x1).toNatClampNeg (0 : Int32)) a0 ((25 : Int32) + x1).toNatClampNeg (0 : Int32)))))
set_option maxHeartbeats 4000000 in
set_option maxRecDepth 100000 in
theorem wX4_drops_b0 {E : mm_E} {G : mm_G} (X : mm_Cx E G cX4_drops 2 RX4 wsX4_drops rmX4_drops (none)) {a0 : Nat} {x1 : Int32} {σ : mm_M} {q : mm_M} (ha0 : mm_Is G 6 a0) (h : fX4_drops G a0 x1 σ = some q) : mm_At E G 2 (mm_Qv E G q) σ 0 [(0, .ref a0), (1, .int x1)] [] := by
  unfold fX4_drops at h
  refine at_aload_n (pc := 0) X 0 0 dX4_drops_0 rfl rfl ?_
  refine at_bipush (pc := 1) X (11 : Int32) dX4_drops_1 ib_11 ?_
  refine at_iload_n (pc := 3) X 1 1 dX4_drops_3 rfl rfl ?_
  refine at_iadd (pc := 4) X dX4_drops_4 ?_
  refine at_iconst (pc := 5) X (0 : Int32) dX4_drops_5 ic_0 ?_
  obtain ⟨hc6, h⟩ := mm_chk h
  refine at_iast (pc := 6) X ha0 hc6 dX4_drops_6 ?_
  refine at_aload_n (pc := 7) X 0 0 dX4_drops_7 rfl rfl ?_
  refine at_bipush (pc := 8) X (18 : Int32) dX4_drops_8 ib_18 ?_
  refine at_iload_n (pc := 10) X 1 1 dX4_drops_10 rfl rfl ?_
  refine at_iadd (pc := 11) X dX4_drops_11 ?_
  refine at_iconst (pc := 12) X (0 : Int32) dX4_drops_12 ic_0 ?_
  obtain ⟨hc13, h⟩ := mm_chk h
  refine at_iast (pc := 13) X ha0 hc13 dX4_drops_13 ?_
  refine at_aload_n (pc := 14) X 0 0 dX4_drops_14 rfl rfl ?_
  refine at_bipush (pc := 15) X (25 : Int32) dX4_drops_15 ib_25 ?_
  refine at_iload_n (pc := 17) X 1 1 dX4_drops_17 rfl rfl ?_
  refine at_iadd (pc := 18) X dX4_drops_18 ?_
  refine at_iconst (pc := 19) X (0 : Int32) dX4_drops_19 ic_0 ?_
  obtain ⟨hc20, h⟩ := mm_chk h
  refine at_iast (pc := 20) X ha0 hc20 dX4_drops_20 ?_
  exact at_vret (pc := 21) X (Option.some.inj h) dX4_drops_21
set_option maxHeartbeats 4000000 in
set_option maxRecDepth 100000 in
theorem mX4_drops (l : Launch) {G : mm_G} (hwf : mm_WF G) {a0 : Nat} {x1 : Int32} {σ : mm_M} {q : mm_M} (ha0 : mm_Is G 6 a0) (h : fX4_drops G a0 x1 σ = some q) : mm_Mv l yX4_drops wsX4_drops rmX4_drops G [.ref a0, .int x1] σ q := by
  refine mm_ofv (cc := cX4_drops) (nL := 2) (ret := none) (own := RX4) (lv0 := [(0, .ref a0), (1, .int x1)]) (by decide) rfl rfl (Nat.le_of_ble_eq_true rfl) rfl hwf (fun E hE X => ?_)
  exact wX4_drops_b0 X ha0 h
set_option maxRecDepth 20000 in
theorem ggX4_drop_X4_isStation : GoodIn wsX4_drop wsX4_isStation := goodIn_r _ [7, 1, 8, 9, 6, 10, 19, 20, 21, 22, 23, 24, 25, 26, 27, 28, 29, 30, 31, 32, 33, 34, 35, 36, 37, 38, 39, 40] (by decide +kernel) (by decide +kernel)
set_option maxRecDepth 20000 in
theorem gX4_drop_X4_isStation : GoodIn wsX4_drop (wsV RX4 132 RX4 yX4_isStation wsX4_isStation) := goodIn_app (goodIn_of _ (by decide +kernel)) ggX4_drop_X4_isStation
set_option maxRecDepth 20000 in
theorem ggX4_drop_X4_does : GoodIn wsX4_drop wsX4_does := goodIn_r _ [14, 15, 2, 1, 19, 20, 21, 22, 23, 24, 25, 26, 27, 28, 29, 30, 31, 32, 33, 34, 35, 36, 37, 38, 39, 40] (by decide +kernel) (by decide +kernel)
set_option maxRecDepth 20000 in
theorem gX4_drop_X4_does : GoodIn wsX4_drop (wsV RX4 156 RX4 yX4_does wsX4_does) := goodIn_app (goodIn_of _ (by decide +kernel)) ggX4_drop_X4_does
set_option maxRecDepth 20000 in
theorem ggX4_drop_X4_drops : GoodIn wsX4_drop wsX4_drops := goodIn_r _ [18] (by decide +kernel) (by decide +kernel)
set_option maxRecDepth 20000 in
theorem gX4_drop_X4_drops : GoodIn wsX4_drop (va_wsS RX4 162 yX4_drops wsX4_drops) := goodIn_app (goodIn_of _ (by decide +kernel)) ggX4_drop_X4_drops
theorem dX4_drop_0 : decode cX4_drop 0 = .ok (.aload_n 0, 1) := by decide +kernel
theorem dX4_drop_1 : decode cX4_drop 1 = .ok (.iload_n 1, 1) := by decide +kernel
theorem dX4_drop_2 : decode cX4_drop 2 = .ok (.invokevirtual 132, 3) := by decide +kernel
theorem dX4_drop_5 : decode cX4_drop 5 = .ok (.ifCond .ne 5, 3) := by decide +kernel
theorem dX4_drop_8 : decode cX4_drop 8 = .ok (.iconst (-1), 1) := by decide +kernel
theorem dX4_drop_9 : decode cX4_drop 9 = .ok (.ireturn, 1) := by decide +kernel
theorem dX4_drop_10 : decode cX4_drop 10 = .ok (.aload_n 0, 1) := by decide +kernel
theorem dX4_drop_11 : decode cX4_drop 11 = .ok (.getfield 26, 3) := by decide +kernel
theorem dX4_drop_14 : decode cX4_drop 14 = .ok (.bipush 11, 2) := by decide +kernel
theorem dX4_drop_16 : decode cX4_drop 16 = .ok (.iload_n 1, 1) := by decide +kernel
theorem dX4_drop_17 : decode cX4_drop 17 = .ok (.iadd, 1) := by decide +kernel
theorem dX4_drop_18 : decode cX4_drop 18 = .ok (.iaload, 1) := by decide +kernel
theorem dX4_drop_19 : decode cX4_drop 19 = .ok (.ifCond .ne 6, 3) := by decide +kernel
theorem dX4_drop_22 : decode cX4_drop 22 = .ok (.bipush (-4), 2) := by decide +kernel
theorem dX4_drop_24 : decode cX4_drop 24 = .ok (.ireturn, 1) := by decide +kernel
theorem dX4_drop_25 : decode cX4_drop 25 = .ok (.aload_n 0, 1) := by decide +kernel
theorem dX4_drop_26 : decode cX4_drop 26 = .ok (.getfield 111, 3) := by decide +kernel
theorem dX4_drop_29 : decode cX4_drop 29 = .ok (.bipush 40, 2) := by decide +kernel
theorem dX4_drop_31 : decode cX4_drop 31 = .ok (.if_icmp .ne 6, 3) := by decide +kernel
theorem dX4_drop_34 : decode cX4_drop 34 = .ok (.bipush (-2), 2) := by decide +kernel
theorem dX4_drop_36 : decode cX4_drop 36 = .ok (.ireturn, 1) := by decide +kernel
theorem dX4_drop_37 : decode cX4_drop 37 = .ok (.aload_n 0, 1) := by decide +kernel
theorem dX4_drop_38 : decode cX4_drop 38 = .ok (.invokevirtual 156, 3) := by decide +kernel
theorem dX4_drop_41 : decode cX4_drop 41 = .ok (.aload_n 0, 1) := by decide +kernel
theorem dX4_drop_42 : decode cX4_drop 42 = .ok (.getfield 26, 3) := by decide +kernel
theorem dX4_drop_45 : decode cX4_drop 45 = .ok (.bipush 11, 2) := by decide +kernel
theorem dX4_drop_47 : decode cX4_drop 47 = .ok (.iload_n 1, 1) := by decide +kernel
theorem dX4_drop_48 : decode cX4_drop 48 = .ok (.iadd, 1) := by decide +kernel
theorem dX4_drop_49 : decode cX4_drop 49 = .ok (.iaload, 1) := by decide +kernel
theorem dX4_drop_50 : decode cX4_drop 50 = .ok (.istore_n 2, 1) := by decide +kernel
theorem dX4_drop_51 : decode cX4_drop 51 = .ok (.aload_n 0, 1) := by decide +kernel
theorem dX4_drop_52 : decode cX4_drop 52 = .ok (.getfield 26, 3) := by decide +kernel
theorem dX4_drop_55 : decode cX4_drop 55 = .ok (.iload_n 1, 1) := by decide +kernel
theorem dX4_drop_56 : decode cX4_drop 56 = .ok (.invokestatic 162, 3) := by decide +kernel
theorem dX4_drop_59 : decode cX4_drop 59 = .ok (.iload_n 2, 1) := by decide +kernel
theorem dX4_drop_60 : decode cX4_drop 60 = .ok (.ireturn, 1) := by decide +kernel
/-! X4_drop (I)I -/
abbrev rmX4_drop : Room := { frames := 2, cells := 0, slots := 0, locals := 43 }
theorem lkX4_drop_0 : Cond.fieldLink RX4 26 (TX4 5).1 (TX4 5).2.1 (TX4 5).2.2.1 ∈ wsX4_drop := by decide +kernel
theorem lkX4_drop_1 : Cond.fieldLink RX4 111 (TX4 10).1 (TX4 10).2.1 (TX4 10).2.2.1 ∈ wsX4_drop := by decide +kernel
theorem inX4_drop_X4 : ∀ w ∈ u_ws RX4 TX4 22, w ∈ wsX4_drop := by decide +kernel
noncomputable def fX4_drop (G : mm_G) (a0 : Nat) (x1 : Int32) (σ : mm_M) : Option (Int32 × mm_M) := (fX4_isStation G a0 x1 σ).bind (fun q2 => if q2.1 = 0 then (some ((-1 : Int32), q2.2)) else (if ((11 : Int32) + x1) < 0 ∨ mm_N G (mm_R G a0 5) ≤ ((11 : Int32) + x1).toNatClampNeg then none else (if (q2.2.1 (mm_R G a0 5) ((11 : Int32) + x1).toNatClampNeg) = 0 then (some ((-4 : Int32), q2.2)) else (if (q2.2.1 a0 10) = (40 : Int32) then (some ((-2 : Int32), q2.2)) else ((fX4_does G a0 q2.2).bind (fun q38 => if ((11 : Int32) + x1) < 0 ∨ mm_N G (mm_R G a0 5) ≤ ((11 : Int32) + x1).toNatClampNeg then none else ((fX4_drops G (mm_R G a0 5) x1 q38).bind (fun q56 => some (q38.1 (mm_R G a0 5) ((11 : Int32) + x1).toNatClampNeg, q56)))))))))
set_option maxHeartbeats 4000000 in
set_option maxRecDepth 100000 in
theorem wX4_drop_b0 {E : mm_E} {G : mm_G} (X : mm_Cx E G cX4_drop 3 RX4 wsX4_drop rmX4_drop (some .int)) {a0 : Nat} {x1 : Int32} {σ : mm_M} {q : (Int32 × mm_M)} (ha0 : mm_Is G 4 a0) (h : fX4_drop G a0 x1 σ = some q) : mm_At E G 3 (mm_Qi E G q) σ 0 [(0, .ref a0), (1, .int x1)] [] := by
  unfold fX4_drop at h
  refine at_aload_n (pc := 0) X 0 0 dX4_drop_0 rfl rfl ?_
  refine at_iload_n (pc := 1) X 1 1 dX4_drop_1 rfl rfl ?_
  obtain ⟨q2, hq2, h⟩ := mm_bind h
  refine at_calli (n := 1) (pc := 2) X 4 [.int x1] [] (mX4_isStation (eL E) X.wf ha0 hq2) gX4_drop_X4_isStation rfl ⟨rfl, rfl⟩ (by decide +kernel) ⟨by decide, by decide⟩ (by decide) rfl ha0 rfl rfl (Nat.le_of_ble_eq_true rfl) dX4_drop_2 ?_
  refine at_if_ne (pc := 5) X 10 dX4_drop_5 (by decide) (fun c5 => ?_) (fun c5 => ?_)
  · have h := mm_neg c5 h
    refine at_aload_n (pc := 10) X 0 0 dX4_drop_10 rfl rfl ?_
    refine at_get (pc := 11) X 4 5 (.ref (mm_R G a0 5)) ha0 (by decide) rfl inX4_drop_X4 (by decide) lkX4_drop_0 rfl dX4_drop_11 ?_
    refine at_bipush (pc := 14) X (11 : Int32) dX4_drop_14 ib_11 ?_
    refine at_iload_n (pc := 16) X 1 1 dX4_drop_16 rfl rfl ?_
    refine at_iadd (pc := 17) X dX4_drop_17 ?_
    obtain ⟨hc18, h⟩ := mm_chk h
    refine at_iald (pc := 18) X (wf_4_5 X.wf ha0) hc18 dX4_drop_18 ?_
    refine at_if_ne (pc := 19) X 25 dX4_drop_19 (by decide) (fun c19 => ?_) (fun c19 => ?_)
    · have h := mm_neg c19 h
      refine at_aload_n (pc := 25) X 0 0 dX4_drop_25 rfl rfl ?_
      refine at_get (pc := 26) X 4 10 (.int (q2.2.1 a0 10)) ha0 (by decide) rfl inX4_drop_X4 (by decide) lkX4_drop_1 rfl dX4_drop_26 ?_
      refine at_bipush (pc := 29) X (40 : Int32) dX4_drop_29 ib_40 ?_
      refine at_icmp_ne (pc := 31) X 37 dX4_drop_31 (by decide) (fun c31 => ?_) (fun c31 => ?_)
      · have h := mm_neg c31 h
        refine at_aload_n (pc := 37) X 0 0 dX4_drop_37 rfl rfl ?_
        obtain ⟨q38, hq38, h⟩ := mm_bind h
        refine at_callv (n := 0) (pc := 38) X 4 [] [] (mX4_does (eL E) X.wf ha0 hq38) gX4_drop_X4_does rfl ⟨rfl, rfl⟩ (by decide +kernel) ⟨by decide, by decide⟩ (by decide) rfl ha0 rfl rfl (Nat.le_of_ble_eq_true rfl) dX4_drop_38 ?_
        refine at_aload_n (pc := 41) X 0 0 dX4_drop_41 rfl rfl ?_
        refine at_get (pc := 42) X 4 5 (.ref (mm_R G a0 5)) ha0 (by decide) rfl inX4_drop_X4 (by decide) lkX4_drop_0 rfl dX4_drop_42 ?_
        refine at_bipush (pc := 45) X (11 : Int32) dX4_drop_45 ib_11 ?_
        refine at_iload_n (pc := 47) X 1 1 dX4_drop_47 rfl rfl ?_
        refine at_iadd (pc := 48) X dX4_drop_48 ?_
        obtain ⟨hc49, h⟩ := mm_chk h
        refine at_iald (pc := 49) X (wf_4_5 X.wf ha0) hc49 dX4_drop_49 ?_
        refine at_istore_n (pc := 50) X 2 [(2, .int (q38.1 (mm_R G a0 5) ((11 : Int32) + x1).toNatClampNeg)), (0, .ref a0), (1, .int x1)] dX4_drop_50 rfl (by decide) rfl ?_
        refine at_aload_n (pc := 51) X 0 1 dX4_drop_51 rfl rfl ?_
        refine at_get (pc := 52) X 4 5 (.ref (mm_R G a0 5)) ha0 (by decide) rfl inX4_drop_X4 (by decide) lkX4_drop_0 rfl dX4_drop_52 ?_
        refine at_iload_n (pc := 55) X 1 2 dX4_drop_55 rfl rfl ?_
        obtain ⟨q56, hq56, h⟩ := mm_bind h
        refine at_scallv (n := 2) (pc := 56) X [.ref (mm_R G a0 5), .int x1] [] (mX4_drops (eL E) X.wf (wf_4_5 X.wf ha0) hq56) gX4_drop_X4_drops rfl ⟨rfl, rfl⟩ (by decide +kernel) ⟨by decide, by decide⟩ rfl rfl (Nat.le_of_ble_eq_true rfl) dX4_drop_56 ?_
        refine at_iload_n (pc := 59) X 2 0 dX4_drop_59 rfl rfl ?_
        exact at_iret (pc := 60) X (Option.some.inj h) dX4_drop_60
      · have h := mm_pos c31 h
        refine at_bipush (pc := 34) X (-2 : Int32) dX4_drop_34 ib_m2 ?_
        exact at_iret (pc := 36) X (Option.some.inj h) dX4_drop_36
    · have h := mm_pos c19 h
      refine at_bipush (pc := 22) X (-4 : Int32) dX4_drop_22 ib_m4 ?_
      exact at_iret (pc := 24) X (Option.some.inj h) dX4_drop_24
  · have h := mm_pos c5 h
    refine at_iconst (pc := 8) X (-1 : Int32) dX4_drop_8 ic_m1 ?_
    exact at_iret (pc := 9) X (Option.some.inj h) dX4_drop_9
set_option maxHeartbeats 4000000 in
set_option maxRecDepth 100000 in
theorem mX4_drop (l : Launch) {G : mm_G} (hwf : mm_WF G) {a0 : Nat} {x1 : Int32} {σ : mm_M} {q : (Int32 × mm_M)} (ha0 : mm_Is G 4 a0) (h : fX4_drop G a0 x1 σ = some q) : mm_Mi l yX4_drop wsX4_drop rmX4_drop G [.ref a0, .int x1] σ q := by
  refine mm_ofi (cc := cX4_drop) (nL := 3) (ret := some .int) (own := RX4) (lv0 := [(0, .ref a0), (1, .int x1)]) (by decide) rfl rfl (Nat.le_of_ble_eq_true rfl) rfl hwf (fun E hE X => ?_)
  exact wX4_drop_b0 X ha0 h
set_option maxRecDepth 20000 in
theorem ggX4_first_X4_isStation : GoodIn wsX4_first wsX4_isStation := goodIn_r _ [7, 1, 8, 9, 6, 10, 16, 17, 18, 19, 20, 21, 22, 23, 24, 25, 26, 27, 28, 29, 30, 31, 32, 33, 34, 35, 36, 37] (by decide +kernel) (by decide +kernel)
set_option maxRecDepth 20000 in
theorem gX4_first_X4_isStation : GoodIn wsX4_first (wsV RX4 132 RX4 yX4_isStation wsX4_isStation) := goodIn_app (goodIn_of _ (by decide +kernel)) ggX4_first_X4_isStation
set_option maxRecDepth 20000 in
theorem ggX4_first_X4_in : GoodIn wsX4_first wsX4_in := goodIn_r _ [10] (by decide +kernel) (by decide +kernel)
set_option maxRecDepth 20000 in
theorem gX4_first_X4_in : GoodIn wsX4_first (va_wsS RX4 73 yX4_in wsX4_in) := goodIn_app (goodIn_of _ (by decide +kernel)) ggX4_first_X4_in
set_option maxRecDepth 20000 in
theorem ggX4_first_X4_does : GoodIn wsX4_first wsX4_does := goodIn_r _ [14, 15, 2, 1, 16, 17, 18, 19, 20, 21, 22, 23, 24, 25, 26, 27, 28, 29, 30, 31, 32, 33, 34, 35, 36, 37] (by decide +kernel) (by decide +kernel)
set_option maxRecDepth 20000 in
theorem gX4_first_X4_does : GoodIn wsX4_first (wsV RX4 156 RX4 yX4_does wsX4_does) := goodIn_app (goodIn_of _ (by decide +kernel)) ggX4_first_X4_does
theorem dX4_first_0 : decode cX4_first 0 = .ok (.aload_n 0, 1) := by decide +kernel
theorem dX4_first_1 : decode cX4_first 1 = .ok (.iload_n 1, 1) := by decide +kernel
theorem dX4_first_2 : decode cX4_first 2 = .ok (.invokevirtual 132, 3) := by decide +kernel
theorem dX4_first_5 : decode cX4_first 5 = .ok (.ifCond .eq 13, 3) := by decide +kernel
theorem dX4_first_8 : decode cX4_first 8 = .ok (.iload_n 2, 1) := by decide +kernel
theorem dX4_first_9 : decode cX4_first 9 = .ok (.iconst 0, 1) := by decide +kernel
theorem dX4_first_10 : decode cX4_first 10 = .ok (.bipush 9, 2) := by decide +kernel
theorem dX4_first_12 : decode cX4_first 12 = .ok (.invokestatic 73, 3) := by decide +kernel
theorem dX4_first_15 : decode cX4_first 15 = .ok (.ifCond .ne 5, 3) := by decide +kernel
theorem dX4_first_18 : decode cX4_first 18 = .ok (.iconst (-1), 1) := by decide +kernel
theorem dX4_first_19 : decode cX4_first 19 = .ok (.ireturn, 1) := by decide +kernel
theorem dX4_first_20 : decode cX4_first 20 = .ok (.aload_n 0, 1) := by decide +kernel
theorem dX4_first_21 : decode cX4_first 21 = .ok (.getfield 26, 3) := by decide +kernel
theorem dX4_first_24 : decode cX4_first 24 = .ok (.iconst 4, 1) := by decide +kernel
theorem dX4_first_25 : decode cX4_first 25 = .ok (.iload_n 1, 1) := by decide +kernel
theorem dX4_first_26 : decode cX4_first 26 = .ok (.iadd, 1) := by decide +kernel
theorem dX4_first_27 : decode cX4_first 27 = .ok (.iaload, 1) := by decide +kernel
theorem dX4_first_28 : decode cX4_first 28 = .ok (.iload_n 2, 1) := by decide +kernel
theorem dX4_first_29 : decode cX4_first 29 = .ok (.if_icmp .ne 6, 3) := by decide +kernel
theorem dX4_first_32 : decode cX4_first 32 = .ok (.bipush (-4), 2) := by decide +kernel
theorem dX4_first_34 : decode cX4_first 34 = .ok (.ireturn, 1) := by decide +kernel
theorem dX4_first_35 : decode cX4_first 35 = .ok (.aload_n 0, 1) := by decide +kernel
theorem dX4_first_36 : decode cX4_first 36 = .ok (.getfield 111, 3) := by decide +kernel
theorem dX4_first_39 : decode cX4_first 39 = .ok (.bipush 40, 2) := by decide +kernel
theorem dX4_first_41 : decode cX4_first 41 = .ok (.if_icmp .ne 6, 3) := by decide +kernel
theorem dX4_first_44 : decode cX4_first 44 = .ok (.bipush (-2), 2) := by decide +kernel
theorem dX4_first_46 : decode cX4_first 46 = .ok (.ireturn, 1) := by decide +kernel
theorem dX4_first_47 : decode cX4_first 47 = .ok (.aload_n 0, 1) := by decide +kernel
theorem dX4_first_48 : decode cX4_first 48 = .ok (.invokevirtual 156, 3) := by decide +kernel
theorem dX4_first_51 : decode cX4_first 51 = .ok (.aload_n 0, 1) := by decide +kernel
theorem dX4_first_52 : decode cX4_first 52 = .ok (.getfield 26, 3) := by decide +kernel
theorem dX4_first_55 : decode cX4_first 55 = .ok (.iconst 4, 1) := by decide +kernel
theorem dX4_first_56 : decode cX4_first 56 = .ok (.iload_n 1, 1) := by decide +kernel
theorem dX4_first_57 : decode cX4_first 57 = .ok (.iadd, 1) := by decide +kernel
theorem dX4_first_58 : decode cX4_first 58 = .ok (.iaload, 1) := by decide +kernel
theorem dX4_first_59 : decode cX4_first 59 = .ok (.istore_n 3, 1) := by decide +kernel
theorem dX4_first_60 : decode cX4_first 60 = .ok (.aload_n 0, 1) := by decide +kernel
theorem dX4_first_61 : decode cX4_first 61 = .ok (.getfield 26, 3) := by decide +kernel
theorem dX4_first_64 : decode cX4_first 64 = .ok (.iconst 4, 1) := by decide +kernel
theorem dX4_first_65 : decode cX4_first 65 = .ok (.iload_n 1, 1) := by decide +kernel
theorem dX4_first_66 : decode cX4_first 66 = .ok (.iadd, 1) := by decide +kernel
theorem dX4_first_67 : decode cX4_first 67 = .ok (.iload_n 2, 1) := by decide +kernel
theorem dX4_first_68 : decode cX4_first 68 = .ok (.iastore, 1) := by decide +kernel
theorem dX4_first_69 : decode cX4_first 69 = .ok (.iload_n 3, 1) := by decide +kernel
theorem dX4_first_70 : decode cX4_first 70 = .ok (.ireturn, 1) := by decide +kernel
/-! X4_first (II)I -/
abbrev rmX4_first : Room := { frames := 2, cells := 0, slots := 0, locals := 43 }
theorem lkX4_first_0 : Cond.fieldLink RX4 26 (TX4 5).1 (TX4 5).2.1 (TX4 5).2.2.1 ∈ wsX4_first := by decide +kernel
theorem lkX4_first_1 : Cond.fieldLink RX4 111 (TX4 10).1 (TX4 10).2.1 (TX4 10).2.2.1 ∈ wsX4_first := by decide +kernel
theorem inX4_first_X4 : ∀ w ∈ u_ws RX4 TX4 22, w ∈ wsX4_first := by decide +kernel
noncomputable def fX4_first (G : mm_G) (a0 : Nat) (x1 : Int32) (x2 : Int32) (σ : mm_M) : Option (Int32 × mm_M) := (fX4_isStation G a0 x1 σ).bind (fun q2 => if q2.1 = 0 then (some ((-1 : Int32), q2.2)) else ((fX4_in G x2 (0 : Int32) (9 : Int32) q2.2).bind (fun q12 => if q12.1 = 0 then (some ((-1 : Int32), q12.2)) else (if ((4 : Int32) + x1) < 0 ∨ mm_N G (mm_R G a0 5) ≤ ((4 : Int32) + x1).toNatClampNeg then none else (if (q12.2.1 (mm_R G a0 5) ((4 : Int32) + x1).toNatClampNeg) = x2 then (some ((-4 : Int32), q12.2)) else (if (q12.2.1 a0 10) = (40 : Int32) then (some ((-2 : Int32), q12.2)) else ((fX4_does G a0 q12.2).bind (fun q48 => if ((4 : Int32) + x1) < 0 ∨ mm_N G (mm_R G a0 5) ≤ ((4 : Int32) + x1).toNatClampNeg then none else (if ((4 : Int32) + x1) < 0 ∨ mm_N G (mm_R G a0 5) ≤ ((4 : Int32) + x1).toNatClampNeg then none else (some (q48.1 (mm_R G a0 5) ((4 : Int32) + x1).toNatClampNeg, mm_up q48 (mm_R G a0 5) ((4 : Int32) + x1).toNatClampNeg x2)))))))))))
set_option maxHeartbeats 4000000 in
set_option maxRecDepth 100000 in
theorem wX4_first_b0 {E : mm_E} {G : mm_G} (X : mm_Cx E G cX4_first 4 RX4 wsX4_first rmX4_first (some .int)) {a0 : Nat} {x1 : Int32} {x2 : Int32} {σ : mm_M} {q : (Int32 × mm_M)} (ha0 : mm_Is G 4 a0) (h : fX4_first G a0 x1 x2 σ = some q) : mm_At E G 4 (mm_Qi E G q) σ 0 [(0, .ref a0), (1, .int x1), (2, .int x2)] [] := by
  unfold fX4_first at h
  refine at_aload_n (pc := 0) X 0 0 dX4_first_0 rfl rfl ?_
  refine at_iload_n (pc := 1) X 1 1 dX4_first_1 rfl rfl ?_
  obtain ⟨q2, hq2, h⟩ := mm_bind h
  refine at_calli (n := 1) (pc := 2) X 4 [.int x1] [] (mX4_isStation (eL E) X.wf ha0 hq2) gX4_first_X4_isStation rfl ⟨rfl, rfl⟩ (by decide +kernel) ⟨by decide, by decide⟩ (by decide) rfl ha0 rfl rfl (Nat.le_of_ble_eq_true rfl) dX4_first_2 ?_
  refine at_if_eq (pc := 5) X 18 dX4_first_5 (by decide) (fun c5 => ?_) (fun c5 => ?_)
  · have h := mm_pos c5 h
    refine at_iconst (pc := 18) X (-1 : Int32) dX4_first_18 ic_m1 ?_
    exact at_iret (pc := 19) X (Option.some.inj h) dX4_first_19
  · have h := mm_neg c5 h
    refine at_iload_n (pc := 8) X 2 2 dX4_first_8 rfl rfl ?_
    refine at_iconst (pc := 9) X (0 : Int32) dX4_first_9 ic_0 ?_
    refine at_bipush (pc := 10) X (9 : Int32) dX4_first_10 ib_9 ?_
    obtain ⟨q12, hq12, h⟩ := mm_bind h
    refine at_scalli (n := 3) (pc := 12) X [.int x2, .int (0 : Int32), .int (9 : Int32)] [] (mX4_in (eL E) X.wf hq12) gX4_first_X4_in rfl ⟨rfl, rfl⟩ (by decide +kernel) ⟨by decide, by decide⟩ rfl rfl (Nat.le_of_ble_eq_true rfl) dX4_first_12 ?_
    refine at_if_ne (pc := 15) X 20 dX4_first_15 (by decide) (fun c15 => ?_) (fun c15 => ?_)
    · have h := mm_neg c15 h
      refine at_aload_n (pc := 20) X 0 0 dX4_first_20 rfl rfl ?_
      refine at_get (pc := 21) X 4 5 (.ref (mm_R G a0 5)) ha0 (by decide) rfl inX4_first_X4 (by decide) lkX4_first_0 rfl dX4_first_21 ?_
      refine at_iconst (pc := 24) X (4 : Int32) dX4_first_24 ic_4 ?_
      refine at_iload_n (pc := 25) X 1 1 dX4_first_25 rfl rfl ?_
      refine at_iadd (pc := 26) X dX4_first_26 ?_
      obtain ⟨hc27, h⟩ := mm_chk h
      refine at_iald (pc := 27) X (wf_4_5 X.wf ha0) hc27 dX4_first_27 ?_
      refine at_iload_n (pc := 28) X 2 2 dX4_first_28 rfl rfl ?_
      refine at_icmp_ne (pc := 29) X 35 dX4_first_29 (by decide) (fun c29 => ?_) (fun c29 => ?_)
      · have h := mm_neg c29 h
        refine at_aload_n (pc := 35) X 0 0 dX4_first_35 rfl rfl ?_
        refine at_get (pc := 36) X 4 10 (.int (q12.2.1 a0 10)) ha0 (by decide) rfl inX4_first_X4 (by decide) lkX4_first_1 rfl dX4_first_36 ?_
        refine at_bipush (pc := 39) X (40 : Int32) dX4_first_39 ib_40 ?_
        refine at_icmp_ne (pc := 41) X 47 dX4_first_41 (by decide) (fun c41 => ?_) (fun c41 => ?_)
        · have h := mm_neg c41 h
          refine at_aload_n (pc := 47) X 0 0 dX4_first_47 rfl rfl ?_
          obtain ⟨q48, hq48, h⟩ := mm_bind h
          refine at_callv (n := 0) (pc := 48) X 4 [] [] (mX4_does (eL E) X.wf ha0 hq48) gX4_first_X4_does rfl ⟨rfl, rfl⟩ (by decide +kernel) ⟨by decide, by decide⟩ (by decide) rfl ha0 rfl rfl (Nat.le_of_ble_eq_true rfl) dX4_first_48 ?_
          refine at_aload_n (pc := 51) X 0 0 dX4_first_51 rfl rfl ?_
          refine at_get (pc := 52) X 4 5 (.ref (mm_R G a0 5)) ha0 (by decide) rfl inX4_first_X4 (by decide) lkX4_first_0 rfl dX4_first_52 ?_
          refine at_iconst (pc := 55) X (4 : Int32) dX4_first_55 ic_4 ?_
          refine at_iload_n (pc := 56) X 1 1 dX4_first_56 rfl rfl ?_
          refine at_iadd (pc := 57) X dX4_first_57 ?_
          obtain ⟨hc58, h⟩ := mm_chk h
          refine at_iald (pc := 58) X (wf_4_5 X.wf ha0) hc58 dX4_first_58 ?_
          refine at_istore_n (pc := 59) X 3 [(3, .int (q48.1 (mm_R G a0 5) ((4 : Int32) + x1).toNatClampNeg)), (0, .ref a0), (1, .int x1), (2, .int x2)] dX4_first_59 rfl (by decide) rfl ?_
          refine at_aload_n (pc := 60) X 0 1 dX4_first_60 rfl rfl ?_
          refine at_get (pc := 61) X 4 5 (.ref (mm_R G a0 5)) ha0 (by decide) rfl inX4_first_X4 (by decide) lkX4_first_0 rfl dX4_first_61 ?_
          refine at_iconst (pc := 64) X (4 : Int32) dX4_first_64 ic_4 ?_
          refine at_iload_n (pc := 65) X 1 2 dX4_first_65 rfl rfl ?_
          refine at_iadd (pc := 66) X dX4_first_66 ?_
          refine at_iload_n (pc := 67) X 2 3 dX4_first_67 rfl rfl ?_
          obtain ⟨hc68, h⟩ := mm_chk h
          refine at_iast (pc := 68) X (wf_4_5 X.wf ha0) hc68 dX4_first_68 ?_
          refine at_iload_n (pc := 69) X 3 0 dX4_first_69 rfl rfl ?_
          exact at_iret (pc := 70) X (Option.some.inj h) dX4_first_70
        · have h := mm_pos c41 h
          refine at_bipush (pc := 44) X (-2 : Int32) dX4_first_44 ib_m2 ?_
          exact at_iret (pc := 46) X (Option.some.inj h) dX4_first_46
      · have h := mm_pos c29 h
        refine at_bipush (pc := 32) X (-4 : Int32) dX4_first_32 ib_m4 ?_
        exact at_iret (pc := 34) X (Option.some.inj h) dX4_first_34
    · have h := mm_pos c15 h
      refine at_iconst (pc := 18) X (-1 : Int32) dX4_first_18 ic_m1 ?_
      exact at_iret (pc := 19) X (Option.some.inj h) dX4_first_19
set_option maxHeartbeats 4000000 in
set_option maxRecDepth 100000 in
theorem mX4_first (l : Launch) {G : mm_G} (hwf : mm_WF G) {a0 : Nat} {x1 : Int32} {x2 : Int32} {σ : mm_M} {q : (Int32 × mm_M)} (ha0 : mm_Is G 4 a0) (h : fX4_first G a0 x1 x2 σ = some q) : mm_Mi l yX4_first wsX4_first rmX4_first G [.ref a0, .int x1, .int x2] σ q := by
  refine mm_ofi (cc := cX4_first) (nL := 4) (ret := some .int) (own := RX4) (lv0 := [(0, .ref a0), (1, .int x1), (2, .int x2)]) (by decide) rfl rfl (Nat.le_of_ble_eq_true rfl) rfl hwf (fun E hE X => ?_)
  exact wX4_first_b0 X ha0 h
set_option maxRecDepth 20000 in
theorem ggX4_undo_X4_in : GoodIn wsX4_undo wsX4_in := goodIn_r _ [7] (by decide +kernel) (by decide +kernel)
set_option maxRecDepth 20000 in
theorem gX4_undo_X4_in : GoodIn wsX4_undo (va_wsS RX4 73 yX4_in wsX4_in) := goodIn_app (goodIn_of _ (by decide +kernel)) ggX4_undo_X4_in
theorem dX4_undo_0 : decode cX4_undo 0 = .ok (.iload_n 1, 1) := by decide +kernel
theorem dX4_undo_1 : decode cX4_undo 1 = .ok (.iconst 0, 1) := by decide +kernel
theorem dX4_undo_2 : decode cX4_undo 2 = .ok (.aload_n 0, 1) := by decide +kernel
theorem dX4_undo_3 : decode cX4_undo 3 = .ok (.getfield 111, 3) := by decide +kernel
theorem dX4_undo_6 : decode cX4_undo 6 = .ok (.invokestatic 73, 3) := by decide +kernel
theorem dX4_undo_9 : decode cX4_undo 9 = .ok (.ifCond .ne 5, 3) := by decide +kernel
theorem dX4_undo_12 : decode cX4_undo 12 = .ok (.iconst (-1), 1) := by decide +kernel
theorem dX4_undo_13 : decode cX4_undo 13 = .ok (.ireturn, 1) := by decide +kernel
theorem dX4_undo_14 : decode cX4_undo 14 = .ok (.aload_n 0, 1) := by decide +kernel
theorem dX4_undo_15 : decode cX4_undo 15 = .ok (.getfield 111, 3) := by decide +kernel
theorem dX4_undo_18 : decode cX4_undo 18 = .ok (.iload_n 1, 1) := by decide +kernel
theorem dX4_undo_19 : decode cX4_undo 19 = .ok (.isub, 1) := by decide +kernel
theorem dX4_undo_20 : decode cX4_undo 20 = .ok (.istore_n 2, 1) := by decide +kernel
theorem dX4_undo_21 : decode cX4_undo 21 = .ok (.iload_n 2, 1) := by decide +kernel
theorem dX4_undo_22 : decode cX4_undo 22 = .ok (.ifCond .le 34, 3) := by decide +kernel
theorem dX4_undo_25 : decode cX4_undo 25 = .ok (.iconst 0, 1) := by decide +kernel
theorem dX4_undo_26 : decode cX4_undo 26 = .ok (.istore_n 3, 1) := by decide +kernel
theorem dX4_undo_27 : decode cX4_undo 27 = .ok (.iload_n 3, 1) := by decide +kernel
theorem dX4_undo_28 : decode cX4_undo 28 = .ok (.bipush 32, 2) := by decide +kernel
theorem dX4_undo_30 : decode cX4_undo 30 = .ok (.if_icmp .ge 26, 3) := by decide +kernel
theorem dX4_undo_33 : decode cX4_undo 33 = .ok (.aload_n 0, 1) := by decide +kernel
theorem dX4_undo_34 : decode cX4_undo 34 = .ok (.getfield 26, 3) := by decide +kernel
theorem dX4_undo_37 : decode cX4_undo 37 = .ok (.iload_n 3, 1) := by decide +kernel
theorem dX4_undo_38 : decode cX4_undo 38 = .ok (.aload_n 0, 1) := by decide +kernel
theorem dX4_undo_39 : decode cX4_undo 39 = .ok (.getfield 38, 3) := by decide +kernel
theorem dX4_undo_42 : decode cX4_undo 42 = .ok (.bipush 32, 2) := by decide +kernel
theorem dX4_undo_44 : decode cX4_undo 44 = .ok (.iload_n 1, 1) := by decide +kernel
theorem dX4_undo_45 : decode cX4_undo 45 = .ok (.imul, 1) := by decide +kernel
theorem dX4_undo_46 : decode cX4_undo 46 = .ok (.iload_n 3, 1) := by decide +kernel
theorem dX4_undo_47 : decode cX4_undo 47 = .ok (.iadd, 1) := by decide +kernel
theorem dX4_undo_48 : decode cX4_undo 48 = .ok (.iaload, 1) := by decide +kernel
theorem dX4_undo_49 : decode cX4_undo 49 = .ok (.iastore, 1) := by decide +kernel
theorem dX4_undo_50 : decode cX4_undo 50 = .ok (.iinc 3 1, 3) := by decide +kernel
theorem dX4_undo_53 : decode cX4_undo 53 = .ok (.goto (-26), 3) := by decide +kernel
theorem dX4_undo_56 : decode cX4_undo 56 = .ok (.aload_n 0, 1) := by decide +kernel
theorem dX4_undo_57 : decode cX4_undo 57 = .ok (.iload_n 1, 1) := by decide +kernel
theorem dX4_undo_58 : decode cX4_undo 58 = .ok (.putfield 111, 3) := by decide +kernel
theorem dX4_undo_61 : decode cX4_undo 61 = .ok (.iload_n 2, 1) := by decide +kernel
theorem dX4_undo_62 : decode cX4_undo 62 = .ok (.ireturn, 1) := by decide +kernel
/-! X4_undo (I)I -/
abbrev rmX4_undo : Room := { frames := 1, cells := 0, slots := 0, locals := 22 }
theorem lkX4_undo_0 : Cond.fieldLink RX4 111 (TX4 10).1 (TX4 10).2.1 (TX4 10).2.2.1 ∈ wsX4_undo := by decide +kernel
theorem lkX4_undo_1 : Cond.fieldLink RX4 26 (TX4 5).1 (TX4 5).2.1 (TX4 5).2.2.1 ∈ wsX4_undo := by decide +kernel
theorem lkX4_undo_2 : Cond.fieldLink RX4 38 (TX4 9).1 (TX4 9).2.1 (TX4 9).2.2.1 ∈ wsX4_undo := by decide +kernel
theorem inX4_undo_X4 : ∀ w ∈ u_ws RX4 TX4 22, w ∈ wsX4_undo := by decide +kernel
noncomputable def fX4_undo_b56 (G : mm_G) (a0 : Nat) (x1 : Int32) (x2 : Int32) (σ : mm_M) : Option ((Int32 × mm_M) ⊕ (Int32 × Int32 × mm_M)) := some (.inl (x2, mm_up σ a0 10 x1))
noncomputable def fX4_undo_b27 (G : mm_G) (a0 : Nat) (x1 : Int32) (x2 : Int32) (x3 : Int32) (σ : mm_M) : Option ((Int32 × mm_M) ⊕ (Int32 × Int32 × mm_M)) := if x3 < (32 : Int32) then (if (((32 : Int32) * x1) + x3) < 0 ∨ mm_N G (mm_R G a0 9) ≤ (((32 : Int32) * x1) + x3).toNatClampNeg then none else (if x3 < 0 ∨ mm_N G (mm_R G a0 5) ≤ x3.toNatClampNeg then none else (some (.inr (x2, x3 + 1, mm_up σ (mm_R G a0 5) x3.toNatClampNeg (σ.1 (mm_R G a0 9) (((32 : Int32) * x1) + x3).toNatClampNeg)))))) else (fX4_undo_b56 G a0 x1 x2 σ)
noncomputable def fX4_undo_b0 (G : mm_G) (a0 : Nat) (x1 : Int32) (σ : mm_M) : Option ((Int32 × mm_M) ⊕ (Int32 × Int32 × mm_M)) := (fX4_in G x1 (0 : Int32) (σ.1 a0 10) σ).bind (fun q6 => if q6.1 = 0 then (some (.inl ((-1 : Int32), q6.2))) else (if 0 < ((q6.2.1 a0 10) - x1) then (some (.inr ((q6.2.1 a0 10) - x1, (0 : Int32), q6.2))) else (fX4_undo_b56 G a0 x1 ((q6.2.1 a0 10) - x1) q6.2)))
noncomputable def fX4_undo_s (G : mm_G) (a0 : Nat) (x1 : Int32) : (Int32 × Int32 × mm_M) → Option ((Int32 × mm_M) ⊕ (Int32 × Int32 × mm_M)) := (fun s => fX4_undo_b27 G a0 x1 s.1 s.2.1 s.2.2)
def PX4_undo (E : mm_E) (G : mm_G) (a0 : Nat) (x1 : Int32) (q : (Int32 × mm_M)) : (Int32 × Int32 × mm_M) → Prop := (fun s => mm_At E G 4 (mm_Qi E G q) s.2.2 27 [(0, .ref a0), (1, .int x1), (2, .int s.1), (3, .int s.2.1)] [])
noncomputable def fX4_undo (G : mm_G) (a0 : Nat) (x1 : Int32) (σ : mm_M) : Option (Int32 × mm_M) := mm_run (fX4_undo_b0 G a0 x1 σ) (fX4_undo_s G a0 x1)
set_option maxHeartbeats 4000000 in
set_option maxRecDepth 100000 in
theorem wX4_undo_b56 {E : mm_E} {G : mm_G} (X : mm_Cx E G cX4_undo 4 RX4 wsX4_undo rmX4_undo (some .int)) {a0 : Nat} {x1 : Int32} {x2 : Int32} {σ : mm_M} {q : (Int32 × mm_M)} (ha0 : mm_Is G 4 a0) {o : (Int32 × mm_M) ⊕ (Int32 × Int32 × mm_M)} (h : fX4_undo_b56 G a0 x1 x2 σ = some o) (hk : mm_Ok q (PX4_undo E G a0 x1 q) o) : mm_At E G 4 (mm_Qi E G q) σ 56 [(0, .ref a0), (1, .int x1), (2, .int x2)] [] := by
  unfold fX4_undo_b56 at h
  refine at_aload_n (pc := 56) X 0 0 dX4_undo_56 rfl rfl ?_
  refine at_iload_n (pc := 57) X 1 1 dX4_undo_57 rfl rfl ?_
  refine at_put (pc := 58) X 4 10 ha0 (by decide) rfl inX4_undo_X4 tyX4 tyX4_ok nmX4 (by decide) lkX4_undo_0 rfl (ty := .int) rfl rfl rfl (Nat.le_of_ble_eq_true rfl) (ms_4_10 G _ _ _) mm_up_ne dX4_undo_58 ?_
  refine at_iload_n (pc := 61) X 2 2 dX4_undo_61 rfl rfl ?_
  exact at_iret (pc := 62) X (mm_inl h hk) dX4_undo_62
set_option maxHeartbeats 4000000 in
set_option maxRecDepth 100000 in
theorem wX4_undo_b27 {E : mm_E} {G : mm_G} (X : mm_Cx E G cX4_undo 4 RX4 wsX4_undo rmX4_undo (some .int)) {a0 : Nat} {x1 : Int32} {x2 : Int32} {x3 : Int32} {σ : mm_M} {q : (Int32 × mm_M)} (ha0 : mm_Is G 4 a0) {o : (Int32 × mm_M) ⊕ (Int32 × Int32 × mm_M)} (h : fX4_undo_b27 G a0 x1 x2 x3 σ = some o) (hk : mm_Ok q (PX4_undo E G a0 x1 q) o) : mm_At E G 4 (mm_Qi E G q) σ 27 [(0, .ref a0), (1, .int x1), (2, .int x2), (3, .int x3)] [] := by
  unfold fX4_undo_b27 at h
  refine at_iload_n (pc := 27) X 3 3 dX4_undo_27 rfl rfl ?_
  refine at_bipush (pc := 28) X (32 : Int32) dX4_undo_28 ib_32 ?_
  refine at_icmp_ge (pc := 30) X 56 dX4_undo_30 (by decide) (fun c30 => ?_) (fun c30 => ?_)
  · have h := mm_neg c30 h
    exact at_sub [0, 1, 2] rfl (wX4_undo_b56 X ha0 h hk)
  · have h := mm_pos c30 h
    refine at_aload_n (pc := 33) X 0 0 dX4_undo_33 rfl rfl ?_
    refine at_get (pc := 34) X 4 5 (.ref (mm_R G a0 5)) ha0 (by decide) rfl inX4_undo_X4 (by decide) lkX4_undo_1 rfl dX4_undo_34 ?_
    refine at_iload_n (pc := 37) X 3 3 dX4_undo_37 rfl rfl ?_
    refine at_aload_n (pc := 38) X 0 0 dX4_undo_38 rfl rfl ?_
    refine at_get (pc := 39) X 4 9 (.ref (mm_R G a0 9)) ha0 (by decide) rfl inX4_undo_X4 (by decide) lkX4_undo_2 rfl dX4_undo_39 ?_
    refine at_bipush (pc := 42) X (32 : Int32) dX4_undo_42 ib_32 ?_
    refine at_iload_n (pc := 44) X 1 1 dX4_undo_44 rfl rfl ?_
    refine at_imul (pc := 45) X dX4_undo_45 ?_
    refine at_iload_n (pc := 46) X 3 3 dX4_undo_46 rfl rfl ?_
    refine at_iadd (pc := 47) X dX4_undo_47 ?_
    obtain ⟨hc48, h⟩ := mm_chk h
    refine at_iald (pc := 48) X (wf_4_9 X.wf ha0) hc48 dX4_undo_48 ?_
    obtain ⟨hc49, h⟩ := mm_chk h
    refine at_iast (pc := 49) X (wf_4_5 X.wf ha0) hc49 dX4_undo_49 ?_
    refine at_iinc (pc := 50) X 3 3 (x3 + 1) [(3, .int (x3 + 1)), (0, .ref a0), (1, .int x1), (2, .int x2)] dX4_undo_50 rfl (ii_1 _) (by decide) rfl ?_
    refine at_goto (pc := 53) X 27 dX4_undo_53 (by decide) ?_
    have h2 := mm_inr h hk; exact at_sub [1, 2, 3, 0] rfl h2
set_option maxHeartbeats 4000000 in
set_option maxRecDepth 100000 in
theorem wX4_undo_b0 {E : mm_E} {G : mm_G} (X : mm_Cx E G cX4_undo 4 RX4 wsX4_undo rmX4_undo (some .int)) {a0 : Nat} {x1 : Int32} {σ : mm_M} {q : (Int32 × mm_M)} (ha0 : mm_Is G 4 a0) {o : (Int32 × mm_M) ⊕ (Int32 × Int32 × mm_M)} (h : fX4_undo_b0 G a0 x1 σ = some o) (hk : mm_Ok q (PX4_undo E G a0 x1 q) o) : mm_At E G 4 (mm_Qi E G q) σ 0 [(0, .ref a0), (1, .int x1)] [] := by
  unfold fX4_undo_b0 at h
  refine at_iload_n (pc := 0) X 1 1 dX4_undo_0 rfl rfl ?_
  refine at_iconst (pc := 1) X (0 : Int32) dX4_undo_1 ic_0 ?_
  refine at_aload_n (pc := 2) X 0 0 dX4_undo_2 rfl rfl ?_
  refine at_get (pc := 3) X 4 10 (.int (σ.1 a0 10)) ha0 (by decide) rfl inX4_undo_X4 (by decide) lkX4_undo_0 rfl dX4_undo_3 ?_
  obtain ⟨q6, hq6, h⟩ := mm_bind h
  refine at_scalli (n := 3) (pc := 6) X [.int x1, .int (0 : Int32), .int (σ.1 a0 10)] [] (mX4_in (eL E) X.wf hq6) gX4_undo_X4_in rfl ⟨rfl, rfl⟩ (by decide +kernel) ⟨by decide, by decide⟩ rfl rfl (Nat.le_of_ble_eq_true rfl) dX4_undo_6 ?_
  refine at_if_ne (pc := 9) X 14 dX4_undo_9 (by decide) (fun c9 => ?_) (fun c9 => ?_)
  · have h := mm_neg c9 h
    refine at_aload_n (pc := 14) X 0 0 dX4_undo_14 rfl rfl ?_
    refine at_get (pc := 15) X 4 10 (.int (q6.2.1 a0 10)) ha0 (by decide) rfl inX4_undo_X4 (by decide) lkX4_undo_0 rfl dX4_undo_15 ?_
    refine at_iload_n (pc := 18) X 1 1 dX4_undo_18 rfl rfl ?_
    refine at_isub (pc := 19) X dX4_undo_19 ?_
    refine at_istore_n (pc := 20) X 2 [(2, .int ((q6.2.1 a0 10) - x1)), (0, .ref a0), (1, .int x1)] dX4_undo_20 rfl (by decide) rfl ?_
    refine at_iload_n (pc := 21) X 2 0 dX4_undo_21 rfl rfl ?_
    refine at_if_le (pc := 22) X 56 dX4_undo_22 (by decide) (fun c22 => ?_) (fun c22 => ?_)
    · have h := mm_neg c22 h
      exact at_sub [1, 2, 0] rfl (wX4_undo_b56 X ha0 h hk)
    · have h := mm_pos c22 h
      refine at_iconst (pc := 25) X (0 : Int32) dX4_undo_25 ic_0 ?_
      refine at_istore_n (pc := 26) X 3 [(3, .int (0 : Int32)), (2, .int ((q6.2.1 a0 10) - x1)), (0, .ref a0), (1, .int x1)] dX4_undo_26 rfl (by decide) rfl ?_
      have h2 := mm_inr h hk; exact at_sub [2, 3, 1, 0] rfl h2
  · have h := mm_pos c9 h
    refine at_iconst (pc := 12) X (-1 : Int32) dX4_undo_12 ic_m1 ?_
    exact at_iret (pc := 13) X (mm_inl h hk) dX4_undo_13
set_option maxHeartbeats 4000000 in
set_option maxRecDepth 100000 in
theorem mX4_undo (l : Launch) {G : mm_G} (hwf : mm_WF G) {a0 : Nat} {x1 : Int32} {σ : mm_M} {q : (Int32 × mm_M)} (ha0 : mm_Is G 4 a0) (h : fX4_undo G a0 x1 σ = some q) : mm_Mi l yX4_undo wsX4_undo rmX4_undo G [.ref a0, .int x1] σ q := by
  refine mm_ofi (cc := cX4_undo) (nL := 4) (ret := some .int) (own := RX4) (lv0 := [(0, .ref a0), (1, .int x1)]) (by decide) rfl rfl (Nat.le_of_ble_eq_true rfl) rfl hwf (fun E hE X => ?_)
  obtain ⟨o, h0, hk⟩ := mm_run_ok (P := PX4_undo E G a0 x1 q) h (fun s o hs hk => by exact wX4_undo_b27 X ha0 hs hk)
  exact wX4_undo_b0 X ha0 h0 hk
set_option maxRecDepth 20000 in
theorem ggX4_keep_X4_in : GoodIn wsX4_keep wsX4_in := goodIn_r _ [10] (by decide +kernel) (by decide +kernel)
set_option maxRecDepth 20000 in
theorem gX4_keep_X4_in : GoodIn wsX4_keep (va_wsS RX4 73 yX4_in wsX4_in) := goodIn_app (goodIn_of _ (by decide +kernel)) ggX4_keep_X4_in
theorem dX4_keep_0 : decode cX4_keep 0 = .ok (.iload_n 1, 1) := by decide +kernel
theorem dX4_keep_1 : decode cX4_keep 1 = .ok (.iconst 0, 1) := by decide +kernel
theorem dX4_keep_2 : decode cX4_keep 2 = .ok (.iconst 2, 1) := by decide +kernel
theorem dX4_keep_3 : decode cX4_keep 3 = .ok (.invokestatic 73, 3) := by decide +kernel
theorem dX4_keep_6 : decode cX4_keep 6 = .ok (.ifCond .ne 5, 3) := by decide +kernel
theorem dX4_keep_9 : decode cX4_keep 9 = .ok (.iconst (-1), 1) := by decide +kernel
theorem dX4_keep_10 : decode cX4_keep 10 = .ok (.ireturn, 1) := by decide +kernel
theorem dX4_keep_11 : decode cX4_keep 11 = .ok (.aload_n 0, 1) := by decide +kernel
theorem dX4_keep_12 : decode cX4_keep 12 = .ok (.getfield 26, 3) := by decide +kernel
theorem dX4_keep_15 : decode cX4_keep 15 = .ok (.bipush 32, 2) := by decide +kernel
theorem dX4_keep_17 : decode cX4_keep 17 = .ok (.iaload, 1) := by decide +kernel
theorem dX4_keep_18 : decode cX4_keep 18 = .ok (.ifCond .ne 6, 3) := by decide +kernel
theorem dX4_keep_21 : decode cX4_keep 21 = .ok (.bipush (-4), 2) := by decide +kernel
theorem dX4_keep_23 : decode cX4_keep 23 = .ok (.ireturn, 1) := by decide +kernel
theorem dX4_keep_24 : decode cX4_keep 24 = .ok (.iconst 0, 1) := by decide +kernel
theorem dX4_keep_25 : decode cX4_keep 25 = .ok (.istore_n 2, 1) := by decide +kernel
theorem dX4_keep_26 : decode cX4_keep 26 = .ok (.iload_n 2, 1) := by decide +kernel
theorem dX4_keep_27 : decode cX4_keep 27 = .ok (.bipush 48, 2) := by decide +kernel
theorem dX4_keep_29 : decode cX4_keep 29 = .ok (.if_icmp .ge 26, 3) := by decide +kernel
theorem dX4_keep_32 : decode cX4_keep 32 = .ok (.aload_n 0, 1) := by decide +kernel
theorem dX4_keep_33 : decode cX4_keep 33 = .ok (.getfield 41, 3) := by decide +kernel
theorem dX4_keep_36 : decode cX4_keep 36 = .ok (.bipush 48, 2) := by decide +kernel
theorem dX4_keep_38 : decode cX4_keep 38 = .ok (.iload_n 1, 1) := by decide +kernel
theorem dX4_keep_39 : decode cX4_keep 39 = .ok (.imul, 1) := by decide +kernel
theorem dX4_keep_40 : decode cX4_keep 40 = .ok (.iload_n 2, 1) := by decide +kernel
theorem dX4_keep_41 : decode cX4_keep 41 = .ok (.iadd, 1) := by decide +kernel
theorem dX4_keep_42 : decode cX4_keep 42 = .ok (.aload_n 0, 1) := by decide +kernel
theorem dX4_keep_43 : decode cX4_keep 43 = .ok (.getfield 26, 3) := by decide +kernel
theorem dX4_keep_46 : decode cX4_keep 46 = .ok (.iload_n 2, 1) := by decide +kernel
theorem dX4_keep_47 : decode cX4_keep 47 = .ok (.iaload, 1) := by decide +kernel
theorem dX4_keep_48 : decode cX4_keep 48 = .ok (.iastore, 1) := by decide +kernel
theorem dX4_keep_49 : decode cX4_keep 49 = .ok (.iinc 2 1, 3) := by decide +kernel
theorem dX4_keep_52 : decode cX4_keep 52 = .ok (.goto (-26), 3) := by decide +kernel
theorem dX4_keep_55 : decode cX4_keep 55 = .ok (.iconst 0, 1) := by decide +kernel
theorem dX4_keep_56 : decode cX4_keep 56 = .ok (.istore_n 2, 1) := by decide +kernel
theorem dX4_keep_57 : decode cX4_keep 57 = .ok (.iload_n 2, 1) := by decide +kernel
theorem dX4_keep_58 : decode cX4_keep 58 = .ok (.aload_n 0, 1) := by decide +kernel
theorem dX4_keep_59 : decode cX4_keep 59 = .ok (.getfield 38, 3) := by decide +kernel
theorem dX4_keep_62 : decode cX4_keep 62 = .ok (.arraylength, 1) := by decide +kernel
theorem dX4_keep_63 : decode cX4_keep 63 = .ok (.if_icmp .ge 29, 3) := by decide +kernel
theorem dX4_keep_66 : decode cX4_keep 66 = .ok (.aload_n 0, 1) := by decide +kernel
theorem dX4_keep_67 : decode cX4_keep 67 = .ok (.getfield 44, 3) := by decide +kernel
theorem dX4_keep_70 : decode cX4_keep 70 = .ok (.aload_n 0, 1) := by decide +kernel
theorem dX4_keep_71 : decode cX4_keep 71 = .ok (.getfield 38, 3) := by decide +kernel
theorem dX4_keep_74 : decode cX4_keep 74 = .ok (.arraylength, 1) := by decide +kernel
theorem dX4_keep_75 : decode cX4_keep 75 = .ok (.iload_n 1, 1) := by decide +kernel
theorem dX4_keep_76 : decode cX4_keep 76 = .ok (.imul, 1) := by decide +kernel
theorem dX4_keep_77 : decode cX4_keep 77 = .ok (.iload_n 2, 1) := by decide +kernel
theorem dX4_keep_78 : decode cX4_keep 78 = .ok (.iadd, 1) := by decide +kernel
theorem dX4_keep_79 : decode cX4_keep 79 = .ok (.aload_n 0, 1) := by decide +kernel
theorem dX4_keep_80 : decode cX4_keep 80 = .ok (.getfield 38, 3) := by decide +kernel
theorem dX4_keep_83 : decode cX4_keep 83 = .ok (.iload_n 2, 1) := by decide +kernel
theorem dX4_keep_84 : decode cX4_keep 84 = .ok (.iaload, 1) := by decide +kernel
theorem dX4_keep_85 : decode cX4_keep 85 = .ok (.iastore, 1) := by decide +kernel
theorem dX4_keep_86 : decode cX4_keep 86 = .ok (.iinc 2 1, 3) := by decide +kernel
theorem dX4_keep_89 : decode cX4_keep 89 = .ok (.goto (-32), 3) := by decide +kernel
theorem dX4_keep_92 : decode cX4_keep 92 = .ok (.aload_n 0, 1) := by decide +kernel
theorem dX4_keep_93 : decode cX4_keep 93 = .ok (.getfield 47, 3) := by decide +kernel
theorem dX4_keep_96 : decode cX4_keep 96 = .ok (.iload_n 1, 1) := by decide +kernel
theorem dX4_keep_97 : decode cX4_keep 97 = .ok (.aload_n 0, 1) := by decide +kernel
theorem dX4_keep_98 : decode cX4_keep 98 = .ok (.getfield 111, 3) := by decide +kernel
theorem dX4_keep_101 : decode cX4_keep 101 = .ok (.iastore, 1) := by decide +kernel
theorem dX4_keep_102 : decode cX4_keep 102 = .ok (.aload_n 0, 1) := by decide +kernel
theorem dX4_keep_103 : decode cX4_keep 103 = .ok (.getfield 111, 3) := by decide +kernel
theorem dX4_keep_106 : decode cX4_keep 106 = .ok (.ireturn, 1) := by decide +kernel
/-! X4_keep (I)I -/
abbrev rmX4_keep : Room := { frames := 1, cells := 0, slots := 0, locals := 22 }
theorem lkX4_keep_0 : Cond.fieldLink RX4 26 (TX4 5).1 (TX4 5).2.1 (TX4 5).2.2.1 ∈ wsX4_keep := by decide +kernel
theorem lkX4_keep_1 : Cond.fieldLink RX4 38 (TX4 9).1 (TX4 9).2.1 (TX4 9).2.2.1 ∈ wsX4_keep := by decide +kernel
theorem lkX4_keep_2 : Cond.fieldLink RX4 47 (TX4 13).1 (TX4 13).2.1 (TX4 13).2.2.1 ∈ wsX4_keep := by decide +kernel
theorem lkX4_keep_3 : Cond.fieldLink RX4 111 (TX4 10).1 (TX4 10).2.1 (TX4 10).2.2.1 ∈ wsX4_keep := by decide +kernel
theorem lkX4_keep_4 : Cond.fieldLink RX4 44 (TX4 12).1 (TX4 12).2.1 (TX4 12).2.2.1 ∈ wsX4_keep := by decide +kernel
theorem lkX4_keep_5 : Cond.fieldLink RX4 41 (TX4 11).1 (TX4 11).2.1 (TX4 11).2.2.1 ∈ wsX4_keep := by decide +kernel
theorem inX4_keep_X4 : ∀ w ∈ u_ws RX4 TX4 22, w ∈ wsX4_keep := by decide +kernel
noncomputable def fX4_keep_b57 (G : mm_G) (a0 : Nat) (x1 : Int32) (x2 : Int32) (σ : mm_M) : Option ((Int32 × mm_M) ⊕ ((Int32 × mm_M) ⊕ (Int32 × mm_M))) := if x2 < (Int32.ofNat (mm_N G (mm_R G a0 9))) then (if x2 < 0 ∨ mm_N G (mm_R G a0 9) ≤ x2.toNatClampNeg then none else (if (((Int32.ofNat (mm_N G (mm_R G a0 9))) * x1) + x2) < 0 ∨ mm_N G (mm_R G a0 12) ≤ (((Int32.ofNat (mm_N G (mm_R G a0 9))) * x1) + x2).toNatClampNeg then none else (some (.inr (.inr (x2 + 1, mm_up σ (mm_R G a0 12) (((Int32.ofNat (mm_N G (mm_R G a0 9))) * x1) + x2).toNatClampNeg (σ.1 (mm_R G a0 9) x2.toNatClampNeg))))))) else (if x1 < 0 ∨ mm_N G (mm_R G a0 13) ≤ x1.toNatClampNeg then none else (some (.inl ((mm_up σ (mm_R G a0 13) x1.toNatClampNeg (σ.1 a0 10)).1 a0 10, mm_up σ (mm_R G a0 13) x1.toNatClampNeg (σ.1 a0 10)))))
noncomputable def fX4_keep_b26 (G : mm_G) (a0 : Nat) (x1 : Int32) (x2 : Int32) (σ : mm_M) : Option ((Int32 × mm_M) ⊕ ((Int32 × mm_M) ⊕ (Int32 × mm_M))) := if x2 < (48 : Int32) then (if x2 < 0 ∨ mm_N G (mm_R G a0 5) ≤ x2.toNatClampNeg then none else (if (((48 : Int32) * x1) + x2) < 0 ∨ mm_N G (mm_R G a0 11) ≤ (((48 : Int32) * x1) + x2).toNatClampNeg then none else (some (.inr (.inl (x2 + 1, mm_up σ (mm_R G a0 11) (((48 : Int32) * x1) + x2).toNatClampNeg (σ.1 (mm_R G a0 5) x2.toNatClampNeg))))))) else (some (.inr (.inr ((0 : Int32), σ))))
noncomputable def fX4_keep_b0 (G : mm_G) (a0 : Nat) (x1 : Int32) (σ : mm_M) : Option ((Int32 × mm_M) ⊕ ((Int32 × mm_M) ⊕ (Int32 × mm_M))) := (fX4_in G x1 (0 : Int32) (2 : Int32) σ).bind (fun q3 => if q3.1 = 0 then (some (.inl ((-1 : Int32), q3.2))) else (if (32 : Int32) < 0 ∨ mm_N G (mm_R G a0 5) ≤ (32 : Int32).toNatClampNeg then none else (if (q3.2.1 (mm_R G a0 5) (32 : Int32).toNatClampNeg) = 0 then (some (.inl ((-4 : Int32), q3.2))) else (some (.inr (.inl ((0 : Int32), q3.2)))))))
noncomputable def fX4_keep_s (G : mm_G) (a0 : Nat) (x1 : Int32) : ((Int32 × mm_M) ⊕ (Int32 × mm_M)) → Option ((Int32 × mm_M) ⊕ ((Int32 × mm_M) ⊕ (Int32 × mm_M))) := (Sum.elim (fun s => fX4_keep_b26 G a0 x1 s.1 s.2) (fun s => fX4_keep_b57 G a0 x1 s.1 s.2))
def PX4_keep (E : mm_E) (G : mm_G) (a0 : Nat) (x1 : Int32) (q : (Int32 × mm_M)) : ((Int32 × mm_M) ⊕ (Int32 × mm_M)) → Prop := (Sum.elim (fun s => mm_At E G 3 (mm_Qi E G q) s.2 26 [(0, .ref a0), (1, .int x1), (2, .int s.1)] []) (fun s => mm_At E G 3 (mm_Qi E G q) s.2 57 [(0, .ref a0), (1, .int x1), (2, .int s.1)] []))
noncomputable def fX4_keep (G : mm_G) (a0 : Nat) (x1 : Int32) (σ : mm_M) : Option (Int32 × mm_M) := mm_run (fX4_keep_b0 G a0 x1 σ) (fX4_keep_s G a0 x1)
set_option maxHeartbeats 4000000 in
set_option maxRecDepth 100000 in
theorem wX4_keep_b57 {E : mm_E} {G : mm_G} (X : mm_Cx E G cX4_keep 3 RX4 wsX4_keep rmX4_keep (some .int)) {a0 : Nat} {x1 : Int32} {x2 : Int32} {σ : mm_M} {q : (Int32 × mm_M)} (ha0 : mm_Is G 4 a0) {o : (Int32 × mm_M) ⊕ ((Int32 × mm_M) ⊕ (Int32 × mm_M))} (h : fX4_keep_b57 G a0 x1 x2 σ = some o) (hk : mm_Ok q (PX4_keep E G a0 x1 q) o) : mm_At E G 3 (mm_Qi E G q) σ 57 [(0, .ref a0), (1, .int x1), (2, .int x2)] [] := by
  unfold fX4_keep_b57 at h
  refine at_iload_n (pc := 57) X 2 2 dX4_keep_57 rfl rfl ?_
  refine at_aload_n (pc := 58) X 0 0 dX4_keep_58 rfl rfl ?_
  refine at_get (pc := 59) X 4 9 (.ref (mm_R G a0 9)) ha0 (by decide) rfl inX4_keep_X4 (by decide) lkX4_keep_1 rfl dX4_keep_59 ?_
  refine at_alen (pc := 62) X (wf_4_9 X.wf ha0) dX4_keep_62 ?_
  refine at_icmp_ge (pc := 63) X 92 dX4_keep_63 (by decide) (fun c63 => ?_) (fun c63 => ?_)
  · have h := mm_neg c63 h
    refine at_aload_n (pc := 92) X 0 0 dX4_keep_92 rfl rfl ?_
    refine at_get (pc := 93) X 4 13 (.ref (mm_R G a0 13)) ha0 (by decide) rfl inX4_keep_X4 (by decide) lkX4_keep_2 rfl dX4_keep_93 ?_
    refine at_iload_n (pc := 96) X 1 1 dX4_keep_96 rfl rfl ?_
    refine at_aload_n (pc := 97) X 0 0 dX4_keep_97 rfl rfl ?_
    refine at_get (pc := 98) X 4 10 (.int (σ.1 a0 10)) ha0 (by decide) rfl inX4_keep_X4 (by decide) lkX4_keep_3 rfl dX4_keep_98 ?_
    obtain ⟨hc101, h⟩ := mm_chk h
    refine at_iast (pc := 101) X (wf_4_13 X.wf ha0) hc101 dX4_keep_101 ?_
    refine at_aload_n (pc := 102) X 0 0 dX4_keep_102 rfl rfl ?_
    refine at_get (pc := 103) X 4 10 (.int ((mm_up σ (mm_R G a0 13) x1.toNatClampNeg (σ.1 a0 10)).1 a0 10)) ha0 (by decide) rfl inX4_keep_X4 (by decide) lkX4_keep_3 rfl dX4_keep_103 ?_
    exact at_iret (pc := 106) X (mm_inl h hk) dX4_keep_106
  · have h := mm_pos c63 h
    refine at_aload_n (pc := 66) X 0 0 dX4_keep_66 rfl rfl ?_
    refine at_get (pc := 67) X 4 12 (.ref (mm_R G a0 12)) ha0 (by decide) rfl inX4_keep_X4 (by decide) lkX4_keep_4 rfl dX4_keep_67 ?_
    refine at_aload_n (pc := 70) X 0 0 dX4_keep_70 rfl rfl ?_
    refine at_get (pc := 71) X 4 9 (.ref (mm_R G a0 9)) ha0 (by decide) rfl inX4_keep_X4 (by decide) lkX4_keep_1 rfl dX4_keep_71 ?_
    refine at_alen (pc := 74) X (wf_4_9 X.wf ha0) dX4_keep_74 ?_
    refine at_iload_n (pc := 75) X 1 1 dX4_keep_75 rfl rfl ?_
    refine at_imul (pc := 76) X dX4_keep_76 ?_
    refine at_iload_n (pc := 77) X 2 2 dX4_keep_77 rfl rfl ?_
    refine at_iadd (pc := 78) X dX4_keep_78 ?_
    refine at_aload_n (pc := 79) X 0 0 dX4_keep_79 rfl rfl ?_
    refine at_get (pc := 80) X 4 9 (.ref (mm_R G a0 9)) ha0 (by decide) rfl inX4_keep_X4 (by decide) lkX4_keep_1 rfl dX4_keep_80 ?_
    refine at_iload_n (pc := 83) X 2 2 dX4_keep_83 rfl rfl ?_
    obtain ⟨hc84, h⟩ := mm_chk h
    refine at_iald (pc := 84) X (wf_4_9 X.wf ha0) hc84 dX4_keep_84 ?_
    obtain ⟨hc85, h⟩ := mm_chk h
    refine at_iast (pc := 85) X (wf_4_12 X.wf ha0) hc85 dX4_keep_85 ?_
    refine at_iinc (pc := 86) X 2 2 (x2 + 1) [(2, .int (x2 + 1)), (0, .ref a0), (1, .int x1)] dX4_keep_86 rfl (ii_1 _) (by decide) rfl ?_
    refine at_goto (pc := 89) X 57 dX4_keep_89 (by decide) ?_
    have h2 := mm_inr h hk; exact at_sub [1, 2, 0] rfl h2
set_option maxHeartbeats 4000000 in
set_option maxRecDepth 100000 in
theorem wX4_keep_b26 {E : mm_E} {G : mm_G} (X : mm_Cx E G cX4_keep 3 RX4 wsX4_keep rmX4_keep (some .int)) {a0 : Nat} {x1 : Int32} {x2 : Int32} {σ : mm_M} {q : (Int32 × mm_M)} (ha0 : mm_Is G 4 a0) {o : (Int32 × mm_M) ⊕ ((Int32 × mm_M) ⊕ (Int32 × mm_M))} (h : fX4_keep_b26 G a0 x1 x2 σ = some o) (hk : mm_Ok q (PX4_keep E G a0 x1 q) o) : mm_At E G 3 (mm_Qi E G q) σ 26 [(0, .ref a0), (1, .int x1), (2, .int x2)] [] := by
  unfold fX4_keep_b26 at h
  refine at_iload_n (pc := 26) X 2 2 dX4_keep_26 rfl rfl ?_
  refine at_bipush (pc := 27) X (48 : Int32) dX4_keep_27 ib_48 ?_
  refine at_icmp_ge (pc := 29) X 55 dX4_keep_29 (by decide) (fun c29 => ?_) (fun c29 => ?_)
  · have h := mm_neg c29 h
    refine at_iconst (pc := 55) X (0 : Int32) dX4_keep_55 ic_0 ?_
    refine at_istore_n (pc := 56) X 2 [(2, .int (0 : Int32)), (0, .ref a0), (1, .int x1)] dX4_keep_56 rfl (by decide) rfl ?_
    have h2 := mm_inr h hk; exact at_sub [1, 2, 0] rfl h2
  · have h := mm_pos c29 h
    refine at_aload_n (pc := 32) X 0 0 dX4_keep_32 rfl rfl ?_
    refine at_get (pc := 33) X 4 11 (.ref (mm_R G a0 11)) ha0 (by decide) rfl inX4_keep_X4 (by decide) lkX4_keep_5 rfl dX4_keep_33 ?_
    refine at_bipush (pc := 36) X (48 : Int32) dX4_keep_36 ib_48 ?_
    refine at_iload_n (pc := 38) X 1 1 dX4_keep_38 rfl rfl ?_
    refine at_imul (pc := 39) X dX4_keep_39 ?_
    refine at_iload_n (pc := 40) X 2 2 dX4_keep_40 rfl rfl ?_
    refine at_iadd (pc := 41) X dX4_keep_41 ?_
    refine at_aload_n (pc := 42) X 0 0 dX4_keep_42 rfl rfl ?_
    refine at_get (pc := 43) X 4 5 (.ref (mm_R G a0 5)) ha0 (by decide) rfl inX4_keep_X4 (by decide) lkX4_keep_0 rfl dX4_keep_43 ?_
    refine at_iload_n (pc := 46) X 2 2 dX4_keep_46 rfl rfl ?_
    obtain ⟨hc47, h⟩ := mm_chk h
    refine at_iald (pc := 47) X (wf_4_5 X.wf ha0) hc47 dX4_keep_47 ?_
    obtain ⟨hc48, h⟩ := mm_chk h
    refine at_iast (pc := 48) X (wf_4_11 X.wf ha0) hc48 dX4_keep_48 ?_
    refine at_iinc (pc := 49) X 2 2 (x2 + 1) [(2, .int (x2 + 1)), (0, .ref a0), (1, .int x1)] dX4_keep_49 rfl (ii_1 _) (by decide) rfl ?_
    refine at_goto (pc := 52) X 26 dX4_keep_52 (by decide) ?_
    have h2 := mm_inr h hk; exact at_sub [1, 2, 0] rfl h2
set_option maxHeartbeats 4000000 in
set_option maxRecDepth 100000 in
theorem wX4_keep_b0 {E : mm_E} {G : mm_G} (X : mm_Cx E G cX4_keep 3 RX4 wsX4_keep rmX4_keep (some .int)) {a0 : Nat} {x1 : Int32} {σ : mm_M} {q : (Int32 × mm_M)} (ha0 : mm_Is G 4 a0) {o : (Int32 × mm_M) ⊕ ((Int32 × mm_M) ⊕ (Int32 × mm_M))} (h : fX4_keep_b0 G a0 x1 σ = some o) (hk : mm_Ok q (PX4_keep E G a0 x1 q) o) : mm_At E G 3 (mm_Qi E G q) σ 0 [(0, .ref a0), (1, .int x1)] [] := by
  unfold fX4_keep_b0 at h
  refine at_iload_n (pc := 0) X 1 1 dX4_keep_0 rfl rfl ?_
  refine at_iconst (pc := 1) X (0 : Int32) dX4_keep_1 ic_0 ?_
  refine at_iconst (pc := 2) X (2 : Int32) dX4_keep_2 ic_2 ?_
  obtain ⟨q3, hq3, h⟩ := mm_bind h
  refine at_scalli (n := 3) (pc := 3) X [.int x1, .int (0 : Int32), .int (2 : Int32)] [] (mX4_in (eL E) X.wf hq3) gX4_keep_X4_in rfl ⟨rfl, rfl⟩ (by decide +kernel) ⟨by decide, by decide⟩ rfl rfl (Nat.le_of_ble_eq_true rfl) dX4_keep_3 ?_
  refine at_if_ne (pc := 6) X 11 dX4_keep_6 (by decide) (fun c6 => ?_) (fun c6 => ?_)
  · have h := mm_neg c6 h
    refine at_aload_n (pc := 11) X 0 0 dX4_keep_11 rfl rfl ?_
    refine at_get (pc := 12) X 4 5 (.ref (mm_R G a0 5)) ha0 (by decide) rfl inX4_keep_X4 (by decide) lkX4_keep_0 rfl dX4_keep_12 ?_
    refine at_bipush (pc := 15) X (32 : Int32) dX4_keep_15 ib_32 ?_
    obtain ⟨hc17, h⟩ := mm_chk h
    refine at_iald (pc := 17) X (wf_4_5 X.wf ha0) hc17 dX4_keep_17 ?_
    refine at_if_ne (pc := 18) X 24 dX4_keep_18 (by decide) (fun c18 => ?_) (fun c18 => ?_)
    · have h := mm_neg c18 h
      refine at_iconst (pc := 24) X (0 : Int32) dX4_keep_24 ic_0 ?_
      refine at_istore_n (pc := 25) X 2 [(2, .int (0 : Int32)), (0, .ref a0), (1, .int x1)] dX4_keep_25 rfl (by decide) rfl ?_
      have h2 := mm_inr h hk; exact at_sub [1, 2, 0] rfl h2
    · have h := mm_pos c18 h
      refine at_bipush (pc := 21) X (-4 : Int32) dX4_keep_21 ib_m4 ?_
      exact at_iret (pc := 23) X (mm_inl h hk) dX4_keep_23
  · have h := mm_pos c6 h
    refine at_iconst (pc := 9) X (-1 : Int32) dX4_keep_9 ic_m1 ?_
    exact at_iret (pc := 10) X (mm_inl h hk) dX4_keep_10
set_option maxHeartbeats 4000000 in
set_option maxRecDepth 100000 in
theorem mX4_keep (l : Launch) {G : mm_G} (hwf : mm_WF G) {a0 : Nat} {x1 : Int32} {σ : mm_M} {q : (Int32 × mm_M)} (ha0 : mm_Is G 4 a0) (h : fX4_keep G a0 x1 σ = some q) : mm_Mi l yX4_keep wsX4_keep rmX4_keep G [.ref a0, .int x1] σ q := by
  refine mm_ofi (cc := cX4_keep) (nL := 3) (ret := some .int) (own := RX4) (lv0 := [(0, .ref a0), (1, .int x1)]) (by decide) rfl rfl (Nat.le_of_ble_eq_true rfl) rfl hwf (fun E hE X => ?_)
  obtain ⟨o, h0, hk⟩ := mm_run_ok (P := PX4_keep E G a0 x1 q) h (fun s o hs hk => by cases s with | inl s => exact wX4_keep_b26 X ha0 hs hk | inr s => (exact wX4_keep_b57 X ha0 hs hk))
  exact wX4_keep_b0 X ha0 h0 hk
