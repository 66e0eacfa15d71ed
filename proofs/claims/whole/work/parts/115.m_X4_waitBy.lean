/-! X4_waitBy X4_wants X4_of X4_station X4_wouldWait X4_mark X4_does -/
set_option maxRecDepth 20000 in
theorem ggX4_waitBy_X4_doubled : GoodIn wsX4_waitBy wsX4_doubled := goodIn_r _ [4, 5, 6, 3, 7] (by decide +kernel) (by decide +kernel)
set_option maxRecDepth 20000 in
theorem gX4_waitBy_X4_doubled : GoodIn wsX4_waitBy (va_wsS RX4 117 yX4_doubled wsX4_doubled) := goodIn_app (goodIn_of _ (by decide +kernel)) ggX4_waitBy_X4_doubled
set_option maxRecDepth 20000 in
theorem ggX4_waitBy_X4_capped : GoodIn wsX4_waitBy wsX4_capped := goodIn_r _ [7] (by decide +kernel) (by decide +kernel)
set_option maxRecDepth 20000 in
theorem gX4_waitBy_X4_capped : GoodIn wsX4_waitBy (va_wsS RX4 114 yX4_capped wsX4_capped) := goodIn_app (goodIn_of _ (by decide +kernel)) ggX4_waitBy_X4_capped
theorem dX4_waitBy_0 : decode cX4_waitBy 0 = .ok (.iload_n 1, 1) := by decide +kernel
theorem dX4_waitBy_1 : decode cX4_waitBy 1 = .ok (.iload_n 2, 1) := by decide +kernel
theorem dX4_waitBy_2 : decode cX4_waitBy 2 = .ok (.iload_n 3, 1) := by decide +kernel
theorem dX4_waitBy_3 : decode cX4_waitBy 3 = .ok (.invokestatic 117, 3) := by decide +kernel
theorem dX4_waitBy_6 : decode cX4_waitBy 6 = .ok (.istore 5, 2) := by decide +kernel
theorem dX4_waitBy_8 : decode cX4_waitBy 8 = .ok (.iload_n 0, 1) := by decide +kernel
theorem dX4_waitBy_9 : decode cX4_waitBy 9 = .ok (.iconst 3, 1) := by decide +kernel
theorem dX4_waitBy_10 : decode cX4_waitBy 10 = .ok (.if_icmp .ne 7, 3) := by decide +kernel
theorem dX4_waitBy_13 : decode cX4_waitBy 13 = .ok (.iload_n 1, 1) := by decide +kernel
theorem dX4_waitBy_14 : decode cX4_waitBy 14 = .ok (.goto 49, 3) := by decide +kernel
theorem dX4_waitBy_17 : decode cX4_waitBy 17 = .ok (.iload_n 0, 1) := by decide +kernel
theorem dX4_waitBy_18 : decode cX4_waitBy 18 = .ok (.iconst 1, 1) := by decide +kernel
theorem dX4_waitBy_19 : decode cX4_waitBy 19 = .ok (.if_icmp .ne 8, 3) := by decide +kernel
theorem dX4_waitBy_22 : decode cX4_waitBy 22 = .ok (.iload 5, 2) := by decide +kernel
theorem dX4_waitBy_24 : decode cX4_waitBy 24 = .ok (.goto 39, 3) := by decide +kernel
theorem dX4_waitBy_27 : decode cX4_waitBy 27 = .ok (.iload_n 0, 1) := by decide +kernel
theorem dX4_waitBy_28 : decode cX4_waitBy 28 = .ok (.iconst 4, 1) := by decide +kernel
theorem dX4_waitBy_29 : decode cX4_waitBy 29 = .ok (.if_icmp .ne 15, 3) := by decide +kernel
theorem dX4_waitBy_32 : decode cX4_waitBy 32 = .ok (.iload 4, 2) := by decide +kernel
theorem dX4_waitBy_34 : decode cX4_waitBy 34 = .ok (.iload_n 2, 1) := by decide +kernel
theorem dX4_waitBy_35 : decode cX4_waitBy 35 = .ok (.imul, 1) := by decide +kernel
theorem dX4_waitBy_36 : decode cX4_waitBy 36 = .ok (.iload 5, 2) := by decide +kernel
theorem dX4_waitBy_38 : decode cX4_waitBy 38 = .ok (.iconst 1, 1) := by decide +kernel
theorem dX4_waitBy_39 : decode cX4_waitBy 39 = .ok (.iadd, 1) := by decide +kernel
theorem dX4_waitBy_40 : decode cX4_waitBy 40 = .ok (.irem, 1) := by decide +kernel
theorem dX4_waitBy_41 : decode cX4_waitBy 41 = .ok (.goto 22, 3) := by decide +kernel
theorem dX4_waitBy_44 : decode cX4_waitBy 44 = .ok (.iload_n 3, 1) := by decide +kernel
theorem dX4_waitBy_45 : decode cX4_waitBy 45 = .ok (.bipush 64, 2) := by decide +kernel
theorem dX4_waitBy_47 : decode cX4_waitBy 47 = .ok (.if_icmp .le 8, 3) := by decide +kernel
theorem dX4_waitBy_50 : decode cX4_waitBy 50 = .ok (.bipush 64, 2) := by decide +kernel
theorem dX4_waitBy_52 : decode cX4_waitBy 52 = .ok (.goto 11, 3) := by decide +kernel
theorem dX4_waitBy_55 : decode cX4_waitBy 55 = .ok (.iload_n 1, 1) := by decide +kernel
theorem dX4_waitBy_56 : decode cX4_waitBy 56 = .ok (.iload_n 3, 1) := by decide +kernel
theorem dX4_waitBy_57 : decode cX4_waitBy 57 = .ok (.iload_n 2, 1) := by decide +kernel
theorem dX4_waitBy_58 : decode cX4_waitBy 58 = .ok (.imul, 1) := by decide +kernel
theorem dX4_waitBy_59 : decode cX4_waitBy 59 = .ok (.iadd, 1) := by decide +kernel
theorem dX4_waitBy_60 : decode cX4_waitBy 60 = .ok (.invokestatic 114, 3) := by decide +kernel
theorem dX4_waitBy_63 : decode cX4_waitBy 63 = .ok (.ireturn, 1) := by decide +kernel
/-! X4_waitBy (IIIII)I -/
abbrev rmX4_waitBy : Room := { frames := 2, cells := 0, slots := 0, locals := 42 }
noncomputable def fX4_waitBy (G : mm_G) (x0 : Int32) (x1 : Int32) (x2 : Int32) (x3 : Int32) (x4 : Int32) (σ : mm_M) : Option (Int32 × mm_M) := (fX4_doubled G x1 x2 x3 σ).bind (fun q3 => if x0 = (3 : Int32) then (some (x1, q3.2)) else (if x0 = (1 : Int32) then (some (q3.1, q3.2)) else (if x0 = (4 : Int32) then (if (q3.1 + (1 : Int32)) = 0 then none else (some ((x4 * x2) - (x4 * x2) / (q3.1 + (1 : Int32)) * (q3.1 + (1 : Int32)), q3.2))) else (if (64 : Int32) < x3 then (some ((64 : Int32), q3.2)) else ((fX4_capped G (x1 + (x3 * x2)) q3.2).bind (fun q60 => some (q60.1, q60.2)))))))
set_option maxHeartbeats 4000000 in
set_option maxRecDepth 100000 in
theorem wX4_waitBy_b0 {E : mm_E} {G : mm_G} (X : mm_Cx E G cX4_waitBy 6 RX4 wsX4_waitBy rmX4_waitBy (some .int)) {x0 : Int32} {x1 : Int32} {x2 : Int32} {x3 : Int32} {x4 : Int32} {σ : mm_M} {q : (Int32 × mm_M)} (h : fX4_waitBy G x0 x1 x2 x3 x4 σ = some q) : mm_At E G 6 (mm_Qi E G q) σ 0 [(0, .int x0), (1, .int x1), (2, .int x2), (3, .int x3), (4, .int x4)] [] := by
  unfold fX4_waitBy at h
  refine at_iload_n (pc := 0) X 1 1 dX4_waitBy_0 rfl rfl ?_
  refine at_iload_n (pc := 1) X 2 2 dX4_waitBy_1 rfl rfl ?_
  refine at_iload_n (pc := 2) X 3 3 dX4_waitBy_2 rfl rfl ?_
  obtain ⟨q3, hq3, h⟩ := mm_bind h
  refine at_scalli (n := 3) (pc := 3) X [.int x1, .int x2, .int x3] [] (mX4_doubled (eL E) X.wf hq3) gX4_waitBy_X4_doubled rfl ⟨rfl, rfl⟩ (by decide +kernel) ⟨by decide, by decide⟩ rfl rfl (Nat.le_of_ble_eq_true rfl) dX4_waitBy_3 ?_
  refine at_istore (pc := 6) X 5 [(5, .int q3.1), (0, .int x0), (1, .int x1), (2, .int x2), (3, .int x3), (4, .int x4)] dX4_waitBy_6 (by decide) rfl ?_
  refine at_iload_n (pc := 8) X 0 1 dX4_waitBy_8 rfl rfl ?_
  refine at_iconst (pc := 9) X (3 : Int32) dX4_waitBy_9 ic_3 ?_
  refine at_icmp_ne (pc := 10) X 17 dX4_waitBy_10 (by decide) (fun c10 => ?_) (fun c10 => ?_)
  · have h := mm_neg c10 h
    refine at_iload_n (pc := 17) X 0 1 dX4_waitBy_17 rfl rfl ?_
    refine at_iconst (pc := 18) X (1 : Int32) dX4_waitBy_18 ic_1 ?_
    refine at_icmp_ne (pc := 19) X 27 dX4_waitBy_19 (by decide) (fun c19 => ?_) (fun c19 => ?_)
    · have h := mm_neg c19 h
      refine at_iload_n (pc := 27) X 0 1 dX4_waitBy_27 rfl rfl ?_
      refine at_iconst (pc := 28) X (4 : Int32) dX4_waitBy_28 ic_4 ?_
      refine at_icmp_ne (pc := 29) X 44 dX4_waitBy_29 (by decide) (fun c29 => ?_) (fun c29 => ?_)
      · have h := mm_neg c29 h
        refine at_iload_n (pc := 44) X 3 4 dX4_waitBy_44 rfl rfl ?_
        refine at_bipush (pc := 45) X (64 : Int32) dX4_waitBy_45 ib_64 ?_
        refine at_icmp_le (pc := 47) X 55 dX4_waitBy_47 (by decide) (fun c47 => ?_) (fun c47 => ?_)
        · have h := mm_neg c47 h
          refine at_iload_n (pc := 55) X 1 2 dX4_waitBy_55 rfl rfl ?_
          refine at_iload_n (pc := 56) X 3 4 dX4_waitBy_56 rfl rfl ?_
          refine at_iload_n (pc := 57) X 2 3 dX4_waitBy_57 rfl rfl ?_
          refine at_imul (pc := 58) X dX4_waitBy_58 ?_
          refine at_iadd (pc := 59) X dX4_waitBy_59 ?_
          obtain ⟨q60, hq60, h⟩ := mm_bind h
          refine at_scalli (n := 1) (pc := 60) X [.int (x1 + (x3 * x2))] [] (mX4_capped (eL E) X.wf hq60) gX4_waitBy_X4_capped rfl ⟨rfl, rfl⟩ (by decide +kernel) ⟨by decide, by decide⟩ rfl rfl (Nat.le_of_ble_eq_true rfl) dX4_waitBy_60 ?_
          exact at_iret (pc := 63) X (Option.some.inj h) dX4_waitBy_63
        · have h := mm_pos c47 h
          refine at_bipush (pc := 50) X (64 : Int32) dX4_waitBy_50 ib_64 ?_
          refine at_goto (pc := 52) X 63 dX4_waitBy_52 (by decide) ?_
          exact at_iret (pc := 63) X (Option.some.inj h) dX4_waitBy_63
      · have h := mm_pos c29 h
        refine at_iload (pc := 32) X 4 5 dX4_waitBy_32 rfl ?_
        refine at_iload_n (pc := 34) X 2 3 dX4_waitBy_34 rfl rfl ?_
        refine at_imul (pc := 35) X dX4_waitBy_35 ?_
        refine at_iload (pc := 36) X 5 0 dX4_waitBy_36 rfl ?_
        refine at_iconst (pc := 38) X (1 : Int32) dX4_waitBy_38 ic_1 ?_
        refine at_iadd (pc := 39) X dX4_waitBy_39 ?_
        obtain ⟨hc40, h⟩ := mm_chk h
        refine at_irem (pc := 40) X hc40 dX4_waitBy_40 ?_
        refine at_goto (pc := 41) X 63 dX4_waitBy_41 (by decide) ?_
        exact at_iret (pc := 63) X (Option.some.inj h) dX4_waitBy_63
    · have h := mm_pos c19 h
      refine at_iload (pc := 22) X 5 0 dX4_waitBy_22 rfl ?_
      refine at_goto (pc := 24) X 63 dX4_waitBy_24 (by decide) ?_
      exact at_iret (pc := 63) X (Option.some.inj h) dX4_waitBy_63
  · have h := mm_pos c10 h
    refine at_iload_n (pc := 13) X 1 2 dX4_waitBy_13 rfl rfl ?_
    refine at_goto (pc := 14) X 63 dX4_waitBy_14 (by decide) ?_
    exact at_iret (pc := 63) X (Option.some.inj h) dX4_waitBy_63
set_option maxHeartbeats 4000000 in
set_option maxRecDepth 100000 in
theorem mX4_waitBy (l : Launch) {G : mm_G} (hwf : mm_WF G) {x0 : Int32} {x1 : Int32} {x2 : Int32} {x3 : Int32} {x4 : Int32} {σ : mm_M} {q : (Int32 × mm_M)} (h : fX4_waitBy G x0 x1 x2 x3 x4 σ = some q) : mm_Mi l yX4_waitBy wsX4_waitBy rmX4_waitBy G [.int x0, .int x1, .int x2, .int x3, .int x4] σ q := by
  refine mm_ofi (cc := cX4_waitBy) (nL := 6) (ret := some .int) (own := RX4) (lv0 := [(0, .int x0), (1, .int x1), (2, .int x2), (3, .int x3), (4, .int x4)]) (by decide) rfl rfl (Nat.le_of_ble_eq_true rfl) rfl hwf (fun E hE X => ?_)
  exact wX4_waitBy_b0 X  h
set_option maxRecDepth 20000 in
theorem ggX4_wants_X4_is : GoodIn wsX4_wants wsX4_is := goodIn_r _ [4] (by decide +kernel) (by decide +kernel)
set_option maxRecDepth 20000 in
theorem gX4_wants_X4_is : GoodIn wsX4_wants (va_wsS RX4 121 yX4_is wsX4_is) := goodIn_app (goodIn_of _ (by decide +kernel)) ggX4_wants_X4_is
set_option maxRecDepth 20000 in
theorem ggX4_wants_X4_has : GoodIn wsX4_wants wsX4_has := goodIn_r _ [7] (by decide +kernel) (by decide +kernel)
set_option maxRecDepth 20000 in
theorem gX4_wants_X4_has : GoodIn wsX4_wants (va_wsS RX4 125 yX4_has wsX4_has) := goodIn_app (goodIn_of _ (by decide +kernel)) ggX4_wants_X4_has
theorem dX4_wants_0 : decode cX4_wants 0 = .ok (.aload_n 0, 1) := by decide +kernel
theorem dX4_wants_1 : decode cX4_wants 1 = .ok (.bipush 11, 2) := by decide +kernel
theorem dX4_wants_3 : decode cX4_wants 3 = .ok (.iload_n 1, 1) := by decide +kernel
theorem dX4_wants_4 : decode cX4_wants 4 = .ok (.iadd, 1) := by decide +kernel
theorem dX4_wants_5 : decode cX4_wants 5 = .ok (.iaload, 1) := by decide +kernel
theorem dX4_wants_6 : decode cX4_wants 6 = .ok (.ifCond .le 46, 3) := by decide +kernel
theorem dX4_wants_9 : decode cX4_wants 9 = .ok (.aload_n 0, 1) := by decide +kernel
theorem dX4_wants_10 : decode cX4_wants 10 = .ok (.bipush 18, 2) := by decide +kernel
theorem dX4_wants_12 : decode cX4_wants 12 = .ok (.iload_n 1, 1) := by decide +kernel
theorem dX4_wants_13 : decode cX4_wants 13 = .ok (.iadd, 1) := by decide +kernel
theorem dX4_wants_14 : decode cX4_wants 14 = .ok (.iaload, 1) := by decide +kernel
theorem dX4_wants_15 : decode cX4_wants 15 = .ok (.ifCond .ne 37, 3) := by decide +kernel
theorem dX4_wants_18 : decode cX4_wants 18 = .ok (.aload_n 0, 1) := by decide +kernel
theorem dX4_wants_19 : decode cX4_wants 19 = .ok (.iconst 1, 1) := by decide +kernel
theorem dX4_wants_20 : decode cX4_wants 20 = .ok (.iaload, 1) := by decide +kernel
theorem dX4_wants_21 : decode cX4_wants 21 = .ok (.ifCond .eq 16, 3) := by decide +kernel
theorem dX4_wants_24 : decode cX4_wants 24 = .ok (.aload_n 0, 1) := by decide +kernel
theorem dX4_wants_25 : decode cX4_wants 25 = .ok (.bipush 33, 2) := by decide +kernel
theorem dX4_wants_27 : decode cX4_wants 27 = .ok (.iload_n 1, 1) := by decide +kernel
theorem dX4_wants_28 : decode cX4_wants 28 = .ok (.iadd, 1) := by decide +kernel
theorem dX4_wants_29 : decode cX4_wants 29 = .ok (.iaload, 1) := by decide +kernel
theorem dX4_wants_30 : decode cX4_wants 30 = .ok (.iconst 2, 1) := by decide +kernel
theorem dX4_wants_31 : decode cX4_wants 31 = .ok (.invokestatic 121, 3) := by decide +kernel
theorem dX4_wants_34 : decode cX4_wants 34 = .ok (.ifCond .ne 18, 3) := by decide +kernel
theorem dX4_wants_37 : decode cX4_wants 37 = .ok (.aload_n 0, 1) := by decide +kernel
theorem dX4_wants_38 : decode cX4_wants 38 = .ok (.bipush 47, 2) := by decide +kernel
theorem dX4_wants_40 : decode cX4_wants 40 = .ok (.iaload, 1) := by decide +kernel
theorem dX4_wants_41 : decode cX4_wants 41 = .ok (.iload_n 1, 1) := by decide +kernel
theorem dX4_wants_42 : decode cX4_wants 42 = .ok (.invokestatic 125, 3) := by decide +kernel
theorem dX4_wants_45 : decode cX4_wants 45 = .ok (.ifCond .ne 7, 3) := by decide +kernel
theorem dX4_wants_48 : decode cX4_wants 48 = .ok (.iconst 1, 1) := by decide +kernel
theorem dX4_wants_49 : decode cX4_wants 49 = .ok (.goto 4, 3) := by decide +kernel
theorem dX4_wants_52 : decode cX4_wants 52 = .ok (.iconst 0, 1) := by decide +kernel
theorem dX4_wants_53 : decode cX4_wants 53 = .ok (.ireturn, 1) := by decide +kernel
/-! X4_wants ([II)Z -/
abbrev rmX4_wants : Room := { frames := 1, cells := 0, slots := 0, locals := 21 }
noncomputable def fX4_wants_b37 (G : mm_G) (a0 : Nat) (x1 : Int32) (σ : mm_M) : Option (Int32 × mm_M) := if (47 : Int32) < 0 ∨ mm_N G a0 ≤ (47 : Int32).toNatClampNeg then none else ((fX4_has G (σ.1 a0 (47 : Int32).toNatClampNeg) x1 σ).bind (fun q42 => some (if q42.1 = 0 then (1 : Int32) else (0 : Int32), q42.2)))
noncomputable def fX4_wants (G : mm_G) (a0 : Nat) (x1 : Int32) (σ : mm_M) : Option (Int32 × mm_M) := if ((11 : Int32) + x1) < 0 ∨ mm_N G a0 ≤ ((11 : Int32) + x1).toNatClampNeg then none else (if 0 < (σ.1 a0 ((11 : Int32) + x1).toNatClampNeg) then (if ((18 : Int32) + x1) < 0 ∨ mm_N G a0 ≤ ((18 : Int32) + x1).toNatClampNeg then none else (if (σ.1 a0 ((18 : Int32) + x1).toNatClampNeg) = 0 then (if (1 : Int32) < 0 ∨ mm_N G a0 ≤ (1 : Int32).toNatClampNeg then none else (if (σ.1 a0 (1 : Int32).toNatClampNeg) = 0 then (fX4_wants_b37 G a0 x1 σ) else (if ((33 : Int32) + x1) < 0 ∨ mm_N G a0 ≤ ((33 : Int32) + x1).toNatClampNeg then none else ((fX4_is G (σ.1 a0 ((33 : Int32) + x1).toNatClampNeg) (2 : Int32) σ).bind (fun q31 => if q31.1 = 0 then (fX4_wants_b37 G a0 x1 q31.2) else (some ((0 : Int32), q31.2))))))) else (some ((0 : Int32), σ)))) else (some ((0 : Int32), σ)))
set_option maxHeartbeats 4000000 in
set_option maxRecDepth 100000 in
theorem wX4_wants_b37 {E : mm_E} {G : mm_G} (X : mm_Cx E G cX4_wants 2 RX4 wsX4_wants rmX4_wants (some .boolean)) {a0 : Nat} {x1 : Int32} {σ : mm_M} {q : (Int32 × mm_M)} (ha0 : mm_Is G 6 a0) (h : fX4_wants_b37 G a0 x1 σ = some q) : mm_At E G 2 (mm_Qi E G q) σ 37 [(0, .ref a0), (1, .int x1)] [] := by
  unfold fX4_wants_b37 at h
  refine at_aload_n (pc := 37) X 0 0 dX4_wants_37 rfl rfl ?_
  refine at_bipush (pc := 38) X (47 : Int32) dX4_wants_38 ib_47 ?_
  obtain ⟨hc40, h⟩ := mm_chk h
  refine at_iald (pc := 40) X ha0 hc40 dX4_wants_40 ?_
  refine at_iload_n (pc := 41) X 1 1 dX4_wants_41 rfl rfl ?_
  obtain ⟨q42, hq42, h⟩ := mm_bind h
  refine at_scalli (n := 2) (pc := 42) X [.int (σ.1 a0 (47 : Int32).toNatClampNeg), .int x1] [] (mX4_has (eL E) X.wf hq42) gX4_wants_X4_has rfl ⟨rfl, rfl⟩ (by decide +kernel) ⟨by decide, by decide⟩ rfl rfl (Nat.le_of_ble_eq_true rfl) dX4_wants_42 ?_
  have hj45 : mm_At E G 2 (mm_Qi E G q) q42.2 53 [] [.int (if q42.1 = 0 then (1 : Int32) else (0 : Int32))] := by
    exact at_zret (pc := 53) X mm_01 (Option.some.inj h) dX4_wants_53
  refine at_if_ne (pc := 45) X 52 dX4_wants_45 (by decide) (fun c45 => ?_) (fun c45 => ?_)
  · try simp only [if_neg c45] at hj45
    refine at_iconst (pc := 52) X (0 : Int32) dX4_wants_52 ic_0 ?_
    exact at_sub [] rfl hj45
  · try simp only [if_pos c45] at hj45
    refine at_iconst (pc := 48) X (1 : Int32) dX4_wants_48 ic_1 ?_
    refine at_goto (pc := 49) X 53 dX4_wants_49 (by decide) ?_
    exact at_sub [] rfl hj45
set_option maxHeartbeats 4000000 in
set_option maxRecDepth 100000 in
theorem wX4_wants_b0 {E : mm_E} {G : mm_G} (X : mm_Cx E G cX4_wants 2 RX4 wsX4_wants rmX4_wants (some .boolean)) {a0 : Nat} {x1 : Int32} {σ : mm_M} {q : (Int32 × mm_M)} (ha0 : mm_Is G 6 a0) (h : fX4_wants G a0 x1 σ = some q) : mm_At E G 2 (mm_Qi E G q) σ 0 [(0, .ref a0), (1, .int x1)] [] := by
  unfold fX4_wants at h
  refine at_aload_n (pc := 0) X 0 0 dX4_wants_0 rfl rfl ?_
  refine at_bipush (pc := 1) X (11 : Int32) dX4_wants_1 ib_11 ?_
  refine at_iload_n (pc := 3) X 1 1 dX4_wants_3 rfl rfl ?_
  refine at_iadd (pc := 4) X dX4_wants_4 ?_
  obtain ⟨hc5, h⟩ := mm_chk h
  refine at_iald (pc := 5) X ha0 hc5 dX4_wants_5 ?_
  refine at_if_le (pc := 6) X 52 dX4_wants_6 (by decide) (fun c6 => ?_) (fun c6 => ?_)
  · have h := mm_neg c6 h
    refine at_iconst (pc := 52) X (0 : Int32) dX4_wants_52 ic_0 ?_
    exact at_zret (pc := 53) X (Or.inl rfl) (Option.some.inj h) dX4_wants_53
  · have h := mm_pos c6 h
    refine at_aload_n (pc := 9) X 0 0 dX4_wants_9 rfl rfl ?_
    refine at_bipush (pc := 10) X (18 : Int32) dX4_wants_10 ib_18 ?_
    refine at_iload_n (pc := 12) X 1 1 dX4_wants_12 rfl rfl ?_
    refine at_iadd (pc := 13) X dX4_wants_13 ?_
    obtain ⟨hc14, h⟩ := mm_chk h
    refine at_iald (pc := 14) X ha0 hc14 dX4_wants_14 ?_
    refine at_if_ne (pc := 15) X 52 dX4_wants_15 (by decide) (fun c15 => ?_) (fun c15 => ?_)
    · have h := mm_neg c15 h
      refine at_iconst (pc := 52) X (0 : Int32) dX4_wants_52 ic_0 ?_
      exact at_zret (pc := 53) X (Or.inl rfl) (Option.some.inj h) dX4_wants_53
    · have h := mm_pos c15 h
      refine at_aload_n (pc := 18) X 0 0 dX4_wants_18 rfl rfl ?_
      refine at_iconst (pc := 19) X (1 : Int32) dX4_wants_19 ic_1 ?_
      obtain ⟨hc20, h⟩ := mm_chk h
      refine at_iald (pc := 20) X ha0 hc20 dX4_wants_20 ?_
      refine at_if_eq (pc := 21) X 37 dX4_wants_21 (by decide) (fun c21 => ?_) (fun c21 => ?_)
      · have h := mm_pos c21 h
        exact at_sub [0, 1] rfl (wX4_wants_b37 X ha0 h)
      · have h := mm_neg c21 h
        refine at_aload_n (pc := 24) X 0 0 dX4_wants_24 rfl rfl ?_
        refine at_bipush (pc := 25) X (33 : Int32) dX4_wants_25 ib_33 ?_
        refine at_iload_n (pc := 27) X 1 1 dX4_wants_27 rfl rfl ?_
        refine at_iadd (pc := 28) X dX4_wants_28 ?_
        obtain ⟨hc29, h⟩ := mm_chk h
        refine at_iald (pc := 29) X ha0 hc29 dX4_wants_29 ?_
        refine at_iconst (pc := 30) X (2 : Int32) dX4_wants_30 ic_2 ?_
        obtain ⟨q31, hq31, h⟩ := mm_bind h
        refine at_scalli (n := 2) (pc := 31) X [.int (σ.1 a0 ((33 : Int32) + x1).toNatClampNeg), .int (2 : Int32)] [] (mX4_is (eL E) X.wf hq31) gX4_wants_X4_is rfl ⟨rfl, rfl⟩ (by decide +kernel) ⟨by decide, by decide⟩ rfl rfl (Nat.le_of_ble_eq_true rfl) dX4_wants_31 ?_
        refine at_if_ne (pc := 34) X 52 dX4_wants_34 (by decide) (fun c34 => ?_) (fun c34 => ?_)
        · have h := mm_neg c34 h
          refine at_iconst (pc := 52) X (0 : Int32) dX4_wants_52 ic_0 ?_
          exact at_zret (pc := 53) X (Or.inl rfl) (Option.some.inj h) dX4_wants_53
        · have h := mm_pos c34 h
          exact at_sub [0, 1] rfl (wX4_wants_b37 X ha0 h)
set_option maxHeartbeats 4000000 in
set_option maxRecDepth 100000 in
theorem mX4_wants (l : Launch) {G : mm_G} (hwf : mm_WF G) {a0 : Nat} {x1 : Int32} {σ : mm_M} {q : (Int32 × mm_M)} (ha0 : mm_Is G 6 a0) (h : fX4_wants G a0 x1 σ = some q) : mm_Mi l yX4_wants wsX4_wants rmX4_wants G [.ref a0, .int x1] σ q := by
  refine mm_ofi (cc := cX4_wants) (nL := 2) (ret := some .boolean) (own := RX4) (lv0 := [(0, .ref a0), (1, .int x1)]) (by decide) rfl rfl (Nat.le_of_ble_eq_true rfl) rfl hwf (fun E hE X => ?_)
  exact wX4_wants_b0 X ha0 h
set_option maxRecDepth 20000 in
theorem ggX4_of_X4_wants : GoodIn wsX4_of wsX4_wants := goodIn_r _ [5, 6, 7, 4, 8, 9, 10, 11] (by decide +kernel) (by decide +kernel)
set_option maxRecDepth 20000 in
theorem gX4_of_X4_wants : GoodIn wsX4_of (va_wsS RX4 128 yX4_wants wsX4_wants) := goodIn_app (goodIn_of _ (by decide +kernel)) ggX4_of_X4_wants
theorem dX4_of_0 : decode cX4_of 0 = .ok (.iload_n 2, 1) := by decide +kernel
theorem dX4_of_1 : decode cX4_of 1 = .ok (.tableswitch 98 0 5 #[39, 49, 58, 68, 78, 88], 39) := by decide +kernel
theorem dX4_of_40 : decode cX4_of 40 = .ok (.aload_n 0, 1) := by decide +kernel
theorem dX4_of_41 : decode cX4_of 41 = .ok (.getfield 26, 3) := by decide +kernel
theorem dX4_of_44 : decode cX4_of 44 = .ok (.bipush 33, 2) := by decide +kernel
theorem dX4_of_46 : decode cX4_of 46 = .ok (.iload_n 1, 1) := by decide +kernel
theorem dX4_of_47 : decode cX4_of 47 = .ok (.iadd, 1) := by decide +kernel
theorem dX4_of_48 : decode cX4_of 48 = .ok (.iaload, 1) := by decide +kernel
theorem dX4_of_49 : decode cX4_of 49 = .ok (.ireturn, 1) := by decide +kernel
theorem dX4_of_50 : decode cX4_of 50 = .ok (.aload_n 0, 1) := by decide +kernel
theorem dX4_of_51 : decode cX4_of 51 = .ok (.getfield 26, 3) := by decide +kernel
theorem dX4_of_54 : decode cX4_of 54 = .ok (.iconst 4, 1) := by decide +kernel
theorem dX4_of_55 : decode cX4_of 55 = .ok (.iload_n 1, 1) := by decide +kernel
theorem dX4_of_56 : decode cX4_of 56 = .ok (.iadd, 1) := by decide +kernel
theorem dX4_of_57 : decode cX4_of 57 = .ok (.iaload, 1) := by decide +kernel
theorem dX4_of_58 : decode cX4_of 58 = .ok (.ireturn, 1) := by decide +kernel
theorem dX4_of_59 : decode cX4_of 59 = .ok (.aload_n 0, 1) := by decide +kernel
theorem dX4_of_60 : decode cX4_of 60 = .ok (.getfield 26, 3) := by decide +kernel
theorem dX4_of_63 : decode cX4_of 63 = .ok (.bipush 40, 2) := by decide +kernel
theorem dX4_of_65 : decode cX4_of 65 = .ok (.iload_n 1, 1) := by decide +kernel
theorem dX4_of_66 : decode cX4_of 66 = .ok (.iadd, 1) := by decide +kernel
theorem dX4_of_67 : decode cX4_of 67 = .ok (.iaload, 1) := by decide +kernel
theorem dX4_of_68 : decode cX4_of 68 = .ok (.ireturn, 1) := by decide +kernel
theorem dX4_of_69 : decode cX4_of 69 = .ok (.aload_n 0, 1) := by decide +kernel
theorem dX4_of_70 : decode cX4_of 70 = .ok (.getfield 26, 3) := by decide +kernel
theorem dX4_of_73 : decode cX4_of 73 = .ok (.bipush 11, 2) := by decide +kernel
theorem dX4_of_75 : decode cX4_of 75 = .ok (.iload_n 1, 1) := by decide +kernel
theorem dX4_of_76 : decode cX4_of 76 = .ok (.iadd, 1) := by decide +kernel
theorem dX4_of_77 : decode cX4_of 77 = .ok (.iaload, 1) := by decide +kernel
theorem dX4_of_78 : decode cX4_of 78 = .ok (.ireturn, 1) := by decide +kernel
theorem dX4_of_79 : decode cX4_of 79 = .ok (.aload_n 0, 1) := by decide +kernel
theorem dX4_of_80 : decode cX4_of 80 = .ok (.getfield 26, 3) := by decide +kernel
theorem dX4_of_83 : decode cX4_of 83 = .ok (.bipush 18, 2) := by decide +kernel
theorem dX4_of_85 : decode cX4_of 85 = .ok (.iload_n 1, 1) := by decide +kernel
theorem dX4_of_86 : decode cX4_of 86 = .ok (.iadd, 1) := by decide +kernel
theorem dX4_of_87 : decode cX4_of 87 = .ok (.iaload, 1) := by decide +kernel
theorem dX4_of_88 : decode cX4_of 88 = .ok (.ireturn, 1) := by decide +kernel
theorem dX4_of_89 : decode cX4_of 89 = .ok (.aload_n 0, 1) := by decide +kernel
theorem dX4_of_90 : decode cX4_of 90 = .ok (.getfield 26, 3) := by decide +kernel
theorem dX4_of_93 : decode cX4_of 93 = .ok (.bipush 25, 2) := by decide +kernel
theorem dX4_of_95 : decode cX4_of 95 = .ok (.iload_n 1, 1) := by decide +kernel
theorem dX4_of_96 : decode cX4_of 96 = .ok (.iadd, 1) := by decide +kernel
theorem dX4_of_97 : decode cX4_of 97 = .ok (.iaload, 1) := by decide +kernel
theorem dX4_of_98 : decode cX4_of 98 = .ok (.ireturn, 1) := by decide +kernel
theorem dX4_of_99 : decode cX4_of 99 = .ok (.aload_n 0, 1) := by decide +kernel
theorem dX4_of_100 : decode cX4_of 100 = .ok (.getfield 26, 3) := by decide +kernel
theorem dX4_of_103 : decode cX4_of 103 = .ok (.iload_n 1, 1) := by decide +kernel
theorem dX4_of_104 : decode cX4_of 104 = .ok (.invokestatic 128, 3) := by decide +kernel
theorem dX4_of_107 : decode cX4_of 107 = .ok (.ifCond .eq 7, 3) := by decide +kernel
theorem dX4_of_110 : decode cX4_of 110 = .ok (.iconst 1, 1) := by decide +kernel
theorem dX4_of_111 : decode cX4_of 111 = .ok (.goto 4, 3) := by decide +kernel
theorem dX4_of_114 : decode cX4_of 114 = .ok (.iconst 0, 1) := by decide +kernel
theorem dX4_of_115 : decode cX4_of 115 = .ok (.ireturn, 1) := by decide +kernel
/-! X4_of (II)I -/
abbrev rmX4_of : Room := { frames := 2, cells := 0, slots := 0, locals := 42 }
theorem lkX4_of_0 : Cond.fieldLink RX4 26 (TX4 5).1 (TX4 5).2.1 (TX4 5).2.2.1 ∈ wsX4_of := by decide +kernel
theorem inX4_of_X4 : ∀ w ∈ u_ws RX4 TX4 22, w ∈ wsX4_of := by decide +kernel
noncomputable def fX4_of (G : mm_G) (a0 : Nat) (x1 : Int32) (x2 : Int32) (σ : mm_M) : Option (Int32 × mm_M) := if x2 = 0 then (if ((33 : Int32) + x1) < 0 ∨ mm_N G (mm_R G a0 5) ≤ ((33 : Int32) + x1).toNatClampNeg then none else (some (σ.1 (mm_R G a0 5) ((33 : Int32) + x1).toNatClampNeg, σ))) else (if x2 = 1 then (if ((4 : Int32) + x1) < 0 ∨ mm_N G (mm_R G a0 5) ≤ ((4 : Int32) + x1).toNatClampNeg then none else (some (σ.1 (mm_R G a0 5) ((4 : Int32) + x1).toNatClampNeg, σ))) else (if x2 = 2 then (if ((40 : Int32) + x1) < 0 ∨ mm_N G (mm_R G a0 5) ≤ ((40 : Int32) + x1).toNatClampNeg then none else (some (σ.1 (mm_R G a0 5) ((40 : Int32) + x1).toNatClampNeg, σ))) else (if x2 = 3 then (if ((11 : Int32) + x1) < 0 ∨ mm_N G (mm_R G a0 5) ≤ ((11 : Int32) + x1).toNatClampNeg then none else (some (σ.1 (mm_R G a0 5) ((11 : Int32) + x1).toNatClampNeg, σ))) else (if x2 = 4 then (if ((18 : Int32) + x1) < 0 ∨ mm_N G (mm_R G a0 5) ≤ ((18 : Int32) + x1).toNatClampNeg then none else (some (σ.1 (mm_R G a0 5) ((18 : Int32) + x1).toNatClampNeg, σ))) else (if x2 = 5 then (if ((25 : Int32) + x1) < 0 ∨ mm_N G (mm_R G a0 5) ≤ ((25 : Int32) + x1).toNatClampNeg then none else (some (σ.1 (mm_R G a0 5) ((25 : Int32) + x1).toNatClampNeg, σ))) else ((fX4_wants G (mm_R G a0 5) x1 σ).bind (fun q104 => some (if q104.1 = 0 then (0 : Int32) else (1 : Int32), q104.2))))))))
set_option maxHeartbeats 4000000 in
set_option maxRecDepth 100000 in
theorem wX4_of_b0 {E : mm_E} {G : mm_G} (X : mm_Cx E G cX4_of 3 RX4 wsX4_of rmX4_of (some .int)) {a0 : Nat} {x1 : Int32} {x2 : Int32} {σ : mm_M} {q : (Int32 × mm_M)} (ha0 : mm_Is G 4 a0) (h : fX4_of G a0 x1 x2 σ = some q) : mm_At E G 3 (mm_Qi E G q) σ 0 [(0, .ref a0), (1, .int x1), (2, .int x2)] [] := by
  unfold fX4_of at h
  refine at_iload_n (pc := 0) X 2 2 dX4_of_0 rfl rfl ?_
  by_cases c1_0 : x2 = 0
  · have h := mm_pos c1_0 h
    refine at_swIn (pc := 1) X 40 dX4_of_1 (by rw [c1_0]; decide) (by rw [c1_0]; decide) (by rw [c1_0]; rfl) (by decide) ?_
    refine at_aload_n (pc := 40) X 0 0 dX4_of_40 rfl rfl ?_
    refine at_get (pc := 41) X 4 5 (.ref (mm_R G a0 5)) ha0 (by decide) rfl inX4_of_X4 (by decide) lkX4_of_0 rfl dX4_of_41 ?_
    refine at_bipush (pc := 44) X (33 : Int32) dX4_of_44 ib_33 ?_
    refine at_iload_n (pc := 46) X 1 1 dX4_of_46 rfl rfl ?_
    refine at_iadd (pc := 47) X dX4_of_47 ?_
    obtain ⟨hc48, h⟩ := mm_chk h
    refine at_iald (pc := 48) X (wf_4_5 X.wf ha0) hc48 dX4_of_48 ?_
    exact at_iret (pc := 49) X (Option.some.inj h) dX4_of_49
  · have h := mm_neg c1_0 h
    by_cases c1_1 : x2 = 1
    · have h := mm_pos c1_1 h
      refine at_swIn (pc := 1) X 50 dX4_of_1 (by rw [c1_1]; decide) (by rw [c1_1]; decide) (by rw [c1_1]; rfl) (by decide) ?_
      refine at_aload_n (pc := 50) X 0 0 dX4_of_50 rfl rfl ?_
      refine at_get (pc := 51) X 4 5 (.ref (mm_R G a0 5)) ha0 (by decide) rfl inX4_of_X4 (by decide) lkX4_of_0 rfl dX4_of_51 ?_
      refine at_iconst (pc := 54) X (4 : Int32) dX4_of_54 ic_4 ?_
      refine at_iload_n (pc := 55) X 1 1 dX4_of_55 rfl rfl ?_
      refine at_iadd (pc := 56) X dX4_of_56 ?_
      obtain ⟨hc57, h⟩ := mm_chk h
      refine at_iald (pc := 57) X (wf_4_5 X.wf ha0) hc57 dX4_of_57 ?_
      exact at_iret (pc := 58) X (Option.some.inj h) dX4_of_58
    · have h := mm_neg c1_1 h
      by_cases c1_2 : x2 = 2
      · have h := mm_pos c1_2 h
        refine at_swIn (pc := 1) X 59 dX4_of_1 (by rw [c1_2]; decide) (by rw [c1_2]; decide) (by rw [c1_2]; rfl) (by decide) ?_
        refine at_aload_n (pc := 59) X 0 0 dX4_of_59 rfl rfl ?_
        refine at_get (pc := 60) X 4 5 (.ref (mm_R G a0 5)) ha0 (by decide) rfl inX4_of_X4 (by decide) lkX4_of_0 rfl dX4_of_60 ?_
        refine at_bipush (pc := 63) X (40 : Int32) dX4_of_63 ib_40 ?_
        refine at_iload_n (pc := 65) X 1 1 dX4_of_65 rfl rfl ?_
        refine at_iadd (pc := 66) X dX4_of_66 ?_
        obtain ⟨hc67, h⟩ := mm_chk h
        refine at_iald (pc := 67) X (wf_4_5 X.wf ha0) hc67 dX4_of_67 ?_
        exact at_iret (pc := 68) X (Option.some.inj h) dX4_of_68
      · have h := mm_neg c1_2 h
        by_cases c1_3 : x2 = 3
        · have h := mm_pos c1_3 h
          refine at_swIn (pc := 1) X 69 dX4_of_1 (by rw [c1_3]; decide) (by rw [c1_3]; decide) (by rw [c1_3]; rfl) (by decide) ?_
          refine at_aload_n (pc := 69) X 0 0 dX4_of_69 rfl rfl ?_
          refine at_get (pc := 70) X 4 5 (.ref (mm_R G a0 5)) ha0 (by decide) rfl inX4_of_X4 (by decide) lkX4_of_0 rfl dX4_of_70 ?_
          refine at_bipush (pc := 73) X (11 : Int32) dX4_of_73 ib_11 ?_
          refine at_iload_n (pc := 75) X 1 1 dX4_of_75 rfl rfl ?_
          refine at_iadd (pc := 76) X dX4_of_76 ?_
          obtain ⟨hc77, h⟩ := mm_chk h
          refine at_iald (pc := 77) X (wf_4_5 X.wf ha0) hc77 dX4_of_77 ?_
          exact at_iret (pc := 78) X (Option.some.inj h) dX4_of_78
        · have h := mm_neg c1_3 h
          by_cases c1_4 : x2 = 4
          · have h := mm_pos c1_4 h
            refine at_swIn (pc := 1) X 79 dX4_of_1 (by rw [c1_4]; decide) (by rw [c1_4]; decide) (by rw [c1_4]; rfl) (by decide) ?_
            refine at_aload_n (pc := 79) X 0 0 dX4_of_79 rfl rfl ?_
            refine at_get (pc := 80) X 4 5 (.ref (mm_R G a0 5)) ha0 (by decide) rfl inX4_of_X4 (by decide) lkX4_of_0 rfl dX4_of_80 ?_
            refine at_bipush (pc := 83) X (18 : Int32) dX4_of_83 ib_18 ?_
            refine at_iload_n (pc := 85) X 1 1 dX4_of_85 rfl rfl ?_
            refine at_iadd (pc := 86) X dX4_of_86 ?_
            obtain ⟨hc87, h⟩ := mm_chk h
            refine at_iald (pc := 87) X (wf_4_5 X.wf ha0) hc87 dX4_of_87 ?_
            exact at_iret (pc := 88) X (Option.some.inj h) dX4_of_88
          · have h := mm_neg c1_4 h
            by_cases c1_5 : x2 = 5
            · have h := mm_pos c1_5 h
              refine at_swIn (pc := 1) X 89 dX4_of_1 (by rw [c1_5]; decide) (by rw [c1_5]; decide) (by rw [c1_5]; rfl) (by decide) ?_
              refine at_aload_n (pc := 89) X 0 0 dX4_of_89 rfl rfl ?_
              refine at_get (pc := 90) X 4 5 (.ref (mm_R G a0 5)) ha0 (by decide) rfl inX4_of_X4 (by decide) lkX4_of_0 rfl dX4_of_90 ?_
              refine at_bipush (pc := 93) X (25 : Int32) dX4_of_93 ib_25 ?_
              refine at_iload_n (pc := 95) X 1 1 dX4_of_95 rfl rfl ?_
              refine at_iadd (pc := 96) X dX4_of_96 ?_
              obtain ⟨hc97, h⟩ := mm_chk h
              refine at_iald (pc := 97) X (wf_4_5 X.wf ha0) hc97 dX4_of_97 ?_
              exact at_iret (pc := 98) X (Option.some.inj h) dX4_of_98
            · have h := mm_neg c1_5 h
              refine at_swOut (pc := 1) X 99 dX4_of_1 (sw_0_5 c1_0 c1_1 c1_2 c1_3 c1_4 c1_5) (by decide) ?_
              refine at_aload_n (pc := 99) X 0 0 dX4_of_99 rfl rfl ?_
              refine at_get (pc := 100) X 4 5 (.ref (mm_R G a0 5)) ha0 (by decide) rfl inX4_of_X4 (by decide) lkX4_of_0 rfl dX4_of_100 ?_
              refine at_iload_n (pc := 103) X 1 1 dX4_of_103 rfl rfl ?_
              obtain ⟨q104, hq104, h⟩ := mm_bind h
              refine at_scalli (n := 2) (pc := 104) X [.ref (mm_R G a0 5), .int x1] [] (mX4_wants (eL E) X.wf (wf_4_5 X.wf ha0) hq104) gX4_of_X4_wants rfl ⟨rfl, rfl⟩ (by decide +kernel) ⟨by decide, by decide⟩ rfl rfl (Nat.le_of_ble_eq_true rfl) dX4_of_104 ?_
              have hj107 : mm_At E G 3 (mm_Qi E G q) q104.2 115 [] [.int (if q104.1 = 0 then (0 : Int32) else (1 : Int32))] := by
                exact at_iret (pc := 115) X (Option.some.inj h) dX4_of_115
              refine at_if_eq (pc := 107) X 114 dX4_of_107 (by decide) (fun c107 => ?_) (fun c107 => ?_)
              · try simp only [if_pos c107] at hj107
                refine at_iconst (pc := 114) X (0 : Int32) dX4_of_114 ic_0 ?_
                exact at_sub [] rfl hj107
              · try simp only [if_neg c107] at hj107
                refine at_iconst (pc := 110) X (1 : Int32) dX4_of_110 ic_1 ?_
                refine at_goto (pc := 111) X 115 dX4_of_111 (by decide) ?_
                exact at_sub [] rfl hj107
set_option maxHeartbeats 4000000 in
set_option maxRecDepth 100000 in
theorem mX4_of (l : Launch) {G : mm_G} (hwf : mm_WF G) {a0 : Nat} {x1 : Int32} {x2 : Int32} {σ : mm_M} {q : (Int32 × mm_M)} (ha0 : mm_Is G 4 a0) (h : fX4_of G a0 x1 x2 σ = some q) : mm_Mi l yX4_of wsX4_of rmX4_of G [.ref a0, .int x1, .int x2] σ q := by
  refine mm_ofi (cc := cX4_of) (nL := 3) (ret := some .int) (own := RX4) (lv0 := [(0, .ref a0), (1, .int x1), (2, .int x2)]) (by decide) rfl rfl (Nat.le_of_ble_eq_true rfl) rfl hwf (fun E hE X => ?_)
  exact wX4_of_b0 X ha0 h
set_option maxRecDepth 20000 in
theorem ggX4_station_X4_isStation : GoodIn wsX4_station wsX4_isStation := goodIn_r _ [5, 6, 7, 8, 4, 9, 28, 29, 30, 31, 32, 33, 34, 35, 36, 37, 38, 39, 40, 41, 42, 43, 44, 45, 46, 47, 48, 49] (by decide +kernel) (by decide +kernel)
set_option maxRecDepth 20000 in
theorem gX4_station_X4_isStation : GoodIn wsX4_station (wsV RX4 132 RX4 yX4_isStation wsX4_isStation) := goodIn_app (goodIn_of _ (by decide +kernel)) ggX4_station_X4_isStation
set_option maxRecDepth 20000 in
theorem ggX4_station_X4_in : GoodIn wsX4_station wsX4_in := goodIn_r _ [9] (by decide +kernel) (by decide +kernel)
set_option maxRecDepth 20000 in
theorem gX4_station_X4_in : GoodIn wsX4_station (va_wsS RX4 73 yX4_in wsX4_in) := goodIn_app (goodIn_of _ (by decide +kernel)) ggX4_station_X4_in
set_option maxRecDepth 20000 in
theorem ggX4_station_X4_of : GoodIn wsX4_station wsX4_of := goodIn_r _ [13, 6, 14, 15, 4, 16, 17, 18, 19, 20, 21, 22, 28, 29, 30, 31, 32, 33, 34, 35, 36, 37, 38, 39, 40, 41, 42, 43, 44, 45, 46, 47, 48, 49] (by decide +kernel) (by decide +kernel)
set_option maxRecDepth 20000 in
theorem gX4_station_X4_of : GoodIn wsX4_station (wsV RX4 135 RX4 yX4_of wsX4_of) := goodIn_app (goodIn_of _ (by decide +kernel)) ggX4_station_X4_of
set_option maxRecDepth 20000 in
theorem ggX4_station_X4_tells : GoodIn wsX4_station wsX4_tells := goodIn_r _ [26, 27, 28, 29, 30, 31, 32, 33, 34, 35, 36, 37, 38, 39, 40, 41, 42, 43, 44, 45, 46, 47, 48, 49] (by decide +kernel) (by decide +kernel)
set_option maxRecDepth 20000 in
theorem gX4_station_X4_tells : GoodIn wsX4_station (wsV RX4 89 RX4 yX4_tells wsX4_tells) := goodIn_app (goodIn_of _ (by decide +kernel)) ggX4_station_X4_tells
theorem dX4_station_0 : decode cX4_station 0 = .ok (.aload_n 0, 1) := by decide +kernel
theorem dX4_station_1 : decode cX4_station 1 = .ok (.iload_n 1, 1) := by decide +kernel
theorem dX4_station_2 : decode cX4_station 2 = .ok (.invokevirtual 132, 3) := by decide +kernel
theorem dX4_station_5 : decode cX4_station 5 = .ok (.ifCond .eq 26, 3) := by decide +kernel
theorem dX4_station_8 : decode cX4_station 8 = .ok (.iload_n 2, 1) := by decide +kernel
theorem dX4_station_9 : decode cX4_station 9 = .ok (.iconst 0, 1) := by decide +kernel
theorem dX4_station_10 : decode cX4_station 10 = .ok (.bipush 6, 2) := by decide +kernel
theorem dX4_station_12 : decode cX4_station 12 = .ok (.invokestatic 73, 3) := by decide +kernel
theorem dX4_station_15 : decode cX4_station 15 = .ok (.ifCond .eq 16, 3) := by decide +kernel
theorem dX4_station_18 : decode cX4_station 18 = .ok (.aload_n 0, 1) := by decide +kernel
theorem dX4_station_19 : decode cX4_station 19 = .ok (.aload_n 0, 1) := by decide +kernel
theorem dX4_station_20 : decode cX4_station 20 = .ok (.iload_n 1, 1) := by decide +kernel
theorem dX4_station_21 : decode cX4_station 21 = .ok (.iload_n 2, 1) := by decide +kernel
theorem dX4_station_22 : decode cX4_station 22 = .ok (.invokevirtual 135, 3) := by decide +kernel
theorem dX4_station_25 : decode cX4_station 25 = .ok (.invokevirtual 89, 3) := by decide +kernel
theorem dX4_station_28 : decode cX4_station 28 = .ok (.goto 4, 3) := by decide +kernel
theorem dX4_station_31 : decode cX4_station 31 = .ok (.iconst (-1), 1) := by decide +kernel
theorem dX4_station_32 : decode cX4_station 32 = .ok (.ireturn, 1) := by decide +kernel
/-! X4_station (II)I -/
abbrev rmX4_station : Room := { frames := 3, cells := 0, slots := 0, locals := 64 }
noncomputable def fX4_station (G : mm_G) (a0 : Nat) (x1 : Int32) (x2 : Int32) (σ : mm_M) : Option (Int32 × mm_M) := (fX4_isStation G a0 x1 σ).bind (fun q2 => if q2.1 = 0 then (some ((-1 : Int32), q2.2)) else ((fX4_in G x2 (0 : Int32) (6 : Int32) q2.2).bind (fun q12 => if q12.1 = 0 then (some ((-1 : Int32), q12.2)) else ((fX4_of G a0 x1 x2 q12.2).bind (fun q22 => (fX4_tells G a0 q22.1 q22.2).bind (fun q25 => some (q25.1, q25.2)))))))
set_option maxHeartbeats 4000000 in
set_option maxRecDepth 100000 in
theorem wX4_station_b0 {E : mm_E} {G : mm_G} (X : mm_Cx E G cX4_station 3 RX4 wsX4_station rmX4_station (some .int)) {a0 : Nat} {x1 : Int32} {x2 : Int32} {σ : mm_M} {q : (Int32 × mm_M)} (ha0 : mm_Is G 4 a0) (h : fX4_station G a0 x1 x2 σ = some q) : mm_At E G 3 (mm_Qi E G q) σ 0 [(0, .ref a0), (1, .int x1), (2, .int x2)] [] := by
  unfold fX4_station at h
  refine at_aload_n (pc := 0) X 0 0 dX4_station_0 rfl rfl ?_
  refine at_iload_n (pc := 1) X 1 1 dX4_station_1 rfl rfl ?_
  obtain ⟨q2, hq2, h⟩ := mm_bind h
  refine at_calli (n := 1) (pc := 2) X 4 [.int x1] [] (mX4_isStation (eL E) X.wf ha0 hq2) gX4_station_X4_isStation rfl ⟨rfl, rfl⟩ (by decide +kernel) ⟨by decide, by decide⟩ (by decide) rfl ha0 rfl rfl (Nat.le_of_ble_eq_true rfl) dX4_station_2 ?_
  refine at_if_eq (pc := 5) X 31 dX4_station_5 (by decide) (fun c5 => ?_) (fun c5 => ?_)
  · have h := mm_pos c5 h
    refine at_iconst (pc := 31) X (-1 : Int32) dX4_station_31 ic_m1 ?_
    exact at_iret (pc := 32) X (Option.some.inj h) dX4_station_32
  · have h := mm_neg c5 h
    refine at_iload_n (pc := 8) X 2 2 dX4_station_8 rfl rfl ?_
    refine at_iconst (pc := 9) X (0 : Int32) dX4_station_9 ic_0 ?_
    refine at_bipush (pc := 10) X (6 : Int32) dX4_station_10 ib_6 ?_
    obtain ⟨q12, hq12, h⟩ := mm_bind h
    refine at_scalli (n := 3) (pc := 12) X [.int x2, .int (0 : Int32), .int (6 : Int32)] [] (mX4_in (eL E) X.wf hq12) gX4_station_X4_in rfl ⟨rfl, rfl⟩ (by decide +kernel) ⟨by decide, by decide⟩ rfl rfl (Nat.le_of_ble_eq_true rfl) dX4_station_12 ?_
    refine at_if_eq (pc := 15) X 31 dX4_station_15 (by decide) (fun c15 => ?_) (fun c15 => ?_)
    · have h := mm_pos c15 h
      refine at_iconst (pc := 31) X (-1 : Int32) dX4_station_31 ic_m1 ?_
      exact at_iret (pc := 32) X (Option.some.inj h) dX4_station_32
    · have h := mm_neg c15 h
      refine at_aload_n (pc := 18) X 0 0 dX4_station_18 rfl rfl ?_
      refine at_aload_n (pc := 19) X 0 0 dX4_station_19 rfl rfl ?_
      refine at_iload_n (pc := 20) X 1 1 dX4_station_20 rfl rfl ?_
      refine at_iload_n (pc := 21) X 2 2 dX4_station_21 rfl rfl ?_
      obtain ⟨q22, hq22, h⟩ := mm_bind h
      refine at_calli (n := 2) (pc := 22) X 4 [.int x1, .int x2] [.ref a0] (mX4_of (eL E) X.wf ha0 hq22) gX4_station_X4_of rfl ⟨rfl, rfl⟩ (by decide +kernel) ⟨by decide, by decide⟩ (by decide) rfl ha0 rfl rfl (Nat.le_of_ble_eq_true rfl) dX4_station_22 ?_
      obtain ⟨q25, hq25, h⟩ := mm_bind h
      refine at_calli (n := 1) (pc := 25) X 4 [.int q22.1] [] (mX4_tells (eL E) X.wf ha0 hq25) gX4_station_X4_tells rfl ⟨rfl, rfl⟩ (by decide +kernel) ⟨by decide, by decide⟩ (by decide) rfl ha0 rfl rfl (Nat.le_of_ble_eq_true rfl) dX4_station_25 ?_
      refine at_goto (pc := 28) X 32 dX4_station_28 (by decide) ?_
      exact at_iret (pc := 32) X (Option.some.inj h) dX4_station_32
set_option maxHeartbeats 4000000 in
set_option maxRecDepth 100000 in
theorem mX4_station (l : Launch) {G : mm_G} (hwf : mm_WF G) {a0 : Nat} {x1 : Int32} {x2 : Int32} {σ : mm_M} {q : (Int32 × mm_M)} (ha0 : mm_Is G 4 a0) (h : fX4_station G a0 x1 x2 σ = some q) : mm_Mi l yX4_station wsX4_station rmX4_station G [.ref a0, .int x1, .int x2] σ q := by
  refine mm_ofi (cc := cX4_station) (nL := 3) (ret := some .int) (own := RX4) (lv0 := [(0, .ref a0), (1, .int x1), (2, .int x2)]) (by decide) rfl rfl (Nat.le_of_ble_eq_true rfl) rfl hwf (fun E hE X => ?_)
  exact wX4_station_b0 X ha0 h
set_option maxRecDepth 20000 in
theorem ggX4_wouldWait_X4_waitBy : GoodIn wsX4_wouldWait wsX4_waitBy := goodIn_r _ [5, 6, 7, 4, 8, 9, 10, 11] (by decide +kernel) (by decide +kernel)
set_option maxRecDepth 20000 in
theorem gX4_wouldWait_X4_waitBy : GoodIn wsX4_wouldWait (va_wsS RX4 138 yX4_waitBy wsX4_waitBy) := goodIn_app (goodIn_of _ (by decide +kernel)) ggX4_wouldWait_X4_waitBy
theorem dX4_wouldWait_0 : decode cX4_wouldWait 0 = .ok (.iload_n 2, 1) := by decide +kernel
theorem dX4_wouldWait_1 : decode cX4_wouldWait 1 = .ok (.aload_n 0, 1) := by decide +kernel
theorem dX4_wouldWait_2 : decode cX4_wouldWait 2 = .ok (.getfield 26, 3) := by decide +kernel
theorem dX4_wouldWait_5 : decode cX4_wouldWait 5 = .ok (.iconst 4, 1) := by decide +kernel
theorem dX4_wouldWait_6 : decode cX4_wouldWait 6 = .ok (.iload_n 1, 1) := by decide +kernel
theorem dX4_wouldWait_7 : decode cX4_wouldWait 7 = .ok (.iadd, 1) := by decide +kernel
theorem dX4_wouldWait_8 : decode cX4_wouldWait 8 = .ok (.iaload, 1) := by decide +kernel
theorem dX4_wouldWait_9 : decode cX4_wouldWait 9 = .ok (.aload_n 0, 1) := by decide +kernel
theorem dX4_wouldWait_10 : decode cX4_wouldWait 10 = .ok (.getfield 26, 3) := by decide +kernel
theorem dX4_wouldWait_13 : decode cX4_wouldWait 13 = .ok (.bipush 40, 2) := by decide +kernel
theorem dX4_wouldWait_15 : decode cX4_wouldWait 15 = .ok (.iload_n 1, 1) := by decide +kernel
theorem dX4_wouldWait_16 : decode cX4_wouldWait 16 = .ok (.iadd, 1) := by decide +kernel
theorem dX4_wouldWait_17 : decode cX4_wouldWait 17 = .ok (.iaload, 1) := by decide +kernel
theorem dX4_wouldWait_18 : decode cX4_wouldWait 18 = .ok (.aload_n 0, 1) := by decide +kernel
theorem dX4_wouldWait_19 : decode cX4_wouldWait 19 = .ok (.getfield 26, 3) := by decide +kernel
theorem dX4_wouldWait_22 : decode cX4_wouldWait 22 = .ok (.bipush 25, 2) := by decide +kernel
theorem dX4_wouldWait_24 : decode cX4_wouldWait 24 = .ok (.iload_n 1, 1) := by decide +kernel
theorem dX4_wouldWait_25 : decode cX4_wouldWait 25 = .ok (.iadd, 1) := by decide +kernel
theorem dX4_wouldWait_26 : decode cX4_wouldWait 26 = .ok (.iaload, 1) := by decide +kernel
theorem dX4_wouldWait_27 : decode cX4_wouldWait 27 = .ok (.iconst 1, 1) := by decide +kernel
theorem dX4_wouldWait_28 : decode cX4_wouldWait 28 = .ok (.iadd, 1) := by decide +kernel
theorem dX4_wouldWait_29 : decode cX4_wouldWait 29 = .ok (.aload_n 0, 1) := by decide +kernel
theorem dX4_wouldWait_30 : decode cX4_wouldWait 30 = .ok (.getfield 26, 3) := by decide +kernel
theorem dX4_wouldWait_33 : decode cX4_wouldWait 33 = .ok (.iconst 0, 1) := by decide +kernel
theorem dX4_wouldWait_34 : decode cX4_wouldWait 34 = .ok (.iaload, 1) := by decide +kernel
theorem dX4_wouldWait_35 : decode cX4_wouldWait 35 = .ok (.invokestatic 138, 3) := by decide +kernel
theorem dX4_wouldWait_38 : decode cX4_wouldWait 38 = .ok (.ireturn, 1) := by decide +kernel
/-! X4_wouldWait (II)I -/
abbrev rmX4_wouldWait : Room := { frames := 3, cells := 0, slots := 0, locals := 67 }
theorem lkX4_wouldWait_0 : Cond.fieldLink RX4 26 (TX4 5).1 (TX4 5).2.1 (TX4 5).2.2.1 ∈ wsX4_wouldWait := by decide +kernel
theorem inX4_wouldWait_X4 : ∀ w ∈ u_ws RX4 TX4 22, w ∈ wsX4_wouldWait := by decide +kernel
noncomputable def fX4_wouldWait (G : mm_G) (a0 : Nat) (x1 : Int32) (x2 : Int32) (σ : mm_M) : Option (Int32 × mm_M) := if ((4 : Int32) + x1) < 0 ∨ mm_N G (mm_R G a0 5) ≤ ((4 : Int32) + x1).toNatClampNeg then none else (if ((40 : Int32) + x1) < 0 ∨ mm_N G (mm_R G a0 5) ≤ ((40 : Int32) + x1).toNatClampNeg then none else (if ((25 : Int32) + x1) < 0 ∨ mm_N G (mm_R G a0 5) ≤ ((25 : Int32) + x1).toNatClampNeg then none else (if (0 : Int32) < 0 ∨ mm_N G (mm_R G a0 5) ≤ (0 : Int32).toNatClampNeg then none else ((fX4_waitBy G x2 (σ.1 (mm_R G a0 5) ((4 : Int32) + x1).toNatClampNeg) (σ.1 (mm_R G a0 5) ((40 : Int32) + x1).toNatClampNeg) ((σ.1 (mm_R G a0 5) ((25 : Int32) + x1).toNatClampNeg) + (1 : Int32)) (σ.1 (mm_R G a0 5) (0 : Int32).toNatClampNeg) σ).bind (fun q35 => some (q35.1, q35.2))))))
set_option maxHeartbeats 4000000 in
set_option maxRecDepth 100000 in
theorem wX4_wouldWait_b0 {E : mm_E} {G : mm_G} (X : mm_Cx E G cX4_wouldWait 3 RX4 wsX4_wouldWait rmX4_wouldWait (some .int)) {a0 : Nat} {x1 : Int32} {x2 : Int32} {σ : mm_M} {q : (Int32 × mm_M)} (ha0 : mm_Is G 4 a0) (h : fX4_wouldWait G a0 x1 x2 σ = some q) : mm_At E G 3 (mm_Qi E G q) σ 0 [(0, .ref a0), (1, .int x1), (2, .int x2)] [] := by
  unfold fX4_wouldWait at h
  refine at_iload_n (pc := 0) X 2 2 dX4_wouldWait_0 rfl rfl ?_
  refine at_aload_n (pc := 1) X 0 0 dX4_wouldWait_1 rfl rfl ?_
  refine at_get (pc := 2) X 4 5 (.ref (mm_R G a0 5)) ha0 (by decide) rfl inX4_wouldWait_X4 (by decide) lkX4_wouldWait_0 rfl dX4_wouldWait_2 ?_
  refine at_iconst (pc := 5) X (4 : Int32) dX4_wouldWait_5 ic_4 ?_
  refine at_iload_n (pc := 6) X 1 1 dX4_wouldWait_6 rfl rfl ?_
  refine at_iadd (pc := 7) X dX4_wouldWait_7 ?_
  obtain ⟨hc8, h⟩ := mm_chk h
  refine at_iald (pc := 8) X (wf_4_5 X.wf ha0) hc8 dX4_wouldWait_8 ?_
  refine at_aload_n (pc := 9) X 0 0 dX4_wouldWait_9 rfl rfl ?_
  refine at_get (pc := 10) X 4 5 (.ref (mm_R G a0 5)) ha0 (by decide) rfl inX4_wouldWait_X4 (by decide) lkX4_wouldWait_0 rfl dX4_wouldWait_10 ?_
  refine at_bipush (pc := 13) X (40 : Int32) dX4_wouldWait_13 ib_40 ?_
  refine at_iload_n (pc := 15) X 1 1 dX4_wouldWait_15 rfl rfl ?_
  refine at_iadd (pc := 16) X dX4_wouldWait_16 ?_
  obtain ⟨hc17, h⟩ := mm_chk h
  refine at_iald (pc := 17) X (wf_4_5 X.wf ha0) hc17 dX4_wouldWait_17 ?_
  refine at_aload_n (pc := 18) X 0 0 dX4_wouldWait_18 rfl rfl ?_
  refine at_get (pc := 19) X 4 5 (.ref (mm_R G a0 5)) ha0 (by decide) rfl inX4_wouldWait_X4 (by decide) lkX4_wouldWait_0 rfl dX4_wouldWait_19 ?_
  refine at_bipush (pc := 22) X (25 : Int32) dX4_wouldWait_22 ib_25 ?_
  refine at_iload_n (pc := 24) X 1 1 dX4_wouldWait_24 rfl rfl ?_
  refine at_iadd (pc := 25) X dX4_wouldWait_25 ?_
  obtain ⟨hc26, h⟩ := mm_chk h
  refine at_iald (pc := 26) X (wf_4_5 X.wf ha0) hc26 dX4_wouldWait_26 ?_
  refine at_iconst (pc := 27) X (1 : Int32) dX4_wouldWait_27 ic_1 ?_
  refine at_iadd (pc := 28) X dX4_wouldWait_28 ?_
  refine at_aload_n (pc := 29) X 0 0 dX4_wouldWait_29 rfl rfl ?_
  refine at_get (pc := 30) X 4 5 (.ref (mm_R G a0 5)) ha0 (by decide) rfl inX4_wouldWait_X4 (by decide) lkX4_wouldWait_0 rfl dX4_wouldWait_30 ?_
  refine at_iconst (pc := 33) X (0 : Int32) dX4_wouldWait_33 ic_0 ?_
  obtain ⟨hc34, h⟩ := mm_chk h
  refine at_iald (pc := 34) X (wf_4_5 X.wf ha0) hc34 dX4_wouldWait_34 ?_
  obtain ⟨q35, hq35, h⟩ := mm_bind h
  refine at_scalli (n := 5) (pc := 35) X [.int x2, .int (σ.1 (mm_R G a0 5) ((4 : Int32) + x1).toNatClampNeg), .int (σ.1 (mm_R G a0 5) ((40 : Int32) + x1).toNatClampNeg), .int ((σ.1 (mm_R G a0 5) ((25 : Int32) + x1).toNatClampNeg) + (1 : Int32)), .int (σ.1 (mm_R G a0 5) (0 : Int32).toNatClampNeg)] [] (mX4_waitBy (eL E) X.wf hq35) gX4_wouldWait_X4_waitBy rfl ⟨rfl, rfl⟩ (by decide +kernel) ⟨by decide, by decide⟩ rfl rfl (Nat.le_of_ble_eq_true rfl) dX4_wouldWait_35 ?_
  exact at_iret (pc := 38) X (Option.some.inj h) dX4_wouldWait_38
set_option maxHeartbeats 4000000 in
set_option maxRecDepth 100000 in
theorem mX4_wouldWait (l : Launch) {G : mm_G} (hwf : mm_WF G) {a0 : Nat} {x1 : Int32} {x2 : Int32} {σ : mm_M} {q : (Int32 × mm_M)} (ha0 : mm_Is G 4 a0) (h : fX4_wouldWait G a0 x1 x2 σ = some q) : mm_Mi l yX4_wouldWait wsX4_wouldWait rmX4_wouldWait G [.ref a0, .int x1, .int x2] σ q := by
  refine mm_ofi (cc := cX4_wouldWait) (nL := 3) (ret := some .int) (own := RX4) (lv0 := [(0, .ref a0), (1, .int x1), (2, .int x2)]) (by decide) rfl rfl (Nat.le_of_ble_eq_true rfl) rfl hwf (fun E hE X => ?_)
  exact wX4_wouldWait_b0 X ha0 h
set_option maxRecDepth 20000 in
theorem ggX4_mark_X4_isStation : GoodIn wsX4_mark wsX4_isStation := goodIn_r _ [6, 1, 7, 8, 5, 9, 32, 33, 34, 35, 36, 37, 38, 39, 40, 41, 42, 43, 44, 45, 46, 47, 48, 49, 50, 51, 52, 53] (by decide +kernel) (by decide +kernel)
set_option maxRecDepth 20000 in
theorem gX4_mark_X4_isStation : GoodIn wsX4_mark (wsV RX4 132 RX4 yX4_isStation wsX4_isStation) := goodIn_app (goodIn_of _ (by decide +kernel)) ggX4_mark_X4_isStation
set_option maxRecDepth 20000 in
theorem ggX4_mark_X4_in : GoodIn wsX4_mark wsX4_in := goodIn_r _ [9] (by decide +kernel) (by decide +kernel)
set_option maxRecDepth 20000 in
theorem gX4_mark_X4_in : GoodIn wsX4_mark (va_wsS RX4 73 yX4_in wsX4_in) := goodIn_app (goodIn_of _ (by decide +kernel)) ggX4_mark_X4_in
set_option maxRecDepth 20000 in
theorem ggX4_mark_X4_is : GoodIn wsX4_mark wsX4_is := goodIn_r _ [12] (by decide +kernel) (by decide +kernel)
set_option maxRecDepth 20000 in
theorem gX4_mark_X4_is : GoodIn wsX4_mark (va_wsS RX4 121 yX4_is wsX4_is) := goodIn_app (goodIn_of _ (by decide +kernel)) ggX4_mark_X4_is
set_option maxRecDepth 20000 in
theorem ggX4_mark_X4_finds : GoodIn wsX4_mark wsX4_finds := goodIn_r _ [16, 17, 18, 32, 33, 34, 35, 36, 37, 38, 39, 40, 41, 42, 43, 44, 45, 46, 47, 48, 49, 50, 51, 52, 53] (by decide +kernel) (by decide +kernel)
set_option maxRecDepth 20000 in
theorem gX4_mark_X4_finds : GoodIn wsX4_mark (wsV RX4 81 RX4 yX4_finds wsX4_finds) := goodIn_app (goodIn_of _ (by decide +kernel)) ggX4_mark_X4_finds
set_option maxRecDepth 20000 in
theorem ggX4_mark_X4_wouldWait : GoodIn wsX4_mark wsX4_wouldWait := goodIn_r _ [22, 1, 23, 24, 5, 25, 26, 27, 28, 29, 30, 31, 32, 33, 34, 35, 36, 37, 38, 39, 40, 41, 42, 43, 44, 45, 46, 47, 48, 49, 50, 51, 52, 53] (by decide +kernel) (by decide +kernel)
set_option maxRecDepth 20000 in
theorem gX4_mark_X4_wouldWait : GoodIn wsX4_mark (wsV RX4 142 RX4 yX4_wouldWait wsX4_wouldWait) := goodIn_app (goodIn_of _ (by decide +kernel)) ggX4_mark_X4_wouldWait
theorem dX4_mark_0 : decode cX4_mark 0 = .ok (.aload_n 0, 1) := by decide +kernel
theorem dX4_mark_1 : decode cX4_mark 1 = .ok (.iload_n 1, 1) := by decide +kernel
theorem dX4_mark_2 : decode cX4_mark 2 = .ok (.invokevirtual 132, 3) := by decide +kernel
theorem dX4_mark_5 : decode cX4_mark 5 = .ok (.ifCond .eq 12, 3) := by decide +kernel
theorem dX4_mark_8 : decode cX4_mark 8 = .ok (.iload_n 2, 1) := by decide +kernel
theorem dX4_mark_9 : decode cX4_mark 9 = .ok (.iconst 1, 1) := by decide +kernel
theorem dX4_mark_10 : decode cX4_mark 10 = .ok (.iconst 5, 1) := by decide +kernel
theorem dX4_mark_11 : decode cX4_mark 11 = .ok (.invokestatic 73, 3) := by decide +kernel
theorem dX4_mark_14 : decode cX4_mark 14 = .ok (.ifCond .ne 5, 3) := by decide +kernel
theorem dX4_mark_17 : decode cX4_mark 17 = .ok (.iconst (-1), 1) := by decide +kernel
theorem dX4_mark_18 : decode cX4_mark 18 = .ok (.ireturn, 1) := by decide +kernel
theorem dX4_mark_19 : decode cX4_mark 19 = .ok (.aload_n 0, 1) := by decide +kernel
theorem dX4_mark_20 : decode cX4_mark 20 = .ok (.getfield 26, 3) := by decide +kernel
theorem dX4_mark_23 : decode cX4_mark 23 = .ok (.bipush 33, 2) := by decide +kernel
theorem dX4_mark_25 : decode cX4_mark 25 = .ok (.iload_n 1, 1) := by decide +kernel
theorem dX4_mark_26 : decode cX4_mark 26 = .ok (.iadd, 1) := by decide +kernel
theorem dX4_mark_27 : decode cX4_mark 27 = .ok (.iaload, 1) := by decide +kernel
theorem dX4_mark_28 : decode cX4_mark 28 = .ok (.istore_n 3, 1) := by decide +kernel
theorem dX4_mark_29 : decode cX4_mark 29 = .ok (.iload_n 3, 1) := by decide +kernel
theorem dX4_mark_30 : decode cX4_mark 30 = .ok (.iload_n 2, 1) := by decide +kernel
theorem dX4_mark_31 : decode cX4_mark 31 = .ok (.invokestatic 121, 3) := by decide +kernel
theorem dX4_mark_34 : decode cX4_mark 34 = .ok (.ifCond .ne 9, 3) := by decide +kernel
theorem dX4_mark_37 : decode cX4_mark 37 = .ok (.aload_n 0, 1) := by decide +kernel
theorem dX4_mark_38 : decode cX4_mark 38 = .ok (.iconst 3, 1) := by decide +kernel
theorem dX4_mark_39 : decode cX4_mark 39 = .ok (.invokevirtual 81, 3) := by decide +kernel
theorem dX4_mark_42 : decode cX4_mark 42 = .ok (.ireturn, 1) := by decide +kernel
theorem dX4_mark_43 : decode cX4_mark 43 = .ok (.iload_n 2, 1) := by decide +kernel
theorem dX4_mark_44 : decode cX4_mark 44 = .ok (.tableswitch 117 1 4 #[32, 49, 89, 103], 32) := by decide +kernel
theorem dX4_mark_76 : decode cX4_mark 76 = .ok (.aload_n 0, 1) := by decide +kernel
theorem dX4_mark_77 : decode cX4_mark 77 = .ok (.iload_n 1, 1) := by decide +kernel
theorem dX4_mark_78 : decode cX4_mark 78 = .ok (.iload_n 3, 1) := by decide +kernel
theorem dX4_mark_79 : decode cX4_mark 79 = .ok (.invokevirtual 142, 3) := by decide +kernel
theorem dX4_mark_82 : decode cX4_mark 82 = .ok (.aload_n 0, 1) := by decide +kernel
theorem dX4_mark_83 : decode cX4_mark 83 = .ok (.iload_n 1, 1) := by decide +kernel
theorem dX4_mark_84 : decode cX4_mark 84 = .ok (.iconst 0, 1) := by decide +kernel
theorem dX4_mark_85 : decode cX4_mark 85 = .ok (.invokevirtual 142, 3) := by decide +kernel
theorem dX4_mark_88 : decode cX4_mark 88 = .ok (.isub, 1) := by decide +kernel
theorem dX4_mark_89 : decode cX4_mark 89 = .ok (.bipush 100, 2) := by decide +kernel
theorem dX4_mark_91 : decode cX4_mark 91 = .ok (.iadd, 1) := by decide +kernel
theorem dX4_mark_92 : decode cX4_mark 92 = .ok (.ireturn, 1) := by decide +kernel
theorem dX4_mark_93 : decode cX4_mark 93 = .ok (.aload_n 0, 1) := by decide +kernel
theorem dX4_mark_94 : decode cX4_mark 94 = .ok (.getfield 26, 3) := by decide +kernel
theorem dX4_mark_97 : decode cX4_mark 97 = .ok (.bipush 11, 2) := by decide +kernel
theorem dX4_mark_99 : decode cX4_mark 99 = .ok (.iload_n 1, 1) := by decide +kernel
theorem dX4_mark_100 : decode cX4_mark 100 = .ok (.iadd, 1) := by decide +kernel
theorem dX4_mark_101 : decode cX4_mark 101 = .ok (.iaload, 1) := by decide +kernel
theorem dX4_mark_102 : decode cX4_mark 102 = .ok (.ifCond .le 29, 3) := by decide +kernel
theorem dX4_mark_105 : decode cX4_mark 105 = .ok (.aload_n 0, 1) := by decide +kernel
theorem dX4_mark_106 : decode cX4_mark 106 = .ok (.getfield 26, 3) := by decide +kernel
theorem dX4_mark_109 : decode cX4_mark 109 = .ok (.bipush 18, 2) := by decide +kernel
theorem dX4_mark_111 : decode cX4_mark 111 = .ok (.iload_n 1, 1) := by decide +kernel
theorem dX4_mark_112 : decode cX4_mark 112 = .ok (.iadd, 1) := by decide +kernel
theorem dX4_mark_113 : decode cX4_mark 113 = .ok (.iaload, 1) := by decide +kernel
theorem dX4_mark_114 : decode cX4_mark 114 = .ok (.ifCond .ne 17, 3) := by decide +kernel
theorem dX4_mark_117 : decode cX4_mark 117 = .ok (.aload_n 0, 1) := by decide +kernel
theorem dX4_mark_118 : decode cX4_mark 118 = .ok (.getfield 26, 3) := by decide +kernel
theorem dX4_mark_121 : decode cX4_mark 121 = .ok (.iconst 1, 1) := by decide +kernel
theorem dX4_mark_122 : decode cX4_mark 122 = .ok (.iaload, 1) := by decide +kernel
theorem dX4_mark_123 : decode cX4_mark 123 = .ok (.iconst 1, 1) := by decide +kernel
theorem dX4_mark_124 : decode cX4_mark 124 = .ok (.if_icmp .ne 7, 3) := by decide +kernel
theorem dX4_mark_127 : decode cX4_mark 127 = .ok (.iconst 1, 1) := by decide +kernel
theorem dX4_mark_128 : decode cX4_mark 128 = .ok (.goto 4, 3) := by decide +kernel
theorem dX4_mark_131 : decode cX4_mark 131 = .ok (.iconst 0, 1) := by decide +kernel
theorem dX4_mark_132 : decode cX4_mark 132 = .ok (.ireturn, 1) := by decide +kernel
theorem dX4_mark_133 : decode cX4_mark 133 = .ok (.aload_n 0, 1) := by decide +kernel
theorem dX4_mark_134 : decode cX4_mark 134 = .ok (.iload_n 1, 1) := by decide +kernel
theorem dX4_mark_135 : decode cX4_mark 135 = .ok (.iconst 0, 1) := by decide +kernel
theorem dX4_mark_136 : decode cX4_mark 136 = .ok (.invokevirtual 142, 3) := by decide +kernel
theorem dX4_mark_139 : decode cX4_mark 139 = .ok (.aload_n 0, 1) := by decide +kernel
theorem dX4_mark_140 : decode cX4_mark 140 = .ok (.iload_n 1, 1) := by decide +kernel
theorem dX4_mark_141 : decode cX4_mark 141 = .ok (.iconst 3, 1) := by decide +kernel
theorem dX4_mark_142 : decode cX4_mark 142 = .ok (.invokevirtual 142, 3) := by decide +kernel
theorem dX4_mark_145 : decode cX4_mark 145 = .ok (.isub, 1) := by decide +kernel
theorem dX4_mark_146 : decode cX4_mark 146 = .ok (.ireturn, 1) := by decide +kernel
theorem dX4_mark_147 : decode cX4_mark 147 = .ok (.aload_n 0, 1) := by decide +kernel
theorem dX4_mark_148 : decode cX4_mark 148 = .ok (.iload_n 1, 1) := by decide +kernel
theorem dX4_mark_149 : decode cX4_mark 149 = .ok (.iconst 1, 1) := by decide +kernel
theorem dX4_mark_150 : decode cX4_mark 150 = .ok (.invokevirtual 142, 3) := by decide +kernel
theorem dX4_mark_153 : decode cX4_mark 153 = .ok (.aload_n 0, 1) := by decide +kernel
theorem dX4_mark_154 : decode cX4_mark 154 = .ok (.iload_n 1, 1) := by decide +kernel
theorem dX4_mark_155 : decode cX4_mark 155 = .ok (.iconst 4, 1) := by decide +kernel
theorem dX4_mark_156 : decode cX4_mark 156 = .ok (.invokevirtual 142, 3) := by decide +kernel
theorem dX4_mark_159 : decode cX4_mark 159 = .ok (.isub, 1) := by decide +kernel
theorem dX4_mark_160 : decode cX4_mark 160 = .ok (.ireturn, 1) := by decide +kernel
theorem dX4_mark_161 : decode cX4_mark 161 = .ok (.iconst 4, 1) := by decide +kernel
theorem dX4_mark_162 : decode cX4_mark 162 = .ok (.aload_n 0, 1) := by decide +kernel
theorem dX4_mark_163 : decode cX4_mark 163 = .ok (.getfield 26, 3) := by decide +kernel
theorem dX4_mark_166 : decode cX4_mark 166 = .ok (.bipush 25, 2) := by decide +kernel
theorem dX4_mark_168 : decode cX4_mark 168 = .ok (.iload_n 1, 1) := by decide +kernel
theorem dX4_mark_169 : decode cX4_mark 169 = .ok (.iadd, 1) := by decide +kernel
theorem dX4_mark_170 : decode cX4_mark 170 = .ok (.iaload, 1) := by decide +kernel
theorem dX4_mark_171 : decode cX4_mark 171 = .ok (.isub, 1) := by decide +kernel
theorem dX4_mark_172 : decode cX4_mark 172 = .ok (.ireturn, 1) := by decide +kernel
/-! X4_mark (II)I -/
abbrev rmX4_mark : Room := { frames := 4, cells := 0, slots := 0, locals := 89 }
theorem lkX4_mark_0 : Cond.fieldLink RX4 26 (TX4 5).1 (TX4 5).2.1 (TX4 5).2.2.1 ∈ wsX4_mark := by decide +kernel
theorem inX4_mark_X4 : ∀ w ∈ u_ws RX4 TX4 22, w ∈ wsX4_mark := by decide +kernel
noncomputable def fX4_mark (G : mm_G) (a0 : Nat) (x1 : Int32) (x2 : Int32) (σ : mm_M) : Option (Int32 × mm_M) := (fX4_isStation G a0 x1 σ).bind (fun q2 => if q2.1 = 0 then (some ((-1 : Int32), q2.2)) else ((fX4_in G x2 (1 : Int32) (5 : Int32) q2.2).bind (fun q11 => if q11.1 = 0 then (some ((-1 : Int32), q11.2)) else (if ((33 : Int32) + x1) < 0 ∨ mm_N G (mm_R G a0 5) ≤ ((33 : Int32) + x1).toNatClampNeg then none else ((fX4_is G (q11.2.1 (mm_R G a0 5) ((33 : Int32) + x1).toNatClampNeg) x2 q11.2).bind (fun q31 => if q31.1 = 0 then ((fX4_finds G a0 (3 : Int32) q31.2).bind (fun q39 => some (q39.1, q39.2))) else (if x2 = 1 then ((fX4_wouldWait G a0 x1 (q11.2.1 (mm_R G a0 5) ((33 : Int32) + x1).toNatClampNeg) q31.2).bind (fun q79 => (fX4_wouldWait G a0 x1 (0 : Int32) q79.2).bind (fun q85 => some ((q79.1 - q85.1) + (100 : Int32), q85.2)))) else (if x2 = 2 then (if ((11 : Int32) + x1) < 0 ∨ mm_N G (mm_R G a0 5) ≤ ((11 : Int32) + x1).toNatClampNeg then none else (if 0 < (q31.2.1 (mm_R G a0 5) ((11 : Int32) + x1).toNatClampNeg) then (if ((18 : Int32) + x1) < 0 ∨ mm_N G (mm_R G a0 5) ≤ ((18 : Int32) + x1).toNatClampNeg then none else (if (q31.2.1 (mm_R G a0 5) ((18 : Int32) + x1).toNatClampNeg) = 0 then (if (1 : Int32) < 0 ∨ mm_N G (mm_R G a0 5) ≤ (1 : Int32).toNatClampNeg then none else (some (if (q31.2.1 (mm_R G a0 5) (1 : Int32).toNatClampNeg) = (1 : Int32) then (1 : Int32) else (0 : Int32), q31.2))) else (some ((0 : Int32), q31.2)))) else (some ((0 : Int32), q31.2)))) else (if x2 = 3 then ((fX4_wouldWait G a0 x1 (0 : Int32) q31.2).bind (fun q136 => (fX4_wouldWait G a0 x1 (3 : Int32) q136.2).bind (fun q142 => some (q136.1 - q142.1, q142.2)))) else (if x2 = 4 then ((fX4_wouldWait G a0 x1 (1 : Int32) q31.2).bind (fun q150 => (fX4_wouldWait G a0 x1 (4 : Int32) q150.2).bind (fun q156 => some (q150.1 - q156.1, q156.2)))) else (if ((25 : Int32) + x1) < 0 ∨ mm_N G (mm_R G a0 5) ≤ ((25 : Int32) + x1).toNatClampNeg then none else (some ((4 : Int32) - (q31.2.1 (mm_R G a0 5) ((25 : Int32) + x1).toNatClampNeg), q31.2)))))))))))))
set_option maxHeartbeats 4000000 in
set_option maxRecDepth 100000 in
theorem wX4_mark_b0 {E : mm_E} {G : mm_G} (X : mm_Cx E G cX4_mark 4 RX4 wsX4_mark rmX4_mark (some .int)) {a0 : Nat} {x1 : Int32} {x2 : Int32} {σ : mm_M} {q : (Int32 × mm_M)} (ha0 : mm_Is G 4 a0) (h : fX4_mark G a0 x1 x2 σ = some q) : mm_At E G 4 (mm_Qi E G q) σ 0 [(0, .ref a0), (1, .int x1), (2, .int x2)] [] := by
  unfold fX4_mark at h
  refine at_aload_n (pc := 0) X 0 0 dX4_mark_0 rfl rfl ?_
  refine at_iload_n (pc := 1) X 1 1 dX4_mark_1 rfl rfl ?_
  obtain ⟨q2, hq2, h⟩ := mm_bind h
  refine at_calli (n := 1) (pc := 2) X 4 [.int x1] [] (mX4_isStation (eL E) X.wf ha0 hq2) gX4_mark_X4_isStation rfl ⟨rfl, rfl⟩ (by decide +kernel) ⟨by decide, by decide⟩ (by decide) rfl ha0 rfl rfl (Nat.le_of_ble_eq_true rfl) dX4_mark_2 ?_
  refine at_if_eq (pc := 5) X 17 dX4_mark_5 (by decide) (fun c5 => ?_) (fun c5 => ?_)
  · have h := mm_pos c5 h
    refine at_iconst (pc := 17) X (-1 : Int32) dX4_mark_17 ic_m1 ?_
    exact at_iret (pc := 18) X (Option.some.inj h) dX4_mark_18
  · have h := mm_neg c5 h
    refine at_iload_n (pc := 8) X 2 2 dX4_mark_8 rfl rfl ?_
    refine at_iconst (pc := 9) X (1 : Int32) dX4_mark_9 ic_1 ?_
    refine at_iconst (pc := 10) X (5 : Int32) dX4_mark_10 ic_5 ?_
    obtain ⟨q11, hq11, h⟩ := mm_bind h
    refine at_scalli (n := 3) (pc := 11) X [.int x2, .int (1 : Int32), .int (5 : Int32)] [] (mX4_in (eL E) X.wf hq11) gX4_mark_X4_in rfl ⟨rfl, rfl⟩ (by decide +kernel) ⟨by decide, by decide⟩ rfl rfl (Nat.le_of_ble_eq_true rfl) dX4_mark_11 ?_
    refine at_if_ne (pc := 14) X 19 dX4_mark_14 (by decide) (fun c14 => ?_) (fun c14 => ?_)
    · have h := mm_neg c14 h
      refine at_aload_n (pc := 19) X 0 0 dX4_mark_19 rfl rfl ?_
      refine at_get (pc := 20) X 4 5 (.ref (mm_R G a0 5)) ha0 (by decide) rfl inX4_mark_X4 (by decide) lkX4_mark_0 rfl dX4_mark_20 ?_
      refine at_bipush (pc := 23) X (33 : Int32) dX4_mark_23 ib_33 ?_
      refine at_iload_n (pc := 25) X 1 1 dX4_mark_25 rfl rfl ?_
      refine at_iadd (pc := 26) X dX4_mark_26 ?_
      obtain ⟨hc27, h⟩ := mm_chk h
      refine at_iald (pc := 27) X (wf_4_5 X.wf ha0) hc27 dX4_mark_27 ?_
      refine at_istore_n (pc := 28) X 3 [(3, .int (q11.2.1 (mm_R G a0 5) ((33 : Int32) + x1).toNatClampNeg)), (0, .ref a0), (1, .int x1), (2, .int x2)] dX4_mark_28 rfl (by decide) rfl ?_
      refine at_iload_n (pc := 29) X 3 0 dX4_mark_29 rfl rfl ?_
      refine at_iload_n (pc := 30) X 2 3 dX4_mark_30 rfl rfl ?_
      obtain ⟨q31, hq31, h⟩ := mm_bind h
      refine at_scalli (n := 2) (pc := 31) X [.int (q11.2.1 (mm_R G a0 5) ((33 : Int32) + x1).toNatClampNeg), .int x2] [] (mX4_is (eL E) X.wf hq31) gX4_mark_X4_is rfl ⟨rfl, rfl⟩ (by decide +kernel) ⟨by decide, by decide⟩ rfl rfl (Nat.le_of_ble_eq_true rfl) dX4_mark_31 ?_
      refine at_if_ne (pc := 34) X 43 dX4_mark_34 (by decide) (fun c34 => ?_) (fun c34 => ?_)
      · have h := mm_neg c34 h
        refine at_iload_n (pc := 43) X 2 3 dX4_mark_43 rfl rfl ?_
        by_cases c44_0 : x2 = 1
        · have h := mm_pos c44_0 h
          refine at_swIn (pc := 44) X 76 dX4_mark_44 (by rw [c44_0]; decide) (by rw [c44_0]; decide) (by rw [c44_0]; rfl) (by decide) ?_
          refine at_aload_n (pc := 76) X 0 1 dX4_mark_76 rfl rfl ?_
          refine at_iload_n (pc := 77) X 1 2 dX4_mark_77 rfl rfl ?_
          refine at_iload_n (pc := 78) X 3 0 dX4_mark_78 rfl rfl ?_
          obtain ⟨q79, hq79, h⟩ := mm_bind h
          refine at_calli (n := 2) (pc := 79) X 4 [.int x1, .int (q11.2.1 (mm_R G a0 5) ((33 : Int32) + x1).toNatClampNeg)] [] (mX4_wouldWait (eL E) X.wf ha0 hq79) gX4_mark_X4_wouldWait rfl ⟨rfl, rfl⟩ (by decide +kernel) ⟨by decide, by decide⟩ (by decide) rfl ha0 rfl rfl (Nat.le_of_ble_eq_true rfl) dX4_mark_79 ?_
          refine at_aload_n (pc := 82) X 0 1 dX4_mark_82 rfl rfl ?_
          refine at_iload_n (pc := 83) X 1 2 dX4_mark_83 rfl rfl ?_
          refine at_iconst (pc := 84) X (0 : Int32) dX4_mark_84 ic_0 ?_
          obtain ⟨q85, hq85, h⟩ := mm_bind h
          refine at_calli (n := 2) (pc := 85) X 4 [.int x1, .int (0 : Int32)] [.int q79.1] (mX4_wouldWait (eL E) X.wf ha0 hq85) gX4_mark_X4_wouldWait rfl ⟨rfl, rfl⟩ (by decide +kernel) ⟨by decide, by decide⟩ (by decide) rfl ha0 rfl rfl (Nat.le_of_ble_eq_true rfl) dX4_mark_85 ?_
          refine at_isub (pc := 88) X dX4_mark_88 ?_
          refine at_bipush (pc := 89) X (100 : Int32) dX4_mark_89 ib_100 ?_
          refine at_iadd (pc := 91) X dX4_mark_91 ?_
          exact at_iret (pc := 92) X (Option.some.inj h) dX4_mark_92
        · have h := mm_neg c44_0 h
          by_cases c44_1 : x2 = 2
          · have h := mm_pos c44_1 h
            refine at_swIn (pc := 44) X 93 dX4_mark_44 (by rw [c44_1]; decide) (by rw [c44_1]; decide) (by rw [c44_1]; rfl) (by decide) ?_
            refine at_aload_n (pc := 93) X 0 1 dX4_mark_93 rfl rfl ?_
            refine at_get (pc := 94) X 4 5 (.ref (mm_R G a0 5)) ha0 (by decide) rfl inX4_mark_X4 (by decide) lkX4_mark_0 rfl dX4_mark_94 ?_
            refine at_bipush (pc := 97) X (11 : Int32) dX4_mark_97 ib_11 ?_
            refine at_iload_n (pc := 99) X 1 2 dX4_mark_99 rfl rfl ?_
            refine at_iadd (pc := 100) X dX4_mark_100 ?_
            obtain ⟨hc101, h⟩ := mm_chk h
            refine at_iald (pc := 101) X (wf_4_5 X.wf ha0) hc101 dX4_mark_101 ?_
            refine at_if_le (pc := 102) X 131 dX4_mark_102 (by decide) (fun c102 => ?_) (fun c102 => ?_)
            · have h := mm_neg c102 h
              refine at_iconst (pc := 131) X (0 : Int32) dX4_mark_131 ic_0 ?_
              exact at_iret (pc := 132) X (Option.some.inj h) dX4_mark_132
            · have h := mm_pos c102 h
              refine at_aload_n (pc := 105) X 0 1 dX4_mark_105 rfl rfl ?_
              refine at_get (pc := 106) X 4 5 (.ref (mm_R G a0 5)) ha0 (by decide) rfl inX4_mark_X4 (by decide) lkX4_mark_0 rfl dX4_mark_106 ?_
              refine at_bipush (pc := 109) X (18 : Int32) dX4_mark_109 ib_18 ?_
              refine at_iload_n (pc := 111) X 1 2 dX4_mark_111 rfl rfl ?_
              refine at_iadd (pc := 112) X dX4_mark_112 ?_
              obtain ⟨hc113, h⟩ := mm_chk h
              refine at_iald (pc := 113) X (wf_4_5 X.wf ha0) hc113 dX4_mark_113 ?_
              refine at_if_ne (pc := 114) X 131 dX4_mark_114 (by decide) (fun c114 => ?_) (fun c114 => ?_)
              · have h := mm_neg c114 h
                refine at_iconst (pc := 131) X (0 : Int32) dX4_mark_131 ic_0 ?_
                exact at_iret (pc := 132) X (Option.some.inj h) dX4_mark_132
              · have h := mm_pos c114 h
                refine at_aload_n (pc := 117) X 0 1 dX4_mark_117 rfl rfl ?_
                refine at_get (pc := 118) X 4 5 (.ref (mm_R G a0 5)) ha0 (by decide) rfl inX4_mark_X4 (by decide) lkX4_mark_0 rfl dX4_mark_118 ?_
                refine at_iconst (pc := 121) X (1 : Int32) dX4_mark_121 ic_1 ?_
                obtain ⟨hc122, h⟩ := mm_chk h
                refine at_iald (pc := 122) X (wf_4_5 X.wf ha0) hc122 dX4_mark_122 ?_
                refine at_iconst (pc := 123) X (1 : Int32) dX4_mark_123 ic_1 ?_
                have hj124 : mm_At E G 4 (mm_Qi E G q) q31.2 132 [] [.int (if (q31.2.1 (mm_R G a0 5) (1 : Int32).toNatClampNeg) = (1 : Int32) then (1 : Int32) else (0 : Int32))] := by
                  exact at_iret (pc := 132) X (Option.some.inj h) dX4_mark_132
                refine at_icmp_ne (pc := 124) X 131 dX4_mark_124 (by decide) (fun c124 => ?_) (fun c124 => ?_)
                · try simp only [if_neg c124] at hj124
                  refine at_iconst (pc := 131) X (0 : Int32) dX4_mark_131 ic_0 ?_
                  exact at_sub [] rfl hj124
                · try simp only [if_pos c124] at hj124
                  refine at_iconst (pc := 127) X (1 : Int32) dX4_mark_127 ic_1 ?_
                  refine at_goto (pc := 128) X 132 dX4_mark_128 (by decide) ?_
                  exact at_sub [] rfl hj124
          · have h := mm_neg c44_1 h
            by_cases c44_2 : x2 = 3
            · have h := mm_pos c44_2 h
              refine at_swIn (pc := 44) X 133 dX4_mark_44 (by rw [c44_2]; decide) (by rw [c44_2]; decide) (by rw [c44_2]; rfl) (by decide) ?_
              refine at_aload_n (pc := 133) X 0 1 dX4_mark_133 rfl rfl ?_
              refine at_iload_n (pc := 134) X 1 2 dX4_mark_134 rfl rfl ?_
              refine at_iconst (pc := 135) X (0 : Int32) dX4_mark_135 ic_0 ?_
              obtain ⟨q136, hq136, h⟩ := mm_bind h
              refine at_calli (n := 2) (pc := 136) X 4 [.int x1, .int (0 : Int32)] [] (mX4_wouldWait (eL E) X.wf ha0 hq136) gX4_mark_X4_wouldWait rfl ⟨rfl, rfl⟩ (by decide +kernel) ⟨by decide, by decide⟩ (by decide) rfl ha0 rfl rfl (Nat.le_of_ble_eq_true rfl) dX4_mark_136 ?_
              refine at_aload_n (pc := 139) X 0 1 dX4_mark_139 rfl rfl ?_
              refine at_iload_n (pc := 140) X 1 2 dX4_mark_140 rfl rfl ?_
              refine at_iconst (pc := 141) X (3 : Int32) dX4_mark_141 ic_3 ?_
              obtain ⟨q142, hq142, h⟩ := mm_bind h
              refine at_calli (n := 2) (pc := 142) X 4 [.int x1, .int (3 : Int32)] [.int q136.1] (mX4_wouldWait (eL E) X.wf ha0 hq142) gX4_mark_X4_wouldWait rfl ⟨rfl, rfl⟩ (by decide +kernel) ⟨by decide, by decide⟩ (by decide) rfl ha0 rfl rfl (Nat.le_of_ble_eq_true rfl) dX4_mark_142 ?_
              refine at_isub (pc := 145) X dX4_mark_145 ?_
              exact at_iret (pc := 146) X (Option.some.inj h) dX4_mark_146
            · have h := mm_neg c44_2 h
              by_cases c44_3 : x2 = 4
              · have h := mm_pos c44_3 h
                refine at_swIn (pc := 44) X 147 dX4_mark_44 (by rw [c44_3]; decide) (by rw [c44_3]; decide) (by rw [c44_3]; rfl) (by decide) ?_
                refine at_aload_n (pc := 147) X 0 1 dX4_mark_147 rfl rfl ?_
                refine at_iload_n (pc := 148) X 1 2 dX4_mark_148 rfl rfl ?_
                refine at_iconst (pc := 149) X (1 : Int32) dX4_mark_149 ic_1 ?_
                obtain ⟨q150, hq150, h⟩ := mm_bind h
                refine at_calli (n := 2) (pc := 150) X 4 [.int x1, .int (1 : Int32)] [] (mX4_wouldWait (eL E) X.wf ha0 hq150) gX4_mark_X4_wouldWait rfl ⟨rfl, rfl⟩ (by decide +kernel) ⟨by decide, by decide⟩ (by decide) rfl ha0 rfl rfl (Nat.le_of_ble_eq_true rfl) dX4_mark_150 ?_
                refine at_aload_n (pc := 153) X 0 1 dX4_mark_153 rfl rfl ?_
                refine at_iload_n (pc := 154) X 1 2 dX4_mark_154 rfl rfl ?_
                refine at_iconst (pc := 155) X (4 : Int32) dX4_mark_155 ic_4 ?_
                obtain ⟨q156, hq156, h⟩ := mm_bind h
                refine at_calli (n := 2) (pc := 156) X 4 [.int x1, .int (4 : Int32)] [.int q150.1] (mX4_wouldWait (eL E) X.wf ha0 hq156) gX4_mark_X4_wouldWait rfl ⟨rfl, rfl⟩ (by decide +kernel) ⟨by decide, by decide⟩ (by decide) rfl ha0 rfl rfl (Nat.le_of_ble_eq_true rfl) dX4_mark_156 ?_
                refine at_isub (pc := 159) X dX4_mark_159 ?_
                exact at_iret (pc := 160) X (Option.some.inj h) dX4_mark_160
              · have h := mm_neg c44_3 h
                refine at_swOut (pc := 44) X 161 dX4_mark_44 (sw_1_4 c44_0 c44_1 c44_2 c44_3) (by decide) ?_
                refine at_iconst (pc := 161) X (4 : Int32) dX4_mark_161 ic_4 ?_
                refine at_aload_n (pc := 162) X 0 1 dX4_mark_162 rfl rfl ?_
                refine at_get (pc := 163) X 4 5 (.ref (mm_R G a0 5)) ha0 (by decide) rfl inX4_mark_X4 (by decide) lkX4_mark_0 rfl dX4_mark_163 ?_
                refine at_bipush (pc := 166) X (25 : Int32) dX4_mark_166 ib_25 ?_
                refine at_iload_n (pc := 168) X 1 2 dX4_mark_168 rfl rfl ?_
                refine at_iadd (pc := 169) X dX4_mark_169 ?_
                obtain ⟨hc170, h⟩ := mm_chk h
                refine at_iald (pc := 170) X (wf_4_5 X.wf ha0) hc170 dX4_mark_170 ?_
                refine at_isub (pc := 171) X dX4_mark_171 ?_
                exact at_iret (pc := 172) X (Option.some.inj h) dX4_mark_172
      · have h := mm_pos c34 h
        refine at_aload_n (pc := 37) X 0 1 dX4_mark_37 rfl rfl ?_
        refine at_iconst (pc := 38) X (3 : Int32) dX4_mark_38 ic_3 ?_
        obtain ⟨q39, hq39, h⟩ := mm_bind h
        refine at_calli (n := 1) (pc := 39) X 4 [.int (3 : Int32)] [] (mX4_finds (eL E) X.wf ha0 hq39) gX4_mark_X4_finds rfl ⟨rfl, rfl⟩ (by decide +kernel) ⟨by decide, by decide⟩ (by decide) rfl ha0 rfl rfl (Nat.le_of_ble_eq_true rfl) dX4_mark_39 ?_
        exact at_iret (pc := 42) X (Option.some.inj h) dX4_mark_42
    · have h := mm_pos c14 h
      refine at_iconst (pc := 17) X (-1 : Int32) dX4_mark_17 ic_m1 ?_
      exact at_iret (pc := 18) X (Option.some.inj h) dX4_mark_18
set_option maxHeartbeats 4000000 in
set_option maxRecDepth 100000 in
theorem mX4_mark (l : Launch) {G : mm_G} (hwf : mm_WF G) {a0 : Nat} {x1 : Int32} {x2 : Int32} {σ : mm_M} {q : (Int32 × mm_M)} (ha0 : mm_Is G 4 a0) (h : fX4_mark G a0 x1 x2 σ = some q) : mm_Mi l yX4_mark wsX4_mark rmX4_mark G [.ref a0, .int x1, .int x2] σ q := by
  refine mm_ofi (cc := cX4_mark) (nL := 4) (ret := some .int) (own := RX4) (lv0 := [(0, .ref a0), (1, .int x1), (2, .int x2)]) (by decide) rfl rfl (Nat.le_of_ble_eq_true rfl) rfl hwf (fun E hE X => ?_)
  exact wX4_mark_b0 X ha0 h
theorem dX4_does_0 : decode cX4_does 0 = .ok (.iconst 0, 1) := by decide +kernel
theorem dX4_does_1 : decode cX4_does 1 = .ok (.istore_n 1, 1) := by decide +kernel
theorem dX4_does_2 : decode cX4_does 2 = .ok (.iload_n 1, 1) := by decide +kernel
theorem dX4_does_3 : decode cX4_does 3 = .ok (.bipush 32, 2) := by decide +kernel
theorem dX4_does_5 : decode cX4_does 5 = .ok (.if_icmp .ge 29, 3) := by decide +kernel
theorem dX4_does_8 : decode cX4_does 8 = .ok (.aload_n 0, 1) := by decide +kernel
theorem dX4_does_9 : decode cX4_does 9 = .ok (.getfield 38, 3) := by decide +kernel
theorem dX4_does_12 : decode cX4_does 12 = .ok (.bipush 32, 2) := by decide +kernel
theorem dX4_does_14 : decode cX4_does 14 = .ok (.aload_n 0, 1) := by decide +kernel
theorem dX4_does_15 : decode cX4_does 15 = .ok (.getfield 111, 3) := by decide +kernel
theorem dX4_does_18 : decode cX4_does 18 = .ok (.imul, 1) := by decide +kernel
theorem dX4_does_19 : decode cX4_does 19 = .ok (.iload_n 1, 1) := by decide +kernel
theorem dX4_does_20 : decode cX4_does 20 = .ok (.iadd, 1) := by decide +kernel
theorem dX4_does_21 : decode cX4_does 21 = .ok (.aload_n 0, 1) := by decide +kernel
theorem dX4_does_22 : decode cX4_does 22 = .ok (.getfield 26, 3) := by decide +kernel
theorem dX4_does_25 : decode cX4_does 25 = .ok (.iload_n 1, 1) := by decide +kernel
theorem dX4_does_26 : decode cX4_does 26 = .ok (.iaload, 1) := by decide +kernel
theorem dX4_does_27 : decode cX4_does 27 = .ok (.iastore, 1) := by decide +kernel
theorem dX4_does_28 : decode cX4_does 28 = .ok (.iinc 1 1, 3) := by decide +kernel
theorem dX4_does_31 : decode cX4_does 31 = .ok (.goto (-29), 3) := by decide +kernel
theorem dX4_does_34 : decode cX4_does 34 = .ok (.aload_n 0, 1) := by decide +kernel
theorem dX4_does_35 : decode cX4_does 35 = .ok (.dup, 1) := by decide +kernel
theorem dX4_does_36 : decode cX4_does 36 = .ok (.getfield 111, 3) := by decide +kernel
theorem dX4_does_39 : decode cX4_does 39 = .ok (.iconst 1, 1) := by decide +kernel
theorem dX4_does_40 : decode cX4_does 40 = .ok (.iadd, 1) := by decide +kernel
theorem dX4_does_41 : decode cX4_does 41 = .ok (.putfield 111, 3) := by decide +kernel
theorem dX4_does_44 : decode cX4_does 44 = .ok (.return_, 1) := by decide +kernel
/-! X4_does ()V -/
abbrev rmX4_does : Room := { frames := 0, cells := 0, slots := 0, locals := 0 }
theorem lkX4_does_0 : Cond.fieldLink RX4 111 (TX4 10).1 (TX4 10).2.1 (TX4 10).2.2.1 ∈ wsX4_does := by decide +kernel
theorem lkX4_does_1 : Cond.fieldLink RX4 38 (TX4 9).1 (TX4 9).2.1 (TX4 9).2.2.1 ∈ wsX4_does := by decide +kernel
theorem lkX4_does_2 : Cond.fieldLink RX4 26 (TX4 5).1 (TX4 5).2.1 (TX4 5).2.2.1 ∈ wsX4_does := by decide +kernel
theorem inX4_does_X4 : ∀ w ∈ u_ws RX4 TX4 22, w ∈ wsX4_does := by decide +kernel
noncomputable def fX4_does_b2 (G : mm_G) (a0 : Nat) (x1 : Int32) (σ : mm_M) : Option (mm_M ⊕ (Int32 × mm_M)) := if x1 < (32 : Int32) then (if x1 < 0 ∨ mm_N G (mm_R G a0 5) ≤ x1.toNatClampNeg then none else (if (((32 : Int32) * (σ.1 a0 10)) + x1) < 0 ∨ mm_N G (mm_R G a0 9) ≤ (((32 : Int32) * (σ.1 a0 10)) + x1).toNatClampNeg then none else (some (.inr (x1 + 1, mm_up σ (mm_R G a0 9) (((32 : Int32) * (σ.1 a0 10)) + x1).toNatClampNeg (σ.1 (mm_R G a0 5) x1.toNatClampNeg)))))) else (some (.inl (mm_up σ a0 10 ((σ.1 a0 10) + (1 : Int32)))))
noncomputable def fX4_does_b0 (G : mm_G) (a0 : Nat) (σ : mm_M) : Option (mm_M ⊕ (Int32 × mm_M)) := some (.inr ((0 : Int32), σ))
noncomputable def fX4_does_s (G : mm_G) (a0 : Nat) : (Int32 × mm_M) → Option (mm_M ⊕ (Int32 × mm_M)) := (fun s => fX4_does_b2 G a0 s.1 s.2)
def PX4_does (E : mm_E) (G : mm_G) (a0 : Nat) (q : mm_M) : (Int32 × mm_M) → Prop := (fun s => mm_At E G 2 (mm_Qv E G q) s.2 2 [(0, .ref a0), (1, .int s.1)] [])
noncomputable def fX4_does (G : mm_G) (a0 : Nat) (σ : mm_M) : Option mm_M := mm_run (fX4_does_b0 G a0 σ) (fX4_does_s G a0)
set_option maxHeartbeats 4000000 in
set_option maxRecDepth 100000 in
theorem wX4_does_b2 {E : mm_E} {G : mm_G} (X : mm_Cx E G cX4_does 2 RX4 wsX4_does rmX4_does (none)) {a0 : Nat} {x1 : Int32} {σ : mm_M} {q : mm_M} (ha0 : mm_Is G 4 a0) {o : mm_M ⊕ (Int32 × mm_M)} (h : fX4_does_b2 G a0 x1 σ = some o) (hk : mm_Ok q (PX4_does E G a0 q) o) : mm_At E G 2 (mm_Qv E G q) σ 2 [(0, .ref a0), (1, .int x1)] [] := by
  unfold fX4_does_b2 at h
  refine at_iload_n (pc := 2) X 1 1 dX4_does_2 rfl rfl ?_
  refine at_bipush (pc := 3) X (32 : Int32) dX4_does_3 ib_32 ?_
  refine at_icmp_ge (pc := 5) X 34 dX4_does_5 (by decide) (fun c5 => ?_) (fun c5 => ?_)
  · have h := mm_neg c5 h
    refine at_aload_n (pc := 34) X 0 0 dX4_does_34 rfl rfl ?_
    refine at_dup (pc := 35) X dX4_does_35 rfl ?_
    refine at_get (pc := 36) X 4 10 (.int (σ.1 a0 10)) ha0 (by decide) rfl inX4_does_X4 (by decide) lkX4_does_0 rfl dX4_does_36 ?_
    refine at_iconst (pc := 39) X (1 : Int32) dX4_does_39 ic_1 ?_
    refine at_iadd (pc := 40) X dX4_does_40 ?_
    refine at_put (pc := 41) X 4 10 ha0 (by decide) rfl inX4_does_X4 tyX4 tyX4_ok nmX4 (by decide) lkX4_does_0 rfl (ty := .int) rfl rfl rfl (Nat.le_of_ble_eq_true rfl) (ms_4_10 G _ _ _) mm_up_ne dX4_does_41 ?_
    exact at_vret (pc := 44) X (mm_inl h hk) dX4_does_44
  · have h := mm_pos c5 h
    refine at_aload_n (pc := 8) X 0 0 dX4_does_8 rfl rfl ?_
    refine at_get (pc := 9) X 4 9 (.ref (mm_R G a0 9)) ha0 (by decide) rfl inX4_does_X4 (by decide) lkX4_does_1 rfl dX4_does_9 ?_
    refine at_bipush (pc := 12) X (32 : Int32) dX4_does_12 ib_32 ?_
    refine at_aload_n (pc := 14) X 0 0 dX4_does_14 rfl rfl ?_
    refine at_get (pc := 15) X 4 10 (.int (σ.1 a0 10)) ha0 (by decide) rfl inX4_does_X4 (by decide) lkX4_does_0 rfl dX4_does_15 ?_
    refine at_imul (pc := 18) X dX4_does_18 ?_
    refine at_iload_n (pc := 19) X 1 1 dX4_does_19 rfl rfl ?_
    refine at_iadd (pc := 20) X dX4_does_20 ?_
    refine at_aload_n (pc := 21) X 0 0 dX4_does_21 rfl rfl ?_
    refine at_get (pc := 22) X 4 5 (.ref (mm_R G a0 5)) ha0 (by decide) rfl inX4_does_X4 (by decide) lkX4_does_2 rfl dX4_does_22 ?_
    refine at_iload_n (pc := 25) X 1 1 dX4_does_25 rfl rfl ?_
    obtain ⟨hc26, h⟩ := mm_chk h
    refine at_iald (pc := 26) X (wf_4_5 X.wf ha0) hc26 dX4_does_26 ?_
    obtain ⟨hc27, h⟩ := mm_chk h
    refine at_iast (pc := 27) X (wf_4_9 X.wf ha0) hc27 dX4_does_27 ?_
    refine at_iinc (pc := 28) X 1 1 (x1 + 1) [(1, .int (x1 + 1)), (0, .ref a0)] dX4_does_28 rfl (ii_1 _) (by decide) rfl ?_
    refine at_goto (pc := 31) X 2 dX4_does_31 (by decide) ?_
    have h2 := mm_inr h hk; exact at_sub [1, 0] rfl h2
set_option maxHeartbeats 4000000 in
set_option maxRecDepth 100000 in
theorem wX4_does_b0 {E : mm_E} {G : mm_G} (X : mm_Cx E G cX4_does 2 RX4 wsX4_does rmX4_does (none)) {a0 : Nat} {σ : mm_M} {q : mm_M} (ha0 : mm_Is G 4 a0) {o : mm_M ⊕ (Int32 × mm_M)} (h : fX4_does_b0 G a0 σ = some o) (hk : mm_Ok q (PX4_does E G a0 q) o) : mm_At E G 2 (mm_Qv E G q) σ 0 [(0, .ref a0)] [] := by
  unfold fX4_does_b0 at h
  refine at_iconst (pc := 0) X (0 : Int32) dX4_does_0 ic_0 ?_
  refine at_istore_n (pc := 1) X 1 [(1, .int (0 : Int32)), (0, .ref a0)] dX4_does_1 rfl (by decide) rfl ?_
  have h2 := mm_inr h hk; exact at_sub [1, 0] rfl h2
set_option maxHeartbeats 4000000 in
set_option maxRecDepth 100000 in
theorem mX4_does (l : Launch) {G : mm_G} (hwf : mm_WF G) {a0 : Nat} {σ : mm_M} {q : mm_M} (ha0 : mm_Is G 4 a0) (h : fX4_does G a0 σ = some q) : mm_Mv l yX4_does wsX4_does rmX4_does G [.ref a0] σ q := by
  refine mm_ofv (cc := cX4_does) (nL := 2) (ret := none) (own := RX4) (lv0 := [(0, .ref a0)]) (by decide) rfl rfl (Nat.le_of_ble_eq_true rfl) rfl hwf (fun E hE X => ?_)
  obtain ⟨o, h0, hk⟩ := mm_run_ok (P := PX4_does E G a0 q) h (fun s o hs hk => by exact wX4_does_b2 X ha0 hs hk)
  exact wX4_does_b0 X ha0 h0 hk
