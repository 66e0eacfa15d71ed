/-! X2_become X0_become X0_has X0_sets X0_kindOf X2_rest X0_readStation X0_read X2_isOf X2_wants -/
theorem dX2_become_0 : decode cX2_become 0 = .ok (.aload_n 0, 1) := by decide +kernel
theorem dX2_become_1 : decode cX2_become 1 = .ok (.aload_n 1, 1) := by decide +kernel
theorem dX2_become_2 : decode cX2_become 2 = .ok (.getfield 9, 3) := by decide +kernel
theorem dX2_become_5 : decode cX2_become 5 = .ok (.putfield 9, 3) := by decide +kernel
theorem dX2_become_8 : decode cX2_become 8 = .ok (.aload_n 0, 1) := by decide +kernel
theorem dX2_become_9 : decode cX2_become 9 = .ok (.aload_n 1, 1) := by decide +kernel
theorem dX2_become_10 : decode cX2_become 10 = .ok (.getfield 15, 3) := by decide +kernel
theorem dX2_become_13 : decode cX2_become 13 = .ok (.putfield 15, 3) := by decide +kernel
theorem dX2_become_16 : decode cX2_become 16 = .ok (.aload_n 0, 1) := by decide +kernel
theorem dX2_become_17 : decode cX2_become 17 = .ok (.aload_n 1, 1) := by decide +kernel
theorem dX2_become_18 : decode cX2_become 18 = .ok (.getfield 18, 3) := by decide +kernel
theorem dX2_become_21 : decode cX2_become 21 = .ok (.putfield 18, 3) := by decide +kernel
theorem dX2_become_24 : decode cX2_become 24 = .ok (.aload_n 0, 1) := by decide +kernel
theorem dX2_become_25 : decode cX2_become 25 = .ok (.aload_n 1, 1) := by decide +kernel
theorem dX2_become_26 : decode cX2_become 26 = .ok (.getfield 21, 3) := by decide +kernel
theorem dX2_become_29 : decode cX2_become 29 = .ok (.putfield 21, 3) := by decide +kernel
theorem dX2_become_32 : decode cX2_become 32 = .ok (.aload_n 0, 1) := by decide +kernel
theorem dX2_become_33 : decode cX2_become 33 = .ok (.aload_n 1, 1) := by decide +kernel
theorem dX2_become_34 : decode cX2_become 34 = .ok (.getfield 24, 3) := by decide +kernel
theorem dX2_become_37 : decode cX2_become 37 = .ok (.putfield 24, 3) := by decide +kernel
theorem dX2_become_40 : decode cX2_become 40 = .ok (.aload_n 0, 1) := by decide +kernel
theorem dX2_become_41 : decode cX2_become 41 = .ok (.aload_n 1, 1) := by decide +kernel
theorem dX2_become_42 : decode cX2_become 42 = .ok (.getfield 27, 3) := by decide +kernel
theorem dX2_become_45 : decode cX2_become 45 = .ok (.putfield 27, 3) := by decide +kernel
theorem dX2_become_48 : decode cX2_become 48 = .ok (.return_, 1) := by decide +kernel
/-! X2_become (LAirTalkers$Station;)V -/
abbrev rmX2_become : Room := { frames := 0, cells := 0, slots := 0, locals := 0 }
theorem lkX2_become_0 : Cond.fieldLink RX2 9 (TX2 0).1 (TX2 0).2.1 (TX2 0).2.2.1 ∈ wsX2_become := by decide +kernel
theorem lkX2_become_1 : Cond.fieldLink RX2 15 (TX2 1).1 (TX2 1).2.1 (TX2 1).2.2.1 ∈ wsX2_become := by decide +kernel
theorem lkX2_become_2 : Cond.fieldLink RX2 18 (TX2 2).1 (TX2 2).2.1 (TX2 2).2.2.1 ∈ wsX2_become := by decide +kernel
theorem lkX2_become_3 : Cond.fieldLink RX2 21 (TX2 3).1 (TX2 3).2.1 (TX2 3).2.2.1 ∈ wsX2_become := by decide +kernel
theorem lkX2_become_4 : Cond.fieldLink RX2 24 (TX2 4).1 (TX2 4).2.1 (TX2 4).2.2.1 ∈ wsX2_become := by decide +kernel
theorem lkX2_become_5 : Cond.fieldLink RX2 27 (TX2 5).1 (TX2 5).2.1 (TX2 5).2.2.1 ∈ wsX2_become := by decide +kernel
theorem inX2_become_X2 : ∀ w ∈ u_ws RX2 TX2 6, w ∈ wsX2_become := by decide +kernel
noncomputable def fX2_become (G : mm_G) (a0 : Nat) (a1 : Nat) (σ : mm_M) : Option mm_M := some (mm_up (mm_up (mm_up (mm_up (mm_up (mm_up σ a0 0 (σ.1 a1 0)) a0 1 ((mm_up σ a0 0 (σ.1 a1 0)).1 a1 1)) a0 2 ((mm_up (mm_up σ a0 0 (σ.1 a1 0)) a0 1 ((mm_up σ a0 0 (σ.1 a1 0)).1 a1 1)).1 a1 2)) a0 3 ((mm_up (mm_up (mm_up σ a0 0 (σ.1 a1 0)) a0 1 ((mm_up σ a0 0 (σ.1 a1 0)).1 a1 1)) a0 2 ((mm_up (mm_up σ a0 0 (σ.1 a1 0)) a0 1 ((mm_up σ a0 0 (σ.1 a1 0)).1 a1 1)).1 a1 2)).1 a1 3)) a0 4 ((mm_up (mm_up (mm_up (mm_up σ a0 0 (σ.1 a1 0)) a0 1 ((mm_up σ a0 0 (σ.1 a1 0)).1 a1 1)) a0 2 ((mm_up (mm_up σ a0 0 (σ.1 a1 0)) a0 1 ((mm_up σ a0 0 (σ.1 a1 0)).1 a1 1)).1 a1 2)) a0 3 ((mm_up (mm_up (mm_up σ a0 0 (σ.1 a1 0)) a0 1 ((mm_up σ a0 0 (σ.1 a1 0)).1 a1 1)) a0 2 ((mm_up (mm_up σ a0 0 (σ.1 a1 0)) a0 1 ((mm_up σ a0 0 (σ.1 a1 0)).1 a1 1)).1 a1 2)).1 a1 3)).1 a1 4)) a0 5 ((mm_up (mm_up (mm_up (mm_up (mm_up σ a0 0 (σ.1 a1 0)) a0 1 ((mm_up σ a0 0 (σ.1 a1 0)).1 a1 1)) a0 2 ((mm_up (mm_up σ a0 0 (σ.1 a1 0)) a0 1 ((mm_up σ a0 0 (σ.1 a1 0)).1 a1 1)).1 a1 2)) a0 3 ((mm_up (mm_up (mm_up σ a0 0 (σ.1 a1 0)) a0 1 ((mm_up σ a0 0 (σ.1 a1 0)).1 a1 1)) a0 2 ((mm_up (mm_up σ a0 0 (σ.1 a1 0)) a0 1 ((mm_up σ a0 0 (σ.1 a1 0)).1 a1 1)).1 a1 2)).1 a1 3)) a0 4 ((mm_up (mm_up (mm_up (mm_up σ a0 0 (σ.1 a1 0)) a0 1 ((mm_up σ a0 0 (σ.1 a1 0)).1 a1 1)) a0 2 ((mm_up (mm_up σ a0 0 (σ.1 a1 0)) a0 1 ((mm_up σ a0 0 (σ.1 a1 0)).1 a1 1)).1 a1 2)) a0 3 ((mm_up (mm_up (mm_up σ a0 0 (σ.1 a1 0)) a0 1 ((mm_up σ a0 0 (σ.1 a1 0)).1 a1 1)) a0 2 ((mm_up (mm_up σ a0 0 (σ.1 a1 0)) a0 1 ((mm_up σ a0 0 (σ.1 a1 0)).1 a1 1)).1 a1 2)).1 a1 3)).1 a1 4)).1 a1 5))
set_option maxHeartbeats 4000000 in
set_option maxRecDepth 100000 in
theorem wX2_become_b0 {E : mm_E} {G : mm_G} (X : mm_Cx E G cX2_become 2 RX2 wsX2_become rmX2_become (none)) {a0 : Nat} {a1 : Nat} {σ : mm_M} {q : mm_M} (ha0 : mm_Is G 2 a0) (ha1 : mm_Is G 2 a1) (h : fX2_become G a0 a1 σ = some q) : mm_At E G 2 (mm_Qv E G q) σ 0 [(0, .ref a0), (1, .ref a1)] [] := by
  unfold fX2_become at h
  refine at_aload_n (pc := 0) X 0 0 dX2_become_0 rfl rfl ?_
  refine at_aload_n (pc := 1) X 1 1 dX2_become_1 rfl rfl ?_
  refine at_get (pc := 2) X 2 0 (.int (σ.1 a1 0)) ha1 (by decide) rfl inX2_become_X2 (by decide) lkX2_become_0 rfl dX2_become_2 ?_
  refine at_put (pc := 5) X 2 0 ha0 (by decide) rfl inX2_become_X2 tyX2 tyX2_ok nmX2 (by decide) lkX2_become_0 rfl (ty := .int) rfl rfl rfl (Nat.le_of_ble_eq_true rfl) (ms_2_0 G _ _ _) mm_up_ne dX2_become_5 ?_
  refine at_aload_n (pc := 8) X 0 0 dX2_become_8 rfl rfl ?_
  refine at_aload_n (pc := 9) X 1 1 dX2_become_9 rfl rfl ?_
  refine at_get (pc := 10) X 2 1 (.int ((mm_up σ a0 0 (σ.1 a1 0)).1 a1 1)) ha1 (by decide) rfl inX2_become_X2 (by decide) lkX2_become_1 rfl dX2_become_10 ?_
  refine at_put (pc := 13) X 2 1 ha0 (by decide) rfl inX2_become_X2 tyX2 tyX2_ok nmX2 (by decide) lkX2_become_1 rfl (ty := .int) rfl rfl rfl (Nat.le_of_ble_eq_true rfl) (ms_2_1 G _ _ _) mm_up_ne dX2_become_13 ?_
  refine at_aload_n (pc := 16) X 0 0 dX2_become_16 rfl rfl ?_
  refine at_aload_n (pc := 17) X 1 1 dX2_become_17 rfl rfl ?_
  refine at_get (pc := 18) X 2 2 (.int ((mm_up (mm_up σ a0 0 (σ.1 a1 0)) a0 1 ((mm_up σ a0 0 (σ.1 a1 0)).1 a1 1)).1 a1 2)) ha1 (by decide) rfl inX2_become_X2 (by decide) lkX2_become_2 rfl dX2_become_18 ?_
  refine at_put (pc := 21) X 2 2 ha0 (by decide) rfl inX2_become_X2 tyX2 tyX2_ok nmX2 (by decide) lkX2_become_2 rfl (ty := .int) rfl rfl rfl (Nat.le_of_ble_eq_true rfl) (ms_2_2 G _ _ _) mm_up_ne dX2_become_21 ?_
  refine at_aload_n (pc := 24) X 0 0 dX2_become_24 rfl rfl ?_
  refine at_aload_n (pc := 25) X 1 1 dX2_become_25 rfl rfl ?_
  refine at_get (pc := 26) X 2 3 (.int ((mm_up (mm_up (mm_up σ a0 0 (σ.1 a1 0)) a0 1 ((mm_up σ a0 0 (σ.1 a1 0)).1 a1 1)) a0 2 ((mm_up (mm_up σ a0 0 (σ.1 a1 0)) a0 1 ((mm_up σ a0 0 (σ.1 a1 0)).1 a1 1)).1 a1 2)).1 a1 3)) ha1 (by decide) rfl inX2_become_X2 (by decide) lkX2_become_3 rfl dX2_become_26 ?_
  refine at_put (pc := 29) X 2 3 ha0 (by decide) rfl inX2_become_X2 tyX2 tyX2_ok nmX2 (by decide) lkX2_become_3 rfl (ty := .int) rfl rfl rfl (Nat.le_of_ble_eq_true rfl) (ms_2_3 G _ _ _) mm_up_ne dX2_become_29 ?_
  refine at_aload_n (pc := 32) X 0 0 dX2_become_32 rfl rfl ?_
  refine at_aload_n (pc := 33) X 1 1 dX2_become_33 rfl rfl ?_
  refine at_get (pc := 34) X 2 4 (.int ((mm_up (mm_up (mm_up (mm_up σ a0 0 (σ.1 a1 0)) a0 1 ((mm_up σ a0 0 (σ.1 a1 0)).1 a1 1)) a0 2 ((mm_up (mm_up σ a0 0 (σ.1 a1 0)) a0 1 ((mm_up σ a0 0 (σ.1 a1 0)).1 a1 1)).1 a1 2)) a0 3 ((mm_up (mm_up (mm_up σ a0 0 (σ.1 a1 0)) a0 1 ((mm_up σ a0 0 (σ.1 a1 0)).1 a1 1)) a0 2 ((mm_up (mm_up σ a0 0 (σ.1 a1 0)) a0 1 ((mm_up σ a0 0 (σ.1 a1 0)).1 a1 1)).1 a1 2)).1 a1 3)).1 a1 4)) ha1 (by decide) rfl inX2_become_X2 (by decide) lkX2_become_4 rfl dX2_become_34 ?_
  refine at_put (pc := 37) X 2 4 ha0 (by decide) rfl inX2_become_X2 tyX2 tyX2_ok nmX2 (by decide) lkX2_become_4 rfl (ty := .int) rfl rfl rfl (Nat.le_of_ble_eq_true rfl) (ms_2_4 G _ _ _) mm_up_ne dX2_become_37 ?_
  refine at_aload_n (pc := 40) X 0 0 dX2_become_40 rfl rfl ?_
  refine at_aload_n (pc := 41) X 1 1 dX2_become_41 rfl rfl ?_
  refine at_get (pc := 42) X 2 5 (.int ((mm_up (mm_up (mm_up (mm_up (mm_up σ a0 0 (σ.1 a1 0)) a0 1 ((mm_up σ a0 0 (σ.1 a1 0)).1 a1 1)) a0 2 ((mm_up (mm_up σ a0 0 (σ.1 a1 0)) a0 1 ((mm_up σ a0 0 (σ.1 a1 0)).1 a1 1)).1 a1 2)) a0 3 ((mm_up (mm_up (mm_up σ a0 0 (σ.1 a1 0)) a0 1 ((mm_up σ a0 0 (σ.1 a1 0)).1 a1 1)) a0 2 ((mm_up (mm_up σ a0 0 (σ.1 a1 0)) a0 1 ((mm_up σ a0 0 (σ.1 a1 0)).1 a1 1)).1 a1 2)).1 a1 3)) a0 4 ((mm_up (mm_up (mm_up (mm_up σ a0 0 (σ.1 a1 0)) a0 1 ((mm_up σ a0 0 (σ.1 a1 0)).1 a1 1)) a0 2 ((mm_up (mm_up σ a0 0 (σ.1 a1 0)) a0 1 ((mm_up σ a0 0 (σ.1 a1 0)).1 a1 1)).1 a1 2)) a0 3 ((mm_up (mm_up (mm_up σ a0 0 (σ.1 a1 0)) a0 1 ((mm_up σ a0 0 (σ.1 a1 0)).1 a1 1)) a0 2 ((mm_up (mm_up σ a0 0 (σ.1 a1 0)) a0 1 ((mm_up σ a0 0 (σ.1 a1 0)).1 a1 1)).1 a1 2)).1 a1 3)).1 a1 4)).1 a1 5)) ha1 (by decide) rfl inX2_become_X2 (by decide) lkX2_become_5 rfl dX2_become_42 ?_
  refine at_put (pc := 45) X 2 5 ha0 (by decide) rfl inX2_become_X2 tyX2 tyX2_ok nmX2 (by decide) lkX2_become_5 rfl (ty := .int) rfl rfl rfl (Nat.le_of_ble_eq_true rfl) (ms_2_5 G _ _ _) mm_up_ne dX2_become_45 ?_
  exact at_vret (pc := 48) X (Option.some.inj h) dX2_become_48
set_option maxHeartbeats 4000000 in
set_option maxRecDepth 100000 in
theorem mX2_become (l : Launch) {G : mm_G} (hwf : mm_WF G) {a0 : Nat} {a1 : Nat} {σ : mm_M} {q : mm_M} (ha0 : mm_Is G 2 a0) (ha1 : mm_Is G 2 a1) (h : fX2_become G a0 a1 σ = some q) : mm_Mv l yX2_become wsX2_become rmX2_become G [.ref a0, .ref a1] σ q := by
  refine mm_ofv (cc := cX2_become) (nL := 2) (ret := none) (own := RX2) (lv0 := [(0, .ref a0), (1, .ref a1)]) (by decide) rfl rfl (Nat.le_of_ble_eq_true rfl) rfl hwf (fun E hE X => ?_)
  exact wX2_become_b0 X ha0 ha1 h
set_option maxRecDepth 20000 in
theorem ggX0_become_X2_become : GoodIn wsX0_become wsX2_become := goodIn_r _ [11, 12, 13, 14, 15, 16, 17, 24, 25, 26, 27, 28, 29] (by decide +kernel) (by decide +kernel)
set_option maxRecDepth 20000 in
theorem gX0_become_X2_become : GoodIn wsX0_become (wsV RX0 35 RX2 yX2_become wsX2_become) := goodIn_app (goodIn_of _ (by decide +kernel)) ggX0_become_X2_become
theorem dX0_become_0 : decode cX0_become 0 = .ok (.aload_n 0, 1) := by decide +kernel
theorem dX0_become_1 : decode cX0_become 1 = .ok (.aload_n 1, 1) := by decide +kernel
theorem dX0_become_2 : decode cX0_become 2 = .ok (.getfield 17, 3) := by decide +kernel
theorem dX0_become_5 : decode cX0_become 5 = .ok (.putfield 17, 3) := by decide +kernel
theorem dX0_become_8 : decode cX0_become 8 = .ok (.aload_n 0, 1) := by decide +kernel
theorem dX0_become_9 : decode cX0_become 9 = .ok (.aload_n 1, 1) := by decide +kernel
theorem dX0_become_10 : decode cX0_become 10 = .ok (.getfield 21, 3) := by decide +kernel
theorem dX0_become_13 : decode cX0_become 13 = .ok (.putfield 21, 3) := by decide +kernel
theorem dX0_become_16 : decode cX0_become 16 = .ok (.aload_n 0, 1) := by decide +kernel
theorem dX0_become_17 : decode cX0_become 17 = .ok (.aload_n 1, 1) := by decide +kernel
theorem dX0_become_18 : decode cX0_become 18 = .ok (.getfield 24, 3) := by decide +kernel
theorem dX0_become_21 : decode cX0_become 21 = .ok (.putfield 24, 3) := by decide +kernel
theorem dX0_become_24 : decode cX0_become 24 = .ok (.aload_n 0, 1) := by decide +kernel
theorem dX0_become_25 : decode cX0_become 25 = .ok (.aload_n 1, 1) := by decide +kernel
theorem dX0_become_26 : decode cX0_become 26 = .ok (.getfield 27, 3) := by decide +kernel
theorem dX0_become_29 : decode cX0_become 29 = .ok (.putfield 27, 3) := by decide +kernel
theorem dX0_become_32 : decode cX0_become 32 = .ok (.aload_n 0, 1) := by decide +kernel
theorem dX0_become_33 : decode cX0_become 33 = .ok (.aload_n 1, 1) := by decide +kernel
theorem dX0_become_34 : decode cX0_become 34 = .ok (.getfield 30, 3) := by decide +kernel
theorem dX0_become_37 : decode cX0_become 37 = .ok (.putfield 30, 3) := by decide +kernel
theorem dX0_become_40 : decode cX0_become 40 = .ok (.iconst 0, 1) := by decide +kernel
theorem dX0_become_41 : decode cX0_become 41 = .ok (.istore_n 2, 1) := by decide +kernel
theorem dX0_become_42 : decode cX0_become 42 = .ok (.iload_n 2, 1) := by decide +kernel
theorem dX0_become_43 : decode cX0_become 43 = .ok (.aload_n 0, 1) := by decide +kernel
theorem dX0_become_44 : decode cX0_become 44 = .ok (.getfield 17, 3) := by decide +kernel
theorem dX0_become_47 : decode cX0_become 47 = .ok (.if_icmp .ge 24, 3) := by decide +kernel
theorem dX0_become_50 : decode cX0_become 50 = .ok (.aload_n 0, 1) := by decide +kernel
theorem dX0_become_51 : decode cX0_become 51 = .ok (.getfield 11, 3) := by decide +kernel
theorem dX0_become_54 : decode cX0_become 54 = .ok (.iload_n 2, 1) := by decide +kernel
theorem dX0_become_55 : decode cX0_become 55 = .ok (.aaload, 1) := by decide +kernel
theorem dX0_become_56 : decode cX0_become 56 = .ok (.aload_n 1, 1) := by decide +kernel
theorem dX0_become_57 : decode cX0_become 57 = .ok (.getfield 11, 3) := by decide +kernel
theorem dX0_become_60 : decode cX0_become 60 = .ok (.iload_n 2, 1) := by decide +kernel
theorem dX0_become_61 : decode cX0_become 61 = .ok (.aaload, 1) := by decide +kernel
theorem dX0_become_62 : decode cX0_become 62 = .ok (.invokevirtual 35, 3) := by decide +kernel
theorem dX0_become_65 : decode cX0_become 65 = .ok (.iinc 2 1, 3) := by decide +kernel
theorem dX0_become_68 : decode cX0_become 68 = .ok (.goto (-26), 3) := by decide +kernel
theorem dX0_become_71 : decode cX0_become 71 = .ok (.return_, 1) := by decide +kernel
/-! X0_become (LAirTalkers$Air;)V -/
abbrev rmX0_become : Room := { frames := 1, cells := 0, slots := 0, locals := 21 }
theorem lkX0_become_0 : Cond.fieldLink RX0 17 (TX0 1).1 (TX0 1).2.1 (TX0 1).2.2.1 ∈ wsX0_become := by decide +kernel
theorem lkX0_become_1 : Cond.fieldLink RX0 21 (TX0 2).1 (TX0 2).2.1 (TX0 2).2.2.1 ∈ wsX0_become := by decide +kernel
theorem lkX0_become_2 : Cond.fieldLink RX0 24 (TX0 3).1 (TX0 3).2.1 (TX0 3).2.2.1 ∈ wsX0_become := by decide +kernel
theorem lkX0_become_3 : Cond.fieldLink RX0 27 (TX0 4).1 (TX0 4).2.1 (TX0 4).2.2.1 ∈ wsX0_become := by decide +kernel
theorem lkX0_become_4 : Cond.fieldLink RX0 30 (TX0 5).1 (TX0 5).2.1 (TX0 5).2.2.1 ∈ wsX0_become := by decide +kernel
theorem lkX0_become_5 : Cond.fieldLink RX0 11 (TX0 0).1 (TX0 0).2.1 (TX0 0).2.2.1 ∈ wsX0_become := by decide +kernel
theorem inX0_become_X0 : ∀ w ∈ u_ws RX0 TX0 6, w ∈ wsX0_become := by decide +kernel
noncomputable def fX0_become_b42 (G : mm_G) (a0 : Nat) (a1 : Nat) (x2 : Int32) (σ : mm_M) : Option (mm_M ⊕ (Int32 × mm_M)) := if x2 < (σ.1 a0 1) then (if x2 < 0 ∨ mm_N G (mm_R G a0 0) ≤ x2.toNatClampNeg then none else (if x2 < 0 ∨ mm_N G (mm_R G a1 0) ≤ x2.toNatClampNeg then none else ((fX2_become G (mm_R G (mm_R G a0 0) x2.toNatClampNeg) (mm_R G (mm_R G a1 0) x2.toNatClampNeg) σ).bind (fun q62 => some (.inr (x2 + 1, q62)))))) else (some (.inl σ))
noncomputable def fX0_become_b0 (G : mm_G) (a0 : Nat) (a1 : Nat) (σ : mm_M) : Option (mm_M ⊕ (Int32 × mm_M)) := if ¬ (((mm_up (mm_up (mm_up (mm_up σ a0 1 (σ.1 a1 1)) a0 2 ((mm_up σ a0 1 (σ.1 a1 1)).1 a1 2)) a0 3 ((mm_up (mm_up σ a0 1 (σ.1 a1 1)) a0 2 ((mm_up σ a0 1 (σ.1 a1 1)).1 a1 2)).1 a1 3)) a0 4 ((mm_up (mm_up (mm_up σ a0 1 (σ.1 a1 1)) a0 2 ((mm_up σ a0 1 (σ.1 a1 1)).1 a1 2)) a0 3 ((mm_up (mm_up σ a0 1 (σ.1 a1 1)) a0 2 ((mm_up σ a0 1 (σ.1 a1 1)).1 a1 2)).1 a1 3)).1 a1 4)).1 a1 5) = 0 ∨ ((mm_up (mm_up (mm_up (mm_up σ a0 1 (σ.1 a1 1)) a0 2 ((mm_up σ a0 1 (σ.1 a1 1)).1 a1 2)) a0 3 ((mm_up (mm_up σ a0 1 (σ.1 a1 1)) a0 2 ((mm_up σ a0 1 (σ.1 a1 1)).1 a1 2)).1 a1 3)) a0 4 ((mm_up (mm_up (mm_up σ a0 1 (σ.1 a1 1)) a0 2 ((mm_up σ a0 1 (σ.1 a1 1)).1 a1 2)) a0 3 ((mm_up (mm_up σ a0 1 (σ.1 a1 1)) a0 2 ((mm_up σ a0 1 (σ.1 a1 1)).1 a1 2)).1 a1 3)).1 a1 4)).1 a1 5) = 1) then none else (some (.inr ((0 : Int32), mm_up (mm_up (mm_up (mm_up (mm_up σ a0 1 (σ.1 a1 1)) a0 2 ((mm_up σ a0 1 (σ.1 a1 1)).1 a1 2)) a0 3 ((mm_up (mm_up σ a0 1 (σ.1 a1 1)) a0 2 ((mm_up σ a0 1 (σ.1 a1 1)).1 a1 2)).1 a1 3)) a0 4 ((mm_up (mm_up (mm_up σ a0 1 (σ.1 a1 1)) a0 2 ((mm_up σ a0 1 (σ.1 a1 1)).1 a1 2)) a0 3 ((mm_up (mm_up σ a0 1 (σ.1 a1 1)) a0 2 ((mm_up σ a0 1 (σ.1 a1 1)).1 a1 2)).1 a1 3)).1 a1 4)) a0 5 ((mm_up (mm_up (mm_up (mm_up σ a0 1 (σ.1 a1 1)) a0 2 ((mm_up σ a0 1 (σ.1 a1 1)).1 a1 2)) a0 3 ((mm_up (mm_up σ a0 1 (σ.1 a1 1)) a0 2 ((mm_up σ a0 1 (σ.1 a1 1)).1 a1 2)).1 a1 3)) a0 4 ((mm_up (mm_up (mm_up σ a0 1 (σ.1 a1 1)) a0 2 ((mm_up σ a0 1 (σ.1 a1 1)).1 a1 2)) a0 3 ((mm_up (mm_up σ a0 1 (σ.1 a1 1)) a0 2 ((mm_up σ a0 1 (σ.1 a1 1)).1 a1 2)).1 a1 3)).1 a1 4)).1 a1 5))))
noncomputable def fX0_become_s (G : mm_G) (a0 : Nat) (a1 : Nat) : (Int32 × mm_M) → Option (mm_M ⊕ (Int32 × mm_M)) := (fun s => fX0_become_b42 G a0 a1 s.1 s.2)
def PX0_become (E : mm_E) (G : mm_G) (a0 : Nat) (a1 : Nat) (q : mm_M) : (Int32 × mm_M) → Prop := (fun s => mm_At E G 3 (mm_Qv E G q) s.2 42 [(0, .ref a0), (1, .ref a1), (2, .int s.1)] [])
noncomputable def fX0_become (G : mm_G) (a0 : Nat) (a1 : Nat) (σ : mm_M) : Option mm_M := mm_run (fX0_become_b0 G a0 a1 σ) (fX0_become_s G a0 a1)
set_option maxHeartbeats 4000000 in
set_option maxRecDepth 100000 in
theorem wX0_become_b42 {E : mm_E} {G : mm_G} (X : mm_Cx E G cX0_become 3 RX0 wsX0_become rmX0_become (none)) {a0 : Nat} {a1 : Nat} {x2 : Int32} {σ : mm_M} {q : mm_M} (ha0 : mm_Is G 0 a0) (ha1 : mm_Is G 0 a1) {o : mm_M ⊕ (Int32 × mm_M)} (h : fX0_become_b42 G a0 a1 x2 σ = some o) (hk : mm_Ok q (PX0_become E G a0 a1 q) o) : mm_At E G 3 (mm_Qv E G q) σ 42 [(0, .ref a0), (1, .ref a1), (2, .int x2)] [] := by
  unfold fX0_become_b42 at h
  refine at_iload_n (pc := 42) X 2 2 dX0_become_42 rfl rfl ?_
  refine at_aload_n (pc := 43) X 0 0 dX0_become_43 rfl rfl ?_
  refine at_get (pc := 44) X 0 1 (.int (σ.1 a0 1)) ha0 (by decide) rfl inX0_become_X0 (by decide) lkX0_become_0 rfl dX0_become_44 ?_
  refine at_icmp_ge (pc := 47) X 71 dX0_become_47 (by decide) (fun c47 => ?_) (fun c47 => ?_)
  · have h := mm_neg c47 h
    exact at_vret (pc := 71) X (mm_inl h hk) dX0_become_71
  · have h := mm_pos c47 h
    refine at_aload_n (pc := 50) X 0 0 dX0_become_50 rfl rfl ?_
    refine at_get (pc := 51) X 0 0 (.ref (mm_R G a0 0)) ha0 (by decide) rfl inX0_become_X0 (by decide) lkX0_become_5 rfl dX0_become_51 ?_
    refine at_iload_n (pc := 54) X 2 2 dX0_become_54 rfl rfl ?_
    obtain ⟨hc55, h⟩ := mm_chk h
    refine at_aald (pc := 55) X 8 3 (wf_0_0 X.wf ha0) (by decide) (by decide) rfl rfl hc55 dX0_become_55 ?_
    refine at_aload_n (pc := 56) X 1 1 dX0_become_56 rfl rfl ?_
    refine at_get (pc := 57) X 0 0 (.ref (mm_R G a1 0)) ha1 (by decide) rfl inX0_become_X0 (by decide) lkX0_become_5 rfl dX0_become_57 ?_
    refine at_iload_n (pc := 60) X 2 2 dX0_become_60 rfl rfl ?_
    obtain ⟨hc61, h⟩ := mm_chk h
    refine at_aald (pc := 61) X 8 3 (wf_0_0 X.wf ha1) (by decide) (by decide) rfl rfl hc61 dX0_become_61 ?_
    obtain ⟨q62, hq62, h⟩ := mm_bind h
    refine at_callv (n := 1) (pc := 62) X 2 [.ref (mm_R G (mm_R G a1 0) x2.toNatClampNeg)] [] (mX2_become (eL E) X.wf (wf_8 X.wf (wf_0_0 X.wf ha0) hc55) (wf_8 X.wf (wf_0_0 X.wf ha1) hc61) hq62) gX0_become_X2_become rfl ⟨rfl, rfl⟩ (by decide +kernel) ⟨by decide, by decide⟩ (by decide) rfl (wf_8 X.wf (wf_0_0 X.wf ha0) hc55) rfl rfl (Nat.le_of_ble_eq_true rfl) dX0_become_62 ?_
    refine at_iinc (pc := 65) X 2 2 (x2 + 1) [(2, .int (x2 + 1)), (0, .ref a0), (1, .ref a1)] dX0_become_65 rfl (ii_1 _) (by decide) rfl ?_
    refine at_goto (pc := 68) X 42 dX0_become_68 (by decide) ?_
    have h2 := mm_inr h hk; exact at_sub [1, 2, 0] rfl h2
set_option maxHeartbeats 4000000 in
set_option maxRecDepth 100000 in
theorem wX0_become_b0 {E : mm_E} {G : mm_G} (X : mm_Cx E G cX0_become 3 RX0 wsX0_become rmX0_become (none)) {a0 : Nat} {a1 : Nat} {σ : mm_M} {q : mm_M} (ha0 : mm_Is G 0 a0) (ha1 : mm_Is G 0 a1) {o : mm_M ⊕ (Int32 × mm_M)} (h : fX0_become_b0 G a0 a1 σ = some o) (hk : mm_Ok q (PX0_become E G a0 a1 q) o) : mm_At E G 3 (mm_Qv E G q) σ 0 [(0, .ref a0), (1, .ref a1)] [] := by
  unfold fX0_become_b0 at h
  refine at_aload_n (pc := 0) X 0 0 dX0_become_0 rfl rfl ?_
  refine at_aload_n (pc := 1) X 1 1 dX0_become_1 rfl rfl ?_
  refine at_get (pc := 2) X 0 1 (.int (σ.1 a1 1)) ha1 (by decide) rfl inX0_become_X0 (by decide) lkX0_become_0 rfl dX0_become_2 ?_
  refine at_put (pc := 5) X 0 1 ha0 (by decide) rfl inX0_become_X0 tyX0 tyX0_ok nmX0 (by decide) lkX0_become_0 rfl (ty := .int) rfl rfl rfl (Nat.le_of_ble_eq_true rfl) (ms_0_1 G _ _ _) mm_up_ne dX0_become_5 ?_
  refine at_aload_n (pc := 8) X 0 0 dX0_become_8 rfl rfl ?_
  refine at_aload_n (pc := 9) X 1 1 dX0_become_9 rfl rfl ?_
  refine at_get (pc := 10) X 0 2 (.int ((mm_up σ a0 1 (σ.1 a1 1)).1 a1 2)) ha1 (by decide) rfl inX0_become_X0 (by decide) lkX0_become_1 rfl dX0_become_10 ?_
  refine at_put (pc := 13) X 0 2 ha0 (by decide) rfl inX0_become_X0 tyX0 tyX0_ok nmX0 (by decide) lkX0_become_1 rfl (ty := .int) rfl rfl rfl (Nat.le_of_ble_eq_true rfl) (ms_0_2 G _ _ _) mm_up_ne dX0_become_13 ?_
  refine at_aload_n (pc := 16) X 0 0 dX0_become_16 rfl rfl ?_
  refine at_aload_n (pc := 17) X 1 1 dX0_become_17 rfl rfl ?_
  refine at_get (pc := 18) X 0 3 (.int ((mm_up (mm_up σ a0 1 (σ.1 a1 1)) a0 2 ((mm_up σ a0 1 (σ.1 a1 1)).1 a1 2)).1 a1 3)) ha1 (by decide) rfl inX0_become_X0 (by decide) lkX0_become_2 rfl dX0_become_18 ?_
  refine at_put (pc := 21) X 0 3 ha0 (by decide) rfl inX0_become_X0 tyX0 tyX0_ok nmX0 (by decide) lkX0_become_2 rfl (ty := .int) rfl rfl rfl (Nat.le_of_ble_eq_true rfl) (ms_0_3 G _ _ _) mm_up_ne dX0_become_21 ?_
  refine at_aload_n (pc := 24) X 0 0 dX0_become_24 rfl rfl ?_
  refine at_aload_n (pc := 25) X 1 1 dX0_become_25 rfl rfl ?_
  refine at_get (pc := 26) X 0 4 (.int ((mm_up (mm_up (mm_up σ a0 1 (σ.1 a1 1)) a0 2 ((mm_up σ a0 1 (σ.1 a1 1)).1 a1 2)) a0 3 ((mm_up (mm_up σ a0 1 (σ.1 a1 1)) a0 2 ((mm_up σ a0 1 (σ.1 a1 1)).1 a1 2)).1 a1 3)).1 a1 4)) ha1 (by decide) rfl inX0_become_X0 (by decide) lkX0_become_3 rfl dX0_become_26 ?_
  refine at_put (pc := 29) X 0 4 ha0 (by decide) rfl inX0_become_X0 tyX0 tyX0_ok nmX0 (by decide) lkX0_become_3 rfl (ty := .int) rfl rfl rfl (Nat.le_of_ble_eq_true rfl) (ms_0_4 G _ _ _) mm_up_ne dX0_become_29 ?_
  refine at_aload_n (pc := 32) X 0 0 dX0_become_32 rfl rfl ?_
  refine at_aload_n (pc := 33) X 1 1 dX0_become_33 rfl rfl ?_
  refine at_get (pc := 34) X 0 5 (.int ((mm_up (mm_up (mm_up (mm_up σ a0 1 (σ.1 a1 1)) a0 2 ((mm_up σ a0 1 (σ.1 a1 1)).1 a1 2)) a0 3 ((mm_up (mm_up σ a0 1 (σ.1 a1 1)) a0 2 ((mm_up σ a0 1 (σ.1 a1 1)).1 a1 2)).1 a1 3)) a0 4 ((mm_up (mm_up (mm_up σ a0 1 (σ.1 a1 1)) a0 2 ((mm_up σ a0 1 (σ.1 a1 1)).1 a1 2)) a0 3 ((mm_up (mm_up σ a0 1 (σ.1 a1 1)) a0 2 ((mm_up σ a0 1 (σ.1 a1 1)).1 a1 2)).1 a1 3)).1 a1 4)).1 a1 5)) ha1 (by decide) rfl inX0_become_X0 (by decide) lkX0_become_4 rfl dX0_become_34 ?_
  obtain ⟨hg37, h⟩ := mm_chk h
  have hc37 := Classical.not_not.mp hg37
  refine at_put (pc := 37) X 0 5 ha0 (by decide) rfl inX0_become_X0 tyX0 tyX0_ok nmX0 (by decide) lkX0_become_4 rfl (ty := .boolean) rfl (mm_z01 hc37) (mm_f01 hc37) (Nat.le_of_ble_eq_true rfl) (ms_0_5 G _ _ _) mm_up_ne dX0_become_37 ?_
  refine at_iconst (pc := 40) X (0 : Int32) dX0_become_40 ic_0 ?_
  refine at_istore_n (pc := 41) X 2 [(2, .int (0 : Int32)), (0, .ref a0), (1, .ref a1)] dX0_become_41 rfl (by decide) rfl ?_
  have h2 := mm_inr h hk; exact at_sub [1, 2, 0] rfl h2
set_option maxHeartbeats 4000000 in
set_option maxRecDepth 100000 in
theorem mX0_become (l : Launch) {G : mm_G} (hwf : mm_WF G) {a0 : Nat} {a1 : Nat} {σ : mm_M} {q : mm_M} (ha0 : mm_Is G 0 a0) (ha1 : mm_Is G 0 a1) (h : fX0_become G a0 a1 σ = some q) : mm_Mv l yX0_become wsX0_become rmX0_become G [.ref a0, .ref a1] σ q := by
  refine mm_ofv (cc := cX0_become) (nL := 3) (ret := none) (own := RX0) (lv0 := [(0, .ref a0), (1, .ref a1)]) (by decide) rfl rfl (Nat.le_of_ble_eq_true rfl) rfl hwf (fun E hE X => ?_)
  obtain ⟨o, h0, hk⟩ := mm_run_ok (P := PX0_become E G a0 a1 q) h (fun s o hs hk => by exact wX0_become_b42 X ha0 ha1 hs hk)
  exact wX0_become_b0 X ha0 ha1 h0 hk
theorem dX0_has_0 : decode cX0_has 0 = .ok (.iload_n 1, 1) := by decide +kernel
theorem dX0_has_1 : decode cX0_has 1 = .ok (.ifCond .lt 15, 3) := by decide +kernel
theorem dX0_has_4 : decode cX0_has 4 = .ok (.iload_n 1, 1) := by decide +kernel
theorem dX0_has_5 : decode cX0_has 5 = .ok (.aload_n 0, 1) := by decide +kernel
theorem dX0_has_6 : decode cX0_has 6 = .ok (.getfield 17, 3) := by decide +kernel
theorem dX0_has_9 : decode cX0_has 9 = .ok (.if_icmp .ge 7, 3) := by decide +kernel
theorem dX0_has_12 : decode cX0_has 12 = .ok (.iconst 1, 1) := by decide +kernel
theorem dX0_has_13 : decode cX0_has 13 = .ok (.goto 4, 3) := by decide +kernel
theorem dX0_has_16 : decode cX0_has 16 = .ok (.iconst 0, 1) := by decide +kernel
theorem dX0_has_17 : decode cX0_has 17 = .ok (.ireturn, 1) := by decide +kernel
/-! X0_has (I)Z -/
abbrev rmX0_has : Room := { frames := 0, cells := 0, slots := 0, locals := 0 }
theorem lkX0_has_0 : Cond.fieldLink RX0 17 (TX0 1).1 (TX0 1).2.1 (TX0 1).2.2.1 ∈ wsX0_has := by decide +kernel
theorem inX0_has_X0 : ∀ w ∈ u_ws RX0 TX0 6, w ∈ wsX0_has := by decide +kernel
noncomputable def fX0_has (G : mm_G) (a0 : Nat) (x1 : Int32) (σ : mm_M) : Option (Int32 × mm_M) := if ¬ ((if x1 < 0 then (0 : Int32) else if x1 < (σ.1 a0 1) then (1 : Int32) else (0 : Int32)) = 0 ∨ (if x1 < 0 then (0 : Int32) else if x1 < (σ.1 a0 1) then (1 : Int32) else (0 : Int32)) = 1) then none else (some (if x1 < 0 then (0 : Int32) else if x1 < (σ.1 a0 1) then (1 : Int32) else (0 : Int32), σ))
set_option maxHeartbeats 4000000 in
set_option maxRecDepth 100000 in
theorem wX0_has_b0 {E : mm_E} {G : mm_G} (X : mm_Cx E G cX0_has 2 RX0 wsX0_has rmX0_has (some .boolean)) {a0 : Nat} {x1 : Int32} {σ : mm_M} {q : (Int32 × mm_M)} (ha0 : mm_Is G 0 a0) (h : fX0_has G a0 x1 σ = some q) : mm_At E G 2 (mm_Qi E G q) σ 0 [(0, .ref a0), (1, .int x1)] [] := by
  unfold fX0_has at h
  refine at_iload_n (pc := 0) X 1 1 dX0_has_0 rfl rfl ?_
  have hj1 : mm_At E G 2 (mm_Qi E G q) σ 17 [] [.int (if x1 < 0 then (0 : Int32) else if x1 < (σ.1 a0 1) then (1 : Int32) else (0 : Int32))] := by
    obtain ⟨hg17, h⟩ := mm_chk h
    exact at_zret (pc := 17) X (Classical.not_not.mp hg17) (Option.some.inj h) dX0_has_17
  refine at_if_lt (pc := 1) X 16 dX0_has_1 (by decide) (fun c1 => ?_) (fun c1 => ?_)
  · try simp only [if_pos c1] at hj1
    refine at_iconst (pc := 16) X (0 : Int32) dX0_has_16 ic_0 ?_
    exact at_sub [] rfl hj1
  · try simp only [if_neg c1] at hj1
    refine at_iload_n (pc := 4) X 1 1 dX0_has_4 rfl rfl ?_
    refine at_aload_n (pc := 5) X 0 0 dX0_has_5 rfl rfl ?_
    refine at_get (pc := 6) X 0 1 (.int (σ.1 a0 1)) ha0 (by decide) rfl inX0_has_X0 (by decide) lkX0_has_0 rfl dX0_has_6 ?_
    refine at_icmp_ge (pc := 9) X 16 dX0_has_9 (by decide) (fun c9 => ?_) (fun c9 => ?_)
    · try simp only [if_neg c9] at hj1
      refine at_iconst (pc := 16) X (0 : Int32) dX0_has_16 ic_0 ?_
      exact at_sub [] rfl hj1
    · try simp only [if_pos c9] at hj1
      refine at_iconst (pc := 12) X (1 : Int32) dX0_has_12 ic_1 ?_
      refine at_goto (pc := 13) X 17 dX0_has_13 (by decide) ?_
      exact at_sub [] rfl hj1
set_option maxHeartbeats 4000000 in
set_option maxRecDepth 100000 in
theorem mX0_has (l : Launch) {G : mm_G} (hwf : mm_WF G) {a0 : Nat} {x1 : Int32} {σ : mm_M} {q : (Int32 × mm_M)} (ha0 : mm_Is G 0 a0) (h : fX0_has G a0 x1 σ = some q) : mm_Mi l yX0_has wsX0_has rmX0_has G [.ref a0, .int x1] σ q := by
  refine mm_ofi (cc := cX0_has) (nL := 2) (ret := some .boolean) (own := RX0) (lv0 := [(0, .ref a0), (1, .int x1)]) (by decide) rfl rfl (Nat.le_of_ble_eq_true rfl) rfl hwf (fun E hE X => ?_)
  exact wX0_has_b0 X ha0 h
theorem dX0_sets_0 : decode cX0_sets 0 = .ok (.iconst 1, 1) := by decide +kernel
theorem dX0_sets_1 : decode cX0_sets 1 = .ok (.aload_n 0, 1) := by decide +kernel
theorem dX0_sets_2 : decode cX0_sets 2 = .ok (.getfield 17, 3) := by decide +kernel
theorem dX0_sets_5 : decode cX0_sets 5 = .ok (.ishl, 1) := by decide +kernel
theorem dX0_sets_6 : decode cX0_sets 6 = .ok (.ireturn, 1) := by decide +kernel
/-! X0_sets ()I -/
abbrev rmX0_sets : Room := { frames := 0, cells := 0, slots := 0, locals := 0 }
theorem lkX0_sets_0 : Cond.fieldLink RX0 17 (TX0 1).1 (TX0 1).2.1 (TX0 1).2.2.1 ∈ wsX0_sets := by decide +kernel
theorem inX0_sets_X0 : ∀ w ∈ u_ws RX0 TX0 6, w ∈ wsX0_sets := by decide +kernel
noncomputable def fX0_sets (G : mm_G) (a0 : Nat) (σ : mm_M) : Option (Int32 × mm_M) := some ((1 : Int32) <<< ((σ.1 a0 1) &&& 31), σ)
set_option maxHeartbeats 4000000 in
set_option maxRecDepth 100000 in
theorem wX0_sets_b0 {E : mm_E} {G : mm_G} (X : mm_Cx E G cX0_sets 1 RX0 wsX0_sets rmX0_sets (some .int)) {a0 : Nat} {σ : mm_M} {q : (Int32 × mm_M)} (ha0 : mm_Is G 0 a0) (h : fX0_sets G a0 σ = some q) : mm_At E G 1 (mm_Qi E G q) σ 0 [(0, .ref a0)] [] := by
  unfold fX0_sets at h
  refine at_iconst (pc := 0) X (1 : Int32) dX0_sets_0 ic_1 ?_
  refine at_aload_n (pc := 1) X 0 0 dX0_sets_1 rfl rfl ?_
  refine at_get (pc := 2) X 0 1 (.int (σ.1 a0 1)) ha0 (by decide) rfl inX0_sets_X0 (by decide) lkX0_sets_0 rfl dX0_sets_2 ?_
  refine at_ishl (pc := 5) X dX0_sets_5 ?_
  exact at_iret (pc := 6) X (Option.some.inj h) dX0_sets_6
set_option maxHeartbeats 4000000 in
set_option maxRecDepth 100000 in
theorem mX0_sets (l : Launch) {G : mm_G} (hwf : mm_WF G) {a0 : Nat} {σ : mm_M} {q : (Int32 × mm_M)} (ha0 : mm_Is G 0 a0) (h : fX0_sets G a0 σ = some q) : mm_Mi l yX0_sets wsX0_sets rmX0_sets G [.ref a0] σ q := by
  refine mm_ofi (cc := cX0_sets) (nL := 1) (ret := some .int) (own := RX0) (lv0 := [(0, .ref a0)]) (by decide) rfl rfl (Nat.le_of_ble_eq_true rfl) rfl hwf (fun E hE X => ?_)
  exact wX0_sets_b0 X ha0 h
theorem dX0_kindOf_0 : decode cX0_kindOf 0 = .ok (.iconst 0, 1) := by decide +kernel
theorem dX0_kindOf_1 : decode cX0_kindOf 1 = .ok (.istore_n 1, 1) := by decide +kernel
theorem dX0_kindOf_2 : decode cX0_kindOf 2 = .ok (.iload_n 1, 1) := by decide +kernel
theorem dX0_kindOf_3 : decode cX0_kindOf 3 = .ok (.bipush 6, 2) := by decide +kernel
theorem dX0_kindOf_5 : decode cX0_kindOf 5 = .ok (.if_icmp .ge 20, 3) := by decide +kernel
theorem dX0_kindOf_8 : decode cX0_kindOf 8 = .ok (.getstatic 62, 3) := by decide +kernel
theorem dX0_kindOf_11 : decode cX0_kindOf 11 = .ok (.iload_n 1, 1) := by decide +kernel
theorem dX0_kindOf_12 : decode cX0_kindOf 12 = .ok (.iaload, 1) := by decide +kernel
theorem dX0_kindOf_13 : decode cX0_kindOf 13 = .ok (.iload_n 0, 1) := by decide +kernel
theorem dX0_kindOf_14 : decode cX0_kindOf 14 = .ok (.if_icmp .ne 5, 3) := by decide +kernel
theorem dX0_kindOf_17 : decode cX0_kindOf 17 = .ok (.iload_n 1, 1) := by decide +kernel
theorem dX0_kindOf_18 : decode cX0_kindOf 18 = .ok (.ireturn, 1) := by decide +kernel
theorem dX0_kindOf_19 : decode cX0_kindOf 19 = .ok (.iinc 1 1, 3) := by decide +kernel
theorem dX0_kindOf_22 : decode cX0_kindOf 22 = .ok (.goto (-20), 3) := by decide +kernel
theorem dX0_kindOf_25 : decode cX0_kindOf 25 = .ok (.iconst (-1), 1) := by decide +kernel
theorem dX0_kindOf_26 : decode cX0_kindOf 26 = .ok (.ireturn, 1) := by decide +kernel
/-! X0_kindOf (I)I -/
abbrev rmX0_kindOf : Room := { frames := 0, cells := 0, slots := 0, locals := 0 }
noncomputable def fX0_kindOf_b2 (G : mm_G) (x0 : Int32) (x1 : Int32) (σ : mm_M) : Option ((Int32 × mm_M) ⊕ (Int32 × mm_M)) := if x1 < (6 : Int32) then (if x1 < 0 ∨ 6 ≤ x1.toNatClampNeg then none else (if (mm_tab 1 x1.toNatClampNeg) = x0 then (some (.inl (x1, σ))) else (some (.inr (x1 + 1, σ))))) else (some (.inl ((-1 : Int32), σ)))
noncomputable def fX0_kindOf_b0 (G : mm_G) (x0 : Int32) (σ : mm_M) : Option ((Int32 × mm_M) ⊕ (Int32 × mm_M)) := some (.inr ((0 : Int32), σ))
noncomputable def fX0_kindOf_s (G : mm_G) (x0 : Int32) : (Int32 × mm_M) → Option ((Int32 × mm_M) ⊕ (Int32 × mm_M)) := (fun s => fX0_kindOf_b2 G x0 s.1 s.2)
def PX0_kindOf (E : mm_E) (G : mm_G) (x0 : Int32) (q : (Int32 × mm_M)) : (Int32 × mm_M) → Prop := (fun s => mm_At E G 2 (mm_Qi E G q) s.2 2 [(0, .int x0), (1, .int s.1)] [])
noncomputable def fX0_kindOf (G : mm_G) (x0 : Int32) (σ : mm_M) : Option (Int32 × mm_M) := mm_run (fX0_kindOf_b0 G x0 σ) (fX0_kindOf_s G x0)
set_option maxHeartbeats 4000000 in
set_option maxRecDepth 100000 in
theorem wX0_kindOf_b2 {E : mm_E} {G : mm_G} (X : mm_Cx E G cX0_kindOf 2 RX0 wsX0_kindOf rmX0_kindOf (some .int)) {x0 : Int32} {x1 : Int32} {σ : mm_M} {q : (Int32 × mm_M)} {o : (Int32 × mm_M) ⊕ (Int32 × mm_M)} (h : fX0_kindOf_b2 G x0 x1 σ = some o) (hk : mm_Ok q (PX0_kindOf E G x0 q) o) : mm_At E G 2 (mm_Qi E G q) σ 2 [(0, .int x0), (1, .int x1)] [] := by
  unfold fX0_kindOf_b2 at h
  refine at_iload_n (pc := 2) X 1 1 dX0_kindOf_2 rfl rfl ?_
  refine at_bipush (pc := 3) X (6 : Int32) dX0_kindOf_3 ib_6 ?_
  refine at_icmp_ge (pc := 5) X 25 dX0_kindOf_5 (by decide) (fun c5 => ?_) (fun c5 => ?_)
  · have h := mm_neg c5 h
    refine at_iconst (pc := 25) X (-1 : Int32) dX0_kindOf_25 ic_m1 ?_
    exact at_iret (pc := 26) X (mm_inl h hk) dX0_kindOf_26
  · have h := mm_pos c5 h
    refine at_gets1 (pc := 8) X rfl dX0_kindOf_8 ?_
    refine at_iload_n (pc := 11) X 1 1 dX0_kindOf_11 rfl rfl ?_
    obtain ⟨hc12, h⟩ := mm_chk h
    refine at_tab1 (pc := 12) X hc12 dX0_kindOf_12 ?_
    refine at_iload_n (pc := 13) X 0 0 dX0_kindOf_13 rfl rfl ?_
    refine at_icmp_ne (pc := 14) X 19 dX0_kindOf_14 (by decide) (fun c14 => ?_) (fun c14 => ?_)
    · have h := mm_neg c14 h
      refine at_iinc (pc := 19) X 1 1 (x1 + 1) [(1, .int (x1 + 1)), (0, .int x0)] dX0_kindOf_19 rfl (ii_1 _) (by decide) rfl ?_
      refine at_goto (pc := 22) X 2 dX0_kindOf_22 (by decide) ?_
      have h2 := mm_inr h hk; exact at_sub [1, 0] rfl h2
    · have h := mm_pos c14 h
      refine at_iload_n (pc := 17) X 1 1 dX0_kindOf_17 rfl rfl ?_
      exact at_iret (pc := 18) X (mm_inl h hk) dX0_kindOf_18
set_option maxHeartbeats 4000000 in
set_option maxRecDepth 100000 in
theorem wX0_kindOf_b0 {E : mm_E} {G : mm_G} (X : mm_Cx E G cX0_kindOf 2 RX0 wsX0_kindOf rmX0_kindOf (some .int)) {x0 : Int32} {σ : mm_M} {q : (Int32 × mm_M)} {o : (Int32 × mm_M) ⊕ (Int32 × mm_M)} (h : fX0_kindOf_b0 G x0 σ = some o) (hk : mm_Ok q (PX0_kindOf E G x0 q) o) : mm_At E G 2 (mm_Qi E G q) σ 0 [(0, .int x0)] [] := by
  unfold fX0_kindOf_b0 at h
  refine at_iconst (pc := 0) X (0 : Int32) dX0_kindOf_0 ic_0 ?_
  refine at_istore_n (pc := 1) X 1 [(1, .int (0 : Int32)), (0, .int x0)] dX0_kindOf_1 rfl (by decide) rfl ?_
  have h2 := mm_inr h hk; exact at_sub [1, 0] rfl h2
set_option maxHeartbeats 4000000 in
set_option maxRecDepth 100000 in
theorem mX0_kindOf (l : Launch) {G : mm_G} (hwf : mm_WF G) {x0 : Int32} {σ : mm_M} {q : (Int32 × mm_M)} (h : fX0_kindOf G x0 σ = some q) : mm_Mi l yX0_kindOf wsX0_kindOf rmX0_kindOf G [.int x0] σ q := by
  refine mm_ofi (cc := cX0_kindOf) (nL := 2) (ret := some .int) (own := RX0) (lv0 := [(0, .int x0)]) (by decide) rfl rfl (Nat.le_of_ble_eq_true rfl) rfl hwf (fun E hE X => ?_)
  obtain ⟨o, h0, hk⟩ := mm_run_ok (P := PX0_kindOf E G x0 q) h (fun s o hs hk => by exact wX0_kindOf_b2 X hs hk)
  exact wX0_kindOf_b0 X  h0 hk
theorem dX2_rest_0 : decode cX2_rest 0 = .ok (.aload_n 0, 1) := by decide +kernel
theorem dX2_rest_1 : decode cX2_rest 1 = .ok (.iconst 0, 1) := by decide +kernel
theorem dX2_rest_2 : decode cX2_rest 2 = .ok (.putfield 27, 3) := by decide +kernel
theorem dX2_rest_5 : decode cX2_rest 5 = .ok (.aload_n 0, 1) := by decide +kernel
theorem dX2_rest_6 : decode cX2_rest 6 = .ok (.iconst 0, 1) := by decide +kernel
theorem dX2_rest_7 : decode cX2_rest 7 = .ok (.putfield 24, 3) := by decide +kernel
theorem dX2_rest_10 : decode cX2_rest 10 = .ok (.return_, 1) := by decide +kernel
/-! X2_rest ()V -/
abbrev rmX2_rest : Room := { frames := 0, cells := 0, slots := 0, locals := 0 }
theorem lkX2_rest_0 : Cond.fieldLink RX2 27 (TX2 5).1 (TX2 5).2.1 (TX2 5).2.2.1 ∈ wsX2_rest := by decide +kernel
theorem lkX2_rest_1 : Cond.fieldLink RX2 24 (TX2 4).1 (TX2 4).2.1 (TX2 4).2.2.1 ∈ wsX2_rest := by decide +kernel
theorem inX2_rest_X2 : ∀ w ∈ u_ws RX2 TX2 6, w ∈ wsX2_rest := by decide +kernel
noncomputable def fX2_rest (G : mm_G) (a0 : Nat) (σ : mm_M) : Option mm_M := some (mm_up (mm_up σ a0 5 (0 : Int32)) a0 4 (0 : Int32))
set_option maxHeartbeats 4000000 in
set_option maxRecDepth 100000 in
theorem wX2_rest_b0 {E : mm_E} {G : mm_G} (X : mm_Cx E G cX2_rest 1 RX2 wsX2_rest rmX2_rest (none)) {a0 : Nat} {σ : mm_M} {q : mm_M} (ha0 : mm_Is G 2 a0) (h : fX2_rest G a0 σ = some q) : mm_At E G 1 (mm_Qv E G q) σ 0 [(0, .ref a0)] [] := by
  unfold fX2_rest at h
  refine at_aload_n (pc := 0) X 0 0 dX2_rest_0 rfl rfl ?_
  refine at_iconst (pc := 1) X (0 : Int32) dX2_rest_1 ic_0 ?_
  refine at_put (pc := 2) X 2 5 ha0 (by decide) rfl inX2_rest_X2 tyX2 tyX2_ok nmX2 (by decide) lkX2_rest_0 rfl (ty := .int) rfl rfl rfl (Nat.le_of_ble_eq_true rfl) (ms_2_5 G _ _ _) mm_up_ne dX2_rest_2 ?_
  refine at_aload_n (pc := 5) X 0 0 dX2_rest_5 rfl rfl ?_
  refine at_iconst (pc := 6) X (0 : Int32) dX2_rest_6 ic_0 ?_
  refine at_put (pc := 7) X 2 4 ha0 (by decide) rfl inX2_rest_X2 tyX2 tyX2_ok nmX2 (by decide) lkX2_rest_1 rfl (ty := .int) rfl rfl rfl (Nat.le_of_ble_eq_true rfl) (ms_2_4 G _ _ _) mm_up_ne dX2_rest_7 ?_
  exact at_vret (pc := 10) X (Option.some.inj h) dX2_rest_10
set_option maxHeartbeats 4000000 in
set_option maxRecDepth 100000 in
theorem mX2_rest (l : Launch) {G : mm_G} (hwf : mm_WF G) {a0 : Nat} {σ : mm_M} {q : mm_M} (ha0 : mm_Is G 2 a0) (h : fX2_rest G a0 σ = some q) : mm_Mv l yX2_rest wsX2_rest rmX2_rest G [.ref a0] σ q := by
  refine mm_ofv (cc := cX2_rest) (nL := 1) (ret := none) (own := RX2) (lv0 := [(0, .ref a0)]) (by decide) rfl rfl (Nat.le_of_ble_eq_true rfl) rfl hwf (fun E hE X => ?_)
  exact wX2_rest_b0 X ha0 h
set_option maxRecDepth 20000 in
theorem ggX0_readStation_X0_kindOf : GoodIn wsX0_readStation wsX0_kindOf := goodIn_r _ [10] (by decide +kernel) (by decide +kernel)
set_option maxRecDepth 20000 in
theorem gX0_readStation_X0_kindOf : GoodIn wsX0_readStation (va_wsS RX0 43 yX0_kindOf wsX0_kindOf) := goodIn_app (goodIn_of _ (by decide +kernel)) ggX0_readStation_X0_kindOf
set_option maxRecDepth 20000 in
theorem ggX0_readStation_X2_rest : GoodIn wsX0_readStation wsX2_rest := goodIn_r _ [15, 16, 17, 24, 25, 26, 27, 28, 29] (by decide +kernel) (by decide +kernel)
set_option maxRecDepth 20000 in
theorem gX0_readStation_X2_rest : GoodIn wsX0_readStation (wsV RX0 59 RX2 yX2_rest wsX2_rest) := goodIn_app (goodIn_of _ (by decide +kernel)) ggX0_readStation_X2_rest
theorem dX0_readStation_0 : decode cX0_readStation 0 = .ok (.aload_n 1, 1) := by decide +kernel
theorem dX0_readStation_1 : decode cX0_readStation 1 = .ok (.iload_n 3, 1) := by decide +kernel
theorem dX0_readStation_2 : decode cX0_readStation 2 = .ok (.baload, 1) := by decide +kernel
theorem dX0_readStation_3 : decode cX0_readStation 3 = .ok (.invokestatic 43, 3) := by decide +kernel
theorem dX0_readStation_6 : decode cX0_readStation 6 = .ok (.istore 4, 2) := by decide +kernel
theorem dX0_readStation_8 : decode cX0_readStation 8 = .ok (.aload_n 0, 1) := by decide +kernel
theorem dX0_readStation_9 : decode cX0_readStation 9 = .ok (.getfield 17, 3) := by decide +kernel
theorem dX0_readStation_12 : decode cX0_readStation 12 = .ok (.bipush 7, 2) := by decide +kernel
theorem dX0_readStation_14 : decode cX0_readStation 14 = .ok (.if_icmp .ge 9, 3) := by decide +kernel
theorem dX0_readStation_17 : decode cX0_readStation 17 = .ok (.iload 4, 2) := by decide +kernel
theorem dX0_readStation_19 : decode cX0_readStation 19 = .ok (.iconst (-1), 1) := by decide +kernel
theorem dX0_readStation_20 : decode cX0_readStation 20 = .ok (.if_icmp .ne 5, 3) := by decide +kernel
theorem dX0_readStation_23 : decode cX0_readStation 23 = .ok (.iload_n 3, 1) := by decide +kernel
theorem dX0_readStation_24 : decode cX0_readStation 24 = .ok (.ireturn, 1) := by decide +kernel
theorem dX0_readStation_25 : decode cX0_readStation 25 = .ok (.iconst 1, 1) := by decide +kernel
theorem dX0_readStation_26 : decode cX0_readStation 26 = .ok (.istore 5, 2) := by decide +kernel
theorem dX0_readStation_28 : decode cX0_readStation 28 = .ok (.iload 5, 2) := by decide +kernel
theorem dX0_readStation_30 : decode cX0_readStation 30 = .ok (.iconst 4, 1) := by decide +kernel
theorem dX0_readStation_31 : decode cX0_readStation 31 = .ok (.if_icmp .ge 58, 3) := by decide +kernel
theorem dX0_readStation_34 : decode cX0_readStation 34 = .ok (.iload_n 3, 1) := by decide +kernel
theorem dX0_readStation_35 : decode cX0_readStation 35 = .ok (.iload 5, 2) := by decide +kernel
theorem dX0_readStation_37 : decode cX0_readStation 37 = .ok (.iadd, 1) := by decide +kernel
theorem dX0_readStation_38 : decode cX0_readStation 38 = .ok (.iload_n 2, 1) := by decide +kernel
theorem dX0_readStation_39 : decode cX0_readStation 39 = .ok (.if_icmp .lt 5, 3) := by decide +kernel
theorem dX0_readStation_42 : decode cX0_readStation 42 = .ok (.iload_n 2, 1) := by decide +kernel
theorem dX0_readStation_43 : decode cX0_readStation 43 = .ok (.ireturn, 1) := by decide +kernel
theorem dX0_readStation_44 : decode cX0_readStation 44 = .ok (.aload_n 1, 1) := by decide +kernel
theorem dX0_readStation_45 : decode cX0_readStation 45 = .ok (.iload_n 3, 1) := by decide +kernel
theorem dX0_readStation_46 : decode cX0_readStation 46 = .ok (.iload 5, 2) := by decide +kernel
theorem dX0_readStation_48 : decode cX0_readStation 48 = .ok (.iadd, 1) := by decide +kernel
theorem dX0_readStation_49 : decode cX0_readStation 49 = .ok (.baload, 1) := by decide +kernel
theorem dX0_readStation_50 : decode cX0_readStation 50 = .ok (.bipush 48, 2) := by decide +kernel
theorem dX0_readStation_52 : decode cX0_readStation 52 = .ok (.isub, 1) := by decide +kernel
theorem dX0_readStation_53 : decode cX0_readStation 53 = .ok (.istore 6, 2) := by decide +kernel
theorem dX0_readStation_55 : decode cX0_readStation 55 = .ok (.iload 6, 2) := by decide +kernel
theorem dX0_readStation_57 : decode cX0_readStation 57 = .ok (.iload 5, 2) := by decide +kernel
theorem dX0_readStation_59 : decode cX0_readStation 59 = .ok (.iconst 2, 1) := by decide +kernel
theorem dX0_readStation_60 : decode cX0_readStation 60 = .ok (.if_icmp .ne 7, 3) := by decide +kernel
theorem dX0_readStation_63 : decode cX0_readStation 63 = .ok (.iconst 1, 1) := by decide +kernel
theorem dX0_readStation_64 : decode cX0_readStation 64 = .ok (.goto 4, 3) := by decide +kernel
theorem dX0_readStation_67 : decode cX0_readStation 67 = .ok (.iconst 0, 1) := by decide +kernel
theorem dX0_readStation_68 : decode cX0_readStation 68 = .ok (.if_icmp .lt 10, 3) := by decide +kernel
theorem dX0_readStation_71 : decode cX0_readStation 71 = .ok (.iload 6, 2) := by decide +kernel
theorem dX0_readStation_73 : decode cX0_readStation 73 = .ok (.bipush 9, 2) := by decide +kernel
theorem dX0_readStation_75 : decode cX0_readStation 75 = .ok (.if_icmp .le 8, 3) := by decide +kernel
theorem dX0_readStation_78 : decode cX0_readStation 78 = .ok (.iload_n 3, 1) := by decide +kernel
theorem dX0_readStation_79 : decode cX0_readStation 79 = .ok (.iload 5, 2) := by decide +kernel
theorem dX0_readStation_81 : decode cX0_readStation 81 = .ok (.iadd, 1) := by decide +kernel
theorem dX0_readStation_82 : decode cX0_readStation 82 = .ok (.ireturn, 1) := by decide +kernel
theorem dX0_readStation_83 : decode cX0_readStation 83 = .ok (.iinc 5 1, 3) := by decide +kernel
theorem dX0_readStation_86 : decode cX0_readStation 86 = .ok (.goto (-58), 3) := by decide +kernel
theorem dX0_readStation_89 : decode cX0_readStation 89 = .ok (.aload_n 0, 1) := by decide +kernel
theorem dX0_readStation_90 : decode cX0_readStation 90 = .ok (.getfield 11, 3) := by decide +kernel
theorem dX0_readStation_93 : decode cX0_readStation 93 = .ok (.aload_n 0, 1) := by decide +kernel
theorem dX0_readStation_94 : decode cX0_readStation 94 = .ok (.getfield 17, 3) := by decide +kernel
theorem dX0_readStation_97 : decode cX0_readStation 97 = .ok (.aaload, 1) := by decide +kernel
theorem dX0_readStation_98 : decode cX0_readStation 98 = .ok (.astore 5, 2) := by decide +kernel
theorem dX0_readStation_100 : decode cX0_readStation 100 = .ok (.aload 5, 2) := by decide +kernel
theorem dX0_readStation_102 : decode cX0_readStation 102 = .ok (.iload 4, 2) := by decide +kernel
theorem dX0_readStation_104 : decode cX0_readStation 104 = .ok (.putfield 47, 3) := by decide +kernel
theorem dX0_readStation_107 : decode cX0_readStation 107 = .ok (.aload 5, 2) := by decide +kernel
theorem dX0_readStation_109 : decode cX0_readStation 109 = .ok (.aload_n 1, 1) := by decide +kernel
theorem dX0_readStation_110 : decode cX0_readStation 110 = .ok (.iload_n 3, 1) := by decide +kernel
theorem dX0_readStation_111 : decode cX0_readStation 111 = .ok (.iconst 1, 1) := by decide +kernel
theorem dX0_readStation_112 : decode cX0_readStation 112 = .ok (.iadd, 1) := by decide +kernel
theorem dX0_readStation_113 : decode cX0_readStation 113 = .ok (.baload, 1) := by decide +kernel
theorem dX0_readStation_114 : decode cX0_readStation 114 = .ok (.bipush 48, 2) := by decide +kernel
theorem dX0_readStation_116 : decode cX0_readStation 116 = .ok (.isub, 1) := by decide +kernel
theorem dX0_readStation_117 : decode cX0_readStation 117 = .ok (.putfield 50, 3) := by decide +kernel
theorem dX0_readStation_120 : decode cX0_readStation 120 = .ok (.aload 5, 2) := by decide +kernel
theorem dX0_readStation_122 : decode cX0_readStation 122 = .ok (.aload_n 1, 1) := by decide +kernel
theorem dX0_readStation_123 : decode cX0_readStation 123 = .ok (.iload_n 3, 1) := by decide +kernel
theorem dX0_readStation_124 : decode cX0_readStation 124 = .ok (.iconst 2, 1) := by decide +kernel
theorem dX0_readStation_125 : decode cX0_readStation 125 = .ok (.iadd, 1) := by decide +kernel
theorem dX0_readStation_126 : decode cX0_readStation 126 = .ok (.baload, 1) := by decide +kernel
theorem dX0_readStation_127 : decode cX0_readStation 127 = .ok (.bipush 48, 2) := by decide +kernel
theorem dX0_readStation_129 : decode cX0_readStation 129 = .ok (.isub, 1) := by decide +kernel
theorem dX0_readStation_130 : decode cX0_readStation 130 = .ok (.putfield 53, 3) := by decide +kernel
theorem dX0_readStation_133 : decode cX0_readStation 133 = .ok (.aload 5, 2) := by decide +kernel
theorem dX0_readStation_135 : decode cX0_readStation 135 = .ok (.aload_n 1, 1) := by decide +kernel
theorem dX0_readStation_136 : decode cX0_readStation 136 = .ok (.iload_n 3, 1) := by decide +kernel
theorem dX0_readStation_137 : decode cX0_readStation 137 = .ok (.iconst 3, 1) := by decide +kernel
theorem dX0_readStation_138 : decode cX0_readStation 138 = .ok (.iadd, 1) := by decide +kernel
theorem dX0_readStation_139 : decode cX0_readStation 139 = .ok (.baload, 1) := by decide +kernel
theorem dX0_readStation_140 : decode cX0_readStation 140 = .ok (.bipush 48, 2) := by decide +kernel
theorem dX0_readStation_142 : decode cX0_readStation 142 = .ok (.isub, 1) := by decide +kernel
theorem dX0_readStation_143 : decode cX0_readStation 143 = .ok (.putfield 56, 3) := by decide +kernel
theorem dX0_readStation_146 : decode cX0_readStation 146 = .ok (.aload 5, 2) := by decide +kernel
theorem dX0_readStation_148 : decode cX0_readStation 148 = .ok (.invokevirtual 59, 3) := by decide +kernel
theorem dX0_readStation_151 : decode cX0_readStation 151 = .ok (.aload_n 0, 1) := by decide +kernel
theorem dX0_readStation_152 : decode cX0_readStation 152 = .ok (.dup, 1) := by decide +kernel
theorem dX0_readStation_153 : decode cX0_readStation 153 = .ok (.getfield 17, 3) := by decide +kernel
theorem dX0_readStation_156 : decode cX0_readStation 156 = .ok (.iconst 1, 1) := by decide +kernel
theorem dX0_readStation_157 : decode cX0_readStation 157 = .ok (.iadd, 1) := by decide +kernel
theorem dX0_readStation_158 : decode cX0_readStation 158 = .ok (.putfield 17, 3) := by decide +kernel
theorem dX0_readStation_161 : decode cX0_readStation 161 = .ok (.bipush (-9), 2) := by decide +kernel
theorem dX0_readStation_163 : decode cX0_readStation 163 = .ok (.ireturn, 1) := by decide +kernel
/-! X0_readStation ([BII)I -/
abbrev rmX0_readStation : Room := { frames := 1, cells := 0, slots := 0, locals := 21 }
theorem lkX0_readStation_0 : Cond.fieldLink RX0 17 (TX0 1).1 (TX0 1).2.1 (TX0 1).2.2.1 ∈ wsX0_readStation := by decide +kernel
theorem lkX0_readStation_1 : Cond.fieldLink RX0 11 (TX0 0).1 (TX0 0).2.1 (TX0 0).2.2.1 ∈ wsX0_readStation := by decide +kernel
theorem lkX0_readStation_2 : Cond.fieldLink RX0 47 (TX2 0).1 (TX2 0).2.1 (TX2 0).2.2.1 ∈ wsX0_readStation := by decide +kernel
theorem lkX0_readStation_3 : Cond.fieldLink RX0 50 (TX2 1).1 (TX2 1).2.1 (TX2 1).2.2.1 ∈ wsX0_readStation := by decide +kernel
theorem lkX0_readStation_4 : Cond.fieldLink RX0 53 (TX2 2).1 (TX2 2).2.1 (TX2 2).2.2.1 ∈ wsX0_readStation := by decide +kernel
theorem lkX0_readStation_5 : Cond.fieldLink RX0 56 (TX2 3).1 (TX2 3).2.1 (TX2 3).2.2.1 ∈ wsX0_readStation := by decide +kernel
theorem inX0_readStation_X0 : ∀ w ∈ u_ws RX0 TX0 6, w ∈ wsX0_readStation := by decide +kernel
theorem inX0_readStation_X2 : ∀ w ∈ u_ws RX2 TX2 6, w ∈ wsX0_readStation := by decide +kernel
noncomputable def fX0_readStation_b78 (G : mm_G) (a0 : Nat) (a1 : Nat) (x2 : Int32) (x3 : Int32) (x5 : Int32) (σ : mm_M) : Option ((Int32 × mm_M) ⊕ (Int32 × Int32 × mm_M)) := some (.inl (x3 + x5, σ))
noncomputable def fX0_readStation_b68 (G : mm_G) (a0 : Nat) (a1 : Nat) (x2 : Int32) (x3 : Int32) (x4 : Int32) (x5 : Int32) (x6 : Int32) (sx0 : Int32) (sx1 : Int32) (σ : mm_M) : Option ((Int32 × mm_M) ⊕ (Int32 × Int32 × mm_M)) := if sx1 < sx0 then (fX0_readStation_b78 G a0 a1 x2 x3 x5 σ) else (if (9 : Int32) < x6 then (fX0_readStation_b78 G a0 a1 x2 x3 x5 σ) else (some (.inr (x4, x5 + 1, σ))))
noncomputable def fX0_readStation_b28 (G : mm_G) (a0 : Nat) (a1 : Nat) (x2 : Int32) (x3 : Int32) (x4 : Int32) (x5 : Int32) (σ : mm_M) : Option ((Int32 × mm_M) ⊕ (Int32 × Int32 × mm_M)) := if x5 < (4 : Int32) then (if (x3 + x5) < x2 then (if (x3 + x5) < 0 ∨ mm_N G a1 ≤ (x3 + x5).toNatClampNeg then none else (fX0_readStation_b68 G a0 a1 x2 x3 x4 x5 ((σ.1 a1 (x3 + x5).toNatClampNeg) - (48 : Int32)) (if x5 = (2 : Int32) then (1 : Int32) else (0 : Int32)) ((σ.1 a1 (x3 + x5).toNatClampNeg) - (48 : Int32)) σ)) else (some (.inl (x2, σ)))) else (if (σ.1 a0 1) < 0 ∨ mm_N G (mm_R G a0 0) ≤ (σ.1 a0 1).toNatClampNeg then none else (if (x3 + (1 : Int32)) < 0 ∨ mm_N G a1 ≤ (x3 + (1 : Int32)).toNatClampNeg then none else (if (x3 + (2 : Int32)) < 0 ∨ mm_N G a1 ≤ (x3 + (2 : Int32)).toNatClampNeg then none else (if (x3 + (3 : Int32)) < 0 ∨ mm_N G a1 ≤ (x3 + (3 : Int32)).toNatClampNeg then none else ((fX2_rest G (mm_R G (mm_R G a0 0) (σ.1 a0 1).toNatClampNeg) (mm_up (mm_up (mm_up (mm_up σ (mm_R G (mm_R G a0 0) (σ.1 a0 1).toNatClampNeg) 0 x4) (mm_R G (mm_R G a0 0) (σ.1 a0 1).toNatClampNeg) 1 (((mm_up σ (mm_R G (mm_R G a0 0) (σ.1 a0 1).toNatClampNeg) 0 x4).1 a1 (x3 + (1 : Int32)).toNatClampNeg) - (48 : Int32))) (mm_R G (mm_R G a0 0) (σ.1 a0 1).toNatClampNeg) 2 (((mm_up (mm_up σ (mm_R G (mm_R G a0 0) (σ.1 a0 1).toNatClampNeg) 0 x4) (mm_R G (mm_R G a0 0) (σ.1 a0 1).toNatClampNeg) 1 (((mm_up σ (mm_R G (mm_R G a0 0) (σ.1 a0 1).toNatClampNeg) 0 x4).1 a1 (x3 + (1 : Int32)).toNatClampNeg) - (48 : Int32))).1 a1 (x3 + (2 : Int32)).toNatClampNeg) - (48 : Int32))) (mm_R G (mm_R G a0 0) (σ.1 a0 1).toNatClampNeg) 3 (((mm_up (mm_up (mm_up σ (mm_R G (mm_R G a0 0) (σ.1 a0 1).toNatClampNeg) 0 x4) (mm_R G (mm_R G a0 0) (σ.1 a0 1).toNatClampNeg) 1 (((mm_up σ (mm_R G (mm_R G a0 0) (σ.1 a0 1).toNatClampNeg) 0 x4).1 a1 (x3 + (1 : Int32)).toNatClampNeg) - (48 : Int32))) (mm_R G (mm_R G a0 0) (σ.1 a0 1).toNatClampNeg) 2 (((mm_up (mm_up σ (mm_R G (mm_R G a0 0) (σ.1 a0 1).toNatClampNeg) 0 x4) (mm_R G (mm_R G a0 0) (σ.1 a0 1).toNatClampNeg) 1 (((mm_up σ (mm_R G (mm_R G a0 0) (σ.1 a0 1).toNatClampNeg) 0 x4).1 a1 (x3 + (1 : Int32)).toNatClampNeg) - (48 : Int32))).1 a1 (x3 + (2 : Int32)).toNatClampNeg) - (48 : Int32))).1 a1 (x3 + (3 : Int32)).toNatClampNeg) - (48 : Int32)))).bind (fun q148 => some (.inl ((-9 : Int32), mm_up q148 a0 1 ((q148.1 a0 1) + (1 : Int32))))))))))
noncomputable def fX0_readStation_b0 (G : mm_G) (a0 : Nat) (a1 : Nat) (x2 : Int32) (x3 : Int32) (σ : mm_M) : Option ((Int32 × mm_M) ⊕ (Int32 × Int32 × mm_M)) := if x3 < 0 ∨ mm_N G a1 ≤ x3.toNatClampNeg then none else ((fX0_kindOf G (σ.1 a1 x3.toNatClampNeg) σ).bind (fun q3 => if (q3.2.1 a0 1) < (7 : Int32) then (if q3.1 = (-1 : Int32) then (some (.inl (x3, q3.2))) else (some (.inr (q3.1, (1 : Int32), q3.2)))) else (some (.inl (x3, q3.2)))))
noncomputable def fX0_readStation_s (G : mm_G) (a0 : Nat) (a1 : Nat) (x2 : Int32) (x3 : Int32) : (Int32 × Int32 × mm_M) → Option ((Int32 × mm_M) ⊕ (Int32 × Int32 × mm_M)) := (fun s => fX0_readStation_b28 G a0 a1 x2 x3 s.1 s.2.1 s.2.2)
def PX0_readStation (E : mm_E) (G : mm_G) (a0 : Nat) (a1 : Nat) (x2 : Int32) (x3 : Int32) (q : (Int32 × mm_M)) : (Int32 × Int32 × mm_M) → Prop := (fun s => mm_At E G 7 (mm_Qi E G q) s.2.2 28 [(0, .ref a0), (1, .ref a1), (2, .int x2), (3, .int x3), (4, .int s.1), (5, .int s.2.1)] [])
noncomputable def fX0_readStation (G : mm_G) (a0 : Nat) (a1 : Nat) (x2 : Int32) (x3 : Int32) (σ : mm_M) : Option (Int32 × mm_M) := mm_run (fX0_readStation_b0 G a0 a1 x2 x3 σ) (fX0_readStation_s G a0 a1 x2 x3)
set_option maxHeartbeats 4000000 in
set_option maxRecDepth 100000 in
theorem wX0_readStation_b78 {E : mm_E} {G : mm_G} (X : mm_Cx E G cX0_readStation 7 RX0 wsX0_readStation rmX0_readStation (some .int)) {a0 : Nat} {a1 : Nat} {x2 : Int32} {x3 : Int32} {x5 : Int32} {σ : mm_M} {q : (Int32 × mm_M)} (ha0 : mm_Is G 0 a0) (ha1 : mm_Is G 5 a1) {o : (Int32 × mm_M) ⊕ (Int32 × Int32 × mm_M)} (h : fX0_readStation_b78 G a0 a1 x2 x3 x5 σ = some o) (hk : mm_Ok q (PX0_readStation E G a0 a1 x2 x3 q) o) : mm_At E G 7 (mm_Qi E G q) σ 78 [(3, .int x3), (5, .int x5)] [] := by
  unfold fX0_readStation_b78 at h
  refine at_iload_n (pc := 78) X 3 0 dX0_readStation_78 rfl rfl ?_
  refine at_iload (pc := 79) X 5 1 dX0_readStation_79 rfl ?_
  refine at_iadd (pc := 81) X dX0_readStation_81 ?_
  exact at_iret (pc := 82) X (mm_inl h hk) dX0_readStation_82
set_option maxHeartbeats 4000000 in
set_option maxRecDepth 100000 in
theorem wX0_readStation_b68 {E : mm_E} {G : mm_G} (X : mm_Cx E G cX0_readStation 7 RX0 wsX0_readStation rmX0_readStation (some .int)) {a0 : Nat} {a1 : Nat} {x2 : Int32} {x3 : Int32} {x4 : Int32} {x5 : Int32} {x6 : Int32} {sx0 : Int32} {sx1 : Int32} {σ : mm_M} {q : (Int32 × mm_M)} (ha0 : mm_Is G 0 a0) (ha1 : mm_Is G 5 a1) {o : (Int32 × mm_M) ⊕ (Int32 × Int32 × mm_M)} (h : fX0_readStation_b68 G a0 a1 x2 x3 x4 x5 x6 sx0 sx1 σ = some o) (hk : mm_Ok q (PX0_readStation E G a0 a1 x2 x3 q) o) : mm_At E G 7 (mm_Qi E G q) σ 68 [(0, .ref a0), (1, .ref a1), (2, .int x2), (3, .int x3), (4, .int x4), (5, .int x5), (6, .int x6)] [.int sx0, .int sx1] := by
  unfold fX0_readStation_b68 at h
  refine at_icmp_lt (pc := 68) X 78 dX0_readStation_68 (by decide) (fun c68 => ?_) (fun c68 => ?_)
  · have h := mm_pos c68 h
    exact at_sub [3, 5] rfl (wX0_readStation_b78 X ha0 ha1 h hk)
  · have h := mm_neg c68 h
    refine at_iload (pc := 71) X 6 6 dX0_readStation_71 rfl ?_
    refine at_bipush (pc := 73) X (9 : Int32) dX0_readStation_73 ib_9 ?_
    refine at_icmp_le (pc := 75) X 83 dX0_readStation_75 (by decide) (fun c75 => ?_) (fun c75 => ?_)
    · have h := mm_neg c75 h
      refine at_iinc (pc := 83) X 5 5 (x5 + 1) [(5, .int (x5 + 1)), (0, .ref a0), (1, .ref a1), (2, .int x2), (3, .int x3), (4, .int x4), (6, .int x6)] dX0_readStation_83 rfl (ii_1 _) (by decide) rfl ?_
      refine at_goto (pc := 86) X 28 dX0_readStation_86 (by decide) ?_
      have h2 := mm_inr h hk; exact at_sub [1, 2, 3, 4, 5, 0] rfl h2
    · have h := mm_pos c75 h
      exact at_sub [3, 5] rfl (wX0_readStation_b78 X ha0 ha1 h hk)
set_option maxHeartbeats 4000000 in
set_option maxRecDepth 100000 in
theorem wX0_readStation_b28 {E : mm_E} {G : mm_G} (X : mm_Cx E G cX0_readStation 7 RX0 wsX0_readStation rmX0_readStation (some .int)) {a0 : Nat} {a1 : Nat} {x2 : Int32} {x3 : Int32} {x4 : Int32} {x5 : Int32} {σ : mm_M} {q : (Int32 × mm_M)} (ha0 : mm_Is G 0 a0) (ha1 : mm_Is G 5 a1) {o : (Int32 × mm_M) ⊕ (Int32 × Int32 × mm_M)} (h : fX0_readStation_b28 G a0 a1 x2 x3 x4 x5 σ = some o) (hk : mm_Ok q (PX0_readStation E G a0 a1 x2 x3 q) o) : mm_At E G 7 (mm_Qi E G q) σ 28 [(0, .ref a0), (1, .ref a1), (2, .int x2), (3, .int x3), (4, .int x4), (5, .int x5)] [] := by
  unfold fX0_readStation_b28 at h
  refine at_iload (pc := 28) X 5 5 dX0_readStation_28 rfl ?_
  refine at_iconst (pc := 30) X (4 : Int32) dX0_readStation_30 ic_4 ?_
  refine at_icmp_ge (pc := 31) X 89 dX0_readStation_31 (by decide) (fun c31 => ?_) (fun c31 => ?_)
  · have h := mm_neg c31 h
    refine at_aload_n (pc := 89) X 0 0 dX0_readStation_89 rfl rfl ?_
    refine at_get (pc := 90) X 0 0 (.ref (mm_R G a0 0)) ha0 (by decide) rfl inX0_readStation_X0 (by decide) lkX0_readStation_1 rfl dX0_readStation_90 ?_
    refine at_aload_n (pc := 93) X 0 0 dX0_readStation_93 rfl rfl ?_
    refine at_get (pc := 94) X 0 1 (.int (σ.1 a0 1)) ha0 (by decide) rfl inX0_readStation_X0 (by decide) lkX0_readStation_0 rfl dX0_readStation_94 ?_
    obtain ⟨hc97, h⟩ := mm_chk h
    refine at_aald (pc := 97) X 8 3 (wf_0_0 X.wf ha0) (by decide) (by decide) rfl rfl hc97 dX0_readStation_97 ?_
    refine at_astore (pc := 98) X 5 [(5, .ref (mm_R G (mm_R G a0 0) (σ.1 a0 1).toNatClampNeg)), (0, .ref a0), (1, .ref a1), (2, .int x2), (3, .int x3), (4, .int x4)] dX0_readStation_98 (by decide) rfl ?_
    refine at_aload (pc := 100) X 5 0 dX0_readStation_100 rfl ?_
    refine at_iload (pc := 102) X 4 5 dX0_readStation_102 rfl ?_
    refine at_put (pc := 104) X 2 0 (wf_8 X.wf (wf_0_0 X.wf ha0) hc97) (by decide) rfl inX0_readStation_X2 tyX2 tyX2_ok nmX2 (by decide) lkX0_readStation_2 rfl (ty := .int) rfl rfl rfl (Nat.le_of_ble_eq_true rfl) (ms_2_0 G _ _ _) mm_up_ne dX0_readStation_104 ?_
    refine at_aload (pc := 107) X 5 0 dX0_readStation_107 rfl ?_
    refine at_aload_n (pc := 109) X 1 2 dX0_readStation_109 rfl rfl ?_
    refine at_iload_n (pc := 110) X 3 4 dX0_readStation_110 rfl rfl ?_
    refine at_iconst (pc := 111) X (1 : Int32) dX0_readStation_111 ic_1 ?_
    refine at_iadd (pc := 112) X dX0_readStation_112 ?_
    obtain ⟨hc113, h⟩ := mm_chk h
    refine at_bald (pc := 113) X ha1 hc113 dX0_readStation_113 ?_
    refine at_bipush (pc := 114) X (48 : Int32) dX0_readStation_114 ib_48 ?_
    refine at_isub (pc := 116) X dX0_readStation_116 ?_
    refine at_put (pc := 117) X 2 1 (wf_8 X.wf (wf_0_0 X.wf ha0) hc97) (by decide) rfl inX0_readStation_X2 tyX2 tyX2_ok nmX2 (by decide) lkX0_readStation_3 rfl (ty := .int) rfl rfl rfl (Nat.le_of_ble_eq_true rfl) (ms_2_1 G _ _ _) mm_up_ne dX0_readStation_117 ?_
    refine at_aload (pc := 120) X 5 0 dX0_readStation_120 rfl ?_
    refine at_aload_n (pc := 122) X 1 2 dX0_readStation_122 rfl rfl ?_
    refine at_iload_n (pc := 123) X 3 4 dX0_readStation_123 rfl rfl ?_
    refine at_iconst (pc := 124) X (2 : Int32) dX0_readStation_124 ic_2 ?_
    refine at_iadd (pc := 125) X dX0_readStation_125 ?_
    obtain ⟨hc126, h⟩ := mm_chk h
    refine at_bald (pc := 126) X ha1 hc126 dX0_readStation_126 ?_
    refine at_bipush (pc := 127) X (48 : Int32) dX0_readStation_127 ib_48 ?_
    refine at_isub (pc := 129) X dX0_readStation_129 ?_
    refine at_put (pc := 130) X 2 2 (wf_8 X.wf (wf_0_0 X.wf ha0) hc97) (by decide) rfl inX0_readStation_X2 tyX2 tyX2_ok nmX2 (by decide) lkX0_readStation_4 rfl (ty := .int) rfl rfl rfl (Nat.le_of_ble_eq_true rfl) (ms_2_2 G _ _ _) mm_up_ne dX0_readStation_130 ?_
    refine at_aload (pc := 133) X 5 0 dX0_readStation_133 rfl ?_
    refine at_aload_n (pc := 135) X 1 2 dX0_readStation_135 rfl rfl ?_
    refine at_iload_n (pc := 136) X 3 4 dX0_readStation_136 rfl rfl ?_
    refine at_iconst (pc := 137) X (3 : Int32) dX0_readStation_137 ic_3 ?_
    refine at_iadd (pc := 138) X dX0_readStation_138 ?_
    obtain ⟨hc139, h⟩ := mm_chk h
    refine at_bald (pc := 139) X ha1 hc139 dX0_readStation_139 ?_
    refine at_bipush (pc := 140) X (48 : Int32) dX0_readStation_140 ib_48 ?_
    refine at_isub (pc := 142) X dX0_readStation_142 ?_
    refine at_put (pc := 143) X 2 3 (wf_8 X.wf (wf_0_0 X.wf ha0) hc97) (by decide) rfl inX0_readStation_X2 tyX2 tyX2_ok nmX2 (by decide) lkX0_readStation_5 rfl (ty := .int) rfl rfl rfl (Nat.le_of_ble_eq_true rfl) (ms_2_3 G _ _ _) mm_up_ne dX0_readStation_143 ?_
    refine at_aload (pc := 146) X 5 0 dX0_readStation_146 rfl ?_
    obtain ⟨q148, hq148, h⟩ := mm_bind h
    refine at_callv (n := 0) (pc := 148) X 2 [] [] (mX2_rest (eL E) X.wf (wf_8 X.wf (wf_0_0 X.wf ha0) hc97) hq148) gX0_readStation_X2_rest rfl ⟨rfl, rfl⟩ (by decide +kernel) ⟨by decide, by decide⟩ (by decide) rfl (wf_8 X.wf (wf_0_0 X.wf ha0) hc97) rfl rfl (Nat.le_of_ble_eq_true rfl) dX0_readStation_148 ?_
    refine at_aload_n (pc := 151) X 0 1 dX0_readStation_151 rfl rfl ?_
    refine at_dup (pc := 152) X dX0_readStation_152 rfl ?_
    refine at_get (pc := 153) X 0 1 (.int (q148.1 a0 1)) ha0 (by decide) rfl inX0_readStation_X0 (by decide) lkX0_readStation_0 rfl dX0_readStation_153 ?_
    refine at_iconst (pc := 156) X (1 : Int32) dX0_readStation_156 ic_1 ?_
    refine at_iadd (pc := 157) X dX0_readStation_157 ?_
    refine at_put (pc := 158) X 0 1 ha0 (by decide) rfl inX0_readStation_X0 tyX0 tyX0_ok nmX0 (by decide) lkX0_readStation_0 rfl (ty := .int) rfl rfl rfl (Nat.le_of_ble_eq_true rfl) (ms_0_1 G _ _ _) mm_up_ne dX0_readStation_158 ?_
    refine at_bipush (pc := 161) X (-9 : Int32) dX0_readStation_161 ib_m9 ?_
    exact at_iret (pc := 163) X (mm_inl h hk) dX0_readStation_163
  · have h := mm_pos c31 h
    refine at_iload_n (pc := 34) X 3 3 dX0_readStation_34 rfl rfl ?_
    refine at_iload (pc := 35) X 5 5 dX0_readStation_35 rfl ?_
    refine at_iadd (pc := 37) X dX0_readStation_37 ?_
    refine at_iload_n (pc := 38) X 2 2 dX0_readStation_38 rfl rfl ?_
    refine at_icmp_lt (pc := 39) X 44 dX0_readStation_39 (by decide) (fun c39 => ?_) (fun c39 => ?_)
    · have h := mm_pos c39 h
      refine at_aload_n (pc := 44) X 1 1 dX0_readStation_44 rfl rfl ?_
      refine at_iload_n (pc := 45) X 3 3 dX0_readStation_45 rfl rfl ?_
      refine at_iload (pc := 46) X 5 5 dX0_readStation_46 rfl ?_
      refine at_iadd (pc := 48) X dX0_readStation_48 ?_
      obtain ⟨hc49, h⟩ := mm_chk h
      refine at_bald (pc := 49) X ha1 hc49 dX0_readStation_49 ?_
      refine at_bipush (pc := 50) X (48 : Int32) dX0_readStation_50 ib_48 ?_
      refine at_isub (pc := 52) X dX0_readStation_52 ?_
      refine at_istore (pc := 53) X 6 [(6, .int ((σ.1 a1 (x3 + x5).toNatClampNeg) - (48 : Int32))), (0, .ref a0), (1, .ref a1), (2, .int x2), (3, .int x3), (4, .int x4), (5, .int x5)] dX0_readStation_53 (by decide) rfl ?_
      refine at_iload (pc := 55) X 6 0 dX0_readStation_55 rfl ?_
      refine at_iload (pc := 57) X 5 6 dX0_readStation_57 rfl ?_
      refine at_iconst (pc := 59) X (2 : Int32) dX0_readStation_59 ic_2 ?_
      have hj60 : mm_At E G 7 (mm_Qi E G q) σ 68 [(0, .ref a0), (1, .ref a1), (2, .int x2), (3, .int x3), (4, .int x4), (5, .int x5), (6, .int ((σ.1 a1 (x3 + x5).toNatClampNeg) - (48 : Int32)))] [.int (if x5 = (2 : Int32) then (1 : Int32) else (0 : Int32)), .int ((σ.1 a1 (x3 + x5).toNatClampNeg) - (48 : Int32))] := by
        exact at_sub [0, 1, 2, 3, 4, 5, 6] rfl (wX0_readStation_b68 X ha0 ha1 h hk)
      refine at_icmp_ne (pc := 60) X 67 dX0_readStation_60 (by decide) (fun c60 => ?_) (fun c60 => ?_)
      · try simp only [if_neg c60] at hj60
        refine at_iconst (pc := 67) X (0 : Int32) dX0_readStation_67 ic_0 ?_
        exact at_sub [1, 2, 3, 4, 5, 6, 0] rfl hj60
      · try simp only [if_pos c60] at hj60
        refine at_iconst (pc := 63) X (1 : Int32) dX0_readStation_63 ic_1 ?_
        refine at_goto (pc := 64) X 68 dX0_readStation_64 (by decide) ?_
        exact at_sub [1, 2, 3, 4, 5, 6, 0] rfl hj60
    · have h := mm_neg c39 h
      refine at_iload_n (pc := 42) X 2 2 dX0_readStation_42 rfl rfl ?_
      exact at_iret (pc := 43) X (mm_inl h hk) dX0_readStation_43
set_option maxHeartbeats 4000000 in
set_option maxRecDepth 100000 in
theorem wX0_readStation_b0 {E : mm_E} {G : mm_G} (X : mm_Cx E G cX0_readStation 7 RX0 wsX0_readStation rmX0_readStation (some .int)) {a0 : Nat} {a1 : Nat} {x2 : Int32} {x3 : Int32} {σ : mm_M} {q : (Int32 × mm_M)} (ha0 : mm_Is G 0 a0) (ha1 : mm_Is G 5 a1) {o : (Int32 × mm_M) ⊕ (Int32 × Int32 × mm_M)} (h : fX0_readStation_b0 G a0 a1 x2 x3 σ = some o) (hk : mm_Ok q (PX0_readStation E G a0 a1 x2 x3 q) o) : mm_At E G 7 (mm_Qi E G q) σ 0 [(0, .ref a0), (1, .ref a1), (2, .int x2), (3, .int x3)] [] := by
  unfold fX0_readStation_b0 at h
  refine at_aload_n (pc := 0) X 1 1 dX0_readStation_0 rfl rfl ?_
  refine at_iload_n (pc := 1) X 3 3 dX0_readStation_1 rfl rfl ?_
  obtain ⟨hc2, h⟩ := mm_chk h
  refine at_bald (pc := 2) X ha1 hc2 dX0_readStation_2 ?_
  obtain ⟨q3, hq3, h⟩ := mm_bind h
  refine at_scalli (n := 1) (pc := 3) X [.int (σ.1 a1 x3.toNatClampNeg)] [] (mX0_kindOf (eL E) X.wf hq3) gX0_readStation_X0_kindOf rfl ⟨rfl, rfl⟩ (by decide +kernel) ⟨by decide, by decide⟩ rfl rfl (Nat.le_of_ble_eq_true rfl) dX0_readStation_3 ?_
  refine at_istore (pc := 6) X 4 [(4, .int q3.1), (0, .ref a0), (1, .ref a1), (2, .int x2), (3, .int x3)] dX0_readStation_6 (by decide) rfl ?_
  refine at_aload_n (pc := 8) X 0 1 dX0_readStation_8 rfl rfl ?_
  refine at_get (pc := 9) X 0 1 (.int (q3.2.1 a0 1)) ha0 (by decide) rfl inX0_readStation_X0 (by decide) lkX0_readStation_0 rfl dX0_readStation_9 ?_
  refine at_bipush (pc := 12) X (7 : Int32) dX0_readStation_12 ib_7 ?_
  refine at_icmp_ge (pc := 14) X 23 dX0_readStation_14 (by decide) (fun c14 => ?_) (fun c14 => ?_)
  · have h := mm_neg c14 h
    refine at_iload_n (pc := 23) X 3 4 dX0_readStation_23 rfl rfl ?_
    exact at_iret (pc := 24) X (mm_inl h hk) dX0_readStation_24
  · have h := mm_pos c14 h
    refine at_iload (pc := 17) X 4 0 dX0_readStation_17 rfl ?_
    refine at_iconst (pc := 19) X (-1 : Int32) dX0_readStation_19 ic_m1 ?_
    refine at_icmp_ne (pc := 20) X 25 dX0_readStation_20 (by decide) (fun c20 => ?_) (fun c20 => ?_)
    · have h := mm_neg c20 h
      refine at_iconst (pc := 25) X (1 : Int32) dX0_readStation_25 ic_1 ?_
      refine at_istore (pc := 26) X 5 [(5, .int (1 : Int32)), (4, .int q3.1), (0, .ref a0), (1, .ref a1), (2, .int x2), (3, .int x3)] dX0_readStation_26 (by decide) rfl ?_
      have h2 := mm_inr h hk; exact at_sub [2, 3, 4, 5, 1, 0] rfl h2
    · have h := mm_pos c20 h
      refine at_iload_n (pc := 23) X 3 4 dX0_readStation_23 rfl rfl ?_
      exact at_iret (pc := 24) X (mm_inl h hk) dX0_readStation_24
set_option maxHeartbeats 4000000 in
set_option maxRecDepth 100000 in
theorem mX0_readStation (l : Launch) {G : mm_G} (hwf : mm_WF G) {a0 : Nat} {a1 : Nat} {x2 : Int32} {x3 : Int32} {σ : mm_M} {q : (Int32 × mm_M)} (ha0 : mm_Is G 0 a0) (ha1 : mm_Is G 5 a1) (h : fX0_readStation G a0 a1 x2 x3 σ = some q) : mm_Mi l yX0_readStation wsX0_readStation rmX0_readStation G [.ref a0, .ref a1, .int x2, .int x3] σ q := by
  refine mm_ofi (cc := cX0_readStation) (nL := 7) (ret := some .int) (own := RX0) (lv0 := [(0, .ref a0), (1, .ref a1), (2, .int x2), (3, .int x3)]) (by decide) rfl rfl (Nat.le_of_ble_eq_true rfl) rfl hwf (fun E hE X => ?_)
  obtain ⟨o, h0, hk⟩ := mm_run_ok (P := PX0_readStation E G a0 a1 x2 x3 q) h (fun s o hs hk => by exact wX0_readStation_b28 X ha0 ha1 hs hk)
  exact wX0_readStation_b0 X ha0 ha1 h0 hk
set_option maxRecDepth 20000 in
theorem ggX0_read_X0_readStation : GoodIn wsX0_read wsX0_readStation := goodIn_r _ [10, 1, 11, 12, 13, 14, 15, 16, 17, 9, 18, 19, 20, 21, 22, 23, 24, 25, 26, 27, 28, 29, 30, 31, 32, 33, 34, 35, 36, 37] (by decide +kernel) (by decide +kernel)
set_option maxRecDepth 20000 in
theorem gX0_read_X0_readStation : GoodIn wsX0_read (wsV RX0 39 RX0 yX0_readStation wsX0_readStation) := goodIn_app (goodIn_of _ (by decide +kernel)) ggX0_read_X0_readStation
theorem dX0_read_0 : decode cX0_read 0 = .ok (.aload_n 0, 1) := by decide +kernel
theorem dX0_read_1 : decode cX0_read 1 = .ok (.iconst 0, 1) := by decide +kernel
theorem dX0_read_2 : decode cX0_read 2 = .ok (.putfield 17, 3) := by decide +kernel
theorem dX0_read_5 : decode cX0_read 5 = .ok (.aload_n 0, 1) := by decide +kernel
theorem dX0_read_6 : decode cX0_read 6 = .ok (.iconst 0, 1) := by decide +kernel
theorem dX0_read_7 : decode cX0_read 7 = .ok (.putfield 21, 3) := by decide +kernel
theorem dX0_read_10 : decode cX0_read 10 = .ok (.aload_n 0, 1) := by decide +kernel
theorem dX0_read_11 : decode cX0_read 11 = .ok (.iconst 0, 1) := by decide +kernel
theorem dX0_read_12 : decode cX0_read 12 = .ok (.putfield 24, 3) := by decide +kernel
theorem dX0_read_15 : decode cX0_read 15 = .ok (.aload_n 0, 1) := by decide +kernel
theorem dX0_read_16 : decode cX0_read 16 = .ok (.iconst 0, 1) := by decide +kernel
theorem dX0_read_17 : decode cX0_read 17 = .ok (.putfield 27, 3) := by decide +kernel
theorem dX0_read_20 : decode cX0_read 20 = .ok (.aload_n 0, 1) := by decide +kernel
theorem dX0_read_21 : decode cX0_read 21 = .ok (.iconst 0, 1) := by decide +kernel
theorem dX0_read_22 : decode cX0_read 22 = .ok (.putfield 30, 3) := by decide +kernel
theorem dX0_read_25 : decode cX0_read 25 = .ok (.iconst 0, 1) := by decide +kernel
theorem dX0_read_26 : decode cX0_read 26 = .ok (.istore_n 3, 1) := by decide +kernel
theorem dX0_read_27 : decode cX0_read 27 = .ok (.iload_n 3, 1) := by decide +kernel
theorem dX0_read_28 : decode cX0_read 28 = .ok (.iload_n 2, 1) := by decide +kernel
theorem dX0_read_29 : decode cX0_read 29 = .ok (.if_icmp .ge 42, 3) := by decide +kernel
theorem dX0_read_32 : decode cX0_read 32 = .ok (.aload_n 1, 1) := by decide +kernel
theorem dX0_read_33 : decode cX0_read 33 = .ok (.iload_n 3, 1) := by decide +kernel
theorem dX0_read_34 : decode cX0_read 34 = .ok (.baload, 1) := by decide +kernel
theorem dX0_read_35 : decode cX0_read 35 = .ok (.bipush 32, 2) := by decide +kernel
theorem dX0_read_37 : decode cX0_read 37 = .ok (.if_icmp .ne 9, 3) := by decide +kernel
theorem dX0_read_40 : decode cX0_read 40 = .ok (.iinc 3 1, 3) := by decide +kernel
theorem dX0_read_43 : decode cX0_read 43 = .ok (.goto (-16), 3) := by decide +kernel
theorem dX0_read_46 : decode cX0_read 46 = .ok (.aload_n 0, 1) := by decide +kernel
theorem dX0_read_47 : decode cX0_read 47 = .ok (.aload_n 1, 1) := by decide +kernel
theorem dX0_read_48 : decode cX0_read 48 = .ok (.iload_n 2, 1) := by decide +kernel
theorem dX0_read_49 : decode cX0_read 49 = .ok (.iload_n 3, 1) := by decide +kernel
theorem dX0_read_50 : decode cX0_read 50 = .ok (.invokevirtual 39, 3) := by decide +kernel
theorem dX0_read_53 : decode cX0_read 53 = .ok (.istore 4, 2) := by decide +kernel
theorem dX0_read_55 : decode cX0_read 55 = .ok (.iload 4, 2) := by decide +kernel
theorem dX0_read_57 : decode cX0_read 57 = .ok (.bipush (-9), 2) := by decide +kernel
theorem dX0_read_59 : decode cX0_read 59 = .ok (.if_icmp .eq 6, 3) := by decide +kernel
theorem dX0_read_62 : decode cX0_read 62 = .ok (.iload 4, 2) := by decide +kernel
theorem dX0_read_64 : decode cX0_read 64 = .ok (.ireturn, 1) := by decide +kernel
theorem dX0_read_65 : decode cX0_read 65 = .ok (.iinc 3 4, 3) := by decide +kernel
theorem dX0_read_68 : decode cX0_read 68 = .ok (.goto (-41), 3) := by decide +kernel
theorem dX0_read_71 : decode cX0_read 71 = .ok (.aload_n 0, 1) := by decide +kernel
theorem dX0_read_72 : decode cX0_read 72 = .ok (.getfield 17, 3) := by decide +kernel
theorem dX0_read_75 : decode cX0_read 75 = .ok (.iconst 2, 1) := by decide +kernel
theorem dX0_read_76 : decode cX0_read 76 = .ok (.if_icmp .ge 7, 3) := by decide +kernel
theorem dX0_read_79 : decode cX0_read 79 = .ok (.iload_n 2, 1) := by decide +kernel
theorem dX0_read_80 : decode cX0_read 80 = .ok (.goto 5, 3) := by decide +kernel
theorem dX0_read_83 : decode cX0_read 83 = .ok (.bipush (-9), 2) := by decide +kernel
theorem dX0_read_85 : decode cX0_read 85 = .ok (.ireturn, 1) := by decide +kernel
/-! X0_read ([BI)I -/
abbrev rmX0_read : Room := { frames := 2, cells := 0, slots := 0, locals := 47 }
theorem lkX0_read_0 : Cond.fieldLink RX0 17 (TX0 1).1 (TX0 1).2.1 (TX0 1).2.2.1 ∈ wsX0_read := by decide +kernel
theorem lkX0_read_1 : Cond.fieldLink RX0 21 (TX0 2).1 (TX0 2).2.1 (TX0 2).2.2.1 ∈ wsX0_read := by decide +kernel
theorem lkX0_read_2 : Cond.fieldLink RX0 24 (TX0 3).1 (TX0 3).2.1 (TX0 3).2.2.1 ∈ wsX0_read := by decide +kernel
theorem lkX0_read_3 : Cond.fieldLink RX0 27 (TX0 4).1 (TX0 4).2.1 (TX0 4).2.2.1 ∈ wsX0_read := by decide +kernel
theorem lkX0_read_4 : Cond.fieldLink RX0 30 (TX0 5).1 (TX0 5).2.1 (TX0 5).2.2.1 ∈ wsX0_read := by decide +kernel
theorem inX0_read_X0 : ∀ w ∈ u_ws RX0 TX0 6, w ∈ wsX0_read := by decide +kernel
noncomputable def fX0_read_b27 (G : mm_G) (a0 : Nat) (a1 : Nat) (x2 : Int32) (x3 : Int32) (σ : mm_M) : Option ((Int32 × mm_M) ⊕ (Int32 × mm_M)) := if x3 < x2 then (if x3 < 0 ∨ mm_N G a1 ≤ x3.toNatClampNeg then none else (if (σ.1 a1 x3.toNatClampNeg) = (32 : Int32) then (some (.inr (x3 + 1, σ))) else ((fX0_readStation G a0 a1 x2 x3 σ).bind (fun q50 => if q50.1 = (-9 : Int32) then (some (.inr (x3 + 4, q50.2))) else (some (.inl (q50.1, q50.2))))))) else (some (.inl (if (σ.1 a0 1) < (2 : Int32) then x2 else (-9 : Int32), σ)))
noncomputable def fX0_read_b0 (G : mm_G) (a0 : Nat) (a1 : Nat) (x2 : Int32) (σ : mm_M) : Option ((Int32 × mm_M) ⊕ (Int32 × mm_M)) := some (.inr ((0 : Int32), mm_up (mm_up (mm_up (mm_up (mm_up σ a0 1 (0 : Int32)) a0 2 (0 : Int32)) a0 3 (0 : Int32)) a0 4 (0 : Int32)) a0 5 (0 : Int32)))
noncomputable def fX0_read_s (G : mm_G) (a0 : Nat) (a1 : Nat) (x2 : Int32) : (Int32 × mm_M) → Option ((Int32 × mm_M) ⊕ (Int32 × mm_M)) := (fun s => fX0_read_b27 G a0 a1 x2 s.1 s.2)
def PX0_read (E : mm_E) (G : mm_G) (a0 : Nat) (a1 : Nat) (x2 : Int32) (q : (Int32 × mm_M)) : (Int32 × mm_M) → Prop := (fun s => mm_At E G 5 (mm_Qi E G q) s.2 27 [(0, .ref a0), (1, .ref a1), (2, .int x2), (3, .int s.1)] [])
noncomputable def fX0_read (G : mm_G) (a0 : Nat) (a1 : Nat) (x2 : Int32) (σ : mm_M) : Option (Int32 × mm_M) := mm_run (fX0_read_b0 G a0 a1 x2 σ) (fX0_read_s G a0 a1 x2)
set_option maxHeartbeats 4000000 in
set_option maxRecDepth 100000 in
theorem wX0_read_b27 {E : mm_E} {G : mm_G} (X : mm_Cx E G cX0_read 5 RX0 wsX0_read rmX0_read (some .int)) {a0 : Nat} {a1 : Nat} {x2 : Int32} {x3 : Int32} {σ : mm_M} {q : (Int32 × mm_M)} (ha0 : mm_Is G 0 a0) (ha1 : mm_Is G 5 a1) {o : (Int32 × mm_M) ⊕ (Int32 × mm_M)} (h : fX0_read_b27 G a0 a1 x2 x3 σ = some o) (hk : mm_Ok q (PX0_read E G a0 a1 x2 q) o) : mm_At E G 5 (mm_Qi E G q) σ 27 [(0, .ref a0), (1, .ref a1), (2, .int x2), (3, .int x3)] [] := by
  unfold fX0_read_b27 at h
  refine at_iload_n (pc := 27) X 3 3 dX0_read_27 rfl rfl ?_
  refine at_iload_n (pc := 28) X 2 2 dX0_read_28 rfl rfl ?_
  refine at_icmp_ge (pc := 29) X 71 dX0_read_29 (by decide) (fun c29 => ?_) (fun c29 => ?_)
  · have h := mm_neg c29 h
    refine at_aload_n (pc := 71) X 0 0 dX0_read_71 rfl rfl ?_
    refine at_get (pc := 72) X 0 1 (.int (σ.1 a0 1)) ha0 (by decide) rfl inX0_read_X0 (by decide) lkX0_read_0 rfl dX0_read_72 ?_
    refine at_iconst (pc := 75) X (2 : Int32) dX0_read_75 ic_2 ?_
    have hj76 : mm_At E G 5 (mm_Qi E G q) σ 85 [] [.int (if (σ.1 a0 1) < (2 : Int32) then x2 else (-9 : Int32))] := by
      exact at_iret (pc := 85) X (mm_inl h hk) dX0_read_85
    refine at_icmp_ge (pc := 76) X 83 dX0_read_76 (by decide) (fun c76 => ?_) (fun c76 => ?_)
    · try simp only [if_neg c76] at hj76
      refine at_bipush (pc := 83) X (-9 : Int32) dX0_read_83 ib_m9 ?_
      exact at_sub [] rfl hj76
    · try simp only [if_pos c76] at hj76
      refine at_iload_n (pc := 79) X 2 2 dX0_read_79 rfl rfl ?_
      refine at_goto (pc := 80) X 85 dX0_read_80 (by decide) ?_
      exact at_sub [] rfl hj76
  · have h := mm_pos c29 h
    refine at_aload_n (pc := 32) X 1 1 dX0_read_32 rfl rfl ?_
    refine at_iload_n (pc := 33) X 3 3 dX0_read_33 rfl rfl ?_
    obtain ⟨hc34, h⟩ := mm_chk h
    refine at_bald (pc := 34) X ha1 hc34 dX0_read_34 ?_
    refine at_bipush (pc := 35) X (32 : Int32) dX0_read_35 ib_32 ?_
    refine at_icmp_ne (pc := 37) X 46 dX0_read_37 (by decide) (fun c37 => ?_) (fun c37 => ?_)
    · have h := mm_neg c37 h
      refine at_aload_n (pc := 46) X 0 0 dX0_read_46 rfl rfl ?_
      refine at_aload_n (pc := 47) X 1 1 dX0_read_47 rfl rfl ?_
      refine at_iload_n (pc := 48) X 2 2 dX0_read_48 rfl rfl ?_
      refine at_iload_n (pc := 49) X 3 3 dX0_read_49 rfl rfl ?_
      obtain ⟨q50, hq50, h⟩ := mm_bind h
      refine at_calli (n := 3) (pc := 50) X 0 [.ref a1, .int x2, .int x3] [] (mX0_readStation (eL E) X.wf ha0 ha1 hq50) gX0_read_X0_readStation rfl ⟨rfl, rfl⟩ (by decide +kernel) ⟨by decide, by decide⟩ (by decide) rfl ha0 rfl rfl (Nat.le_of_ble_eq_true rfl) dX0_read_50 ?_
      refine at_istore (pc := 53) X 4 [(4, .int q50.1), (0, .ref a0), (1, .ref a1), (2, .int x2), (3, .int x3)] dX0_read_53 (by decide) rfl ?_
      refine at_iload (pc := 55) X 4 0 dX0_read_55 rfl ?_
      refine at_bipush (pc := 57) X (-9 : Int32) dX0_read_57 ib_m9 ?_
      refine at_icmp_eq (pc := 59) X 65 dX0_read_59 (by decide) (fun c59 => ?_) (fun c59 => ?_)
      · have h := mm_pos c59 h
        refine at_iinc (pc := 65) X 3 4 (x3 + 4) [(3, .int (x3 + 4)), (4, .int q50.1), (0, .ref a0), (1, .ref a1), (2, .int x2)] dX0_read_65 rfl (ii_4 _) (by decide) rfl ?_
        refine at_goto (pc := 68) X 27 dX0_read_68 (by decide) ?_
        have h2 := mm_inr h hk; exact at_sub [2, 3, 4, 0] rfl h2
      · have h := mm_neg c59 h
        refine at_iload (pc := 62) X 4 0 dX0_read_62 rfl ?_
        exact at_iret (pc := 64) X (mm_inl h hk) dX0_read_64
    · have h := mm_pos c37 h
      refine at_iinc (pc := 40) X 3 3 (x3 + 1) [(3, .int (x3 + 1)), (0, .ref a0), (1, .ref a1), (2, .int x2)] dX0_read_40 rfl (ii_1 _) (by decide) rfl ?_
      refine at_goto (pc := 43) X 27 dX0_read_43 (by decide) ?_
      have h2 := mm_inr h hk; exact at_sub [1, 2, 3, 0] rfl h2
set_option maxHeartbeats 4000000 in
set_option maxRecDepth 100000 in
theorem wX0_read_b0 {E : mm_E} {G : mm_G} (X : mm_Cx E G cX0_read 5 RX0 wsX0_read rmX0_read (some .int)) {a0 : Nat} {a1 : Nat} {x2 : Int32} {σ : mm_M} {q : (Int32 × mm_M)} (ha0 : mm_Is G 0 a0) (ha1 : mm_Is G 5 a1) {o : (Int32 × mm_M) ⊕ (Int32 × mm_M)} (h : fX0_read_b0 G a0 a1 x2 σ = some o) (hk : mm_Ok q (PX0_read E G a0 a1 x2 q) o) : mm_At E G 5 (mm_Qi E G q) σ 0 [(0, .ref a0), (1, .ref a1), (2, .int x2)] [] := by
  unfold fX0_read_b0 at h
  refine at_aload_n (pc := 0) X 0 0 dX0_read_0 rfl rfl ?_
  refine at_iconst (pc := 1) X (0 : Int32) dX0_read_1 ic_0 ?_
  refine at_put (pc := 2) X 0 1 ha0 (by decide) rfl inX0_read_X0 tyX0 tyX0_ok nmX0 (by decide) lkX0_read_0 rfl (ty := .int) rfl rfl rfl (Nat.le_of_ble_eq_true rfl) (ms_0_1 G _ _ _) mm_up_ne dX0_read_2 ?_
  refine at_aload_n (pc := 5) X 0 0 dX0_read_5 rfl rfl ?_
  refine at_iconst (pc := 6) X (0 : Int32) dX0_read_6 ic_0 ?_
  refine at_put (pc := 7) X 0 2 ha0 (by decide) rfl inX0_read_X0 tyX0 tyX0_ok nmX0 (by decide) lkX0_read_1 rfl (ty := .int) rfl rfl rfl (Nat.le_of_ble_eq_true rfl) (ms_0_2 G _ _ _) mm_up_ne dX0_read_7 ?_
  refine at_aload_n (pc := 10) X 0 0 dX0_read_10 rfl rfl ?_
  refine at_iconst (pc := 11) X (0 : Int32) dX0_read_11 ic_0 ?_
  refine at_put (pc := 12) X 0 3 ha0 (by decide) rfl inX0_read_X0 tyX0 tyX0_ok nmX0 (by decide) lkX0_read_2 rfl (ty := .int) rfl rfl rfl (Nat.le_of_ble_eq_true rfl) (ms_0_3 G _ _ _) mm_up_ne dX0_read_12 ?_
  refine at_aload_n (pc := 15) X 0 0 dX0_read_15 rfl rfl ?_
  refine at_iconst (pc := 16) X (0 : Int32) dX0_read_16 ic_0 ?_
  refine at_put (pc := 17) X 0 4 ha0 (by decide) rfl inX0_read_X0 tyX0 tyX0_ok nmX0 (by decide) lkX0_read_3 rfl (ty := .int) rfl rfl rfl (Nat.le_of_ble_eq_true rfl) (ms_0_4 G _ _ _) mm_up_ne dX0_read_17 ?_
  refine at_aload_n (pc := 20) X 0 0 dX0_read_20 rfl rfl ?_
  refine at_iconst (pc := 21) X (0 : Int32) dX0_read_21 ic_0 ?_
  refine at_put (pc := 22) X 0 5 ha0 (by decide) rfl inX0_read_X0 tyX0 tyX0_ok nmX0 (by decide) lkX0_read_4 rfl (ty := .boolean) rfl rfl rfl (Nat.le_of_ble_eq_true rfl) (ms_0_5 G _ _ _) mm_up_ne dX0_read_22 ?_
  refine at_iconst (pc := 25) X (0 : Int32) dX0_read_25 ic_0 ?_
  refine at_istore_n (pc := 26) X 3 [(3, .int (0 : Int32)), (0, .ref a0), (1, .ref a1), (2, .int x2)] dX0_read_26 rfl (by decide) rfl ?_
  have h2 := mm_inr h hk; exact at_sub [1, 2, 3, 0] rfl h2
set_option maxHeartbeats 4000000 in
set_option maxRecDepth 100000 in
theorem mX0_read (l : Launch) {G : mm_G} (hwf : mm_WF G) {a0 : Nat} {a1 : Nat} {x2 : Int32} {σ : mm_M} {q : (Int32 × mm_M)} (ha0 : mm_Is G 0 a0) (ha1 : mm_Is G 5 a1) (h : fX0_read G a0 a1 x2 σ = some q) : mm_Mi l yX0_read wsX0_read rmX0_read G [.ref a0, .ref a1, .int x2] σ q := by
  refine mm_ofi (cc := cX0_read) (nL := 5) (ret := some .int) (own := RX0) (lv0 := [(0, .ref a0), (1, .ref a1), (2, .int x2)]) (by decide) rfl rfl (Nat.le_of_ble_eq_true rfl) rfl hwf (fun E hE X => ?_)
  obtain ⟨o, h0, hk⟩ := mm_run_ok (P := PX0_read E G a0 a1 x2 q) h (fun s o hs hk => by exact wX0_read_b27 X ha0 ha1 hs hk)
  exact wX0_read_b0 X ha0 ha1 h0 hk
theorem dX2_isOf_0 : decode cX2_isOf 0 = .ok (.iload_n 1, 1) := by decide +kernel
theorem dX2_isOf_1 : decode cX2_isOf 1 = .ok (.ifCond .eq 11, 3) := by decide +kernel
theorem dX2_isOf_4 : decode cX2_isOf 4 = .ok (.aload_n 0, 1) := by decide +kernel
theorem dX2_isOf_5 : decode cX2_isOf 5 = .ok (.getfield 9, 3) := by decide +kernel
theorem dX2_isOf_8 : decode cX2_isOf 8 = .ok (.iload_n 1, 1) := by decide +kernel
theorem dX2_isOf_9 : decode cX2_isOf 9 = .ok (.if_icmp .ne 5, 3) := by decide +kernel
theorem dX2_isOf_12 : decode cX2_isOf 12 = .ok (.iconst 1, 1) := by decide +kernel
theorem dX2_isOf_13 : decode cX2_isOf 13 = .ok (.ireturn, 1) := by decide +kernel
theorem dX2_isOf_14 : decode cX2_isOf 14 = .ok (.aload_n 0, 1) := by decide +kernel
theorem dX2_isOf_15 : decode cX2_isOf 15 = .ok (.getfield 9, 3) := by decide +kernel
theorem dX2_isOf_18 : decode cX2_isOf 18 = .ok (.ifCond .lt 28, 3) := by decide +kernel
theorem dX2_isOf_21 : decode cX2_isOf 21 = .ok (.aload_n 0, 1) := by decide +kernel
theorem dX2_isOf_22 : decode cX2_isOf 22 = .ok (.getfield 9, 3) := by decide +kernel
theorem dX2_isOf_25 : decode cX2_isOf 25 = .ok (.bipush 6, 2) := by decide +kernel
theorem dX2_isOf_27 : decode cX2_isOf 27 = .ok (.if_icmp .ge 19, 3) := by decide +kernel
theorem dX2_isOf_30 : decode cX2_isOf 30 = .ok (.getstatic 30, 3) := by decide +kernel
theorem dX2_isOf_33 : decode cX2_isOf 33 = .ok (.aload_n 0, 1) := by decide +kernel
theorem dX2_isOf_34 : decode cX2_isOf 34 = .ok (.getfield 9, 3) := by decide +kernel
theorem dX2_isOf_37 : decode cX2_isOf 37 = .ok (.iaload, 1) := by decide +kernel
theorem dX2_isOf_38 : decode cX2_isOf 38 = .ok (.iload_n 1, 1) := by decide +kernel
theorem dX2_isOf_39 : decode cX2_isOf 39 = .ok (.if_icmp .ne 7, 3) := by decide +kernel
theorem dX2_isOf_42 : decode cX2_isOf 42 = .ok (.iconst 1, 1) := by decide +kernel
theorem dX2_isOf_43 : decode cX2_isOf 43 = .ok (.goto 4, 3) := by decide +kernel
theorem dX2_isOf_46 : decode cX2_isOf 46 = .ok (.iconst 0, 1) := by decide +kernel
theorem dX2_isOf_47 : decode cX2_isOf 47 = .ok (.ireturn, 1) := by decide +kernel
/-! X2_isOf (I)Z -/
abbrev rmX2_isOf : Room := { frames := 0, cells := 0, slots := 0, locals := 0 }
theorem lkX2_isOf_0 : Cond.fieldLink RX2 9 (TX2 0).1 (TX2 0).2.1 (TX2 0).2.2.1 ∈ wsX2_isOf := by decide +kernel
theorem inX2_isOf_X2 : ∀ w ∈ u_ws RX2 TX2 6, w ∈ wsX2_isOf := by decide +kernel
noncomputable def fX2_isOf (G : mm_G) (a0 : Nat) (x1 : Int32) (σ : mm_M) : Option (Int32 × mm_M) := if x1 = 0 then (some ((1 : Int32), σ)) else (if (σ.1 a0 0) = x1 then (some ((1 : Int32), σ)) else (if (σ.1 a0 0) < 0 then (some ((0 : Int32), σ)) else (if (σ.1 a0 0) < (6 : Int32) then (if (σ.1 a0 0) < 0 ∨ 6 ≤ (σ.1 a0 0).toNatClampNeg then none else (some (if (mm_tab 0 (σ.1 a0 0).toNatClampNeg) = x1 then (1 : Int32) else (0 : Int32), σ))) else (some ((0 : Int32), σ)))))
set_option maxHeartbeats 4000000 in
set_option maxRecDepth 100000 in
theorem wX2_isOf_b0 {E : mm_E} {G : mm_G} (X : mm_Cx E G cX2_isOf 2 RX2 wsX2_isOf rmX2_isOf (some .boolean)) {a0 : Nat} {x1 : Int32} {σ : mm_M} {q : (Int32 × mm_M)} (ha0 : mm_Is G 2 a0) (h : fX2_isOf G a0 x1 σ = some q) : mm_At E G 2 (mm_Qi E G q) σ 0 [(0, .ref a0), (1, .int x1)] [] := by
  unfold fX2_isOf at h
  refine at_iload_n (pc := 0) X 1 1 dX2_isOf_0 rfl rfl ?_
  refine at_if_eq (pc := 1) X 12 dX2_isOf_1 (by decide) (fun c1 => ?_) (fun c1 => ?_)
  · have h := mm_pos c1 h
    refine at_iconst (pc := 12) X (1 : Int32) dX2_isOf_12 ic_1 ?_
    exact at_zret (pc := 13) X (Or.inr rfl) (Option.some.inj h) dX2_isOf_13
  · have h := mm_neg c1 h
    refine at_aload_n (pc := 4) X 0 0 dX2_isOf_4 rfl rfl ?_
    refine at_get (pc := 5) X 2 0 (.int (σ.1 a0 0)) ha0 (by decide) rfl inX2_isOf_X2 (by decide) lkX2_isOf_0 rfl dX2_isOf_5 ?_
    refine at_iload_n (pc := 8) X 1 1 dX2_isOf_8 rfl rfl ?_
    refine at_icmp_ne (pc := 9) X 14 dX2_isOf_9 (by decide) (fun c9 => ?_) (fun c9 => ?_)
    · have h := mm_neg c9 h
      refine at_aload_n (pc := 14) X 0 0 dX2_isOf_14 rfl rfl ?_
      refine at_get (pc := 15) X 2 0 (.int (σ.1 a0 0)) ha0 (by decide) rfl inX2_isOf_X2 (by decide) lkX2_isOf_0 rfl dX2_isOf_15 ?_
      refine at_if_lt (pc := 18) X 46 dX2_isOf_18 (by decide) (fun c18 => ?_) (fun c18 => ?_)
      · have h := mm_pos c18 h
        refine at_iconst (pc := 46) X (0 : Int32) dX2_isOf_46 ic_0 ?_
        exact at_zret (pc := 47) X (Or.inl rfl) (Option.some.inj h) dX2_isOf_47
      · have h := mm_neg c18 h
        refine at_aload_n (pc := 21) X 0 0 dX2_isOf_21 rfl rfl ?_
        refine at_get (pc := 22) X 2 0 (.int (σ.1 a0 0)) ha0 (by decide) rfl inX2_isOf_X2 (by decide) lkX2_isOf_0 rfl dX2_isOf_22 ?_
        refine at_bipush (pc := 25) X (6 : Int32) dX2_isOf_25 ib_6 ?_
        refine at_icmp_ge (pc := 27) X 46 dX2_isOf_27 (by decide) (fun c27 => ?_) (fun c27 => ?_)
        · have h := mm_neg c27 h
          refine at_iconst (pc := 46) X (0 : Int32) dX2_isOf_46 ic_0 ?_
          exact at_zret (pc := 47) X (Or.inl rfl) (Option.some.inj h) dX2_isOf_47
        · have h := mm_pos c27 h
          refine at_gets0 (pc := 30) X rfl dX2_isOf_30 ?_
          refine at_aload_n (pc := 33) X 0 0 dX2_isOf_33 rfl rfl ?_
          refine at_get (pc := 34) X 2 0 (.int (σ.1 a0 0)) ha0 (by decide) rfl inX2_isOf_X2 (by decide) lkX2_isOf_0 rfl dX2_isOf_34 ?_
          obtain ⟨hc37, h⟩ := mm_chk h
          refine at_tab0 (pc := 37) X hc37 dX2_isOf_37 ?_
          refine at_iload_n (pc := 38) X 1 1 dX2_isOf_38 rfl rfl ?_
          have hj39 : mm_At E G 2 (mm_Qi E G q) σ 47 [] [.int (if (mm_tab 0 (σ.1 a0 0).toNatClampNeg) = x1 then (1 : Int32) else (0 : Int32))] := by
            exact at_zret (pc := 47) X mm_01 (Option.some.inj h) dX2_isOf_47
          refine at_icmp_ne (pc := 39) X 46 dX2_isOf_39 (by decide) (fun c39 => ?_) (fun c39 => ?_)
          · try simp only [if_neg c39] at hj39
            refine at_iconst (pc := 46) X (0 : Int32) dX2_isOf_46 ic_0 ?_
            exact at_sub [] rfl hj39
          · try simp only [if_pos c39] at hj39
            refine at_iconst (pc := 42) X (1 : Int32) dX2_isOf_42 ic_1 ?_
            refine at_goto (pc := 43) X 47 dX2_isOf_43 (by decide) ?_
            exact at_sub [] rfl hj39
    · have h := mm_pos c9 h
      refine at_iconst (pc := 12) X (1 : Int32) dX2_isOf_12 ic_1 ?_
      exact at_zret (pc := 13) X (Or.inr rfl) (Option.some.inj h) dX2_isOf_13
set_option maxHeartbeats 4000000 in
set_option maxRecDepth 100000 in
theorem mX2_isOf (l : Launch) {G : mm_G} (hwf : mm_WF G) {a0 : Nat} {x1 : Int32} {σ : mm_M} {q : (Int32 × mm_M)} (ha0 : mm_Is G 2 a0) (h : fX2_isOf G a0 x1 σ = some q) : mm_Mi l yX2_isOf wsX2_isOf rmX2_isOf G [.ref a0, .int x1] σ q := by
  refine mm_ofi (cc := cX2_isOf) (nL := 2) (ret := some .boolean) (own := RX2) (lv0 := [(0, .ref a0), (1, .int x1)]) (by decide) rfl rfl (Nat.le_of_ble_eq_true rfl) rfl hwf (fun E hE X => ?_)
  exact wX2_isOf_b0 X ha0 h
set_option maxRecDepth 20000 in
theorem ggX2_wants_X2_isOf : GoodIn wsX2_wants wsX2_isOf := goodIn_r _ [7, 8, 9, 10, 11, 12, 13, 14] (by decide +kernel) (by decide +kernel)
set_option maxRecDepth 20000 in
theorem gX2_wants_X2_isOf : GoodIn wsX2_wants (wsV RX2 34 RX2 yX2_isOf wsX2_isOf) := goodIn_app (goodIn_of _ (by decide +kernel)) ggX2_wants_X2_isOf
theorem dX2_wants_0 : decode cX2_wants 0 = .ok (.aload_n 0, 1) := by decide +kernel
theorem dX2_wants_1 : decode cX2_wants 1 = .ok (.getfield 21, 3) := by decide +kernel
theorem dX2_wants_4 : decode cX2_wants 4 = .ok (.ifCond .le 26, 3) := by decide +kernel
theorem dX2_wants_7 : decode cX2_wants 7 = .ok (.aload_n 0, 1) := by decide +kernel
theorem dX2_wants_8 : decode cX2_wants 8 = .ok (.getfield 24, 3) := by decide +kernel
theorem dX2_wants_11 : decode cX2_wants 11 = .ok (.ifCond .ne 19, 3) := by decide +kernel
theorem dX2_wants_14 : decode cX2_wants 14 = .ok (.iload_n 1, 1) := by decide +kernel
theorem dX2_wants_15 : decode cX2_wants 15 = .ok (.ifCond .eq 11, 3) := by decide +kernel
theorem dX2_wants_18 : decode cX2_wants 18 = .ok (.aload_n 0, 1) := by decide +kernel
theorem dX2_wants_19 : decode cX2_wants 19 = .ok (.iconst 2, 1) := by decide +kernel
theorem dX2_wants_20 : decode cX2_wants 20 = .ok (.invokevirtual 34, 3) := by decide +kernel
theorem dX2_wants_23 : decode cX2_wants 23 = .ok (.ifCond .ne 7, 3) := by decide +kernel
theorem dX2_wants_26 : decode cX2_wants 26 = .ok (.iconst 1, 1) := by decide +kernel
theorem dX2_wants_27 : decode cX2_wants 27 = .ok (.goto 4, 3) := by decide +kernel
theorem dX2_wants_30 : decode cX2_wants 30 = .ok (.iconst 0, 1) := by decide +kernel
theorem dX2_wants_31 : decode cX2_wants 31 = .ok (.ireturn, 1) := by decide +kernel
/-! X2_wants (Z)Z -/
abbrev rmX2_wants : Room := { frames := 1, cells := 0, slots := 0, locals := 21 }
theorem lkX2_wants_0 : Cond.fieldLink RX2 21 (TX2 3).1 (TX2 3).2.1 (TX2 3).2.2.1 ∈ wsX2_wants := by decide +kernel
theorem lkX2_wants_1 : Cond.fieldLink RX2 24 (TX2 4).1 (TX2 4).2.1 (TX2 4).2.2.1 ∈ wsX2_wants := by decide +kernel
theorem inX2_wants_X2 : ∀ w ∈ u_ws RX2 TX2 6, w ∈ wsX2_wants := by decide +kernel
noncomputable def fX2_wants (G : mm_G) (a0 : Nat) (x1 : Int32) (σ : mm_M) : Option (Int32 × mm_M) := if 0 < (σ.1 a0 3) then (if (σ.1 a0 4) = 0 then (if x1 = 0 then (some ((1 : Int32), σ)) else ((fX2_isOf G a0 (2 : Int32) σ).bind (fun q20 => some (if q20.1 = 0 then (1 : Int32) else (0 : Int32), q20.2)))) else (some ((0 : Int32), σ))) else (some ((0 : Int32), σ))
set_option maxHeartbeats 4000000 in
set_option maxRecDepth 100000 in
theorem wX2_wants_b0 {E : mm_E} {G : mm_G} (X : mm_Cx E G cX2_wants 2 RX2 wsX2_wants rmX2_wants (some .boolean)) {a0 : Nat} {x1 : Int32} {σ : mm_M} {q : (Int32 × mm_M)} (ha0 : mm_Is G 2 a0) (h : fX2_wants G a0 x1 σ = some q) : mm_At E G 2 (mm_Qi E G q) σ 0 [(0, .ref a0), (1, .int x1)] [] := by
  unfold fX2_wants at h
  refine at_aload_n (pc := 0) X 0 0 dX2_wants_0 rfl rfl ?_
  refine at_get (pc := 1) X 2 3 (.int (σ.1 a0 3)) ha0 (by decide) rfl inX2_wants_X2 (by decide) lkX2_wants_0 rfl dX2_wants_1 ?_
  refine at_if_le (pc := 4) X 30 dX2_wants_4 (by decide) (fun c4 => ?_) (fun c4 => ?_)
  · have h := mm_neg c4 h
    refine at_iconst (pc := 30) X (0 : Int32) dX2_wants_30 ic_0 ?_
    exact at_zret (pc := 31) X (Or.inl rfl) (Option.some.inj h) dX2_wants_31
  · have h := mm_pos c4 h
    refine at_aload_n (pc := 7) X 0 0 dX2_wants_7 rfl rfl ?_
    refine at_get (pc := 8) X 2 4 (.int (σ.1 a0 4)) ha0 (by decide) rfl inX2_wants_X2 (by decide) lkX2_wants_1 rfl dX2_wants_8 ?_
    refine at_if_ne (pc := 11) X 30 dX2_wants_11 (by decide) (fun c11 => ?_) (fun c11 => ?_)
    · have h := mm_neg c11 h
      refine at_iconst (pc := 30) X (0 : Int32) dX2_wants_30 ic_0 ?_
      exact at_zret (pc := 31) X (Or.inl rfl) (Option.some.inj h) dX2_wants_31
    · have h := mm_pos c11 h
      refine at_iload_n (pc := 14) X 1 1 dX2_wants_14 rfl rfl ?_
      refine at_if_eq (pc := 15) X 26 dX2_wants_15 (by decide) (fun c15 => ?_) (fun c15 => ?_)
      · have h := mm_pos c15 h
        refine at_iconst (pc := 26) X (1 : Int32) dX2_wants_26 ic_1 ?_
        refine at_goto (pc := 27) X 31 dX2_wants_27 (by decide) ?_
        exact at_zret (pc := 31) X (Or.inr rfl) (Option.some.inj h) dX2_wants_31
      · have h := mm_neg c15 h
        refine at_aload_n (pc := 18) X 0 0 dX2_wants_18 rfl rfl ?_
        refine at_iconst (pc := 19) X (2 : Int32) dX2_wants_19 ic_2 ?_
        obtain ⟨q20, hq20, h⟩ := mm_bind h
        refine at_calli (n := 1) (pc := 20) X 2 [.int (2 : Int32)] [] (mX2_isOf (eL E) X.wf ha0 hq20) gX2_wants_X2_isOf rfl ⟨rfl, rfl⟩ (by decide +kernel) ⟨by decide, by decide⟩ (by decide) rfl ha0 rfl rfl (Nat.le_of_ble_eq_true rfl) dX2_wants_20 ?_
        have hj23 : mm_At E G 2 (mm_Qi E G q) q20.2 31 [] [.int (if q20.1 = 0 then (1 : Int32) else (0 : Int32))] := by
          exact at_zret (pc := 31) X mm_01 (Option.some.inj h) dX2_wants_31
        refine at_if_ne (pc := 23) X 30 dX2_wants_23 (by decide) (fun c23 => ?_) (fun c23 => ?_)
        · try simp only [if_neg c23] at hj23
          refine at_iconst (pc := 30) X (0 : Int32) dX2_wants_30 ic_0 ?_
          exact at_sub [] rfl hj23
        · try simp only [if_pos c23] at hj23
          refine at_iconst (pc := 26) X (1 : Int32) dX2_wants_26 ic_1 ?_
          refine at_goto (pc := 27) X 31 dX2_wants_27 (by decide) ?_
          exact at_sub [] rfl hj23
set_option maxHeartbeats 4000000 in
set_option maxRecDepth 100000 in
theorem mX2_wants (l : Launch) {G : mm_G} (hwf : mm_WF G) {a0 : Nat} {x1 : Int32} {σ : mm_M} {q : (Int32 × mm_M)} (ha0 : mm_Is G 2 a0) (h : fX2_wants G a0 x1 σ = some q) : mm_Mi l yX2_wants wsX2_wants rmX2_wants G [.ref a0, .int x1] σ q := by
  refine mm_ofi (cc := cX2_wants) (nL := 2) (ret := some .boolean) (own := RX2) (lv0 := [(0, .ref a0), (1, .int x1)]) (by decide) rfl rfl (Nat.le_of_ble_eq_true rfl) rfl hwf (fun E hE X => ?_)
  exact wX2_wants_b0 X ha0 h
