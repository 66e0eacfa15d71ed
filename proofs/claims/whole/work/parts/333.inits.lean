/-! constructors of Station, Deeds, Air -/
theorem dX2_init_0 : decode cX2_init 0 = .ok (.aload_n 0, 1) := by decide +kernel
theorem dX2_init_1 : decode cX2_init 1 = .ok (.invokespecial 3, 3) := by decide +kernel
theorem dX2_init_4 : decode cX2_init 4 = .ok (.return_, 1) := by decide +kernel
def kw2 (h : Nat) (_ : kk_S) : va_W := [(h, .inr (2, [.int 0, .int 0, .int 0, .int 0, .int 0, .int 0]))]
abbrev rmX2_init : Room := { frames := 1, cells := 0, slots := 0, locals := 12 }
set_option maxHeartbeats 4000000 in
set_option maxRecDepth 100000 in
theorem kM_X2 (l : Launch) (D : va_G) (C : Nat → ClassId) : kk_M l yX2_init wsX2_init rmX2_init D C (.inr (2, [.int 0, .int 0, .int 0, .int 0, .int 0, .int 0])) kw2 0 0 := by
  refine kk_of (own := RX2) (by decide) rfl rfl rfl (by decide) (fun E h hE X hin hr => ?_)
  refine k_aload_n (pc := 0) X 0 0 dX2_init_0 rfl rfl ?_
  refine k_obj (pc := 1) X (List.mem_of_getElem? (i := 1) rfl) (List.mem_of_getElem? (i := 2) rfl) (List.mem_of_getElem? (i := 3) rfl) (by decide) (by decide) dX2_init_1 ?_
  exact k_vret (pc := 4) X hr (wf := kw2 h) (fun _ _ => 0) rfl dX2_init_4
theorem dX1_init_0 : decode cX1_init 0 = .ok (.aload_n 0, 1) := by decide +kernel
theorem dX1_init_1 : decode cX1_init 1 = .ok (.invokespecial 3, 3) := by decide +kernel
theorem dX1_init_4 : decode cX1_init 4 = .ok (.aload_n 0, 1) := by decide +kernel
theorem dX1_init_5 : decode cX1_init 5 = .ok (.bipush 40, 2) := by decide +kernel
theorem dX1_init_7 : decode cX1_init 7 = .ok (.newarray .int, 2) := by decide +kernel
theorem dX1_init_9 : decode cX1_init 9 = .ok (.putfield 9, 3) := by decide +kernel
theorem dX1_init_12 : decode cX1_init 12 = .ok (.aload_n 0, 1) := by decide +kernel
theorem dX1_init_13 : decode cX1_init 13 = .ok (.iconst 0, 1) := by decide +kernel
theorem dX1_init_14 : decode cX1_init 14 = .ok (.putfield 15, 3) := by decide +kernel
theorem dX1_init_17 : decode cX1_init 17 = .ok (.return_, 1) := by decide +kernel
def kw1 (C : Nat → ClassId) (h : Nat) (r : kk_S) : va_W := [(h, .inr (1, [.ref (r 0 0), .int 0])), (r 0 0, .inl (C 6, 40, .inl (fun _ => 0)))]
abbrev rmX1_init : Room := { frames := 1, cells := 1, slots := 40, locals := 12 }
theorem inX1_init : ∀ w ∈ u_ws RX1 TX1 2, w ∈ wsX1_init := by decide +kernel
set_option maxHeartbeats 4000000 in
set_option maxRecDepth 100000 in
theorem kM_X1 (l : Launch) (D : va_G) (C : Nat → ClassId) : kk_M l yX1_init wsX1_init rmX1_init D C (.inr (1, [.null, .int 0])) (kw1 C) 1 40 := by
  refine kk_of (own := RX1) (by decide) rfl rfl rfl (by decide) (fun E h hE X hin hr => ?_)
  refine k_aload_n (pc := 0) X 0 0 dX1_init_0 rfl rfl ?_
  refine k_obj (pc := 1) X (List.mem_of_getElem? (i := 1) rfl) (List.mem_of_getElem? (i := 2) rfl) (List.mem_of_getElem? (i := 3) rfl) (by decide) (by decide) dX1_init_1 ?_
  refine k_aload_n (pc := 4) X 0 0 dX1_init_4 rfl rfl ?_
  refine k_bipush (pc := 5) X (40 : Int32) dX1_init_5 ib_40 ?_
  refine k_newi (pc := 7) X 40 (List.mem_of_getElem? (i := 4) rfl) (by decide) (by decide) (by decide) (by decide) (by decide) dX1_init_7 (fun q => ?_)
  refine k_putF (pc := 9) X hin 0 0 (ws' := [(h, .inr (1, [.ref q, .int 0])), (q, .inl (C 6, 40, .inl (fun _ => 0)))]) rfl rfl inX1_init tyX1 tyX1_ok nmX1 (by decide) (List.mem_of_getElem? (i := 5) rfl) rfl rfl (ty := .array .int) (by decide +kernel) rfl rfl (Nat.le_of_ble_eq_true rfl) rfl dX1_init_9 ?_
  refine k_aload_n (pc := 12) X 0 0 dX1_init_12 rfl rfl ?_
  refine k_iconst (pc := 13) X (0 : Int32) dX1_init_13 ic_0 ?_
  refine k_put (pc := 14) X 0 1 (ws' := [(h, .inr (1, [.ref q, .int 0])), (q, .inl (C 6, 40, .inl (fun _ => 0)))]) rfl rfl inX1_init tyX1 tyX1_ok nmX1 (by decide) (List.mem_of_getElem? (i := 6) rfl) rfl (ty := .int) (by decide +kernel) rfl rfl (Nat.le_of_ble_eq_true rfl) rfl dX1_init_14 ?_
  exact k_vret (pc := 17) X hr (wf := kw1 C h) (fun _ _ => q) rfl dX1_init_17
set_option maxRecDepth 20000 in
theorem ggX0_init_X2_init : GoodIn wsX0_init wsX2_init := goodIn_r _ [14, 15, 2, 3] (by decide +kernel) (by decide +kernel)
set_option maxRecDepth 20000 in
theorem gX0_init_X2_init_n34 : GoodIn wsX0_init (wsX2_init) := ggX0_init_X2_init
theorem dX0_init_0 : decode cX0_init 0 = .ok (.aload_n 0, 1) := by decide +kernel
theorem dX0_init_1 : decode cX0_init 1 = .ok (.invokespecial 3, 3) := by decide +kernel
theorem dX0_init_4 : decode cX0_init 4 = .ok (.aload_n 0, 1) := by decide +kernel
theorem dX0_init_5 : decode cX0_init 5 = .ok (.bipush 7, 2) := by decide +kernel
theorem dX0_init_7 : decode cX0_init 7 = .ok (.anewarray 9, 3) := by decide +kernel
theorem dX0_init_10 : decode cX0_init 10 = .ok (.putfield 11, 3) := by decide +kernel
theorem dX0_init_13 : decode cX0_init 13 = .ok (.aload_n 0, 1) := by decide +kernel
theorem dX0_init_14 : decode cX0_init 14 = .ok (.iconst 0, 1) := by decide +kernel
theorem dX0_init_15 : decode cX0_init 15 = .ok (.putfield 17, 3) := by decide +kernel
theorem dX0_init_18 : decode cX0_init 18 = .ok (.aload_n 0, 1) := by decide +kernel
theorem dX0_init_19 : decode cX0_init 19 = .ok (.iconst 0, 1) := by decide +kernel
theorem dX0_init_20 : decode cX0_init 20 = .ok (.putfield 21, 3) := by decide +kernel
theorem dX0_init_23 : decode cX0_init 23 = .ok (.aload_n 0, 1) := by decide +kernel
theorem dX0_init_24 : decode cX0_init 24 = .ok (.iconst 0, 1) := by decide +kernel
theorem dX0_init_25 : decode cX0_init 25 = .ok (.putfield 24, 3) := by decide +kernel
theorem dX0_init_28 : decode cX0_init 28 = .ok (.aload_n 0, 1) := by decide +kernel
theorem dX0_init_29 : decode cX0_init 29 = .ok (.iconst 0, 1) := by decide +kernel
theorem dX0_init_30 : decode cX0_init 30 = .ok (.putfield 27, 3) := by decide +kernel
theorem dX0_init_33 : decode cX0_init 33 = .ok (.aload_n 0, 1) := by decide +kernel
theorem dX0_init_34 : decode cX0_init 34 = .ok (.iconst 0, 1) := by decide +kernel
theorem dX0_init_35 : decode cX0_init 35 = .ok (.putfield 30, 3) := by decide +kernel
theorem dX0_init_38 : decode cX0_init 38 = .ok (.iconst 0, 1) := by decide +kernel
theorem dX0_init_39 : decode cX0_init 39 = .ok (.istore_n 1, 1) := by decide +kernel
theorem dX0_init_40 : decode cX0_init 40 = .ok (.iload_n 1, 1) := by decide +kernel
theorem dX0_init_41 : decode cX0_init 41 = .ok (.bipush 7, 2) := by decide +kernel
theorem dX0_init_43 : decode cX0_init 43 = .ok (.if_icmp .ge 22, 3) := by decide +kernel
theorem dX0_init_46 : decode cX0_init 46 = .ok (.aload_n 0, 1) := by decide +kernel
theorem dX0_init_47 : decode cX0_init 47 = .ok (.getfield 11, 3) := by decide +kernel
theorem dX0_init_50 : decode cX0_init 50 = .ok (.iload_n 1, 1) := by decide +kernel
theorem dX0_init_51 : decode cX0_init 51 = .ok (.new 9, 3) := by decide +kernel
theorem dX0_init_54 : decode cX0_init 54 = .ok (.dup, 1) := by decide +kernel
theorem dX0_init_55 : decode cX0_init 55 = .ok (.invokespecial 34, 3) := by decide +kernel
theorem dX0_init_58 : decode cX0_init 58 = .ok (.aastore, 1) := by decide +kernel
theorem dX0_init_59 : decode cX0_init 59 = .ok (.iinc 1 1, 3) := by decide +kernel
theorem dX0_init_62 : decode cX0_init 62 = .ok (.goto (-22), 3) := by decide +kernel
theorem dX0_init_65 : decode cX0_init 65 = .ok (.return_, 1) := by decide +kernel
def kw0 (C : Nat → ClassId) (h : Nat) (r : kk_S) : va_W := [(h, .inr (0, [.ref (r 0 7), .int 0, .int 0, .int 0, .int 0, .int 0])), (r 0 7, .inl (C 8, 7, .inr (.inr (.inr (.inr (fun i => some (r 0 i))))))), (r 0 0, .inr (2, [.int 0, .int 0, .int 0, .int 0, .int 0, .int 0])), (r 0 1, .inr (2, [.int 0, .int 0, .int 0, .int 0, .int 0, .int 0])), (r 0 2, .inr (2, [.int 0, .int 0, .int 0, .int 0, .int 0, .int 0])), (r 0 3, .inr (2, [.int 0, .int 0, .int 0, .int 0, .int 0, .int 0])), (r 0 4, .inr (2, [.int 0, .int 0, .int 0, .int 0, .int 0, .int 0])), (r 0 5, .inr (2, [.int 0, .int 0, .int 0, .int 0, .int 0, .int 0])), (r 0 6, .inr (2, [.int 0, .int 0, .int 0, .int 0, .int 0, .int 0]))]
abbrev rmX0_init : Room := { frames := 2, cells := 8, slots := 49, locals := 40 }
theorem inX0_init : ∀ w ∈ u_ws RX0 TX0 6, w ∈ wsX0_init := by decide +kernel
theorem inX0_init2 : ∀ w ∈ u_ws RX2 TX2 6, w ∈ wsX0_init := by decide +kernel
set_option maxHeartbeats 4000000 in
set_option maxRecDepth 100000 in
theorem kM_X0 (l : Launch) (D : va_G) (C : Nat → ClassId) : kk_M l yX0_init wsX0_init rmX0_init D C (.inr (0, [.null, .int 0, .int 0, .int 0, .int 0, .int 0])) (kw0 C) 8 49 := by
  refine kk_of (own := RX0) (by decide) rfl rfl rfl (by decide) (fun E h hE X hin hr => ?_)
  refine k_aload_n (pc := 0) X 0 0 dX0_init_0 rfl rfl ?_
  refine k_obj (pc := 1) X (List.mem_of_getElem? (i := 1) rfl) (List.mem_of_getElem? (i := 2) rfl) (List.mem_of_getElem? (i := 3) rfl) (by decide) (by decide) dX0_init_1 ?_
  refine k_aload_n (pc := 4) X 0 0 dX0_init_4 rfl rfl ?_
  refine k_bipush (pc := 5) X (7 : Int32) dX0_init_5 ib_7 ?_
  refine k_newq (pc := 7) X 7 3 rfl X.tt.2.2.2.1 (List.mem_of_getElem? (i := 4) rfl) (by decide) (by decide) (by decide) (by decide) (by decide) dX0_init_7 (fun q => ?_)
  refine k_putF (pc := 10) X hin 0 0 (ws' := [(h, .inr (0, [.ref q, .int 0, .int 0, .int 0, .int 0, .int 0])), (q, .inl (C 8, 7, .inr (.inr (.inr (.inr (fun _ => none))))))]) rfl rfl inX0_init tyX0 tyX0_ok nmX0 (by decide) (List.mem_of_getElem? (i := 5) rfl) rfl rfl (ty := .array (.object "AirTalkers$Station")) (by decide +kernel) rfl rfl (Nat.le_of_ble_eq_true rfl) rfl dX0_init_10 ?_
  refine k_aload_n (pc := 13) X 0 0 dX0_init_13 rfl rfl ?_
  refine k_iconst (pc := 14) X (0 : Int32) dX0_init_14 ic_0 ?_
  refine k_put (pc := 15) X 0 1 (ws' := [(h, .inr (0, [.ref q, .int 0, .int 0, .int 0, .int 0, .int 0])), (q, .inl (C 8, 7, .inr (.inr (.inr (.inr (fun _ => none))))))]) rfl rfl inX0_init tyX0 tyX0_ok nmX0 (by decide) (List.mem_of_getElem? (i := 6) rfl) rfl (ty := .int) (by decide +kernel) rfl rfl (Nat.le_of_ble_eq_true rfl) rfl dX0_init_15 ?_
  refine k_aload_n (pc := 18) X 0 0 dX0_init_18 rfl rfl ?_
  refine k_iconst (pc := 19) X (0 : Int32) dX0_init_19 ic_0 ?_
  refine k_put (pc := 20) X 0 2 (ws' := [(h, .inr (0, [.ref q, .int 0, .int 0, .int 0, .int 0, .int 0])), (q, .inl (C 8, 7, .inr (.inr (.inr (.inr (fun _ => none))))))]) rfl rfl inX0_init tyX0 tyX0_ok nmX0 (by decide) (List.mem_of_getElem? (i := 7) rfl) rfl (ty := .int) (by decide +kernel) rfl rfl (Nat.le_of_ble_eq_true rfl) rfl dX0_init_20 ?_
  refine k_aload_n (pc := 23) X 0 0 dX0_init_23 rfl rfl ?_
  refine k_iconst (pc := 24) X (0 : Int32) dX0_init_24 ic_0 ?_
  refine k_put (pc := 25) X 0 3 (ws' := [(h, .inr (0, [.ref q, .int 0, .int 0, .int 0, .int 0, .int 0])), (q, .inl (C 8, 7, .inr (.inr (.inr (.inr (fun _ => none))))))]) rfl rfl inX0_init tyX0 tyX0_ok nmX0 (by decide) (List.mem_of_getElem? (i := 8) rfl) rfl (ty := .int) (by decide +kernel) rfl rfl (Nat.le_of_ble_eq_true rfl) rfl dX0_init_25 ?_
  refine k_aload_n (pc := 28) X 0 0 dX0_init_28 rfl rfl ?_
  refine k_iconst (pc := 29) X (0 : Int32) dX0_init_29 ic_0 ?_
  refine k_put (pc := 30) X 0 4 (ws' := [(h, .inr (0, [.ref q, .int 0, .int 0, .int 0, .int 0, .int 0])), (q, .inl (C 8, 7, .inr (.inr (.inr (.inr (fun _ => none))))))]) rfl rfl inX0_init tyX0 tyX0_ok nmX0 (by decide) (List.mem_of_getElem? (i := 9) rfl) rfl (ty := .int) (by decide +kernel) rfl rfl (Nat.le_of_ble_eq_true rfl) rfl dX0_init_30 ?_
  refine k_aload_n (pc := 33) X 0 0 dX0_init_33 rfl rfl ?_
  refine k_iconst (pc := 34) X (0 : Int32) dX0_init_34 ic_0 ?_
  refine k_put (pc := 35) X 0 5 (ws' := [(h, .inr (0, [.ref q, .int 0, .int 0, .int 0, .int 0, .int 0])), (q, .inl (C 8, 7, .inr (.inr (.inr (.inr (fun _ => none))))))]) rfl rfl inX0_init tyX0 tyX0_ok nmX0 (by decide) (List.mem_of_getElem? (i := 10) rfl) rfl (ty := .boolean) (by decide +kernel) rfl rfl (Nat.le_of_ble_eq_true rfl) rfl dX0_init_35 ?_
  refine k_iconst (pc := 38) X (nI 0) dX0_init_38 (by decide) ?_
  refine k_istore_n (pc := 39) X 1 [(1, .int (nI 0)), (0, .ref h)] dX0_init_39 rfl (by decide) rfl ?_
  refine k_iload_n (pc := 40) X 1 0 dX0_init_40 rfl rfl ?_
  refine k_bipush (pc := 41) X (7 : Int32) dX0_init_41 ib_7 ?_
  refine k_in (pc := 43) X (by decide) 65 dX0_init_43 (by decide) ?_
  refine k_aload_n (pc := 46) X 0 1 dX0_init_46 rfl rfl ?_
  refine k_get (pc := 47) X 0 0 (.ref q) rfl rfl inX0_init (by decide) (List.mem_of_getElem? (i := 5) rfl) rfl dX0_init_47 ?_
  refine k_iload_n (pc := 50) X 1 0 dX0_init_50 rfl rfl ?_
  refine k_makeN (pc := 51) X (kM_X2 _ D C) rfl inX0_init2 tyX2 tyX2_ok (by decide +kernel) (List.mem_of_getElem? (i := 4) rfl) (List.mem_of_getElem? (i := 11) rfl) (List.mem_of_getElem? (i := 12) rfl) X.tt.2.2.2.2.2.1 (List.mem_of_getElem? (i := 13) rfl) gX0_init_X2_init_n34 rfl ⟨rfl, rfl⟩ rfl rfl (by decide +kernel) ⟨(Nat.le_of_ble_eq_true rfl), (Nat.le_of_ble_eq_true rfl)⟩ (Nat.le_of_ble_eq_true rfl) (Nat.le_of_ble_eq_true rfl) (fun _ => (Nat.le_of_ble_eq_true rfl)) dX0_init_51 dX0_init_54 dX0_init_55 (fun s0 _ => ?_)
  refine k_astq (pc := 58) X 1 3 2 0 (ws' := [(h, .inr (0, [.ref q, .int 0, .int 0, .int 0, .int 0, .int 0])), (q, .inl (C 8, 7, .inr (.inr (.inr (.inr (va_up (fun _ => none) 0 (some s0))))))), (s0, .inr (2, [.int 0, .int 0, .int 0, .int 0, .int 0, .int 0]))]) rfl rfl rfl rfl (vp_in_nI (by decide) (by decide)) (nI_clamp (by decide)) rfl dX0_init_58 ?_
  refine k_iinc (pc := 59) X 1 0 (nI 1) [(1, .int (nI 1)), (0, .ref h)] dX0_init_59 rfl (by decide) (by decide) rfl ?_
  refine k_goto (pc := 62) X 40 dX0_init_62 (by decide) ?_
  refine k_iload_n (pc := 40) X 1 0 dX0_init_40 rfl rfl ?_
  refine k_bipush (pc := 41) X (7 : Int32) dX0_init_41 ib_7 ?_
  refine k_in (pc := 43) X (by decide) 65 dX0_init_43 (by decide) ?_
  refine k_aload_n (pc := 46) X 0 1 dX0_init_46 rfl rfl ?_
  refine k_get (pc := 47) X 0 0 (.ref q) rfl rfl inX0_init (by decide) (List.mem_of_getElem? (i := 5) rfl) rfl dX0_init_47 ?_
  refine k_iload_n (pc := 50) X 1 0 dX0_init_50 rfl rfl ?_
  refine k_makeN (pc := 51) X (kM_X2 _ D C) rfl inX0_init2 tyX2 tyX2_ok (by decide +kernel) (List.mem_of_getElem? (i := 4) rfl) (List.mem_of_getElem? (i := 11) rfl) (List.mem_of_getElem? (i := 12) rfl) X.tt.2.2.2.2.2.1 (List.mem_of_getElem? (i := 13) rfl) gX0_init_X2_init_n34 rfl ⟨rfl, rfl⟩ rfl rfl (by decide +kernel) ⟨(Nat.le_of_ble_eq_true rfl), (Nat.le_of_ble_eq_true rfl)⟩ (Nat.le_of_ble_eq_true rfl) (Nat.le_of_ble_eq_true rfl) (fun _ => (Nat.le_of_ble_eq_true rfl)) dX0_init_51 dX0_init_54 dX0_init_55 (fun s1 _ => ?_)
  refine k_astq (pc := 58) X 1 3 3 1 (ws' := [(h, .inr (0, [.ref q, .int 0, .int 0, .int 0, .int 0, .int 0])), (q, .inl (C 8, 7, .inr (.inr (.inr (.inr (va_up (va_up (fun _ => none) 0 (some s0)) 1 (some s1))))))), (s0, .inr (2, [.int 0, .int 0, .int 0, .int 0, .int 0, .int 0])), (s1, .inr (2, [.int 0, .int 0, .int 0, .int 0, .int 0, .int 0]))]) rfl rfl rfl rfl (vp_in_nI (by decide) (by decide)) (nI_clamp (by decide)) rfl dX0_init_58 ?_
  refine k_iinc (pc := 59) X 1 0 (nI 2) [(1, .int (nI 2)), (0, .ref h)] dX0_init_59 rfl (by decide) (by decide) rfl ?_
  refine k_goto (pc := 62) X 40 dX0_init_62 (by decide) ?_
  refine k_iload_n (pc := 40) X 1 0 dX0_init_40 rfl rfl ?_
  refine k_bipush (pc := 41) X (7 : Int32) dX0_init_41 ib_7 ?_
  refine k_in (pc := 43) X (by decide) 65 dX0_init_43 (by decide) ?_
  refine k_aload_n (pc := 46) X 0 1 dX0_init_46 rfl rfl ?_
  refine k_get (pc := 47) X 0 0 (.ref q) rfl rfl inX0_init (by decide) (List.mem_of_getElem? (i := 5) rfl) rfl dX0_init_47 ?_
  refine k_iload_n (pc := 50) X 1 0 dX0_init_50 rfl rfl ?_
  refine k_makeN (pc := 51) X (kM_X2 _ D C) rfl inX0_init2 tyX2 tyX2_ok (by decide +kernel) (List.mem_of_getElem? (i := 4) rfl) (List.mem_of_getElem? (i := 11) rfl) (List.mem_of_getElem? (i := 12) rfl) X.tt.2.2.2.2.2.1 (List.mem_of_getElem? (i := 13) rfl) gX0_init_X2_init_n34 rfl ⟨rfl, rfl⟩ rfl rfl (by decide +kernel) ⟨(Nat.le_of_ble_eq_true rfl), (Nat.le_of_ble_eq_true rfl)⟩ (Nat.le_of_ble_eq_true rfl) (Nat.le_of_ble_eq_true rfl) (fun _ => (Nat.le_of_ble_eq_true rfl)) dX0_init_51 dX0_init_54 dX0_init_55 (fun s2 _ => ?_)
  refine k_astq (pc := 58) X 1 3 4 2 (ws' := [(h, .inr (0, [.ref q, .int 0, .int 0, .int 0, .int 0, .int 0])), (q, .inl (C 8, 7, .inr (.inr (.inr (.inr (va_up (va_up (va_up (fun _ => none) 0 (some s0)) 1 (some s1)) 2 (some s2))))))), (s0, .inr (2, [.int 0, .int 0, .int 0, .int 0, .int 0, .int 0])), (s1, .inr (2, [.int 0, .int 0, .int 0, .int 0, .int 0, .int 0])), (s2, .inr (2, [.int 0, .int 0, .int 0, .int 0, .int 0, .int 0]))]) rfl rfl rfl rfl (vp_in_nI (by decide) (by decide)) (nI_clamp (by decide)) rfl dX0_init_58 ?_
  refine k_iinc (pc := 59) X 1 0 (nI 3) [(1, .int (nI 3)), (0, .ref h)] dX0_init_59 rfl (by decide) (by decide) rfl ?_
  refine k_goto (pc := 62) X 40 dX0_init_62 (by decide) ?_
  refine k_iload_n (pc := 40) X 1 0 dX0_init_40 rfl rfl ?_
  refine k_bipush (pc := 41) X (7 : Int32) dX0_init_41 ib_7 ?_
  refine k_in (pc := 43) X (by decide) 65 dX0_init_43 (by decide) ?_
  refine k_aload_n (pc := 46) X 0 1 dX0_init_46 rfl rfl ?_
  refine k_get (pc := 47) X 0 0 (.ref q) rfl rfl inX0_init (by decide) (List.mem_of_getElem? (i := 5) rfl) rfl dX0_init_47 ?_
  refine k_iload_n (pc := 50) X 1 0 dX0_init_50 rfl rfl ?_
  refine k_makeN (pc := 51) X (kM_X2 _ D C) rfl inX0_init2 tyX2 tyX2_ok (by decide +kernel) (List.mem_of_getElem? (i := 4) rfl) (List.mem_of_getElem? (i := 11) rfl) (List.mem_of_getElem? (i := 12) rfl) X.tt.2.2.2.2.2.1 (List.mem_of_getElem? (i := 13) rfl) gX0_init_X2_init_n34 rfl ⟨rfl, rfl⟩ rfl rfl (by decide +kernel) ⟨(Nat.le_of_ble_eq_true rfl), (Nat.le_of_ble_eq_true rfl)⟩ (Nat.le_of_ble_eq_true rfl) (Nat.le_of_ble_eq_true rfl) (fun _ => (Nat.le_of_ble_eq_true rfl)) dX0_init_51 dX0_init_54 dX0_init_55 (fun s3 _ => ?_)
  refine k_astq (pc := 58) X 1 3 5 3 (ws' := [(h, .inr (0, [.ref q, .int 0, .int 0, .int 0, .int 0, .int 0])), (q, .inl (C 8, 7, .inr (.inr (.inr (.inr (va_up (va_up (va_up (va_up (fun _ => none) 0 (some s0)) 1 (some s1)) 2 (some s2)) 3 (some s3))))))), (s0, .inr (2, [.int 0, .int 0, .int 0, .int 0, .int 0, .int 0])), (s1, .inr (2, [.int 0, .int 0, .int 0, .int 0, .int 0, .int 0])), (s2, .inr (2, [.int 0, .int 0, .int 0, .int 0, .int 0, .int 0])), (s3, .inr (2, [.int 0, .int 0, .int 0, .int 0, .int 0, .int 0]))]) rfl rfl rfl rfl (vp_in_nI (by decide) (by decide)) (nI_clamp (by decide)) rfl dX0_init_58 ?_
  refine k_iinc (pc := 59) X 1 0 (nI 4) [(1, .int (nI 4)), (0, .ref h)] dX0_init_59 rfl (by decide) (by decide) rfl ?_
  refine k_goto (pc := 62) X 40 dX0_init_62 (by decide) ?_
  refine k_iload_n (pc := 40) X 1 0 dX0_init_40 rfl rfl ?_
  refine k_bipush (pc := 41) X (7 : Int32) dX0_init_41 ib_7 ?_
  refine k_in (pc := 43) X (by decide) 65 dX0_init_43 (by decide) ?_
  refine k_aload_n (pc := 46) X 0 1 dX0_init_46 rfl rfl ?_
  refine k_get (pc := 47) X 0 0 (.ref q) rfl rfl inX0_init (by decide) (List.mem_of_getElem? (i := 5) rfl) rfl dX0_init_47 ?_
  refine k_iload_n (pc := 50) X 1 0 dX0_init_50 rfl rfl ?_
  refine k_makeN (pc := 51) X (kM_X2 _ D C) rfl inX0_init2 tyX2 tyX2_ok (by decide +kernel) (List.mem_of_getElem? (i := 4) rfl) (List.mem_of_getElem? (i := 11) rfl) (List.mem_of_getElem? (i := 12) rfl) X.tt.2.2.2.2.2.1 (List.mem_of_getElem? (i := 13) rfl) gX0_init_X2_init_n34 rfl ⟨rfl, rfl⟩ rfl rfl (by decide +kernel) ⟨(Nat.le_of_ble_eq_true rfl), (Nat.le_of_ble_eq_true rfl)⟩ (Nat.le_of_ble_eq_true rfl) (Nat.le_of_ble_eq_true rfl) (fun _ => (Nat.le_of_ble_eq_true rfl)) dX0_init_51 dX0_init_54 dX0_init_55 (fun s4 _ => ?_)
  refine k_astq (pc := 58) X 1 3 6 4 (ws' := [(h, .inr (0, [.ref q, .int 0, .int 0, .int 0, .int 0, .int 0])), (q, .inl (C 8, 7, .inr (.inr (.inr (.inr (va_up (va_up (va_up (va_up (va_up (fun _ => none) 0 (some s0)) 1 (some s1)) 2 (some s2)) 3 (some s3)) 4 (some s4))))))), (s0, .inr (2, [.int 0, .int 0, .int 0, .int 0, .int 0, .int 0])), (s1, .inr (2, [.int 0, .int 0, .int 0, .int 0, .int 0, .int 0])), (s2, .inr (2, [.int 0, .int 0, .int 0, .int 0, .int 0, .int 0])), (s3, .inr (2, [.int 0, .int 0, .int 0, .int 0, .int 0, .int 0])), (s4, .inr (2, [.int 0, .int 0, .int 0, .int 0, .int 0, .int 0]))]) rfl rfl rfl rfl (vp_in_nI (by decide) (by decide)) (nI_clamp (by decide)) rfl dX0_init_58 ?_
  refine k_iinc (pc := 59) X 1 0 (nI 5) [(1, .int (nI 5)), (0, .ref h)] dX0_init_59 rfl (by decide) (by decide) rfl ?_
  refine k_goto (pc := 62) X 40 dX0_init_62 (by decide) ?_
  refine k_iload_n (pc := 40) X 1 0 dX0_init_40 rfl rfl ?_
  refine k_bipush (pc := 41) X (7 : Int32) dX0_init_41 ib_7 ?_
  refine k_in (pc := 43) X (by decide) 65 dX0_init_43 (by decide) ?_
  refine k_aload_n (pc := 46) X 0 1 dX0_init_46 rfl rfl ?_
  refine k_get (pc := 47) X 0 0 (.ref q) rfl rfl inX0_init (by decide) (List.mem_of_getElem? (i := 5) rfl) rfl dX0_init_47 ?_
  refine k_iload_n (pc := 50) X 1 0 dX0_init_50 rfl rfl ?_
  refine k_makeN (pc := 51) X (kM_X2 _ D C) rfl inX0_init2 tyX2 tyX2_ok (by decide +kernel) (List.mem_of_getElem? (i := 4) rfl) (List.mem_of_getElem? (i := 11) rfl) (List.mem_of_getElem? (i := 12) rfl) X.tt.2.2.2.2.2.1 (List.mem_of_getElem? (i := 13) rfl) gX0_init_X2_init_n34 rfl ⟨rfl, rfl⟩ rfl rfl (by decide +kernel) ⟨(Nat.le_of_ble_eq_true rfl), (Nat.le_of_ble_eq_true rfl)⟩ (Nat.le_of_ble_eq_true rfl) (Nat.le_of_ble_eq_true rfl) (fun _ => (Nat.le_of_ble_eq_true rfl)) dX0_init_51 dX0_init_54 dX0_init_55 (fun s5 _ => ?_)
  refine k_astq (pc := 58) X 1 3 7 5 (ws' := [(h, .inr (0, [.ref q, .int 0, .int 0, .int 0, .int 0, .int 0])), (q, .inl (C 8, 7, .inr (.inr (.inr (.inr (va_up (va_up (va_up (va_up (va_up (va_up (fun _ => none) 0 (some s0)) 1 (some s1)) 2 (some s2)) 3 (some s3)) 4 (some s4)) 5 (some s5))))))), (s0, .inr (2, [.int 0, .int 0, .int 0, .int 0, .int 0, .int 0])), (s1, .inr (2, [.int 0, .int 0, .int 0, .int 0, .int 0, .int 0])), (s2, .inr (2, [.int 0, .int 0, .int 0, .int 0, .int 0, .int 0])), (s3, .inr (2, [.int 0, .int 0, .int 0, .int 0, .int 0, .int 0])), (s4, .inr (2, [.int 0, .int 0, .int 0, .int 0, .int 0, .int 0])), (s5, .inr (2, [.int 0, .int 0, .int 0, .int 0, .int 0, .int 0]))]) rfl rfl rfl rfl (vp_in_nI (by decide) (by decide)) (nI_clamp (by decide)) rfl dX0_init_58 ?_
  refine k_iinc (pc := 59) X 1 0 (nI 6) [(1, .int (nI 6)), (0, .ref h)] dX0_init_59 rfl (by decide) (by decide) rfl ?_
  refine k_goto (pc := 62) X 40 dX0_init_62 (by decide) ?_
  refine k_iload_n (pc := 40) X 1 0 dX0_init_40 rfl rfl ?_
  refine k_bipush (pc := 41) X (7 : Int32) dX0_init_41 ib_7 ?_
  refine k_in (pc := 43) X (by decide) 65 dX0_init_43 (by decide) ?_
  refine k_aload_n (pc := 46) X 0 1 dX0_init_46 rfl rfl ?_
  refine k_get (pc := 47) X 0 0 (.ref q) rfl rfl inX0_init (by decide) (List.mem_of_getElem? (i := 5) rfl) rfl dX0_init_47 ?_
  refine k_iload_n (pc := 50) X 1 0 dX0_init_50 rfl rfl ?_
  refine k_makeN (pc := 51) X (kM_X2 _ D C) rfl inX0_init2 tyX2 tyX2_ok (by decide +kernel) (List.mem_of_getElem? (i := 4) rfl) (List.mem_of_getElem? (i := 11) rfl) (List.mem_of_getElem? (i := 12) rfl) X.tt.2.2.2.2.2.1 (List.mem_of_getElem? (i := 13) rfl) gX0_init_X2_init_n34 rfl ⟨rfl, rfl⟩ rfl rfl (by decide +kernel) ⟨(Nat.le_of_ble_eq_true rfl), (Nat.le_of_ble_eq_true rfl)⟩ (Nat.le_of_ble_eq_true rfl) (Nat.le_of_ble_eq_true rfl) (fun _ => (Nat.le_of_ble_eq_true rfl)) dX0_init_51 dX0_init_54 dX0_init_55 (fun s6 _ => ?_)
  refine k_astq (pc := 58) X 1 3 8 6 (ws' := [(h, .inr (0, [.ref q, .int 0, .int 0, .int 0, .int 0, .int 0])), (q, .inl (C 8, 7, .inr (.inr (.inr (.inr (va_up (va_up (va_up (va_up (va_up (va_up (va_up (fun _ => none) 0 (some s0)) 1 (some s1)) 2 (some s2)) 3 (some s3)) 4 (some s4)) 5 (some s5)) 6 (some s6))))))), (s0, .inr (2, [.int 0, .int 0, .int 0, .int 0, .int 0, .int 0])), (s1, .inr (2, [.int 0, .int 0, .int 0, .int 0, .int 0, .int 0])), (s2, .inr (2, [.int 0, .int 0, .int 0, .int 0, .int 0, .int 0])), (s3, .inr (2, [.int 0, .int 0, .int 0, .int 0, .int 0, .int 0])), (s4, .inr (2, [.int 0, .int 0, .int 0, .int 0, .int 0, .int 0])), (s5, .inr (2, [.int 0, .int 0, .int 0, .int 0, .int 0, .int 0])), (s6, .inr (2, [.int 0, .int 0, .int 0, .int 0, .int 0, .int 0]))]) rfl rfl rfl rfl (vp_in_nI (by decide) (by decide)) (nI_clamp (by decide)) rfl dX0_init_58 ?_
  refine k_iinc (pc := 59) X 1 0 (nI 7) [(1, .int (nI 7)), (0, .ref h)] dX0_init_59 rfl (by decide) (by decide) rfl ?_
  refine k_goto (pc := 62) X 40 dX0_init_62 (by decide) ?_
  refine k_iload_n (pc := 40) X 1 0 dX0_init_40 rfl rfl ?_
  refine k_bipush (pc := 41) X (7 : Int32) dX0_init_41 ib_7 ?_
  refine k_out (pc := 43) X (by decide) 65 dX0_init_43 (by decide) ?_
  refine k_fix 1 (fun i => some ([s0, s1, s2, s3, s4, s5, s6, q].getD i 0)) (ws' := [(h, .inr (0, [.ref q, .int 0, .int 0, .int 0, .int 0, .int 0])), (q, .inl (C 8, 7, .inr (.inr (.inr (.inr (fun i => some ([s0, s1, s2, s3, s4, s5, s6, q].getD i 0))))))), (s0, .inr (2, [.int 0, .int 0, .int 0, .int 0, .int 0, .int 0])), (s1, .inr (2, [.int 0, .int 0, .int 0, .int 0, .int 0, .int 0])), (s2, .inr (2, [.int 0, .int 0, .int 0, .int 0, .int 0, .int 0])), (s3, .inr (2, [.int 0, .int 0, .int 0, .int 0, .int 0, .int 0])), (s4, .inr (2, [.int 0, .int 0, .int 0, .int 0, .int 0, .int 0])), (s5, .inr (2, [.int 0, .int 0, .int 0, .int 0, .int 0, .int 0])), (s6, .inr (2, [.int 0, .int 0, .int 0, .int 0, .int 0, .int 0]))]) rfl (fun i hi => ?_) rfl ?_
  · rcases (show i = 0 ∨ i = 1 ∨ i = 2 ∨ i = 3 ∨ i = 4 ∨ i = 5 ∨ i = 6 by omega) with rfl | rfl | rfl | rfl | rfl | rfl | rfl <;> rfl
  exact k_vret (pc := 65) X hr (wf := kw0 C h) (fun _ i => [s0, s1, s2, s3, s4, s5, s6, q].getD i 0) rfl dX0_init_65
