/-! X3_watch X3_greatestPart X3_test -/
set_option maxRecDepth 20000 in
theorem ggX3_watch_X0_become : GoodIn wsX3_watch wsX0_become := goodIn_r _ [10, 11, 12, 13, 14, 15, 16, 17, 18, 19, 20, 21, 22, 23, 24, 25, 26, 27, 101, 102, 103, 104, 105, 106, 107, 108, 109, 110, 111, 112] (by decide +kernel) (by decide +kernel)
set_option maxRecDepth 20000 in
theorem gX3_watch_X0_become : GoodIn wsX3_watch (wsV RX3 108 RX0 yX0_become wsX0_become) := goodIn_app (goodIn_of _ (by decide +kernel)) ggX3_watch_X0_become
set_option maxRecDepth 20000 in
theorem ggX3_watch_X0_goBy : GoodIn wsX3_watch wsX0_goBy := goodIn_r _ [31, 11, 16, 32, 13, 12, 14, 15, 33, 34, 35, 9, 36, 37, 38, 39, 20, 40, 25, 26, 41, 42, 43, 44, 22, 45, 46, 47, 48, 49, 50, 51, 52, 53, 54, 55, 27, 56, 57, 58, 59, 60, 61, 62, 63, 64, 65, 66, 67, 23, 24, 68, 69, 70, 71, 72, 73, 74, 75, 76, 77, 78, 79, 80, 81, 82, 101, 102, 103, 104, 105, 106, 107, 108, 109, 110, 111, 112] (by decide +kernel) (by decide +kernel)
set_option maxRecDepth 20000 in
theorem gX3_watch_X0_goBy : GoodIn wsX3_watch (wsV RX3 183 RX0 yX0_goBy wsX0_goBy) := goodIn_app (goodIn_of _ (by decide +kernel)) ggX3_watch_X0_goBy
set_option maxRecDepth 20000 in
theorem ggX3_watch_J6_bitCount_0f7a4 : GoodIn wsX3_watch wsJ6_bitCount_0f7a4 := goodIn_r _ [48, 49, 50, 51] (by decide +kernel) (by decide +kernel)
set_option maxRecDepth 20000 in
theorem gX3_watch_J6_bitCount_0f7a4 : GoodIn wsX3_watch (va_wsS RX3 168 yJ6_bitCount_0f7a4 wsJ6_bitCount_0f7a4) := goodIn_app (goodIn_of _ (by decide +kernel)) ggX3_watch_J6_bitCount_0f7a4
theorem dX3_watch_0 : decode cX3_watch 0 = .ok (.iconst 0, 1) := by decide +kernel
theorem dX3_watch_1 : decode cX3_watch 1 = .ok (.istore_n 3, 1) := by decide +kernel
theorem dX3_watch_2 : decode cX3_watch 2 = .ok (.iload_n 3, 1) := by decide +kernel
theorem dX3_watch_3 : decode cX3_watch 3 = .ok (.bipush 6, 2) := by decide +kernel
theorem dX3_watch_5 : decode cX3_watch 5 = .ok (.if_icmp .ge 80, 3) := by decide +kernel
theorem dX3_watch_8 : decode cX3_watch 8 = .ok (.iload_n 2, 1) := by decide +kernel
theorem dX3_watch_9 : decode cX3_watch 9 = .ok (.iload_n 3, 1) := by decide +kernel
theorem dX3_watch_10 : decode cX3_watch 10 = .ok (.ishr, 1) := by decide +kernel
theorem dX3_watch_11 : decode cX3_watch 11 = .ok (.iconst 1, 1) := by decide +kernel
theorem dX3_watch_12 : decode cX3_watch 12 = .ok (.iand, 1) := by decide +kernel
theorem dX3_watch_13 : decode cX3_watch 13 = .ok (.ifCond .ne 6, 3) := by decide +kernel
theorem dX3_watch_16 : decode cX3_watch 16 = .ok (.goto 63, 3) := by decide +kernel
theorem dX3_watch_19 : decode cX3_watch 19 = .ok (.aload_n 0, 1) := by decide +kernel
theorem dX3_watch_20 : decode cX3_watch 20 = .ok (.getfield 47, 3) := by decide +kernel
theorem dX3_watch_23 : decode cX3_watch 23 = .ok (.aload_n 0, 1) := by decide +kernel
theorem dX3_watch_24 : decode cX3_watch 24 = .ok (.getfield 33, 3) := by decide +kernel
theorem dX3_watch_27 : decode cX3_watch 27 = .ok (.invokevirtual 108, 3) := by decide +kernel
theorem dX3_watch_30 : decode cX3_watch 30 = .ok (.aload_n 0, 1) := by decide +kernel
theorem dX3_watch_31 : decode cX3_watch 31 = .ok (.getfield 47, 3) := by decide +kernel
theorem dX3_watch_34 : decode cX3_watch 34 = .ok (.getfield 116, 3) := by decide +kernel
theorem dX3_watch_37 : decode cX3_watch 37 = .ok (.iload_n 1, 1) := by decide +kernel
theorem dX3_watch_38 : decode cX3_watch 38 = .ok (.aaload, 1) := by decide +kernel
theorem dX3_watch_39 : decode cX3_watch 39 = .ok (.iload_n 3, 1) := by decide +kernel
theorem dX3_watch_40 : decode cX3_watch 40 = .ok (.putfield 245, 3) := by decide +kernel
theorem dX3_watch_43 : decode cX3_watch 43 = .ok (.iconst 0, 1) := by decide +kernel
theorem dX3_watch_44 : decode cX3_watch 44 = .ok (.istore 4, 2) := by decide +kernel
theorem dX3_watch_46 : decode cX3_watch 46 = .ok (.iload 4, 2) := by decide +kernel
theorem dX3_watch_48 : decode cX3_watch 48 = .ok (.bipush 20, 2) := by decide +kernel
theorem dX3_watch_50 : decode cX3_watch 50 = .ok (.if_icmp .ge 29, 3) := by decide +kernel
theorem dX3_watch_53 : decode cX3_watch 53 = .ok (.aload_n 0, 1) := by decide +kernel
theorem dX3_watch_54 : decode cX3_watch 54 = .ok (.getfield 56, 3) := by decide +kernel
theorem dX3_watch_57 : decode cX3_watch 57 = .ok (.iload_n 3, 1) := by decide +kernel
theorem dX3_watch_58 : decode cX3_watch 58 = .ok (.aaload, 1) := by decide +kernel
theorem dX3_watch_59 : decode cX3_watch 59 = .ok (.iload 4, 2) := by decide +kernel
theorem dX3_watch_61 : decode cX3_watch 61 = .ok (.aload_n 0, 1) := by decide +kernel
theorem dX3_watch_62 : decode cX3_watch 62 = .ok (.getfield 47, 3) := by decide +kernel
theorem dX3_watch_65 : decode cX3_watch 65 = .ok (.iconst 0, 1) := by decide +kernel
theorem dX3_watch_66 : decode cX3_watch 66 = .ok (.invokevirtual 183, 3) := by decide +kernel
theorem dX3_watch_69 : decode cX3_watch 69 = .ok (.invokestatic 168, 3) := by decide +kernel
theorem dX3_watch_72 : decode cX3_watch 72 = .ok (.iastore, 1) := by decide +kernel
theorem dX3_watch_73 : decode cX3_watch 73 = .ok (.iinc 4 1, 3) := by decide +kernel
theorem dX3_watch_76 : decode cX3_watch 76 = .ok (.goto (-30), 3) := by decide +kernel
theorem dX3_watch_79 : decode cX3_watch 79 = .ok (.iinc 3 1, 3) := by decide +kernel
theorem dX3_watch_82 : decode cX3_watch 82 = .ok (.goto (-80), 3) := by decide +kernel
theorem dX3_watch_85 : decode cX3_watch 85 = .ok (.return_, 1) := by decide +kernel
/-! X3_watch (II)V -/
abbrev rmX3_watch : Room := { frames := 5, cells := 0, slots := 0, locals := 105 }
theorem lkX3_watch_0 : Cond.fieldLink RX3 47 (TX3 8).1 (TX3 8).2.1 (TX3 8).2.2.1 ∈ wsX3_watch := by decide +kernel
theorem lkX3_watch_1 : Cond.fieldLink RX3 33 (TX3 5).1 (TX3 5).2.1 (TX3 5).2.2.1 ∈ wsX3_watch := by decide +kernel
theorem lkX3_watch_2 : Cond.fieldLink RX3 116 (TX0 0).1 (TX0 0).2.1 (TX0 0).2.2.1 ∈ wsX3_watch := by decide +kernel
theorem lkX3_watch_3 : Cond.fieldLink RX3 245 (TX2 0).1 (TX2 0).2.1 (TX2 0).2.2.1 ∈ wsX3_watch := by decide +kernel
theorem lkX3_watch_4 : Cond.fieldLink RX3 56 (TX3 11).1 (TX3 11).2.1 (TX3 11).2.2.1 ∈ wsX3_watch := by decide +kernel
theorem inX3_watch_X3 : ∀ w ∈ u_ws RX3 TX3 17, w ∈ wsX3_watch := by decide +kernel
theorem inX3_watch_X0 : ∀ w ∈ u_ws RX0 TX0 6, w ∈ wsX3_watch := by decide +kernel
theorem inX3_watch_X2 : ∀ w ∈ u_ws RX2 TX2 6, w ∈ wsX3_watch := by decide +kernel
noncomputable def fX3_watch_b46 (G : mm_G) (a0 : Nat) (x1 : Int32) (x2 : Int32) (x3 : Int32) (x4 : Int32) (σ : mm_M) : Option (mm_M ⊕ ((Int32 × mm_M) ⊕ (Int32 × Int32 × mm_M))) := if x4 < (20 : Int32) then (if x3 < 0 ∨ mm_N G (mm_R G a0 11) ≤ x3.toNatClampNeg then none else ((fX0_goBy G (mm_R G a0 8) (0 : Int32) σ).bind (fun q66 => (fJ6_bitCount_0f7a4 G q66.1 q66.2).bind (fun q69 => if x4 < 0 ∨ mm_N G (mm_R G (mm_R G a0 11) x3.toNatClampNeg) ≤ x4.toNatClampNeg then none else (some (.inr (.inr (x3, x4 + 1, mm_up q69.2 (mm_R G (mm_R G a0 11) x3.toNatClampNeg) x4.toNatClampNeg q69.1)))))))) else (some (.inr (.inl (x3 + 1, σ))))
noncomputable def fX3_watch_b2 (G : mm_G) (a0 : Nat) (x1 : Int32) (x2 : Int32) (x3 : Int32) (σ : mm_M) : Option (mm_M ⊕ ((Int32 × mm_M) ⊕ (Int32 × Int32 × mm_M))) := if x3 < (6 : Int32) then (if ((x2 >>> (x3 &&& 31)) &&& (1 : Int32)) = 0 then (some (.inr (.inl (x3 + 1, σ)))) else ((fX0_become G (mm_R G a0 8) (mm_R G a0 5) σ).bind (fun q27 => if x1 < 0 ∨ mm_N G (mm_R G (mm_R G a0 8) 0) ≤ x1.toNatClampNeg then none else (some (.inr (.inr (x3, (0 : Int32), mm_up q27 (mm_R G (mm_R G (mm_R G a0 8) 0) x1.toNatClampNeg) 0 x3))))))) else (some (.inl σ))
noncomputable def fX3_watch_b0 (G : mm_G) (a0 : Nat) (x1 : Int32) (x2 : Int32) (σ : mm_M) : Option (mm_M ⊕ ((Int32 × mm_M) ⊕ (Int32 × Int32 × mm_M))) := some (.inr (.inl ((0 : Int32), σ)))
noncomputable def fX3_watch_s (G : mm_G) (a0 : Nat) (x1 : Int32) (x2 : Int32) : ((Int32 × mm_M) ⊕ (Int32 × Int32 × mm_M)) → Option (mm_M ⊕ ((Int32 × mm_M) ⊕ (Int32 × Int32 × mm_M))) := (Sum.elim (fun s => fX3_watch_b2 G a0 x1 x2 s.1 s.2) (fun s => fX3_watch_b46 G a0 x1 x2 s.1 s.2.1 s.2.2))
def PX3_watch (E : mm_E) (G : mm_G) (a0 : Nat) (x1 : Int32) (x2 : Int32) (q : mm_M) : ((Int32 × mm_M) ⊕ (Int32 × Int32 × mm_M)) → Prop := (Sum.elim (fun s => mm_At E G 5 (mm_Qv E G q) s.2 2 [(0, .ref a0), (1, .int x1), (2, .int x2), (3, .int s.1)] []) (fun s => mm_At E G 5 (mm_Qv E G q) s.2.2 46 [(0, .ref a0), (1, .int x1), (2, .int x2), (3, .int s.1), (4, .int s.2.1)] []))
noncomputable def fX3_watch (G : mm_G) (a0 : Nat) (x1 : Int32) (x2 : Int32) (σ : mm_M) : Option mm_M := mm_run (fX3_watch_b0 G a0 x1 x2 σ) (fX3_watch_s G a0 x1 x2)
set_option maxHeartbeats 4000000 in
set_option maxRecDepth 100000 in
theorem wX3_watch_b46 {E : mm_E} {G : mm_G} (X : mm_Cx E G cX3_watch 5 RX3 wsX3_watch rmX3_watch (none)) {a0 : Nat} {x1 : Int32} {x2 : Int32} {x3 : Int32} {x4 : Int32} {σ : mm_M} {q : mm_M} (ha0 : mm_Is G 3 a0) {o : mm_M ⊕ ((Int32 × mm_M) ⊕ (Int32 × Int32 × mm_M))} (h : fX3_watch_b46 G a0 x1 x2 x3 x4 σ = some o) (hk : mm_Ok q (PX3_watch E G a0 x1 x2 q) o) : mm_At E G 5 (mm_Qv E G q) σ 46 [(0, .ref a0), (1, .int x1), (2, .int x2), (3, .int x3), (4, .int x4)] [] := by
  unfold fX3_watch_b46 at h
  refine at_iload (pc := 46) X 4 4 dX3_watch_46 rfl ?_
  refine at_bipush (pc := 48) X (20 : Int32) dX3_watch_48 ib_20 ?_
  refine at_icmp_ge (pc := 50) X 79 dX3_watch_50 (by decide) (fun c50 => ?_) (fun c50 => ?_)
  · have h := mm_neg c50 h
    refine at_iinc (pc := 79) X 3 3 (x3 + 1) [(3, .int (x3 + 1)), (0, .ref a0), (1, .int x1), (2, .int x2), (4, .int x4)] dX3_watch_79 rfl (ii_1 _) (by decide) rfl ?_
    refine at_goto (pc := 82) X 2 dX3_watch_82 (by decide) ?_
    have h2 := mm_inr h hk; exact at_sub [1, 2, 3, 0] rfl h2
  · have h := mm_pos c50 h
    refine at_aload_n (pc := 53) X 0 0 dX3_watch_53 rfl rfl ?_
    refine at_get (pc := 54) X 3 11 (.ref (mm_R G a0 11)) ha0 (by decide) rfl inX3_watch_X3 (by decide) lkX3_watch_4 rfl dX3_watch_54 ?_
    refine at_iload_n (pc := 57) X 3 3 dX3_watch_57 rfl rfl ?_
    obtain ⟨hc58, h⟩ := mm_chk h
    refine at_aald (pc := 58) X 10 5 (wf_3_11 X.wf ha0) (by decide) (by decide) rfl rfl hc58 dX3_watch_58 ?_
    refine at_iload (pc := 59) X 4 4 dX3_watch_59 rfl ?_
    refine at_aload_n (pc := 61) X 0 0 dX3_watch_61 rfl rfl ?_
    refine at_get (pc := 62) X 3 8 (.ref (mm_R G a0 8)) ha0 (by decide) rfl inX3_watch_X3 (by decide) lkX3_watch_0 rfl dX3_watch_62 ?_
    refine at_iconst (pc := 65) X (0 : Int32) dX3_watch_65 ic_0 ?_
    obtain ⟨q66, hq66, h⟩ := mm_bind h
    refine at_calli (n := 1) (pc := 66) X 0 [.int (0 : Int32)] [.int x4, .ref (mm_R G (mm_R G a0 11) x3.toNatClampNeg)] (mX0_goBy (eL E) X.wf (wf_3_8 X.wf ha0) hq66) gX3_watch_X0_goBy rfl ⟨rfl, rfl⟩ (by decide +kernel) ⟨by decide, by decide⟩ (by decide) rfl (wf_3_8 X.wf ha0) rfl rfl (Nat.le_of_ble_eq_true rfl) dX3_watch_66 ?_
    obtain ⟨q69, hq69, h⟩ := mm_bind h
    refine at_scalli (n := 1) (pc := 69) X [.int q66.1] [.int x4, .ref (mm_R G (mm_R G a0 11) x3.toNatClampNeg)] (mJ6_bitCount_0f7a4 (eL E) X.wf hq69) gX3_watch_J6_bitCount_0f7a4 rfl ⟨rfl, rfl⟩ (by decide +kernel) ⟨by decide, by decide⟩ rfl rfl (Nat.le_of_ble_eq_true rfl) dX3_watch_69 ?_
    obtain ⟨hc72, h⟩ := mm_chk h
    refine at_iast (pc := 72) X (wf_10 X.wf (wf_3_11 X.wf ha0) hc58) hc72 dX3_watch_72 ?_
    refine at_iinc (pc := 73) X 4 4 (x4 + 1) [(4, .int (x4 + 1)), (0, .ref a0), (1, .int x1), (2, .int x2), (3, .int x3)] dX3_watch_73 rfl (ii_1 _) (by decide) rfl ?_
    refine at_goto (pc := 76) X 46 dX3_watch_76 (by decide) ?_
    have h2 := mm_inr h hk; exact at_sub [1, 2, 3, 4, 0] rfl h2
set_option maxHeartbeats 4000000 in
set_option maxRecDepth 100000 in
theorem wX3_watch_b2 {E : mm_E} {G : mm_G} (X : mm_Cx E G cX3_watch 5 RX3 wsX3_watch rmX3_watch (none)) {a0 : Nat} {x1 : Int32} {x2 : Int32} {x3 : Int32} {σ : mm_M} {q : mm_M} (ha0 : mm_Is G 3 a0) {o : mm_M ⊕ ((Int32 × mm_M) ⊕ (Int32 × Int32 × mm_M))} (h : fX3_watch_b2 G a0 x1 x2 x3 σ = some o) (hk : mm_Ok q (PX3_watch E G a0 x1 x2 q) o) : mm_At E G 5 (mm_Qv E G q) σ 2 [(0, .ref a0), (1, .int x1), (2, .int x2), (3, .int x3)] [] := by
  unfold fX3_watch_b2 at h
  refine at_iload_n (pc := 2) X 3 3 dX3_watch_2 rfl rfl ?_
  refine at_bipush (pc := 3) X (6 : Int32) dX3_watch_3 ib_6 ?_
  refine at_icmp_ge (pc := 5) X 85 dX3_watch_5 (by decide) (fun c5 => ?_) (fun c5 => ?_)
  · have h := mm_neg c5 h
    exact at_vret (pc := 85) X (mm_inl h hk) dX3_watch_85
  · have h := mm_pos c5 h
    refine at_iload_n (pc := 8) X 2 2 dX3_watch_8 rfl rfl ?_
    refine at_iload_n (pc := 9) X 3 3 dX3_watch_9 rfl rfl ?_
    refine at_ishr (pc := 10) X dX3_watch_10 ?_
    refine at_iconst (pc := 11) X (1 : Int32) dX3_watch_11 ic_1 ?_
    refine at_iand (pc := 12) X dX3_watch_12 ?_
    refine at_if_ne (pc := 13) X 19 dX3_watch_13 (by decide) (fun c13 => ?_) (fun c13 => ?_)
    · have h := mm_neg c13 h
      refine at_aload_n (pc := 19) X 0 0 dX3_watch_19 rfl rfl ?_
      refine at_get (pc := 20) X 3 8 (.ref (mm_R G a0 8)) ha0 (by decide) rfl inX3_watch_X3 (by decide) lkX3_watch_0 rfl dX3_watch_20 ?_
      refine at_aload_n (pc := 23) X 0 0 dX3_watch_23 rfl rfl ?_
      refine at_get (pc := 24) X 3 5 (.ref (mm_R G a0 5)) ha0 (by decide) rfl inX3_watch_X3 (by decide) lkX3_watch_1 rfl dX3_watch_24 ?_
      obtain ⟨q27, hq27, h⟩ := mm_bind h
      refine at_callv (n := 1) (pc := 27) X 0 [.ref (mm_R G a0 5)] [] (mX0_become (eL E) X.wf (wf_3_8 X.wf ha0) (wf_3_5 X.wf ha0) hq27) gX3_watch_X0_become rfl ⟨rfl, rfl⟩ (by decide +kernel) ⟨by decide, by decide⟩ (by decide) rfl (wf_3_8 X.wf ha0) rfl rfl (Nat.le_of_ble_eq_true rfl) dX3_watch_27 ?_
      refine at_aload_n (pc := 30) X 0 0 dX3_watch_30 rfl rfl ?_
      refine at_get (pc := 31) X 3 8 (.ref (mm_R G a0 8)) ha0 (by decide) rfl inX3_watch_X3 (by decide) lkX3_watch_0 rfl dX3_watch_31 ?_
      refine at_get (pc := 34) X 0 0 (.ref (mm_R G (mm_R G a0 8) 0)) (wf_3_8 X.wf ha0) (by decide) rfl inX3_watch_X0 (by decide) lkX3_watch_2 rfl dX3_watch_34 ?_
      refine at_iload_n (pc := 37) X 1 1 dX3_watch_37 rfl rfl ?_
      obtain ⟨hc38, h⟩ := mm_chk h
      refine at_aald (pc := 38) X 8 3 (wf_0_0 X.wf (wf_3_8 X.wf ha0)) (by decide) (by decide) rfl rfl hc38 dX3_watch_38 ?_
      refine at_iload_n (pc := 39) X 3 3 dX3_watch_39 rfl rfl ?_
      refine at_put (pc := 40) X 2 0 (wf_8 X.wf (wf_0_0 X.wf (wf_3_8 X.wf ha0)) hc38) (by decide) rfl inX3_watch_X2 tyX2 tyX2_ok nmX2 (by decide) lkX3_watch_3 rfl (ty := .int) rfl rfl rfl (Nat.le_of_ble_eq_true rfl) (ms_2_0 G _ _ _) mm_up_ne dX3_watch_40 ?_
      refine at_iconst (pc := 43) X (0 : Int32) dX3_watch_43 ic_0 ?_
      refine at_istore (pc := 44) X 4 [(4, .int (0 : Int32)), (0, .ref a0), (1, .int x1), (2, .int x2), (3, .int x3)] dX3_watch_44 (by decide) rfl ?_
      have h2 := mm_inr h hk; exact at_sub [1, 2, 3, 4, 0] rfl h2
    · have h := mm_pos c13 h
      refine at_goto (pc := 16) X 79 dX3_watch_16 (by decide) ?_
      refine at_iinc (pc := 79) X 3 3 (x3 + 1) [(3, .int (x3 + 1)), (0, .ref a0), (1, .int x1), (2, .int x2)] dX3_watch_79 rfl (ii_1 _) (by decide) rfl ?_
      refine at_goto (pc := 82) X 2 dX3_watch_82 (by decide) ?_
      have h2 := mm_inr h hk; exact at_sub [1, 2, 3, 0] rfl h2
set_option maxHeartbeats 4000000 in
set_option maxRecDepth 100000 in
theorem wX3_watch_b0 {E : mm_E} {G : mm_G} (X : mm_Cx E G cX3_watch 5 RX3 wsX3_watch rmX3_watch (none)) {a0 : Nat} {x1 : Int32} {x2 : Int32} {σ : mm_M} {q : mm_M} (ha0 : mm_Is G 3 a0) {o : mm_M ⊕ ((Int32 × mm_M) ⊕ (Int32 × Int32 × mm_M))} (h : fX3_watch_b0 G a0 x1 x2 σ = some o) (hk : mm_Ok q (PX3_watch E G a0 x1 x2 q) o) : mm_At E G 5 (mm_Qv E G q) σ 0 [(0, .ref a0), (1, .int x1), (2, .int x2)] [] := by
  unfold fX3_watch_b0 at h
  refine at_iconst (pc := 0) X (0 : Int32) dX3_watch_0 ic_0 ?_
  refine at_istore_n (pc := 1) X 3 [(3, .int (0 : Int32)), (0, .ref a0), (1, .int x1), (2, .int x2)] dX3_watch_1 rfl (by decide) rfl ?_
  have h2 := mm_inr h hk; exact at_sub [1, 2, 3, 0] rfl h2
set_option maxHeartbeats 4000000 in
set_option maxRecDepth 100000 in
theorem mX3_watch (l : Launch) {G : mm_G} (hwf : mm_WF G) {a0 : Nat} {x1 : Int32} {x2 : Int32} {σ : mm_M} {q : mm_M} (ha0 : mm_Is G 3 a0) (h : fX3_watch G a0 x1 x2 σ = some q) : mm_Mv l yX3_watch wsX3_watch rmX3_watch G [.ref a0, .int x1, .int x2] σ q := by
  refine mm_ofv (cc := cX3_watch) (nL := 5) (ret := none) (own := RX3) (lv0 := [(0, .ref a0), (1, .int x1), (2, .int x2)]) (by decide) rfl rfl (Nat.le_of_ble_eq_true rfl) rfl hwf (fun E hE X => ?_)
  obtain ⟨o, h0, hk⟩ := mm_run_ok (P := PX3_watch E G a0 x1 x2 q) h (fun s o hs hk => by cases s with | inl s => exact wX3_watch_b2 X ha0 hs hk | inr s => (exact wX3_watch_b46 X ha0 hs hk))
  exact wX3_watch_b0 X ha0 h0 hk
theorem dX3_greatestPart_0 : decode cX3_greatestPart 0 = .ok (.iconst 0, 1) := by decide +kernel
theorem dX3_greatestPart_1 : decode cX3_greatestPart 1 = .ok (.istore_n 3, 1) := by decide +kernel
theorem dX3_greatestPart_2 : decode cX3_greatestPart 2 = .ok (.iconst 0, 1) := by decide +kernel
theorem dX3_greatestPart_3 : decode cX3_greatestPart 3 = .ok (.istore 4, 2) := by decide +kernel
theorem dX3_greatestPart_5 : decode cX3_greatestPart 5 = .ok (.iload 4, 2) := by decide +kernel
theorem dX3_greatestPart_7 : decode cX3_greatestPart 7 = .ok (.bipush 6, 2) := by decide +kernel
theorem dX3_greatestPart_9 : decode cX3_greatestPart 9 = .ok (.if_icmp .ge 77, 3) := by decide +kernel
theorem dX3_greatestPart_12 : decode cX3_greatestPart 12 = .ok (.iconst 0, 1) := by decide +kernel
theorem dX3_greatestPart_13 : decode cX3_greatestPart 13 = .ok (.istore 5, 2) := by decide +kernel
theorem dX3_greatestPart_15 : decode cX3_greatestPart 15 = .ok (.iconst 0, 1) := by decide +kernel
theorem dX3_greatestPart_16 : decode cX3_greatestPart 16 = .ok (.istore 6, 2) := by decide +kernel
theorem dX3_greatestPart_18 : decode cX3_greatestPart 18 = .ok (.iload 6, 2) := by decide +kernel
theorem dX3_greatestPart_20 : decode cX3_greatestPart 20 = .ok (.bipush 6, 2) := by decide +kernel
theorem dX3_greatestPart_22 : decode cX3_greatestPart 22 = .ok (.if_icmp .ge 42, 3) := by decide +kernel
theorem dX3_greatestPart_25 : decode cX3_greatestPart 25 = .ok (.iload_n 1, 1) := by decide +kernel
theorem dX3_greatestPart_26 : decode cX3_greatestPart 26 = .ok (.iload 6, 2) := by decide +kernel
theorem dX3_greatestPart_28 : decode cX3_greatestPart 28 = .ok (.ishr, 1) := by decide +kernel
theorem dX3_greatestPart_29 : decode cX3_greatestPart 29 = .ok (.iconst 1, 1) := by decide +kernel
theorem dX3_greatestPart_30 : decode cX3_greatestPart 30 = .ok (.iand, 1) := by decide +kernel
theorem dX3_greatestPart_31 : decode cX3_greatestPart 31 = .ok (.ifCond .eq 27, 3) := by decide +kernel
theorem dX3_greatestPart_34 : decode cX3_greatestPart 34 = .ok (.aload_n 0, 1) := by decide +kernel
theorem dX3_greatestPart_35 : decode cX3_greatestPart 35 = .ok (.getfield 56, 3) := by decide +kernel
theorem dX3_greatestPart_38 : decode cX3_greatestPart 38 = .ok (.iload 6, 2) := by decide +kernel
theorem dX3_greatestPart_40 : decode cX3_greatestPart 40 = .ok (.aaload, 1) := by decide +kernel
theorem dX3_greatestPart_41 : decode cX3_greatestPart 41 = .ok (.iload_n 2, 1) := by decide +kernel
theorem dX3_greatestPart_42 : decode cX3_greatestPart 42 = .ok (.iaload, 1) := by decide +kernel
theorem dX3_greatestPart_43 : decode cX3_greatestPart 43 = .ok (.aload_n 0, 1) := by decide +kernel
theorem dX3_greatestPart_44 : decode cX3_greatestPart 44 = .ok (.getfield 56, 3) := by decide +kernel
theorem dX3_greatestPart_47 : decode cX3_greatestPart 47 = .ok (.iload 4, 2) := by decide +kernel
theorem dX3_greatestPart_49 : decode cX3_greatestPart 49 = .ok (.aaload, 1) := by decide +kernel
theorem dX3_greatestPart_50 : decode cX3_greatestPart 50 = .ok (.iload_n 2, 1) := by decide +kernel
theorem dX3_greatestPart_51 : decode cX3_greatestPart 51 = .ok (.iaload, 1) := by decide +kernel
theorem dX3_greatestPart_52 : decode cX3_greatestPart 52 = .ok (.if_icmp .ne 6, 3) := by decide +kernel
theorem dX3_greatestPart_55 : decode cX3_greatestPart 55 = .ok (.iinc 5 1, 3) := by decide +kernel
theorem dX3_greatestPart_58 : decode cX3_greatestPart 58 = .ok (.iinc 6 1, 3) := by decide +kernel
theorem dX3_greatestPart_61 : decode cX3_greatestPart 61 = .ok (.goto (-43), 3) := by decide +kernel
theorem dX3_greatestPart_64 : decode cX3_greatestPart 64 = .ok (.iload_n 1, 1) := by decide +kernel
theorem dX3_greatestPart_65 : decode cX3_greatestPart 65 = .ok (.iload 4, 2) := by decide +kernel
theorem dX3_greatestPart_67 : decode cX3_greatestPart 67 = .ok (.ishr, 1) := by decide +kernel
theorem dX3_greatestPart_68 : decode cX3_greatestPart 68 = .ok (.iconst 1, 1) := by decide +kernel
theorem dX3_greatestPart_69 : decode cX3_greatestPart 69 = .ok (.iand, 1) := by decide +kernel
theorem dX3_greatestPart_70 : decode cX3_greatestPart 70 = .ok (.ifCond .eq 10, 3) := by decide +kernel
theorem dX3_greatestPart_73 : decode cX3_greatestPart 73 = .ok (.iload_n 3, 1) := by decide +kernel
theorem dX3_greatestPart_74 : decode cX3_greatestPart 74 = .ok (.iload 5, 2) := by decide +kernel
theorem dX3_greatestPart_76 : decode cX3_greatestPart 76 = .ok (.invokestatic 248, 3) := by decide +kernel
theorem dX3_greatestPart_79 : decode cX3_greatestPart 79 = .ok (.istore_n 3, 1) := by decide +kernel
theorem dX3_greatestPart_80 : decode cX3_greatestPart 80 = .ok (.iinc 4 1, 3) := by decide +kernel
theorem dX3_greatestPart_83 : decode cX3_greatestPart 83 = .ok (.goto (-78), 3) := by decide +kernel
theorem dX3_greatestPart_86 : decode cX3_greatestPart 86 = .ok (.iload_n 3, 1) := by decide +kernel
theorem dX3_greatestPart_87 : decode cX3_greatestPart 87 = .ok (.ireturn, 1) := by decide +kernel
/-! X3_greatestPart (II)I -/
abbrev rmX3_greatestPart : Room := { frames := 1, cells := 0, slots := 0, locals := 13 }
theorem lkX3_greatestPart_0 : Cond.methodLink RX3 248 Lib.Math.max.name ∈ wsX3_greatestPart := by decide +kernel
theorem lkX3_greatestPart_1 : Cond.static Lib.Math.max.name ∈ wsX3_greatestPart := by decide +kernel
theorem lkX3_greatestPart_2 : Cond.initialized "java/lang/Math" ∈ wsX3_greatestPart := by decide +kernel
theorem lkX3_greatestPart_3 : Cond.code Lib.Math.max.name Lib.Math.max.code 2 (some .int) ∈ wsX3_greatestPart := by decide +kernel
theorem lkX3_greatestPart_4 : Cond.fieldLink RX3 56 (TX3 11).1 (TX3 11).2.1 (TX3 11).2.2.1 ∈ wsX3_greatestPart := by decide +kernel
theorem inX3_greatestPart_X3 : ∀ w ∈ u_ws RX3 TX3 17, w ∈ wsX3_greatestPart := by decide +kernel
noncomputable def fX3_greatestPart_b18 (G : mm_G) (a0 : Nat) (x1 : Int32) (x2 : Int32) (x3 : Int32) (x4 : Int32) (x5 : Int32) (x6 : Int32) (σ : mm_M) : Option ((Int32 × mm_M) ⊕ ((Int32 × Int32 × mm_M) ⊕ (Int32 × Int32 × Int32 × Int32 × mm_M))) := if x6 < (6 : Int32) then (if ((x1 >>> (x6 &&& 31)) &&& (1 : Int32)) = 0 then (some (.inr (.inr (x3, x4, x5, x6 + 1, σ)))) else (if x6 < 0 ∨ mm_N G (mm_R G a0 11) ≤ x6.toNatClampNeg then none else (if x2 < 0 ∨ mm_N G (mm_R G (mm_R G a0 11) x6.toNatClampNeg) ≤ x2.toNatClampNeg then none else (if x4 < 0 ∨ mm_N G (mm_R G a0 11) ≤ x4.toNatClampNeg then none else (if x2 < 0 ∨ mm_N G (mm_R G (mm_R G a0 11) x4.toNatClampNeg) ≤ x2.toNatClampNeg then none else (some (.inr (.inr (x3, x4, if (σ.1 (mm_R G (mm_R G a0 11) x6.toNatClampNeg) x2.toNatClampNeg) = (σ.1 (mm_R G (mm_R G a0 11) x4.toNatClampNeg) x2.toNatClampNeg) then x5 + 1 else x5, x6 + 1, σ))))))))) else (if ((x1 >>> (x4 &&& 31)) &&& (1 : Int32)) = 0 then (some (.inr (.inl (x3, x4 + 1, σ)))) else (some (.inr (.inl (if x3 < x5 then x5 else x3, x4 + 1, σ)))))
noncomputable def fX3_greatestPart_b5 (G : mm_G) (a0 : Nat) (x1 : Int32) (x2 : Int32) (x3 : Int32) (x4 : Int32) (σ : mm_M) : Option ((Int32 × mm_M) ⊕ ((Int32 × Int32 × mm_M) ⊕ (Int32 × Int32 × Int32 × Int32 × mm_M))) := if x4 < (6 : Int32) then (some (.inr (.inr (x3, x4, (0 : Int32), (0 : Int32), σ)))) else (some (.inl (x3, σ)))
noncomputable def fX3_greatestPart_b0 (G : mm_G) (a0 : Nat) (x1 : Int32) (x2 : Int32) (σ : mm_M) : Option ((Int32 × mm_M) ⊕ ((Int32 × Int32 × mm_M) ⊕ (Int32 × Int32 × Int32 × Int32 × mm_M))) := some (.inr (.inl ((0 : Int32), (0 : Int32), σ)))
noncomputable def fX3_greatestPart_s (G : mm_G) (a0 : Nat) (x1 : Int32) (x2 : Int32) : ((Int32 × Int32 × mm_M) ⊕ (Int32 × Int32 × Int32 × Int32 × mm_M)) → Option ((Int32 × mm_M) ⊕ ((Int32 × Int32 × mm_M) ⊕ (Int32 × Int32 × Int32 × Int32 × mm_M))) := (Sum.elim (fun s => fX3_greatestPart_b5 G a0 x1 x2 s.1 s.2.1 s.2.2) (fun s => fX3_greatestPart_b18 G a0 x1 x2 s.1 s.2.1 s.2.2.1 s.2.2.2.1 s.2.2.2.2))
def PX3_greatestPart (E : mm_E) (G : mm_G) (a0 : Nat) (x1 : Int32) (x2 : Int32) (q : (Int32 × mm_M)) : ((Int32 × Int32 × mm_M) ⊕ (Int32 × Int32 × Int32 × Int32 × mm_M)) → Prop := (Sum.elim (fun s => mm_At E G 7 (mm_Qi E G q) s.2.2 5 [(0, .ref a0), (1, .int x1), (2, .int x2), (3, .int s.1), (4, .int s.2.1)] []) (fun s => mm_At E G 7 (mm_Qi E G q) s.2.2.2.2 18 [(0, .ref a0), (1, .int x1), (2, .int x2), (3, .int s.1), (4, .int s.2.1), (5, .int s.2.2.1), (6, .int s.2.2.2.1)] []))
noncomputable def fX3_greatestPart (G : mm_G) (a0 : Nat) (x1 : Int32) (x2 : Int32) (σ : mm_M) : Option (Int32 × mm_M) := mm_run (fX3_greatestPart_b0 G a0 x1 x2 σ) (fX3_greatestPart_s G a0 x1 x2)
set_option maxHeartbeats 4000000 in
set_option maxRecDepth 100000 in
theorem wX3_greatestPart_b18 {E : mm_E} {G : mm_G} (X : mm_Cx E G cX3_greatestPart 7 RX3 wsX3_greatestPart rmX3_greatestPart (some .int)) {a0 : Nat} {x1 : Int32} {x2 : Int32} {x3 : Int32} {x4 : Int32} {x5 : Int32} {x6 : Int32} {σ : mm_M} {q : (Int32 × mm_M)} (ha0 : mm_Is G 3 a0) {o : (Int32 × mm_M) ⊕ ((Int32 × Int32 × mm_M) ⊕ (Int32 × Int32 × Int32 × Int32 × mm_M))} (h : fX3_greatestPart_b18 G a0 x1 x2 x3 x4 x5 x6 σ = some o) (hk : mm_Ok q (PX3_greatestPart E G a0 x1 x2 q) o) : mm_At E G 7 (mm_Qi E G q) σ 18 [(0, .ref a0), (1, .int x1), (2, .int x2), (3, .int x3), (4, .int x4), (5, .int x5), (6, .int x6)] [] := by
  unfold fX3_greatestPart_b18 at h
  refine at_iload (pc := 18) X 6 6 dX3_greatestPart_18 rfl ?_
  refine at_bipush (pc := 20) X (6 : Int32) dX3_greatestPart_20 ib_6 ?_
  refine at_icmp_ge (pc := 22) X 64 dX3_greatestPart_22 (by decide) (fun c22 => ?_) (fun c22 => ?_)
  · have h := mm_neg c22 h
    refine at_iload_n (pc := 64) X 1 1 dX3_greatestPart_64 rfl rfl ?_
    refine at_iload (pc := 65) X 4 4 dX3_greatestPart_65 rfl ?_
    refine at_ishr (pc := 67) X dX3_greatestPart_67 ?_
    refine at_iconst (pc := 68) X (1 : Int32) dX3_greatestPart_68 ic_1 ?_
    refine at_iand (pc := 69) X dX3_greatestPart_69 ?_
    refine at_if_eq (pc := 70) X 80 dX3_greatestPart_70 (by decide) (fun c70 => ?_) (fun c70 => ?_)
    · have h := mm_pos c70 h
      refine at_iinc (pc := 80) X 4 4 (x4 + 1) [(4, .int (x4 + 1)), (0, .ref a0), (1, .int x1), (2, .int x2), (3, .int x3), (5, .int x5), (6, .int x6)] dX3_greatestPart_80 rfl (ii_1 _) (by decide) rfl ?_
      refine at_goto (pc := 83) X 5 dX3_greatestPart_83 (by decide) ?_
      have h2 := mm_inr h hk; exact at_sub [1, 2, 3, 4, 0] rfl h2
    · have h := mm_neg c70 h
      refine at_iload_n (pc := 73) X 3 3 dX3_greatestPart_73 rfl rfl ?_
      refine at_iload (pc := 74) X 5 5 dX3_greatestPart_74 rfl ?_
      refine at_mmax (pc := 76) X lkX3_greatestPart_0 lkX3_greatestPart_1 lkX3_greatestPart_2 lkX3_greatestPart_3 (by decide) (by decide) dX3_greatestPart_76 ?_
      refine at_istore_n (pc := 79) X 3 [(3, .int (if x3 < x5 then x5 else x3)), (0, .ref a0), (1, .int x1), (2, .int x2), (4, .int x4), (5, .int x5), (6, .int x6)] dX3_greatestPart_79 rfl (by decide) rfl ?_
      refine at_iinc (pc := 80) X 4 4 (x4 + 1) [(4, .int (x4 + 1)), (3, .int (if x3 < x5 then x5 else x3)), (0, .ref a0), (1, .int x1), (2, .int x2), (5, .int x5), (6, .int x6)] dX3_greatestPart_80 rfl (ii_1 _) (by decide) rfl ?_
      refine at_goto (pc := 83) X 5 dX3_greatestPart_83 (by decide) ?_
      have h2 := mm_inr h hk; exact at_sub [2, 3, 4, 1, 0] rfl h2
  · have h := mm_pos c22 h
    refine at_iload_n (pc := 25) X 1 1 dX3_greatestPart_25 rfl rfl ?_
    refine at_iload (pc := 26) X 6 6 dX3_greatestPart_26 rfl ?_
    refine at_ishr (pc := 28) X dX3_greatestPart_28 ?_
    refine at_iconst (pc := 29) X (1 : Int32) dX3_greatestPart_29 ic_1 ?_
    refine at_iand (pc := 30) X dX3_greatestPart_30 ?_
    refine at_if_eq (pc := 31) X 58 dX3_greatestPart_31 (by decide) (fun c31 => ?_) (fun c31 => ?_)
    · have h := mm_pos c31 h
      refine at_iinc (pc := 58) X 6 6 (x6 + 1) [(6, .int (x6 + 1)), (0, .ref a0), (1, .int x1), (2, .int x2), (3, .int x3), (4, .int x4), (5, .int x5)] dX3_greatestPart_58 rfl (ii_1 _) (by decide) rfl ?_
      refine at_goto (pc := 61) X 18 dX3_greatestPart_61 (by decide) ?_
      have h2 := mm_inr h hk; exact at_sub [1, 2, 3, 4, 5, 6, 0] rfl h2
    · have h := mm_neg c31 h
      refine at_aload_n (pc := 34) X 0 0 dX3_greatestPart_34 rfl rfl ?_
      refine at_get (pc := 35) X 3 11 (.ref (mm_R G a0 11)) ha0 (by decide) rfl inX3_greatestPart_X3 (by decide) lkX3_greatestPart_4 rfl dX3_greatestPart_35 ?_
      refine at_iload (pc := 38) X 6 6 dX3_greatestPart_38 rfl ?_
      obtain ⟨hc40, h⟩ := mm_chk h
      refine at_aald (pc := 40) X 10 5 (wf_3_11 X.wf ha0) (by decide) (by decide) rfl rfl hc40 dX3_greatestPart_40 ?_
      refine at_iload_n (pc := 41) X 2 2 dX3_greatestPart_41 rfl rfl ?_
      obtain ⟨hc42, h⟩ := mm_chk h
      refine at_iald (pc := 42) X (wf_10 X.wf (wf_3_11 X.wf ha0) hc40) hc42 dX3_greatestPart_42 ?_
      refine at_aload_n (pc := 43) X 0 0 dX3_greatestPart_43 rfl rfl ?_
      refine at_get (pc := 44) X 3 11 (.ref (mm_R G a0 11)) ha0 (by decide) rfl inX3_greatestPart_X3 (by decide) lkX3_greatestPart_4 rfl dX3_greatestPart_44 ?_
      refine at_iload (pc := 47) X 4 4 dX3_greatestPart_47 rfl ?_
      obtain ⟨hc49, h⟩ := mm_chk h
      refine at_aald (pc := 49) X 10 5 (wf_3_11 X.wf ha0) (by decide) (by decide) rfl rfl hc49 dX3_greatestPart_49 ?_
      refine at_iload_n (pc := 50) X 2 2 dX3_greatestPart_50 rfl rfl ?_
      obtain ⟨hc51, h⟩ := mm_chk h
      refine at_iald (pc := 51) X (wf_10 X.wf (wf_3_11 X.wf ha0) hc49) hc51 dX3_greatestPart_51 ?_
      have hj52 : mm_At E G 7 (mm_Qi E G q) σ 58 [(0, .ref a0), (1, .int x1), (2, .int x2), (3, .int x3), (4, .int x4), (5, .int (if (σ.1 (mm_R G (mm_R G a0 11) x6.toNatClampNeg) x2.toNatClampNeg) = (σ.1 (mm_R G (mm_R G a0 11) x4.toNatClampNeg) x2.toNatClampNeg) then x5 + 1 else x5)), (6, .int x6)] [] := by
        refine at_iinc (pc := 58) X 6 6 (x6 + 1) [(6, .int (x6 + 1)), (0, .ref a0), (1, .int x1), (2, .int x2), (3, .int x3), (4, .int x4), (5, .int (if (σ.1 (mm_R G (mm_R G a0 11) x6.toNatClampNeg) x2.toNatClampNeg) = (σ.1 (mm_R G (mm_R G a0 11) x4.toNatClampNeg) x2.toNatClampNeg) then x5 + 1 else x5))] dX3_greatestPart_58 rfl (ii_1 _) (by decide) rfl ?_
        refine at_goto (pc := 61) X 18 dX3_greatestPart_61 (by decide) ?_
        have h2 := mm_inr h hk; exact at_sub [1, 2, 3, 4, 5, 6, 0] rfl h2
      refine at_icmp_ne (pc := 52) X 58 dX3_greatestPart_52 (by decide) (fun c52 => ?_) (fun c52 => ?_)
      · try simp only [if_neg c52] at hj52
        exact at_sub [0, 1, 2, 3, 4, 5, 6] rfl hj52
      · try simp only [if_pos c52] at hj52
        refine at_iinc (pc := 55) X 5 5 (x5 + 1) [(5, .int (x5 + 1)), (0, .ref a0), (1, .int x1), (2, .int x2), (3, .int x3), (4, .int x4), (6, .int x6)] dX3_greatestPart_55 rfl (ii_1 _) (by decide) rfl ?_
        exact at_sub [1, 2, 3, 4, 5, 0, 6] rfl hj52
set_option maxHeartbeats 4000000 in
set_option maxRecDepth 100000 in
theorem wX3_greatestPart_b5 {E : mm_E} {G : mm_G} (X : mm_Cx E G cX3_greatestPart 7 RX3 wsX3_greatestPart rmX3_greatestPart (some .int)) {a0 : Nat} {x1 : Int32} {x2 : Int32} {x3 : Int32} {x4 : Int32} {σ : mm_M} {q : (Int32 × mm_M)} (ha0 : mm_Is G 3 a0) {o : (Int32 × mm_M) ⊕ ((Int32 × Int32 × mm_M) ⊕ (Int32 × Int32 × Int32 × Int32 × mm_M))} (h : fX3_greatestPart_b5 G a0 x1 x2 x3 x4 σ = some o) (hk : mm_Ok q (PX3_greatestPart E G a0 x1 x2 q) o) : mm_At E G 7 (mm_Qi E G q) σ 5 [(0, .ref a0), (1, .int x1), (2, .int x2), (3, .int x3), (4, .int x4)] [] := by
  unfold fX3_greatestPart_b5 at h
  refine at_iload (pc := 5) X 4 4 dX3_greatestPart_5 rfl ?_
  refine at_bipush (pc := 7) X (6 : Int32) dX3_greatestPart_7 ib_6 ?_
  refine at_icmp_ge (pc := 9) X 86 dX3_greatestPart_9 (by decide) (fun c9 => ?_) (fun c9 => ?_)
  · have h := mm_neg c9 h
    refine at_iload_n (pc := 86) X 3 3 dX3_greatestPart_86 rfl rfl ?_
    exact at_iret (pc := 87) X (mm_inl h hk) dX3_greatestPart_87
  · have h := mm_pos c9 h
    refine at_iconst (pc := 12) X (0 : Int32) dX3_greatestPart_12 ic_0 ?_
    refine at_istore (pc := 13) X 5 [(5, .int (0 : Int32)), (0, .ref a0), (1, .int x1), (2, .int x2), (3, .int x3), (4, .int x4)] dX3_greatestPart_13 (by decide) rfl ?_
    refine at_iconst (pc := 15) X (0 : Int32) dX3_greatestPart_15 ic_0 ?_
    refine at_istore (pc := 16) X 6 [(6, .int (0 : Int32)), (5, .int (0 : Int32)), (0, .ref a0), (1, .int x1), (2, .int x2), (3, .int x3), (4, .int x4)] dX3_greatestPart_16 (by decide) rfl ?_
    have h2 := mm_inr h hk; exact at_sub [2, 3, 4, 5, 6, 1, 0] rfl h2
set_option maxHeartbeats 4000000 in
set_option maxRecDepth 100000 in
theorem wX3_greatestPart_b0 {E : mm_E} {G : mm_G} (X : mm_Cx E G cX3_greatestPart 7 RX3 wsX3_greatestPart rmX3_greatestPart (some .int)) {a0 : Nat} {x1 : Int32} {x2 : Int32} {σ : mm_M} {q : (Int32 × mm_M)} (ha0 : mm_Is G 3 a0) {o : (Int32 × mm_M) ⊕ ((Int32 × Int32 × mm_M) ⊕ (Int32 × Int32 × Int32 × Int32 × mm_M))} (h : fX3_greatestPart_b0 G a0 x1 x2 σ = some o) (hk : mm_Ok q (PX3_greatestPart E G a0 x1 x2 q) o) : mm_At E G 7 (mm_Qi E G q) σ 0 [(0, .ref a0), (1, .int x1), (2, .int x2)] [] := by
  unfold fX3_greatestPart_b0 at h
  refine at_iconst (pc := 0) X (0 : Int32) dX3_greatestPart_0 ic_0 ?_
  refine at_istore_n (pc := 1) X 3 [(3, .int (0 : Int32)), (0, .ref a0), (1, .int x1), (2, .int x2)] dX3_greatestPart_1 rfl (by decide) rfl ?_
  refine at_iconst (pc := 2) X (0 : Int32) dX3_greatestPart_2 ic_0 ?_
  refine at_istore (pc := 3) X 4 [(4, .int (0 : Int32)), (3, .int (0 : Int32)), (0, .ref a0), (1, .int x1), (2, .int x2)] dX3_greatestPart_3 (by decide) rfl ?_
  have h2 := mm_inr h hk; exact at_sub [2, 3, 4, 1, 0] rfl h2
set_option maxHeartbeats 4000000 in
set_option maxRecDepth 100000 in
theorem mX3_greatestPart (l : Launch) {G : mm_G} (hwf : mm_WF G) {a0 : Nat} {x1 : Int32} {x2 : Int32} {σ : mm_M} {q : (Int32 × mm_M)} (ha0 : mm_Is G 3 a0) (h : fX3_greatestPart G a0 x1 x2 σ = some q) : mm_Mi l yX3_greatestPart wsX3_greatestPart rmX3_greatestPart G [.ref a0, .int x1, .int x2] σ q := by
  refine mm_ofi (cc := cX3_greatestPart) (nL := 7) (ret := some .int) (own := RX3) (lv0 := [(0, .ref a0), (1, .int x1), (2, .int x2)]) (by decide) rfl rfl (Nat.le_of_ble_eq_true rfl) rfl hwf (fun E hE X => ?_)
  obtain ⟨o, h0, hk⟩ := mm_run_ok (P := PX3_greatestPart E G a0 x1 x2 q) h (fun s o hs hk => by cases s with | inl s => exact wX3_greatestPart_b5 X ha0 hs hk | inr s => (exact wX3_greatestPart_b18 X ha0 hs hk))
  exact wX3_greatestPart_b0 X ha0 h0 hk
set_option maxRecDepth 20000 in
theorem ggX3_test_X3_refusedWatch : GoodIn wsX3_test wsX3_refusedWatch := goodIn_r _ [6, 7, 8, 9, 10, 11, 12, 13, 14, 15, 16, 17, 5, 18, 19, 20, 21, 22, 23, 24, 122, 123, 124, 125, 126, 127, 128, 129, 130, 131, 132, 133, 134, 135, 136, 137, 138, 139, 140, 141, 142, 143, 144] (by decide +kernel) (by decide +kernel)
set_option maxRecDepth 20000 in
theorem gX3_test_X3_refusedWatch : GoodIn wsX3_test (wsV RX3 193 RX3 yX3_refusedWatch wsX3_refusedWatch) := goodIn_app (goodIn_of _ (by decide +kernel)) ggX3_test_X3_refusedWatch
set_option maxRecDepth 20000 in
theorem ggX3_test_X3_kindsThatFit : GoodIn wsX3_test wsX3_kindsThatFit := goodIn_r _ [28, 29, 7, 30, 31, 32, 33, 34, 13, 35, 15, 36, 37, 38, 39, 40, 41, 42, 43, 44, 45, 46, 47, 48, 49, 50, 51, 52, 53, 54, 5, 55, 8, 9, 56, 57, 58, 59, 60, 61, 62, 63, 64, 65, 66, 67, 68, 69, 70, 71, 72, 73, 74, 75, 76, 77, 78, 79, 80, 81, 82, 83, 84, 85, 86, 87, 88, 89, 90, 91, 92, 93, 94, 95, 96, 97, 98, 99, 100, 101, 102, 103, 104, 105, 106, 107, 108, 109, 110, 111, 122, 123, 124, 125, 126, 127, 128, 129, 130, 131, 132, 133, 134, 135, 136, 137, 138, 139, 140, 141, 142, 143, 144, 145, 146, 147, 148, 149, 150] (by decide +kernel) (by decide +kernel)
set_option maxRecDepth 20000 in
theorem gX3_test_X3_kindsThatFit : GoodIn wsX3_test (wsV RX3 196 RX3 yX3_kindsThatFit wsX3_kindsThatFit) := goodIn_app (goodIn_of _ (by decide +kernel)) ggX3_test_X3_kindsThatFit
set_option maxRecDepth 20000 in
theorem ggX3_test_X3_watch : GoodIn wsX3_test wsX3_watch := goodIn_r _ [115, 29, 7, 30, 31, 116, 32, 33, 34, 13, 35, 15, 36, 37, 38, 39, 40, 41, 42, 43, 44, 45, 46, 47, 48, 49, 50, 51, 56, 57, 58, 59, 60, 61, 62, 63, 64, 65, 66, 67, 68, 69, 70, 71, 72, 73, 74, 75, 76, 77, 78, 79, 80, 81, 82, 83, 84, 85, 86, 87, 88, 89, 90, 91, 92, 93, 94, 95, 96, 97, 98, 99, 100, 101, 102, 103, 104, 105, 106, 107, 108, 109, 110, 111, 122, 123, 124, 125, 126, 127, 128, 129, 130, 131, 132, 133, 134, 135, 136, 137, 138, 139, 140, 141, 142, 143, 144, 145, 146, 147, 148, 149, 150] (by decide +kernel) (by decide +kernel)
set_option maxRecDepth 20000 in
theorem gX3_test_X3_watch : GoodIn wsX3_test (wsV RX3 202 RX3 yX3_watch wsX3_watch) := goodIn_app (goodIn_of _ (by decide +kernel)) ggX3_test_X3_watch
set_option maxRecDepth 20000 in
theorem ggX3_test_X3_greatestPart : GoodIn wsX3_test wsX3_greatestPart := goodIn_r _ [120, 116, 121, 105, 102, 106, 122, 123, 124, 125, 126, 127, 128, 129, 130, 131, 132, 133, 134, 135, 136, 137, 138] (by decide +kernel) (by decide +kernel)
set_option maxRecDepth 20000 in
theorem gX3_test_X3_greatestPart : GoodIn wsX3_test (wsV RX3 206 RX3 yX3_greatestPart wsX3_greatestPart) := goodIn_app (goodIn_of _ (by decide +kernel)) ggX3_test_X3_greatestPart
theorem dX3_test_0 : decode cX3_test 0 = .ok (.aload_n 0, 1) := by decide +kernel
theorem dX3_test_1 : decode cX3_test 1 = .ok (.iload_n 1, 1) := by decide +kernel
theorem dX3_test_2 : decode cX3_test 2 = .ok (.iload_n 2, 1) := by decide +kernel
theorem dX3_test_3 : decode cX3_test 3 = .ok (.invokevirtual 193, 3) := by decide +kernel
theorem dX3_test_6 : decode cX3_test 6 = .ok (.istore_n 3, 1) := by decide +kernel
theorem dX3_test_7 : decode cX3_test 7 = .ok (.iload_n 3, 1) := by decide +kernel
theorem dX3_test_8 : decode cX3_test 8 = .ok (.ifCond .eq 5, 3) := by decide +kernel
theorem dX3_test_11 : decode cX3_test 11 = .ok (.iload_n 3, 1) := by decide +kernel
theorem dX3_test_12 : decode cX3_test 12 = .ok (.ireturn, 1) := by decide +kernel
theorem dX3_test_13 : decode cX3_test 13 = .ok (.aload_n 0, 1) := by decide +kernel
theorem dX3_test_14 : decode cX3_test 14 = .ok (.iload_n 1, 1) := by decide +kernel
theorem dX3_test_15 : decode cX3_test 15 = .ok (.iload_n 2, 1) := by decide +kernel
theorem dX3_test_16 : decode cX3_test 16 = .ok (.invokevirtual 196, 3) := by decide +kernel
theorem dX3_test_19 : decode cX3_test 19 = .ok (.istore 4, 2) := by decide +kernel
theorem dX3_test_21 : decode cX3_test 21 = .ok (.iload 4, 2) := by decide +kernel
theorem dX3_test_23 : decode cX3_test 23 = .ok (.ifCond .ne 6, 3) := by decide +kernel
theorem dX3_test_26 : decode cX3_test 26 = .ok (.bipush (-9), 2) := by decide +kernel
theorem dX3_test_28 : decode cX3_test 28 = .ok (.ireturn, 1) := by decide +kernel
theorem dX3_test_29 : decode cX3_test 29 = .ok (.aload_n 0, 1) := by decide +kernel
theorem dX3_test_30 : decode cX3_test 30 = .ok (.iload_n 1, 1) := by decide +kernel
theorem dX3_test_31 : decode cX3_test 31 = .ok (.iload 4, 2) := by decide +kernel
theorem dX3_test_33 : decode cX3_test 33 = .ok (.invokevirtual 202, 3) := by decide +kernel
theorem dX3_test_36 : decode cX3_test 36 = .ok (.iconst 0, 1) := by decide +kernel
theorem dX3_test_37 : decode cX3_test 37 = .ok (.istore 5, 2) := by decide +kernel
theorem dX3_test_39 : decode cX3_test 39 = .ok (.bipush 7, 2) := by decide +kernel
theorem dX3_test_41 : decode cX3_test 41 = .ok (.istore 6, 2) := by decide +kernel
theorem dX3_test_43 : decode cX3_test 43 = .ok (.iconst 0, 1) := by decide +kernel
theorem dX3_test_44 : decode cX3_test 44 = .ok (.istore 7, 2) := by decide +kernel
theorem dX3_test_46 : decode cX3_test 46 = .ok (.iload 7, 2) := by decide +kernel
theorem dX3_test_48 : decode cX3_test 48 = .ok (.bipush 20, 2) := by decide +kernel
theorem dX3_test_50 : decode cX3_test 50 = .ok (.if_icmp .ge 36, 3) := by decide +kernel
theorem dX3_test_53 : decode cX3_test 53 = .ok (.aload_n 0, 1) := by decide +kernel
theorem dX3_test_54 : decode cX3_test 54 = .ok (.iload 4, 2) := by decide +kernel
theorem dX3_test_56 : decode cX3_test 56 = .ok (.iload 7, 2) := by decide +kernel
theorem dX3_test_58 : decode cX3_test 58 = .ok (.invokevirtual 206, 3) := by decide +kernel
theorem dX3_test_61 : decode cX3_test 61 = .ok (.istore 8, 2) := by decide +kernel
theorem dX3_test_63 : decode cX3_test 63 = .ok (.iload 8, 2) := by decide +kernel
theorem dX3_test_65 : decode cX3_test 65 = .ok (.iload 6, 2) := by decide +kernel
theorem dX3_test_67 : decode cX3_test 67 = .ok (.if_icmp .ge 13, 3) := by decide +kernel
theorem dX3_test_70 : decode cX3_test 70 = .ok (.iload 7, 2) := by decide +kernel
theorem dX3_test_72 : decode cX3_test 72 = .ok (.iconst 1, 1) := by decide +kernel
theorem dX3_test_73 : decode cX3_test 73 = .ok (.iadd, 1) := by decide +kernel
theorem dX3_test_74 : decode cX3_test 74 = .ok (.istore 5, 2) := by decide +kernel
theorem dX3_test_76 : decode cX3_test 76 = .ok (.iload 8, 2) := by decide +kernel
theorem dX3_test_78 : decode cX3_test 78 = .ok (.istore 6, 2) := by decide +kernel
theorem dX3_test_80 : decode cX3_test 80 = .ok (.iinc 7 1, 3) := by decide +kernel
theorem dX3_test_83 : decode cX3_test 83 = .ok (.goto (-37), 3) := by decide +kernel
theorem dX3_test_86 : decode cX3_test 86 = .ok (.aload_n 0, 1) := by decide +kernel
theorem dX3_test_87 : decode cX3_test 87 = .ok (.iload 6, 2) := by decide +kernel
theorem dX3_test_89 : decode cX3_test 89 = .ok (.putfield 59, 3) := by decide +kernel
theorem dX3_test_92 : decode cX3_test 92 = .ok (.iload 5, 2) := by decide +kernel
theorem dX3_test_94 : decode cX3_test 94 = .ok (.ireturn, 1) := by decide +kernel
/-! X3_test (II)I -/
abbrev rmX3_test : Room := { frames := 7, cells := 0, slots := 0, locals := 151 }
theorem lkX3_test_0 : Cond.fieldLink RX3 59 (TX3 12).1 (TX3 12).2.1 (TX3 12).2.2.1 ∈ wsX3_test := by decide +kernel
theorem inX3_test_X3 : ∀ w ∈ u_ws RX3 TX3 17, w ∈ wsX3_test := by decide +kernel
noncomputable def fX3_test_b46 (G : mm_G) (a0 : Nat) (x1 : Int32) (x2 : Int32) (x4 : Int32) (x5 : Int32) (x6 : Int32) (x7 : Int32) (σ : mm_M) : Option ((Int32 × mm_M) ⊕ (Int32 × Int32 × Int32 × Int32 × mm_M)) := if x7 < (20 : Int32) then ((fX3_greatestPart G a0 x4 x7 σ).bind (fun q58 => some (.inr (x4, if q58.1 < x6 then x7 + (1 : Int32) else x5, if q58.1 < x6 then q58.1 else x6, x7 + 1, q58.2)))) else (some (.inl (x5, mm_up σ a0 12 x6)))
noncomputable def fX3_test_b0 (G : mm_G) (a0 : Nat) (x1 : Int32) (x2 : Int32) (σ : mm_M) : Option ((Int32 × mm_M) ⊕ (Int32 × Int32 × Int32 × Int32 × mm_M)) := (fX3_refusedWatch G a0 x1 x2 σ).bind (fun q3 => if q3.1 = 0 then ((fX3_kindsThatFit G a0 x1 x2 q3.2).bind (fun q16 => if q16.1 = 0 then (some (.inl ((-9 : Int32), q16.2))) else ((fX3_watch G a0 x1 q16.1 q16.2).bind (fun q33 => some (.inr (q16.1, (0 : Int32), (7 : Int32), (0 : Int32), q33)))))) else (some (.inl (q3.1, q3.2))))
noncomputable def fX3_test_s (G : mm_G) (a0 : Nat) (x1 : Int32) (x2 : Int32) : (Int32 × Int32 × Int32 × Int32 × mm_M) → Option ((Int32 × mm_M) ⊕ (Int32 × Int32 × Int32 × Int32 × mm_M)) := (fun s => fX3_test_b46 G a0 x1 x2 s.1 s.2.1 s.2.2.1 s.2.2.2.1 s.2.2.2.2)
def PX3_test (E : mm_E) (G : mm_G) (a0 : Nat) (x1 : Int32) (x2 : Int32) (q : (Int32 × mm_M)) : (Int32 × Int32 × Int32 × Int32 × mm_M) → Prop := (fun s => mm_At E G 9 (mm_Qi E G q) s.2.2.2.2 46 [(0, .ref a0), (4, .int s.1), (5, .int s.2.1), (6, .int s.2.2.1), (7, .int s.2.2.2.1)] [])
noncomputable def fX3_test (G : mm_G) (a0 : Nat) (x1 : Int32) (x2 : Int32) (σ : mm_M) : Option (Int32 × mm_M) := mm_run (fX3_test_b0 G a0 x1 x2 σ) (fX3_test_s G a0 x1 x2)
set_option maxHeartbeats 4000000 in
set_option maxRecDepth 100000 in
theorem wX3_test_b46 {E : mm_E} {G : mm_G} (X : mm_Cx E G cX3_test 9 RX3 wsX3_test rmX3_test (some .int)) {a0 : Nat} {x1 : Int32} {x2 : Int32} {x4 : Int32} {x5 : Int32} {x6 : Int32} {x7 : Int32} {σ : mm_M} {q : (Int32 × mm_M)} (ha0 : mm_Is G 3 a0) {o : (Int32 × mm_M) ⊕ (Int32 × Int32 × Int32 × Int32 × mm_M)} (h : fX3_test_b46 G a0 x1 x2 x4 x5 x6 x7 σ = some o) (hk : mm_Ok q (PX3_test E G a0 x1 x2 q) o) : mm_At E G 9 (mm_Qi E G q) σ 46 [(0, .ref a0), (4, .int x4), (5, .int x5), (6, .int x6), (7, .int x7)] [] := by
  unfold fX3_test_b46 at h
  refine at_iload (pc := 46) X 7 4 dX3_test_46 rfl ?_
  refine at_bipush (pc := 48) X (20 : Int32) dX3_test_48 ib_20 ?_
  refine at_icmp_ge (pc := 50) X 86 dX3_test_50 (by decide) (fun c50 => ?_) (fun c50 => ?_)
  · have h := mm_neg c50 h
    refine at_aload_n (pc := 86) X 0 0 dX3_test_86 rfl rfl ?_
    refine at_iload (pc := 87) X 6 3 dX3_test_87 rfl ?_
    refine at_put (pc := 89) X 3 12 ha0 (by decide) rfl inX3_test_X3 tyX3 tyX3_ok nmX3 (by decide) lkX3_test_0 rfl (ty := .int) rfl rfl rfl (Nat.le_of_ble_eq_true rfl) (ms_3_12 G _ _ _) mm_up_ne dX3_test_89 ?_
    refine at_iload (pc := 92) X 5 2 dX3_test_92 rfl ?_
    exact at_iret (pc := 94) X (mm_inl h hk) dX3_test_94
  · have h := mm_pos c50 h
    refine at_aload_n (pc := 53) X 0 0 dX3_test_53 rfl rfl ?_
    refine at_iload (pc := 54) X 4 1 dX3_test_54 rfl ?_
    refine at_iload (pc := 56) X 7 4 dX3_test_56 rfl ?_
    obtain ⟨q58, hq58, h⟩ := mm_bind h
    refine at_calli (n := 2) (pc := 58) X 3 [.int x4, .int x7] [] (mX3_greatestPart (eL E) X.wf ha0 hq58) gX3_test_X3_greatestPart rfl ⟨rfl, rfl⟩ (by decide +kernel) ⟨by decide, by decide⟩ (by decide) rfl ha0 rfl rfl (Nat.le_of_ble_eq_true rfl) dX3_test_58 ?_
    refine at_istore (pc := 61) X 8 [(8, .int q58.1), (0, .ref a0), (4, .int x4), (5, .int x5), (6, .int x6), (7, .int x7)] dX3_test_61 (by decide) rfl ?_
    refine at_iload (pc := 63) X 8 0 dX3_test_63 rfl ?_
    refine at_iload (pc := 65) X 6 4 dX3_test_65 rfl ?_
    have hj67 : mm_At E G 9 (mm_Qi E G q) q58.2 80 [(0, .ref a0), (4, .int x4), (5, .int (if q58.1 < x6 then x7 + (1 : Int32) else x5)), (6, .int (if q58.1 < x6 then q58.1 else x6)), (7, .int x7)] [] := by
      refine at_iinc (pc := 80) X 7 4 (x7 + 1) [(7, .int (x7 + 1)), (0, .ref a0), (4, .int x4), (5, .int (if q58.1 < x6 then x7 + (1 : Int32) else x5)), (6, .int (if q58.1 < x6 then q58.1 else x6))] dX3_test_80 rfl (ii_1 _) (by decide) rfl ?_
      refine at_goto (pc := 83) X 46 dX3_test_83 (by decide) ?_
      have h2 := mm_inr h hk; exact at_sub [1, 2, 3, 4, 0] rfl h2
    refine at_icmp_ge (pc := 67) X 80 dX3_test_67 (by decide) (fun c67 => ?_) (fun c67 => ?_)
    · try simp only [if_neg c67] at hj67
      exact at_sub [1, 2, 3, 4, 5] rfl hj67
    · try simp only [if_pos c67] at hj67
      refine at_iload (pc := 70) X 7 5 dX3_test_70 rfl ?_
      refine at_iconst (pc := 72) X (1 : Int32) dX3_test_72 ic_1 ?_
      refine at_iadd (pc := 73) X dX3_test_73 ?_
      refine at_istore (pc := 74) X 5 [(5, .int (x7 + (1 : Int32))), (8, .int q58.1), (0, .ref a0), (4, .int x4), (6, .int x6), (7, .int x7)] dX3_test_74 (by decide) rfl ?_
      refine at_iload (pc := 76) X 8 1 dX3_test_76 rfl ?_
      refine at_istore (pc := 78) X 6 [(6, .int q58.1), (5, .int (x7 + (1 : Int32))), (8, .int q58.1), (0, .ref a0), (4, .int x4), (7, .int x7)] dX3_test_78 (by decide) rfl ?_
      exact at_sub [3, 4, 1, 0, 5] rfl hj67
set_option maxHeartbeats 4000000 in
set_option maxRecDepth 100000 in
theorem wX3_test_b0 {E : mm_E} {G : mm_G} (X : mm_Cx E G cX3_test 9 RX3 wsX3_test rmX3_test (some .int)) {a0 : Nat} {x1 : Int32} {x2 : Int32} {σ : mm_M} {q : (Int32 × mm_M)} (ha0 : mm_Is G 3 a0) {o : (Int32 × mm_M) ⊕ (Int32 × Int32 × Int32 × Int32 × mm_M)} (h : fX3_test_b0 G a0 x1 x2 σ = some o) (hk : mm_Ok q (PX3_test E G a0 x1 x2 q) o) : mm_At E G 9 (mm_Qi E G q) σ 0 [(0, .ref a0), (1, .int x1), (2, .int x2)] [] := by
  unfold fX3_test_b0 at h
  refine at_aload_n (pc := 0) X 0 0 dX3_test_0 rfl rfl ?_
  refine at_iload_n (pc := 1) X 1 1 dX3_test_1 rfl rfl ?_
  refine at_iload_n (pc := 2) X 2 2 dX3_test_2 rfl rfl ?_
  obtain ⟨q3, hq3, h⟩ := mm_bind h
  refine at_calli (n := 2) (pc := 3) X 3 [.int x1, .int x2] [] (mX3_refusedWatch (eL E) X.wf ha0 hq3) gX3_test_X3_refusedWatch rfl ⟨rfl, rfl⟩ (by decide +kernel) ⟨by decide, by decide⟩ (by decide) rfl ha0 rfl rfl (Nat.le_of_ble_eq_true rfl) dX3_test_3 ?_
  refine at_istore_n (pc := 6) X 3 [(3, .int q3.1), (0, .ref a0), (1, .int x1), (2, .int x2)] dX3_test_6 rfl (by decide) rfl ?_
  refine at_iload_n (pc := 7) X 3 0 dX3_test_7 rfl rfl ?_
  refine at_if_eq (pc := 8) X 13 dX3_test_8 (by decide) (fun c8 => ?_) (fun c8 => ?_)
  · have h := mm_pos c8 h
    refine at_aload_n (pc := 13) X 0 1 dX3_test_13 rfl rfl ?_
    refine at_iload_n (pc := 14) X 1 2 dX3_test_14 rfl rfl ?_
    refine at_iload_n (pc := 15) X 2 3 dX3_test_15 rfl rfl ?_
    obtain ⟨q16, hq16, h⟩ := mm_bind h
    refine at_calli (n := 2) (pc := 16) X 3 [.int x1, .int x2] [] (mX3_kindsThatFit (eL E) X.wf ha0 hq16) gX3_test_X3_kindsThatFit rfl ⟨rfl, rfl⟩ (by decide +kernel) ⟨by decide, by decide⟩ (by decide) rfl ha0 rfl rfl (Nat.le_of_ble_eq_true rfl) dX3_test_16 ?_
    refine at_istore (pc := 19) X 4 [(4, .int q16.1), (3, .int q3.1), (0, .ref a0), (1, .int x1), (2, .int x2)] dX3_test_19 (by decide) rfl ?_
    refine at_iload (pc := 21) X 4 0 dX3_test_21 rfl ?_
    refine at_if_ne (pc := 23) X 29 dX3_test_23 (by decide) (fun c23 => ?_) (fun c23 => ?_)
    · have h := mm_neg c23 h
      refine at_aload_n (pc := 29) X 0 2 dX3_test_29 rfl rfl ?_
      refine at_iload_n (pc := 30) X 1 3 dX3_test_30 rfl rfl ?_
      refine at_iload (pc := 31) X 4 0 dX3_test_31 rfl ?_
      obtain ⟨q33, hq33, h⟩ := mm_bind h
      refine at_callv (n := 2) (pc := 33) X 3 [.int x1, .int q16.1] [] (mX3_watch (eL E) X.wf ha0 hq33) gX3_test_X3_watch rfl ⟨rfl, rfl⟩ (by decide +kernel) ⟨by decide, by decide⟩ (by decide) rfl ha0 rfl rfl (Nat.le_of_ble_eq_true rfl) dX3_test_33 ?_
      refine at_iconst (pc := 36) X (0 : Int32) dX3_test_36 ic_0 ?_
      refine at_istore (pc := 37) X 5 [(5, .int (0 : Int32)), (4, .int q16.1), (3, .int q3.1), (0, .ref a0), (1, .int x1), (2, .int x2)] dX3_test_37 (by decide) rfl ?_
      refine at_bipush (pc := 39) X (7 : Int32) dX3_test_39 ib_7 ?_
      refine at_istore (pc := 41) X 6 [(6, .int (7 : Int32)), (5, .int (0 : Int32)), (4, .int q16.1), (3, .int q3.1), (0, .ref a0), (1, .int x1), (2, .int x2)] dX3_test_41 (by decide) rfl ?_
      refine at_iconst (pc := 43) X (0 : Int32) dX3_test_43 ic_0 ?_
      refine at_istore (pc := 44) X 7 [(7, .int (0 : Int32)), (6, .int (7 : Int32)), (5, .int (0 : Int32)), (4, .int q16.1), (3, .int q3.1), (0, .ref a0), (1, .int x1), (2, .int x2)] dX3_test_44 (by decide) rfl ?_
      have h2 := mm_inr h hk; exact at_sub [5, 3, 2, 1, 0] rfl h2
    · have h := mm_pos c23 h
      refine at_bipush (pc := 26) X (-9 : Int32) dX3_test_26 ib_m9 ?_
      exact at_iret (pc := 28) X (mm_inl h hk) dX3_test_28
  · have h := mm_neg c8 h
    refine at_iload_n (pc := 11) X 3 0 dX3_test_11 rfl rfl ?_
    exact at_iret (pc := 12) X (mm_inl h hk) dX3_test_12
set_option maxHeartbeats 4000000 in
set_option maxRecDepth 100000 in
theorem mX3_test (l : Launch) {G : mm_G} (hwf : mm_WF G) {a0 : Nat} {x1 : Int32} {x2 : Int32} {σ : mm_M} {q : (Int32 × mm_M)} (ha0 : mm_Is G 3 a0) (h : fX3_test G a0 x1 x2 σ = some q) : mm_Mi l yX3_test wsX3_test rmX3_test G [.ref a0, .int x1, .int x2] σ q := by
  refine mm_ofi (cc := cX3_test) (nL := 9) (ret := some .int) (own := RX3) (lv0 := [(0, .ref a0), (1, .int x1), (2, .int x2)]) (by decide) rfl rfl (Nat.le_of_ble_eq_true rfl) rfl hwf (fun E hE X => ?_)
  obtain ⟨o, h0, hk⟩ := mm_run_ok (P := PX3_test E G a0 x1 x2 q) h (fun s o hs hk => by exact wX3_test_b46 X ha0 hs hk)
  exact wX3_test_b0 X ha0 h0 hk
