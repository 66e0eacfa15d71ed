/-! X0_talkers J6_bitCount_0f7a4 X2_isHeard X2_doubleWait X2_plainWait X2_waitBehind X2_meets X0_goBy X0_lettersBut -/
set_option maxRecDepth 20000 in
theorem ggX0_talkers_X2_wants : GoodIn wsX0_talkers wsX2_wants := goodIn_r _ [8, 9, 10, 11, 12, 13, 7, 14, 15, 22, 23, 24, 25, 26, 27] (by decide +kernel) (by decide +kernel)
set_option maxRecDepth 20000 in
theorem gX0_talkers_X2_wants : GoodIn wsX0_talkers (wsV RX0 66 RX2 yX2_wants wsX2_wants) := goodIn_app (goodIn_of _ (by decide +kernel)) ggX0_talkers_X2_wants
theorem dX0_talkers_0 : decode cX0_talkers 0 = .ok (.iconst 0, 1) := by decide +kernel
theorem dX0_talkers_1 : decode cX0_talkers 1 = .ok (.istore_n 2, 1) := by decide +kernel
theorem dX0_talkers_2 : decode cX0_talkers 2 = .ok (.iconst 0, 1) := by decide +kernel
theorem dX0_talkers_3 : decode cX0_talkers 3 = .ok (.istore_n 3, 1) := by decide +kernel
theorem dX0_talkers_4 : decode cX0_talkers 4 = .ok (.iload_n 3, 1) := by decide +kernel
theorem dX0_talkers_5 : decode cX0_talkers 5 = .ok (.aload_n 0, 1) := by decide +kernel
theorem dX0_talkers_6 : decode cX0_talkers 6 = .ok (.getfield 17, 3) := by decide +kernel
theorem dX0_talkers_9 : decode cX0_talkers 9 = .ok (.if_icmp .ge 39, 3) := by decide +kernel
theorem dX0_talkers_12 : decode cX0_talkers 12 = .ok (.iload_n 1, 1) := by decide +kernel
theorem dX0_talkers_13 : decode cX0_talkers 13 = .ok (.iload_n 3, 1) := by decide +kernel
theorem dX0_talkers_14 : decode cX0_talkers 14 = .ok (.ishr, 1) := by decide +kernel
theorem dX0_talkers_15 : decode cX0_talkers 15 = .ok (.iconst 1, 1) := by decide +kernel
theorem dX0_talkers_16 : decode cX0_talkers 16 = .ok (.iand, 1) := by decide +kernel
theorem dX0_talkers_17 : decode cX0_talkers 17 = .ok (.ifCond .ne 25, 3) := by decide +kernel
theorem dX0_talkers_20 : decode cX0_talkers 20 = .ok (.aload_n 0, 1) := by decide +kernel
theorem dX0_talkers_21 : decode cX0_talkers 21 = .ok (.getfield 11, 3) := by decide +kernel
theorem dX0_talkers_24 : decode cX0_talkers 24 = .ok (.iload_n 3, 1) := by decide +kernel
theorem dX0_talkers_25 : decode cX0_talkers 25 = .ok (.aaload, 1) := by decide +kernel
theorem dX0_talkers_26 : decode cX0_talkers 26 = .ok (.aload_n 0, 1) := by decide +kernel
theorem dX0_talkers_27 : decode cX0_talkers 27 = .ok (.getfield 30, 3) := by decide +kernel
theorem dX0_talkers_30 : decode cX0_talkers 30 = .ok (.invokevirtual 66, 3) := by decide +kernel
theorem dX0_talkers_33 : decode cX0_talkers 33 = .ok (.ifCond .eq 9, 3) := by decide +kernel
theorem dX0_talkers_36 : decode cX0_talkers 36 = .ok (.iload_n 2, 1) := by decide +kernel
theorem dX0_talkers_37 : decode cX0_talkers 37 = .ok (.iconst 1, 1) := by decide +kernel
theorem dX0_talkers_38 : decode cX0_talkers 38 = .ok (.iload_n 3, 1) := by decide +kernel
theorem dX0_talkers_39 : decode cX0_talkers 39 = .ok (.ishl, 1) := by decide +kernel
theorem dX0_talkers_40 : decode cX0_talkers 40 = .ok (.ior, 1) := by decide +kernel
theorem dX0_talkers_41 : decode cX0_talkers 41 = .ok (.istore_n 2, 1) := by decide +kernel
theorem dX0_talkers_42 : decode cX0_talkers 42 = .ok (.iinc 3 1, 3) := by decide +kernel
theorem dX0_talkers_45 : decode cX0_talkers 45 = .ok (.goto (-41), 3) := by decide +kernel
theorem dX0_talkers_48 : decode cX0_talkers 48 = .ok (.iload_n 2, 1) := by decide +kernel
theorem dX0_talkers_49 : decode cX0_talkers 49 = .ok (.ireturn, 1) := by decide +kernel
/-! X0_talkers (I)I -/
abbrev rmX0_talkers : Room := { frames := 2, cells := 0, slots := 0, locals := 42 }
theorem lkX0_talkers_0 : Cond.fieldLink RX0 17 (TX0 1).1 (TX0 1).2.1 (TX0 1).2.2.1 ∈ wsX0_talkers := by decide +kernel
theorem lkX0_talkers_1 : Cond.fieldLink RX0 11 (TX0 0).1 (TX0 0).2.1 (TX0 0).2.2.1 ∈ wsX0_talkers := by decide +kernel
theorem lkX0_talkers_2 : Cond.fieldLink RX0 30 (TX0 5).1 (TX0 5).2.1 (TX0 5).2.2.1 ∈ wsX0_talkers := by decide +kernel
theorem inX0_talkers_X0 : ∀ w ∈ u_ws RX0 TX0 6, w ∈ wsX0_talkers := by decide +kernel
noncomputable def fX0_talkers_b4 (G : mm_G) (a0 : Nat) (x1 : Int32) (x2 : Int32) (x3 : Int32) (σ : mm_M) : Option ((Int32 × mm_M) ⊕ (Int32 × Int32 × mm_M)) := if x3 < (σ.1 a0 1) then (if ((x1 >>> (x3 &&& 31)) &&& (1 : Int32)) = 0 then (if x3 < 0 ∨ mm_N G (mm_R G a0 0) ≤ x3.toNatClampNeg then none else ((fX2_wants G (mm_R G (mm_R G a0 0) x3.toNatClampNeg) (σ.1 a0 5) σ).bind (fun q30 => some (.inr (if q30.1 = 0 then x2 else x2 ||| ((1 : Int32) <<< (x3 &&& 31)), x3 + 1, q30.2))))) else (some (.inr (x2, x3 + 1, σ)))) else (some (.inl (x2, σ)))
noncomputable def fX0_talkers_b0 (G : mm_G) (a0 : Nat) (x1 : Int32) (σ : mm_M) : Option ((Int32 × mm_M) ⊕ (Int32 × Int32 × mm_M)) := some (.inr ((0 : Int32), (0 : Int32), σ))
noncomputable def fX0_talkers_s (G : mm_G) (a0 : Nat) (x1 : Int32) : (Int32 × Int32 × mm_M) → Option ((Int32 × mm_M) ⊕ (Int32 × Int32 × mm_M)) := (fun s => fX0_talkers_b4 G a0 x1 s.1 s.2.1 s.2.2)
def PX0_talkers (E : mm_E) (G : mm_G) (a0 : Nat) (x1 : Int32) (q : (Int32 × mm_M)) : (Int32 × Int32 × mm_M) → Prop := (fun s => mm_At E G 4 (mm_Qi E G q) s.2.2 4 [(0, .ref a0), (1, .int x1), (2, .int s.1), (3, .int s.2.1)] [])
noncomputable def fX0_talkers (G : mm_G) (a0 : Nat) (x1 : Int32) (σ : mm_M) : Option (Int32 × mm_M) := mm_run (fX0_talkers_b0 G a0 x1 σ) (fX0_talkers_s G a0 x1)
set_option maxHeartbeats 4000000 in
set_option maxRecDepth 100000 in
theorem wX0_talkers_b4 {E : mm_E} {G : mm_G} (X : mm_Cx E G cX0_talkers 4 RX0 wsX0_talkers rmX0_talkers (some .int)) {a0 : Nat} {x1 : Int32} {x2 : Int32} {x3 : Int32} {σ : mm_M} {q : (Int32 × mm_M)} (ha0 : mm_Is G 0 a0) {o : (Int32 × mm_M) ⊕ (Int32 × Int32 × mm_M)} (h : fX0_talkers_b4 G a0 x1 x2 x3 σ = some o) (hk : mm_Ok q (PX0_talkers E G a0 x1 q) o) : mm_At E G 4 (mm_Qi E G q) σ 4 [(0, .ref a0), (1, .int x1), (2, .int x2), (3, .int x3)] [] := by
  unfold fX0_talkers_b4 at h
  refine at_iload_n (pc := 4) X 3 3 dX0_talkers_4 rfl rfl ?_
  refine at_aload_n (pc := 5) X 0 0 dX0_talkers_5 rfl rfl ?_
  refine at_get (pc := 6) X 0 1 (.int (σ.1 a0 1)) ha0 (by decide) rfl inX0_talkers_X0 (by decide) lkX0_talkers_0 rfl dX0_talkers_6 ?_
  refine at_icmp_ge (pc := 9) X 48 dX0_talkers_9 (by decide) (fun c9 => ?_) (fun c9 => ?_)
  · have h := mm_neg c9 h
    refine at_iload_n (pc := 48) X 2 2 dX0_talkers_48 rfl rfl ?_
    exact at_iret (pc := 49) X (mm_inl h hk) dX0_talkers_49
  · have h := mm_pos c9 h
    refine at_iload_n (pc := 12) X 1 1 dX0_talkers_12 rfl rfl ?_
    refine at_iload_n (pc := 13) X 3 3 dX0_talkers_13 rfl rfl ?_
    refine at_ishr (pc := 14) X dX0_talkers_14 ?_
    refine at_iconst (pc := 15) X (1 : Int32) dX0_talkers_15 ic_1 ?_
    refine at_iand (pc := 16) X dX0_talkers_16 ?_
    refine at_if_ne (pc := 17) X 42 dX0_talkers_17 (by decide) (fun c17 => ?_) (fun c17 => ?_)
    · have h := mm_neg c17 h
      refine at_iinc (pc := 42) X 3 3 (x3 + 1) [(3, .int (x3 + 1)), (0, .ref a0), (1, .int x1), (2, .int x2)] dX0_talkers_42 rfl (ii_1 _) (by decide) rfl ?_
      refine at_goto (pc := 45) X 4 dX0_talkers_45 (by decide) ?_
      have h2 := mm_inr h hk; exact at_sub [1, 2, 3, 0] rfl h2
    · have h := mm_pos c17 h
      refine at_aload_n (pc := 20) X 0 0 dX0_talkers_20 rfl rfl ?_
      refine at_get (pc := 21) X 0 0 (.ref (mm_R G a0 0)) ha0 (by decide) rfl inX0_talkers_X0 (by decide) lkX0_talkers_1 rfl dX0_talkers_21 ?_
      refine at_iload_n (pc := 24) X 3 3 dX0_talkers_24 rfl rfl ?_
      obtain ⟨hc25, h⟩ := mm_chk h
      refine at_aald (pc := 25) X 8 3 (wf_0_0 X.wf ha0) (by decide) (by decide) rfl rfl hc25 dX0_talkers_25 ?_
      refine at_aload_n (pc := 26) X 0 0 dX0_talkers_26 rfl rfl ?_
      refine at_get (pc := 27) X 0 5 (.int (σ.1 a0 5)) ha0 (by decide) rfl inX0_talkers_X0 (by decide) lkX0_talkers_2 rfl dX0_talkers_27 ?_
      obtain ⟨q30, hq30, h⟩ := mm_bind h
      refine at_calli (n := 1) (pc := 30) X 2 [.int (σ.1 a0 5)] [] (mX2_wants (eL E) X.wf (wf_8 X.wf (wf_0_0 X.wf ha0) hc25) hq30) gX0_talkers_X2_wants rfl ⟨rfl, rfl⟩ (by decide +kernel) ⟨by decide, by decide⟩ (by decide) rfl (wf_8 X.wf (wf_0_0 X.wf ha0) hc25) rfl rfl (Nat.le_of_ble_eq_true rfl) dX0_talkers_30 ?_
      have hj33 : mm_At E G 4 (mm_Qi E G q) q30.2 42 [(0, .ref a0), (1, .int x1), (2, .int (if q30.1 = 0 then x2 else x2 ||| ((1 : Int32) <<< (x3 &&& 31)))), (3, .int x3)] [] := by
        refine at_iinc (pc := 42) X 3 3 (x3 + 1) [(3, .int (x3 + 1)), (0, .ref a0), (1, .int x1), (2, .int (if q30.1 = 0 then x2 else x2 ||| ((1 : Int32) <<< (x3 &&& 31))))] dX0_talkers_42 rfl (ii_1 _) (by decide) rfl ?_
        refine at_goto (pc := 45) X 4 dX0_talkers_45 (by decide) ?_
        have h2 := mm_inr h hk; exact at_sub [1, 2, 3, 0] rfl h2
      refine at_if_eq (pc := 33) X 42 dX0_talkers_33 (by decide) (fun c33 => ?_) (fun c33 => ?_)
      · try simp only [if_pos c33] at hj33
        exact at_sub [0, 1, 2, 3] rfl hj33
      · try simp only [if_neg c33] at hj33
        refine at_iload_n (pc := 36) X 2 2 dX0_talkers_36 rfl rfl ?_
        refine at_iconst (pc := 37) X (1 : Int32) dX0_talkers_37 ic_1 ?_
        refine at_iload_n (pc := 38) X 3 3 dX0_talkers_38 rfl rfl ?_
        refine at_ishl (pc := 39) X dX0_talkers_39 ?_
        refine at_ior (pc := 40) X dX0_talkers_40 ?_
        refine at_istore_n (pc := 41) X 2 [(2, .int (x2 ||| ((1 : Int32) <<< (x3 &&& 31)))), (0, .ref a0), (1, .int x1), (3, .int x3)] dX0_talkers_41 rfl (by decide) rfl ?_
        exact at_sub [1, 2, 0, 3] rfl hj33
set_option maxHeartbeats 4000000 in
set_option maxRecDepth 100000 in
theorem wX0_talkers_b0 {E : mm_E} {G : mm_G} (X : mm_Cx E G cX0_talkers 4 RX0 wsX0_talkers rmX0_talkers (some .int)) {a0 : Nat} {x1 : Int32} {σ : mm_M} {q : (Int32 × mm_M)} (ha0 : mm_Is G 0 a0) {o : (Int32 × mm_M) ⊕ (Int32 × Int32 × mm_M)} (h : fX0_talkers_b0 G a0 x1 σ = some o) (hk : mm_Ok q (PX0_talkers E G a0 x1 q) o) : mm_At E G 4 (mm_Qi E G q) σ 0 [(0, .ref a0), (1, .int x1)] [] := by
  unfold fX0_talkers_b0 at h
  refine at_iconst (pc := 0) X (0 : Int32) dX0_talkers_0 ic_0 ?_
  refine at_istore_n (pc := 1) X 2 [(2, .int (0 : Int32)), (0, .ref a0), (1, .int x1)] dX0_talkers_1 rfl (by decide) rfl ?_
  refine at_iconst (pc := 2) X (0 : Int32) dX0_talkers_2 ic_0 ?_
  refine at_istore_n (pc := 3) X 3 [(3, .int (0 : Int32)), (2, .int (0 : Int32)), (0, .ref a0), (1, .int x1)] dX0_talkers_3 rfl (by decide) rfl ?_
  have h2 := mm_inr h hk; exact at_sub [2, 3, 1, 0] rfl h2
set_option maxHeartbeats 4000000 in
set_option maxRecDepth 100000 in
theorem mX0_talkers (l : Launch) {G : mm_G} (hwf : mm_WF G) {a0 : Nat} {x1 : Int32} {σ : mm_M} {q : (Int32 × mm_M)} (ha0 : mm_Is G 0 a0) (h : fX0_talkers G a0 x1 σ = some q) : mm_Mi l yX0_talkers wsX0_talkers rmX0_talkers G [.ref a0, .int x1] σ q := by
  refine mm_ofi (cc := cX0_talkers) (nL := 4) (ret := some .int) (own := RX0) (lv0 := [(0, .ref a0), (1, .int x1)]) (by decide) rfl rfl (Nat.le_of_ble_eq_true rfl) rfl hwf (fun E hE X => ?_)
  obtain ⟨o, h0, hk⟩ := mm_run_ok (P := PX0_talkers E G a0 x1 q) h (fun s o hs hk => by exact wX0_talkers_b4 X ha0 hs hk)
  exact wX0_talkers_b0 X ha0 h0 hk
theorem dJ6_bitCount_0f7a4_0 : decode cJ6_bitCount_0f7a4 0 = .ok (.iload_n 0, 1) := by decide +kernel
theorem dJ6_bitCount_0f7a4_1 : decode cJ6_bitCount_0f7a4 1 = .ok (.iload_n 0, 1) := by decide +kernel
theorem dJ6_bitCount_0f7a4_2 : decode cJ6_bitCount_0f7a4 2 = .ok (.iconst 1, 1) := by decide +kernel
theorem dJ6_bitCount_0f7a4_3 : decode cJ6_bitCount_0f7a4 3 = .ok (.iushr, 1) := by decide +kernel
theorem dJ6_bitCount_0f7a4_4 : decode cJ6_bitCount_0f7a4 4 = .ok (.ldc_w 265, 3) := by decide +kernel
theorem dJ6_bitCount_0f7a4_7 : decode cJ6_bitCount_0f7a4 7 = .ok (.iand, 1) := by decide +kernel
theorem dJ6_bitCount_0f7a4_8 : decode cJ6_bitCount_0f7a4 8 = .ok (.isub, 1) := by decide +kernel
theorem dJ6_bitCount_0f7a4_9 : decode cJ6_bitCount_0f7a4 9 = .ok (.istore_n 0, 1) := by decide +kernel
theorem dJ6_bitCount_0f7a4_10 : decode cJ6_bitCount_0f7a4 10 = .ok (.iload_n 0, 1) := by decide +kernel
theorem dJ6_bitCount_0f7a4_11 : decode cJ6_bitCount_0f7a4 11 = .ok (.ldc_w 266, 3) := by decide +kernel
theorem dJ6_bitCount_0f7a4_14 : decode cJ6_bitCount_0f7a4 14 = .ok (.iand, 1) := by decide +kernel
theorem dJ6_bitCount_0f7a4_15 : decode cJ6_bitCount_0f7a4 15 = .ok (.iload_n 0, 1) := by decide +kernel
theorem dJ6_bitCount_0f7a4_16 : decode cJ6_bitCount_0f7a4 16 = .ok (.iconst 2, 1) := by decide +kernel
theorem dJ6_bitCount_0f7a4_17 : decode cJ6_bitCount_0f7a4 17 = .ok (.iushr, 1) := by decide +kernel
theorem dJ6_bitCount_0f7a4_18 : decode cJ6_bitCount_0f7a4 18 = .ok (.ldc_w 266, 3) := by decide +kernel
theorem dJ6_bitCount_0f7a4_21 : decode cJ6_bitCount_0f7a4 21 = .ok (.iand, 1) := by decide +kernel
theorem dJ6_bitCount_0f7a4_22 : decode cJ6_bitCount_0f7a4 22 = .ok (.iadd, 1) := by decide +kernel
theorem dJ6_bitCount_0f7a4_23 : decode cJ6_bitCount_0f7a4 23 = .ok (.istore_n 0, 1) := by decide +kernel
theorem dJ6_bitCount_0f7a4_24 : decode cJ6_bitCount_0f7a4 24 = .ok (.iload_n 0, 1) := by decide +kernel
theorem dJ6_bitCount_0f7a4_25 : decode cJ6_bitCount_0f7a4 25 = .ok (.iload_n 0, 1) := by decide +kernel
theorem dJ6_bitCount_0f7a4_26 : decode cJ6_bitCount_0f7a4 26 = .ok (.iconst 4, 1) := by decide +kernel
theorem dJ6_bitCount_0f7a4_27 : decode cJ6_bitCount_0f7a4 27 = .ok (.iushr, 1) := by decide +kernel
theorem dJ6_bitCount_0f7a4_28 : decode cJ6_bitCount_0f7a4 28 = .ok (.iadd, 1) := by decide +kernel
theorem dJ6_bitCount_0f7a4_29 : decode cJ6_bitCount_0f7a4 29 = .ok (.ldc_w 267, 3) := by decide +kernel
theorem dJ6_bitCount_0f7a4_32 : decode cJ6_bitCount_0f7a4 32 = .ok (.iand, 1) := by decide +kernel
theorem dJ6_bitCount_0f7a4_33 : decode cJ6_bitCount_0f7a4 33 = .ok (.istore_n 0, 1) := by decide +kernel
theorem dJ6_bitCount_0f7a4_34 : decode cJ6_bitCount_0f7a4 34 = .ok (.iload_n 0, 1) := by decide +kernel
theorem dJ6_bitCount_0f7a4_35 : decode cJ6_bitCount_0f7a4 35 = .ok (.iload_n 0, 1) := by decide +kernel
theorem dJ6_bitCount_0f7a4_36 : decode cJ6_bitCount_0f7a4 36 = .ok (.bipush 8, 2) := by decide +kernel
theorem dJ6_bitCount_0f7a4_38 : decode cJ6_bitCount_0f7a4 38 = .ok (.iushr, 1) := by decide +kernel
theorem dJ6_bitCount_0f7a4_39 : decode cJ6_bitCount_0f7a4 39 = .ok (.iadd, 1) := by decide +kernel
theorem dJ6_bitCount_0f7a4_40 : decode cJ6_bitCount_0f7a4 40 = .ok (.istore_n 0, 1) := by decide +kernel
theorem dJ6_bitCount_0f7a4_41 : decode cJ6_bitCount_0f7a4 41 = .ok (.iload_n 0, 1) := by decide +kernel
theorem dJ6_bitCount_0f7a4_42 : decode cJ6_bitCount_0f7a4 42 = .ok (.iload_n 0, 1) := by decide +kernel
theorem dJ6_bitCount_0f7a4_43 : decode cJ6_bitCount_0f7a4 43 = .ok (.bipush 16, 2) := by decide +kernel
theorem dJ6_bitCount_0f7a4_45 : decode cJ6_bitCount_0f7a4 45 = .ok (.iushr, 1) := by decide +kernel
theorem dJ6_bitCount_0f7a4_46 : decode cJ6_bitCount_0f7a4 46 = .ok (.iadd, 1) := by decide +kernel
theorem dJ6_bitCount_0f7a4_47 : decode cJ6_bitCount_0f7a4 47 = .ok (.istore_n 0, 1) := by decide +kernel
theorem dJ6_bitCount_0f7a4_48 : decode cJ6_bitCount_0f7a4 48 = .ok (.iload_n 0, 1) := by decide +kernel
theorem dJ6_bitCount_0f7a4_49 : decode cJ6_bitCount_0f7a4 49 = .ok (.bipush 63, 2) := by decide +kernel
theorem dJ6_bitCount_0f7a4_51 : decode cJ6_bitCount_0f7a4 51 = .ok (.iand, 1) := by decide +kernel
theorem dJ6_bitCount_0f7a4_52 : decode cJ6_bitCount_0f7a4 52 = .ok (.ireturn, 1) := by decide +kernel
/-! J6_bitCount_0f7a4 (I)I -/
abbrev rmJ6_bitCount_0f7a4 : Room := { frames := 0, cells := 0, slots := 0, locals := 0 }
theorem lkJ6_bitCount_0f7a4_0 : Cond.constant RJ6 265 (1431655765) ∈ wsJ6_bitCount_0f7a4 := by decide +kernel
theorem lkJ6_bitCount_0f7a4_1 : Cond.constant RJ6 266 (858993459) ∈ wsJ6_bitCount_0f7a4 := by decide +kernel
theorem lkJ6_bitCount_0f7a4_2 : Cond.constant RJ6 267 (252645135) ∈ wsJ6_bitCount_0f7a4 := by decide +kernel
noncomputable def fJ6_bitCount_0f7a4 (G : mm_G) (x0 : Int32) (σ : mm_M) : Option (Int32 × mm_M) := some ((((((((x0 - (((x0.toUInt32 >>> ((1 : Int32).toUInt32 &&& Int32.toUInt32 31)).toInt32) &&& (1431655765 : Int32))) &&& (858993459 : Int32)) + ((((x0 - (((x0.toUInt32 >>> ((1 : Int32).toUInt32 &&& Int32.toUInt32 31)).toInt32) &&& (1431655765 : Int32))).toUInt32 >>> ((2 : Int32).toUInt32 &&& Int32.toUInt32 31)).toInt32) &&& (858993459 : Int32))) + (((((x0 - (((x0.toUInt32 >>> ((1 : Int32).toUInt32 &&& Int32.toUInt32 31)).toInt32) &&& (1431655765 : Int32))) &&& (858993459 : Int32)) + ((((x0 - (((x0.toUInt32 >>> ((1 : Int32).toUInt32 &&& Int32.toUInt32 31)).toInt32) &&& (1431655765 : Int32))).toUInt32 >>> ((2 : Int32).toUInt32 &&& Int32.toUInt32 31)).toInt32) &&& (858993459 : Int32))).toUInt32 >>> ((4 : Int32).toUInt32 &&& Int32.toUInt32 31)).toInt32)) &&& (252645135 : Int32)) + (((((((x0 - (((x0.toUInt32 >>> ((1 : Int32).toUInt32 &&& Int32.toUInt32 31)).toInt32) &&& (1431655765 : Int32))) &&& (858993459 : Int32)) + ((((x0 - (((x0.toUInt32 >>> ((1 : Int32).toUInt32 &&& Int32.toUInt32 31)).toInt32) &&& (1431655765 : Int32))).toUInt32 >>> ((2 : Int32).toUInt32 &&& Int32.toUInt32 31)).toInt32) &&& (858993459 : Int32))) + (((((x0 - (((x0.toUInt32 >>> ((1 : Int32).toUInt32 &&& Int32.toUInt32 31)).toInt32) &&& (1431655765 : Int32))) &&& (858993459 : Int32)) + ((((x0 - (((x0.toUInt32 >>> ((1 : Int32).toUInt32 &&& Int32.toUInt32 31)).toInt32) &&& (1431655765 : Int32))).toUInt32 >>> ((2 : Int32).toUInt32 &&& Int32.toUInt32 31)).toInt32) &&& (858993459 : Int32))).toUInt32 >>> ((4 : Int32).toUInt32 &&& Int32.toUInt32 31)).toInt32)) &&& (252645135 : Int32)).toUInt32 >>> ((8 : Int32).toUInt32 &&& Int32.toUInt32 31)).toInt32)) + ((((((((x0 - (((x0.toUInt32 >>> ((1 : Int32).toUInt32 &&& Int32.toUInt32 31)).toInt32) &&& (1431655765 : Int32))) &&& (858993459 : Int32)) + ((((x0 - (((x0.toUInt32 >>> ((1 : Int32).toUInt32 &&& Int32.toUInt32 31)).toInt32) &&& (1431655765 : Int32))).toUInt32 >>> ((2 : Int32).toUInt32 &&& Int32.toUInt32 31)).toInt32) &&& (858993459 : Int32))) + (((((x0 - (((x0.toUInt32 >>> ((1 : Int32).toUInt32 &&& Int32.toUInt32 31)).toInt32) &&& (1431655765 : Int32))) &&& (858993459 : Int32)) + ((((x0 - (((x0.toUInt32 >>> ((1 : Int32).toUInt32 &&& Int32.toUInt32 31)).toInt32) &&& (1431655765 : Int32))).toUInt32 >>> ((2 : Int32).toUInt32 &&& Int32.toUInt32 31)).toInt32) &&& (858993459 : Int32))).toUInt32 >>> ((4 : Int32).toUInt32 &&& Int32.toUInt32 31)).toInt32)) &&& (252645135 : Int32)) + (((((((x0 - (((x0.toUInt32 >>> ((1 : Int32).toUInt32 &&& Int32.toUInt32 31)).toInt32) &&& (1431655765 : Int32))) &&& (858993459 : Int32)) + ((((x0 - (((x0.toUInt32 >>> ((1 : Int32).toUInt32 &&& Int32.toUInt32 31)).toInt32) &&& (1431655765 : Int32))).toUInt32 >>> ((2 : Int32).toUInt32 &&& Int32.toUInt32 31)).toInt32) &&& (858993459 : Int32))) + (((((x0 - (((x0.toUInt32 >>> ((1 : Int32).toUInt32 &&& Int32.toUInt32 31)).toInt32) &&& (1431655765 : Int32))) &&& (858993459 : Int32)) + ((((x0 - (((x0.toUInt32 >>> ((1 : Int32).toUInt32 &&& Int32.toUInt32 31)).toInt32) &&& (1431655765 : Int32))).toUInt32 >>> ((2 : Int32).toUInt32 &&& Int32.toUInt32 31)).toInt32) &&& (858993459 : Int32))).toUInt32 >>> ((4 : Int32).toUInt32 &&& Int32.toUInt32 31)).toInt32)) &&& (252645135 : Int32)).toUInt32 >>> ((8 : Int32).toUInt32 &&& Int32.toUInt32 31)).toInt32)).toUInt32 >>> ((16 : Int32).toUInt32 &&& Int32.toUInt32 31)).toInt32)) &&& (63 : Int32), σ)
set_option maxHeartbeats 4000000 in
set_option maxRecDepth 100000 in
theorem wJ6_bitCount_0f7a4_b0 {E : mm_E} {G : mm_G} (X : mm_Cx E G cJ6_bitCount_0f7a4 1 RJ6 wsJ6_bitCount_0f7a4 rmJ6_bitCount_0f7a4 (some .int)) {x0 : Int32} {σ : mm_M} {q : (Int32 × mm_M)} (h : fJ6_bitCount_0f7a4 G x0 σ = some q) : mm_At E G 1 (mm_Qi E G q) σ 0 [(0, .int x0)] [] := by
  unfold fJ6_bitCount_0f7a4 at h
  refine at_iload_n (pc := 0) X 0 0 dJ6_bitCount_0f7a4_0 rfl rfl ?_
  refine at_iload_n (pc := 1) X 0 0 dJ6_bitCount_0f7a4_1 rfl rfl ?_
  refine at_iconst (pc := 2) X (1 : Int32) dJ6_bitCount_0f7a4_2 ic_1 ?_
  refine at_iushr (pc := 3) X dJ6_bitCount_0f7a4_3 ?_
  refine at_ldc_w (pc := 4) X (1431655765 : Int32) lkJ6_bitCount_0f7a4_0 dJ6_bitCount_0f7a4_4 ?_
  refine at_iand (pc := 7) X dJ6_bitCount_0f7a4_7 ?_
  refine at_isub (pc := 8) X dJ6_bitCount_0f7a4_8 ?_
  refine at_istore_n (pc := 9) X 0 [(0, .int (x0 - (((x0.toUInt32 >>> ((1 : Int32).toUInt32 &&& Int32.toUInt32 31)).toInt32) &&& (1431655765 : Int32))))] dJ6_bitCount_0f7a4_9 rfl (by decide) rfl ?_
  refine at_iload_n (pc := 10) X 0 0 dJ6_bitCount_0f7a4_10 rfl rfl ?_
  refine at_ldc_w (pc := 11) X (858993459 : Int32) lkJ6_bitCount_0f7a4_1 dJ6_bitCount_0f7a4_11 ?_
  refine at_iand (pc := 14) X dJ6_bitCount_0f7a4_14 ?_
  refine at_iload_n (pc := 15) X 0 0 dJ6_bitCount_0f7a4_15 rfl rfl ?_
  refine at_iconst (pc := 16) X (2 : Int32) dJ6_bitCount_0f7a4_16 ic_2 ?_
  refine at_iushr (pc := 17) X dJ6_bitCount_0f7a4_17 ?_
  refine at_ldc_w (pc := 18) X (858993459 : Int32) lkJ6_bitCount_0f7a4_1 dJ6_bitCount_0f7a4_18 ?_
  refine at_iand (pc := 21) X dJ6_bitCount_0f7a4_21 ?_
  refine at_iadd (pc := 22) X dJ6_bitCount_0f7a4_22 ?_
  refine at_istore_n (pc := 23) X 0 [(0, .int (((x0 - (((x0.toUInt32 >>> ((1 : Int32).toUInt32 &&& Int32.toUInt32 31)).toInt32) &&& (1431655765 : Int32))) &&& (858993459 : Int32)) + ((((x0 - (((x0.toUInt32 >>> ((1 : Int32).toUInt32 &&& Int32.toUInt32 31)).toInt32) &&& (1431655765 : Int32))).toUInt32 >>> ((2 : Int32).toUInt32 &&& Int32.toUInt32 31)).toInt32) &&& (858993459 : Int32))))] dJ6_bitCount_0f7a4_23 rfl (by decide) rfl ?_
  refine at_iload_n (pc := 24) X 0 0 dJ6_bitCount_0f7a4_24 rfl rfl ?_
  refine at_iload_n (pc := 25) X 0 0 dJ6_bitCount_0f7a4_25 rfl rfl ?_
  refine at_iconst (pc := 26) X (4 : Int32) dJ6_bitCount_0f7a4_26 ic_4 ?_
  refine at_iushr (pc := 27) X dJ6_bitCount_0f7a4_27 ?_
  refine at_iadd (pc := 28) X dJ6_bitCount_0f7a4_28 ?_
  refine at_ldc_w (pc := 29) X (252645135 : Int32) lkJ6_bitCount_0f7a4_2 dJ6_bitCount_0f7a4_29 ?_
  refine at_iand (pc := 32) X dJ6_bitCount_0f7a4_32 ?_
  refine at_istore_n (pc := 33) X 0 [(0, .int (((((x0 - (((x0.toUInt32 >>> ((1 : Int32).toUInt32 &&& Int32.toUInt32 31)).toInt32) &&& (1431655765 : Int32))) &&& (858993459 : Int32)) + ((((x0 - (((x0.toUInt32 >>> ((1 : Int32).toUInt32 &&& Int32.toUInt32 31)).toInt32) &&& (1431655765 : Int32))).toUInt32 >>> ((2 : Int32).toUInt32 &&& Int32.toUInt32 31)).toInt32) &&& (858993459 : Int32))) + (((((x0 - (((x0.toUInt32 >>> ((1 : Int32).toUInt32 &&& Int32.toUInt32 31)).toInt32) &&& (1431655765 : Int32))) &&& (858993459 : Int32)) + ((((x0 - (((x0.toUInt32 >>> ((1 : Int32).toUInt32 &&& Int32.toUInt32 31)).toInt32) &&& (1431655765 : Int32))).toUInt32 >>> ((2 : Int32).toUInt32 &&& Int32.toUInt32 31)).toInt32) &&& (858993459 : Int32))).toUInt32 >>> ((4 : Int32).toUInt32 &&& Int32.toUInt32 31)).toInt32)) &&& (252645135 : Int32)))] dJ6_bitCount_0f7a4_33 rfl (by decide) rfl ?_
  refine at_iload_n (pc := 34) X 0 0 dJ6_bitCount_0f7a4_34 rfl rfl ?_
  refine at_iload_n (pc := 35) X 0 0 dJ6_bitCount_0f7a4_35 rfl rfl ?_
  refine at_bipush (pc := 36) X (8 : Int32) dJ6_bitCount_0f7a4_36 ib_8 ?_
  refine at_iushr (pc := 38) X dJ6_bitCount_0f7a4_38 ?_
  refine at_iadd (pc := 39) X dJ6_bitCount_0f7a4_39 ?_
  refine at_istore_n (pc := 40) X 0 [(0, .int ((((((x0 - (((x0.toUInt32 >>> ((1 : Int32).toUInt32 &&& Int32.toUInt32 31)).toInt32) &&& (1431655765 : Int32))) &&& (858993459 : Int32)) + ((((x0 - (((x0.toUInt32 >>> ((1 : Int32).toUInt32 &&& Int32.toUInt32 31)).toInt32) &&& (1431655765 : Int32))).toUInt32 >>> ((2 : Int32).toUInt32 &&& Int32.toUInt32 31)).toInt32) &&& (858993459 : Int32))) + (((((x0 - (((x0.toUInt32 >>> ((1 : Int32).toUInt32 &&& Int32.toUInt32 31)).toInt32) &&& (1431655765 : Int32))) &&& (858993459 : Int32)) + ((((x0 - (((x0.toUInt32 >>> ((1 : Int32).toUInt32 &&& Int32.toUInt32 31)).toInt32) &&& (1431655765 : Int32))).toUInt32 >>> ((2 : Int32).toUInt32 &&& Int32.toUInt32 31)).toInt32) &&& (858993459 : Int32))).toUInt32 >>> ((4 : Int32).toUInt32 &&& Int32.toUInt32 31)).toInt32)) &&& (252645135 : Int32)) + (((((((x0 - (((x0.toUInt32 >>> ((1 : Int32).toUInt32 &&& Int32.toUInt32 31)).toInt32) &&& (1431655765 : Int32))) &&& (858993459 : Int32)) + ((((x0 - (((x0.toUInt32 >>> ((1 : Int32).toUInt32 &&& Int32.toUInt32 31)).toInt32) &&& (1431655765 : Int32))).toUInt32 >>> ((2 : Int32).toUInt32 &&& Int32.toUInt32 31)).toInt32) &&& (858993459 : Int32))) + (((((x0 - (((x0.toUInt32 >>> ((1 : Int32).toUInt32 &&& Int32.toUInt32 31)).toInt32) &&& (1431655765 : Int32))) &&& (858993459 : Int32)) + ((((x0 - (((x0.toUInt32 >>> ((1 : Int32).toUInt32 &&& Int32.toUInt32 31)).toInt32) &&& (1431655765 : Int32))).toUInt32 >>> ((2 : Int32).toUInt32 &&& Int32.toUInt32 31)).toInt32) &&& (858993459 : Int32))).toUInt32 >>> ((4 : Int32).toUInt32 &&& Int32.toUInt32 31)).toInt32)) &&& (252645135 : Int32)).toUInt32 >>> ((8 : Int32).toUInt32 &&& Int32.toUInt32 31)).toInt32)))] dJ6_bitCount_0f7a4_40 rfl (by decide) rfl ?_
  refine at_iload_n (pc := 41) X 0 0 dJ6_bitCount_0f7a4_41 rfl rfl ?_
  refine at_iload_n (pc := 42) X 0 0 dJ6_bitCount_0f7a4_42 rfl rfl ?_
  refine at_bipush (pc := 43) X (16 : Int32) dJ6_bitCount_0f7a4_43 ib_16 ?_
  refine at_iushr (pc := 45) X dJ6_bitCount_0f7a4_45 ?_
  refine at_iadd (pc := 46) X dJ6_bitCount_0f7a4_46 ?_
  refine at_istore_n (pc := 47) X 0 [(0, .int (((((((x0 - (((x0.toUInt32 >>> ((1 : Int32).toUInt32 &&& Int32.toUInt32 31)).toInt32) &&& (1431655765 : Int32))) &&& (858993459 : Int32)) + ((((x0 - (((x0.toUInt32 >>> ((1 : Int32).toUInt32 &&& Int32.toUInt32 31)).toInt32) &&& (1431655765 : Int32))).toUInt32 >>> ((2 : Int32).toUInt32 &&& Int32.toUInt32 31)).toInt32) &&& (858993459 : Int32))) + (((((x0 - (((x0.toUInt32 >>> ((1 : Int32).toUInt32 &&& Int32.toUInt32 31)).toInt32) &&& (1431655765 : Int32))) &&& (858993459 : Int32)) + ((((x0 - (((x0.toUInt32 >>> ((1 : Int32).toUInt32 &&& Int32.toUInt32 31)).toInt32) &&& (1431655765 : Int32))).toUInt32 >>> ((2 : Int32).toUInt32 &&& Int32.toUInt32 31)).toInt32) &&& (858993459 : Int32))).toUInt32 >>> ((4 : Int32).toUInt32 &&& Int32.toUInt32 31)).toInt32)) &&& (252645135 : Int32)) + (((((((x0 - (((x0.toUInt32 >>> ((1 : Int32).toUInt32 &&& Int32.toUInt32 31)).toInt32) &&& (1431655765 : Int32))) &&& (858993459 : Int32)) + ((((x0 - (((x0.toUInt32 >>> ((1 : Int32).toUInt32 &&& Int32.toUInt32 31)).toInt32) &&& (1431655765 : Int32))).toUInt32 >>> ((2 : Int32).toUInt32 &&& Int32.toUInt32 31)).toInt32) &&& (858993459 : Int32))) + (((((x0 - (((x0.toUInt32 >>> ((1 : Int32).toUInt32 &&& Int32.toUInt32 31)).toInt32) &&& (1431655765 : Int32))) &&& (858993459 : Int32)) + ((((x0 - (((x0.toUInt32 >>> ((1 : Int32).toUInt32 &&& Int32.toUInt32 31)).toInt32) &&& (1431655765 : Int32))).toUInt32 >>> ((2 : Int32).toUInt32 &&& Int32.toUInt32 31)).toInt32) &&& (858993459 : Int32))).toUInt32 >>> ((4 : Int32).toUInt32 &&& Int32.toUInt32 31)).toInt32)) &&& (252645135 : Int32)).toUInt32 >>> ((8 : Int32).toUInt32 &&& Int32.toUInt32 31)).toInt32)) + ((((((((x0 - (((x0.toUInt32 >>> ((1 : Int32).toUInt32 &&& Int32.toUInt32 31)).toInt32) &&& (1431655765 : Int32))) &&& (858993459 : Int32)) + ((((x0 - (((x0.toUInt32 >>> ((1 : Int32).toUInt32 &&& Int32.toUInt32 31)).toInt32) &&& (1431655765 : Int32))).toUInt32 >>> ((2 : Int32).toUInt32 &&& Int32.toUInt32 31)).toInt32) &&& (858993459 : Int32))) + (((((x0 - (((x0.toUInt32 >>> ((1 : Int32).toUInt32 &&& Int32.toUInt32 31)).toInt32) &&& (1431655765 : Int32))) &&& (858993459 : Int32)) + ((((x0 - (((x0.toUInt32 >>> ((1 : Int32).toUInt32 &&& Int32.toUInt32 31)).toInt32) &&& (1431655765 : Int32))).toUInt32 >>> ((2 : Int32).toUInt32 &&& Int32.toUInt32 31)).toInt32) &&& (858993459 : Int32))).toUInt32 >>> ((4 : Int32).toUInt32 &&& Int32.toUInt32 31)).toInt32)) &&& (252645135 : Int32)) + (((((((x0 - (((x0.toUInt32 >>> ((1 : Int32).toUInt32 &&& Int32.toUInt32 31)).toInt32) &&& (1431655765 : Int32))) &&& (858993459 : Int32)) + ((((x0 - (((x0.toUInt32 >>> ((1 : Int32).toUInt32 &&& Int32.toUInt32 31)).toInt32) &&& (1431655765 : Int32))).toUInt32 >>> ((2 : Int32).toUInt32 &&& Int32.toUInt32 31)).toInt32) &&& (858993459 : Int32))) + (((((x0 - (((x0.toUInt32 >>> ((1 : Int32).toUInt32 &&& Int32.toUInt32 31)).toInt32) &&& (1431655765 : Int32))) &&& (858993459 : Int32)) + ((((x0 - (((x0.toUInt32 >>> ((1 : Int32).toUInt32 &&& Int32.toUInt32 31)).toInt32) &&& (1431655765 : Int32))).toUInt32 >>> ((2 : Int32).toUInt32 &&& Int32.toUInt32 31)).toInt32) &&& (858993459 : Int32))).toUInt32 >>> ((4 : Int32).toUInt32 &&& Int32.toUInt32 31)).toInt32)) &&& (252645135 : Int32)).toUInt32 >>> ((8 : Int32).toUInt32 &&& Int32.toUInt32 31)).toInt32)).toUInt32 >>> ((16 : Int32).toUInt32 &&& Int32.toUInt32 31)).toInt32)))] dJ6_bitCount_0f7a4_47 rfl (by decide) rfl ?_
  refine at_iload_n (pc := 48) X 0 0 dJ6_bitCount_0f7a4_48 rfl rfl ?_
  refine at_bipush (pc := 49) X (63 : Int32) dJ6_bitCount_0f7a4_49 ib_63 ?_
  refine at_iand (pc := 51) X dJ6_bitCount_0f7a4_51 ?_
  exact at_iret (pc := 52) X (Option.some.inj h) dJ6_bitCount_0f7a4_52
set_option maxHeartbeats 4000000 in
set_option maxRecDepth 100000 in
theorem mJ6_bitCount_0f7a4 (l : Launch) {G : mm_G} (hwf : mm_WF G) {x0 : Int32} {σ : mm_M} {q : (Int32 × mm_M)} (h : fJ6_bitCount_0f7a4 G x0 σ = some q) : mm_Mi l yJ6_bitCount_0f7a4 wsJ6_bitCount_0f7a4 rmJ6_bitCount_0f7a4 G [.int x0] σ q := by
  refine mm_ofi (cc := cJ6_bitCount_0f7a4) (nL := 1) (ret := some .int) (own := RJ6) (lv0 := [(0, .int x0)]) (by decide) rfl rfl (Nat.le_of_ble_eq_true rfl) rfl hwf (fun E hE X => ?_)
  exact wJ6_bitCount_0f7a4_b0 X  h
theorem dX2_isHeard_0 : decode cX2_isHeard 0 = .ok (.aload_n 0, 1) := by decide +kernel
theorem dX2_isHeard_1 : decode cX2_isHeard 1 = .ok (.dup, 1) := by decide +kernel
theorem dX2_isHeard_2 : decode cX2_isHeard 2 = .ok (.getfield 21, 3) := by decide +kernel
theorem dX2_isHeard_5 : decode cX2_isHeard 5 = .ok (.iconst 1, 1) := by decide +kernel
theorem dX2_isHeard_6 : decode cX2_isHeard 6 = .ok (.isub, 1) := by decide +kernel
theorem dX2_isHeard_7 : decode cX2_isHeard 7 = .ok (.putfield 21, 3) := by decide +kernel
theorem dX2_isHeard_10 : decode cX2_isHeard 10 = .ok (.aload_n 0, 1) := by decide +kernel
theorem dX2_isHeard_11 : decode cX2_isHeard 11 = .ok (.iconst 0, 1) := by decide +kernel
theorem dX2_isHeard_12 : decode cX2_isHeard 12 = .ok (.putfield 27, 3) := by decide +kernel
theorem dX2_isHeard_15 : decode cX2_isHeard 15 = .ok (.return_, 1) := by decide +kernel
/-! X2_isHeard ()V -/
abbrev rmX2_isHeard : Room := { frames := 0, cells := 0, slots := 0, locals := 0 }
theorem lkX2_isHeard_0 : Cond.fieldLink RX2 21 (TX2 3).1 (TX2 3).2.1 (TX2 3).2.2.1 ∈ wsX2_isHeard := by decide +kernel
theorem lkX2_isHeard_1 : Cond.fieldLink RX2 27 (TX2 5).1 (TX2 5).2.1 (TX2 5).2.2.1 ∈ wsX2_isHeard := by decide +kernel
theorem inX2_isHeard_X2 : ∀ w ∈ u_ws RX2 TX2 6, w ∈ wsX2_isHeard := by decide +kernel
noncomputable def fX2_isHeard (G : mm_G) (a0 : Nat) (σ : mm_M) : Option mm_M := some (mm_up (mm_up σ a0 3 ((σ.1 a0 3) - (1 : Int32))) a0 5 (0 : Int32))
set_option maxHeartbeats 4000000 in
set_option maxRecDepth 100000 in
theorem wX2_isHeard_b0 {E : mm_E} {G : mm_G} (X : mm_Cx E G cX2_isHeard 1 RX2 wsX2_isHeard rmX2_isHeard (none)) {a0 : Nat} {σ : mm_M} {q : mm_M} (ha0 : mm_Is G 2 a0) (h : fX2_isHeard G a0 σ = some q) : mm_At E G 1 (mm_Qv E G q) σ 0 [(0, .ref a0)] [] := by
  unfold fX2_isHeard at h
  refine at_aload_n (pc := 0) X 0 0 dX2_isHeard_0 rfl rfl ?_
  refine at_dup (pc := 1) X dX2_isHeard_1 rfl ?_
  refine at_get (pc := 2) X 2 3 (.int (σ.1 a0 3)) ha0 (by decide) rfl inX2_isHeard_X2 (by decide) lkX2_isHeard_0 rfl dX2_isHeard_2 ?_
  refine at_iconst (pc := 5) X (1 : Int32) dX2_isHeard_5 ic_1 ?_
  refine at_isub (pc := 6) X dX2_isHeard_6 ?_
  refine at_put (pc := 7) X 2 3 ha0 (by decide) rfl inX2_isHeard_X2 tyX2 tyX2_ok nmX2 (by decide) lkX2_isHeard_0 rfl (ty := .int) rfl rfl rfl (Nat.le_of_ble_eq_true rfl) (ms_2_3 G _ _ _) mm_up_ne dX2_isHeard_7 ?_
  refine at_aload_n (pc := 10) X 0 0 dX2_isHeard_10 rfl rfl ?_
  refine at_iconst (pc := 11) X (0 : Int32) dX2_isHeard_11 ic_0 ?_
  refine at_put (pc := 12) X 2 5 ha0 (by decide) rfl inX2_isHeard_X2 tyX2 tyX2_ok nmX2 (by decide) lkX2_isHeard_1 rfl (ty := .int) rfl rfl rfl (Nat.le_of_ble_eq_true rfl) (ms_2_5 G _ _ _) mm_up_ne dX2_isHeard_12 ?_
  exact at_vret (pc := 15) X (Option.some.inj h) dX2_isHeard_15
set_option maxHeartbeats 4000000 in
set_option maxRecDepth 100000 in
theorem mX2_isHeard (l : Launch) {G : mm_G} (hwf : mm_WF G) {a0 : Nat} {σ : mm_M} {q : mm_M} (ha0 : mm_Is G 2 a0) (h : fX2_isHeard G a0 σ = some q) : mm_Mv l yX2_isHeard wsX2_isHeard rmX2_isHeard G [.ref a0] σ q := by
  refine mm_ofv (cc := cX2_isHeard) (nL := 1) (ret := none) (own := RX2) (lv0 := [(0, .ref a0)]) (by decide) rfl rfl (Nat.le_of_ble_eq_true rfl) rfl hwf (fun E hE X => ?_)
  exact wX2_isHeard_b0 X ha0 h
theorem dX2_doubleWait_0 : decode cX2_doubleWait 0 = .ok (.iconst 0, 1) := by decide +kernel
theorem dX2_doubleWait_1 : decode cX2_doubleWait 1 = .ok (.iload_n 1, 1) := by decide +kernel
theorem dX2_doubleWait_2 : decode cX2_doubleWait 2 = .ok (.iconst 1, 1) := by decide +kernel
theorem dX2_doubleWait_3 : decode cX2_doubleWait 3 = .ok (.isub, 1) := by decide +kernel
theorem dX2_doubleWait_4 : decode cX2_doubleWait 4 = .ok (.bipush 7, 2) := by decide +kernel
theorem dX2_doubleWait_6 : decode cX2_doubleWait 6 = .ok (.invokestatic 38, 3) := by decide +kernel
theorem dX2_doubleWait_9 : decode cX2_doubleWait 9 = .ok (.invokestatic 44, 3) := by decide +kernel
theorem dX2_doubleWait_12 : decode cX2_doubleWait 12 = .ok (.istore_n 2, 1) := by decide +kernel
theorem dX2_doubleWait_13 : decode cX2_doubleWait 13 = .ok (.bipush 64, 2) := by decide +kernel
theorem dX2_doubleWait_15 : decode cX2_doubleWait 15 = .ok (.aload_n 0, 1) := by decide +kernel
theorem dX2_doubleWait_16 : decode cX2_doubleWait 16 = .ok (.getfield 15, 3) := by decide +kernel
theorem dX2_doubleWait_19 : decode cX2_doubleWait 19 = .ok (.aload_n 0, 1) := by decide +kernel
theorem dX2_doubleWait_20 : decode cX2_doubleWait 20 = .ok (.getfield 18, 3) := by decide +kernel
theorem dX2_doubleWait_23 : decode cX2_doubleWait 23 = .ok (.iload_n 2, 1) := by decide +kernel
theorem dX2_doubleWait_24 : decode cX2_doubleWait 24 = .ok (.ishl, 1) := by decide +kernel
theorem dX2_doubleWait_25 : decode cX2_doubleWait 25 = .ok (.iadd, 1) := by decide +kernel
theorem dX2_doubleWait_26 : decode cX2_doubleWait 26 = .ok (.invokestatic 38, 3) := by decide +kernel
theorem dX2_doubleWait_29 : decode cX2_doubleWait 29 = .ok (.ireturn, 1) := by decide +kernel
/-! X2_doubleWait (I)I -/
abbrev rmX2_doubleWait : Room := { frames := 1, cells := 0, slots := 0, locals := 14 }
theorem lkX2_doubleWait_0 : Cond.methodLink RX2 38 Lib.Math.min.name ∈ wsX2_doubleWait := by decide +kernel
theorem lkX2_doubleWait_1 : Cond.static Lib.Math.min.name ∈ wsX2_doubleWait := by decide +kernel
theorem lkX2_doubleWait_2 : Cond.initialized "java/lang/Math" ∈ wsX2_doubleWait := by decide +kernel
theorem lkX2_doubleWait_3 : Cond.code Lib.Math.min.name Lib.Math.min.code 2 (some .int) ∈ wsX2_doubleWait := by decide +kernel
theorem lkX2_doubleWait_4 : Cond.methodLink RX2 44 Lib.Math.max.name ∈ wsX2_doubleWait := by decide +kernel
theorem lkX2_doubleWait_5 : Cond.static Lib.Math.max.name ∈ wsX2_doubleWait := by decide +kernel
theorem lkX2_doubleWait_6 : Cond.code Lib.Math.max.name Lib.Math.max.code 2 (some .int) ∈ wsX2_doubleWait := by decide +kernel
theorem lkX2_doubleWait_7 : Cond.fieldLink RX2 15 (TX2 1).1 (TX2 1).2.1 (TX2 1).2.2.1 ∈ wsX2_doubleWait := by decide +kernel
theorem lkX2_doubleWait_8 : Cond.fieldLink RX2 18 (TX2 2).1 (TX2 2).2.1 (TX2 2).2.2.1 ∈ wsX2_doubleWait := by decide +kernel
theorem inX2_doubleWait_X2 : ∀ w ∈ u_ws RX2 TX2 6, w ∈ wsX2_doubleWait := by decide +kernel
noncomputable def fX2_doubleWait (G : mm_G) (a0 : Nat) (x1 : Int32) (σ : mm_M) : Option (Int32 × mm_M) := some (if ((σ.1 a0 1) + ((σ.1 a0 2) <<< ((if (0 : Int32) < (if (7 : Int32) < (x1 - (1 : Int32)) then (7 : Int32) else x1 - (1 : Int32)) then if (7 : Int32) < (x1 - (1 : Int32)) then (7 : Int32) else x1 - (1 : Int32) else (0 : Int32)) &&& 31))) < (64 : Int32) then (σ.1 a0 1) + ((σ.1 a0 2) <<< ((if (0 : Int32) < (if (7 : Int32) < (x1 - (1 : Int32)) then (7 : Int32) else x1 - (1 : Int32)) then if (7 : Int32) < (x1 - (1 : Int32)) then (7 : Int32) else x1 - (1 : Int32) else (0 : Int32)) &&& 31)) else (64 : Int32), σ)
set_option maxHeartbeats 4000000 in
set_option maxRecDepth 100000 in
theorem wX2_doubleWait_b0 {E : mm_E} {G : mm_G} (X : mm_Cx E G cX2_doubleWait 3 RX2 wsX2_doubleWait rmX2_doubleWait (some .int)) {a0 : Nat} {x1 : Int32} {σ : mm_M} {q : (Int32 × mm_M)} (ha0 : mm_Is G 2 a0) (h : fX2_doubleWait G a0 x1 σ = some q) : mm_At E G 3 (mm_Qi E G q) σ 0 [(0, .ref a0), (1, .int x1)] [] := by
  unfold fX2_doubleWait at h
  refine at_iconst (pc := 0) X (0 : Int32) dX2_doubleWait_0 ic_0 ?_
  refine at_iload_n (pc := 1) X 1 1 dX2_doubleWait_1 rfl rfl ?_
  refine at_iconst (pc := 2) X (1 : Int32) dX2_doubleWait_2 ic_1 ?_
  refine at_isub (pc := 3) X dX2_doubleWait_3 ?_
  refine at_bipush (pc := 4) X (7 : Int32) dX2_doubleWait_4 ib_7 ?_
  refine at_mmin (pc := 6) X lkX2_doubleWait_0 lkX2_doubleWait_1 lkX2_doubleWait_2 lkX2_doubleWait_3 (by decide) (by decide) dX2_doubleWait_6 ?_
  refine at_mmax (pc := 9) X lkX2_doubleWait_4 lkX2_doubleWait_5 lkX2_doubleWait_2 lkX2_doubleWait_6 (by decide) (by decide) dX2_doubleWait_9 ?_
  refine at_istore_n (pc := 12) X 2 [(2, .int (if (0 : Int32) < (if (7 : Int32) < (x1 - (1 : Int32)) then (7 : Int32) else x1 - (1 : Int32)) then if (7 : Int32) < (x1 - (1 : Int32)) then (7 : Int32) else x1 - (1 : Int32) else (0 : Int32))), (0, .ref a0), (1, .int x1)] dX2_doubleWait_12 rfl (by decide) rfl ?_
  refine at_bipush (pc := 13) X (64 : Int32) dX2_doubleWait_13 ib_64 ?_
  refine at_aload_n (pc := 15) X 0 1 dX2_doubleWait_15 rfl rfl ?_
  refine at_get (pc := 16) X 2 1 (.int (σ.1 a0 1)) ha0 (by decide) rfl inX2_doubleWait_X2 (by decide) lkX2_doubleWait_7 rfl dX2_doubleWait_16 ?_
  refine at_aload_n (pc := 19) X 0 1 dX2_doubleWait_19 rfl rfl ?_
  refine at_get (pc := 20) X 2 2 (.int (σ.1 a0 2)) ha0 (by decide) rfl inX2_doubleWait_X2 (by decide) lkX2_doubleWait_8 rfl dX2_doubleWait_20 ?_
  refine at_iload_n (pc := 23) X 2 0 dX2_doubleWait_23 rfl rfl ?_
  refine at_ishl (pc := 24) X dX2_doubleWait_24 ?_
  refine at_iadd (pc := 25) X dX2_doubleWait_25 ?_
  refine at_mmin (pc := 26) X lkX2_doubleWait_0 lkX2_doubleWait_1 lkX2_doubleWait_2 lkX2_doubleWait_3 (by decide) (by decide) dX2_doubleWait_26 ?_
  exact at_iret (pc := 29) X (Option.some.inj h) dX2_doubleWait_29
set_option maxHeartbeats 4000000 in
set_option maxRecDepth 100000 in
theorem mX2_doubleWait (l : Launch) {G : mm_G} (hwf : mm_WF G) {a0 : Nat} {x1 : Int32} {σ : mm_M} {q : (Int32 × mm_M)} (ha0 : mm_Is G 2 a0) (h : fX2_doubleWait G a0 x1 σ = some q) : mm_Mi l yX2_doubleWait wsX2_doubleWait rmX2_doubleWait G [.ref a0, .int x1] σ q := by
  refine mm_ofi (cc := cX2_doubleWait) (nL := 3) (ret := some .int) (own := RX2) (lv0 := [(0, .ref a0), (1, .int x1)]) (by decide) rfl rfl (Nat.le_of_ble_eq_true rfl) rfl hwf (fun E hE X => ?_)
  exact wX2_doubleWait_b0 X ha0 h
theorem dX2_plainWait_0 : decode cX2_plainWait 0 = .ok (.bipush 64, 2) := by decide +kernel
theorem dX2_plainWait_2 : decode cX2_plainWait 2 = .ok (.aload_n 0, 1) := by decide +kernel
theorem dX2_plainWait_3 : decode cX2_plainWait 3 = .ok (.getfield 15, 3) := by decide +kernel
theorem dX2_plainWait_6 : decode cX2_plainWait 6 = .ok (.iload_n 1, 1) := by decide +kernel
theorem dX2_plainWait_7 : decode cX2_plainWait 7 = .ok (.aload_n 0, 1) := by decide +kernel
theorem dX2_plainWait_8 : decode cX2_plainWait 8 = .ok (.getfield 18, 3) := by decide +kernel
theorem dX2_plainWait_11 : decode cX2_plainWait 11 = .ok (.imul, 1) := by decide +kernel
theorem dX2_plainWait_12 : decode cX2_plainWait 12 = .ok (.iadd, 1) := by decide +kernel
theorem dX2_plainWait_13 : decode cX2_plainWait 13 = .ok (.invokestatic 38, 3) := by decide +kernel
theorem dX2_plainWait_16 : decode cX2_plainWait 16 = .ok (.ireturn, 1) := by decide +kernel
/-! X2_plainWait (I)I -/
abbrev rmX2_plainWait : Room := { frames := 1, cells := 0, slots := 0, locals := 13 }
theorem lkX2_plainWait_0 : Cond.fieldLink RX2 15 (TX2 1).1 (TX2 1).2.1 (TX2 1).2.2.1 ∈ wsX2_plainWait := by decide +kernel
theorem lkX2_plainWait_1 : Cond.fieldLink RX2 18 (TX2 2).1 (TX2 2).2.1 (TX2 2).2.2.1 ∈ wsX2_plainWait := by decide +kernel
theorem lkX2_plainWait_2 : Cond.methodLink RX2 38 Lib.Math.min.name ∈ wsX2_plainWait := by decide +kernel
theorem lkX2_plainWait_3 : Cond.static Lib.Math.min.name ∈ wsX2_plainWait := by decide +kernel
theorem lkX2_plainWait_4 : Cond.initialized "java/lang/Math" ∈ wsX2_plainWait := by decide +kernel
theorem lkX2_plainWait_5 : Cond.code Lib.Math.min.name Lib.Math.min.code 2 (some .int) ∈ wsX2_plainWait := by decide +kernel
theorem inX2_plainWait_X2 : ∀ w ∈ u_ws RX2 TX2 6, w ∈ wsX2_plainWait := by decide +kernel
noncomputable def fX2_plainWait (G : mm_G) (a0 : Nat) (x1 : Int32) (σ : mm_M) : Option (Int32 × mm_M) := some (if ((σ.1 a0 1) + (x1 * (σ.1 a0 2))) < (64 : Int32) then (σ.1 a0 1) + (x1 * (σ.1 a0 2)) else (64 : Int32), σ)
set_option maxHeartbeats 4000000 in
set_option maxRecDepth 100000 in
theorem wX2_plainWait_b0 {E : mm_E} {G : mm_G} (X : mm_Cx E G cX2_plainWait 2 RX2 wsX2_plainWait rmX2_plainWait (some .int)) {a0 : Nat} {x1 : Int32} {σ : mm_M} {q : (Int32 × mm_M)} (ha0 : mm_Is G 2 a0) (h : fX2_plainWait G a0 x1 σ = some q) : mm_At E G 2 (mm_Qi E G q) σ 0 [(0, .ref a0), (1, .int x1)] [] := by
  unfold fX2_plainWait at h
  refine at_bipush (pc := 0) X (64 : Int32) dX2_plainWait_0 ib_64 ?_
  refine at_aload_n (pc := 2) X 0 0 dX2_plainWait_2 rfl rfl ?_
  refine at_get (pc := 3) X 2 1 (.int (σ.1 a0 1)) ha0 (by decide) rfl inX2_plainWait_X2 (by decide) lkX2_plainWait_0 rfl dX2_plainWait_3 ?_
  refine at_iload_n (pc := 6) X 1 1 dX2_plainWait_6 rfl rfl ?_
  refine at_aload_n (pc := 7) X 0 0 dX2_plainWait_7 rfl rfl ?_
  refine at_get (pc := 8) X 2 2 (.int (σ.1 a0 2)) ha0 (by decide) rfl inX2_plainWait_X2 (by decide) lkX2_plainWait_1 rfl dX2_plainWait_8 ?_
  refine at_imul (pc := 11) X dX2_plainWait_11 ?_
  refine at_iadd (pc := 12) X dX2_plainWait_12 ?_
  refine at_mmin (pc := 13) X lkX2_plainWait_2 lkX2_plainWait_3 lkX2_plainWait_4 lkX2_plainWait_5 (by decide) (by decide) dX2_plainWait_13 ?_
  exact at_iret (pc := 16) X (Option.some.inj h) dX2_plainWait_16
set_option maxHeartbeats 4000000 in
set_option maxRecDepth 100000 in
theorem mX2_plainWait (l : Launch) {G : mm_G} (hwf : mm_WF G) {a0 : Nat} {x1 : Int32} {σ : mm_M} {q : (Int32 × mm_M)} (ha0 : mm_Is G 2 a0) (h : fX2_plainWait G a0 x1 σ = some q) : mm_Mi l yX2_plainWait wsX2_plainWait rmX2_plainWait G [.ref a0, .int x1] σ q := by
  refine mm_ofi (cc := cX2_plainWait) (nL := 2) (ret := some .int) (own := RX2) (lv0 := [(0, .ref a0), (1, .int x1)]) (by decide) rfl rfl (Nat.le_of_ble_eq_true rfl) rfl hwf (fun E hE X => ?_)
  exact wX2_plainWait_b0 X ha0 h
set_option maxRecDepth 20000 in
theorem ggX2_waitBehind_X2_doubleWait : GoodIn wsX2_waitBehind wsX2_doubleWait := goodIn_r _ [8, 9, 10, 11, 12, 13, 14, 15, 2, 3, 20, 21, 22, 23, 24, 25] (by decide +kernel) (by decide +kernel)
set_option maxRecDepth 20000 in
theorem gX2_waitBehind_X2_doubleWait : GoodIn wsX2_waitBehind (wsV RX2 47 RX2 yX2_doubleWait wsX2_doubleWait) := goodIn_app (goodIn_of _ (by decide +kernel)) ggX2_waitBehind_X2_doubleWait
set_option maxRecDepth 20000 in
theorem ggX2_waitBehind_X2_plainWait : GoodIn wsX2_waitBehind wsX2_plainWait := goodIn_r _ [19, 2, 3, 9, 10, 11, 12, 20, 21, 22, 23, 24, 25] (by decide +kernel) (by decide +kernel)
set_option maxRecDepth 20000 in
theorem gX2_waitBehind_X2_plainWait : GoodIn wsX2_waitBehind (wsV RX2 51 RX2 yX2_plainWait wsX2_plainWait) := goodIn_app (goodIn_of _ (by decide +kernel)) ggX2_waitBehind_X2_plainWait
theorem dX2_waitBehind_0 : decode cX2_waitBehind 0 = .ok (.aload_n 0, 1) := by decide +kernel
theorem dX2_waitBehind_1 : decode cX2_waitBehind 1 = .ok (.getfield 9, 3) := by decide +kernel
theorem dX2_waitBehind_4 : decode cX2_waitBehind 4 = .ok (.tableswitch 69 1 4 #[32, 69, 38, 43], 32) := by decide +kernel
theorem dX2_waitBehind_36 : decode cX2_waitBehind 36 = .ok (.aload_n 0, 1) := by decide +kernel
theorem dX2_waitBehind_37 : decode cX2_waitBehind 37 = .ok (.iload_n 1, 1) := by decide +kernel
theorem dX2_waitBehind_38 : decode cX2_waitBehind 38 = .ok (.invokevirtual 47, 3) := by decide +kernel
theorem dX2_waitBehind_41 : decode cX2_waitBehind 41 = .ok (.ireturn, 1) := by decide +kernel
theorem dX2_waitBehind_42 : decode cX2_waitBehind 42 = .ok (.aload_n 0, 1) := by decide +kernel
theorem dX2_waitBehind_43 : decode cX2_waitBehind 43 = .ok (.getfield 15, 3) := by decide +kernel
theorem dX2_waitBehind_46 : decode cX2_waitBehind 46 = .ok (.ireturn, 1) := by decide +kernel
theorem dX2_waitBehind_47 : decode cX2_waitBehind 47 = .ok (.aload_n 0, 1) := by decide +kernel
theorem dX2_waitBehind_48 : decode cX2_waitBehind 48 = .ok (.iload_n 1, 1) := by decide +kernel
theorem dX2_waitBehind_49 : decode cX2_waitBehind 49 = .ok (.invokevirtual 47, 3) := by decide +kernel
theorem dX2_waitBehind_52 : decode cX2_waitBehind 52 = .ok (.iconst 1, 1) := by decide +kernel
theorem dX2_waitBehind_53 : decode cX2_waitBehind 53 = .ok (.iadd, 1) := by decide +kernel
theorem dX2_waitBehind_54 : decode cX2_waitBehind 54 = .ok (.istore_n 3, 1) := by decide +kernel
theorem dX2_waitBehind_55 : decode cX2_waitBehind 55 = .ok (.iload_n 3, 1) := by decide +kernel
theorem dX2_waitBehind_56 : decode cX2_waitBehind 56 = .ok (.iconst 1, 1) := by decide +kernel
theorem dX2_waitBehind_57 : decode cX2_waitBehind 57 = .ok (.if_icmp .ge 7, 3) := by decide +kernel
theorem dX2_waitBehind_60 : decode cX2_waitBehind 60 = .ok (.iconst 0, 1) := by decide +kernel
theorem dX2_waitBehind_61 : decode cX2_waitBehind 61 = .ok (.goto 11, 3) := by decide +kernel
theorem dX2_waitBehind_64 : decode cX2_waitBehind 64 = .ok (.iload_n 2, 1) := by decide +kernel
theorem dX2_waitBehind_65 : decode cX2_waitBehind 65 = .ok (.aload_n 0, 1) := by decide +kernel
theorem dX2_waitBehind_66 : decode cX2_waitBehind 66 = .ok (.getfield 18, 3) := by decide +kernel
theorem dX2_waitBehind_69 : decode cX2_waitBehind 69 = .ok (.imul, 1) := by decide +kernel
theorem dX2_waitBehind_70 : decode cX2_waitBehind 70 = .ok (.iload_n 3, 1) := by decide +kernel
theorem dX2_waitBehind_71 : decode cX2_waitBehind 71 = .ok (.irem, 1) := by decide +kernel
theorem dX2_waitBehind_72 : decode cX2_waitBehind 72 = .ok (.ireturn, 1) := by decide +kernel
theorem dX2_waitBehind_73 : decode cX2_waitBehind 73 = .ok (.aload_n 0, 1) := by decide +kernel
theorem dX2_waitBehind_74 : decode cX2_waitBehind 74 = .ok (.iload_n 1, 1) := by decide +kernel
theorem dX2_waitBehind_75 : decode cX2_waitBehind 75 = .ok (.invokevirtual 51, 3) := by decide +kernel
theorem dX2_waitBehind_78 : decode cX2_waitBehind 78 = .ok (.ireturn, 1) := by decide +kernel
/-! X2_waitBehind (II)I -/
abbrev rmX2_waitBehind : Room := { frames := 2, cells := 0, slots := 0, locals := 36 }
theorem lkX2_waitBehind_0 : Cond.fieldLink RX2 9 (TX2 0).1 (TX2 0).2.1 (TX2 0).2.2.1 ∈ wsX2_waitBehind := by decide +kernel
theorem lkX2_waitBehind_1 : Cond.fieldLink RX2 15 (TX2 1).1 (TX2 1).2.1 (TX2 1).2.2.1 ∈ wsX2_waitBehind := by decide +kernel
theorem lkX2_waitBehind_2 : Cond.fieldLink RX2 18 (TX2 2).1 (TX2 2).2.1 (TX2 2).2.2.1 ∈ wsX2_waitBehind := by decide +kernel
theorem inX2_waitBehind_X2 : ∀ w ∈ u_ws RX2 TX2 6, w ∈ wsX2_waitBehind := by decide +kernel
noncomputable def fX2_waitBehind (G : mm_G) (a0 : Nat) (x1 : Int32) (x2 : Int32) (σ : mm_M) : Option (Int32 × mm_M) := if (σ.1 a0 0) = 1 then ((fX2_doubleWait G a0 x1 σ).bind (fun q38 => some (q38.1, q38.2))) else (if (σ.1 a0 0) = 2 then ((fX2_plainWait G a0 x1 σ).bind (fun q75 => some (q75.1, q75.2))) else (if (σ.1 a0 0) = 3 then (some (σ.1 a0 1, σ)) else (if (σ.1 a0 0) = 4 then ((fX2_doubleWait G a0 x1 σ).bind (fun q49 => if (q49.1 + (1 : Int32)) < (1 : Int32) then (some ((0 : Int32), q49.2)) else (if (q49.1 + (1 : Int32)) = 0 then none else (some ((x2 * (q49.2.1 a0 2)) - (x2 * (q49.2.1 a0 2)) / (q49.1 + (1 : Int32)) * (q49.1 + (1 : Int32)), q49.2))))) else ((fX2_plainWait G a0 x1 σ).bind (fun q75 => some (q75.1, q75.2))))))
set_option maxHeartbeats 4000000 in
set_option maxRecDepth 100000 in
theorem wX2_waitBehind_b0 {E : mm_E} {G : mm_G} (X : mm_Cx E G cX2_waitBehind 4 RX2 wsX2_waitBehind rmX2_waitBehind (some .int)) {a0 : Nat} {x1 : Int32} {x2 : Int32} {σ : mm_M} {q : (Int32 × mm_M)} (ha0 : mm_Is G 2 a0) (h : fX2_waitBehind G a0 x1 x2 σ = some q) : mm_At E G 4 (mm_Qi E G q) σ 0 [(0, .ref a0), (1, .int x1), (2, .int x2)] [] := by
  unfold fX2_waitBehind at h
  refine at_aload_n (pc := 0) X 0 0 dX2_waitBehind_0 rfl rfl ?_
  refine at_get (pc := 1) X 2 0 (.int (σ.1 a0 0)) ha0 (by decide) rfl inX2_waitBehind_X2 (by decide) lkX2_waitBehind_0 rfl dX2_waitBehind_1 ?_
  by_cases c4_0 : (σ.1 a0 0) = 1
  · have h := mm_pos c4_0 h
    refine at_swIn (pc := 4) X 36 dX2_waitBehind_4 (by rw [c4_0]; decide) (by rw [c4_0]; decide) (by rw [c4_0]; rfl) (by decide) ?_
    refine at_aload_n (pc := 36) X 0 0 dX2_waitBehind_36 rfl rfl ?_
    refine at_iload_n (pc := 37) X 1 1 dX2_waitBehind_37 rfl rfl ?_
    obtain ⟨q38, hq38, h⟩ := mm_bind h
    refine at_calli (n := 1) (pc := 38) X 2 [.int x1] [] (mX2_doubleWait (eL E) X.wf ha0 hq38) gX2_waitBehind_X2_doubleWait rfl ⟨rfl, rfl⟩ (by decide +kernel) ⟨by decide, by decide⟩ (by decide) rfl ha0 rfl rfl (Nat.le_of_ble_eq_true rfl) dX2_waitBehind_38 ?_
    exact at_iret (pc := 41) X (Option.some.inj h) dX2_waitBehind_41
  · have h := mm_neg c4_0 h
    by_cases c4_1 : (σ.1 a0 0) = 2
    · have h := mm_pos c4_1 h
      refine at_swIn (pc := 4) X 73 dX2_waitBehind_4 (by rw [c4_1]; decide) (by rw [c4_1]; decide) (by rw [c4_1]; rfl) (by decide) ?_
      refine at_aload_n (pc := 73) X 0 0 dX2_waitBehind_73 rfl rfl ?_
      refine at_iload_n (pc := 74) X 1 1 dX2_waitBehind_74 rfl rfl ?_
      obtain ⟨q75, hq75, h⟩ := mm_bind h
      refine at_calli (n := 1) (pc := 75) X 2 [.int x1] [] (mX2_plainWait (eL E) X.wf ha0 hq75) gX2_waitBehind_X2_plainWait rfl ⟨rfl, rfl⟩ (by decide +kernel) ⟨by decide, by decide⟩ (by decide) rfl ha0 rfl rfl (Nat.le_of_ble_eq_true rfl) dX2_waitBehind_75 ?_
      exact at_iret (pc := 78) X (Option.some.inj h) dX2_waitBehind_78
    · have h := mm_neg c4_1 h
      by_cases c4_2 : (σ.1 a0 0) = 3
      · have h := mm_pos c4_2 h
        refine at_swIn (pc := 4) X 42 dX2_waitBehind_4 (by rw [c4_2]; decide) (by rw [c4_2]; decide) (by rw [c4_2]; rfl) (by decide) ?_
        refine at_aload_n (pc := 42) X 0 0 dX2_waitBehind_42 rfl rfl ?_
        refine at_get (pc := 43) X 2 1 (.int (σ.1 a0 1)) ha0 (by decide) rfl inX2_waitBehind_X2 (by decide) lkX2_waitBehind_1 rfl dX2_waitBehind_43 ?_
        exact at_iret (pc := 46) X (Option.some.inj h) dX2_waitBehind_46
      · have h := mm_neg c4_2 h
        by_cases c4_3 : (σ.1 a0 0) = 4
        · have h := mm_pos c4_3 h
          refine at_swIn (pc := 4) X 47 dX2_waitBehind_4 (by rw [c4_3]; decide) (by rw [c4_3]; decide) (by rw [c4_3]; rfl) (by decide) ?_
          refine at_aload_n (pc := 47) X 0 0 dX2_waitBehind_47 rfl rfl ?_
          refine at_iload_n (pc := 48) X 1 1 dX2_waitBehind_48 rfl rfl ?_
          obtain ⟨q49, hq49, h⟩ := mm_bind h
          refine at_calli (n := 1) (pc := 49) X 2 [.int x1] [] (mX2_doubleWait (eL E) X.wf ha0 hq49) gX2_waitBehind_X2_doubleWait rfl ⟨rfl, rfl⟩ (by decide +kernel) ⟨by decide, by decide⟩ (by decide) rfl ha0 rfl rfl (Nat.le_of_ble_eq_true rfl) dX2_waitBehind_49 ?_
          refine at_iconst (pc := 52) X (1 : Int32) dX2_waitBehind_52 ic_1 ?_
          refine at_iadd (pc := 53) X dX2_waitBehind_53 ?_
          refine at_istore_n (pc := 54) X 3 [(3, .int (q49.1 + (1 : Int32))), (0, .ref a0), (1, .int x1), (2, .int x2)] dX2_waitBehind_54 rfl (by decide) rfl ?_
          refine at_iload_n (pc := 55) X 3 0 dX2_waitBehind_55 rfl rfl ?_
          refine at_iconst (pc := 56) X (1 : Int32) dX2_waitBehind_56 ic_1 ?_
          refine at_icmp_ge (pc := 57) X 64 dX2_waitBehind_57 (by decide) (fun c57 => ?_) (fun c57 => ?_)
          · have h := mm_neg c57 h
            refine at_iload_n (pc := 64) X 2 3 dX2_waitBehind_64 rfl rfl ?_
            refine at_aload_n (pc := 65) X 0 1 dX2_waitBehind_65 rfl rfl ?_
            refine at_get (pc := 66) X 2 2 (.int (q49.2.1 a0 2)) ha0 (by decide) rfl inX2_waitBehind_X2 (by decide) lkX2_waitBehind_2 rfl dX2_waitBehind_66 ?_
            refine at_imul (pc := 69) X dX2_waitBehind_69 ?_
            refine at_iload_n (pc := 70) X 3 0 dX2_waitBehind_70 rfl rfl ?_
            obtain ⟨hc71, h⟩ := mm_chk h
            refine at_irem (pc := 71) X hc71 dX2_waitBehind_71 ?_
            exact at_iret (pc := 72) X (Option.some.inj h) dX2_waitBehind_72
          · have h := mm_pos c57 h
            refine at_iconst (pc := 60) X (0 : Int32) dX2_waitBehind_60 ic_0 ?_
            refine at_goto (pc := 61) X 72 dX2_waitBehind_61 (by decide) ?_
            exact at_iret (pc := 72) X (Option.some.inj h) dX2_waitBehind_72
        · have h := mm_neg c4_3 h
          refine at_swOut (pc := 4) X 73 dX2_waitBehind_4 (sw_1_4 c4_0 c4_1 c4_2 c4_3) (by decide) ?_
          refine at_aload_n (pc := 73) X 0 0 dX2_waitBehind_73 rfl rfl ?_
          refine at_iload_n (pc := 74) X 1 1 dX2_waitBehind_74 rfl rfl ?_
          obtain ⟨q75, hq75, h⟩ := mm_bind h
          refine at_calli (n := 1) (pc := 75) X 2 [.int x1] [] (mX2_plainWait (eL E) X.wf ha0 hq75) gX2_waitBehind_X2_plainWait rfl ⟨rfl, rfl⟩ (by decide +kernel) ⟨by decide, by decide⟩ (by decide) rfl ha0 rfl rfl (Nat.le_of_ble_eq_true rfl) dX2_waitBehind_75 ?_
          exact at_iret (pc := 78) X (Option.some.inj h) dX2_waitBehind_78
set_option maxHeartbeats 4000000 in
set_option maxRecDepth 100000 in
theorem mX2_waitBehind (l : Launch) {G : mm_G} (hwf : mm_WF G) {a0 : Nat} {x1 : Int32} {x2 : Int32} {σ : mm_M} {q : (Int32 × mm_M)} (ha0 : mm_Is G 2 a0) (h : fX2_waitBehind G a0 x1 x2 σ = some q) : mm_Mi l yX2_waitBehind wsX2_waitBehind rmX2_waitBehind G [.ref a0, .int x1, .int x2] σ q := by
  refine mm_ofi (cc := cX2_waitBehind) (nL := 4) (ret := some .int) (own := RX2) (lv0 := [(0, .ref a0), (1, .int x1), (2, .int x2)]) (by decide) rfl rfl (Nat.le_of_ble_eq_true rfl) rfl hwf (fun E hE X => ?_)
  exact wX2_waitBehind_b0 X ha0 h
set_option maxRecDepth 20000 in
theorem ggX2_meets_X2_rest : GoodIn wsX2_meets wsX2_rest := goodIn_r _ [9, 1, 4, 31, 32, 33, 34, 35, 36] (by decide +kernel) (by decide +kernel)
set_option maxRecDepth 20000 in
theorem gX2_meets_X2_rest : GoodIn wsX2_meets (wsV RX2 54 RX2 yX2_rest wsX2_rest) := goodIn_app (goodIn_of _ (by decide +kernel)) ggX2_meets_X2_rest
set_option maxRecDepth 20000 in
theorem ggX2_meets_X2_waitBehind : GoodIn wsX2_meets wsX2_waitBehind := goodIn_r _ [13, 2, 14, 15, 16, 17, 18, 8, 19, 20, 21, 22, 23, 24, 25, 26, 27, 28, 29, 30, 31, 32, 33, 34, 35, 36] (by decide +kernel) (by decide +kernel)
set_option maxRecDepth 20000 in
theorem gX2_meets_X2_waitBehind : GoodIn wsX2_meets (wsV RX2 57 RX2 yX2_waitBehind wsX2_waitBehind) := goodIn_app (goodIn_of _ (by decide +kernel)) ggX2_meets_X2_waitBehind
theorem dX2_meets_0 : decode cX2_meets 0 = .ok (.aload_n 0, 1) := by decide +kernel
theorem dX2_meets_1 : decode cX2_meets 1 = .ok (.dup, 1) := by decide +kernel
theorem dX2_meets_2 : decode cX2_meets 2 = .ok (.getfield 27, 3) := by decide +kernel
theorem dX2_meets_5 : decode cX2_meets 5 = .ok (.iconst 1, 1) := by decide +kernel
theorem dX2_meets_6 : decode cX2_meets 6 = .ok (.iadd, 1) := by decide +kernel
theorem dX2_meets_7 : decode cX2_meets 7 = .ok (.putfield 27, 3) := by decide +kernel
theorem dX2_meets_10 : decode cX2_meets 10 = .ok (.aload_n 0, 1) := by decide +kernel
theorem dX2_meets_11 : decode cX2_meets 11 = .ok (.getfield 9, 3) := by decide +kernel
theorem dX2_meets_14 : decode cX2_meets 14 = .ok (.iconst 5, 1) := by decide +kernel
theorem dX2_meets_15 : decode cX2_meets 15 = .ok (.if_icmp .ne 27, 3) := by decide +kernel
theorem dX2_meets_18 : decode cX2_meets 18 = .ok (.aload_n 0, 1) := by decide +kernel
theorem dX2_meets_19 : decode cX2_meets 19 = .ok (.getfield 27, 3) := by decide +kernel
theorem dX2_meets_22 : decode cX2_meets 22 = .ok (.iconst 4, 1) := by decide +kernel
theorem dX2_meets_23 : decode cX2_meets 23 = .ok (.if_icmp .ne 19, 3) := by decide +kernel
theorem dX2_meets_26 : decode cX2_meets 26 = .ok (.aload_n 0, 1) := by decide +kernel
theorem dX2_meets_27 : decode cX2_meets 27 = .ok (.dup, 1) := by decide +kernel
theorem dX2_meets_28 : decode cX2_meets 28 = .ok (.getfield 21, 3) := by decide +kernel
theorem dX2_meets_31 : decode cX2_meets 31 = .ok (.iconst 1, 1) := by decide +kernel
theorem dX2_meets_32 : decode cX2_meets 32 = .ok (.isub, 1) := by decide +kernel
theorem dX2_meets_33 : decode cX2_meets 33 = .ok (.putfield 21, 3) := by decide +kernel
theorem dX2_meets_36 : decode cX2_meets 36 = .ok (.aload_n 0, 1) := by decide +kernel
theorem dX2_meets_37 : decode cX2_meets 37 = .ok (.invokevirtual 54, 3) := by decide +kernel
theorem dX2_meets_40 : decode cX2_meets 40 = .ok (.iconst 1, 1) := by decide +kernel
theorem dX2_meets_41 : decode cX2_meets 41 = .ok (.ireturn, 1) := by decide +kernel
theorem dX2_meets_42 : decode cX2_meets 42 = .ok (.aload_n 0, 1) := by decide +kernel
theorem dX2_meets_43 : decode cX2_meets 43 = .ok (.aload_n 0, 1) := by decide +kernel
theorem dX2_meets_44 : decode cX2_meets 44 = .ok (.aload_n 0, 1) := by decide +kernel
theorem dX2_meets_45 : decode cX2_meets 45 = .ok (.getfield 27, 3) := by decide +kernel
theorem dX2_meets_48 : decode cX2_meets 48 = .ok (.iload_n 1, 1) := by decide +kernel
theorem dX2_meets_49 : decode cX2_meets 49 = .ok (.invokevirtual 57, 3) := by decide +kernel
theorem dX2_meets_52 : decode cX2_meets 52 = .ok (.putfield 24, 3) := by decide +kernel
theorem dX2_meets_55 : decode cX2_meets 55 = .ok (.iconst 0, 1) := by decide +kernel
theorem dX2_meets_56 : decode cX2_meets 56 = .ok (.ireturn, 1) := by decide +kernel
/-! X2_meets (I)Z -/
abbrev rmX2_meets : Room := { frames := 3, cells := 0, slots := 0, locals := 59 }
theorem lkX2_meets_0 : Cond.fieldLink RX2 27 (TX2 5).1 (TX2 5).2.1 (TX2 5).2.2.1 ∈ wsX2_meets := by decide +kernel
theorem lkX2_meets_1 : Cond.fieldLink RX2 9 (TX2 0).1 (TX2 0).2.1 (TX2 0).2.2.1 ∈ wsX2_meets := by decide +kernel
theorem lkX2_meets_2 : Cond.fieldLink RX2 24 (TX2 4).1 (TX2 4).2.1 (TX2 4).2.2.1 ∈ wsX2_meets := by decide +kernel
theorem lkX2_meets_3 : Cond.fieldLink RX2 21 (TX2 3).1 (TX2 3).2.1 (TX2 3).2.2.1 ∈ wsX2_meets := by decide +kernel
theorem inX2_meets_X2 : ∀ w ∈ u_ws RX2 TX2 6, w ∈ wsX2_meets := by decide +kernel
noncomputable def fX2_meets_b42 (G : mm_G) (a0 : Nat) (x1 : Int32) (σ : mm_M) : Option (Int32 × mm_M) := (fX2_waitBehind G a0 (σ.1 a0 5) x1 σ).bind (fun q49 => some ((0 : Int32), mm_up q49.2 a0 4 q49.1))
noncomputable def fX2_meets (G : mm_G) (a0 : Nat) (x1 : Int32) (σ : mm_M) : Option (Int32 × mm_M) := if ((mm_up σ a0 5 ((σ.1 a0 5) + (1 : Int32))).1 a0 0) = (5 : Int32) then (if ((mm_up σ a0 5 ((σ.1 a0 5) + (1 : Int32))).1 a0 5) = (4 : Int32) then ((fX2_rest G a0 (mm_up (mm_up σ a0 5 ((σ.1 a0 5) + (1 : Int32))) a0 3 (((mm_up σ a0 5 ((σ.1 a0 5) + (1 : Int32))).1 a0 3) - (1 : Int32)))).bind (fun q37 => some ((1 : Int32), q37))) else (fX2_meets_b42 G a0 x1 (mm_up σ a0 5 ((σ.1 a0 5) + (1 : Int32))))) else (fX2_meets_b42 G a0 x1 (mm_up σ a0 5 ((σ.1 a0 5) + (1 : Int32))))
set_option maxHeartbeats 4000000 in
set_option maxRecDepth 100000 in
theorem wX2_meets_b42 {E : mm_E} {G : mm_G} (X : mm_Cx E G cX2_meets 2 RX2 wsX2_meets rmX2_meets (some .boolean)) {a0 : Nat} {x1 : Int32} {σ : mm_M} {q : (Int32 × mm_M)} (ha0 : mm_Is G 2 a0) (h : fX2_meets_b42 G a0 x1 σ = some q) : mm_At E G 2 (mm_Qi E G q) σ 42 [(0, .ref a0), (1, .int x1)] [] := by
  unfold fX2_meets_b42 at h
  refine at_aload_n (pc := 42) X 0 0 dX2_meets_42 rfl rfl ?_
  refine at_aload_n (pc := 43) X 0 0 dX2_meets_43 rfl rfl ?_
  refine at_aload_n (pc := 44) X 0 0 dX2_meets_44 rfl rfl ?_
  refine at_get (pc := 45) X 2 5 (.int (σ.1 a0 5)) ha0 (by decide) rfl inX2_meets_X2 (by decide) lkX2_meets_0 rfl dX2_meets_45 ?_
  refine at_iload_n (pc := 48) X 1 1 dX2_meets_48 rfl rfl ?_
  obtain ⟨q49, hq49, h⟩ := mm_bind h
  refine at_calli (n := 2) (pc := 49) X 2 [.int (σ.1 a0 5), .int x1] [.ref a0] (mX2_waitBehind (eL E) X.wf ha0 hq49) gX2_meets_X2_waitBehind rfl ⟨rfl, rfl⟩ (by decide +kernel) ⟨by decide, by decide⟩ (by decide) rfl ha0 rfl rfl (Nat.le_of_ble_eq_true rfl) dX2_meets_49 ?_
  refine at_put (pc := 52) X 2 4 ha0 (by decide) rfl inX2_meets_X2 tyX2 tyX2_ok nmX2 (by decide) lkX2_meets_2 rfl (ty := .int) rfl rfl rfl (Nat.le_of_ble_eq_true rfl) (ms_2_4 G _ _ _) mm_up_ne dX2_meets_52 ?_
  refine at_iconst (pc := 55) X (0 : Int32) dX2_meets_55 ic_0 ?_
  exact at_zret (pc := 56) X (Or.inl rfl) (Option.some.inj h) dX2_meets_56
set_option maxHeartbeats 4000000 in
set_option maxRecDepth 100000 in
theorem wX2_meets_b0 {E : mm_E} {G : mm_G} (X : mm_Cx E G cX2_meets 2 RX2 wsX2_meets rmX2_meets (some .boolean)) {a0 : Nat} {x1 : Int32} {σ : mm_M} {q : (Int32 × mm_M)} (ha0 : mm_Is G 2 a0) (h : fX2_meets G a0 x1 σ = some q) : mm_At E G 2 (mm_Qi E G q) σ 0 [(0, .ref a0), (1, .int x1)] [] := by
  unfold fX2_meets at h
  refine at_aload_n (pc := 0) X 0 0 dX2_meets_0 rfl rfl ?_
  refine at_dup (pc := 1) X dX2_meets_1 rfl ?_
  refine at_get (pc := 2) X 2 5 (.int (σ.1 a0 5)) ha0 (by decide) rfl inX2_meets_X2 (by decide) lkX2_meets_0 rfl dX2_meets_2 ?_
  refine at_iconst (pc := 5) X (1 : Int32) dX2_meets_5 ic_1 ?_
  refine at_iadd (pc := 6) X dX2_meets_6 ?_
  refine at_put (pc := 7) X 2 5 ha0 (by decide) rfl inX2_meets_X2 tyX2 tyX2_ok nmX2 (by decide) lkX2_meets_0 rfl (ty := .int) rfl rfl rfl (Nat.le_of_ble_eq_true rfl) (ms_2_5 G _ _ _) mm_up_ne dX2_meets_7 ?_
  refine at_aload_n (pc := 10) X 0 0 dX2_meets_10 rfl rfl ?_
  refine at_get (pc := 11) X 2 0 (.int ((mm_up σ a0 5 ((σ.1 a0 5) + (1 : Int32))).1 a0 0)) ha0 (by decide) rfl inX2_meets_X2 (by decide) lkX2_meets_1 rfl dX2_meets_11 ?_
  refine at_iconst (pc := 14) X (5 : Int32) dX2_meets_14 ic_5 ?_
  refine at_icmp_ne (pc := 15) X 42 dX2_meets_15 (by decide) (fun c15 => ?_) (fun c15 => ?_)
  · have h := mm_neg c15 h
    exact at_sub [0, 1] rfl (wX2_meets_b42 X ha0 h)
  · have h := mm_pos c15 h
    refine at_aload_n (pc := 18) X 0 0 dX2_meets_18 rfl rfl ?_
    refine at_get (pc := 19) X 2 5 (.int ((mm_up σ a0 5 ((σ.1 a0 5) + (1 : Int32))).1 a0 5)) ha0 (by decide) rfl inX2_meets_X2 (by decide) lkX2_meets_0 rfl dX2_meets_19 ?_
    refine at_iconst (pc := 22) X (4 : Int32) dX2_meets_22 ic_4 ?_
    refine at_icmp_ne (pc := 23) X 42 dX2_meets_23 (by decide) (fun c23 => ?_) (fun c23 => ?_)
    · have h := mm_neg c23 h
      exact at_sub [0, 1] rfl (wX2_meets_b42 X ha0 h)
    · have h := mm_pos c23 h
      refine at_aload_n (pc := 26) X 0 0 dX2_meets_26 rfl rfl ?_
      refine at_dup (pc := 27) X dX2_meets_27 rfl ?_
      refine at_get (pc := 28) X 2 3 (.int ((mm_up σ a0 5 ((σ.1 a0 5) + (1 : Int32))).1 a0 3)) ha0 (by decide) rfl inX2_meets_X2 (by decide) lkX2_meets_3 rfl dX2_meets_28 ?_
      refine at_iconst (pc := 31) X (1 : Int32) dX2_meets_31 ic_1 ?_
      refine at_isub (pc := 32) X dX2_meets_32 ?_
      refine at_put (pc := 33) X 2 3 ha0 (by decide) rfl inX2_meets_X2 tyX2 tyX2_ok nmX2 (by decide) lkX2_meets_3 rfl (ty := .int) rfl rfl rfl (Nat.le_of_ble_eq_true rfl) (ms_2_3 G _ _ _) mm_up_ne dX2_meets_33 ?_
      refine at_aload_n (pc := 36) X 0 0 dX2_meets_36 rfl rfl ?_
      obtain ⟨q37, hq37, h⟩ := mm_bind h
      refine at_callv (n := 0) (pc := 37) X 2 [] [] (mX2_rest (eL E) X.wf ha0 hq37) gX2_meets_X2_rest rfl ⟨rfl, rfl⟩ (by decide +kernel) ⟨by decide, by decide⟩ (by decide) rfl ha0 rfl rfl (Nat.le_of_ble_eq_true rfl) dX2_meets_37 ?_
      refine at_iconst (pc := 40) X (1 : Int32) dX2_meets_40 ic_1 ?_
      exact at_zret (pc := 41) X (Or.inr rfl) (Option.some.inj h) dX2_meets_41
set_option maxHeartbeats 4000000 in
set_option maxRecDepth 100000 in
theorem mX2_meets (l : Launch) {G : mm_G} (hwf : mm_WF G) {a0 : Nat} {x1 : Int32} {σ : mm_M} {q : (Int32 × mm_M)} (ha0 : mm_Is G 2 a0) (h : fX2_meets G a0 x1 σ = some q) : mm_Mi l yX2_meets wsX2_meets rmX2_meets G [.ref a0, .int x1] σ q := by
  refine mm_ofi (cc := cX2_meets) (nL := 2) (ret := some .boolean) (own := RX2) (lv0 := [(0, .ref a0), (1, .int x1)]) (by decide) rfl rfl (Nat.le_of_ble_eq_true rfl) rfl hwf (fun E hE X => ?_)
  exact wX2_meets_b0 X ha0 h
set_option maxRecDepth 20000 in
theorem ggX0_goBy_X0_talkers : GoodIn wsX0_goBy wsX0_talkers := goodIn_r _ [12, 1, 2, 7, 13, 14, 15, 16, 17, 18, 19, 20, 21, 22, 23, 24, 66, 67, 68, 69, 70, 71, 72, 73, 74, 75, 76, 77] (by decide +kernel) (by decide +kernel)
set_option maxRecDepth 20000 in
theorem gX0_goBy_X0_talkers : GoodIn wsX0_goBy (wsV RX0 70 RX0 yX0_talkers wsX0_talkers) := goodIn_app (goodIn_of _ (by decide +kernel)) ggX0_goBy_X0_talkers
set_option maxRecDepth 20000 in
theorem ggX0_goBy_J6_bitCount_0f7a4 : GoodIn wsX0_goBy wsJ6_bitCount_0f7a4 := goodIn_r _ [28, 29, 30, 31] (by decide +kernel) (by decide +kernel)
set_option maxRecDepth 20000 in
theorem gX0_goBy_J6_bitCount_0f7a4 : GoodIn wsX0_goBy (va_wsS RX0 73 yJ6_bitCount_0f7a4 wsJ6_bitCount_0f7a4) := goodIn_app (goodIn_of _ (by decide +kernel)) ggX0_goBy_J6_bitCount_0f7a4
set_option maxRecDepth 20000 in
theorem ggX0_goBy_X2_isHeard : GoodIn wsX0_goBy wsX2_isHeard := goodIn_r _ [35, 18, 36, 72, 73, 74, 75, 76, 77] (by decide +kernel) (by decide +kernel)
set_option maxRecDepth 20000 in
theorem gX0_goBy_X2_isHeard : GoodIn wsX0_goBy (wsV RX0 81 RX2 yX2_isHeard wsX2_isHeard) := goodIn_app (goodIn_of _ (by decide +kernel)) ggX0_goBy_X2_isHeard
set_option maxRecDepth 20000 in
theorem ggX0_goBy_X2_meets : GoodIn wsX0_goBy wsX2_meets := goodIn_r _ [40, 36, 24, 18, 19, 41, 42, 43, 16, 44, 45, 46, 47, 48, 49, 50, 51, 52, 53, 54, 55, 56, 57, 58, 59, 60, 61, 62, 63, 64, 65, 72, 73, 74, 75, 76, 77] (by decide +kernel) (by decide +kernel)
set_option maxRecDepth 20000 in
theorem gX0_goBy_X2_meets : GoodIn wsX0_goBy (wsV RX0 84 RX2 yX2_meets wsX2_meets) := goodIn_app (goodIn_of _ (by decide +kernel)) ggX0_goBy_X2_meets
theorem dX0_goBy_0 : decode cX0_goBy 0 = .ok (.aload_n 0, 1) := by decide +kernel
theorem dX0_goBy_1 : decode cX0_goBy 1 = .ok (.iload_n 1, 1) := by decide +kernel
theorem dX0_goBy_2 : decode cX0_goBy 2 = .ok (.invokevirtual 70, 3) := by decide +kernel
theorem dX0_goBy_5 : decode cX0_goBy 5 = .ok (.istore_n 2, 1) := by decide +kernel
theorem dX0_goBy_6 : decode cX0_goBy 6 = .ok (.iload_n 2, 1) := by decide +kernel
theorem dX0_goBy_7 : decode cX0_goBy 7 = .ok (.invokestatic 73, 3) := by decide +kernel
theorem dX0_goBy_10 : decode cX0_goBy 10 = .ok (.iconst 1, 1) := by decide +kernel
theorem dX0_goBy_11 : decode cX0_goBy 11 = .ok (.if_icmp .ne 7, 3) := by decide +kernel
theorem dX0_goBy_14 : decode cX0_goBy 14 = .ok (.iconst 1, 1) := by decide +kernel
theorem dX0_goBy_15 : decode cX0_goBy 15 = .ok (.goto 4, 3) := by decide +kernel
theorem dX0_goBy_18 : decode cX0_goBy 18 = .ok (.iconst 0, 1) := by decide +kernel
theorem dX0_goBy_19 : decode cX0_goBy 19 = .ok (.istore_n 3, 1) := by decide +kernel
theorem dX0_goBy_20 : decode cX0_goBy 20 = .ok (.iconst 0, 1) := by decide +kernel
theorem dX0_goBy_21 : decode cX0_goBy 21 = .ok (.istore 4, 2) := by decide +kernel
theorem dX0_goBy_23 : decode cX0_goBy 23 = .ok (.iload 4, 2) := by decide +kernel
theorem dX0_goBy_25 : decode cX0_goBy 25 = .ok (.aload_n 0, 1) := by decide +kernel
theorem dX0_goBy_26 : decode cX0_goBy 26 = .ok (.getfield 17, 3) := by decide +kernel
theorem dX0_goBy_29 : decode cX0_goBy 29 = .ok (.if_icmp .ge 102, 3) := by decide +kernel
theorem dX0_goBy_32 : decode cX0_goBy 32 = .ok (.aload_n 0, 1) := by decide +kernel
theorem dX0_goBy_33 : decode cX0_goBy 33 = .ok (.getfield 11, 3) := by decide +kernel
theorem dX0_goBy_36 : decode cX0_goBy 36 = .ok (.iload 4, 2) := by decide +kernel
theorem dX0_goBy_38 : decode cX0_goBy 38 = .ok (.aaload, 1) := by decide +kernel
theorem dX0_goBy_39 : decode cX0_goBy 39 = .ok (.astore 5, 2) := by decide +kernel
theorem dX0_goBy_41 : decode cX0_goBy 41 = .ok (.iload_n 2, 1) := by decide +kernel
theorem dX0_goBy_42 : decode cX0_goBy 42 = .ok (.iload 4, 2) := by decide +kernel
theorem dX0_goBy_44 : decode cX0_goBy 44 = .ok (.ishr, 1) := by decide +kernel
theorem dX0_goBy_45 : decode cX0_goBy 45 = .ok (.iconst 1, 1) := by decide +kernel
theorem dX0_goBy_46 : decode cX0_goBy 46 = .ok (.iand, 1) := by decide +kernel
theorem dX0_goBy_47 : decode cX0_goBy 47 = .ok (.ifCond .ne 34, 3) := by decide +kernel
theorem dX0_goBy_50 : decode cX0_goBy 50 = .ok (.aload 5, 2) := by decide +kernel
theorem dX0_goBy_52 : decode cX0_goBy 52 = .ok (.getfield 78, 3) := by decide +kernel
theorem dX0_goBy_55 : decode cX0_goBy 55 = .ok (.ifCond .le 70, 3) := by decide +kernel
theorem dX0_goBy_58 : decode cX0_goBy 58 = .ok (.iload_n 1, 1) := by decide +kernel
theorem dX0_goBy_59 : decode cX0_goBy 59 = .ok (.iload 4, 2) := by decide +kernel
theorem dX0_goBy_61 : decode cX0_goBy 61 = .ok (.ishr, 1) := by decide +kernel
theorem dX0_goBy_62 : decode cX0_goBy 62 = .ok (.iconst 1, 1) := by decide +kernel
theorem dX0_goBy_63 : decode cX0_goBy 63 = .ok (.iand, 1) := by decide +kernel
theorem dX0_goBy_64 : decode cX0_goBy 64 = .ok (.ifCond .ne 61, 3) := by decide +kernel
theorem dX0_goBy_67 : decode cX0_goBy 67 = .ok (.aload 5, 2) := by decide +kernel
theorem dX0_goBy_69 : decode cX0_goBy 69 = .ok (.dup, 1) := by decide +kernel
theorem dX0_goBy_70 : decode cX0_goBy 70 = .ok (.getfield 78, 3) := by decide +kernel
theorem dX0_goBy_73 : decode cX0_goBy 73 = .ok (.iconst 1, 1) := by decide +kernel
theorem dX0_goBy_74 : decode cX0_goBy 74 = .ok (.isub, 1) := by decide +kernel
theorem dX0_goBy_75 : decode cX0_goBy 75 = .ok (.putfield 78, 3) := by decide +kernel
theorem dX0_goBy_78 : decode cX0_goBy 78 = .ok (.goto 47, 3) := by decide +kernel
theorem dX0_goBy_81 : decode cX0_goBy 81 = .ok (.iload_n 3, 1) := by decide +kernel
theorem dX0_goBy_82 : decode cX0_goBy 82 = .ok (.ifCond .eq 21, 3) := by decide +kernel
theorem dX0_goBy_85 : decode cX0_goBy 85 = .ok (.aload 5, 2) := by decide +kernel
theorem dX0_goBy_87 : decode cX0_goBy 87 = .ok (.invokevirtual 81, 3) := by decide +kernel
theorem dX0_goBy_90 : decode cX0_goBy 90 = .ok (.aload_n 0, 1) := by decide +kernel
theorem dX0_goBy_91 : decode cX0_goBy 91 = .ok (.dup, 1) := by decide +kernel
theorem dX0_goBy_92 : decode cX0_goBy 92 = .ok (.getfield 24, 3) := by decide +kernel
theorem dX0_goBy_95 : decode cX0_goBy 95 = .ok (.iconst 1, 1) := by decide +kernel
theorem dX0_goBy_96 : decode cX0_goBy 96 = .ok (.iadd, 1) := by decide +kernel
theorem dX0_goBy_97 : decode cX0_goBy 97 = .ok (.putfield 24, 3) := by decide +kernel
theorem dX0_goBy_100 : decode cX0_goBy 100 = .ok (.goto 25, 3) := by decide +kernel
theorem dX0_goBy_103 : decode cX0_goBy 103 = .ok (.aload 5, 2) := by decide +kernel
theorem dX0_goBy_105 : decode cX0_goBy 105 = .ok (.aload_n 0, 1) := by decide +kernel
theorem dX0_goBy_106 : decode cX0_goBy 106 = .ok (.getfield 21, 3) := by decide +kernel
theorem dX0_goBy_109 : decode cX0_goBy 109 = .ok (.invokevirtual 84, 3) := by decide +kernel
theorem dX0_goBy_112 : decode cX0_goBy 112 = .ok (.ifCond .eq 13, 3) := by decide +kernel
theorem dX0_goBy_115 : decode cX0_goBy 115 = .ok (.aload_n 0, 1) := by decide +kernel
theorem dX0_goBy_116 : decode cX0_goBy 116 = .ok (.dup, 1) := by decide +kernel
theorem dX0_goBy_117 : decode cX0_goBy 117 = .ok (.getfield 27, 3) := by decide +kernel
theorem dX0_goBy_120 : decode cX0_goBy 120 = .ok (.iconst 1, 1) := by decide +kernel
theorem dX0_goBy_121 : decode cX0_goBy 121 = .ok (.iadd, 1) := by decide +kernel
theorem dX0_goBy_122 : decode cX0_goBy 122 = .ok (.putfield 27, 3) := by decide +kernel
theorem dX0_goBy_125 : decode cX0_goBy 125 = .ok (.iinc 4 1, 3) := by decide +kernel
theorem dX0_goBy_128 : decode cX0_goBy 128 = .ok (.goto (-105), 3) := by decide +kernel
theorem dX0_goBy_131 : decode cX0_goBy 131 = .ok (.aload_n 0, 1) := by decide +kernel
theorem dX0_goBy_132 : decode cX0_goBy 132 = .ok (.iload_n 2, 1) := by decide +kernel
theorem dX0_goBy_133 : decode cX0_goBy 133 = .ok (.ifCond .eq 7, 3) := by decide +kernel
theorem dX0_goBy_136 : decode cX0_goBy 136 = .ok (.iconst 1, 1) := by decide +kernel
theorem dX0_goBy_137 : decode cX0_goBy 137 = .ok (.goto 4, 3) := by decide +kernel
theorem dX0_goBy_140 : decode cX0_goBy 140 = .ok (.iconst 0, 1) := by decide +kernel
theorem dX0_goBy_141 : decode cX0_goBy 141 = .ok (.putfield 30, 3) := by decide +kernel
theorem dX0_goBy_144 : decode cX0_goBy 144 = .ok (.aload_n 0, 1) := by decide +kernel
theorem dX0_goBy_145 : decode cX0_goBy 145 = .ok (.dup, 1) := by decide +kernel
theorem dX0_goBy_146 : decode cX0_goBy 146 = .ok (.getfield 21, 3) := by decide +kernel
theorem dX0_goBy_149 : decode cX0_goBy 149 = .ok (.iconst 1, 1) := by decide +kernel
theorem dX0_goBy_150 : decode cX0_goBy 150 = .ok (.iadd, 1) := by decide +kernel
theorem dX0_goBy_151 : decode cX0_goBy 151 = .ok (.putfield 21, 3) := by decide +kernel
theorem dX0_goBy_154 : decode cX0_goBy 154 = .ok (.iload_n 2, 1) := by decide +kernel
theorem dX0_goBy_155 : decode cX0_goBy 155 = .ok (.ireturn, 1) := by decide +kernel
/-! X0_goBy (I)I -/
abbrev rmX0_goBy : Room := { frames := 4, cells := 0, slots := 0, locals := 80 }
theorem lkX0_goBy_0 : Cond.fieldLink RX0 17 (TX0 1).1 (TX0 1).2.1 (TX0 1).2.2.1 ∈ wsX0_goBy := by decide +kernel
theorem lkX0_goBy_1 : Cond.fieldLink RX0 30 (TX0 5).1 (TX0 5).2.1 (TX0 5).2.2.1 ∈ wsX0_goBy := by decide +kernel
theorem lkX0_goBy_2 : Cond.fieldLink RX0 21 (TX0 2).1 (TX0 2).2.1 (TX0 2).2.2.1 ∈ wsX0_goBy := by decide +kernel
theorem lkX0_goBy_3 : Cond.fieldLink RX0 11 (TX0 0).1 (TX0 0).2.1 (TX0 0).2.2.1 ∈ wsX0_goBy := by decide +kernel
theorem lkX0_goBy_4 : Cond.fieldLink RX0 27 (TX0 4).1 (TX0 4).2.1 (TX0 4).2.2.1 ∈ wsX0_goBy := by decide +kernel
theorem lkX0_goBy_5 : Cond.fieldLink RX0 24 (TX0 3).1 (TX0 3).2.1 (TX0 3).2.2.1 ∈ wsX0_goBy := by decide +kernel
theorem lkX0_goBy_6 : Cond.fieldLink RX0 78 (TX2 4).1 (TX2 4).2.1 (TX2 4).2.2.1 ∈ wsX0_goBy := by decide +kernel
theorem inX0_goBy_X0 : ∀ w ∈ u_ws RX0 TX0 6, w ∈ wsX0_goBy := by decide +kernel
theorem inX0_goBy_X2 : ∀ w ∈ u_ws RX2 TX2 6, w ∈ wsX0_goBy := by decide +kernel
noncomputable def fX0_goBy_b141 (G : mm_G) (a0 : Nat) (x1 : Int32) (x2 : Int32) (sx0 : Int32) (sa1 : Nat) (σ : mm_M) : Option ((Int32 × mm_M) ⊕ (Int32 × Int32 × Int32 × mm_M)) := if ¬ (sx0 = 0 ∨ sx0 = 1) then none else (some (.inl (x2, mm_up (mm_up σ sa1 5 sx0) a0 2 (((mm_up σ sa1 5 sx0).1 a0 2) + (1 : Int32)))))
noncomputable def fX0_goBy_b23 (G : mm_G) (a0 : Nat) (x1 : Int32) (x2 : Int32) (x3 : Int32) (x4 : Int32) (σ : mm_M) : Option ((Int32 × mm_M) ⊕ (Int32 × Int32 × Int32 × mm_M)) := if x4 < (σ.1 a0 1) then (if x4 < 0 ∨ mm_N G (mm_R G a0 0) ≤ x4.toNatClampNeg then none else (if ((x2 >>> (x4 &&& 31)) &&& (1 : Int32)) = 0 then (if 0 < (σ.1 (mm_R G (mm_R G a0 0) x4.toNatClampNeg) 4) then (if ((x1 >>> (x4 &&& 31)) &&& (1 : Int32)) = 0 then (some (.inr (x2, x3, x4 + 1, mm_up σ (mm_R G (mm_R G a0 0) x4.toNatClampNeg) 4 ((σ.1 (mm_R G (mm_R G a0 0) x4.toNatClampNeg) 4) - (1 : Int32))))) else (some (.inr (x2, x3, x4 + 1, σ)))) else (some (.inr (x2, x3, x4 + 1, σ)))) else (if x3 = 0 then ((fX2_meets G (mm_R G (mm_R G a0 0) x4.toNatClampNeg) (σ.1 a0 2) σ).bind (fun q109 => if q109.1 = 0 then (some (.inr (x2, x3, x4 + 1, q109.2))) else (some (.inr (x2, x3, x4 + 1, mm_up q109.2 a0 4 ((q109.2.1 a0 4) + (1 : Int32))))))) else ((fX2_isHeard G (mm_R G (mm_R G a0 0) x4.toNatClampNeg) σ).bind (fun q87 => some (.inr (x2, x3, x4 + 1, mm_up q87 a0 3 ((q87.1 a0 3) + (1 : Int32))))))))) else (fX0_goBy_b141 G a0 x1 x2 (if x2 = 0 then (0 : Int32) else (1 : Int32)) a0 σ)
noncomputable def fX0_goBy_b0 (G : mm_G) (a0 : Nat) (x1 : Int32) (σ : mm_M) : Option ((Int32 × mm_M) ⊕ (Int32 × Int32 × Int32 × mm_M)) := (fX0_talkers G a0 x1 σ).bind (fun q2 => (fJ6_bitCount_0f7a4 G q2.1 q2.2).bind (fun q7 => some (.inr (q2.1, if q7.1 = (1 : Int32) then (1 : Int32) else (0 : Int32), (0 : Int32), q7.2))))
noncomputable def fX0_goBy_s (G : mm_G) (a0 : Nat) (x1 : Int32) : (Int32 × Int32 × Int32 × mm_M) → Option ((Int32 × mm_M) ⊕ (Int32 × Int32 × Int32 × mm_M)) := (fun s => fX0_goBy_b23 G a0 x1 s.1 s.2.1 s.2.2.1 s.2.2.2)
def PX0_goBy (E : mm_E) (G : mm_G) (a0 : Nat) (x1 : Int32) (q : (Int32 × mm_M)) : (Int32 × Int32 × Int32 × mm_M) → Prop := (fun s => mm_At E G 6 (mm_Qi E G q) s.2.2.2 23 [(0, .ref a0), (1, .int x1), (2, .int s.1), (3, .int s.2.1), (4, .int s.2.2.1)] [])
noncomputable def fX0_goBy (G : mm_G) (a0 : Nat) (x1 : Int32) (σ : mm_M) : Option (Int32 × mm_M) := mm_run (fX0_goBy_b0 G a0 x1 σ) (fX0_goBy_s G a0 x1)
set_option maxHeartbeats 4000000 in
set_option maxRecDepth 100000 in
theorem wX0_goBy_b141 {E : mm_E} {G : mm_G} (X : mm_Cx E G cX0_goBy 6 RX0 wsX0_goBy rmX0_goBy (some .int)) {a0 : Nat} {x1 : Int32} {x2 : Int32} {sx0 : Int32} {sa1 : Nat} {σ : mm_M} {q : (Int32 × mm_M)} (ha0 : mm_Is G 0 a0) (hsa1 : mm_Is G 0 sa1) {o : (Int32 × mm_M) ⊕ (Int32 × Int32 × Int32 × mm_M)} (h : fX0_goBy_b141 G a0 x1 x2 sx0 sa1 σ = some o) (hk : mm_Ok q (PX0_goBy E G a0 x1 q) o) : mm_At E G 6 (mm_Qi E G q) σ 141 [(0, .ref a0), (2, .int x2)] [.int sx0, .ref sa1] := by
  unfold fX0_goBy_b141 at h
  obtain ⟨hg141, h⟩ := mm_chk h
  have hc141 := Classical.not_not.mp hg141
  refine at_put (pc := 141) X 0 5 hsa1 (by decide) rfl inX0_goBy_X0 tyX0 tyX0_ok nmX0 (by decide) lkX0_goBy_1 rfl (ty := .boolean) rfl (mm_z01 hc141) (mm_f01 hc141) (Nat.le_of_ble_eq_true rfl) (ms_0_5 G _ _ _) mm_up_ne dX0_goBy_141 ?_
  refine at_aload_n (pc := 144) X 0 0 dX0_goBy_144 rfl rfl ?_
  refine at_dup (pc := 145) X dX0_goBy_145 rfl ?_
  refine at_get (pc := 146) X 0 2 (.int ((mm_up σ sa1 5 sx0).1 a0 2)) ha0 (by decide) rfl inX0_goBy_X0 (by decide) lkX0_goBy_2 rfl dX0_goBy_146 ?_
  refine at_iconst (pc := 149) X (1 : Int32) dX0_goBy_149 ic_1 ?_
  refine at_iadd (pc := 150) X dX0_goBy_150 ?_
  refine at_put (pc := 151) X 0 2 ha0 (by decide) rfl inX0_goBy_X0 tyX0 tyX0_ok nmX0 (by decide) lkX0_goBy_2 rfl (ty := .int) rfl rfl rfl (Nat.le_of_ble_eq_true rfl) (ms_0_2 G _ _ _) mm_up_ne dX0_goBy_151 ?_
  refine at_iload_n (pc := 154) X 2 1 dX0_goBy_154 rfl rfl ?_
  exact at_iret (pc := 155) X (mm_inl h hk) dX0_goBy_155
set_option maxHeartbeats 4000000 in
set_option maxRecDepth 100000 in
theorem wX0_goBy_b23 {E : mm_E} {G : mm_G} (X : mm_Cx E G cX0_goBy 6 RX0 wsX0_goBy rmX0_goBy (some .int)) {a0 : Nat} {x1 : Int32} {x2 : Int32} {x3 : Int32} {x4 : Int32} {σ : mm_M} {q : (Int32 × mm_M)} (ha0 : mm_Is G 0 a0) {o : (Int32 × mm_M) ⊕ (Int32 × Int32 × Int32 × mm_M)} (h : fX0_goBy_b23 G a0 x1 x2 x3 x4 σ = some o) (hk : mm_Ok q (PX0_goBy E G a0 x1 q) o) : mm_At E G 6 (mm_Qi E G q) σ 23 [(0, .ref a0), (1, .int x1), (2, .int x2), (3, .int x3), (4, .int x4)] [] := by
  unfold fX0_goBy_b23 at h
  refine at_iload (pc := 23) X 4 4 dX0_goBy_23 rfl ?_
  refine at_aload_n (pc := 25) X 0 0 dX0_goBy_25 rfl rfl ?_
  refine at_get (pc := 26) X 0 1 (.int (σ.1 a0 1)) ha0 (by decide) rfl inX0_goBy_X0 (by decide) lkX0_goBy_0 rfl dX0_goBy_26 ?_
  refine at_icmp_ge (pc := 29) X 131 dX0_goBy_29 (by decide) (fun c29 => ?_) (fun c29 => ?_)
  · have h := mm_neg c29 h
    refine at_aload_n (pc := 131) X 0 0 dX0_goBy_131 rfl rfl ?_
    refine at_iload_n (pc := 132) X 2 2 dX0_goBy_132 rfl rfl ?_
    have hj133 : mm_At E G 6 (mm_Qi E G q) σ 141 [(0, .ref a0), (2, .int x2)] [.int (if x2 = 0 then (0 : Int32) else (1 : Int32)), .ref a0] := by
      exact at_sub [0, 1] rfl (wX0_goBy_b141 X ha0 ha0 h hk)
    refine at_if_eq (pc := 133) X 140 dX0_goBy_133 (by decide) (fun c133 => ?_) (fun c133 => ?_)
    · try simp only [if_pos c133] at hj133
      refine at_iconst (pc := 140) X (0 : Int32) dX0_goBy_140 ic_0 ?_
      exact at_sub [0, 2] rfl hj133
    · try simp only [if_neg c133] at hj133
      refine at_iconst (pc := 136) X (1 : Int32) dX0_goBy_136 ic_1 ?_
      refine at_goto (pc := 137) X 141 dX0_goBy_137 (by decide) ?_
      exact at_sub [0, 2] rfl hj133
  · have h := mm_pos c29 h
    refine at_aload_n (pc := 32) X 0 0 dX0_goBy_32 rfl rfl ?_
    refine at_get (pc := 33) X 0 0 (.ref (mm_R G a0 0)) ha0 (by decide) rfl inX0_goBy_X0 (by decide) lkX0_goBy_3 rfl dX0_goBy_33 ?_
    refine at_iload (pc := 36) X 4 4 dX0_goBy_36 rfl ?_
    obtain ⟨hc38, h⟩ := mm_chk h
    refine at_aald (pc := 38) X 8 3 (wf_0_0 X.wf ha0) (by decide) (by decide) rfl rfl hc38 dX0_goBy_38 ?_
    refine at_astore (pc := 39) X 5 [(5, .ref (mm_R G (mm_R G a0 0) x4.toNatClampNeg)), (0, .ref a0), (1, .int x1), (2, .int x2), (3, .int x3), (4, .int x4)] dX0_goBy_39 (by decide) rfl ?_
    refine at_iload_n (pc := 41) X 2 3 dX0_goBy_41 rfl rfl ?_
    refine at_iload (pc := 42) X 4 5 dX0_goBy_42 rfl ?_
    refine at_ishr (pc := 44) X dX0_goBy_44 ?_
    refine at_iconst (pc := 45) X (1 : Int32) dX0_goBy_45 ic_1 ?_
    refine at_iand (pc := 46) X dX0_goBy_46 ?_
    refine at_if_ne (pc := 47) X 81 dX0_goBy_47 (by decide) (fun c47 => ?_) (fun c47 => ?_)
    · have h := mm_neg c47 h
      refine at_iload_n (pc := 81) X 3 4 dX0_goBy_81 rfl rfl ?_
      refine at_if_eq (pc := 82) X 103 dX0_goBy_82 (by decide) (fun c82 => ?_) (fun c82 => ?_)
      · have h := mm_pos c82 h
        refine at_aload (pc := 103) X 5 0 dX0_goBy_103 rfl ?_
        refine at_aload_n (pc := 105) X 0 1 dX0_goBy_105 rfl rfl ?_
        refine at_get (pc := 106) X 0 2 (.int (σ.1 a0 2)) ha0 (by decide) rfl inX0_goBy_X0 (by decide) lkX0_goBy_2 rfl dX0_goBy_106 ?_
        obtain ⟨q109, hq109, h⟩ := mm_bind h
        refine at_calli (n := 1) (pc := 109) X 2 [.int (σ.1 a0 2)] [] (mX2_meets (eL E) X.wf (wf_8 X.wf (wf_0_0 X.wf ha0) hc38) hq109) gX0_goBy_X2_meets rfl ⟨rfl, rfl⟩ (by decide +kernel) ⟨by decide, by decide⟩ (by decide) rfl (wf_8 X.wf (wf_0_0 X.wf ha0) hc38) rfl rfl (Nat.le_of_ble_eq_true rfl) dX0_goBy_109 ?_
        refine at_if_eq (pc := 112) X 125 dX0_goBy_112 (by decide) (fun c112 => ?_) (fun c112 => ?_)
        · have h := mm_pos c112 h
          refine at_iinc (pc := 125) X 4 5 (x4 + 1) [(4, .int (x4 + 1)), (5, .ref (mm_R G (mm_R G a0 0) x4.toNatClampNeg)), (0, .ref a0), (1, .int x1), (2, .int x2), (3, .int x3)] dX0_goBy_125 rfl (ii_1 _) (by decide) rfl ?_
          refine at_goto (pc := 128) X 23 dX0_goBy_128 (by decide) ?_
          have h2 := mm_inr h hk; exact at_sub [2, 3, 4, 5, 0] rfl h2
        · have h := mm_neg c112 h
          refine at_aload_n (pc := 115) X 0 1 dX0_goBy_115 rfl rfl ?_
          refine at_dup (pc := 116) X dX0_goBy_116 rfl ?_
          refine at_get (pc := 117) X 0 4 (.int (q109.2.1 a0 4)) ha0 (by decide) rfl inX0_goBy_X0 (by decide) lkX0_goBy_4 rfl dX0_goBy_117 ?_
          refine at_iconst (pc := 120) X (1 : Int32) dX0_goBy_120 ic_1 ?_
          refine at_iadd (pc := 121) X dX0_goBy_121 ?_
          refine at_put (pc := 122) X 0 4 ha0 (by decide) rfl inX0_goBy_X0 tyX0 tyX0_ok nmX0 (by decide) lkX0_goBy_4 rfl (ty := .int) rfl rfl rfl (Nat.le_of_ble_eq_true rfl) (ms_0_4 G _ _ _) mm_up_ne dX0_goBy_122 ?_
          refine at_iinc (pc := 125) X 4 5 (x4 + 1) [(4, .int (x4 + 1)), (5, .ref (mm_R G (mm_R G a0 0) x4.toNatClampNeg)), (0, .ref a0), (1, .int x1), (2, .int x2), (3, .int x3)] dX0_goBy_125 rfl (ii_1 _) (by decide) rfl ?_
          refine at_goto (pc := 128) X 23 dX0_goBy_128 (by decide) ?_
          have h2 := mm_inr h hk; exact at_sub [2, 3, 4, 5, 0] rfl h2
      · have h := mm_neg c82 h
        refine at_aload (pc := 85) X 5 0 dX0_goBy_85 rfl ?_
        obtain ⟨q87, hq87, h⟩ := mm_bind h
        refine at_callv (n := 0) (pc := 87) X 2 [] [] (mX2_isHeard (eL E) X.wf (wf_8 X.wf (wf_0_0 X.wf ha0) hc38) hq87) gX0_goBy_X2_isHeard rfl ⟨rfl, rfl⟩ (by decide +kernel) ⟨by decide, by decide⟩ (by decide) rfl (wf_8 X.wf (wf_0_0 X.wf ha0) hc38) rfl rfl (Nat.le_of_ble_eq_true rfl) dX0_goBy_87 ?_
        refine at_aload_n (pc := 90) X 0 1 dX0_goBy_90 rfl rfl ?_
        refine at_dup (pc := 91) X dX0_goBy_91 rfl ?_
        refine at_get (pc := 92) X 0 3 (.int (q87.1 a0 3)) ha0 (by decide) rfl inX0_goBy_X0 (by decide) lkX0_goBy_5 rfl dX0_goBy_92 ?_
        refine at_iconst (pc := 95) X (1 : Int32) dX0_goBy_95 ic_1 ?_
        refine at_iadd (pc := 96) X dX0_goBy_96 ?_
        refine at_put (pc := 97) X 0 3 ha0 (by decide) rfl inX0_goBy_X0 tyX0 tyX0_ok nmX0 (by decide) lkX0_goBy_5 rfl (ty := .int) rfl rfl rfl (Nat.le_of_ble_eq_true rfl) (ms_0_3 G _ _ _) mm_up_ne dX0_goBy_97 ?_
        refine at_goto (pc := 100) X 125 dX0_goBy_100 (by decide) ?_
        refine at_iinc (pc := 125) X 4 5 (x4 + 1) [(4, .int (x4 + 1)), (5, .ref (mm_R G (mm_R G a0 0) x4.toNatClampNeg)), (0, .ref a0), (1, .int x1), (2, .int x2), (3, .int x3)] dX0_goBy_125 rfl (ii_1 _) (by decide) rfl ?_
        refine at_goto (pc := 128) X 23 dX0_goBy_128 (by decide) ?_
        have h2 := mm_inr h hk; exact at_sub [2, 3, 4, 5, 0] rfl h2
    · have h := mm_pos c47 h
      refine at_aload (pc := 50) X 5 0 dX0_goBy_50 rfl ?_
      refine at_get (pc := 52) X 2 4 (.int (σ.1 (mm_R G (mm_R G a0 0) x4.toNatClampNeg) 4)) (wf_8 X.wf (wf_0_0 X.wf ha0) hc38) (by decide) rfl inX0_goBy_X2 (by decide) lkX0_goBy_6 rfl dX0_goBy_52 ?_
      refine at_if_le (pc := 55) X 125 dX0_goBy_55 (by decide) (fun c55 => ?_) (fun c55 => ?_)
      · have h := mm_neg c55 h
        refine at_iinc (pc := 125) X 4 5 (x4 + 1) [(4, .int (x4 + 1)), (5, .ref (mm_R G (mm_R G a0 0) x4.toNatClampNeg)), (0, .ref a0), (1, .int x1), (2, .int x2), (3, .int x3)] dX0_goBy_125 rfl (ii_1 _) (by decide) rfl ?_
        refine at_goto (pc := 128) X 23 dX0_goBy_128 (by decide) ?_
        have h2 := mm_inr h hk; exact at_sub [2, 3, 4, 5, 0] rfl h2
      · have h := mm_pos c55 h
        refine at_iload_n (pc := 58) X 1 2 dX0_goBy_58 rfl rfl ?_
        refine at_iload (pc := 59) X 4 5 dX0_goBy_59 rfl ?_
        refine at_ishr (pc := 61) X dX0_goBy_61 ?_
        refine at_iconst (pc := 62) X (1 : Int32) dX0_goBy_62 ic_1 ?_
        refine at_iand (pc := 63) X dX0_goBy_63 ?_
        refine at_if_ne (pc := 64) X 125 dX0_goBy_64 (by decide) (fun c64 => ?_) (fun c64 => ?_)
        · have h := mm_neg c64 h
          refine at_iinc (pc := 125) X 4 5 (x4 + 1) [(4, .int (x4 + 1)), (5, .ref (mm_R G (mm_R G a0 0) x4.toNatClampNeg)), (0, .ref a0), (1, .int x1), (2, .int x2), (3, .int x3)] dX0_goBy_125 rfl (ii_1 _) (by decide) rfl ?_
          refine at_goto (pc := 128) X 23 dX0_goBy_128 (by decide) ?_
          have h2 := mm_inr h hk; exact at_sub [2, 3, 4, 5, 0] rfl h2
        · have h := mm_pos c64 h
          refine at_aload (pc := 67) X 5 0 dX0_goBy_67 rfl ?_
          refine at_dup (pc := 69) X dX0_goBy_69 rfl ?_
          refine at_get (pc := 70) X 2 4 (.int (σ.1 (mm_R G (mm_R G a0 0) x4.toNatClampNeg) 4)) (wf_8 X.wf (wf_0_0 X.wf ha0) hc38) (by decide) rfl inX0_goBy_X2 (by decide) lkX0_goBy_6 rfl dX0_goBy_70 ?_
          refine at_iconst (pc := 73) X (1 : Int32) dX0_goBy_73 ic_1 ?_
          refine at_isub (pc := 74) X dX0_goBy_74 ?_
          refine at_put (pc := 75) X 2 4 (wf_8 X.wf (wf_0_0 X.wf ha0) hc38) (by decide) rfl inX0_goBy_X2 tyX2 tyX2_ok nmX2 (by decide) lkX0_goBy_6 rfl (ty := .int) rfl rfl rfl (Nat.le_of_ble_eq_true rfl) (ms_2_4 G _ _ _) mm_up_ne dX0_goBy_75 ?_
          refine at_goto (pc := 78) X 125 dX0_goBy_78 (by decide) ?_
          refine at_iinc (pc := 125) X 4 5 (x4 + 1) [(4, .int (x4 + 1)), (5, .ref (mm_R G (mm_R G a0 0) x4.toNatClampNeg)), (0, .ref a0), (1, .int x1), (2, .int x2), (3, .int x3)] dX0_goBy_125 rfl (ii_1 _) (by decide) rfl ?_
          refine at_goto (pc := 128) X 23 dX0_goBy_128 (by decide) ?_
          have h2 := mm_inr h hk; exact at_sub [2, 3, 4, 5, 0] rfl h2
set_option maxHeartbeats 4000000 in
set_option maxRecDepth 100000 in
theorem wX0_goBy_b0 {E : mm_E} {G : mm_G} (X : mm_Cx E G cX0_goBy 6 RX0 wsX0_goBy rmX0_goBy (some .int)) {a0 : Nat} {x1 : Int32} {σ : mm_M} {q : (Int32 × mm_M)} (ha0 : mm_Is G 0 a0) {o : (Int32 × mm_M) ⊕ (Int32 × Int32 × Int32 × mm_M)} (h : fX0_goBy_b0 G a0 x1 σ = some o) (hk : mm_Ok q (PX0_goBy E G a0 x1 q) o) : mm_At E G 6 (mm_Qi E G q) σ 0 [(0, .ref a0), (1, .int x1)] [] := by
  unfold fX0_goBy_b0 at h
  refine at_aload_n (pc := 0) X 0 0 dX0_goBy_0 rfl rfl ?_
  refine at_iload_n (pc := 1) X 1 1 dX0_goBy_1 rfl rfl ?_
  obtain ⟨q2, hq2, h⟩ := mm_bind h
  refine at_calli (n := 1) (pc := 2) X 0 [.int x1] [] (mX0_talkers (eL E) X.wf ha0 hq2) gX0_goBy_X0_talkers rfl ⟨rfl, rfl⟩ (by decide +kernel) ⟨by decide, by decide⟩ (by decide) rfl ha0 rfl rfl (Nat.le_of_ble_eq_true rfl) dX0_goBy_2 ?_
  refine at_istore_n (pc := 5) X 2 [(2, .int q2.1), (0, .ref a0), (1, .int x1)] dX0_goBy_5 rfl (by decide) rfl ?_
  refine at_iload_n (pc := 6) X 2 0 dX0_goBy_6 rfl rfl ?_
  obtain ⟨q7, hq7, h⟩ := mm_bind h
  refine at_scalli (n := 1) (pc := 7) X [.int q2.1] [] (mJ6_bitCount_0f7a4 (eL E) X.wf hq7) gX0_goBy_J6_bitCount_0f7a4 rfl ⟨rfl, rfl⟩ (by decide +kernel) ⟨by decide, by decide⟩ rfl rfl (Nat.le_of_ble_eq_true rfl) dX0_goBy_7 ?_
  refine at_iconst (pc := 10) X (1 : Int32) dX0_goBy_10 ic_1 ?_
  have hj11 : mm_At E G 6 (mm_Qi E G q) q7.2 19 [(0, .ref a0), (1, .int x1), (2, .int q2.1)] [.int (if q7.1 = (1 : Int32) then (1 : Int32) else (0 : Int32))] := by
    refine at_istore_n (pc := 19) X 3 [(3, .int (if q7.1 = (1 : Int32) then (1 : Int32) else (0 : Int32))), (0, .ref a0), (1, .int x1), (2, .int q2.1)] dX0_goBy_19 rfl (by decide) rfl ?_
    refine at_iconst (pc := 20) X (0 : Int32) dX0_goBy_20 ic_0 ?_
    refine at_istore (pc := 21) X 4 [(4, .int (0 : Int32)), (3, .int (if q7.1 = (1 : Int32) then (1 : Int32) else (0 : Int32))), (0, .ref a0), (1, .int x1), (2, .int q2.1)] dX0_goBy_21 (by decide) rfl ?_
    have h2 := mm_inr h hk; exact at_sub [2, 3, 4, 1, 0] rfl h2
  refine at_icmp_ne (pc := 11) X 18 dX0_goBy_11 (by decide) (fun c11 => ?_) (fun c11 => ?_)
  · try simp only [if_neg c11] at hj11
    refine at_iconst (pc := 18) X (0 : Int32) dX0_goBy_18 ic_0 ?_
    exact at_sub [1, 2, 0] rfl hj11
  · try simp only [if_pos c11] at hj11
    refine at_iconst (pc := 14) X (1 : Int32) dX0_goBy_14 ic_1 ?_
    refine at_goto (pc := 15) X 19 dX0_goBy_15 (by decide) ?_
    exact at_sub [1, 2, 0] rfl hj11
set_option maxHeartbeats 4000000 in
set_option maxRecDepth 100000 in
theorem mX0_goBy (l : Launch) {G : mm_G} (hwf : mm_WF G) {a0 : Nat} {x1 : Int32} {σ : mm_M} {q : (Int32 × mm_M)} (ha0 : mm_Is G 0 a0) (h : fX0_goBy G a0 x1 σ = some q) : mm_Mi l yX0_goBy wsX0_goBy rmX0_goBy G [.ref a0, .int x1] σ q := by
  refine mm_ofi (cc := cX0_goBy) (nL := 6) (ret := some .int) (own := RX0) (lv0 := [(0, .ref a0), (1, .int x1)]) (by decide) rfl rfl (Nat.le_of_ble_eq_true rfl) rfl hwf (fun E hE X => ?_)
  obtain ⟨o, h0, hk⟩ := mm_run_ok (P := PX0_goBy E G a0 x1 q) h (fun s o hs hk => by exact wX0_goBy_b23 X ha0 hs hk)
  exact wX0_goBy_b0 X ha0 h0 hk
theorem dX0_lettersBut_0 : decode cX0_lettersBut 0 = .ok (.iconst 0, 1) := by decide +kernel
theorem dX0_lettersBut_1 : decode cX0_lettersBut 1 = .ok (.istore_n 2, 1) := by decide +kernel
theorem dX0_lettersBut_2 : decode cX0_lettersBut 2 = .ok (.iconst 0, 1) := by decide +kernel
theorem dX0_lettersBut_3 : decode cX0_lettersBut 3 = .ok (.istore_n 3, 1) := by decide +kernel
theorem dX0_lettersBut_4 : decode cX0_lettersBut 4 = .ok (.iload_n 3, 1) := by decide +kernel
theorem dX0_lettersBut_5 : decode cX0_lettersBut 5 = .ok (.aload_n 0, 1) := by decide +kernel
theorem dX0_lettersBut_6 : decode cX0_lettersBut 6 = .ok (.getfield 17, 3) := by decide +kernel
theorem dX0_lettersBut_9 : decode cX0_lettersBut 9 = .ok (.if_icmp .ge 29, 3) := by decide +kernel
theorem dX0_lettersBut_12 : decode cX0_lettersBut 12 = .ok (.iload_n 1, 1) := by decide +kernel
theorem dX0_lettersBut_13 : decode cX0_lettersBut 13 = .ok (.iload_n 3, 1) := by decide +kernel
theorem dX0_lettersBut_14 : decode cX0_lettersBut 14 = .ok (.ishr, 1) := by decide +kernel
theorem dX0_lettersBut_15 : decode cX0_lettersBut 15 = .ok (.iconst 1, 1) := by decide +kernel
theorem dX0_lettersBut_16 : decode cX0_lettersBut 16 = .ok (.iand, 1) := by decide +kernel
theorem dX0_lettersBut_17 : decode cX0_lettersBut 17 = .ok (.ifCond .ne 15, 3) := by decide +kernel
theorem dX0_lettersBut_20 : decode cX0_lettersBut 20 = .ok (.iload_n 2, 1) := by decide +kernel
theorem dX0_lettersBut_21 : decode cX0_lettersBut 21 = .ok (.aload_n 0, 1) := by decide +kernel
theorem dX0_lettersBut_22 : decode cX0_lettersBut 22 = .ok (.getfield 11, 3) := by decide +kernel
theorem dX0_lettersBut_25 : decode cX0_lettersBut 25 = .ok (.iload_n 3, 1) := by decide +kernel
theorem dX0_lettersBut_26 : decode cX0_lettersBut 26 = .ok (.aaload, 1) := by decide +kernel
theorem dX0_lettersBut_27 : decode cX0_lettersBut 27 = .ok (.getfield 56, 3) := by decide +kernel
theorem dX0_lettersBut_30 : decode cX0_lettersBut 30 = .ok (.iadd, 1) := by decide +kernel
theorem dX0_lettersBut_31 : decode cX0_lettersBut 31 = .ok (.istore_n 2, 1) := by decide +kernel
theorem dX0_lettersBut_32 : decode cX0_lettersBut 32 = .ok (.iinc 3 1, 3) := by decide +kernel
theorem dX0_lettersBut_35 : decode cX0_lettersBut 35 = .ok (.goto (-31), 3) := by decide +kernel
theorem dX0_lettersBut_38 : decode cX0_lettersBut 38 = .ok (.iload_n 2, 1) := by decide +kernel
theorem dX0_lettersBut_39 : decode cX0_lettersBut 39 = .ok (.ireturn, 1) := by decide +kernel
/-! X0_lettersBut (I)I -/
abbrev rmX0_lettersBut : Room := { frames := 0, cells := 0, slots := 0, locals := 0 }
theorem lkX0_lettersBut_0 : Cond.fieldLink RX0 17 (TX0 1).1 (TX0 1).2.1 (TX0 1).2.2.1 ∈ wsX0_lettersBut := by decide +kernel
theorem lkX0_lettersBut_1 : Cond.fieldLink RX0 11 (TX0 0).1 (TX0 0).2.1 (TX0 0).2.2.1 ∈ wsX0_lettersBut := by decide +kernel
theorem lkX0_lettersBut_2 : Cond.fieldLink RX0 56 (TX2 3).1 (TX2 3).2.1 (TX2 3).2.2.1 ∈ wsX0_lettersBut := by decide +kernel
theorem inX0_lettersBut_X0 : ∀ w ∈ u_ws RX0 TX0 6, w ∈ wsX0_lettersBut := by decide +kernel
theorem inX0_lettersBut_X2 : ∀ w ∈ u_ws RX2 TX2 6, w ∈ wsX0_lettersBut := by decide +kernel
noncomputable def fX0_lettersBut_b4 (G : mm_G) (a0 : Nat) (x1 : Int32) (x2 : Int32) (x3 : Int32) (σ : mm_M) : Option ((Int32 × mm_M) ⊕ (Int32 × Int32 × mm_M)) := if x3 < (σ.1 a0 1) then (if ((x1 >>> (x3 &&& 31)) &&& (1 : Int32)) = 0 then (if x3 < 0 ∨ mm_N G (mm_R G a0 0) ≤ x3.toNatClampNeg then none else (some (.inr (x2 + (σ.1 (mm_R G (mm_R G a0 0) x3.toNatClampNeg) 3), x3 + 1, σ)))) else (some (.inr (x2, x3 + 1, σ)))) else (some (.inl (x2, σ)))
noncomputable def fX0_lettersBut_b0 (G : mm_G) (a0 : Nat) (x1 : Int32) (σ : mm_M) : Option ((Int32 × mm_M) ⊕ (Int32 × Int32 × mm_M)) := some (.inr ((0 : Int32), (0 : Int32), σ))
noncomputable def fX0_lettersBut_s (G : mm_G) (a0 : Nat) (x1 : Int32) : (Int32 × Int32 × mm_M) → Option ((Int32 × mm_M) ⊕ (Int32 × Int32 × mm_M)) := (fun s => fX0_lettersBut_b4 G a0 x1 s.1 s.2.1 s.2.2)
def PX0_lettersBut (E : mm_E) (G : mm_G) (a0 : Nat) (x1 : Int32) (q : (Int32 × mm_M)) : (Int32 × Int32 × mm_M) → Prop := (fun s => mm_At E G 4 (mm_Qi E G q) s.2.2 4 [(0, .ref a0), (1, .int x1), (2, .int s.1), (3, .int s.2.1)] [])
noncomputable def fX0_lettersBut (G : mm_G) (a0 : Nat) (x1 : Int32) (σ : mm_M) : Option (Int32 × mm_M) := mm_run (fX0_lettersBut_b0 G a0 x1 σ) (fX0_lettersBut_s G a0 x1)
set_option maxHeartbeats 4000000 in
set_option maxRecDepth 100000 in
theorem wX0_lettersBut_b4 {E : mm_E} {G : mm_G} (X : mm_Cx E G cX0_lettersBut 4 RX0 wsX0_lettersBut rmX0_lettersBut (some .int)) {a0 : Nat} {x1 : Int32} {x2 : Int32} {x3 : Int32} {σ : mm_M} {q : (Int32 × mm_M)} (ha0 : mm_Is G 0 a0) {o : (Int32 × mm_M) ⊕ (Int32 × Int32 × mm_M)} (h : fX0_lettersBut_b4 G a0 x1 x2 x3 σ = some o) (hk : mm_Ok q (PX0_lettersBut E G a0 x1 q) o) : mm_At E G 4 (mm_Qi E G q) σ 4 [(0, .ref a0), (1, .int x1), (2, .int x2), (3, .int x3)] [] := by
  unfold fX0_lettersBut_b4 at h
  refine at_iload_n (pc := 4) X 3 3 dX0_lettersBut_4 rfl rfl ?_
  refine at_aload_n (pc := 5) X 0 0 dX0_lettersBut_5 rfl rfl ?_
  refine at_get (pc := 6) X 0 1 (.int (σ.1 a0 1)) ha0 (by decide) rfl inX0_lettersBut_X0 (by decide) lkX0_lettersBut_0 rfl dX0_lettersBut_6 ?_
  refine at_icmp_ge (pc := 9) X 38 dX0_lettersBut_9 (by decide) (fun c9 => ?_) (fun c9 => ?_)
  · have h := mm_neg c9 h
    refine at_iload_n (pc := 38) X 2 2 dX0_lettersBut_38 rfl rfl ?_
    exact at_iret (pc := 39) X (mm_inl h hk) dX0_lettersBut_39
  · have h := mm_pos c9 h
    refine at_iload_n (pc := 12) X 1 1 dX0_lettersBut_12 rfl rfl ?_
    refine at_iload_n (pc := 13) X 3 3 dX0_lettersBut_13 rfl rfl ?_
    refine at_ishr (pc := 14) X dX0_lettersBut_14 ?_
    refine at_iconst (pc := 15) X (1 : Int32) dX0_lettersBut_15 ic_1 ?_
    refine at_iand (pc := 16) X dX0_lettersBut_16 ?_
    refine at_if_ne (pc := 17) X 32 dX0_lettersBut_17 (by decide) (fun c17 => ?_) (fun c17 => ?_)
    · have h := mm_neg c17 h
      refine at_iinc (pc := 32) X 3 3 (x3 + 1) [(3, .int (x3 + 1)), (0, .ref a0), (1, .int x1), (2, .int x2)] dX0_lettersBut_32 rfl (ii_1 _) (by decide) rfl ?_
      refine at_goto (pc := 35) X 4 dX0_lettersBut_35 (by decide) ?_
      have h2 := mm_inr h hk; exact at_sub [1, 2, 3, 0] rfl h2
    · have h := mm_pos c17 h
      refine at_iload_n (pc := 20) X 2 2 dX0_lettersBut_20 rfl rfl ?_
      refine at_aload_n (pc := 21) X 0 0 dX0_lettersBut_21 rfl rfl ?_
      refine at_get (pc := 22) X 0 0 (.ref (mm_R G a0 0)) ha0 (by decide) rfl inX0_lettersBut_X0 (by decide) lkX0_lettersBut_1 rfl dX0_lettersBut_22 ?_
      refine at_iload_n (pc := 25) X 3 3 dX0_lettersBut_25 rfl rfl ?_
      obtain ⟨hc26, h⟩ := mm_chk h
      refine at_aald (pc := 26) X 8 3 (wf_0_0 X.wf ha0) (by decide) (by decide) rfl rfl hc26 dX0_lettersBut_26 ?_
      refine at_get (pc := 27) X 2 3 (.int (σ.1 (mm_R G (mm_R G a0 0) x3.toNatClampNeg) 3)) (wf_8 X.wf (wf_0_0 X.wf ha0) hc26) (by decide) rfl inX0_lettersBut_X2 (by decide) lkX0_lettersBut_2 rfl dX0_lettersBut_27 ?_
      refine at_iadd (pc := 30) X dX0_lettersBut_30 ?_
      refine at_istore_n (pc := 31) X 2 [(2, .int (x2 + (σ.1 (mm_R G (mm_R G a0 0) x3.toNatClampNeg) 3))), (0, .ref a0), (1, .int x1), (3, .int x3)] dX0_lettersBut_31 rfl (by decide) rfl ?_
      refine at_iinc (pc := 32) X 3 3 (x3 + 1) [(3, .int (x3 + 1)), (2, .int (x2 + (σ.1 (mm_R G (mm_R G a0 0) x3.toNatClampNeg) 3))), (0, .ref a0), (1, .int x1)] dX0_lettersBut_32 rfl (ii_1 _) (by decide) rfl ?_
      refine at_goto (pc := 35) X 4 dX0_lettersBut_35 (by decide) ?_
      have h2 := mm_inr h hk; exact at_sub [2, 3, 1, 0] rfl h2
set_option maxHeartbeats 4000000 in
set_option maxRecDepth 100000 in
theorem wX0_lettersBut_b0 {E : mm_E} {G : mm_G} (X : mm_Cx E G cX0_lettersBut 4 RX0 wsX0_lettersBut rmX0_lettersBut (some .int)) {a0 : Nat} {x1 : Int32} {σ : mm_M} {q : (Int32 × mm_M)} (ha0 : mm_Is G 0 a0) {o : (Int32 × mm_M) ⊕ (Int32 × Int32 × mm_M)} (h : fX0_lettersBut_b0 G a0 x1 σ = some o) (hk : mm_Ok q (PX0_lettersBut E G a0 x1 q) o) : mm_At E G 4 (mm_Qi E G q) σ 0 [(0, .ref a0), (1, .int x1)] [] := by
  unfold fX0_lettersBut_b0 at h
  refine at_iconst (pc := 0) X (0 : Int32) dX0_lettersBut_0 ic_0 ?_
  refine at_istore_n (pc := 1) X 2 [(2, .int (0 : Int32)), (0, .ref a0), (1, .int x1)] dX0_lettersBut_1 rfl (by decide) rfl ?_
  refine at_iconst (pc := 2) X (0 : Int32) dX0_lettersBut_2 ic_0 ?_
  refine at_istore_n (pc := 3) X 3 [(3, .int (0 : Int32)), (2, .int (0 : Int32)), (0, .ref a0), (1, .int x1)] dX0_lettersBut_3 rfl (by decide) rfl ?_
  have h2 := mm_inr h hk; exact at_sub [2, 3, 1, 0] rfl h2
set_option maxHeartbeats 4000000 in
set_option maxRecDepth 100000 in
theorem mX0_lettersBut (l : Launch) {G : mm_G} (hwf : mm_WF G) {a0 : Nat} {x1 : Int32} {σ : mm_M} {q : (Int32 × mm_M)} (ha0 : mm_Is G 0 a0) (h : fX0_lettersBut G a0 x1 σ = some q) : mm_Mi l yX0_lettersBut wsX0_lettersBut rmX0_lettersBut G [.ref a0, .int x1] σ q := by
  refine mm_ofi (cc := cX0_lettersBut) (nL := 4) (ret := some .int) (own := RX0) (lv0 := [(0, .ref a0), (1, .int x1)]) (by decide) rfl rfl (Nat.le_of_ble_eq_true rfl) rfl hwf (fun E hE X => ?_)
  obtain ⟨o, h0, hk⟩ := mm_run_ok (P := PX0_lettersBut E G a0 x1 q) h (fun s o hs hk => by exact wX0_lettersBut_b4 X ha0 hs hk)
  exact wX0_lettersBut_b0 X ha0 h0 hk
