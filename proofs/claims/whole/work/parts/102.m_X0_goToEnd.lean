/-! X0_goToEnd X0_countOf X0_act X1_hasRoomFor X1_add X1_become X2_holdsBack X2_told X2_tellsAs X3_isRow X3_found -/
set_option maxRecDepth 20000 in
theorem ggX0_goToEnd_X0_lettersBut : GoodIn wsX0_goToEnd wsX0_lettersBut := goodIn_r _ [5, 6, 7, 8, 75, 76, 77, 78, 79, 80, 81, 82, 83, 84, 85, 86] (by decide +kernel) (by decide +kernel)
set_option maxRecDepth 20000 in
theorem gX0_goToEnd_X0_lettersBut : GoodIn wsX0_goToEnd (wsV RX0 88 RX0 yX0_lettersBut wsX0_lettersBut) := goodIn_app (goodIn_of _ (by decide +kernel)) ggX0_goToEnd_X0_lettersBut
set_option maxRecDepth 20000 in
theorem ggX0_goToEnd_X0_goBy : GoodIn wsX0_goToEnd wsX0_goBy := goodIn_r _ [12, 6, 7, 13, 14, 15, 16, 17, 18, 19, 20, 4, 21, 22, 23, 24, 25, 26, 27, 28, 29, 30, 31, 32, 33, 34, 35, 36, 37, 38, 39, 40, 41, 42, 43, 44, 45, 46, 47, 48, 49, 50, 51, 52, 53, 54, 55, 56, 57, 58, 59, 60, 61, 62, 63, 64, 65, 66, 67, 68, 69, 70, 71, 72, 73, 74, 75, 76, 77, 78, 79, 80, 81, 82, 83, 84, 85, 86] (by decide +kernel) (by decide +kernel)
set_option maxRecDepth 20000 in
theorem gX0_goToEnd_X0_goBy : GoodIn wsX0_goToEnd (wsV RX0 91 RX0 yX0_goBy wsX0_goBy) := goodIn_app (goodIn_of _ (by decide +kernel)) ggX0_goToEnd_X0_goBy
theorem dX0_goToEnd_0 : decode cX0_goToEnd 0 = .ok (.iconst 0, 1) := by decide +kernel
theorem dX0_goToEnd_1 : decode cX0_goToEnd 1 = .ok (.istore_n 1, 1) := by decide +kernel
theorem dX0_goToEnd_2 : decode cX0_goToEnd 2 = .ok (.iload_n 1, 1) := by decide +kernel
theorem dX0_goToEnd_3 : decode cX0_goToEnd 3 = .ok (.sipush 200, 3) := by decide +kernel
theorem dX0_goToEnd_6 : decode cX0_goToEnd 6 = .ok (.if_icmp .gt 25, 3) := by decide +kernel
theorem dX0_goToEnd_9 : decode cX0_goToEnd 9 = .ok (.aload_n 0, 1) := by decide +kernel
theorem dX0_goToEnd_10 : decode cX0_goToEnd 10 = .ok (.iconst 0, 1) := by decide +kernel
theorem dX0_goToEnd_11 : decode cX0_goToEnd 11 = .ok (.invokevirtual 88, 3) := by decide +kernel
theorem dX0_goToEnd_14 : decode cX0_goToEnd 14 = .ok (.ifCond .ne 5, 3) := by decide +kernel
theorem dX0_goToEnd_17 : decode cX0_goToEnd 17 = .ok (.iload_n 1, 1) := by decide +kernel
theorem dX0_goToEnd_18 : decode cX0_goToEnd 18 = .ok (.ireturn, 1) := by decide +kernel
theorem dX0_goToEnd_19 : decode cX0_goToEnd 19 = .ok (.aload_n 0, 1) := by decide +kernel
theorem dX0_goToEnd_20 : decode cX0_goToEnd 20 = .ok (.iconst 0, 1) := by decide +kernel
theorem dX0_goToEnd_21 : decode cX0_goToEnd 21 = .ok (.invokevirtual 91, 3) := by decide +kernel
theorem dX0_goToEnd_24 : decode cX0_goToEnd 24 = .ok (.pop, 1) := by decide +kernel
theorem dX0_goToEnd_25 : decode cX0_goToEnd 25 = .ok (.iinc 1 1, 3) := by decide +kernel
theorem dX0_goToEnd_28 : decode cX0_goToEnd 28 = .ok (.goto (-26), 3) := by decide +kernel
theorem dX0_goToEnd_31 : decode cX0_goToEnd 31 = .ok (.bipush (-9), 2) := by decide +kernel
theorem dX0_goToEnd_33 : decode cX0_goToEnd 33 = .ok (.ireturn, 1) := by decide +kernel
/-! X0_goToEnd ()I -/
abbrev rmX0_goToEnd : Room := { frames := 5, cells := 0, slots := 0, locals := 105 }
noncomputable def fX0_goToEnd_b2 (G : mm_G) (a0 : Nat) (x1 : Int32) (σ : mm_M) : Option ((Int32 × mm_M) ⊕ (Int32 × mm_M)) := if (200 : Int32) < x1 then (some (.inl ((-9 : Int32), σ))) else ((fX0_lettersBut G a0 (0 : Int32) σ).bind (fun q11 => if q11.1 = 0 then (some (.inl (x1, q11.2))) else ((fX0_goBy G a0 (0 : Int32) q11.2).bind (fun q21 => some (.inr (x1 + 1, q21.2))))))
noncomputable def fX0_goToEnd_b0 (G : mm_G) (a0 : Nat) (σ : mm_M) : Option ((Int32 × mm_M) ⊕ (Int32 × mm_M)) := some (.inr ((0 : Int32), σ))
noncomputable def fX0_goToEnd_s (G : mm_G) (a0 : Nat) : (Int32 × mm_M) → Option ((Int32 × mm_M) ⊕ (Int32 × mm_M)) := (fun s => fX0_goToEnd_b2 G a0 s.1 s.2)
def PX0_goToEnd (E : mm_E) (G : mm_G) (a0 : Nat) (q : (Int32 × mm_M)) : (Int32 × mm_M) → Prop := (fun s => mm_At E G 2 (mm_Qi E G q) s.2 2 [(0, .ref a0), (1, .int s.1)] [])
noncomputable def fX0_goToEnd (G : mm_G) (a0 : Nat) (σ : mm_M) : Option (Int32 × mm_M) := mm_run (fX0_goToEnd_b0 G a0 σ) (fX0_goToEnd_s G a0)
set_option maxHeartbeats 4000000 in
set_option maxRecDepth 100000 in
theorem wX0_goToEnd_b2 {E : mm_E} {G : mm_G} (X : mm_Cx E G cX0_goToEnd 2 RX0 wsX0_goToEnd rmX0_goToEnd (some .int)) {a0 : Nat} {x1 : Int32} {σ : mm_M} {q : (Int32 × mm_M)} (ha0 : mm_Is G 0 a0) {o : (Int32 × mm_M) ⊕ (Int32 × mm_M)} (h : fX0_goToEnd_b2 G a0 x1 σ = some o) (hk : mm_Ok q (PX0_goToEnd E G a0 q) o) : mm_At E G 2 (mm_Qi E G q) σ 2 [(0, .ref a0), (1, .int x1)] [] := by
  unfold fX0_goToEnd_b2 at h
  refine at_iload_n (pc := 2) X 1 1 dX0_goToEnd_2 rfl rfl ?_
  refine at_sipush (pc := 3) X (200 : Int32) dX0_goToEnd_3 is_200 ?_
  refine at_icmp_gt (pc := 6) X 31 dX0_goToEnd_6 (by decide) (fun c6 => ?_) (fun c6 => ?_)
  · have h := mm_pos c6 h
    refine at_bipush (pc := 31) X (-9 : Int32) dX0_goToEnd_31 ib_m9 ?_
    exact at_iret (pc := 33) X (mm_inl h hk) dX0_goToEnd_33
  · have h := mm_neg c6 h
    refine at_aload_n (pc := 9) X 0 0 dX0_goToEnd_9 rfl rfl ?_
    refine at_iconst (pc := 10) X (0 : Int32) dX0_goToEnd_10 ic_0 ?_
    obtain ⟨q11, hq11, h⟩ := mm_bind h
    refine at_calli (n := 1) (pc := 11) X 0 [.int (0 : Int32)] [] (mX0_lettersBut (eL E) X.wf ha0 hq11) gX0_goToEnd_X0_lettersBut rfl ⟨rfl, rfl⟩ (by decide +kernel) ⟨by decide, by decide⟩ (by decide) rfl ha0 rfl rfl (Nat.le_of_ble_eq_true rfl) dX0_goToEnd_11 ?_
    refine at_if_ne (pc := 14) X 19 dX0_goToEnd_14 (by decide) (fun c14 => ?_) (fun c14 => ?_)
    · have h := mm_neg c14 h
      refine at_aload_n (pc := 19) X 0 0 dX0_goToEnd_19 rfl rfl ?_
      refine at_iconst (pc := 20) X (0 : Int32) dX0_goToEnd_20 ic_0 ?_
      obtain ⟨q21, hq21, h⟩ := mm_bind h
      refine at_calli (n := 1) (pc := 21) X 0 [.int (0 : Int32)] [] (mX0_goBy (eL E) X.wf ha0 hq21) gX0_goToEnd_X0_goBy rfl ⟨rfl, rfl⟩ (by decide +kernel) ⟨by decide, by decide⟩ (by decide) rfl ha0 rfl rfl (Nat.le_of_ble_eq_true rfl) dX0_goToEnd_21 ?_
      refine at_pop (pc := 24) X dX0_goToEnd_24 rfl ?_
      refine at_iinc (pc := 25) X 1 1 (x1 + 1) [(1, .int (x1 + 1)), (0, .ref a0)] dX0_goToEnd_25 rfl (ii_1 _) (by decide) rfl ?_
      refine at_goto (pc := 28) X 2 dX0_goToEnd_28 (by decide) ?_
      have h2 := mm_inr h hk; exact at_sub [1, 0] rfl h2
    · have h := mm_pos c14 h
      refine at_iload_n (pc := 17) X 1 1 dX0_goToEnd_17 rfl rfl ?_
      exact at_iret (pc := 18) X (mm_inl h hk) dX0_goToEnd_18
set_option maxHeartbeats 4000000 in
set_option maxRecDepth 100000 in
theorem wX0_goToEnd_b0 {E : mm_E} {G : mm_G} (X : mm_Cx E G cX0_goToEnd 2 RX0 wsX0_goToEnd rmX0_goToEnd (some .int)) {a0 : Nat} {σ : mm_M} {q : (Int32 × mm_M)} (ha0 : mm_Is G 0 a0) {o : (Int32 × mm_M) ⊕ (Int32 × mm_M)} (h : fX0_goToEnd_b0 G a0 σ = some o) (hk : mm_Ok q (PX0_goToEnd E G a0 q) o) : mm_At E G 2 (mm_Qi E G q) σ 0 [(0, .ref a0)] [] := by
  unfold fX0_goToEnd_b0 at h
  refine at_iconst (pc := 0) X (0 : Int32) dX0_goToEnd_0 ic_0 ?_
  refine at_istore_n (pc := 1) X 1 [(1, .int (0 : Int32)), (0, .ref a0)] dX0_goToEnd_1 rfl (by decide) rfl ?_
  have h2 := mm_inr h hk; exact at_sub [1, 0] rfl h2
set_option maxHeartbeats 4000000 in
set_option maxRecDepth 100000 in
theorem mX0_goToEnd (l : Launch) {G : mm_G} (hwf : mm_WF G) {a0 : Nat} {σ : mm_M} {q : (Int32 × mm_M)} (ha0 : mm_Is G 0 a0) (h : fX0_goToEnd G a0 σ = some q) : mm_Mi l yX0_goToEnd wsX0_goToEnd rmX0_goToEnd G [.ref a0] σ q := by
  refine mm_ofi (cc := cX0_goToEnd) (nL := 2) (ret := some .int) (own := RX0) (lv0 := [(0, .ref a0)]) (by decide) rfl rfl (Nat.le_of_ble_eq_true rfl) rfl hwf (fun E hE X => ?_)
  obtain ⟨o, h0, hk⟩ := mm_run_ok (P := PX0_goToEnd E G a0 q) h (fun s o hs hk => by exact wX0_goToEnd_b2 X ha0 hs hk)
  exact wX0_goToEnd_b0 X ha0 h0 hk
set_option maxRecDepth 20000 in
theorem ggX0_countOf_X2_isOf : GoodIn wsX0_countOf wsX2_isOf := goodIn_r _ [7, 8, 15, 16, 17, 18, 19, 20] (by decide +kernel) (by decide +kernel)
set_option maxRecDepth 20000 in
theorem gX0_countOf_X2_isOf : GoodIn wsX0_countOf (wsV RX0 94 RX2 yX2_isOf wsX2_isOf) := goodIn_app (goodIn_of _ (by decide +kernel)) ggX0_countOf_X2_isOf
theorem dX0_countOf_0 : decode cX0_countOf 0 = .ok (.iconst 0, 1) := by decide +kernel
theorem dX0_countOf_1 : decode cX0_countOf 1 = .ok (.istore_n 2, 1) := by decide +kernel
theorem dX0_countOf_2 : decode cX0_countOf 2 = .ok (.iconst 0, 1) := by decide +kernel
theorem dX0_countOf_3 : decode cX0_countOf 3 = .ok (.istore_n 3, 1) := by decide +kernel
theorem dX0_countOf_4 : decode cX0_countOf 4 = .ok (.iload_n 3, 1) := by decide +kernel
theorem dX0_countOf_5 : decode cX0_countOf 5 = .ok (.aload_n 0, 1) := by decide +kernel
theorem dX0_countOf_6 : decode cX0_countOf 6 = .ok (.getfield 17, 3) := by decide +kernel
theorem dX0_countOf_9 : decode cX0_countOf 9 = .ok (.if_icmp .ge 25, 3) := by decide +kernel
theorem dX0_countOf_12 : decode cX0_countOf 12 = .ok (.aload_n 0, 1) := by decide +kernel
theorem dX0_countOf_13 : decode cX0_countOf 13 = .ok (.getfield 11, 3) := by decide +kernel
theorem dX0_countOf_16 : decode cX0_countOf 16 = .ok (.iload_n 3, 1) := by decide +kernel
theorem dX0_countOf_17 : decode cX0_countOf 17 = .ok (.aaload, 1) := by decide +kernel
theorem dX0_countOf_18 : decode cX0_countOf 18 = .ok (.iload_n 1, 1) := by decide +kernel
theorem dX0_countOf_19 : decode cX0_countOf 19 = .ok (.invokevirtual 94, 3) := by decide +kernel
theorem dX0_countOf_22 : decode cX0_countOf 22 = .ok (.ifCond .eq 6, 3) := by decide +kernel
theorem dX0_countOf_25 : decode cX0_countOf 25 = .ok (.iinc 2 1, 3) := by decide +kernel
theorem dX0_countOf_28 : decode cX0_countOf 28 = .ok (.iinc 3 1, 3) := by decide +kernel
theorem dX0_countOf_31 : decode cX0_countOf 31 = .ok (.goto (-27), 3) := by decide +kernel
theorem dX0_countOf_34 : decode cX0_countOf 34 = .ok (.iload_n 2, 1) := by decide +kernel
theorem dX0_countOf_35 : decode cX0_countOf 35 = .ok (.ireturn, 1) := by decide +kernel
/-! X0_countOf (I)I -/
abbrev rmX0_countOf : Room := { frames := 1, cells := 0, slots := 0, locals := 21 }
theorem lkX0_countOf_0 : Cond.fieldLink RX0 17 (TX0 1).1 (TX0 1).2.1 (TX0 1).2.2.1 ∈ wsX0_countOf := by decide +kernel
theorem lkX0_countOf_1 : Cond.fieldLink RX0 11 (TX0 0).1 (TX0 0).2.1 (TX0 0).2.2.1 ∈ wsX0_countOf := by decide +kernel
theorem inX0_countOf_X0 : ∀ w ∈ u_ws RX0 TX0 6, w ∈ wsX0_countOf := by decide +kernel
noncomputable def fX0_countOf_b4 (G : mm_G) (a0 : Nat) (x1 : Int32) (x2 : Int32) (x3 : Int32) (σ : mm_M) : Option ((Int32 × mm_M) ⊕ (Int32 × Int32 × mm_M)) := if x3 < (σ.1 a0 1) then (if x3 < 0 ∨ mm_N G (mm_R G a0 0) ≤ x3.toNatClampNeg then none else ((fX2_isOf G (mm_R G (mm_R G a0 0) x3.toNatClampNeg) x1 σ).bind (fun q19 => some (.inr (if q19.1 = 0 then x2 else x2 + 1, x3 + 1, q19.2))))) else (some (.inl (x2, σ)))
noncomputable def fX0_countOf_b0 (G : mm_G) (a0 : Nat) (x1 : Int32) (σ : mm_M) : Option ((Int32 × mm_M) ⊕ (Int32 × Int32 × mm_M)) := some (.inr ((0 : Int32), (0 : Int32), σ))
noncomputable def fX0_countOf_s (G : mm_G) (a0 : Nat) (x1 : Int32) : (Int32 × Int32 × mm_M) → Option ((Int32 × mm_M) ⊕ (Int32 × Int32 × mm_M)) := (fun s => fX0_countOf_b4 G a0 x1 s.1 s.2.1 s.2.2)
def PX0_countOf (E : mm_E) (G : mm_G) (a0 : Nat) (x1 : Int32) (q : (Int32 × mm_M)) : (Int32 × Int32 × mm_M) → Prop := (fun s => mm_At E G 4 (mm_Qi E G q) s.2.2 4 [(0, .ref a0), (1, .int x1), (2, .int s.1), (3, .int s.2.1)] [])
noncomputable def fX0_countOf (G : mm_G) (a0 : Nat) (x1 : Int32) (σ : mm_M) : Option (Int32 × mm_M) := mm_run (fX0_countOf_b0 G a0 x1 σ) (fX0_countOf_s G a0 x1)
set_option maxHeartbeats 4000000 in
set_option maxRecDepth 100000 in
theorem wX0_countOf_b4 {E : mm_E} {G : mm_G} (X : mm_Cx E G cX0_countOf 4 RX0 wsX0_countOf rmX0_countOf (some .int)) {a0 : Nat} {x1 : Int32} {x2 : Int32} {x3 : Int32} {σ : mm_M} {q : (Int32 × mm_M)} (ha0 : mm_Is G 0 a0) {o : (Int32 × mm_M) ⊕ (Int32 × Int32 × mm_M)} (h : fX0_countOf_b4 G a0 x1 x2 x3 σ = some o) (hk : mm_Ok q (PX0_countOf E G a0 x1 q) o) : mm_At E G 4 (mm_Qi E G q) σ 4 [(0, .ref a0), (1, .int x1), (2, .int x2), (3, .int x3)] [] := by
  unfold fX0_countOf_b4 at h
  refine at_iload_n (pc := 4) X 3 3 dX0_countOf_4 rfl rfl ?_
  refine at_aload_n (pc := 5) X 0 0 dX0_countOf_5 rfl rfl ?_
  refine at_get (pc := 6) X 0 1 (.int (σ.1 a0 1)) ha0 (by decide) rfl inX0_countOf_X0 (by decide) lkX0_countOf_0 rfl dX0_countOf_6 ?_
  refine at_icmp_ge (pc := 9) X 34 dX0_countOf_9 (by decide) (fun c9 => ?_) (fun c9 => ?_)
  · have h := mm_neg c9 h
    refine at_iload_n (pc := 34) X 2 2 dX0_countOf_34 rfl rfl ?_
    exact at_iret (pc := 35) X (mm_inl h hk) dX0_countOf_35
  · have h := mm_pos c9 h
    refine at_aload_n (pc := 12) X 0 0 dX0_countOf_12 rfl rfl ?_
    refine at_get (pc := 13) X 0 0 (.ref (mm_R G a0 0)) ha0 (by decide) rfl inX0_countOf_X0 (by decide) lkX0_countOf_1 rfl dX0_countOf_13 ?_
    refine at_iload_n (pc := 16) X 3 3 dX0_countOf_16 rfl rfl ?_
    obtain ⟨hc17, h⟩ := mm_chk h
    refine at_aald (pc := 17) X 8 3 (wf_0_0 X.wf ha0) (by decide) (by decide) rfl rfl hc17 dX0_countOf_17 ?_
    refine at_iload_n (pc := 18) X 1 1 dX0_countOf_18 rfl rfl ?_
    obtain ⟨q19, hq19, h⟩ := mm_bind h
    refine at_calli (n := 1) (pc := 19) X 2 [.int x1] [] (mX2_isOf (eL E) X.wf (wf_8 X.wf (wf_0_0 X.wf ha0) hc17) hq19) gX0_countOf_X2_isOf rfl ⟨rfl, rfl⟩ (by decide +kernel) ⟨by decide, by decide⟩ (by decide) rfl (wf_8 X.wf (wf_0_0 X.wf ha0) hc17) rfl rfl (Nat.le_of_ble_eq_true rfl) dX0_countOf_19 ?_
    have hj22 : mm_At E G 4 (mm_Qi E G q) q19.2 28 [(0, .ref a0), (1, .int x1), (2, .int (if q19.1 = 0 then x2 else x2 + 1)), (3, .int x3)] [] := by
      refine at_iinc (pc := 28) X 3 3 (x3 + 1) [(3, .int (x3 + 1)), (0, .ref a0), (1, .int x1), (2, .int (if q19.1 = 0 then x2 else x2 + 1))] dX0_countOf_28 rfl (ii_1 _) (by decide) rfl ?_
      refine at_goto (pc := 31) X 4 dX0_countOf_31 (by decide) ?_
      have h2 := mm_inr h hk; exact at_sub [1, 2, 3, 0] rfl h2
    refine at_if_eq (pc := 22) X 28 dX0_countOf_22 (by decide) (fun c22 => ?_) (fun c22 => ?_)
    · try simp only [if_pos c22] at hj22
      exact at_sub [0, 1, 2, 3] rfl hj22
    · try simp only [if_neg c22] at hj22
      refine at_iinc (pc := 25) X 2 2 (x2 + 1) [(2, .int (x2 + 1)), (0, .ref a0), (1, .int x1), (3, .int x3)] dX0_countOf_25 rfl (ii_1 _) (by decide) rfl ?_
      exact at_sub [1, 2, 0, 3] rfl hj22
set_option maxHeartbeats 4000000 in
set_option maxRecDepth 100000 in
theorem wX0_countOf_b0 {E : mm_E} {G : mm_G} (X : mm_Cx E G cX0_countOf 4 RX0 wsX0_countOf rmX0_countOf (some .int)) {a0 : Nat} {x1 : Int32} {σ : mm_M} {q : (Int32 × mm_M)} (ha0 : mm_Is G 0 a0) {o : (Int32 × mm_M) ⊕ (Int32 × Int32 × mm_M)} (h : fX0_countOf_b0 G a0 x1 σ = some o) (hk : mm_Ok q (PX0_countOf E G a0 x1 q) o) : mm_At E G 4 (mm_Qi E G q) σ 0 [(0, .ref a0), (1, .int x1)] [] := by
  unfold fX0_countOf_b0 at h
  refine at_iconst (pc := 0) X (0 : Int32) dX0_countOf_0 ic_0 ?_
  refine at_istore_n (pc := 1) X 2 [(2, .int (0 : Int32)), (0, .ref a0), (1, .int x1)] dX0_countOf_1 rfl (by decide) rfl ?_
  refine at_iconst (pc := 2) X (0 : Int32) dX0_countOf_2 ic_0 ?_
  refine at_istore_n (pc := 3) X 3 [(3, .int (0 : Int32)), (2, .int (0 : Int32)), (0, .ref a0), (1, .int x1)] dX0_countOf_3 rfl (by decide) rfl ?_
  have h2 := mm_inr h hk; exact at_sub [2, 3, 1, 0] rfl h2
set_option maxHeartbeats 4000000 in
set_option maxRecDepth 100000 in
theorem mX0_countOf (l : Launch) {G : mm_G} (hwf : mm_WF G) {a0 : Nat} {x1 : Int32} {σ : mm_M} {q : (Int32 × mm_M)} (ha0 : mm_Is G 0 a0) (h : fX0_countOf G a0 x1 σ = some q) : mm_Mi l yX0_countOf wsX0_countOf rmX0_countOf G [.ref a0, .int x1] σ q := by
  refine mm_ofi (cc := cX0_countOf) (nL := 4) (ret := some .int) (own := RX0) (lv0 := [(0, .ref a0), (1, .int x1)]) (by decide) rfl rfl (Nat.le_of_ble_eq_true rfl) rfl hwf (fun E hE X => ?_)
  obtain ⟨o, h0, hk⟩ := mm_run_ok (P := PX0_countOf E G a0 x1 q) h (fun s o hs hk => by exact wX0_countOf_b4 X ha0 hs hk)
  exact wX0_countOf_b0 X ha0 h0 hk
set_option maxRecDepth 20000 in
theorem ggX0_act_X0_has : GoodIn wsX0_act wsX0_has := goodIn_r _ [8, 9, 77, 78, 79, 80, 81, 82] (by decide +kernel) (by decide +kernel)
set_option maxRecDepth 20000 in
theorem gX0_act_X0_has : GoodIn wsX0_act (wsV RX0 97 RX0 yX0_has wsX0_has) := goodIn_app (goodIn_of _ (by decide +kernel)) ggX0_act_X0_has
set_option maxRecDepth 20000 in
theorem ggX0_act_X0_goBy : GoodIn wsX0_act wsX0_goBy := goodIn_r _ [13, 9, 1, 14, 15, 16, 17, 18, 19, 20, 21, 7, 22, 23, 24, 25, 26, 27, 28, 29, 30, 31, 32, 33, 34, 35, 36, 37, 38, 39, 40, 41, 42, 43, 44, 45, 46, 47, 48, 49, 50, 51, 52, 53, 54, 55, 56, 57, 58, 59, 60, 61, 62, 63, 64, 65, 66, 67, 68, 69, 70, 71, 72, 73, 74, 75, 77, 78, 79, 80, 81, 82, 83, 84, 85, 86, 87, 88] (by decide +kernel) (by decide +kernel)
set_option maxRecDepth 20000 in
theorem gX0_act_X0_goBy : GoodIn wsX0_act (wsV RX0 91 RX0 yX0_goBy wsX0_goBy) := goodIn_app (goodIn_of _ (by decide +kernel)) ggX0_act_X0_goBy
set_option maxRecDepth 20000 in
theorem ggX0_act_J6_bitCount_0f7a4 : GoodIn wsX0_act wsJ6_bitCount_0f7a4 := goodIn_r _ [38, 39, 40, 41] (by decide +kernel) (by decide +kernel)
set_option maxRecDepth 20000 in
theorem gX0_act_J6_bitCount_0f7a4 : GoodIn wsX0_act (va_wsS RX0 73 yJ6_bitCount_0f7a4 wsJ6_bitCount_0f7a4) := goodIn_app (goodIn_of _ (by decide +kernel)) ggX0_act_J6_bitCount_0f7a4
set_option maxRecDepth 20000 in
theorem ggX0_act_X2_rest : GoodIn wsX0_act wsX2_rest := goodIn_r _ [54, 46, 29, 83, 84, 85, 86, 87, 88] (by decide +kernel) (by decide +kernel)
set_option maxRecDepth 20000 in
theorem gX0_act_X2_rest : GoodIn wsX0_act (wsV RX0 59 RX2 yX2_rest wsX2_rest) := goodIn_app (goodIn_of _ (by decide +kernel)) ggX0_act_X2_rest
theorem dX0_act_0 : decode cX0_act 0 = .ok (.iload_n 1, 1) := by decide +kernel
theorem dX0_act_1 : decode cX0_act 1 = .ok (.bipush 100, 2) := by decide +kernel
theorem dX0_act_3 : decode cX0_act 3 = .ok (.idiv, 1) := by decide +kernel
theorem dX0_act_4 : decode cX0_act 4 = .ok (.istore_n 2, 1) := by decide +kernel
theorem dX0_act_5 : decode cX0_act 5 = .ok (.iload_n 1, 1) := by decide +kernel
theorem dX0_act_6 : decode cX0_act 6 = .ok (.bipush 10, 2) := by decide +kernel
theorem dX0_act_8 : decode cX0_act 8 = .ok (.idiv, 1) := by decide +kernel
theorem dX0_act_9 : decode cX0_act 9 = .ok (.bipush 10, 2) := by decide +kernel
theorem dX0_act_11 : decode cX0_act 11 = .ok (.irem, 1) := by decide +kernel
theorem dX0_act_12 : decode cX0_act 12 = .ok (.istore_n 3, 1) := by decide +kernel
theorem dX0_act_13 : decode cX0_act 13 = .ok (.iload_n 1, 1) := by decide +kernel
theorem dX0_act_14 : decode cX0_act 14 = .ok (.bipush 10, 2) := by decide +kernel
theorem dX0_act_16 : decode cX0_act 16 = .ok (.irem, 1) := by decide +kernel
theorem dX0_act_17 : decode cX0_act 17 = .ok (.istore 4, 2) := by decide +kernel
theorem dX0_act_19 : decode cX0_act 19 = .ok (.aload_n 0, 1) := by decide +kernel
theorem dX0_act_20 : decode cX0_act 20 = .ok (.iload_n 3, 1) := by decide +kernel
theorem dX0_act_21 : decode cX0_act 21 = .ok (.invokevirtual 97, 3) := by decide +kernel
theorem dX0_act_24 : decode cX0_act 24 = .ok (.ifCond .ne 5, 3) := by decide +kernel
theorem dX0_act_27 : decode cX0_act 27 = .ok (.iconst 0, 1) := by decide +kernel
theorem dX0_act_28 : decode cX0_act 28 = .ok (.ireturn, 1) := by decide +kernel
theorem dX0_act_29 : decode cX0_act 29 = .ok (.aload_n 0, 1) := by decide +kernel
theorem dX0_act_30 : decode cX0_act 30 = .ok (.getfield 11, 3) := by decide +kernel
theorem dX0_act_33 : decode cX0_act 33 = .ok (.iload_n 3, 1) := by decide +kernel
theorem dX0_act_34 : decode cX0_act 34 = .ok (.aaload, 1) := by decide +kernel
theorem dX0_act_35 : decode cX0_act 35 = .ok (.astore 5, 2) := by decide +kernel
theorem dX0_act_37 : decode cX0_act 37 = .ok (.aload 5, 2) := by decide +kernel
theorem dX0_act_39 : decode cX0_act 39 = .ok (.getfield 56, 3) := by decide +kernel
theorem dX0_act_42 : decode cX0_act 42 = .ok (.istore 6, 2) := by decide +kernel
theorem dX0_act_44 : decode cX0_act 44 = .ok (.aload 5, 2) := by decide +kernel
theorem dX0_act_46 : decode cX0_act 46 = .ok (.getfield 50, 3) := by decide +kernel
theorem dX0_act_49 : decode cX0_act 49 = .ok (.istore 7, 2) := by decide +kernel
theorem dX0_act_51 : decode cX0_act 51 = .ok (.iload_n 2, 1) := by decide +kernel
theorem dX0_act_52 : decode cX0_act 52 = .ok (.tableswitch 81 1 4 #[32, 41, 57, 71], 32) := by decide +kernel
theorem dX0_act_84 : decode cX0_act 84 = .ok (.aload_n 0, 1) := by decide +kernel
theorem dX0_act_85 : decode cX0_act 85 = .ok (.iconst 0, 1) := by decide +kernel
theorem dX0_act_86 : decode cX0_act 86 = .ok (.invokevirtual 91, 3) := by decide +kernel
theorem dX0_act_89 : decode cX0_act 89 = .ok (.invokestatic 73, 3) := by decide +kernel
theorem dX0_act_92 : decode cX0_act 92 = .ok (.ireturn, 1) := by decide +kernel
theorem dX0_act_93 : decode cX0_act 93 = .ok (.aload 5, 2) := by decide +kernel
theorem dX0_act_95 : decode cX0_act 95 = .ok (.iload 6, 2) := by decide +kernel
theorem dX0_act_97 : decode cX0_act 97 = .ok (.iload 4, 2) := by decide +kernel
theorem dX0_act_99 : decode cX0_act 99 = .ok (.iadd, 1) := by decide +kernel
theorem dX0_act_100 : decode cX0_act 100 = .ok (.putfield 56, 3) := by decide +kernel
theorem dX0_act_103 : decode cX0_act 103 = .ok (.aload 5, 2) := by decide +kernel
theorem dX0_act_105 : decode cX0_act 105 = .ok (.getfield 56, 3) := by decide +kernel
theorem dX0_act_108 : decode cX0_act 108 = .ok (.ireturn, 1) := by decide +kernel
theorem dX0_act_109 : decode cX0_act 109 = .ok (.aload 5, 2) := by decide +kernel
theorem dX0_act_111 : decode cX0_act 111 = .ok (.iconst 0, 1) := by decide +kernel
theorem dX0_act_112 : decode cX0_act 112 = .ok (.putfield 56, 3) := by decide +kernel
theorem dX0_act_115 : decode cX0_act 115 = .ok (.aload 5, 2) := by decide +kernel
theorem dX0_act_117 : decode cX0_act 117 = .ok (.invokevirtual 59, 3) := by decide +kernel
theorem dX0_act_120 : decode cX0_act 120 = .ok (.iload 6, 2) := by decide +kernel
theorem dX0_act_122 : decode cX0_act 122 = .ok (.ireturn, 1) := by decide +kernel
theorem dX0_act_123 : decode cX0_act 123 = .ok (.aload 5, 2) := by decide +kernel
theorem dX0_act_125 : decode cX0_act 125 = .ok (.iload 4, 2) := by decide +kernel
theorem dX0_act_127 : decode cX0_act 127 = .ok (.putfield 50, 3) := by decide +kernel
theorem dX0_act_130 : decode cX0_act 130 = .ok (.iload 7, 2) := by decide +kernel
theorem dX0_act_132 : decode cX0_act 132 = .ok (.ireturn, 1) := by decide +kernel
theorem dX0_act_133 : decode cX0_act 133 = .ok (.iconst 0, 1) := by decide +kernel
theorem dX0_act_134 : decode cX0_act 134 = .ok (.ireturn, 1) := by decide +kernel
/-! X0_act (I)I -/
abbrev rmX0_act : Room := { frames := 5, cells := 0, slots := 0, locals := 105 }
theorem lkX0_act_0 : Cond.fieldLink RX0 11 (TX0 0).1 (TX0 0).2.1 (TX0 0).2.2.1 ∈ wsX0_act := by decide +kernel
theorem lkX0_act_1 : Cond.fieldLink RX0 56 (TX2 3).1 (TX2 3).2.1 (TX2 3).2.2.1 ∈ wsX0_act := by decide +kernel
theorem lkX0_act_2 : Cond.fieldLink RX0 50 (TX2 1).1 (TX2 1).2.1 (TX2 1).2.2.1 ∈ wsX0_act := by decide +kernel
theorem inX0_act_X0 : ∀ w ∈ u_ws RX0 TX0 6, w ∈ wsX0_act := by decide +kernel
theorem inX0_act_X2 : ∀ w ∈ u_ws RX2 TX2 6, w ∈ wsX0_act := by decide +kernel
noncomputable def fX0_act (G : mm_G) (a0 : Nat) (x1 : Int32) (σ : mm_M) : Option (Int32 × mm_M) := if (100 : Int32) = 0 then none else (if (10 : Int32) = 0 then none else (if (10 : Int32) = 0 then none else (if (10 : Int32) = 0 then none else ((fX0_has G a0 ((x1 / (10 : Int32)) - (x1 / (10 : Int32)) / (10 : Int32) * (10 : Int32)) σ).bind (fun q21 => if q21.1 = 0 then (some ((0 : Int32), q21.2)) else (if ((x1 / (10 : Int32)) - (x1 / (10 : Int32)) / (10 : Int32) * (10 : Int32)) < 0 ∨ mm_N G (mm_R G a0 0) ≤ ((x1 / (10 : Int32)) - (x1 / (10 : Int32)) / (10 : Int32) * (10 : Int32)).toNatClampNeg then none else (if (x1 / (100 : Int32)) = 1 then ((fX0_goBy G a0 (0 : Int32) q21.2).bind (fun q86 => (fJ6_bitCount_0f7a4 G q86.1 q86.2).bind (fun q89 => some (q89.1, q89.2)))) else (if (x1 / (100 : Int32)) = 2 then (some ((mm_up q21.2 (mm_R G (mm_R G a0 0) ((x1 / (10 : Int32)) - (x1 / (10 : Int32)) / (10 : Int32) * (10 : Int32)).toNatClampNeg) 3 ((q21.2.1 (mm_R G (mm_R G a0 0) ((x1 / (10 : Int32)) - (x1 / (10 : Int32)) / (10 : Int32) * (10 : Int32)).toNatClampNeg) 3) + (x1 - x1 / (10 : Int32) * (10 : Int32)))).1 (mm_R G (mm_R G a0 0) ((x1 / (10 : Int32)) - (x1 / (10 : Int32)) / (10 : Int32) * (10 : Int32)).toNatClampNeg) 3, mm_up q21.2 (mm_R G (mm_R G a0 0) ((x1 / (10 : Int32)) - (x1 / (10 : Int32)) / (10 : Int32) * (10 : Int32)).toNatClampNeg) 3 ((q21.2.1 (mm_R G (mm_R G a0 0) ((x1 / (10 : Int32)) - (x1 / (10 : Int32)) / (10 : Int32) * (10 : Int32)).toNatClampNeg) 3) + (x1 - x1 / (10 : Int32) * (10 : Int32))))) else (if (x1 / (100 : Int32)) = 3 then ((fX2_rest G (mm_R G (mm_R G a0 0) ((x1 / (10 : Int32)) - (x1 / (10 : Int32)) / (10 : Int32) * (10 : Int32)).toNatClampNeg) (mm_up q21.2 (mm_R G (mm_R G a0 0) ((x1 / (10 : Int32)) - (x1 / (10 : Int32)) / (10 : Int32) * (10 : Int32)).toNatClampNeg) 3 (0 : Int32))).bind (fun q117 => some (q21.2.1 (mm_R G (mm_R G a0 0) ((x1 / (10 : Int32)) - (x1 / (10 : Int32)) / (10 : Int32) * (10 : Int32)).toNatClampNeg) 3, q117))) else (if (x1 / (100 : Int32)) = 4 then (some (q21.2.1 (mm_R G (mm_R G a0 0) ((x1 / (10 : Int32)) - (x1 / (10 : Int32)) / (10 : Int32) * (10 : Int32)).toNatClampNeg) 1, mm_up q21.2 (mm_R G (mm_R G a0 0) ((x1 / (10 : Int32)) - (x1 / (10 : Int32)) / (10 : Int32) * (10 : Int32)).toNatClampNeg) 1 (x1 - x1 / (10 : Int32) * (10 : Int32)))) else (some ((0 : Int32), q21.2))))))))))))
set_option maxHeartbeats 4000000 in
set_option maxRecDepth 100000 in
theorem wX0_act_b0 {E : mm_E} {G : mm_G} (X : mm_Cx E G cX0_act 8 RX0 wsX0_act rmX0_act (some .int)) {a0 : Nat} {x1 : Int32} {σ : mm_M} {q : (Int32 × mm_M)} (ha0 : mm_Is G 0 a0) (h : fX0_act G a0 x1 σ = some q) : mm_At E G 8 (mm_Qi E G q) σ 0 [(0, .ref a0), (1, .int x1)] [] := by
  unfold fX0_act at h
  refine at_iload_n (pc := 0) X 1 1 dX0_act_0 rfl rfl ?_
  refine at_bipush (pc := 1) X (100 : Int32) dX0_act_1 ib_100 ?_
  obtain ⟨hc3, h⟩ := mm_chk h
  refine at_idiv (pc := 3) X hc3 dX0_act_3 ?_
  refine at_istore_n (pc := 4) X 2 [(2, .int (x1 / (100 : Int32))), (0, .ref a0), (1, .int x1)] dX0_act_4 rfl (by decide) rfl ?_
  refine at_iload_n (pc := 5) X 1 2 dX0_act_5 rfl rfl ?_
  refine at_bipush (pc := 6) X (10 : Int32) dX0_act_6 ib_10 ?_
  obtain ⟨hc8, h⟩ := mm_chk h
  refine at_idiv (pc := 8) X hc8 dX0_act_8 ?_
  refine at_bipush (pc := 9) X (10 : Int32) dX0_act_9 ib_10 ?_
  obtain ⟨hc11, h⟩ := mm_chk h
  refine at_irem (pc := 11) X hc11 dX0_act_11 ?_
  refine at_istore_n (pc := 12) X 3 [(3, .int ((x1 / (10 : Int32)) - (x1 / (10 : Int32)) / (10 : Int32) * (10 : Int32))), (2, .int (x1 / (100 : Int32))), (0, .ref a0), (1, .int x1)] dX0_act_12 rfl (by decide) rfl ?_
  refine at_iload_n (pc := 13) X 1 3 dX0_act_13 rfl rfl ?_
  refine at_bipush (pc := 14) X (10 : Int32) dX0_act_14 ib_10 ?_
  obtain ⟨hc16, h⟩ := mm_chk h
  refine at_irem (pc := 16) X hc16 dX0_act_16 ?_
  refine at_istore (pc := 17) X 4 [(4, .int (x1 - x1 / (10 : Int32) * (10 : Int32))), (3, .int ((x1 / (10 : Int32)) - (x1 / (10 : Int32)) / (10 : Int32) * (10 : Int32))), (2, .int (x1 / (100 : Int32))), (0, .ref a0), (1, .int x1)] dX0_act_17 (by decide) rfl ?_
  refine at_aload_n (pc := 19) X 0 3 dX0_act_19 rfl rfl ?_
  refine at_iload_n (pc := 20) X 3 1 dX0_act_20 rfl rfl ?_
  obtain ⟨q21, hq21, h⟩ := mm_bind h
  refine at_calli (n := 1) (pc := 21) X 0 [.int ((x1 / (10 : Int32)) - (x1 / (10 : Int32)) / (10 : Int32) * (10 : Int32))] [] (mX0_has (eL E) X.wf ha0 hq21) gX0_act_X0_has rfl ⟨rfl, rfl⟩ (by decide +kernel) ⟨by decide, by decide⟩ (by decide) rfl ha0 rfl rfl (Nat.le_of_ble_eq_true rfl) dX0_act_21 ?_
  refine at_if_ne (pc := 24) X 29 dX0_act_24 (by decide) (fun c24 => ?_) (fun c24 => ?_)
  · have h := mm_neg c24 h
    refine at_aload_n (pc := 29) X 0 3 dX0_act_29 rfl rfl ?_
    refine at_get (pc := 30) X 0 0 (.ref (mm_R G a0 0)) ha0 (by decide) rfl inX0_act_X0 (by decide) lkX0_act_0 rfl dX0_act_30 ?_
    refine at_iload_n (pc := 33) X 3 1 dX0_act_33 rfl rfl ?_
    obtain ⟨hc34, h⟩ := mm_chk h
    refine at_aald (pc := 34) X 8 3 (wf_0_0 X.wf ha0) (by decide) (by decide) rfl rfl hc34 dX0_act_34 ?_
    refine at_astore (pc := 35) X 5 [(5, .ref (mm_R G (mm_R G a0 0) ((x1 / (10 : Int32)) - (x1 / (10 : Int32)) / (10 : Int32) * (10 : Int32)).toNatClampNeg)), (4, .int (x1 - x1 / (10 : Int32) * (10 : Int32))), (3, .int ((x1 / (10 : Int32)) - (x1 / (10 : Int32)) / (10 : Int32) * (10 : Int32))), (2, .int (x1 / (100 : Int32))), (0, .ref a0), (1, .int x1)] dX0_act_35 (by decide) rfl ?_
    refine at_aload (pc := 37) X 5 0 dX0_act_37 rfl ?_
    refine at_get (pc := 39) X 2 3 (.int (q21.2.1 (mm_R G (mm_R G a0 0) ((x1 / (10 : Int32)) - (x1 / (10 : Int32)) / (10 : Int32) * (10 : Int32)).toNatClampNeg) 3)) (wf_8 X.wf (wf_0_0 X.wf ha0) hc34) (by decide) rfl inX0_act_X2 (by decide) lkX0_act_1 rfl dX0_act_39 ?_
    refine at_istore (pc := 42) X 6 [(6, .int (q21.2.1 (mm_R G (mm_R G a0 0) ((x1 / (10 : Int32)) - (x1 / (10 : Int32)) / (10 : Int32) * (10 : Int32)).toNatClampNeg) 3)), (5, .ref (mm_R G (mm_R G a0 0) ((x1 / (10 : Int32)) - (x1 / (10 : Int32)) / (10 : Int32) * (10 : Int32)).toNatClampNeg)), (4, .int (x1 - x1 / (10 : Int32) * (10 : Int32))), (3, .int ((x1 / (10 : Int32)) - (x1 / (10 : Int32)) / (10 : Int32) * (10 : Int32))), (2, .int (x1 / (100 : Int32))), (0, .ref a0), (1, .int x1)] dX0_act_42 (by decide) rfl ?_
    refine at_aload (pc := 44) X 5 1 dX0_act_44 rfl ?_
    refine at_get (pc := 46) X 2 1 (.int (q21.2.1 (mm_R G (mm_R G a0 0) ((x1 / (10 : Int32)) - (x1 / (10 : Int32)) / (10 : Int32) * (10 : Int32)).toNatClampNeg) 1)) (wf_8 X.wf (wf_0_0 X.wf ha0) hc34) (by decide) rfl inX0_act_X2 (by decide) lkX0_act_2 rfl dX0_act_46 ?_
    refine at_istore (pc := 49) X 7 [(7, .int (q21.2.1 (mm_R G (mm_R G a0 0) ((x1 / (10 : Int32)) - (x1 / (10 : Int32)) / (10 : Int32) * (10 : Int32)).toNatClampNeg) 1)), (6, .int (q21.2.1 (mm_R G (mm_R G a0 0) ((x1 / (10 : Int32)) - (x1 / (10 : Int32)) / (10 : Int32) * (10 : Int32)).toNatClampNeg) 3)), (5, .ref (mm_R G (mm_R G a0 0) ((x1 / (10 : Int32)) - (x1 / (10 : Int32)) / (10 : Int32) * (10 : Int32)).toNatClampNeg)), (4, .int (x1 - x1 / (10 : Int32) * (10 : Int32))), (3, .int ((x1 / (10 : Int32)) - (x1 / (10 : Int32)) / (10 : Int32) * (10 : Int32))), (2, .int (x1 / (100 : Int32))), (0, .ref a0), (1, .int x1)] dX0_act_49 (by decide) rfl ?_
    refine at_iload_n (pc := 51) X 2 5 dX0_act_51 rfl rfl ?_
    by_cases c52_0 : (x1 / (100 : Int32)) = 1
    · have h := mm_pos c52_0 h
      refine at_swIn (pc := 52) X 84 dX0_act_52 (by rw [c52_0]; decide) (by rw [c52_0]; decide) (by rw [c52_0]; rfl) (by decide) ?_
      refine at_aload_n (pc := 84) X 0 6 dX0_act_84 rfl rfl ?_
      refine at_iconst (pc := 85) X (0 : Int32) dX0_act_85 ic_0 ?_
      obtain ⟨q86, hq86, h⟩ := mm_bind h
      refine at_calli (n := 1) (pc := 86) X 0 [.int (0 : Int32)] [] (mX0_goBy (eL E) X.wf ha0 hq86) gX0_act_X0_goBy rfl ⟨rfl, rfl⟩ (by decide +kernel) ⟨by decide, by decide⟩ (by decide) rfl ha0 rfl rfl (Nat.le_of_ble_eq_true rfl) dX0_act_86 ?_
      obtain ⟨q89, hq89, h⟩ := mm_bind h
      refine at_scalli (n := 1) (pc := 89) X [.int q86.1] [] (mJ6_bitCount_0f7a4 (eL E) X.wf hq89) gX0_act_J6_bitCount_0f7a4 rfl ⟨rfl, rfl⟩ (by decide +kernel) ⟨by decide, by decide⟩ rfl rfl (Nat.le_of_ble_eq_true rfl) dX0_act_89 ?_
      exact at_iret (pc := 92) X (Option.some.inj h) dX0_act_92
    · have h := mm_neg c52_0 h
      by_cases c52_1 : (x1 / (100 : Int32)) = 2
      · have h := mm_pos c52_1 h
        refine at_swIn (pc := 52) X 93 dX0_act_52 (by rw [c52_1]; decide) (by rw [c52_1]; decide) (by rw [c52_1]; rfl) (by decide) ?_
        refine at_aload (pc := 93) X 5 2 dX0_act_93 rfl ?_
        refine at_iload (pc := 95) X 6 1 dX0_act_95 rfl ?_
        refine at_iload (pc := 97) X 4 3 dX0_act_97 rfl ?_
        refine at_iadd (pc := 99) X dX0_act_99 ?_
        refine at_put (pc := 100) X 2 3 (wf_8 X.wf (wf_0_0 X.wf ha0) hc34) (by decide) rfl inX0_act_X2 tyX2 tyX2_ok nmX2 (by decide) lkX0_act_1 rfl (ty := .int) rfl rfl rfl (Nat.le_of_ble_eq_true rfl) (ms_2_3 G _ _ _) mm_up_ne dX0_act_100 ?_
        refine at_aload (pc := 103) X 5 2 dX0_act_103 rfl ?_
        refine at_get (pc := 105) X 2 3 (.int ((mm_up q21.2 (mm_R G (mm_R G a0 0) ((x1 / (10 : Int32)) - (x1 / (10 : Int32)) / (10 : Int32) * (10 : Int32)).toNatClampNeg) 3 ((q21.2.1 (mm_R G (mm_R G a0 0) ((x1 / (10 : Int32)) - (x1 / (10 : Int32)) / (10 : Int32) * (10 : Int32)).toNatClampNeg) 3) + (x1 - x1 / (10 : Int32) * (10 : Int32)))).1 (mm_R G (mm_R G a0 0) ((x1 / (10 : Int32)) - (x1 / (10 : Int32)) / (10 : Int32) * (10 : Int32)).toNatClampNeg) 3)) (wf_8 X.wf (wf_0_0 X.wf ha0) hc34) (by decide) rfl inX0_act_X2 (by decide) lkX0_act_1 rfl dX0_act_105 ?_
        exact at_iret (pc := 108) X (Option.some.inj h) dX0_act_108
      · have h := mm_neg c52_1 h
        by_cases c52_2 : (x1 / (100 : Int32)) = 3
        · have h := mm_pos c52_2 h
          refine at_swIn (pc := 52) X 109 dX0_act_52 (by rw [c52_2]; decide) (by rw [c52_2]; decide) (by rw [c52_2]; rfl) (by decide) ?_
          refine at_aload (pc := 109) X 5 2 dX0_act_109 rfl ?_
          refine at_iconst (pc := 111) X (0 : Int32) dX0_act_111 ic_0 ?_
          refine at_put (pc := 112) X 2 3 (wf_8 X.wf (wf_0_0 X.wf ha0) hc34) (by decide) rfl inX0_act_X2 tyX2 tyX2_ok nmX2 (by decide) lkX0_act_1 rfl (ty := .int) rfl rfl rfl (Nat.le_of_ble_eq_true rfl) (ms_2_3 G _ _ _) mm_up_ne dX0_act_112 ?_
          refine at_aload (pc := 115) X 5 2 dX0_act_115 rfl ?_
          obtain ⟨q117, hq117, h⟩ := mm_bind h
          refine at_callv (n := 0) (pc := 117) X 2 [] [] (mX2_rest (eL E) X.wf (wf_8 X.wf (wf_0_0 X.wf ha0) hc34) hq117) gX0_act_X2_rest rfl ⟨rfl, rfl⟩ (by decide +kernel) ⟨by decide, by decide⟩ (by decide) rfl (wf_8 X.wf (wf_0_0 X.wf ha0) hc34) rfl rfl (Nat.le_of_ble_eq_true rfl) dX0_act_117 ?_
          refine at_iload (pc := 120) X 6 1 dX0_act_120 rfl ?_
          exact at_iret (pc := 122) X (Option.some.inj h) dX0_act_122
        · have h := mm_neg c52_2 h
          by_cases c52_3 : (x1 / (100 : Int32)) = 4
          · have h := mm_pos c52_3 h
            refine at_swIn (pc := 52) X 123 dX0_act_52 (by rw [c52_3]; decide) (by rw [c52_3]; decide) (by rw [c52_3]; rfl) (by decide) ?_
            refine at_aload (pc := 123) X 5 2 dX0_act_123 rfl ?_
            refine at_iload (pc := 125) X 4 3 dX0_act_125 rfl ?_
            refine at_put (pc := 127) X 2 1 (wf_8 X.wf (wf_0_0 X.wf ha0) hc34) (by decide) rfl inX0_act_X2 tyX2 tyX2_ok nmX2 (by decide) lkX0_act_2 rfl (ty := .int) rfl rfl rfl (Nat.le_of_ble_eq_true rfl) (ms_2_1 G _ _ _) mm_up_ne dX0_act_127 ?_
            refine at_iload (pc := 130) X 7 0 dX0_act_130 rfl ?_
            exact at_iret (pc := 132) X (Option.some.inj h) dX0_act_132
          · have h := mm_neg c52_3 h
            refine at_swOut (pc := 52) X 133 dX0_act_52 (sw_1_4 c52_0 c52_1 c52_2 c52_3) (by decide) ?_
            refine at_iconst (pc := 133) X (0 : Int32) dX0_act_133 ic_0 ?_
            exact at_iret (pc := 134) X (Option.some.inj h) dX0_act_134
  · have h := mm_pos c24 h
    refine at_iconst (pc := 27) X (0 : Int32) dX0_act_27 ic_0 ?_
    exact at_iret (pc := 28) X (Option.some.inj h) dX0_act_28
set_option maxHeartbeats 4000000 in
set_option maxRecDepth 100000 in
theorem mX0_act (l : Launch) {G : mm_G} (hwf : mm_WF G) {a0 : Nat} {x1 : Int32} {σ : mm_M} {q : (Int32 × mm_M)} (ha0 : mm_Is G 0 a0) (h : fX0_act G a0 x1 σ = some q) : mm_Mi l yX0_act wsX0_act rmX0_act G [.ref a0, .int x1] σ q := by
  refine mm_ofi (cc := cX0_act) (nL := 8) (ret := some .int) (own := RX0) (lv0 := [(0, .ref a0), (1, .int x1)]) (by decide) rfl rfl (Nat.le_of_ble_eq_true rfl) rfl hwf (fun E hE X => ?_)
  exact wX0_act_b0 X ha0 h
theorem dX1_hasRoomFor_0 : decode cX1_hasRoomFor 0 = .ok (.aload_n 0, 1) := by decide +kernel
theorem dX1_hasRoomFor_1 : decode cX1_hasRoomFor 1 = .ok (.getfield 15, 3) := by decide +kernel
theorem dX1_hasRoomFor_4 : decode cX1_hasRoomFor 4 = .ok (.iload_n 1, 1) := by decide +kernel
theorem dX1_hasRoomFor_5 : decode cX1_hasRoomFor 5 = .ok (.iadd, 1) := by decide +kernel
theorem dX1_hasRoomFor_6 : decode cX1_hasRoomFor 6 = .ok (.bipush 40, 2) := by decide +kernel
theorem dX1_hasRoomFor_8 : decode cX1_hasRoomFor 8 = .ok (.if_icmp .gt 7, 3) := by decide +kernel
theorem dX1_hasRoomFor_11 : decode cX1_hasRoomFor 11 = .ok (.iconst 1, 1) := by decide +kernel
theorem dX1_hasRoomFor_12 : decode cX1_hasRoomFor 12 = .ok (.goto 4, 3) := by decide +kernel
theorem dX1_hasRoomFor_15 : decode cX1_hasRoomFor 15 = .ok (.iconst 0, 1) := by decide +kernel
theorem dX1_hasRoomFor_16 : decode cX1_hasRoomFor 16 = .ok (.ireturn, 1) := by decide +kernel
/-! X1_hasRoomFor (I)Z -/
abbrev rmX1_hasRoomFor : Room := { frames := 0, cells := 0, slots := 0, locals := 0 }
theorem lkX1_hasRoomFor_0 : Cond.fieldLink RX1 15 (TX1 1).1 (TX1 1).2.1 (TX1 1).2.2.1 ∈ wsX1_hasRoomFor := by decide +kernel
theorem inX1_hasRoomFor_X1 : ∀ w ∈ u_ws RX1 TX1 2, w ∈ wsX1_hasRoomFor := by decide +kernel
noncomputable def fX1_hasRoomFor (G : mm_G) (a0 : Nat) (x1 : Int32) (σ : mm_M) : Option (Int32 × mm_M) := if ¬ ((if (40 : Int32) < ((σ.1 a0 1) + x1) then (0 : Int32) else (1 : Int32)) = 0 ∨ (if (40 : Int32) < ((σ.1 a0 1) + x1) then (0 : Int32) else (1 : Int32)) = 1) then none else (some (if (40 : Int32) < ((σ.1 a0 1) + x1) then (0 : Int32) else (1 : Int32), σ))
set_option maxHeartbeats 4000000 in
set_option maxRecDepth 100000 in
theorem wX1_hasRoomFor_b0 {E : mm_E} {G : mm_G} (X : mm_Cx E G cX1_hasRoomFor 2 RX1 wsX1_hasRoomFor rmX1_hasRoomFor (some .boolean)) {a0 : Nat} {x1 : Int32} {σ : mm_M} {q : (Int32 × mm_M)} (ha0 : mm_Is G 1 a0) (h : fX1_hasRoomFor G a0 x1 σ = some q) : mm_At E G 2 (mm_Qi E G q) σ 0 [(0, .ref a0), (1, .int x1)] [] := by
  unfold fX1_hasRoomFor at h
  refine at_aload_n (pc := 0) X 0 0 dX1_hasRoomFor_0 rfl rfl ?_
  refine at_get (pc := 1) X 1 1 (.int (σ.1 a0 1)) ha0 (by decide) rfl inX1_hasRoomFor_X1 (by decide) lkX1_hasRoomFor_0 rfl dX1_hasRoomFor_1 ?_
  refine at_iload_n (pc := 4) X 1 1 dX1_hasRoomFor_4 rfl rfl ?_
  refine at_iadd (pc := 5) X dX1_hasRoomFor_5 ?_
  refine at_bipush (pc := 6) X (40 : Int32) dX1_hasRoomFor_6 ib_40 ?_
  have hj8 : mm_At E G 2 (mm_Qi E G q) σ 16 [] [.int (if (40 : Int32) < ((σ.1 a0 1) + x1) then (0 : Int32) else (1 : Int32))] := by
    obtain ⟨hg16, h⟩ := mm_chk h
    exact at_zret (pc := 16) X (Classical.not_not.mp hg16) (Option.some.inj h) dX1_hasRoomFor_16
  refine at_icmp_gt (pc := 8) X 15 dX1_hasRoomFor_8 (by decide) (fun c8 => ?_) (fun c8 => ?_)
  · try simp only [if_pos c8] at hj8
    refine at_iconst (pc := 15) X (0 : Int32) dX1_hasRoomFor_15 ic_0 ?_
    exact at_sub [] rfl hj8
  · try simp only [if_neg c8] at hj8
    refine at_iconst (pc := 11) X (1 : Int32) dX1_hasRoomFor_11 ic_1 ?_
    refine at_goto (pc := 12) X 16 dX1_hasRoomFor_12 (by decide) ?_
    exact at_sub [] rfl hj8
set_option maxHeartbeats 4000000 in
set_option maxRecDepth 100000 in
theorem mX1_hasRoomFor (l : Launch) {G : mm_G} (hwf : mm_WF G) {a0 : Nat} {x1 : Int32} {σ : mm_M} {q : (Int32 × mm_M)} (ha0 : mm_Is G 1 a0) (h : fX1_hasRoomFor G a0 x1 σ = some q) : mm_Mi l yX1_hasRoomFor wsX1_hasRoomFor rmX1_hasRoomFor G [.ref a0, .int x1] σ q := by
  refine mm_ofi (cc := cX1_hasRoomFor) (nL := 2) (ret := some .boolean) (own := RX1) (lv0 := [(0, .ref a0), (1, .int x1)]) (by decide) rfl rfl (Nat.le_of_ble_eq_true rfl) rfl hwf (fun E hE X => ?_)
  exact wX1_hasRoomFor_b0 X ha0 h
theorem dX1_add_0 : decode cX1_add 0 = .ok (.aload_n 0, 1) := by decide +kernel
theorem dX1_add_1 : decode cX1_add 1 = .ok (.getfield 15, 3) := by decide +kernel
theorem dX1_add_4 : decode cX1_add 4 = .ok (.ifCond .lt 32, 3) := by decide +kernel
theorem dX1_add_7 : decode cX1_add 7 = .ok (.aload_n 0, 1) := by decide +kernel
theorem dX1_add_8 : decode cX1_add 8 = .ok (.getfield 15, 3) := by decide +kernel
theorem dX1_add_11 : decode cX1_add 11 = .ok (.bipush 40, 2) := by decide +kernel
theorem dX1_add_13 : decode cX1_add 13 = .ok (.if_icmp .ge 23, 3) := by decide +kernel
theorem dX1_add_16 : decode cX1_add 16 = .ok (.aload_n 0, 1) := by decide +kernel
theorem dX1_add_17 : decode cX1_add 17 = .ok (.getfield 9, 3) := by decide +kernel
theorem dX1_add_20 : decode cX1_add 20 = .ok (.aload_n 0, 1) := by decide +kernel
theorem dX1_add_21 : decode cX1_add 21 = .ok (.getfield 15, 3) := by decide +kernel
theorem dX1_add_24 : decode cX1_add 24 = .ok (.iload_n 1, 1) := by decide +kernel
theorem dX1_add_25 : decode cX1_add 25 = .ok (.iastore, 1) := by decide +kernel
theorem dX1_add_26 : decode cX1_add 26 = .ok (.aload_n 0, 1) := by decide +kernel
theorem dX1_add_27 : decode cX1_add 27 = .ok (.dup, 1) := by decide +kernel
theorem dX1_add_28 : decode cX1_add 28 = .ok (.getfield 15, 3) := by decide +kernel
theorem dX1_add_31 : decode cX1_add 31 = .ok (.iconst 1, 1) := by decide +kernel
theorem dX1_add_32 : decode cX1_add 32 = .ok (.iadd, 1) := by decide +kernel
theorem dX1_add_33 : decode cX1_add 33 = .ok (.putfield 15, 3) := by decide +kernel
theorem dX1_add_36 : decode cX1_add 36 = .ok (.return_, 1) := by decide +kernel
/-! X1_add (I)V -/
abbrev rmX1_add : Room := { frames := 0, cells := 0, slots := 0, locals := 0 }
theorem lkX1_add_0 : Cond.fieldLink RX1 15 (TX1 1).1 (TX1 1).2.1 (TX1 1).2.2.1 ∈ wsX1_add := by decide +kernel
theorem lkX1_add_1 : Cond.fieldLink RX1 9 (TX1 0).1 (TX1 0).2.1 (TX1 0).2.2.1 ∈ wsX1_add := by decide +kernel
theorem inX1_add_X1 : ∀ w ∈ u_ws RX1 TX1 2, w ∈ wsX1_add := by decide +kernel
noncomputable def fX1_add (G : mm_G) (a0 : Nat) (x1 : Int32) (σ : mm_M) : Option mm_M := if (σ.1 a0 1) < 0 then (some σ) else (if (σ.1 a0 1) < (40 : Int32) then (if (σ.1 a0 1) < 0 ∨ mm_N G (mm_R G a0 0) ≤ (σ.1 a0 1).toNatClampNeg then none else (some (mm_up (mm_up σ (mm_R G a0 0) (σ.1 a0 1).toNatClampNeg x1) a0 1 (((mm_up σ (mm_R G a0 0) (σ.1 a0 1).toNatClampNeg x1).1 a0 1) + (1 : Int32))))) else (some σ))
set_option maxHeartbeats 4000000 in
set_option maxRecDepth 100000 in
theorem wX1_add_b0 {E : mm_E} {G : mm_G} (X : mm_Cx E G cX1_add 2 RX1 wsX1_add rmX1_add (none)) {a0 : Nat} {x1 : Int32} {σ : mm_M} {q : mm_M} (ha0 : mm_Is G 1 a0) (h : fX1_add G a0 x1 σ = some q) : mm_At E G 2 (mm_Qv E G q) σ 0 [(0, .ref a0), (1, .int x1)] [] := by
  unfold fX1_add at h
  refine at_aload_n (pc := 0) X 0 0 dX1_add_0 rfl rfl ?_
  refine at_get (pc := 1) X 1 1 (.int (σ.1 a0 1)) ha0 (by decide) rfl inX1_add_X1 (by decide) lkX1_add_0 rfl dX1_add_1 ?_
  refine at_if_lt (pc := 4) X 36 dX1_add_4 (by decide) (fun c4 => ?_) (fun c4 => ?_)
  · have h := mm_pos c4 h
    exact at_vret (pc := 36) X (Option.some.inj h) dX1_add_36
  · have h := mm_neg c4 h
    refine at_aload_n (pc := 7) X 0 0 dX1_add_7 rfl rfl ?_
    refine at_get (pc := 8) X 1 1 (.int (σ.1 a0 1)) ha0 (by decide) rfl inX1_add_X1 (by decide) lkX1_add_0 rfl dX1_add_8 ?_
    refine at_bipush (pc := 11) X (40 : Int32) dX1_add_11 ib_40 ?_
    refine at_icmp_ge (pc := 13) X 36 dX1_add_13 (by decide) (fun c13 => ?_) (fun c13 => ?_)
    · have h := mm_neg c13 h
      exact at_vret (pc := 36) X (Option.some.inj h) dX1_add_36
    · have h := mm_pos c13 h
      refine at_aload_n (pc := 16) X 0 0 dX1_add_16 rfl rfl ?_
      refine at_get (pc := 17) X 1 0 (.ref (mm_R G a0 0)) ha0 (by decide) rfl inX1_add_X1 (by decide) lkX1_add_1 rfl dX1_add_17 ?_
      refine at_aload_n (pc := 20) X 0 0 dX1_add_20 rfl rfl ?_
      refine at_get (pc := 21) X 1 1 (.int (σ.1 a0 1)) ha0 (by decide) rfl inX1_add_X1 (by decide) lkX1_add_0 rfl dX1_add_21 ?_
      refine at_iload_n (pc := 24) X 1 1 dX1_add_24 rfl rfl ?_
      obtain ⟨hc25, h⟩ := mm_chk h
      refine at_iast (pc := 25) X (wf_1_0 X.wf ha0) hc25 dX1_add_25 ?_
      refine at_aload_n (pc := 26) X 0 0 dX1_add_26 rfl rfl ?_
      refine at_dup (pc := 27) X dX1_add_27 rfl ?_
      refine at_get (pc := 28) X 1 1 (.int ((mm_up σ (mm_R G a0 0) (σ.1 a0 1).toNatClampNeg x1).1 a0 1)) ha0 (by decide) rfl inX1_add_X1 (by decide) lkX1_add_0 rfl dX1_add_28 ?_
      refine at_iconst (pc := 31) X (1 : Int32) dX1_add_31 ic_1 ?_
      refine at_iadd (pc := 32) X dX1_add_32 ?_
      refine at_put (pc := 33) X 1 1 ha0 (by decide) rfl inX1_add_X1 tyX1 tyX1_ok nmX1 (by decide) lkX1_add_0 rfl (ty := .int) rfl rfl rfl (Nat.le_of_ble_eq_true rfl) (ms_1_1 G _ _ _) mm_up_ne dX1_add_33 ?_
      exact at_vret (pc := 36) X (Option.some.inj h) dX1_add_36
set_option maxHeartbeats 4000000 in
set_option maxRecDepth 100000 in
theorem mX1_add (l : Launch) {G : mm_G} (hwf : mm_WF G) {a0 : Nat} {x1 : Int32} {σ : mm_M} {q : mm_M} (ha0 : mm_Is G 1 a0) (h : fX1_add G a0 x1 σ = some q) : mm_Mv l yX1_add wsX1_add rmX1_add G [.ref a0, .int x1] σ q := by
  refine mm_ofv (cc := cX1_add) (nL := 2) (ret := none) (own := RX1) (lv0 := [(0, .ref a0), (1, .int x1)]) (by decide) rfl rfl (Nat.le_of_ble_eq_true rfl) rfl hwf (fun E hE X => ?_)
  exact wX1_add_b0 X ha0 h
theorem dX1_become_0 : decode cX1_become 0 = .ok (.aload_n 1, 1) := by decide +kernel
theorem dX1_become_1 : decode cX1_become 1 = .ok (.getfield 9, 3) := by decide +kernel
theorem dX1_become_4 : decode cX1_become 4 = .ok (.iconst 0, 1) := by decide +kernel
theorem dX1_become_5 : decode cX1_become 5 = .ok (.aload_n 0, 1) := by decide +kernel
theorem dX1_become_6 : decode cX1_become 6 = .ok (.getfield 9, 3) := by decide +kernel
theorem dX1_become_9 : decode cX1_become 9 = .ok (.iconst 0, 1) := by decide +kernel
theorem dX1_become_10 : decode cX1_become 10 = .ok (.bipush 40, 2) := by decide +kernel
theorem dX1_become_12 : decode cX1_become 12 = .ok (.invokestatic 19, 3) := by decide +kernel
theorem dX1_become_15 : decode cX1_become 15 = .ok (.aload_n 0, 1) := by decide +kernel
theorem dX1_become_16 : decode cX1_become 16 = .ok (.aload_n 1, 1) := by decide +kernel
theorem dX1_become_17 : decode cX1_become 17 = .ok (.getfield 15, 3) := by decide +kernel
theorem dX1_become_20 : decode cX1_become 20 = .ok (.putfield 15, 3) := by decide +kernel
theorem dX1_become_23 : decode cX1_become 23 = .ok (.return_, 1) := by decide +kernel
/-! X1_become (LAirTalkers$Deeds;)V -/
abbrev rmX1_become : Room := { frames := 1, cells := 0, slots := 0, locals := 40 }
theorem lkX1_become_0 : Cond.fieldLink RX1 9 (TX1 0).1 (TX1 0).2.1 (TX1 0).2.2.1 ∈ wsX1_become := by decide +kernel
theorem lkX1_become_1 : Cond.methodLink RX1 19 arraycopyName ∈ wsX1_become := by decide +kernel
theorem lkX1_become_2 : Cond.native arraycopyName ∈ wsX1_become := by decide +kernel
theorem lkX1_become_3 : Cond.static arraycopyName ∈ wsX1_become := by decide +kernel
theorem lkX1_become_4 : Cond.initialized "java/lang/System" ∈ wsX1_become := by decide +kernel
theorem lkX1_become_5 : Cond.fieldLink RX1 15 (TX1 1).1 (TX1 1).2.1 (TX1 1).2.2.1 ∈ wsX1_become := by decide +kernel
theorem inX1_become_X1 : ∀ w ∈ u_ws RX1 TX1 2, w ∈ wsX1_become := by decide +kernel
noncomputable def fX1_become (G : mm_G) (a0 : Nat) (a1 : Nat) (σ : mm_M) : Option mm_M := if (0 : Int32) < 0 ∨ (0 : Int32) < 0 ∨ (40 : Int32) < 0 ∨ mm_N G (mm_R G a1 0) < (0 : Int32).toNatClampNeg + (40 : Int32).toNatClampNeg ∨ mm_N G (mm_R G a0 0) < (0 : Int32).toNatClampNeg + (40 : Int32).toNatClampNeg then none else (some (mm_up (mm_cpy σ (mm_R G a1 0) (mm_R G a0 0) (0 : Int32).toNatClampNeg (0 : Int32).toNatClampNeg (40 : Int32).toNatClampNeg) a0 1 ((mm_cpy σ (mm_R G a1 0) (mm_R G a0 0) (0 : Int32).toNatClampNeg (0 : Int32).toNatClampNeg (40 : Int32).toNatClampNeg).1 a1 1)))
set_option maxHeartbeats 4000000 in
set_option maxRecDepth 100000 in
theorem wX1_become_b0 {E : mm_E} {G : mm_G} (X : mm_Cx E G cX1_become 2 RX1 wsX1_become rmX1_become (none)) {a0 : Nat} {a1 : Nat} {σ : mm_M} {q : mm_M} (ha0 : mm_Is G 1 a0) (ha1 : mm_Is G 1 a1) (h : fX1_become G a0 a1 σ = some q) : mm_At E G 2 (mm_Qv E G q) σ 0 [(0, .ref a0), (1, .ref a1)] [] := by
  unfold fX1_become at h
  refine at_aload_n (pc := 0) X 1 1 dX1_become_0 rfl rfl ?_
  refine at_get (pc := 1) X 1 0 (.ref (mm_R G a1 0)) ha1 (by decide) rfl inX1_become_X1 (by decide) lkX1_become_0 rfl dX1_become_1 ?_
  refine at_iconst (pc := 4) X (0 : Int32) dX1_become_4 ic_0 ?_
  refine at_aload_n (pc := 5) X 0 0 dX1_become_5 rfl rfl ?_
  refine at_get (pc := 6) X 1 0 (.ref (mm_R G a0 0)) ha0 (by decide) rfl inX1_become_X1 (by decide) lkX1_become_0 rfl dX1_become_6 ?_
  refine at_iconst (pc := 9) X (0 : Int32) dX1_become_9 ic_0 ?_
  refine at_bipush (pc := 10) X (40 : Int32) dX1_become_10 ib_40 ?_
  obtain ⟨hc12, h⟩ := mm_chk h
  refine at_acopy (pc := 12) X lkX1_become_1 lkX1_become_2 lkX1_become_3 lkX1_become_4 (by decide) (by decide +kernel) (wf_1_0 X.wf ha1) (wf_1_0 X.wf ha0) hc12 dX1_become_12 ?_
  refine at_aload_n (pc := 15) X 0 0 dX1_become_15 rfl rfl ?_
  refine at_aload_n (pc := 16) X 1 1 dX1_become_16 rfl rfl ?_
  refine at_get (pc := 17) X 1 1 (.int ((mm_cpy σ (mm_R G a1 0) (mm_R G a0 0) (0 : Int32).toNatClampNeg (0 : Int32).toNatClampNeg (40 : Int32).toNatClampNeg).1 a1 1)) ha1 (by decide) rfl inX1_become_X1 (by decide) lkX1_become_5 rfl dX1_become_17 ?_
  refine at_put (pc := 20) X 1 1 ha0 (by decide) rfl inX1_become_X1 tyX1 tyX1_ok nmX1 (by decide) lkX1_become_5 rfl (ty := .int) rfl rfl rfl (Nat.le_of_ble_eq_true rfl) (ms_1_1 G _ _ _) mm_up_ne dX1_become_20 ?_
  exact at_vret (pc := 23) X (Option.some.inj h) dX1_become_23
set_option maxHeartbeats 4000000 in
set_option maxRecDepth 100000 in
theorem mX1_become (l : Launch) {G : mm_G} (hwf : mm_WF G) {a0 : Nat} {a1 : Nat} {σ : mm_M} {q : mm_M} (ha0 : mm_Is G 1 a0) (ha1 : mm_Is G 1 a1) (h : fX1_become G a0 a1 σ = some q) : mm_Mv l yX1_become wsX1_become rmX1_become G [.ref a0, .ref a1] σ q := by
  refine mm_ofv (cc := cX1_become) (nL := 2) (ret := none) (own := RX1) (lv0 := [(0, .ref a0), (1, .ref a1)]) (by decide) rfl rfl (Nat.le_of_ble_eq_true rfl) rfl hwf (fun E hE X => ?_)
  exact wX1_become_b0 X ha0 ha1 h
set_option maxRecDepth 20000 in
theorem ggX2_holdsBack_X2_isOf : GoodIn wsX2_holdsBack wsX2_isOf := goodIn_r _ [7, 8, 9, 10, 11, 12, 13, 14] (by decide +kernel) (by decide +kernel)
set_option maxRecDepth 20000 in
theorem gX2_holdsBack_X2_isOf : GoodIn wsX2_holdsBack (wsV RX2 34 RX2 yX2_isOf wsX2_isOf) := goodIn_app (goodIn_of _ (by decide +kernel)) ggX2_holdsBack_X2_isOf
theorem dX2_holdsBack_0 : decode cX2_holdsBack 0 = .ok (.aload_n 0, 1) := by decide +kernel
theorem dX2_holdsBack_1 : decode cX2_holdsBack 1 = .ok (.getfield 21, 3) := by decide +kernel
theorem dX2_holdsBack_4 : decode cX2_holdsBack 4 = .ok (.ifCond .le 26, 3) := by decide +kernel
theorem dX2_holdsBack_7 : decode cX2_holdsBack 7 = .ok (.aload_n 0, 1) := by decide +kernel
theorem dX2_holdsBack_8 : decode cX2_holdsBack 8 = .ok (.getfield 24, 3) := by decide +kernel
theorem dX2_holdsBack_11 : decode cX2_holdsBack 11 = .ok (.ifCond .ne 19, 3) := by decide +kernel
theorem dX2_holdsBack_14 : decode cX2_holdsBack 14 = .ok (.iload_n 1, 1) := by decide +kernel
theorem dX2_holdsBack_15 : decode cX2_holdsBack 15 = .ok (.ifCond .eq 15, 3) := by decide +kernel
theorem dX2_holdsBack_18 : decode cX2_holdsBack 18 = .ok (.aload_n 0, 1) := by decide +kernel
theorem dX2_holdsBack_19 : decode cX2_holdsBack 19 = .ok (.iconst 2, 1) := by decide +kernel
theorem dX2_holdsBack_20 : decode cX2_holdsBack 20 = .ok (.invokevirtual 34, 3) := by decide +kernel
theorem dX2_holdsBack_23 : decode cX2_holdsBack 23 = .ok (.ifCond .eq 7, 3) := by decide +kernel
theorem dX2_holdsBack_26 : decode cX2_holdsBack 26 = .ok (.iconst 1, 1) := by decide +kernel
theorem dX2_holdsBack_27 : decode cX2_holdsBack 27 = .ok (.goto 4, 3) := by decide +kernel
theorem dX2_holdsBack_30 : decode cX2_holdsBack 30 = .ok (.iconst 0, 1) := by decide +kernel
theorem dX2_holdsBack_31 : decode cX2_holdsBack 31 = .ok (.ireturn, 1) := by decide +kernel
/-! X2_holdsBack (Z)Z -/
abbrev rmX2_holdsBack : Room := { frames := 1, cells := 0, slots := 0, locals := 21 }
theorem lkX2_holdsBack_0 : Cond.fieldLink RX2 21 (TX2 3).1 (TX2 3).2.1 (TX2 3).2.2.1 ∈ wsX2_holdsBack := by decide +kernel
theorem lkX2_holdsBack_1 : Cond.fieldLink RX2 24 (TX2 4).1 (TX2 4).2.1 (TX2 4).2.2.1 ∈ wsX2_holdsBack := by decide +kernel
theorem inX2_holdsBack_X2 : ∀ w ∈ u_ws RX2 TX2 6, w ∈ wsX2_holdsBack := by decide +kernel
noncomputable def fX2_holdsBack (G : mm_G) (a0 : Nat) (x1 : Int32) (σ : mm_M) : Option (Int32 × mm_M) := if 0 < (σ.1 a0 3) then (if (σ.1 a0 4) = 0 then (if x1 = 0 then (some ((0 : Int32), σ)) else ((fX2_isOf G a0 (2 : Int32) σ).bind (fun q20 => if ¬ ((if q20.1 = 0 then (0 : Int32) else (1 : Int32)) = 0 ∨ (if q20.1 = 0 then (0 : Int32) else (1 : Int32)) = 1) then none else (some (if q20.1 = 0 then (0 : Int32) else (1 : Int32), q20.2))))) else (some ((0 : Int32), σ))) else (some ((0 : Int32), σ))
set_option maxHeartbeats 4000000 in
set_option maxRecDepth 100000 in
theorem wX2_holdsBack_b0 {E : mm_E} {G : mm_G} (X : mm_Cx E G cX2_holdsBack 2 RX2 wsX2_holdsBack rmX2_holdsBack (some .boolean)) {a0 : Nat} {x1 : Int32} {σ : mm_M} {q : (Int32 × mm_M)} (ha0 : mm_Is G 2 a0) (h : fX2_holdsBack G a0 x1 σ = some q) : mm_At E G 2 (mm_Qi E G q) σ 0 [(0, .ref a0), (1, .int x1)] [] := by
  unfold fX2_holdsBack at h
  refine at_aload_n (pc := 0) X 0 0 dX2_holdsBack_0 rfl rfl ?_
  refine at_get (pc := 1) X 2 3 (.int (σ.1 a0 3)) ha0 (by decide) rfl inX2_holdsBack_X2 (by decide) lkX2_holdsBack_0 rfl dX2_holdsBack_1 ?_
  refine at_if_le (pc := 4) X 30 dX2_holdsBack_4 (by decide) (fun c4 => ?_) (fun c4 => ?_)
  · have h := mm_neg c4 h
    refine at_iconst (pc := 30) X (0 : Int32) dX2_holdsBack_30 ic_0 ?_
    exact at_zret (pc := 31) X (Or.inl rfl) (Option.some.inj h) dX2_holdsBack_31
  · have h := mm_pos c4 h
    refine at_aload_n (pc := 7) X 0 0 dX2_holdsBack_7 rfl rfl ?_
    refine at_get (pc := 8) X 2 4 (.int (σ.1 a0 4)) ha0 (by decide) rfl inX2_holdsBack_X2 (by decide) lkX2_holdsBack_1 rfl dX2_holdsBack_8 ?_
    refine at_if_ne (pc := 11) X 30 dX2_holdsBack_11 (by decide) (fun c11 => ?_) (fun c11 => ?_)
    · have h := mm_neg c11 h
      refine at_iconst (pc := 30) X (0 : Int32) dX2_holdsBack_30 ic_0 ?_
      exact at_zret (pc := 31) X (Or.inl rfl) (Option.some.inj h) dX2_holdsBack_31
    · have h := mm_pos c11 h
      refine at_iload_n (pc := 14) X 1 1 dX2_holdsBack_14 rfl rfl ?_
      refine at_if_eq (pc := 15) X 30 dX2_holdsBack_15 (by decide) (fun c15 => ?_) (fun c15 => ?_)
      · have h := mm_pos c15 h
        refine at_iconst (pc := 30) X (0 : Int32) dX2_holdsBack_30 ic_0 ?_
        exact at_zret (pc := 31) X (Or.inl rfl) (Option.some.inj h) dX2_holdsBack_31
      · have h := mm_neg c15 h
        refine at_aload_n (pc := 18) X 0 0 dX2_holdsBack_18 rfl rfl ?_
        refine at_iconst (pc := 19) X (2 : Int32) dX2_holdsBack_19 ic_2 ?_
        obtain ⟨q20, hq20, h⟩ := mm_bind h
        refine at_calli (n := 1) (pc := 20) X 2 [.int (2 : Int32)] [] (mX2_isOf (eL E) X.wf ha0 hq20) gX2_holdsBack_X2_isOf rfl ⟨rfl, rfl⟩ (by decide +kernel) ⟨by decide, by decide⟩ (by decide) rfl ha0 rfl rfl (Nat.le_of_ble_eq_true rfl) dX2_holdsBack_20 ?_
        have hj23 : mm_At E G 2 (mm_Qi E G q) q20.2 31 [] [.int (if q20.1 = 0 then (0 : Int32) else (1 : Int32))] := by
          obtain ⟨hg31, h⟩ := mm_chk h
          exact at_zret (pc := 31) X (Classical.not_not.mp hg31) (Option.some.inj h) dX2_holdsBack_31
        refine at_if_eq (pc := 23) X 30 dX2_holdsBack_23 (by decide) (fun c23 => ?_) (fun c23 => ?_)
        · try simp only [if_pos c23] at hj23
          refine at_iconst (pc := 30) X (0 : Int32) dX2_holdsBack_30 ic_0 ?_
          exact at_sub [] rfl hj23
        · try simp only [if_neg c23] at hj23
          refine at_iconst (pc := 26) X (1 : Int32) dX2_holdsBack_26 ic_1 ?_
          refine at_goto (pc := 27) X 31 dX2_holdsBack_27 (by decide) ?_
          exact at_sub [] rfl hj23
set_option maxHeartbeats 4000000 in
set_option maxRecDepth 100000 in
theorem mX2_holdsBack (l : Launch) {G : mm_G} (hwf : mm_WF G) {a0 : Nat} {x1 : Int32} {σ : mm_M} {q : (Int32 × mm_M)} (ha0 : mm_Is G 2 a0) (h : fX2_holdsBack G a0 x1 σ = some q) : mm_Mi l yX2_holdsBack wsX2_holdsBack rmX2_holdsBack G [.ref a0, .int x1] σ q := by
  refine mm_ofi (cc := cX2_holdsBack) (nL := 2) (ret := some .boolean) (own := RX2) (lv0 := [(0, .ref a0), (1, .int x1)]) (by decide) rfl rfl (Nat.le_of_ble_eq_true rfl) rfl hwf (fun E hE X => ?_)
  exact wX2_holdsBack_b0 X ha0 h
set_option maxRecDepth 20000 in
theorem ggX2_told_X2_wants : GoodIn wsX2_told wsX2_wants := goodIn_r _ [11, 4, 5, 12, 13, 14, 10, 15, 1, 16, 17, 18, 19, 20, 21] (by decide +kernel) (by decide +kernel)
set_option maxRecDepth 20000 in
theorem gX2_told_X2_wants : GoodIn wsX2_told (wsV RX2 60 RX2 yX2_wants wsX2_wants) := goodIn_app (goodIn_of _ (by decide +kernel)) ggX2_told_X2_wants
theorem dX2_told_0 : decode cX2_told 0 = .ok (.iload_n 1, 1) := by decide +kernel
theorem dX2_told_1 : decode cX2_told 1 = .ok (.tableswitch 69 0 5 #[39, 44, 49, 54, 59, 64], 39) := by decide +kernel
theorem dX2_told_40 : decode cX2_told 40 = .ok (.aload_n 0, 1) := by decide +kernel
theorem dX2_told_41 : decode cX2_told 41 = .ok (.getfield 9, 3) := by decide +kernel
theorem dX2_told_44 : decode cX2_told 44 = .ok (.ireturn, 1) := by decide +kernel
theorem dX2_told_45 : decode cX2_told 45 = .ok (.aload_n 0, 1) := by decide +kernel
theorem dX2_told_46 : decode cX2_told 46 = .ok (.getfield 15, 3) := by decide +kernel
theorem dX2_told_49 : decode cX2_told 49 = .ok (.ireturn, 1) := by decide +kernel
theorem dX2_told_50 : decode cX2_told 50 = .ok (.aload_n 0, 1) := by decide +kernel
theorem dX2_told_51 : decode cX2_told 51 = .ok (.getfield 18, 3) := by decide +kernel
theorem dX2_told_54 : decode cX2_told 54 = .ok (.ireturn, 1) := by decide +kernel
theorem dX2_told_55 : decode cX2_told 55 = .ok (.aload_n 0, 1) := by decide +kernel
theorem dX2_told_56 : decode cX2_told 56 = .ok (.getfield 21, 3) := by decide +kernel
theorem dX2_told_59 : decode cX2_told 59 = .ok (.ireturn, 1) := by decide +kernel
theorem dX2_told_60 : decode cX2_told 60 = .ok (.aload_n 0, 1) := by decide +kernel
theorem dX2_told_61 : decode cX2_told 61 = .ok (.getfield 24, 3) := by decide +kernel
theorem dX2_told_64 : decode cX2_told 64 = .ok (.ireturn, 1) := by decide +kernel
theorem dX2_told_65 : decode cX2_told 65 = .ok (.aload_n 0, 1) := by decide +kernel
theorem dX2_told_66 : decode cX2_told 66 = .ok (.getfield 27, 3) := by decide +kernel
theorem dX2_told_69 : decode cX2_told 69 = .ok (.ireturn, 1) := by decide +kernel
theorem dX2_told_70 : decode cX2_told 70 = .ok (.aload_n 0, 1) := by decide +kernel
theorem dX2_told_71 : decode cX2_told 71 = .ok (.iload_n 2, 1) := by decide +kernel
theorem dX2_told_72 : decode cX2_told 72 = .ok (.invokevirtual 60, 3) := by decide +kernel
theorem dX2_told_75 : decode cX2_told 75 = .ok (.ifCond .eq 7, 3) := by decide +kernel
theorem dX2_told_78 : decode cX2_told 78 = .ok (.iconst 1, 1) := by decide +kernel
theorem dX2_told_79 : decode cX2_told 79 = .ok (.goto 4, 3) := by decide +kernel
theorem dX2_told_82 : decode cX2_told 82 = .ok (.iconst 0, 1) := by decide +kernel
theorem dX2_told_83 : decode cX2_told 83 = .ok (.ireturn, 1) := by decide +kernel
/-! X2_told (IZ)I -/
abbrev rmX2_told : Room := { frames := 2, cells := 0, slots := 0, locals := 42 }
theorem lkX2_told_0 : Cond.fieldLink RX2 9 (TX2 0).1 (TX2 0).2.1 (TX2 0).2.2.1 ∈ wsX2_told := by decide +kernel
theorem lkX2_told_1 : Cond.fieldLink RX2 15 (TX2 1).1 (TX2 1).2.1 (TX2 1).2.2.1 ∈ wsX2_told := by decide +kernel
theorem lkX2_told_2 : Cond.fieldLink RX2 18 (TX2 2).1 (TX2 2).2.1 (TX2 2).2.2.1 ∈ wsX2_told := by decide +kernel
theorem lkX2_told_3 : Cond.fieldLink RX2 21 (TX2 3).1 (TX2 3).2.1 (TX2 3).2.2.1 ∈ wsX2_told := by decide +kernel
theorem lkX2_told_4 : Cond.fieldLink RX2 24 (TX2 4).1 (TX2 4).2.1 (TX2 4).2.2.1 ∈ wsX2_told := by decide +kernel
theorem lkX2_told_5 : Cond.fieldLink RX2 27 (TX2 5).1 (TX2 5).2.1 (TX2 5).2.2.1 ∈ wsX2_told := by decide +kernel
theorem inX2_told_X2 : ∀ w ∈ u_ws RX2 TX2 6, w ∈ wsX2_told := by decide +kernel
noncomputable def fX2_told (G : mm_G) (a0 : Nat) (x1 : Int32) (x2 : Int32) (σ : mm_M) : Option (Int32 × mm_M) := if x1 = 0 then (some (σ.1 a0 0, σ)) else (if x1 = 1 then (some (σ.1 a0 1, σ)) else (if x1 = 2 then (some (σ.1 a0 2, σ)) else (if x1 = 3 then (some (σ.1 a0 3, σ)) else (if x1 = 4 then (some (σ.1 a0 4, σ)) else (if x1 = 5 then (some (σ.1 a0 5, σ)) else ((fX2_wants G a0 x2 σ).bind (fun q72 => some (if q72.1 = 0 then (0 : Int32) else (1 : Int32), q72.2))))))))
set_option maxHeartbeats 4000000 in
set_option maxRecDepth 100000 in
theorem wX2_told_b0 {E : mm_E} {G : mm_G} (X : mm_Cx E G cX2_told 3 RX2 wsX2_told rmX2_told (some .int)) {a0 : Nat} {x1 : Int32} {x2 : Int32} {σ : mm_M} {q : (Int32 × mm_M)} (ha0 : mm_Is G 2 a0) (h : fX2_told G a0 x1 x2 σ = some q) : mm_At E G 3 (mm_Qi E G q) σ 0 [(0, .ref a0), (1, .int x1), (2, .int x2)] [] := by
  unfold fX2_told at h
  refine at_iload_n (pc := 0) X 1 1 dX2_told_0 rfl rfl ?_
  by_cases c1_0 : x1 = 0
  · have h := mm_pos c1_0 h
    refine at_swIn (pc := 1) X 40 dX2_told_1 (by rw [c1_0]; decide) (by rw [c1_0]; decide) (by rw [c1_0]; rfl) (by decide) ?_
    refine at_aload_n (pc := 40) X 0 0 dX2_told_40 rfl rfl ?_
    refine at_get (pc := 41) X 2 0 (.int (σ.1 a0 0)) ha0 (by decide) rfl inX2_told_X2 (by decide) lkX2_told_0 rfl dX2_told_41 ?_
    exact at_iret (pc := 44) X (Option.some.inj h) dX2_told_44
  · have h := mm_neg c1_0 h
    by_cases c1_1 : x1 = 1
    · have h := mm_pos c1_1 h
      refine at_swIn (pc := 1) X 45 dX2_told_1 (by rw [c1_1]; decide) (by rw [c1_1]; decide) (by rw [c1_1]; rfl) (by decide) ?_
      refine at_aload_n (pc := 45) X 0 0 dX2_told_45 rfl rfl ?_
      refine at_get (pc := 46) X 2 1 (.int (σ.1 a0 1)) ha0 (by decide) rfl inX2_told_X2 (by decide) lkX2_told_1 rfl dX2_told_46 ?_
      exact at_iret (pc := 49) X (Option.some.inj h) dX2_told_49
    · have h := mm_neg c1_1 h
      by_cases c1_2 : x1 = 2
      · have h := mm_pos c1_2 h
        refine at_swIn (pc := 1) X 50 dX2_told_1 (by rw [c1_2]; decide) (by rw [c1_2]; decide) (by rw [c1_2]; rfl) (by decide) ?_
        refine at_aload_n (pc := 50) X 0 0 dX2_told_50 rfl rfl ?_
        refine at_get (pc := 51) X 2 2 (.int (σ.1 a0 2)) ha0 (by decide) rfl inX2_told_X2 (by decide) lkX2_told_2 rfl dX2_told_51 ?_
        exact at_iret (pc := 54) X (Option.some.inj h) dX2_told_54
      · have h := mm_neg c1_2 h
        by_cases c1_3 : x1 = 3
        · have h := mm_pos c1_3 h
          refine at_swIn (pc := 1) X 55 dX2_told_1 (by rw [c1_3]; decide) (by rw [c1_3]; decide) (by rw [c1_3]; rfl) (by decide) ?_
          refine at_aload_n (pc := 55) X 0 0 dX2_told_55 rfl rfl ?_
          refine at_get (pc := 56) X 2 3 (.int (σ.1 a0 3)) ha0 (by decide) rfl inX2_told_X2 (by decide) lkX2_told_3 rfl dX2_told_56 ?_
          exact at_iret (pc := 59) X (Option.some.inj h) dX2_told_59
        · have h := mm_neg c1_3 h
          by_cases c1_4 : x1 = 4
          · have h := mm_pos c1_4 h
            refine at_swIn (pc := 1) X 60 dX2_told_1 (by rw [c1_4]; decide) (by rw [c1_4]; decide) (by rw [c1_4]; rfl) (by decide) ?_
            refine at_aload_n (pc := 60) X 0 0 dX2_told_60 rfl rfl ?_
            refine at_get (pc := 61) X 2 4 (.int (σ.1 a0 4)) ha0 (by decide) rfl inX2_told_X2 (by decide) lkX2_told_4 rfl dX2_told_61 ?_
            exact at_iret (pc := 64) X (Option.some.inj h) dX2_told_64
          · have h := mm_neg c1_4 h
            by_cases c1_5 : x1 = 5
            · have h := mm_pos c1_5 h
              refine at_swIn (pc := 1) X 65 dX2_told_1 (by rw [c1_5]; decide) (by rw [c1_5]; decide) (by rw [c1_5]; rfl) (by decide) ?_
              refine at_aload_n (pc := 65) X 0 0 dX2_told_65 rfl rfl ?_
              refine at_get (pc := 66) X 2 5 (.int (σ.1 a0 5)) ha0 (by decide) rfl inX2_told_X2 (by decide) lkX2_told_5 rfl dX2_told_66 ?_
              exact at_iret (pc := 69) X (Option.some.inj h) dX2_told_69
            · have h := mm_neg c1_5 h
              refine at_swOut (pc := 1) X 70 dX2_told_1 (sw_0_5 c1_0 c1_1 c1_2 c1_3 c1_4 c1_5) (by decide) ?_
              refine at_aload_n (pc := 70) X 0 0 dX2_told_70 rfl rfl ?_
              refine at_iload_n (pc := 71) X 2 2 dX2_told_71 rfl rfl ?_
              obtain ⟨q72, hq72, h⟩ := mm_bind h
              refine at_calli (n := 1) (pc := 72) X 2 [.int x2] [] (mX2_wants (eL E) X.wf ha0 hq72) gX2_told_X2_wants rfl ⟨rfl, rfl⟩ (by decide +kernel) ⟨by decide, by decide⟩ (by decide) rfl ha0 rfl rfl (Nat.le_of_ble_eq_true rfl) dX2_told_72 ?_
              have hj75 : mm_At E G 3 (mm_Qi E G q) q72.2 83 [] [.int (if q72.1 = 0 then (0 : Int32) else (1 : Int32))] := by
                exact at_iret (pc := 83) X (Option.some.inj h) dX2_told_83
              refine at_if_eq (pc := 75) X 82 dX2_told_75 (by decide) (fun c75 => ?_) (fun c75 => ?_)
              · try simp only [if_pos c75] at hj75
                refine at_iconst (pc := 82) X (0 : Int32) dX2_told_82 ic_0 ?_
                exact at_sub [] rfl hj75
              · try simp only [if_neg c75] at hj75
                refine at_iconst (pc := 78) X (1 : Int32) dX2_told_78 ic_1 ?_
                refine at_goto (pc := 79) X 83 dX2_told_79 (by decide) ?_
                exact at_sub [] rfl hj75
set_option maxHeartbeats 4000000 in
set_option maxRecDepth 100000 in
theorem mX2_told (l : Launch) {G : mm_G} (hwf : mm_WF G) {a0 : Nat} {x1 : Int32} {x2 : Int32} {σ : mm_M} {q : (Int32 × mm_M)} (ha0 : mm_Is G 2 a0) (h : fX2_told G a0 x1 x2 σ = some q) : mm_Mi l yX2_told wsX2_told rmX2_told G [.ref a0, .int x1, .int x2] σ q := by
  refine mm_ofi (cc := cX2_told) (nL := 3) (ret := some .int) (own := RX2) (lv0 := [(0, .ref a0), (1, .int x1), (2, .int x2)]) (by decide) rfl rfl (Nat.le_of_ble_eq_true rfl) rfl hwf (fun E hE X => ?_)
  exact wX2_told_b0 X ha0 h
set_option maxRecDepth 20000 in
theorem ggX2_tellsAs_X2_waitBehind : GoodIn wsX2_tellsAs wsX2_waitBehind := goodIn_r _ [6, 7, 8, 9, 10, 11, 12, 5, 13, 14, 15, 16, 17, 18, 19, 20, 21, 22, 23, 24, 35, 36, 37, 38, 39, 40] (by decide +kernel) (by decide +kernel)
set_option maxRecDepth 20000 in
theorem gX2_tellsAs_X2_waitBehind : GoodIn wsX2_tellsAs (wsV RX2 57 RX2 yX2_waitBehind wsX2_waitBehind) := goodIn_app (goodIn_of _ (by decide +kernel)) ggX2_tellsAs_X2_waitBehind
set_option maxRecDepth 20000 in
theorem ggX2_tellsAs_X2_plainWait : GoodIn wsX2_tellsAs wsX2_plainWait := goodIn_r _ [24, 8, 9, 14, 15, 16, 17, 35, 36, 37, 38, 39, 40] (by decide +kernel) (by decide +kernel)
set_option maxRecDepth 20000 in
theorem gX2_tellsAs_X2_plainWait : GoodIn wsX2_tellsAs (wsV RX2 51 RX2 yX2_plainWait wsX2_plainWait) := goodIn_app (goodIn_of _ (by decide +kernel)) ggX2_tellsAs_X2_plainWait
set_option maxRecDepth 20000 in
theorem ggX2_tellsAs_X2_holdsBack : GoodIn wsX2_tellsAs wsX2_holdsBack := goodIn_r _ [28, 29, 30, 31, 32, 33, 5, 34, 7, 35, 36, 37, 38, 39, 40] (by decide +kernel) (by decide +kernel)
set_option maxRecDepth 20000 in
theorem gX2_tellsAs_X2_holdsBack : GoodIn wsX2_tellsAs (wsV RX2 64 RX2 yX2_holdsBack wsX2_holdsBack) := goodIn_app (goodIn_of _ (by decide +kernel)) ggX2_tellsAs_X2_holdsBack
set_option maxRecDepth 20000 in
theorem ggX2_tellsAs_X2_doubleWait : GoodIn wsX2_tellsAs wsX2_doubleWait := goodIn_r _ [13, 14, 15, 16, 17, 18, 19, 20, 8, 9, 35, 36, 37, 38, 39, 40] (by decide +kernel) (by decide +kernel)
set_option maxRecDepth 20000 in
theorem gX2_tellsAs_X2_doubleWait : GoodIn wsX2_tellsAs (wsV RX2 47 RX2 yX2_doubleWait wsX2_doubleWait) := goodIn_app (goodIn_of _ (by decide +kernel)) ggX2_tellsAs_X2_doubleWait
theorem dX2_tellsAs_0 : decode cX2_tellsAs 0 = .ok (.aload_n 0, 1) := by decide +kernel
theorem dX2_tellsAs_1 : decode cX2_tellsAs 1 = .ok (.getfield 27, 3) := by decide +kernel
theorem dX2_tellsAs_4 : decode cX2_tellsAs 4 = .ok (.iconst 1, 1) := by decide +kernel
theorem dX2_tellsAs_5 : decode cX2_tellsAs 5 = .ok (.iadd, 1) := by decide +kernel
theorem dX2_tellsAs_6 : decode cX2_tellsAs 6 = .ok (.istore 4, 2) := by decide +kernel
theorem dX2_tellsAs_8 : decode cX2_tellsAs 8 = .ok (.aload_n 0, 1) := by decide +kernel
theorem dX2_tellsAs_9 : decode cX2_tellsAs 9 = .ok (.iload 4, 2) := by decide +kernel
theorem dX2_tellsAs_11 : decode cX2_tellsAs 11 = .ok (.iload_n 2, 1) := by decide +kernel
theorem dX2_tellsAs_12 : decode cX2_tellsAs 12 = .ok (.invokevirtual 57, 3) := by decide +kernel
theorem dX2_tellsAs_15 : decode cX2_tellsAs 15 = .ok (.istore 5, 2) := by decide +kernel
theorem dX2_tellsAs_17 : decode cX2_tellsAs 17 = .ok (.iload_n 1, 1) := by decide +kernel
theorem dX2_tellsAs_18 : decode cX2_tellsAs 18 = .ok (.tableswitch 77 1 4 #[30, 43, 57, 67], 30) := by decide +kernel
theorem dX2_tellsAs_48 : decode cX2_tellsAs 48 = .ok (.iload 5, 2) := by decide +kernel
theorem dX2_tellsAs_50 : decode cX2_tellsAs 50 = .ok (.aload_n 0, 1) := by decide +kernel
theorem dX2_tellsAs_51 : decode cX2_tellsAs 51 = .ok (.iload 4, 2) := by decide +kernel
theorem dX2_tellsAs_53 : decode cX2_tellsAs 53 = .ok (.invokevirtual 51, 3) := by decide +kernel
theorem dX2_tellsAs_56 : decode cX2_tellsAs 56 = .ok (.isub, 1) := by decide +kernel
theorem dX2_tellsAs_57 : decode cX2_tellsAs 57 = .ok (.bipush 100, 2) := by decide +kernel
theorem dX2_tellsAs_59 : decode cX2_tellsAs 59 = .ok (.iadd, 1) := by decide +kernel
theorem dX2_tellsAs_60 : decode cX2_tellsAs 60 = .ok (.ireturn, 1) := by decide +kernel
theorem dX2_tellsAs_61 : decode cX2_tellsAs 61 = .ok (.aload_n 0, 1) := by decide +kernel
theorem dX2_tellsAs_62 : decode cX2_tellsAs 62 = .ok (.iload_n 3, 1) := by decide +kernel
theorem dX2_tellsAs_63 : decode cX2_tellsAs 63 = .ok (.invokevirtual 64, 3) := by decide +kernel
theorem dX2_tellsAs_66 : decode cX2_tellsAs 66 = .ok (.ifCond .eq 7, 3) := by decide +kernel
theorem dX2_tellsAs_69 : decode cX2_tellsAs 69 = .ok (.iconst 1, 1) := by decide +kernel
theorem dX2_tellsAs_70 : decode cX2_tellsAs 70 = .ok (.goto 4, 3) := by decide +kernel
theorem dX2_tellsAs_73 : decode cX2_tellsAs 73 = .ok (.iconst 0, 1) := by decide +kernel
theorem dX2_tellsAs_74 : decode cX2_tellsAs 74 = .ok (.ireturn, 1) := by decide +kernel
theorem dX2_tellsAs_75 : decode cX2_tellsAs 75 = .ok (.aload_n 0, 1) := by decide +kernel
theorem dX2_tellsAs_76 : decode cX2_tellsAs 76 = .ok (.iload 4, 2) := by decide +kernel
theorem dX2_tellsAs_78 : decode cX2_tellsAs 78 = .ok (.invokevirtual 51, 3) := by decide +kernel
theorem dX2_tellsAs_81 : decode cX2_tellsAs 81 = .ok (.iload 5, 2) := by decide +kernel
theorem dX2_tellsAs_83 : decode cX2_tellsAs 83 = .ok (.isub, 1) := by decide +kernel
theorem dX2_tellsAs_84 : decode cX2_tellsAs 84 = .ok (.ireturn, 1) := by decide +kernel
theorem dX2_tellsAs_85 : decode cX2_tellsAs 85 = .ok (.aload_n 0, 1) := by decide +kernel
theorem dX2_tellsAs_86 : decode cX2_tellsAs 86 = .ok (.iload 4, 2) := by decide +kernel
theorem dX2_tellsAs_88 : decode cX2_tellsAs 88 = .ok (.invokevirtual 47, 3) := by decide +kernel
theorem dX2_tellsAs_91 : decode cX2_tellsAs 91 = .ok (.iload 5, 2) := by decide +kernel
theorem dX2_tellsAs_93 : decode cX2_tellsAs 93 = .ok (.isub, 1) := by decide +kernel
theorem dX2_tellsAs_94 : decode cX2_tellsAs 94 = .ok (.ireturn, 1) := by decide +kernel
theorem dX2_tellsAs_95 : decode cX2_tellsAs 95 = .ok (.iconst 4, 1) := by decide +kernel
theorem dX2_tellsAs_96 : decode cX2_tellsAs 96 = .ok (.aload_n 0, 1) := by decide +kernel
theorem dX2_tellsAs_97 : decode cX2_tellsAs 97 = .ok (.getfield 27, 3) := by decide +kernel
theorem dX2_tellsAs_100 : decode cX2_tellsAs 100 = .ok (.isub, 1) := by decide +kernel
theorem dX2_tellsAs_101 : decode cX2_tellsAs 101 = .ok (.ireturn, 1) := by decide +kernel
/-! X2_tellsAs (IIZ)I -/
abbrev rmX2_tellsAs : Room := { frames := 3, cells := 0, slots := 0, locals := 59 }
theorem lkX2_tellsAs_0 : Cond.fieldLink RX2 27 (TX2 5).1 (TX2 5).2.1 (TX2 5).2.2.1 ∈ wsX2_tellsAs := by decide +kernel
theorem inX2_tellsAs_X2 : ∀ w ∈ u_ws RX2 TX2 6, w ∈ wsX2_tellsAs := by decide +kernel
noncomputable def fX2_tellsAs (G : mm_G) (a0 : Nat) (x1 : Int32) (x2 : Int32) (x3 : Int32) (σ : mm_M) : Option (Int32 × mm_M) := (fX2_waitBehind G a0 ((σ.1 a0 5) + (1 : Int32)) x2 σ).bind (fun q12 => if x1 = 1 then ((fX2_plainWait G a0 ((σ.1 a0 5) + (1 : Int32)) q12.2).bind (fun q53 => some ((q12.1 - q53.1) + (100 : Int32), q53.2))) else (if x1 = 2 then ((fX2_holdsBack G a0 x3 q12.2).bind (fun q63 => some (if q63.1 = 0 then (0 : Int32) else (1 : Int32), q63.2))) else (if x1 = 3 then ((fX2_plainWait G a0 ((σ.1 a0 5) + (1 : Int32)) q12.2).bind (fun q78 => some (q78.1 - q12.1, q78.2))) else (if x1 = 4 then ((fX2_doubleWait G a0 ((σ.1 a0 5) + (1 : Int32)) q12.2).bind (fun q88 => some (q88.1 - q12.1, q88.2))) else (some ((4 : Int32) - (q12.2.1 a0 5), q12.2))))))
set_option maxHeartbeats 4000000 in
set_option maxRecDepth 100000 in
theorem wX2_tellsAs_b0 {E : mm_E} {G : mm_G} (X : mm_Cx E G cX2_tellsAs 6 RX2 wsX2_tellsAs rmX2_tellsAs (some .int)) {a0 : Nat} {x1 : Int32} {x2 : Int32} {x3 : Int32} {σ : mm_M} {q : (Int32 × mm_M)} (ha0 : mm_Is G 2 a0) (h : fX2_tellsAs G a0 x1 x2 x3 σ = some q) : mm_At E G 6 (mm_Qi E G q) σ 0 [(0, .ref a0), (1, .int x1), (2, .int x2), (3, .int x3)] [] := by
  unfold fX2_tellsAs at h
  refine at_aload_n (pc := 0) X 0 0 dX2_tellsAs_0 rfl rfl ?_
  refine at_get (pc := 1) X 2 5 (.int (σ.1 a0 5)) ha0 (by decide) rfl inX2_tellsAs_X2 (by decide) lkX2_tellsAs_0 rfl dX2_tellsAs_1 ?_
  refine at_iconst (pc := 4) X (1 : Int32) dX2_tellsAs_4 ic_1 ?_
  refine at_iadd (pc := 5) X dX2_tellsAs_5 ?_
  refine at_istore (pc := 6) X 4 [(4, .int ((σ.1 a0 5) + (1 : Int32))), (0, .ref a0), (1, .int x1), (2, .int x2), (3, .int x3)] dX2_tellsAs_6 (by decide) rfl ?_
  refine at_aload_n (pc := 8) X 0 1 dX2_tellsAs_8 rfl rfl ?_
  refine at_iload (pc := 9) X 4 0 dX2_tellsAs_9 rfl ?_
  refine at_iload_n (pc := 11) X 2 3 dX2_tellsAs_11 rfl rfl ?_
  obtain ⟨q12, hq12, h⟩ := mm_bind h
  refine at_calli (n := 2) (pc := 12) X 2 [.int ((σ.1 a0 5) + (1 : Int32)), .int x2] [] (mX2_waitBehind (eL E) X.wf ha0 hq12) gX2_tellsAs_X2_waitBehind rfl ⟨rfl, rfl⟩ (by decide +kernel) ⟨by decide, by decide⟩ (by decide) rfl ha0 rfl rfl (Nat.le_of_ble_eq_true rfl) dX2_tellsAs_12 ?_
  refine at_istore (pc := 15) X 5 [(5, .int q12.1), (4, .int ((σ.1 a0 5) + (1 : Int32))), (0, .ref a0), (1, .int x1), (2, .int x2), (3, .int x3)] dX2_tellsAs_15 (by decide) rfl ?_
  refine at_iload_n (pc := 17) X 1 3 dX2_tellsAs_17 rfl rfl ?_
  by_cases c18_0 : x1 = 1
  · have h := mm_pos c18_0 h
    refine at_swIn (pc := 18) X 48 dX2_tellsAs_18 (by rw [c18_0]; decide) (by rw [c18_0]; decide) (by rw [c18_0]; rfl) (by decide) ?_
    refine at_iload (pc := 48) X 5 0 dX2_tellsAs_48 rfl ?_
    refine at_aload_n (pc := 50) X 0 2 dX2_tellsAs_50 rfl rfl ?_
    refine at_iload (pc := 51) X 4 1 dX2_tellsAs_51 rfl ?_
    obtain ⟨q53, hq53, h⟩ := mm_bind h
    refine at_calli (n := 1) (pc := 53) X 2 [.int ((σ.1 a0 5) + (1 : Int32))] [.int q12.1] (mX2_plainWait (eL E) X.wf ha0 hq53) gX2_tellsAs_X2_plainWait rfl ⟨rfl, rfl⟩ (by decide +kernel) ⟨by decide, by decide⟩ (by decide) rfl ha0 rfl rfl (Nat.le_of_ble_eq_true rfl) dX2_tellsAs_53 ?_
    refine at_isub (pc := 56) X dX2_tellsAs_56 ?_
    refine at_bipush (pc := 57) X (100 : Int32) dX2_tellsAs_57 ib_100 ?_
    refine at_iadd (pc := 59) X dX2_tellsAs_59 ?_
    exact at_iret (pc := 60) X (Option.some.inj h) dX2_tellsAs_60
  · have h := mm_neg c18_0 h
    by_cases c18_1 : x1 = 2
    · have h := mm_pos c18_1 h
      refine at_swIn (pc := 18) X 61 dX2_tellsAs_18 (by rw [c18_1]; decide) (by rw [c18_1]; decide) (by rw [c18_1]; rfl) (by decide) ?_
      refine at_aload_n (pc := 61) X 0 2 dX2_tellsAs_61 rfl rfl ?_
      refine at_iload_n (pc := 62) X 3 5 dX2_tellsAs_62 rfl rfl ?_
      obtain ⟨q63, hq63, h⟩ := mm_bind h
      refine at_calli (n := 1) (pc := 63) X 2 [.int x3] [] (mX2_holdsBack (eL E) X.wf ha0 hq63) gX2_tellsAs_X2_holdsBack rfl ⟨rfl, rfl⟩ (by decide +kernel) ⟨by decide, by decide⟩ (by decide) rfl ha0 rfl rfl (Nat.le_of_ble_eq_true rfl) dX2_tellsAs_63 ?_
      have hj66 : mm_At E G 6 (mm_Qi E G q) q63.2 74 [] [.int (if q63.1 = 0 then (0 : Int32) else (1 : Int32))] := by
        exact at_iret (pc := 74) X (Option.some.inj h) dX2_tellsAs_74
      refine at_if_eq (pc := 66) X 73 dX2_tellsAs_66 (by decide) (fun c66 => ?_) (fun c66 => ?_)
      · try simp only [if_pos c66] at hj66
        refine at_iconst (pc := 73) X (0 : Int32) dX2_tellsAs_73 ic_0 ?_
        exact at_sub [] rfl hj66
      · try simp only [if_neg c66] at hj66
        refine at_iconst (pc := 69) X (1 : Int32) dX2_tellsAs_69 ic_1 ?_
        refine at_goto (pc := 70) X 74 dX2_tellsAs_70 (by decide) ?_
        exact at_sub [] rfl hj66
    · have h := mm_neg c18_1 h
      by_cases c18_2 : x1 = 3
      · have h := mm_pos c18_2 h
        refine at_swIn (pc := 18) X 75 dX2_tellsAs_18 (by rw [c18_2]; decide) (by rw [c18_2]; decide) (by rw [c18_2]; rfl) (by decide) ?_
        refine at_aload_n (pc := 75) X 0 2 dX2_tellsAs_75 rfl rfl ?_
        refine at_iload (pc := 76) X 4 1 dX2_tellsAs_76 rfl ?_
        obtain ⟨q78, hq78, h⟩ := mm_bind h
        refine at_calli (n := 1) (pc := 78) X 2 [.int ((σ.1 a0 5) + (1 : Int32))] [] (mX2_plainWait (eL E) X.wf ha0 hq78) gX2_tellsAs_X2_plainWait rfl ⟨rfl, rfl⟩ (by decide +kernel) ⟨by decide, by decide⟩ (by decide) rfl ha0 rfl rfl (Nat.le_of_ble_eq_true rfl) dX2_tellsAs_78 ?_
        refine at_iload (pc := 81) X 5 0 dX2_tellsAs_81 rfl ?_
        refine at_isub (pc := 83) X dX2_tellsAs_83 ?_
        exact at_iret (pc := 84) X (Option.some.inj h) dX2_tellsAs_84
      · have h := mm_neg c18_2 h
        by_cases c18_3 : x1 = 4
        · have h := mm_pos c18_3 h
          refine at_swIn (pc := 18) X 85 dX2_tellsAs_18 (by rw [c18_3]; decide) (by rw [c18_3]; decide) (by rw [c18_3]; rfl) (by decide) ?_
          refine at_aload_n (pc := 85) X 0 2 dX2_tellsAs_85 rfl rfl ?_
          refine at_iload (pc := 86) X 4 1 dX2_tellsAs_86 rfl ?_
          obtain ⟨q88, hq88, h⟩ := mm_bind h
          refine at_calli (n := 1) (pc := 88) X 2 [.int ((σ.1 a0 5) + (1 : Int32))] [] (mX2_doubleWait (eL E) X.wf ha0 hq88) gX2_tellsAs_X2_doubleWait rfl ⟨rfl, rfl⟩ (by decide +kernel) ⟨by decide, by decide⟩ (by decide) rfl ha0 rfl rfl (Nat.le_of_ble_eq_true rfl) dX2_tellsAs_88 ?_
          refine at_iload (pc := 91) X 5 0 dX2_tellsAs_91 rfl ?_
          refine at_isub (pc := 93) X dX2_tellsAs_93 ?_
          exact at_iret (pc := 94) X (Option.some.inj h) dX2_tellsAs_94
        · have h := mm_neg c18_3 h
          refine at_swOut (pc := 18) X 95 dX2_tellsAs_18 (sw_1_4 c18_0 c18_1 c18_2 c18_3) (by decide) ?_
          refine at_iconst (pc := 95) X (4 : Int32) dX2_tellsAs_95 ic_4 ?_
          refine at_aload_n (pc := 96) X 0 2 dX2_tellsAs_96 rfl rfl ?_
          refine at_get (pc := 97) X 2 5 (.int (q12.2.1 a0 5)) ha0 (by decide) rfl inX2_tellsAs_X2 (by decide) lkX2_tellsAs_0 rfl dX2_tellsAs_97 ?_
          refine at_isub (pc := 100) X dX2_tellsAs_100 ?_
          exact at_iret (pc := 101) X (Option.some.inj h) dX2_tellsAs_101
set_option maxHeartbeats 4000000 in
set_option maxRecDepth 100000 in
theorem mX2_tellsAs (l : Launch) {G : mm_G} (hwf : mm_WF G) {a0 : Nat} {x1 : Int32} {x2 : Int32} {x3 : Int32} {σ : mm_M} {q : (Int32 × mm_M)} (ha0 : mm_Is G 2 a0) (h : fX2_tellsAs G a0 x1 x2 x3 σ = some q) : mm_Mi l yX2_tellsAs wsX2_tellsAs rmX2_tellsAs G [.ref a0, .int x1, .int x2, .int x3] σ q := by
  refine mm_ofi (cc := cX2_tellsAs) (nL := 6) (ret := some .int) (own := RX2) (lv0 := [(0, .ref a0), (1, .int x1), (2, .int x2), (3, .int x3)]) (by decide) rfl rfl (Nat.le_of_ble_eq_true rfl) rfl hwf (fun E hE X => ?_)
  exact wX2_tellsAs_b0 X ha0 h
theorem dX3_isRow_0 : decode cX3_isRow 0 = .ok (.iload_n 0, 1) := by decide +kernel
theorem dX3_isRow_1 : decode cX3_isRow 1 = .ok (.ifCond .lt 13, 3) := by decide +kernel
theorem dX3_isRow_4 : decode cX3_isRow 4 = .ok (.iload_n 0, 1) := by decide +kernel
theorem dX3_isRow_5 : decode cX3_isRow 5 = .ok (.bipush 6, 2) := by decide +kernel
theorem dX3_isRow_7 : decode cX3_isRow 7 = .ok (.if_icmp .ge 7, 3) := by decide +kernel
theorem dX3_isRow_10 : decode cX3_isRow 10 = .ok (.iconst 1, 1) := by decide +kernel
theorem dX3_isRow_11 : decode cX3_isRow 11 = .ok (.goto 4, 3) := by decide +kernel
theorem dX3_isRow_14 : decode cX3_isRow 14 = .ok (.iconst 0, 1) := by decide +kernel
theorem dX3_isRow_15 : decode cX3_isRow 15 = .ok (.ireturn, 1) := by decide +kernel
/-! X3_isRow (I)Z -/
abbrev rmX3_isRow : Room := { frames := 0, cells := 0, slots := 0, locals := 0 }
noncomputable def fX3_isRow (G : mm_G) (x0 : Int32) (σ : mm_M) : Option (Int32 × mm_M) := if ¬ ((if x0 < 0 then (0 : Int32) else if x0 < (6 : Int32) then (1 : Int32) else (0 : Int32)) = 0 ∨ (if x0 < 0 then (0 : Int32) else if x0 < (6 : Int32) then (1 : Int32) else (0 : Int32)) = 1) then none else (some (if x0 < 0 then (0 : Int32) else if x0 < (6 : Int32) then (1 : Int32) else (0 : Int32), σ))
set_option maxHeartbeats 4000000 in
set_option maxRecDepth 100000 in
theorem wX3_isRow_b0 {E : mm_E} {G : mm_G} (X : mm_Cx E G cX3_isRow 1 RX3 wsX3_isRow rmX3_isRow (some .boolean)) {x0 : Int32} {σ : mm_M} {q : (Int32 × mm_M)} (h : fX3_isRow G x0 σ = some q) : mm_At E G 1 (mm_Qi E G q) σ 0 [(0, .int x0)] [] := by
  unfold fX3_isRow at h
  refine at_iload_n (pc := 0) X 0 0 dX3_isRow_0 rfl rfl ?_
  have hj1 : mm_At E G 1 (mm_Qi E G q) σ 15 [] [.int (if x0 < 0 then (0 : Int32) else if x0 < (6 : Int32) then (1 : Int32) else (0 : Int32))] := by
    obtain ⟨hg15, h⟩ := mm_chk h
    exact at_zret (pc := 15) X (Classical.not_not.mp hg15) (Option.some.inj h) dX3_isRow_15
  refine at_if_lt (pc := 1) X 14 dX3_isRow_1 (by decide) (fun c1 => ?_) (fun c1 => ?_)
  · try simp only [if_pos c1] at hj1
    refine at_iconst (pc := 14) X (0 : Int32) dX3_isRow_14 ic_0 ?_
    exact at_sub [] rfl hj1
  · try simp only [if_neg c1] at hj1
    refine at_iload_n (pc := 4) X 0 0 dX3_isRow_4 rfl rfl ?_
    refine at_bipush (pc := 5) X (6 : Int32) dX3_isRow_5 ib_6 ?_
    refine at_icmp_ge (pc := 7) X 14 dX3_isRow_7 (by decide) (fun c7 => ?_) (fun c7 => ?_)
    · try simp only [if_neg c7] at hj1
      refine at_iconst (pc := 14) X (0 : Int32) dX3_isRow_14 ic_0 ?_
      exact at_sub [] rfl hj1
    · try simp only [if_pos c7] at hj1
      refine at_iconst (pc := 10) X (1 : Int32) dX3_isRow_10 ic_1 ?_
      refine at_goto (pc := 11) X 15 dX3_isRow_11 (by decide) ?_
      exact at_sub [] rfl hj1
set_option maxHeartbeats 4000000 in
set_option maxRecDepth 100000 in
theorem mX3_isRow (l : Launch) {G : mm_G} (hwf : mm_WF G) {x0 : Int32} {σ : mm_M} {q : (Int32 × mm_M)} (h : fX3_isRow G x0 σ = some q) : mm_Mi l yX3_isRow wsX3_isRow rmX3_isRow G [.int x0] σ q := by
  refine mm_ofi (cc := cX3_isRow) (nL := 1) (ret := some .boolean) (own := RX3) (lv0 := [(0, .int x0)]) (by decide) rfl rfl (Nat.le_of_ble_eq_true rfl) rfl hwf (fun E hE X => ?_)
  exact wX3_isRow_b0 X  h
theorem dX3_found_0 : decode cX3_found 0 = .ok (.aload_n 0, 1) := by decide +kernel
theorem dX3_found_1 : decode cX3_found 1 = .ok (.iload_n 1, 1) := by decide +kernel
theorem dX3_found_2 : decode cX3_found 2 = .ok (.putfield 70, 3) := by decide +kernel
theorem dX3_found_5 : decode cX3_found 5 = .ok (.iload_n 1, 1) := by decide +kernel
theorem dX3_found_6 : decode cX3_found 6 = .ok (.iconst 1, 1) := by decide +kernel
theorem dX3_found_7 : decode cX3_found 7 = .ok (.if_icmp .lt 18, 3) := by decide +kernel
theorem dX3_found_10 : decode cX3_found 10 = .ok (.iload_n 1, 1) := by decide +kernel
theorem dX3_found_11 : decode cX3_found 11 = .ok (.iconst 5, 1) := by decide +kernel
theorem dX3_found_12 : decode cX3_found 12 = .ok (.if_icmp .gt 13, 3) := by decide +kernel
theorem dX3_found_15 : decode cX3_found 15 = .ok (.aload_n 0, 1) := by decide +kernel
theorem dX3_found_16 : decode cX3_found 16 = .ok (.getfield 73, 3) := by decide +kernel
theorem dX3_found_19 : decode cX3_found 19 = .ok (.iload_n 1, 1) := by decide +kernel
theorem dX3_found_20 : decode cX3_found 20 = .ok (.dup2, 1) := by decide +kernel
theorem dX3_found_21 : decode cX3_found 21 = .ok (.iaload, 1) := by decide +kernel
theorem dX3_found_22 : decode cX3_found 22 = .ok (.iconst 1, 1) := by decide +kernel
theorem dX3_found_23 : decode cX3_found 23 = .ok (.iadd, 1) := by decide +kernel
theorem dX3_found_24 : decode cX3_found 24 = .ok (.iastore, 1) := by decide +kernel
theorem dX3_found_25 : decode cX3_found 25 = .ok (.bipush (-3), 2) := by decide +kernel
theorem dX3_found_27 : decode cX3_found 27 = .ok (.ireturn, 1) := by decide +kernel
/-! X3_found (I)I -/
abbrev rmX3_found : Room := { frames := 0, cells := 0, slots := 0, locals := 0 }
theorem lkX3_found_0 : Cond.fieldLink RX3 70 (TX3 15).1 (TX3 15).2.1 (TX3 15).2.2.1 ∈ wsX3_found := by decide +kernel
theorem lkX3_found_1 : Cond.fieldLink RX3 73 (TX3 16).1 (TX3 16).2.1 (TX3 16).2.2.1 ∈ wsX3_found := by decide +kernel
theorem inX3_found_X3 : ∀ w ∈ u_ws RX3 TX3 17, w ∈ wsX3_found := by decide +kernel
noncomputable def fX3_found (G : mm_G) (a0 : Nat) (x1 : Int32) (σ : mm_M) : Option (Int32 × mm_M) := if x1 < (1 : Int32) then (some ((-3 : Int32), mm_up σ a0 15 x1)) else (if (5 : Int32) < x1 then (some ((-3 : Int32), mm_up σ a0 15 x1)) else (if x1 < 0 ∨ mm_N G (mm_R G a0 16) ≤ x1.toNatClampNeg then none else (if x1 < 0 ∨ mm_N G (mm_R G a0 16) ≤ x1.toNatClampNeg then none else (some ((-3 : Int32), mm_up (mm_up σ a0 15 x1) (mm_R G a0 16) x1.toNatClampNeg (((mm_up σ a0 15 x1).1 (mm_R G a0 16) x1.toNatClampNeg) + (1 : Int32)))))))
set_option maxHeartbeats 4000000 in
set_option maxRecDepth 100000 in
theorem wX3_found_b0 {E : mm_E} {G : mm_G} (X : mm_Cx E G cX3_found 2 RX3 wsX3_found rmX3_found (some .int)) {a0 : Nat} {x1 : Int32} {σ : mm_M} {q : (Int32 × mm_M)} (ha0 : mm_Is G 3 a0) (h : fX3_found G a0 x1 σ = some q) : mm_At E G 2 (mm_Qi E G q) σ 0 [(0, .ref a0), (1, .int x1)] [] := by
  unfold fX3_found at h
  refine at_aload_n (pc := 0) X 0 0 dX3_found_0 rfl rfl ?_
  refine at_iload_n (pc := 1) X 1 1 dX3_found_1 rfl rfl ?_
  refine at_put (pc := 2) X 3 15 ha0 (by decide) rfl inX3_found_X3 tyX3 tyX3_ok nmX3 (by decide) lkX3_found_0 rfl (ty := .int) rfl rfl rfl (Nat.le_of_ble_eq_true rfl) (ms_3_15 G _ _ _) mm_up_ne dX3_found_2 ?_
  refine at_iload_n (pc := 5) X 1 1 dX3_found_5 rfl rfl ?_
  refine at_iconst (pc := 6) X (1 : Int32) dX3_found_6 ic_1 ?_
  refine at_icmp_lt (pc := 7) X 25 dX3_found_7 (by decide) (fun c7 => ?_) (fun c7 => ?_)
  · have h := mm_pos c7 h
    refine at_bipush (pc := 25) X (-3 : Int32) dX3_found_25 ib_m3 ?_
    exact at_iret (pc := 27) X (Option.some.inj h) dX3_found_27
  · have h := mm_neg c7 h
    refine at_iload_n (pc := 10) X 1 1 dX3_found_10 rfl rfl ?_
    refine at_iconst (pc := 11) X (5 : Int32) dX3_found_11 ic_5 ?_
    refine at_icmp_gt (pc := 12) X 25 dX3_found_12 (by decide) (fun c12 => ?_) (fun c12 => ?_)
    · have h := mm_pos c12 h
      refine at_bipush (pc := 25) X (-3 : Int32) dX3_found_25 ib_m3 ?_
      exact at_iret (pc := 27) X (Option.some.inj h) dX3_found_27
    · have h := mm_neg c12 h
      refine at_aload_n (pc := 15) X 0 0 dX3_found_15 rfl rfl ?_
      refine at_get (pc := 16) X 3 16 (.ref (mm_R G a0 16)) ha0 (by decide) rfl inX3_found_X3 (by decide) lkX3_found_1 rfl dX3_found_16 ?_
      refine at_iload_n (pc := 19) X 1 1 dX3_found_19 rfl rfl ?_
      refine at_dup2 (pc := 20) X dX3_found_20 rfl rfl ?_
      obtain ⟨hc21, h⟩ := mm_chk h
      refine at_iald (pc := 21) X (wf_3_16 X.wf ha0) hc21 dX3_found_21 ?_
      refine at_iconst (pc := 22) X (1 : Int32) dX3_found_22 ic_1 ?_
      refine at_iadd (pc := 23) X dX3_found_23 ?_
      obtain ⟨hc24, h⟩ := mm_chk h
      refine at_iast (pc := 24) X (wf_3_16 X.wf ha0) hc24 dX3_found_24 ?_
      refine at_bipush (pc := 25) X (-3 : Int32) dX3_found_25 ib_m3 ?_
      exact at_iret (pc := 27) X (Option.some.inj h) dX3_found_27
set_option maxHeartbeats 4000000 in
set_option maxRecDepth 100000 in
theorem mX3_found (l : Launch) {G : mm_G} (hwf : mm_WF G) {a0 : Nat} {x1 : Int32} {σ : mm_M} {q : (Int32 × mm_M)} (ha0 : mm_Is G 3 a0) (h : fX3_found G a0 x1 σ = some q) : mm_Mi l yX3_found wsX3_found rmX3_found G [.ref a0, .int x1] σ q := by
  refine mm_ofi (cc := cX3_found) (nL := 2) (ret := some .int) (own := RX3) (lv0 := [(0, .ref a0), (1, .int x1)]) (by decide) rfl rfl (Nat.le_of_ble_eq_true rfl) rfl hwf (fun E hE X => ?_)
  exact wX3_found_b0 X ha0 h
