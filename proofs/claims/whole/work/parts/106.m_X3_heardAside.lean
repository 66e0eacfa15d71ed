/-! X3_heardAside X3_later X3_ends X3_clash X3_countHeardAside X3_most X3_best -/
set_option maxRecDepth 20000 in
theorem ggX3_heardAside_X0_become : GoodIn wsX3_heardAside wsX0_become := goodIn_r _ [8, 9, 10, 11, 12, 13, 14, 15, 16, 17, 18, 19, 20, 21, 22, 23, 24, 25, 103, 104, 105, 106, 107, 108, 109, 110, 111, 112, 113, 114] (by decide +kernel) (by decide +kernel)
set_option maxRecDepth 20000 in
theorem gX3_heardAside_X0_become : GoodIn wsX3_heardAside (wsV RX3 108 RX0 yX0_become wsX0_become) := goodIn_app (goodIn_of _ (by decide +kernel)) ggX3_heardAside_X0_become
set_option maxRecDepth 20000 in
theorem ggX3_heardAside_X0_lettersBut : GoodIn wsX3_heardAside wsX0_lettersBut := goodIn_r _ [29, 9, 14, 30, 103, 104, 105, 106, 107, 108, 109, 110, 111, 112, 113, 114] (by decide +kernel) (by decide +kernel)
set_option maxRecDepth 20000 in
theorem gX3_heardAside_X0_lettersBut : GoodIn wsX3_heardAside (wsV RX3 242 RX0 yX0_lettersBut wsX0_lettersBut) := goodIn_app (goodIn_of _ (by decide +kernel)) ggX3_heardAside_X0_lettersBut
set_option maxRecDepth 20000 in
theorem ggX3_heardAside_X0_goBy : GoodIn wsX3_heardAside wsX0_goBy := goodIn_r _ [34, 9, 14, 35, 11, 10, 12, 13, 36, 37, 38, 7, 39, 40, 41, 42, 18, 43, 23, 24, 44, 45, 46, 47, 20, 48, 49, 50, 51, 52, 53, 54, 55, 56, 57, 58, 25, 59, 60, 61, 62, 63, 64, 65, 66, 67, 68, 69, 70, 21, 22, 71, 72, 73, 74, 75, 76, 77, 78, 79, 80, 81, 82, 83, 84, 85, 103, 104, 105, 106, 107, 108, 109, 110, 111, 112, 113, 114] (by decide +kernel) (by decide +kernel)
set_option maxRecDepth 20000 in
theorem gX3_heardAside_X0_goBy : GoodIn wsX3_heardAside (wsV RX3 183 RX0 yX0_goBy wsX0_goBy) := goodIn_app (goodIn_of _ (by decide +kernel)) ggX3_heardAside_X0_goBy
theorem dX3_heardAside_0 : decode cX3_heardAside 0 = .ok (.aload_n 0, 1) := by decide +kernel
theorem dX3_heardAside_1 : decode cX3_heardAside 1 = .ok (.getfield 47, 3) := by decide +kernel
theorem dX3_heardAside_4 : decode cX3_heardAside 4 = .ok (.aload_n 0, 1) := by decide +kernel
theorem dX3_heardAside_5 : decode cX3_heardAside 5 = .ok (.getfield 33, 3) := by decide +kernel
theorem dX3_heardAside_8 : decode cX3_heardAside 8 = .ok (.invokevirtual 108, 3) := by decide +kernel
theorem dX3_heardAside_11 : decode cX3_heardAside 11 = .ok (.iconst 0, 1) := by decide +kernel
theorem dX3_heardAside_12 : decode cX3_heardAside 12 = .ok (.istore_n 3, 1) := by decide +kernel
theorem dX3_heardAside_13 : decode cX3_heardAside 13 = .ok (.iload_n 3, 1) := by decide +kernel
theorem dX3_heardAside_14 : decode cX3_heardAside 14 = .ok (.iload_n 1, 1) := by decide +kernel
theorem dX3_heardAside_15 : decode cX3_heardAside 15 = .ok (.if_icmp .ge 29, 3) := by decide +kernel
theorem dX3_heardAside_18 : decode cX3_heardAside 18 = .ok (.aload_n 0, 1) := by decide +kernel
theorem dX3_heardAside_19 : decode cX3_heardAside 19 = .ok (.getfield 47, 3) := by decide +kernel
theorem dX3_heardAside_22 : decode cX3_heardAside 22 = .ok (.iload_n 2, 1) := by decide +kernel
theorem dX3_heardAside_23 : decode cX3_heardAside 23 = .ok (.invokevirtual 242, 3) := by decide +kernel
theorem dX3_heardAside_26 : decode cX3_heardAside 26 = .ok (.ifCond .le 18, 3) := by decide +kernel
theorem dX3_heardAside_29 : decode cX3_heardAside 29 = .ok (.aload_n 0, 1) := by decide +kernel
theorem dX3_heardAside_30 : decode cX3_heardAside 30 = .ok (.getfield 47, 3) := by decide +kernel
theorem dX3_heardAside_33 : decode cX3_heardAside 33 = .ok (.iload_n 2, 1) := by decide +kernel
theorem dX3_heardAside_34 : decode cX3_heardAside 34 = .ok (.invokevirtual 183, 3) := by decide +kernel
theorem dX3_heardAside_37 : decode cX3_heardAside 37 = .ok (.pop, 1) := by decide +kernel
theorem dX3_heardAside_38 : decode cX3_heardAside 38 = .ok (.iinc 3 1, 3) := by decide +kernel
theorem dX3_heardAside_41 : decode cX3_heardAside 41 = .ok (.goto (-28), 3) := by decide +kernel
theorem dX3_heardAside_44 : decode cX3_heardAside 44 = .ok (.aload_n 0, 1) := by decide +kernel
theorem dX3_heardAside_45 : decode cX3_heardAside 45 = .ok (.getfield 47, 3) := by decide +kernel
theorem dX3_heardAside_48 : decode cX3_heardAside 48 = .ok (.getfield 223, 3) := by decide +kernel
theorem dX3_heardAside_51 : decode cX3_heardAside 51 = .ok (.aload_n 0, 1) := by decide +kernel
theorem dX3_heardAside_52 : decode cX3_heardAside 52 = .ok (.getfield 33, 3) := by decide +kernel
theorem dX3_heardAside_55 : decode cX3_heardAside 55 = .ok (.getfield 223, 3) := by decide +kernel
theorem dX3_heardAside_58 : decode cX3_heardAside 58 = .ok (.isub, 1) := by decide +kernel
theorem dX3_heardAside_59 : decode cX3_heardAside 59 = .ok (.ireturn, 1) := by decide +kernel
/-! X3_heardAside (II)I -/
abbrev rmX3_heardAside : Room := { frames := 5, cells := 0, slots := 0, locals := 105 }
theorem lkX3_heardAside_0 : Cond.fieldLink RX3 47 (TX3 8).1 (TX3 8).2.1 (TX3 8).2.2.1 ∈ wsX3_heardAside := by decide +kernel
theorem lkX3_heardAside_1 : Cond.fieldLink RX3 33 (TX3 5).1 (TX3 5).2.1 (TX3 5).2.2.1 ∈ wsX3_heardAside := by decide +kernel
theorem lkX3_heardAside_2 : Cond.fieldLink RX3 223 (TX0 3).1 (TX0 3).2.1 (TX0 3).2.2.1 ∈ wsX3_heardAside := by decide +kernel
theorem inX3_heardAside_X3 : ∀ w ∈ u_ws RX3 TX3 17, w ∈ wsX3_heardAside := by decide +kernel
theorem inX3_heardAside_X0 : ∀ w ∈ u_ws RX0 TX0 6, w ∈ wsX3_heardAside := by decide +kernel
noncomputable def fX3_heardAside_b44 (G : mm_G) (a0 : Nat) (x1 : Int32) (x2 : Int32) (σ : mm_M) : Option ((Int32 × mm_M) ⊕ (Int32 × mm_M)) := some (.inl ((σ.1 (mm_R G a0 8) 3) - (σ.1 (mm_R G a0 5) 3), σ))
noncomputable def fX3_heardAside_b13 (G : mm_G) (a0 : Nat) (x1 : Int32) (x2 : Int32) (x3 : Int32) (σ : mm_M) : Option ((Int32 × mm_M) ⊕ (Int32 × mm_M)) := if x3 < x1 then ((fX0_lettersBut G (mm_R G a0 8) x2 σ).bind (fun q23 => if 0 < q23.1 then ((fX0_goBy G (mm_R G a0 8) x2 q23.2).bind (fun q34 => some (.inr (x3 + 1, q34.2)))) else (fX3_heardAside_b44 G a0 x1 x2 q23.2))) else (fX3_heardAside_b44 G a0 x1 x2 σ)
noncomputable def fX3_heardAside_b0 (G : mm_G) (a0 : Nat) (x1 : Int32) (x2 : Int32) (σ : mm_M) : Option ((Int32 × mm_M) ⊕ (Int32 × mm_M)) := (fX0_become G (mm_R G a0 8) (mm_R G a0 5) σ).bind (fun q8 => some (.inr ((0 : Int32), q8)))
noncomputable def fX3_heardAside_s (G : mm_G) (a0 : Nat) (x1 : Int32) (x2 : Int32) : (Int32 × mm_M) → Option ((Int32 × mm_M) ⊕ (Int32 × mm_M)) := (fun s => fX3_heardAside_b13 G a0 x1 x2 s.1 s.2)
def PX3_heardAside (E : mm_E) (G : mm_G) (a0 : Nat) (x1 : Int32) (x2 : Int32) (q : (Int32 × mm_M)) : (Int32 × mm_M) → Prop := (fun s => mm_At E G 4 (mm_Qi E G q) s.2 13 [(0, .ref a0), (1, .int x1), (2, .int x2), (3, .int s.1)] [])
noncomputable def fX3_heardAside (G : mm_G) (a0 : Nat) (x1 : Int32) (x2 : Int32) (σ : mm_M) : Option (Int32 × mm_M) := mm_run (fX3_heardAside_b0 G a0 x1 x2 σ) (fX3_heardAside_s G a0 x1 x2)
set_option maxHeartbeats 4000000 in
set_option maxRecDepth 100000 in
theorem wX3_heardAside_b44 {E : mm_E} {G : mm_G} (X : mm_Cx E G cX3_heardAside 4 RX3 wsX3_heardAside rmX3_heardAside (some .int)) {a0 : Nat} {x1 : Int32} {x2 : Int32} {σ : mm_M} {q : (Int32 × mm_M)} (ha0 : mm_Is G 3 a0) {o : (Int32 × mm_M) ⊕ (Int32 × mm_M)} (h : fX3_heardAside_b44 G a0 x1 x2 σ = some o) (hk : mm_Ok q (PX3_heardAside E G a0 x1 x2 q) o) : mm_At E G 4 (mm_Qi E G q) σ 44 [(0, .ref a0)] [] := by
  unfold fX3_heardAside_b44 at h
  refine at_aload_n (pc := 44) X 0 0 dX3_heardAside_44 rfl rfl ?_
  refine at_get (pc := 45) X 3 8 (.ref (mm_R G a0 8)) ha0 (by decide) rfl inX3_heardAside_X3 (by decide) lkX3_heardAside_0 rfl dX3_heardAside_45 ?_
  refine at_get (pc := 48) X 0 3 (.int (σ.1 (mm_R G a0 8) 3)) (wf_3_8 X.wf ha0) (by decide) rfl inX3_heardAside_X0 (by decide) lkX3_heardAside_2 rfl dX3_heardAside_48 ?_
  refine at_aload_n (pc := 51) X 0 0 dX3_heardAside_51 rfl rfl ?_
  refine at_get (pc := 52) X 3 5 (.ref (mm_R G a0 5)) ha0 (by decide) rfl inX3_heardAside_X3 (by decide) lkX3_heardAside_1 rfl dX3_heardAside_52 ?_
  refine at_get (pc := 55) X 0 3 (.int (σ.1 (mm_R G a0 5) 3)) (wf_3_5 X.wf ha0) (by decide) rfl inX3_heardAside_X0 (by decide) lkX3_heardAside_2 rfl dX3_heardAside_55 ?_
  refine at_isub (pc := 58) X dX3_heardAside_58 ?_
  exact at_iret (pc := 59) X (mm_inl h hk) dX3_heardAside_59
set_option maxHeartbeats 4000000 in
set_option maxRecDepth 100000 in
theorem wX3_heardAside_b13 {E : mm_E} {G : mm_G} (X : mm_Cx E G cX3_heardAside 4 RX3 wsX3_heardAside rmX3_heardAside (some .int)) {a0 : Nat} {x1 : Int32} {x2 : Int32} {x3 : Int32} {σ : mm_M} {q : (Int32 × mm_M)} (ha0 : mm_Is G 3 a0) {o : (Int32 × mm_M) ⊕ (Int32 × mm_M)} (h : fX3_heardAside_b13 G a0 x1 x2 x3 σ = some o) (hk : mm_Ok q (PX3_heardAside E G a0 x1 x2 q) o) : mm_At E G 4 (mm_Qi E G q) σ 13 [(0, .ref a0), (1, .int x1), (2, .int x2), (3, .int x3)] [] := by
  unfold fX3_heardAside_b13 at h
  refine at_iload_n (pc := 13) X 3 3 dX3_heardAside_13 rfl rfl ?_
  refine at_iload_n (pc := 14) X 1 1 dX3_heardAside_14 rfl rfl ?_
  refine at_icmp_ge (pc := 15) X 44 dX3_heardAside_15 (by decide) (fun c15 => ?_) (fun c15 => ?_)
  · have h := mm_neg c15 h
    exact at_sub [0] rfl (wX3_heardAside_b44 X ha0 h hk)
  · have h := mm_pos c15 h
    refine at_aload_n (pc := 18) X 0 0 dX3_heardAside_18 rfl rfl ?_
    refine at_get (pc := 19) X 3 8 (.ref (mm_R G a0 8)) ha0 (by decide) rfl inX3_heardAside_X3 (by decide) lkX3_heardAside_0 rfl dX3_heardAside_19 ?_
    refine at_iload_n (pc := 22) X 2 2 dX3_heardAside_22 rfl rfl ?_
    obtain ⟨q23, hq23, h⟩ := mm_bind h
    refine at_calli (n := 1) (pc := 23) X 0 [.int x2] [] (mX0_lettersBut (eL E) X.wf (wf_3_8 X.wf ha0) hq23) gX3_heardAside_X0_lettersBut rfl ⟨rfl, rfl⟩ (by decide +kernel) ⟨by decide, by decide⟩ (by decide) rfl (wf_3_8 X.wf ha0) rfl rfl (Nat.le_of_ble_eq_true rfl) dX3_heardAside_23 ?_
    refine at_if_le (pc := 26) X 44 dX3_heardAside_26 (by decide) (fun c26 => ?_) (fun c26 => ?_)
    · have h := mm_neg c26 h
      exact at_sub [0] rfl (wX3_heardAside_b44 X ha0 h hk)
    · have h := mm_pos c26 h
      refine at_aload_n (pc := 29) X 0 0 dX3_heardAside_29 rfl rfl ?_
      refine at_get (pc := 30) X 3 8 (.ref (mm_R G a0 8)) ha0 (by decide) rfl inX3_heardAside_X3 (by decide) lkX3_heardAside_0 rfl dX3_heardAside_30 ?_
      refine at_iload_n (pc := 33) X 2 2 dX3_heardAside_33 rfl rfl ?_
      obtain ⟨q34, hq34, h⟩ := mm_bind h
      refine at_calli (n := 1) (pc := 34) X 0 [.int x2] [] (mX0_goBy (eL E) X.wf (wf_3_8 X.wf ha0) hq34) gX3_heardAside_X0_goBy rfl ⟨rfl, rfl⟩ (by decide +kernel) ⟨by decide, by decide⟩ (by decide) rfl (wf_3_8 X.wf ha0) rfl rfl (Nat.le_of_ble_eq_true rfl) dX3_heardAside_34 ?_
      refine at_pop (pc := 37) X dX3_heardAside_37 rfl ?_
      refine at_iinc (pc := 38) X 3 3 (x3 + 1) [(3, .int (x3 + 1)), (0, .ref a0), (1, .int x1), (2, .int x2)] dX3_heardAside_38 rfl (ii_1 _) (by decide) rfl ?_
      refine at_goto (pc := 41) X 13 dX3_heardAside_41 (by decide) ?_
      have h2 := mm_inr h hk; exact at_sub [1, 2, 3, 0] rfl h2
set_option maxHeartbeats 4000000 in
set_option maxRecDepth 100000 in
theorem wX3_heardAside_b0 {E : mm_E} {G : mm_G} (X : mm_Cx E G cX3_heardAside 4 RX3 wsX3_heardAside rmX3_heardAside (some .int)) {a0 : Nat} {x1 : Int32} {x2 : Int32} {σ : mm_M} {q : (Int32 × mm_M)} (ha0 : mm_Is G 3 a0) {o : (Int32 × mm_M) ⊕ (Int32 × mm_M)} (h : fX3_heardAside_b0 G a0 x1 x2 σ = some o) (hk : mm_Ok q (PX3_heardAside E G a0 x1 x2 q) o) : mm_At E G 4 (mm_Qi E G q) σ 0 [(0, .ref a0), (1, .int x1), (2, .int x2)] [] := by
  unfold fX3_heardAside_b0 at h
  refine at_aload_n (pc := 0) X 0 0 dX3_heardAside_0 rfl rfl ?_
  refine at_get (pc := 1) X 3 8 (.ref (mm_R G a0 8)) ha0 (by decide) rfl inX3_heardAside_X3 (by decide) lkX3_heardAside_0 rfl dX3_heardAside_1 ?_
  refine at_aload_n (pc := 4) X 0 0 dX3_heardAside_4 rfl rfl ?_
  refine at_get (pc := 5) X 3 5 (.ref (mm_R G a0 5)) ha0 (by decide) rfl inX3_heardAside_X3 (by decide) lkX3_heardAside_1 rfl dX3_heardAside_5 ?_
  obtain ⟨q8, hq8, h⟩ := mm_bind h
  refine at_callv (n := 1) (pc := 8) X 0 [.ref (mm_R G a0 5)] [] (mX0_become (eL E) X.wf (wf_3_8 X.wf ha0) (wf_3_5 X.wf ha0) hq8) gX3_heardAside_X0_become rfl ⟨rfl, rfl⟩ (by decide +kernel) ⟨by decide, by decide⟩ (by decide) rfl (wf_3_8 X.wf ha0) rfl rfl (Nat.le_of_ble_eq_true rfl) dX3_heardAside_8 ?_
  refine at_iconst (pc := 11) X (0 : Int32) dX3_heardAside_11 ic_0 ?_
  refine at_istore_n (pc := 12) X 3 [(3, .int (0 : Int32)), (0, .ref a0), (1, .int x1), (2, .int x2)] dX3_heardAside_12 rfl (by decide) rfl ?_
  have h2 := mm_inr h hk; exact at_sub [1, 2, 3, 0] rfl h2
set_option maxHeartbeats 4000000 in
set_option maxRecDepth 100000 in
theorem mX3_heardAside (l : Launch) {G : mm_G} (hwf : mm_WF G) {a0 : Nat} {x1 : Int32} {x2 : Int32} {σ : mm_M} {q : (Int32 × mm_M)} (ha0 : mm_Is G 3 a0) (h : fX3_heardAside G a0 x1 x2 σ = some q) : mm_Mi l yX3_heardAside wsX3_heardAside rmX3_heardAside G [.ref a0, .int x1, .int x2] σ q := by
  refine mm_ofi (cc := cX3_heardAside) (nL := 4) (ret := some .int) (own := RX3) (lv0 := [(0, .ref a0), (1, .int x1), (2, .int x2)]) (by decide) rfl rfl (Nat.le_of_ble_eq_true rfl) rfl hwf (fun E hE X => ?_)
  obtain ⟨o, h0, hk⟩ := mm_run_ok (P := PX3_heardAside E G a0 x1 x2 q) h (fun s o hs hk => by exact wX3_heardAside_b13 X ha0 hs hk)
  exact wX3_heardAside_b0 X ha0 h0 hk
set_option maxRecDepth 20000 in
theorem ggX3_later_X0_has : GoodIn wsX3_later wsX0_has := goodIn_r _ [10, 11, 115, 116, 117, 118, 119, 120] (by decide +kernel) (by decide +kernel)
set_option maxRecDepth 20000 in
theorem gX3_later_X0_has : GoodIn wsX3_later (wsV RX3 113 RX0 yX0_has wsX0_has) := goodIn_app (goodIn_of _ (by decide +kernel)) ggX3_later_X0_has
set_option maxRecDepth 20000 in
theorem ggX3_later_X3_heardAside : GoodIn wsX3_later wsX3_heardAside := goodIn_r _ [16, 3, 1, 17, 18, 19, 20, 9, 21, 11, 22, 23, 24, 25, 26, 27, 28, 29, 30, 31, 32, 33, 34, 35, 36, 37, 38, 39, 40, 41, 42, 43, 44, 45, 46, 47, 48, 49, 50, 51, 52, 53, 54, 55, 56, 57, 58, 59, 60, 61, 62, 63, 64, 65, 66, 67, 68, 69, 70, 71, 72, 73, 74, 75, 76, 77, 78, 79, 80, 81, 82, 83, 84, 85, 86, 87, 88, 89, 90, 91, 92, 93, 94, 95, 96, 97, 98, 99, 100, 101, 102, 103, 104, 105, 106, 107, 108, 109, 110, 111, 112, 113, 114, 115, 116, 117, 118, 119, 120, 121, 122, 123, 124, 125, 126] (by decide +kernel) (by decide +kernel)
set_option maxRecDepth 20000 in
theorem gX3_later_X3_heardAside : GoodIn wsX3_later (wsV RX3 173 RX3 yX3_heardAside wsX3_heardAside) := goodIn_app (goodIn_of _ (by decide +kernel)) ggX3_later_X3_heardAside
theorem dX3_later_0 : decode cX3_later 0 = .ok (.aload_n 0, 1) := by decide +kernel
theorem dX3_later_1 : decode cX3_later 1 = .ok (.getfield 33, 3) := by decide +kernel
theorem dX3_later_4 : decode cX3_later 4 = .ok (.iload_n 1, 1) := by decide +kernel
theorem dX3_later_5 : decode cX3_later 5 = .ok (.invokevirtual 113, 3) := by decide +kernel
theorem dX3_later_8 : decode cX3_later 8 = .ok (.ifCond .eq 13, 3) := by decide +kernel
theorem dX3_later_11 : decode cX3_later 11 = .ok (.iload_n 2, 1) := by decide +kernel
theorem dX3_later_12 : decode cX3_later 12 = .ok (.ifCond .lt 9, 3) := by decide +kernel
theorem dX3_later_15 : decode cX3_later 15 = .ok (.iload_n 2, 1) := by decide +kernel
theorem dX3_later_16 : decode cX3_later 16 = .ok (.bipush 100, 2) := by decide +kernel
theorem dX3_later_18 : decode cX3_later 18 = .ok (.if_icmp .le 5, 3) := by decide +kernel
theorem dX3_later_21 : decode cX3_later 21 = .ok (.iconst (-1), 1) := by decide +kernel
theorem dX3_later_22 : decode cX3_later 22 = .ok (.ireturn, 1) := by decide +kernel
theorem dX3_later_23 : decode cX3_later 23 = .ok (.aload_n 0, 1) := by decide +kernel
theorem dX3_later_24 : decode cX3_later 24 = .ok (.aload_n 0, 1) := by decide +kernel
theorem dX3_later_25 : decode cX3_later 25 = .ok (.iload_n 2, 1) := by decide +kernel
theorem dX3_later_26 : decode cX3_later 26 = .ok (.iconst 0, 1) := by decide +kernel
theorem dX3_later_27 : decode cX3_later 27 = .ok (.invokevirtual 173, 3) := by decide +kernel
theorem dX3_later_30 : decode cX3_later 30 = .ok (.putfield 59, 3) := by decide +kernel
theorem dX3_later_33 : decode cX3_later 33 = .ok (.aload_n 0, 1) := by decide +kernel
theorem dX3_later_34 : decode cX3_later 34 = .ok (.getfield 47, 3) := by decide +kernel
theorem dX3_later_37 : decode cX3_later 37 = .ok (.getfield 116, 3) := by decide +kernel
theorem dX3_later_40 : decode cX3_later 40 = .ok (.iload_n 1, 1) := by decide +kernel
theorem dX3_later_41 : decode cX3_later 41 = .ok (.aaload, 1) := by decide +kernel
theorem dX3_later_42 : decode cX3_later 42 = .ok (.getfield 150, 3) := by decide +kernel
theorem dX3_later_45 : decode cX3_later 45 = .ok (.ireturn, 1) := by decide +kernel
/-! X3_later (II)I -/
abbrev rmX3_later : Room := { frames := 6, cells := 0, slots := 0, locals := 128 }
theorem lkX3_later_0 : Cond.fieldLink RX3 33 (TX3 5).1 (TX3 5).2.1 (TX3 5).2.2.1 ∈ wsX3_later := by decide +kernel
theorem lkX3_later_1 : Cond.fieldLink RX3 59 (TX3 12).1 (TX3 12).2.1 (TX3 12).2.2.1 ∈ wsX3_later := by decide +kernel
theorem lkX3_later_2 : Cond.fieldLink RX3 47 (TX3 8).1 (TX3 8).2.1 (TX3 8).2.2.1 ∈ wsX3_later := by decide +kernel
theorem lkX3_later_3 : Cond.fieldLink RX3 116 (TX0 0).1 (TX0 0).2.1 (TX0 0).2.2.1 ∈ wsX3_later := by decide +kernel
theorem lkX3_later_4 : Cond.fieldLink RX3 150 (TX2 3).1 (TX2 3).2.1 (TX2 3).2.2.1 ∈ wsX3_later := by decide +kernel
theorem inX3_later_X3 : ∀ w ∈ u_ws RX3 TX3 17, w ∈ wsX3_later := by decide +kernel
theorem inX3_later_X0 : ∀ w ∈ u_ws RX0 TX0 6, w ∈ wsX3_later := by decide +kernel
theorem inX3_later_X2 : ∀ w ∈ u_ws RX2 TX2 6, w ∈ wsX3_later := by decide +kernel
noncomputable def fX3_later (G : mm_G) (a0 : Nat) (x1 : Int32) (x2 : Int32) (σ : mm_M) : Option (Int32 × mm_M) := (fX0_has G (mm_R G a0 5) x1 σ).bind (fun q5 => if q5.1 = 0 then (some ((-1 : Int32), q5.2)) else (if x2 < 0 then (some ((-1 : Int32), q5.2)) else (if (100 : Int32) < x2 then (some ((-1 : Int32), q5.2)) else ((fX3_heardAside G a0 x2 (0 : Int32) q5.2).bind (fun q27 => if x1 < 0 ∨ mm_N G (mm_R G (mm_R G a0 8) 0) ≤ x1.toNatClampNeg then none else (some ((mm_up q27.2 a0 12 q27.1).1 (mm_R G (mm_R G (mm_R G a0 8) 0) x1.toNatClampNeg) 3, mm_up q27.2 a0 12 q27.1)))))))
set_option maxHeartbeats 4000000 in
set_option maxRecDepth 100000 in
theorem wX3_later_b0 {E : mm_E} {G : mm_G} (X : mm_Cx E G cX3_later 3 RX3 wsX3_later rmX3_later (some .int)) {a0 : Nat} {x1 : Int32} {x2 : Int32} {σ : mm_M} {q : (Int32 × mm_M)} (ha0 : mm_Is G 3 a0) (h : fX3_later G a0 x1 x2 σ = some q) : mm_At E G 3 (mm_Qi E G q) σ 0 [(0, .ref a0), (1, .int x1), (2, .int x2)] [] := by
  unfold fX3_later at h
  refine at_aload_n (pc := 0) X 0 0 dX3_later_0 rfl rfl ?_
  refine at_get (pc := 1) X 3 5 (.ref (mm_R G a0 5)) ha0 (by decide) rfl inX3_later_X3 (by decide) lkX3_later_0 rfl dX3_later_1 ?_
  refine at_iload_n (pc := 4) X 1 1 dX3_later_4 rfl rfl ?_
  obtain ⟨q5, hq5, h⟩ := mm_bind h
  refine at_calli (n := 1) (pc := 5) X 0 [.int x1] [] (mX0_has (eL E) X.wf (wf_3_5 X.wf ha0) hq5) gX3_later_X0_has rfl ⟨rfl, rfl⟩ (by decide +kernel) ⟨by decide, by decide⟩ (by decide) rfl (wf_3_5 X.wf ha0) rfl rfl (Nat.le_of_ble_eq_true rfl) dX3_later_5 ?_
  refine at_if_eq (pc := 8) X 21 dX3_later_8 (by decide) (fun c8 => ?_) (fun c8 => ?_)
  · have h := mm_pos c8 h
    refine at_iconst (pc := 21) X (-1 : Int32) dX3_later_21 ic_m1 ?_
    exact at_iret (pc := 22) X (Option.some.inj h) dX3_later_22
  · have h := mm_neg c8 h
    refine at_iload_n (pc := 11) X 2 2 dX3_later_11 rfl rfl ?_
    refine at_if_lt (pc := 12) X 21 dX3_later_12 (by decide) (fun c12 => ?_) (fun c12 => ?_)
    · have h := mm_pos c12 h
      refine at_iconst (pc := 21) X (-1 : Int32) dX3_later_21 ic_m1 ?_
      exact at_iret (pc := 22) X (Option.some.inj h) dX3_later_22
    · have h := mm_neg c12 h
      refine at_iload_n (pc := 15) X 2 2 dX3_later_15 rfl rfl ?_
      refine at_bipush (pc := 16) X (100 : Int32) dX3_later_16 ib_100 ?_
      refine at_icmp_le (pc := 18) X 23 dX3_later_18 (by decide) (fun c18 => ?_) (fun c18 => ?_)
      · have h := mm_neg c18 h
        refine at_aload_n (pc := 23) X 0 0 dX3_later_23 rfl rfl ?_
        refine at_aload_n (pc := 24) X 0 0 dX3_later_24 rfl rfl ?_
        refine at_iload_n (pc := 25) X 2 2 dX3_later_25 rfl rfl ?_
        refine at_iconst (pc := 26) X (0 : Int32) dX3_later_26 ic_0 ?_
        obtain ⟨q27, hq27, h⟩ := mm_bind h
        refine at_calli (n := 2) (pc := 27) X 3 [.int x2, .int (0 : Int32)] [.ref a0] (mX3_heardAside (eL E) X.wf ha0 hq27) gX3_later_X3_heardAside rfl ⟨rfl, rfl⟩ (by decide +kernel) ⟨by decide, by decide⟩ (by decide) rfl ha0 rfl rfl (Nat.le_of_ble_eq_true rfl) dX3_later_27 ?_
        refine at_put (pc := 30) X 3 12 ha0 (by decide) rfl inX3_later_X3 tyX3 tyX3_ok nmX3 (by decide) lkX3_later_1 rfl (ty := .int) rfl rfl rfl (Nat.le_of_ble_eq_true rfl) (ms_3_12 G _ _ _) mm_up_ne dX3_later_30 ?_
        refine at_aload_n (pc := 33) X 0 0 dX3_later_33 rfl rfl ?_
        refine at_get (pc := 34) X 3 8 (.ref (mm_R G a0 8)) ha0 (by decide) rfl inX3_later_X3 (by decide) lkX3_later_2 rfl dX3_later_34 ?_
        refine at_get (pc := 37) X 0 0 (.ref (mm_R G (mm_R G a0 8) 0)) (wf_3_8 X.wf ha0) (by decide) rfl inX3_later_X0 (by decide) lkX3_later_3 rfl dX3_later_37 ?_
        refine at_iload_n (pc := 40) X 1 1 dX3_later_40 rfl rfl ?_
        obtain ⟨hc41, h⟩ := mm_chk h
        refine at_aald (pc := 41) X 8 3 (wf_0_0 X.wf (wf_3_8 X.wf ha0)) (by decide) (by decide) rfl rfl hc41 dX3_later_41 ?_
        refine at_get (pc := 42) X 2 3 (.int ((mm_up q27.2 a0 12 q27.1).1 (mm_R G (mm_R G (mm_R G a0 8) 0) x1.toNatClampNeg) 3)) (wf_8 X.wf (wf_0_0 X.wf (wf_3_8 X.wf ha0)) hc41) (by decide) rfl inX3_later_X2 (by decide) lkX3_later_4 rfl dX3_later_42 ?_
        exact at_iret (pc := 45) X (Option.some.inj h) dX3_later_45
      · have h := mm_pos c18 h
        refine at_iconst (pc := 21) X (-1 : Int32) dX3_later_21 ic_m1 ?_
        exact at_iret (pc := 22) X (Option.some.inj h) dX3_later_22
set_option maxHeartbeats 4000000 in
set_option maxRecDepth 100000 in
theorem mX3_later (l : Launch) {G : mm_G} (hwf : mm_WF G) {a0 : Nat} {x1 : Int32} {x2 : Int32} {σ : mm_M} {q : (Int32 × mm_M)} (ha0 : mm_Is G 3 a0) (h : fX3_later G a0 x1 x2 σ = some q) : mm_Mi l yX3_later wsX3_later rmX3_later G [.ref a0, .int x1, .int x2] σ q := by
  refine mm_ofi (cc := cX3_later) (nL := 3) (ret := some .int) (own := RX3) (lv0 := [(0, .ref a0), (1, .int x1), (2, .int x2)]) (by decide) rfl rfl (Nat.le_of_ble_eq_true rfl) rfl hwf (fun E hE X => ?_)
  exact wX3_later_b0 X ha0 h
set_option maxRecDepth 20000 in
theorem ggX3_ends_X0_become : GoodIn wsX3_ends wsX0_become := goodIn_r _ [10, 11, 12, 13, 14, 15, 16, 17, 18, 19, 20, 21, 22, 23, 24, 25, 26, 27, 109, 110, 111, 112, 113, 114, 115, 116, 117, 118, 119, 120] (by decide +kernel) (by decide +kernel)
set_option maxRecDepth 20000 in
theorem gX3_ends_X0_become : GoodIn wsX3_ends (wsV RX3 108 RX0 yX0_become wsX0_become) := goodIn_app (goodIn_of _ (by decide +kernel)) ggX3_ends_X0_become
set_option maxRecDepth 20000 in
theorem ggX3_ends_X0_goToEnd : GoodIn wsX3_ends wsX0_goToEnd := goodIn_r _ [31, 32, 33, 34, 9, 35, 11, 16, 36, 37, 38, 39, 40, 41, 13, 12, 14, 15, 42, 43, 44, 45, 46, 47, 48, 20, 49, 25, 26, 50, 51, 52, 53, 22, 54, 55, 56, 57, 58, 59, 60, 61, 62, 63, 64, 27, 65, 66, 67, 68, 69, 70, 71, 72, 73, 74, 75, 76, 23, 24, 77, 78, 79, 80, 81, 82, 83, 84, 85, 86, 87, 88, 89, 90, 91, 109, 110, 111, 112, 113, 114, 115, 116, 117, 118, 119, 120] (by decide +kernel) (by decide +kernel)
set_option maxRecDepth 20000 in
theorem gX3_ends_X0_goToEnd : GoodIn wsX3_ends (wsV RX3 176 RX0 yX0_goToEnd wsX0_goToEnd) := goodIn_app (goodIn_of _ (by decide +kernel)) ggX3_ends_X0_goToEnd
theorem dX3_ends_0 : decode cX3_ends 0 = .ok (.aload_n 0, 1) := by decide +kernel
theorem dX3_ends_1 : decode cX3_ends 1 = .ok (.getfield 33, 3) := by decide +kernel
theorem dX3_ends_4 : decode cX3_ends 4 = .ok (.getfield 112, 3) := by decide +kernel
theorem dX3_ends_7 : decode cX3_ends 7 = .ok (.ifCond .ne 6, 3) := by decide +kernel
theorem dX3_ends_10 : decode cX3_ends 10 = .ok (.bipush (-4), 2) := by decide +kernel
theorem dX3_ends_12 : decode cX3_ends 12 = .ok (.ireturn, 1) := by decide +kernel
theorem dX3_ends_13 : decode cX3_ends 13 = .ok (.aload_n 0, 1) := by decide +kernel
theorem dX3_ends_14 : decode cX3_ends 14 = .ok (.getfield 47, 3) := by decide +kernel
theorem dX3_ends_17 : decode cX3_ends 17 = .ok (.aload_n 0, 1) := by decide +kernel
theorem dX3_ends_18 : decode cX3_ends 18 = .ok (.getfield 33, 3) := by decide +kernel
theorem dX3_ends_21 : decode cX3_ends 21 = .ok (.invokevirtual 108, 3) := by decide +kernel
theorem dX3_ends_24 : decode cX3_ends 24 = .ok (.aload_n 0, 1) := by decide +kernel
theorem dX3_ends_25 : decode cX3_ends 25 = .ok (.getfield 47, 3) := by decide +kernel
theorem dX3_ends_28 : decode cX3_ends 28 = .ok (.invokevirtual 176, 3) := by decide +kernel
theorem dX3_ends_31 : decode cX3_ends 31 = .ok (.istore_n 1, 1) := by decide +kernel
theorem dX3_ends_32 : decode cX3_ends 32 = .ok (.iload_n 1, 1) := by decide +kernel
theorem dX3_ends_33 : decode cX3_ends 33 = .ok (.bipush (-9), 2) := by decide +kernel
theorem dX3_ends_35 : decode cX3_ends 35 = .ok (.if_icmp .eq 22, 3) := by decide +kernel
theorem dX3_ends_38 : decode cX3_ends 38 = .ok (.aload_n 0, 1) := by decide +kernel
theorem dX3_ends_39 : decode cX3_ends 39 = .ok (.aload_n 0, 1) := by decide +kernel
theorem dX3_ends_40 : decode cX3_ends 40 = .ok (.getfield 47, 3) := by decide +kernel
theorem dX3_ends_43 : decode cX3_ends 43 = .ok (.getfield 180, 3) := by decide +kernel
theorem dX3_ends_46 : decode cX3_ends 46 = .ok (.aload_n 0, 1) := by decide +kernel
theorem dX3_ends_47 : decode cX3_ends 47 = .ok (.getfield 33, 3) := by decide +kernel
theorem dX3_ends_50 : decode cX3_ends 50 = .ok (.getfield 180, 3) := by decide +kernel
theorem dX3_ends_53 : decode cX3_ends 53 = .ok (.isub, 1) := by decide +kernel
theorem dX3_ends_54 : decode cX3_ends 54 = .ok (.putfield 59, 3) := by decide +kernel
theorem dX3_ends_57 : decode cX3_ends 57 = .ok (.iload_n 1, 1) := by decide +kernel
theorem dX3_ends_58 : decode cX3_ends 58 = .ok (.ireturn, 1) := by decide +kernel
/-! X3_ends ()I -/
abbrev rmX3_ends : Room := { frames := 6, cells := 0, slots := 0, locals := 126 }
theorem lkX3_ends_0 : Cond.fieldLink RX3 33 (TX3 5).1 (TX3 5).2.1 (TX3 5).2.2.1 ∈ wsX3_ends := by decide +kernel
theorem lkX3_ends_1 : Cond.fieldLink RX3 112 (TX0 1).1 (TX0 1).2.1 (TX0 1).2.2.1 ∈ wsX3_ends := by decide +kernel
theorem lkX3_ends_2 : Cond.fieldLink RX3 47 (TX3 8).1 (TX3 8).2.1 (TX3 8).2.2.1 ∈ wsX3_ends := by decide +kernel
theorem lkX3_ends_3 : Cond.fieldLink RX3 180 (TX0 4).1 (TX0 4).2.1 (TX0 4).2.2.1 ∈ wsX3_ends := by decide +kernel
theorem lkX3_ends_4 : Cond.fieldLink RX3 59 (TX3 12).1 (TX3 12).2.1 (TX3 12).2.2.1 ∈ wsX3_ends := by decide +kernel
theorem inX3_ends_X3 : ∀ w ∈ u_ws RX3 TX3 17, w ∈ wsX3_ends := by decide +kernel
theorem inX3_ends_X0 : ∀ w ∈ u_ws RX0 TX0 6, w ∈ wsX3_ends := by decide +kernel
noncomputable def fX3_ends (G : mm_G) (a0 : Nat) (σ : mm_M) : Option (Int32 × mm_M) := if (σ.1 (mm_R G a0 5) 1) = 0 then (some ((-4 : Int32), σ)) else ((fX0_become G (mm_R G a0 8) (mm_R G a0 5) σ).bind (fun q21 => (fX0_goToEnd G (mm_R G a0 8) q21).bind (fun q28 => if q28.1 = (-9 : Int32) then (some (q28.1, q28.2)) else (some (q28.1, mm_up q28.2 a0 12 ((q28.2.1 (mm_R G a0 8) 4) - (q28.2.1 (mm_R G a0 5) 4)))))))
set_option maxHeartbeats 4000000 in
set_option maxRecDepth 100000 in
theorem wX3_ends_b0 {E : mm_E} {G : mm_G} (X : mm_Cx E G cX3_ends 2 RX3 wsX3_ends rmX3_ends (some .int)) {a0 : Nat} {σ : mm_M} {q : (Int32 × mm_M)} (ha0 : mm_Is G 3 a0) (h : fX3_ends G a0 σ = some q) : mm_At E G 2 (mm_Qi E G q) σ 0 [(0, .ref a0)] [] := by
  unfold fX3_ends at h
  refine at_aload_n (pc := 0) X 0 0 dX3_ends_0 rfl rfl ?_
  refine at_get (pc := 1) X 3 5 (.ref (mm_R G a0 5)) ha0 (by decide) rfl inX3_ends_X3 (by decide) lkX3_ends_0 rfl dX3_ends_1 ?_
  refine at_get (pc := 4) X 0 1 (.int (σ.1 (mm_R G a0 5) 1)) (wf_3_5 X.wf ha0) (by decide) rfl inX3_ends_X0 (by decide) lkX3_ends_1 rfl dX3_ends_4 ?_
  refine at_if_ne (pc := 7) X 13 dX3_ends_7 (by decide) (fun c7 => ?_) (fun c7 => ?_)
  · have h := mm_neg c7 h
    refine at_aload_n (pc := 13) X 0 0 dX3_ends_13 rfl rfl ?_
    refine at_get (pc := 14) X 3 8 (.ref (mm_R G a0 8)) ha0 (by decide) rfl inX3_ends_X3 (by decide) lkX3_ends_2 rfl dX3_ends_14 ?_
    refine at_aload_n (pc := 17) X 0 0 dX3_ends_17 rfl rfl ?_
    refine at_get (pc := 18) X 3 5 (.ref (mm_R G a0 5)) ha0 (by decide) rfl inX3_ends_X3 (by decide) lkX3_ends_0 rfl dX3_ends_18 ?_
    obtain ⟨q21, hq21, h⟩ := mm_bind h
    refine at_callv (n := 1) (pc := 21) X 0 [.ref (mm_R G a0 5)] [] (mX0_become (eL E) X.wf (wf_3_8 X.wf ha0) (wf_3_5 X.wf ha0) hq21) gX3_ends_X0_become rfl ⟨rfl, rfl⟩ (by decide +kernel) ⟨by decide, by decide⟩ (by decide) rfl (wf_3_8 X.wf ha0) rfl rfl (Nat.le_of_ble_eq_true rfl) dX3_ends_21 ?_
    refine at_aload_n (pc := 24) X 0 0 dX3_ends_24 rfl rfl ?_
    refine at_get (pc := 25) X 3 8 (.ref (mm_R G a0 8)) ha0 (by decide) rfl inX3_ends_X3 (by decide) lkX3_ends_2 rfl dX3_ends_25 ?_
    obtain ⟨q28, hq28, h⟩ := mm_bind h
    refine at_calli (n := 0) (pc := 28) X 0 [] [] (mX0_goToEnd (eL E) X.wf (wf_3_8 X.wf ha0) hq28) gX3_ends_X0_goToEnd rfl ⟨rfl, rfl⟩ (by decide +kernel) ⟨by decide, by decide⟩ (by decide) rfl (wf_3_8 X.wf ha0) rfl rfl (Nat.le_of_ble_eq_true rfl) dX3_ends_28 ?_
    refine at_istore_n (pc := 31) X 1 [(1, .int q28.1), (0, .ref a0)] dX3_ends_31 rfl (by decide) rfl ?_
    refine at_iload_n (pc := 32) X 1 0 dX3_ends_32 rfl rfl ?_
    refine at_bipush (pc := 33) X (-9 : Int32) dX3_ends_33 ib_m9 ?_
    refine at_icmp_eq (pc := 35) X 57 dX3_ends_35 (by decide) (fun c35 => ?_) (fun c35 => ?_)
    · have h := mm_pos c35 h
      refine at_iload_n (pc := 57) X 1 0 dX3_ends_57 rfl rfl ?_
      exact at_iret (pc := 58) X (Option.some.inj h) dX3_ends_58
    · have h := mm_neg c35 h
      refine at_aload_n (pc := 38) X 0 1 dX3_ends_38 rfl rfl ?_
      refine at_aload_n (pc := 39) X 0 1 dX3_ends_39 rfl rfl ?_
      refine at_get (pc := 40) X 3 8 (.ref (mm_R G a0 8)) ha0 (by decide) rfl inX3_ends_X3 (by decide) lkX3_ends_2 rfl dX3_ends_40 ?_
      refine at_get (pc := 43) X 0 4 (.int (q28.2.1 (mm_R G a0 8) 4)) (wf_3_8 X.wf ha0) (by decide) rfl inX3_ends_X0 (by decide) lkX3_ends_3 rfl dX3_ends_43 ?_
      refine at_aload_n (pc := 46) X 0 1 dX3_ends_46 rfl rfl ?_
      refine at_get (pc := 47) X 3 5 (.ref (mm_R G a0 5)) ha0 (by decide) rfl inX3_ends_X3 (by decide) lkX3_ends_0 rfl dX3_ends_47 ?_
      refine at_get (pc := 50) X 0 4 (.int (q28.2.1 (mm_R G a0 5) 4)) (wf_3_5 X.wf ha0) (by decide) rfl inX3_ends_X0 (by decide) lkX3_ends_3 rfl dX3_ends_50 ?_
      refine at_isub (pc := 53) X dX3_ends_53 ?_
      refine at_put (pc := 54) X 3 12 ha0 (by decide) rfl inX3_ends_X3 tyX3 tyX3_ok nmX3 (by decide) lkX3_ends_4 rfl (ty := .int) rfl rfl rfl (Nat.le_of_ble_eq_true rfl) (ms_3_12 G _ _ _) mm_up_ne dX3_ends_54 ?_
      refine at_iload_n (pc := 57) X 1 0 dX3_ends_57 rfl rfl ?_
      exact at_iret (pc := 58) X (Option.some.inj h) dX3_ends_58
  · have h := mm_pos c7 h
    refine at_bipush (pc := 10) X (-4 : Int32) dX3_ends_10 ib_m4 ?_
    exact at_iret (pc := 12) X (Option.some.inj h) dX3_ends_12
set_option maxHeartbeats 4000000 in
set_option maxRecDepth 100000 in
theorem mX3_ends (l : Launch) {G : mm_G} (hwf : mm_WF G) {a0 : Nat} {σ : mm_M} {q : (Int32 × mm_M)} (ha0 : mm_Is G 3 a0) (h : fX3_ends G a0 σ = some q) : mm_Mi l yX3_ends wsX3_ends rmX3_ends G [.ref a0] σ q := by
  refine mm_ofi (cc := cX3_ends) (nL := 2) (ret := some .int) (own := RX3) (lv0 := [(0, .ref a0)]) (by decide) rfl rfl (Nat.le_of_ble_eq_true rfl) rfl hwf (fun E hE X => ?_)
  exact wX3_ends_b0 X ha0 h
set_option maxRecDepth 20000 in
theorem ggX3_clash_X0_become : GoodIn wsX3_clash wsX0_become := goodIn_r _ [9, 10, 11, 12, 13, 14, 15, 16, 17, 18, 19, 20, 21, 22, 23, 24, 25, 26, 100, 101, 102, 103, 104, 105, 106, 107, 108, 109, 110, 111] (by decide +kernel) (by decide +kernel)
set_option maxRecDepth 20000 in
theorem gX3_clash_X0_become : GoodIn wsX3_clash (wsV RX3 108 RX0 yX0_become wsX0_become) := goodIn_app (goodIn_of _ (by decide +kernel)) ggX3_clash_X0_become
set_option maxRecDepth 20000 in
theorem ggX3_clash_X0_goBy : GoodIn wsX3_clash wsX0_goBy := goodIn_r _ [30, 10, 15, 31, 12, 11, 13, 14, 32, 33, 34, 8, 35, 36, 37, 38, 19, 39, 24, 25, 40, 41, 42, 43, 21, 44, 45, 46, 47, 48, 49, 50, 51, 52, 53, 54, 26, 55, 56, 57, 58, 59, 60, 61, 62, 63, 64, 65, 66, 22, 23, 67, 68, 69, 70, 71, 72, 73, 74, 75, 76, 77, 78, 79, 80, 81, 100, 101, 102, 103, 104, 105, 106, 107, 108, 109, 110, 111] (by decide +kernel) (by decide +kernel)
set_option maxRecDepth 20000 in
theorem gX3_clash_X0_goBy : GoodIn wsX3_clash (wsV RX3 183 RX0 yX0_goBy wsX0_goBy) := goodIn_app (goodIn_of _ (by decide +kernel)) ggX3_clash_X0_goBy
set_option maxRecDepth 20000 in
theorem ggX3_clash_J6_bitCount_0f7a4 : GoodIn wsX3_clash wsJ6_bitCount_0f7a4 := goodIn_r _ [47, 48, 49, 50] (by decide +kernel) (by decide +kernel)
set_option maxRecDepth 20000 in
theorem gX3_clash_J6_bitCount_0f7a4 : GoodIn wsX3_clash (va_wsS RX3 168 yJ6_bitCount_0f7a4 wsJ6_bitCount_0f7a4) := goodIn_app (goodIn_of _ (by decide +kernel)) ggX3_clash_J6_bitCount_0f7a4
theorem dX3_clash_0 : decode cX3_clash 0 = .ok (.aload_n 0, 1) := by decide +kernel
theorem dX3_clash_1 : decode cX3_clash 1 = .ok (.getfield 33, 3) := by decide +kernel
theorem dX3_clash_4 : decode cX3_clash 4 = .ok (.getfield 112, 3) := by decide +kernel
theorem dX3_clash_7 : decode cX3_clash 7 = .ok (.ifCond .ne 6, 3) := by decide +kernel
theorem dX3_clash_10 : decode cX3_clash 10 = .ok (.bipush (-4), 2) := by decide +kernel
theorem dX3_clash_12 : decode cX3_clash 12 = .ok (.ireturn, 1) := by decide +kernel
theorem dX3_clash_13 : decode cX3_clash 13 = .ok (.aload_n 0, 1) := by decide +kernel
theorem dX3_clash_14 : decode cX3_clash 14 = .ok (.getfield 47, 3) := by decide +kernel
theorem dX3_clash_17 : decode cX3_clash 17 = .ok (.aload_n 0, 1) := by decide +kernel
theorem dX3_clash_18 : decode cX3_clash 18 = .ok (.getfield 33, 3) := by decide +kernel
theorem dX3_clash_21 : decode cX3_clash 21 = .ok (.invokevirtual 108, 3) := by decide +kernel
theorem dX3_clash_24 : decode cX3_clash 24 = .ok (.iconst 1, 1) := by decide +kernel
theorem dX3_clash_25 : decode cX3_clash 25 = .ok (.istore_n 1, 1) := by decide +kernel
theorem dX3_clash_26 : decode cX3_clash 26 = .ok (.iload_n 1, 1) := by decide +kernel
theorem dX3_clash_27 : decode cX3_clash 27 = .ok (.sipush 200, 3) := by decide +kernel
theorem dX3_clash_30 : decode cX3_clash 30 = .ok (.if_icmp .gt 33, 3) := by decide +kernel
theorem dX3_clash_33 : decode cX3_clash 33 = .ok (.aload_n 0, 1) := by decide +kernel
theorem dX3_clash_34 : decode cX3_clash 34 = .ok (.getfield 47, 3) := by decide +kernel
theorem dX3_clash_37 : decode cX3_clash 37 = .ok (.iconst 0, 1) := by decide +kernel
theorem dX3_clash_38 : decode cX3_clash 38 = .ok (.invokevirtual 183, 3) := by decide +kernel
theorem dX3_clash_41 : decode cX3_clash 41 = .ok (.istore_n 2, 1) := by decide +kernel
theorem dX3_clash_42 : decode cX3_clash 42 = .ok (.iload_n 2, 1) := by decide +kernel
theorem dX3_clash_43 : decode cX3_clash 43 = .ok (.invokestatic 168, 3) := by decide +kernel
theorem dX3_clash_46 : decode cX3_clash 46 = .ok (.iconst 1, 1) := by decide +kernel
theorem dX3_clash_47 : decode cX3_clash 47 = .ok (.if_icmp .le 10, 3) := by decide +kernel
theorem dX3_clash_50 : decode cX3_clash 50 = .ok (.aload_n 0, 1) := by decide +kernel
theorem dX3_clash_51 : decode cX3_clash 51 = .ok (.iload_n 2, 1) := by decide +kernel
theorem dX3_clash_52 : decode cX3_clash 52 = .ok (.putfield 59, 3) := by decide +kernel
theorem dX3_clash_55 : decode cX3_clash 55 = .ok (.iload_n 1, 1) := by decide +kernel
theorem dX3_clash_56 : decode cX3_clash 56 = .ok (.ireturn, 1) := by decide +kernel
theorem dX3_clash_57 : decode cX3_clash 57 = .ok (.iinc 1 1, 3) := by decide +kernel
theorem dX3_clash_60 : decode cX3_clash 60 = .ok (.goto (-34), 3) := by decide +kernel
theorem dX3_clash_63 : decode cX3_clash 63 = .ok (.bipush (-9), 2) := by decide +kernel
theorem dX3_clash_65 : decode cX3_clash 65 = .ok (.ireturn, 1) := by decide +kernel
/-! X3_clash ()I -/
abbrev rmX3_clash : Room := { frames := 5, cells := 0, slots := 0, locals := 105 }
theorem lkX3_clash_0 : Cond.fieldLink RX3 33 (TX3 5).1 (TX3 5).2.1 (TX3 5).2.2.1 ∈ wsX3_clash := by decide +kernel
theorem lkX3_clash_1 : Cond.fieldLink RX3 112 (TX0 1).1 (TX0 1).2.1 (TX0 1).2.2.1 ∈ wsX3_clash := by decide +kernel
theorem lkX3_clash_2 : Cond.fieldLink RX3 47 (TX3 8).1 (TX3 8).2.1 (TX3 8).2.2.1 ∈ wsX3_clash := by decide +kernel
theorem lkX3_clash_3 : Cond.fieldLink RX3 59 (TX3 12).1 (TX3 12).2.1 (TX3 12).2.2.1 ∈ wsX3_clash := by decide +kernel
theorem inX3_clash_X3 : ∀ w ∈ u_ws RX3 TX3 17, w ∈ wsX3_clash := by decide +kernel
theorem inX3_clash_X0 : ∀ w ∈ u_ws RX0 TX0 6, w ∈ wsX3_clash := by decide +kernel
noncomputable def fX3_clash_b26 (G : mm_G) (a0 : Nat) (x1 : Int32) (σ : mm_M) : Option ((Int32 × mm_M) ⊕ (Int32 × mm_M)) := if (200 : Int32) < x1 then (some (.inl ((-9 : Int32), σ))) else ((fX0_goBy G (mm_R G a0 8) (0 : Int32) σ).bind (fun q38 => (fJ6_bitCount_0f7a4 G q38.1 q38.2).bind (fun q43 => if (1 : Int32) < q43.1 then (some (.inl (x1, mm_up q43.2 a0 12 q38.1))) else (some (.inr (x1 + 1, q43.2))))))
noncomputable def fX3_clash_b0 (G : mm_G) (a0 : Nat) (σ : mm_M) : Option ((Int32 × mm_M) ⊕ (Int32 × mm_M)) := if (σ.1 (mm_R G a0 5) 1) = 0 then (some (.inl ((-4 : Int32), σ))) else ((fX0_become G (mm_R G a0 8) (mm_R G a0 5) σ).bind (fun q21 => some (.inr ((1 : Int32), q21))))
noncomputable def fX3_clash_s (G : mm_G) (a0 : Nat) : (Int32 × mm_M) → Option ((Int32 × mm_M) ⊕ (Int32 × mm_M)) := (fun s => fX3_clash_b26 G a0 s.1 s.2)
def PX3_clash (E : mm_E) (G : mm_G) (a0 : Nat) (q : (Int32 × mm_M)) : (Int32 × mm_M) → Prop := (fun s => mm_At E G 3 (mm_Qi E G q) s.2 26 [(0, .ref a0), (1, .int s.1)] [])
noncomputable def fX3_clash (G : mm_G) (a0 : Nat) (σ : mm_M) : Option (Int32 × mm_M) := mm_run (fX3_clash_b0 G a0 σ) (fX3_clash_s G a0)
set_option maxHeartbeats 4000000 in
set_option maxRecDepth 100000 in
theorem wX3_clash_b26 {E : mm_E} {G : mm_G} (X : mm_Cx E G cX3_clash 3 RX3 wsX3_clash rmX3_clash (some .int)) {a0 : Nat} {x1 : Int32} {σ : mm_M} {q : (Int32 × mm_M)} (ha0 : mm_Is G 3 a0) {o : (Int32 × mm_M) ⊕ (Int32 × mm_M)} (h : fX3_clash_b26 G a0 x1 σ = some o) (hk : mm_Ok q (PX3_clash E G a0 q) o) : mm_At E G 3 (mm_Qi E G q) σ 26 [(0, .ref a0), (1, .int x1)] [] := by
  unfold fX3_clash_b26 at h
  refine at_iload_n (pc := 26) X 1 1 dX3_clash_26 rfl rfl ?_
  refine at_sipush (pc := 27) X (200 : Int32) dX3_clash_27 is_200 ?_
  refine at_icmp_gt (pc := 30) X 63 dX3_clash_30 (by decide) (fun c30 => ?_) (fun c30 => ?_)
  · have h := mm_pos c30 h
    refine at_bipush (pc := 63) X (-9 : Int32) dX3_clash_63 ib_m9 ?_
    exact at_iret (pc := 65) X (mm_inl h hk) dX3_clash_65
  · have h := mm_neg c30 h
    refine at_aload_n (pc := 33) X 0 0 dX3_clash_33 rfl rfl ?_
    refine at_get (pc := 34) X 3 8 (.ref (mm_R G a0 8)) ha0 (by decide) rfl inX3_clash_X3 (by decide) lkX3_clash_2 rfl dX3_clash_34 ?_
    refine at_iconst (pc := 37) X (0 : Int32) dX3_clash_37 ic_0 ?_
    obtain ⟨q38, hq38, h⟩ := mm_bind h
    refine at_calli (n := 1) (pc := 38) X 0 [.int (0 : Int32)] [] (mX0_goBy (eL E) X.wf (wf_3_8 X.wf ha0) hq38) gX3_clash_X0_goBy rfl ⟨rfl, rfl⟩ (by decide +kernel) ⟨by decide, by decide⟩ (by decide) rfl (wf_3_8 X.wf ha0) rfl rfl (Nat.le_of_ble_eq_true rfl) dX3_clash_38 ?_
    refine at_istore_n (pc := 41) X 2 [(2, .int q38.1), (0, .ref a0), (1, .int x1)] dX3_clash_41 rfl (by decide) rfl ?_
    refine at_iload_n (pc := 42) X 2 0 dX3_clash_42 rfl rfl ?_
    obtain ⟨q43, hq43, h⟩ := mm_bind h
    refine at_scalli (n := 1) (pc := 43) X [.int q38.1] [] (mJ6_bitCount_0f7a4 (eL E) X.wf hq43) gX3_clash_J6_bitCount_0f7a4 rfl ⟨rfl, rfl⟩ (by decide +kernel) ⟨by decide, by decide⟩ rfl rfl (Nat.le_of_ble_eq_true rfl) dX3_clash_43 ?_
    refine at_iconst (pc := 46) X (1 : Int32) dX3_clash_46 ic_1 ?_
    refine at_icmp_le (pc := 47) X 57 dX3_clash_47 (by decide) (fun c47 => ?_) (fun c47 => ?_)
    · have h := mm_neg c47 h
      refine at_iinc (pc := 57) X 1 2 (x1 + 1) [(1, .int (x1 + 1)), (2, .int q38.1), (0, .ref a0)] dX3_clash_57 rfl (ii_1 _) (by decide) rfl ?_
      refine at_goto (pc := 60) X 26 dX3_clash_60 (by decide) ?_
      have h2 := mm_inr h hk; exact at_sub [2, 0] rfl h2
    · have h := mm_pos c47 h
      refine at_aload_n (pc := 50) X 0 1 dX3_clash_50 rfl rfl ?_
      refine at_iload_n (pc := 51) X 2 0 dX3_clash_51 rfl rfl ?_
      refine at_put (pc := 52) X 3 12 ha0 (by decide) rfl inX3_clash_X3 tyX3 tyX3_ok nmX3 (by decide) lkX3_clash_3 rfl (ty := .int) rfl rfl rfl (Nat.le_of_ble_eq_true rfl) (ms_3_12 G _ _ _) mm_up_ne dX3_clash_52 ?_
      refine at_iload_n (pc := 55) X 1 2 dX3_clash_55 rfl rfl ?_
      exact at_iret (pc := 56) X (mm_inl h hk) dX3_clash_56
set_option maxHeartbeats 4000000 in
set_option maxRecDepth 100000 in
theorem wX3_clash_b0 {E : mm_E} {G : mm_G} (X : mm_Cx E G cX3_clash 3 RX3 wsX3_clash rmX3_clash (some .int)) {a0 : Nat} {σ : mm_M} {q : (Int32 × mm_M)} (ha0 : mm_Is G 3 a0) {o : (Int32 × mm_M) ⊕ (Int32 × mm_M)} (h : fX3_clash_b0 G a0 σ = some o) (hk : mm_Ok q (PX3_clash E G a0 q) o) : mm_At E G 3 (mm_Qi E G q) σ 0 [(0, .ref a0)] [] := by
  unfold fX3_clash_b0 at h
  refine at_aload_n (pc := 0) X 0 0 dX3_clash_0 rfl rfl ?_
  refine at_get (pc := 1) X 3 5 (.ref (mm_R G a0 5)) ha0 (by decide) rfl inX3_clash_X3 (by decide) lkX3_clash_0 rfl dX3_clash_1 ?_
  refine at_get (pc := 4) X 0 1 (.int (σ.1 (mm_R G a0 5) 1)) (wf_3_5 X.wf ha0) (by decide) rfl inX3_clash_X0 (by decide) lkX3_clash_1 rfl dX3_clash_4 ?_
  refine at_if_ne (pc := 7) X 13 dX3_clash_7 (by decide) (fun c7 => ?_) (fun c7 => ?_)
  · have h := mm_neg c7 h
    refine at_aload_n (pc := 13) X 0 0 dX3_clash_13 rfl rfl ?_
    refine at_get (pc := 14) X 3 8 (.ref (mm_R G a0 8)) ha0 (by decide) rfl inX3_clash_X3 (by decide) lkX3_clash_2 rfl dX3_clash_14 ?_
    refine at_aload_n (pc := 17) X 0 0 dX3_clash_17 rfl rfl ?_
    refine at_get (pc := 18) X 3 5 (.ref (mm_R G a0 5)) ha0 (by decide) rfl inX3_clash_X3 (by decide) lkX3_clash_0 rfl dX3_clash_18 ?_
    obtain ⟨q21, hq21, h⟩ := mm_bind h
    refine at_callv (n := 1) (pc := 21) X 0 [.ref (mm_R G a0 5)] [] (mX0_become (eL E) X.wf (wf_3_8 X.wf ha0) (wf_3_5 X.wf ha0) hq21) gX3_clash_X0_become rfl ⟨rfl, rfl⟩ (by decide +kernel) ⟨by decide, by decide⟩ (by decide) rfl (wf_3_8 X.wf ha0) rfl rfl (Nat.le_of_ble_eq_true rfl) dX3_clash_21 ?_
    refine at_iconst (pc := 24) X (1 : Int32) dX3_clash_24 ic_1 ?_
    refine at_istore_n (pc := 25) X 1 [(1, .int (1 : Int32)), (0, .ref a0)] dX3_clash_25 rfl (by decide) rfl ?_
    have h2 := mm_inr h hk; exact at_sub [1, 0] rfl h2
  · have h := mm_pos c7 h
    refine at_bipush (pc := 10) X (-4 : Int32) dX3_clash_10 ib_m4 ?_
    exact at_iret (pc := 12) X (mm_inl h hk) dX3_clash_12
set_option maxHeartbeats 4000000 in
set_option maxRecDepth 100000 in
theorem mX3_clash (l : Launch) {G : mm_G} (hwf : mm_WF G) {a0 : Nat} {σ : mm_M} {q : (Int32 × mm_M)} (ha0 : mm_Is G 3 a0) (h : fX3_clash G a0 σ = some q) : mm_Mi l yX3_clash wsX3_clash rmX3_clash G [.ref a0] σ q := by
  refine mm_ofi (cc := cX3_clash) (nL := 3) (ret := some .int) (own := RX3) (lv0 := [(0, .ref a0)]) (by decide) rfl rfl (Nat.le_of_ble_eq_true rfl) rfl hwf (fun E hE X => ?_)
  obtain ⟨o, h0, hk⟩ := mm_run_ok (P := PX3_clash E G a0 q) h (fun s o hs hk => by exact wX3_clash_b26 X ha0 hs hk)
  exact wX3_clash_b0 X ha0 h0 hk
set_option maxRecDepth 20000 in
theorem ggX3_countHeardAside_X0_become : GoodIn wsX3_countHeardAside wsX0_become := goodIn_r _ [9, 10, 11, 12, 13, 14, 15, 16, 17, 18, 19, 20, 21, 22, 23, 24, 25, 26, 99, 100, 101, 102, 103, 104, 105, 106, 107, 108, 109, 110] (by decide +kernel) (by decide +kernel)
set_option maxRecDepth 20000 in
theorem gX3_countHeardAside_X0_become : GoodIn wsX3_countHeardAside (wsV RX3 108 RX0 yX0_become wsX0_become) := goodIn_app (goodIn_of _ (by decide +kernel)) ggX3_countHeardAside_X0_become
set_option maxRecDepth 20000 in
theorem ggX3_countHeardAside_X0_goBy : GoodIn wsX3_countHeardAside wsX0_goBy := goodIn_r _ [30, 10, 15, 31, 12, 11, 13, 14, 32, 33, 34, 8, 35, 36, 37, 38, 19, 39, 24, 25, 40, 41, 42, 43, 21, 44, 45, 46, 47, 48, 49, 50, 51, 52, 53, 54, 26, 55, 56, 57, 58, 59, 60, 61, 62, 63, 64, 65, 66, 22, 23, 67, 68, 69, 70, 71, 72, 73, 74, 75, 76, 77, 78, 79, 80, 81, 99, 100, 101, 102, 103, 104, 105, 106, 107, 108, 109, 110] (by decide +kernel) (by decide +kernel)
set_option maxRecDepth 20000 in
theorem gX3_countHeardAside_X0_goBy : GoodIn wsX3_countHeardAside (wsV RX3 183 RX0 yX0_goBy wsX0_goBy) := goodIn_app (goodIn_of _ (by decide +kernel)) ggX3_countHeardAside_X0_goBy
theorem dX3_countHeardAside_0 : decode cX3_countHeardAside 0 = .ok (.iconst 0, 1) := by decide +kernel
theorem dX3_countHeardAside_1 : decode cX3_countHeardAside 1 = .ok (.istore_n 2, 1) := by decide +kernel
theorem dX3_countHeardAside_2 : decode cX3_countHeardAside 2 = .ok (.iload_n 2, 1) := by decide +kernel
theorem dX3_countHeardAside_3 : decode cX3_countHeardAside 3 = .ok (.bipush 7, 2) := by decide +kernel
theorem dX3_countHeardAside_5 : decode cX3_countHeardAside 5 = .ok (.if_icmp .ge 16, 3) := by decide +kernel
theorem dX3_countHeardAside_8 : decode cX3_countHeardAside 8 = .ok (.aload_n 0, 1) := by decide +kernel
theorem dX3_countHeardAside_9 : decode cX3_countHeardAside 9 = .ok (.getfield 53, 3) := by decide +kernel
theorem dX3_countHeardAside_12 : decode cX3_countHeardAside 12 = .ok (.iload_n 2, 1) := by decide +kernel
theorem dX3_countHeardAside_13 : decode cX3_countHeardAside 13 = .ok (.iconst 0, 1) := by decide +kernel
theorem dX3_countHeardAside_14 : decode cX3_countHeardAside 14 = .ok (.iastore, 1) := by decide +kernel
theorem dX3_countHeardAside_15 : decode cX3_countHeardAside 15 = .ok (.iinc 2 1, 3) := by decide +kernel
theorem dX3_countHeardAside_18 : decode cX3_countHeardAside 18 = .ok (.goto (-16), 3) := by decide +kernel
theorem dX3_countHeardAside_21 : decode cX3_countHeardAside 21 = .ok (.aload_n 0, 1) := by decide +kernel
theorem dX3_countHeardAside_22 : decode cX3_countHeardAside 22 = .ok (.getfield 47, 3) := by decide +kernel
theorem dX3_countHeardAside_25 : decode cX3_countHeardAside 25 = .ok (.aload_n 0, 1) := by decide +kernel
theorem dX3_countHeardAside_26 : decode cX3_countHeardAside 26 = .ok (.getfield 33, 3) := by decide +kernel
theorem dX3_countHeardAside_29 : decode cX3_countHeardAside 29 = .ok (.invokevirtual 108, 3) := by decide +kernel
theorem dX3_countHeardAside_32 : decode cX3_countHeardAside 32 = .ok (.iconst 0, 1) := by decide +kernel
theorem dX3_countHeardAside_33 : decode cX3_countHeardAside 33 = .ok (.istore_n 2, 1) := by decide +kernel
theorem dX3_countHeardAside_34 : decode cX3_countHeardAside 34 = .ok (.iload_n 2, 1) := by decide +kernel
theorem dX3_countHeardAside_35 : decode cX3_countHeardAside 35 = .ok (.iload_n 1, 1) := by decide +kernel
theorem dX3_countHeardAside_36 : decode cX3_countHeardAside 36 = .ok (.if_icmp .ge 58, 3) := by decide +kernel
theorem dX3_countHeardAside_39 : decode cX3_countHeardAside 39 = .ok (.aload_n 0, 1) := by decide +kernel
theorem dX3_countHeardAside_40 : decode cX3_countHeardAside 40 = .ok (.getfield 47, 3) := by decide +kernel
theorem dX3_countHeardAside_43 : decode cX3_countHeardAside 43 = .ok (.iconst 0, 1) := by decide +kernel
theorem dX3_countHeardAside_44 : decode cX3_countHeardAside 44 = .ok (.invokevirtual 183, 3) := by decide +kernel
theorem dX3_countHeardAside_47 : decode cX3_countHeardAside 47 = .ok (.istore_n 3, 1) := by decide +kernel
theorem dX3_countHeardAside_48 : decode cX3_countHeardAside 48 = .ok (.iconst 0, 1) := by decide +kernel
theorem dX3_countHeardAside_49 : decode cX3_countHeardAside 49 = .ok (.istore 4, 2) := by decide +kernel
theorem dX3_countHeardAside_51 : decode cX3_countHeardAside 51 = .ok (.iload 4, 2) := by decide +kernel
theorem dX3_countHeardAside_53 : decode cX3_countHeardAside 53 = .ok (.aload_n 0, 1) := by decide +kernel
theorem dX3_countHeardAside_54 : decode cX3_countHeardAside 54 = .ok (.getfield 33, 3) := by decide +kernel
theorem dX3_countHeardAside_57 : decode cX3_countHeardAside 57 = .ok (.getfield 112, 3) := by decide +kernel
theorem dX3_countHeardAside_60 : decode cX3_countHeardAside 60 = .ok (.if_icmp .ge 28, 3) := by decide +kernel
theorem dX3_countHeardAside_63 : decode cX3_countHeardAside 63 = .ok (.iload_n 3, 1) := by decide +kernel
theorem dX3_countHeardAside_64 : decode cX3_countHeardAside 64 = .ok (.iconst 1, 1) := by decide +kernel
theorem dX3_countHeardAside_65 : decode cX3_countHeardAside 65 = .ok (.iload 4, 2) := by decide +kernel
theorem dX3_countHeardAside_67 : decode cX3_countHeardAside 67 = .ok (.ishl, 1) := by decide +kernel
theorem dX3_countHeardAside_68 : decode cX3_countHeardAside 68 = .ok (.if_icmp .ne 14, 3) := by decide +kernel
theorem dX3_countHeardAside_71 : decode cX3_countHeardAside 71 = .ok (.aload_n 0, 1) := by decide +kernel
theorem dX3_countHeardAside_72 : decode cX3_countHeardAside 72 = .ok (.getfield 53, 3) := by decide +kernel
theorem dX3_countHeardAside_75 : decode cX3_countHeardAside 75 = .ok (.iload 4, 2) := by decide +kernel
theorem dX3_countHeardAside_77 : decode cX3_countHeardAside 77 = .ok (.dup2, 1) := by decide +kernel
theorem dX3_countHeardAside_78 : decode cX3_countHeardAside 78 = .ok (.iaload, 1) := by decide +kernel
theorem dX3_countHeardAside_79 : decode cX3_countHeardAside 79 = .ok (.iconst 1, 1) := by decide +kernel
theorem dX3_countHeardAside_80 : decode cX3_countHeardAside 80 = .ok (.iadd, 1) := by decide +kernel
theorem dX3_countHeardAside_81 : decode cX3_countHeardAside 81 = .ok (.iastore, 1) := by decide +kernel
theorem dX3_countHeardAside_82 : decode cX3_countHeardAside 82 = .ok (.iinc 4 1, 3) := by decide +kernel
theorem dX3_countHeardAside_85 : decode cX3_countHeardAside 85 = .ok (.goto (-34), 3) := by decide +kernel
theorem dX3_countHeardAside_88 : decode cX3_countHeardAside 88 = .ok (.iinc 2 1, 3) := by decide +kernel
theorem dX3_countHeardAside_91 : decode cX3_countHeardAside 91 = .ok (.goto (-57), 3) := by decide +kernel
theorem dX3_countHeardAside_94 : decode cX3_countHeardAside 94 = .ok (.return_, 1) := by decide +kernel
/-! X3_countHeardAside (I)V -/
abbrev rmX3_countHeardAside : Room := { frames := 5, cells := 0, slots := 0, locals := 105 }
theorem lkX3_countHeardAside_0 : Cond.fieldLink RX3 47 (TX3 8).1 (TX3 8).2.1 (TX3 8).2.2.1 ∈ wsX3_countHeardAside := by decide +kernel
theorem lkX3_countHeardAside_1 : Cond.fieldLink RX3 33 (TX3 5).1 (TX3 5).2.1 (TX3 5).2.2.1 ∈ wsX3_countHeardAside := by decide +kernel
theorem lkX3_countHeardAside_2 : Cond.fieldLink RX3 112 (TX0 1).1 (TX0 1).2.1 (TX0 1).2.2.1 ∈ wsX3_countHeardAside := by decide +kernel
theorem lkX3_countHeardAside_3 : Cond.fieldLink RX3 53 (TX3 10).1 (TX3 10).2.1 (TX3 10).2.2.1 ∈ wsX3_countHeardAside := by decide +kernel
theorem inX3_countHeardAside_X3 : ∀ w ∈ u_ws RX3 TX3 17, w ∈ wsX3_countHeardAside := by decide +kernel
theorem inX3_countHeardAside_X0 : ∀ w ∈ u_ws RX0 TX0 6, w ∈ wsX3_countHeardAside := by decide +kernel
noncomputable def fX3_countHeardAside_b51 (G : mm_G) (a0 : Nat) (x1 : Int32) (x2 : Int32) (x3 : Int32) (x4 : Int32) (σ : mm_M) : Option (mm_M ⊕ ((Int32 × mm_M) ⊕ ((Int32 × mm_M) ⊕ (Int32 × Int32 × Int32 × mm_M)))) := if x4 < (σ.1 (mm_R G a0 5) 1) then (if x3 = ((1 : Int32) <<< (x4 &&& 31)) then (if x4 < 0 ∨ mm_N G (mm_R G a0 10) ≤ x4.toNatClampNeg then none else (if x4 < 0 ∨ mm_N G (mm_R G a0 10) ≤ x4.toNatClampNeg then none else (some (.inr (.inr (.inr (x2, x3, x4 + 1, mm_up σ (mm_R G a0 10) x4.toNatClampNeg ((σ.1 (mm_R G a0 10) x4.toNatClampNeg) + (1 : Int32))))))))) else (some (.inr (.inr (.inr (x2, x3, x4 + 1, σ)))))) else (some (.inr (.inr (.inl (x2 + 1, σ)))))
noncomputable def fX3_countHeardAside_b34 (G : mm_G) (a0 : Nat) (x1 : Int32) (x2 : Int32) (σ : mm_M) : Option (mm_M ⊕ ((Int32 × mm_M) ⊕ ((Int32 × mm_M) ⊕ (Int32 × Int32 × Int32 × mm_M)))) := if x2 < x1 then ((fX0_goBy G (mm_R G a0 8) (0 : Int32) σ).bind (fun q44 => some (.inr (.inr (.inr (x2, q44.1, (0 : Int32), q44.2)))))) else (some (.inl σ))
noncomputable def fX3_countHeardAside_b2 (G : mm_G) (a0 : Nat) (x1 : Int32) (x2 : Int32) (σ : mm_M) : Option (mm_M ⊕ ((Int32 × mm_M) ⊕ ((Int32 × mm_M) ⊕ (Int32 × Int32 × Int32 × mm_M)))) := if x2 < (7 : Int32) then (if x2 < 0 ∨ mm_N G (mm_R G a0 10) ≤ x2.toNatClampNeg then none else (some (.inr (.inl (x2 + 1, mm_up σ (mm_R G a0 10) x2.toNatClampNeg (0 : Int32)))))) else ((fX0_become G (mm_R G a0 8) (mm_R G a0 5) σ).bind (fun q29 => some (.inr (.inr (.inl ((0 : Int32), q29))))))
noncomputable def fX3_countHeardAside_b0 (G : mm_G) (a0 : Nat) (x1 : Int32) (σ : mm_M) : Option (mm_M ⊕ ((Int32 × mm_M) ⊕ ((Int32 × mm_M) ⊕ (Int32 × Int32 × Int32 × mm_M)))) := some (.inr (.inl ((0 : Int32), σ)))
noncomputable def fX3_countHeardAside_s (G : mm_G) (a0 : Nat) (x1 : Int32) : ((Int32 × mm_M) ⊕ ((Int32 × mm_M) ⊕ (Int32 × Int32 × Int32 × mm_M))) → Option (mm_M ⊕ ((Int32 × mm_M) ⊕ ((Int32 × mm_M) ⊕ (Int32 × Int32 × Int32 × mm_M)))) := (Sum.elim (fun s => fX3_countHeardAside_b2 G a0 x1 s.1 s.2) (Sum.elim (fun s => fX3_countHeardAside_b34 G a0 x1 s.1 s.2) (fun s => fX3_countHeardAside_b51 G a0 x1 s.1 s.2.1 s.2.2.1 s.2.2.2)))
def PX3_countHeardAside (E : mm_E) (G : mm_G) (a0 : Nat) (x1 : Int32) (q : mm_M) : ((Int32 × mm_M) ⊕ ((Int32 × mm_M) ⊕ (Int32 × Int32 × Int32 × mm_M))) → Prop := (Sum.elim (fun s => mm_At E G 5 (mm_Qv E G q) s.2 2 [(0, .ref a0), (1, .int x1), (2, .int s.1)] []) (Sum.elim (fun s => mm_At E G 5 (mm_Qv E G q) s.2 34 [(0, .ref a0), (1, .int x1), (2, .int s.1)] []) (fun s => mm_At E G 5 (mm_Qv E G q) s.2.2.2 51 [(0, .ref a0), (1, .int x1), (2, .int s.1), (3, .int s.2.1), (4, .int s.2.2.1)] [])))
noncomputable def fX3_countHeardAside (G : mm_G) (a0 : Nat) (x1 : Int32) (σ : mm_M) : Option mm_M := mm_run (fX3_countHeardAside_b0 G a0 x1 σ) (fX3_countHeardAside_s G a0 x1)
set_option maxHeartbeats 4000000 in
set_option maxRecDepth 100000 in
theorem wX3_countHeardAside_b51 {E : mm_E} {G : mm_G} (X : mm_Cx E G cX3_countHeardAside 5 RX3 wsX3_countHeardAside rmX3_countHeardAside (none)) {a0 : Nat} {x1 : Int32} {x2 : Int32} {x3 : Int32} {x4 : Int32} {σ : mm_M} {q : mm_M} (ha0 : mm_Is G 3 a0) {o : mm_M ⊕ ((Int32 × mm_M) ⊕ ((Int32 × mm_M) ⊕ (Int32 × Int32 × Int32 × mm_M)))} (h : fX3_countHeardAside_b51 G a0 x1 x2 x3 x4 σ = some o) (hk : mm_Ok q (PX3_countHeardAside E G a0 x1 q) o) : mm_At E G 5 (mm_Qv E G q) σ 51 [(0, .ref a0), (1, .int x1), (2, .int x2), (3, .int x3), (4, .int x4)] [] := by
  unfold fX3_countHeardAside_b51 at h
  refine at_iload (pc := 51) X 4 4 dX3_countHeardAside_51 rfl ?_
  refine at_aload_n (pc := 53) X 0 0 dX3_countHeardAside_53 rfl rfl ?_
  refine at_get (pc := 54) X 3 5 (.ref (mm_R G a0 5)) ha0 (by decide) rfl inX3_countHeardAside_X3 (by decide) lkX3_countHeardAside_1 rfl dX3_countHeardAside_54 ?_
  refine at_get (pc := 57) X 0 1 (.int (σ.1 (mm_R G a0 5) 1)) (wf_3_5 X.wf ha0) (by decide) rfl inX3_countHeardAside_X0 (by decide) lkX3_countHeardAside_2 rfl dX3_countHeardAside_57 ?_
  refine at_icmp_ge (pc := 60) X 88 dX3_countHeardAside_60 (by decide) (fun c60 => ?_) (fun c60 => ?_)
  · have h := mm_neg c60 h
    refine at_iinc (pc := 88) X 2 2 (x2 + 1) [(2, .int (x2 + 1)), (0, .ref a0), (1, .int x1), (3, .int x3), (4, .int x4)] dX3_countHeardAside_88 rfl (ii_1 _) (by decide) rfl ?_
    refine at_goto (pc := 91) X 34 dX3_countHeardAside_91 (by decide) ?_
    have h2 := mm_inr h hk; exact at_sub [1, 2, 0] rfl h2
  · have h := mm_pos c60 h
    refine at_iload_n (pc := 63) X 3 3 dX3_countHeardAside_63 rfl rfl ?_
    refine at_iconst (pc := 64) X (1 : Int32) dX3_countHeardAside_64 ic_1 ?_
    refine at_iload (pc := 65) X 4 4 dX3_countHeardAside_65 rfl ?_
    refine at_ishl (pc := 67) X dX3_countHeardAside_67 ?_
    refine at_icmp_ne (pc := 68) X 82 dX3_countHeardAside_68 (by decide) (fun c68 => ?_) (fun c68 => ?_)
    · have h := mm_neg c68 h
      refine at_iinc (pc := 82) X 4 4 (x4 + 1) [(4, .int (x4 + 1)), (0, .ref a0), (1, .int x1), (2, .int x2), (3, .int x3)] dX3_countHeardAside_82 rfl (ii_1 _) (by decide) rfl ?_
      refine at_goto (pc := 85) X 51 dX3_countHeardAside_85 (by decide) ?_
      have h2 := mm_inr h hk; exact at_sub [1, 2, 3, 4, 0] rfl h2
    · have h := mm_pos c68 h
      refine at_aload_n (pc := 71) X 0 0 dX3_countHeardAside_71 rfl rfl ?_
      refine at_get (pc := 72) X 3 10 (.ref (mm_R G a0 10)) ha0 (by decide) rfl inX3_countHeardAside_X3 (by decide) lkX3_countHeardAside_3 rfl dX3_countHeardAside_72 ?_
      refine at_iload (pc := 75) X 4 4 dX3_countHeardAside_75 rfl ?_
      refine at_dup2 (pc := 77) X dX3_countHeardAside_77 rfl rfl ?_
      obtain ⟨hc78, h⟩ := mm_chk h
      refine at_iald (pc := 78) X (wf_3_10 X.wf ha0) hc78 dX3_countHeardAside_78 ?_
      refine at_iconst (pc := 79) X (1 : Int32) dX3_countHeardAside_79 ic_1 ?_
      refine at_iadd (pc := 80) X dX3_countHeardAside_80 ?_
      obtain ⟨hc81, h⟩ := mm_chk h
      refine at_iast (pc := 81) X (wf_3_10 X.wf ha0) hc81 dX3_countHeardAside_81 ?_
      refine at_iinc (pc := 82) X 4 4 (x4 + 1) [(4, .int (x4 + 1)), (0, .ref a0), (1, .int x1), (2, .int x2), (3, .int x3)] dX3_countHeardAside_82 rfl (ii_1 _) (by decide) rfl ?_
      refine at_goto (pc := 85) X 51 dX3_countHeardAside_85 (by decide) ?_
      have h2 := mm_inr h hk; exact at_sub [1, 2, 3, 4, 0] rfl h2
set_option maxHeartbeats 4000000 in
set_option maxRecDepth 100000 in
theorem wX3_countHeardAside_b34 {E : mm_E} {G : mm_G} (X : mm_Cx E G cX3_countHeardAside 5 RX3 wsX3_countHeardAside rmX3_countHeardAside (none)) {a0 : Nat} {x1 : Int32} {x2 : Int32} {σ : mm_M} {q : mm_M} (ha0 : mm_Is G 3 a0) {o : mm_M ⊕ ((Int32 × mm_M) ⊕ ((Int32 × mm_M) ⊕ (Int32 × Int32 × Int32 × mm_M)))} (h : fX3_countHeardAside_b34 G a0 x1 x2 σ = some o) (hk : mm_Ok q (PX3_countHeardAside E G a0 x1 q) o) : mm_At E G 5 (mm_Qv E G q) σ 34 [(0, .ref a0), (1, .int x1), (2, .int x2)] [] := by
  unfold fX3_countHeardAside_b34 at h
  refine at_iload_n (pc := 34) X 2 2 dX3_countHeardAside_34 rfl rfl ?_
  refine at_iload_n (pc := 35) X 1 1 dX3_countHeardAside_35 rfl rfl ?_
  refine at_icmp_ge (pc := 36) X 94 dX3_countHeardAside_36 (by decide) (fun c36 => ?_) (fun c36 => ?_)
  · have h := mm_neg c36 h
    exact at_vret (pc := 94) X (mm_inl h hk) dX3_countHeardAside_94
  · have h := mm_pos c36 h
    refine at_aload_n (pc := 39) X 0 0 dX3_countHeardAside_39 rfl rfl ?_
    refine at_get (pc := 40) X 3 8 (.ref (mm_R G a0 8)) ha0 (by decide) rfl inX3_countHeardAside_X3 (by decide) lkX3_countHeardAside_0 rfl dX3_countHeardAside_40 ?_
    refine at_iconst (pc := 43) X (0 : Int32) dX3_countHeardAside_43 ic_0 ?_
    obtain ⟨q44, hq44, h⟩ := mm_bind h
    refine at_calli (n := 1) (pc := 44) X 0 [.int (0 : Int32)] [] (mX0_goBy (eL E) X.wf (wf_3_8 X.wf ha0) hq44) gX3_countHeardAside_X0_goBy rfl ⟨rfl, rfl⟩ (by decide +kernel) ⟨by decide, by decide⟩ (by decide) rfl (wf_3_8 X.wf ha0) rfl rfl (Nat.le_of_ble_eq_true rfl) dX3_countHeardAside_44 ?_
    refine at_istore_n (pc := 47) X 3 [(3, .int q44.1), (0, .ref a0), (1, .int x1), (2, .int x2)] dX3_countHeardAside_47 rfl (by decide) rfl ?_
    refine at_iconst (pc := 48) X (0 : Int32) dX3_countHeardAside_48 ic_0 ?_
    refine at_istore (pc := 49) X 4 [(4, .int (0 : Int32)), (3, .int q44.1), (0, .ref a0), (1, .int x1), (2, .int x2)] dX3_countHeardAside_49 (by decide) rfl ?_
    have h2 := mm_inr h hk; exact at_sub [2, 3, 4, 1, 0] rfl h2
set_option maxHeartbeats 4000000 in
set_option maxRecDepth 100000 in
theorem wX3_countHeardAside_b2 {E : mm_E} {G : mm_G} (X : mm_Cx E G cX3_countHeardAside 5 RX3 wsX3_countHeardAside rmX3_countHeardAside (none)) {a0 : Nat} {x1 : Int32} {x2 : Int32} {σ : mm_M} {q : mm_M} (ha0 : mm_Is G 3 a0) {o : mm_M ⊕ ((Int32 × mm_M) ⊕ ((Int32 × mm_M) ⊕ (Int32 × Int32 × Int32 × mm_M)))} (h : fX3_countHeardAside_b2 G a0 x1 x2 σ = some o) (hk : mm_Ok q (PX3_countHeardAside E G a0 x1 q) o) : mm_At E G 5 (mm_Qv E G q) σ 2 [(0, .ref a0), (1, .int x1), (2, .int x2)] [] := by
  unfold fX3_countHeardAside_b2 at h
  refine at_iload_n (pc := 2) X 2 2 dX3_countHeardAside_2 rfl rfl ?_
  refine at_bipush (pc := 3) X (7 : Int32) dX3_countHeardAside_3 ib_7 ?_
  refine at_icmp_ge (pc := 5) X 21 dX3_countHeardAside_5 (by decide) (fun c5 => ?_) (fun c5 => ?_)
  · have h := mm_neg c5 h
    refine at_aload_n (pc := 21) X 0 0 dX3_countHeardAside_21 rfl rfl ?_
    refine at_get (pc := 22) X 3 8 (.ref (mm_R G a0 8)) ha0 (by decide) rfl inX3_countHeardAside_X3 (by decide) lkX3_countHeardAside_0 rfl dX3_countHeardAside_22 ?_
    refine at_aload_n (pc := 25) X 0 0 dX3_countHeardAside_25 rfl rfl ?_
    refine at_get (pc := 26) X 3 5 (.ref (mm_R G a0 5)) ha0 (by decide) rfl inX3_countHeardAside_X3 (by decide) lkX3_countHeardAside_1 rfl dX3_countHeardAside_26 ?_
    obtain ⟨q29, hq29, h⟩ := mm_bind h
    refine at_callv (n := 1) (pc := 29) X 0 [.ref (mm_R G a0 5)] [] (mX0_become (eL E) X.wf (wf_3_8 X.wf ha0) (wf_3_5 X.wf ha0) hq29) gX3_countHeardAside_X0_become rfl ⟨rfl, rfl⟩ (by decide +kernel) ⟨by decide, by decide⟩ (by decide) rfl (wf_3_8 X.wf ha0) rfl rfl (Nat.le_of_ble_eq_true rfl) dX3_countHeardAside_29 ?_
    refine at_iconst (pc := 32) X (0 : Int32) dX3_countHeardAside_32 ic_0 ?_
    refine at_istore_n (pc := 33) X 2 [(2, .int (0 : Int32)), (0, .ref a0), (1, .int x1)] dX3_countHeardAside_33 rfl (by decide) rfl ?_
    have h2 := mm_inr h hk; exact at_sub [1, 2, 0] rfl h2
  · have h := mm_pos c5 h
    refine at_aload_n (pc := 8) X 0 0 dX3_countHeardAside_8 rfl rfl ?_
    refine at_get (pc := 9) X 3 10 (.ref (mm_R G a0 10)) ha0 (by decide) rfl inX3_countHeardAside_X3 (by decide) lkX3_countHeardAside_3 rfl dX3_countHeardAside_9 ?_
    refine at_iload_n (pc := 12) X 2 2 dX3_countHeardAside_12 rfl rfl ?_
    refine at_iconst (pc := 13) X (0 : Int32) dX3_countHeardAside_13 ic_0 ?_
    obtain ⟨hc14, h⟩ := mm_chk h
    refine at_iast (pc := 14) X (wf_3_10 X.wf ha0) hc14 dX3_countHeardAside_14 ?_
    refine at_iinc (pc := 15) X 2 2 (x2 + 1) [(2, .int (x2 + 1)), (0, .ref a0), (1, .int x1)] dX3_countHeardAside_15 rfl (ii_1 _) (by decide) rfl ?_
    refine at_goto (pc := 18) X 2 dX3_countHeardAside_18 (by decide) ?_
    have h2 := mm_inr h hk; exact at_sub [1, 2, 0] rfl h2
set_option maxHeartbeats 4000000 in
set_option maxRecDepth 100000 in
theorem wX3_countHeardAside_b0 {E : mm_E} {G : mm_G} (X : mm_Cx E G cX3_countHeardAside 5 RX3 wsX3_countHeardAside rmX3_countHeardAside (none)) {a0 : Nat} {x1 : Int32} {σ : mm_M} {q : mm_M} (ha0 : mm_Is G 3 a0) {o : mm_M ⊕ ((Int32 × mm_M) ⊕ ((Int32 × mm_M) ⊕ (Int32 × Int32 × Int32 × mm_M)))} (h : fX3_countHeardAside_b0 G a0 x1 σ = some o) (hk : mm_Ok q (PX3_countHeardAside E G a0 x1 q) o) : mm_At E G 5 (mm_Qv E G q) σ 0 [(0, .ref a0), (1, .int x1)] [] := by
  unfold fX3_countHeardAside_b0 at h
  refine at_iconst (pc := 0) X (0 : Int32) dX3_countHeardAside_0 ic_0 ?_
  refine at_istore_n (pc := 1) X 2 [(2, .int (0 : Int32)), (0, .ref a0), (1, .int x1)] dX3_countHeardAside_1 rfl (by decide) rfl ?_
  have h2 := mm_inr h hk; exact at_sub [1, 2, 0] rfl h2
set_option maxHeartbeats 4000000 in
set_option maxRecDepth 100000 in
theorem mX3_countHeardAside (l : Launch) {G : mm_G} (hwf : mm_WF G) {a0 : Nat} {x1 : Int32} {σ : mm_M} {q : mm_M} (ha0 : mm_Is G 3 a0) (h : fX3_countHeardAside G a0 x1 σ = some q) : mm_Mv l yX3_countHeardAside wsX3_countHeardAside rmX3_countHeardAside G [.ref a0, .int x1] σ q := by
  refine mm_ofv (cc := cX3_countHeardAside) (nL := 5) (ret := none) (own := RX3) (lv0 := [(0, .ref a0), (1, .int x1)]) (by decide) rfl rfl (Nat.le_of_ble_eq_true rfl) rfl hwf (fun E hE X => ?_)
  obtain ⟨o, h0, hk⟩ := mm_run_ok (P := PX3_countHeardAside E G a0 x1 q) h (fun s o hs hk => by cases s with | inl s => exact wX3_countHeardAside_b2 X ha0 hs hk | inr s => (cases s with | inl s => exact wX3_countHeardAside_b34 X ha0 hs hk | inr s => (exact wX3_countHeardAside_b51 X ha0 hs hk)))
  exact wX3_countHeardAside_b0 X ha0 h0 hk
set_option maxRecDepth 20000 in
theorem ggX3_most_X3_countHeardAside : GoodIn wsX3_most wsX3_countHeardAside := goodIn_r _ [9, 3, 10, 1, 2, 11, 12, 13, 14, 15, 16, 17, 18, 19, 20, 21, 22, 23, 24, 25, 26, 27, 28, 29, 30, 31, 32, 33, 34, 35, 36, 37, 38, 39, 40, 41, 42, 43, 44, 45, 46, 47, 48, 49, 50, 51, 52, 53, 54, 55, 56, 57, 58, 59, 60, 61, 62, 63, 64, 65, 66, 67, 68, 69, 70, 71, 72, 73, 74, 75, 76, 77, 78, 79, 80, 81, 82, 83, 84, 85, 86, 87, 88, 89, 90, 91, 92, 93, 94, 95, 96, 97, 98, 99, 100, 101, 102, 103, 104, 105, 106, 107, 108, 109, 110, 111, 112, 113, 114, 115, 116] (by decide +kernel) (by decide +kernel)
set_option maxRecDepth 20000 in
theorem gX3_most_X3_countHeardAside : GoodIn wsX3_most (wsV RX3 186 RX3 yX3_countHeardAside wsX3_countHeardAside) := goodIn_app (goodIn_of _ (by decide +kernel)) ggX3_most_X3_countHeardAside
theorem dX3_most_0 : decode cX3_most 0 = .ok (.iload_n 1, 1) := by decide +kernel
theorem dX3_most_1 : decode cX3_most 1 = .ok (.iconst 1, 1) := by decide +kernel
theorem dX3_most_2 : decode cX3_most 2 = .ok (.if_icmp .lt 9, 3) := by decide +kernel
theorem dX3_most_5 : decode cX3_most 5 = .ok (.iload_n 1, 1) := by decide +kernel
theorem dX3_most_6 : decode cX3_most 6 = .ok (.bipush 100, 2) := by decide +kernel
theorem dX3_most_8 : decode cX3_most 8 = .ok (.if_icmp .le 5, 3) := by decide +kernel
theorem dX3_most_11 : decode cX3_most 11 = .ok (.iconst (-1), 1) := by decide +kernel
theorem dX3_most_12 : decode cX3_most 12 = .ok (.ireturn, 1) := by decide +kernel
theorem dX3_most_13 : decode cX3_most 13 = .ok (.aload_n 0, 1) := by decide +kernel
theorem dX3_most_14 : decode cX3_most 14 = .ok (.getfield 33, 3) := by decide +kernel
theorem dX3_most_17 : decode cX3_most 17 = .ok (.getfield 112, 3) := by decide +kernel
theorem dX3_most_20 : decode cX3_most 20 = .ok (.ifCond .ne 6, 3) := by decide +kernel
theorem dX3_most_23 : decode cX3_most 23 = .ok (.bipush (-4), 2) := by decide +kernel
theorem dX3_most_25 : decode cX3_most 25 = .ok (.ireturn, 1) := by decide +kernel
theorem dX3_most_26 : decode cX3_most 26 = .ok (.aload_n 0, 1) := by decide +kernel
theorem dX3_most_27 : decode cX3_most 27 = .ok (.iload_n 1, 1) := by decide +kernel
theorem dX3_most_28 : decode cX3_most 28 = .ok (.invokevirtual 186, 3) := by decide +kernel
theorem dX3_most_31 : decode cX3_most 31 = .ok (.bipush (-9), 2) := by decide +kernel
theorem dX3_most_33 : decode cX3_most 33 = .ok (.istore_n 2, 1) := by decide +kernel
theorem dX3_most_34 : decode cX3_most 34 = .ok (.iconst 0, 1) := by decide +kernel
theorem dX3_most_35 : decode cX3_most 35 = .ok (.istore_n 3, 1) := by decide +kernel
theorem dX3_most_36 : decode cX3_most 36 = .ok (.iconst 0, 1) := by decide +kernel
theorem dX3_most_37 : decode cX3_most 37 = .ok (.istore 4, 2) := by decide +kernel
theorem dX3_most_39 : decode cX3_most 39 = .ok (.iload 4, 2) := by decide +kernel
theorem dX3_most_41 : decode cX3_most 41 = .ok (.aload_n 0, 1) := by decide +kernel
theorem dX3_most_42 : decode cX3_most 42 = .ok (.getfield 33, 3) := by decide +kernel
theorem dX3_most_45 : decode cX3_most 45 = .ok (.getfield 112, 3) := by decide +kernel
theorem dX3_most_48 : decode cX3_most 48 = .ok (.if_icmp .ge 31, 3) := by decide +kernel
theorem dX3_most_51 : decode cX3_most 51 = .ok (.aload_n 0, 1) := by decide +kernel
theorem dX3_most_52 : decode cX3_most 52 = .ok (.getfield 53, 3) := by decide +kernel
theorem dX3_most_55 : decode cX3_most 55 = .ok (.iload 4, 2) := by decide +kernel
theorem dX3_most_57 : decode cX3_most 57 = .ok (.iaload, 1) := by decide +kernel
theorem dX3_most_58 : decode cX3_most 58 = .ok (.iload_n 3, 1) := by decide +kernel
theorem dX3_most_59 : decode cX3_most 59 = .ok (.if_icmp .le 14, 3) := by decide +kernel
theorem dX3_most_62 : decode cX3_most 62 = .ok (.iload 4, 2) := by decide +kernel
theorem dX3_most_64 : decode cX3_most 64 = .ok (.istore_n 2, 1) := by decide +kernel
theorem dX3_most_65 : decode cX3_most 65 = .ok (.aload_n 0, 1) := by decide +kernel
theorem dX3_most_66 : decode cX3_most 66 = .ok (.getfield 53, 3) := by decide +kernel
theorem dX3_most_69 : decode cX3_most 69 = .ok (.iload 4, 2) := by decide +kernel
theorem dX3_most_71 : decode cX3_most 71 = .ok (.iaload, 1) := by decide +kernel
theorem dX3_most_72 : decode cX3_most 72 = .ok (.istore_n 3, 1) := by decide +kernel
theorem dX3_most_73 : decode cX3_most 73 = .ok (.iinc 4 1, 3) := by decide +kernel
theorem dX3_most_76 : decode cX3_most 76 = .ok (.goto (-37), 3) := by decide +kernel
theorem dX3_most_79 : decode cX3_most 79 = .ok (.iload_n 2, 1) := by decide +kernel
theorem dX3_most_80 : decode cX3_most 80 = .ok (.bipush (-9), 2) := by decide +kernel
theorem dX3_most_82 : decode cX3_most 82 = .ok (.if_icmp .eq 8, 3) := by decide +kernel
theorem dX3_most_85 : decode cX3_most 85 = .ok (.aload_n 0, 1) := by decide +kernel
theorem dX3_most_86 : decode cX3_most 86 = .ok (.iload_n 3, 1) := by decide +kernel
theorem dX3_most_87 : decode cX3_most 87 = .ok (.putfield 59, 3) := by decide +kernel
theorem dX3_most_90 : decode cX3_most 90 = .ok (.iload_n 2, 1) := by decide +kernel
theorem dX3_most_91 : decode cX3_most 91 = .ok (.ireturn, 1) := by decide +kernel
/-! X3_most (I)I -/
abbrev rmX3_most : Room := { frames := 6, cells := 0, slots := 0, locals := 129 }
theorem lkX3_most_0 : Cond.fieldLink RX3 33 (TX3 5).1 (TX3 5).2.1 (TX3 5).2.2.1 ∈ wsX3_most := by decide +kernel
theorem lkX3_most_1 : Cond.fieldLink RX3 112 (TX0 1).1 (TX0 1).2.1 (TX0 1).2.2.1 ∈ wsX3_most := by decide +kernel
theorem lkX3_most_2 : Cond.fieldLink RX3 59 (TX3 12).1 (TX3 12).2.1 (TX3 12).2.2.1 ∈ wsX3_most := by decide +kernel
theorem lkX3_most_3 : Cond.fieldLink RX3 53 (TX3 10).1 (TX3 10).2.1 (TX3 10).2.2.1 ∈ wsX3_most := by decide +kernel
theorem inX3_most_X3 : ∀ w ∈ u_ws RX3 TX3 17, w ∈ wsX3_most := by decide +kernel
theorem inX3_most_X0 : ∀ w ∈ u_ws RX0 TX0 6, w ∈ wsX3_most := by decide +kernel
noncomputable def fX3_most_b39 (G : mm_G) (a0 : Nat) (x1 : Int32) (x2 : Int32) (x3 : Int32) (x4 : Int32) (σ : mm_M) : Option ((Int32 × mm_M) ⊕ (Int32 × Int32 × Int32 × mm_M)) := if x4 < (σ.1 (mm_R G a0 5) 1) then (if x4 < 0 ∨ mm_N G (mm_R G a0 10) ≤ x4.toNatClampNeg then none else (if x3 < (σ.1 (mm_R G a0 10) x4.toNatClampNeg) then (if x4 < 0 ∨ mm_N G (mm_R G a0 10) ≤ x4.toNatClampNeg then none else (some (.inr (x4, σ.1 (mm_R G a0 10) x4.toNatClampNeg, x4 + 1, σ)))) else (some (.inr (x2, x3, x4 + 1, σ))))) else (if x2 = (-9 : Int32) then (some (.inl (x2, σ))) else (some (.inl (x2, mm_up σ a0 12 x3))))
noncomputable def fX3_most_b0 (G : mm_G) (a0 : Nat) (x1 : Int32) (σ : mm_M) : Option ((Int32 × mm_M) ⊕ (Int32 × Int32 × Int32 × mm_M)) := if x1 < (1 : Int32) then (some (.inl ((-1 : Int32), σ))) else (if (100 : Int32) < x1 then (some (.inl ((-1 : Int32), σ))) else (if (σ.1 (mm_R G a0 5) 1) = 0 then (some (.inl ((-4 : Int32), σ))) else ((fX3_countHeardAside G a0 x1 σ).bind (fun q28 => some (.inr ((-9 : Int32), (0 : Int32), (0 : Int32), q28))))))
noncomputable def fX3_most_s (G : mm_G) (a0 : Nat) (x1 : Int32) : (Int32 × Int32 × Int32 × mm_M) → Option ((Int32 × mm_M) ⊕ (Int32 × Int32 × Int32 × mm_M)) := (fun s => fX3_most_b39 G a0 x1 s.1 s.2.1 s.2.2.1 s.2.2.2)
def PX3_most (E : mm_E) (G : mm_G) (a0 : Nat) (x1 : Int32) (q : (Int32 × mm_M)) : (Int32 × Int32 × Int32 × mm_M) → Prop := (fun s => mm_At E G 5 (mm_Qi E G q) s.2.2.2 39 [(0, .ref a0), (2, .int s.1), (3, .int s.2.1), (4, .int s.2.2.1)] [])
noncomputable def fX3_most (G : mm_G) (a0 : Nat) (x1 : Int32) (σ : mm_M) : Option (Int32 × mm_M) := mm_run (fX3_most_b0 G a0 x1 σ) (fX3_most_s G a0 x1)
set_option maxHeartbeats 4000000 in
set_option maxRecDepth 100000 in
theorem wX3_most_b39 {E : mm_E} {G : mm_G} (X : mm_Cx E G cX3_most 5 RX3 wsX3_most rmX3_most (some .int)) {a0 : Nat} {x1 : Int32} {x2 : Int32} {x3 : Int32} {x4 : Int32} {σ : mm_M} {q : (Int32 × mm_M)} (ha0 : mm_Is G 3 a0) {o : (Int32 × mm_M) ⊕ (Int32 × Int32 × Int32 × mm_M)} (h : fX3_most_b39 G a0 x1 x2 x3 x4 σ = some o) (hk : mm_Ok q (PX3_most E G a0 x1 q) o) : mm_At E G 5 (mm_Qi E G q) σ 39 [(0, .ref a0), (2, .int x2), (3, .int x3), (4, .int x4)] [] := by
  unfold fX3_most_b39 at h
  refine at_iload (pc := 39) X 4 3 dX3_most_39 rfl ?_
  refine at_aload_n (pc := 41) X 0 0 dX3_most_41 rfl rfl ?_
  refine at_get (pc := 42) X 3 5 (.ref (mm_R G a0 5)) ha0 (by decide) rfl inX3_most_X3 (by decide) lkX3_most_0 rfl dX3_most_42 ?_
  refine at_get (pc := 45) X 0 1 (.int (σ.1 (mm_R G a0 5) 1)) (wf_3_5 X.wf ha0) (by decide) rfl inX3_most_X0 (by decide) lkX3_most_1 rfl dX3_most_45 ?_
  refine at_icmp_ge (pc := 48) X 79 dX3_most_48 (by decide) (fun c48 => ?_) (fun c48 => ?_)
  · have h := mm_neg c48 h
    refine at_iload_n (pc := 79) X 2 1 dX3_most_79 rfl rfl ?_
    refine at_bipush (pc := 80) X (-9 : Int32) dX3_most_80 ib_m9 ?_
    refine at_icmp_eq (pc := 82) X 90 dX3_most_82 (by decide) (fun c82 => ?_) (fun c82 => ?_)
    · have h := mm_pos c82 h
      refine at_iload_n (pc := 90) X 2 1 dX3_most_90 rfl rfl ?_
      exact at_iret (pc := 91) X (mm_inl h hk) dX3_most_91
    · have h := mm_neg c82 h
      refine at_aload_n (pc := 85) X 0 0 dX3_most_85 rfl rfl ?_
      refine at_iload_n (pc := 86) X 3 2 dX3_most_86 rfl rfl ?_
      refine at_put (pc := 87) X 3 12 ha0 (by decide) rfl inX3_most_X3 tyX3 tyX3_ok nmX3 (by decide) lkX3_most_2 rfl (ty := .int) rfl rfl rfl (Nat.le_of_ble_eq_true rfl) (ms_3_12 G _ _ _) mm_up_ne dX3_most_87 ?_
      refine at_iload_n (pc := 90) X 2 1 dX3_most_90 rfl rfl ?_
      exact at_iret (pc := 91) X (mm_inl h hk) dX3_most_91
  · have h := mm_pos c48 h
    refine at_aload_n (pc := 51) X 0 0 dX3_most_51 rfl rfl ?_
    refine at_get (pc := 52) X 3 10 (.ref (mm_R G a0 10)) ha0 (by decide) rfl inX3_most_X3 (by decide) lkX3_most_3 rfl dX3_most_52 ?_
    refine at_iload (pc := 55) X 4 3 dX3_most_55 rfl ?_
    obtain ⟨hc57, h⟩ := mm_chk h
    refine at_iald (pc := 57) X (wf_3_10 X.wf ha0) hc57 dX3_most_57 ?_
    refine at_iload_n (pc := 58) X 3 2 dX3_most_58 rfl rfl ?_
    refine at_icmp_le (pc := 59) X 73 dX3_most_59 (by decide) (fun c59 => ?_) (fun c59 => ?_)
    · have h := mm_neg c59 h
      refine at_iinc (pc := 73) X 4 3 (x4 + 1) [(4, .int (x4 + 1)), (0, .ref a0), (2, .int x2), (3, .int x3)] dX3_most_73 rfl (ii_1 _) (by decide) rfl ?_
      refine at_goto (pc := 76) X 39 dX3_most_76 (by decide) ?_
      have h2 := mm_inr h hk; exact at_sub [1, 2, 3, 0] rfl h2
    · have h := mm_pos c59 h
      refine at_iload (pc := 62) X 4 3 dX3_most_62 rfl ?_
      refine at_istore_n (pc := 64) X 2 [(2, .int x4), (0, .ref a0), (3, .int x3), (4, .int x4)] dX3_most_64 rfl (by decide) rfl ?_
      refine at_aload_n (pc := 65) X 0 1 dX3_most_65 rfl rfl ?_
      refine at_get (pc := 66) X 3 10 (.ref (mm_R G a0 10)) ha0 (by decide) rfl inX3_most_X3 (by decide) lkX3_most_3 rfl dX3_most_66 ?_
      refine at_iload (pc := 69) X 4 3 dX3_most_69 rfl ?_
      obtain ⟨hc71, h⟩ := mm_chk h
      refine at_iald (pc := 71) X (wf_3_10 X.wf ha0) hc71 dX3_most_71 ?_
      refine at_istore_n (pc := 72) X 3 [(3, .int (σ.1 (mm_R G a0 10) x4.toNatClampNeg)), (2, .int x4), (0, .ref a0), (4, .int x4)] dX3_most_72 rfl (by decide) rfl ?_
      refine at_iinc (pc := 73) X 4 3 (x4 + 1) [(4, .int (x4 + 1)), (3, .int (σ.1 (mm_R G a0 10) x4.toNatClampNeg)), (2, .int x4), (0, .ref a0)] dX3_most_73 rfl (ii_1 _) (by decide) rfl ?_
      refine at_goto (pc := 76) X 39 dX3_most_76 (by decide) ?_
      have h2 := mm_inr h hk; exact at_sub [3, 2, 1, 0] rfl h2
set_option maxHeartbeats 4000000 in
set_option maxRecDepth 100000 in
theorem wX3_most_b0 {E : mm_E} {G : mm_G} (X : mm_Cx E G cX3_most 5 RX3 wsX3_most rmX3_most (some .int)) {a0 : Nat} {x1 : Int32} {σ : mm_M} {q : (Int32 × mm_M)} (ha0 : mm_Is G 3 a0) {o : (Int32 × mm_M) ⊕ (Int32 × Int32 × Int32 × mm_M)} (h : fX3_most_b0 G a0 x1 σ = some o) (hk : mm_Ok q (PX3_most E G a0 x1 q) o) : mm_At E G 5 (mm_Qi E G q) σ 0 [(0, .ref a0), (1, .int x1)] [] := by
  unfold fX3_most_b0 at h
  refine at_iload_n (pc := 0) X 1 1 dX3_most_0 rfl rfl ?_
  refine at_iconst (pc := 1) X (1 : Int32) dX3_most_1 ic_1 ?_
  refine at_icmp_lt (pc := 2) X 11 dX3_most_2 (by decide) (fun c2 => ?_) (fun c2 => ?_)
  · have h := mm_pos c2 h
    refine at_iconst (pc := 11) X (-1 : Int32) dX3_most_11 ic_m1 ?_
    exact at_iret (pc := 12) X (mm_inl h hk) dX3_most_12
  · have h := mm_neg c2 h
    refine at_iload_n (pc := 5) X 1 1 dX3_most_5 rfl rfl ?_
    refine at_bipush (pc := 6) X (100 : Int32) dX3_most_6 ib_100 ?_
    refine at_icmp_le (pc := 8) X 13 dX3_most_8 (by decide) (fun c8 => ?_) (fun c8 => ?_)
    · have h := mm_neg c8 h
      refine at_aload_n (pc := 13) X 0 0 dX3_most_13 rfl rfl ?_
      refine at_get (pc := 14) X 3 5 (.ref (mm_R G a0 5)) ha0 (by decide) rfl inX3_most_X3 (by decide) lkX3_most_0 rfl dX3_most_14 ?_
      refine at_get (pc := 17) X 0 1 (.int (σ.1 (mm_R G a0 5) 1)) (wf_3_5 X.wf ha0) (by decide) rfl inX3_most_X0 (by decide) lkX3_most_1 rfl dX3_most_17 ?_
      refine at_if_ne (pc := 20) X 26 dX3_most_20 (by decide) (fun c20 => ?_) (fun c20 => ?_)
      · have h := mm_neg c20 h
        refine at_aload_n (pc := 26) X 0 0 dX3_most_26 rfl rfl ?_
        refine at_iload_n (pc := 27) X 1 1 dX3_most_27 rfl rfl ?_
        obtain ⟨q28, hq28, h⟩ := mm_bind h
        refine at_callv (n := 1) (pc := 28) X 3 [.int x1] [] (mX3_countHeardAside (eL E) X.wf ha0 hq28) gX3_most_X3_countHeardAside rfl ⟨rfl, rfl⟩ (by decide +kernel) ⟨by decide, by decide⟩ (by decide) rfl ha0 rfl rfl (Nat.le_of_ble_eq_true rfl) dX3_most_28 ?_
        refine at_bipush (pc := 31) X (-9 : Int32) dX3_most_31 ib_m9 ?_
        refine at_istore_n (pc := 33) X 2 [(2, .int (-9 : Int32)), (0, .ref a0), (1, .int x1)] dX3_most_33 rfl (by decide) rfl ?_
        refine at_iconst (pc := 34) X (0 : Int32) dX3_most_34 ic_0 ?_
        refine at_istore_n (pc := 35) X 3 [(3, .int (0 : Int32)), (2, .int (-9 : Int32)), (0, .ref a0), (1, .int x1)] dX3_most_35 rfl (by decide) rfl ?_
        refine at_iconst (pc := 36) X (0 : Int32) dX3_most_36 ic_0 ?_
        refine at_istore (pc := 37) X 4 [(4, .int (0 : Int32)), (3, .int (0 : Int32)), (2, .int (-9 : Int32)), (0, .ref a0), (1, .int x1)] dX3_most_37 (by decide) rfl ?_
        have h2 := mm_inr h hk; exact at_sub [3, 2, 1, 0] rfl h2
      · have h := mm_pos c20 h
        refine at_bipush (pc := 23) X (-4 : Int32) dX3_most_23 ib_m4 ?_
        exact at_iret (pc := 25) X (mm_inl h hk) dX3_most_25
    · have h := mm_pos c8 h
      refine at_iconst (pc := 11) X (-1 : Int32) dX3_most_11 ic_m1 ?_
      exact at_iret (pc := 12) X (mm_inl h hk) dX3_most_12
set_option maxHeartbeats 4000000 in
set_option maxRecDepth 100000 in
theorem mX3_most (l : Launch) {G : mm_G} (hwf : mm_WF G) {a0 : Nat} {x1 : Int32} {σ : mm_M} {q : (Int32 × mm_M)} (ha0 : mm_Is G 3 a0) (h : fX3_most G a0 x1 σ = some q) : mm_Mi l yX3_most wsX3_most rmX3_most G [.ref a0, .int x1] σ q := by
  refine mm_ofi (cc := cX3_most) (nL := 5) (ret := some .int) (own := RX3) (lv0 := [(0, .ref a0), (1, .int x1)]) (by decide) rfl rfl (Nat.le_of_ble_eq_true rfl) rfl hwf (fun E hE X => ?_)
  obtain ⟨o, h0, hk⟩ := mm_run_ok (P := PX3_most E G a0 x1 q) h (fun s o hs hk => by exact wX3_most_b39 X ha0 hs hk)
  exact wX3_most_b0 X ha0 h0 hk
set_option maxRecDepth 20000 in
theorem ggX3_best_X0_has : GoodIn wsX3_best wsX0_has := goodIn_r _ [10, 11, 113, 114, 115, 116, 117, 118] (by decide +kernel) (by decide +kernel)
set_option maxRecDepth 20000 in
theorem gX3_best_X0_has : GoodIn wsX3_best (wsV RX3 113 RX0 yX0_has wsX0_has) := goodIn_app (goodIn_of _ (by decide +kernel)) ggX3_best_X0_has
set_option maxRecDepth 20000 in
theorem ggX3_best_X0_become : GoodIn wsX3_best wsX0_become := goodIn_r _ [15, 11, 16, 17, 18, 19, 20, 21, 22, 23, 24, 25, 26, 27, 28, 29, 30, 31, 113, 114, 115, 116, 117, 118, 119, 120, 121, 122, 123, 124] (by decide +kernel) (by decide +kernel)
set_option maxRecDepth 20000 in
theorem gX3_best_X0_become : GoodIn wsX3_best (wsV RX3 108 RX0 yX0_become wsX0_become) := goodIn_app (goodIn_of _ (by decide +kernel)) ggX3_best_X0_become
set_option maxRecDepth 20000 in
theorem ggX3_best_X0_goToEnd : GoodIn wsX3_best wsX0_goToEnd := goodIn_r _ [35, 36, 37, 38, 9, 39, 11, 20, 40, 41, 42, 43, 44, 45, 17, 16, 18, 19, 46, 47, 48, 49, 50, 51, 52, 24, 53, 29, 30, 54, 55, 56, 57, 26, 58, 59, 60, 61, 62, 63, 64, 65, 66, 67, 68, 31, 69, 70, 71, 72, 73, 74, 75, 76, 77, 78, 79, 80, 27, 28, 81, 82, 83, 84, 85, 86, 87, 88, 89, 90, 91, 92, 93, 94, 95, 113, 114, 115, 116, 117, 118, 119, 120, 121, 122, 123, 124] (by decide +kernel) (by decide +kernel)
set_option maxRecDepth 20000 in
theorem gX3_best_X0_goToEnd : GoodIn wsX3_best (wsV RX3 176 RX0 yX0_goToEnd wsX0_goToEnd) := goodIn_app (goodIn_of _ (by decide +kernel)) ggX3_best_X0_goToEnd
theorem dX3_best_0 : decode cX3_best 0 = .ok (.aload_n 0, 1) := by decide +kernel
theorem dX3_best_1 : decode cX3_best 1 = .ok (.getfield 33, 3) := by decide +kernel
theorem dX3_best_4 : decode cX3_best 4 = .ok (.iload_n 1, 1) := by decide +kernel
theorem dX3_best_5 : decode cX3_best 5 = .ok (.invokevirtual 113, 3) := by decide +kernel
theorem dX3_best_8 : decode cX3_best 8 = .ok (.ifCond .ne 5, 3) := by decide +kernel
theorem dX3_best_11 : decode cX3_best 11 = .ok (.iconst (-1), 1) := by decide +kernel
theorem dX3_best_12 : decode cX3_best 12 = .ok (.ireturn, 1) := by decide +kernel
theorem dX3_best_13 : decode cX3_best 13 = .ok (.bipush (-9), 2) := by decide +kernel
theorem dX3_best_15 : decode cX3_best 15 = .ok (.istore_n 2, 1) := by decide +kernel
theorem dX3_best_16 : decode cX3_best 16 = .ok (.sipush 201, 3) := by decide +kernel
theorem dX3_best_19 : decode cX3_best 19 = .ok (.istore_n 3, 1) := by decide +kernel
theorem dX3_best_20 : decode cX3_best 20 = .ok (.iconst 0, 1) := by decide +kernel
theorem dX3_best_21 : decode cX3_best 21 = .ok (.istore 4, 2) := by decide +kernel
theorem dX3_best_23 : decode cX3_best 23 = .ok (.iload 4, 2) := by decide +kernel
theorem dX3_best_25 : decode cX3_best 25 = .ok (.bipush 10, 2) := by decide +kernel
theorem dX3_best_27 : decode cX3_best 27 = .ok (.if_icmp .ge 62, 3) := by decide +kernel
theorem dX3_best_30 : decode cX3_best 30 = .ok (.aload_n 0, 1) := by decide +kernel
theorem dX3_best_31 : decode cX3_best 31 = .ok (.getfield 47, 3) := by decide +kernel
theorem dX3_best_34 : decode cX3_best 34 = .ok (.aload_n 0, 1) := by decide +kernel
theorem dX3_best_35 : decode cX3_best 35 = .ok (.getfield 33, 3) := by decide +kernel
theorem dX3_best_38 : decode cX3_best 38 = .ok (.invokevirtual 108, 3) := by decide +kernel
theorem dX3_best_41 : decode cX3_best 41 = .ok (.aload_n 0, 1) := by decide +kernel
theorem dX3_best_42 : decode cX3_best 42 = .ok (.getfield 47, 3) := by decide +kernel
theorem dX3_best_45 : decode cX3_best 45 = .ok (.getfield 116, 3) := by decide +kernel
theorem dX3_best_48 : decode cX3_best 48 = .ok (.iload_n 1, 1) := by decide +kernel
theorem dX3_best_49 : decode cX3_best 49 = .ok (.aaload, 1) := by decide +kernel
theorem dX3_best_50 : decode cX3_best 50 = .ok (.iload 4, 2) := by decide +kernel
theorem dX3_best_52 : decode cX3_best 52 = .ok (.putfield 153, 3) := by decide +kernel
theorem dX3_best_55 : decode cX3_best 55 = .ok (.aload_n 0, 1) := by decide +kernel
theorem dX3_best_56 : decode cX3_best 56 = .ok (.getfield 47, 3) := by decide +kernel
theorem dX3_best_59 : decode cX3_best 59 = .ok (.invokevirtual 176, 3) := by decide +kernel
theorem dX3_best_62 : decode cX3_best 62 = .ok (.istore 5, 2) := by decide +kernel
theorem dX3_best_64 : decode cX3_best 64 = .ok (.iload 5, 2) := by decide +kernel
theorem dX3_best_66 : decode cX3_best 66 = .ok (.bipush (-9), 2) := by decide +kernel
theorem dX3_best_68 : decode cX3_best 68 = .ok (.if_icmp .eq 15, 3) := by decide +kernel
theorem dX3_best_71 : decode cX3_best 71 = .ok (.iload 5, 2) := by decide +kernel
theorem dX3_best_73 : decode cX3_best 73 = .ok (.iload_n 3, 1) := by decide +kernel
theorem dX3_best_74 : decode cX3_best 74 = .ok (.if_icmp .ge 9, 3) := by decide +kernel
theorem dX3_best_77 : decode cX3_best 77 = .ok (.iload 4, 2) := by decide +kernel
theorem dX3_best_79 : decode cX3_best 79 = .ok (.istore_n 2, 1) := by decide +kernel
theorem dX3_best_80 : decode cX3_best 80 = .ok (.iload 5, 2) := by decide +kernel
theorem dX3_best_82 : decode cX3_best 82 = .ok (.istore_n 3, 1) := by decide +kernel
theorem dX3_best_83 : decode cX3_best 83 = .ok (.iinc 4 1, 3) := by decide +kernel
theorem dX3_best_86 : decode cX3_best 86 = .ok (.goto (-63), 3) := by decide +kernel
theorem dX3_best_89 : decode cX3_best 89 = .ok (.iload_n 2, 1) := by decide +kernel
theorem dX3_best_90 : decode cX3_best 90 = .ok (.bipush (-9), 2) := by decide +kernel
theorem dX3_best_92 : decode cX3_best 92 = .ok (.if_icmp .eq 8, 3) := by decide +kernel
theorem dX3_best_95 : decode cX3_best 95 = .ok (.aload_n 0, 1) := by decide +kernel
theorem dX3_best_96 : decode cX3_best 96 = .ok (.iload_n 3, 1) := by decide +kernel
theorem dX3_best_97 : decode cX3_best 97 = .ok (.putfield 59, 3) := by decide +kernel
theorem dX3_best_100 : decode cX3_best 100 = .ok (.iload_n 2, 1) := by decide +kernel
theorem dX3_best_101 : decode cX3_best 101 = .ok (.ireturn, 1) := by decide +kernel
/-! X3_best (I)I -/
abbrev rmX3_best : Room := { frames := 6, cells := 0, slots := 0, locals := 126 }
theorem lkX3_best_0 : Cond.fieldLink RX3 33 (TX3 5).1 (TX3 5).2.1 (TX3 5).2.2.1 ∈ wsX3_best := by decide +kernel
theorem lkX3_best_1 : Cond.fieldLink RX3 59 (TX3 12).1 (TX3 12).2.1 (TX3 12).2.2.1 ∈ wsX3_best := by decide +kernel
theorem lkX3_best_2 : Cond.fieldLink RX3 47 (TX3 8).1 (TX3 8).2.1 (TX3 8).2.2.1 ∈ wsX3_best := by decide +kernel
theorem lkX3_best_3 : Cond.fieldLink RX3 116 (TX0 0).1 (TX0 0).2.1 (TX0 0).2.2.1 ∈ wsX3_best := by decide +kernel
theorem lkX3_best_4 : Cond.fieldLink RX3 153 (TX2 1).1 (TX2 1).2.1 (TX2 1).2.2.1 ∈ wsX3_best := by decide +kernel
theorem inX3_best_X3 : ∀ w ∈ u_ws RX3 TX3 17, w ∈ wsX3_best := by decide +kernel
theorem inX3_best_X0 : ∀ w ∈ u_ws RX0 TX0 6, w ∈ wsX3_best := by decide +kernel
theorem inX3_best_X2 : ∀ w ∈ u_ws RX2 TX2 6, w ∈ wsX3_best := by decide +kernel
noncomputable def fX3_best_b23 (G : mm_G) (a0 : Nat) (x1 : Int32) (x2 : Int32) (x3 : Int32) (x4 : Int32) (σ : mm_M) : Option ((Int32 × mm_M) ⊕ (Int32 × Int32 × Int32 × mm_M)) := if x4 < (10 : Int32) then ((fX0_become G (mm_R G a0 8) (mm_R G a0 5) σ).bind (fun q38 => if x1 < 0 ∨ mm_N G (mm_R G (mm_R G a0 8) 0) ≤ x1.toNatClampNeg then none else ((fX0_goToEnd G (mm_R G a0 8) (mm_up q38 (mm_R G (mm_R G (mm_R G a0 8) 0) x1.toNatClampNeg) 1 x4)).bind (fun q59 => some (.inr (if q59.1 = (-9 : Int32) then x2 else if q59.1 < x3 then x4 else x2, if q59.1 = (-9 : Int32) then x3 else if q59.1 < x3 then q59.1 else x3, x4 + 1, q59.2)))))) else (if x2 = (-9 : Int32) then (some (.inl (x2, σ))) else (some (.inl (x2, mm_up σ a0 12 x3))))
noncomputable def fX3_best_b0 (G : mm_G) (a0 : Nat) (x1 : Int32) (σ : mm_M) : Option ((Int32 × mm_M) ⊕ (Int32 × Int32 × Int32 × mm_M)) := (fX0_has G (mm_R G a0 5) x1 σ).bind (fun q5 => if q5.1 = 0 then (some (.inl ((-1 : Int32), q5.2))) else (some (.inr ((-9 : Int32), (201 : Int32), (0 : Int32), q5.2))))
noncomputable def fX3_best_s (G : mm_G) (a0 : Nat) (x1 : Int32) : (Int32 × Int32 × Int32 × mm_M) → Option ((Int32 × mm_M) ⊕ (Int32 × Int32 × Int32 × mm_M)) := (fun s => fX3_best_b23 G a0 x1 s.1 s.2.1 s.2.2.1 s.2.2.2)
def PX3_best (E : mm_E) (G : mm_G) (a0 : Nat) (x1 : Int32) (q : (Int32 × mm_M)) : (Int32 × Int32 × Int32 × mm_M) → Prop := (fun s => mm_At E G 6 (mm_Qi E G q) s.2.2.2 23 [(0, .ref a0), (1, .int x1), (2, .int s.1), (3, .int s.2.1), (4, .int s.2.2.1)] [])
noncomputable def fX3_best (G : mm_G) (a0 : Nat) (x1 : Int32) (σ : mm_M) : Option (Int32 × mm_M) := mm_run (fX3_best_b0 G a0 x1 σ) (fX3_best_s G a0 x1)
set_option maxHeartbeats 4000000 in
set_option maxRecDepth 100000 in
theorem wX3_best_b23 {E : mm_E} {G : mm_G} (X : mm_Cx E G cX3_best 6 RX3 wsX3_best rmX3_best (some .int)) {a0 : Nat} {x1 : Int32} {x2 : Int32} {x3 : Int32} {x4 : Int32} {σ : mm_M} {q : (Int32 × mm_M)} (ha0 : mm_Is G 3 a0) {o : (Int32 × mm_M) ⊕ (Int32 × Int32 × Int32 × mm_M)} (h : fX3_best_b23 G a0 x1 x2 x3 x4 σ = some o) (hk : mm_Ok q (PX3_best E G a0 x1 q) o) : mm_At E G 6 (mm_Qi E G q) σ 23 [(0, .ref a0), (1, .int x1), (2, .int x2), (3, .int x3), (4, .int x4)] [] := by
  unfold fX3_best_b23 at h
  refine at_iload (pc := 23) X 4 4 dX3_best_23 rfl ?_
  refine at_bipush (pc := 25) X (10 : Int32) dX3_best_25 ib_10 ?_
  refine at_icmp_ge (pc := 27) X 89 dX3_best_27 (by decide) (fun c27 => ?_) (fun c27 => ?_)
  · have h := mm_neg c27 h
    refine at_iload_n (pc := 89) X 2 2 dX3_best_89 rfl rfl ?_
    refine at_bipush (pc := 90) X (-9 : Int32) dX3_best_90 ib_m9 ?_
    refine at_icmp_eq (pc := 92) X 100 dX3_best_92 (by decide) (fun c92 => ?_) (fun c92 => ?_)
    · have h := mm_pos c92 h
      refine at_iload_n (pc := 100) X 2 2 dX3_best_100 rfl rfl ?_
      exact at_iret (pc := 101) X (mm_inl h hk) dX3_best_101
    · have h := mm_neg c92 h
      refine at_aload_n (pc := 95) X 0 0 dX3_best_95 rfl rfl ?_
      refine at_iload_n (pc := 96) X 3 3 dX3_best_96 rfl rfl ?_
      refine at_put (pc := 97) X 3 12 ha0 (by decide) rfl inX3_best_X3 tyX3 tyX3_ok nmX3 (by decide) lkX3_best_1 rfl (ty := .int) rfl rfl rfl (Nat.le_of_ble_eq_true rfl) (ms_3_12 G _ _ _) mm_up_ne dX3_best_97 ?_
      refine at_iload_n (pc := 100) X 2 2 dX3_best_100 rfl rfl ?_
      exact at_iret (pc := 101) X (mm_inl h hk) dX3_best_101
  · have h := mm_pos c27 h
    refine at_aload_n (pc := 30) X 0 0 dX3_best_30 rfl rfl ?_
    refine at_get (pc := 31) X 3 8 (.ref (mm_R G a0 8)) ha0 (by decide) rfl inX3_best_X3 (by decide) lkX3_best_2 rfl dX3_best_31 ?_
    refine at_aload_n (pc := 34) X 0 0 dX3_best_34 rfl rfl ?_
    refine at_get (pc := 35) X 3 5 (.ref (mm_R G a0 5)) ha0 (by decide) rfl inX3_best_X3 (by decide) lkX3_best_0 rfl dX3_best_35 ?_
    obtain ⟨q38, hq38, h⟩ := mm_bind h
    refine at_callv (n := 1) (pc := 38) X 0 [.ref (mm_R G a0 5)] [] (mX0_become (eL E) X.wf (wf_3_8 X.wf ha0) (wf_3_5 X.wf ha0) hq38) gX3_best_X0_become rfl ⟨rfl, rfl⟩ (by decide +kernel) ⟨by decide, by decide⟩ (by decide) rfl (wf_3_8 X.wf ha0) rfl rfl (Nat.le_of_ble_eq_true rfl) dX3_best_38 ?_
    refine at_aload_n (pc := 41) X 0 0 dX3_best_41 rfl rfl ?_
    refine at_get (pc := 42) X 3 8 (.ref (mm_R G a0 8)) ha0 (by decide) rfl inX3_best_X3 (by decide) lkX3_best_2 rfl dX3_best_42 ?_
    refine at_get (pc := 45) X 0 0 (.ref (mm_R G (mm_R G a0 8) 0)) (wf_3_8 X.wf ha0) (by decide) rfl inX3_best_X0 (by decide) lkX3_best_3 rfl dX3_best_45 ?_
    refine at_iload_n (pc := 48) X 1 1 dX3_best_48 rfl rfl ?_
    obtain ⟨hc49, h⟩ := mm_chk h
    refine at_aald (pc := 49) X 8 3 (wf_0_0 X.wf (wf_3_8 X.wf ha0)) (by decide) (by decide) rfl rfl hc49 dX3_best_49 ?_
    refine at_iload (pc := 50) X 4 4 dX3_best_50 rfl ?_
    refine at_put (pc := 52) X 2 1 (wf_8 X.wf (wf_0_0 X.wf (wf_3_8 X.wf ha0)) hc49) (by decide) rfl inX3_best_X2 tyX2 tyX2_ok nmX2 (by decide) lkX3_best_4 rfl (ty := .int) rfl rfl rfl (Nat.le_of_ble_eq_true rfl) (ms_2_1 G _ _ _) mm_up_ne dX3_best_52 ?_
    refine at_aload_n (pc := 55) X 0 0 dX3_best_55 rfl rfl ?_
    refine at_get (pc := 56) X 3 8 (.ref (mm_R G a0 8)) ha0 (by decide) rfl inX3_best_X3 (by decide) lkX3_best_2 rfl dX3_best_56 ?_
    obtain ⟨q59, hq59, h⟩ := mm_bind h
    refine at_calli (n := 0) (pc := 59) X 0 [] [] (mX0_goToEnd (eL E) X.wf (wf_3_8 X.wf ha0) hq59) gX3_best_X0_goToEnd rfl ⟨rfl, rfl⟩ (by decide +kernel) ⟨by decide, by decide⟩ (by decide) rfl (wf_3_8 X.wf ha0) rfl rfl (Nat.le_of_ble_eq_true rfl) dX3_best_59 ?_
    refine at_istore (pc := 62) X 5 [(5, .int q59.1), (0, .ref a0), (1, .int x1), (2, .int x2), (3, .int x3), (4, .int x4)] dX3_best_62 (by decide) rfl ?_
    refine at_iload (pc := 64) X 5 0 dX3_best_64 rfl ?_
    refine at_bipush (pc := 66) X (-9 : Int32) dX3_best_66 ib_m9 ?_
    have hj68 : mm_At E G 6 (mm_Qi E G q) q59.2 83 [(0, .ref a0), (1, .int x1), (2, .int (if q59.1 = (-9 : Int32) then x2 else if q59.1 < x3 then x4 else x2)), (3, .int (if q59.1 = (-9 : Int32) then x3 else if q59.1 < x3 then q59.1 else x3)), (4, .int x4)] [] := by
      refine at_iinc (pc := 83) X 4 4 (x4 + 1) [(4, .int (x4 + 1)), (0, .ref a0), (1, .int x1), (2, .int (if q59.1 = (-9 : Int32) then x2 else if q59.1 < x3 then x4 else x2)), (3, .int (if q59.1 = (-9 : Int32) then x3 else if q59.1 < x3 then q59.1 else x3))] dX3_best_83 rfl (ii_1 _) (by decide) rfl ?_
      refine at_goto (pc := 86) X 23 dX3_best_86 (by decide) ?_
      have h2 := mm_inr h hk; exact at_sub [1, 2, 3, 4, 0] rfl h2
    refine at_icmp_eq (pc := 68) X 83 dX3_best_68 (by decide) (fun c68 => ?_) (fun c68 => ?_)
    · try simp only [if_pos c68] at hj68
      exact at_sub [1, 2, 3, 4, 5] rfl hj68
    · try simp only [if_neg c68] at hj68
      refine at_iload (pc := 71) X 5 0 dX3_best_71 rfl ?_
      refine at_iload_n (pc := 73) X 3 4 dX3_best_73 rfl rfl ?_
      refine at_icmp_ge (pc := 74) X 83 dX3_best_74 (by decide) (fun c74 => ?_) (fun c74 => ?_)
      · try simp only [if_neg c74] at hj68
        exact at_sub [1, 2, 3, 4, 5] rfl hj68
      · try simp only [if_pos c74] at hj68
        refine at_iload (pc := 77) X 4 5 dX3_best_77 rfl ?_
        refine at_istore_n (pc := 79) X 2 [(2, .int x4), (5, .int q59.1), (0, .ref a0), (1, .int x1), (3, .int x3), (4, .int x4)] dX3_best_79 rfl (by decide) rfl ?_
        refine at_iload (pc := 80) X 5 1 dX3_best_80 rfl ?_
        refine at_istore_n (pc := 82) X 3 [(3, .int q59.1), (2, .int x4), (5, .int q59.1), (0, .ref a0), (1, .int x1), (4, .int x4)] dX3_best_82 rfl (by decide) rfl ?_
        exact at_sub [3, 4, 1, 0, 5] rfl hj68
set_option maxHeartbeats 4000000 in
set_option maxRecDepth 100000 in
theorem wX3_best_b0 {E : mm_E} {G : mm_G} (X : mm_Cx E G cX3_best 6 RX3 wsX3_best rmX3_best (some .int)) {a0 : Nat} {x1 : Int32} {σ : mm_M} {q : (Int32 × mm_M)} (ha0 : mm_Is G 3 a0) {o : (Int32 × mm_M) ⊕ (Int32 × Int32 × Int32 × mm_M)} (h : fX3_best_b0 G a0 x1 σ = some o) (hk : mm_Ok q (PX3_best E G a0 x1 q) o) : mm_At E G 6 (mm_Qi E G q) σ 0 [(0, .ref a0), (1, .int x1)] [] := by
  unfold fX3_best_b0 at h
  refine at_aload_n (pc := 0) X 0 0 dX3_best_0 rfl rfl ?_
  refine at_get (pc := 1) X 3 5 (.ref (mm_R G a0 5)) ha0 (by decide) rfl inX3_best_X3 (by decide) lkX3_best_0 rfl dX3_best_1 ?_
  refine at_iload_n (pc := 4) X 1 1 dX3_best_4 rfl rfl ?_
  obtain ⟨q5, hq5, h⟩ := mm_bind h
  refine at_calli (n := 1) (pc := 5) X 0 [.int x1] [] (mX0_has (eL E) X.wf (wf_3_5 X.wf ha0) hq5) gX3_best_X0_has rfl ⟨rfl, rfl⟩ (by decide +kernel) ⟨by decide, by decide⟩ (by decide) rfl (wf_3_5 X.wf ha0) rfl rfl (Nat.le_of_ble_eq_true rfl) dX3_best_5 ?_
  refine at_if_ne (pc := 8) X 13 dX3_best_8 (by decide) (fun c8 => ?_) (fun c8 => ?_)
  · have h := mm_neg c8 h
    refine at_bipush (pc := 13) X (-9 : Int32) dX3_best_13 ib_m9 ?_
    refine at_istore_n (pc := 15) X 2 [(2, .int (-9 : Int32)), (0, .ref a0), (1, .int x1)] dX3_best_15 rfl (by decide) rfl ?_
    refine at_sipush (pc := 16) X (201 : Int32) dX3_best_16 is_201 ?_
    refine at_istore_n (pc := 19) X 3 [(3, .int (201 : Int32)), (2, .int (-9 : Int32)), (0, .ref a0), (1, .int x1)] dX3_best_19 rfl (by decide) rfl ?_
    refine at_iconst (pc := 20) X (0 : Int32) dX3_best_20 ic_0 ?_
    refine at_istore (pc := 21) X 4 [(4, .int (0 : Int32)), (3, .int (201 : Int32)), (2, .int (-9 : Int32)), (0, .ref a0), (1, .int x1)] dX3_best_21 (by decide) rfl ?_
    have h2 := mm_inr h hk; exact at_sub [3, 4, 2, 1, 0] rfl h2
  · have h := mm_pos c8 h
    refine at_iconst (pc := 11) X (-1 : Int32) dX3_best_11 ic_m1 ?_
    exact at_iret (pc := 12) X (mm_inl h hk) dX3_best_12
set_option maxHeartbeats 4000000 in
set_option maxRecDepth 100000 in
theorem mX3_best (l : Launch) {G : mm_G} (hwf : mm_WF G) {a0 : Nat} {x1 : Int32} {σ : mm_M} {q : (Int32 × mm_M)} (ha0 : mm_Is G 3 a0) (h : fX3_best G a0 x1 σ = some q) : mm_Mi l yX3_best wsX3_best rmX3_best G [.ref a0, .int x1] σ q := by
  refine mm_ofi (cc := cX3_best) (nL := 6) (ret := some .int) (own := RX3) (lv0 := [(0, .ref a0), (1, .int x1)]) (by decide) rfl rfl (Nat.le_of_ble_eq_true rfl) rfl hwf (fun E hE X => ?_)
  obtain ⟨o, h0, hk⟩ := mm_run_ok (P := PX3_best E G a0 x1 q) h (fun s o hs hk => by exact wX3_best_b23 X ha0 hs hk)
  exact wX3_best_b0 X ha0 h0 hk
