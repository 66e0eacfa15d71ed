/-! X3_row X3_refusedPlace X3_lay X3_at X3_tear X3_holds X3_copy X3_mean X3_isText -/
set_option maxRecDepth 20000 in
theorem ggX3_row_X3_isRow : GoodIn wsX3_row wsX3_isRow := goodIn_r _ [6] (by decide +kernel) (by decide +kernel)
set_option maxRecDepth 20000 in
theorem gX3_row_X3_isRow : GoodIn wsX3_row (va_wsS RX3 79 yX3_isRow wsX3_isRow) := goodIn_app (goodIn_of _ (by decide +kernel)) ggX3_row_X3_isRow
set_option maxRecDepth 20000 in
theorem ggX3_row_X3_found : GoodIn wsX3_row wsX3_found := goodIn_r _ [10, 11, 12, 13, 14, 15, 16, 17, 18, 19, 20, 21, 22, 23, 24, 25, 26, 27, 28, 29] (by decide +kernel) (by decide +kernel)
set_option maxRecDepth 20000 in
theorem gX3_row_X3_found : GoodIn wsX3_row (wsV RX3 83 RX3 yX3_found wsX3_found) := goodIn_app (goodIn_of _ (by decide +kernel)) ggX3_row_X3_found
theorem dX3_row_0 : decode cX3_row 0 = .ok (.iload_n 1, 1) := by decide +kernel
theorem dX3_row_1 : decode cX3_row 1 = .ok (.invokestatic 79, 3) := by decide +kernel
theorem dX3_row_4 : decode cX3_row 4 = .ok (.ifCond .eq 9, 3) := by decide +kernel
theorem dX3_row_7 : decode cX3_row 7 = .ok (.iload_n 2, 1) := by decide +kernel
theorem dX3_row_8 : decode cX3_row 8 = .ok (.bipush 40, 2) := by decide +kernel
theorem dX3_row_10 : decode cX3_row 10 = .ok (.if_icmp .le 5, 3) := by decide +kernel
theorem dX3_row_13 : decode cX3_row 13 = .ok (.iconst (-1), 1) := by decide +kernel
theorem dX3_row_14 : decode cX3_row 14 = .ok (.ireturn, 1) := by decide +kernel
theorem dX3_row_15 : decode cX3_row 15 = .ok (.iload_n 2, 1) := by decide +kernel
theorem dX3_row_16 : decode cX3_row 16 = .ok (.ifCond .ge 9, 3) := by decide +kernel
theorem dX3_row_19 : decode cX3_row 19 = .ok (.aload_n 0, 1) := by decide +kernel
theorem dX3_row_20 : decode cX3_row 20 = .ok (.iconst 5, 1) := by decide +kernel
theorem dX3_row_21 : decode cX3_row 21 = .ok (.invokevirtual 83, 3) := by decide +kernel
theorem dX3_row_24 : decode cX3_row 24 = .ok (.ireturn, 1) := by decide +kernel
theorem dX3_row_25 : decode cX3_row 25 = .ok (.iconst 0, 1) := by decide +kernel
theorem dX3_row_26 : decode cX3_row 26 = .ok (.istore_n 3, 1) := by decide +kernel
theorem dX3_row_27 : decode cX3_row 27 = .ok (.iload_n 3, 1) := by decide +kernel
theorem dX3_row_28 : decode cX3_row 28 = .ok (.iload_n 2, 1) := by decide +kernel
theorem dX3_row_29 : decode cX3_row 29 = .ok (.if_icmp .ge 18, 3) := by decide +kernel
theorem dX3_row_32 : decode cX3_row 32 = .ok (.aload_n 0, 1) := by decide +kernel
theorem dX3_row_33 : decode cX3_row 33 = .ok (.getfield 11, 3) := by decide +kernel
theorem dX3_row_36 : decode cX3_row 36 = .ok (.iload_n 1, 1) := by decide +kernel
theorem dX3_row_37 : decode cX3_row 37 = .ok (.aaload, 1) := by decide +kernel
theorem dX3_row_38 : decode cX3_row 38 = .ok (.iload_n 3, 1) := by decide +kernel
theorem dX3_row_39 : decode cX3_row 39 = .ok (.iconst 0, 1) := by decide +kernel
theorem dX3_row_40 : decode cX3_row 40 = .ok (.iastore, 1) := by decide +kernel
theorem dX3_row_41 : decode cX3_row 41 = .ok (.iinc 3 1, 3) := by decide +kernel
theorem dX3_row_44 : decode cX3_row 44 = .ok (.goto (-17), 3) := by decide +kernel
theorem dX3_row_47 : decode cX3_row 47 = .ok (.aload_n 0, 1) := by decide +kernel
theorem dX3_row_48 : decode cX3_row 48 = .ok (.getfield 14, 3) := by decide +kernel
theorem dX3_row_51 : decode cX3_row 51 = .ok (.iload_n 1, 1) := by decide +kernel
theorem dX3_row_52 : decode cX3_row 52 = .ok (.iload_n 2, 1) := by decide +kernel
theorem dX3_row_53 : decode cX3_row 53 = .ok (.iastore, 1) := by decide +kernel
theorem dX3_row_54 : decode cX3_row 54 = .ok (.iload_n 2, 1) := by decide +kernel
theorem dX3_row_55 : decode cX3_row 55 = .ok (.ireturn, 1) := by decide +kernel
/-! X3_row (II)I -/
abbrev rmX3_row : Room := { frames := 1, cells := 0, slots := 0, locals := 21 }
theorem lkX3_row_0 : Cond.fieldLink RX3 14 (TX3 1).1 (TX3 1).2.1 (TX3 1).2.2.1 ∈ wsX3_row := by decide +kernel
theorem lkX3_row_1 : Cond.fieldLink RX3 11 (TX3 0).1 (TX3 0).2.1 (TX3 0).2.2.1 ∈ wsX3_row := by decide +kernel
theorem inX3_row_X3 : ∀ w ∈ u_ws RX3 TX3 17, w ∈ wsX3_row := by decide +kernel
noncomputable def fX3_row_b27 (G : mm_G) (a0 : Nat) (x1 : Int32) (x2 : Int32) (x3 : Int32) (σ : mm_M) : Option ((Int32 × mm_M) ⊕ (Int32 × mm_M)) := if x3 < x2 then (if x1 < 0 ∨ mm_N G (mm_R G a0 0) ≤ x1.toNatClampNeg then none else (if x3 < 0 ∨ mm_N G (mm_R G (mm_R G a0 0) x1.toNatClampNeg) ≤ x3.toNatClampNeg then none else (some (.inr (x3 + 1, mm_up σ (mm_R G (mm_R G a0 0) x1.toNatClampNeg) x3.toNatClampNeg (0 : Int32)))))) else (if x1 < 0 ∨ mm_N G (mm_R G a0 1) ≤ x1.toNatClampNeg then none else (some (.inl (x2, mm_up σ (mm_R G a0 1) x1.toNatClampNeg x2))))
noncomputable def fX3_row_b0 (G : mm_G) (a0 : Nat) (x1 : Int32) (x2 : Int32) (σ : mm_M) : Option ((Int32 × mm_M) ⊕ (Int32 × mm_M)) := (fX3_isRow G x1 σ).bind (fun q1 => if q1.1 = 0 then (some (.inl ((-1 : Int32), q1.2))) else (if (40 : Int32) < x2 then (some (.inl ((-1 : Int32), q1.2))) else (if x2 < 0 then ((fX3_found G a0 (5 : Int32) q1.2).bind (fun q21 => some (.inl (q21.1, q21.2)))) else (some (.inr ((0 : Int32), q1.2))))))
noncomputable def fX3_row_s (G : mm_G) (a0 : Nat) (x1 : Int32) (x2 : Int32) : (Int32 × mm_M) → Option ((Int32 × mm_M) ⊕ (Int32 × mm_M)) := (fun s => fX3_row_b27 G a0 x1 x2 s.1 s.2)
def PX3_row (E : mm_E) (G : mm_G) (a0 : Nat) (x1 : Int32) (x2 : Int32) (q : (Int32 × mm_M)) : (Int32 × mm_M) → Prop := (fun s => mm_At E G 4 (mm_Qi E G q) s.2 27 [(0, .ref a0), (1, .int x1), (2, .int x2), (3, .int s.1)] [])
noncomputable def fX3_row (G : mm_G) (a0 : Nat) (x1 : Int32) (x2 : Int32) (σ : mm_M) : Option (Int32 × mm_M) := mm_run (fX3_row_b0 G a0 x1 x2 σ) (fX3_row_s G a0 x1 x2)
set_option maxHeartbeats 4000000 in
set_option maxRecDepth 100000 in
theorem wX3_row_b27 {E : mm_E} {G : mm_G} (X : mm_Cx E G cX3_row 4 RX3 wsX3_row rmX3_row (some .int)) {a0 : Nat} {x1 : Int32} {x2 : Int32} {x3 : Int32} {σ : mm_M} {q : (Int32 × mm_M)} (ha0 : mm_Is G 3 a0) {o : (Int32 × mm_M) ⊕ (Int32 × mm_M)} (h : fX3_row_b27 G a0 x1 x2 x3 σ = some o) (hk : mm_Ok q (PX3_row E G a0 x1 x2 q) o) : mm_At E G 4 (mm_Qi E G q) σ 27 [(0, .ref a0), (1, .int x1), (2, .int x2), (3, .int x3)] [] := by
  unfold fX3_row_b27 at h
  refine at_iload_n (pc := 27) X 3 3 dX3_row_27 rfl rfl ?_
  refine at_iload_n (pc := 28) X 2 2 dX3_row_28 rfl rfl ?_
  refine at_icmp_ge (pc := 29) X 47 dX3_row_29 (by decide) (fun c29 => ?_) (fun c29 => ?_)
  · have h := mm_neg c29 h
    refine at_aload_n (pc := 47) X 0 0 dX3_row_47 rfl rfl ?_
    refine at_get (pc := 48) X 3 1 (.ref (mm_R G a0 1)) ha0 (by decide) rfl inX3_row_X3 (by decide) lkX3_row_0 rfl dX3_row_48 ?_
    refine at_iload_n (pc := 51) X 1 1 dX3_row_51 rfl rfl ?_
    refine at_iload_n (pc := 52) X 2 2 dX3_row_52 rfl rfl ?_
    obtain ⟨hc53, h⟩ := mm_chk h
    refine at_iast (pc := 53) X (wf_3_1 X.wf ha0) hc53 dX3_row_53 ?_
    refine at_iload_n (pc := 54) X 2 2 dX3_row_54 rfl rfl ?_
    exact at_iret (pc := 55) X (mm_inl h hk) dX3_row_55
  · have h := mm_pos c29 h
    refine at_aload_n (pc := 32) X 0 0 dX3_row_32 rfl rfl ?_
    refine at_get (pc := 33) X 3 0 (.ref (mm_R G a0 0)) ha0 (by decide) rfl inX3_row_X3 (by decide) lkX3_row_1 rfl dX3_row_33 ?_
    refine at_iload_n (pc := 36) X 1 1 dX3_row_36 rfl rfl ?_
    obtain ⟨hc37, h⟩ := mm_chk h
    refine at_aald (pc := 37) X 10 5 (wf_3_0 X.wf ha0) (by decide) (by decide) rfl rfl hc37 dX3_row_37 ?_
    refine at_iload_n (pc := 38) X 3 3 dX3_row_38 rfl rfl ?_
    refine at_iconst (pc := 39) X (0 : Int32) dX3_row_39 ic_0 ?_
    obtain ⟨hc40, h⟩ := mm_chk h
    refine at_iast (pc := 40) X (wf_10 X.wf (wf_3_0 X.wf ha0) hc37) hc40 dX3_row_40 ?_
    refine at_iinc (pc := 41) X 3 3 (x3 + 1) [(3, .int (x3 + 1)), (0, .ref a0), (1, .int x1), (2, .int x2)] dX3_row_41 rfl (ii_1 _) (by decide) rfl ?_
    refine at_goto (pc := 44) X 27 dX3_row_44 (by decide) ?_
    have h2 := mm_inr h hk; exact at_sub [1, 2, 3, 0] rfl h2
set_option maxHeartbeats 4000000 in
set_option maxRecDepth 100000 in
theorem wX3_row_b0 {E : mm_E} {G : mm_G} (X : mm_Cx E G cX3_row 4 RX3 wsX3_row rmX3_row (some .int)) {a0 : Nat} {x1 : Int32} {x2 : Int32} {σ : mm_M} {q : (Int32 × mm_M)} (ha0 : mm_Is G 3 a0) {o : (Int32 × mm_M) ⊕ (Int32 × mm_M)} (h : fX3_row_b0 G a0 x1 x2 σ = some o) (hk : mm_Ok q (PX3_row E G a0 x1 x2 q) o) : mm_At E G 4 (mm_Qi E G q) σ 0 [(0, .ref a0), (1, .int x1), (2, .int x2)] [] := by
  unfold fX3_row_b0 at h
  refine at_iload_n (pc := 0) X 1 1 dX3_row_0 rfl rfl ?_
  obtain ⟨q1, hq1, h⟩ := mm_bind h
  refine at_scalli (n := 1) (pc := 1) X [.int x1] [] (mX3_isRow (eL E) X.wf hq1) gX3_row_X3_isRow rfl ⟨rfl, rfl⟩ (by decide +kernel) ⟨by decide, by decide⟩ rfl rfl (Nat.le_of_ble_eq_true rfl) dX3_row_1 ?_
  refine at_if_eq (pc := 4) X 13 dX3_row_4 (by decide) (fun c4 => ?_) (fun c4 => ?_)
  · have h := mm_pos c4 h
    refine at_iconst (pc := 13) X (-1 : Int32) dX3_row_13 ic_m1 ?_
    exact at_iret (pc := 14) X (mm_inl h hk) dX3_row_14
  · have h := mm_neg c4 h
    refine at_iload_n (pc := 7) X 2 2 dX3_row_7 rfl rfl ?_
    refine at_bipush (pc := 8) X (40 : Int32) dX3_row_8 ib_40 ?_
    refine at_icmp_le (pc := 10) X 15 dX3_row_10 (by decide) (fun c10 => ?_) (fun c10 => ?_)
    · have h := mm_neg c10 h
      refine at_iload_n (pc := 15) X 2 2 dX3_row_15 rfl rfl ?_
      refine at_if_ge (pc := 16) X 25 dX3_row_16 (by decide) (fun c16 => ?_) (fun c16 => ?_)
      · have h := mm_neg c16 h
        refine at_iconst (pc := 25) X (0 : Int32) dX3_row_25 ic_0 ?_
        refine at_istore_n (pc := 26) X 3 [(3, .int (0 : Int32)), (0, .ref a0), (1, .int x1), (2, .int x2)] dX3_row_26 rfl (by decide) rfl ?_
        have h2 := mm_inr h hk; exact at_sub [1, 2, 3, 0] rfl h2
      · have h := mm_pos c16 h
        refine at_aload_n (pc := 19) X 0 0 dX3_row_19 rfl rfl ?_
        refine at_iconst (pc := 20) X (5 : Int32) dX3_row_20 ic_5 ?_
        obtain ⟨q21, hq21, h⟩ := mm_bind h
        refine at_calli (n := 1) (pc := 21) X 3 [.int (5 : Int32)] [] (mX3_found (eL E) X.wf ha0 hq21) gX3_row_X3_found rfl ⟨rfl, rfl⟩ (by decide +kernel) ⟨by decide, by decide⟩ (by decide) rfl ha0 rfl rfl (Nat.le_of_ble_eq_true rfl) dX3_row_21 ?_
        exact at_iret (pc := 24) X (mm_inl h hk) dX3_row_24
    · have h := mm_pos c10 h
      refine at_iconst (pc := 13) X (-1 : Int32) dX3_row_13 ic_m1 ?_
      exact at_iret (pc := 14) X (mm_inl h hk) dX3_row_14
set_option maxHeartbeats 4000000 in
set_option maxRecDepth 100000 in
theorem mX3_row (l : Launch) {G : mm_G} (hwf : mm_WF G) {a0 : Nat} {x1 : Int32} {x2 : Int32} {σ : mm_M} {q : (Int32 × mm_M)} (ha0 : mm_Is G 3 a0) (h : fX3_row G a0 x1 x2 σ = some q) : mm_Mi l yX3_row wsX3_row rmX3_row G [.ref a0, .int x1, .int x2] σ q := by
  refine mm_ofi (cc := cX3_row) (nL := 4) (ret := some .int) (own := RX3) (lv0 := [(0, .ref a0), (1, .int x1), (2, .int x2)]) (by decide) rfl rfl (Nat.le_of_ble_eq_true rfl) rfl hwf (fun E hE X => ?_)
  obtain ⟨o, h0, hk⟩ := mm_run_ok (P := PX3_row E G a0 x1 x2 q) h (fun s o hs hk => by exact wX3_row_b27 X ha0 hs hk)
  exact wX3_row_b0 X ha0 h0 hk
set_option maxRecDepth 20000 in
theorem ggX3_refusedPlace_X3_isRow : GoodIn wsX3_refusedPlace wsX3_isRow := goodIn_r _ [5] (by decide +kernel) (by decide +kernel)
set_option maxRecDepth 20000 in
theorem gX3_refusedPlace_X3_isRow : GoodIn wsX3_refusedPlace (va_wsS RX3 79 yX3_isRow wsX3_isRow) := goodIn_app (goodIn_of _ (by decide +kernel)) ggX3_refusedPlace_X3_isRow
set_option maxRecDepth 20000 in
theorem ggX3_refusedPlace_X3_found : GoodIn wsX3_refusedPlace wsX3_found := goodIn_r _ [9, 10, 11, 12, 13, 14, 15, 16, 17, 18, 19, 20, 21, 22, 23, 24, 25, 26, 27, 28] (by decide +kernel) (by decide +kernel)
set_option maxRecDepth 20000 in
theorem gX3_refusedPlace_X3_found : GoodIn wsX3_refusedPlace (wsV RX3 83 RX3 yX3_found wsX3_found) := goodIn_app (goodIn_of _ (by decide +kernel)) ggX3_refusedPlace_X3_found
theorem dX3_refusedPlace_0 : decode cX3_refusedPlace 0 = .ok (.iload_n 1, 1) := by decide +kernel
theorem dX3_refusedPlace_1 : decode cX3_refusedPlace 1 = .ok (.invokestatic 79, 3) := by decide +kernel
theorem dX3_refusedPlace_4 : decode cX3_refusedPlace 4 = .ok (.ifCond .ne 5, 3) := by decide +kernel
theorem dX3_refusedPlace_7 : decode cX3_refusedPlace 7 = .ok (.iconst (-1), 1) := by decide +kernel
theorem dX3_refusedPlace_8 : decode cX3_refusedPlace 8 = .ok (.ireturn, 1) := by decide +kernel
theorem dX3_refusedPlace_9 : decode cX3_refusedPlace 9 = .ok (.aload_n 0, 1) := by decide +kernel
theorem dX3_refusedPlace_10 : decode cX3_refusedPlace 10 = .ok (.getfield 14, 3) := by decide +kernel
theorem dX3_refusedPlace_13 : decode cX3_refusedPlace 13 = .ok (.iload_n 1, 1) := by decide +kernel
theorem dX3_refusedPlace_14 : decode cX3_refusedPlace 14 = .ok (.iaload, 1) := by decide +kernel
theorem dX3_refusedPlace_15 : decode cX3_refusedPlace 15 = .ok (.iconst (-1), 1) := by decide +kernel
theorem dX3_refusedPlace_16 : decode cX3_refusedPlace 16 = .ok (.if_icmp .ne 9, 3) := by decide +kernel
theorem dX3_refusedPlace_19 : decode cX3_refusedPlace 19 = .ok (.aload_n 0, 1) := by decide +kernel
theorem dX3_refusedPlace_20 : decode cX3_refusedPlace 20 = .ok (.iconst 1, 1) := by decide +kernel
theorem dX3_refusedPlace_21 : decode cX3_refusedPlace 21 = .ok (.invokevirtual 83, 3) := by decide +kernel
theorem dX3_refusedPlace_24 : decode cX3_refusedPlace 24 = .ok (.ireturn, 1) := by decide +kernel
theorem dX3_refusedPlace_25 : decode cX3_refusedPlace 25 = .ok (.iload_n 2, 1) := by decide +kernel
theorem dX3_refusedPlace_26 : decode cX3_refusedPlace 26 = .ok (.ifCond .lt 13, 3) := by decide +kernel
theorem dX3_refusedPlace_29 : decode cX3_refusedPlace 29 = .ok (.iload_n 2, 1) := by decide +kernel
theorem dX3_refusedPlace_30 : decode cX3_refusedPlace 30 = .ok (.aload_n 0, 1) := by decide +kernel
theorem dX3_refusedPlace_31 : decode cX3_refusedPlace 31 = .ok (.getfield 14, 3) := by decide +kernel
theorem dX3_refusedPlace_34 : decode cX3_refusedPlace 34 = .ok (.iload_n 1, 1) := by decide +kernel
theorem dX3_refusedPlace_35 : decode cX3_refusedPlace 35 = .ok (.iaload, 1) := by decide +kernel
theorem dX3_refusedPlace_36 : decode cX3_refusedPlace 36 = .ok (.if_icmp .lt 9, 3) := by decide +kernel
theorem dX3_refusedPlace_39 : decode cX3_refusedPlace 39 = .ok (.aload_n 0, 1) := by decide +kernel
theorem dX3_refusedPlace_40 : decode cX3_refusedPlace 40 = .ok (.iconst 2, 1) := by decide +kernel
theorem dX3_refusedPlace_41 : decode cX3_refusedPlace 41 = .ok (.invokevirtual 83, 3) := by decide +kernel
theorem dX3_refusedPlace_44 : decode cX3_refusedPlace 44 = .ok (.ireturn, 1) := by decide +kernel
theorem dX3_refusedPlace_45 : decode cX3_refusedPlace 45 = .ok (.iconst 0, 1) := by decide +kernel
theorem dX3_refusedPlace_46 : decode cX3_refusedPlace 46 = .ok (.ireturn, 1) := by decide +kernel
/-! X3_refusedPlace (II)I -/
abbrev rmX3_refusedPlace : Room := { frames := 1, cells := 0, slots := 0, locals := 21 }
theorem lkX3_refusedPlace_0 : Cond.fieldLink RX3 14 (TX3 1).1 (TX3 1).2.1 (TX3 1).2.2.1 ∈ wsX3_refusedPlace := by decide +kernel
theorem inX3_refusedPlace_X3 : ∀ w ∈ u_ws RX3 TX3 17, w ∈ wsX3_refusedPlace := by decide +kernel
noncomputable def fX3_refusedPlace_b39 (G : mm_G) (a0 : Nat) (x1 : Int32) (x2 : Int32) (σ : mm_M) : Option (Int32 × mm_M) := (fX3_found G a0 (2 : Int32) σ).bind (fun q41 => some (q41.1, q41.2))
noncomputable def fX3_refusedPlace (G : mm_G) (a0 : Nat) (x1 : Int32) (x2 : Int32) (σ : mm_M) : Option (Int32 × mm_M) := (fX3_isRow G x1 σ).bind (fun q1 => if q1.1 = 0 then (some ((-1 : Int32), q1.2)) else (if x1 < 0 ∨ mm_N G (mm_R G a0 1) ≤ x1.toNatClampNeg then none else (if (q1.2.1 (mm_R G a0 1) x1.toNatClampNeg) = (-1 : Int32) then ((fX3_found G a0 (1 : Int32) q1.2).bind (fun q21 => some (q21.1, q21.2))) else (if x2 < 0 then (fX3_refusedPlace_b39 G a0 x1 x2 q1.2) else (if x1 < 0 ∨ mm_N G (mm_R G a0 1) ≤ x1.toNatClampNeg then none else (if x2 < (q1.2.1 (mm_R G a0 1) x1.toNatClampNeg) then (some ((0 : Int32), q1.2)) else (fX3_refusedPlace_b39 G a0 x1 x2 q1.2)))))))
set_option maxHeartbeats 4000000 in
set_option maxRecDepth 100000 in
theorem wX3_refusedPlace_b39 {E : mm_E} {G : mm_G} (X : mm_Cx E G cX3_refusedPlace 3 RX3 wsX3_refusedPlace rmX3_refusedPlace (some .int)) {a0 : Nat} {x1 : Int32} {x2 : Int32} {σ : mm_M} {q : (Int32 × mm_M)} (ha0 : mm_Is G 3 a0) (h : fX3_refusedPlace_b39 G a0 x1 x2 σ = some q) : mm_At E G 3 (mm_Qi E G q) σ 39 [(0, .ref a0)] [] := by
  unfold fX3_refusedPlace_b39 at h
  refine at_aload_n (pc := 39) X 0 0 dX3_refusedPlace_39 rfl rfl ?_
  refine at_iconst (pc := 40) X (2 : Int32) dX3_refusedPlace_40 ic_2 ?_
  obtain ⟨q41, hq41, h⟩ := mm_bind h
  refine at_calli (n := 1) (pc := 41) X 3 [.int (2 : Int32)] [] (mX3_found (eL E) X.wf ha0 hq41) gX3_refusedPlace_X3_found rfl ⟨rfl, rfl⟩ (by decide +kernel) ⟨by decide, by decide⟩ (by decide) rfl ha0 rfl rfl (Nat.le_of_ble_eq_true rfl) dX3_refusedPlace_41 ?_
  exact at_iret (pc := 44) X (Option.some.inj h) dX3_refusedPlace_44
set_option maxHeartbeats 4000000 in
set_option maxRecDepth 100000 in
theorem wX3_refusedPlace_b0 {E : mm_E} {G : mm_G} (X : mm_Cx E G cX3_refusedPlace 3 RX3 wsX3_refusedPlace rmX3_refusedPlace (some .int)) {a0 : Nat} {x1 : Int32} {x2 : Int32} {σ : mm_M} {q : (Int32 × mm_M)} (ha0 : mm_Is G 3 a0) (h : fX3_refusedPlace G a0 x1 x2 σ = some q) : mm_At E G 3 (mm_Qi E G q) σ 0 [(0, .ref a0), (1, .int x1), (2, .int x2)] [] := by
  unfold fX3_refusedPlace at h
  refine at_iload_n (pc := 0) X 1 1 dX3_refusedPlace_0 rfl rfl ?_
  obtain ⟨q1, hq1, h⟩ := mm_bind h
  refine at_scalli (n := 1) (pc := 1) X [.int x1] [] (mX3_isRow (eL E) X.wf hq1) gX3_refusedPlace_X3_isRow rfl ⟨rfl, rfl⟩ (by decide +kernel) ⟨by decide, by decide⟩ rfl rfl (Nat.le_of_ble_eq_true rfl) dX3_refusedPlace_1 ?_
  refine at_if_ne (pc := 4) X 9 dX3_refusedPlace_4 (by decide) (fun c4 => ?_) (fun c4 => ?_)
  · have h := mm_neg c4 h
    refine at_aload_n (pc := 9) X 0 0 dX3_refusedPlace_9 rfl rfl ?_
    refine at_get (pc := 10) X 3 1 (.ref (mm_R G a0 1)) ha0 (by decide) rfl inX3_refusedPlace_X3 (by decide) lkX3_refusedPlace_0 rfl dX3_refusedPlace_10 ?_
    refine at_iload_n (pc := 13) X 1 1 dX3_refusedPlace_13 rfl rfl ?_
    obtain ⟨hc14, h⟩ := mm_chk h
    refine at_iald (pc := 14) X (wf_3_1 X.wf ha0) hc14 dX3_refusedPlace_14 ?_
    refine at_iconst (pc := 15) X (-1 : Int32) dX3_refusedPlace_15 ic_m1 ?_
    refine at_icmp_ne (pc := 16) X 25 dX3_refusedPlace_16 (by decide) (fun c16 => ?_) (fun c16 => ?_)
    · have h := mm_neg c16 h
      refine at_iload_n (pc := 25) X 2 2 dX3_refusedPlace_25 rfl rfl ?_
      refine at_if_lt (pc := 26) X 39 dX3_refusedPlace_26 (by decide) (fun c26 => ?_) (fun c26 => ?_)
      · have h := mm_pos c26 h
        exact at_sub [0] rfl (wX3_refusedPlace_b39 X ha0 h)
      · have h := mm_neg c26 h
        refine at_iload_n (pc := 29) X 2 2 dX3_refusedPlace_29 rfl rfl ?_
        refine at_aload_n (pc := 30) X 0 0 dX3_refusedPlace_30 rfl rfl ?_
        refine at_get (pc := 31) X 3 1 (.ref (mm_R G a0 1)) ha0 (by decide) rfl inX3_refusedPlace_X3 (by decide) lkX3_refusedPlace_0 rfl dX3_refusedPlace_31 ?_
        refine at_iload_n (pc := 34) X 1 1 dX3_refusedPlace_34 rfl rfl ?_
        obtain ⟨hc35, h⟩ := mm_chk h
        refine at_iald (pc := 35) X (wf_3_1 X.wf ha0) hc35 dX3_refusedPlace_35 ?_
        refine at_icmp_lt (pc := 36) X 45 dX3_refusedPlace_36 (by decide) (fun c36 => ?_) (fun c36 => ?_)
        · have h := mm_pos c36 h
          refine at_iconst (pc := 45) X (0 : Int32) dX3_refusedPlace_45 ic_0 ?_
          exact at_iret (pc := 46) X (Option.some.inj h) dX3_refusedPlace_46
        · have h := mm_neg c36 h
          exact at_sub [0] rfl (wX3_refusedPlace_b39 X ha0 h)
    · have h := mm_pos c16 h
      refine at_aload_n (pc := 19) X 0 0 dX3_refusedPlace_19 rfl rfl ?_
      refine at_iconst (pc := 20) X (1 : Int32) dX3_refusedPlace_20 ic_1 ?_
      obtain ⟨q21, hq21, h⟩ := mm_bind h
      refine at_calli (n := 1) (pc := 21) X 3 [.int (1 : Int32)] [] (mX3_found (eL E) X.wf ha0 hq21) gX3_refusedPlace_X3_found rfl ⟨rfl, rfl⟩ (by decide +kernel) ⟨by decide, by decide⟩ (by decide) rfl ha0 rfl rfl (Nat.le_of_ble_eq_true rfl) dX3_refusedPlace_21 ?_
      exact at_iret (pc := 24) X (Option.some.inj h) dX3_refusedPlace_24
  · have h := mm_pos c4 h
    refine at_iconst (pc := 7) X (-1 : Int32) dX3_refusedPlace_7 ic_m1 ?_
    exact at_iret (pc := 8) X (Option.some.inj h) dX3_refusedPlace_8
set_option maxHeartbeats 4000000 in
set_option maxRecDepth 100000 in
theorem mX3_refusedPlace (l : Launch) {G : mm_G} (hwf : mm_WF G) {a0 : Nat} {x1 : Int32} {x2 : Int32} {σ : mm_M} {q : (Int32 × mm_M)} (ha0 : mm_Is G 3 a0) (h : fX3_refusedPlace G a0 x1 x2 σ = some q) : mm_Mi l yX3_refusedPlace wsX3_refusedPlace rmX3_refusedPlace G [.ref a0, .int x1, .int x2] σ q := by
  refine mm_ofi (cc := cX3_refusedPlace) (nL := 3) (ret := some .int) (own := RX3) (lv0 := [(0, .ref a0), (1, .int x1), (2, .int x2)]) (by decide) rfl rfl (Nat.le_of_ble_eq_true rfl) rfl hwf (fun E hE X => ?_)
  exact wX3_refusedPlace_b0 X ha0 h
set_option maxRecDepth 20000 in
theorem ggX3_lay_X3_refusedPlace : GoodIn wsX3_lay wsX3_refusedPlace := goodIn_r _ [7, 8, 9, 10, 6, 11, 12, 13, 14, 15, 16, 17, 18, 19, 20, 21, 22, 23, 24, 25, 26, 27, 28, 29, 30, 31, 32, 33, 34] (by decide +kernel) (by decide +kernel)
set_option maxRecDepth 20000 in
theorem gX3_lay_X3_refusedPlace : GoodIn wsX3_lay (wsV RX3 87 RX3 yX3_refusedPlace wsX3_refusedPlace) := goodIn_app (goodIn_of _ (by decide +kernel)) ggX3_lay_X3_refusedPlace
theorem dX3_lay_0 : decode cX3_lay 0 = .ok (.aload_n 0, 1) := by decide +kernel
theorem dX3_lay_1 : decode cX3_lay 1 = .ok (.iload_n 1, 1) := by decide +kernel
theorem dX3_lay_2 : decode cX3_lay 2 = .ok (.iload_n 2, 1) := by decide +kernel
theorem dX3_lay_3 : decode cX3_lay 3 = .ok (.invokevirtual 87, 3) := by decide +kernel
theorem dX3_lay_6 : decode cX3_lay 6 = .ok (.istore 4, 2) := by decide +kernel
theorem dX3_lay_8 : decode cX3_lay 8 = .ok (.iload 4, 2) := by decide +kernel
theorem dX3_lay_10 : decode cX3_lay 10 = .ok (.ifCond .eq 6, 3) := by decide +kernel
theorem dX3_lay_13 : decode cX3_lay 13 = .ok (.iload 4, 2) := by decide +kernel
theorem dX3_lay_15 : decode cX3_lay 15 = .ok (.ireturn, 1) := by decide +kernel
theorem dX3_lay_16 : decode cX3_lay 16 = .ok (.aload_n 0, 1) := by decide +kernel
theorem dX3_lay_17 : decode cX3_lay 17 = .ok (.aload_n 0, 1) := by decide +kernel
theorem dX3_lay_18 : decode cX3_lay 18 = .ok (.getfield 11, 3) := by decide +kernel
theorem dX3_lay_21 : decode cX3_lay 21 = .ok (.iload_n 1, 1) := by decide +kernel
theorem dX3_lay_22 : decode cX3_lay 22 = .ok (.aaload, 1) := by decide +kernel
theorem dX3_lay_23 : decode cX3_lay 23 = .ok (.iload_n 2, 1) := by decide +kernel
theorem dX3_lay_24 : decode cX3_lay 24 = .ok (.iaload, 1) := by decide +kernel
theorem dX3_lay_25 : decode cX3_lay 25 = .ok (.putfield 59, 3) := by decide +kernel
theorem dX3_lay_28 : decode cX3_lay 28 = .ok (.aload_n 0, 1) := by decide +kernel
theorem dX3_lay_29 : decode cX3_lay 29 = .ok (.getfield 11, 3) := by decide +kernel
theorem dX3_lay_32 : decode cX3_lay 32 = .ok (.iload_n 1, 1) := by decide +kernel
theorem dX3_lay_33 : decode cX3_lay 33 = .ok (.aaload, 1) := by decide +kernel
theorem dX3_lay_34 : decode cX3_lay 34 = .ok (.iload_n 2, 1) := by decide +kernel
theorem dX3_lay_35 : decode cX3_lay 35 = .ok (.iload_n 3, 1) := by decide +kernel
theorem dX3_lay_36 : decode cX3_lay 36 = .ok (.iastore, 1) := by decide +kernel
theorem dX3_lay_37 : decode cX3_lay 37 = .ok (.iconst 1, 1) := by decide +kernel
theorem dX3_lay_38 : decode cX3_lay 38 = .ok (.ireturn, 1) := by decide +kernel
/-! X3_lay (III)I -/
abbrev rmX3_lay : Room := { frames := 2, cells := 0, slots := 0, locals := 43 }
theorem lkX3_lay_0 : Cond.fieldLink RX3 11 (TX3 0).1 (TX3 0).2.1 (TX3 0).2.2.1 ∈ wsX3_lay := by decide +kernel
theorem lkX3_lay_1 : Cond.fieldLink RX3 59 (TX3 12).1 (TX3 12).2.1 (TX3 12).2.2.1 ∈ wsX3_lay := by decide +kernel
theorem inX3_lay_X3 : ∀ w ∈ u_ws RX3 TX3 17, w ∈ wsX3_lay := by decide +kernel
noncomputable def fX3_lay (G : mm_G) (a0 : Nat) (x1 : Int32) (x2 : Int32) (x3 : Int32) (σ : mm_M) : Option (Int32 × mm_M) := (fX3_refusedPlace G a0 x1 x2 σ).bind (fun q3 => if q3.1 = 0 then (if x1 < 0 ∨ mm_N G (mm_R G a0 0) ≤ x1.toNatClampNeg then none else (if x2 < 0 ∨ mm_N G (mm_R G (mm_R G a0 0) x1.toNatClampNeg) ≤ x2.toNatClampNeg then none else (if x1 < 0 ∨ mm_N G (mm_R G a0 0) ≤ x1.toNatClampNeg then none else (if x2 < 0 ∨ mm_N G (mm_R G (mm_R G a0 0) x1.toNatClampNeg) ≤ x2.toNatClampNeg then none else (some ((1 : Int32), mm_up (mm_up q3.2 a0 12 (q3.2.1 (mm_R G (mm_R G a0 0) x1.toNatClampNeg) x2.toNatClampNeg)) (mm_R G (mm_R G a0 0) x1.toNatClampNeg) x2.toNatClampNeg x3)))))) else (some (q3.1, q3.2)))
set_option maxHeartbeats 4000000 in
set_option maxRecDepth 100000 in
theorem wX3_lay_b0 {E : mm_E} {G : mm_G} (X : mm_Cx E G cX3_lay 5 RX3 wsX3_lay rmX3_lay (some .int)) {a0 : Nat} {x1 : Int32} {x2 : Int32} {x3 : Int32} {σ : mm_M} {q : (Int32 × mm_M)} (ha0 : mm_Is G 3 a0) (h : fX3_lay G a0 x1 x2 x3 σ = some q) : mm_At E G 5 (mm_Qi E G q) σ 0 [(0, .ref a0), (1, .int x1), (2, .int x2), (3, .int x3)] [] := by
  unfold fX3_lay at h
  refine at_aload_n (pc := 0) X 0 0 dX3_lay_0 rfl rfl ?_
  refine at_iload_n (pc := 1) X 1 1 dX3_lay_1 rfl rfl ?_
  refine at_iload_n (pc := 2) X 2 2 dX3_lay_2 rfl rfl ?_
  obtain ⟨q3, hq3, h⟩ := mm_bind h
  refine at_calli (n := 2) (pc := 3) X 3 [.int x1, .int x2] [] (mX3_refusedPlace (eL E) X.wf ha0 hq3) gX3_lay_X3_refusedPlace rfl ⟨rfl, rfl⟩ (by decide +kernel) ⟨by decide, by decide⟩ (by decide) rfl ha0 rfl rfl (Nat.le_of_ble_eq_true rfl) dX3_lay_3 ?_
  refine at_istore (pc := 6) X 4 [(4, .int q3.1), (0, .ref a0), (1, .int x1), (2, .int x2), (3, .int x3)] dX3_lay_6 (by decide) rfl ?_
  refine at_iload (pc := 8) X 4 0 dX3_lay_8 rfl ?_
  refine at_if_eq (pc := 10) X 16 dX3_lay_10 (by decide) (fun c10 => ?_) (fun c10 => ?_)
  · have h := mm_pos c10 h
    refine at_aload_n (pc := 16) X 0 1 dX3_lay_16 rfl rfl ?_
    refine at_aload_n (pc := 17) X 0 1 dX3_lay_17 rfl rfl ?_
    refine at_get (pc := 18) X 3 0 (.ref (mm_R G a0 0)) ha0 (by decide) rfl inX3_lay_X3 (by decide) lkX3_lay_0 rfl dX3_lay_18 ?_
    refine at_iload_n (pc := 21) X 1 2 dX3_lay_21 rfl rfl ?_
    obtain ⟨hc22, h⟩ := mm_chk h
    refine at_aald (pc := 22) X 10 5 (wf_3_0 X.wf ha0) (by decide) (by decide) rfl rfl hc22 dX3_lay_22 ?_
    refine at_iload_n (pc := 23) X 2 3 dX3_lay_23 rfl rfl ?_
    obtain ⟨hc24, h⟩ := mm_chk h
    refine at_iald (pc := 24) X (wf_10 X.wf (wf_3_0 X.wf ha0) hc22) hc24 dX3_lay_24 ?_
    refine at_put (pc := 25) X 3 12 ha0 (by decide) rfl inX3_lay_X3 tyX3 tyX3_ok nmX3 (by decide) lkX3_lay_1 rfl (ty := .int) rfl rfl rfl (Nat.le_of_ble_eq_true rfl) (ms_3_12 G _ _ _) mm_up_ne dX3_lay_25 ?_
    refine at_aload_n (pc := 28) X 0 1 dX3_lay_28 rfl rfl ?_
    refine at_get (pc := 29) X 3 0 (.ref (mm_R G a0 0)) ha0 (by decide) rfl inX3_lay_X3 (by decide) lkX3_lay_0 rfl dX3_lay_29 ?_
    refine at_iload_n (pc := 32) X 1 2 dX3_lay_32 rfl rfl ?_
    obtain ⟨hc33, h⟩ := mm_chk h
    refine at_aald (pc := 33) X 10 5 (wf_3_0 X.wf ha0) (by decide) (by decide) rfl rfl hc33 dX3_lay_33 ?_
    refine at_iload_n (pc := 34) X 2 3 dX3_lay_34 rfl rfl ?_
    refine at_iload_n (pc := 35) X 3 4 dX3_lay_35 rfl rfl ?_
    obtain ⟨hc36, h⟩ := mm_chk h
    refine at_iast (pc := 36) X (wf_10 X.wf (wf_3_0 X.wf ha0) hc33) hc36 dX3_lay_36 ?_
    refine at_iconst (pc := 37) X (1 : Int32) dX3_lay_37 ic_1 ?_
    exact at_iret (pc := 38) X (Option.some.inj h) dX3_lay_38
  · have h := mm_neg c10 h
    refine at_iload (pc := 13) X 4 0 dX3_lay_13 rfl ?_
    exact at_iret (pc := 15) X (Option.some.inj h) dX3_lay_15
set_option maxHeartbeats 4000000 in
set_option maxRecDepth 100000 in
theorem mX3_lay (l : Launch) {G : mm_G} (hwf : mm_WF G) {a0 : Nat} {x1 : Int32} {x2 : Int32} {x3 : Int32} {σ : mm_M} {q : (Int32 × mm_M)} (ha0 : mm_Is G 3 a0) (h : fX3_lay G a0 x1 x2 x3 σ = some q) : mm_Mi l yX3_lay wsX3_lay rmX3_lay G [.ref a0, .int x1, .int x2, .int x3] σ q := by
  refine mm_ofi (cc := cX3_lay) (nL := 5) (ret := some .int) (own := RX3) (lv0 := [(0, .ref a0), (1, .int x1), (2, .int x2), (3, .int x3)]) (by decide) rfl rfl (Nat.le_of_ble_eq_true rfl) rfl hwf (fun E hE X => ?_)
  exact wX3_lay_b0 X ha0 h
set_option maxRecDepth 20000 in
theorem ggX3_at_X3_refusedPlace : GoodIn wsX3_at wsX3_refusedPlace := goodIn_r _ [7, 8, 9, 10, 6, 11, 12, 13, 14, 15, 16, 17, 18, 19, 20, 21, 22, 23, 24, 25, 26, 27, 28, 29, 30, 31, 32, 33, 34] (by decide +kernel) (by decide +kernel)
set_option maxRecDepth 20000 in
theorem gX3_at_X3_refusedPlace : GoodIn wsX3_at (wsV RX3 87 RX3 yX3_refusedPlace wsX3_refusedPlace) := goodIn_app (goodIn_of _ (by decide +kernel)) ggX3_at_X3_refusedPlace
theorem dX3_at_0 : decode cX3_at 0 = .ok (.aload_n 0, 1) := by decide +kernel
theorem dX3_at_1 : decode cX3_at 1 = .ok (.iload_n 1, 1) := by decide +kernel
theorem dX3_at_2 : decode cX3_at 2 = .ok (.iload_n 2, 1) := by decide +kernel
theorem dX3_at_3 : decode cX3_at 3 = .ok (.invokevirtual 87, 3) := by decide +kernel
theorem dX3_at_6 : decode cX3_at 6 = .ok (.istore_n 3, 1) := by decide +kernel
theorem dX3_at_7 : decode cX3_at 7 = .ok (.iload_n 3, 1) := by decide +kernel
theorem dX3_at_8 : decode cX3_at 8 = .ok (.ifCond .eq 5, 3) := by decide +kernel
theorem dX3_at_11 : decode cX3_at 11 = .ok (.iload_n 3, 1) := by decide +kernel
theorem dX3_at_12 : decode cX3_at 12 = .ok (.ireturn, 1) := by decide +kernel
theorem dX3_at_13 : decode cX3_at 13 = .ok (.aload_n 0, 1) := by decide +kernel
theorem dX3_at_14 : decode cX3_at 14 = .ok (.aload_n 0, 1) := by decide +kernel
theorem dX3_at_15 : decode cX3_at 15 = .ok (.getfield 11, 3) := by decide +kernel
theorem dX3_at_18 : decode cX3_at 18 = .ok (.iload_n 1, 1) := by decide +kernel
theorem dX3_at_19 : decode cX3_at 19 = .ok (.aaload, 1) := by decide +kernel
theorem dX3_at_20 : decode cX3_at 20 = .ok (.iload_n 2, 1) := by decide +kernel
theorem dX3_at_21 : decode cX3_at 21 = .ok (.iaload, 1) := by decide +kernel
theorem dX3_at_22 : decode cX3_at 22 = .ok (.putfield 59, 3) := by decide +kernel
theorem dX3_at_25 : decode cX3_at 25 = .ok (.iconst 1, 1) := by decide +kernel
theorem dX3_at_26 : decode cX3_at 26 = .ok (.ireturn, 1) := by decide +kernel
/-! X3_at (II)I -/
abbrev rmX3_at : Room := { frames := 2, cells := 0, slots := 0, locals := 43 }
theorem lkX3_at_0 : Cond.fieldLink RX3 11 (TX3 0).1 (TX3 0).2.1 (TX3 0).2.2.1 ∈ wsX3_at := by decide +kernel
theorem lkX3_at_1 : Cond.fieldLink RX3 59 (TX3 12).1 (TX3 12).2.1 (TX3 12).2.2.1 ∈ wsX3_at := by decide +kernel
theorem inX3_at_X3 : ∀ w ∈ u_ws RX3 TX3 17, w ∈ wsX3_at := by decide +kernel
noncomputable def fX3_at (G : mm_G) (a0 : Nat) (x1 : Int32) (x2 : Int32) (σ : mm_M) : Option (Int32 × mm_M) := (fX3_refusedPlace G a0 x1 x2 σ).bind (fun q3 => if q3.1 = 0 then (if x1 < 0 ∨ mm_N G (mm_R G a0 0) ≤ x1.toNatClampNeg then none else (if x2 < 0 ∨ mm_N G (mm_R G (mm_R G a0 0) x1.toNatClampNeg) ≤ x2.toNatClampNeg then none else (some ((1 : Int32), mm_up q3.2 a0 12 (q3.2.1 (mm_R G (mm_R G a0 0) x1.toNatClampNeg) x2.toNatClampNeg))))) else (some (q3.1, q3.2)))
set_option maxHeartbeats 4000000 in
set_option maxRecDepth 100000 in
theorem wX3_at_b0 {E : mm_E} {G : mm_G} (X : mm_Cx E G cX3_at 4 RX3 wsX3_at rmX3_at (some .int)) {a0 : Nat} {x1 : Int32} {x2 : Int32} {σ : mm_M} {q : (Int32 × mm_M)} (ha0 : mm_Is G 3 a0) (h : fX3_at G a0 x1 x2 σ = some q) : mm_At E G 4 (mm_Qi E G q) σ 0 [(0, .ref a0), (1, .int x1), (2, .int x2)] [] := by
  unfold fX3_at at h
  refine at_aload_n (pc := 0) X 0 0 dX3_at_0 rfl rfl ?_
  refine at_iload_n (pc := 1) X 1 1 dX3_at_1 rfl rfl ?_
  refine at_iload_n (pc := 2) X 2 2 dX3_at_2 rfl rfl ?_
  obtain ⟨q3, hq3, h⟩ := mm_bind h
  refine at_calli (n := 2) (pc := 3) X 3 [.int x1, .int x2] [] (mX3_refusedPlace (eL E) X.wf ha0 hq3) gX3_at_X3_refusedPlace rfl ⟨rfl, rfl⟩ (by decide +kernel) ⟨by decide, by decide⟩ (by decide) rfl ha0 rfl rfl (Nat.le_of_ble_eq_true rfl) dX3_at_3 ?_
  refine at_istore_n (pc := 6) X 3 [(3, .int q3.1), (0, .ref a0), (1, .int x1), (2, .int x2)] dX3_at_6 rfl (by decide) rfl ?_
  refine at_iload_n (pc := 7) X 3 0 dX3_at_7 rfl rfl ?_
  refine at_if_eq (pc := 8) X 13 dX3_at_8 (by decide) (fun c8 => ?_) (fun c8 => ?_)
  · have h := mm_pos c8 h
    refine at_aload_n (pc := 13) X 0 1 dX3_at_13 rfl rfl ?_
    refine at_aload_n (pc := 14) X 0 1 dX3_at_14 rfl rfl ?_
    refine at_get (pc := 15) X 3 0 (.ref (mm_R G a0 0)) ha0 (by decide) rfl inX3_at_X3 (by decide) lkX3_at_0 rfl dX3_at_15 ?_
    refine at_iload_n (pc := 18) X 1 2 dX3_at_18 rfl rfl ?_
    obtain ⟨hc19, h⟩ := mm_chk h
    refine at_aald (pc := 19) X 10 5 (wf_3_0 X.wf ha0) (by decide) (by decide) rfl rfl hc19 dX3_at_19 ?_
    refine at_iload_n (pc := 20) X 2 3 dX3_at_20 rfl rfl ?_
    obtain ⟨hc21, h⟩ := mm_chk h
    refine at_iald (pc := 21) X (wf_10 X.wf (wf_3_0 X.wf ha0) hc19) hc21 dX3_at_21 ?_
    refine at_put (pc := 22) X 3 12 ha0 (by decide) rfl inX3_at_X3 tyX3 tyX3_ok nmX3 (by decide) lkX3_at_1 rfl (ty := .int) rfl rfl rfl (Nat.le_of_ble_eq_true rfl) (ms_3_12 G _ _ _) mm_up_ne dX3_at_22 ?_
    refine at_iconst (pc := 25) X (1 : Int32) dX3_at_25 ic_1 ?_
    exact at_iret (pc := 26) X (Option.some.inj h) dX3_at_26
  · have h := mm_neg c8 h
    refine at_iload_n (pc := 11) X 3 0 dX3_at_11 rfl rfl ?_
    exact at_iret (pc := 12) X (Option.some.inj h) dX3_at_12
set_option maxHeartbeats 4000000 in
set_option maxRecDepth 100000 in
theorem mX3_at (l : Launch) {G : mm_G} (hwf : mm_WF G) {a0 : Nat} {x1 : Int32} {x2 : Int32} {σ : mm_M} {q : (Int32 × mm_M)} (ha0 : mm_Is G 3 a0) (h : fX3_at G a0 x1 x2 σ = some q) : mm_Mi l yX3_at wsX3_at rmX3_at G [.ref a0, .int x1, .int x2] σ q := by
  refine mm_ofi (cc := cX3_at) (nL := 4) (ret := some .int) (own := RX3) (lv0 := [(0, .ref a0), (1, .int x1), (2, .int x2)]) (by decide) rfl rfl (Nat.le_of_ble_eq_true rfl) rfl hwf (fun E hE X => ?_)
  exact wX3_at_b0 X ha0 h
set_option maxRecDepth 20000 in
theorem ggX3_tear_X3_isRow : GoodIn wsX3_tear wsX3_isRow := goodIn_r _ [5] (by decide +kernel) (by decide +kernel)
set_option maxRecDepth 20000 in
theorem gX3_tear_X3_isRow : GoodIn wsX3_tear (va_wsS RX3 79 yX3_isRow wsX3_isRow) := goodIn_app (goodIn_of _ (by decide +kernel)) ggX3_tear_X3_isRow
set_option maxRecDepth 20000 in
theorem ggX3_tear_X3_found : GoodIn wsX3_tear wsX3_found := goodIn_r _ [9, 10, 11, 12, 13, 14, 15, 16, 17, 18, 19, 20, 21, 22, 23, 24, 25, 26, 27, 28] (by decide +kernel) (by decide +kernel)
set_option maxRecDepth 20000 in
theorem gX3_tear_X3_found : GoodIn wsX3_tear (wsV RX3 83 RX3 yX3_found wsX3_found) := goodIn_app (goodIn_of _ (by decide +kernel)) ggX3_tear_X3_found
theorem dX3_tear_0 : decode cX3_tear 0 = .ok (.iload_n 1, 1) := by decide +kernel
theorem dX3_tear_1 : decode cX3_tear 1 = .ok (.invokestatic 79, 3) := by decide +kernel
theorem dX3_tear_4 : decode cX3_tear 4 = .ok (.ifCond .ne 5, 3) := by decide +kernel
theorem dX3_tear_7 : decode cX3_tear 7 = .ok (.iconst (-1), 1) := by decide +kernel
theorem dX3_tear_8 : decode cX3_tear 8 = .ok (.ireturn, 1) := by decide +kernel
theorem dX3_tear_9 : decode cX3_tear 9 = .ok (.aload_n 0, 1) := by decide +kernel
theorem dX3_tear_10 : decode cX3_tear 10 = .ok (.getfield 14, 3) := by decide +kernel
theorem dX3_tear_13 : decode cX3_tear 13 = .ok (.iload_n 1, 1) := by decide +kernel
theorem dX3_tear_14 : decode cX3_tear 14 = .ok (.iaload, 1) := by decide +kernel
theorem dX3_tear_15 : decode cX3_tear 15 = .ok (.iconst (-1), 1) := by decide +kernel
theorem dX3_tear_16 : decode cX3_tear 16 = .ok (.if_icmp .ne 9, 3) := by decide +kernel
theorem dX3_tear_19 : decode cX3_tear 19 = .ok (.aload_n 0, 1) := by decide +kernel
theorem dX3_tear_20 : decode cX3_tear 20 = .ok (.iconst 1, 1) := by decide +kernel
theorem dX3_tear_21 : decode cX3_tear 21 = .ok (.invokevirtual 83, 3) := by decide +kernel
theorem dX3_tear_24 : decode cX3_tear 24 = .ok (.ireturn, 1) := by decide +kernel
theorem dX3_tear_25 : decode cX3_tear 25 = .ok (.aload_n 0, 1) := by decide +kernel
theorem dX3_tear_26 : decode cX3_tear 26 = .ok (.getfield 14, 3) := by decide +kernel
theorem dX3_tear_29 : decode cX3_tear 29 = .ok (.iload_n 1, 1) := by decide +kernel
theorem dX3_tear_30 : decode cX3_tear 30 = .ok (.iconst (-1), 1) := by decide +kernel
theorem dX3_tear_31 : decode cX3_tear 31 = .ok (.iastore, 1) := by decide +kernel
theorem dX3_tear_32 : decode cX3_tear 32 = .ok (.iconst 1, 1) := by decide +kernel
theorem dX3_tear_33 : decode cX3_tear 33 = .ok (.ireturn, 1) := by decide +kernel
/-! X3_tear (I)I -/
abbrev rmX3_tear : Room := { frames := 1, cells := 0, slots := 0, locals := 21 }
theorem lkX3_tear_0 : Cond.fieldLink RX3 14 (TX3 1).1 (TX3 1).2.1 (TX3 1).2.2.1 ∈ wsX3_tear := by decide +kernel
theorem inX3_tear_X3 : ∀ w ∈ u_ws RX3 TX3 17, w ∈ wsX3_tear := by decide +kernel
noncomputable def fX3_tear (G : mm_G) (a0 : Nat) (x1 : Int32) (σ : mm_M) : Option (Int32 × mm_M) := (fX3_isRow G x1 σ).bind (fun q1 => if q1.1 = 0 then (some ((-1 : Int32), q1.2)) else (if x1 < 0 ∨ mm_N G (mm_R G a0 1) ≤ x1.toNatClampNeg then none else (if (q1.2.1 (mm_R G a0 1) x1.toNatClampNeg) = (-1 : Int32) then ((fX3_found G a0 (1 : Int32) q1.2).bind (fun q21 => some (q21.1, q21.2))) else (if x1 < 0 ∨ mm_N G (mm_R G a0 1) ≤ x1.toNatClampNeg then none else (some ((1 : Int32), mm_up q1.2 (mm_R G a0 1) x1.toNatClampNeg (-1 : Int32)))))))
set_option maxHeartbeats 4000000 in
set_option maxRecDepth 100000 in
theorem wX3_tear_b0 {E : mm_E} {G : mm_G} (X : mm_Cx E G cX3_tear 2 RX3 wsX3_tear rmX3_tear (some .int)) {a0 : Nat} {x1 : Int32} {σ : mm_M} {q : (Int32 × mm_M)} (ha0 : mm_Is G 3 a0) (h : fX3_tear G a0 x1 σ = some q) : mm_At E G 2 (mm_Qi E G q) σ 0 [(0, .ref a0), (1, .int x1)] [] := by
  unfold fX3_tear at h
  refine at_iload_n (pc := 0) X 1 1 dX3_tear_0 rfl rfl ?_
  obtain ⟨q1, hq1, h⟩ := mm_bind h
  refine at_scalli (n := 1) (pc := 1) X [.int x1] [] (mX3_isRow (eL E) X.wf hq1) gX3_tear_X3_isRow rfl ⟨rfl, rfl⟩ (by decide +kernel) ⟨by decide, by decide⟩ rfl rfl (Nat.le_of_ble_eq_true rfl) dX3_tear_1 ?_
  refine at_if_ne (pc := 4) X 9 dX3_tear_4 (by decide) (fun c4 => ?_) (fun c4 => ?_)
  · have h := mm_neg c4 h
    refine at_aload_n (pc := 9) X 0 0 dX3_tear_9 rfl rfl ?_
    refine at_get (pc := 10) X 3 1 (.ref (mm_R G a0 1)) ha0 (by decide) rfl inX3_tear_X3 (by decide) lkX3_tear_0 rfl dX3_tear_10 ?_
    refine at_iload_n (pc := 13) X 1 1 dX3_tear_13 rfl rfl ?_
    obtain ⟨hc14, h⟩ := mm_chk h
    refine at_iald (pc := 14) X (wf_3_1 X.wf ha0) hc14 dX3_tear_14 ?_
    refine at_iconst (pc := 15) X (-1 : Int32) dX3_tear_15 ic_m1 ?_
    refine at_icmp_ne (pc := 16) X 25 dX3_tear_16 (by decide) (fun c16 => ?_) (fun c16 => ?_)
    · have h := mm_neg c16 h
      refine at_aload_n (pc := 25) X 0 0 dX3_tear_25 rfl rfl ?_
      refine at_get (pc := 26) X 3 1 (.ref (mm_R G a0 1)) ha0 (by decide) rfl inX3_tear_X3 (by decide) lkX3_tear_0 rfl dX3_tear_26 ?_
      refine at_iload_n (pc := 29) X 1 1 dX3_tear_29 rfl rfl ?_
      refine at_iconst (pc := 30) X (-1 : Int32) dX3_tear_30 ic_m1 ?_
      obtain ⟨hc31, h⟩ := mm_chk h
      refine at_iast (pc := 31) X (wf_3_1 X.wf ha0) hc31 dX3_tear_31 ?_
      refine at_iconst (pc := 32) X (1 : Int32) dX3_tear_32 ic_1 ?_
      exact at_iret (pc := 33) X (Option.some.inj h) dX3_tear_33
    · have h := mm_pos c16 h
      refine at_aload_n (pc := 19) X 0 0 dX3_tear_19 rfl rfl ?_
      refine at_iconst (pc := 20) X (1 : Int32) dX3_tear_20 ic_1 ?_
      obtain ⟨q21, hq21, h⟩ := mm_bind h
      refine at_calli (n := 1) (pc := 21) X 3 [.int (1 : Int32)] [] (mX3_found (eL E) X.wf ha0 hq21) gX3_tear_X3_found rfl ⟨rfl, rfl⟩ (by decide +kernel) ⟨by decide, by decide⟩ (by decide) rfl ha0 rfl rfl (Nat.le_of_ble_eq_true rfl) dX3_tear_21 ?_
      exact at_iret (pc := 24) X (Option.some.inj h) dX3_tear_24
  · have h := mm_pos c4 h
    refine at_iconst (pc := 7) X (-1 : Int32) dX3_tear_7 ic_m1 ?_
    exact at_iret (pc := 8) X (Option.some.inj h) dX3_tear_8
set_option maxHeartbeats 4000000 in
set_option maxRecDepth 100000 in
theorem mX3_tear (l : Launch) {G : mm_G} (hwf : mm_WF G) {a0 : Nat} {x1 : Int32} {σ : mm_M} {q : (Int32 × mm_M)} (ha0 : mm_Is G 3 a0) (h : fX3_tear G a0 x1 σ = some q) : mm_Mi l yX3_tear wsX3_tear rmX3_tear G [.ref a0, .int x1] σ q := by
  refine mm_ofi (cc := cX3_tear) (nL := 2) (ret := some .int) (own := RX3) (lv0 := [(0, .ref a0), (1, .int x1)]) (by decide) rfl rfl (Nat.le_of_ble_eq_true rfl) rfl hwf (fun E hE X => ?_)
  exact wX3_tear_b0 X ha0 h
theorem dX3_holds_0 : decode cX3_holds 0 = .ok (.iload_n 1, 1) := by decide +kernel
theorem dX3_holds_1 : decode cX3_holds 1 = .ok (.ifCond .lt 19, 3) := by decide +kernel
theorem dX3_holds_4 : decode cX3_holds 4 = .ok (.iload_n 2, 1) := by decide +kernel
theorem dX3_holds_5 : decode cX3_holds 5 = .ok (.iload_n 0, 1) := by decide +kernel
theorem dX3_holds_6 : decode cX3_holds 6 = .ok (.if_icmp .gt 14, 3) := by decide +kernel
theorem dX3_holds_9 : decode cX3_holds 9 = .ok (.iload_n 1, 1) := by decide +kernel
theorem dX3_holds_10 : decode cX3_holds 10 = .ok (.iload_n 0, 1) := by decide +kernel
theorem dX3_holds_11 : decode cX3_holds 11 = .ok (.iload_n 2, 1) := by decide +kernel
theorem dX3_holds_12 : decode cX3_holds 12 = .ok (.isub, 1) := by decide +kernel
theorem dX3_holds_13 : decode cX3_holds 13 = .ok (.if_icmp .gt 7, 3) := by decide +kernel
theorem dX3_holds_16 : decode cX3_holds 16 = .ok (.iconst 1, 1) := by decide +kernel
theorem dX3_holds_17 : decode cX3_holds 17 = .ok (.goto 4, 3) := by decide +kernel
theorem dX3_holds_20 : decode cX3_holds 20 = .ok (.iconst 0, 1) := by decide +kernel
theorem dX3_holds_21 : decode cX3_holds 21 = .ok (.ireturn, 1) := by decide +kernel
/-! X3_holds (III)Z -/
abbrev rmX3_holds : Room := { frames := 0, cells := 0, slots := 0, locals := 0 }
noncomputable def fX3_holds (G : mm_G) (x0 : Int32) (x1 : Int32) (x2 : Int32) (σ : mm_M) : Option (Int32 × mm_M) := if ¬ ((if x1 < 0 then (0 : Int32) else if x0 < x2 then (0 : Int32) else if (x0 - x2) < x1 then (0 : Int32) else (1 : Int32)) = 0 ∨ (if x1 < 0 then (0 : Int32) else if x0 < x2 then (0 : Int32) else if (x0 - x2) < x1 then (0 : Int32) else (1 : Int32)) = 1) then none else (some (if x1 < 0 then (0 : Int32) else if x0 < x2 then (0 : Int32) else if (x0 - x2) < x1 then (0 : Int32) else (1 : Int32), σ))
set_option maxHeartbeats 4000000 in
set_option maxRecDepth 100000 in
theorem wX3_holds_b0 {E : mm_E} {G : mm_G} (X : mm_Cx E G cX3_holds 3 RX3 wsX3_holds rmX3_holds (some .boolean)) {x0 : Int32} {x1 : Int32} {x2 : Int32} {σ : mm_M} {q : (Int32 × mm_M)} (h : fX3_holds G x0 x1 x2 σ = some q) : mm_At E G 3 (mm_Qi E G q) σ 0 [(0, .int x0), (1, .int x1), (2, .int x2)] [] := by
  unfold fX3_holds at h
  refine at_iload_n (pc := 0) X 1 1 dX3_holds_0 rfl rfl ?_
  have hj1 : mm_At E G 3 (mm_Qi E G q) σ 21 [] [.int (if x1 < 0 then (0 : Int32) else if x0 < x2 then (0 : Int32) else if (x0 - x2) < x1 then (0 : Int32) else (1 : Int32))] := by
    obtain ⟨hg21, h⟩ := mm_chk h
    exact at_zret (pc := 21) X (Classical.not_not.mp hg21) (Option.some.inj h) dX3_holds_21
  refine at_if_lt (pc := 1) X 20 dX3_holds_1 (by decide) (fun c1 => ?_) (fun c1 => ?_)
  · try simp only [if_pos c1] at hj1
    refine at_iconst (pc := 20) X (0 : Int32) dX3_holds_20 ic_0 ?_
    exact at_sub [] rfl hj1
  · try simp only [if_neg c1] at hj1
    refine at_iload_n (pc := 4) X 2 2 dX3_holds_4 rfl rfl ?_
    refine at_iload_n (pc := 5) X 0 0 dX3_holds_5 rfl rfl ?_
    refine at_icmp_gt (pc := 6) X 20 dX3_holds_6 (by decide) (fun c6 => ?_) (fun c6 => ?_)
    · try simp only [if_pos c6] at hj1
      refine at_iconst (pc := 20) X (0 : Int32) dX3_holds_20 ic_0 ?_
      exact at_sub [] rfl hj1
    · try simp only [if_neg c6] at hj1
      refine at_iload_n (pc := 9) X 1 1 dX3_holds_9 rfl rfl ?_
      refine at_iload_n (pc := 10) X 0 0 dX3_holds_10 rfl rfl ?_
      refine at_iload_n (pc := 11) X 2 2 dX3_holds_11 rfl rfl ?_
      refine at_isub (pc := 12) X dX3_holds_12 ?_
      refine at_icmp_gt (pc := 13) X 20 dX3_holds_13 (by decide) (fun c13 => ?_) (fun c13 => ?_)
      · try simp only [if_pos c13] at hj1
        refine at_iconst (pc := 20) X (0 : Int32) dX3_holds_20 ic_0 ?_
        exact at_sub [] rfl hj1
      · try simp only [if_neg c13] at hj1
        refine at_iconst (pc := 16) X (1 : Int32) dX3_holds_16 ic_1 ?_
        refine at_goto (pc := 17) X 21 dX3_holds_17 (by decide) ?_
        exact at_sub [] rfl hj1
set_option maxHeartbeats 4000000 in
set_option maxRecDepth 100000 in
theorem mX3_holds (l : Launch) {G : mm_G} (hwf : mm_WF G) {x0 : Int32} {x1 : Int32} {x2 : Int32} {σ : mm_M} {q : (Int32 × mm_M)} (h : fX3_holds G x0 x1 x2 σ = some q) : mm_Mi l yX3_holds wsX3_holds rmX3_holds G [.int x0, .int x1, .int x2] σ q := by
  refine mm_ofi (cc := cX3_holds) (nL := 3) (ret := some .boolean) (own := RX3) (lv0 := [(0, .int x0), (1, .int x1), (2, .int x2)]) (by decide) rfl rfl (Nat.le_of_ble_eq_true rfl) rfl hwf (fun E hE X => ?_)
  exact wX3_holds_b0 X  h
set_option maxRecDepth 20000 in
theorem ggX3_copy_X3_isRow : GoodIn wsX3_copy wsX3_isRow := goodIn_r _ [10] (by decide +kernel) (by decide +kernel)
set_option maxRecDepth 20000 in
theorem gX3_copy_X3_isRow : GoodIn wsX3_copy (va_wsS RX3 79 yX3_isRow wsX3_isRow) := goodIn_app (goodIn_of _ (by decide +kernel)) ggX3_copy_X3_isRow
set_option maxRecDepth 20000 in
theorem ggX3_copy_X3_found : GoodIn wsX3_copy wsX3_found := goodIn_r _ [14, 15, 16, 20, 21, 22, 23, 24, 25, 26, 27, 28, 29, 30, 31, 32, 33, 34, 35, 36] (by decide +kernel) (by decide +kernel)
set_option maxRecDepth 20000 in
theorem gX3_copy_X3_found : GoodIn wsX3_copy (wsV RX3 83 RX3 yX3_found wsX3_found) := goodIn_app (goodIn_of _ (by decide +kernel)) ggX3_copy_X3_found
set_option maxRecDepth 20000 in
theorem ggX3_copy_X3_holds : GoodIn wsX3_copy wsX3_holds := goodIn_r _ [19] (by decide +kernel) (by decide +kernel)
set_option maxRecDepth 20000 in
theorem gX3_copy_X3_holds : GoodIn wsX3_copy (va_wsS RX3 91 yX3_holds wsX3_holds) := goodIn_app (goodIn_of _ (by decide +kernel)) ggX3_copy_X3_holds
theorem dX3_copy_0 : decode cX3_copy 0 = .ok (.iload_n 1, 1) := by decide +kernel
theorem dX3_copy_1 : decode cX3_copy 1 = .ok (.invokestatic 79, 3) := by decide +kernel
theorem dX3_copy_4 : decode cX3_copy 4 = .ok (.ifCond .eq 10, 3) := by decide +kernel
theorem dX3_copy_7 : decode cX3_copy 7 = .ok (.iload_n 3, 1) := by decide +kernel
theorem dX3_copy_8 : decode cX3_copy 8 = .ok (.invokestatic 79, 3) := by decide +kernel
theorem dX3_copy_11 : decode cX3_copy 11 = .ok (.ifCond .ne 5, 3) := by decide +kernel
theorem dX3_copy_14 : decode cX3_copy 14 = .ok (.iconst (-1), 1) := by decide +kernel
theorem dX3_copy_15 : decode cX3_copy 15 = .ok (.ireturn, 1) := by decide +kernel
theorem dX3_copy_16 : decode cX3_copy 16 = .ok (.iload 5, 2) := by decide +kernel
theorem dX3_copy_18 : decode cX3_copy 18 = .ok (.ifCond .ge 9, 3) := by decide +kernel
theorem dX3_copy_21 : decode cX3_copy 21 = .ok (.aload_n 0, 1) := by decide +kernel
theorem dX3_copy_22 : decode cX3_copy 22 = .ok (.iconst 5, 1) := by decide +kernel
theorem dX3_copy_23 : decode cX3_copy 23 = .ok (.invokevirtual 83, 3) := by decide +kernel
theorem dX3_copy_26 : decode cX3_copy 26 = .ok (.ireturn, 1) := by decide +kernel
theorem dX3_copy_27 : decode cX3_copy 27 = .ok (.aload_n 0, 1) := by decide +kernel
theorem dX3_copy_28 : decode cX3_copy 28 = .ok (.getfield 14, 3) := by decide +kernel
theorem dX3_copy_31 : decode cX3_copy 31 = .ok (.iload_n 1, 1) := by decide +kernel
theorem dX3_copy_32 : decode cX3_copy 32 = .ok (.iaload, 1) := by decide +kernel
theorem dX3_copy_33 : decode cX3_copy 33 = .ok (.iconst (-1), 1) := by decide +kernel
theorem dX3_copy_34 : decode cX3_copy 34 = .ok (.if_icmp .eq 13, 3) := by decide +kernel
theorem dX3_copy_37 : decode cX3_copy 37 = .ok (.aload_n 0, 1) := by decide +kernel
theorem dX3_copy_38 : decode cX3_copy 38 = .ok (.getfield 14, 3) := by decide +kernel
theorem dX3_copy_41 : decode cX3_copy 41 = .ok (.iload_n 3, 1) := by decide +kernel
theorem dX3_copy_42 : decode cX3_copy 42 = .ok (.iaload, 1) := by decide +kernel
theorem dX3_copy_43 : decode cX3_copy 43 = .ok (.iconst (-1), 1) := by decide +kernel
theorem dX3_copy_44 : decode cX3_copy 44 = .ok (.if_icmp .ne 9, 3) := by decide +kernel
theorem dX3_copy_47 : decode cX3_copy 47 = .ok (.aload_n 0, 1) := by decide +kernel
theorem dX3_copy_48 : decode cX3_copy 48 = .ok (.iconst 1, 1) := by decide +kernel
theorem dX3_copy_49 : decode cX3_copy 49 = .ok (.invokevirtual 83, 3) := by decide +kernel
theorem dX3_copy_52 : decode cX3_copy 52 = .ok (.ireturn, 1) := by decide +kernel
theorem dX3_copy_53 : decode cX3_copy 53 = .ok (.aload_n 0, 1) := by decide +kernel
theorem dX3_copy_54 : decode cX3_copy 54 = .ok (.getfield 14, 3) := by decide +kernel
theorem dX3_copy_57 : decode cX3_copy 57 = .ok (.iload_n 1, 1) := by decide +kernel
theorem dX3_copy_58 : decode cX3_copy 58 = .ok (.iaload, 1) := by decide +kernel
theorem dX3_copy_59 : decode cX3_copy 59 = .ok (.iload_n 2, 1) := by decide +kernel
theorem dX3_copy_60 : decode cX3_copy 60 = .ok (.iload 5, 2) := by decide +kernel
theorem dX3_copy_62 : decode cX3_copy 62 = .ok (.invokestatic 91, 3) := by decide +kernel
theorem dX3_copy_65 : decode cX3_copy 65 = .ok (.ifCond .eq 19, 3) := by decide +kernel
theorem dX3_copy_68 : decode cX3_copy 68 = .ok (.aload_n 0, 1) := by decide +kernel
theorem dX3_copy_69 : decode cX3_copy 69 = .ok (.getfield 14, 3) := by decide +kernel
theorem dX3_copy_72 : decode cX3_copy 72 = .ok (.iload_n 3, 1) := by decide +kernel
theorem dX3_copy_73 : decode cX3_copy 73 = .ok (.iaload, 1) := by decide +kernel
theorem dX3_copy_74 : decode cX3_copy 74 = .ok (.iload 4, 2) := by decide +kernel
theorem dX3_copy_76 : decode cX3_copy 76 = .ok (.iload 5, 2) := by decide +kernel
theorem dX3_copy_78 : decode cX3_copy 78 = .ok (.invokestatic 91, 3) := by decide +kernel
theorem dX3_copy_81 : decode cX3_copy 81 = .ok (.ifCond .ne 9, 3) := by decide +kernel
theorem dX3_copy_84 : decode cX3_copy 84 = .ok (.aload_n 0, 1) := by decide +kernel
theorem dX3_copy_85 : decode cX3_copy 85 = .ok (.iconst 2, 1) := by decide +kernel
theorem dX3_copy_86 : decode cX3_copy 86 = .ok (.invokevirtual 83, 3) := by decide +kernel
theorem dX3_copy_89 : decode cX3_copy 89 = .ok (.ireturn, 1) := by decide +kernel
theorem dX3_copy_90 : decode cX3_copy 90 = .ok (.aload_n 0, 1) := by decide +kernel
theorem dX3_copy_91 : decode cX3_copy 91 = .ok (.getfield 11, 3) := by decide +kernel
theorem dX3_copy_94 : decode cX3_copy 94 = .ok (.iload_n 1, 1) := by decide +kernel
theorem dX3_copy_95 : decode cX3_copy 95 = .ok (.aaload, 1) := by decide +kernel
theorem dX3_copy_96 : decode cX3_copy 96 = .ok (.iload_n 2, 1) := by decide +kernel
theorem dX3_copy_97 : decode cX3_copy 97 = .ok (.aload_n 0, 1) := by decide +kernel
theorem dX3_copy_98 : decode cX3_copy 98 = .ok (.getfield 11, 3) := by decide +kernel
theorem dX3_copy_101 : decode cX3_copy 101 = .ok (.iload_n 3, 1) := by decide +kernel
theorem dX3_copy_102 : decode cX3_copy 102 = .ok (.aaload, 1) := by decide +kernel
theorem dX3_copy_103 : decode cX3_copy 103 = .ok (.iload 4, 2) := by decide +kernel
theorem dX3_copy_105 : decode cX3_copy 105 = .ok (.iload 5, 2) := by decide +kernel
theorem dX3_copy_107 : decode cX3_copy 107 = .ok (.invokestatic 95, 3) := by decide +kernel
theorem dX3_copy_110 : decode cX3_copy 110 = .ok (.iconst 1, 1) := by decide +kernel
theorem dX3_copy_111 : decode cX3_copy 111 = .ok (.ireturn, 1) := by decide +kernel
/-! X3_copy (IIIII)I -/
abbrev rmX3_copy : Room := { frames := 1, cells := 0, slots := 0, locals := 40 }
theorem lkX3_copy_0 : Cond.fieldLink RX3 14 (TX3 1).1 (TX3 1).2.1 (TX3 1).2.2.1 ∈ wsX3_copy := by decide +kernel
theorem lkX3_copy_1 : Cond.fieldLink RX3 11 (TX3 0).1 (TX3 0).2.1 (TX3 0).2.2.1 ∈ wsX3_copy := by decide +kernel
theorem lkX3_copy_2 : Cond.methodLink RX3 95 arraycopyName ∈ wsX3_copy := by decide +kernel
theorem lkX3_copy_3 : Cond.native arraycopyName ∈ wsX3_copy := by decide +kernel
theorem lkX3_copy_4 : Cond.static arraycopyName ∈ wsX3_copy := by decide +kernel
theorem lkX3_copy_5 : Cond.initialized "java/lang/System" ∈ wsX3_copy := by decide +kernel
theorem inX3_copy_X3 : ∀ w ∈ u_ws RX3 TX3 17, w ∈ wsX3_copy := by decide +kernel
noncomputable def fX3_copy_b47 (G : mm_G) (a0 : Nat) (x1 : Int32) (x2 : Int32) (x3 : Int32) (x4 : Int32) (x5 : Int32) (σ : mm_M) : Option (Int32 × mm_M) := (fX3_found G a0 (1 : Int32) σ).bind (fun q49 => some (q49.1, q49.2))
noncomputable def fX3_copy_b84 (G : mm_G) (a0 : Nat) (x1 : Int32) (x2 : Int32) (x3 : Int32) (x4 : Int32) (x5 : Int32) (σ : mm_M) : Option (Int32 × mm_M) := (fX3_found G a0 (2 : Int32) σ).bind (fun q86 => some (q86.1, q86.2))
noncomputable def fX3_copy (G : mm_G) (a0 : Nat) (x1 : Int32) (x2 : Int32) (x3 : Int32) (x4 : Int32) (x5 : Int32) (σ : mm_M) : Option (Int32 × mm_M) := (fX3_isRow G x1 σ).bind (fun q1 => if q1.1 = 0 then (some ((-1 : Int32), q1.2)) else ((fX3_isRow G x3 q1.2).bind (fun q8 => if q8.1 = 0 then (some ((-1 : Int32), q8.2)) else (if x5 < 0 then ((fX3_found G a0 (5 : Int32) q8.2).bind (fun q23 => some (q23.1, q23.2))) else (if x1 < 0 ∨ mm_N G (mm_R G a0 1) ≤ x1.toNatClampNeg then none else (if (q8.2.1 (mm_R G a0 1) x1.toNatClampNeg) = (-1 : Int32) then (fX3_copy_b47 G a0 x1 x2 x3 x4 x5 q8.2) else (if x3 < 0 ∨ mm_N G (mm_R G a0 1) ≤ x3.toNatClampNeg then none else (if (q8.2.1 (mm_R G a0 1) x3.toNatClampNeg) = (-1 : Int32) then (fX3_copy_b47 G a0 x1 x2 x3 x4 x5 q8.2) else (if x1 < 0 ∨ mm_N G (mm_R G a0 1) ≤ x1.toNatClampNeg then none else ((fX3_holds G (q8.2.1 (mm_R G a0 1) x1.toNatClampNeg) x2 x5 q8.2).bind (fun q62 => if q62.1 = 0 then (fX3_copy_b84 G a0 x1 x2 x3 x4 x5 q62.2) else (if x3 < 0 ∨ mm_N G (mm_R G a0 1) ≤ x3.toNatClampNeg then none else ((fX3_holds G (q62.2.1 (mm_R G a0 1) x3.toNatClampNeg) x4 x5 q62.2).bind (fun q78 => if q78.1 = 0 then (fX3_copy_b84 G a0 x1 x2 x3 x4 x5 q78.2) else (if x1 < 0 ∨ mm_N G (mm_R G a0 0) ≤ x1.toNatClampNeg then none else (if x3 < 0 ∨ mm_N G (mm_R G a0 0) ≤ x3.toNatClampNeg then none else (if x2 < 0 ∨ x4 < 0 ∨ x5 < 0 ∨ mm_N G (mm_R G (mm_R G a0 0) x1.toNatClampNeg) < x2.toNatClampNeg + x5.toNatClampNeg ∨ mm_N G (mm_R G (mm_R G a0 0) x3.toNatClampNeg) < x4.toNatClampNeg + x5.toNatClampNeg then none else (some ((1 : Int32), mm_cpy q78.2 (mm_R G (mm_R G a0 0) x1.toNatClampNeg) (mm_R G (mm_R G a0 0) x3.toNatClampNeg) x2.toNatClampNeg x4.toNatClampNeg x5.toNatClampNeg)))))))))))))))))))
set_option maxHeartbeats 4000000 in
set_option maxRecDepth 100000 in
theorem wX3_copy_b47 {E : mm_E} {G : mm_G} (X : mm_Cx E G cX3_copy 6 RX3 wsX3_copy rmX3_copy (some .int)) {a0 : Nat} {x1 : Int32} {x2 : Int32} {x3 : Int32} {x4 : Int32} {x5 : Int32} {σ : mm_M} {q : (Int32 × mm_M)} (ha0 : mm_Is G 3 a0) (h : fX3_copy_b47 G a0 x1 x2 x3 x4 x5 σ = some q) : mm_At E G 6 (mm_Qi E G q) σ 47 [(0, .ref a0)] [] := by
  unfold fX3_copy_b47 at h
  refine at_aload_n (pc := 47) X 0 0 dX3_copy_47 rfl rfl ?_
  refine at_iconst (pc := 48) X (1 : Int32) dX3_copy_48 ic_1 ?_
  obtain ⟨q49, hq49, h⟩ := mm_bind h
  refine at_calli (n := 1) (pc := 49) X 3 [.int (1 : Int32)] [] (mX3_found (eL E) X.wf ha0 hq49) gX3_copy_X3_found rfl ⟨rfl, rfl⟩ (by decide +kernel) ⟨by decide, by decide⟩ (by decide) rfl ha0 rfl rfl (Nat.le_of_ble_eq_true rfl) dX3_copy_49 ?_
  exact at_iret (pc := 52) X (Option.some.inj h) dX3_copy_52
set_option maxHeartbeats 4000000 in
set_option maxRecDepth 100000 in
theorem wX3_copy_b84 {E : mm_E} {G : mm_G} (X : mm_Cx E G cX3_copy 6 RX3 wsX3_copy rmX3_copy (some .int)) {a0 : Nat} {x1 : Int32} {x2 : Int32} {x3 : Int32} {x4 : Int32} {x5 : Int32} {σ : mm_M} {q : (Int32 × mm_M)} (ha0 : mm_Is G 3 a0) (h : fX3_copy_b84 G a0 x1 x2 x3 x4 x5 σ = some q) : mm_At E G 6 (mm_Qi E G q) σ 84 [(0, .ref a0)] [] := by
  unfold fX3_copy_b84 at h
  refine at_aload_n (pc := 84) X 0 0 dX3_copy_84 rfl rfl ?_
  refine at_iconst (pc := 85) X (2 : Int32) dX3_copy_85 ic_2 ?_
  obtain ⟨q86, hq86, h⟩ := mm_bind h
  refine at_calli (n := 1) (pc := 86) X 3 [.int (2 : Int32)] [] (mX3_found (eL E) X.wf ha0 hq86) gX3_copy_X3_found rfl ⟨rfl, rfl⟩ (by decide +kernel) ⟨by decide, by decide⟩ (by decide) rfl ha0 rfl rfl (Nat.le_of_ble_eq_true rfl) dX3_copy_86 ?_
  exact at_iret (pc := 89) X (Option.some.inj h) dX3_copy_89
set_option maxHeartbeats 4000000 in
set_option maxRecDepth 100000 in
theorem wX3_copy_b0 {E : mm_E} {G : mm_G} (X : mm_Cx E G cX3_copy 6 RX3 wsX3_copy rmX3_copy (some .int)) {a0 : Nat} {x1 : Int32} {x2 : Int32} {x3 : Int32} {x4 : Int32} {x5 : Int32} {σ : mm_M} {q : (Int32 × mm_M)} (ha0 : mm_Is G 3 a0) (h : fX3_copy G a0 x1 x2 x3 x4 x5 σ = some q) : mm_At E G 6 (mm_Qi E G q) σ 0 [(0, .ref a0), (1, .int x1), (2, .int x2), (3, .int x3), (4, .int x4), (5, .int x5)] [] := by
  unfold fX3_copy at h
  refine at_iload_n (pc := 0) X 1 1 dX3_copy_0 rfl rfl ?_
  obtain ⟨q1, hq1, h⟩ := mm_bind h
  refine at_scalli (n := 1) (pc := 1) X [.int x1] [] (mX3_isRow (eL E) X.wf hq1) gX3_copy_X3_isRow rfl ⟨rfl, rfl⟩ (by decide +kernel) ⟨by decide, by decide⟩ rfl rfl (Nat.le_of_ble_eq_true rfl) dX3_copy_1 ?_
  refine at_if_eq (pc := 4) X 14 dX3_copy_4 (by decide) (fun c4 => ?_) (fun c4 => ?_)
  · have h := mm_pos c4 h
    refine at_iconst (pc := 14) X (-1 : Int32) dX3_copy_14 ic_m1 ?_
    exact at_iret (pc := 15) X (Option.some.inj h) dX3_copy_15
  · have h := mm_neg c4 h
    refine at_iload_n (pc := 7) X 3 3 dX3_copy_7 rfl rfl ?_
    obtain ⟨q8, hq8, h⟩ := mm_bind h
    refine at_scalli (n := 1) (pc := 8) X [.int x3] [] (mX3_isRow (eL E) X.wf hq8) gX3_copy_X3_isRow rfl ⟨rfl, rfl⟩ (by decide +kernel) ⟨by decide, by decide⟩ rfl rfl (Nat.le_of_ble_eq_true rfl) dX3_copy_8 ?_
    refine at_if_ne (pc := 11) X 16 dX3_copy_11 (by decide) (fun c11 => ?_) (fun c11 => ?_)
    · have h := mm_neg c11 h
      refine at_iload (pc := 16) X 5 5 dX3_copy_16 rfl ?_
      refine at_if_ge (pc := 18) X 27 dX3_copy_18 (by decide) (fun c18 => ?_) (fun c18 => ?_)
      · have h := mm_neg c18 h
        refine at_aload_n (pc := 27) X 0 0 dX3_copy_27 rfl rfl ?_
        refine at_get (pc := 28) X 3 1 (.ref (mm_R G a0 1)) ha0 (by decide) rfl inX3_copy_X3 (by decide) lkX3_copy_0 rfl dX3_copy_28 ?_
        refine at_iload_n (pc := 31) X 1 1 dX3_copy_31 rfl rfl ?_
        obtain ⟨hc32, h⟩ := mm_chk h
        refine at_iald (pc := 32) X (wf_3_1 X.wf ha0) hc32 dX3_copy_32 ?_
        refine at_iconst (pc := 33) X (-1 : Int32) dX3_copy_33 ic_m1 ?_
        refine at_icmp_eq (pc := 34) X 47 dX3_copy_34 (by decide) (fun c34 => ?_) (fun c34 => ?_)
        · have h := mm_pos c34 h
          exact at_sub [0] rfl (wX3_copy_b47 X ha0 h)
        · have h := mm_neg c34 h
          refine at_aload_n (pc := 37) X 0 0 dX3_copy_37 rfl rfl ?_
          refine at_get (pc := 38) X 3 1 (.ref (mm_R G a0 1)) ha0 (by decide) rfl inX3_copy_X3 (by decide) lkX3_copy_0 rfl dX3_copy_38 ?_
          refine at_iload_n (pc := 41) X 3 3 dX3_copy_41 rfl rfl ?_
          obtain ⟨hc42, h⟩ := mm_chk h
          refine at_iald (pc := 42) X (wf_3_1 X.wf ha0) hc42 dX3_copy_42 ?_
          refine at_iconst (pc := 43) X (-1 : Int32) dX3_copy_43 ic_m1 ?_
          refine at_icmp_ne (pc := 44) X 53 dX3_copy_44 (by decide) (fun c44 => ?_) (fun c44 => ?_)
          · have h := mm_neg c44 h
            refine at_aload_n (pc := 53) X 0 0 dX3_copy_53 rfl rfl ?_
            refine at_get (pc := 54) X 3 1 (.ref (mm_R G a0 1)) ha0 (by decide) rfl inX3_copy_X3 (by decide) lkX3_copy_0 rfl dX3_copy_54 ?_
            refine at_iload_n (pc := 57) X 1 1 dX3_copy_57 rfl rfl ?_
            obtain ⟨hc58, h⟩ := mm_chk h
            refine at_iald (pc := 58) X (wf_3_1 X.wf ha0) hc58 dX3_copy_58 ?_
            refine at_iload_n (pc := 59) X 2 2 dX3_copy_59 rfl rfl ?_
            refine at_iload (pc := 60) X 5 5 dX3_copy_60 rfl ?_
            obtain ⟨q62, hq62, h⟩ := mm_bind h
            refine at_scalli (n := 3) (pc := 62) X [.int (q8.2.1 (mm_R G a0 1) x1.toNatClampNeg), .int x2, .int x5] [] (mX3_holds (eL E) X.wf hq62) gX3_copy_X3_holds rfl ⟨rfl, rfl⟩ (by decide +kernel) ⟨by decide, by decide⟩ rfl rfl (Nat.le_of_ble_eq_true rfl) dX3_copy_62 ?_
            refine at_if_eq (pc := 65) X 84 dX3_copy_65 (by decide) (fun c65 => ?_) (fun c65 => ?_)
            · have h := mm_pos c65 h
              exact at_sub [0] rfl (wX3_copy_b84 X ha0 h)
            · have h := mm_neg c65 h
              refine at_aload_n (pc := 68) X 0 0 dX3_copy_68 rfl rfl ?_
              refine at_get (pc := 69) X 3 1 (.ref (mm_R G a0 1)) ha0 (by decide) rfl inX3_copy_X3 (by decide) lkX3_copy_0 rfl dX3_copy_69 ?_
              refine at_iload_n (pc := 72) X 3 3 dX3_copy_72 rfl rfl ?_
              obtain ⟨hc73, h⟩ := mm_chk h
              refine at_iald (pc := 73) X (wf_3_1 X.wf ha0) hc73 dX3_copy_73 ?_
              refine at_iload (pc := 74) X 4 4 dX3_copy_74 rfl ?_
              refine at_iload (pc := 76) X 5 5 dX3_copy_76 rfl ?_
              obtain ⟨q78, hq78, h⟩ := mm_bind h
              refine at_scalli (n := 3) (pc := 78) X [.int (q62.2.1 (mm_R G a0 1) x3.toNatClampNeg), .int x4, .int x5] [] (mX3_holds (eL E) X.wf hq78) gX3_copy_X3_holds rfl ⟨rfl, rfl⟩ (by decide +kernel) ⟨by decide, by decide⟩ rfl rfl (Nat.le_of_ble_eq_true rfl) dX3_copy_78 ?_
              refine at_if_ne (pc := 81) X 90 dX3_copy_81 (by decide) (fun c81 => ?_) (fun c81 => ?_)
              · have h := mm_neg c81 h
                refine at_aload_n (pc := 90) X 0 0 dX3_copy_90 rfl rfl ?_
                refine at_get (pc := 91) X 3 0 (.ref (mm_R G a0 0)) ha0 (by decide) rfl inX3_copy_X3 (by decide) lkX3_copy_1 rfl dX3_copy_91 ?_
                refine at_iload_n (pc := 94) X 1 1 dX3_copy_94 rfl rfl ?_
                obtain ⟨hc95, h⟩ := mm_chk h
                refine at_aald (pc := 95) X 10 5 (wf_3_0 X.wf ha0) (by decide) (by decide) rfl rfl hc95 dX3_copy_95 ?_
                refine at_iload_n (pc := 96) X 2 2 dX3_copy_96 rfl rfl ?_
                refine at_aload_n (pc := 97) X 0 0 dX3_copy_97 rfl rfl ?_
                refine at_get (pc := 98) X 3 0 (.ref (mm_R G a0 0)) ha0 (by decide) rfl inX3_copy_X3 (by decide) lkX3_copy_1 rfl dX3_copy_98 ?_
                refine at_iload_n (pc := 101) X 3 3 dX3_copy_101 rfl rfl ?_
                obtain ⟨hc102, h⟩ := mm_chk h
                refine at_aald (pc := 102) X 10 5 (wf_3_0 X.wf ha0) (by decide) (by decide) rfl rfl hc102 dX3_copy_102 ?_
                refine at_iload (pc := 103) X 4 4 dX3_copy_103 rfl ?_
                refine at_iload (pc := 105) X 5 5 dX3_copy_105 rfl ?_
                obtain ⟨hc107, h⟩ := mm_chk h
                refine at_acopy (pc := 107) X lkX3_copy_2 lkX3_copy_3 lkX3_copy_4 lkX3_copy_5 (by decide) (by decide +kernel) (wf_10 X.wf (wf_3_0 X.wf ha0) hc95) (wf_10 X.wf (wf_3_0 X.wf ha0) hc102) hc107 dX3_copy_107 ?_
                refine at_iconst (pc := 110) X (1 : Int32) dX3_copy_110 ic_1 ?_
                exact at_iret (pc := 111) X (Option.some.inj h) dX3_copy_111
              · have h := mm_pos c81 h
                exact at_sub [0] rfl (wX3_copy_b84 X ha0 h)
          · have h := mm_pos c44 h
            exact at_sub [0] rfl (wX3_copy_b47 X ha0 h)
      · have h := mm_pos c18 h
        refine at_aload_n (pc := 21) X 0 0 dX3_copy_21 rfl rfl ?_
        refine at_iconst (pc := 22) X (5 : Int32) dX3_copy_22 ic_5 ?_
        obtain ⟨q23, hq23, h⟩ := mm_bind h
        refine at_calli (n := 1) (pc := 23) X 3 [.int (5 : Int32)] [] (mX3_found (eL E) X.wf ha0 hq23) gX3_copy_X3_found rfl ⟨rfl, rfl⟩ (by decide +kernel) ⟨by decide, by decide⟩ (by decide) rfl ha0 rfl rfl (Nat.le_of_ble_eq_true rfl) dX3_copy_23 ?_
        exact at_iret (pc := 26) X (Option.some.inj h) dX3_copy_26
    · have h := mm_pos c11 h
      refine at_iconst (pc := 14) X (-1 : Int32) dX3_copy_14 ic_m1 ?_
      exact at_iret (pc := 15) X (Option.some.inj h) dX3_copy_15
set_option maxHeartbeats 4000000 in
set_option maxRecDepth 100000 in
theorem mX3_copy (l : Launch) {G : mm_G} (hwf : mm_WF G) {a0 : Nat} {x1 : Int32} {x2 : Int32} {x3 : Int32} {x4 : Int32} {x5 : Int32} {σ : mm_M} {q : (Int32 × mm_M)} (ha0 : mm_Is G 3 a0) (h : fX3_copy G a0 x1 x2 x3 x4 x5 σ = some q) : mm_Mi l yX3_copy wsX3_copy rmX3_copy G [.ref a0, .int x1, .int x2, .int x3, .int x4, .int x5] σ q := by
  refine mm_ofi (cc := cX3_copy) (nL := 6) (ret := some .int) (own := RX3) (lv0 := [(0, .ref a0), (1, .int x1), (2, .int x2), (3, .int x3), (4, .int x4), (5, .int x5)]) (by decide) rfl rfl (Nat.le_of_ble_eq_true rfl) rfl hwf (fun E hE X => ?_)
  exact wX3_copy_b0 X ha0 h
set_option maxRecDepth 20000 in
theorem ggX3_mean_X3_isRow : GoodIn wsX3_mean wsX3_isRow := goodIn_r _ [7] (by decide +kernel) (by decide +kernel)
set_option maxRecDepth 20000 in
theorem gX3_mean_X3_isRow : GoodIn wsX3_mean (va_wsS RX3 79 yX3_isRow wsX3_isRow) := goodIn_app (goodIn_of _ (by decide +kernel)) ggX3_mean_X3_isRow
set_option maxRecDepth 20000 in
theorem ggX3_mean_X3_found : GoodIn wsX3_mean wsX3_found := goodIn_r _ [11, 12, 13, 14, 15, 16, 17, 18, 19, 20, 21, 22, 23, 24, 25, 26, 27, 28, 29, 30] (by decide +kernel) (by decide +kernel)
set_option maxRecDepth 20000 in
theorem gX3_mean_X3_found : GoodIn wsX3_mean (wsV RX3 83 RX3 yX3_found wsX3_found) := goodIn_app (goodIn_of _ (by decide +kernel)) ggX3_mean_X3_found
theorem dX3_mean_0 : decode cX3_mean 0 = .ok (.iload_n 1, 1) := by decide +kernel
theorem dX3_mean_1 : decode cX3_mean 1 = .ok (.invokestatic 79, 3) := by decide +kernel
theorem dX3_mean_4 : decode cX3_mean 4 = .ok (.ifCond .ne 5, 3) := by decide +kernel
theorem dX3_mean_7 : decode cX3_mean 7 = .ok (.iconst (-1), 1) := by decide +kernel
theorem dX3_mean_8 : decode cX3_mean 8 = .ok (.ireturn, 1) := by decide +kernel
theorem dX3_mean_9 : decode cX3_mean 9 = .ok (.aload_n 0, 1) := by decide +kernel
theorem dX3_mean_10 : decode cX3_mean 10 = .ok (.getfield 14, 3) := by decide +kernel
theorem dX3_mean_13 : decode cX3_mean 13 = .ok (.iload_n 1, 1) := by decide +kernel
theorem dX3_mean_14 : decode cX3_mean 14 = .ok (.iaload, 1) := by decide +kernel
theorem dX3_mean_15 : decode cX3_mean 15 = .ok (.istore_n 2, 1) := by decide +kernel
theorem dX3_mean_16 : decode cX3_mean 16 = .ok (.iload_n 2, 1) := by decide +kernel
theorem dX3_mean_17 : decode cX3_mean 17 = .ok (.iconst (-1), 1) := by decide +kernel
theorem dX3_mean_18 : decode cX3_mean 18 = .ok (.if_icmp .ne 9, 3) := by decide +kernel
theorem dX3_mean_21 : decode cX3_mean 21 = .ok (.aload_n 0, 1) := by decide +kernel
theorem dX3_mean_22 : decode cX3_mean 22 = .ok (.iconst 1, 1) := by decide +kernel
theorem dX3_mean_23 : decode cX3_mean 23 = .ok (.invokevirtual 83, 3) := by decide +kernel
theorem dX3_mean_26 : decode cX3_mean 26 = .ok (.ireturn, 1) := by decide +kernel
theorem dX3_mean_27 : decode cX3_mean 27 = .ok (.iload_n 2, 1) := by decide +kernel
theorem dX3_mean_28 : decode cX3_mean 28 = .ok (.iconst 1, 1) := by decide +kernel
theorem dX3_mean_29 : decode cX3_mean 29 = .ok (.if_icmp .ge 9, 3) := by decide +kernel
theorem dX3_mean_32 : decode cX3_mean 32 = .ok (.aload_n 0, 1) := by decide +kernel
theorem dX3_mean_33 : decode cX3_mean 33 = .ok (.iconst 4, 1) := by decide +kernel
theorem dX3_mean_34 : decode cX3_mean 34 = .ok (.invokevirtual 83, 3) := by decide +kernel
theorem dX3_mean_37 : decode cX3_mean 37 = .ok (.ireturn, 1) := by decide +kernel
theorem dX3_mean_38 : decode cX3_mean 38 = .ok (.lconst 0, 1) := by decide +kernel
theorem dX3_mean_39 : decode cX3_mean 39 = .ok (.lstore_n 3, 1) := by decide +kernel
theorem dX3_mean_40 : decode cX3_mean 40 = .ok (.iconst 0, 1) := by decide +kernel
theorem dX3_mean_41 : decode cX3_mean 41 = .ok (.istore 5, 2) := by decide +kernel
theorem dX3_mean_43 : decode cX3_mean 43 = .ok (.iload 5, 2) := by decide +kernel
theorem dX3_mean_45 : decode cX3_mean 45 = .ok (.iload_n 2, 1) := by decide +kernel
theorem dX3_mean_46 : decode cX3_mean 46 = .ok (.if_icmp .ge 22, 3) := by decide +kernel
theorem dX3_mean_49 : decode cX3_mean 49 = .ok (.lload_n 3, 1) := by decide +kernel
theorem dX3_mean_50 : decode cX3_mean 50 = .ok (.aload_n 0, 1) := by decide +kernel
theorem dX3_mean_51 : decode cX3_mean 51 = .ok (.getfield 11, 3) := by decide +kernel
theorem dX3_mean_54 : decode cX3_mean 54 = .ok (.iload_n 1, 1) := by decide +kernel
theorem dX3_mean_55 : decode cX3_mean 55 = .ok (.aaload, 1) := by decide +kernel
theorem dX3_mean_56 : decode cX3_mean 56 = .ok (.iload 5, 2) := by decide +kernel
theorem dX3_mean_58 : decode cX3_mean 58 = .ok (.iaload, 1) := by decide +kernel
theorem dX3_mean_59 : decode cX3_mean 59 = .ok (.i2l, 1) := by decide +kernel
theorem dX3_mean_60 : decode cX3_mean 60 = .ok (.ladd, 1) := by decide +kernel
theorem dX3_mean_61 : decode cX3_mean 61 = .ok (.lstore_n 3, 1) := by decide +kernel
theorem dX3_mean_62 : decode cX3_mean 62 = .ok (.iinc 5 1, 3) := by decide +kernel
theorem dX3_mean_65 : decode cX3_mean 65 = .ok (.goto (-22), 3) := by decide +kernel
theorem dX3_mean_68 : decode cX3_mean 68 = .ok (.aload_n 0, 1) := by decide +kernel
theorem dX3_mean_69 : decode cX3_mean 69 = .ok (.lload_n 3, 1) := by decide +kernel
theorem dX3_mean_70 : decode cX3_mean 70 = .ok (.iload_n 2, 1) := by decide +kernel
theorem dX3_mean_71 : decode cX3_mean 71 = .ok (.i2l, 1) := by decide +kernel
theorem dX3_mean_72 : decode cX3_mean 72 = .ok (.ldiv, 1) := by decide +kernel
theorem dX3_mean_73 : decode cX3_mean 73 = .ok (.l2i, 1) := by decide +kernel
theorem dX3_mean_74 : decode cX3_mean 74 = .ok (.putfield 59, 3) := by decide +kernel
theorem dX3_mean_77 : decode cX3_mean 77 = .ok (.iconst 1, 1) := by decide +kernel
theorem dX3_mean_78 : decode cX3_mean 78 = .ok (.ireturn, 1) := by decide +kernel
/-! X3_mean (I)I -/
abbrev rmX3_mean : Room := { frames := 1, cells := 0, slots := 0, locals := 21 }
theorem lkX3_mean_0 : Cond.fieldLink RX3 14 (TX3 1).1 (TX3 1).2.1 (TX3 1).2.2.1 ∈ wsX3_mean := by decide +kernel
theorem lkX3_mean_1 : Cond.fieldLink RX3 59 (TX3 12).1 (TX3 12).2.1 (TX3 12).2.2.1 ∈ wsX3_mean := by decide +kernel
theorem lkX3_mean_2 : Cond.fieldLink RX3 11 (TX3 0).1 (TX3 0).2.1 (TX3 0).2.2.1 ∈ wsX3_mean := by decide +kernel
theorem inX3_mean_X3 : ∀ w ∈ u_ws RX3 TX3 17, w ∈ wsX3_mean := by decide +kernel
noncomputable def fX3_mean_b43 (G : mm_G) (a0 : Nat) (x1 : Int32) (x2 : Int32) (y3 : Int64) (x5 : Int32) (σ : mm_M) : Option ((Int32 × mm_M) ⊕ (Int32 × Int64 × Int32 × mm_M)) := if x5 < x2 then (if x1 < 0 ∨ mm_N G (mm_R G a0 0) ≤ x1.toNatClampNeg then none else (if x5 < 0 ∨ mm_N G (mm_R G (mm_R G a0 0) x1.toNatClampNeg) ≤ x5.toNatClampNeg then none else (some (.inr (x2, y3 + ((σ.1 (mm_R G (mm_R G a0 0) x1.toNatClampNeg) x5.toNatClampNeg).toInt64), x5 + 1, σ))))) else (if x2.toInt64 = 0 then none else (some (.inl ((1 : Int32), mm_up σ a0 12 ((y3 / x2.toInt64).toInt32)))))
noncomputable def fX3_mean_b0 (G : mm_G) (a0 : Nat) (x1 : Int32) (σ : mm_M) : Option ((Int32 × mm_M) ⊕ (Int32 × Int64 × Int32 × mm_M)) := (fX3_isRow G x1 σ).bind (fun q1 => if q1.1 = 0 then (some (.inl ((-1 : Int32), q1.2))) else (if x1 < 0 ∨ mm_N G (mm_R G a0 1) ≤ x1.toNatClampNeg then none else (if (q1.2.1 (mm_R G a0 1) x1.toNatClampNeg) = (-1 : Int32) then ((fX3_found G a0 (1 : Int32) q1.2).bind (fun q23 => some (.inl (q23.1, q23.2)))) else (if (q1.2.1 (mm_R G a0 1) x1.toNatClampNeg) < (1 : Int32) then ((fX3_found G a0 (4 : Int32) q1.2).bind (fun q34 => some (.inl (q34.1, q34.2)))) else (some (.inr (q1.2.1 (mm_R G a0 1) x1.toNatClampNeg, (0 : Int64), (0 : Int32), q1.2)))))))
noncomputable def fX3_mean_s (G : mm_G) (a0 : Nat) (x1 : Int32) : (Int32 × Int64 × Int32 × mm_M) → Option ((Int32 × mm_M) ⊕ (Int32 × Int64 × Int32 × mm_M)) := (fun s => fX3_mean_b43 G a0 x1 s.1 s.2.1 s.2.2.1 s.2.2.2)
def PX3_mean (E : mm_E) (G : mm_G) (a0 : Nat) (x1 : Int32) (q : (Int32 × mm_M)) : (Int32 × Int64 × Int32 × mm_M) → Prop := (fun s => mm_At E G 6 (mm_Qi E G q) s.2.2.2 43 [(0, .ref a0), (1, .int x1), (2, .int s.1), (3, .long s.2.1), (5, .int s.2.2.1)] [])
noncomputable def fX3_mean (G : mm_G) (a0 : Nat) (x1 : Int32) (σ : mm_M) : Option (Int32 × mm_M) := mm_run (fX3_mean_b0 G a0 x1 σ) (fX3_mean_s G a0 x1)
set_option maxHeartbeats 4000000 in
set_option maxRecDepth 100000 in
theorem wX3_mean_b43 {E : mm_E} {G : mm_G} (X : mm_Cx E G cX3_mean 6 RX3 wsX3_mean rmX3_mean (some .int)) {a0 : Nat} {x1 : Int32} {x2 : Int32} {y3 : Int64} {x5 : Int32} {σ : mm_M} {q : (Int32 × mm_M)} (ha0 : mm_Is G 3 a0) {o : (Int32 × mm_M) ⊕ (Int32 × Int64 × Int32 × mm_M)} (h : fX3_mean_b43 G a0 x1 x2 y3 x5 σ = some o) (hk : mm_Ok q (PX3_mean E G a0 x1 q) o) : mm_At E G 6 (mm_Qi E G q) σ 43 [(0, .ref a0), (1, .int x1), (2, .int x2), (3, .long y3), (5, .int x5)] [] := by
  unfold fX3_mean_b43 at h
  refine at_iload (pc := 43) X 5 4 dX3_mean_43 rfl ?_
  refine at_iload_n (pc := 45) X 2 2 dX3_mean_45 rfl rfl ?_
  refine at_icmp_ge (pc := 46) X 68 dX3_mean_46 (by decide) (fun c46 => ?_) (fun c46 => ?_)
  · have h := mm_neg c46 h
    refine at_aload_n (pc := 68) X 0 0 dX3_mean_68 rfl rfl ?_
    refine at_lload_n (pc := 69) X 3 3 dX3_mean_69 rfl rfl ?_
    refine at_iload_n (pc := 70) X 2 2 dX3_mean_70 rfl rfl ?_
    refine at_i2l (pc := 71) X dX3_mean_71 ?_
    obtain ⟨hc72, h⟩ := mm_chk h
    refine at_ldiv (pc := 72) X hc72 dX3_mean_72 ?_
    refine at_l2i (pc := 73) X dX3_mean_73 ?_
    refine at_put (pc := 74) X 3 12 ha0 (by decide) rfl inX3_mean_X3 tyX3 tyX3_ok nmX3 (by decide) lkX3_mean_1 rfl (ty := .int) rfl rfl rfl (Nat.le_of_ble_eq_true rfl) (ms_3_12 G _ _ _) mm_up_ne dX3_mean_74 ?_
    refine at_iconst (pc := 77) X (1 : Int32) dX3_mean_77 ic_1 ?_
    exact at_iret (pc := 78) X (mm_inl h hk) dX3_mean_78
  · have h := mm_pos c46 h
    refine at_lload_n (pc := 49) X 3 3 dX3_mean_49 rfl rfl ?_
    refine at_aload_n (pc := 50) X 0 0 dX3_mean_50 rfl rfl ?_
    refine at_get (pc := 51) X 3 0 (.ref (mm_R G a0 0)) ha0 (by decide) rfl inX3_mean_X3 (by decide) lkX3_mean_2 rfl dX3_mean_51 ?_
    refine at_iload_n (pc := 54) X 1 1 dX3_mean_54 rfl rfl ?_
    obtain ⟨hc55, h⟩ := mm_chk h
    refine at_aald (pc := 55) X 10 5 (wf_3_0 X.wf ha0) (by decide) (by decide) rfl rfl hc55 dX3_mean_55 ?_
    refine at_iload (pc := 56) X 5 4 dX3_mean_56 rfl ?_
    obtain ⟨hc58, h⟩ := mm_chk h
    refine at_iald (pc := 58) X (wf_10 X.wf (wf_3_0 X.wf ha0) hc55) hc58 dX3_mean_58 ?_
    refine at_i2l (pc := 59) X dX3_mean_59 ?_
    refine at_ladd (pc := 60) X dX3_mean_60 ?_
    refine at_lstore_n (pc := 61) X 3 [(3, .long (y3 + ((σ.1 (mm_R G (mm_R G a0 0) x1.toNatClampNeg) x5.toNatClampNeg).toInt64))), (0, .ref a0), (1, .int x1), (2, .int x2), (5, .int x5)] dX3_mean_61 rfl (by decide) rfl ?_
    refine at_iinc (pc := 62) X 5 4 (x5 + 1) [(5, .int (x5 + 1)), (3, .long (y3 + ((σ.1 (mm_R G (mm_R G a0 0) x1.toNatClampNeg) x5.toNatClampNeg).toInt64))), (0, .ref a0), (1, .int x1), (2, .int x2)] dX3_mean_62 rfl (ii_1 _) (by decide) rfl ?_
    refine at_goto (pc := 65) X 43 dX3_mean_65 (by decide) ?_
    have h2 := mm_inr h hk; exact at_sub [2, 3, 4, 1, 0] rfl h2
set_option maxHeartbeats 4000000 in
set_option maxRecDepth 100000 in
theorem wX3_mean_b0 {E : mm_E} {G : mm_G} (X : mm_Cx E G cX3_mean 6 RX3 wsX3_mean rmX3_mean (some .int)) {a0 : Nat} {x1 : Int32} {σ : mm_M} {q : (Int32 × mm_M)} (ha0 : mm_Is G 3 a0) {o : (Int32 × mm_M) ⊕ (Int32 × Int64 × Int32 × mm_M)} (h : fX3_mean_b0 G a0 x1 σ = some o) (hk : mm_Ok q (PX3_mean E G a0 x1 q) o) : mm_At E G 6 (mm_Qi E G q) σ 0 [(0, .ref a0), (1, .int x1)] [] := by
  unfold fX3_mean_b0 at h
  refine at_iload_n (pc := 0) X 1 1 dX3_mean_0 rfl rfl ?_
  obtain ⟨q1, hq1, h⟩ := mm_bind h
  refine at_scalli (n := 1) (pc := 1) X [.int x1] [] (mX3_isRow (eL E) X.wf hq1) gX3_mean_X3_isRow rfl ⟨rfl, rfl⟩ (by decide +kernel) ⟨by decide, by decide⟩ rfl rfl (Nat.le_of_ble_eq_true rfl) dX3_mean_1 ?_
  refine at_if_ne (pc := 4) X 9 dX3_mean_4 (by decide) (fun c4 => ?_) (fun c4 => ?_)
  · have h := mm_neg c4 h
    refine at_aload_n (pc := 9) X 0 0 dX3_mean_9 rfl rfl ?_
    refine at_get (pc := 10) X 3 1 (.ref (mm_R G a0 1)) ha0 (by decide) rfl inX3_mean_X3 (by decide) lkX3_mean_0 rfl dX3_mean_10 ?_
    refine at_iload_n (pc := 13) X 1 1 dX3_mean_13 rfl rfl ?_
    obtain ⟨hc14, h⟩ := mm_chk h
    refine at_iald (pc := 14) X (wf_3_1 X.wf ha0) hc14 dX3_mean_14 ?_
    refine at_istore_n (pc := 15) X 2 [(2, .int (q1.2.1 (mm_R G a0 1) x1.toNatClampNeg)), (0, .ref a0), (1, .int x1)] dX3_mean_15 rfl (by decide) rfl ?_
    refine at_iload_n (pc := 16) X 2 0 dX3_mean_16 rfl rfl ?_
    refine at_iconst (pc := 17) X (-1 : Int32) dX3_mean_17 ic_m1 ?_
    refine at_icmp_ne (pc := 18) X 27 dX3_mean_18 (by decide) (fun c18 => ?_) (fun c18 => ?_)
    · have h := mm_neg c18 h
      refine at_iload_n (pc := 27) X 2 0 dX3_mean_27 rfl rfl ?_
      refine at_iconst (pc := 28) X (1 : Int32) dX3_mean_28 ic_1 ?_
      refine at_icmp_ge (pc := 29) X 38 dX3_mean_29 (by decide) (fun c29 => ?_) (fun c29 => ?_)
      · have h := mm_neg c29 h
        refine at_lconst (pc := 38) X (0 : Int64) dX3_mean_38 (by decide) ?_
        refine at_lstore_n (pc := 39) X 3 [(3, .long (0 : Int64)), (2, .int (q1.2.1 (mm_R G a0 1) x1.toNatClampNeg)), (0, .ref a0), (1, .int x1)] dX3_mean_39 rfl (by decide) rfl ?_
        refine at_iconst (pc := 40) X (0 : Int32) dX3_mean_40 ic_0 ?_
        refine at_istore (pc := 41) X 5 [(5, .int (0 : Int32)), (3, .long (0 : Int64)), (2, .int (q1.2.1 (mm_R G a0 1) x1.toNatClampNeg)), (0, .ref a0), (1, .int x1)] dX3_mean_41 (by decide) rfl ?_
        have h2 := mm_inr h hk; exact at_sub [3, 4, 2, 1, 0] rfl h2
      · have h := mm_pos c29 h
        refine at_aload_n (pc := 32) X 0 1 dX3_mean_32 rfl rfl ?_
        refine at_iconst (pc := 33) X (4 : Int32) dX3_mean_33 ic_4 ?_
        obtain ⟨q34, hq34, h⟩ := mm_bind h
        refine at_calli (n := 1) (pc := 34) X 3 [.int (4 : Int32)] [] (mX3_found (eL E) X.wf ha0 hq34) gX3_mean_X3_found rfl ⟨rfl, rfl⟩ (by decide +kernel) ⟨by decide, by decide⟩ (by decide) rfl ha0 rfl rfl (Nat.le_of_ble_eq_true rfl) dX3_mean_34 ?_
        exact at_iret (pc := 37) X (mm_inl h hk) dX3_mean_37
    · have h := mm_pos c18 h
      refine at_aload_n (pc := 21) X 0 1 dX3_mean_21 rfl rfl ?_
      refine at_iconst (pc := 22) X (1 : Int32) dX3_mean_22 ic_1 ?_
      obtain ⟨q23, hq23, h⟩ := mm_bind h
      refine at_calli (n := 1) (pc := 23) X 3 [.int (1 : Int32)] [] (mX3_found (eL E) X.wf ha0 hq23) gX3_mean_X3_found rfl ⟨rfl, rfl⟩ (by decide +kernel) ⟨by decide, by decide⟩ (by decide) rfl ha0 rfl rfl (Nat.le_of_ble_eq_true rfl) dX3_mean_23 ?_
      exact at_iret (pc := 26) X (mm_inl h hk) dX3_mean_26
  · have h := mm_pos c4 h
    refine at_iconst (pc := 7) X (-1 : Int32) dX3_mean_7 ic_m1 ?_
    exact at_iret (pc := 8) X (mm_inl h hk) dX3_mean_8
set_option maxHeartbeats 4000000 in
set_option maxRecDepth 100000 in
theorem mX3_mean (l : Launch) {G : mm_G} (hwf : mm_WF G) {a0 : Nat} {x1 : Int32} {σ : mm_M} {q : (Int32 × mm_M)} (ha0 : mm_Is G 3 a0) (h : fX3_mean G a0 x1 σ = some q) : mm_Mi l yX3_mean wsX3_mean rmX3_mean G [.ref a0, .int x1] σ q := by
  refine mm_ofi (cc := cX3_mean) (nL := 6) (ret := some .int) (own := RX3) (lv0 := [(0, .ref a0), (1, .int x1)]) (by decide) rfl rfl (Nat.le_of_ble_eq_true rfl) rfl hwf (fun E hE X => ?_)
  obtain ⟨o, h0, hk⟩ := mm_run_ok (P := PX3_mean E G a0 x1 q) h (fun s o hs hk => by exact wX3_mean_b43 X ha0 hs hk)
  exact wX3_mean_b0 X ha0 h0 hk
theorem dX3_isText_0 : decode cX3_isText 0 = .ok (.iload_n 0, 1) := by decide +kernel
theorem dX3_isText_1 : decode cX3_isText 1 = .ok (.ifCond .lt 12, 3) := by decide +kernel
theorem dX3_isText_4 : decode cX3_isText 4 = .ok (.iload_n 0, 1) := by decide +kernel
theorem dX3_isText_5 : decode cX3_isText 5 = .ok (.iconst 4, 1) := by decide +kernel
theorem dX3_isText_6 : decode cX3_isText 6 = .ok (.if_icmp .ge 7, 3) := by decide +kernel
theorem dX3_isText_9 : decode cX3_isText 9 = .ok (.iconst 1, 1) := by decide +kernel
theorem dX3_isText_10 : decode cX3_isText 10 = .ok (.goto 4, 3) := by decide +kernel
theorem dX3_isText_13 : decode cX3_isText 13 = .ok (.iconst 0, 1) := by decide +kernel
theorem dX3_isText_14 : decode cX3_isText 14 = .ok (.ireturn, 1) := by decide +kernel
/-! X3_isText (I)Z -/
abbrev rmX3_isText : Room := { frames := 0, cells := 0, slots := 0, locals := 0 }
noncomputable def fX3_isText (G : mm_G) (x0 : Int32) (σ : mm_M) : Option (Int32 × mm_M) := if ¬ ((if x0 < 0 then (0 : Int32) else if x0 < (4 : Int32) then (1 : Int32) else (0 : Int32)) = 0 ∨ (if x0 < 0 then (0 : Int32) else if x0 < (4 : Int32) then (1 : Int32) else (0 : Int32)) = 1) then none else (some (if x0 < 0 then (0 : Int32) else if x0 < (4 : Int32) then (1 : Int32) else (0 : Int32), σ))
set_option maxHeartbeats 4000000 in
set_option maxRecDepth 100000 in
theorem wX3_isText_b0 {E : mm_E} {G : mm_G} (X : mm_Cx E G cX3_isText 1 RX3 wsX3_isText rmX3_isText (some .boolean)) {x0 : Int32} {σ : mm_M} {q : (Int32 × mm_M)} (h : fX3_isText G x0 σ = some q) : mm_At E G 1 (mm_Qi E G q) σ 0 [(0, .int x0)] [] := by
  unfold fX3_isText at h
  refine at_iload_n (pc := 0) X 0 0 dX3_isText_0 rfl rfl ?_
  have hj1 : mm_At E G 1 (mm_Qi E G q) σ 14 [] [.int (if x0 < 0 then (0 : Int32) else if x0 < (4 : Int32) then (1 : Int32) else (0 : Int32))] := by
    obtain ⟨hg14, h⟩ := mm_chk h
    exact at_zret (pc := 14) X (Classical.not_not.mp hg14) (Option.some.inj h) dX3_isText_14
  refine at_if_lt (pc := 1) X 13 dX3_isText_1 (by decide) (fun c1 => ?_) (fun c1 => ?_)
  · try simp only [if_pos c1] at hj1
    refine at_iconst (pc := 13) X (0 : Int32) dX3_isText_13 ic_0 ?_
    exact at_sub [] rfl hj1
  · try simp only [if_neg c1] at hj1
    refine at_iload_n (pc := 4) X 0 0 dX3_isText_4 rfl rfl ?_
    refine at_iconst (pc := 5) X (4 : Int32) dX3_isText_5 ic_4 ?_
    refine at_icmp_ge (pc := 6) X 13 dX3_isText_6 (by decide) (fun c6 => ?_) (fun c6 => ?_)
    · try simp only [if_neg c6] at hj1
      refine at_iconst (pc := 13) X (0 : Int32) dX3_isText_13 ic_0 ?_
      exact at_sub [] rfl hj1
    · try simp only [if_pos c6] at hj1
      refine at_iconst (pc := 9) X (1 : Int32) dX3_isText_9 ic_1 ?_
      refine at_goto (pc := 10) X 14 dX3_isText_10 (by decide) ?_
      exact at_sub [] rfl hj1
set_option maxHeartbeats 4000000 in
set_option maxRecDepth 100000 in
theorem mX3_isText (l : Launch) {G : mm_G} (hwf : mm_WF G) {x0 : Int32} {σ : mm_M} {q : (Int32 × mm_M)} (h : fX3_isText G x0 σ = some q) : mm_Mi l yX3_isText wsX3_isText rmX3_isText G [.int x0] σ q := by
  refine mm_ofi (cc := cX3_isText) (nL := 1) (ret := some .boolean) (own := RX3) (lv0 := [(0, .int x0)]) (by decide) rfl rfl (Nat.le_of_ble_eq_true rfl) rfl hwf (fun E hE X => ?_)
  exact wX3_isText_b0 X  h
