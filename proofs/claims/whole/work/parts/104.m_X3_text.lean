/-! X3_text X3_put X3_fault X3_air X3_station X3_mark X3_deedOf X3_carryOut X3_slot -/
set_option maxRecDepth 20000 in
theorem ggX3_text_X3_isText : GoodIn wsX3_text wsX3_isText := goodIn_r _ [6] (by decide +kernel) (by decide +kernel)
set_option maxRecDepth 20000 in
theorem gX3_text_X3_isText : GoodIn wsX3_text (va_wsS RX3 101 yX3_isText wsX3_isText) := goodIn_app (goodIn_of _ (by decide +kernel)) ggX3_text_X3_isText
set_option maxRecDepth 20000 in
theorem ggX3_text_X3_found : GoodIn wsX3_text wsX3_found := goodIn_r _ [10, 11, 12, 13, 14, 15, 16, 17, 18, 19, 20, 21, 22, 23, 24, 25, 26, 27, 28, 29] (by decide +kernel) (by decide +kernel)
set_option maxRecDepth 20000 in
theorem gX3_text_X3_found : GoodIn wsX3_text (wsV RX3 83 RX3 yX3_found wsX3_found) := goodIn_app (goodIn_of _ (by decide +kernel)) ggX3_text_X3_found
theorem dX3_text_0 : decode cX3_text 0 = .ok (.iload_n 1, 1) := by decide +kernel
theorem dX3_text_1 : decode cX3_text 1 = .ok (.invokestatic 101, 3) := by decide +kernel
theorem dX3_text_4 : decode cX3_text 4 = .ok (.ifCond .eq 9, 3) := by decide +kernel
theorem dX3_text_7 : decode cX3_text 7 = .ok (.iload_n 2, 1) := by decide +kernel
theorem dX3_text_8 : decode cX3_text 8 = .ok (.bipush 60, 2) := by decide +kernel
theorem dX3_text_10 : decode cX3_text 10 = .ok (.if_icmp .le 5, 3) := by decide +kernel
theorem dX3_text_13 : decode cX3_text 13 = .ok (.iconst (-1), 1) := by decide +kernel
theorem dX3_text_14 : decode cX3_text 14 = .ok (.ireturn, 1) := by decide +kernel
theorem dX3_text_15 : decode cX3_text 15 = .ok (.iload_n 2, 1) := by decide +kernel
theorem dX3_text_16 : decode cX3_text 16 = .ok (.ifCond .ge 9, 3) := by decide +kernel
theorem dX3_text_19 : decode cX3_text 19 = .ok (.aload_n 0, 1) := by decide +kernel
theorem dX3_text_20 : decode cX3_text 20 = .ok (.iconst 5, 1) := by decide +kernel
theorem dX3_text_21 : decode cX3_text 21 = .ok (.invokevirtual 83, 3) := by decide +kernel
theorem dX3_text_24 : decode cX3_text 24 = .ok (.ireturn, 1) := by decide +kernel
theorem dX3_text_25 : decode cX3_text 25 = .ok (.iconst 0, 1) := by decide +kernel
theorem dX3_text_26 : decode cX3_text 26 = .ok (.istore_n 3, 1) := by decide +kernel
theorem dX3_text_27 : decode cX3_text 27 = .ok (.iload_n 3, 1) := by decide +kernel
theorem dX3_text_28 : decode cX3_text 28 = .ok (.iload_n 2, 1) := by decide +kernel
theorem dX3_text_29 : decode cX3_text 29 = .ok (.if_icmp .ge 19, 3) := by decide +kernel
theorem dX3_text_32 : decode cX3_text 32 = .ok (.aload_n 0, 1) := by decide +kernel
theorem dX3_text_33 : decode cX3_text 33 = .ok (.getfield 20, 3) := by decide +kernel
theorem dX3_text_36 : decode cX3_text 36 = .ok (.iload_n 1, 1) := by decide +kernel
theorem dX3_text_37 : decode cX3_text 37 = .ok (.aaload, 1) := by decide +kernel
theorem dX3_text_38 : decode cX3_text 38 = .ok (.iload_n 3, 1) := by decide +kernel
theorem dX3_text_39 : decode cX3_text 39 = .ok (.bipush 32, 2) := by decide +kernel
theorem dX3_text_41 : decode cX3_text 41 = .ok (.bastore, 1) := by decide +kernel
theorem dX3_text_42 : decode cX3_text 42 = .ok (.iinc 3 1, 3) := by decide +kernel
theorem dX3_text_45 : decode cX3_text 45 = .ok (.goto (-18), 3) := by decide +kernel
theorem dX3_text_48 : decode cX3_text 48 = .ok (.aload_n 0, 1) := by decide +kernel
theorem dX3_text_49 : decode cX3_text 49 = .ok (.getfield 23, 3) := by decide +kernel
theorem dX3_text_52 : decode cX3_text 52 = .ok (.iload_n 1, 1) := by decide +kernel
theorem dX3_text_53 : decode cX3_text 53 = .ok (.iload_n 2, 1) := by decide +kernel
theorem dX3_text_54 : decode cX3_text 54 = .ok (.iastore, 1) := by decide +kernel
theorem dX3_text_55 : decode cX3_text 55 = .ok (.iload_n 2, 1) := by decide +kernel
theorem dX3_text_56 : decode cX3_text 56 = .ok (.ireturn, 1) := by decide +kernel
/-! X3_text (II)I -/
abbrev rmX3_text : Room := { frames := 1, cells := 0, slots := 0, locals := 21 }
theorem lkX3_text_0 : Cond.fieldLink RX3 23 (TX3 3).1 (TX3 3).2.1 (TX3 3).2.2.1 ∈ wsX3_text := by decide +kernel
theorem lkX3_text_1 : Cond.fieldLink RX3 20 (TX3 2).1 (TX3 2).2.1 (TX3 2).2.2.1 ∈ wsX3_text := by decide +kernel
theorem inX3_text_X3 : ∀ w ∈ u_ws RX3 TX3 17, w ∈ wsX3_text := by decide +kernel
noncomputable def fX3_text_b27 (G : mm_G) (a0 : Nat) (x1 : Int32) (x2 : Int32) (x3 : Int32) (σ : mm_M) : Option ((Int32 × mm_M) ⊕ (Int32 × mm_M)) := if x3 < x2 then (if x1 < 0 ∨ mm_N G (mm_R G a0 2) ≤ x1.toNatClampNeg then none else (if x3 < 0 ∨ mm_N G (mm_R G (mm_R G a0 2) x1.toNatClampNeg) ≤ x3.toNatClampNeg then none else (some (.inr (x3 + 1, mm_up σ (mm_R G (mm_R G a0 2) x1.toNatClampNeg) x3.toNatClampNeg (vp_nar .byte (32 : Int32))))))) else (if x1 < 0 ∨ mm_N G (mm_R G a0 3) ≤ x1.toNatClampNeg then none else (some (.inl (x2, mm_up σ (mm_R G a0 3) x1.toNatClampNeg x2))))
noncomputable def fX3_text_b0 (G : mm_G) (a0 : Nat) (x1 : Int32) (x2 : Int32) (σ : mm_M) : Option ((Int32 × mm_M) ⊕ (Int32 × mm_M)) := (fX3_isText G x1 σ).bind (fun q1 => if q1.1 = 0 then (some (.inl ((-1 : Int32), q1.2))) else (if (60 : Int32) < x2 then (some (.inl ((-1 : Int32), q1.2))) else (if x2 < 0 then ((fX3_found G a0 (5 : Int32) q1.2).bind (fun q21 => some (.inl (q21.1, q21.2)))) else (some (.inr ((0 : Int32), q1.2))))))
noncomputable def fX3_text_s (G : mm_G) (a0 : Nat) (x1 : Int32) (x2 : Int32) : (Int32 × mm_M) → Option ((Int32 × mm_M) ⊕ (Int32 × mm_M)) := (fun s => fX3_text_b27 G a0 x1 x2 s.1 s.2)
def PX3_text (E : mm_E) (G : mm_G) (a0 : Nat) (x1 : Int32) (x2 : Int32) (q : (Int32 × mm_M)) : (Int32 × mm_M) → Prop := (fun s => mm_At E G 4 (mm_Qi E G q) s.2 27 [(0, .ref a0), (1, .int x1), (2, .int x2), (3, .int s.1)] [])
noncomputable def fX3_text (G : mm_G) (a0 : Nat) (x1 : Int32) (x2 : Int32) (σ : mm_M) : Option (Int32 × mm_M) := mm_run (fX3_text_b0 G a0 x1 x2 σ) (fX3_text_s G a0 x1 x2)
set_option maxHeartbeats 4000000 in
set_option maxRecDepth 100000 in
theorem wX3_text_b27 {E : mm_E} {G : mm_G} (X : mm_Cx E G cX3_text 4 RX3 wsX3_text rmX3_text (some .int)) {a0 : Nat} {x1 : Int32} {x2 : Int32} {x3 : Int32} {σ : mm_M} {q : (Int32 × mm_M)} (ha0 : mm_Is G 3 a0) {o : (Int32 × mm_M) ⊕ (Int32 × mm_M)} (h : fX3_text_b27 G a0 x1 x2 x3 σ = some o) (hk : mm_Ok q (PX3_text E G a0 x1 x2 q) o) : mm_At E G 4 (mm_Qi E G q) σ 27 [(0, .ref a0), (1, .int x1), (2, .int x2), (3, .int x3)] [] := by
  unfold fX3_text_b27 at h
  refine at_iload_n (pc := 27) X 3 3 dX3_text_27 rfl rfl ?_
  refine at_iload_n (pc := 28) X 2 2 dX3_text_28 rfl rfl ?_
  refine at_icmp_ge (pc := 29) X 48 dX3_text_29 (by decide) (fun c29 => ?_) (fun c29 => ?_)
  · have h := mm_neg c29 h
    refine at_aload_n (pc := 48) X 0 0 dX3_text_48 rfl rfl ?_
    refine at_get (pc := 49) X 3 3 (.ref (mm_R G a0 3)) ha0 (by decide) rfl inX3_text_X3 (by decide) lkX3_text_0 rfl dX3_text_49 ?_
    refine at_iload_n (pc := 52) X 1 1 dX3_text_52 rfl rfl ?_
    refine at_iload_n (pc := 53) X 2 2 dX3_text_53 rfl rfl ?_
    obtain ⟨hc54, h⟩ := mm_chk h
    refine at_iast (pc := 54) X (wf_3_3 X.wf ha0) hc54 dX3_text_54 ?_
    refine at_iload_n (pc := 55) X 2 2 dX3_text_55 rfl rfl ?_
    exact at_iret (pc := 56) X (mm_inl h hk) dX3_text_56
  · have h := mm_pos c29 h
    refine at_aload_n (pc := 32) X 0 0 dX3_text_32 rfl rfl ?_
    refine at_get (pc := 33) X 3 2 (.ref (mm_R G a0 2)) ha0 (by decide) rfl inX3_text_X3 (by decide) lkX3_text_1 rfl dX3_text_33 ?_
    refine at_iload_n (pc := 36) X 1 1 dX3_text_36 rfl rfl ?_
    obtain ⟨hc37, h⟩ := mm_chk h
    refine at_aald (pc := 37) X 9 4 (wf_3_2 X.wf ha0) (by decide) (by decide) rfl rfl hc37 dX3_text_37 ?_
    refine at_iload_n (pc := 38) X 3 3 dX3_text_38 rfl rfl ?_
    refine at_bipush (pc := 39) X (32 : Int32) dX3_text_39 ib_32 ?_
    obtain ⟨hc41, h⟩ := mm_chk h
    refine at_bast (pc := 41) X (wf_9 X.wf (wf_3_2 X.wf ha0) hc37) hc41 dX3_text_41 ?_
    refine at_iinc (pc := 42) X 3 3 (x3 + 1) [(3, .int (x3 + 1)), (0, .ref a0), (1, .int x1), (2, .int x2)] dX3_text_42 rfl (ii_1 _) (by decide) rfl ?_
    refine at_goto (pc := 45) X 27 dX3_text_45 (by decide) ?_
    have h2 := mm_inr h hk; exact at_sub [1, 2, 3, 0] rfl h2
set_option maxHeartbeats 4000000 in
set_option maxRecDepth 100000 in
theorem wX3_text_b0 {E : mm_E} {G : mm_G} (X : mm_Cx E G cX3_text 4 RX3 wsX3_text rmX3_text (some .int)) {a0 : Nat} {x1 : Int32} {x2 : Int32} {σ : mm_M} {q : (Int32 × mm_M)} (ha0 : mm_Is G 3 a0) {o : (Int32 × mm_M) ⊕ (Int32 × mm_M)} (h : fX3_text_b0 G a0 x1 x2 σ = some o) (hk : mm_Ok q (PX3_text E G a0 x1 x2 q) o) : mm_At E G 4 (mm_Qi E G q) σ 0 [(0, .ref a0), (1, .int x1), (2, .int x2)] [] := by
  unfold fX3_text_b0 at h
  refine at_iload_n (pc := 0) X 1 1 dX3_text_0 rfl rfl ?_
  obtain ⟨q1, hq1, h⟩ := mm_bind h
  refine at_scalli (n := 1) (pc := 1) X [.int x1] [] (mX3_isText (eL E) X.wf hq1) gX3_text_X3_isText rfl ⟨rfl, rfl⟩ (by decide +kernel) ⟨by decide, by decide⟩ rfl rfl (Nat.le_of_ble_eq_true rfl) dX3_text_1 ?_
  refine at_if_eq (pc := 4) X 13 dX3_text_4 (by decide) (fun c4 => ?_) (fun c4 => ?_)
  · have h := mm_pos c4 h
    refine at_iconst (pc := 13) X (-1 : Int32) dX3_text_13 ic_m1 ?_
    exact at_iret (pc := 14) X (mm_inl h hk) dX3_text_14
  · have h := mm_neg c4 h
    refine at_iload_n (pc := 7) X 2 2 dX3_text_7 rfl rfl ?_
    refine at_bipush (pc := 8) X (60 : Int32) dX3_text_8 ib_60 ?_
    refine at_icmp_le (pc := 10) X 15 dX3_text_10 (by decide) (fun c10 => ?_) (fun c10 => ?_)
    · have h := mm_neg c10 h
      refine at_iload_n (pc := 15) X 2 2 dX3_text_15 rfl rfl ?_
      refine at_if_ge (pc := 16) X 25 dX3_text_16 (by decide) (fun c16 => ?_) (fun c16 => ?_)
      · have h := mm_neg c16 h
        refine at_iconst (pc := 25) X (0 : Int32) dX3_text_25 ic_0 ?_
        refine at_istore_n (pc := 26) X 3 [(3, .int (0 : Int32)), (0, .ref a0), (1, .int x1), (2, .int x2)] dX3_text_26 rfl (by decide) rfl ?_
        have h2 := mm_inr h hk; exact at_sub [1, 2, 3, 0] rfl h2
      · have h := mm_pos c16 h
        refine at_aload_n (pc := 19) X 0 0 dX3_text_19 rfl rfl ?_
        refine at_iconst (pc := 20) X (5 : Int32) dX3_text_20 ic_5 ?_
        obtain ⟨q21, hq21, h⟩ := mm_bind h
        refine at_calli (n := 1) (pc := 21) X 3 [.int (5 : Int32)] [] (mX3_found (eL E) X.wf ha0 hq21) gX3_text_X3_found rfl ⟨rfl, rfl⟩ (by decide +kernel) ⟨by decide, by decide⟩ (by decide) rfl ha0 rfl rfl (Nat.le_of_ble_eq_true rfl) dX3_text_21 ?_
        exact at_iret (pc := 24) X (mm_inl h hk) dX3_text_24
    · have h := mm_pos c10 h
      refine at_iconst (pc := 13) X (-1 : Int32) dX3_text_13 ic_m1 ?_
      exact at_iret (pc := 14) X (mm_inl h hk) dX3_text_14
set_option maxHeartbeats 4000000 in
set_option maxRecDepth 100000 in
theorem mX3_text (l : Launch) {G : mm_G} (hwf : mm_WF G) {a0 : Nat} {x1 : Int32} {x2 : Int32} {σ : mm_M} {q : (Int32 × mm_M)} (ha0 : mm_Is G 3 a0) (h : fX3_text G a0 x1 x2 σ = some q) : mm_Mi l yX3_text wsX3_text rmX3_text G [.ref a0, .int x1, .int x2] σ q := by
  refine mm_ofi (cc := cX3_text) (nL := 4) (ret := some .int) (own := RX3) (lv0 := [(0, .ref a0), (1, .int x1), (2, .int x2)]) (by decide) rfl rfl (Nat.le_of_ble_eq_true rfl) rfl hwf (fun E hE X => ?_)
  obtain ⟨o, h0, hk⟩ := mm_run_ok (P := PX3_text E G a0 x1 x2 q) h (fun s o hs hk => by exact wX3_text_b27 X ha0 hs hk)
  exact wX3_text_b0 X ha0 h0 hk
set_option maxRecDepth 20000 in
theorem ggX3_put_X3_isText : GoodIn wsX3_put wsX3_isText := goodIn_r _ [6] (by decide +kernel) (by decide +kernel)
set_option maxRecDepth 20000 in
theorem gX3_put_X3_isText : GoodIn wsX3_put (va_wsS RX3 101 yX3_isText wsX3_isText) := goodIn_app (goodIn_of _ (by decide +kernel)) ggX3_put_X3_isText
set_option maxRecDepth 20000 in
theorem ggX3_put_X3_found : GoodIn wsX3_put wsX3_found := goodIn_r _ [10, 11, 12, 13, 14, 15, 16, 17, 18, 19, 20, 21, 22, 23, 24, 25, 26, 27, 28, 29] (by decide +kernel) (by decide +kernel)
set_option maxRecDepth 20000 in
theorem gX3_put_X3_found : GoodIn wsX3_put (wsV RX3 83 RX3 yX3_found wsX3_found) := goodIn_app (goodIn_of _ (by decide +kernel)) ggX3_put_X3_found
theorem dX3_put_0 : decode cX3_put 0 = .ok (.iload_n 1, 1) := by decide +kernel
theorem dX3_put_1 : decode cX3_put 1 = .ok (.invokestatic 101, 3) := by decide +kernel
theorem dX3_put_4 : decode cX3_put 4 = .ok (.ifCond .ne 5, 3) := by decide +kernel
theorem dX3_put_7 : decode cX3_put 7 = .ok (.iconst (-1), 1) := by decide +kernel
theorem dX3_put_8 : decode cX3_put 8 = .ok (.ireturn, 1) := by decide +kernel
theorem dX3_put_9 : decode cX3_put 9 = .ok (.aload_n 0, 1) := by decide +kernel
theorem dX3_put_10 : decode cX3_put 10 = .ok (.getfield 23, 3) := by decide +kernel
theorem dX3_put_13 : decode cX3_put 13 = .ok (.iload_n 1, 1) := by decide +kernel
theorem dX3_put_14 : decode cX3_put 14 = .ok (.iaload, 1) := by decide +kernel
theorem dX3_put_15 : decode cX3_put 15 = .ok (.iconst (-1), 1) := by decide +kernel
theorem dX3_put_16 : decode cX3_put 16 = .ok (.if_icmp .ne 9, 3) := by decide +kernel
theorem dX3_put_19 : decode cX3_put 19 = .ok (.aload_n 0, 1) := by decide +kernel
theorem dX3_put_20 : decode cX3_put 20 = .ok (.iconst 1, 1) := by decide +kernel
theorem dX3_put_21 : decode cX3_put 21 = .ok (.invokevirtual 83, 3) := by decide +kernel
theorem dX3_put_24 : decode cX3_put 24 = .ok (.ireturn, 1) := by decide +kernel
theorem dX3_put_25 : decode cX3_put 25 = .ok (.iload_n 2, 1) := by decide +kernel
theorem dX3_put_26 : decode cX3_put 26 = .ok (.ifCond .lt 13, 3) := by decide +kernel
theorem dX3_put_29 : decode cX3_put 29 = .ok (.iload_n 2, 1) := by decide +kernel
theorem dX3_put_30 : decode cX3_put 30 = .ok (.aload_n 0, 1) := by decide +kernel
theorem dX3_put_31 : decode cX3_put 31 = .ok (.getfield 23, 3) := by decide +kernel
theorem dX3_put_34 : decode cX3_put 34 = .ok (.iload_n 1, 1) := by decide +kernel
theorem dX3_put_35 : decode cX3_put 35 = .ok (.iaload, 1) := by decide +kernel
theorem dX3_put_36 : decode cX3_put 36 = .ok (.if_icmp .lt 9, 3) := by decide +kernel
theorem dX3_put_39 : decode cX3_put 39 = .ok (.aload_n 0, 1) := by decide +kernel
theorem dX3_put_40 : decode cX3_put 40 = .ok (.iconst 2, 1) := by decide +kernel
theorem dX3_put_41 : decode cX3_put 41 = .ok (.invokevirtual 83, 3) := by decide +kernel
theorem dX3_put_44 : decode cX3_put 44 = .ok (.ireturn, 1) := by decide +kernel
theorem dX3_put_45 : decode cX3_put 45 = .ok (.aload_n 0, 1) := by decide +kernel
theorem dX3_put_46 : decode cX3_put 46 = .ok (.getfield 20, 3) := by decide +kernel
theorem dX3_put_49 : decode cX3_put 49 = .ok (.iload_n 1, 1) := by decide +kernel
theorem dX3_put_50 : decode cX3_put 50 = .ok (.aaload, 1) := by decide +kernel
theorem dX3_put_51 : decode cX3_put 51 = .ok (.iload_n 2, 1) := by decide +kernel
theorem dX3_put_52 : decode cX3_put 52 = .ok (.baload, 1) := by decide +kernel
theorem dX3_put_53 : decode cX3_put 53 = .ok (.istore 4, 2) := by decide +kernel
theorem dX3_put_55 : decode cX3_put 55 = .ok (.aload_n 0, 1) := by decide +kernel
theorem dX3_put_56 : decode cX3_put 56 = .ok (.getfield 20, 3) := by decide +kernel
theorem dX3_put_59 : decode cX3_put 59 = .ok (.iload_n 1, 1) := by decide +kernel
theorem dX3_put_60 : decode cX3_put 60 = .ok (.aaload, 1) := by decide +kernel
theorem dX3_put_61 : decode cX3_put 61 = .ok (.iload_n 2, 1) := by decide +kernel
theorem dX3_put_62 : decode cX3_put 62 = .ok (.iload_n 3, 1) := by decide +kernel
theorem dX3_put_63 : decode cX3_put 63 = .ok (.i2b, 1) := by decide +kernel
theorem dX3_put_64 : decode cX3_put 64 = .ok (.bastore, 1) := by decide +kernel
theorem dX3_put_65 : decode cX3_put 65 = .ok (.iload 4, 2) := by decide +kernel
theorem dX3_put_67 : decode cX3_put 67 = .ok (.sipush 1000, 3) := by decide +kernel
theorem dX3_put_70 : decode cX3_put 70 = .ok (.iadd, 1) := by decide +kernel
theorem dX3_put_71 : decode cX3_put 71 = .ok (.ireturn, 1) := by decide +kernel
/-! X3_put (III)I -/
abbrev rmX3_put : Room := { frames := 1, cells := 0, slots := 0, locals := 21 }
theorem lkX3_put_0 : Cond.fieldLink RX3 23 (TX3 3).1 (TX3 3).2.1 (TX3 3).2.2.1 ∈ wsX3_put := by decide +kernel
theorem lkX3_put_1 : Cond.fieldLink RX3 20 (TX3 2).1 (TX3 2).2.1 (TX3 2).2.2.1 ∈ wsX3_put := by decide +kernel
theorem inX3_put_X3 : ∀ w ∈ u_ws RX3 TX3 17, w ∈ wsX3_put := by decide +kernel
noncomputable def fX3_put_b39 (G : mm_G) (a0 : Nat) (x1 : Int32) (x2 : Int32) (x3 : Int32) (σ : mm_M) : Option (Int32 × mm_M) := (fX3_found G a0 (2 : Int32) σ).bind (fun q41 => some (q41.1, q41.2))
noncomputable def fX3_put (G : mm_G) (a0 : Nat) (x1 : Int32) (x2 : Int32) (x3 : Int32) (σ : mm_M) : Option (Int32 × mm_M) := (fX3_isText G x1 σ).bind (fun q1 => if q1.1 = 0 then (some ((-1 : Int32), q1.2)) else (if x1 < 0 ∨ mm_N G (mm_R G a0 3) ≤ x1.toNatClampNeg then none else (if (q1.2.1 (mm_R G a0 3) x1.toNatClampNeg) = (-1 : Int32) then ((fX3_found G a0 (1 : Int32) q1.2).bind (fun q21 => some (q21.1, q21.2))) else (if x2 < 0 then (fX3_put_b39 G a0 x1 x2 x3 q1.2) else (if x1 < 0 ∨ mm_N G (mm_R G a0 3) ≤ x1.toNatClampNeg then none else (if x2 < (q1.2.1 (mm_R G a0 3) x1.toNatClampNeg) then (if x1 < 0 ∨ mm_N G (mm_R G a0 2) ≤ x1.toNatClampNeg then none else (if x2 < 0 ∨ mm_N G (mm_R G (mm_R G a0 2) x1.toNatClampNeg) ≤ x2.toNatClampNeg then none else (if x1 < 0 ∨ mm_N G (mm_R G a0 2) ≤ x1.toNatClampNeg then none else (if x2 < 0 ∨ mm_N G (mm_R G (mm_R G a0 2) x1.toNatClampNeg) ≤ x2.toNatClampNeg then none else (some ((q1.2.1 (mm_R G (mm_R G a0 2) x1.toNatClampNeg) x2.toNatClampNeg) + (1000 : Int32), mm_up q1.2 (mm_R G (mm_R G a0 2) x1.toNatClampNeg) x2.toNatClampNeg (vp_nar .byte x3.toInt8.toInt32))))))) else (fX3_put_b39 G a0 x1 x2 x3 q1.2)))))))
set_option maxHeartbeats 4000000 in
set_option maxRecDepth 100000 in
theorem wX3_put_b39 {E : mm_E} {G : mm_G} (X : mm_Cx E G cX3_put 5 RX3 wsX3_put rmX3_put (some .int)) {a0 : Nat} {x1 : Int32} {x2 : Int32} {x3 : Int32} {σ : mm_M} {q : (Int32 × mm_M)} (ha0 : mm_Is G 3 a0) (h : fX3_put_b39 G a0 x1 x2 x3 σ = some q) : mm_At E G 5 (mm_Qi E G q) σ 39 [(0, .ref a0)] [] := by
  unfold fX3_put_b39 at h
  refine at_aload_n (pc := 39) X 0 0 dX3_put_39 rfl rfl ?_
  refine at_iconst (pc := 40) X (2 : Int32) dX3_put_40 ic_2 ?_
  obtain ⟨q41, hq41, h⟩ := mm_bind h
  refine at_calli (n := 1) (pc := 41) X 3 [.int (2 : Int32)] [] (mX3_found (eL E) X.wf ha0 hq41) gX3_put_X3_found rfl ⟨rfl, rfl⟩ (by decide +kernel) ⟨by decide, by decide⟩ (by decide) rfl ha0 rfl rfl (Nat.le_of_ble_eq_true rfl) dX3_put_41 ?_
  exact at_iret (pc := 44) X (Option.some.inj h) dX3_put_44
set_option maxHeartbeats 4000000 in
set_option maxRecDepth 100000 in
theorem wX3_put_b0 {E : mm_E} {G : mm_G} (X : mm_Cx E G cX3_put 5 RX3 wsX3_put rmX3_put (some .int)) {a0 : Nat} {x1 : Int32} {x2 : Int32} {x3 : Int32} {σ : mm_M} {q : (Int32 × mm_M)} (ha0 : mm_Is G 3 a0) (h : fX3_put G a0 x1 x2 x3 σ = some q) : mm_At E G 5 (mm_Qi E G q) σ 0 [(0, .ref a0), (1, .int x1), (2, .int x2), (3, .int x3)] [] := by
  unfold fX3_put at h
  refine at_iload_n (pc := 0) X 1 1 dX3_put_0 rfl rfl ?_
  obtain ⟨q1, hq1, h⟩ := mm_bind h
  refine at_scalli (n := 1) (pc := 1) X [.int x1] [] (mX3_isText (eL E) X.wf hq1) gX3_put_X3_isText rfl ⟨rfl, rfl⟩ (by decide +kernel) ⟨by decide, by decide⟩ rfl rfl (Nat.le_of_ble_eq_true rfl) dX3_put_1 ?_
  refine at_if_ne (pc := 4) X 9 dX3_put_4 (by decide) (fun c4 => ?_) (fun c4 => ?_)
  · have h := mm_neg c4 h
    refine at_aload_n (pc := 9) X 0 0 dX3_put_9 rfl rfl ?_
    refine at_get (pc := 10) X 3 3 (.ref (mm_R G a0 3)) ha0 (by decide) rfl inX3_put_X3 (by decide) lkX3_put_0 rfl dX3_put_10 ?_
    refine at_iload_n (pc := 13) X 1 1 dX3_put_13 rfl rfl ?_
    obtain ⟨hc14, h⟩ := mm_chk h
    refine at_iald (pc := 14) X (wf_3_3 X.wf ha0) hc14 dX3_put_14 ?_
    refine at_iconst (pc := 15) X (-1 : Int32) dX3_put_15 ic_m1 ?_
    refine at_icmp_ne (pc := 16) X 25 dX3_put_16 (by decide) (fun c16 => ?_) (fun c16 => ?_)
    · have h := mm_neg c16 h
      refine at_iload_n (pc := 25) X 2 2 dX3_put_25 rfl rfl ?_
      refine at_if_lt (pc := 26) X 39 dX3_put_26 (by decide) (fun c26 => ?_) (fun c26 => ?_)
      · have h := mm_pos c26 h
        exact at_sub [0] rfl (wX3_put_b39 X ha0 h)
      · have h := mm_neg c26 h
        refine at_iload_n (pc := 29) X 2 2 dX3_put_29 rfl rfl ?_
        refine at_aload_n (pc := 30) X 0 0 dX3_put_30 rfl rfl ?_
        refine at_get (pc := 31) X 3 3 (.ref (mm_R G a0 3)) ha0 (by decide) rfl inX3_put_X3 (by decide) lkX3_put_0 rfl dX3_put_31 ?_
        refine at_iload_n (pc := 34) X 1 1 dX3_put_34 rfl rfl ?_
        obtain ⟨hc35, h⟩ := mm_chk h
        refine at_iald (pc := 35) X (wf_3_3 X.wf ha0) hc35 dX3_put_35 ?_
        refine at_icmp_lt (pc := 36) X 45 dX3_put_36 (by decide) (fun c36 => ?_) (fun c36 => ?_)
        · have h := mm_pos c36 h
          refine at_aload_n (pc := 45) X 0 0 dX3_put_45 rfl rfl ?_
          refine at_get (pc := 46) X 3 2 (.ref (mm_R G a0 2)) ha0 (by decide) rfl inX3_put_X3 (by decide) lkX3_put_1 rfl dX3_put_46 ?_
          refine at_iload_n (pc := 49) X 1 1 dX3_put_49 rfl rfl ?_
          obtain ⟨hc50, h⟩ := mm_chk h
          refine at_aald (pc := 50) X 9 4 (wf_3_2 X.wf ha0) (by decide) (by decide) rfl rfl hc50 dX3_put_50 ?_
          refine at_iload_n (pc := 51) X 2 2 dX3_put_51 rfl rfl ?_
          obtain ⟨hc52, h⟩ := mm_chk h
          refine at_bald (pc := 52) X (wf_9 X.wf (wf_3_2 X.wf ha0) hc50) hc52 dX3_put_52 ?_
          refine at_istore (pc := 53) X 4 [(4, .int (q1.2.1 (mm_R G (mm_R G a0 2) x1.toNatClampNeg) x2.toNatClampNeg)), (0, .ref a0), (1, .int x1), (2, .int x2), (3, .int x3)] dX3_put_53 (by decide) rfl ?_
          refine at_aload_n (pc := 55) X 0 1 dX3_put_55 rfl rfl ?_
          refine at_get (pc := 56) X 3 2 (.ref (mm_R G a0 2)) ha0 (by decide) rfl inX3_put_X3 (by decide) lkX3_put_1 rfl dX3_put_56 ?_
          refine at_iload_n (pc := 59) X 1 2 dX3_put_59 rfl rfl ?_
          obtain ⟨hc60, h⟩ := mm_chk h
          refine at_aald (pc := 60) X 9 4 (wf_3_2 X.wf ha0) (by decide) (by decide) rfl rfl hc60 dX3_put_60 ?_
          refine at_iload_n (pc := 61) X 2 3 dX3_put_61 rfl rfl ?_
          refine at_iload_n (pc := 62) X 3 4 dX3_put_62 rfl rfl ?_
          refine at_i2b (pc := 63) X dX3_put_63 ?_
          obtain ⟨hc64, h⟩ := mm_chk h
          refine at_bast (pc := 64) X (wf_9 X.wf (wf_3_2 X.wf ha0) hc60) hc64 dX3_put_64 ?_
          refine at_iload (pc := 65) X 4 0 dX3_put_65 rfl ?_
          refine at_sipush (pc := 67) X (1000 : Int32) dX3_put_67 is_1000 ?_
          refine at_iadd (pc := 70) X dX3_put_70 ?_
          exact at_iret (pc := 71) X (Option.some.inj h) dX3_put_71
        · have h := mm_neg c36 h
          exact at_sub [0] rfl (wX3_put_b39 X ha0 h)
    · have h := mm_pos c16 h
      refine at_aload_n (pc := 19) X 0 0 dX3_put_19 rfl rfl ?_
      refine at_iconst (pc := 20) X (1 : Int32) dX3_put_20 ic_1 ?_
      obtain ⟨q21, hq21, h⟩ := mm_bind h
      refine at_calli (n := 1) (pc := 21) X 3 [.int (1 : Int32)] [] (mX3_found (eL E) X.wf ha0 hq21) gX3_put_X3_found rfl ⟨rfl, rfl⟩ (by decide +kernel) ⟨by decide, by decide⟩ (by decide) rfl ha0 rfl rfl (Nat.le_of_ble_eq_true rfl) dX3_put_21 ?_
      exact at_iret (pc := 24) X (Option.some.inj h) dX3_put_24
  · have h := mm_pos c4 h
    refine at_iconst (pc := 7) X (-1 : Int32) dX3_put_7 ic_m1 ?_
    exact at_iret (pc := 8) X (Option.some.inj h) dX3_put_8
set_option maxHeartbeats 4000000 in
set_option maxRecDepth 100000 in
theorem mX3_put (l : Launch) {G : mm_G} (hwf : mm_WF G) {a0 : Nat} {x1 : Int32} {x2 : Int32} {x3 : Int32} {σ : mm_M} {q : (Int32 × mm_M)} (ha0 : mm_Is G 3 a0) (h : fX3_put G a0 x1 x2 x3 σ = some q) : mm_Mi l yX3_put wsX3_put rmX3_put G [.ref a0, .int x1, .int x2, .int x3] σ q := by
  refine mm_ofi (cc := cX3_put) (nL := 5) (ret := some .int) (own := RX3) (lv0 := [(0, .ref a0), (1, .int x1), (2, .int x2), (3, .int x3)]) (by decide) rfl rfl (Nat.le_of_ble_eq_true rfl) rfl hwf (fun E hE X => ?_)
  exact wX3_put_b0 X ha0 h
set_option maxRecDepth 20000 in
theorem ggX3_fault_X3_isText : GoodIn wsX3_fault wsX3_isText := goodIn_r _ [7] (by decide +kernel) (by decide +kernel)
set_option maxRecDepth 20000 in
theorem gX3_fault_X3_isText : GoodIn wsX3_fault (va_wsS RX3 101 yX3_isText wsX3_isText) := goodIn_app (goodIn_of _ (by decide +kernel)) ggX3_fault_X3_isText
set_option maxRecDepth 20000 in
theorem ggX3_fault_X3_found : GoodIn wsX3_fault wsX3_found := goodIn_r _ [11, 12, 13, 43, 44, 45, 46, 47, 48, 49, 50, 51, 52, 53, 54, 55, 56, 57, 58, 59] (by decide +kernel) (by decide +kernel)
set_option maxRecDepth 20000 in
theorem gX3_fault_X3_found : GoodIn wsX3_fault (wsV RX3 83 RX3 yX3_found wsX3_found) := goodIn_app (goodIn_of _ (by decide +kernel)) ggX3_fault_X3_found
set_option maxRecDepth 20000 in
theorem ggX3_fault_X0_read : GoodIn wsX3_fault wsX0_read := goodIn_r _ [18, 19, 20, 21, 22, 23, 24, 25, 26, 17, 27, 28, 29, 30, 31, 32, 33, 34, 35, 36, 37, 38, 39, 40, 41, 42, 60, 61, 62, 63, 64, 65, 66, 67, 68, 69, 70, 71] (by decide +kernel) (by decide +kernel)
set_option maxRecDepth 20000 in
theorem gX3_fault_X0_read : GoodIn wsX3_fault (wsV RX3 104 RX0 yX0_read wsX0_read) := goodIn_app (goodIn_of _ (by decide +kernel)) ggX3_fault_X0_read
theorem dX3_fault_0 : decode cX3_fault 0 = .ok (.iload_n 1, 1) := by decide +kernel
theorem dX3_fault_1 : decode cX3_fault 1 = .ok (.invokestatic 101, 3) := by decide +kernel
theorem dX3_fault_4 : decode cX3_fault 4 = .ok (.ifCond .ne 5, 3) := by decide +kernel
theorem dX3_fault_7 : decode cX3_fault 7 = .ok (.iconst (-1), 1) := by decide +kernel
theorem dX3_fault_8 : decode cX3_fault 8 = .ok (.ireturn, 1) := by decide +kernel
theorem dX3_fault_9 : decode cX3_fault 9 = .ok (.aload_n 0, 1) := by decide +kernel
theorem dX3_fault_10 : decode cX3_fault 10 = .ok (.getfield 23, 3) := by decide +kernel
theorem dX3_fault_13 : decode cX3_fault 13 = .ok (.iload_n 1, 1) := by decide +kernel
theorem dX3_fault_14 : decode cX3_fault 14 = .ok (.iaload, 1) := by decide +kernel
theorem dX3_fault_15 : decode cX3_fault 15 = .ok (.iconst (-1), 1) := by decide +kernel
theorem dX3_fault_16 : decode cX3_fault 16 = .ok (.if_icmp .ne 9, 3) := by decide +kernel
theorem dX3_fault_19 : decode cX3_fault 19 = .ok (.aload_n 0, 1) := by decide +kernel
theorem dX3_fault_20 : decode cX3_fault 20 = .ok (.iconst 1, 1) := by decide +kernel
theorem dX3_fault_21 : decode cX3_fault 21 = .ok (.invokevirtual 83, 3) := by decide +kernel
theorem dX3_fault_24 : decode cX3_fault 24 = .ok (.ireturn, 1) := by decide +kernel
theorem dX3_fault_25 : decode cX3_fault 25 = .ok (.aload_n 0, 1) := by decide +kernel
theorem dX3_fault_26 : decode cX3_fault 26 = .ok (.getfield 47, 3) := by decide +kernel
theorem dX3_fault_29 : decode cX3_fault 29 = .ok (.aload_n 0, 1) := by decide +kernel
theorem dX3_fault_30 : decode cX3_fault 30 = .ok (.getfield 20, 3) := by decide +kernel
theorem dX3_fault_33 : decode cX3_fault 33 = .ok (.iload_n 1, 1) := by decide +kernel
theorem dX3_fault_34 : decode cX3_fault 34 = .ok (.aaload, 1) := by decide +kernel
theorem dX3_fault_35 : decode cX3_fault 35 = .ok (.aload_n 0, 1) := by decide +kernel
theorem dX3_fault_36 : decode cX3_fault 36 = .ok (.getfield 23, 3) := by decide +kernel
theorem dX3_fault_39 : decode cX3_fault 39 = .ok (.iload_n 1, 1) := by decide +kernel
theorem dX3_fault_40 : decode cX3_fault 40 = .ok (.iaload, 1) := by decide +kernel
theorem dX3_fault_41 : decode cX3_fault 41 = .ok (.invokevirtual 104, 3) := by decide +kernel
theorem dX3_fault_44 : decode cX3_fault 44 = .ok (.ireturn, 1) := by decide +kernel
/-! X3_fault (I)I -/
abbrev rmX3_fault : Room := { frames := 3, cells := 0, slots := 0, locals := 71 }
theorem lkX3_fault_0 : Cond.fieldLink RX3 23 (TX3 3).1 (TX3 3).2.1 (TX3 3).2.2.1 ∈ wsX3_fault := by decide +kernel
theorem lkX3_fault_1 : Cond.fieldLink RX3 47 (TX3 8).1 (TX3 8).2.1 (TX3 8).2.2.1 ∈ wsX3_fault := by decide +kernel
theorem lkX3_fault_2 : Cond.fieldLink RX3 20 (TX3 2).1 (TX3 2).2.1 (TX3 2).2.2.1 ∈ wsX3_fault := by decide +kernel
theorem inX3_fault_X3 : ∀ w ∈ u_ws RX3 TX3 17, w ∈ wsX3_fault := by decide +kernel
noncomputable def fX3_fault (G : mm_G) (a0 : Nat) (x1 : Int32) (σ : mm_M) : Option (Int32 × mm_M) := (fX3_isText G x1 σ).bind (fun q1 => if q1.1 = 0 then (some ((-1 : Int32), q1.2)) else (if x1 < 0 ∨ mm_N G (mm_R G a0 3) ≤ x1.toNatClampNeg then none else (if (q1.2.1 (mm_R G a0 3) x1.toNatClampNeg) = (-1 : Int32) then ((fX3_found G a0 (1 : Int32) q1.2).bind (fun q21 => some (q21.1, q21.2))) else (if x1 < 0 ∨ mm_N G (mm_R G a0 2) ≤ x1.toNatClampNeg then none else (if x1 < 0 ∨ mm_N G (mm_R G a0 3) ≤ x1.toNatClampNeg then none else ((fX0_read G (mm_R G a0 8) (mm_R G (mm_R G a0 2) x1.toNatClampNeg) (q1.2.1 (mm_R G a0 3) x1.toNatClampNeg) q1.2).bind (fun q41 => some (q41.1, q41.2))))))))
set_option maxHeartbeats 4000000 in
set_option maxRecDepth 100000 in
theorem wX3_fault_b0 {E : mm_E} {G : mm_G} (X : mm_Cx E G cX3_fault 2 RX3 wsX3_fault rmX3_fault (some .int)) {a0 : Nat} {x1 : Int32} {σ : mm_M} {q : (Int32 × mm_M)} (ha0 : mm_Is G 3 a0) (h : fX3_fault G a0 x1 σ = some q) : mm_At E G 2 (mm_Qi E G q) σ 0 [(0, .ref a0), (1, .int x1)] [] := by
  unfold fX3_fault at h
  refine at_iload_n (pc := 0) X 1 1 dX3_fault_0 rfl rfl ?_
  obtain ⟨q1, hq1, h⟩ := mm_bind h
  refine at_scalli (n := 1) (pc := 1) X [.int x1] [] (mX3_isText (eL E) X.wf hq1) gX3_fault_X3_isText rfl ⟨rfl, rfl⟩ (by decide +kernel) ⟨by decide, by decide⟩ rfl rfl (Nat.le_of_ble_eq_true rfl) dX3_fault_1 ?_
  refine at_if_ne (pc := 4) X 9 dX3_fault_4 (by decide) (fun c4 => ?_) (fun c4 => ?_)
  · have h := mm_neg c4 h
    refine at_aload_n (pc := 9) X 0 0 dX3_fault_9 rfl rfl ?_
    refine at_get (pc := 10) X 3 3 (.ref (mm_R G a0 3)) ha0 (by decide) rfl inX3_fault_X3 (by decide) lkX3_fault_0 rfl dX3_fault_10 ?_
    refine at_iload_n (pc := 13) X 1 1 dX3_fault_13 rfl rfl ?_
    obtain ⟨hc14, h⟩ := mm_chk h
    refine at_iald (pc := 14) X (wf_3_3 X.wf ha0) hc14 dX3_fault_14 ?_
    refine at_iconst (pc := 15) X (-1 : Int32) dX3_fault_15 ic_m1 ?_
    refine at_icmp_ne (pc := 16) X 25 dX3_fault_16 (by decide) (fun c16 => ?_) (fun c16 => ?_)
    · have h := mm_neg c16 h
      refine at_aload_n (pc := 25) X 0 0 dX3_fault_25 rfl rfl ?_
      refine at_get (pc := 26) X 3 8 (.ref (mm_R G a0 8)) ha0 (by decide) rfl inX3_fault_X3 (by decide) lkX3_fault_1 rfl dX3_fault_26 ?_
      refine at_aload_n (pc := 29) X 0 0 dX3_fault_29 rfl rfl ?_
      refine at_get (pc := 30) X 3 2 (.ref (mm_R G a0 2)) ha0 (by decide) rfl inX3_fault_X3 (by decide) lkX3_fault_2 rfl dX3_fault_30 ?_
      refine at_iload_n (pc := 33) X 1 1 dX3_fault_33 rfl rfl ?_
      obtain ⟨hc34, h⟩ := mm_chk h
      refine at_aald (pc := 34) X 9 4 (wf_3_2 X.wf ha0) (by decide) (by decide) rfl rfl hc34 dX3_fault_34 ?_
      refine at_aload_n (pc := 35) X 0 0 dX3_fault_35 rfl rfl ?_
      refine at_get (pc := 36) X 3 3 (.ref (mm_R G a0 3)) ha0 (by decide) rfl inX3_fault_X3 (by decide) lkX3_fault_0 rfl dX3_fault_36 ?_
      refine at_iload_n (pc := 39) X 1 1 dX3_fault_39 rfl rfl ?_
      obtain ⟨hc40, h⟩ := mm_chk h
      refine at_iald (pc := 40) X (wf_3_3 X.wf ha0) hc40 dX3_fault_40 ?_
      obtain ⟨q41, hq41, h⟩ := mm_bind h
      refine at_calli (n := 2) (pc := 41) X 0 [.ref (mm_R G (mm_R G a0 2) x1.toNatClampNeg), .int (q1.2.1 (mm_R G a0 3) x1.toNatClampNeg)] [] (mX0_read (eL E) X.wf (wf_3_8 X.wf ha0) (wf_9 X.wf (wf_3_2 X.wf ha0) hc34) hq41) gX3_fault_X0_read rfl ⟨rfl, rfl⟩ (by decide +kernel) ⟨by decide, by decide⟩ (by decide) rfl (wf_3_8 X.wf ha0) rfl rfl (Nat.le_of_ble_eq_true rfl) dX3_fault_41 ?_
      exact at_iret (pc := 44) X (Option.some.inj h) dX3_fault_44
    · have h := mm_pos c16 h
      refine at_aload_n (pc := 19) X 0 0 dX3_fault_19 rfl rfl ?_
      refine at_iconst (pc := 20) X (1 : Int32) dX3_fault_20 ic_1 ?_
      obtain ⟨q21, hq21, h⟩ := mm_bind h
      refine at_calli (n := 1) (pc := 21) X 3 [.int (1 : Int32)] [] (mX3_found (eL E) X.wf ha0 hq21) gX3_fault_X3_found rfl ⟨rfl, rfl⟩ (by decide +kernel) ⟨by decide, by decide⟩ (by decide) rfl ha0 rfl rfl (Nat.le_of_ble_eq_true rfl) dX3_fault_21 ?_
      exact at_iret (pc := 24) X (Option.some.inj h) dX3_fault_24
  · have h := mm_pos c4 h
    refine at_iconst (pc := 7) X (-1 : Int32) dX3_fault_7 ic_m1 ?_
    exact at_iret (pc := 8) X (Option.some.inj h) dX3_fault_8
set_option maxHeartbeats 4000000 in
set_option maxRecDepth 100000 in
theorem mX3_fault (l : Launch) {G : mm_G} (hwf : mm_WF G) {a0 : Nat} {x1 : Int32} {σ : mm_M} {q : (Int32 × mm_M)} (ha0 : mm_Is G 3 a0) (h : fX3_fault G a0 x1 σ = some q) : mm_Mi l yX3_fault wsX3_fault rmX3_fault G [.ref a0, .int x1] σ q := by
  refine mm_ofi (cc := cX3_fault) (nL := 2) (ret := some .int) (own := RX3) (lv0 := [(0, .ref a0), (1, .int x1)]) (by decide) rfl rfl (Nat.le_of_ble_eq_true rfl) rfl hwf (fun E hE X => ?_)
  exact wX3_fault_b0 X ha0 h
set_option maxRecDepth 20000 in
theorem ggX3_air_X3_isText : GoodIn wsX3_air wsX3_isText := goodIn_r _ [13] (by decide +kernel) (by decide +kernel)
set_option maxRecDepth 20000 in
theorem gX3_air_X3_isText : GoodIn wsX3_air (va_wsS RX3 101 yX3_isText wsX3_isText) := goodIn_app (goodIn_of _ (by decide +kernel)) ggX3_air_X3_isText
set_option maxRecDepth 20000 in
theorem ggX3_air_X3_found : GoodIn wsX3_air wsX3_found := goodIn_r _ [17, 18, 19, 61, 62, 63, 64, 65, 66, 67, 68, 69, 70, 71, 72, 73, 74, 75, 76, 77] (by decide +kernel) (by decide +kernel)
set_option maxRecDepth 20000 in
theorem gX3_air_X3_found : GoodIn wsX3_air (wsV RX3 83 RX3 yX3_found wsX3_found) := goodIn_app (goodIn_of _ (by decide +kernel)) ggX3_air_X3_found
set_option maxRecDepth 20000 in
theorem ggX3_air_X0_read : GoodIn wsX3_air wsX0_read := goodIn_r _ [24, 25, 26, 27, 28, 29, 30, 31, 32, 23, 33, 34, 35, 36, 37, 38, 39, 40, 41, 42, 43, 44, 45, 46, 47, 48, 80, 81, 82, 83, 84, 85, 86, 87, 88, 89, 90, 91] (by decide +kernel) (by decide +kernel)
set_option maxRecDepth 20000 in
theorem gX3_air_X0_read : GoodIn wsX3_air (wsV RX3 104 RX0 yX0_read wsX0_read) := goodIn_app (goodIn_of _ (by decide +kernel)) ggX3_air_X0_read
set_option maxRecDepth 20000 in
theorem ggX3_air_X0_become : GoodIn wsX3_air wsX0_become := goodIn_r _ [52, 25, 26, 27, 28, 29, 34, 53, 54, 55, 45, 56, 57, 58, 59, 60, 48, 47, 80, 81, 82, 83, 84, 85, 86, 87, 88, 89, 90, 91] (by decide +kernel) (by decide +kernel)
set_option maxRecDepth 20000 in
theorem gX3_air_X0_become : GoodIn wsX3_air (wsV RX3 108 RX0 yX0_become wsX0_become) := goodIn_app (goodIn_of _ (by decide +kernel)) ggX3_air_X0_become
theorem dX3_air_0 : decode cX3_air 0 = .ok (.iload_n 1, 1) := by decide +kernel
theorem dX3_air_1 : decode cX3_air 1 = .ok (.invokestatic 101, 3) := by decide +kernel
theorem dX3_air_4 : decode cX3_air 4 = .ok (.ifCond .ne 5, 3) := by decide +kernel
theorem dX3_air_7 : decode cX3_air 7 = .ok (.iconst (-1), 1) := by decide +kernel
theorem dX3_air_8 : decode cX3_air 8 = .ok (.ireturn, 1) := by decide +kernel
theorem dX3_air_9 : decode cX3_air 9 = .ok (.aload_n 0, 1) := by decide +kernel
theorem dX3_air_10 : decode cX3_air 10 = .ok (.getfield 23, 3) := by decide +kernel
theorem dX3_air_13 : decode cX3_air 13 = .ok (.iload_n 1, 1) := by decide +kernel
theorem dX3_air_14 : decode cX3_air 14 = .ok (.iaload, 1) := by decide +kernel
theorem dX3_air_15 : decode cX3_air 15 = .ok (.iconst (-1), 1) := by decide +kernel
theorem dX3_air_16 : decode cX3_air 16 = .ok (.if_icmp .ne 9, 3) := by decide +kernel
theorem dX3_air_19 : decode cX3_air 19 = .ok (.aload_n 0, 1) := by decide +kernel
theorem dX3_air_20 : decode cX3_air 20 = .ok (.iconst 1, 1) := by decide +kernel
theorem dX3_air_21 : decode cX3_air 21 = .ok (.invokevirtual 83, 3) := by decide +kernel
theorem dX3_air_24 : decode cX3_air 24 = .ok (.ireturn, 1) := by decide +kernel
theorem dX3_air_25 : decode cX3_air 25 = .ok (.aload_n 0, 1) := by decide +kernel
theorem dX3_air_26 : decode cX3_air 26 = .ok (.getfield 47, 3) := by decide +kernel
theorem dX3_air_29 : decode cX3_air 29 = .ok (.aload_n 0, 1) := by decide +kernel
theorem dX3_air_30 : decode cX3_air 30 = .ok (.getfield 20, 3) := by decide +kernel
theorem dX3_air_33 : decode cX3_air 33 = .ok (.iload_n 1, 1) := by decide +kernel
theorem dX3_air_34 : decode cX3_air 34 = .ok (.aaload, 1) := by decide +kernel
theorem dX3_air_35 : decode cX3_air 35 = .ok (.aload_n 0, 1) := by decide +kernel
theorem dX3_air_36 : decode cX3_air 36 = .ok (.getfield 23, 3) := by decide +kernel
theorem dX3_air_39 : decode cX3_air 39 = .ok (.iload_n 1, 1) := by decide +kernel
theorem dX3_air_40 : decode cX3_air 40 = .ok (.iaload, 1) := by decide +kernel
theorem dX3_air_41 : decode cX3_air 41 = .ok (.invokevirtual 104, 3) := by decide +kernel
theorem dX3_air_44 : decode cX3_air 44 = .ok (.bipush (-9), 2) := by decide +kernel
theorem dX3_air_46 : decode cX3_air 46 = .ok (.if_icmp .eq 6, 3) := by decide +kernel
theorem dX3_air_49 : decode cX3_air 49 = .ok (.bipush (-4), 2) := by decide +kernel
theorem dX3_air_51 : decode cX3_air 51 = .ok (.ireturn, 1) := by decide +kernel
theorem dX3_air_52 : decode cX3_air 52 = .ok (.aload_n 0, 1) := by decide +kernel
theorem dX3_air_53 : decode cX3_air 53 = .ok (.getfield 29, 3) := by decide +kernel
theorem dX3_air_56 : decode cX3_air 56 = .ok (.aload_n 0, 1) := by decide +kernel
theorem dX3_air_57 : decode cX3_air 57 = .ok (.getfield 47, 3) := by decide +kernel
theorem dX3_air_60 : decode cX3_air 60 = .ok (.invokevirtual 108, 3) := by decide +kernel
theorem dX3_air_63 : decode cX3_air 63 = .ok (.aload_n 0, 1) := by decide +kernel
theorem dX3_air_64 : decode cX3_air 64 = .ok (.getfield 33, 3) := by decide +kernel
theorem dX3_air_67 : decode cX3_air 67 = .ok (.aload_n 0, 1) := by decide +kernel
theorem dX3_air_68 : decode cX3_air 68 = .ok (.getfield 47, 3) := by decide +kernel
theorem dX3_air_71 : decode cX3_air 71 = .ok (.invokevirtual 108, 3) := by decide +kernel
theorem dX3_air_74 : decode cX3_air 74 = .ok (.aload_n 0, 1) := by decide +kernel
theorem dX3_air_75 : decode cX3_air 75 = .ok (.getfield 39, 3) := by decide +kernel
theorem dX3_air_78 : decode cX3_air 78 = .ok (.iconst 0, 1) := by decide +kernel
theorem dX3_air_79 : decode cX3_air 79 = .ok (.putfield 76, 3) := by decide +kernel
theorem dX3_air_82 : decode cX3_air 82 = .ok (.iconst 0, 1) := by decide +kernel
theorem dX3_air_83 : decode cX3_air 83 = .ok (.istore_n 2, 1) := by decide +kernel
theorem dX3_air_84 : decode cX3_air 84 = .ok (.iload_n 2, 1) := by decide +kernel
theorem dX3_air_85 : decode cX3_air 85 = .ok (.iconst 3, 1) := by decide +kernel
theorem dX3_air_86 : decode cX3_air 86 = .ok (.if_icmp .ge 19, 3) := by decide +kernel
theorem dX3_air_89 : decode cX3_air 89 = .ok (.aload_n 0, 1) := by decide +kernel
theorem dX3_air_90 : decode cX3_air 90 = .ok (.getfield 43, 3) := by decide +kernel
theorem dX3_air_93 : decode cX3_air 93 = .ok (.iload_n 2, 1) := by decide +kernel
theorem dX3_air_94 : decode cX3_air 94 = .ok (.aaload, 1) := by decide +kernel
theorem dX3_air_95 : decode cX3_air 95 = .ok (.iconst (-1), 1) := by decide +kernel
theorem dX3_air_96 : decode cX3_air 96 = .ok (.putfield 76, 3) := by decide +kernel
theorem dX3_air_99 : decode cX3_air 99 = .ok (.iinc 2 1, 3) := by decide +kernel
theorem dX3_air_102 : decode cX3_air 102 = .ok (.goto (-18), 3) := by decide +kernel
theorem dX3_air_105 : decode cX3_air 105 = .ok (.aload_n 0, 1) := by decide +kernel
theorem dX3_air_106 : decode cX3_air 106 = .ok (.getfield 33, 3) := by decide +kernel
theorem dX3_air_109 : decode cX3_air 109 = .ok (.getfield 112, 3) := by decide +kernel
theorem dX3_air_112 : decode cX3_air 112 = .ok (.ireturn, 1) := by decide +kernel
/-! X3_air (I)I -/
abbrev rmX3_air : Room := { frames := 3, cells := 0, slots := 0, locals := 71 }
theorem lkX3_air_0 : Cond.fieldLink RX3 23 (TX3 3).1 (TX3 3).2.1 (TX3 3).2.2.1 ∈ wsX3_air := by decide +kernel
theorem lkX3_air_1 : Cond.fieldLink RX3 47 (TX3 8).1 (TX3 8).2.1 (TX3 8).2.2.1 ∈ wsX3_air := by decide +kernel
theorem lkX3_air_2 : Cond.fieldLink RX3 20 (TX3 2).1 (TX3 2).2.1 (TX3 2).2.2.1 ∈ wsX3_air := by decide +kernel
theorem lkX3_air_3 : Cond.fieldLink RX3 29 (TX3 4).1 (TX3 4).2.1 (TX3 4).2.2.1 ∈ wsX3_air := by decide +kernel
theorem lkX3_air_4 : Cond.fieldLink RX3 33 (TX3 5).1 (TX3 5).2.1 (TX3 5).2.2.1 ∈ wsX3_air := by decide +kernel
theorem lkX3_air_5 : Cond.fieldLink RX3 39 (TX3 6).1 (TX3 6).2.1 (TX3 6).2.2.1 ∈ wsX3_air := by decide +kernel
theorem lkX3_air_6 : Cond.fieldLink RX3 76 (TX1 1).1 (TX1 1).2.1 (TX1 1).2.2.1 ∈ wsX3_air := by decide +kernel
theorem lkX3_air_7 : Cond.fieldLink RX3 112 (TX0 1).1 (TX0 1).2.1 (TX0 1).2.2.1 ∈ wsX3_air := by decide +kernel
theorem lkX3_air_8 : Cond.fieldLink RX3 43 (TX3 7).1 (TX3 7).2.1 (TX3 7).2.2.1 ∈ wsX3_air := by decide +kernel
theorem inX3_air_X3 : ∀ w ∈ u_ws RX3 TX3 17, w ∈ wsX3_air := by decide +kernel
theorem inX3_air_X1 : ∀ w ∈ u_ws RX1 TX1 2, w ∈ wsX3_air := by decide +kernel
theorem inX3_air_X0 : ∀ w ∈ u_ws RX0 TX0 6, w ∈ wsX3_air := by decide +kernel
noncomputable def fX3_air_b84 (G : mm_G) (a0 : Nat) (x1 : Int32) (x2 : Int32) (σ : mm_M) : Option ((Int32 × mm_M) ⊕ (Int32 × mm_M)) := if x2 < (3 : Int32) then (if x2 < 0 ∨ mm_N G (mm_R G a0 7) ≤ x2.toNatClampNeg then none else (some (.inr (x2 + 1, mm_up σ (mm_R G (mm_R G a0 7) x2.toNatClampNeg) 1 (-1 : Int32))))) else (some (.inl (σ.1 (mm_R G a0 5) 1, σ)))
noncomputable def fX3_air_b0 (G : mm_G) (a0 : Nat) (x1 : Int32) (σ : mm_M) : Option ((Int32 × mm_M) ⊕ (Int32 × mm_M)) := (fX3_isText G x1 σ).bind (fun q1 => if q1.1 = 0 then (some (.inl ((-1 : Int32), q1.2))) else (if x1 < 0 ∨ mm_N G (mm_R G a0 3) ≤ x1.toNatClampNeg then none else (if (q1.2.1 (mm_R G a0 3) x1.toNatClampNeg) = (-1 : Int32) then ((fX3_found G a0 (1 : Int32) q1.2).bind (fun q21 => some (.inl (q21.1, q21.2)))) else (if x1 < 0 ∨ mm_N G (mm_R G a0 2) ≤ x1.toNatClampNeg then none else (if x1 < 0 ∨ mm_N G (mm_R G a0 3) ≤ x1.toNatClampNeg then none else ((fX0_read G (mm_R G a0 8) (mm_R G (mm_R G a0 2) x1.toNatClampNeg) (q1.2.1 (mm_R G a0 3) x1.toNatClampNeg) q1.2).bind (fun q41 => if q41.1 = (-9 : Int32) then ((fX0_become G (mm_R G a0 4) (mm_R G a0 8) q41.2).bind (fun q60 => (fX0_become G (mm_R G a0 5) (mm_R G a0 8) q60).bind (fun q71 => some (.inr ((0 : Int32), mm_up q71 (mm_R G a0 6) 1 (0 : Int32)))))) else (some (.inl ((-4 : Int32), q41.2))))))))))
noncomputable def fX3_air_s (G : mm_G) (a0 : Nat) (x1 : Int32) : (Int32 × mm_M) → Option ((Int32 × mm_M) ⊕ (Int32 × mm_M)) := (fun s => fX3_air_b84 G a0 x1 s.1 s.2)
def PX3_air (E : mm_E) (G : mm_G) (a0 : Nat) (x1 : Int32) (q : (Int32 × mm_M)) : (Int32 × mm_M) → Prop := (fun s => mm_At E G 3 (mm_Qi E G q) s.2 84 [(0, .ref a0), (2, .int s.1)] [])
noncomputable def fX3_air (G : mm_G) (a0 : Nat) (x1 : Int32) (σ : mm_M) : Option (Int32 × mm_M) := mm_run (fX3_air_b0 G a0 x1 σ) (fX3_air_s G a0 x1)
set_option maxHeartbeats 4000000 in
set_option maxRecDepth 100000 in
theorem wX3_air_b84 {E : mm_E} {G : mm_G} (X : mm_Cx E G cX3_air 3 RX3 wsX3_air rmX3_air (some .int)) {a0 : Nat} {x1 : Int32} {x2 : Int32} {σ : mm_M} {q : (Int32 × mm_M)} (ha0 : mm_Is G 3 a0) {o : (Int32 × mm_M) ⊕ (Int32 × mm_M)} (h : fX3_air_b84 G a0 x1 x2 σ = some o) (hk : mm_Ok q (PX3_air E G a0 x1 q) o) : mm_At E G 3 (mm_Qi E G q) σ 84 [(0, .ref a0), (2, .int x2)] [] := by
  unfold fX3_air_b84 at h
  refine at_iload_n (pc := 84) X 2 1 dX3_air_84 rfl rfl ?_
  refine at_iconst (pc := 85) X (3 : Int32) dX3_air_85 ic_3 ?_
  refine at_icmp_ge (pc := 86) X 105 dX3_air_86 (by decide) (fun c86 => ?_) (fun c86 => ?_)
  · have h := mm_neg c86 h
    refine at_aload_n (pc := 105) X 0 0 dX3_air_105 rfl rfl ?_
    refine at_get (pc := 106) X 3 5 (.ref (mm_R G a0 5)) ha0 (by decide) rfl inX3_air_X3 (by decide) lkX3_air_4 rfl dX3_air_106 ?_
    refine at_get (pc := 109) X 0 1 (.int (σ.1 (mm_R G a0 5) 1)) (wf_3_5 X.wf ha0) (by decide) rfl inX3_air_X0 (by decide) lkX3_air_7 rfl dX3_air_109 ?_
    exact at_iret (pc := 112) X (mm_inl h hk) dX3_air_112
  · have h := mm_pos c86 h
    refine at_aload_n (pc := 89) X 0 0 dX3_air_89 rfl rfl ?_
    refine at_get (pc := 90) X 3 7 (.ref (mm_R G a0 7)) ha0 (by decide) rfl inX3_air_X3 (by decide) lkX3_air_8 rfl dX3_air_90 ?_
    refine at_iload_n (pc := 93) X 2 1 dX3_air_93 rfl rfl ?_
    obtain ⟨hc94, h⟩ := mm_chk h
    refine at_aald (pc := 94) X 7 2 (wf_3_7 X.wf ha0) (by decide) (by decide) rfl rfl hc94 dX3_air_94 ?_
    refine at_iconst (pc := 95) X (-1 : Int32) dX3_air_95 ic_m1 ?_
    refine at_put (pc := 96) X 1 1 (wf_7 X.wf (wf_3_7 X.wf ha0) hc94) (by decide) rfl inX3_air_X1 tyX1 tyX1_ok nmX1 (by decide) lkX3_air_6 rfl (ty := .int) rfl rfl rfl (Nat.le_of_ble_eq_true rfl) (ms_1_1 G _ _ _) mm_up_ne dX3_air_96 ?_
    refine at_iinc (pc := 99) X 2 1 (x2 + 1) [(2, .int (x2 + 1)), (0, .ref a0)] dX3_air_99 rfl (ii_1 _) (by decide) rfl ?_
    refine at_goto (pc := 102) X 84 dX3_air_102 (by decide) ?_
    have h2 := mm_inr h hk; exact at_sub [1, 0] rfl h2
set_option maxHeartbeats 4000000 in
set_option maxRecDepth 100000 in
theorem wX3_air_b0 {E : mm_E} {G : mm_G} (X : mm_Cx E G cX3_air 3 RX3 wsX3_air rmX3_air (some .int)) {a0 : Nat} {x1 : Int32} {σ : mm_M} {q : (Int32 × mm_M)} (ha0 : mm_Is G 3 a0) {o : (Int32 × mm_M) ⊕ (Int32 × mm_M)} (h : fX3_air_b0 G a0 x1 σ = some o) (hk : mm_Ok q (PX3_air E G a0 x1 q) o) : mm_At E G 3 (mm_Qi E G q) σ 0 [(0, .ref a0), (1, .int x1)] [] := by
  unfold fX3_air_b0 at h
  refine at_iload_n (pc := 0) X 1 1 dX3_air_0 rfl rfl ?_
  obtain ⟨q1, hq1, h⟩ := mm_bind h
  refine at_scalli (n := 1) (pc := 1) X [.int x1] [] (mX3_isText (eL E) X.wf hq1) gX3_air_X3_isText rfl ⟨rfl, rfl⟩ (by decide +kernel) ⟨by decide, by decide⟩ rfl rfl (Nat.le_of_ble_eq_true rfl) dX3_air_1 ?_
  refine at_if_ne (pc := 4) X 9 dX3_air_4 (by decide) (fun c4 => ?_) (fun c4 => ?_)
  · have h := mm_neg c4 h
    refine at_aload_n (pc := 9) X 0 0 dX3_air_9 rfl rfl ?_
    refine at_get (pc := 10) X 3 3 (.ref (mm_R G a0 3)) ha0 (by decide) rfl inX3_air_X3 (by decide) lkX3_air_0 rfl dX3_air_10 ?_
    refine at_iload_n (pc := 13) X 1 1 dX3_air_13 rfl rfl ?_
    obtain ⟨hc14, h⟩ := mm_chk h
    refine at_iald (pc := 14) X (wf_3_3 X.wf ha0) hc14 dX3_air_14 ?_
    refine at_iconst (pc := 15) X (-1 : Int32) dX3_air_15 ic_m1 ?_
    refine at_icmp_ne (pc := 16) X 25 dX3_air_16 (by decide) (fun c16 => ?_) (fun c16 => ?_)
    · have h := mm_neg c16 h
      refine at_aload_n (pc := 25) X 0 0 dX3_air_25 rfl rfl ?_
      refine at_get (pc := 26) X 3 8 (.ref (mm_R G a0 8)) ha0 (by decide) rfl inX3_air_X3 (by decide) lkX3_air_1 rfl dX3_air_26 ?_
      refine at_aload_n (pc := 29) X 0 0 dX3_air_29 rfl rfl ?_
      refine at_get (pc := 30) X 3 2 (.ref (mm_R G a0 2)) ha0 (by decide) rfl inX3_air_X3 (by decide) lkX3_air_2 rfl dX3_air_30 ?_
      refine at_iload_n (pc := 33) X 1 1 dX3_air_33 rfl rfl ?_
      obtain ⟨hc34, h⟩ := mm_chk h
      refine at_aald (pc := 34) X 9 4 (wf_3_2 X.wf ha0) (by decide) (by decide) rfl rfl hc34 dX3_air_34 ?_
      refine at_aload_n (pc := 35) X 0 0 dX3_air_35 rfl rfl ?_
      refine at_get (pc := 36) X 3 3 (.ref (mm_R G a0 3)) ha0 (by decide) rfl inX3_air_X3 (by decide) lkX3_air_0 rfl dX3_air_36 ?_
      refine at_iload_n (pc := 39) X 1 1 dX3_air_39 rfl rfl ?_
      obtain ⟨hc40, h⟩ := mm_chk h
      refine at_iald (pc := 40) X (wf_3_3 X.wf ha0) hc40 dX3_air_40 ?_
      obtain ⟨q41, hq41, h⟩ := mm_bind h
      refine at_calli (n := 2) (pc := 41) X 0 [.ref (mm_R G (mm_R G a0 2) x1.toNatClampNeg), .int (q1.2.1 (mm_R G a0 3) x1.toNatClampNeg)] [] (mX0_read (eL E) X.wf (wf_3_8 X.wf ha0) (wf_9 X.wf (wf_3_2 X.wf ha0) hc34) hq41) gX3_air_X0_read rfl ⟨rfl, rfl⟩ (by decide +kernel) ⟨by decide, by decide⟩ (by decide) rfl (wf_3_8 X.wf ha0) rfl rfl (Nat.le_of_ble_eq_true rfl) dX3_air_41 ?_
      refine at_bipush (pc := 44) X (-9 : Int32) dX3_air_44 ib_m9 ?_
      refine at_icmp_eq (pc := 46) X 52 dX3_air_46 (by decide) (fun c46 => ?_) (fun c46 => ?_)
      · have h := mm_pos c46 h
        refine at_aload_n (pc := 52) X 0 0 dX3_air_52 rfl rfl ?_
        refine at_get (pc := 53) X 3 4 (.ref (mm_R G a0 4)) ha0 (by decide) rfl inX3_air_X3 (by decide) lkX3_air_3 rfl dX3_air_53 ?_
        refine at_aload_n (pc := 56) X 0 0 dX3_air_56 rfl rfl ?_
        refine at_get (pc := 57) X 3 8 (.ref (mm_R G a0 8)) ha0 (by decide) rfl inX3_air_X3 (by decide) lkX3_air_1 rfl dX3_air_57 ?_
        obtain ⟨q60, hq60, h⟩ := mm_bind h
        refine at_callv (n := 1) (pc := 60) X 0 [.ref (mm_R G a0 8)] [] (mX0_become (eL E) X.wf (wf_3_4 X.wf ha0) (wf_3_8 X.wf ha0) hq60) gX3_air_X0_become rfl ⟨rfl, rfl⟩ (by decide +kernel) ⟨by decide, by decide⟩ (by decide) rfl (wf_3_4 X.wf ha0) rfl rfl (Nat.le_of_ble_eq_true rfl) dX3_air_60 ?_
        refine at_aload_n (pc := 63) X 0 0 dX3_air_63 rfl rfl ?_
        refine at_get (pc := 64) X 3 5 (.ref (mm_R G a0 5)) ha0 (by decide) rfl inX3_air_X3 (by decide) lkX3_air_4 rfl dX3_air_64 ?_
        refine at_aload_n (pc := 67) X 0 0 dX3_air_67 rfl rfl ?_
        refine at_get (pc := 68) X 3 8 (.ref (mm_R G a0 8)) ha0 (by decide) rfl inX3_air_X3 (by decide) lkX3_air_1 rfl dX3_air_68 ?_
        obtain ⟨q71, hq71, h⟩ := mm_bind h
        refine at_callv (n := 1) (pc := 71) X 0 [.ref (mm_R G a0 8)] [] (mX0_become (eL E) X.wf (wf_3_5 X.wf ha0) (wf_3_8 X.wf ha0) hq71) gX3_air_X0_become rfl ⟨rfl, rfl⟩ (by decide +kernel) ⟨by decide, by decide⟩ (by decide) rfl (wf_3_5 X.wf ha0) rfl rfl (Nat.le_of_ble_eq_true rfl) dX3_air_71 ?_
        refine at_aload_n (pc := 74) X 0 0 dX3_air_74 rfl rfl ?_
        refine at_get (pc := 75) X 3 6 (.ref (mm_R G a0 6)) ha0 (by decide) rfl inX3_air_X3 (by decide) lkX3_air_5 rfl dX3_air_75 ?_
        refine at_iconst (pc := 78) X (0 : Int32) dX3_air_78 ic_0 ?_
        refine at_put (pc := 79) X 1 1 (wf_3_6 X.wf ha0) (by decide) rfl inX3_air_X1 tyX1 tyX1_ok nmX1 (by decide) lkX3_air_6 rfl (ty := .int) rfl rfl rfl (Nat.le_of_ble_eq_true rfl) (ms_1_1 G _ _ _) mm_up_ne dX3_air_79 ?_
        refine at_iconst (pc := 82) X (0 : Int32) dX3_air_82 ic_0 ?_
        refine at_istore_n (pc := 83) X 2 [(2, .int (0 : Int32)), (0, .ref a0), (1, .int x1)] dX3_air_83 rfl (by decide) rfl ?_
        have h2 := mm_inr h hk; exact at_sub [1, 0] rfl h2
      · have h := mm_neg c46 h
        refine at_bipush (pc := 49) X (-4 : Int32) dX3_air_49 ib_m4 ?_
        exact at_iret (pc := 51) X (mm_inl h hk) dX3_air_51
    · have h := mm_pos c16 h
      refine at_aload_n (pc := 19) X 0 0 dX3_air_19 rfl rfl ?_
      refine at_iconst (pc := 20) X (1 : Int32) dX3_air_20 ic_1 ?_
      obtain ⟨q21, hq21, h⟩ := mm_bind h
      refine at_calli (n := 1) (pc := 21) X 3 [.int (1 : Int32)] [] (mX3_found (eL E) X.wf ha0 hq21) gX3_air_X3_found rfl ⟨rfl, rfl⟩ (by decide +kernel) ⟨by decide, by decide⟩ (by decide) rfl ha0 rfl rfl (Nat.le_of_ble_eq_true rfl) dX3_air_21 ?_
      exact at_iret (pc := 24) X (mm_inl h hk) dX3_air_24
  · have h := mm_pos c4 h
    refine at_iconst (pc := 7) X (-1 : Int32) dX3_air_7 ic_m1 ?_
    exact at_iret (pc := 8) X (mm_inl h hk) dX3_air_8
set_option maxHeartbeats 4000000 in
set_option maxRecDepth 100000 in
theorem mX3_air (l : Launch) {G : mm_G} (hwf : mm_WF G) {a0 : Nat} {x1 : Int32} {σ : mm_M} {q : (Int32 × mm_M)} (ha0 : mm_Is G 3 a0) (h : fX3_air G a0 x1 σ = some q) : mm_Mi l yX3_air wsX3_air rmX3_air G [.ref a0, .int x1] σ q := by
  refine mm_ofi (cc := cX3_air) (nL := 3) (ret := some .int) (own := RX3) (lv0 := [(0, .ref a0), (1, .int x1)]) (by decide) rfl rfl (Nat.le_of_ble_eq_true rfl) rfl hwf (fun E hE X => ?_)
  obtain ⟨o, h0, hk⟩ := mm_run_ok (P := PX3_air E G a0 x1 q) h (fun s o hs hk => by exact wX3_air_b84 X ha0 hs hk)
  exact wX3_air_b0 X ha0 h0 hk
set_option maxRecDepth 20000 in
theorem ggX3_station_X0_has : GoodIn wsX3_station wsX0_has := goodIn_r _ [9, 10, 47, 48, 49, 50, 51, 52] (by decide +kernel) (by decide +kernel)
set_option maxRecDepth 20000 in
theorem gX3_station_X0_has : GoodIn wsX3_station (wsV RX3 113 RX0 yX0_has wsX0_has) := goodIn_app (goodIn_of _ (by decide +kernel)) ggX3_station_X0_has
set_option maxRecDepth 20000 in
theorem ggX3_station_X2_told : GoodIn wsX3_station wsX2_told := goodIn_r _ [15, 16, 17, 18, 19, 20, 21, 22, 23, 24, 14, 25, 26, 27, 28, 29, 53, 54, 55, 56, 57, 58] (by decide +kernel) (by decide +kernel)
set_option maxRecDepth 20000 in
theorem gX3_station_X2_told : GoodIn wsX3_station (wsV RX3 124 RX2 yX2_told wsX2_told) := goodIn_app (goodIn_of _ (by decide +kernel)) ggX3_station_X2_told
theorem dX3_station_0 : decode cX3_station 0 = .ok (.aload_n 0, 1) := by decide +kernel
theorem dX3_station_1 : decode cX3_station 1 = .ok (.getfield 33, 3) := by decide +kernel
theorem dX3_station_4 : decode cX3_station 4 = .ok (.iload_n 1, 1) := by decide +kernel
theorem dX3_station_5 : decode cX3_station 5 = .ok (.invokevirtual 113, 3) := by decide +kernel
theorem dX3_station_8 : decode cX3_station 8 = .ok (.ifCond .eq 13, 3) := by decide +kernel
theorem dX3_station_11 : decode cX3_station 11 = .ok (.iload_n 2, 1) := by decide +kernel
theorem dX3_station_12 : decode cX3_station 12 = .ok (.ifCond .lt 9, 3) := by decide +kernel
theorem dX3_station_15 : decode cX3_station 15 = .ok (.iload_n 2, 1) := by decide +kernel
theorem dX3_station_16 : decode cX3_station 16 = .ok (.bipush 7, 2) := by decide +kernel
theorem dX3_station_18 : decode cX3_station 18 = .ok (.if_icmp .lt 5, 3) := by decide +kernel
theorem dX3_station_21 : decode cX3_station 21 = .ok (.iconst (-1), 1) := by decide +kernel
theorem dX3_station_22 : decode cX3_station 22 = .ok (.ireturn, 1) := by decide +kernel
theorem dX3_station_23 : decode cX3_station 23 = .ok (.aload_n 0, 1) := by decide +kernel
theorem dX3_station_24 : decode cX3_station 24 = .ok (.aload_n 0, 1) := by decide +kernel
theorem dX3_station_25 : decode cX3_station 25 = .ok (.getfield 33, 3) := by decide +kernel
theorem dX3_station_28 : decode cX3_station 28 = .ok (.getfield 116, 3) := by decide +kernel
theorem dX3_station_31 : decode cX3_station 31 = .ok (.iload_n 1, 1) := by decide +kernel
theorem dX3_station_32 : decode cX3_station 32 = .ok (.aaload, 1) := by decide +kernel
theorem dX3_station_33 : decode cX3_station 33 = .ok (.iload_n 2, 1) := by decide +kernel
theorem dX3_station_34 : decode cX3_station 34 = .ok (.aload_n 0, 1) := by decide +kernel
theorem dX3_station_35 : decode cX3_station 35 = .ok (.getfield 33, 3) := by decide +kernel
theorem dX3_station_38 : decode cX3_station 38 = .ok (.getfield 120, 3) := by decide +kernel
theorem dX3_station_41 : decode cX3_station 41 = .ok (.invokevirtual 124, 3) := by decide +kernel
theorem dX3_station_44 : decode cX3_station 44 = .ok (.putfield 59, 3) := by decide +kernel
theorem dX3_station_47 : decode cX3_station 47 = .ok (.iconst 1, 1) := by decide +kernel
theorem dX3_station_48 : decode cX3_station 48 = .ok (.ireturn, 1) := by decide +kernel
/-! X3_station (II)I -/
abbrev rmX3_station : Room := { frames := 3, cells := 0, slots := 0, locals := 64 }
theorem lkX3_station_0 : Cond.fieldLink RX3 33 (TX3 5).1 (TX3 5).2.1 (TX3 5).2.2.1 ∈ wsX3_station := by decide +kernel
theorem lkX3_station_1 : Cond.fieldLink RX3 116 (TX0 0).1 (TX0 0).2.1 (TX0 0).2.2.1 ∈ wsX3_station := by decide +kernel
theorem lkX3_station_2 : Cond.fieldLink RX3 120 (TX0 5).1 (TX0 5).2.1 (TX0 5).2.2.1 ∈ wsX3_station := by decide +kernel
theorem lkX3_station_3 : Cond.fieldLink RX3 59 (TX3 12).1 (TX3 12).2.1 (TX3 12).2.2.1 ∈ wsX3_station := by decide +kernel
theorem inX3_station_X3 : ∀ w ∈ u_ws RX3 TX3 17, w ∈ wsX3_station := by decide +kernel
theorem inX3_station_X0 : ∀ w ∈ u_ws RX0 TX0 6, w ∈ wsX3_station := by decide +kernel
noncomputable def fX3_station (G : mm_G) (a0 : Nat) (x1 : Int32) (x2 : Int32) (σ : mm_M) : Option (Int32 × mm_M) := (fX0_has G (mm_R G a0 5) x1 σ).bind (fun q5 => if q5.1 = 0 then (some ((-1 : Int32), q5.2)) else (if x2 < 0 then (some ((-1 : Int32), q5.2)) else (if x2 < (7 : Int32) then (if x1 < 0 ∨ mm_N G (mm_R G (mm_R G a0 5) 0) ≤ x1.toNatClampNeg then none else ((fX2_told G (mm_R G (mm_R G (mm_R G a0 5) 0) x1.toNatClampNeg) x2 (q5.2.1 (mm_R G a0 5) 5) q5.2).bind (fun q41 => some ((1 : Int32), mm_up q41.2 a0 12 q41.1)))) else (some ((-1 : Int32), q5.2)))))
set_option maxHeartbeats 4000000 in
set_option maxRecDepth 100000 in
theorem wX3_station_b0 {E : mm_E} {G : mm_G} (X : mm_Cx E G cX3_station 3 RX3 wsX3_station rmX3_station (some .int)) {a0 : Nat} {x1 : Int32} {x2 : Int32} {σ : mm_M} {q : (Int32 × mm_M)} (ha0 : mm_Is G 3 a0) (h : fX3_station G a0 x1 x2 σ = some q) : mm_At E G 3 (mm_Qi E G q) σ 0 [(0, .ref a0), (1, .int x1), (2, .int x2)] [] := by
  unfold fX3_station at h
  refine at_aload_n (pc := 0) X 0 0 dX3_station_0 rfl rfl ?_
  refine at_get (pc := 1) X 3 5 (.ref (mm_R G a0 5)) ha0 (by decide) rfl inX3_station_X3 (by decide) lkX3_station_0 rfl dX3_station_1 ?_
  refine at_iload_n (pc := 4) X 1 1 dX3_station_4 rfl rfl ?_
  obtain ⟨q5, hq5, h⟩ := mm_bind h
  refine at_calli (n := 1) (pc := 5) X 0 [.int x1] [] (mX0_has (eL E) X.wf (wf_3_5 X.wf ha0) hq5) gX3_station_X0_has rfl ⟨rfl, rfl⟩ (by decide +kernel) ⟨by decide, by decide⟩ (by decide) rfl (wf_3_5 X.wf ha0) rfl rfl (Nat.le_of_ble_eq_true rfl) dX3_station_5 ?_
  refine at_if_eq (pc := 8) X 21 dX3_station_8 (by decide) (fun c8 => ?_) (fun c8 => ?_)
  · have h := mm_pos c8 h
    refine at_iconst (pc := 21) X (-1 : Int32) dX3_station_21 ic_m1 ?_
    exact at_iret (pc := 22) X (Option.some.inj h) dX3_station_22
  · have h := mm_neg c8 h
    refine at_iload_n (pc := 11) X 2 2 dX3_station_11 rfl rfl ?_
    refine at_if_lt (pc := 12) X 21 dX3_station_12 (by decide) (fun c12 => ?_) (fun c12 => ?_)
    · have h := mm_pos c12 h
      refine at_iconst (pc := 21) X (-1 : Int32) dX3_station_21 ic_m1 ?_
      exact at_iret (pc := 22) X (Option.some.inj h) dX3_station_22
    · have h := mm_neg c12 h
      refine at_iload_n (pc := 15) X 2 2 dX3_station_15 rfl rfl ?_
      refine at_bipush (pc := 16) X (7 : Int32) dX3_station_16 ib_7 ?_
      refine at_icmp_lt (pc := 18) X 23 dX3_station_18 (by decide) (fun c18 => ?_) (fun c18 => ?_)
      · have h := mm_pos c18 h
        refine at_aload_n (pc := 23) X 0 0 dX3_station_23 rfl rfl ?_
        refine at_aload_n (pc := 24) X 0 0 dX3_station_24 rfl rfl ?_
        refine at_get (pc := 25) X 3 5 (.ref (mm_R G a0 5)) ha0 (by decide) rfl inX3_station_X3 (by decide) lkX3_station_0 rfl dX3_station_25 ?_
        refine at_get (pc := 28) X 0 0 (.ref (mm_R G (mm_R G a0 5) 0)) (wf_3_5 X.wf ha0) (by decide) rfl inX3_station_X0 (by decide) lkX3_station_1 rfl dX3_station_28 ?_
        refine at_iload_n (pc := 31) X 1 1 dX3_station_31 rfl rfl ?_
        obtain ⟨hc32, h⟩ := mm_chk h
        refine at_aald (pc := 32) X 8 3 (wf_0_0 X.wf (wf_3_5 X.wf ha0)) (by decide) (by decide) rfl rfl hc32 dX3_station_32 ?_
        refine at_iload_n (pc := 33) X 2 2 dX3_station_33 rfl rfl ?_
        refine at_aload_n (pc := 34) X 0 0 dX3_station_34 rfl rfl ?_
        refine at_get (pc := 35) X 3 5 (.ref (mm_R G a0 5)) ha0 (by decide) rfl inX3_station_X3 (by decide) lkX3_station_0 rfl dX3_station_35 ?_
        refine at_get (pc := 38) X 0 5 (.int (q5.2.1 (mm_R G a0 5) 5)) (wf_3_5 X.wf ha0) (by decide) rfl inX3_station_X0 (by decide) lkX3_station_2 rfl dX3_station_38 ?_
        obtain ⟨q41, hq41, h⟩ := mm_bind h
        refine at_calli (n := 2) (pc := 41) X 2 [.int x2, .int (q5.2.1 (mm_R G a0 5) 5)] [.ref a0] (mX2_told (eL E) X.wf (wf_8 X.wf (wf_0_0 X.wf (wf_3_5 X.wf ha0)) hc32) hq41) gX3_station_X2_told rfl ⟨rfl, rfl⟩ (by decide +kernel) ⟨by decide, by decide⟩ (by decide) rfl (wf_8 X.wf (wf_0_0 X.wf (wf_3_5 X.wf ha0)) hc32) rfl rfl (Nat.le_of_ble_eq_true rfl) dX3_station_41 ?_
        refine at_put (pc := 44) X 3 12 ha0 (by decide) rfl inX3_station_X3 tyX3 tyX3_ok nmX3 (by decide) lkX3_station_3 rfl (ty := .int) rfl rfl rfl (Nat.le_of_ble_eq_true rfl) (ms_3_12 G _ _ _) mm_up_ne dX3_station_44 ?_
        refine at_iconst (pc := 47) X (1 : Int32) dX3_station_47 ic_1 ?_
        exact at_iret (pc := 48) X (Option.some.inj h) dX3_station_48
      · have h := mm_neg c18 h
        refine at_iconst (pc := 21) X (-1 : Int32) dX3_station_21 ic_m1 ?_
        exact at_iret (pc := 22) X (Option.some.inj h) dX3_station_22
set_option maxHeartbeats 4000000 in
set_option maxRecDepth 100000 in
theorem mX3_station (l : Launch) {G : mm_G} (hwf : mm_WF G) {a0 : Nat} {x1 : Int32} {x2 : Int32} {σ : mm_M} {q : (Int32 × mm_M)} (ha0 : mm_Is G 3 a0) (h : fX3_station G a0 x1 x2 σ = some q) : mm_Mi l yX3_station wsX3_station rmX3_station G [.ref a0, .int x1, .int x2] σ q := by
  refine mm_ofi (cc := cX3_station) (nL := 3) (ret := some .int) (own := RX3) (lv0 := [(0, .ref a0), (1, .int x1), (2, .int x2)]) (by decide) rfl rfl (Nat.le_of_ble_eq_true rfl) rfl hwf (fun E hE X => ?_)
  exact wX3_station_b0 X ha0 h
set_option maxRecDepth 20000 in
theorem ggX3_mark_X0_has : GoodIn wsX3_mark wsX0_has := goodIn_r _ [9, 10, 74, 75, 76, 77, 78, 79] (by decide +kernel) (by decide +kernel)
set_option maxRecDepth 20000 in
theorem gX3_mark_X0_has : GoodIn wsX3_mark (wsV RX3 113 RX0 yX0_has wsX0_has) := goodIn_app (goodIn_of _ (by decide +kernel)) ggX3_mark_X0_has
set_option maxRecDepth 20000 in
theorem ggX3_mark_X2_isOf : GoodIn wsX3_mark wsX2_isOf := goodIn_r _ [15, 16, 80, 81, 82, 83, 84, 85] (by decide +kernel) (by decide +kernel)
set_option maxRecDepth 20000 in
theorem gX3_mark_X2_isOf : GoodIn wsX3_mark (wsV RX3 130 RX2 yX2_isOf wsX2_isOf) := goodIn_app (goodIn_of _ (by decide +kernel)) ggX3_mark_X2_isOf
set_option maxRecDepth 20000 in
theorem ggX3_mark_X3_found : GoodIn wsX3_mark wsX3_found := goodIn_r _ [21, 22, 23, 57, 58, 59, 60, 61, 62, 63, 64, 65, 66, 67, 68, 69, 70, 71, 72, 73] (by decide +kernel) (by decide +kernel)
set_option maxRecDepth 20000 in
theorem gX3_mark_X3_found : GoodIn wsX3_mark (wsV RX3 83 RX3 yX3_found wsX3_found) := goodIn_app (goodIn_of _ (by decide +kernel)) ggX3_mark_X3_found
set_option maxRecDepth 20000 in
theorem ggX3_mark_X2_tellsAs : GoodIn wsX3_mark wsX2_tellsAs := goodIn_r _ [27, 28, 29, 30, 31, 14, 32, 16, 33, 34, 35, 36, 37, 38, 39, 40, 41, 42, 43, 44, 45, 46, 47, 48, 49, 50, 51, 52, 53, 54, 55, 56, 12, 13, 15, 80, 81, 82, 83, 84, 85] (by decide +kernel) (by decide +kernel)
set_option maxRecDepth 20000 in
theorem gX3_mark_X2_tellsAs : GoodIn wsX3_mark (wsV RX3 136 RX2 yX2_tellsAs wsX2_tellsAs) := goodIn_app (goodIn_of _ (by decide +kernel)) ggX3_mark_X2_tellsAs
theorem dX3_mark_0 : decode cX3_mark 0 = .ok (.aload_n 0, 1) := by decide +kernel
theorem dX3_mark_1 : decode cX3_mark 1 = .ok (.getfield 33, 3) := by decide +kernel
theorem dX3_mark_4 : decode cX3_mark 4 = .ok (.iload_n 1, 1) := by decide +kernel
theorem dX3_mark_5 : decode cX3_mark 5 = .ok (.invokevirtual 113, 3) := by decide +kernel
theorem dX3_mark_8 : decode cX3_mark 8 = .ok (.ifCond .eq 13, 3) := by decide +kernel
theorem dX3_mark_11 : decode cX3_mark 11 = .ok (.iload_n 2, 1) := by decide +kernel
theorem dX3_mark_12 : decode cX3_mark 12 = .ok (.ifCond .le 9, 3) := by decide +kernel
theorem dX3_mark_15 : decode cX3_mark 15 = .ok (.iload_n 2, 1) := by decide +kernel
theorem dX3_mark_16 : decode cX3_mark 16 = .ok (.bipush 6, 2) := by decide +kernel
theorem dX3_mark_18 : decode cX3_mark 18 = .ok (.if_icmp .lt 5, 3) := by decide +kernel
theorem dX3_mark_21 : decode cX3_mark 21 = .ok (.iconst (-1), 1) := by decide +kernel
theorem dX3_mark_22 : decode cX3_mark 22 = .ok (.ireturn, 1) := by decide +kernel
theorem dX3_mark_23 : decode cX3_mark 23 = .ok (.aload_n 0, 1) := by decide +kernel
theorem dX3_mark_24 : decode cX3_mark 24 = .ok (.getfield 33, 3) := by decide +kernel
theorem dX3_mark_27 : decode cX3_mark 27 = .ok (.getfield 116, 3) := by decide +kernel
theorem dX3_mark_30 : decode cX3_mark 30 = .ok (.iload_n 1, 1) := by decide +kernel
theorem dX3_mark_31 : decode cX3_mark 31 = .ok (.aaload, 1) := by decide +kernel
theorem dX3_mark_32 : decode cX3_mark 32 = .ok (.astore_n 3, 1) := by decide +kernel
theorem dX3_mark_33 : decode cX3_mark 33 = .ok (.aload_n 3, 1) := by decide +kernel
theorem dX3_mark_34 : decode cX3_mark 34 = .ok (.iload_n 2, 1) := by decide +kernel
theorem dX3_mark_35 : decode cX3_mark 35 = .ok (.invokevirtual 130, 3) := by decide +kernel
theorem dX3_mark_38 : decode cX3_mark 38 = .ok (.ifCond .ne 9, 3) := by decide +kernel
theorem dX3_mark_41 : decode cX3_mark 41 = .ok (.aload_n 0, 1) := by decide +kernel
theorem dX3_mark_42 : decode cX3_mark 42 = .ok (.iconst 3, 1) := by decide +kernel
theorem dX3_mark_43 : decode cX3_mark 43 = .ok (.invokevirtual 83, 3) := by decide +kernel
theorem dX3_mark_46 : decode cX3_mark 46 = .ok (.ireturn, 1) := by decide +kernel
theorem dX3_mark_47 : decode cX3_mark 47 = .ok (.aload_n 3, 1) := by decide +kernel
theorem dX3_mark_48 : decode cX3_mark 48 = .ok (.iload_n 2, 1) := by decide +kernel
theorem dX3_mark_49 : decode cX3_mark 49 = .ok (.aload_n 0, 1) := by decide +kernel
theorem dX3_mark_50 : decode cX3_mark 50 = .ok (.getfield 33, 3) := by decide +kernel
theorem dX3_mark_53 : decode cX3_mark 53 = .ok (.getfield 133, 3) := by decide +kernel
theorem dX3_mark_56 : decode cX3_mark 56 = .ok (.aload_n 0, 1) := by decide +kernel
theorem dX3_mark_57 : decode cX3_mark 57 = .ok (.getfield 33, 3) := by decide +kernel
theorem dX3_mark_60 : decode cX3_mark 60 = .ok (.getfield 120, 3) := by decide +kernel
theorem dX3_mark_63 : decode cX3_mark 63 = .ok (.invokevirtual 136, 3) := by decide +kernel
theorem dX3_mark_66 : decode cX3_mark 66 = .ok (.ireturn, 1) := by decide +kernel
/-! X3_mark (II)I -/
abbrev rmX3_mark : Room := { frames := 4, cells := 0, slots := 0, locals := 84 }
theorem lkX3_mark_0 : Cond.fieldLink RX3 33 (TX3 5).1 (TX3 5).2.1 (TX3 5).2.2.1 ∈ wsX3_mark := by decide +kernel
theorem lkX3_mark_1 : Cond.fieldLink RX3 116 (TX0 0).1 (TX0 0).2.1 (TX0 0).2.2.1 ∈ wsX3_mark := by decide +kernel
theorem lkX3_mark_2 : Cond.fieldLink RX3 133 (TX0 2).1 (TX0 2).2.1 (TX0 2).2.2.1 ∈ wsX3_mark := by decide +kernel
theorem lkX3_mark_3 : Cond.fieldLink RX3 120 (TX0 5).1 (TX0 5).2.1 (TX0 5).2.2.1 ∈ wsX3_mark := by decide +kernel
theorem inX3_mark_X3 : ∀ w ∈ u_ws RX3 TX3 17, w ∈ wsX3_mark := by decide +kernel
theorem inX3_mark_X0 : ∀ w ∈ u_ws RX0 TX0 6, w ∈ wsX3_mark := by decide +kernel
noncomputable def fX3_mark (G : mm_G) (a0 : Nat) (x1 : Int32) (x2 : Int32) (σ : mm_M) : Option (Int32 × mm_M) := (fX0_has G (mm_R G a0 5) x1 σ).bind (fun q5 => if q5.1 = 0 then (some ((-1 : Int32), q5.2)) else (if 0 < x2 then (if x2 < (6 : Int32) then (if x1 < 0 ∨ mm_N G (mm_R G (mm_R G a0 5) 0) ≤ x1.toNatClampNeg then none else ((fX2_isOf G (mm_R G (mm_R G (mm_R G a0 5) 0) x1.toNatClampNeg) x2 q5.2).bind (fun q35 => if q35.1 = 0 then ((fX3_found G a0 (3 : Int32) q35.2).bind (fun q43 => some (q43.1, q43.2))) else ((fX2_tellsAs G (mm_R G (mm_R G (mm_R G a0 5) 0) x1.toNatClampNeg) x2 (q35.2.1 (mm_R G a0 5) 2) (q35.2.1 (mm_R G a0 5) 5) q35.2).bind (fun q63 => some (q63.1, q63.2)))))) else (some ((-1 : Int32), q5.2))) else (some ((-1 : Int32), q5.2))))
set_option maxHeartbeats 4000000 in
set_option maxRecDepth 100000 in
theorem wX3_mark_b0 {E : mm_E} {G : mm_G} (X : mm_Cx E G cX3_mark 4 RX3 wsX3_mark rmX3_mark (some .int)) {a0 : Nat} {x1 : Int32} {x2 : Int32} {σ : mm_M} {q : (Int32 × mm_M)} (ha0 : mm_Is G 3 a0) (h : fX3_mark G a0 x1 x2 σ = some q) : mm_At E G 4 (mm_Qi E G q) σ 0 [(0, .ref a0), (1, .int x1), (2, .int x2)] [] := by
  unfold fX3_mark at h
  refine at_aload_n (pc := 0) X 0 0 dX3_mark_0 rfl rfl ?_
  refine at_get (pc := 1) X 3 5 (.ref (mm_R G a0 5)) ha0 (by decide) rfl inX3_mark_X3 (by decide) lkX3_mark_0 rfl dX3_mark_1 ?_
  refine at_iload_n (pc := 4) X 1 1 dX3_mark_4 rfl rfl ?_
  obtain ⟨q5, hq5, h⟩ := mm_bind h
  refine at_calli (n := 1) (pc := 5) X 0 [.int x1] [] (mX0_has (eL E) X.wf (wf_3_5 X.wf ha0) hq5) gX3_mark_X0_has rfl ⟨rfl, rfl⟩ (by decide +kernel) ⟨by decide, by decide⟩ (by decide) rfl (wf_3_5 X.wf ha0) rfl rfl (Nat.le_of_ble_eq_true rfl) dX3_mark_5 ?_
  refine at_if_eq (pc := 8) X 21 dX3_mark_8 (by decide) (fun c8 => ?_) (fun c8 => ?_)
  · have h := mm_pos c8 h
    refine at_iconst (pc := 21) X (-1 : Int32) dX3_mark_21 ic_m1 ?_
    exact at_iret (pc := 22) X (Option.some.inj h) dX3_mark_22
  · have h := mm_neg c8 h
    refine at_iload_n (pc := 11) X 2 2 dX3_mark_11 rfl rfl ?_
    refine at_if_le (pc := 12) X 21 dX3_mark_12 (by decide) (fun c12 => ?_) (fun c12 => ?_)
    · have h := mm_neg c12 h
      refine at_iconst (pc := 21) X (-1 : Int32) dX3_mark_21 ic_m1 ?_
      exact at_iret (pc := 22) X (Option.some.inj h) dX3_mark_22
    · have h := mm_pos c12 h
      refine at_iload_n (pc := 15) X 2 2 dX3_mark_15 rfl rfl ?_
      refine at_bipush (pc := 16) X (6 : Int32) dX3_mark_16 ib_6 ?_
      refine at_icmp_lt (pc := 18) X 23 dX3_mark_18 (by decide) (fun c18 => ?_) (fun c18 => ?_)
      · have h := mm_pos c18 h
        refine at_aload_n (pc := 23) X 0 0 dX3_mark_23 rfl rfl ?_
        refine at_get (pc := 24) X 3 5 (.ref (mm_R G a0 5)) ha0 (by decide) rfl inX3_mark_X3 (by decide) lkX3_mark_0 rfl dX3_mark_24 ?_
        refine at_get (pc := 27) X 0 0 (.ref (mm_R G (mm_R G a0 5) 0)) (wf_3_5 X.wf ha0) (by decide) rfl inX3_mark_X0 (by decide) lkX3_mark_1 rfl dX3_mark_27 ?_
        refine at_iload_n (pc := 30) X 1 1 dX3_mark_30 rfl rfl ?_
        obtain ⟨hc31, h⟩ := mm_chk h
        refine at_aald (pc := 31) X 8 3 (wf_0_0 X.wf (wf_3_5 X.wf ha0)) (by decide) (by decide) rfl rfl hc31 dX3_mark_31 ?_
        refine at_astore_n (pc := 32) X 3 [(3, .ref (mm_R G (mm_R G (mm_R G a0 5) 0) x1.toNatClampNeg)), (0, .ref a0), (1, .int x1), (2, .int x2)] dX3_mark_32 rfl (by decide) rfl ?_
        refine at_aload_n (pc := 33) X 3 0 dX3_mark_33 rfl rfl ?_
        refine at_iload_n (pc := 34) X 2 3 dX3_mark_34 rfl rfl ?_
        obtain ⟨q35, hq35, h⟩ := mm_bind h
        refine at_calli (n := 1) (pc := 35) X 2 [.int x2] [] (mX2_isOf (eL E) X.wf (wf_8 X.wf (wf_0_0 X.wf (wf_3_5 X.wf ha0)) hc31) hq35) gX3_mark_X2_isOf rfl ⟨rfl, rfl⟩ (by decide +kernel) ⟨by decide, by decide⟩ (by decide) rfl (wf_8 X.wf (wf_0_0 X.wf (wf_3_5 X.wf ha0)) hc31) rfl rfl (Nat.le_of_ble_eq_true rfl) dX3_mark_35 ?_
        refine at_if_ne (pc := 38) X 47 dX3_mark_38 (by decide) (fun c38 => ?_) (fun c38 => ?_)
        · have h := mm_neg c38 h
          refine at_aload_n (pc := 47) X 3 0 dX3_mark_47 rfl rfl ?_
          refine at_iload_n (pc := 48) X 2 3 dX3_mark_48 rfl rfl ?_
          refine at_aload_n (pc := 49) X 0 1 dX3_mark_49 rfl rfl ?_
          refine at_get (pc := 50) X 3 5 (.ref (mm_R G a0 5)) ha0 (by decide) rfl inX3_mark_X3 (by decide) lkX3_mark_0 rfl dX3_mark_50 ?_
          refine at_get (pc := 53) X 0 2 (.int (q35.2.1 (mm_R G a0 5) 2)) (wf_3_5 X.wf ha0) (by decide) rfl inX3_mark_X0 (by decide) lkX3_mark_2 rfl dX3_mark_53 ?_
          refine at_aload_n (pc := 56) X 0 1 dX3_mark_56 rfl rfl ?_
          refine at_get (pc := 57) X 3 5 (.ref (mm_R G a0 5)) ha0 (by decide) rfl inX3_mark_X3 (by decide) lkX3_mark_0 rfl dX3_mark_57 ?_
          refine at_get (pc := 60) X 0 5 (.int (q35.2.1 (mm_R G a0 5) 5)) (wf_3_5 X.wf ha0) (by decide) rfl inX3_mark_X0 (by decide) lkX3_mark_3 rfl dX3_mark_60 ?_
          obtain ⟨q63, hq63, h⟩ := mm_bind h
          refine at_calli (n := 3) (pc := 63) X 2 [.int x2, .int (q35.2.1 (mm_R G a0 5) 2), .int (q35.2.1 (mm_R G a0 5) 5)] [] (mX2_tellsAs (eL E) X.wf (wf_8 X.wf (wf_0_0 X.wf (wf_3_5 X.wf ha0)) hc31) hq63) gX3_mark_X2_tellsAs rfl ⟨rfl, rfl⟩ (by decide +kernel) ⟨by decide, by decide⟩ (by decide) rfl (wf_8 X.wf (wf_0_0 X.wf (wf_3_5 X.wf ha0)) hc31) rfl rfl (Nat.le_of_ble_eq_true rfl) dX3_mark_63 ?_
          exact at_iret (pc := 66) X (Option.some.inj h) dX3_mark_66
        · have h := mm_pos c38 h
          refine at_aload_n (pc := 41) X 0 1 dX3_mark_41 rfl rfl ?_
          refine at_iconst (pc := 42) X (3 : Int32) dX3_mark_42 ic_3 ?_
          obtain ⟨q43, hq43, h⟩ := mm_bind h
          refine at_calli (n := 1) (pc := 43) X 3 [.int (3 : Int32)] [] (mX3_found (eL E) X.wf ha0 hq43) gX3_mark_X3_found rfl ⟨rfl, rfl⟩ (by decide +kernel) ⟨by decide, by decide⟩ (by decide) rfl ha0 rfl rfl (Nat.le_of_ble_eq_true rfl) dX3_mark_43 ?_
          exact at_iret (pc := 46) X (Option.some.inj h) dX3_mark_46
      · have h := mm_neg c18 h
        refine at_iconst (pc := 21) X (-1 : Int32) dX3_mark_21 ic_m1 ?_
        exact at_iret (pc := 22) X (Option.some.inj h) dX3_mark_22
set_option maxHeartbeats 4000000 in
set_option maxRecDepth 100000 in
theorem mX3_mark (l : Launch) {G : mm_G} (hwf : mm_WF G) {a0 : Nat} {x1 : Int32} {x2 : Int32} {σ : mm_M} {q : (Int32 × mm_M)} (ha0 : mm_Is G 3 a0) (h : fX3_mark G a0 x1 x2 σ = some q) : mm_Mi l yX3_mark wsX3_mark rmX3_mark G [.ref a0, .int x1, .int x2] σ q := by
  refine mm_ofi (cc := cX3_mark) (nL := 4) (ret := some .int) (own := RX3) (lv0 := [(0, .ref a0), (1, .int x1), (2, .int x2)]) (by decide) rfl rfl (Nat.le_of_ble_eq_true rfl) rfl hwf (fun E hE X => ?_)
  exact wX3_mark_b0 X ha0 h
theorem dX3_deedOf_0 : decode cX3_deedOf 0 = .ok (.iload_n 0, 1) := by decide +kernel
theorem dX3_deedOf_1 : decode cX3_deedOf 1 = .ok (.bipush 100, 2) := by decide +kernel
theorem dX3_deedOf_3 : decode cX3_deedOf 3 = .ok (.imul, 1) := by decide +kernel
theorem dX3_deedOf_4 : decode cX3_deedOf 4 = .ok (.iload_n 1, 1) := by decide +kernel
theorem dX3_deedOf_5 : decode cX3_deedOf 5 = .ok (.bipush 10, 2) := by decide +kernel
theorem dX3_deedOf_7 : decode cX3_deedOf 7 = .ok (.imul, 1) := by decide +kernel
theorem dX3_deedOf_8 : decode cX3_deedOf 8 = .ok (.iadd, 1) := by decide +kernel
theorem dX3_deedOf_9 : decode cX3_deedOf 9 = .ok (.iload_n 2, 1) := by decide +kernel
theorem dX3_deedOf_10 : decode cX3_deedOf 10 = .ok (.iadd, 1) := by decide +kernel
theorem dX3_deedOf_11 : decode cX3_deedOf 11 = .ok (.ireturn, 1) := by decide +kernel
/-! X3_deedOf (III)I -/
abbrev rmX3_deedOf : Room := { frames := 0, cells := 0, slots := 0, locals := 0 }
noncomputable def fX3_deedOf (G : mm_G) (x0 : Int32) (x1 : Int32) (x2 : Int32) (σ : mm_M) : Option (Int32 × mm_M) := some (((x0 * (100 : Int32)) + (x1 * (10 : Int32))) + x2, σ)
set_option maxHeartbeats 4000000 in
set_option maxRecDepth 100000 in
theorem wX3_deedOf_b0 {E : mm_E} {G : mm_G} (X : mm_Cx E G cX3_deedOf 3 RX3 wsX3_deedOf rmX3_deedOf (some .int)) {x0 : Int32} {x1 : Int32} {x2 : Int32} {σ : mm_M} {q : (Int32 × mm_M)} (h : fX3_deedOf G x0 x1 x2 σ = some q) : mm_At E G 3 (mm_Qi E G q) σ 0 [(0, .int x0), (1, .int x1), (2, .int x2)] [] := by
  unfold fX3_deedOf at h
  refine at_iload_n (pc := 0) X 0 0 dX3_deedOf_0 rfl rfl ?_
  refine at_bipush (pc := 1) X (100 : Int32) dX3_deedOf_1 ib_100 ?_
  refine at_imul (pc := 3) X dX3_deedOf_3 ?_
  refine at_iload_n (pc := 4) X 1 1 dX3_deedOf_4 rfl rfl ?_
  refine at_bipush (pc := 5) X (10 : Int32) dX3_deedOf_5 ib_10 ?_
  refine at_imul (pc := 7) X dX3_deedOf_7 ?_
  refine at_iadd (pc := 8) X dX3_deedOf_8 ?_
  refine at_iload_n (pc := 9) X 2 2 dX3_deedOf_9 rfl rfl ?_
  refine at_iadd (pc := 10) X dX3_deedOf_10 ?_
  exact at_iret (pc := 11) X (Option.some.inj h) dX3_deedOf_11
set_option maxHeartbeats 4000000 in
set_option maxRecDepth 100000 in
theorem mX3_deedOf (l : Launch) {G : mm_G} (hwf : mm_WF G) {x0 : Int32} {x1 : Int32} {x2 : Int32} {σ : mm_M} {q : (Int32 × mm_M)} (h : fX3_deedOf G x0 x1 x2 σ = some q) : mm_Mi l yX3_deedOf wsX3_deedOf rmX3_deedOf G [.int x0, .int x1, .int x2] σ q := by
  refine mm_ofi (cc := cX3_deedOf) (nL := 3) (ret := some .int) (own := RX3) (lv0 := [(0, .int x0), (1, .int x1), (2, .int x2)]) (by decide) rfl rfl (Nat.le_of_ble_eq_true rfl) rfl hwf (fun E hE X => ?_)
  exact wX3_deedOf_b0 X  h
set_option maxRecDepth 20000 in
theorem ggX3_carryOut_X1_add : GoodIn wsX3_carryOut wsX1_add := goodIn_r _ [7, 8, 9, 107, 108] (by decide +kernel) (by decide +kernel)
set_option maxRecDepth 20000 in
theorem gX3_carryOut_X1_add : GoodIn wsX3_carryOut (wsV RX3 233 RX1 yX1_add wsX1_add) := goodIn_app (goodIn_of _ (by decide +kernel)) ggX3_carryOut_X1_add
set_option maxRecDepth 20000 in
theorem ggX3_carryOut_X0_act : GoodIn wsX3_carryOut wsX0_act := goodIn_r _ [14, 15, 16, 17, 18, 19, 20, 13, 21, 22, 23, 24, 25, 26, 27, 28, 29, 30, 31, 32, 33, 34, 35, 36, 37, 38, 39, 40, 41, 42, 43, 44, 45, 46, 47, 48, 49, 50, 51, 52, 53, 54, 55, 56, 57, 58, 59, 60, 61, 62, 63, 64, 65, 66, 67, 68, 69, 70, 71, 72, 73, 74, 75, 76, 77, 78, 79, 80, 81, 82, 83, 84, 85, 86, 87, 88, 89, 109, 110, 111, 112, 113, 114, 115, 116, 117, 118, 119, 120] (by decide +kernel) (by decide +kernel)
set_option maxRecDepth 20000 in
theorem gX3_carryOut_X0_act : GoodIn wsX3_carryOut (wsV RX3 236 RX0 yX0_act wsX0_act) := goodIn_app (goodIn_of _ (by decide +kernel)) ggX3_carryOut_X0_act
theorem dX3_carryOut_0 : decode cX3_carryOut 0 = .ok (.aload_n 0, 1) := by decide +kernel
theorem dX3_carryOut_1 : decode cX3_carryOut 1 = .ok (.getfield 39, 3) := by decide +kernel
theorem dX3_carryOut_4 : decode cX3_carryOut 4 = .ok (.iload_n 1, 1) := by decide +kernel
theorem dX3_carryOut_5 : decode cX3_carryOut 5 = .ok (.invokevirtual 233, 3) := by decide +kernel
theorem dX3_carryOut_8 : decode cX3_carryOut 8 = .ok (.aload_n 0, 1) := by decide +kernel
theorem dX3_carryOut_9 : decode cX3_carryOut 9 = .ok (.getfield 33, 3) := by decide +kernel
theorem dX3_carryOut_12 : decode cX3_carryOut 12 = .ok (.iload_n 1, 1) := by decide +kernel
theorem dX3_carryOut_13 : decode cX3_carryOut 13 = .ok (.invokevirtual 236, 3) := by decide +kernel
theorem dX3_carryOut_16 : decode cX3_carryOut 16 = .ok (.ireturn, 1) := by decide +kernel
/-! X3_carryOut (I)I -/
abbrev rmX3_carryOut : Room := { frames := 6, cells := 0, slots := 0, locals := 132 }
theorem lkX3_carryOut_0 : Cond.fieldLink RX3 39 (TX3 6).1 (TX3 6).2.1 (TX3 6).2.2.1 ∈ wsX3_carryOut := by decide +kernel
theorem lkX3_carryOut_1 : Cond.fieldLink RX3 33 (TX3 5).1 (TX3 5).2.1 (TX3 5).2.2.1 ∈ wsX3_carryOut := by decide +kernel
theorem inX3_carryOut_X3 : ∀ w ∈ u_ws RX3 TX3 17, w ∈ wsX3_carryOut := by decide +kernel
noncomputable def fX3_carryOut (G : mm_G) (a0 : Nat) (x1 : Int32) (σ : mm_M) : Option (Int32 × mm_M) := (fX1_add G (mm_R G a0 6) x1 σ).bind (fun q5 => (fX0_act G (mm_R G a0 5) x1 q5).bind (fun q13 => some (q13.1, q13.2)))
set_option maxHeartbeats 4000000 in
set_option maxRecDepth 100000 in
theorem wX3_carryOut_b0 {E : mm_E} {G : mm_G} (X : mm_Cx E G cX3_carryOut 2 RX3 wsX3_carryOut rmX3_carryOut (some .int)) {a0 : Nat} {x1 : Int32} {σ : mm_M} {q : (Int32 × mm_M)} (ha0 : mm_Is G 3 a0) (h : fX3_carryOut G a0 x1 σ = some q) : mm_At E G 2 (mm_Qi E G q) σ 0 [(0, .ref a0), (1, .int x1)] [] := by
  unfold fX3_carryOut at h
  refine at_aload_n (pc := 0) X 0 0 dX3_carryOut_0 rfl rfl ?_
  refine at_get (pc := 1) X 3 6 (.ref (mm_R G a0 6)) ha0 (by decide) rfl inX3_carryOut_X3 (by decide) lkX3_carryOut_0 rfl dX3_carryOut_1 ?_
  refine at_iload_n (pc := 4) X 1 1 dX3_carryOut_4 rfl rfl ?_
  obtain ⟨q5, hq5, h⟩ := mm_bind h
  refine at_callv (n := 1) (pc := 5) X 1 [.int x1] [] (mX1_add (eL E) X.wf (wf_3_6 X.wf ha0) hq5) gX3_carryOut_X1_add rfl ⟨rfl, rfl⟩ (by decide +kernel) ⟨by decide, by decide⟩ (by decide) rfl (wf_3_6 X.wf ha0) rfl rfl (Nat.le_of_ble_eq_true rfl) dX3_carryOut_5 ?_
  refine at_aload_n (pc := 8) X 0 0 dX3_carryOut_8 rfl rfl ?_
  refine at_get (pc := 9) X 3 5 (.ref (mm_R G a0 5)) ha0 (by decide) rfl inX3_carryOut_X3 (by decide) lkX3_carryOut_1 rfl dX3_carryOut_9 ?_
  refine at_iload_n (pc := 12) X 1 1 dX3_carryOut_12 rfl rfl ?_
  obtain ⟨q13, hq13, h⟩ := mm_bind h
  refine at_calli (n := 1) (pc := 13) X 0 [.int x1] [] (mX0_act (eL E) X.wf (wf_3_5 X.wf ha0) hq13) gX3_carryOut_X0_act rfl ⟨rfl, rfl⟩ (by decide +kernel) ⟨by decide, by decide⟩ (by decide) rfl (wf_3_5 X.wf ha0) rfl rfl (Nat.le_of_ble_eq_true rfl) dX3_carryOut_13 ?_
  exact at_iret (pc := 16) X (Option.some.inj h) dX3_carryOut_16
set_option maxHeartbeats 4000000 in
set_option maxRecDepth 100000 in
theorem mX3_carryOut (l : Launch) {G : mm_G} (hwf : mm_WF G) {a0 : Nat} {x1 : Int32} {σ : mm_M} {q : (Int32 × mm_M)} (ha0 : mm_Is G 3 a0) (h : fX3_carryOut G a0 x1 σ = some q) : mm_Mi l yX3_carryOut wsX3_carryOut rmX3_carryOut G [.ref a0, .int x1] σ q := by
  refine mm_ofi (cc := cX3_carryOut) (nL := 2) (ret := some .int) (own := RX3) (lv0 := [(0, .ref a0), (1, .int x1)]) (by decide) rfl rfl (Nat.le_of_ble_eq_true rfl) rfl hwf (fun E hE X => ?_)
  exact wX3_carryOut_b0 X ha0 h
set_option maxRecDepth 20000 in
theorem ggX3_slot_X1_hasRoomFor : GoodIn wsX3_slot wsX1_hasRoomFor := goodIn_r _ [9, 10, 127, 128] (by decide +kernel) (by decide +kernel)
set_option maxRecDepth 20000 in
theorem gX3_slot_X1_hasRoomFor : GoodIn wsX3_slot (wsV RX3 140 RX1 yX1_hasRoomFor wsX1_hasRoomFor) := goodIn_app (goodIn_of _ (by decide +kernel)) ggX3_slot_X1_hasRoomFor
set_option maxRecDepth 20000 in
theorem ggX3_slot_X3_deedOf : GoodIn wsX3_slot wsX3_deedOf := goodIn_r _ [14] (by decide +kernel) (by decide +kernel)
set_option maxRecDepth 20000 in
theorem gX3_slot_X3_deedOf : GoodIn wsX3_slot (va_wsS RX3 143 yX3_deedOf wsX3_deedOf) := goodIn_app (goodIn_of _ (by decide +kernel)) ggX3_slot_X3_deedOf
set_option maxRecDepth 20000 in
theorem ggX3_slot_X3_carryOut : GoodIn wsX3_slot wsX3_carryOut := goodIn_r _ [18, 4, 1, 19, 20, 21, 8, 22, 10, 23, 24, 25, 26, 27, 28, 29, 30, 31, 32, 33, 34, 35, 36, 37, 38, 39, 40, 41, 42, 43, 44, 45, 46, 47, 48, 49, 50, 51, 52, 53, 54, 55, 56, 57, 58, 59, 60, 61, 62, 63, 64, 65, 66, 67, 68, 69, 70, 71, 72, 73, 74, 75, 76, 77, 78, 79, 80, 81, 82, 83, 84, 85, 86, 87, 88, 89, 90, 91, 92, 93, 94, 95, 96, 97, 98, 99, 100, 101, 102, 103, 104, 105, 106, 107, 108, 109, 110, 111, 112, 113, 114, 115, 116, 117, 118, 119, 120, 127, 128, 121, 122, 123, 124, 125, 126, 129, 130, 131, 132, 133, 134] (by decide +kernel) (by decide +kernel)
set_option maxRecDepth 20000 in
theorem gX3_slot_X3_carryOut : GoodIn wsX3_slot (wsV RX3 147 RX3 yX3_carryOut wsX3_carryOut) := goodIn_app (goodIn_of _ (by decide +kernel)) ggX3_slot_X3_carryOut
theorem dX3_slot_0 : decode cX3_slot 0 = .ok (.aload_n 0, 1) := by decide +kernel
theorem dX3_slot_1 : decode cX3_slot 1 = .ok (.getfield 33, 3) := by decide +kernel
theorem dX3_slot_4 : decode cX3_slot 4 = .ok (.getfield 112, 3) := by decide +kernel
theorem dX3_slot_7 : decode cX3_slot 7 = .ok (.ifCond .eq 16, 3) := by decide +kernel
theorem dX3_slot_10 : decode cX3_slot 10 = .ok (.aload_n 0, 1) := by decide +kernel
theorem dX3_slot_11 : decode cX3_slot 11 = .ok (.getfield 33, 3) := by decide +kernel
theorem dX3_slot_14 : decode cX3_slot 14 = .ok (.getfield 133, 3) := by decide +kernel
theorem dX3_slot_17 : decode cX3_slot 17 = .ok (.sipush 199, 3) := by decide +kernel
theorem dX3_slot_20 : decode cX3_slot 20 = .ok (.if_icmp .lt 6, 3) := by decide +kernel
theorem dX3_slot_23 : decode cX3_slot 23 = .ok (.bipush (-4), 2) := by decide +kernel
theorem dX3_slot_25 : decode cX3_slot 25 = .ok (.ireturn, 1) := by decide +kernel
theorem dX3_slot_26 : decode cX3_slot 26 = .ok (.aload_n 0, 1) := by decide +kernel
theorem dX3_slot_27 : decode cX3_slot 27 = .ok (.getfield 39, 3) := by decide +kernel
theorem dX3_slot_30 : decode cX3_slot 30 = .ok (.iconst 1, 1) := by decide +kernel
theorem dX3_slot_31 : decode cX3_slot 31 = .ok (.invokevirtual 140, 3) := by decide +kernel
theorem dX3_slot_34 : decode cX3_slot 34 = .ok (.ifCond .ne 6, 3) := by decide +kernel
theorem dX3_slot_37 : decode cX3_slot 37 = .ok (.bipush (-2), 2) := by decide +kernel
theorem dX3_slot_39 : decode cX3_slot 39 = .ok (.ireturn, 1) := by decide +kernel
theorem dX3_slot_40 : decode cX3_slot 40 = .ok (.aload_n 0, 1) := by decide +kernel
theorem dX3_slot_41 : decode cX3_slot 41 = .ok (.iconst 1, 1) := by decide +kernel
theorem dX3_slot_42 : decode cX3_slot 42 = .ok (.iconst 0, 1) := by decide +kernel
theorem dX3_slot_43 : decode cX3_slot 43 = .ok (.iconst 0, 1) := by decide +kernel
theorem dX3_slot_44 : decode cX3_slot 44 = .ok (.invokestatic 143, 3) := by decide +kernel
theorem dX3_slot_47 : decode cX3_slot 47 = .ok (.invokevirtual 147, 3) := by decide +kernel
theorem dX3_slot_50 : decode cX3_slot 50 = .ok (.ireturn, 1) := by decide +kernel
/-! X3_slot ()I -/
abbrev rmX3_slot : Room := { frames := 7, cells := 0, slots := 0, locals := 153 }
theorem lkX3_slot_0 : Cond.fieldLink RX3 33 (TX3 5).1 (TX3 5).2.1 (TX3 5).2.2.1 ∈ wsX3_slot := by decide +kernel
theorem lkX3_slot_1 : Cond.fieldLink RX3 112 (TX0 1).1 (TX0 1).2.1 (TX0 1).2.2.1 ∈ wsX3_slot := by decide +kernel
theorem lkX3_slot_2 : Cond.fieldLink RX3 133 (TX0 2).1 (TX0 2).2.1 (TX0 2).2.2.1 ∈ wsX3_slot := by decide +kernel
theorem lkX3_slot_3 : Cond.fieldLink RX3 39 (TX3 6).1 (TX3 6).2.1 (TX3 6).2.2.1 ∈ wsX3_slot := by decide +kernel
theorem inX3_slot_X3 : ∀ w ∈ u_ws RX3 TX3 17, w ∈ wsX3_slot := by decide +kernel
theorem inX3_slot_X0 : ∀ w ∈ u_ws RX0 TX0 6, w ∈ wsX3_slot := by decide +kernel
noncomputable def fX3_slot (G : mm_G) (a0 : Nat) (σ : mm_M) : Option (Int32 × mm_M) := if (σ.1 (mm_R G a0 5) 1) = 0 then (some ((-4 : Int32), σ)) else (if (σ.1 (mm_R G a0 5) 2) < (199 : Int32) then ((fX1_hasRoomFor G (mm_R G a0 6) (1 : Int32) σ).bind (fun q31 => if q31.1 = 0 then (some ((-2 : Int32), q31.2)) else ((fX3_deedOf G (1 : Int32) (0 : Int32) (0 : Int32) q31.2).bind (fun q44 => (fX3_carryOut G a0 q44.1 q44.2).bind (fun q47 => some (q47.1, q47.2)))))) else (some ((-4 : Int32), σ)))
set_option maxHeartbeats 4000000 in
set_option maxRecDepth 100000 in
theorem wX3_slot_b0 {E : mm_E} {G : mm_G} (X : mm_Cx E G cX3_slot 1 RX3 wsX3_slot rmX3_slot (some .int)) {a0 : Nat} {σ : mm_M} {q : (Int32 × mm_M)} (ha0 : mm_Is G 3 a0) (h : fX3_slot G a0 σ = some q) : mm_At E G 1 (mm_Qi E G q) σ 0 [(0, .ref a0)] [] := by
  unfold fX3_slot at h
  refine at_aload_n (pc := 0) X 0 0 dX3_slot_0 rfl rfl ?_
  refine at_get (pc := 1) X 3 5 (.ref (mm_R G a0 5)) ha0 (by decide) rfl inX3_slot_X3 (by decide) lkX3_slot_0 rfl dX3_slot_1 ?_
  refine at_get (pc := 4) X 0 1 (.int (σ.1 (mm_R G a0 5) 1)) (wf_3_5 X.wf ha0) (by decide) rfl inX3_slot_X0 (by decide) lkX3_slot_1 rfl dX3_slot_4 ?_
  refine at_if_eq (pc := 7) X 23 dX3_slot_7 (by decide) (fun c7 => ?_) (fun c7 => ?_)
  · have h := mm_pos c7 h
    refine at_bipush (pc := 23) X (-4 : Int32) dX3_slot_23 ib_m4 ?_
    exact at_iret (pc := 25) X (Option.some.inj h) dX3_slot_25
  · have h := mm_neg c7 h
    refine at_aload_n (pc := 10) X 0 0 dX3_slot_10 rfl rfl ?_
    refine at_get (pc := 11) X 3 5 (.ref (mm_R G a0 5)) ha0 (by decide) rfl inX3_slot_X3 (by decide) lkX3_slot_0 rfl dX3_slot_11 ?_
    refine at_get (pc := 14) X 0 2 (.int (σ.1 (mm_R G a0 5) 2)) (wf_3_5 X.wf ha0) (by decide) rfl inX3_slot_X0 (by decide) lkX3_slot_2 rfl dX3_slot_14 ?_
    refine at_sipush (pc := 17) X (199 : Int32) dX3_slot_17 is_199 ?_
    refine at_icmp_lt (pc := 20) X 26 dX3_slot_20 (by decide) (fun c20 => ?_) (fun c20 => ?_)
    · have h := mm_pos c20 h
      refine at_aload_n (pc := 26) X 0 0 dX3_slot_26 rfl rfl ?_
      refine at_get (pc := 27) X 3 6 (.ref (mm_R G a0 6)) ha0 (by decide) rfl inX3_slot_X3 (by decide) lkX3_slot_3 rfl dX3_slot_27 ?_
      refine at_iconst (pc := 30) X (1 : Int32) dX3_slot_30 ic_1 ?_
      obtain ⟨q31, hq31, h⟩ := mm_bind h
      refine at_calli (n := 1) (pc := 31) X 1 [.int (1 : Int32)] [] (mX1_hasRoomFor (eL E) X.wf (wf_3_6 X.wf ha0) hq31) gX3_slot_X1_hasRoomFor rfl ⟨rfl, rfl⟩ (by decide +kernel) ⟨by decide, by decide⟩ (by decide) rfl (wf_3_6 X.wf ha0) rfl rfl (Nat.le_of_ble_eq_true rfl) dX3_slot_31 ?_
      refine at_if_ne (pc := 34) X 40 dX3_slot_34 (by decide) (fun c34 => ?_) (fun c34 => ?_)
      · have h := mm_neg c34 h
        refine at_aload_n (pc := 40) X 0 0 dX3_slot_40 rfl rfl ?_
        refine at_iconst (pc := 41) X (1 : Int32) dX3_slot_41 ic_1 ?_
        refine at_iconst (pc := 42) X (0 : Int32) dX3_slot_42 ic_0 ?_
        refine at_iconst (pc := 43) X (0 : Int32) dX3_slot_43 ic_0 ?_
        obtain ⟨q44, hq44, h⟩ := mm_bind h
        refine at_scalli (n := 3) (pc := 44) X [.int (1 : Int32), .int (0 : Int32), .int (0 : Int32)] [.ref a0] (mX3_deedOf (eL E) X.wf hq44) gX3_slot_X3_deedOf rfl ⟨rfl, rfl⟩ (by decide +kernel) ⟨by decide, by decide⟩ rfl rfl (Nat.le_of_ble_eq_true rfl) dX3_slot_44 ?_
        obtain ⟨q47, hq47, h⟩ := mm_bind h
        refine at_calli (n := 1) (pc := 47) X 3 [.int q44.1] [] (mX3_carryOut (eL E) X.wf ha0 hq47) gX3_slot_X3_carryOut rfl ⟨rfl, rfl⟩ (by decide +kernel) ⟨by decide, by decide⟩ (by decide) rfl ha0 rfl rfl (Nat.le_of_ble_eq_true rfl) dX3_slot_47 ?_
        exact at_iret (pc := 50) X (Option.some.inj h) dX3_slot_50
      · have h := mm_pos c34 h
        refine at_bipush (pc := 37) X (-2 : Int32) dX3_slot_37 ib_m2 ?_
        exact at_iret (pc := 39) X (Option.some.inj h) dX3_slot_39
    · have h := mm_neg c20 h
      refine at_bipush (pc := 23) X (-4 : Int32) dX3_slot_23 ib_m4 ?_
      exact at_iret (pc := 25) X (Option.some.inj h) dX3_slot_25
set_option maxHeartbeats 4000000 in
set_option maxRecDepth 100000 in
theorem mX3_slot (l : Launch) {G : mm_G} (hwf : mm_WF G) {a0 : Nat} {σ : mm_M} {q : (Int32 × mm_M)} (ha0 : mm_Is G 3 a0) (h : fX3_slot G a0 σ = some q) : mm_Mi l yX3_slot wsX3_slot rmX3_slot G [.ref a0] σ q := by
  refine mm_ofi (cc := cX3_slot) (nL := 1) (ret := some .int) (own := RX3) (lv0 := [(0, .ref a0)]) (by decide) rfl rfl (Nat.le_of_ble_eq_true rfl) rfl hwf (fun E hE X => ?_)
  exact wX3_slot_b0 X ha0 h
