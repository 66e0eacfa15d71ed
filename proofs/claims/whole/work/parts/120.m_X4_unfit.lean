/-! X4_unfit X4_fitting X4_kinds X4_firsts -/
set_option maxRecDepth 20000 in
theorem ggX4_unfit_X4_in : GoodIn wsX4_unfit wsX4_in := goodIn_r _ [6] (by decide +kernel) (by decide +kernel)
set_option maxRecDepth 20000 in
theorem gX4_unfit_X4_in : GoodIn wsX4_unfit (va_wsS RX4 73 yX4_in wsX4_in) := goodIn_app (goodIn_of _ (by decide +kernel)) ggX4_unfit_X4_in
theorem dX4_unfit_0 : decode cX4_unfit 0 = .ok (.aload_n 0, 1) := by decide +kernel
theorem dX4_unfit_1 : decode cX4_unfit 1 = .ok (.getfield 7, 3) := by decide +kernel
theorem dX4_unfit_4 : decode cX4_unfit 4 = .ok (.iload_n 1, 1) := by decide +kernel
theorem dX4_unfit_5 : decode cX4_unfit 5 = .ok (.iaload, 1) := by decide +kernel
theorem dX4_unfit_6 : decode cX4_unfit 6 = .ok (.ifCond .ge 5, 3) := by decide +kernel
theorem dX4_unfit_9 : decode cX4_unfit 9 = .ok (.iconst 1, 1) := by decide +kernel
theorem dX4_unfit_10 : decode cX4_unfit 10 = .ok (.ireturn, 1) := by decide +kernel
theorem dX4_unfit_11 : decode cX4_unfit 11 = .ok (.aload_n 0, 1) := by decide +kernel
theorem dX4_unfit_12 : decode cX4_unfit 12 = .ok (.getfield 7, 3) := by decide +kernel
theorem dX4_unfit_15 : decode cX4_unfit 15 = .ok (.iload_n 1, 1) := by decide +kernel
theorem dX4_unfit_16 : decode cX4_unfit 16 = .ok (.iaload, 1) := by decide +kernel
theorem dX4_unfit_17 : decode cX4_unfit 17 = .ok (.iconst 1, 1) := by decide +kernel
theorem dX4_unfit_18 : decode cX4_unfit 18 = .ok (.bipush 20, 2) := by decide +kernel
theorem dX4_unfit_20 : decode cX4_unfit 20 = .ok (.invokestatic 73, 3) := by decide +kernel
theorem dX4_unfit_23 : decode cX4_unfit 23 = .ok (.ifCond .ne 5, 3) := by decide +kernel
theorem dX4_unfit_26 : decode cX4_unfit 26 = .ok (.iconst 5, 1) := by decide +kernel
theorem dX4_unfit_27 : decode cX4_unfit 27 = .ok (.ireturn, 1) := by decide +kernel
theorem dX4_unfit_28 : decode cX4_unfit 28 = .ok (.iconst 1, 1) := by decide +kernel
theorem dX4_unfit_29 : decode cX4_unfit 29 = .ok (.istore_n 2, 1) := by decide +kernel
theorem dX4_unfit_30 : decode cX4_unfit 30 = .ok (.iconst 0, 1) := by decide +kernel
theorem dX4_unfit_31 : decode cX4_unfit 31 = .ok (.istore_n 3, 1) := by decide +kernel
theorem dX4_unfit_32 : decode cX4_unfit 32 = .ok (.iload_n 3, 1) := by decide +kernel
theorem dX4_unfit_33 : decode cX4_unfit 33 = .ok (.aload_n 0, 1) := by decide +kernel
theorem dX4_unfit_34 : decode cX4_unfit 34 = .ok (.getfield 7, 3) := by decide +kernel
theorem dX4_unfit_37 : decode cX4_unfit 37 = .ok (.iload_n 1, 1) := by decide +kernel
theorem dX4_unfit_38 : decode cX4_unfit 38 = .ok (.iaload, 1) := by decide +kernel
theorem dX4_unfit_39 : decode cX4_unfit 39 = .ok (.if_icmp .ge 39, 3) := by decide +kernel
theorem dX4_unfit_42 : decode cX4_unfit 42 = .ok (.iload_n 2, 1) := by decide +kernel
theorem dX4_unfit_43 : decode cX4_unfit 43 = .ok (.ifCond .eq 27, 3) := by decide +kernel
theorem dX4_unfit_46 : decode cX4_unfit 46 = .ok (.aload_n 0, 1) := by decide +kernel
theorem dX4_unfit_47 : decode cX4_unfit 47 = .ok (.getfield 13, 3) := by decide +kernel
theorem dX4_unfit_50 : decode cX4_unfit 50 = .ok (.bipush 40, 2) := by decide +kernel
theorem dX4_unfit_52 : decode cX4_unfit 52 = .ok (.iload_n 1, 1) := by decide +kernel
theorem dX4_unfit_53 : decode cX4_unfit 53 = .ok (.imul, 1) := by decide +kernel
theorem dX4_unfit_54 : decode cX4_unfit 54 = .ok (.iload_n 3, 1) := by decide +kernel
theorem dX4_unfit_55 : decode cX4_unfit 55 = .ok (.iadd, 1) := by decide +kernel
theorem dX4_unfit_56 : decode cX4_unfit 56 = .ok (.iaload, 1) := by decide +kernel
theorem dX4_unfit_57 : decode cX4_unfit 57 = .ok (.iconst 0, 1) := by decide +kernel
theorem dX4_unfit_58 : decode cX4_unfit 58 = .ok (.bipush 7, 2) := by decide +kernel
theorem dX4_unfit_60 : decode cX4_unfit 60 = .ok (.invokestatic 73, 3) := by decide +kernel
theorem dX4_unfit_63 : decode cX4_unfit 63 = .ok (.ifCond .eq 7, 3) := by decide +kernel
theorem dX4_unfit_66 : decode cX4_unfit 66 = .ok (.iconst 1, 1) := by decide +kernel
theorem dX4_unfit_67 : decode cX4_unfit 67 = .ok (.goto 4, 3) := by decide +kernel
theorem dX4_unfit_70 : decode cX4_unfit 70 = .ok (.iconst 0, 1) := by decide +kernel
theorem dX4_unfit_71 : decode cX4_unfit 71 = .ok (.istore_n 2, 1) := by decide +kernel
theorem dX4_unfit_72 : decode cX4_unfit 72 = .ok (.iinc 3 1, 3) := by decide +kernel
theorem dX4_unfit_75 : decode cX4_unfit 75 = .ok (.goto (-43), 3) := by decide +kernel
theorem dX4_unfit_78 : decode cX4_unfit 78 = .ok (.iload_n 2, 1) := by decide +kernel
theorem dX4_unfit_79 : decode cX4_unfit 79 = .ok (.ifCond .eq 7, 3) := by decide +kernel
theorem dX4_unfit_82 : decode cX4_unfit 82 = .ok (.iconst 0, 1) := by decide +kernel
theorem dX4_unfit_83 : decode cX4_unfit 83 = .ok (.goto 4, 3) := by decide +kernel
theorem dX4_unfit_86 : decode cX4_unfit 86 = .ok (.iconst 3, 1) := by decide +kernel
theorem dX4_unfit_87 : decode cX4_unfit 87 = .ok (.ireturn, 1) := by decide +kernel
/-! X4_unfit (I)I -/
abbrev rmX4_unfit : Room := { frames := 1, cells := 0, slots := 0, locals := 22 }
theorem lkX4_unfit_0 : Cond.fieldLink RX4 7 (TX4 0).1 (TX4 0).2.1 (TX4 0).2.2.1 ∈ wsX4_unfit := by decide +kernel
theorem lkX4_unfit_1 : Cond.fieldLink RX4 13 (TX4 1).1 (TX4 1).2.1 (TX4 1).2.2.1 ∈ wsX4_unfit := by decide +kernel
theorem inX4_unfit_X4 : ∀ w ∈ u_ws RX4 TX4 22, w ∈ wsX4_unfit := by decide +kernel
noncomputable def fX4_unfit_b32 (G : mm_G) (a0 : Nat) (x1 : Int32) (x2 : Int32) (x3 : Int32) (σ : mm_M) : Option ((Int32 × mm_M) ⊕ (Int32 × Int32 × mm_M)) := if x1 < 0 ∨ mm_N G (mm_R G a0 0) ≤ x1.toNatClampNeg then none else (if x3 < (σ.1 (mm_R G a0 0) x1.toNatClampNeg) then (if x2 = 0 then (some (.inr ((0 : Int32), x3 + 1, σ))) else (if (((40 : Int32) * x1) + x3) < 0 ∨ mm_N G (mm_R G a0 1) ≤ (((40 : Int32) * x1) + x3).toNatClampNeg then none else ((fX4_in G (σ.1 (mm_R G a0 1) (((40 : Int32) * x1) + x3).toNatClampNeg) (0 : Int32) (7 : Int32) σ).bind (fun q60 => some (.inr (if q60.1 = 0 then (0 : Int32) else (1 : Int32), x3 + 1, q60.2)))))) else (some (.inl (if x2 = 0 then (3 : Int32) else (0 : Int32), σ))))
noncomputable def fX4_unfit_b0 (G : mm_G) (a0 : Nat) (x1 : Int32) (σ : mm_M) : Option ((Int32 × mm_M) ⊕ (Int32 × Int32 × mm_M)) := if x1 < 0 ∨ mm_N G (mm_R G a0 0) ≤ x1.toNatClampNeg then none else (if (σ.1 (mm_R G a0 0) x1.toNatClampNeg) < 0 then (some (.inl ((1 : Int32), σ))) else (if x1 < 0 ∨ mm_N G (mm_R G a0 0) ≤ x1.toNatClampNeg then none else ((fX4_in G (σ.1 (mm_R G a0 0) x1.toNatClampNeg) (1 : Int32) (20 : Int32) σ).bind (fun q20 => if q20.1 = 0 then (some (.inl ((5 : Int32), q20.2))) else (some (.inr ((1 : Int32), (0 : Int32), q20.2)))))))
noncomputable def fX4_unfit_s (G : mm_G) (a0 : Nat) (x1 : Int32) : (Int32 × Int32 × mm_M) → Option ((Int32 × mm_M) ⊕ (Int32 × Int32 × mm_M)) := (fun s => fX4_unfit_b32 G a0 x1 s.1 s.2.1 s.2.2)
def PX4_unfit (E : mm_E) (G : mm_G) (a0 : Nat) (x1 : Int32) (q : (Int32 × mm_M)) : (Int32 × Int32 × mm_M) → Prop := (fun s => mm_At E G 4 (mm_Qi E G q) s.2.2 32 [(0, .ref a0), (1, .int x1), (2, .int s.1), (3, .int s.2.1)] [])
noncomputable def fX4_unfit (G : mm_G) (a0 : Nat) (x1 : Int32) (σ : mm_M) : Option (Int32 × mm_M) := mm_run (fX4_unfit_b0 G a0 x1 σ) (fX4_unfit_s G a0 x1)
set_option maxHeartbeats 4000000 in
set_option maxRecDepth 100000 in
theorem wX4_unfit_b32 {E : mm_E} {G : mm_G} (X : mm_Cx E G cX4_unfit 4 RX4 wsX4_unfit rmX4_unfit (some .int)) {a0 : Nat} {x1 : Int32} {x2 : Int32} {x3 : Int32} {σ : mm_M} {q : (Int32 × mm_M)} (ha0 : mm_Is G 4 a0) {o : (Int32 × mm_M) ⊕ (Int32 × Int32 × mm_M)} (h : fX4_unfit_b32 G a0 x1 x2 x3 σ = some o) (hk : mm_Ok q (PX4_unfit E G a0 x1 q) o) : mm_At E G 4 (mm_Qi E G q) σ 32 [(0, .ref a0), (1, .int x1), (2, .int x2), (3, .int x3)] [] := by
  unfold fX4_unfit_b32 at h
  refine at_iload_n (pc := 32) X 3 3 dX4_unfit_32 rfl rfl ?_
  refine at_aload_n (pc := 33) X 0 0 dX4_unfit_33 rfl rfl ?_
  refine at_get (pc := 34) X 4 0 (.ref (mm_R G a0 0)) ha0 (by decide) rfl inX4_unfit_X4 (by decide) lkX4_unfit_0 rfl dX4_unfit_34 ?_
  refine at_iload_n (pc := 37) X 1 1 dX4_unfit_37 rfl rfl ?_
  obtain ⟨hc38, h⟩ := mm_chk h
  refine at_iald (pc := 38) X (wf_4_0 X.wf ha0) hc38 dX4_unfit_38 ?_
  refine at_icmp_ge (pc := 39) X 78 dX4_unfit_39 (by decide) (fun c39 => ?_) (fun c39 => ?_)
  · have h := mm_neg c39 h
    refine at_iload_n (pc := 78) X 2 2 dX4_unfit_78 rfl rfl ?_
    have hj79 : mm_At E G 4 (mm_Qi E G q) σ 87 [] [.int (if x2 = 0 then (3 : Int32) else (0 : Int32))] := by
      exact at_iret (pc := 87) X (mm_inl h hk) dX4_unfit_87
    refine at_if_eq (pc := 79) X 86 dX4_unfit_79 (by decide) (fun c79 => ?_) (fun c79 => ?_)
    · try simp only [if_pos c79] at hj79
      refine at_iconst (pc := 86) X (3 : Int32) dX4_unfit_86 ic_3 ?_
      exact at_sub [] rfl hj79
    · try simp only [if_neg c79] at hj79
      refine at_iconst (pc := 82) X (0 : Int32) dX4_unfit_82 ic_0 ?_
      refine at_goto (pc := 83) X 87 dX4_unfit_83 (by decide) ?_
      exact at_sub [] rfl hj79
  · have h := mm_pos c39 h
    refine at_iload_n (pc := 42) X 2 2 dX4_unfit_42 rfl rfl ?_
    refine at_if_eq (pc := 43) X 70 dX4_unfit_43 (by decide) (fun c43 => ?_) (fun c43 => ?_)
    · have h := mm_pos c43 h
      refine at_iconst (pc := 70) X (0 : Int32) dX4_unfit_70 ic_0 ?_
      refine at_istore_n (pc := 71) X 2 [(2, .int (0 : Int32)), (0, .ref a0), (1, .int x1), (3, .int x3)] dX4_unfit_71 rfl (by decide) rfl ?_
      refine at_iinc (pc := 72) X 3 3 (x3 + 1) [(3, .int (x3 + 1)), (2, .int (0 : Int32)), (0, .ref a0), (1, .int x1)] dX4_unfit_72 rfl (ii_1 _) (by decide) rfl ?_
      refine at_goto (pc := 75) X 32 dX4_unfit_75 (by decide) ?_
      have h2 := mm_inr h hk; exact at_sub [2, 3, 1, 0] rfl h2
    · have h := mm_neg c43 h
      refine at_aload_n (pc := 46) X 0 0 dX4_unfit_46 rfl rfl ?_
      refine at_get (pc := 47) X 4 1 (.ref (mm_R G a0 1)) ha0 (by decide) rfl inX4_unfit_X4 (by decide) lkX4_unfit_1 rfl dX4_unfit_47 ?_
      refine at_bipush (pc := 50) X (40 : Int32) dX4_unfit_50 ib_40 ?_
      refine at_iload_n (pc := 52) X 1 1 dX4_unfit_52 rfl rfl ?_
      refine at_imul (pc := 53) X dX4_unfit_53 ?_
      refine at_iload_n (pc := 54) X 3 3 dX4_unfit_54 rfl rfl ?_
      refine at_iadd (pc := 55) X dX4_unfit_55 ?_
      obtain ⟨hc56, h⟩ := mm_chk h
      refine at_iald (pc := 56) X (wf_4_1 X.wf ha0) hc56 dX4_unfit_56 ?_
      refine at_iconst (pc := 57) X (0 : Int32) dX4_unfit_57 ic_0 ?_
      refine at_bipush (pc := 58) X (7 : Int32) dX4_unfit_58 ib_7 ?_
      obtain ⟨q60, hq60, h⟩ := mm_bind h
      refine at_scalli (n := 3) (pc := 60) X [.int (σ.1 (mm_R G a0 1) (((40 : Int32) * x1) + x3).toNatClampNeg), .int (0 : Int32), .int (7 : Int32)] [] (mX4_in (eL E) X.wf hq60) gX4_unfit_X4_in rfl ⟨rfl, rfl⟩ (by decide +kernel) ⟨by decide, by decide⟩ rfl rfl (Nat.le_of_ble_eq_true rfl) dX4_unfit_60 ?_
      have hj63 : mm_At E G 4 (mm_Qi E G q) q60.2 71 [(0, .ref a0), (1, .int x1), (3, .int x3)] [.int (if q60.1 = 0 then (0 : Int32) else (1 : Int32))] := by
        refine at_istore_n (pc := 71) X 2 [(2, .int (if q60.1 = 0 then (0 : Int32) else (1 : Int32))), (0, .ref a0), (1, .int x1), (3, .int x3)] dX4_unfit_71 rfl (by decide) rfl ?_
        refine at_iinc (pc := 72) X 3 3 (x3 + 1) [(3, .int (x3 + 1)), (2, .int (if q60.1 = 0 then (0 : Int32) else (1 : Int32))), (0, .ref a0), (1, .int x1)] dX4_unfit_72 rfl (ii_1 _) (by decide) rfl ?_
        refine at_goto (pc := 75) X 32 dX4_unfit_75 (by decide) ?_
        have h2 := mm_inr h hk; exact at_sub [2, 3, 1, 0] rfl h2
      refine at_if_eq (pc := 63) X 70 dX4_unfit_63 (by decide) (fun c63 => ?_) (fun c63 => ?_)
      · try simp only [if_pos c63] at hj63
        refine at_iconst (pc := 70) X (0 : Int32) dX4_unfit_70 ic_0 ?_
        exact at_sub [0, 1, 3] rfl hj63
      · try simp only [if_neg c63] at hj63
        refine at_iconst (pc := 66) X (1 : Int32) dX4_unfit_66 ic_1 ?_
        refine at_goto (pc := 67) X 71 dX4_unfit_67 (by decide) ?_
        exact at_sub [0, 1, 3] rfl hj63
set_option maxHeartbeats 4000000 in
set_option maxRecDepth 100000 in
theorem wX4_unfit_b0 {E : mm_E} {G : mm_G} (X : mm_Cx E G cX4_unfit 4 RX4 wsX4_unfit rmX4_unfit (some .int)) {a0 : Nat} {x1 : Int32} {σ : mm_M} {q : (Int32 × mm_M)} (ha0 : mm_Is G 4 a0) {o : (Int32 × mm_M) ⊕ (Int32 × Int32 × mm_M)} (h : fX4_unfit_b0 G a0 x1 σ = some o) (hk : mm_Ok q (PX4_unfit E G a0 x1 q) o) : mm_At E G 4 (mm_Qi E G q) σ 0 [(0, .ref a0), (1, .int x1)] [] := by
  unfold fX4_unfit_b0 at h
  refine at_aload_n (pc := 0) X 0 0 dX4_unfit_0 rfl rfl ?_
  refine at_get (pc := 1) X 4 0 (.ref (mm_R G a0 0)) ha0 (by decide) rfl inX4_unfit_X4 (by decide) lkX4_unfit_0 rfl dX4_unfit_1 ?_
  refine at_iload_n (pc := 4) X 1 1 dX4_unfit_4 rfl rfl ?_
  obtain ⟨hc5, h⟩ := mm_chk h
  refine at_iald (pc := 5) X (wf_4_0 X.wf ha0) hc5 dX4_unfit_5 ?_
  refine at_if_ge (pc := 6) X 11 dX4_unfit_6 (by decide) (fun c6 => ?_) (fun c6 => ?_)
  · have h := mm_neg c6 h
    refine at_aload_n (pc := 11) X 0 0 dX4_unfit_11 rfl rfl ?_
    refine at_get (pc := 12) X 4 0 (.ref (mm_R G a0 0)) ha0 (by decide) rfl inX4_unfit_X4 (by decide) lkX4_unfit_0 rfl dX4_unfit_12 ?_
    refine at_iload_n (pc := 15) X 1 1 dX4_unfit_15 rfl rfl ?_
    obtain ⟨hc16, h⟩ := mm_chk h
    refine at_iald (pc := 16) X (wf_4_0 X.wf ha0) hc16 dX4_unfit_16 ?_
    refine at_iconst (pc := 17) X (1 : Int32) dX4_unfit_17 ic_1 ?_
    refine at_bipush (pc := 18) X (20 : Int32) dX4_unfit_18 ib_20 ?_
    obtain ⟨q20, hq20, h⟩ := mm_bind h
    refine at_scalli (n := 3) (pc := 20) X [.int (σ.1 (mm_R G a0 0) x1.toNatClampNeg), .int (1 : Int32), .int (20 : Int32)] [] (mX4_in (eL E) X.wf hq20) gX4_unfit_X4_in rfl ⟨rfl, rfl⟩ (by decide +kernel) ⟨by decide, by decide⟩ rfl rfl (Nat.le_of_ble_eq_true rfl) dX4_unfit_20 ?_
    refine at_if_ne (pc := 23) X 28 dX4_unfit_23 (by decide) (fun c23 => ?_) (fun c23 => ?_)
    · have h := mm_neg c23 h
      refine at_iconst (pc := 28) X (1 : Int32) dX4_unfit_28 ic_1 ?_
      refine at_istore_n (pc := 29) X 2 [(2, .int (1 : Int32)), (0, .ref a0), (1, .int x1)] dX4_unfit_29 rfl (by decide) rfl ?_
      refine at_iconst (pc := 30) X (0 : Int32) dX4_unfit_30 ic_0 ?_
      refine at_istore_n (pc := 31) X 3 [(3, .int (0 : Int32)), (2, .int (1 : Int32)), (0, .ref a0), (1, .int x1)] dX4_unfit_31 rfl (by decide) rfl ?_
      have h2 := mm_inr h hk; exact at_sub [2, 3, 1, 0] rfl h2
    · have h := mm_pos c23 h
      refine at_iconst (pc := 26) X (5 : Int32) dX4_unfit_26 ic_5 ?_
      exact at_iret (pc := 27) X (mm_inl h hk) dX4_unfit_27
  · have h := mm_pos c6 h
    refine at_iconst (pc := 9) X (1 : Int32) dX4_unfit_9 ic_1 ?_
    exact at_iret (pc := 10) X (mm_inl h hk) dX4_unfit_10
set_option maxHeartbeats 4000000 in
set_option maxRecDepth 100000 in
theorem mX4_unfit (l : Launch) {G : mm_G} (hwf : mm_WF G) {a0 : Nat} {x1 : Int32} {σ : mm_M} {q : (Int32 × mm_M)} (ha0 : mm_Is G 4 a0) (h : fX4_unfit G a0 x1 σ = some q) : mm_Mi l yX4_unfit wsX4_unfit rmX4_unfit G [.ref a0, .int x1] σ q := by
  refine mm_ofi (cc := cX4_unfit) (nL := 4) (ret := some .int) (own := RX4) (lv0 := [(0, .ref a0), (1, .int x1)]) (by decide) rfl rfl (Nat.le_of_ble_eq_true rfl) rfl hwf (fun E hE X => ?_)
  obtain ⟨o, h0, hk⟩ := mm_run_ok (P := PX4_unfit E G a0 x1 q) h (fun s o hs hk => by exact wX4_unfit_b32 X ha0 hs hk)
  exact wX4_unfit_b0 X ha0 h0 hk
set_option maxRecDepth 20000 in
theorem ggX4_fitting_X4_copies : GoodIn wsX4_fitting wsX4_copies := goodIn_r _ [8] (by decide +kernel) (by decide +kernel)
set_option maxRecDepth 20000 in
theorem gX4_fitting_X4_copies : GoodIn wsX4_fitting (va_wsS RX4 165 yX4_copies wsX4_copies) := goodIn_app (goodIn_of _ (by decide +kernel)) ggX4_fitting_X4_copies
set_option maxRecDepth 20000 in
theorem ggX4_fitting_X4_goes : GoodIn wsX4_fitting wsX4_goes := goodIn_r _ [11, 12, 13, 7, 14, 15, 16, 17, 18, 19, 20, 21, 22, 23, 24, 25, 26, 27, 28, 29, 30, 31, 32, 33, 34, 35, 36, 37, 38] (by decide +kernel) (by decide +kernel)
set_option maxRecDepth 20000 in
theorem gX4_fitting_X4_goes : GoodIn wsX4_fitting (va_wsS RX4 159 yX4_goes wsX4_goes) := goodIn_app (goodIn_of _ (by decide +kernel)) ggX4_fitting_X4_goes
set_option maxRecDepth 20000 in
theorem ggX4_fitting_X4_ones : GoodIn wsX4_fitting wsX4_ones := goodIn_r _ [26] (by decide +kernel) (by decide +kernel)
set_option maxRecDepth 20000 in
theorem gX4_fitting_X4_ones : GoodIn wsX4_fitting (va_wsS RX4 149 yX4_ones wsX4_ones) := goodIn_app (goodIn_of _ (by decide +kernel)) ggX4_fitting_X4_ones
theorem dX4_fitting_0 : decode cX4_fitting 0 = .ok (.iconst 0, 1) := by decide +kernel
theorem dX4_fitting_1 : decode cX4_fitting 1 = .ok (.istore 5, 2) := by decide +kernel
theorem dX4_fitting_3 : decode cX4_fitting 3 = .ok (.iconst 0, 1) := by decide +kernel
theorem dX4_fitting_4 : decode cX4_fitting 4 = .ok (.istore 6, 2) := by decide +kernel
theorem dX4_fitting_6 : decode cX4_fitting 6 = .ok (.iload 6, 2) := by decide +kernel
theorem dX4_fitting_8 : decode cX4_fitting 8 = .ok (.iload_n 2, 1) := by decide +kernel
theorem dX4_fitting_9 : decode cX4_fitting 9 = .ok (.if_icmp .gt 110, 3) := by decide +kernel
theorem dX4_fitting_12 : decode cX4_fitting 12 = .ok (.aload_n 0, 1) := by decide +kernel
theorem dX4_fitting_13 : decode cX4_fitting 13 = .ok (.getfield 26, 3) := by decide +kernel
theorem dX4_fitting_16 : decode cX4_fitting 16 = .ok (.aload_n 0, 1) := by decide +kernel
theorem dX4_fitting_17 : decode cX4_fitting 17 = .ok (.getfield 32, 3) := by decide +kernel
theorem dX4_fitting_20 : decode cX4_fitting 20 = .ok (.invokestatic 165, 3) := by decide +kernel
theorem dX4_fitting_23 : decode cX4_fitting 23 = .ok (.aload_n 0, 1) := by decide +kernel
theorem dX4_fitting_24 : decode cX4_fitting 24 = .ok (.getfield 32, 3) := by decide +kernel
theorem dX4_fitting_27 : decode cX4_fitting 27 = .ok (.iload_n 1, 1) := by decide +kernel
theorem dX4_fitting_28 : decode cX4_fitting 28 = .ok (.iload_n 3, 1) := by decide +kernel
theorem dX4_fitting_29 : decode cX4_fitting 29 = .ok (.iadd, 1) := by decide +kernel
theorem dX4_fitting_30 : decode cX4_fitting 30 = .ok (.iload 6, 2) := by decide +kernel
theorem dX4_fitting_32 : decode cX4_fitting 32 = .ok (.iastore, 1) := by decide +kernel
theorem dX4_fitting_33 : decode cX4_fitting 33 = .ok (.iconst 1, 1) := by decide +kernel
theorem dX4_fitting_34 : decode cX4_fitting 34 = .ok (.istore 7, 2) := by decide +kernel
theorem dX4_fitting_36 : decode cX4_fitting 36 = .ok (.iconst 0, 1) := by decide +kernel
theorem dX4_fitting_37 : decode cX4_fitting 37 = .ok (.istore 8, 2) := by decide +kernel
theorem dX4_fitting_39 : decode cX4_fitting 39 = .ok (.iload 8, 2) := by decide +kernel
theorem dX4_fitting_41 : decode cX4_fitting 41 = .ok (.aload_n 0, 1) := by decide +kernel
theorem dX4_fitting_42 : decode cX4_fitting 42 = .ok (.getfield 7, 3) := by decide +kernel
theorem dX4_fitting_45 : decode cX4_fitting 45 = .ok (.iload 4, 2) := by decide +kernel
theorem dX4_fitting_47 : decode cX4_fitting 47 = .ok (.iaload, 1) := by decide +kernel
theorem dX4_fitting_48 : decode cX4_fitting 48 = .ok (.if_icmp .ge 47, 3) := by decide +kernel
theorem dX4_fitting_51 : decode cX4_fitting 51 = .ok (.aload_n 0, 1) := by decide +kernel
theorem dX4_fitting_52 : decode cX4_fitting 52 = .ok (.getfield 32, 3) := by decide +kernel
theorem dX4_fitting_55 : decode cX4_fitting 55 = .ok (.invokestatic 159, 3) := by decide +kernel
theorem dX4_fitting_58 : decode cX4_fitting 58 = .ok (.invokestatic 149, 3) := by decide +kernel
theorem dX4_fitting_61 : decode cX4_fitting 61 = .ok (.aload_n 0, 1) := by decide +kernel
theorem dX4_fitting_62 : decode cX4_fitting 62 = .ok (.getfield 13, 3) := by decide +kernel
theorem dX4_fitting_65 : decode cX4_fitting 65 = .ok (.bipush 40, 2) := by decide +kernel
theorem dX4_fitting_67 : decode cX4_fitting 67 = .ok (.iload 4, 2) := by decide +kernel
theorem dX4_fitting_69 : decode cX4_fitting 69 = .ok (.imul, 1) := by decide +kernel
theorem dX4_fitting_70 : decode cX4_fitting 70 = .ok (.iload 8, 2) := by decide +kernel
theorem dX4_fitting_72 : decode cX4_fitting 72 = .ok (.iadd, 1) := by decide +kernel
theorem dX4_fitting_73 : decode cX4_fitting 73 = .ok (.iaload, 1) := by decide +kernel
theorem dX4_fitting_74 : decode cX4_fitting 74 = .ok (.if_icmp .ne 12, 3) := by decide +kernel
theorem dX4_fitting_77 : decode cX4_fitting 77 = .ok (.iload 7, 2) := by decide +kernel
theorem dX4_fitting_79 : decode cX4_fitting 79 = .ok (.ifCond .eq 7, 3) := by decide +kernel
theorem dX4_fitting_82 : decode cX4_fitting 82 = .ok (.iconst 1, 1) := by decide +kernel
theorem dX4_fitting_83 : decode cX4_fitting 83 = .ok (.goto 4, 3) := by decide +kernel
theorem dX4_fitting_86 : decode cX4_fitting 86 = .ok (.iconst 0, 1) := by decide +kernel
theorem dX4_fitting_87 : decode cX4_fitting 87 = .ok (.istore 7, 2) := by decide +kernel
theorem dX4_fitting_89 : decode cX4_fitting 89 = .ok (.iinc 8 1, 3) := by decide +kernel
theorem dX4_fitting_92 : decode cX4_fitting 92 = .ok (.goto (-53), 3) := by decide +kernel
theorem dX4_fitting_95 : decode cX4_fitting 95 = .ok (.iload 5, 2) := by decide +kernel
theorem dX4_fitting_97 : decode cX4_fitting 97 = .ok (.iload 7, 2) := by decide +kernel
theorem dX4_fitting_99 : decode cX4_fitting 99 = .ok (.ifCond .eq 10, 3) := by decide +kernel
theorem dX4_fitting_102 : decode cX4_fitting 102 = .ok (.iconst 1, 1) := by decide +kernel
theorem dX4_fitting_103 : decode cX4_fitting 103 = .ok (.iload 6, 2) := by decide +kernel
theorem dX4_fitting_105 : decode cX4_fitting 105 = .ok (.ishl, 1) := by decide +kernel
theorem dX4_fitting_106 : decode cX4_fitting 106 = .ok (.goto 4, 3) := by decide +kernel
theorem dX4_fitting_109 : decode cX4_fitting 109 = .ok (.iconst 0, 1) := by decide +kernel
theorem dX4_fitting_110 : decode cX4_fitting 110 = .ok (.ior, 1) := by decide +kernel
theorem dX4_fitting_111 : decode cX4_fitting 111 = .ok (.istore 5, 2) := by decide +kernel
theorem dX4_fitting_113 : decode cX4_fitting 113 = .ok (.iinc 6 1, 3) := by decide +kernel
theorem dX4_fitting_116 : decode cX4_fitting 116 = .ok (.goto (-110), 3) := by decide +kernel
theorem dX4_fitting_119 : decode cX4_fitting 119 = .ok (.iload 5, 2) := by decide +kernel
theorem dX4_fitting_121 : decode cX4_fitting 121 = .ok (.ireturn, 1) := by decide +kernel
/-! X4_fitting (IIII)I -/
abbrev rmX4_fitting : Room := { frames := 5, cells := 0, slots := 0, locals := 113 }
theorem lkX4_fitting_0 : Cond.fieldLink RX4 26 (TX4 5).1 (TX4 5).2.1 (TX4 5).2.2.1 ∈ wsX4_fitting := by decide +kernel
theorem lkX4_fitting_1 : Cond.fieldLink RX4 32 (TX4 7).1 (TX4 7).2.1 (TX4 7).2.2.1 ∈ wsX4_fitting := by decide +kernel
theorem lkX4_fitting_2 : Cond.fieldLink RX4 7 (TX4 0).1 (TX4 0).2.1 (TX4 0).2.2.1 ∈ wsX4_fitting := by decide +kernel
theorem lkX4_fitting_3 : Cond.fieldLink RX4 13 (TX4 1).1 (TX4 1).2.1 (TX4 1).2.2.1 ∈ wsX4_fitting := by decide +kernel
theorem inX4_fitting_X4 : ∀ w ∈ u_ws RX4 TX4 22, w ∈ wsX4_fitting := by decide +kernel
noncomputable def fX4_fitting_b110 (G : mm_G) (a0 : Nat) (x1 : Int32) (x2 : Int32) (x3 : Int32) (x4 : Int32) (x6 : Int32) (sx0 : Int32) (sx1 : Int32) (σ : mm_M) : Option ((Int32 × mm_M) ⊕ ((Int32 × Int32 × mm_M) ⊕ (Int32 × Int32 × Int32 × Int32 × mm_M))) := some (.inr (.inl (sx1 ||| sx0, x6 + 1, σ)))
noncomputable def fX4_fitting_b39 (G : mm_G) (a0 : Nat) (x1 : Int32) (x2 : Int32) (x3 : Int32) (x4 : Int32) (x5 : Int32) (x6 : Int32) (x7 : Int32) (x8 : Int32) (σ : mm_M) : Option ((Int32 × mm_M) ⊕ ((Int32 × Int32 × mm_M) ⊕ (Int32 × Int32 × Int32 × Int32 × mm_M))) := if x4 < 0 ∨ mm_N G (mm_R G a0 0) ≤ x4.toNatClampNeg then none else (if x8 < (σ.1 (mm_R G a0 0) x4.toNatClampNeg) then ((fX4_goes G (mm_R G a0 7) σ).bind (fun q55 => (fX4_ones G q55.1 q55.2).bind (fun q58 => if (((40 : Int32) * x4) + x8) < 0 ∨ mm_N G (mm_R G a0 1) ≤ (((40 : Int32) * x4) + x8).toNatClampNeg then none else (some (.inr (.inr (x5, x6, if q58.1 = (q58.2.1 (mm_R G a0 1) (((40 : Int32) * x4) + x8).toNatClampNeg) then if x7 = 0 then (0 : Int32) else (1 : Int32) else (0 : Int32), x8 + 1, q58.2))))))) else (fX4_fitting_b110 G a0 x1 x2 x3 x4 x6 (if x7 = 0 then (0 : Int32) else (1 : Int32) <<< (x6 &&& 31)) x5 σ))
noncomputable def fX4_fitting_b6 (G : mm_G) (a0 : Nat) (x1 : Int32) (x2 : Int32) (x3 : Int32) (x4 : Int32) (x5 : Int32) (x6 : Int32) (σ : mm_M) : Option ((Int32 × mm_M) ⊕ ((Int32 × Int32 × mm_M) ⊕ (Int32 × Int32 × Int32 × Int32 × mm_M))) := if x2 < x6 then (some (.inl (x5, σ))) else ((fX4_copies G (mm_R G a0 5) (mm_R G a0 7) σ).bind (fun q20 => if (x1 + x3) < 0 ∨ mm_N G (mm_R G a0 7) ≤ (x1 + x3).toNatClampNeg then none else (some (.inr (.inr (x5, x6, (1 : Int32), (0 : Int32), mm_up q20 (mm_R G a0 7) (x1 + x3).toNatClampNeg x6))))))
noncomputable def fX4_fitting_b0 (G : mm_G) (a0 : Nat) (x1 : Int32) (x2 : Int32) (x3 : Int32) (x4 : Int32) (σ : mm_M) : Option ((Int32 × mm_M) ⊕ ((Int32 × Int32 × mm_M) ⊕ (Int32 × Int32 × Int32 × Int32 × mm_M))) := some (.inr (.inl ((0 : Int32), (0 : Int32), σ)))
noncomputable def fX4_fitting_s (G : mm_G) (a0 : Nat) (x1 : Int32) (x2 : Int32) (x3 : Int32) (x4 : Int32) : ((Int32 × Int32 × mm_M) ⊕ (Int32 × Int32 × Int32 × Int32 × mm_M)) → Option ((Int32 × mm_M) ⊕ ((Int32 × Int32 × mm_M) ⊕ (Int32 × Int32 × Int32 × Int32 × mm_M))) := (Sum.elim (fun s => fX4_fitting_b6 G a0 x1 x2 x3 x4 s.1 s.2.1 s.2.2) (fun s => fX4_fitting_b39 G a0 x1 x2 x3 x4 s.1 s.2.1 s.2.2.1 s.2.2.2.1 s.2.2.2.2))
def PX4_fitting (E : mm_E) (G : mm_G) (a0 : Nat) (x1 : Int32) (x2 : Int32) (x3 : Int32) (x4 : Int32) (q : (Int32 × mm_M)) : ((Int32 × Int32 × mm_M) ⊕ (Int32 × Int32 × Int32 × Int32 × mm_M)) → Prop := (Sum.elim (fun s => mm_At E G 9 (mm_Qi E G q) s.2.2 6 [(0, .ref a0), (1, .int x1), (2, .int x2), (3, .int x3), (4, .int x4), (5, .int s.1), (6, .int s.2.1)] []) (fun s => mm_At E G 9 (mm_Qi E G q) s.2.2.2.2 39 [(0, .ref a0), (1, .int x1), (2, .int x2), (3, .int x3), (4, .int x4), (5, .int s.1), (6, .int s.2.1), (7, .int s.2.2.1), (8, .int s.2.2.2.1)] []))
noncomputable def fX4_fitting (G : mm_G) (a0 : Nat) (x1 : Int32) (x2 : Int32) (x3 : Int32) (x4 : Int32) (σ : mm_M) : Option (Int32 × mm_M) := mm_run (fX4_fitting_b0 G a0 x1 x2 x3 x4 σ) (fX4_fitting_s G a0 x1 x2 x3 x4)
set_option maxHeartbeats 4000000 in
set_option maxRecDepth 100000 in
theorem wX4_fitting_b110 {E : mm_E} {G : mm_G} (X : mm_Cx E G cX4_fitting 9 RX4 wsX4_fitting rmX4_fitting (some .int)) {a0 : Nat} {x1 : Int32} {x2 : Int32} {x3 : Int32} {x4 : Int32} {x6 : Int32} {sx0 : Int32} {sx1 : Int32} {σ : mm_M} {q : (Int32 × mm_M)} (ha0 : mm_Is G 4 a0) {o : (Int32 × mm_M) ⊕ ((Int32 × Int32 × mm_M) ⊕ (Int32 × Int32 × Int32 × Int32 × mm_M))} (h : fX4_fitting_b110 G a0 x1 x2 x3 x4 x6 sx0 sx1 σ = some o) (hk : mm_Ok q (PX4_fitting E G a0 x1 x2 x3 x4 q) o) : mm_At E G 9 (mm_Qi E G q) σ 110 [(0, .ref a0), (1, .int x1), (2, .int x2), (3, .int x3), (4, .int x4), (6, .int x6)] [.int sx0, .int sx1] := by
  unfold fX4_fitting_b110 at h
  refine at_ior (pc := 110) X dX4_fitting_110 ?_
  refine at_istore (pc := 111) X 5 [(5, .int (sx1 ||| sx0)), (0, .ref a0), (1, .int x1), (2, .int x2), (3, .int x3), (4, .int x4), (6, .int x6)] dX4_fitting_111 (by decide) rfl ?_
  refine at_iinc (pc := 113) X 6 6 (x6 + 1) [(6, .int (x6 + 1)), (5, .int (sx1 ||| sx0)), (0, .ref a0), (1, .int x1), (2, .int x2), (3, .int x3), (4, .int x4)] dX4_fitting_113 rfl (ii_1 _) (by decide) rfl ?_
  refine at_goto (pc := 116) X 6 dX4_fitting_116 (by decide) ?_
  have h2 := mm_inr h hk; exact at_sub [2, 3, 4, 5, 6, 1, 0] rfl h2
set_option maxHeartbeats 4000000 in
set_option maxRecDepth 100000 in
theorem wX4_fitting_b39 {E : mm_E} {G : mm_G} (X : mm_Cx E G cX4_fitting 9 RX4 wsX4_fitting rmX4_fitting (some .int)) {a0 : Nat} {x1 : Int32} {x2 : Int32} {x3 : Int32} {x4 : Int32} {x5 : Int32} {x6 : Int32} {x7 : Int32} {x8 : Int32} {σ : mm_M} {q : (Int32 × mm_M)} (ha0 : mm_Is G 4 a0) {o : (Int32 × mm_M) ⊕ ((Int32 × Int32 × mm_M) ⊕ (Int32 × Int32 × Int32 × Int32 × mm_M))} (h : fX4_fitting_b39 G a0 x1 x2 x3 x4 x5 x6 x7 x8 σ = some o) (hk : mm_Ok q (PX4_fitting E G a0 x1 x2 x3 x4 q) o) : mm_At E G 9 (mm_Qi E G q) σ 39 [(0, .ref a0), (1, .int x1), (2, .int x2), (3, .int x3), (4, .int x4), (5, .int x5), (6, .int x6), (7, .int x7), (8, .int x8)] [] := by
  unfold fX4_fitting_b39 at h
  refine at_iload (pc := 39) X 8 8 dX4_fitting_39 rfl ?_
  refine at_aload_n (pc := 41) X 0 0 dX4_fitting_41 rfl rfl ?_
  refine at_get (pc := 42) X 4 0 (.ref (mm_R G a0 0)) ha0 (by decide) rfl inX4_fitting_X4 (by decide) lkX4_fitting_2 rfl dX4_fitting_42 ?_
  refine at_iload (pc := 45) X 4 4 dX4_fitting_45 rfl ?_
  obtain ⟨hc47, h⟩ := mm_chk h
  refine at_iald (pc := 47) X (wf_4_0 X.wf ha0) hc47 dX4_fitting_47 ?_
  refine at_icmp_ge (pc := 48) X 95 dX4_fitting_48 (by decide) (fun c48 => ?_) (fun c48 => ?_)
  · have h := mm_neg c48 h
    refine at_iload (pc := 95) X 5 5 dX4_fitting_95 rfl ?_
    refine at_iload (pc := 97) X 7 7 dX4_fitting_97 rfl ?_
    have hj99 : mm_At E G 9 (mm_Qi E G q) σ 110 [(0, .ref a0), (1, .int x1), (2, .int x2), (3, .int x3), (4, .int x4), (6, .int x6)] [.int (if x7 = 0 then (0 : Int32) else (1 : Int32) <<< (x6 &&& 31)), .int x5] := by
      exact at_sub [0, 1, 2, 3, 4, 5] rfl (wX4_fitting_b110 X ha0 h hk)
    refine at_if_eq (pc := 99) X 109 dX4_fitting_99 (by decide) (fun c99 => ?_) (fun c99 => ?_)
    · try simp only [if_pos c99] at hj99
      refine at_iconst (pc := 109) X (0 : Int32) dX4_fitting_109 ic_0 ?_
      exact at_sub [0, 1, 2, 3, 4, 6] rfl hj99
    · try simp only [if_neg c99] at hj99
      refine at_iconst (pc := 102) X (1 : Int32) dX4_fitting_102 ic_1 ?_
      refine at_iload (pc := 103) X 6 6 dX4_fitting_103 rfl ?_
      refine at_ishl (pc := 105) X dX4_fitting_105 ?_
      refine at_goto (pc := 106) X 110 dX4_fitting_106 (by decide) ?_
      exact at_sub [0, 1, 2, 3, 4, 6] rfl hj99
  · have h := mm_pos c48 h
    refine at_aload_n (pc := 51) X 0 0 dX4_fitting_51 rfl rfl ?_
    refine at_get (pc := 52) X 4 7 (.ref (mm_R G a0 7)) ha0 (by decide) rfl inX4_fitting_X4 (by decide) lkX4_fitting_1 rfl dX4_fitting_52 ?_
    obtain ⟨q55, hq55, h⟩ := mm_bind h
    refine at_scalli (n := 1) (pc := 55) X [.ref (mm_R G a0 7)] [] (mX4_goes (eL E) X.wf (wf_4_7 X.wf ha0) hq55) gX4_fitting_X4_goes rfl ⟨rfl, rfl⟩ (by decide +kernel) ⟨by decide, by decide⟩ rfl rfl (Nat.le_of_ble_eq_true rfl) dX4_fitting_55 ?_
    obtain ⟨q58, hq58, h⟩ := mm_bind h
    refine at_scalli (n := 1) (pc := 58) X [.int q55.1] [] (mX4_ones (eL E) X.wf hq58) gX4_fitting_X4_ones rfl ⟨rfl, rfl⟩ (by decide +kernel) ⟨by decide, by decide⟩ rfl rfl (Nat.le_of_ble_eq_true rfl) dX4_fitting_58 ?_
    refine at_aload_n (pc := 61) X 0 0 dX4_fitting_61 rfl rfl ?_
    refine at_get (pc := 62) X 4 1 (.ref (mm_R G a0 1)) ha0 (by decide) rfl inX4_fitting_X4 (by decide) lkX4_fitting_3 rfl dX4_fitting_62 ?_
    refine at_bipush (pc := 65) X (40 : Int32) dX4_fitting_65 ib_40 ?_
    refine at_iload (pc := 67) X 4 4 dX4_fitting_67 rfl ?_
    refine at_imul (pc := 69) X dX4_fitting_69 ?_
    refine at_iload (pc := 70) X 8 8 dX4_fitting_70 rfl ?_
    refine at_iadd (pc := 72) X dX4_fitting_72 ?_
    obtain ⟨hc73, h⟩ := mm_chk h
    refine at_iald (pc := 73) X (wf_4_1 X.wf ha0) hc73 dX4_fitting_73 ?_
    have hj74 : mm_At E G 9 (mm_Qi E G q) q58.2 87 [(0, .ref a0), (1, .int x1), (2, .int x2), (3, .int x3), (4, .int x4), (5, .int x5), (6, .int x6), (8, .int x8)] [.int (if q58.1 = (q58.2.1 (mm_R G a0 1) (((40 : Int32) * x4) + x8).toNatClampNeg) then if x7 = 0 then (0 : Int32) else (1 : Int32) else (0 : Int32))] := by
      refine at_istore (pc := 87) X 7 [(7, .int (if q58.1 = (q58.2.1 (mm_R G a0 1) (((40 : Int32) * x4) + x8).toNatClampNeg) then if x7 = 0 then (0 : Int32) else (1 : Int32) else (0 : Int32))), (0, .ref a0), (1, .int x1), (2, .int x2), (3, .int x3), (4, .int x4), (5, .int x5), (6, .int x6), (8, .int x8)] dX4_fitting_87 (by decide) rfl ?_
      refine at_iinc (pc := 89) X 8 8 (x8 + 1) [(8, .int (x8 + 1)), (7, .int (if q58.1 = (q58.2.1 (mm_R G a0 1) (((40 : Int32) * x4) + x8).toNatClampNeg) then if x7 = 0 then (0 : Int32) else (1 : Int32) else (0 : Int32))), (0, .ref a0), (1, .int x1), (2, .int x2), (3, .int x3), (4, .int x4), (5, .int x5), (6, .int x6)] dX4_fitting_89 rfl (ii_1 _) (by decide) rfl ?_
      refine at_goto (pc := 92) X 39 dX4_fitting_92 (by decide) ?_
      have h2 := mm_inr h hk; exact at_sub [2, 3, 4, 5, 6, 7, 8, 1, 0] rfl h2
    refine at_icmp_ne (pc := 74) X 86 dX4_fitting_74 (by decide) (fun c74 => ?_) (fun c74 => ?_)
    · try simp only [if_neg c74] at hj74
      refine at_iconst (pc := 86) X (0 : Int32) dX4_fitting_86 ic_0 ?_
      exact at_sub [0, 1, 2, 3, 4, 5, 6, 8] rfl hj74
    · try simp only [if_pos c74] at hj74
      refine at_iload (pc := 77) X 7 7 dX4_fitting_77 rfl ?_
      refine at_if_eq (pc := 79) X 86 dX4_fitting_79 (by decide) (fun c79 => ?_) (fun c79 => ?_)
      · try simp only [if_pos c79] at hj74
        refine at_iconst (pc := 86) X (0 : Int32) dX4_fitting_86 ic_0 ?_
        exact at_sub [0, 1, 2, 3, 4, 5, 6, 8] rfl hj74
      · try simp only [if_neg c79] at hj74
        refine at_iconst (pc := 82) X (1 : Int32) dX4_fitting_82 ic_1 ?_
        refine at_goto (pc := 83) X 87 dX4_fitting_83 (by decide) ?_
        exact at_sub [0, 1, 2, 3, 4, 5, 6, 8] rfl hj74
set_option maxHeartbeats 4000000 in
set_option maxRecDepth 100000 in
theorem wX4_fitting_b6 {E : mm_E} {G : mm_G} (X : mm_Cx E G cX4_fitting 9 RX4 wsX4_fitting rmX4_fitting (some .int)) {a0 : Nat} {x1 : Int32} {x2 : Int32} {x3 : Int32} {x4 : Int32} {x5 : Int32} {x6 : Int32} {σ : mm_M} {q : (Int32 × mm_M)} (ha0 : mm_Is G 4 a0) {o : (Int32 × mm_M) ⊕ ((Int32 × Int32 × mm_M) ⊕ (Int32 × Int32 × Int32 × Int32 × mm_M))} (h : fX4_fitting_b6 G a0 x1 x2 x3 x4 x5 x6 σ = some o) (hk : mm_Ok q (PX4_fitting E G a0 x1 x2 x3 x4 q) o) : mm_At E G 9 (mm_Qi E G q) σ 6 [(0, .ref a0), (1, .int x1), (2, .int x2), (3, .int x3), (4, .int x4), (5, .int x5), (6, .int x6)] [] := by
  unfold fX4_fitting_b6 at h
  refine at_iload (pc := 6) X 6 6 dX4_fitting_6 rfl ?_
  refine at_iload_n (pc := 8) X 2 2 dX4_fitting_8 rfl rfl ?_
  refine at_icmp_gt (pc := 9) X 119 dX4_fitting_9 (by decide) (fun c9 => ?_) (fun c9 => ?_)
  · have h := mm_pos c9 h
    refine at_iload (pc := 119) X 5 5 dX4_fitting_119 rfl ?_
    exact at_iret (pc := 121) X (mm_inl h hk) dX4_fitting_121
  · have h := mm_neg c9 h
    refine at_aload_n (pc := 12) X 0 0 dX4_fitting_12 rfl rfl ?_
    refine at_get (pc := 13) X 4 5 (.ref (mm_R G a0 5)) ha0 (by decide) rfl inX4_fitting_X4 (by decide) lkX4_fitting_0 rfl dX4_fitting_13 ?_
    refine at_aload_n (pc := 16) X 0 0 dX4_fitting_16 rfl rfl ?_
    refine at_get (pc := 17) X 4 7 (.ref (mm_R G a0 7)) ha0 (by decide) rfl inX4_fitting_X4 (by decide) lkX4_fitting_1 rfl dX4_fitting_17 ?_
    obtain ⟨q20, hq20, h⟩ := mm_bind h
    refine at_scallv (n := 2) (pc := 20) X [.ref (mm_R G a0 5), .ref (mm_R G a0 7)] [] (mX4_copies (eL E) X.wf (wf_4_5 X.wf ha0) (wf_4_7 X.wf ha0) hq20) gX4_fitting_X4_copies rfl ⟨rfl, rfl⟩ (by decide +kernel) ⟨by decide, by decide⟩ rfl rfl (Nat.le_of_ble_eq_true rfl) dX4_fitting_20 ?_
    refine at_aload_n (pc := 23) X 0 0 dX4_fitting_23 rfl rfl ?_
    refine at_get (pc := 24) X 4 7 (.ref (mm_R G a0 7)) ha0 (by decide) rfl inX4_fitting_X4 (by decide) lkX4_fitting_1 rfl dX4_fitting_24 ?_
    refine at_iload_n (pc := 27) X 1 1 dX4_fitting_27 rfl rfl ?_
    refine at_iload_n (pc := 28) X 3 3 dX4_fitting_28 rfl rfl ?_
    refine at_iadd (pc := 29) X dX4_fitting_29 ?_
    refine at_iload (pc := 30) X 6 6 dX4_fitting_30 rfl ?_
    obtain ⟨hc32, h⟩ := mm_chk h
    refine at_iast (pc := 32) X (wf_4_7 X.wf ha0) hc32 dX4_fitting_32 ?_
    refine at_iconst (pc := 33) X (1 : Int32) dX4_fitting_33 ic_1 ?_
    refine at_istore (pc := 34) X 7 [(7, .int (1 : Int32)), (0, .ref a0), (1, .int x1), (2, .int x2), (3, .int x3), (4, .int x4), (5, .int x5), (6, .int x6)] dX4_fitting_34 (by decide) rfl ?_
    refine at_iconst (pc := 36) X (0 : Int32) dX4_fitting_36 ic_0 ?_
    refine at_istore (pc := 37) X 8 [(8, .int (0 : Int32)), (7, .int (1 : Int32)), (0, .ref a0), (1, .int x1), (2, .int x2), (3, .int x3), (4, .int x4), (5, .int x5), (6, .int x6)] dX4_fitting_37 (by decide) rfl ?_
    have h2 := mm_inr h hk; exact at_sub [2, 3, 4, 5, 6, 7, 8, 1, 0] rfl h2
set_option maxHeartbeats 4000000 in
set_option maxRecDepth 100000 in
theorem wX4_fitting_b0 {E : mm_E} {G : mm_G} (X : mm_Cx E G cX4_fitting 9 RX4 wsX4_fitting rmX4_fitting (some .int)) {a0 : Nat} {x1 : Int32} {x2 : Int32} {x3 : Int32} {x4 : Int32} {σ : mm_M} {q : (Int32 × mm_M)} (ha0 : mm_Is G 4 a0) {o : (Int32 × mm_M) ⊕ ((Int32 × Int32 × mm_M) ⊕ (Int32 × Int32 × Int32 × Int32 × mm_M))} (h : fX4_fitting_b0 G a0 x1 x2 x3 x4 σ = some o) (hk : mm_Ok q (PX4_fitting E G a0 x1 x2 x3 x4 q) o) : mm_At E G 9 (mm_Qi E G q) σ 0 [(0, .ref a0), (1, .int x1), (2, .int x2), (3, .int x3), (4, .int x4)] [] := by
  unfold fX4_fitting_b0 at h
  refine at_iconst (pc := 0) X (0 : Int32) dX4_fitting_0 ic_0 ?_
  refine at_istore (pc := 1) X 5 [(5, .int (0 : Int32)), (0, .ref a0), (1, .int x1), (2, .int x2), (3, .int x3), (4, .int x4)] dX4_fitting_1 (by decide) rfl ?_
  refine at_iconst (pc := 3) X (0 : Int32) dX4_fitting_3 ic_0 ?_
  refine at_istore (pc := 4) X 6 [(6, .int (0 : Int32)), (5, .int (0 : Int32)), (0, .ref a0), (1, .int x1), (2, .int x2), (3, .int x3), (4, .int x4)] dX4_fitting_4 (by decide) rfl ?_
  have h2 := mm_inr h hk; exact at_sub [2, 3, 4, 5, 6, 1, 0] rfl h2
set_option maxHeartbeats 4000000 in
set_option maxRecDepth 100000 in
theorem mX4_fitting (l : Launch) {G : mm_G} (hwf : mm_WF G) {a0 : Nat} {x1 : Int32} {x2 : Int32} {x3 : Int32} {x4 : Int32} {σ : mm_M} {q : (Int32 × mm_M)} (ha0 : mm_Is G 4 a0) (h : fX4_fitting G a0 x1 x2 x3 x4 σ = some q) : mm_Mi l yX4_fitting wsX4_fitting rmX4_fitting G [.ref a0, .int x1, .int x2, .int x3, .int x4] σ q := by
  refine mm_ofi (cc := cX4_fitting) (nL := 9) (ret := some .int) (own := RX4) (lv0 := [(0, .ref a0), (1, .int x1), (2, .int x2), (3, .int x3), (4, .int x4)]) (by decide) rfl rfl (Nat.le_of_ble_eq_true rfl) rfl hwf (fun E hE X => ?_)
  obtain ⟨o, h0, hk⟩ := mm_run_ok (P := PX4_fitting E G a0 x1 x2 x3 x4 q) h (fun s o hs hk => by cases s with | inl s => exact wX4_fitting_b6 X ha0 hs hk | inr s => (exact wX4_fitting_b39 X ha0 hs hk))
  exact wX4_fitting_b0 X ha0 h0 hk
set_option maxRecDepth 20000 in
theorem ggX4_kinds_X4_isStation : GoodIn wsX4_kinds wsX4_isStation := goodIn_r _ [5, 6, 7, 8, 4, 9, 63, 64, 65, 66, 67, 68, 69, 70, 71, 72, 73, 74, 75, 76, 77, 78, 79, 80, 81, 82, 83, 84] (by decide +kernel) (by decide +kernel)
set_option maxRecDepth 20000 in
theorem gX4_kinds_X4_isStation : GoodIn wsX4_kinds (wsV RX4 132 RX4 yX4_isStation wsX4_isStation) := goodIn_app (goodIn_of _ (by decide +kernel)) ggX4_kinds_X4_isStation
set_option maxRecDepth 20000 in
theorem ggX4_kinds_X4_isRow : GoodIn wsX4_kinds wsX4_isRow := goodIn_r _ [12, 7, 8, 4, 9] (by decide +kernel) (by decide +kernel)
set_option maxRecDepth 20000 in
theorem gX4_kinds_X4_isRow : GoodIn wsX4_kinds (va_wsS RX4 77 yX4_isRow wsX4_isRow) := goodIn_app (goodIn_of _ (by decide +kernel)) ggX4_kinds_X4_isRow
set_option maxRecDepth 20000 in
theorem ggX4_kinds_X4_unfit : GoodIn wsX4_kinds wsX4_unfit := goodIn_r _ [16, 17, 18, 7, 8, 4, 9, 63, 64, 65, 66, 67, 68, 69, 70, 71, 72, 73, 74, 75, 76, 77, 78, 79, 80, 81, 82, 83, 84] (by decide +kernel) (by decide +kernel)
set_option maxRecDepth 20000 in
theorem gX4_kinds_X4_unfit : GoodIn wsX4_kinds (wsV RX4 175 RX4 yX4_unfit wsX4_unfit) := goodIn_app (goodIn_of _ (by decide +kernel)) ggX4_kinds_X4_unfit
set_option maxRecDepth 20000 in
theorem ggX4_kinds_X4_finds : GoodIn wsX4_kinds wsX4_finds := goodIn_r _ [22, 23, 24, 63, 64, 65, 66, 67, 68, 69, 70, 71, 72, 73, 74, 75, 76, 77, 78, 79, 80, 81, 82, 83, 84] (by decide +kernel) (by decide +kernel)
set_option maxRecDepth 20000 in
theorem gX4_kinds_X4_finds : GoodIn wsX4_kinds (wsV RX4 81 RX4 yX4_finds wsX4_finds) := goodIn_app (goodIn_of _ (by decide +kernel)) ggX4_kinds_X4_finds
set_option maxRecDepth 20000 in
theorem ggX4_kinds_X4_fitting : GoodIn wsX4_kinds wsX4_fitting := goodIn_r _ [28, 6, 29, 17, 18, 30, 31, 4, 32, 33, 34, 35, 36, 37, 38, 39, 40, 41, 42, 43, 44, 45, 46, 47, 48, 49, 50, 51, 52, 53, 54, 55, 56, 57, 58, 59, 60, 61, 62, 63, 64, 65, 66, 67, 68, 69, 70, 71, 72, 73, 74, 75, 76, 77, 78, 79, 80, 81, 82, 83, 84] (by decide +kernel) (by decide +kernel)
set_option maxRecDepth 20000 in
theorem gX4_kinds_X4_fitting : GoodIn wsX4_kinds (wsV RX4 178 RX4 yX4_fitting wsX4_fitting) := goodIn_app (goodIn_of _ (by decide +kernel)) ggX4_kinds_X4_fitting
theorem dX4_kinds_0 : decode cX4_kinds 0 = .ok (.aload_n 0, 1) := by decide +kernel
theorem dX4_kinds_1 : decode cX4_kinds 1 = .ok (.iload_n 1, 1) := by decide +kernel
theorem dX4_kinds_2 : decode cX4_kinds 2 = .ok (.invokevirtual 132, 3) := by decide +kernel
theorem dX4_kinds_5 : decode cX4_kinds 5 = .ok (.ifCond .eq 10, 3) := by decide +kernel
theorem dX4_kinds_8 : decode cX4_kinds 8 = .ok (.iload_n 2, 1) := by decide +kernel
theorem dX4_kinds_9 : decode cX4_kinds 9 = .ok (.invokestatic 77, 3) := by decide +kernel
theorem dX4_kinds_12 : decode cX4_kinds 12 = .ok (.ifCond .ne 5, 3) := by decide +kernel
theorem dX4_kinds_15 : decode cX4_kinds 15 = .ok (.iconst (-1), 1) := by decide +kernel
theorem dX4_kinds_16 : decode cX4_kinds 16 = .ok (.ireturn, 1) := by decide +kernel
theorem dX4_kinds_17 : decode cX4_kinds 17 = .ok (.aload_n 0, 1) := by decide +kernel
theorem dX4_kinds_18 : decode cX4_kinds 18 = .ok (.iload_n 2, 1) := by decide +kernel
theorem dX4_kinds_19 : decode cX4_kinds 19 = .ok (.invokevirtual 175, 3) := by decide +kernel
theorem dX4_kinds_22 : decode cX4_kinds 22 = .ok (.istore_n 3, 1) := by decide +kernel
theorem dX4_kinds_23 : decode cX4_kinds 23 = .ok (.iload_n 3, 1) := by decide +kernel
theorem dX4_kinds_24 : decode cX4_kinds 24 = .ok (.ifCond .eq 11, 3) := by decide +kernel
theorem dX4_kinds_27 : decode cX4_kinds 27 = .ok (.aload_n 0, 1) := by decide +kernel
theorem dX4_kinds_28 : decode cX4_kinds 28 = .ok (.iload_n 3, 1) := by decide +kernel
theorem dX4_kinds_29 : decode cX4_kinds 29 = .ok (.invokevirtual 81, 3) := by decide +kernel
theorem dX4_kinds_32 : decode cX4_kinds 32 = .ok (.goto 12, 3) := by decide +kernel
theorem dX4_kinds_35 : decode cX4_kinds 35 = .ok (.aload_n 0, 1) := by decide +kernel
theorem dX4_kinds_36 : decode cX4_kinds 36 = .ok (.bipush 33, 2) := by decide +kernel
theorem dX4_kinds_38 : decode cX4_kinds 38 = .ok (.iconst 5, 1) := by decide +kernel
theorem dX4_kinds_39 : decode cX4_kinds 39 = .ok (.iload_n 1, 1) := by decide +kernel
theorem dX4_kinds_40 : decode cX4_kinds 40 = .ok (.iload_n 2, 1) := by decide +kernel
theorem dX4_kinds_41 : decode cX4_kinds 41 = .ok (.invokevirtual 178, 3) := by decide +kernel
theorem dX4_kinds_44 : decode cX4_kinds 44 = .ok (.ireturn, 1) := by decide +kernel
/-! X4_kinds (II)I -/
abbrev rmX4_kinds : Room := { frames := 6, cells := 0, slots := 0, locals := 141 }
noncomputable def fX4_kinds (G : mm_G) (a0 : Nat) (x1 : Int32) (x2 : Int32) (σ : mm_M) : Option (Int32 × mm_M) := (fX4_isStation G a0 x1 σ).bind (fun q2 => if q2.1 = 0 then (some ((-1 : Int32), q2.2)) else ((fX4_isRow G x2 q2.2).bind (fun q9 => if q9.1 = 0 then (some ((-1 : Int32), q9.2)) else ((fX4_unfit G a0 x2 q9.2).bind (fun q19 => if q19.1 = 0 then ((fX4_fitting G a0 (33 : Int32) (5 : Int32) x1 x2 q19.2).bind (fun q41 => some (q41.1, q41.2))) else ((fX4_finds G a0 q19.1 q19.2).bind (fun q29 => some (q29.1, q29.2))))))))
set_option maxHeartbeats 4000000 in
set_option maxRecDepth 100000 in
theorem wX4_kinds_b0 {E : mm_E} {G : mm_G} (X : mm_Cx E G cX4_kinds 4 RX4 wsX4_kinds rmX4_kinds (some .int)) {a0 : Nat} {x1 : Int32} {x2 : Int32} {σ : mm_M} {q : (Int32 × mm_M)} (ha0 : mm_Is G 4 a0) (h : fX4_kinds G a0 x1 x2 σ = some q) : mm_At E G 4 (mm_Qi E G q) σ 0 [(0, .ref a0), (1, .int x1), (2, .int x2)] [] := by
  unfold fX4_kinds at h
  refine at_aload_n (pc := 0) X 0 0 dX4_kinds_0 rfl rfl ?_
  refine at_iload_n (pc := 1) X 1 1 dX4_kinds_1 rfl rfl ?_
  obtain ⟨q2, hq2, h⟩ := mm_bind h
  refine at_calli (n := 1) (pc := 2) X 4 [.int x1] [] (mX4_isStation (eL E) X.wf ha0 hq2) gX4_kinds_X4_isStation rfl ⟨rfl, rfl⟩ (by decide +kernel) ⟨by decide, by decide⟩ (by decide) rfl ha0 rfl rfl (Nat.le_of_ble_eq_true rfl) dX4_kinds_2 ?_
  refine at_if_eq (pc := 5) X 15 dX4_kinds_5 (by decide) (fun c5 => ?_) (fun c5 => ?_)
  · have h := mm_pos c5 h
    refine at_iconst (pc := 15) X (-1 : Int32) dX4_kinds_15 ic_m1 ?_
    exact at_iret (pc := 16) X (Option.some.inj h) dX4_kinds_16
  · have h := mm_neg c5 h
    refine at_iload_n (pc := 8) X 2 2 dX4_kinds_8 rfl rfl ?_
    obtain ⟨q9, hq9, h⟩ := mm_bind h
    refine at_scalli (n := 1) (pc := 9) X [.int x2] [] (mX4_isRow (eL E) X.wf hq9) gX4_kinds_X4_isRow rfl ⟨rfl, rfl⟩ (by decide +kernel) ⟨by decide, by decide⟩ rfl rfl (Nat.le_of_ble_eq_true rfl) dX4_kinds_9 ?_
    refine at_if_ne (pc := 12) X 17 dX4_kinds_12 (by decide) (fun c12 => ?_) (fun c12 => ?_)
    · have h := mm_neg c12 h
      refine at_aload_n (pc := 17) X 0 0 dX4_kinds_17 rfl rfl ?_
      refine at_iload_n (pc := 18) X 2 2 dX4_kinds_18 rfl rfl ?_
      obtain ⟨q19, hq19, h⟩ := mm_bind h
      refine at_calli (n := 1) (pc := 19) X 4 [.int x2] [] (mX4_unfit (eL E) X.wf ha0 hq19) gX4_kinds_X4_unfit rfl ⟨rfl, rfl⟩ (by decide +kernel) ⟨by decide, by decide⟩ (by decide) rfl ha0 rfl rfl (Nat.le_of_ble_eq_true rfl) dX4_kinds_19 ?_
      refine at_istore_n (pc := 22) X 3 [(3, .int q19.1), (0, .ref a0), (1, .int x1), (2, .int x2)] dX4_kinds_22 rfl (by decide) rfl ?_
      refine at_iload_n (pc := 23) X 3 0 dX4_kinds_23 rfl rfl ?_
      refine at_if_eq (pc := 24) X 35 dX4_kinds_24 (by decide) (fun c24 => ?_) (fun c24 => ?_)
      · have h := mm_pos c24 h
        refine at_aload_n (pc := 35) X 0 1 dX4_kinds_35 rfl rfl ?_
        refine at_bipush (pc := 36) X (33 : Int32) dX4_kinds_36 ib_33 ?_
        refine at_iconst (pc := 38) X (5 : Int32) dX4_kinds_38 ic_5 ?_
        refine at_iload_n (pc := 39) X 1 2 dX4_kinds_39 rfl rfl ?_
        refine at_iload_n (pc := 40) X 2 3 dX4_kinds_40 rfl rfl ?_
        obtain ⟨q41, hq41, h⟩ := mm_bind h
        refine at_calli (n := 4) (pc := 41) X 4 [.int (33 : Int32), .int (5 : Int32), .int x1, .int x2] [] (mX4_fitting (eL E) X.wf ha0 hq41) gX4_kinds_X4_fitting rfl ⟨rfl, rfl⟩ (by decide +kernel) ⟨by decide, by decide⟩ (by decide) rfl ha0 rfl rfl (Nat.le_of_ble_eq_true rfl) dX4_kinds_41 ?_
        exact at_iret (pc := 44) X (Option.some.inj h) dX4_kinds_44
      · have h := mm_neg c24 h
        refine at_aload_n (pc := 27) X 0 1 dX4_kinds_27 rfl rfl ?_
        refine at_iload_n (pc := 28) X 3 0 dX4_kinds_28 rfl rfl ?_
        obtain ⟨q29, hq29, h⟩ := mm_bind h
        refine at_calli (n := 1) (pc := 29) X 4 [.int q19.1] [] (mX4_finds (eL E) X.wf ha0 hq29) gX4_kinds_X4_finds rfl ⟨rfl, rfl⟩ (by decide +kernel) ⟨by decide, by decide⟩ (by decide) rfl ha0 rfl rfl (Nat.le_of_ble_eq_true rfl) dX4_kinds_29 ?_
        refine at_goto (pc := 32) X 44 dX4_kinds_32 (by decide) ?_
        exact at_iret (pc := 44) X (Option.some.inj h) dX4_kinds_44
    · have h := mm_pos c12 h
      refine at_iconst (pc := 15) X (-1 : Int32) dX4_kinds_15 ic_m1 ?_
      exact at_iret (pc := 16) X (Option.some.inj h) dX4_kinds_16
set_option maxHeartbeats 4000000 in
set_option maxRecDepth 100000 in
theorem mX4_kinds (l : Launch) {G : mm_G} (hwf : mm_WF G) {a0 : Nat} {x1 : Int32} {x2 : Int32} {σ : mm_M} {q : (Int32 × mm_M)} (ha0 : mm_Is G 4 a0) (h : fX4_kinds G a0 x1 x2 σ = some q) : mm_Mi l yX4_kinds wsX4_kinds rmX4_kinds G [.ref a0, .int x1, .int x2] σ q := by
  refine mm_ofi (cc := cX4_kinds) (nL := 4) (ret := some .int) (own := RX4) (lv0 := [(0, .ref a0), (1, .int x1), (2, .int x2)]) (by decide) rfl rfl (Nat.le_of_ble_eq_true rfl) rfl hwf (fun E hE X => ?_)
  exact wX4_kinds_b0 X ha0 h
set_option maxRecDepth 20000 in
theorem ggX4_firsts_X4_isStation : GoodIn wsX4_firsts wsX4_isStation := goodIn_r _ [5, 6, 7, 8, 4, 9, 63, 64, 65, 66, 67, 68, 69, 70, 71, 72, 73, 74, 75, 76, 77, 78, 79, 80, 81, 82, 83, 84] (by decide +kernel) (by decide +kernel)
set_option maxRecDepth 20000 in
theorem gX4_firsts_X4_isStation : GoodIn wsX4_firsts (wsV RX4 132 RX4 yX4_isStation wsX4_isStation) := goodIn_app (goodIn_of _ (by decide +kernel)) ggX4_firsts_X4_isStation
set_option maxRecDepth 20000 in
theorem ggX4_firsts_X4_isRow : GoodIn wsX4_firsts wsX4_isRow := goodIn_r _ [12, 7, 8, 4, 9] (by decide +kernel) (by decide +kernel)
set_option maxRecDepth 20000 in
theorem gX4_firsts_X4_isRow : GoodIn wsX4_firsts (va_wsS RX4 77 yX4_isRow wsX4_isRow) := goodIn_app (goodIn_of _ (by decide +kernel)) ggX4_firsts_X4_isRow
set_option maxRecDepth 20000 in
theorem ggX4_firsts_X4_unfit : GoodIn wsX4_firsts wsX4_unfit := goodIn_r _ [16, 17, 18, 7, 8, 4, 9, 63, 64, 65, 66, 67, 68, 69, 70, 71, 72, 73, 74, 75, 76, 77, 78, 79, 80, 81, 82, 83, 84] (by decide +kernel) (by decide +kernel)
set_option maxRecDepth 20000 in
theorem gX4_firsts_X4_unfit : GoodIn wsX4_firsts (wsV RX4 175 RX4 yX4_unfit wsX4_unfit) := goodIn_app (goodIn_of _ (by decide +kernel)) ggX4_firsts_X4_unfit
set_option maxRecDepth 20000 in
theorem ggX4_firsts_X4_finds : GoodIn wsX4_firsts wsX4_finds := goodIn_r _ [22, 23, 24, 63, 64, 65, 66, 67, 68, 69, 70, 71, 72, 73, 74, 75, 76, 77, 78, 79, 80, 81, 82, 83, 84] (by decide +kernel) (by decide +kernel)
set_option maxRecDepth 20000 in
theorem gX4_firsts_X4_finds : GoodIn wsX4_firsts (wsV RX4 81 RX4 yX4_finds wsX4_finds) := goodIn_app (goodIn_of _ (by decide +kernel)) ggX4_firsts_X4_finds
set_option maxRecDepth 20000 in
theorem ggX4_firsts_X4_fitting : GoodIn wsX4_firsts wsX4_fitting := goodIn_r _ [28, 6, 29, 17, 18, 30, 31, 4, 32, 33, 34, 35, 36, 37, 38, 39, 40, 41, 42, 43, 44, 45, 46, 47, 48, 49, 50, 51, 52, 53, 54, 55, 56, 57, 58, 59, 60, 61, 62, 63, 64, 65, 66, 67, 68, 69, 70, 71, 72, 73, 74, 75, 76, 77, 78, 79, 80, 81, 82, 83, 84] (by decide +kernel) (by decide +kernel)
set_option maxRecDepth 20000 in
theorem gX4_firsts_X4_fitting : GoodIn wsX4_firsts (wsV RX4 178 RX4 yX4_fitting wsX4_fitting) := goodIn_app (goodIn_of _ (by decide +kernel)) ggX4_firsts_X4_fitting
theorem dX4_firsts_0 : decode cX4_firsts 0 = .ok (.aload_n 0, 1) := by decide +kernel
theorem dX4_firsts_1 : decode cX4_firsts 1 = .ok (.iload_n 1, 1) := by decide +kernel
theorem dX4_firsts_2 : decode cX4_firsts 2 = .ok (.invokevirtual 132, 3) := by decide +kernel
theorem dX4_firsts_5 : decode cX4_firsts 5 = .ok (.ifCond .eq 10, 3) := by decide +kernel
theorem dX4_firsts_8 : decode cX4_firsts 8 = .ok (.iload_n 2, 1) := by decide +kernel
theorem dX4_firsts_9 : decode cX4_firsts 9 = .ok (.invokestatic 77, 3) := by decide +kernel
theorem dX4_firsts_12 : decode cX4_firsts 12 = .ok (.ifCond .ne 5, 3) := by decide +kernel
theorem dX4_firsts_15 : decode cX4_firsts 15 = .ok (.iconst (-1), 1) := by decide +kernel
theorem dX4_firsts_16 : decode cX4_firsts 16 = .ok (.ireturn, 1) := by decide +kernel
theorem dX4_firsts_17 : decode cX4_firsts 17 = .ok (.aload_n 0, 1) := by decide +kernel
theorem dX4_firsts_18 : decode cX4_firsts 18 = .ok (.iload_n 2, 1) := by decide +kernel
theorem dX4_firsts_19 : decode cX4_firsts 19 = .ok (.invokevirtual 175, 3) := by decide +kernel
theorem dX4_firsts_22 : decode cX4_firsts 22 = .ok (.istore_n 3, 1) := by decide +kernel
theorem dX4_firsts_23 : decode cX4_firsts 23 = .ok (.iload_n 3, 1) := by decide +kernel
theorem dX4_firsts_24 : decode cX4_firsts 24 = .ok (.ifCond .eq 11, 3) := by decide +kernel
theorem dX4_firsts_27 : decode cX4_firsts 27 = .ok (.aload_n 0, 1) := by decide +kernel
theorem dX4_firsts_28 : decode cX4_firsts 28 = .ok (.iload_n 3, 1) := by decide +kernel
theorem dX4_firsts_29 : decode cX4_firsts 29 = .ok (.invokevirtual 81, 3) := by decide +kernel
theorem dX4_firsts_32 : decode cX4_firsts 32 = .ok (.goto 12, 3) := by decide +kernel
theorem dX4_firsts_35 : decode cX4_firsts 35 = .ok (.aload_n 0, 1) := by decide +kernel
theorem dX4_firsts_36 : decode cX4_firsts 36 = .ok (.iconst 4, 1) := by decide +kernel
theorem dX4_firsts_37 : decode cX4_firsts 37 = .ok (.bipush 9, 2) := by decide +kernel
theorem dX4_firsts_39 : decode cX4_firsts 39 = .ok (.iload_n 1, 1) := by decide +kernel
theorem dX4_firsts_40 : decode cX4_firsts 40 = .ok (.iload_n 2, 1) := by decide +kernel
theorem dX4_firsts_41 : decode cX4_firsts 41 = .ok (.invokevirtual 178, 3) := by decide +kernel
theorem dX4_firsts_44 : decode cX4_firsts 44 = .ok (.ireturn, 1) := by decide +kernel
/-! X4_firsts (II)I -/
abbrev rmX4_firsts : Room := { frames := 6, cells := 0, slots := 0, locals := 141 }
noncomputable def fX4_firsts (G : mm_G) (a0 : Nat) (x1 : Int32) (x2 : Int32) (σ : mm_M) : Option (Int32 × mm_M) := (fX4_isStation G a0 x1 σ).bind (fun q2 => if q2.1 = 0 then (some ((-1 : Int32), q2.2)) else ((fX4_isRow G x2 q2.2).bind (fun q9 => if q9.1 = 0 then (some ((-1 : Int32), q9.2)) else ((fX4_unfit G a0 x2 q9.2).bind (fun q19 => if q19.1 = 0 then ((fX4_fitting G a0 (4 : Int32) (9 : Int32) x1 x2 q19.2).bind (fun q41 => some (q41.1, q41.2))) else ((fX4_finds G a0 q19.1 q19.2).bind (fun q29 => some (q29.1, q29.2))))))))
set_option maxHeartbeats 4000000 in
set_option maxRecDepth 100000 in
theorem wX4_firsts_b0 {E : mm_E} {G : mm_G} (X : mm_Cx E G cX4_firsts 4 RX4 wsX4_firsts rmX4_firsts (some .int)) {a0 : Nat} {x1 : Int32} {x2 : Int32} {σ : mm_M} {q : (Int32 × mm_M)} (ha0 : mm_Is G 4 a0) (h : fX4_firsts G a0 x1 x2 σ = some q) : mm_At E G 4 (mm_Qi E G q) σ 0 [(0, .ref a0), (1, .int x1), (2, .int x2)] [] := by
  unfold fX4_firsts at h
  refine at_aload_n (pc := 0) X 0 0 dX4_firsts_0 rfl rfl ?_
  refine at_iload_n (pc := 1) X 1 1 dX4_firsts_1 rfl rfl ?_
  obtain ⟨q2, hq2, h⟩ := mm_bind h
  refine at_calli (n := 1) (pc := 2) X 4 [.int x1] [] (mX4_isStation (eL E) X.wf ha0 hq2) gX4_firsts_X4_isStation rfl ⟨rfl, rfl⟩ (by decide +kernel) ⟨by decide, by decide⟩ (by decide) rfl ha0 rfl rfl (Nat.le_of_ble_eq_true rfl) dX4_firsts_2 ?_
  refine at_if_eq (pc := 5) X 15 dX4_firsts_5 (by decide) (fun c5 => ?_) (fun c5 => ?_)
  · have h := mm_pos c5 h
    refine at_iconst (pc := 15) X (-1 : Int32) dX4_firsts_15 ic_m1 ?_
    exact at_iret (pc := 16) X (Option.some.inj h) dX4_firsts_16
  · have h := mm_neg c5 h
    refine at_iload_n (pc := 8) X 2 2 dX4_firsts_8 rfl rfl ?_
    obtain ⟨q9, hq9, h⟩ := mm_bind h
    refine at_scalli (n := 1) (pc := 9) X [.int x2] [] (mX4_isRow (eL E) X.wf hq9) gX4_firsts_X4_isRow rfl ⟨rfl, rfl⟩ (by decide +kernel) ⟨by decide, by decide⟩ rfl rfl (Nat.le_of_ble_eq_true rfl) dX4_firsts_9 ?_
    refine at_if_ne (pc := 12) X 17 dX4_firsts_12 (by decide) (fun c12 => ?_) (fun c12 => ?_)
    · have h := mm_neg c12 h
      refine at_aload_n (pc := 17) X 0 0 dX4_firsts_17 rfl rfl ?_
      refine at_iload_n (pc := 18) X 2 2 dX4_firsts_18 rfl rfl ?_
      obtain ⟨q19, hq19, h⟩ := mm_bind h
      refine at_calli (n := 1) (pc := 19) X 4 [.int x2] [] (mX4_unfit (eL E) X.wf ha0 hq19) gX4_firsts_X4_unfit rfl ⟨rfl, rfl⟩ (by decide +kernel) ⟨by decide, by decide⟩ (by decide) rfl ha0 rfl rfl (Nat.le_of_ble_eq_true rfl) dX4_firsts_19 ?_
      refine at_istore_n (pc := 22) X 3 [(3, .int q19.1), (0, .ref a0), (1, .int x1), (2, .int x2)] dX4_firsts_22 rfl (by decide) rfl ?_
      refine at_iload_n (pc := 23) X 3 0 dX4_firsts_23 rfl rfl ?_
      refine at_if_eq (pc := 24) X 35 dX4_firsts_24 (by decide) (fun c24 => ?_) (fun c24 => ?_)
      · have h := mm_pos c24 h
        refine at_aload_n (pc := 35) X 0 1 dX4_firsts_35 rfl rfl ?_
        refine at_iconst (pc := 36) X (4 : Int32) dX4_firsts_36 ic_4 ?_
        refine at_bipush (pc := 37) X (9 : Int32) dX4_firsts_37 ib_9 ?_
        refine at_iload_n (pc := 39) X 1 2 dX4_firsts_39 rfl rfl ?_
        refine at_iload_n (pc := 40) X 2 3 dX4_firsts_40 rfl rfl ?_
        obtain ⟨q41, hq41, h⟩ := mm_bind h
        refine at_calli (n := 4) (pc := 41) X 4 [.int (4 : Int32), .int (9 : Int32), .int x1, .int x2] [] (mX4_fitting (eL E) X.wf ha0 hq41) gX4_firsts_X4_fitting rfl ⟨rfl, rfl⟩ (by decide +kernel) ⟨by decide, by decide⟩ (by decide) rfl ha0 rfl rfl (Nat.le_of_ble_eq_true rfl) dX4_firsts_41 ?_
        exact at_iret (pc := 44) X (Option.some.inj h) dX4_firsts_44
      · have h := mm_neg c24 h
        refine at_aload_n (pc := 27) X 0 1 dX4_firsts_27 rfl rfl ?_
        refine at_iload_n (pc := 28) X 3 0 dX4_firsts_28 rfl rfl ?_
        obtain ⟨q29, hq29, h⟩ := mm_bind h
        refine at_calli (n := 1) (pc := 29) X 4 [.int q19.1] [] (mX4_finds (eL E) X.wf ha0 hq29) gX4_firsts_X4_finds rfl ⟨rfl, rfl⟩ (by decide +kernel) ⟨by decide, by decide⟩ (by decide) rfl ha0 rfl rfl (Nat.le_of_ble_eq_true rfl) dX4_firsts_29 ?_
        refine at_goto (pc := 32) X 44 dX4_firsts_32 (by decide) ?_
        exact at_iret (pc := 44) X (Option.some.inj h) dX4_firsts_44
    · have h := mm_pos c12 h
      refine at_iconst (pc := 15) X (-1 : Int32) dX4_firsts_15 ic_m1 ?_
      exact at_iret (pc := 16) X (Option.some.inj h) dX4_firsts_16
set_option maxHeartbeats 4000000 in
set_option maxRecDepth 100000 in
theorem mX4_firsts (l : Launch) {G : mm_G} (hwf : mm_WF G) {a0 : Nat} {x1 : Int32} {x2 : Int32} {σ : mm_M} {q : (Int32 × mm_M)} (ha0 : mm_Is G 4 a0) (h : fX4_firsts G a0 x1 x2 σ = some q) : mm_Mi l yX4_firsts wsX4_firsts rmX4_firsts G [.ref a0, .int x1, .int x2] σ q := by
  refine mm_ofi (cc := cX4_firsts) (nL := 4) (ret := some .int) (own := RX4) (lv0 := [(0, .ref a0), (1, .int x1), (2, .int x2)]) (by decide) rfl rfl (Nat.le_of_ble_eq_true rfl) rfl hwf (fun E hE X => ?_)
  exact wX4_firsts_b0 X ha0 h
