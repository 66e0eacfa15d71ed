/-! X4_on X4_copies X4_talks X4_later X4_lettersOf X4_done X4_ends X4_clash -/
set_option maxRecDepth 20000 in
theorem ggX4_on_X4_in : GoodIn wsX4_on wsX4_in := goodIn_r _ [10] (by decide +kernel) (by decide +kernel)
set_option maxRecDepth 20000 in
theorem gX4_on_X4_in : GoodIn wsX4_on (va_wsS RX4 73 yX4_in wsX4_in) := goodIn_app (goodIn_of _ (by decide +kernel)) ggX4_on_X4_in
set_option maxRecDepth 20000 in
theorem ggX4_on_X4_finds : GoodIn wsX4_on wsX4_finds := goodIn_r _ [14, 15, 16, 17, 18, 19, 20, 21, 22, 23, 24, 25, 26, 27, 28, 29, 30, 31, 32, 33, 34, 35, 36, 37, 38] (by decide +kernel) (by decide +kernel)
set_option maxRecDepth 20000 in
theorem gX4_on_X4_finds : GoodIn wsX4_on (wsV RX4 81 RX4 yX4_finds wsX4_finds) := goodIn_app (goodIn_of _ (by decide +kernel)) ggX4_on_X4_finds
theorem dX4_on_0 : decode cX4_on 0 = .ok (.iload_n 1, 1) := by decide +kernel
theorem dX4_on_1 : decode cX4_on 1 = .ok (.iconst 0, 1) := by decide +kernel
theorem dX4_on_2 : decode cX4_on 2 = .ok (.iconst 2, 1) := by decide +kernel
theorem dX4_on_3 : decode cX4_on 3 = .ok (.invokestatic 73, 3) := by decide +kernel
theorem dX4_on_6 : decode cX4_on 6 = .ok (.ifCond .ne 5, 3) := by decide +kernel
theorem dX4_on_9 : decode cX4_on 9 = .ok (.iconst (-1), 1) := by decide +kernel
theorem dX4_on_10 : decode cX4_on 10 = .ok (.ireturn, 1) := by decide +kernel
theorem dX4_on_11 : decode cX4_on 11 = .ok (.aload_n 0, 1) := by decide +kernel
theorem dX4_on_12 : decode cX4_on 12 = .ok (.getfield 47, 3) := by decide +kernel
theorem dX4_on_15 : decode cX4_on 15 = .ok (.iload_n 1, 1) := by decide +kernel
theorem dX4_on_16 : decode cX4_on 16 = .ok (.iaload, 1) := by decide +kernel
theorem dX4_on_17 : decode cX4_on 17 = .ok (.ifCond .ge 9, 3) := by decide +kernel
theorem dX4_on_20 : decode cX4_on 20 = .ok (.aload_n 0, 1) := by decide +kernel
theorem dX4_on_21 : decode cX4_on 21 = .ok (.iconst 1, 1) := by decide +kernel
theorem dX4_on_22 : decode cX4_on 22 = .ok (.invokevirtual 81, 3) := by decide +kernel
theorem dX4_on_25 : decode cX4_on 25 = .ok (.ireturn, 1) := by decide +kernel
theorem dX4_on_26 : decode cX4_on 26 = .ok (.iconst 0, 1) := by decide +kernel
theorem dX4_on_27 : decode cX4_on 27 = .ok (.istore_n 2, 1) := by decide +kernel
theorem dX4_on_28 : decode cX4_on 28 = .ok (.iload_n 2, 1) := by decide +kernel
theorem dX4_on_29 : decode cX4_on 29 = .ok (.bipush 48, 2) := by decide +kernel
theorem dX4_on_31 : decode cX4_on 31 = .ok (.if_icmp .ge 26, 3) := by decide +kernel
theorem dX4_on_34 : decode cX4_on 34 = .ok (.aload_n 0, 1) := by decide +kernel
theorem dX4_on_35 : decode cX4_on 35 = .ok (.getfield 26, 3) := by decide +kernel
theorem dX4_on_38 : decode cX4_on 38 = .ok (.iload_n 2, 1) := by decide +kernel
theorem dX4_on_39 : decode cX4_on 39 = .ok (.aload_n 0, 1) := by decide +kernel
theorem dX4_on_40 : decode cX4_on 40 = .ok (.getfield 41, 3) := by decide +kernel
theorem dX4_on_43 : decode cX4_on 43 = .ok (.bipush 48, 2) := by decide +kernel
theorem dX4_on_45 : decode cX4_on 45 = .ok (.iload_n 1, 1) := by decide +kernel
theorem dX4_on_46 : decode cX4_on 46 = .ok (.imul, 1) := by decide +kernel
theorem dX4_on_47 : decode cX4_on 47 = .ok (.iload_n 2, 1) := by decide +kernel
theorem dX4_on_48 : decode cX4_on 48 = .ok (.iadd, 1) := by decide +kernel
theorem dX4_on_49 : decode cX4_on 49 = .ok (.iaload, 1) := by decide +kernel
theorem dX4_on_50 : decode cX4_on 50 = .ok (.iastore, 1) := by decide +kernel
theorem dX4_on_51 : decode cX4_on 51 = .ok (.iinc 2 1, 3) := by decide +kernel
theorem dX4_on_54 : decode cX4_on 54 = .ok (.goto (-26), 3) := by decide +kernel
theorem dX4_on_57 : decode cX4_on 57 = .ok (.iconst 0, 1) := by decide +kernel
theorem dX4_on_58 : decode cX4_on 58 = .ok (.istore_n 2, 1) := by decide +kernel
theorem dX4_on_59 : decode cX4_on 59 = .ok (.iload_n 2, 1) := by decide +kernel
theorem dX4_on_60 : decode cX4_on 60 = .ok (.aload_n 0, 1) := by decide +kernel
theorem dX4_on_61 : decode cX4_on 61 = .ok (.getfield 38, 3) := by decide +kernel
theorem dX4_on_64 : decode cX4_on 64 = .ok (.arraylength, 1) := by decide +kernel
theorem dX4_on_65 : decode cX4_on 65 = .ok (.if_icmp .ge 29, 3) := by decide +kernel
theorem dX4_on_68 : decode cX4_on 68 = .ok (.aload_n 0, 1) := by decide +kernel
theorem dX4_on_69 : decode cX4_on 69 = .ok (.getfield 38, 3) := by decide +kernel
theorem dX4_on_72 : decode cX4_on 72 = .ok (.iload_n 2, 1) := by decide +kernel
theorem dX4_on_73 : decode cX4_on 73 = .ok (.aload_n 0, 1) := by decide +kernel
theorem dX4_on_74 : decode cX4_on 74 = .ok (.getfield 44, 3) := by decide +kernel
theorem dX4_on_77 : decode cX4_on 77 = .ok (.aload_n 0, 1) := by decide +kernel
theorem dX4_on_78 : decode cX4_on 78 = .ok (.getfield 38, 3) := by decide +kernel
theorem dX4_on_81 : decode cX4_on 81 = .ok (.arraylength, 1) := by decide +kernel
theorem dX4_on_82 : decode cX4_on 82 = .ok (.iload_n 1, 1) := by decide +kernel
theorem dX4_on_83 : decode cX4_on 83 = .ok (.imul, 1) := by decide +kernel
theorem dX4_on_84 : decode cX4_on 84 = .ok (.iload_n 2, 1) := by decide +kernel
theorem dX4_on_85 : decode cX4_on 85 = .ok (.iadd, 1) := by decide +kernel
theorem dX4_on_86 : decode cX4_on 86 = .ok (.iaload, 1) := by decide +kernel
theorem dX4_on_87 : decode cX4_on 87 = .ok (.iastore, 1) := by decide +kernel
theorem dX4_on_88 : decode cX4_on 88 = .ok (.iinc 2 1, 3) := by decide +kernel
theorem dX4_on_91 : decode cX4_on 91 = .ok (.goto (-32), 3) := by decide +kernel
theorem dX4_on_94 : decode cX4_on 94 = .ok (.aload_n 0, 1) := by decide +kernel
theorem dX4_on_95 : decode cX4_on 95 = .ok (.aload_n 0, 1) := by decide +kernel
theorem dX4_on_96 : decode cX4_on 96 = .ok (.getfield 47, 3) := by decide +kernel
theorem dX4_on_99 : decode cX4_on 99 = .ok (.iload_n 1, 1) := by decide +kernel
theorem dX4_on_100 : decode cX4_on 100 = .ok (.iaload, 1) := by decide +kernel
theorem dX4_on_101 : decode cX4_on 101 = .ok (.putfield 111, 3) := by decide +kernel
theorem dX4_on_104 : decode cX4_on 104 = .ok (.aload_n 0, 1) := by decide +kernel
theorem dX4_on_105 : decode cX4_on 105 = .ok (.getfield 111, 3) := by decide +kernel
theorem dX4_on_108 : decode cX4_on 108 = .ok (.ireturn, 1) := by decide +kernel
/-! X4_on (I)I -/
abbrev rmX4_on : Room := { frames := 1, cells := 0, slots := 0, locals := 22 }
theorem lkX4_on_0 : Cond.fieldLink RX4 47 (TX4 13).1 (TX4 13).2.1 (TX4 13).2.2.1 ∈ wsX4_on := by decide +kernel
theorem lkX4_on_1 : Cond.fieldLink RX4 38 (TX4 9).1 (TX4 9).2.1 (TX4 9).2.2.1 ∈ wsX4_on := by decide +kernel
theorem lkX4_on_2 : Cond.fieldLink RX4 111 (TX4 10).1 (TX4 10).2.1 (TX4 10).2.2.1 ∈ wsX4_on := by decide +kernel
theorem lkX4_on_3 : Cond.fieldLink RX4 44 (TX4 12).1 (TX4 12).2.1 (TX4 12).2.2.1 ∈ wsX4_on := by decide +kernel
theorem lkX4_on_4 : Cond.fieldLink RX4 26 (TX4 5).1 (TX4 5).2.1 (TX4 5).2.2.1 ∈ wsX4_on := by decide +kernel
theorem lkX4_on_5 : Cond.fieldLink RX4 41 (TX4 11).1 (TX4 11).2.1 (TX4 11).2.2.1 ∈ wsX4_on := by decide +kernel
theorem inX4_on_X4 : ∀ w ∈ u_ws RX4 TX4 22, w ∈ wsX4_on := by decide +kernel
noncomputable def fX4_on_b59 (G : mm_G) (a0 : Nat) (x1 : Int32) (x2 : Int32) (σ : mm_M) : Option ((Int32 × mm_M) ⊕ ((Int32 × mm_M) ⊕ (Int32 × mm_M))) := if x2 < (Int32.ofNat (mm_N G (mm_R G a0 9))) then (if (((Int32.ofNat (mm_N G (mm_R G a0 9))) * x1) + x2) < 0 ∨ mm_N G (mm_R G a0 12) ≤ (((Int32.ofNat (mm_N G (mm_R G a0 9))) * x1) + x2).toNatClampNeg then none else (if x2 < 0 ∨ mm_N G (mm_R G a0 9) ≤ x2.toNatClampNeg then none else (some (.inr (.inr (x2 + 1, mm_up σ (mm_R G a0 9) x2.toNatClampNeg (σ.1 (mm_R G a0 12) (((Int32.ofNat (mm_N G (mm_R G a0 9))) * x1) + x2).toNatClampNeg))))))) else (if x1 < 0 ∨ mm_N G (mm_R G a0 13) ≤ x1.toNatClampNeg then none else (some (.inl ((mm_up σ a0 10 (σ.1 (mm_R G a0 13) x1.toNatClampNeg)).1 a0 10, mm_up σ a0 10 (σ.1 (mm_R G a0 13) x1.toNatClampNeg)))))
noncomputable def fX4_on_b28 (G : mm_G) (a0 : Nat) (x1 : Int32) (x2 : Int32) (σ : mm_M) : Option ((Int32 × mm_M) ⊕ ((Int32 × mm_M) ⊕ (Int32 × mm_M))) := if x2 < (48 : Int32) then (if (((48 : Int32) * x1) + x2) < 0 ∨ mm_N G (mm_R G a0 11) ≤ (((48 : Int32) * x1) + x2).toNatClampNeg then none else (if x2 < 0 ∨ mm_N G (mm_R G a0 5) ≤ x2.toNatClampNeg then none else (some (.inr (.inl (x2 + 1, mm_up σ (mm_R G a0 5) x2.toNatClampNeg (σ.1 (mm_R G a0 11) (((48 : Int32) * x1) + x2).toNatClampNeg))))))) else (some (.inr (.inr ((0 : Int32), σ))))
noncomputable def fX4_on_b0 (G : mm_G) (a0 : Nat) (x1 : Int32) (σ : mm_M) : Option ((Int32 × mm_M) ⊕ ((Int32 × mm_M) ⊕ (Int32 × mm_M))) := (fX4_in G x1 (0 : Int32) (2 : Int32) σ).bind (fun q3 => if q3.1 = 0 then (some (.inl ((-1 : Int32), q3.2))) else (if x1 < 0 ∨ mm_N G (mm_R G a0 13) ≤ x1.toNatClampNeg then none else (if (q3.2.1 (mm_R G a0 13) x1.toNatClampNeg) < 0 then ((fX4_finds G a0 (1 : Int32) q3.2).bind (fun q22 => some (.inl (q22.1, q22.2)))) else (some (.inr (.inl ((0 : Int32), q3.2)))))))
noncomputable def fX4_on_s (G : mm_G) (a0 : Nat) (x1 : Int32) : ((Int32 × mm_M) ⊕ (Int32 × mm_M)) → Option ((Int32 × mm_M) ⊕ ((Int32 × mm_M) ⊕ (Int32 × mm_M))) := (Sum.elim (fun s => fX4_on_b28 G a0 x1 s.1 s.2) (fun s => fX4_on_b59 G a0 x1 s.1 s.2))
def PX4_on (E : mm_E) (G : mm_G) (a0 : Nat) (x1 : Int32) (q : (Int32 × mm_M)) : ((Int32 × mm_M) ⊕ (Int32 × mm_M)) → Prop := (Sum.elim (fun s => mm_At E G 3 (mm_Qi E G q) s.2 28 [(0, .ref a0), (1, .int x1), (2, .int s.1)] []) (fun s => mm_At E G 3 (mm_Qi E G q) s.2 59 [(0, .ref a0), (1, .int x1), (2, .int s.1)] []))
noncomputable def fX4_on (G : mm_G) (a0 : Nat) (x1 : Int32) (σ : mm_M) : Option (Int32 × mm_M) := mm_run (fX4_on_b0 G a0 x1 σ) (fX4_on_s G a0 x1)
set_option maxHeartbeats 4000000 in
set_option maxRecDepth 100000 in
theorem wX4_on_b59 {E : mm_E} {G : mm_G} (X : mm_Cx E G cX4_on 3 RX4 wsX4_on rmX4_on (some .int)) {a0 : Nat} {x1 : Int32} {x2 : Int32} {σ : mm_M} {q : (Int32 × mm_M)} (ha0 : mm_Is G 4 a0) {o : (Int32 × mm_M) ⊕ ((Int32 × mm_M) ⊕ (Int32 × mm_M))} (h : fX4_on_b59 G a0 x1 x2 σ = some o) (hk : mm_Ok q (PX4_on E G a0 x1 q) o) : mm_At E G 3 (mm_Qi E G q) σ 59 [(0, .ref a0), (1, .int x1), (2, .int x2)] [] := by
  unfold fX4_on_b59 at h
  refine at_iload_n (pc := 59) X 2 2 dX4_on_59 rfl rfl ?_
  refine at_aload_n (pc := 60) X 0 0 dX4_on_60 rfl rfl ?_
  refine at_get (pc := 61) X 4 9 (.ref (mm_R G a0 9)) ha0 (by decide) rfl inX4_on_X4 (by decide) lkX4_on_1 rfl dX4_on_61 ?_
  refine at_alen (pc := 64) X (wf_4_9 X.wf ha0) dX4_on_64 ?_
  refine at_icmp_ge (pc := 65) X 94 dX4_on_65 (by decide) (fun c65 => ?_) (fun c65 => ?_)
  · have h := mm_neg c65 h
    refine at_aload_n (pc := 94) X 0 0 dX4_on_94 rfl rfl ?_
    refine at_aload_n (pc := 95) X 0 0 dX4_on_95 rfl rfl ?_
    refine at_get (pc := 96) X 4 13 (.ref (mm_R G a0 13)) ha0 (by decide) rfl inX4_on_X4 (by decide) lkX4_on_0 rfl dX4_on_96 ?_
    refine at_iload_n (pc := 99) X 1 1 dX4_on_99 rfl rfl ?_
    obtain ⟨hc100, h⟩ := mm_chk h
    refine at_iald (pc := 100) X (wf_4_13 X.wf ha0) hc100 dX4_on_100 ?_
    refine at_put (pc := 101) X 4 10 ha0 (by decide) rfl inX4_on_X4 tyX4 tyX4_ok nmX4 (by decide) lkX4_on_2 rfl (ty := .int) rfl rfl rfl (Nat.le_of_ble_eq_true rfl) (ms_4_10 G _ _ _) mm_up_ne dX4_on_101 ?_
    refine at_aload_n (pc := 104) X 0 0 dX4_on_104 rfl rfl ?_
    refine at_get (pc := 105) X 4 10 (.int ((mm_up σ a0 10 (σ.1 (mm_R G a0 13) x1.toNatClampNeg)).1 a0 10)) ha0 (by decide) rfl inX4_on_X4 (by decide) lkX4_on_2 rfl dX4_on_105 ?_
    exact at_iret (pc := 108) X (mm_inl h hk) dX4_on_108
  · have h := mm_pos c65 h
    refine at_aload_n (pc := 68) X 0 0 dX4_on_68 rfl rfl ?_
    refine at_get (pc := 69) X 4 9 (.ref (mm_R G a0 9)) ha0 (by decide) rfl inX4_on_X4 (by decide) lkX4_on_1 rfl dX4_on_69 ?_
    refine at_iload_n (pc := 72) X 2 2 dX4_on_72 rfl rfl ?_
    refine at_aload_n (pc := 73) X 0 0 dX4_on_73 rfl rfl ?_
    refine at_get (pc := 74) X 4 12 (.ref (mm_R G a0 12)) ha0 (by decide) rfl inX4_on_X4 (by decide) lkX4_on_3 rfl dX4_on_74 ?_
    refine at_aload_n (pc := 77) X 0 0 dX4_on_77 rfl rfl ?_
    refine at_get (pc := 78) X 4 9 (.ref (mm_R G a0 9)) ha0 (by decide) rfl inX4_on_X4 (by decide) lkX4_on_1 rfl dX4_on_78 ?_
    refine at_alen (pc := 81) X (wf_4_9 X.wf ha0) dX4_on_81 ?_
    refine at_iload_n (pc := 82) X 1 1 dX4_on_82 rfl rfl ?_
    refine at_imul (pc := 83) X dX4_on_83 ?_
    refine at_iload_n (pc := 84) X 2 2 dX4_on_84 rfl rfl ?_
    refine at_iadd (pc := 85) X dX4_on_85 ?_
    obtain ⟨hc86, h⟩ := mm_chk h
    refine at_iald (pc := 86) X (wf_4_12 X.wf ha0) hc86 dX4_on_86 ?_
    obtain ⟨hc87, h⟩ := mm_chk h
    refine at_iast (pc := 87) X (wf_4_9 X.wf ha0) hc87 dX4_on_87 ?_
    refine at_iinc (pc := 88) X 2 2 (x2 + 1) [(2, .int (x2 + 1)), (0, .ref a0), (1, .int x1)] dX4_on_88 rfl (ii_1 _) (by decide) rfl ?_
    refine at_goto (pc := 91) X 59 dX4_on_91 (by decide) ?_
    have h2 := mm_inr h hk; exact at_sub [1, 2, 0] rfl h2
set_option maxHeartbeats 4000000 in
set_option maxRecDepth 100000 in
theorem wX4_on_b28 {E : mm_E} {G : mm_G} (X : mm_Cx E G cX4_on 3 RX4 wsX4_on rmX4_on (some .int)) {a0 : Nat} {x1 : Int32} {x2 : Int32} {σ : mm_M} {q : (Int32 × mm_M)} (ha0 : mm_Is G 4 a0) {o : (Int32 × mm_M) ⊕ ((Int32 × mm_M) ⊕ (Int32 × mm_M))} (h : fX4_on_b28 G a0 x1 x2 σ = some o) (hk : mm_Ok q (PX4_on E G a0 x1 q) o) : mm_At E G 3 (mm_Qi E G q) σ 28 [(0, .ref a0), (1, .int x1), (2, .int x2)] [] := by
  unfold fX4_on_b28 at h
  refine at_iload_n (pc := 28) X 2 2 dX4_on_28 rfl rfl ?_
  refine at_bipush (pc := 29) X (48 : Int32) dX4_on_29 ib_48 ?_
  refine at_icmp_ge (pc := 31) X 57 dX4_on_31 (by decide) (fun c31 => ?_) (fun c31 => ?_)
  · have h := mm_neg c31 h
    refine at_iconst (pc := 57) X (0 : Int32) dX4_on_57 ic_0 ?_
    refine at_istore_n (pc := 58) X 2 [(2, .int (0 : Int32)), (0, .ref a0), (1, .int x1)] dX4_on_58 rfl (by decide) rfl ?_
    have h2 := mm_inr h hk; exact at_sub [1, 2, 0] rfl h2
  · have h := mm_pos c31 h
    refine at_aload_n (pc := 34) X 0 0 dX4_on_34 rfl rfl ?_
    refine at_get (pc := 35) X 4 5 (.ref (mm_R G a0 5)) ha0 (by decide) rfl inX4_on_X4 (by decide) lkX4_on_4 rfl dX4_on_35 ?_
    refine at_iload_n (pc := 38) X 2 2 dX4_on_38 rfl rfl ?_
    refine at_aload_n (pc := 39) X 0 0 dX4_on_39 rfl rfl ?_
    refine at_get (pc := 40) X 4 11 (.ref (mm_R G a0 11)) ha0 (by decide) rfl inX4_on_X4 (by decide) lkX4_on_5 rfl dX4_on_40 ?_
    refine at_bipush (pc := 43) X (48 : Int32) dX4_on_43 ib_48 ?_
    refine at_iload_n (pc := 45) X 1 1 dX4_on_45 rfl rfl ?_
    refine at_imul (pc := 46) X dX4_on_46 ?_
    refine at_iload_n (pc := 47) X 2 2 dX4_on_47 rfl rfl ?_
    refine at_iadd (pc := 48) X dX4_on_48 ?_
    obtain ⟨hc49, h⟩ := mm_chk h
    refine at_iald (pc := 49) X (wf_4_11 X.wf ha0) hc49 dX4_on_49 ?_
    obtain ⟨hc50, h⟩ := mm_chk h
    refine at_iast (pc := 50) X (wf_4_5 X.wf ha0) hc50 dX4_on_50 ?_
    refine at_iinc (pc := 51) X 2 2 (x2 + 1) [(2, .int (x2 + 1)), (0, .ref a0), (1, .int x1)] dX4_on_51 rfl (ii_1 _) (by decide) rfl ?_
    refine at_goto (pc := 54) X 28 dX4_on_54 (by decide) ?_
    have h2 := mm_inr h hk; exact at_sub [1, 2, 0] rfl h2
set_option maxHeartbeats 4000000 in
set_option maxRecDepth 100000 in
theorem wX4_on_b0 {E : mm_E} {G : mm_G} (X : mm_Cx E G cX4_on 3 RX4 wsX4_on rmX4_on (some .int)) {a0 : Nat} {x1 : Int32} {σ : mm_M} {q : (Int32 × mm_M)} (ha0 : mm_Is G 4 a0) {o : (Int32 × mm_M) ⊕ ((Int32 × mm_M) ⊕ (Int32 × mm_M))} (h : fX4_on_b0 G a0 x1 σ = some o) (hk : mm_Ok q (PX4_on E G a0 x1 q) o) : mm_At E G 3 (mm_Qi E G q) σ 0 [(0, .ref a0), (1, .int x1)] [] := by
  unfold fX4_on_b0 at h
  refine at_iload_n (pc := 0) X 1 1 dX4_on_0 rfl rfl ?_
  refine at_iconst (pc := 1) X (0 : Int32) dX4_on_1 ic_0 ?_
  refine at_iconst (pc := 2) X (2 : Int32) dX4_on_2 ic_2 ?_
  obtain ⟨q3, hq3, h⟩ := mm_bind h
  refine at_scalli (n := 3) (pc := 3) X [.int x1, .int (0 : Int32), .int (2 : Int32)] [] (mX4_in (eL E) X.wf hq3) gX4_on_X4_in rfl ⟨rfl, rfl⟩ (by decide +kernel) ⟨by decide, by decide⟩ rfl rfl (Nat.le_of_ble_eq_true rfl) dX4_on_3 ?_
  refine at_if_ne (pc := 6) X 11 dX4_on_6 (by decide) (fun c6 => ?_) (fun c6 => ?_)
  · have h := mm_neg c6 h
    refine at_aload_n (pc := 11) X 0 0 dX4_on_11 rfl rfl ?_
    refine at_get (pc := 12) X 4 13 (.ref (mm_R G a0 13)) ha0 (by decide) rfl inX4_on_X4 (by decide) lkX4_on_0 rfl dX4_on_12 ?_
    refine at_iload_n (pc := 15) X 1 1 dX4_on_15 rfl rfl ?_
    obtain ⟨hc16, h⟩ := mm_chk h
    refine at_iald (pc := 16) X (wf_4_13 X.wf ha0) hc16 dX4_on_16 ?_
    refine at_if_ge (pc := 17) X 26 dX4_on_17 (by decide) (fun c17 => ?_) (fun c17 => ?_)
    · have h := mm_neg c17 h
      refine at_iconst (pc := 26) X (0 : Int32) dX4_on_26 ic_0 ?_
      refine at_istore_n (pc := 27) X 2 [(2, .int (0 : Int32)), (0, .ref a0), (1, .int x1)] dX4_on_27 rfl (by decide) rfl ?_
      have h2 := mm_inr h hk; exact at_sub [1, 2, 0] rfl h2
    · have h := mm_pos c17 h
      refine at_aload_n (pc := 20) X 0 0 dX4_on_20 rfl rfl ?_
      refine at_iconst (pc := 21) X (1 : Int32) dX4_on_21 ic_1 ?_
      obtain ⟨q22, hq22, h⟩ := mm_bind h
      refine at_calli (n := 1) (pc := 22) X 4 [.int (1 : Int32)] [] (mX4_finds (eL E) X.wf ha0 hq22) gX4_on_X4_finds rfl ⟨rfl, rfl⟩ (by decide +kernel) ⟨by decide, by decide⟩ (by decide) rfl ha0 rfl rfl (Nat.le_of_ble_eq_true rfl) dX4_on_22 ?_
      exact at_iret (pc := 25) X (mm_inl h hk) dX4_on_25
  · have h := mm_pos c6 h
    refine at_iconst (pc := 9) X (-1 : Int32) dX4_on_9 ic_m1 ?_
    exact at_iret (pc := 10) X (mm_inl h hk) dX4_on_10
set_option maxHeartbeats 4000000 in
set_option maxRecDepth 100000 in
theorem mX4_on (l : Launch) {G : mm_G} (hwf : mm_WF G) {a0 : Nat} {x1 : Int32} {σ : mm_M} {q : (Int32 × mm_M)} (ha0 : mm_Is G 4 a0) (h : fX4_on G a0 x1 σ = some q) : mm_Mi l yX4_on wsX4_on rmX4_on G [.ref a0, .int x1] σ q := by
  refine mm_ofi (cc := cX4_on) (nL := 3) (ret := some .int) (own := RX4) (lv0 := [(0, .ref a0), (1, .int x1)]) (by decide) rfl rfl (Nat.le_of_ble_eq_true rfl) rfl hwf (fun E hE X => ?_)
  obtain ⟨o, h0, hk⟩ := mm_run_ok (P := PX4_on E G a0 x1 q) h (fun s o hs hk => by cases s with | inl s => exact wX4_on_b28 X ha0 hs hk | inr s => (exact wX4_on_b59 X ha0 hs hk))
  exact wX4_on_b0 X ha0 h0 hk
theorem dX4_copies_0 : decode cX4_copies 0 = .ok (.iconst 0, 1) := by decide +kernel
theorem dX4_copies_1 : decode cX4_copies 1 = .ok (.istore_n 2, 1) := by decide +kernel
theorem dX4_copies_2 : decode cX4_copies 2 = .ok (.iload_n 2, 1) := by decide +kernel
theorem dX4_copies_3 : decode cX4_copies 3 = .ok (.bipush 48, 2) := by decide +kernel
theorem dX4_copies_5 : decode cX4_copies 5 = .ok (.if_icmp .ge 15, 3) := by decide +kernel
theorem dX4_copies_8 : decode cX4_copies 8 = .ok (.aload_n 1, 1) := by decide +kernel
theorem dX4_copies_9 : decode cX4_copies 9 = .ok (.iload_n 2, 1) := by decide +kernel
theorem dX4_copies_10 : decode cX4_copies 10 = .ok (.aload_n 0, 1) := by decide +kernel
theorem dX4_copies_11 : decode cX4_copies 11 = .ok (.iload_n 2, 1) := by decide +kernel
theorem dX4_copies_12 : decode cX4_copies 12 = .ok (.iaload, 1) := by decide +kernel
theorem dX4_copies_13 : decode cX4_copies 13 = .ok (.iastore, 1) := by decide +kernel
theorem dX4_copies_14 : decode cX4_copies 14 = .ok (.iinc 2 1, 3) := by decide +kernel
theorem dX4_copies_17 : decode cX4_copies 17 = .ok (.goto (-15), 3) := by decide +kernel
theorem dX4_copies_20 : decode cX4_copies 20 = .ok (.return_, 1) := by decide +kernel
/-! X4_copies ([I[I)V -/
abbrev rmX4_copies : Room := { frames := 0, cells := 0, slots := 0, locals := 0 }
noncomputable def fX4_copies_b2 (G : mm_G) (a0 : Nat) (a1 : Nat) (x2 : Int32) (σ : mm_M) : Option (mm_M ⊕ (Int32 × mm_M)) := if x2 < (48 : Int32) then (if x2 < 0 ∨ mm_N G a0 ≤ x2.toNatClampNeg then none else (if x2 < 0 ∨ mm_N G a1 ≤ x2.toNatClampNeg then none else (some (.inr (x2 + 1, mm_up σ a1 x2.toNatClampNeg (σ.1 a0 x2.toNatClampNeg)))))) else (some (.inl σ))
noncomputable def fX4_copies_b0 (G : mm_G) (a0 : Nat) (a1 : Nat) (σ : mm_M) : Option (mm_M ⊕ (Int32 × mm_M)) := some (.inr ((0 : Int32), σ))
noncomputable def fX4_copies_s (G : mm_G) (a0 : Nat) (a1 : Nat) : (Int32 × mm_M) → Option (mm_M ⊕ (Int32 × mm_M)) := (fun s => fX4_copies_b2 G a0 a1 s.1 s.2)
def PX4_copies (E : mm_E) (G : mm_G) (a0 : Nat) (a1 : Nat) (q : mm_M) : (Int32 × mm_M) → Prop := (fun s => mm_At E G 3 (mm_Qv E G q) s.2 2 [(0, .ref a0), (1, .ref a1), (2, .int s.1)] [])
noncomputable def fX4_copies (G : mm_G) (a0 : Nat) (a1 : Nat) (σ : mm_M) : Option mm_M := mm_run (fX4_copies_b0 G a0 a1 σ) (fX4_copies_s G a0 a1)
set_option maxHeartbeats 4000000 in
set_option maxRecDepth 100000 in
theorem wX4_copies_b2 {E : mm_E} {G : mm_G} (X : mm_Cx E G cX4_copies 3 RX4 wsX4_copies rmX4_copies (none)) {a0 : Nat} {a1 : Nat} {x2 : Int32} {σ : mm_M} {q : mm_M} (ha0 : mm_Is G 6 a0) (ha1 : mm_Is G 6 a1) {o : mm_M ⊕ (Int32 × mm_M)} (h : fX4_copies_b2 G a0 a1 x2 σ = some o) (hk : mm_Ok q (PX4_copies E G a0 a1 q) o) : mm_At E G 3 (mm_Qv E G q) σ 2 [(0, .ref a0), (1, .ref a1), (2, .int x2)] [] := by
  unfold fX4_copies_b2 at h
  refine at_iload_n (pc := 2) X 2 2 dX4_copies_2 rfl rfl ?_
  refine at_bipush (pc := 3) X (48 : Int32) dX4_copies_3 ib_48 ?_
  refine at_icmp_ge (pc := 5) X 20 dX4_copies_5 (by decide) (fun c5 => ?_) (fun c5 => ?_)
  · have h := mm_neg c5 h
    exact at_vret (pc := 20) X (mm_inl h hk) dX4_copies_20
  · have h := mm_pos c5 h
    refine at_aload_n (pc := 8) X 1 1 dX4_copies_8 rfl rfl ?_
    refine at_iload_n (pc := 9) X 2 2 dX4_copies_9 rfl rfl ?_
    refine at_aload_n (pc := 10) X 0 0 dX4_copies_10 rfl rfl ?_
    refine at_iload_n (pc := 11) X 2 2 dX4_copies_11 rfl rfl ?_
    obtain ⟨hc12, h⟩ := mm_chk h
    refine at_iald (pc := 12) X ha0 hc12 dX4_copies_12 ?_
    obtain ⟨hc13, h⟩ := mm_chk h
    refine at_iast (pc := 13) X ha1 hc13 dX4_copies_13 ?_
    refine at_iinc (pc := 14) X 2 2 (x2 + 1) [(2, .int (x2 + 1)), (0, .ref a0), (1, .ref a1)] dX4_copies_14 rfl (ii_1 _) (by decide) rfl ?_
    refine at_goto (pc := 17) X 2 dX4_copies_17 (by decide) ?_
    have h2 := mm_inr h hk; exact at_sub [1, 2, 0] rfl h2
set_option maxHeartbeats 4000000 in
set_option maxRecDepth 100000 in
theorem wX4_copies_b0 {E : mm_E} {G : mm_G} (X : mm_Cx E G cX4_copies 3 RX4 wsX4_copies rmX4_copies (none)) {a0 : Nat} {a1 : Nat} {σ : mm_M} {q : mm_M} (ha0 : mm_Is G 6 a0) (ha1 : mm_Is G 6 a1) {o : mm_M ⊕ (Int32 × mm_M)} (h : fX4_copies_b0 G a0 a1 σ = some o) (hk : mm_Ok q (PX4_copies E G a0 a1 q) o) : mm_At E G 3 (mm_Qv E G q) σ 0 [(0, .ref a0), (1, .ref a1)] [] := by
  unfold fX4_copies_b0 at h
  refine at_iconst (pc := 0) X (0 : Int32) dX4_copies_0 ic_0 ?_
  refine at_istore_n (pc := 1) X 2 [(2, .int (0 : Int32)), (0, .ref a0), (1, .ref a1)] dX4_copies_1 rfl (by decide) rfl ?_
  have h2 := mm_inr h hk; exact at_sub [1, 2, 0] rfl h2
set_option maxHeartbeats 4000000 in
set_option maxRecDepth 100000 in
theorem mX4_copies (l : Launch) {G : mm_G} (hwf : mm_WF G) {a0 : Nat} {a1 : Nat} {σ : mm_M} {q : mm_M} (ha0 : mm_Is G 6 a0) (ha1 : mm_Is G 6 a1) (h : fX4_copies G a0 a1 σ = some q) : mm_Mv l yX4_copies wsX4_copies rmX4_copies G [.ref a0, .ref a1] σ q := by
  refine mm_ofv (cc := cX4_copies) (nL := 3) (ret := none) (own := RX4) (lv0 := [(0, .ref a0), (1, .ref a1)]) (by decide) rfl rfl (Nat.le_of_ble_eq_true rfl) rfl hwf (fun E hE X => ?_)
  obtain ⟨o, h0, hk⟩ := mm_run_ok (P := PX4_copies E G a0 a1 q) h (fun s o hs hk => by exact wX4_copies_b2 X ha0 ha1 hs hk)
  exact wX4_copies_b0 X ha0 ha1 h0 hk
set_option maxRecDepth 20000 in
theorem ggX4_talks_X4_talkers : GoodIn wsX4_talks wsX4_talkers := goodIn_r _ [6, 7, 8, 5, 9, 10, 11, 12, 13, 14, 15] (by decide +kernel) (by decide +kernel)
set_option maxRecDepth 20000 in
theorem gX4_talks_X4_talkers : GoodIn wsX4_talks (va_wsS RX4 145 yX4_talkers wsX4_talkers) := goodIn_app (goodIn_of _ (by decide +kernel)) ggX4_talks_X4_talkers
set_option maxRecDepth 20000 in
theorem ggX4_talks_X4_ones : GoodIn wsX4_talks wsX4_ones := goodIn_r _ [18] (by decide +kernel) (by decide +kernel)
set_option maxRecDepth 20000 in
theorem gX4_talks_X4_ones : GoodIn wsX4_talks (va_wsS RX4 149 yX4_ones wsX4_ones) := goodIn_app (goodIn_of _ (by decide +kernel)) ggX4_talks_X4_ones
theorem dX4_talks_0 : decode cX4_talks 0 = .ok (.aload_n 0, 1) := by decide +kernel
theorem dX4_talks_1 : decode cX4_talks 1 = .ok (.getfield 26, 3) := by decide +kernel
theorem dX4_talks_4 : decode cX4_talks 4 = .ok (.invokestatic 145, 3) := by decide +kernel
theorem dX4_talks_7 : decode cX4_talks 7 = .ok (.istore_n 1, 1) := by decide +kernel
theorem dX4_talks_8 : decode cX4_talks 8 = .ok (.aload_n 0, 1) := by decide +kernel
theorem dX4_talks_9 : decode cX4_talks 9 = .ok (.iload_n 1, 1) := by decide +kernel
theorem dX4_talks_10 : decode cX4_talks 10 = .ok (.invokestatic 149, 3) := by decide +kernel
theorem dX4_talks_13 : decode cX4_talks 13 = .ok (.iconst 1, 1) := by decide +kernel
theorem dX4_talks_14 : decode cX4_talks 14 = .ok (.if_icmp .ne 7, 3) := by decide +kernel
theorem dX4_talks_17 : decode cX4_talks 17 = .ok (.iconst 1, 1) := by decide +kernel
theorem dX4_talks_18 : decode cX4_talks 18 = .ok (.goto 4, 3) := by decide +kernel
theorem dX4_talks_21 : decode cX4_talks 21 = .ok (.iconst 0, 1) := by decide +kernel
theorem dX4_talks_22 : decode cX4_talks 22 = .ok (.putfield 70, 3) := by decide +kernel
theorem dX4_talks_25 : decode cX4_talks 25 = .ok (.iload_n 1, 1) := by decide +kernel
theorem dX4_talks_26 : decode cX4_talks 26 = .ok (.ireturn, 1) := by decide +kernel
/-! X4_talks ()I -/
abbrev rmX4_talks : Room := { frames := 3, cells := 0, slots := 0, locals := 64 }
theorem lkX4_talks_0 : Cond.fieldLink RX4 26 (TX4 5).1 (TX4 5).2.1 (TX4 5).2.2.1 ∈ wsX4_talks := by decide +kernel
theorem lkX4_talks_1 : Cond.fieldLink RX4 70 (TX4 14).1 (TX4 14).2.1 (TX4 14).2.2.1 ∈ wsX4_talks := by decide +kernel
theorem inX4_talks_X4 : ∀ w ∈ u_ws RX4 TX4 22, w ∈ wsX4_talks := by decide +kernel
noncomputable def fX4_talks_b22 (G : mm_G) (a0 : Nat) (x1 : Int32) (sx0 : Int32) (sa1 : Nat) (σ : mm_M) : Option (Int32 × mm_M) := some (x1, mm_up σ sa1 14 sx0)
noncomputable def fX4_talks (G : mm_G) (a0 : Nat) (σ : mm_M) : Option (Int32 × mm_M) := (fX4_talkers G (mm_R G a0 5) σ).bind (fun q4 => (fX4_ones G q4.1 q4.2).bind (fun q10 => fX4_talks_b22 G a0 q4.1 (if q10.1 = (1 : Int32) then (1 : Int32) else (0 : Int32)) a0 q10.2))
set_option maxHeartbeats 4000000 in
set_option maxRecDepth 100000 in
theorem wX4_talks_b22 {E : mm_E} {G : mm_G} (X : mm_Cx E G cX4_talks 2 RX4 wsX4_talks rmX4_talks (some .int)) {a0 : Nat} {x1 : Int32} {sx0 : Int32} {sa1 : Nat} {σ : mm_M} {q : (Int32 × mm_M)} (ha0 : mm_Is G 4 a0) (hsa1 : mm_Is G 4 sa1) (h : fX4_talks_b22 G a0 x1 sx0 sa1 σ = some q) : mm_At E G 2 (mm_Qi E G q) σ 22 [(1, .int x1)] [.int sx0, .ref sa1] := by
  unfold fX4_talks_b22 at h
  refine at_put (pc := 22) X 4 14 hsa1 (by decide) rfl inX4_talks_X4 tyX4 tyX4_ok nmX4 (by decide) lkX4_talks_1 rfl (ty := .int) rfl rfl rfl (Nat.le_of_ble_eq_true rfl) (ms_4_14 G _ _ _) mm_up_ne dX4_talks_22 ?_
  refine at_iload_n (pc := 25) X 1 0 dX4_talks_25 rfl rfl ?_
  exact at_iret (pc := 26) X (Option.some.inj h) dX4_talks_26
set_option maxHeartbeats 4000000 in
set_option maxRecDepth 100000 in
theorem wX4_talks_b0 {E : mm_E} {G : mm_G} (X : mm_Cx E G cX4_talks 2 RX4 wsX4_talks rmX4_talks (some .int)) {a0 : Nat} {σ : mm_M} {q : (Int32 × mm_M)} (ha0 : mm_Is G 4 a0) (h : fX4_talks G a0 σ = some q) : mm_At E G 2 (mm_Qi E G q) σ 0 [(0, .ref a0)] [] := by
  unfold fX4_talks at h
  refine at_aload_n (pc := 0) X 0 0 dX4_talks_0 rfl rfl ?_
  refine at_get (pc := 1) X 4 5 (.ref (mm_R G a0 5)) ha0 (by decide) rfl inX4_talks_X4 (by decide) lkX4_talks_0 rfl dX4_talks_1 ?_
  obtain ⟨q4, hq4, h⟩ := mm_bind h
  refine at_scalli (n := 1) (pc := 4) X [.ref (mm_R G a0 5)] [] (mX4_talkers (eL E) X.wf (wf_4_5 X.wf ha0) hq4) gX4_talks_X4_talkers rfl ⟨rfl, rfl⟩ (by decide +kernel) ⟨by decide, by decide⟩ rfl rfl (Nat.le_of_ble_eq_true rfl) dX4_talks_4 ?_
  refine at_istore_n (pc := 7) X 1 [(1, .int q4.1), (0, .ref a0)] dX4_talks_7 rfl (by decide) rfl ?_
  refine at_aload_n (pc := 8) X 0 1 dX4_talks_8 rfl rfl ?_
  refine at_iload_n (pc := 9) X 1 0 dX4_talks_9 rfl rfl ?_
  obtain ⟨q10, hq10, h⟩ := mm_bind h
  refine at_scalli (n := 1) (pc := 10) X [.int q4.1] [.ref a0] (mX4_ones (eL E) X.wf hq10) gX4_talks_X4_ones rfl ⟨rfl, rfl⟩ (by decide +kernel) ⟨by decide, by decide⟩ rfl rfl (Nat.le_of_ble_eq_true rfl) dX4_talks_10 ?_
  refine at_iconst (pc := 13) X (1 : Int32) dX4_talks_13 ic_1 ?_
  have hj14 : mm_At E G 2 (mm_Qi E G q) q10.2 22 [(1, .int q4.1)] [.int (if q10.1 = (1 : Int32) then (1 : Int32) else (0 : Int32)), .ref a0] := by
    exact at_sub [0] rfl (wX4_talks_b22 X ha0 ha0 h)
  refine at_icmp_ne (pc := 14) X 21 dX4_talks_14 (by decide) (fun c14 => ?_) (fun c14 => ?_)
  · try simp only [if_neg c14] at hj14
    refine at_iconst (pc := 21) X (0 : Int32) dX4_talks_21 ic_0 ?_
    exact at_sub [0] rfl hj14
  · try simp only [if_pos c14] at hj14
    refine at_iconst (pc := 17) X (1 : Int32) dX4_talks_17 ic_1 ?_
    refine at_goto (pc := 18) X 22 dX4_talks_18 (by decide) ?_
    exact at_sub [0] rfl hj14
set_option maxHeartbeats 4000000 in
set_option maxRecDepth 100000 in
theorem mX4_talks (l : Launch) {G : mm_G} (hwf : mm_WF G) {a0 : Nat} {σ : mm_M} {q : (Int32 × mm_M)} (ha0 : mm_Is G 4 a0) (h : fX4_talks G a0 σ = some q) : mm_Mi l yX4_talks wsX4_talks rmX4_talks G [.ref a0] σ q := by
  refine mm_ofi (cc := cX4_talks) (nL := 2) (ret := some .int) (own := RX4) (lv0 := [(0, .ref a0)]) (by decide) rfl rfl (Nat.le_of_ble_eq_true rfl) rfl hwf (fun E hE X => ?_)
  exact wX4_talks_b0 X ha0 h
set_option maxRecDepth 20000 in
theorem ggX4_later_X4_isStation : GoodIn wsX4_later wsX4_isStation := goodIn_r _ [8, 1, 9, 10, 7, 11, 45, 46, 47, 48, 49, 50, 51, 52, 53, 54, 55, 56, 57, 58, 59, 60, 61, 62, 63, 64, 65, 66] (by decide +kernel) (by decide +kernel)
set_option maxRecDepth 20000 in
theorem gX4_later_X4_isStation : GoodIn wsX4_later (wsV RX4 132 RX4 yX4_isStation wsX4_isStation) := goodIn_app (goodIn_of _ (by decide +kernel)) ggX4_later_X4_isStation
set_option maxRecDepth 20000 in
theorem ggX4_later_X4_in : GoodIn wsX4_later wsX4_in := goodIn_r _ [11] (by decide +kernel) (by decide +kernel)
set_option maxRecDepth 20000 in
theorem gX4_later_X4_in : GoodIn wsX4_later (va_wsS RX4 73 yX4_in wsX4_in) := goodIn_app (goodIn_of _ (by decide +kernel)) ggX4_later_X4_in
set_option maxRecDepth 20000 in
theorem ggX4_later_X4_copies : GoodIn wsX4_later wsX4_copies := goodIn_r _ [14] (by decide +kernel) (by decide +kernel)
set_option maxRecDepth 20000 in
theorem gX4_later_X4_copies : GoodIn wsX4_later (va_wsS RX4 165 yX4_copies wsX4_copies) := goodIn_app (goodIn_of _ (by decide +kernel)) ggX4_later_X4_copies
set_option maxRecDepth 20000 in
theorem ggX4_later_X4_goes : GoodIn wsX4_later wsX4_goes := goodIn_r _ [17, 18, 19, 7, 20, 21, 22, 23, 24, 25, 26, 27, 28, 29, 30, 31, 32, 33, 34, 35, 36, 37, 38, 39, 40, 41, 42, 43, 44] (by decide +kernel) (by decide +kernel)
set_option maxRecDepth 20000 in
theorem gX4_later_X4_goes : GoodIn wsX4_later (va_wsS RX4 159 yX4_goes wsX4_goes) := goodIn_app (goodIn_of _ (by decide +kernel)) ggX4_later_X4_goes
theorem dX4_later_0 : decode cX4_later 0 = .ok (.aload_n 0, 1) := by decide +kernel
theorem dX4_later_1 : decode cX4_later 1 = .ok (.iload_n 1, 1) := by decide +kernel
theorem dX4_later_2 : decode cX4_later 2 = .ok (.invokevirtual 132, 3) := by decide +kernel
theorem dX4_later_5 : decode cX4_later 5 = .ok (.ifCond .eq 13, 3) := by decide +kernel
theorem dX4_later_8 : decode cX4_later 8 = .ok (.iload_n 2, 1) := by decide +kernel
theorem dX4_later_9 : decode cX4_later 9 = .ok (.iconst 0, 1) := by decide +kernel
theorem dX4_later_10 : decode cX4_later 10 = .ok (.bipush 100, 2) := by decide +kernel
theorem dX4_later_12 : decode cX4_later 12 = .ok (.invokestatic 73, 3) := by decide +kernel
theorem dX4_later_15 : decode cX4_later 15 = .ok (.ifCond .ne 5, 3) := by decide +kernel
theorem dX4_later_18 : decode cX4_later 18 = .ok (.iconst (-1), 1) := by decide +kernel
theorem dX4_later_19 : decode cX4_later 19 = .ok (.ireturn, 1) := by decide +kernel
theorem dX4_later_20 : decode cX4_later 20 = .ok (.aload_n 0, 1) := by decide +kernel
theorem dX4_later_21 : decode cX4_later 21 = .ok (.getfield 26, 3) := by decide +kernel
theorem dX4_later_24 : decode cX4_later 24 = .ok (.aload_n 0, 1) := by decide +kernel
theorem dX4_later_25 : decode cX4_later 25 = .ok (.getfield 32, 3) := by decide +kernel
theorem dX4_later_28 : decode cX4_later 28 = .ok (.invokestatic 165, 3) := by decide +kernel
theorem dX4_later_31 : decode cX4_later 31 = .ok (.iconst 0, 1) := by decide +kernel
theorem dX4_later_32 : decode cX4_later 32 = .ok (.istore_n 3, 1) := by decide +kernel
theorem dX4_later_33 : decode cX4_later 33 = .ok (.iload_n 3, 1) := by decide +kernel
theorem dX4_later_34 : decode cX4_later 34 = .ok (.iload_n 2, 1) := by decide +kernel
theorem dX4_later_35 : decode cX4_later 35 = .ok (.if_icmp .ge 17, 3) := by decide +kernel
theorem dX4_later_38 : decode cX4_later 38 = .ok (.aload_n 0, 1) := by decide +kernel
theorem dX4_later_39 : decode cX4_later 39 = .ok (.getfield 32, 3) := by decide +kernel
theorem dX4_later_42 : decode cX4_later 42 = .ok (.invokestatic 159, 3) := by decide +kernel
theorem dX4_later_45 : decode cX4_later 45 = .ok (.pop, 1) := by decide +kernel
theorem dX4_later_46 : decode cX4_later 46 = .ok (.iinc 3 1, 3) := by decide +kernel
theorem dX4_later_49 : decode cX4_later 49 = .ok (.goto (-16), 3) := by decide +kernel
theorem dX4_later_52 : decode cX4_later 52 = .ok (.aload_n 0, 1) := by decide +kernel
theorem dX4_later_53 : decode cX4_later 53 = .ok (.aload_n 0, 1) := by decide +kernel
theorem dX4_later_54 : decode cX4_later 54 = .ok (.getfield 32, 3) := by decide +kernel
theorem dX4_later_57 : decode cX4_later 57 = .ok (.iconst 2, 1) := by decide +kernel
theorem dX4_later_58 : decode cX4_later 58 = .ok (.iaload, 1) := by decide +kernel
theorem dX4_later_59 : decode cX4_later 59 = .ok (.aload_n 0, 1) := by decide +kernel
theorem dX4_later_60 : decode cX4_later 60 = .ok (.getfield 26, 3) := by decide +kernel
theorem dX4_later_63 : decode cX4_later 63 = .ok (.iconst 2, 1) := by decide +kernel
theorem dX4_later_64 : decode cX4_later 64 = .ok (.iaload, 1) := by decide +kernel
theorem dX4_later_65 : decode cX4_later 65 = .ok (.isub, 1) := by decide +kernel
theorem dX4_later_66 : decode cX4_later 66 = .ok (.putfield 70, 3) := by decide +kernel
theorem dX4_later_69 : decode cX4_later 69 = .ok (.aload_n 0, 1) := by decide +kernel
theorem dX4_later_70 : decode cX4_later 70 = .ok (.getfield 32, 3) := by decide +kernel
theorem dX4_later_73 : decode cX4_later 73 = .ok (.bipush 11, 2) := by decide +kernel
theorem dX4_later_75 : decode cX4_later 75 = .ok (.iload_n 1, 1) := by decide +kernel
theorem dX4_later_76 : decode cX4_later 76 = .ok (.iadd, 1) := by decide +kernel
theorem dX4_later_77 : decode cX4_later 77 = .ok (.iaload, 1) := by decide +kernel
theorem dX4_later_78 : decode cX4_later 78 = .ok (.ireturn, 1) := by decide +kernel
/-! X4_later (II)I -/
abbrev rmX4_later : Room := { frames := 5, cells := 0, slots := 0, locals := 113 }
theorem lkX4_later_0 : Cond.fieldLink RX4 26 (TX4 5).1 (TX4 5).2.1 (TX4 5).2.2.1 ∈ wsX4_later := by decide +kernel
theorem lkX4_later_1 : Cond.fieldLink RX4 32 (TX4 7).1 (TX4 7).2.1 (TX4 7).2.2.1 ∈ wsX4_later := by decide +kernel
theorem lkX4_later_2 : Cond.fieldLink RX4 70 (TX4 14).1 (TX4 14).2.1 (TX4 14).2.2.1 ∈ wsX4_later := by decide +kernel
theorem inX4_later_X4 : ∀ w ∈ u_ws RX4 TX4 22, w ∈ wsX4_later := by decide +kernel
noncomputable def fX4_later_b33 (G : mm_G) (a0 : Nat) (x1 : Int32) (x2 : Int32) (x3 : Int32) (σ : mm_M) : Option ((Int32 × mm_M) ⊕ (Int32 × mm_M)) := if x3 < x2 then ((fX4_goes G (mm_R G a0 7) σ).bind (fun q42 => some (.inr (x3 + 1, q42.2)))) else (if (2 : Int32) < 0 ∨ mm_N G (mm_R G a0 7) ≤ (2 : Int32).toNatClampNeg then none else (if (2 : Int32) < 0 ∨ mm_N G (mm_R G a0 5) ≤ (2 : Int32).toNatClampNeg then none else (if ((11 : Int32) + x1) < 0 ∨ mm_N G (mm_R G a0 7) ≤ ((11 : Int32) + x1).toNatClampNeg then none else (some (.inl ((mm_up σ a0 14 ((σ.1 (mm_R G a0 7) (2 : Int32).toNatClampNeg) - (σ.1 (mm_R G a0 5) (2 : Int32).toNatClampNeg))).1 (mm_R G a0 7) ((11 : Int32) + x1).toNatClampNeg, mm_up σ a0 14 ((σ.1 (mm_R G a0 7) (2 : Int32).toNatClampNeg) - (σ.1 (mm_R G a0 5) (2 : Int32).toNatClampNeg))))))))
noncomputable def fX4_later_b0 (G : mm_G) (a0 : Nat) (x1 : Int32) (x2 : Int32) (σ : mm_M) : Option ((Int32 × mm_M) ⊕ (Int32 × mm_M)) := (fX4_isStation G a0 x1 σ).bind (fun q2 => if q2.1 = 0 then (some (.inl ((-1 : Int32), q2.2))) else ((fX4_in G x2 (0 : Int32) (100 : Int32) q2.2).bind (fun q12 => if q12.1 = 0 then (some (.inl ((-1 : Int32), q12.2))) else ((fX4_copies G (mm_R G a0 5) (mm_R G a0 7) q12.2).bind (fun q28 => some (.inr ((0 : Int32), q28)))))))
noncomputable def fX4_later_s (G : mm_G) (a0 : Nat) (x1 : Int32) (x2 : Int32) : (Int32 × mm_M) → Option ((Int32 × mm_M) ⊕ (Int32 × mm_M)) := (fun s => fX4_later_b33 G a0 x1 x2 s.1 s.2)
def PX4_later (E : mm_E) (G : mm_G) (a0 : Nat) (x1 : Int32) (x2 : Int32) (q : (Int32 × mm_M)) : (Int32 × mm_M) → Prop := (fun s => mm_At E G 4 (mm_Qi E G q) s.2 33 [(0, .ref a0), (1, .int x1), (2, .int x2), (3, .int s.1)] [])
noncomputable def fX4_later (G : mm_G) (a0 : Nat) (x1 : Int32) (x2 : Int32) (σ : mm_M) : Option (Int32 × mm_M) := mm_run (fX4_later_b0 G a0 x1 x2 σ) (fX4_later_s G a0 x1 x2)
set_option maxHeartbeats 4000000 in
set_option maxRecDepth 100000 in
theorem wX4_later_b33 {E : mm_E} {G : mm_G} (X : mm_Cx E G cX4_later 4 RX4 wsX4_later rmX4_later (some .int)) {a0 : Nat} {x1 : Int32} {x2 : Int32} {x3 : Int32} {σ : mm_M} {q : (Int32 × mm_M)} (ha0 : mm_Is G 4 a0) {o : (Int32 × mm_M) ⊕ (Int32 × mm_M)} (h : fX4_later_b33 G a0 x1 x2 x3 σ = some o) (hk : mm_Ok q (PX4_later E G a0 x1 x2 q) o) : mm_At E G 4 (mm_Qi E G q) σ 33 [(0, .ref a0), (1, .int x1), (2, .int x2), (3, .int x3)] [] := by
  unfold fX4_later_b33 at h
  refine at_iload_n (pc := 33) X 3 3 dX4_later_33 rfl rfl ?_
  refine at_iload_n (pc := 34) X 2 2 dX4_later_34 rfl rfl ?_
  refine at_icmp_ge (pc := 35) X 52 dX4_later_35 (by decide) (fun c35 => ?_) (fun c35 => ?_)
  · have h := mm_neg c35 h
    refine at_aload_n (pc := 52) X 0 0 dX4_later_52 rfl rfl ?_
    refine at_aload_n (pc := 53) X 0 0 dX4_later_53 rfl rfl ?_
    refine at_get (pc := 54) X 4 7 (.ref (mm_R G a0 7)) ha0 (by decide) rfl inX4_later_X4 (by decide) lkX4_later_1 rfl dX4_later_54 ?_
    refine at_iconst (pc := 57) X (2 : Int32) dX4_later_57 ic_2 ?_
    obtain ⟨hc58, h⟩ := mm_chk h
    refine at_iald (pc := 58) X (wf_4_7 X.wf ha0) hc58 dX4_later_58 ?_
    refine at_aload_n (pc := 59) X 0 0 dX4_later_59 rfl rfl ?_
    refine at_get (pc := 60) X 4 5 (.ref (mm_R G a0 5)) ha0 (by decide) rfl inX4_later_X4 (by decide) lkX4_later_0 rfl dX4_later_60 ?_
    refine at_iconst (pc := 63) X (2 : Int32) dX4_later_63 ic_2 ?_
    obtain ⟨hc64, h⟩ := mm_chk h
    refine at_iald (pc := 64) X (wf_4_5 X.wf ha0) hc64 dX4_later_64 ?_
    refine at_isub (pc := 65) X dX4_later_65 ?_
    refine at_put (pc := 66) X 4 14 ha0 (by decide) rfl inX4_later_X4 tyX4 tyX4_ok nmX4 (by decide) lkX4_later_2 rfl (ty := .int) rfl rfl rfl (Nat.le_of_ble_eq_true rfl) (ms_4_14 G _ _ _) mm_up_ne dX4_later_66 ?_
    refine at_aload_n (pc := 69) X 0 0 dX4_later_69 rfl rfl ?_
    refine at_get (pc := 70) X 4 7 (.ref (mm_R G a0 7)) ha0 (by decide) rfl inX4_later_X4 (by decide) lkX4_later_1 rfl dX4_later_70 ?_
    refine at_bipush (pc := 73) X (11 : Int32) dX4_later_73 ib_11 ?_
    refine at_iload_n (pc := 75) X 1 1 dX4_later_75 rfl rfl ?_
    refine at_iadd (pc := 76) X dX4_later_76 ?_
    obtain ⟨hc77, h⟩ := mm_chk h
    refine at_iald (pc := 77) X (wf_4_7 X.wf ha0) hc77 dX4_later_77 ?_
    exact at_iret (pc := 78) X (mm_inl h hk) dX4_later_78
  · have h := mm_pos c35 h
    refine at_aload_n (pc := 38) X 0 0 dX4_later_38 rfl rfl ?_
    refine at_get (pc := 39) X 4 7 (.ref (mm_R G a0 7)) ha0 (by decide) rfl inX4_later_X4 (by decide) lkX4_later_1 rfl dX4_later_39 ?_
    obtain ⟨q42, hq42, h⟩ := mm_bind h
    refine at_scalli (n := 1) (pc := 42) X [.ref (mm_R G a0 7)] [] (mX4_goes (eL E) X.wf (wf_4_7 X.wf ha0) hq42) gX4_later_X4_goes rfl ⟨rfl, rfl⟩ (by decide +kernel) ⟨by decide, by decide⟩ rfl rfl (Nat.le_of_ble_eq_true rfl) dX4_later_42 ?_
    refine at_pop (pc := 45) X dX4_later_45 rfl ?_
    refine at_iinc (pc := 46) X 3 3 (x3 + 1) [(3, .int (x3 + 1)), (0, .ref a0), (1, .int x1), (2, .int x2)] dX4_later_46 rfl (ii_1 _) (by decide) rfl ?_
    refine at_goto (pc := 49) X 33 dX4_later_49 (by decide) ?_
    have h2 := mm_inr h hk; exact at_sub [1, 2, 3, 0] rfl h2
set_option maxHeartbeats 4000000 in
set_option maxRecDepth 100000 in
theorem wX4_later_b0 {E : mm_E} {G : mm_G} (X : mm_Cx E G cX4_later 4 RX4 wsX4_later rmX4_later (some .int)) {a0 : Nat} {x1 : Int32} {x2 : Int32} {σ : mm_M} {q : (Int32 × mm_M)} (ha0 : mm_Is G 4 a0) {o : (Int32 × mm_M) ⊕ (Int32 × mm_M)} (h : fX4_later_b0 G a0 x1 x2 σ = some o) (hk : mm_Ok q (PX4_later E G a0 x1 x2 q) o) : mm_At E G 4 (mm_Qi E G q) σ 0 [(0, .ref a0), (1, .int x1), (2, .int x2)] [] := by
  unfold fX4_later_b0 at h
  refine at_aload_n (pc := 0) X 0 0 dX4_later_0 rfl rfl ?_
  refine at_iload_n (pc := 1) X 1 1 dX4_later_1 rfl rfl ?_
  obtain ⟨q2, hq2, h⟩ := mm_bind h
  refine at_calli (n := 1) (pc := 2) X 4 [.int x1] [] (mX4_isStation (eL E) X.wf ha0 hq2) gX4_later_X4_isStation rfl ⟨rfl, rfl⟩ (by decide +kernel) ⟨by decide, by decide⟩ (by decide) rfl ha0 rfl rfl (Nat.le_of_ble_eq_true rfl) dX4_later_2 ?_
  refine at_if_eq (pc := 5) X 18 dX4_later_5 (by decide) (fun c5 => ?_) (fun c5 => ?_)
  · have h := mm_pos c5 h
    refine at_iconst (pc := 18) X (-1 : Int32) dX4_later_18 ic_m1 ?_
    exact at_iret (pc := 19) X (mm_inl h hk) dX4_later_19
  · have h := mm_neg c5 h
    refine at_iload_n (pc := 8) X 2 2 dX4_later_8 rfl rfl ?_
    refine at_iconst (pc := 9) X (0 : Int32) dX4_later_9 ic_0 ?_
    refine at_bipush (pc := 10) X (100 : Int32) dX4_later_10 ib_100 ?_
    obtain ⟨q12, hq12, h⟩ := mm_bind h
    refine at_scalli (n := 3) (pc := 12) X [.int x2, .int (0 : Int32), .int (100 : Int32)] [] (mX4_in (eL E) X.wf hq12) gX4_later_X4_in rfl ⟨rfl, rfl⟩ (by decide +kernel) ⟨by decide, by decide⟩ rfl rfl (Nat.le_of_ble_eq_true rfl) dX4_later_12 ?_
    refine at_if_ne (pc := 15) X 20 dX4_later_15 (by decide) (fun c15 => ?_) (fun c15 => ?_)
    · have h := mm_neg c15 h
      refine at_aload_n (pc := 20) X 0 0 dX4_later_20 rfl rfl ?_
      refine at_get (pc := 21) X 4 5 (.ref (mm_R G a0 5)) ha0 (by decide) rfl inX4_later_X4 (by decide) lkX4_later_0 rfl dX4_later_21 ?_
      refine at_aload_n (pc := 24) X 0 0 dX4_later_24 rfl rfl ?_
      refine at_get (pc := 25) X 4 7 (.ref (mm_R G a0 7)) ha0 (by decide) rfl inX4_later_X4 (by decide) lkX4_later_1 rfl dX4_later_25 ?_
      obtain ⟨q28, hq28, h⟩ := mm_bind h
      refine at_scallv (n := 2) (pc := 28) X [.ref (mm_R G a0 5), .ref (mm_R G a0 7)] [] (mX4_copies (eL E) X.wf (wf_4_5 X.wf ha0) (wf_4_7 X.wf ha0) hq28) gX4_later_X4_copies rfl ⟨rfl, rfl⟩ (by decide +kernel) ⟨by decide, by decide⟩ rfl rfl (Nat.le_of_ble_eq_true rfl) dX4_later_28 ?_
      refine at_iconst (pc := 31) X (0 : Int32) dX4_later_31 ic_0 ?_
      refine at_istore_n (pc := 32) X 3 [(3, .int (0 : Int32)), (0, .ref a0), (1, .int x1), (2, .int x2)] dX4_later_32 rfl (by decide) rfl ?_
      have h2 := mm_inr h hk; exact at_sub [1, 2, 3, 0] rfl h2
    · have h := mm_pos c15 h
      refine at_iconst (pc := 18) X (-1 : Int32) dX4_later_18 ic_m1 ?_
      exact at_iret (pc := 19) X (mm_inl h hk) dX4_later_19
set_option maxHeartbeats 4000000 in
set_option maxRecDepth 100000 in
theorem mX4_later (l : Launch) {G : mm_G} (hwf : mm_WF G) {a0 : Nat} {x1 : Int32} {x2 : Int32} {σ : mm_M} {q : (Int32 × mm_M)} (ha0 : mm_Is G 4 a0) (h : fX4_later G a0 x1 x2 σ = some q) : mm_Mi l yX4_later wsX4_later rmX4_later G [.ref a0, .int x1, .int x2] σ q := by
  refine mm_ofi (cc := cX4_later) (nL := 4) (ret := some .int) (own := RX4) (lv0 := [(0, .ref a0), (1, .int x1), (2, .int x2)]) (by decide) rfl rfl (Nat.le_of_ble_eq_true rfl) rfl hwf (fun E hE X => ?_)
  obtain ⟨o, h0, hk⟩ := mm_run_ok (P := PX4_later E G a0 x1 x2 q) h (fun s o hs hk => by exact wX4_later_b33 X ha0 hs hk)
  exact wX4_later_b0 X ha0 h0 hk
theorem dX4_lettersOf_0 : decode cX4_lettersOf 0 = .ok (.iconst 0, 1) := by decide +kernel
theorem dX4_lettersOf_1 : decode cX4_lettersOf 1 = .ok (.istore_n 1, 1) := by decide +kernel
theorem dX4_lettersOf_2 : decode cX4_lettersOf 2 = .ok (.iconst 0, 1) := by decide +kernel
theorem dX4_lettersOf_3 : decode cX4_lettersOf 3 = .ok (.istore_n 2, 1) := by decide +kernel
theorem dX4_lettersOf_4 : decode cX4_lettersOf 4 = .ok (.iload_n 2, 1) := by decide +kernel
theorem dX4_lettersOf_5 : decode cX4_lettersOf 5 = .ok (.aload_n 0, 1) := by decide +kernel
theorem dX4_lettersOf_6 : decode cX4_lettersOf 6 = .ok (.bipush 32, 2) := by decide +kernel
theorem dX4_lettersOf_8 : decode cX4_lettersOf 8 = .ok (.iaload, 1) := by decide +kernel
theorem dX4_lettersOf_9 : decode cX4_lettersOf 9 = .ok (.if_icmp .ge 18, 3) := by decide +kernel
theorem dX4_lettersOf_12 : decode cX4_lettersOf 12 = .ok (.iload_n 1, 1) := by decide +kernel
theorem dX4_lettersOf_13 : decode cX4_lettersOf 13 = .ok (.aload_n 0, 1) := by decide +kernel
theorem dX4_lettersOf_14 : decode cX4_lettersOf 14 = .ok (.bipush 11, 2) := by decide +kernel
theorem dX4_lettersOf_16 : decode cX4_lettersOf 16 = .ok (.iload_n 2, 1) := by decide +kernel
theorem dX4_lettersOf_17 : decode cX4_lettersOf 17 = .ok (.iadd, 1) := by decide +kernel
theorem dX4_lettersOf_18 : decode cX4_lettersOf 18 = .ok (.iaload, 1) := by decide +kernel
theorem dX4_lettersOf_19 : decode cX4_lettersOf 19 = .ok (.iadd, 1) := by decide +kernel
theorem dX4_lettersOf_20 : decode cX4_lettersOf 20 = .ok (.istore_n 1, 1) := by decide +kernel
theorem dX4_lettersOf_21 : decode cX4_lettersOf 21 = .ok (.iinc 2 1, 3) := by decide +kernel
theorem dX4_lettersOf_24 : decode cX4_lettersOf 24 = .ok (.goto (-20), 3) := by decide +kernel
theorem dX4_lettersOf_27 : decode cX4_lettersOf 27 = .ok (.iload_n 1, 1) := by decide +kernel
theorem dX4_lettersOf_28 : decode cX4_lettersOf 28 = .ok (.ireturn, 1) := by decide +kernel
/-! X4_lettersOf ([I)I -/
abbrev rmX4_lettersOf : Room := { frames := 0, cells := 0, slots := 0, locals := 0 }
noncomputable def fX4_lettersOf_b4 (G : mm_G) (a0 : Nat) (x1 : Int32) (x2 : Int32) (σ : mm_M) : Option ((Int32 × mm_M) ⊕ (Int32 × Int32 × mm_M)) := if (32 : Int32) < 0 ∨ mm_N G a0 ≤ (32 : Int32).toNatClampNeg then none else (if x2 < (σ.1 a0 (32 : Int32).toNatClampNeg) then (if ((11 : Int32) + x2) < 0 ∨ mm_N G a0 ≤ ((11 : Int32) + x2).toNatClampNeg then none else (some (.inr (x1 + (σ.1 a0 ((11 : Int32) + x2).toNatClampNeg), x2 + 1, σ)))) else (some (.inl (x1, σ))))
noncomputable def fX4_lettersOf_b0 (G : mm_G) (a0 : Nat) (σ : mm_M) : Option ((Int32 × mm_M) ⊕ (Int32 × Int32 × mm_M)) := some (.inr ((0 : Int32), (0 : Int32), σ))
noncomputable def fX4_lettersOf_s (G : mm_G) (a0 : Nat) : (Int32 × Int32 × mm_M) → Option ((Int32 × mm_M) ⊕ (Int32 × Int32 × mm_M)) := (fun s => fX4_lettersOf_b4 G a0 s.1 s.2.1 s.2.2)
def PX4_lettersOf (E : mm_E) (G : mm_G) (a0 : Nat) (q : (Int32 × mm_M)) : (Int32 × Int32 × mm_M) → Prop := (fun s => mm_At E G 3 (mm_Qi E G q) s.2.2 4 [(0, .ref a0), (1, .int s.1), (2, .int s.2.1)] [])
noncomputable def fX4_lettersOf (G : mm_G) (a0 : Nat) (σ : mm_M) : Option (Int32 × mm_M) := mm_run (fX4_lettersOf_b0 G a0 σ) (fX4_lettersOf_s G a0)
set_option maxHeartbeats 4000000 in
set_option maxRecDepth 100000 in
theorem wX4_lettersOf_b4 {E : mm_E} {G : mm_G} (X : mm_Cx E G cX4_lettersOf 3 RX4 wsX4_lettersOf rmX4_lettersOf (some .int)) {a0 : Nat} {x1 : Int32} {x2 : Int32} {σ : mm_M} {q : (Int32 × mm_M)} (ha0 : mm_Is G 6 a0) {o : (Int32 × mm_M) ⊕ (Int32 × Int32 × mm_M)} (h : fX4_lettersOf_b4 G a0 x1 x2 σ = some o) (hk : mm_Ok q (PX4_lettersOf E G a0 q) o) : mm_At E G 3 (mm_Qi E G q) σ 4 [(0, .ref a0), (1, .int x1), (2, .int x2)] [] := by
  unfold fX4_lettersOf_b4 at h
  refine at_iload_n (pc := 4) X 2 2 dX4_lettersOf_4 rfl rfl ?_
  refine at_aload_n (pc := 5) X 0 0 dX4_lettersOf_5 rfl rfl ?_
  refine at_bipush (pc := 6) X (32 : Int32) dX4_lettersOf_6 ib_32 ?_
  obtain ⟨hc8, h⟩ := mm_chk h
  refine at_iald (pc := 8) X ha0 hc8 dX4_lettersOf_8 ?_
  refine at_icmp_ge (pc := 9) X 27 dX4_lettersOf_9 (by decide) (fun c9 => ?_) (fun c9 => ?_)
  · have h := mm_neg c9 h
    refine at_iload_n (pc := 27) X 1 1 dX4_lettersOf_27 rfl rfl ?_
    exact at_iret (pc := 28) X (mm_inl h hk) dX4_lettersOf_28
  · have h := mm_pos c9 h
    refine at_iload_n (pc := 12) X 1 1 dX4_lettersOf_12 rfl rfl ?_
    refine at_aload_n (pc := 13) X 0 0 dX4_lettersOf_13 rfl rfl ?_
    refine at_bipush (pc := 14) X (11 : Int32) dX4_lettersOf_14 ib_11 ?_
    refine at_iload_n (pc := 16) X 2 2 dX4_lettersOf_16 rfl rfl ?_
    refine at_iadd (pc := 17) X dX4_lettersOf_17 ?_
    obtain ⟨hc18, h⟩ := mm_chk h
    refine at_iald (pc := 18) X ha0 hc18 dX4_lettersOf_18 ?_
    refine at_iadd (pc := 19) X dX4_lettersOf_19 ?_
    refine at_istore_n (pc := 20) X 1 [(1, .int (x1 + (σ.1 a0 ((11 : Int32) + x2).toNatClampNeg))), (0, .ref a0), (2, .int x2)] dX4_lettersOf_20 rfl (by decide) rfl ?_
    refine at_iinc (pc := 21) X 2 2 (x2 + 1) [(2, .int (x2 + 1)), (1, .int (x1 + (σ.1 a0 ((11 : Int32) + x2).toNatClampNeg))), (0, .ref a0)] dX4_lettersOf_21 rfl (ii_1 _) (by decide) rfl ?_
    refine at_goto (pc := 24) X 4 dX4_lettersOf_24 (by decide) ?_
    have h2 := mm_inr h hk; exact at_sub [2, 1, 0] rfl h2
set_option maxHeartbeats 4000000 in
set_option maxRecDepth 100000 in
theorem wX4_lettersOf_b0 {E : mm_E} {G : mm_G} (X : mm_Cx E G cX4_lettersOf 3 RX4 wsX4_lettersOf rmX4_lettersOf (some .int)) {a0 : Nat} {σ : mm_M} {q : (Int32 × mm_M)} (ha0 : mm_Is G 6 a0) {o : (Int32 × mm_M) ⊕ (Int32 × Int32 × mm_M)} (h : fX4_lettersOf_b0 G a0 σ = some o) (hk : mm_Ok q (PX4_lettersOf E G a0 q) o) : mm_At E G 3 (mm_Qi E G q) σ 0 [(0, .ref a0)] [] := by
  unfold fX4_lettersOf_b0 at h
  refine at_iconst (pc := 0) X (0 : Int32) dX4_lettersOf_0 ic_0 ?_
  refine at_istore_n (pc := 1) X 1 [(1, .int (0 : Int32)), (0, .ref a0)] dX4_lettersOf_1 rfl (by decide) rfl ?_
  refine at_iconst (pc := 2) X (0 : Int32) dX4_lettersOf_2 ic_0 ?_
  refine at_istore_n (pc := 3) X 2 [(2, .int (0 : Int32)), (1, .int (0 : Int32)), (0, .ref a0)] dX4_lettersOf_3 rfl (by decide) rfl ?_
  have h2 := mm_inr h hk; exact at_sub [2, 1, 0] rfl h2
set_option maxHeartbeats 4000000 in
set_option maxRecDepth 100000 in
theorem mX4_lettersOf (l : Launch) {G : mm_G} (hwf : mm_WF G) {a0 : Nat} {σ : mm_M} {q : (Int32 × mm_M)} (ha0 : mm_Is G 6 a0) (h : fX4_lettersOf G a0 σ = some q) : mm_Mi l yX4_lettersOf wsX4_lettersOf rmX4_lettersOf G [.ref a0] σ q := by
  refine mm_ofi (cc := cX4_lettersOf) (nL := 3) (ret := some .int) (own := RX4) (lv0 := [(0, .ref a0)]) (by decide) rfl rfl (Nat.le_of_ble_eq_true rfl) rfl hwf (fun E hE X => ?_)
  obtain ⟨o, h0, hk⟩ := mm_run_ok (P := PX4_lettersOf E G a0 q) h (fun s o hs hk => by exact wX4_lettersOf_b4 X ha0 hs hk)
  exact wX4_lettersOf_b0 X ha0 h0 hk
set_option maxRecDepth 20000 in
theorem ggX4_done_X4_lettersOf : GoodIn wsX4_done wsX4_lettersOf := goodIn_r _ [4] (by decide +kernel) (by decide +kernel)
set_option maxRecDepth 20000 in
theorem gX4_done_X4_lettersOf : GoodIn wsX4_done (va_wsS RX4 169 yX4_lettersOf wsX4_lettersOf) := goodIn_app (goodIn_of _ (by decide +kernel)) ggX4_done_X4_lettersOf
set_option maxRecDepth 20000 in
theorem ggX4_done_X4_goes : GoodIn wsX4_done wsX4_goes := goodIn_r _ [7, 8, 9, 3, 10, 11, 12, 13, 14, 15, 16, 17, 18, 19, 20, 21, 22, 23, 24, 25, 26, 27, 28, 29, 30, 31, 32, 33, 34] (by decide +kernel) (by decide +kernel)
set_option maxRecDepth 20000 in
theorem gX4_done_X4_goes : GoodIn wsX4_done (va_wsS RX4 159 yX4_goes wsX4_goes) := goodIn_app (goodIn_of _ (by decide +kernel)) ggX4_done_X4_goes
theorem dX4_done_0 : decode cX4_done 0 = .ok (.iconst 0, 1) := by decide +kernel
theorem dX4_done_1 : decode cX4_done 1 = .ok (.istore_n 1, 1) := by decide +kernel
theorem dX4_done_2 : decode cX4_done 2 = .ok (.iload_n 1, 1) := by decide +kernel
theorem dX4_done_3 : decode cX4_done 3 = .ok (.sipush 200, 3) := by decide +kernel
theorem dX4_done_6 : decode cX4_done 6 = .ok (.if_icmp .gt 23, 3) := by decide +kernel
theorem dX4_done_9 : decode cX4_done 9 = .ok (.aload_n 0, 1) := by decide +kernel
theorem dX4_done_10 : decode cX4_done 10 = .ok (.invokestatic 169, 3) := by decide +kernel
theorem dX4_done_13 : decode cX4_done 13 = .ok (.ifCond .ne 5, 3) := by decide +kernel
theorem dX4_done_16 : decode cX4_done 16 = .ok (.iload_n 1, 1) := by decide +kernel
theorem dX4_done_17 : decode cX4_done 17 = .ok (.ireturn, 1) := by decide +kernel
theorem dX4_done_18 : decode cX4_done 18 = .ok (.aload_n 0, 1) := by decide +kernel
theorem dX4_done_19 : decode cX4_done 19 = .ok (.invokestatic 159, 3) := by decide +kernel
theorem dX4_done_22 : decode cX4_done 22 = .ok (.pop, 1) := by decide +kernel
theorem dX4_done_23 : decode cX4_done 23 = .ok (.iinc 1 1, 3) := by decide +kernel
theorem dX4_done_26 : decode cX4_done 26 = .ok (.goto (-24), 3) := by decide +kernel
theorem dX4_done_29 : decode cX4_done 29 = .ok (.bipush (-9), 2) := by decide +kernel
theorem dX4_done_31 : decode cX4_done 31 = .ok (.ireturn, 1) := by decide +kernel
/-! X4_done ([I)I -/
abbrev rmX4_done : Room := { frames := 5, cells := 0, slots := 0, locals := 113 }
noncomputable def fX4_done_b2 (G : mm_G) (a0 : Nat) (x1 : Int32) (σ : mm_M) : Option ((Int32 × mm_M) ⊕ (Int32 × mm_M)) := if (200 : Int32) < x1 then (some (.inl ((-9 : Int32), σ))) else ((fX4_lettersOf G a0 σ).bind (fun q10 => if q10.1 = 0 then (some (.inl (x1, q10.2))) else ((fX4_goes G a0 q10.2).bind (fun q19 => some (.inr (x1 + 1, q19.2))))))
noncomputable def fX4_done_b0 (G : mm_G) (a0 : Nat) (σ : mm_M) : Option ((Int32 × mm_M) ⊕ (Int32 × mm_M)) := some (.inr ((0 : Int32), σ))
noncomputable def fX4_done_s (G : mm_G) (a0 : Nat) : (Int32 × mm_M) → Option ((Int32 × mm_M) ⊕ (Int32 × mm_M)) := (fun s => fX4_done_b2 G a0 s.1 s.2)
def PX4_done (E : mm_E) (G : mm_G) (a0 : Nat) (q : (Int32 × mm_M)) : (Int32 × mm_M) → Prop := (fun s => mm_At E G 2 (mm_Qi E G q) s.2 2 [(0, .ref a0), (1, .int s.1)] [])
noncomputable def fX4_done (G : mm_G) (a0 : Nat) (σ : mm_M) : Option (Int32 × mm_M) := mm_run (fX4_done_b0 G a0 σ) (fX4_done_s G a0)
set_option maxHeartbeats 4000000 in
set_option maxRecDepth 100000 in
theorem wX4_done_b2 {E : mm_E} {G : mm_G} (X : mm_Cx E G cX4_done 2 RX4 wsX4_done rmX4_done (some .int)) {a0 : Nat} {x1 : Int32} {σ : mm_M} {q : (Int32 × mm_M)} (ha0 : mm_Is G 6 a0) {o : (Int32 × mm_M) ⊕ (Int32 × mm_M)} (h : fX4_done_b2 G a0 x1 σ = some o) (hk : mm_Ok q (PX4_done E G a0 q) o) : mm_At E G 2 (mm_Qi E G q) σ 2 [(0, .ref a0), (1, .int x1)] [] := by
  unfold fX4_done_b2 at h
  refine at_iload_n (pc := 2) X 1 1 dX4_done_2 rfl rfl ?_
  refine at_sipush (pc := 3) X (200 : Int32) dX4_done_3 is_200 ?_
  refine at_icmp_gt (pc := 6) X 29 dX4_done_6 (by decide) (fun c6 => ?_) (fun c6 => ?_)
  · have h := mm_pos c6 h
    refine at_bipush (pc := 29) X (-9 : Int32) dX4_done_29 ib_m9 ?_
    exact at_iret (pc := 31) X (mm_inl h hk) dX4_done_31
  · have h := mm_neg c6 h
    refine at_aload_n (pc := 9) X 0 0 dX4_done_9 rfl rfl ?_
    obtain ⟨q10, hq10, h⟩ := mm_bind h
    refine at_scalli (n := 1) (pc := 10) X [.ref a0] [] (mX4_lettersOf (eL E) X.wf ha0 hq10) gX4_done_X4_lettersOf rfl ⟨rfl, rfl⟩ (by decide +kernel) ⟨by decide, by decide⟩ rfl rfl (Nat.le_of_ble_eq_true rfl) dX4_done_10 ?_
    refine at_if_ne (pc := 13) X 18 dX4_done_13 (by decide) (fun c13 => ?_) (fun c13 => ?_)
    · have h := mm_neg c13 h
      refine at_aload_n (pc := 18) X 0 0 dX4_done_18 rfl rfl ?_
      obtain ⟨q19, hq19, h⟩ := mm_bind h
      refine at_scalli (n := 1) (pc := 19) X [.ref a0] [] (mX4_goes (eL E) X.wf ha0 hq19) gX4_done_X4_goes rfl ⟨rfl, rfl⟩ (by decide +kernel) ⟨by decide, by decide⟩ rfl rfl (Nat.le_of_ble_eq_true rfl) dX4_done_19 ?_
      refine at_pop (pc := 22) X dX4_done_22 rfl ?_
      refine at_iinc (pc := 23) X 1 1 (x1 + 1) [(1, .int (x1 + 1)), (0, .ref a0)] dX4_done_23 rfl (ii_1 _) (by decide) rfl ?_
      refine at_goto (pc := 26) X 2 dX4_done_26 (by decide) ?_
      have h2 := mm_inr h hk; exact at_sub [1, 0] rfl h2
    · have h := mm_pos c13 h
      refine at_iload_n (pc := 16) X 1 1 dX4_done_16 rfl rfl ?_
      exact at_iret (pc := 17) X (mm_inl h hk) dX4_done_17
set_option maxHeartbeats 4000000 in
set_option maxRecDepth 100000 in
theorem wX4_done_b0 {E : mm_E} {G : mm_G} (X : mm_Cx E G cX4_done 2 RX4 wsX4_done rmX4_done (some .int)) {a0 : Nat} {σ : mm_M} {q : (Int32 × mm_M)} (ha0 : mm_Is G 6 a0) {o : (Int32 × mm_M) ⊕ (Int32 × mm_M)} (h : fX4_done_b0 G a0 σ = some o) (hk : mm_Ok q (PX4_done E G a0 q) o) : mm_At E G 2 (mm_Qi E G q) σ 0 [(0, .ref a0)] [] := by
  unfold fX4_done_b0 at h
  refine at_iconst (pc := 0) X (0 : Int32) dX4_done_0 ic_0 ?_
  refine at_istore_n (pc := 1) X 1 [(1, .int (0 : Int32)), (0, .ref a0)] dX4_done_1 rfl (by decide) rfl ?_
  have h2 := mm_inr h hk; exact at_sub [1, 0] rfl h2
set_option maxHeartbeats 4000000 in
set_option maxRecDepth 100000 in
theorem mX4_done (l : Launch) {G : mm_G} (hwf : mm_WF G) {a0 : Nat} {σ : mm_M} {q : (Int32 × mm_M)} (ha0 : mm_Is G 6 a0) (h : fX4_done G a0 σ = some q) : mm_Mi l yX4_done wsX4_done rmX4_done G [.ref a0] σ q := by
  refine mm_ofi (cc := cX4_done) (nL := 2) (ret := some .int) (own := RX4) (lv0 := [(0, .ref a0)]) (by decide) rfl rfl (Nat.le_of_ble_eq_true rfl) rfl hwf (fun E hE X => ?_)
  obtain ⟨o, h0, hk⟩ := mm_run_ok (P := PX4_done E G a0 q) h (fun s o hs hk => by exact wX4_done_b2 X ha0 hs hk)
  exact wX4_done_b0 X ha0 h0 hk
set_option maxRecDepth 20000 in
theorem ggX4_ends_X4_copies : GoodIn wsX4_ends wsX4_copies := goodIn_r _ [7] (by decide +kernel) (by decide +kernel)
set_option maxRecDepth 20000 in
theorem gX4_ends_X4_copies : GoodIn wsX4_ends (va_wsS RX4 165 yX4_copies wsX4_copies) := goodIn_app (goodIn_of _ (by decide +kernel)) ggX4_ends_X4_copies
set_option maxRecDepth 20000 in
theorem ggX4_ends_X4_done : GoodIn wsX4_ends wsX4_done := goodIn_r _ [10, 11, 12, 6, 13, 14, 15, 16, 17, 18, 19, 20, 21, 22, 23, 24, 25, 26, 27, 28, 29, 30, 31, 32, 33, 34, 35, 36, 37, 38, 39, 40, 41, 42, 43] (by decide +kernel) (by decide +kernel)
set_option maxRecDepth 20000 in
theorem gX4_ends_X4_done : GoodIn wsX4_ends (va_wsS RX4 172 yX4_done wsX4_done) := goodIn_app (goodIn_of _ (by decide +kernel)) ggX4_ends_X4_done
theorem dX4_ends_0 : decode cX4_ends 0 = .ok (.aload_n 0, 1) := by decide +kernel
theorem dX4_ends_1 : decode cX4_ends 1 = .ok (.getfield 26, 3) := by decide +kernel
theorem dX4_ends_4 : decode cX4_ends 4 = .ok (.bipush 32, 2) := by decide +kernel
theorem dX4_ends_6 : decode cX4_ends 6 = .ok (.iaload, 1) := by decide +kernel
theorem dX4_ends_7 : decode cX4_ends 7 = .ok (.ifCond .ne 6, 3) := by decide +kernel
theorem dX4_ends_10 : decode cX4_ends 10 = .ok (.bipush (-4), 2) := by decide +kernel
theorem dX4_ends_12 : decode cX4_ends 12 = .ok (.ireturn, 1) := by decide +kernel
theorem dX4_ends_13 : decode cX4_ends 13 = .ok (.aload_n 0, 1) := by decide +kernel
theorem dX4_ends_14 : decode cX4_ends 14 = .ok (.getfield 26, 3) := by decide +kernel
theorem dX4_ends_17 : decode cX4_ends 17 = .ok (.aload_n 0, 1) := by decide +kernel
theorem dX4_ends_18 : decode cX4_ends 18 = .ok (.getfield 32, 3) := by decide +kernel
theorem dX4_ends_21 : decode cX4_ends 21 = .ok (.invokestatic 165, 3) := by decide +kernel
theorem dX4_ends_24 : decode cX4_ends 24 = .ok (.aload_n 0, 1) := by decide +kernel
theorem dX4_ends_25 : decode cX4_ends 25 = .ok (.getfield 32, 3) := by decide +kernel
theorem dX4_ends_28 : decode cX4_ends 28 = .ok (.invokestatic 172, 3) := by decide +kernel
theorem dX4_ends_31 : decode cX4_ends 31 = .ok (.istore_n 1, 1) := by decide +kernel
theorem dX4_ends_32 : decode cX4_ends 32 = .ok (.aload_n 0, 1) := by decide +kernel
theorem dX4_ends_33 : decode cX4_ends 33 = .ok (.iload_n 1, 1) := by decide +kernel
theorem dX4_ends_34 : decode cX4_ends 34 = .ok (.bipush (-9), 2) := by decide +kernel
theorem dX4_ends_36 : decode cX4_ends 36 = .ok (.if_icmp .ne 10, 3) := by decide +kernel
theorem dX4_ends_39 : decode cX4_ends 39 = .ok (.aload_n 0, 1) := by decide +kernel
theorem dX4_ends_40 : decode cX4_ends 40 = .ok (.getfield 70, 3) := by decide +kernel
theorem dX4_ends_43 : decode cX4_ends 43 = .ok (.goto 16, 3) := by decide +kernel
theorem dX4_ends_46 : decode cX4_ends 46 = .ok (.aload_n 0, 1) := by decide +kernel
theorem dX4_ends_47 : decode cX4_ends 47 = .ok (.getfield 32, 3) := by decide +kernel
theorem dX4_ends_50 : decode cX4_ends 50 = .ok (.iconst 3, 1) := by decide +kernel
theorem dX4_ends_51 : decode cX4_ends 51 = .ok (.iaload, 1) := by decide +kernel
theorem dX4_ends_52 : decode cX4_ends 52 = .ok (.aload_n 0, 1) := by decide +kernel
theorem dX4_ends_53 : decode cX4_ends 53 = .ok (.getfield 26, 3) := by decide +kernel
theorem dX4_ends_56 : decode cX4_ends 56 = .ok (.iconst 3, 1) := by decide +kernel
theorem dX4_ends_57 : decode cX4_ends 57 = .ok (.iaload, 1) := by decide +kernel
theorem dX4_ends_58 : decode cX4_ends 58 = .ok (.isub, 1) := by decide +kernel
theorem dX4_ends_59 : decode cX4_ends 59 = .ok (.putfield 70, 3) := by decide +kernel
theorem dX4_ends_62 : decode cX4_ends 62 = .ok (.iload_n 1, 1) := by decide +kernel
theorem dX4_ends_63 : decode cX4_ends 63 = .ok (.ireturn, 1) := by decide +kernel
/-! X4_ends ()I -/
abbrev rmX4_ends : Room := { frames := 6, cells := 0, slots := 0, locals := 134 }
theorem lkX4_ends_0 : Cond.fieldLink RX4 26 (TX4 5).1 (TX4 5).2.1 (TX4 5).2.2.1 ∈ wsX4_ends := by decide +kernel
theorem lkX4_ends_1 : Cond.fieldLink RX4 32 (TX4 7).1 (TX4 7).2.1 (TX4 7).2.2.1 ∈ wsX4_ends := by decide +kernel
theorem lkX4_ends_2 : Cond.fieldLink RX4 70 (TX4 14).1 (TX4 14).2.1 (TX4 14).2.2.1 ∈ wsX4_ends := by decide +kernel
theorem inX4_ends_X4 : ∀ w ∈ u_ws RX4 TX4 22, w ∈ wsX4_ends := by decide +kernel
noncomputable def fX4_ends_b59 (G : mm_G) (a0 : Nat) (x1 : Int32) (sx0 : Int32) (sa1 : Nat) (σ : mm_M) : Option (Int32 × mm_M) := some (x1, mm_up σ sa1 14 sx0)
noncomputable def fX4_ends (G : mm_G) (a0 : Nat) (σ : mm_M) : Option (Int32 × mm_M) := if (32 : Int32) < 0 ∨ mm_N G (mm_R G a0 5) ≤ (32 : Int32).toNatClampNeg then none else (if (σ.1 (mm_R G a0 5) (32 : Int32).toNatClampNeg) = 0 then (some ((-4 : Int32), σ)) else ((fX4_copies G (mm_R G a0 5) (mm_R G a0 7) σ).bind (fun q21 => (fX4_done G (mm_R G a0 7) q21).bind (fun q28 => if q28.1 = (-9 : Int32) then (fX4_ends_b59 G a0 q28.1 (q28.2.1 a0 14) a0 q28.2) else (if (3 : Int32) < 0 ∨ mm_N G (mm_R G a0 7) ≤ (3 : Int32).toNatClampNeg then none else (if (3 : Int32) < 0 ∨ mm_N G (mm_R G a0 5) ≤ (3 : Int32).toNatClampNeg then none else (fX4_ends_b59 G a0 q28.1 ((q28.2.1 (mm_R G a0 7) (3 : Int32).toNatClampNeg) - (q28.2.1 (mm_R G a0 5) (3 : Int32).toNatClampNeg)) a0 q28.2)))))))
set_option maxHeartbeats 4000000 in
set_option maxRecDepth 100000 in
theorem wX4_ends_b59 {E : mm_E} {G : mm_G} (X : mm_Cx E G cX4_ends 2 RX4 wsX4_ends rmX4_ends (some .int)) {a0 : Nat} {x1 : Int32} {sx0 : Int32} {sa1 : Nat} {σ : mm_M} {q : (Int32 × mm_M)} (ha0 : mm_Is G 4 a0) (hsa1 : mm_Is G 4 sa1) (h : fX4_ends_b59 G a0 x1 sx0 sa1 σ = some q) : mm_At E G 2 (mm_Qi E G q) σ 59 [(1, .int x1)] [.int sx0, .ref sa1] := by
  unfold fX4_ends_b59 at h
  refine at_put (pc := 59) X 4 14 hsa1 (by decide) rfl inX4_ends_X4 tyX4 tyX4_ok nmX4 (by decide) lkX4_ends_2 rfl (ty := .int) rfl rfl rfl (Nat.le_of_ble_eq_true rfl) (ms_4_14 G _ _ _) mm_up_ne dX4_ends_59 ?_
  refine at_iload_n (pc := 62) X 1 0 dX4_ends_62 rfl rfl ?_
  exact at_iret (pc := 63) X (Option.some.inj h) dX4_ends_63
set_option maxHeartbeats 4000000 in
set_option maxRecDepth 100000 in
theorem wX4_ends_b0 {E : mm_E} {G : mm_G} (X : mm_Cx E G cX4_ends 2 RX4 wsX4_ends rmX4_ends (some .int)) {a0 : Nat} {σ : mm_M} {q : (Int32 × mm_M)} (ha0 : mm_Is G 4 a0) (h : fX4_ends G a0 σ = some q) : mm_At E G 2 (mm_Qi E G q) σ 0 [(0, .ref a0)] [] := by
  unfold fX4_ends at h
  refine at_aload_n (pc := 0) X 0 0 dX4_ends_0 rfl rfl ?_
  refine at_get (pc := 1) X 4 5 (.ref (mm_R G a0 5)) ha0 (by decide) rfl inX4_ends_X4 (by decide) lkX4_ends_0 rfl dX4_ends_1 ?_
  refine at_bipush (pc := 4) X (32 : Int32) dX4_ends_4 ib_32 ?_
  obtain ⟨hc6, h⟩ := mm_chk h
  refine at_iald (pc := 6) X (wf_4_5 X.wf ha0) hc6 dX4_ends_6 ?_
  refine at_if_ne (pc := 7) X 13 dX4_ends_7 (by decide) (fun c7 => ?_) (fun c7 => ?_)
  · have h := mm_neg c7 h
    refine at_aload_n (pc := 13) X 0 0 dX4_ends_13 rfl rfl ?_
    refine at_get (pc := 14) X 4 5 (.ref (mm_R G a0 5)) ha0 (by decide) rfl inX4_ends_X4 (by decide) lkX4_ends_0 rfl dX4_ends_14 ?_
    refine at_aload_n (pc := 17) X 0 0 dX4_ends_17 rfl rfl ?_
    refine at_get (pc := 18) X 4 7 (.ref (mm_R G a0 7)) ha0 (by decide) rfl inX4_ends_X4 (by decide) lkX4_ends_1 rfl dX4_ends_18 ?_
    obtain ⟨q21, hq21, h⟩ := mm_bind h
    refine at_scallv (n := 2) (pc := 21) X [.ref (mm_R G a0 5), .ref (mm_R G a0 7)] [] (mX4_copies (eL E) X.wf (wf_4_5 X.wf ha0) (wf_4_7 X.wf ha0) hq21) gX4_ends_X4_copies rfl ⟨rfl, rfl⟩ (by decide +kernel) ⟨by decide, by decide⟩ rfl rfl (Nat.le_of_ble_eq_true rfl) dX4_ends_21 ?_
    refine at_aload_n (pc := 24) X 0 0 dX4_ends_24 rfl rfl ?_
    refine at_get (pc := 25) X 4 7 (.ref (mm_R G a0 7)) ha0 (by decide) rfl inX4_ends_X4 (by decide) lkX4_ends_1 rfl dX4_ends_25 ?_
    obtain ⟨q28, hq28, h⟩ := mm_bind h
    refine at_scalli (n := 1) (pc := 28) X [.ref (mm_R G a0 7)] [] (mX4_done (eL E) X.wf (wf_4_7 X.wf ha0) hq28) gX4_ends_X4_done rfl ⟨rfl, rfl⟩ (by decide +kernel) ⟨by decide, by decide⟩ rfl rfl (Nat.le_of_ble_eq_true rfl) dX4_ends_28 ?_
    refine at_istore_n (pc := 31) X 1 [(1, .int q28.1), (0, .ref a0)] dX4_ends_31 rfl (by decide) rfl ?_
    refine at_aload_n (pc := 32) X 0 1 dX4_ends_32 rfl rfl ?_
    refine at_iload_n (pc := 33) X 1 0 dX4_ends_33 rfl rfl ?_
    refine at_bipush (pc := 34) X (-9 : Int32) dX4_ends_34 ib_m9 ?_
    refine at_icmp_ne (pc := 36) X 46 dX4_ends_36 (by decide) (fun c36 => ?_) (fun c36 => ?_)
    · have h := mm_neg c36 h
      refine at_aload_n (pc := 46) X 0 1 dX4_ends_46 rfl rfl ?_
      refine at_get (pc := 47) X 4 7 (.ref (mm_R G a0 7)) ha0 (by decide) rfl inX4_ends_X4 (by decide) lkX4_ends_1 rfl dX4_ends_47 ?_
      refine at_iconst (pc := 50) X (3 : Int32) dX4_ends_50 ic_3 ?_
      obtain ⟨hc51, h⟩ := mm_chk h
      refine at_iald (pc := 51) X (wf_4_7 X.wf ha0) hc51 dX4_ends_51 ?_
      refine at_aload_n (pc := 52) X 0 1 dX4_ends_52 rfl rfl ?_
      refine at_get (pc := 53) X 4 5 (.ref (mm_R G a0 5)) ha0 (by decide) rfl inX4_ends_X4 (by decide) lkX4_ends_0 rfl dX4_ends_53 ?_
      refine at_iconst (pc := 56) X (3 : Int32) dX4_ends_56 ic_3 ?_
      obtain ⟨hc57, h⟩ := mm_chk h
      refine at_iald (pc := 57) X (wf_4_5 X.wf ha0) hc57 dX4_ends_57 ?_
      refine at_isub (pc := 58) X dX4_ends_58 ?_
      exact at_sub [0] rfl (wX4_ends_b59 X ha0 ha0 h)
    · have h := mm_pos c36 h
      refine at_aload_n (pc := 39) X 0 1 dX4_ends_39 rfl rfl ?_
      refine at_get (pc := 40) X 4 14 (.int (q28.2.1 a0 14)) ha0 (by decide) rfl inX4_ends_X4 (by decide) lkX4_ends_2 rfl dX4_ends_40 ?_
      refine at_goto (pc := 43) X 59 dX4_ends_43 (by decide) ?_
      exact at_sub [0] rfl (wX4_ends_b59 X ha0 ha0 h)
  · have h := mm_pos c7 h
    refine at_bipush (pc := 10) X (-4 : Int32) dX4_ends_10 ib_m4 ?_
    exact at_iret (pc := 12) X (Option.some.inj h) dX4_ends_12
set_option maxHeartbeats 4000000 in
set_option maxRecDepth 100000 in
theorem mX4_ends (l : Launch) {G : mm_G} (hwf : mm_WF G) {a0 : Nat} {σ : mm_M} {q : (Int32 × mm_M)} (ha0 : mm_Is G 4 a0) (h : fX4_ends G a0 σ = some q) : mm_Mi l yX4_ends wsX4_ends rmX4_ends G [.ref a0] σ q := by
  refine mm_ofi (cc := cX4_ends) (nL := 2) (ret := some .int) (own := RX4) (lv0 := [(0, .ref a0)]) (by decide) rfl rfl (Nat.le_of_ble_eq_true rfl) rfl hwf (fun E hE X => ?_)
  exact wX4_ends_b0 X ha0 h
set_option maxRecDepth 20000 in
theorem ggX4_clash_X4_copies : GoodIn wsX4_clash wsX4_copies := goodIn_r _ [7] (by decide +kernel) (by decide +kernel)
set_option maxRecDepth 20000 in
theorem gX4_clash_X4_copies : GoodIn wsX4_clash (va_wsS RX4 165 yX4_copies wsX4_copies) := goodIn_app (goodIn_of _ (by decide +kernel)) ggX4_clash_X4_copies
set_option maxRecDepth 20000 in
theorem ggX4_clash_X4_goes : GoodIn wsX4_clash wsX4_goes := goodIn_r _ [10, 11, 12, 6, 13, 14, 15, 16, 17, 18, 19, 20, 21, 22, 23, 24, 25, 26, 27, 28, 29, 30, 31, 32, 33, 34, 35, 36, 37] (by decide +kernel) (by decide +kernel)
set_option maxRecDepth 20000 in
theorem gX4_clash_X4_goes : GoodIn wsX4_clash (va_wsS RX4 159 yX4_goes wsX4_goes) := goodIn_app (goodIn_of _ (by decide +kernel)) ggX4_clash_X4_goes
set_option maxRecDepth 20000 in
theorem ggX4_clash_X4_ones : GoodIn wsX4_clash wsX4_ones := goodIn_r _ [25] (by decide +kernel) (by decide +kernel)
set_option maxRecDepth 20000 in
theorem gX4_clash_X4_ones : GoodIn wsX4_clash (va_wsS RX4 149 yX4_ones wsX4_ones) := goodIn_app (goodIn_of _ (by decide +kernel)) ggX4_clash_X4_ones
theorem dX4_clash_0 : decode cX4_clash 0 = .ok (.aload_n 0, 1) := by decide +kernel
theorem dX4_clash_1 : decode cX4_clash 1 = .ok (.getfield 26, 3) := by decide +kernel
theorem dX4_clash_4 : decode cX4_clash 4 = .ok (.bipush 32, 2) := by decide +kernel
theorem dX4_clash_6 : decode cX4_clash 6 = .ok (.iaload, 1) := by decide +kernel
theorem dX4_clash_7 : decode cX4_clash 7 = .ok (.ifCond .ne 6, 3) := by decide +kernel
theorem dX4_clash_10 : decode cX4_clash 10 = .ok (.bipush (-4), 2) := by decide +kernel
theorem dX4_clash_12 : decode cX4_clash 12 = .ok (.ireturn, 1) := by decide +kernel
theorem dX4_clash_13 : decode cX4_clash 13 = .ok (.aload_n 0, 1) := by decide +kernel
theorem dX4_clash_14 : decode cX4_clash 14 = .ok (.getfield 26, 3) := by decide +kernel
theorem dX4_clash_17 : decode cX4_clash 17 = .ok (.aload_n 0, 1) := by decide +kernel
theorem dX4_clash_18 : decode cX4_clash 18 = .ok (.getfield 32, 3) := by decide +kernel
theorem dX4_clash_21 : decode cX4_clash 21 = .ok (.invokestatic 165, 3) := by decide +kernel
theorem dX4_clash_24 : decode cX4_clash 24 = .ok (.iconst 1, 1) := by decide +kernel
theorem dX4_clash_25 : decode cX4_clash 25 = .ok (.istore_n 1, 1) := by decide +kernel
theorem dX4_clash_26 : decode cX4_clash 26 = .ok (.iload_n 1, 1) := by decide +kernel
theorem dX4_clash_27 : decode cX4_clash 27 = .ok (.sipush 200, 3) := by decide +kernel
theorem dX4_clash_30 : decode cX4_clash 30 = .ok (.if_icmp .gt 32, 3) := by decide +kernel
theorem dX4_clash_33 : decode cX4_clash 33 = .ok (.aload_n 0, 1) := by decide +kernel
theorem dX4_clash_34 : decode cX4_clash 34 = .ok (.getfield 32, 3) := by decide +kernel
theorem dX4_clash_37 : decode cX4_clash 37 = .ok (.invokestatic 159, 3) := by decide +kernel
theorem dX4_clash_40 : decode cX4_clash 40 = .ok (.istore_n 2, 1) := by decide +kernel
theorem dX4_clash_41 : decode cX4_clash 41 = .ok (.iload_n 2, 1) := by decide +kernel
theorem dX4_clash_42 : decode cX4_clash 42 = .ok (.invokestatic 149, 3) := by decide +kernel
theorem dX4_clash_45 : decode cX4_clash 45 = .ok (.iconst 1, 1) := by decide +kernel
theorem dX4_clash_46 : decode cX4_clash 46 = .ok (.if_icmp .le 10, 3) := by decide +kernel
theorem dX4_clash_49 : decode cX4_clash 49 = .ok (.aload_n 0, 1) := by decide +kernel
theorem dX4_clash_50 : decode cX4_clash 50 = .ok (.iload_n 2, 1) := by decide +kernel
theorem dX4_clash_51 : decode cX4_clash 51 = .ok (.putfield 70, 3) := by decide +kernel
theorem dX4_clash_54 : decode cX4_clash 54 = .ok (.iload_n 1, 1) := by decide +kernel
theorem dX4_clash_55 : decode cX4_clash 55 = .ok (.ireturn, 1) := by decide +kernel
theorem dX4_clash_56 : decode cX4_clash 56 = .ok (.iinc 1 1, 3) := by decide +kernel
theorem dX4_clash_59 : decode cX4_clash 59 = .ok (.goto (-33), 3) := by decide +kernel
theorem dX4_clash_62 : decode cX4_clash 62 = .ok (.bipush (-9), 2) := by decide +kernel
theorem dX4_clash_64 : decode cX4_clash 64 = .ok (.ireturn, 1) := by decide +kernel
/-! X4_clash ()I -/
abbrev rmX4_clash : Room := { frames := 5, cells := 0, slots := 0, locals := 113 }
theorem lkX4_clash_0 : Cond.fieldLink RX4 26 (TX4 5).1 (TX4 5).2.1 (TX4 5).2.2.1 ∈ wsX4_clash := by decide +kernel
theorem lkX4_clash_1 : Cond.fieldLink RX4 32 (TX4 7).1 (TX4 7).2.1 (TX4 7).2.2.1 ∈ wsX4_clash := by decide +kernel
theorem lkX4_clash_2 : Cond.fieldLink RX4 70 (TX4 14).1 (TX4 14).2.1 (TX4 14).2.2.1 ∈ wsX4_clash := by decide +kernel
theorem inX4_clash_X4 : ∀ w ∈ u_ws RX4 TX4 22, w ∈ wsX4_clash := by decide +kernel
noncomputable def fX4_clash_b26 (G : mm_G) (a0 : Nat) (x1 : Int32) (σ : mm_M) : Option ((Int32 × mm_M) ⊕ (Int32 × mm_M)) := if (200 : Int32) < x1 then (some (.inl ((-9 : Int32), σ))) else ((fX4_goes G (mm_R G a0 7) σ).bind (fun q37 => (fX4_ones G q37.1 q37.2).bind (fun q42 => if (1 : Int32) < q42.1 then (some (.inl (x1, mm_up q42.2 a0 14 q37.1))) else (some (.inr (x1 + 1, q42.2))))))
noncomputable def fX4_clash_b0 (G : mm_G) (a0 : Nat) (σ : mm_M) : Option ((Int32 × mm_M) ⊕ (Int32 × mm_M)) := if (32 : Int32) < 0 ∨ mm_N G (mm_R G a0 5) ≤ (32 : Int32).toNatClampNeg then none else (if (σ.1 (mm_R G a0 5) (32 : Int32).toNatClampNeg) = 0 then (some (.inl ((-4 : Int32), σ))) else ((fX4_copies G (mm_R G a0 5) (mm_R G a0 7) σ).bind (fun q21 => some (.inr ((1 : Int32), q21)))))
noncomputable def fX4_clash_s (G : mm_G) (a0 : Nat) : (Int32 × mm_M) → Option ((Int32 × mm_M) ⊕ (Int32 × mm_M)) := (fun s => fX4_clash_b26 G a0 s.1 s.2)
def PX4_clash (E : mm_E) (G : mm_G) (a0 : Nat) (q : (Int32 × mm_M)) : (Int32 × mm_M) → Prop := (fun s => mm_At E G 3 (mm_Qi E G q) s.2 26 [(0, .ref a0), (1, .int s.1)] [])
noncomputable def fX4_clash (G : mm_G) (a0 : Nat) (σ : mm_M) : Option (Int32 × mm_M) := mm_run (fX4_clash_b0 G a0 σ) (fX4_clash_s G a0)
set_option maxHeartbeats 4000000 in
set_option maxRecDepth 100000 in
theorem wX4_clash_b26 {E : mm_E} {G : mm_G} (X : mm_Cx E G cX4_clash 3 RX4 wsX4_clash rmX4_clash (some .int)) {a0 : Nat} {x1 : Int32} {σ : mm_M} {q : (Int32 × mm_M)} (ha0 : mm_Is G 4 a0) {o : (Int32 × mm_M) ⊕ (Int32 × mm_M)} (h : fX4_clash_b26 G a0 x1 σ = some o) (hk : mm_Ok q (PX4_clash E G a0 q) o) : mm_At E G 3 (mm_Qi E G q) σ 26 [(0, .ref a0), (1, .int x1)] [] := by
  unfold fX4_clash_b26 at h
  refine at_iload_n (pc := 26) X 1 1 dX4_clash_26 rfl rfl ?_
  refine at_sipush (pc := 27) X (200 : Int32) dX4_clash_27 is_200 ?_
  refine at_icmp_gt (pc := 30) X 62 dX4_clash_30 (by decide) (fun c30 => ?_) (fun c30 => ?_)
  · have h := mm_pos c30 h
    refine at_bipush (pc := 62) X (-9 : Int32) dX4_clash_62 ib_m9 ?_
    exact at_iret (pc := 64) X (mm_inl h hk) dX4_clash_64
  · have h := mm_neg c30 h
    refine at_aload_n (pc := 33) X 0 0 dX4_clash_33 rfl rfl ?_
    refine at_get (pc := 34) X 4 7 (.ref (mm_R G a0 7)) ha0 (by decide) rfl inX4_clash_X4 (by decide) lkX4_clash_1 rfl dX4_clash_34 ?_
    obtain ⟨q37, hq37, h⟩ := mm_bind h
    refine at_scalli (n := 1) (pc := 37) X [.ref (mm_R G a0 7)] [] (mX4_goes (eL E) X.wf (wf_4_7 X.wf ha0) hq37) gX4_clash_X4_goes rfl ⟨rfl, rfl⟩ (by decide +kernel) ⟨by decide, by decide⟩ rfl rfl (Nat.le_of_ble_eq_true rfl) dX4_clash_37 ?_
    refine at_istore_n (pc := 40) X 2 [(2, .int q37.1), (0, .ref a0), (1, .int x1)] dX4_clash_40 rfl (by decide) rfl ?_
    refine at_iload_n (pc := 41) X 2 0 dX4_clash_41 rfl rfl ?_
    obtain ⟨q42, hq42, h⟩ := mm_bind h
    refine at_scalli (n := 1) (pc := 42) X [.int q37.1] [] (mX4_ones (eL E) X.wf hq42) gX4_clash_X4_ones rfl ⟨rfl, rfl⟩ (by decide +kernel) ⟨by decide, by decide⟩ rfl rfl (Nat.le_of_ble_eq_true rfl) dX4_clash_42 ?_
    refine at_iconst (pc := 45) X (1 : Int32) dX4_clash_45 ic_1 ?_
    refine at_icmp_le (pc := 46) X 56 dX4_clash_46 (by decide) (fun c46 => ?_) (fun c46 => ?_)
    · have h := mm_neg c46 h
      refine at_iinc (pc := 56) X 1 2 (x1 + 1) [(1, .int (x1 + 1)), (2, .int q37.1), (0, .ref a0)] dX4_clash_56 rfl (ii_1 _) (by decide) rfl ?_
      refine at_goto (pc := 59) X 26 dX4_clash_59 (by decide) ?_
      have h2 := mm_inr h hk; exact at_sub [2, 0] rfl h2
    · have h := mm_pos c46 h
      refine at_aload_n (pc := 49) X 0 1 dX4_clash_49 rfl rfl ?_
      refine at_iload_n (pc := 50) X 2 0 dX4_clash_50 rfl rfl ?_
      refine at_put (pc := 51) X 4 14 ha0 (by decide) rfl inX4_clash_X4 tyX4 tyX4_ok nmX4 (by decide) lkX4_clash_2 rfl (ty := .int) rfl rfl rfl (Nat.le_of_ble_eq_true rfl) (ms_4_14 G _ _ _) mm_up_ne dX4_clash_51 ?_
      refine at_iload_n (pc := 54) X 1 2 dX4_clash_54 rfl rfl ?_
      exact at_iret (pc := 55) X (mm_inl h hk) dX4_clash_55
set_option maxHeartbeats 4000000 in
set_option maxRecDepth 100000 in
theorem wX4_clash_b0 {E : mm_E} {G : mm_G} (X : mm_Cx E G cX4_clash 3 RX4 wsX4_clash rmX4_clash (some .int)) {a0 : Nat} {σ : mm_M} {q : (Int32 × mm_M)} (ha0 : mm_Is G 4 a0) {o : (Int32 × mm_M) ⊕ (Int32 × mm_M)} (h : fX4_clash_b0 G a0 σ = some o) (hk : mm_Ok q (PX4_clash E G a0 q) o) : mm_At E G 3 (mm_Qi E G q) σ 0 [(0, .ref a0)] [] := by
  unfold fX4_clash_b0 at h
  refine at_aload_n (pc := 0) X 0 0 dX4_clash_0 rfl rfl ?_
  refine at_get (pc := 1) X 4 5 (.ref (mm_R G a0 5)) ha0 (by decide) rfl inX4_clash_X4 (by decide) lkX4_clash_0 rfl dX4_clash_1 ?_
  refine at_bipush (pc := 4) X (32 : Int32) dX4_clash_4 ib_32 ?_
  obtain ⟨hc6, h⟩ := mm_chk h
  refine at_iald (pc := 6) X (wf_4_5 X.wf ha0) hc6 dX4_clash_6 ?_
  refine at_if_ne (pc := 7) X 13 dX4_clash_7 (by decide) (fun c7 => ?_) (fun c7 => ?_)
  · have h := mm_neg c7 h
    refine at_aload_n (pc := 13) X 0 0 dX4_clash_13 rfl rfl ?_
    refine at_get (pc := 14) X 4 5 (.ref (mm_R G a0 5)) ha0 (by decide) rfl inX4_clash_X4 (by decide) lkX4_clash_0 rfl dX4_clash_14 ?_
    refine at_aload_n (pc := 17) X 0 0 dX4_clash_17 rfl rfl ?_
    refine at_get (pc := 18) X 4 7 (.ref (mm_R G a0 7)) ha0 (by decide) rfl inX4_clash_X4 (by decide) lkX4_clash_1 rfl dX4_clash_18 ?_
    obtain ⟨q21, hq21, h⟩ := mm_bind h
    refine at_scallv (n := 2) (pc := 21) X [.ref (mm_R G a0 5), .ref (mm_R G a0 7)] [] (mX4_copies (eL E) X.wf (wf_4_5 X.wf ha0) (wf_4_7 X.wf ha0) hq21) gX4_clash_X4_copies rfl ⟨rfl, rfl⟩ (by decide +kernel) ⟨by decide, by decide⟩ rfl rfl (Nat.le_of_ble_eq_true rfl) dX4_clash_21 ?_
    refine at_iconst (pc := 24) X (1 : Int32) dX4_clash_24 ic_1 ?_
    refine at_istore_n (pc := 25) X 1 [(1, .int (1 : Int32)), (0, .ref a0)] dX4_clash_25 rfl (by decide) rfl ?_
    have h2 := mm_inr h hk; exact at_sub [1, 0] rfl h2
  · have h := mm_pos c7 h
    refine at_bipush (pc := 10) X (-4 : Int32) dX4_clash_10 ib_m4 ?_
    exact at_iret (pc := 12) X (mm_inl h hk) dX4_clash_12
set_option maxHeartbeats 4000000 in
set_option maxRecDepth 100000 in
theorem mX4_clash (l : Launch) {G : mm_G} (hwf : mm_WF G) {a0 : Nat} {σ : mm_M} {q : (Int32 × mm_M)} (ha0 : mm_Is G 4 a0) (h : fX4_clash G a0 σ = some q) : mm_Mi l yX4_clash wsX4_clash rmX4_clash G [.ref a0] σ q := by
  refine mm_ofi (cc := cX4_clash) (nL := 3) (ret := some .int) (own := RX4) (lv0 := [(0, .ref a0)]) (by decide) rfl rfl (Nat.le_of_ble_eq_true rfl) rfl hwf (fun E hE X => ?_)
  obtain ⟨o, h0, hk⟩ := mm_run_ok (P := PX4_clash E G a0 q) h (fun s o hs hk => by exact wX4_clash_b26 X ha0 hs hk)
  exact wX4_clash_b0 X ha0 h0 hk
