/-! X4_in X4_finds X4_tells X4_isRow X4_isText X4_anew X4_row X4_lay X4_at X4_tear X4_lies -/
theorem dX4_in_0 : decode cX4_in 0 = .ok (.iload_n 0, 1) := by decide +kernel
theorem dX4_in_1 : decode cX4_in 1 = .ok (.iload_n 1, 1) := by decide +kernel
theorem dX4_in_2 : decode cX4_in 2 = .ok (.if_icmp .lt 12, 3) := by decide +kernel
theorem dX4_in_5 : decode cX4_in 5 = .ok (.iload_n 0, 1) := by decide +kernel
theorem dX4_in_6 : decode cX4_in 6 = .ok (.iload_n 2, 1) := by decide +kernel
theorem dX4_in_7 : decode cX4_in 7 = .ok (.if_icmp .gt 7, 3) := by decide +kernel
theorem dX4_in_10 : decode cX4_in 10 = .ok (.iconst 1, 1) := by decide +kernel
theorem dX4_in_11 : decode cX4_in 11 = .ok (.goto 4, 3) := by decide +kernel
theorem dX4_in_14 : decode cX4_in 14 = .ok (.iconst 0, 1) := by decide +kernel
theorem dX4_in_15 : decode cX4_in 15 = .ok (.ireturn, 1) := by decide +kernel
/-! X4_in (III)Z -/
abbrev rmX4_in : Room := { frames := 0, cells := 0, slots := 0, locals := 0 }
noncomputable def fX4_in (G : mm_G) (x0 : Int32) (x1 : Int32) (x2 : Int32) (σ : mm_M) : Option (Int32 × mm_M) := if ¬ ((if x0 < x1 then (0 : Int32) else if x2 < x0 then (0 : Int32) else (1 : Int32)) = 0 ∨ (if x0 < x1 then (0 : Int32) else if x2 < x0 then (0 : Int32) else (1 : Int32)) = 1) then none else (some (if x0 < x1 then (0 : Int32) else if x2 < x0 then (0 : Int32) else (1 : Int32), σ))
set_option maxHeartbeats 4000000 in
set_option maxRecDepth 100000 in
theorem wX4_in_b0 {E : mm_E} {G : mm_G} (X : mm_Cx E G cX4_in 3 RX4 wsX4_in rmX4_in (some .boolean)) {x0 : Int32} {x1 : Int32} {x2 : Int32} {σ : mm_M} {q : (Int32 × mm_M)} (h : fX4_in G x0 x1 x2 σ = some q) : mm_At E G 3 (mm_Qi E G q) σ 0 [(0, .int x0), (1, .int x1), (2, .int x2)] [] := by
  unfold fX4_in at h
  refine at_iload_n (pc := 0) X 0 0 dX4_in_0 rfl rfl ?_
  refine at_iload_n (pc := 1) X 1 1 dX4_in_1 rfl rfl ?_
  have hj2 : mm_At E G 3 (mm_Qi E G q) σ 15 [] [.int (if x0 < x1 then (0 : Int32) else if x2 < x0 then (0 : Int32) else (1 : Int32))] := by
    obtain ⟨hg15, h⟩ := mm_chk h
    exact at_zret (pc := 15) X (Classical.not_not.mp hg15) (Option.some.inj h) dX4_in_15
  refine at_icmp_lt (pc := 2) X 14 dX4_in_2 (by decide) (fun c2 => ?_) (fun c2 => ?_)
  · try simp only [if_pos c2] at hj2
    refine at_iconst (pc := 14) X (0 : Int32) dX4_in_14 ic_0 ?_
    exact at_sub [] rfl hj2
  · try simp only [if_neg c2] at hj2
    refine at_iload_n (pc := 5) X 0 0 dX4_in_5 rfl rfl ?_
    refine at_iload_n (pc := 6) X 2 2 dX4_in_6 rfl rfl ?_
    refine at_icmp_gt (pc := 7) X 14 dX4_in_7 (by decide) (fun c7 => ?_) (fun c7 => ?_)
    · try simp only [if_pos c7] at hj2
      refine at_iconst (pc := 14) X (0 : Int32) dX4_in_14 ic_0 ?_
      exact at_sub [] rfl hj2
    · try simp only [if_neg c7] at hj2
      refine at_iconst (pc := 10) X (1 : Int32) dX4_in_10 ic_1 ?_
      refine at_goto (pc := 11) X 15 dX4_in_11 (by decide) ?_
      exact at_sub [] rfl hj2
set_option maxHeartbeats 4000000 in
set_option maxRecDepth 100000 in
theorem mX4_in (l : Launch) {G : mm_G} (hwf : mm_WF G) {x0 : Int32} {x1 : Int32} {x2 : Int32} {σ : mm_M} {q : (Int32 × mm_M)} (h : fX4_in G x0 x1 x2 σ = some q) : mm_Mi l yX4_in wsX4_in rmX4_in G [.int x0, .int x1, .int x2] σ q := by
  refine mm_ofi (cc := cX4_in) (nL := 3) (ret := some .boolean) (own := RX4) (lv0 := [(0, .int x0), (1, .int x1), (2, .int x2)]) (by decide) rfl rfl (Nat.le_of_ble_eq_true rfl) rfl hwf (fun E hE X => ?_)
  exact wX4_in_b0 X  h
theorem dX4_finds_0 : decode cX4_finds 0 = .ok (.aload_n 0, 1) := by decide +kernel
theorem dX4_finds_1 : decode cX4_finds 1 = .ok (.iload_n 1, 1) := by decide +kernel
theorem dX4_finds_2 : decode cX4_finds 2 = .ok (.putfield 66, 3) := by decide +kernel
theorem dX4_finds_5 : decode cX4_finds 5 = .ok (.aload_n 0, 1) := by decide +kernel
theorem dX4_finds_6 : decode cX4_finds 6 = .ok (.getfield 54, 3) := by decide +kernel
theorem dX4_finds_9 : decode cX4_finds 9 = .ok (.iload_n 1, 1) := by decide +kernel
theorem dX4_finds_10 : decode cX4_finds 10 = .ok (.dup2, 1) := by decide +kernel
theorem dX4_finds_11 : decode cX4_finds 11 = .ok (.iaload, 1) := by decide +kernel
theorem dX4_finds_12 : decode cX4_finds 12 = .ok (.iconst 1, 1) := by decide +kernel
theorem dX4_finds_13 : decode cX4_finds 13 = .ok (.iadd, 1) := by decide +kernel
theorem dX4_finds_14 : decode cX4_finds 14 = .ok (.iastore, 1) := by decide +kernel
theorem dX4_finds_15 : decode cX4_finds 15 = .ok (.bipush (-3), 2) := by decide +kernel
theorem dX4_finds_17 : decode cX4_finds 17 = .ok (.ireturn, 1) := by decide +kernel
/-! X4_finds (I)I -/
abbrev rmX4_finds : Room := { frames := 0, cells := 0, slots := 0, locals := 0 }
theorem lkX4_finds_0 : Cond.fieldLink RX4 66 (TX4 17).1 (TX4 17).2.1 (TX4 17).2.2.1 ∈ wsX4_finds := by decide +kernel
theorem lkX4_finds_1 : Cond.fieldLink RX4 54 (TX4 18).1 (TX4 18).2.1 (TX4 18).2.2.1 ∈ wsX4_finds := by decide +kernel
theorem inX4_finds_X4 : ∀ w ∈ u_ws RX4 TX4 22, w ∈ wsX4_finds := by decide +kernel
noncomputable def fX4_finds (G : mm_G) (a0 : Nat) (x1 : Int32) (σ : mm_M) : Option (Int32 × mm_M) := if x1 < 0 ∨ mm_N G (mm_R G a0 18) ≤ x1.toNatClampNeg then none else (if x1 < 0 ∨ mm_N G (mm_R G a0 18) ≤ x1.toNatClampNeg then none else (some ((-3 : Int32), mm_up (mm_up σ a0 17 x1) (mm_R G a0 18) x1.toNatClampNeg (((mm_up σ a0 17 x1).1 (mm_R G a0 18) x1.toNatClampNeg) + (1 : Int32)))))
set_option maxHeartbeats 4000000 in
set_option maxRecDepth 100000 in
theorem wX4_finds_b0 {E : mm_E} {G : mm_G} (X : mm_Cx E G cX4_finds 2 RX4 wsX4_finds rmX4_finds (some .int)) {a0 : Nat} {x1 : Int32} {σ : mm_M} {q : (Int32 × mm_M)} (ha0 : mm_Is G 4 a0) (h : fX4_finds G a0 x1 σ = some q) : mm_At E G 2 (mm_Qi E G q) σ 0 [(0, .ref a0), (1, .int x1)] [] := by
  unfold fX4_finds at h
  refine at_aload_n (pc := 0) X 0 0 dX4_finds_0 rfl rfl ?_
  refine at_iload_n (pc := 1) X 1 1 dX4_finds_1 rfl rfl ?_
  refine at_put (pc := 2) X 4 17 ha0 (by decide) rfl inX4_finds_X4 tyX4 tyX4_ok nmX4 (by decide) lkX4_finds_0 rfl (ty := .int) rfl rfl rfl (Nat.le_of_ble_eq_true rfl) (ms_4_17 G _ _ _) mm_up_ne dX4_finds_2 ?_
  refine at_aload_n (pc := 5) X 0 0 dX4_finds_5 rfl rfl ?_
  refine at_get (pc := 6) X 4 18 (.ref (mm_R G a0 18)) ha0 (by decide) rfl inX4_finds_X4 (by decide) lkX4_finds_1 rfl dX4_finds_6 ?_
  refine at_iload_n (pc := 9) X 1 1 dX4_finds_9 rfl rfl ?_
  refine at_dup2 (pc := 10) X dX4_finds_10 rfl rfl ?_
  obtain ⟨hc11, h⟩ := mm_chk h
  refine at_iald (pc := 11) X (wf_4_18 X.wf ha0) hc11 dX4_finds_11 ?_
  refine at_iconst (pc := 12) X (1 : Int32) dX4_finds_12 ic_1 ?_
  refine at_iadd (pc := 13) X dX4_finds_13 ?_
  obtain ⟨hc14, h⟩ := mm_chk h
  refine at_iast (pc := 14) X (wf_4_18 X.wf ha0) hc14 dX4_finds_14 ?_
  refine at_bipush (pc := 15) X (-3 : Int32) dX4_finds_15 ib_m3 ?_
  exact at_iret (pc := 17) X (Option.some.inj h) dX4_finds_17
set_option maxHeartbeats 4000000 in
set_option maxRecDepth 100000 in
theorem mX4_finds (l : Launch) {G : mm_G} (hwf : mm_WF G) {a0 : Nat} {x1 : Int32} {σ : mm_M} {q : (Int32 × mm_M)} (ha0 : mm_Is G 4 a0) (h : fX4_finds G a0 x1 σ = some q) : mm_Mi l yX4_finds wsX4_finds rmX4_finds G [.ref a0, .int x1] σ q := by
  refine mm_ofi (cc := cX4_finds) (nL := 2) (ret := some .int) (own := RX4) (lv0 := [(0, .ref a0), (1, .int x1)]) (by decide) rfl rfl (Nat.le_of_ble_eq_true rfl) rfl hwf (fun E hE X => ?_)
  exact wX4_finds_b0 X ha0 h
theorem dX4_tells_0 : decode cX4_tells 0 = .ok (.aload_n 0, 1) := by decide +kernel
theorem dX4_tells_1 : decode cX4_tells 1 = .ok (.iload_n 1, 1) := by decide +kernel
theorem dX4_tells_2 : decode cX4_tells 2 = .ok (.putfield 70, 3) := by decide +kernel
theorem dX4_tells_5 : decode cX4_tells 5 = .ok (.iconst 1, 1) := by decide +kernel
theorem dX4_tells_6 : decode cX4_tells 6 = .ok (.ireturn, 1) := by decide +kernel
/-! X4_tells (I)I -/
abbrev rmX4_tells : Room := { frames := 0, cells := 0, slots := 0, locals := 0 }
theorem lkX4_tells_0 : Cond.fieldLink RX4 70 (TX4 14).1 (TX4 14).2.1 (TX4 14).2.2.1 ∈ wsX4_tells := by decide +kernel
theorem inX4_tells_X4 : ∀ w ∈ u_ws RX4 TX4 22, w ∈ wsX4_tells := by decide +kernel
noncomputable def fX4_tells (G : mm_G) (a0 : Nat) (x1 : Int32) (σ : mm_M) : Option (Int32 × mm_M) := some ((1 : Int32), mm_up σ a0 14 x1)
set_option maxHeartbeats 4000000 in
set_option maxRecDepth 100000 in
theorem wX4_tells_b0 {E : mm_E} {G : mm_G} (X : mm_Cx E G cX4_tells 2 RX4 wsX4_tells rmX4_tells (some .int)) {a0 : Nat} {x1 : Int32} {σ : mm_M} {q : (Int32 × mm_M)} (ha0 : mm_Is G 4 a0) (h : fX4_tells G a0 x1 σ = some q) : mm_At E G 2 (mm_Qi E G q) σ 0 [(0, .ref a0), (1, .int x1)] [] := by
  unfold fX4_tells at h
  refine at_aload_n (pc := 0) X 0 0 dX4_tells_0 rfl rfl ?_
  refine at_iload_n (pc := 1) X 1 1 dX4_tells_1 rfl rfl ?_
  refine at_put (pc := 2) X 4 14 ha0 (by decide) rfl inX4_tells_X4 tyX4 tyX4_ok nmX4 (by decide) lkX4_tells_0 rfl (ty := .int) rfl rfl rfl (Nat.le_of_ble_eq_true rfl) (ms_4_14 G _ _ _) mm_up_ne dX4_tells_2 ?_
  refine at_iconst (pc := 5) X (1 : Int32) dX4_tells_5 ic_1 ?_
  exact at_iret (pc := 6) X (Option.some.inj h) dX4_tells_6
set_option maxHeartbeats 4000000 in
set_option maxRecDepth 100000 in
theorem mX4_tells (l : Launch) {G : mm_G} (hwf : mm_WF G) {a0 : Nat} {x1 : Int32} {σ : mm_M} {q : (Int32 × mm_M)} (ha0 : mm_Is G 4 a0) (h : fX4_tells G a0 x1 σ = some q) : mm_Mi l yX4_tells wsX4_tells rmX4_tells G [.ref a0, .int x1] σ q := by
  refine mm_ofi (cc := cX4_tells) (nL := 2) (ret := some .int) (own := RX4) (lv0 := [(0, .ref a0), (1, .int x1)]) (by decide) rfl rfl (Nat.le_of_ble_eq_true rfl) rfl hwf (fun E hE X => ?_)
  exact wX4_tells_b0 X ha0 h
set_option maxRecDepth 20000 in
theorem ggX4_isRow_X4_in : GoodIn wsX4_isRow wsX4_in := goodIn_r _ [4] (by decide +kernel) (by decide +kernel)
set_option maxRecDepth 20000 in
theorem gX4_isRow_X4_in : GoodIn wsX4_isRow (va_wsS RX4 73 yX4_in wsX4_in) := goodIn_app (goodIn_of _ (by decide +kernel)) ggX4_isRow_X4_in
theorem dX4_isRow_0 : decode cX4_isRow 0 = .ok (.iload_n 0, 1) := by decide +kernel
theorem dX4_isRow_1 : decode cX4_isRow 1 = .ok (.iconst 0, 1) := by decide +kernel
theorem dX4_isRow_2 : decode cX4_isRow 2 = .ok (.iconst 5, 1) := by decide +kernel
theorem dX4_isRow_3 : decode cX4_isRow 3 = .ok (.invokestatic 73, 3) := by decide +kernel
theorem dX4_isRow_6 : decode cX4_isRow 6 = .ok (.ireturn, 1) := by decide +kernel
/-! X4_isRow (I)Z -/
abbrev rmX4_isRow : Room := { frames := 1, cells := 0, slots := 0, locals := 22 }
noncomputable def fX4_isRow (G : mm_G) (x0 : Int32) (σ : mm_M) : Option (Int32 × mm_M) := (fX4_in G x0 (0 : Int32) (5 : Int32) σ).bind (fun q3 => if ¬ (q3.1 = 0 ∨ q3.1 = 1) then none else (some (q3.1, q3.2)))
set_option maxHeartbeats 4000000 in
set_option maxRecDepth 100000 in
theorem wX4_isRow_b0 {E : mm_E} {G : mm_G} (X : mm_Cx E G cX4_isRow 1 RX4 wsX4_isRow rmX4_isRow (some .boolean)) {x0 : Int32} {σ : mm_M} {q : (Int32 × mm_M)} (h : fX4_isRow G x0 σ = some q) : mm_At E G 1 (mm_Qi E G q) σ 0 [(0, .int x0)] [] := by
  unfold fX4_isRow at h
  refine at_iload_n (pc := 0) X 0 0 dX4_isRow_0 rfl rfl ?_
  refine at_iconst (pc := 1) X (0 : Int32) dX4_isRow_1 ic_0 ?_
  refine at_iconst (pc := 2) X (5 : Int32) dX4_isRow_2 ic_5 ?_
  obtain ⟨q3, hq3, h⟩ := mm_bind h
  refine at_scalli (n := 3) (pc := 3) X [.int x0, .int (0 : Int32), .int (5 : Int32)] [] (mX4_in (eL E) X.wf hq3) gX4_isRow_X4_in rfl ⟨rfl, rfl⟩ (by decide +kernel) ⟨by decide, by decide⟩ rfl rfl (Nat.le_of_ble_eq_true rfl) dX4_isRow_3 ?_
  obtain ⟨hg6, h⟩ := mm_chk h
  exact at_zret (pc := 6) X (Classical.not_not.mp hg6) (Option.some.inj h) dX4_isRow_6
set_option maxHeartbeats 4000000 in
set_option maxRecDepth 100000 in
theorem mX4_isRow (l : Launch) {G : mm_G} (hwf : mm_WF G) {x0 : Int32} {σ : mm_M} {q : (Int32 × mm_M)} (h : fX4_isRow G x0 σ = some q) : mm_Mi l yX4_isRow wsX4_isRow rmX4_isRow G [.int x0] σ q := by
  refine mm_ofi (cc := cX4_isRow) (nL := 1) (ret := some .boolean) (own := RX4) (lv0 := [(0, .int x0)]) (by decide) rfl rfl (Nat.le_of_ble_eq_true rfl) rfl hwf (fun E hE X => ?_)
  exact wX4_isRow_b0 X  h
set_option maxRecDepth 20000 in
theorem ggX4_isText_X4_in : GoodIn wsX4_isText wsX4_in := goodIn_r _ [4] (by decide +kernel) (by decide +kernel)
set_option maxRecDepth 20000 in
theorem gX4_isText_X4_in : GoodIn wsX4_isText (va_wsS RX4 73 yX4_in wsX4_in) := goodIn_app (goodIn_of _ (by decide +kernel)) ggX4_isText_X4_in
theorem dX4_isText_0 : decode cX4_isText 0 = .ok (.iload_n 0, 1) := by decide +kernel
theorem dX4_isText_1 : decode cX4_isText 1 = .ok (.iconst 0, 1) := by decide +kernel
theorem dX4_isText_2 : decode cX4_isText 2 = .ok (.iconst 3, 1) := by decide +kernel
theorem dX4_isText_3 : decode cX4_isText 3 = .ok (.invokestatic 73, 3) := by decide +kernel
theorem dX4_isText_6 : decode cX4_isText 6 = .ok (.ireturn, 1) := by decide +kernel
/-! X4_isText (I)Z -/
abbrev rmX4_isText : Room := { frames := 1, cells := 0, slots := 0, locals := 22 }
noncomputable def fX4_isText (G : mm_G) (x0 : Int32) (σ : mm_M) : Option (Int32 × mm_M) := (fX4_in G x0 (0 : Int32) (3 : Int32) σ).bind (fun q3 => if ¬ (q3.1 = 0 ∨ q3.1 = 1) then none else (some (q3.1, q3.2)))
set_option maxHeartbeats 4000000 in
set_option maxRecDepth 100000 in
theorem wX4_isText_b0 {E : mm_E} {G : mm_G} (X : mm_Cx E G cX4_isText 1 RX4 wsX4_isText rmX4_isText (some .boolean)) {x0 : Int32} {σ : mm_M} {q : (Int32 × mm_M)} (h : fX4_isText G x0 σ = some q) : mm_At E G 1 (mm_Qi E G q) σ 0 [(0, .int x0)] [] := by
  unfold fX4_isText at h
  refine at_iload_n (pc := 0) X 0 0 dX4_isText_0 rfl rfl ?_
  refine at_iconst (pc := 1) X (0 : Int32) dX4_isText_1 ic_0 ?_
  refine at_iconst (pc := 2) X (3 : Int32) dX4_isText_2 ic_3 ?_
  obtain ⟨q3, hq3, h⟩ := mm_bind h
  refine at_scalli (n := 3) (pc := 3) X [.int x0, .int (0 : Int32), .int (3 : Int32)] [] (mX4_in (eL E) X.wf hq3) gX4_isText_X4_in rfl ⟨rfl, rfl⟩ (by decide +kernel) ⟨by decide, by decide⟩ rfl rfl (Nat.le_of_ble_eq_true rfl) dX4_isText_3 ?_
  obtain ⟨hg6, h⟩ := mm_chk h
  exact at_zret (pc := 6) X (Classical.not_not.mp hg6) (Option.some.inj h) dX4_isText_6
set_option maxHeartbeats 4000000 in
set_option maxRecDepth 100000 in
theorem mX4_isText (l : Launch) {G : mm_G} (hwf : mm_WF G) {x0 : Int32} {σ : mm_M} {q : (Int32 × mm_M)} (h : fX4_isText G x0 σ = some q) : mm_Mi l yX4_isText wsX4_isText rmX4_isText G [.int x0] σ q := by
  refine mm_ofi (cc := cX4_isText) (nL := 1) (ret := some .boolean) (own := RX4) (lv0 := [(0, .int x0)]) (by decide) rfl rfl (Nat.le_of_ble_eq_true rfl) rfl hwf (fun E hE X => ?_)
  exact wX4_isText_b0 X  h
theorem dX4_anew_0 : decode cX4_anew 0 = .ok (.aload_n 0, 1) := by decide +kernel
theorem dX4_anew_1 : decode cX4_anew 1 = .ok (.getfield 7, 3) := by decide +kernel
theorem dX4_anew_4 : decode cX4_anew 4 = .ok (.iload_n 1, 1) := by decide +kernel
theorem dX4_anew_5 : decode cX4_anew 5 = .ok (.iload_n 2, 1) := by decide +kernel
theorem dX4_anew_6 : decode cX4_anew 6 = .ok (.iastore, 1) := by decide +kernel
theorem dX4_anew_7 : decode cX4_anew 7 = .ok (.iconst 0, 1) := by decide +kernel
theorem dX4_anew_8 : decode cX4_anew 8 = .ok (.istore_n 3, 1) := by decide +kernel
theorem dX4_anew_9 : decode cX4_anew 9 = .ok (.iload_n 3, 1) := by decide +kernel
theorem dX4_anew_10 : decode cX4_anew 10 = .ok (.bipush 40, 2) := by decide +kernel
theorem dX4_anew_12 : decode cX4_anew 12 = .ok (.if_icmp .ge 21, 3) := by decide +kernel
theorem dX4_anew_15 : decode cX4_anew 15 = .ok (.aload_n 0, 1) := by decide +kernel
theorem dX4_anew_16 : decode cX4_anew 16 = .ok (.getfield 13, 3) := by decide +kernel
theorem dX4_anew_19 : decode cX4_anew 19 = .ok (.bipush 40, 2) := by decide +kernel
theorem dX4_anew_21 : decode cX4_anew 21 = .ok (.iload_n 1, 1) := by decide +kernel
theorem dX4_anew_22 : decode cX4_anew 22 = .ok (.imul, 1) := by decide +kernel
theorem dX4_anew_23 : decode cX4_anew 23 = .ok (.iload_n 3, 1) := by decide +kernel
theorem dX4_anew_24 : decode cX4_anew 24 = .ok (.iadd, 1) := by decide +kernel
theorem dX4_anew_25 : decode cX4_anew 25 = .ok (.iconst 0, 1) := by decide +kernel
theorem dX4_anew_26 : decode cX4_anew 26 = .ok (.iastore, 1) := by decide +kernel
theorem dX4_anew_27 : decode cX4_anew 27 = .ok (.iinc 3 1, 3) := by decide +kernel
theorem dX4_anew_30 : decode cX4_anew 30 = .ok (.goto (-21), 3) := by decide +kernel
theorem dX4_anew_33 : decode cX4_anew 33 = .ok (.return_, 1) := by decide +kernel
/-! X4_anew (II)V -/
abbrev rmX4_anew : Room := { frames := 0, cells := 0, slots := 0, locals := 0 }
theorem lkX4_anew_0 : Cond.fieldLink RX4 7 (TX4 0).1 (TX4 0).2.1 (TX4 0).2.2.1 ∈ wsX4_anew := by decide +kernel
theorem lkX4_anew_1 : Cond.fieldLink RX4 13 (TX4 1).1 (TX4 1).2.1 (TX4 1).2.2.1 ∈ wsX4_anew := by decide +kernel
theorem inX4_anew_X4 : ∀ w ∈ u_ws RX4 TX4 22, w ∈ wsX4_anew := by decide +kernel
noncomputable def fX4_anew_b9 (G : mm_G) (a0 : Nat) (x1 : Int32) (x2 : Int32) (x3 : Int32) (σ : mm_M) : Option (mm_M ⊕ (Int32 × mm_M)) := if x3 < (40 : Int32) then (if (((40 : Int32) * x1) + x3) < 0 ∨ mm_N G (mm_R G a0 1) ≤ (((40 : Int32) * x1) + x3).toNatClampNeg then none else (some (.inr (x3 + 1, mm_up σ (mm_R G a0 1) (((40 : Int32) * x1) + x3).toNatClampNeg (0 : Int32))))) else (some (.inl σ))
noncomputable def fX4_anew_b0 (G : mm_G) (a0 : Nat) (x1 : Int32) (x2 : Int32) (σ : mm_M) : Option (mm_M ⊕ (Int32 × mm_M)) := if x1 < 0 ∨ mm_N G (mm_R G a0 0) ≤ x1.toNatClampNeg then none else (some (.inr ((0 : Int32), mm_up σ (mm_R G a0 0) x1.toNatClampNeg x2)))
noncomputable def fX4_anew_s (G : mm_G) (a0 : Nat) (x1 : Int32) (x2 : Int32) : (Int32 × mm_M) → Option (mm_M ⊕ (Int32 × mm_M)) := (fun s => fX4_anew_b9 G a0 x1 x2 s.1 s.2)
def PX4_anew (E : mm_E) (G : mm_G) (a0 : Nat) (x1 : Int32) (x2 : Int32) (q : mm_M) : (Int32 × mm_M) → Prop := (fun s => mm_At E G 4 (mm_Qv E G q) s.2 9 [(0, .ref a0), (1, .int x1), (3, .int s.1)] [])
noncomputable def fX4_anew (G : mm_G) (a0 : Nat) (x1 : Int32) (x2 : Int32) (σ : mm_M) : Option mm_M := mm_run (fX4_anew_b0 G a0 x1 x2 σ) (fX4_anew_s G a0 x1 x2)
set_option maxHeartbeats 4000000 in
set_option maxRecDepth 100000 in
theorem wX4_anew_b9 {E : mm_E} {G : mm_G} (X : mm_Cx E G cX4_anew 4 RX4 wsX4_anew rmX4_anew (none)) {a0 : Nat} {x1 : Int32} {x2 : Int32} {x3 : Int32} {σ : mm_M} {q : mm_M} (ha0 : mm_Is G 4 a0) {o : mm_M ⊕ (Int32 × mm_M)} (h : fX4_anew_b9 G a0 x1 x2 x3 σ = some o) (hk : mm_Ok q (PX4_anew E G a0 x1 x2 q) o) : mm_At E G 4 (mm_Qv E G q) σ 9 [(0, .ref a0), (1, .int x1), (3, .int x3)] [] := by
  unfold fX4_anew_b9 at h
  refine at_iload_n (pc := 9) X 3 2 dX4_anew_9 rfl rfl ?_
  refine at_bipush (pc := 10) X (40 : Int32) dX4_anew_10 ib_40 ?_
  refine at_icmp_ge (pc := 12) X 33 dX4_anew_12 (by decide) (fun c12 => ?_) (fun c12 => ?_)
  · have h := mm_neg c12 h
    exact at_vret (pc := 33) X (mm_inl h hk) dX4_anew_33
  · have h := mm_pos c12 h
    refine at_aload_n (pc := 15) X 0 0 dX4_anew_15 rfl rfl ?_
    refine at_get (pc := 16) X 4 1 (.ref (mm_R G a0 1)) ha0 (by decide) rfl inX4_anew_X4 (by decide) lkX4_anew_1 rfl dX4_anew_16 ?_
    refine at_bipush (pc := 19) X (40 : Int32) dX4_anew_19 ib_40 ?_
    refine at_iload_n (pc := 21) X 1 1 dX4_anew_21 rfl rfl ?_
    refine at_imul (pc := 22) X dX4_anew_22 ?_
    refine at_iload_n (pc := 23) X 3 2 dX4_anew_23 rfl rfl ?_
    refine at_iadd (pc := 24) X dX4_anew_24 ?_
    refine at_iconst (pc := 25) X (0 : Int32) dX4_anew_25 ic_0 ?_
    obtain ⟨hc26, h⟩ := mm_chk h
    refine at_iast (pc := 26) X (wf_4_1 X.wf ha0) hc26 dX4_anew_26 ?_
    refine at_iinc (pc := 27) X 3 2 (x3 + 1) [(3, .int (x3 + 1)), (0, .ref a0), (1, .int x1)] dX4_anew_27 rfl (ii_1 _) (by decide) rfl ?_
    refine at_goto (pc := 30) X 9 dX4_anew_30 (by decide) ?_
    have h2 := mm_inr h hk; exact at_sub [1, 2, 0] rfl h2
set_option maxHeartbeats 4000000 in
set_option maxRecDepth 100000 in
theorem wX4_anew_b0 {E : mm_E} {G : mm_G} (X : mm_Cx E G cX4_anew 4 RX4 wsX4_anew rmX4_anew (none)) {a0 : Nat} {x1 : Int32} {x2 : Int32} {σ : mm_M} {q : mm_M} (ha0 : mm_Is G 4 a0) {o : mm_M ⊕ (Int32 × mm_M)} (h : fX4_anew_b0 G a0 x1 x2 σ = some o) (hk : mm_Ok q (PX4_anew E G a0 x1 x2 q) o) : mm_At E G 4 (mm_Qv E G q) σ 0 [(0, .ref a0), (1, .int x1), (2, .int x2)] [] := by
  unfold fX4_anew_b0 at h
  refine at_aload_n (pc := 0) X 0 0 dX4_anew_0 rfl rfl ?_
  refine at_get (pc := 1) X 4 0 (.ref (mm_R G a0 0)) ha0 (by decide) rfl inX4_anew_X4 (by decide) lkX4_anew_0 rfl dX4_anew_1 ?_
  refine at_iload_n (pc := 4) X 1 1 dX4_anew_4 rfl rfl ?_
  refine at_iload_n (pc := 5) X 2 2 dX4_anew_5 rfl rfl ?_
  obtain ⟨hc6, h⟩ := mm_chk h
  refine at_iast (pc := 6) X (wf_4_0 X.wf ha0) hc6 dX4_anew_6 ?_
  refine at_iconst (pc := 7) X (0 : Int32) dX4_anew_7 ic_0 ?_
  refine at_istore_n (pc := 8) X 3 [(3, .int (0 : Int32)), (0, .ref a0), (1, .int x1), (2, .int x2)] dX4_anew_8 rfl (by decide) rfl ?_
  have h2 := mm_inr h hk; exact at_sub [1, 2, 0] rfl h2
set_option maxHeartbeats 4000000 in
set_option maxRecDepth 100000 in
theorem mX4_anew (l : Launch) {G : mm_G} (hwf : mm_WF G) {a0 : Nat} {x1 : Int32} {x2 : Int32} {σ : mm_M} {q : mm_M} (ha0 : mm_Is G 4 a0) (h : fX4_anew G a0 x1 x2 σ = some q) : mm_Mv l yX4_anew wsX4_anew rmX4_anew G [.ref a0, .int x1, .int x2] σ q := by
  refine mm_ofv (cc := cX4_anew) (nL := 4) (ret := none) (own := RX4) (lv0 := [(0, .ref a0), (1, .int x1), (2, .int x2)]) (by decide) rfl rfl (Nat.le_of_ble_eq_true rfl) rfl hwf (fun E hE X => ?_)
  obtain ⟨o, h0, hk⟩ := mm_run_ok (P := PX4_anew E G a0 x1 x2 q) h (fun s o hs hk => by exact wX4_anew_b9 X ha0 hs hk)
  exact wX4_anew_b0 X ha0 h0 hk
set_option maxRecDepth 20000 in
theorem ggX4_row_X4_isRow : GoodIn wsX4_row wsX4_isRow := goodIn_r _ [4, 5, 6, 3, 7] (by decide +kernel) (by decide +kernel)
set_option maxRecDepth 20000 in
theorem gX4_row_X4_isRow : GoodIn wsX4_row (va_wsS RX4 77 yX4_isRow wsX4_isRow) := goodIn_app (goodIn_of _ (by decide +kernel)) ggX4_row_X4_isRow
set_option maxRecDepth 20000 in
theorem ggX4_row_X4_finds : GoodIn wsX4_row wsX4_finds := goodIn_r _ [11, 12, 13, 20, 21, 22, 23, 24, 25, 26, 27, 28, 29, 30, 31, 32, 33, 34, 35, 36, 37, 38, 39, 40, 41] (by decide +kernel) (by decide +kernel)
set_option maxRecDepth 20000 in
theorem gX4_row_X4_finds : GoodIn wsX4_row (wsV RX4 81 RX4 yX4_finds wsX4_finds) := goodIn_app (goodIn_of _ (by decide +kernel)) ggX4_row_X4_finds
set_option maxRecDepth 20000 in
theorem ggX4_row_X4_anew : GoodIn wsX4_row wsX4_anew := goodIn_r _ [17, 18, 19, 20, 21, 22, 23, 24, 25, 26, 27, 28, 29, 30, 31, 32, 33, 34, 35, 36, 37, 38, 39, 40, 41] (by decide +kernel) (by decide +kernel)
set_option maxRecDepth 20000 in
theorem gX4_row_X4_anew : GoodIn wsX4_row (wsV RX4 85 RX4 yX4_anew wsX4_anew) := goodIn_app (goodIn_of _ (by decide +kernel)) ggX4_row_X4_anew
theorem dX4_row_0 : decode cX4_row 0 = .ok (.iload_n 1, 1) := by decide +kernel
theorem dX4_row_1 : decode cX4_row 1 = .ok (.invokestatic 77, 3) := by decide +kernel
theorem dX4_row_4 : decode cX4_row 4 = .ok (.ifCond .eq 9, 3) := by decide +kernel
theorem dX4_row_7 : decode cX4_row 7 = .ok (.iload_n 2, 1) := by decide +kernel
theorem dX4_row_8 : decode cX4_row 8 = .ok (.bipush 40, 2) := by decide +kernel
theorem dX4_row_10 : decode cX4_row 10 = .ok (.if_icmp .le 5, 3) := by decide +kernel
theorem dX4_row_13 : decode cX4_row 13 = .ok (.iconst (-1), 1) := by decide +kernel
theorem dX4_row_14 : decode cX4_row 14 = .ok (.ireturn, 1) := by decide +kernel
theorem dX4_row_15 : decode cX4_row 15 = .ok (.iload_n 2, 1) := by decide +kernel
theorem dX4_row_16 : decode cX4_row 16 = .ok (.ifCond .ge 9, 3) := by decide +kernel
theorem dX4_row_19 : decode cX4_row 19 = .ok (.aload_n 0, 1) := by decide +kernel
theorem dX4_row_20 : decode cX4_row 20 = .ok (.iconst 5, 1) := by decide +kernel
theorem dX4_row_21 : decode cX4_row 21 = .ok (.invokevirtual 81, 3) := by decide +kernel
theorem dX4_row_24 : decode cX4_row 24 = .ok (.ireturn, 1) := by decide +kernel
theorem dX4_row_25 : decode cX4_row 25 = .ok (.aload_n 0, 1) := by decide +kernel
theorem dX4_row_26 : decode cX4_row 26 = .ok (.iload_n 1, 1) := by decide +kernel
theorem dX4_row_27 : decode cX4_row 27 = .ok (.iload_n 2, 1) := by decide +kernel
theorem dX4_row_28 : decode cX4_row 28 = .ok (.invokevirtual 85, 3) := by decide +kernel
theorem dX4_row_31 : decode cX4_row 31 = .ok (.iload_n 2, 1) := by decide +kernel
theorem dX4_row_32 : decode cX4_row 32 = .ok (.ireturn, 1) := by decide +kernel
/-! X4_row (II)I -/
abbrev rmX4_row : Room := { frames := 2, cells := 0, slots := 0, locals := 42 }
noncomputable def fX4_row (G : mm_G) (a0 : Nat) (x1 : Int32) (x2 : Int32) (σ : mm_M) : Option (Int32 × mm_M) := (fX4_isRow G x1 σ).bind (fun q1 => if q1.1 = 0 then (some ((-1 : Int32), q1.2)) else (if (40 : Int32) < x2 then (some ((-1 : Int32), q1.2)) else (if x2 < 0 then ((fX4_finds G a0 (5 : Int32) q1.2).bind (fun q21 => some (q21.1, q21.2))) else ((fX4_anew G a0 x1 x2 q1.2).bind (fun q28 => some (x2, q28))))))
set_option maxHeartbeats 4000000 in
set_option maxRecDepth 100000 in
theorem wX4_row_b0 {E : mm_E} {G : mm_G} (X : mm_Cx E G cX4_row 3 RX4 wsX4_row rmX4_row (some .int)) {a0 : Nat} {x1 : Int32} {x2 : Int32} {σ : mm_M} {q : (Int32 × mm_M)} (ha0 : mm_Is G 4 a0) (h : fX4_row G a0 x1 x2 σ = some q) : mm_At E G 3 (mm_Qi E G q) σ 0 [(0, .ref a0), (1, .int x1), (2, .int x2)] [] := by
  unfold fX4_row at h
  refine at_iload_n (pc := 0) X 1 1 dX4_row_0 rfl rfl ?_
  obtain ⟨q1, hq1, h⟩ := mm_bind h
  refine at_scalli (n := 1) (pc := 1) X [.int x1] [] (mX4_isRow (eL E) X.wf hq1) gX4_row_X4_isRow rfl ⟨rfl, rfl⟩ (by decide +kernel) ⟨by decide, by decide⟩ rfl rfl (Nat.le_of_ble_eq_true rfl) dX4_row_1 ?_
  refine at_if_eq (pc := 4) X 13 dX4_row_4 (by decide) (fun c4 => ?_) (fun c4 => ?_)
  · have h := mm_pos c4 h
    refine at_iconst (pc := 13) X (-1 : Int32) dX4_row_13 ic_m1 ?_
    exact at_iret (pc := 14) X (Option.some.inj h) dX4_row_14
  · have h := mm_neg c4 h
    refine at_iload_n (pc := 7) X 2 2 dX4_row_7 rfl rfl ?_
    refine at_bipush (pc := 8) X (40 : Int32) dX4_row_8 ib_40 ?_
    refine at_icmp_le (pc := 10) X 15 dX4_row_10 (by decide) (fun c10 => ?_) (fun c10 => ?_)
    · have h := mm_neg c10 h
      refine at_iload_n (pc := 15) X 2 2 dX4_row_15 rfl rfl ?_
      refine at_if_ge (pc := 16) X 25 dX4_row_16 (by decide) (fun c16 => ?_) (fun c16 => ?_)
      · have h := mm_neg c16 h
        refine at_aload_n (pc := 25) X 0 0 dX4_row_25 rfl rfl ?_
        refine at_iload_n (pc := 26) X 1 1 dX4_row_26 rfl rfl ?_
        refine at_iload_n (pc := 27) X 2 2 dX4_row_27 rfl rfl ?_
        obtain ⟨q28, hq28, h⟩ := mm_bind h
        refine at_callv (n := 2) (pc := 28) X 4 [.int x1, .int x2] [] (mX4_anew (eL E) X.wf ha0 hq28) gX4_row_X4_anew rfl ⟨rfl, rfl⟩ (by decide +kernel) ⟨by decide, by decide⟩ (by decide) rfl ha0 rfl rfl (Nat.le_of_ble_eq_true rfl) dX4_row_28 ?_
        refine at_iload_n (pc := 31) X 2 2 dX4_row_31 rfl rfl ?_
        exact at_iret (pc := 32) X (Option.some.inj h) dX4_row_32
      · have h := mm_pos c16 h
        refine at_aload_n (pc := 19) X 0 0 dX4_row_19 rfl rfl ?_
        refine at_iconst (pc := 20) X (5 : Int32) dX4_row_20 ic_5 ?_
        obtain ⟨q21, hq21, h⟩ := mm_bind h
        refine at_calli (n := 1) (pc := 21) X 4 [.int (5 : Int32)] [] (mX4_finds (eL E) X.wf ha0 hq21) gX4_row_X4_finds rfl ⟨rfl, rfl⟩ (by decide +kernel) ⟨by decide, by decide⟩ (by decide) rfl ha0 rfl rfl (Nat.le_of_ble_eq_true rfl) dX4_row_21 ?_
        exact at_iret (pc := 24) X (Option.some.inj h) dX4_row_24
    · have h := mm_pos c10 h
      refine at_iconst (pc := 13) X (-1 : Int32) dX4_row_13 ic_m1 ?_
      exact at_iret (pc := 14) X (Option.some.inj h) dX4_row_14
set_option maxHeartbeats 4000000 in
set_option maxRecDepth 100000 in
theorem mX4_row (l : Launch) {G : mm_G} (hwf : mm_WF G) {a0 : Nat} {x1 : Int32} {x2 : Int32} {σ : mm_M} {q : (Int32 × mm_M)} (ha0 : mm_Is G 4 a0) (h : fX4_row G a0 x1 x2 σ = some q) : mm_Mi l yX4_row wsX4_row rmX4_row G [.ref a0, .int x1, .int x2] σ q := by
  refine mm_ofi (cc := cX4_row) (nL := 3) (ret := some .int) (own := RX4) (lv0 := [(0, .ref a0), (1, .int x1), (2, .int x2)]) (by decide) rfl rfl (Nat.le_of_ble_eq_true rfl) rfl hwf (fun E hE X => ?_)
  exact wX4_row_b0 X ha0 h
set_option maxRecDepth 20000 in
theorem ggX4_lay_X4_isRow : GoodIn wsX4_lay wsX4_isRow := goodIn_r _ [6, 7, 8, 5, 9] (by decide +kernel) (by decide +kernel)
set_option maxRecDepth 20000 in
theorem gX4_lay_X4_isRow : GoodIn wsX4_lay (va_wsS RX4 77 yX4_isRow wsX4_isRow) := goodIn_app (goodIn_of _ (by decide +kernel)) ggX4_lay_X4_isRow
set_option maxRecDepth 20000 in
theorem ggX4_lay_X4_finds : GoodIn wsX4_lay wsX4_finds := goodIn_r _ [13, 14, 15, 21, 22, 23, 24, 25, 26, 27, 28, 29, 30, 31, 32, 33, 34, 35, 36, 37, 38, 39, 40, 41, 42] (by decide +kernel) (by decide +kernel)
set_option maxRecDepth 20000 in
theorem gX4_lay_X4_finds : GoodIn wsX4_lay (wsV RX4 81 RX4 yX4_finds wsX4_finds) := goodIn_app (goodIn_of _ (by decide +kernel)) ggX4_lay_X4_finds
set_option maxRecDepth 20000 in
theorem ggX4_lay_X4_in : GoodIn wsX4_lay wsX4_in := goodIn_r _ [9] (by decide +kernel) (by decide +kernel)
set_option maxRecDepth 20000 in
theorem gX4_lay_X4_in : GoodIn wsX4_lay (va_wsS RX4 73 yX4_in wsX4_in) := goodIn_app (goodIn_of _ (by decide +kernel)) ggX4_lay_X4_in
set_option maxRecDepth 20000 in
theorem ggX4_lay_X4_tells : GoodIn wsX4_lay wsX4_tells := goodIn_r _ [19, 20, 21, 22, 23, 24, 25, 26, 27, 28, 29, 30, 31, 32, 33, 34, 35, 36, 37, 38, 39, 40, 41, 42] (by decide +kernel) (by decide +kernel)
set_option maxRecDepth 20000 in
theorem gX4_lay_X4_tells : GoodIn wsX4_lay (wsV RX4 89 RX4 yX4_tells wsX4_tells) := goodIn_app (goodIn_of _ (by decide +kernel)) ggX4_lay_X4_tells
theorem dX4_lay_0 : decode cX4_lay 0 = .ok (.iload_n 1, 1) := by decide +kernel
theorem dX4_lay_1 : decode cX4_lay 1 = .ok (.invokestatic 77, 3) := by decide +kernel
theorem dX4_lay_4 : decode cX4_lay 4 = .ok (.ifCond .ne 5, 3) := by decide +kernel
theorem dX4_lay_7 : decode cX4_lay 7 = .ok (.iconst (-1), 1) := by decide +kernel
theorem dX4_lay_8 : decode cX4_lay 8 = .ok (.ireturn, 1) := by decide +kernel
theorem dX4_lay_9 : decode cX4_lay 9 = .ok (.aload_n 0, 1) := by decide +kernel
theorem dX4_lay_10 : decode cX4_lay 10 = .ok (.getfield 7, 3) := by decide +kernel
theorem dX4_lay_13 : decode cX4_lay 13 = .ok (.iload_n 1, 1) := by decide +kernel
theorem dX4_lay_14 : decode cX4_lay 14 = .ok (.iaload, 1) := by decide +kernel
theorem dX4_lay_15 : decode cX4_lay 15 = .ok (.ifCond .ge 9, 3) := by decide +kernel
theorem dX4_lay_18 : decode cX4_lay 18 = .ok (.aload_n 0, 1) := by decide +kernel
theorem dX4_lay_19 : decode cX4_lay 19 = .ok (.iconst 1, 1) := by decide +kernel
theorem dX4_lay_20 : decode cX4_lay 20 = .ok (.invokevirtual 81, 3) := by decide +kernel
theorem dX4_lay_23 : decode cX4_lay 23 = .ok (.ireturn, 1) := by decide +kernel
theorem dX4_lay_24 : decode cX4_lay 24 = .ok (.iload_n 2, 1) := by decide +kernel
theorem dX4_lay_25 : decode cX4_lay 25 = .ok (.iconst 0, 1) := by decide +kernel
theorem dX4_lay_26 : decode cX4_lay 26 = .ok (.aload_n 0, 1) := by decide +kernel
theorem dX4_lay_27 : decode cX4_lay 27 = .ok (.getfield 7, 3) := by decide +kernel
theorem dX4_lay_30 : decode cX4_lay 30 = .ok (.iload_n 1, 1) := by decide +kernel
theorem dX4_lay_31 : decode cX4_lay 31 = .ok (.iaload, 1) := by decide +kernel
theorem dX4_lay_32 : decode cX4_lay 32 = .ok (.iconst 1, 1) := by decide +kernel
theorem dX4_lay_33 : decode cX4_lay 33 = .ok (.isub, 1) := by decide +kernel
theorem dX4_lay_34 : decode cX4_lay 34 = .ok (.invokestatic 73, 3) := by decide +kernel
theorem dX4_lay_37 : decode cX4_lay 37 = .ok (.ifCond .ne 9, 3) := by decide +kernel
theorem dX4_lay_40 : decode cX4_lay 40 = .ok (.aload_n 0, 1) := by decide +kernel
theorem dX4_lay_41 : decode cX4_lay 41 = .ok (.iconst 2, 1) := by decide +kernel
theorem dX4_lay_42 : decode cX4_lay 42 = .ok (.invokevirtual 81, 3) := by decide +kernel
theorem dX4_lay_45 : decode cX4_lay 45 = .ok (.ireturn, 1) := by decide +kernel
theorem dX4_lay_46 : decode cX4_lay 46 = .ok (.aload_n 0, 1) := by decide +kernel
theorem dX4_lay_47 : decode cX4_lay 47 = .ok (.getfield 13, 3) := by decide +kernel
theorem dX4_lay_50 : decode cX4_lay 50 = .ok (.bipush 40, 2) := by decide +kernel
theorem dX4_lay_52 : decode cX4_lay 52 = .ok (.iload_n 1, 1) := by decide +kernel
theorem dX4_lay_53 : decode cX4_lay 53 = .ok (.imul, 1) := by decide +kernel
theorem dX4_lay_54 : decode cX4_lay 54 = .ok (.iload_n 2, 1) := by decide +kernel
theorem dX4_lay_55 : decode cX4_lay 55 = .ok (.iadd, 1) := by decide +kernel
theorem dX4_lay_56 : decode cX4_lay 56 = .ok (.iaload, 1) := by decide +kernel
theorem dX4_lay_57 : decode cX4_lay 57 = .ok (.istore 4, 2) := by decide +kernel
theorem dX4_lay_59 : decode cX4_lay 59 = .ok (.aload_n 0, 1) := by decide +kernel
theorem dX4_lay_60 : decode cX4_lay 60 = .ok (.getfield 13, 3) := by decide +kernel
theorem dX4_lay_63 : decode cX4_lay 63 = .ok (.bipush 40, 2) := by decide +kernel
theorem dX4_lay_65 : decode cX4_lay 65 = .ok (.iload_n 1, 1) := by decide +kernel
theorem dX4_lay_66 : decode cX4_lay 66 = .ok (.imul, 1) := by decide +kernel
theorem dX4_lay_67 : decode cX4_lay 67 = .ok (.iload_n 2, 1) := by decide +kernel
theorem dX4_lay_68 : decode cX4_lay 68 = .ok (.iadd, 1) := by decide +kernel
theorem dX4_lay_69 : decode cX4_lay 69 = .ok (.iload_n 3, 1) := by decide +kernel
theorem dX4_lay_70 : decode cX4_lay 70 = .ok (.iastore, 1) := by decide +kernel
theorem dX4_lay_71 : decode cX4_lay 71 = .ok (.aload_n 0, 1) := by decide +kernel
theorem dX4_lay_72 : decode cX4_lay 72 = .ok (.iload 4, 2) := by decide +kernel
theorem dX4_lay_74 : decode cX4_lay 74 = .ok (.invokevirtual 89, 3) := by decide +kernel
theorem dX4_lay_77 : decode cX4_lay 77 = .ok (.ireturn, 1) := by decide +kernel
/-! X4_lay (III)I -/
abbrev rmX4_lay : Room := { frames := 2, cells := 0, slots := 0, locals := 42 }
theorem lkX4_lay_0 : Cond.fieldLink RX4 7 (TX4 0).1 (TX4 0).2.1 (TX4 0).2.2.1 ∈ wsX4_lay := by decide +kernel
theorem lkX4_lay_1 : Cond.fieldLink RX4 13 (TX4 1).1 (TX4 1).2.1 (TX4 1).2.2.1 ∈ wsX4_lay := by decide +kernel
theorem inX4_lay_X4 : ∀ w ∈ u_ws RX4 TX4 22, w ∈ wsX4_lay := by decide +kernel
noncomputable def fX4_lay (G : mm_G) (a0 : Nat) (x1 : Int32) (x2 : Int32) (x3 : Int32) (σ : mm_M) : Option (Int32 × mm_M) := (fX4_isRow G x1 σ).bind (fun q1 => if q1.1 = 0 then (some ((-1 : Int32), q1.2)) else (if x1 < 0 ∨ mm_N G (mm_R G a0 0) ≤ x1.toNatClampNeg then none else (if (q1.2.1 (mm_R G a0 0) x1.toNatClampNeg) < 0 then ((fX4_finds G a0 (1 : Int32) q1.2).bind (fun q20 => some (q20.1, q20.2))) else (if x1 < 0 ∨ mm_N G (mm_R G a0 0) ≤ x1.toNatClampNeg then none else ((fX4_in G x2 (0 : Int32) ((q1.2.1 (mm_R G a0 0) x1.toNatClampNeg) - (1 : Int32)) q1.2).bind (fun q34 => if q34.1 = 0 then ((fX4_finds G a0 (2 : Int32) q34.2).bind (fun q42 => some (q42.1, q42.2))) else (if (((40 : Int32) * x1) + x2) < 0 ∨ mm_N G (mm_R G a0 1) ≤ (((40 : Int32) * x1) + x2).toNatClampNeg then none else (if (((40 : Int32) * x1) + x2) < 0 ∨ mm_N G (mm_R G a0 1) ≤ (((40 : Int32) * x1) + x2).toNatClampNeg then none else ((fX4_tells G a0 (q34.2.1 (mm_R G a0 1) (((40 : Int32) * x1) + x2).toNatClampNeg) (mm_up q34.2 (mm_R G a0 1) (((40 : Int32) * x1) + x2).toNatClampNeg x3)).bind (fun q74 => some (q74.1, q74.2)))))))))))
set_option maxHeartbeats 4000000 in
set_option maxRecDepth 100000 in
theorem wX4_lay_b0 {E : mm_E} {G : mm_G} (X : mm_Cx E G cX4_lay 5 RX4 wsX4_lay rmX4_lay (some .int)) {a0 : Nat} {x1 : Int32} {x2 : Int32} {x3 : Int32} {σ : mm_M} {q : (Int32 × mm_M)} (ha0 : mm_Is G 4 a0) (h : fX4_lay G a0 x1 x2 x3 σ = some q) : mm_At E G 5 (mm_Qi E G q) σ 0 [(0, .ref a0), (1, .int x1), (2, .int x2), (3, .int x3)] [] := by
  unfold fX4_lay at h
  refine at_iload_n (pc := 0) X 1 1 dX4_lay_0 rfl rfl ?_
  obtain ⟨q1, hq1, h⟩ := mm_bind h
  refine at_scalli (n := 1) (pc := 1) X [.int x1] [] (mX4_isRow (eL E) X.wf hq1) gX4_lay_X4_isRow rfl ⟨rfl, rfl⟩ (by decide +kernel) ⟨by decide, by decide⟩ rfl rfl (Nat.le_of_ble_eq_true rfl) dX4_lay_1 ?_
  refine at_if_ne (pc := 4) X 9 dX4_lay_4 (by decide) (fun c4 => ?_) (fun c4 => ?_)
  · have h := mm_neg c4 h
    refine at_aload_n (pc := 9) X 0 0 dX4_lay_9 rfl rfl ?_
    refine at_get (pc := 10) X 4 0 (.ref (mm_R G a0 0)) ha0 (by decide) rfl inX4_lay_X4 (by decide) lkX4_lay_0 rfl dX4_lay_10 ?_
    refine at_iload_n (pc := 13) X 1 1 dX4_lay_13 rfl rfl ?_
    obtain ⟨hc14, h⟩ := mm_chk h
    refine at_iald (pc := 14) X (wf_4_0 X.wf ha0) hc14 dX4_lay_14 ?_
    refine at_if_ge (pc := 15) X 24 dX4_lay_15 (by decide) (fun c15 => ?_) (fun c15 => ?_)
    · have h := mm_neg c15 h
      refine at_iload_n (pc := 24) X 2 2 dX4_lay_24 rfl rfl ?_
      refine at_iconst (pc := 25) X (0 : Int32) dX4_lay_25 ic_0 ?_
      refine at_aload_n (pc := 26) X 0 0 dX4_lay_26 rfl rfl ?_
      refine at_get (pc := 27) X 4 0 (.ref (mm_R G a0 0)) ha0 (by decide) rfl inX4_lay_X4 (by decide) lkX4_lay_0 rfl dX4_lay_27 ?_
      refine at_iload_n (pc := 30) X 1 1 dX4_lay_30 rfl rfl ?_
      obtain ⟨hc31, h⟩ := mm_chk h
      refine at_iald (pc := 31) X (wf_4_0 X.wf ha0) hc31 dX4_lay_31 ?_
      refine at_iconst (pc := 32) X (1 : Int32) dX4_lay_32 ic_1 ?_
      refine at_isub (pc := 33) X dX4_lay_33 ?_
      obtain ⟨q34, hq34, h⟩ := mm_bind h
      refine at_scalli (n := 3) (pc := 34) X [.int x2, .int (0 : Int32), .int ((q1.2.1 (mm_R G a0 0) x1.toNatClampNeg) - (1 : Int32))] [] (mX4_in (eL E) X.wf hq34) gX4_lay_X4_in rfl ⟨rfl, rfl⟩ (by decide +kernel) ⟨by decide, by decide⟩ rfl rfl (Nat.le_of_ble_eq_true rfl) dX4_lay_34 ?_
      refine at_if_ne (pc := 37) X 46 dX4_lay_37 (by decide) (fun c37 => ?_) (fun c37 => ?_)
      · have h := mm_neg c37 h
        refine at_aload_n (pc := 46) X 0 0 dX4_lay_46 rfl rfl ?_
        refine at_get (pc := 47) X 4 1 (.ref (mm_R G a0 1)) ha0 (by decide) rfl inX4_lay_X4 (by decide) lkX4_lay_1 rfl dX4_lay_47 ?_
        refine at_bipush (pc := 50) X (40 : Int32) dX4_lay_50 ib_40 ?_
        refine at_iload_n (pc := 52) X 1 1 dX4_lay_52 rfl rfl ?_
        refine at_imul (pc := 53) X dX4_lay_53 ?_
        refine at_iload_n (pc := 54) X 2 2 dX4_lay_54 rfl rfl ?_
        refine at_iadd (pc := 55) X dX4_lay_55 ?_
        obtain ⟨hc56, h⟩ := mm_chk h
        refine at_iald (pc := 56) X (wf_4_1 X.wf ha0) hc56 dX4_lay_56 ?_
        refine at_istore (pc := 57) X 4 [(4, .int (q34.2.1 (mm_R G a0 1) (((40 : Int32) * x1) + x2).toNatClampNeg)), (0, .ref a0), (1, .int x1), (2, .int x2), (3, .int x3)] dX4_lay_57 (by decide) rfl ?_
        refine at_aload_n (pc := 59) X 0 1 dX4_lay_59 rfl rfl ?_
        refine at_get (pc := 60) X 4 1 (.ref (mm_R G a0 1)) ha0 (by decide) rfl inX4_lay_X4 (by decide) lkX4_lay_1 rfl dX4_lay_60 ?_
        refine at_bipush (pc := 63) X (40 : Int32) dX4_lay_63 ib_40 ?_
        refine at_iload_n (pc := 65) X 1 2 dX4_lay_65 rfl rfl ?_
        refine at_imul (pc := 66) X dX4_lay_66 ?_
        refine at_iload_n (pc := 67) X 2 3 dX4_lay_67 rfl rfl ?_
        refine at_iadd (pc := 68) X dX4_lay_68 ?_
        refine at_iload_n (pc := 69) X 3 4 dX4_lay_69 rfl rfl ?_
        obtain ⟨hc70, h⟩ := mm_chk h
        refine at_iast (pc := 70) X (wf_4_1 X.wf ha0) hc70 dX4_lay_70 ?_
        refine at_aload_n (pc := 71) X 0 1 dX4_lay_71 rfl rfl ?_
        refine at_iload (pc := 72) X 4 0 dX4_lay_72 rfl ?_
        obtain ⟨q74, hq74, h⟩ := mm_bind h
        refine at_calli (n := 1) (pc := 74) X 4 [.int (q34.2.1 (mm_R G a0 1) (((40 : Int32) * x1) + x2).toNatClampNeg)] [] (mX4_tells (eL E) X.wf ha0 hq74) gX4_lay_X4_tells rfl ⟨rfl, rfl⟩ (by decide +kernel) ⟨by decide, by decide⟩ (by decide) rfl ha0 rfl rfl (Nat.le_of_ble_eq_true rfl) dX4_lay_74 ?_
        exact at_iret (pc := 77) X (Option.some.inj h) dX4_lay_77
      · have h := mm_pos c37 h
        refine at_aload_n (pc := 40) X 0 0 dX4_lay_40 rfl rfl ?_
        refine at_iconst (pc := 41) X (2 : Int32) dX4_lay_41 ic_2 ?_
        obtain ⟨q42, hq42, h⟩ := mm_bind h
        refine at_calli (n := 1) (pc := 42) X 4 [.int (2 : Int32)] [] (mX4_finds (eL E) X.wf ha0 hq42) gX4_lay_X4_finds rfl ⟨rfl, rfl⟩ (by decide +kernel) ⟨by decide, by decide⟩ (by decide) rfl ha0 rfl rfl (Nat.le_of_ble_eq_true rfl) dX4_lay_42 ?_
        exact at_iret (pc := 45) X (Option.some.inj h) dX4_lay_45
    · have h := mm_pos c15 h
      refine at_aload_n (pc := 18) X 0 0 dX4_lay_18 rfl rfl ?_
      refine at_iconst (pc := 19) X (1 : Int32) dX4_lay_19 ic_1 ?_
      obtain ⟨q20, hq20, h⟩ := mm_bind h
      refine at_calli (n := 1) (pc := 20) X 4 [.int (1 : Int32)] [] (mX4_finds (eL E) X.wf ha0 hq20) gX4_lay_X4_finds rfl ⟨rfl, rfl⟩ (by decide +kernel) ⟨by decide, by decide⟩ (by decide) rfl ha0 rfl rfl (Nat.le_of_ble_eq_true rfl) dX4_lay_20 ?_
      exact at_iret (pc := 23) X (Option.some.inj h) dX4_lay_23
  · have h := mm_pos c4 h
    refine at_iconst (pc := 7) X (-1 : Int32) dX4_lay_7 ic_m1 ?_
    exact at_iret (pc := 8) X (Option.some.inj h) dX4_lay_8
set_option maxHeartbeats 4000000 in
set_option maxRecDepth 100000 in
theorem mX4_lay (l : Launch) {G : mm_G} (hwf : mm_WF G) {a0 : Nat} {x1 : Int32} {x2 : Int32} {x3 : Int32} {σ : mm_M} {q : (Int32 × mm_M)} (ha0 : mm_Is G 4 a0) (h : fX4_lay G a0 x1 x2 x3 σ = some q) : mm_Mi l yX4_lay wsX4_lay rmX4_lay G [.ref a0, .int x1, .int x2, .int x3] σ q := by
  refine mm_ofi (cc := cX4_lay) (nL := 5) (ret := some .int) (own := RX4) (lv0 := [(0, .ref a0), (1, .int x1), (2, .int x2), (3, .int x3)]) (by decide) rfl rfl (Nat.le_of_ble_eq_true rfl) rfl hwf (fun E hE X => ?_)
  exact wX4_lay_b0 X ha0 h
set_option maxRecDepth 20000 in
theorem ggX4_at_X4_isRow : GoodIn wsX4_at wsX4_isRow := goodIn_r _ [6, 7, 8, 5, 9] (by decide +kernel) (by decide +kernel)
set_option maxRecDepth 20000 in
theorem gX4_at_X4_isRow : GoodIn wsX4_at (va_wsS RX4 77 yX4_isRow wsX4_isRow) := goodIn_app (goodIn_of _ (by decide +kernel)) ggX4_at_X4_isRow
set_option maxRecDepth 20000 in
theorem ggX4_at_X4_finds : GoodIn wsX4_at wsX4_finds := goodIn_r _ [13, 14, 15, 21, 22, 23, 24, 25, 26, 27, 28, 29, 30, 31, 32, 33, 34, 35, 36, 37, 38, 39, 40, 41, 42] (by decide +kernel) (by decide +kernel)
set_option maxRecDepth 20000 in
theorem gX4_at_X4_finds : GoodIn wsX4_at (wsV RX4 81 RX4 yX4_finds wsX4_finds) := goodIn_app (goodIn_of _ (by decide +kernel)) ggX4_at_X4_finds
set_option maxRecDepth 20000 in
theorem ggX4_at_X4_in : GoodIn wsX4_at wsX4_in := goodIn_r _ [9] (by decide +kernel) (by decide +kernel)
set_option maxRecDepth 20000 in
theorem gX4_at_X4_in : GoodIn wsX4_at (va_wsS RX4 73 yX4_in wsX4_in) := goodIn_app (goodIn_of _ (by decide +kernel)) ggX4_at_X4_in
set_option maxRecDepth 20000 in
theorem ggX4_at_X4_tells : GoodIn wsX4_at wsX4_tells := goodIn_r _ [19, 20, 21, 22, 23, 24, 25, 26, 27, 28, 29, 30, 31, 32, 33, 34, 35, 36, 37, 38, 39, 40, 41, 42] (by decide +kernel) (by decide +kernel)
set_option maxRecDepth 20000 in
theorem gX4_at_X4_tells : GoodIn wsX4_at (wsV RX4 89 RX4 yX4_tells wsX4_tells) := goodIn_app (goodIn_of _ (by decide +kernel)) ggX4_at_X4_tells
theorem dX4_at_0 : decode cX4_at 0 = .ok (.iload_n 1, 1) := by decide +kernel
theorem dX4_at_1 : decode cX4_at 1 = .ok (.invokestatic 77, 3) := by decide +kernel
theorem dX4_at_4 : decode cX4_at 4 = .ok (.ifCond .ne 5, 3) := by decide +kernel
theorem dX4_at_7 : decode cX4_at 7 = .ok (.iconst (-1), 1) := by decide +kernel
theorem dX4_at_8 : decode cX4_at 8 = .ok (.ireturn, 1) := by decide +kernel
theorem dX4_at_9 : decode cX4_at 9 = .ok (.aload_n 0, 1) := by decide +kernel
theorem dX4_at_10 : decode cX4_at 10 = .ok (.getfield 7, 3) := by decide +kernel
theorem dX4_at_13 : decode cX4_at 13 = .ok (.iload_n 1, 1) := by decide +kernel
theorem dX4_at_14 : decode cX4_at 14 = .ok (.iaload, 1) := by decide +kernel
theorem dX4_at_15 : decode cX4_at 15 = .ok (.ifCond .ge 9, 3) := by decide +kernel
theorem dX4_at_18 : decode cX4_at 18 = .ok (.aload_n 0, 1) := by decide +kernel
theorem dX4_at_19 : decode cX4_at 19 = .ok (.iconst 1, 1) := by decide +kernel
theorem dX4_at_20 : decode cX4_at 20 = .ok (.invokevirtual 81, 3) := by decide +kernel
theorem dX4_at_23 : decode cX4_at 23 = .ok (.ireturn, 1) := by decide +kernel
theorem dX4_at_24 : decode cX4_at 24 = .ok (.iload_n 2, 1) := by decide +kernel
theorem dX4_at_25 : decode cX4_at 25 = .ok (.iconst 0, 1) := by decide +kernel
theorem dX4_at_26 : decode cX4_at 26 = .ok (.aload_n 0, 1) := by decide +kernel
theorem dX4_at_27 : decode cX4_at 27 = .ok (.getfield 7, 3) := by decide +kernel
theorem dX4_at_30 : decode cX4_at 30 = .ok (.iload_n 1, 1) := by decide +kernel
theorem dX4_at_31 : decode cX4_at 31 = .ok (.iaload, 1) := by decide +kernel
theorem dX4_at_32 : decode cX4_at 32 = .ok (.iconst 1, 1) := by decide +kernel
theorem dX4_at_33 : decode cX4_at 33 = .ok (.isub, 1) := by decide +kernel
theorem dX4_at_34 : decode cX4_at 34 = .ok (.invokestatic 73, 3) := by decide +kernel
theorem dX4_at_37 : decode cX4_at 37 = .ok (.ifCond .eq 21, 3) := by decide +kernel
theorem dX4_at_40 : decode cX4_at 40 = .ok (.aload_n 0, 1) := by decide +kernel
theorem dX4_at_41 : decode cX4_at 41 = .ok (.aload_n 0, 1) := by decide +kernel
theorem dX4_at_42 : decode cX4_at 42 = .ok (.getfield 13, 3) := by decide +kernel
theorem dX4_at_45 : decode cX4_at 45 = .ok (.bipush 40, 2) := by decide +kernel
theorem dX4_at_47 : decode cX4_at 47 = .ok (.iload_n 1, 1) := by decide +kernel
theorem dX4_at_48 : decode cX4_at 48 = .ok (.imul, 1) := by decide +kernel
theorem dX4_at_49 : decode cX4_at 49 = .ok (.iload_n 2, 1) := by decide +kernel
theorem dX4_at_50 : decode cX4_at 50 = .ok (.iadd, 1) := by decide +kernel
theorem dX4_at_51 : decode cX4_at 51 = .ok (.iaload, 1) := by decide +kernel
theorem dX4_at_52 : decode cX4_at 52 = .ok (.invokevirtual 89, 3) := by decide +kernel
theorem dX4_at_55 : decode cX4_at 55 = .ok (.goto 8, 3) := by decide +kernel
theorem dX4_at_58 : decode cX4_at 58 = .ok (.aload_n 0, 1) := by decide +kernel
theorem dX4_at_59 : decode cX4_at 59 = .ok (.iconst 2, 1) := by decide +kernel
theorem dX4_at_60 : decode cX4_at 60 = .ok (.invokevirtual 81, 3) := by decide +kernel
theorem dX4_at_63 : decode cX4_at 63 = .ok (.ireturn, 1) := by decide +kernel
/-! X4_at (II)I -/
abbrev rmX4_at : Room := { frames := 2, cells := 0, slots := 0, locals := 42 }
theorem lkX4_at_0 : Cond.fieldLink RX4 7 (TX4 0).1 (TX4 0).2.1 (TX4 0).2.2.1 ∈ wsX4_at := by decide +kernel
theorem lkX4_at_1 : Cond.fieldLink RX4 13 (TX4 1).1 (TX4 1).2.1 (TX4 1).2.2.1 ∈ wsX4_at := by decide +kernel
theorem inX4_at_X4 : ∀ w ∈ u_ws RX4 TX4 22, w ∈ wsX4_at := by decide +kernel
noncomputable def fX4_at (G : mm_G) (a0 : Nat) (x1 : Int32) (x2 : Int32) (σ : mm_M) : Option (Int32 × mm_M) := (fX4_isRow G x1 σ).bind (fun q1 => if q1.1 = 0 then (some ((-1 : Int32), q1.2)) else (if x1 < 0 ∨ mm_N G (mm_R G a0 0) ≤ x1.toNatClampNeg then none else (if (q1.2.1 (mm_R G a0 0) x1.toNatClampNeg) < 0 then ((fX4_finds G a0 (1 : Int32) q1.2).bind (fun q20 => some (q20.1, q20.2))) else (if x1 < 0 ∨ mm_N G (mm_R G a0 0) ≤ x1.toNatClampNeg then none else ((fX4_in G x2 (0 : Int32) ((q1.2.1 (mm_R G a0 0) x1.toNatClampNeg) - (1 : Int32)) q1.2).bind (fun q34 => if q34.1 = 0 then ((fX4_finds G a0 (2 : Int32) q34.2).bind (fun q60 => some (q60.1, q60.2))) else (if (((40 : Int32) * x1) + x2) < 0 ∨ mm_N G (mm_R G a0 1) ≤ (((40 : Int32) * x1) + x2).toNatClampNeg then none else ((fX4_tells G a0 (q34.2.1 (mm_R G a0 1) (((40 : Int32) * x1) + x2).toNatClampNeg) q34.2).bind (fun q52 => some (q52.1, q52.2))))))))))
set_option maxHeartbeats 4000000 in
set_option maxRecDepth 100000 in
theorem wX4_at_b0 {E : mm_E} {G : mm_G} (X : mm_Cx E G cX4_at 3 RX4 wsX4_at rmX4_at (some .int)) {a0 : Nat} {x1 : Int32} {x2 : Int32} {σ : mm_M} {q : (Int32 × mm_M)} (ha0 : mm_Is G 4 a0) (h : fX4_at G a0 x1 x2 σ = some q) : mm_At E G 3 (mm_Qi E G q) σ 0 [(0, .ref a0), (1, .int x1), (2, .int x2)] [] := by
  unfold fX4_at at h
  refine at_iload_n (pc := 0) X 1 1 dX4_at_0 rfl rfl ?_
  obtain ⟨q1, hq1, h⟩ := mm_bind h
  refine at_scalli (n := 1) (pc := 1) X [.int x1] [] (mX4_isRow (eL E) X.wf hq1) gX4_at_X4_isRow rfl ⟨rfl, rfl⟩ (by decide +kernel) ⟨by decide, by decide⟩ rfl rfl (Nat.le_of_ble_eq_true rfl) dX4_at_1 ?_
  refine at_if_ne (pc := 4) X 9 dX4_at_4 (by decide) (fun c4 => ?_) (fun c4 => ?_)
  · have h := mm_neg c4 h
    refine at_aload_n (pc := 9) X 0 0 dX4_at_9 rfl rfl ?_
    refine at_get (pc := 10) X 4 0 (.ref (mm_R G a0 0)) ha0 (by decide) rfl inX4_at_X4 (by decide) lkX4_at_0 rfl dX4_at_10 ?_
    refine at_iload_n (pc := 13) X 1 1 dX4_at_13 rfl rfl ?_
    obtain ⟨hc14, h⟩ := mm_chk h
    refine at_iald (pc := 14) X (wf_4_0 X.wf ha0) hc14 dX4_at_14 ?_
    refine at_if_ge (pc := 15) X 24 dX4_at_15 (by decide) (fun c15 => ?_) (fun c15 => ?_)
    · have h := mm_neg c15 h
      refine at_iload_n (pc := 24) X 2 2 dX4_at_24 rfl rfl ?_
      refine at_iconst (pc := 25) X (0 : Int32) dX4_at_25 ic_0 ?_
      refine at_aload_n (pc := 26) X 0 0 dX4_at_26 rfl rfl ?_
      refine at_get (pc := 27) X 4 0 (.ref (mm_R G a0 0)) ha0 (by decide) rfl inX4_at_X4 (by decide) lkX4_at_0 rfl dX4_at_27 ?_
      refine at_iload_n (pc := 30) X 1 1 dX4_at_30 rfl rfl ?_
      obtain ⟨hc31, h⟩ := mm_chk h
      refine at_iald (pc := 31) X (wf_4_0 X.wf ha0) hc31 dX4_at_31 ?_
      refine at_iconst (pc := 32) X (1 : Int32) dX4_at_32 ic_1 ?_
      refine at_isub (pc := 33) X dX4_at_33 ?_
      obtain ⟨q34, hq34, h⟩ := mm_bind h
      refine at_scalli (n := 3) (pc := 34) X [.int x2, .int (0 : Int32), .int ((q1.2.1 (mm_R G a0 0) x1.toNatClampNeg) - (1 : Int32))] [] (mX4_in (eL E) X.wf hq34) gX4_at_X4_in rfl ⟨rfl, rfl⟩ (by decide +kernel) ⟨by decide, by decide⟩ rfl rfl (Nat.le_of_ble_eq_true rfl) dX4_at_34 ?_
      refine at_if_eq (pc := 37) X 58 dX4_at_37 (by decide) (fun c37 => ?_) (fun c37 => ?_)
      · have h := mm_pos c37 h
        refine at_aload_n (pc := 58) X 0 0 dX4_at_58 rfl rfl ?_
        refine at_iconst (pc := 59) X (2 : Int32) dX4_at_59 ic_2 ?_
        obtain ⟨q60, hq60, h⟩ := mm_bind h
        refine at_calli (n := 1) (pc := 60) X 4 [.int (2 : Int32)] [] (mX4_finds (eL E) X.wf ha0 hq60) gX4_at_X4_finds rfl ⟨rfl, rfl⟩ (by decide +kernel) ⟨by decide, by decide⟩ (by decide) rfl ha0 rfl rfl (Nat.le_of_ble_eq_true rfl) dX4_at_60 ?_
        exact at_iret (pc := 63) X (Option.some.inj h) dX4_at_63
      · have h := mm_neg c37 h
        refine at_aload_n (pc := 40) X 0 0 dX4_at_40 rfl rfl ?_
        refine at_aload_n (pc := 41) X 0 0 dX4_at_41 rfl rfl ?_
        refine at_get (pc := 42) X 4 1 (.ref (mm_R G a0 1)) ha0 (by decide) rfl inX4_at_X4 (by decide) lkX4_at_1 rfl dX4_at_42 ?_
        refine at_bipush (pc := 45) X (40 : Int32) dX4_at_45 ib_40 ?_
        refine at_iload_n (pc := 47) X 1 1 dX4_at_47 rfl rfl ?_
        refine at_imul (pc := 48) X dX4_at_48 ?_
        refine at_iload_n (pc := 49) X 2 2 dX4_at_49 rfl rfl ?_
        refine at_iadd (pc := 50) X dX4_at_50 ?_
        obtain ⟨hc51, h⟩ := mm_chk h
        refine at_iald (pc := 51) X (wf_4_1 X.wf ha0) hc51 dX4_at_51 ?_
        obtain ⟨q52, hq52, h⟩ := mm_bind h
        refine at_calli (n := 1) (pc := 52) X 4 [.int (q34.2.1 (mm_R G a0 1) (((40 : Int32) * x1) + x2).toNatClampNeg)] [] (mX4_tells (eL E) X.wf ha0 hq52) gX4_at_X4_tells rfl ⟨rfl, rfl⟩ (by decide +kernel) ⟨by decide, by decide⟩ (by decide) rfl ha0 rfl rfl (Nat.le_of_ble_eq_true rfl) dX4_at_52 ?_
        refine at_goto (pc := 55) X 63 dX4_at_55 (by decide) ?_
        exact at_iret (pc := 63) X (Option.some.inj h) dX4_at_63
    · have h := mm_pos c15 h
      refine at_aload_n (pc := 18) X 0 0 dX4_at_18 rfl rfl ?_
      refine at_iconst (pc := 19) X (1 : Int32) dX4_at_19 ic_1 ?_
      obtain ⟨q20, hq20, h⟩ := mm_bind h
      refine at_calli (n := 1) (pc := 20) X 4 [.int (1 : Int32)] [] (mX4_finds (eL E) X.wf ha0 hq20) gX4_at_X4_finds rfl ⟨rfl, rfl⟩ (by decide +kernel) ⟨by decide, by decide⟩ (by decide) rfl ha0 rfl rfl (Nat.le_of_ble_eq_true rfl) dX4_at_20 ?_
      exact at_iret (pc := 23) X (Option.some.inj h) dX4_at_23
  · have h := mm_pos c4 h
    refine at_iconst (pc := 7) X (-1 : Int32) dX4_at_7 ic_m1 ?_
    exact at_iret (pc := 8) X (Option.some.inj h) dX4_at_8
set_option maxHeartbeats 4000000 in
set_option maxRecDepth 100000 in
theorem mX4_at (l : Launch) {G : mm_G} (hwf : mm_WF G) {a0 : Nat} {x1 : Int32} {x2 : Int32} {σ : mm_M} {q : (Int32 × mm_M)} (ha0 : mm_Is G 4 a0) (h : fX4_at G a0 x1 x2 σ = some q) : mm_Mi l yX4_at wsX4_at rmX4_at G [.ref a0, .int x1, .int x2] σ q := by
  refine mm_ofi (cc := cX4_at) (nL := 3) (ret := some .int) (own := RX4) (lv0 := [(0, .ref a0), (1, .int x1), (2, .int x2)]) (by decide) rfl rfl (Nat.le_of_ble_eq_true rfl) rfl hwf (fun E hE X => ?_)
  exact wX4_at_b0 X ha0 h
set_option maxRecDepth 20000 in
theorem ggX4_tear_X4_isRow : GoodIn wsX4_tear wsX4_isRow := goodIn_r _ [5, 6, 7, 4, 8] (by decide +kernel) (by decide +kernel)
set_option maxRecDepth 20000 in
theorem gX4_tear_X4_isRow : GoodIn wsX4_tear (va_wsS RX4 77 yX4_isRow wsX4_isRow) := goodIn_app (goodIn_of _ (by decide +kernel)) ggX4_tear_X4_isRow
set_option maxRecDepth 20000 in
theorem ggX4_tear_X4_finds : GoodIn wsX4_tear wsX4_finds := goodIn_r _ [12, 13, 14, 15, 16, 17, 18, 19, 20, 21, 22, 23, 24, 25, 26, 27, 28, 29, 30, 31, 32, 33, 34, 35, 36] (by decide +kernel) (by decide +kernel)
set_option maxRecDepth 20000 in
theorem gX4_tear_X4_finds : GoodIn wsX4_tear (wsV RX4 81 RX4 yX4_finds wsX4_finds) := goodIn_app (goodIn_of _ (by decide +kernel)) ggX4_tear_X4_finds
theorem dX4_tear_0 : decode cX4_tear 0 = .ok (.iload_n 1, 1) := by decide +kernel
theorem dX4_tear_1 : decode cX4_tear 1 = .ok (.invokestatic 77, 3) := by decide +kernel
theorem dX4_tear_4 : decode cX4_tear 4 = .ok (.ifCond .ne 5, 3) := by decide +kernel
theorem dX4_tear_7 : decode cX4_tear 7 = .ok (.iconst (-1), 1) := by decide +kernel
theorem dX4_tear_8 : decode cX4_tear 8 = .ok (.ireturn, 1) := by decide +kernel
theorem dX4_tear_9 : decode cX4_tear 9 = .ok (.aload_n 0, 1) := by decide +kernel
theorem dX4_tear_10 : decode cX4_tear 10 = .ok (.getfield 7, 3) := by decide +kernel
theorem dX4_tear_13 : decode cX4_tear 13 = .ok (.iload_n 1, 1) := by decide +kernel
theorem dX4_tear_14 : decode cX4_tear 14 = .ok (.iaload, 1) := by decide +kernel
theorem dX4_tear_15 : decode cX4_tear 15 = .ok (.ifCond .ge 9, 3) := by decide +kernel
theorem dX4_tear_18 : decode cX4_tear 18 = .ok (.aload_n 0, 1) := by decide +kernel
theorem dX4_tear_19 : decode cX4_tear 19 = .ok (.iconst 1, 1) := by decide +kernel
theorem dX4_tear_20 : decode cX4_tear 20 = .ok (.invokevirtual 81, 3) := by decide +kernel
theorem dX4_tear_23 : decode cX4_tear 23 = .ok (.ireturn, 1) := by decide +kernel
theorem dX4_tear_24 : decode cX4_tear 24 = .ok (.aload_n 0, 1) := by decide +kernel
theorem dX4_tear_25 : decode cX4_tear 25 = .ok (.getfield 7, 3) := by decide +kernel
theorem dX4_tear_28 : decode cX4_tear 28 = .ok (.iload_n 1, 1) := by decide +kernel
theorem dX4_tear_29 : decode cX4_tear 29 = .ok (.iconst (-1), 1) := by decide +kernel
theorem dX4_tear_30 : decode cX4_tear 30 = .ok (.iastore, 1) := by decide +kernel
theorem dX4_tear_31 : decode cX4_tear 31 = .ok (.iconst 1, 1) := by decide +kernel
theorem dX4_tear_32 : decode cX4_tear 32 = .ok (.ireturn, 1) := by decide +kernel
/-! X4_tear (I)I -/
abbrev rmX4_tear : Room := { frames := 2, cells := 0, slots := 0, locals := 42 }
theorem lkX4_tear_0 : Cond.fieldLink RX4 7 (TX4 0).1 (TX4 0).2.1 (TX4 0).2.2.1 ∈ wsX4_tear := by decide +kernel
theorem inX4_tear_X4 : ∀ w ∈ u_ws RX4 TX4 22, w ∈ wsX4_tear := by decide +kernel
noncomputable def fX4_tear (G : mm_G) (a0 : Nat) (x1 : Int32) (σ : mm_M) : Option (Int32 × mm_M) := (fX4_isRow G x1 σ).bind (fun q1 => if q1.1 = 0 then (some ((-1 : Int32), q1.2)) else (if x1 < 0 ∨ mm_N G (mm_R G a0 0) ≤ x1.toNatClampNeg then none else (if (q1.2.1 (mm_R G a0 0) x1.toNatClampNeg) < 0 then ((fX4_finds G a0 (1 : Int32) q1.2).bind (fun q20 => some (q20.1, q20.2))) else (if x1 < 0 ∨ mm_N G (mm_R G a0 0) ≤ x1.toNatClampNeg then none else (some ((1 : Int32), mm_up q1.2 (mm_R G a0 0) x1.toNatClampNeg (-1 : Int32)))))))
set_option maxHeartbeats 4000000 in
set_option maxRecDepth 100000 in
theorem wX4_tear_b0 {E : mm_E} {G : mm_G} (X : mm_Cx E G cX4_tear 2 RX4 wsX4_tear rmX4_tear (some .int)) {a0 : Nat} {x1 : Int32} {σ : mm_M} {q : (Int32 × mm_M)} (ha0 : mm_Is G 4 a0) (h : fX4_tear G a0 x1 σ = some q) : mm_At E G 2 (mm_Qi E G q) σ 0 [(0, .ref a0), (1, .int x1)] [] := by
  unfold fX4_tear at h
  refine at_iload_n (pc := 0) X 1 1 dX4_tear_0 rfl rfl ?_
  obtain ⟨q1, hq1, h⟩ := mm_bind h
  refine at_scalli (n := 1) (pc := 1) X [.int x1] [] (mX4_isRow (eL E) X.wf hq1) gX4_tear_X4_isRow rfl ⟨rfl, rfl⟩ (by decide +kernel) ⟨by decide, by decide⟩ rfl rfl (Nat.le_of_ble_eq_true rfl) dX4_tear_1 ?_
  refine at_if_ne (pc := 4) X 9 dX4_tear_4 (by decide) (fun c4 => ?_) (fun c4 => ?_)
  · have h := mm_neg c4 h
    refine at_aload_n (pc := 9) X 0 0 dX4_tear_9 rfl rfl ?_
    refine at_get (pc := 10) X 4 0 (.ref (mm_R G a0 0)) ha0 (by decide) rfl inX4_tear_X4 (by decide) lkX4_tear_0 rfl dX4_tear_10 ?_
    refine at_iload_n (pc := 13) X 1 1 dX4_tear_13 rfl rfl ?_
    obtain ⟨hc14, h⟩ := mm_chk h
    refine at_iald (pc := 14) X (wf_4_0 X.wf ha0) hc14 dX4_tear_14 ?_
    refine at_if_ge (pc := 15) X 24 dX4_tear_15 (by decide) (fun c15 => ?_) (fun c15 => ?_)
    · have h := mm_neg c15 h
      refine at_aload_n (pc := 24) X 0 0 dX4_tear_24 rfl rfl ?_
      refine at_get (pc := 25) X 4 0 (.ref (mm_R G a0 0)) ha0 (by decide) rfl inX4_tear_X4 (by decide) lkX4_tear_0 rfl dX4_tear_25 ?_
      refine at_iload_n (pc := 28) X 1 1 dX4_tear_28 rfl rfl ?_
      refine at_iconst (pc := 29) X (-1 : Int32) dX4_tear_29 ic_m1 ?_
      obtain ⟨hc30, h⟩ := mm_chk h
      refine at_iast (pc := 30) X (wf_4_0 X.wf ha0) hc30 dX4_tear_30 ?_
      refine at_iconst (pc := 31) X (1 : Int32) dX4_tear_31 ic_1 ?_
      exact at_iret (pc := 32) X (Option.some.inj h) dX4_tear_32
    · have h := mm_pos c15 h
      refine at_aload_n (pc := 18) X 0 0 dX4_tear_18 rfl rfl ?_
      refine at_iconst (pc := 19) X (1 : Int32) dX4_tear_19 ic_1 ?_
      obtain ⟨q20, hq20, h⟩ := mm_bind h
      refine at_calli (n := 1) (pc := 20) X 4 [.int (1 : Int32)] [] (mX4_finds (eL E) X.wf ha0 hq20) gX4_tear_X4_finds rfl ⟨rfl, rfl⟩ (by decide +kernel) ⟨by decide, by decide⟩ (by decide) rfl ha0 rfl rfl (Nat.le_of_ble_eq_true rfl) dX4_tear_20 ?_
      exact at_iret (pc := 23) X (Option.some.inj h) dX4_tear_23
  · have h := mm_pos c4 h
    refine at_iconst (pc := 7) X (-1 : Int32) dX4_tear_7 ic_m1 ?_
    exact at_iret (pc := 8) X (Option.some.inj h) dX4_tear_8
set_option maxHeartbeats 4000000 in
set_option maxRecDepth 100000 in
theorem mX4_tear (l : Launch) {G : mm_G} (hwf : mm_WF G) {a0 : Nat} {x1 : Int32} {σ : mm_M} {q : (Int32 × mm_M)} (ha0 : mm_Is G 4 a0) (h : fX4_tear G a0 x1 σ = some q) : mm_Mi l yX4_tear wsX4_tear rmX4_tear G [.ref a0, .int x1] σ q := by
  refine mm_ofi (cc := cX4_tear) (nL := 2) (ret := some .int) (own := RX4) (lv0 := [(0, .ref a0), (1, .int x1)]) (by decide) rfl rfl (Nat.le_of_ble_eq_true rfl) rfl hwf (fun E hE X => ?_)
  exact wX4_tear_b0 X ha0 h
theorem dX4_lies_0 : decode cX4_lies 0 = .ok (.iload_n 2, 1) := by decide +kernel
theorem dX4_lies_1 : decode cX4_lies 1 = .ok (.ifCond .lt 29, 3) := by decide +kernel
theorem dX4_lies_4 : decode cX4_lies 4 = .ok (.iload_n 3, 1) := by decide +kernel
theorem dX4_lies_5 : decode cX4_lies 5 = .ok (.aload_n 0, 1) := by decide +kernel
theorem dX4_lies_6 : decode cX4_lies 6 = .ok (.getfield 7, 3) := by decide +kernel
theorem dX4_lies_9 : decode cX4_lies 9 = .ok (.iload_n 1, 1) := by decide +kernel
theorem dX4_lies_10 : decode cX4_lies 10 = .ok (.iaload, 1) := by decide +kernel
theorem dX4_lies_11 : decode cX4_lies 11 = .ok (.if_icmp .gt 19, 3) := by decide +kernel
theorem dX4_lies_14 : decode cX4_lies 14 = .ok (.iload_n 2, 1) := by decide +kernel
theorem dX4_lies_15 : decode cX4_lies 15 = .ok (.aload_n 0, 1) := by decide +kernel
theorem dX4_lies_16 : decode cX4_lies 16 = .ok (.getfield 7, 3) := by decide +kernel
theorem dX4_lies_19 : decode cX4_lies 19 = .ok (.iload_n 1, 1) := by decide +kernel
theorem dX4_lies_20 : decode cX4_lies 20 = .ok (.iaload, 1) := by decide +kernel
theorem dX4_lies_21 : decode cX4_lies 21 = .ok (.iload_n 3, 1) := by decide +kernel
theorem dX4_lies_22 : decode cX4_lies 22 = .ok (.isub, 1) := by decide +kernel
theorem dX4_lies_23 : decode cX4_lies 23 = .ok (.if_icmp .gt 7, 3) := by decide +kernel
theorem dX4_lies_26 : decode cX4_lies 26 = .ok (.iconst 1, 1) := by decide +kernel
theorem dX4_lies_27 : decode cX4_lies 27 = .ok (.goto 4, 3) := by decide +kernel
theorem dX4_lies_30 : decode cX4_lies 30 = .ok (.iconst 0, 1) := by decide +kernel
theorem dX4_lies_31 : decode cX4_lies 31 = .ok (.ireturn, 1) := by decide +kernel
/-! X4_lies (III)Z -/
abbrev rmX4_lies : Room := { frames := 0, cells := 0, slots := 0, locals := 0 }
theorem lkX4_lies_0 : Cond.fieldLink RX4 7 (TX4 0).1 (TX4 0).2.1 (TX4 0).2.2.1 ∈ wsX4_lies := by decide +kernel
theorem inX4_lies_X4 : ∀ w ∈ u_ws RX4 TX4 22, w ∈ wsX4_lies := by decide +kernel
noncomputable def fX4_lies (G : mm_G) (a0 : Nat) (x1 : Int32) (x2 : Int32) (x3 : Int32) (σ : mm_M) : Option (Int32 × mm_M) := if x2 < 0 then (some ((0 : Int32), σ)) else (if x1 < 0 ∨ mm_N G (mm_R G a0 0) ≤ x1.toNatClampNeg then none else (if (σ.1 (mm_R G a0 0) x1.toNatClampNeg) < x3 then (some ((0 : Int32), σ)) else (if x1 < 0 ∨ mm_N G (mm_R G a0 0) ≤ x1.toNatClampNeg then none else (if ¬ ((if ((σ.1 (mm_R G a0 0) x1.toNatClampNeg) - x3) < x2 then (0 : Int32) else (1 : Int32)) = 0 ∨ (if ((σ.1 (mm_R G a0 0) x1.toNatClampNeg) - x3) < x2 then (0 : Int32) else (1 : Int32)) = 1) then none else (some (if ((σ.1 (mm_R G a0 0) x1.toNatClampNeg) - x3) < x2 then (0 : Int32) else (1 : Int32), σ))))))
set_option maxHeartbeats 4000000 in
set_option maxRecDepth 100000 in
theorem wX4_lies_b0 {E : mm_E} {G : mm_G} (X : mm_Cx E G cX4_lies 4 RX4 wsX4_lies rmX4_lies (some .boolean)) {a0 : Nat} {x1 : Int32} {x2 : Int32} {x3 : Int32} {σ : mm_M} {q : (Int32 × mm_M)} (ha0 : mm_Is G 4 a0) (h : fX4_lies G a0 x1 x2 x3 σ = some q) : mm_At E G 4 (mm_Qi E G q) σ 0 [(0, .ref a0), (1, .int x1), (2, .int x2), (3, .int x3)] [] := by
  unfold fX4_lies at h
  refine at_iload_n (pc := 0) X 2 2 dX4_lies_0 rfl rfl ?_
  refine at_if_lt (pc := 1) X 30 dX4_lies_1 (by decide) (fun c1 => ?_) (fun c1 => ?_)
  · have h := mm_pos c1 h
    refine at_iconst (pc := 30) X (0 : Int32) dX4_lies_30 ic_0 ?_
    exact at_zret (pc := 31) X (Or.inl rfl) (Option.some.inj h) dX4_lies_31
  · have h := mm_neg c1 h
    refine at_iload_n (pc := 4) X 3 3 dX4_lies_4 rfl rfl ?_
    refine at_aload_n (pc := 5) X 0 0 dX4_lies_5 rfl rfl ?_
    refine at_get (pc := 6) X 4 0 (.ref (mm_R G a0 0)) ha0 (by decide) rfl inX4_lies_X4 (by decide) lkX4_lies_0 rfl dX4_lies_6 ?_
    refine at_iload_n (pc := 9) X 1 1 dX4_lies_9 rfl rfl ?_
    obtain ⟨hc10, h⟩ := mm_chk h
    refine at_iald (pc := 10) X (wf_4_0 X.wf ha0) hc10 dX4_lies_10 ?_
    refine at_icmp_gt (pc := 11) X 30 dX4_lies_11 (by decide) (fun c11 => ?_) (fun c11 => ?_)
    · have h := mm_pos c11 h
      refine at_iconst (pc := 30) X (0 : Int32) dX4_lies_30 ic_0 ?_
      exact at_zret (pc := 31) X (Or.inl rfl) (Option.some.inj h) dX4_lies_31
    · have h := mm_neg c11 h
      refine at_iload_n (pc := 14) X 2 2 dX4_lies_14 rfl rfl ?_
      refine at_aload_n (pc := 15) X 0 0 dX4_lies_15 rfl rfl ?_
      refine at_get (pc := 16) X 4 0 (.ref (mm_R G a0 0)) ha0 (by decide) rfl inX4_lies_X4 (by decide) lkX4_lies_0 rfl dX4_lies_16 ?_
      refine at_iload_n (pc := 19) X 1 1 dX4_lies_19 rfl rfl ?_
      obtain ⟨hc20, h⟩ := mm_chk h
      refine at_iald (pc := 20) X (wf_4_0 X.wf ha0) hc20 dX4_lies_20 ?_
      refine at_iload_n (pc := 21) X 3 3 dX4_lies_21 rfl rfl ?_
      refine at_isub (pc := 22) X dX4_lies_22 ?_
      have hj23 : mm_At E G 4 (mm_Qi E G q) σ 31 [] [.int (if ((σ.1 (mm_R G a0 0) x1.toNatClampNeg) - x3) < x2 then (0 : Int32) else (1 : Int32))] := by
        obtain ⟨hg31, h⟩ := mm_chk h
        exact at_zret (pc := 31) X (Classical.not_not.mp hg31) (Option.some.inj h) dX4_lies_31
      refine at_icmp_gt (pc := 23) X 30 dX4_lies_23 (by decide) (fun c23 => ?_) (fun c23 => ?_)
      · try simp only [if_pos c23] at hj23
        refine at_iconst (pc := 30) X (0 : Int32) dX4_lies_30 ic_0 ?_
        exact at_sub [] rfl hj23
      · try simp only [if_neg c23] at hj23
        refine at_iconst (pc := 26) X (1 : Int32) dX4_lies_26 ic_1 ?_
        refine at_goto (pc := 27) X 31 dX4_lies_27 (by decide) ?_
        exact at_sub [] rfl hj23
set_option maxHeartbeats 4000000 in
set_option maxRecDepth 100000 in
theorem mX4_lies (l : Launch) {G : mm_G} (hwf : mm_WF G) {a0 : Nat} {x1 : Int32} {x2 : Int32} {x3 : Int32} {σ : mm_M} {q : (Int32 × mm_M)} (ha0 : mm_Is G 4 a0) (h : fX4_lies G a0 x1 x2 x3 σ = some q) : mm_Mi l yX4_lies wsX4_lies rmX4_lies G [.ref a0, .int x1, .int x2, .int x3] σ q := by
  refine mm_ofi (cc := cX4_lies) (nL := 4) (ret := some .boolean) (own := RX4) (lv0 := [(0, .ref a0), (1, .int x1), (2, .int x2), (3, .int x3)]) (by decide) rfl rfl (Nat.le_of_ble_eq_true rfl) rfl hwf (fun E hE X => ?_)
  exact wX4_lies_b0 X ha0 h
