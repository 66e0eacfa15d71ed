/-! X4_talkers X4_ones X4_clashes X4_goes X4_slot -/
set_option maxRecDepth 20000 in
theorem ggX4_talkers_X4_wants : GoodIn wsX4_talkers wsX4_wants := goodIn_r _ [4, 5, 6, 3, 7, 8, 9, 10] (by decide +kernel) (by decide +kernel)
set_option maxRecDepth 20000 in
theorem gX4_talkers_X4_wants : GoodIn wsX4_talkers (va_wsS RX4 128 yX4_wants wsX4_wants) := goodIn_app (goodIn_of _ (by decide +kernel)) ggX4_talkers_X4_wants
theorem dX4_talkers_0 : decode cX4_talkers 0 = .ok (.iconst 0, 1) := by decide +kernel
theorem dX4_talkers_1 : decode cX4_talkers 1 = .ok (.istore_n 1, 1) := by decide +kernel
theorem dX4_talkers_2 : decode cX4_talkers 2 = .ok (.iconst 0, 1) := by decide +kernel
theorem dX4_talkers_3 : decode cX4_talkers 3 = .ok (.istore_n 2, 1) := by decide +kernel
theorem dX4_talkers_4 : decode cX4_talkers 4 = .ok (.iload_n 2, 1) := by decide +kernel
theorem dX4_talkers_5 : decode cX4_talkers 5 = .ok (.aload_n 0, 1) := by decide +kernel
theorem dX4_talkers_6 : decode cX4_talkers 6 = .ok (.bipush 32, 2) := by decide +kernel
theorem dX4_talkers_8 : decode cX4_talkers 8 = .ok (.iaload, 1) := by decide +kernel
theorem dX4_talkers_9 : decode cX4_talkers 9 = .ok (.if_icmp .ge 27, 3) := by decide +kernel
theorem dX4_talkers_12 : decode cX4_talkers 12 = .ok (.iload_n 1, 1) := by decide +kernel
theorem dX4_talkers_13 : decode cX4_talkers 13 = .ok (.aload_n 0, 1) := by decide +kernel
theorem dX4_talkers_14 : decode cX4_talkers 14 = .ok (.iload_n 2, 1) := by decide +kernel
theorem dX4_talkers_15 : decode cX4_talkers 15 = .ok (.invokestatic 128, 3) := by decide +kernel
theorem dX4_talkers_18 : decode cX4_talkers 18 = .ok (.ifCond .eq 9, 3) := by decide +kernel
theorem dX4_talkers_21 : decode cX4_talkers 21 = .ok (.iconst 1, 1) := by decide +kernel
theorem dX4_talkers_22 : decode cX4_talkers 22 = .ok (.iload_n 2, 1) := by decide +kernel
theorem dX4_talkers_23 : decode cX4_talkers 23 = .ok (.ishl, 1) := by decide +kernel
theorem dX4_talkers_24 : decode cX4_talkers 24 = .ok (.goto 4, 3) := by decide +kernel
theorem dX4_talkers_27 : decode cX4_talkers 27 = .ok (.iconst 0, 1) := by decide +kernel
theorem dX4_talkers_28 : decode cX4_talkers 28 = .ok (.ior, 1) := by decide +kernel
theorem dX4_talkers_29 : decode cX4_talkers 29 = .ok (.istore_n 1, 1) := by decide +kernel
theorem dX4_talkers_30 : decode cX4_talkers 30 = .ok (.iinc 2 1, 3) := by decide +kernel
theorem dX4_talkers_33 : decode cX4_talkers 33 = .ok (.goto (-29), 3) := by decide +kernel
theorem dX4_talkers_36 : decode cX4_talkers 36 = .ok (.iload_n 1, 1) := by decide +kernel
theorem dX4_talkers_37 : decode cX4_talkers 37 = .ok (.ireturn, 1) := by decide +kernel
/-! X4_talkers ([I)I -/
abbrev rmX4_talkers : Room := { frames := 2, cells := 0, slots := 0, locals := 42 }
noncomputable def fX4_talkers_b28 (G : mm_G) (a0 : Nat) (x2 : Int32) (sx0 : Int32) (sx1 : Int32) (σ : mm_M) : Option ((Int32 × mm_M) ⊕ (Int32 × Int32 × mm_M)) := some (.inr (sx1 ||| sx0, x2 + 1, σ))
noncomputable def fX4_talkers_b4 (G : mm_G) (a0 : Nat) (x1 : Int32) (x2 : Int32) (σ : mm_M) : Option ((Int32 × mm_M) ⊕ (Int32 × Int32 × mm_M)) := if (32 : Int32) < 0 ∨ mm_N G a0 ≤ (32 : Int32).toNatClampNeg then none else (if x2 < (σ.1 a0 (32 : Int32).toNatClampNeg) then ((fX4_wants G a0 x2 σ).bind (fun q15 => fX4_talkers_b28 G a0 x2 (if q15.1 = 0 then (0 : Int32) else (1 : Int32) <<< (x2 &&& 31)) x1 q15.2)) else (some (.inl (x1, σ))))
noncomputable def fX4_talkers_b0 (G : mm_G) (a0 : Nat) (σ : mm_M) : Option ((Int32 × mm_M) ⊕ (Int32 × Int32 × mm_M)) := some (.inr ((0 : Int32), (0 : Int32), σ))
noncomputable def fX4_talkers_s (G : mm_G) (a0 : Nat) : (Int32 × Int32 × mm_M) → Option ((Int32 × mm_M) ⊕ (Int32 × Int32 × mm_M)) := (fun s => fX4_talkers_b4 G a0 s.1 s.2.1 s.2.2)
def PX4_talkers (E : mm_E) (G : mm_G) (a0 : Nat) (q : (Int32 × mm_M)) : (Int32 × Int32 × mm_M) → Prop := (fun s => mm_At E G 3 (mm_Qi E G q) s.2.2 4 [(0, .ref a0), (1, .int s.1), (2, .int s.2.1)] [])
noncomputable def fX4_talkers (G : mm_G) (a0 : Nat) (σ : mm_M) : Option (Int32 × mm_M) := mm_run (fX4_talkers_b0 G a0 σ) (fX4_talkers_s G a0)
set_option maxHeartbeats 4000000 in
set_option maxRecDepth 100000 in
theorem wX4_talkers_b28 {E : mm_E} {G : mm_G} (X : mm_Cx E G cX4_talkers 3 RX4 wsX4_talkers rmX4_talkers (some .int)) {a0 : Nat} {x2 : Int32} {sx0 : Int32} {sx1 : Int32} {σ : mm_M} {q : (Int32 × mm_M)} (ha0 : mm_Is G 6 a0) {o : (Int32 × mm_M) ⊕ (Int32 × Int32 × mm_M)} (h : fX4_talkers_b28 G a0 x2 sx0 sx1 σ = some o) (hk : mm_Ok q (PX4_talkers E G a0 q) o) : mm_At E G 3 (mm_Qi E G q) σ 28 [(0, .ref a0), (2, .int x2)] [.int sx0, .int sx1] := by
  unfold fX4_talkers_b28 at h
  refine at_ior (pc := 28) X dX4_talkers_28 ?_
  refine at_istore_n (pc := 29) X 1 [(1, .int (sx1 ||| sx0)), (0, .ref a0), (2, .int x2)] dX4_talkers_29 rfl (by decide) rfl ?_
  refine at_iinc (pc := 30) X 2 2 (x2 + 1) [(2, .int (x2 + 1)), (1, .int (sx1 ||| sx0)), (0, .ref a0)] dX4_talkers_30 rfl (ii_1 _) (by decide) rfl ?_
  refine at_goto (pc := 33) X 4 dX4_talkers_33 (by decide) ?_
  have h2 := mm_inr h hk; exact at_sub [2, 1, 0] rfl h2
set_option maxHeartbeats 4000000 in
set_option maxRecDepth 100000 in
theorem wX4_talkers_b4 {E : mm_E} {G : mm_G} (X : mm_Cx E G cX4_talkers 3 RX4 wsX4_talkers rmX4_talkers (some .int)) {a0 : Nat} {x1 : Int32} {x2 : Int32} {σ : mm_M} {q : (Int32 × mm_M)} (ha0 : mm_Is G 6 a0) {o : (Int32 × mm_M) ⊕ (Int32 × Int32 × mm_M)} (h : fX4_talkers_b4 G a0 x1 x2 σ = some o) (hk : mm_Ok q (PX4_talkers E G a0 q) o) : mm_At E G 3 (mm_Qi E G q) σ 4 [(0, .ref a0), (1, .int x1), (2, .int x2)] [] := by
  unfold fX4_talkers_b4 at h
  refine at_iload_n (pc := 4) X 2 2 dX4_talkers_4 rfl rfl ?_
  refine at_aload_n (pc := 5) X 0 0 dX4_talkers_5 rfl rfl ?_
  refine at_bipush (pc := 6) X (32 : Int32) dX4_talkers_6 ib_32 ?_
  obtain ⟨hc8, h⟩ := mm_chk h
  refine at_iald (pc := 8) X ha0 hc8 dX4_talkers_8 ?_
  refine at_icmp_ge (pc := 9) X 36 dX4_talkers_9 (by decide) (fun c9 => ?_) (fun c9 => ?_)
  · have h := mm_neg c9 h
    refine at_iload_n (pc := 36) X 1 1 dX4_talkers_36 rfl rfl ?_
    exact at_iret (pc := 37) X (mm_inl h hk) dX4_talkers_37
  · have h := mm_pos c9 h
    refine at_iload_n (pc := 12) X 1 1 dX4_talkers_12 rfl rfl ?_
    refine at_aload_n (pc := 13) X 0 0 dX4_talkers_13 rfl rfl ?_
    refine at_iload_n (pc := 14) X 2 2 dX4_talkers_14 rfl rfl ?_
    obtain ⟨q15, hq15, h⟩ := mm_bind h
    refine at_scalli (n := 2) (pc := 15) X [.ref a0, .int x2] [.int x1] (mX4_wants (eL E) X.wf ha0 hq15) gX4_talkers_X4_wants rfl ⟨rfl, rfl⟩ (by decide +kernel) ⟨by decide, by decide⟩ rfl rfl (Nat.le_of_ble_eq_true rfl) dX4_talkers_15 ?_
    have hj18 : mm_At E G 3 (mm_Qi E G q) q15.2 28 [(0, .ref a0), (2, .int x2)] [.int (if q15.1 = 0 then (0 : Int32) else (1 : Int32) <<< (x2 &&& 31)), .int x1] := by
      exact at_sub [0, 1] rfl (wX4_talkers_b28 X ha0 h hk)
    refine at_if_eq (pc := 18) X 27 dX4_talkers_18 (by decide) (fun c18 => ?_) (fun c18 => ?_)
    · try simp only [if_pos c18] at hj18
      refine at_iconst (pc := 27) X (0 : Int32) dX4_talkers_27 ic_0 ?_
      exact at_sub [0, 2] rfl hj18
    · try simp only [if_neg c18] at hj18
      refine at_iconst (pc := 21) X (1 : Int32) dX4_talkers_21 ic_1 ?_
      refine at_iload_n (pc := 22) X 2 2 dX4_talkers_22 rfl rfl ?_
      refine at_ishl (pc := 23) X dX4_talkers_23 ?_
      refine at_goto (pc := 24) X 28 dX4_talkers_24 (by decide) ?_
      exact at_sub [0, 2] rfl hj18
set_option maxHeartbeats 4000000 in
set_option maxRecDepth 100000 in
theorem wX4_talkers_b0 {E : mm_E} {G : mm_G} (X : mm_Cx E G cX4_talkers 3 RX4 wsX4_talkers rmX4_talkers (some .int)) {a0 : Nat} {σ : mm_M} {q : (Int32 × mm_M)} (ha0 : mm_Is G 6 a0) {o : (Int32 × mm_M) ⊕ (Int32 × Int32 × mm_M)} (h : fX4_talkers_b0 G a0 σ = some o) (hk : mm_Ok q (PX4_talkers E G a0 q) o) : mm_At E G 3 (mm_Qi E G q) σ 0 [(0, .ref a0)] [] := by
  unfold fX4_talkers_b0 at h
  refine at_iconst (pc := 0) X (0 : Int32) dX4_talkers_0 ic_0 ?_
  refine at_istore_n (pc := 1) X 1 [(1, .int (0 : Int32)), (0, .ref a0)] dX4_talkers_1 rfl (by decide) rfl ?_
  refine at_iconst (pc := 2) X (0 : Int32) dX4_talkers_2 ic_0 ?_
  refine at_istore_n (pc := 3) X 2 [(2, .int (0 : Int32)), (1, .int (0 : Int32)), (0, .ref a0)] dX4_talkers_3 rfl (by decide) rfl ?_
  have h2 := mm_inr h hk; exact at_sub [2, 1, 0] rfl h2
set_option maxHeartbeats 4000000 in
set_option maxRecDepth 100000 in
theorem mX4_talkers (l : Launch) {G : mm_G} (hwf : mm_WF G) {a0 : Nat} {σ : mm_M} {q : (Int32 × mm_M)} (ha0 : mm_Is G 6 a0) (h : fX4_talkers G a0 σ = some q) : mm_Mi l yX4_talkers wsX4_talkers rmX4_talkers G [.ref a0] σ q := by
  refine mm_ofi (cc := cX4_talkers) (nL := 3) (ret := some .int) (own := RX4) (lv0 := [(0, .ref a0)]) (by decide) rfl rfl (Nat.le_of_ble_eq_true rfl) rfl hwf (fun E hE X => ?_)
  obtain ⟨o, h0, hk⟩ := mm_run_ok (P := PX4_talkers E G a0 q) h (fun s o hs hk => by exact wX4_talkers_b4 X ha0 hs hk)
  exact wX4_talkers_b0 X ha0 h0 hk
theorem dX4_ones_0 : decode cX4_ones 0 = .ok (.iconst 0, 1) := by decide +kernel
theorem dX4_ones_1 : decode cX4_ones 1 = .ok (.istore_n 1, 1) := by decide +kernel
theorem dX4_ones_2 : decode cX4_ones 2 = .ok (.iconst 0, 1) := by decide +kernel
theorem dX4_ones_3 : decode cX4_ones 3 = .ok (.istore_n 2, 1) := by decide +kernel
theorem dX4_ones_4 : decode cX4_ones 4 = .ok (.iload_n 2, 1) := by decide +kernel
theorem dX4_ones_5 : decode cX4_ones 5 = .ok (.bipush 7, 2) := by decide +kernel
theorem dX4_ones_7 : decode cX4_ones 7 = .ok (.if_icmp .ge 17, 3) := by decide +kernel
theorem dX4_ones_10 : decode cX4_ones 10 = .ok (.iload_n 1, 1) := by decide +kernel
theorem dX4_ones_11 : decode cX4_ones 11 = .ok (.iload_n 0, 1) := by decide +kernel
theorem dX4_ones_12 : decode cX4_ones 12 = .ok (.iload_n 2, 1) := by decide +kernel
theorem dX4_ones_13 : decode cX4_ones 13 = .ok (.ishr, 1) := by decide +kernel
theorem dX4_ones_14 : decode cX4_ones 14 = .ok (.iconst 1, 1) := by decide +kernel
theorem dX4_ones_15 : decode cX4_ones 15 = .ok (.iand, 1) := by decide +kernel
theorem dX4_ones_16 : decode cX4_ones 16 = .ok (.iadd, 1) := by decide +kernel
theorem dX4_ones_17 : decode cX4_ones 17 = .ok (.istore_n 1, 1) := by decide +kernel
theorem dX4_ones_18 : decode cX4_ones 18 = .ok (.iinc 2 1, 3) := by decide +kernel
theorem dX4_ones_21 : decode cX4_ones 21 = .ok (.goto (-17), 3) := by decide +kernel
theorem dX4_ones_24 : decode cX4_ones 24 = .ok (.iload_n 1, 1) := by decide +kernel
theorem dX4_ones_25 : decode cX4_ones 25 = .ok (.ireturn, 1) := by decide +kernel
/-! X4_ones (I)I -/
abbrev rmX4_ones : Room := { frames := 0, cells := 0, slots := 0, locals := 0 }
noncomputable def fX4_ones_b4 (G : mm_G) (x0 : Int32) (x1 : Int32) (x2 : Int32) (σ : mm_M) : Option ((Int32 × mm_M) ⊕ (Int32 × Int32 × mm_M)) := if x2 < (7 : Int32) then (some (.inr (x1 + ((x0 >>> (x2 &&& 31)) &&& (1 : Int32)), x2 + 1, σ))) else (some (.inl (x1, σ)))
noncomputable def fX4_ones_b0 (G : mm_G) (x0 : Int32) (σ : mm_M) : Option ((Int32 × mm_M) ⊕ (Int32 × Int32 × mm_M)) := some (.inr ((0 : Int32), (0 : Int32), σ))
noncomputable def fX4_ones_s (G : mm_G) (x0 : Int32) : (Int32 × Int32 × mm_M) → Option ((Int32 × mm_M) ⊕ (Int32 × Int32 × mm_M)) := (fun s => fX4_ones_b4 G x0 s.1 s.2.1 s.2.2)
def PX4_ones (E : mm_E) (G : mm_G) (x0 : Int32) (q : (Int32 × mm_M)) : (Int32 × Int32 × mm_M) → Prop := (fun s => mm_At E G 3 (mm_Qi E G q) s.2.2 4 [(0, .int x0), (1, .int s.1), (2, .int s.2.1)] [])
noncomputable def fX4_ones (G : mm_G) (x0 : Int32) (σ : mm_M) : Option (Int32 × mm_M) := mm_run (fX4_ones_b0 G x0 σ) (fX4_ones_s G x0)
set_option maxHeartbeats 4000000 in
set_option maxRecDepth 100000 in
theorem wX4_ones_b4 {E : mm_E} {G : mm_G} (X : mm_Cx E G cX4_ones 3 RX4 wsX4_ones rmX4_ones (some .int)) {x0 : Int32} {x1 : Int32} {x2 : Int32} {σ : mm_M} {q : (Int32 × mm_M)} {o : (Int32 × mm_M) ⊕ (Int32 × Int32 × mm_M)} (h : fX4_ones_b4 G x0 x1 x2 σ = some o) (hk : mm_Ok q (PX4_ones E G x0 q) o) : mm_At E G 3 (mm_Qi E G q) σ 4 [(0, .int x0), (1, .int x1), (2, .int x2)] [] := by
  unfold fX4_ones_b4 at h
  refine at_iload_n (pc := 4) X 2 2 dX4_ones_4 rfl rfl ?_
  refine at_bipush (pc := 5) X (7 : Int32) dX4_ones_5 ib_7 ?_
  refine at_icmp_ge (pc := 7) X 24 dX4_ones_7 (by decide) (fun c7 => ?_) (fun c7 => ?_)
  · have h := mm_neg c7 h
    refine at_iload_n (pc := 24) X 1 1 dX4_ones_24 rfl rfl ?_
    exact at_iret (pc := 25) X (mm_inl h hk) dX4_ones_25
  · have h := mm_pos c7 h
    refine at_iload_n (pc := 10) X 1 1 dX4_ones_10 rfl rfl ?_
    refine at_iload_n (pc := 11) X 0 0 dX4_ones_11 rfl rfl ?_
    refine at_iload_n (pc := 12) X 2 2 dX4_ones_12 rfl rfl ?_
    refine at_ishr (pc := 13) X dX4_ones_13 ?_
    refine at_iconst (pc := 14) X (1 : Int32) dX4_ones_14 ic_1 ?_
    refine at_iand (pc := 15) X dX4_ones_15 ?_
    refine at_iadd (pc := 16) X dX4_ones_16 ?_
    refine at_istore_n (pc := 17) X 1 [(1, .int (x1 + ((x0 >>> (x2 &&& 31)) &&& (1 : Int32)))), (0, .int x0), (2, .int x2)] dX4_ones_17 rfl (by decide) rfl ?_
    refine at_iinc (pc := 18) X 2 2 (x2 + 1) [(2, .int (x2 + 1)), (1, .int (x1 + ((x0 >>> (x2 &&& 31)) &&& (1 : Int32)))), (0, .int x0)] dX4_ones_18 rfl (ii_1 _) (by decide) rfl ?_
    refine at_goto (pc := 21) X 4 dX4_ones_21 (by decide) ?_
    have h2 := mm_inr h hk; exact at_sub [2, 1, 0] rfl h2
set_option maxHeartbeats 4000000 in
set_option maxRecDepth 100000 in
theorem wX4_ones_b0 {E : mm_E} {G : mm_G} (X : mm_Cx E G cX4_ones 3 RX4 wsX4_ones rmX4_ones (some .int)) {x0 : Int32} {σ : mm_M} {q : (Int32 × mm_M)} {o : (Int32 × mm_M) ⊕ (Int32 × Int32 × mm_M)} (h : fX4_ones_b0 G x0 σ = some o) (hk : mm_Ok q (PX4_ones E G x0 q) o) : mm_At E G 3 (mm_Qi E G q) σ 0 [(0, .int x0)] [] := by
  unfold fX4_ones_b0 at h
  refine at_iconst (pc := 0) X (0 : Int32) dX4_ones_0 ic_0 ?_
  refine at_istore_n (pc := 1) X 1 [(1, .int (0 : Int32)), (0, .int x0)] dX4_ones_1 rfl (by decide) rfl ?_
  refine at_iconst (pc := 2) X (0 : Int32) dX4_ones_2 ic_0 ?_
  refine at_istore_n (pc := 3) X 2 [(2, .int (0 : Int32)), (1, .int (0 : Int32)), (0, .int x0)] dX4_ones_3 rfl (by decide) rfl ?_
  have h2 := mm_inr h hk; exact at_sub [2, 1, 0] rfl h2
set_option maxHeartbeats 4000000 in
set_option maxRecDepth 100000 in
theorem mX4_ones (l : Launch) {G : mm_G} (hwf : mm_WF G) {x0 : Int32} {σ : mm_M} {q : (Int32 × mm_M)} (h : fX4_ones G x0 σ = some q) : mm_Mi l yX4_ones wsX4_ones rmX4_ones G [.int x0] σ q := by
  refine mm_ofi (cc := cX4_ones) (nL := 3) (ret := some .int) (own := RX4) (lv0 := [(0, .int x0)]) (by decide) rfl rfl (Nat.le_of_ble_eq_true rfl) rfl hwf (fun E hE X => ?_)
  obtain ⟨o, h0, hk⟩ := mm_run_ok (P := PX4_ones E G x0 q) h (fun s o hs hk => by exact wX4_ones_b4 X hs hk)
  exact wX4_ones_b0 X  h0 hk
set_option maxRecDepth 20000 in
theorem ggX4_clashes_X4_waitBy : GoodIn wsX4_clashes wsX4_waitBy := goodIn_r _ [4, 5, 6, 3, 7, 8, 9, 10] (by decide +kernel) (by decide +kernel)
set_option maxRecDepth 20000 in
theorem gX4_clashes_X4_waitBy : GoodIn wsX4_clashes (va_wsS RX4 138 yX4_waitBy wsX4_waitBy) := goodIn_app (goodIn_of _ (by decide +kernel)) ggX4_clashes_X4_waitBy
theorem dX4_clashes_0 : decode cX4_clashes 0 = .ok (.aload_n 0, 1) := by decide +kernel
theorem dX4_clashes_1 : decode cX4_clashes 1 = .ok (.bipush 25, 2) := by decide +kernel
theorem dX4_clashes_3 : decode cX4_clashes 3 = .ok (.iload_n 1, 1) := by decide +kernel
theorem dX4_clashes_4 : decode cX4_clashes 4 = .ok (.iadd, 1) := by decide +kernel
theorem dX4_clashes_5 : decode cX4_clashes 5 = .ok (.dup2, 1) := by decide +kernel
theorem dX4_clashes_6 : decode cX4_clashes 6 = .ok (.iaload, 1) := by decide +kernel
theorem dX4_clashes_7 : decode cX4_clashes 7 = .ok (.iconst 1, 1) := by decide +kernel
theorem dX4_clashes_8 : decode cX4_clashes 8 = .ok (.iadd, 1) := by decide +kernel
theorem dX4_clashes_9 : decode cX4_clashes 9 = .ok (.iastore, 1) := by decide +kernel
theorem dX4_clashes_10 : decode cX4_clashes 10 = .ok (.aload_n 0, 1) := by decide +kernel
theorem dX4_clashes_11 : decode cX4_clashes 11 = .ok (.bipush 33, 2) := by decide +kernel
theorem dX4_clashes_13 : decode cX4_clashes 13 = .ok (.iload_n 1, 1) := by decide +kernel
theorem dX4_clashes_14 : decode cX4_clashes 14 = .ok (.iadd, 1) := by decide +kernel
theorem dX4_clashes_15 : decode cX4_clashes 15 = .ok (.iaload, 1) := by decide +kernel
theorem dX4_clashes_16 : decode cX4_clashes 16 = .ok (.istore_n 2, 1) := by decide +kernel
theorem dX4_clashes_17 : decode cX4_clashes 17 = .ok (.iload_n 2, 1) := by decide +kernel
theorem dX4_clashes_18 : decode cX4_clashes 18 = .ok (.iconst 5, 1) := by decide +kernel
theorem dX4_clashes_19 : decode cX4_clashes 19 = .ok (.if_icmp .ne 17, 3) := by decide +kernel
theorem dX4_clashes_22 : decode cX4_clashes 22 = .ok (.aload_n 0, 1) := by decide +kernel
theorem dX4_clashes_23 : decode cX4_clashes 23 = .ok (.bipush 25, 2) := by decide +kernel
theorem dX4_clashes_25 : decode cX4_clashes 25 = .ok (.iload_n 1, 1) := by decide +kernel
theorem dX4_clashes_26 : decode cX4_clashes 26 = .ok (.iadd, 1) := by decide +kernel
theorem dX4_clashes_27 : decode cX4_clashes 27 = .ok (.iaload, 1) := by decide +kernel
theorem dX4_clashes_28 : decode cX4_clashes 28 = .ok (.iconst 4, 1) := by decide +kernel
theorem dX4_clashes_29 : decode cX4_clashes 29 = .ok (.if_icmp .ne 7, 3) := by decide +kernel
theorem dX4_clashes_32 : decode cX4_clashes 32 = .ok (.iconst 1, 1) := by decide +kernel
theorem dX4_clashes_33 : decode cX4_clashes 33 = .ok (.goto 4, 3) := by decide +kernel
theorem dX4_clashes_36 : decode cX4_clashes 36 = .ok (.iconst 0, 1) := by decide +kernel
theorem dX4_clashes_37 : decode cX4_clashes 37 = .ok (.istore_n 3, 1) := by decide +kernel
theorem dX4_clashes_38 : decode cX4_clashes 38 = .ok (.aload_n 0, 1) := by decide +kernel
theorem dX4_clashes_39 : decode cX4_clashes 39 = .ok (.bipush 18, 2) := by decide +kernel
theorem dX4_clashes_41 : decode cX4_clashes 41 = .ok (.iload_n 1, 1) := by decide +kernel
theorem dX4_clashes_42 : decode cX4_clashes 42 = .ok (.iadd, 1) := by decide +kernel
theorem dX4_clashes_43 : decode cX4_clashes 43 = .ok (.iload_n 3, 1) := by decide +kernel
theorem dX4_clashes_44 : decode cX4_clashes 44 = .ok (.ifCond .eq 7, 3) := by decide +kernel
theorem dX4_clashes_47 : decode cX4_clashes 47 = .ok (.iconst 0, 1) := by decide +kernel
theorem dX4_clashes_48 : decode cX4_clashes 48 = .ok (.goto 27, 3) := by decide +kernel
theorem dX4_clashes_51 : decode cX4_clashes 51 = .ok (.iload_n 2, 1) := by decide +kernel
theorem dX4_clashes_52 : decode cX4_clashes 52 = .ok (.aload_n 0, 1) := by decide +kernel
theorem dX4_clashes_53 : decode cX4_clashes 53 = .ok (.iconst 4, 1) := by decide +kernel
theorem dX4_clashes_54 : decode cX4_clashes 54 = .ok (.iload_n 1, 1) := by decide +kernel
theorem dX4_clashes_55 : decode cX4_clashes 55 = .ok (.iadd, 1) := by decide +kernel
theorem dX4_clashes_56 : decode cX4_clashes 56 = .ok (.iaload, 1) := by decide +kernel
theorem dX4_clashes_57 : decode cX4_clashes 57 = .ok (.aload_n 0, 1) := by decide +kernel
theorem dX4_clashes_58 : decode cX4_clashes 58 = .ok (.bipush 40, 2) := by decide +kernel
theorem dX4_clashes_60 : decode cX4_clashes 60 = .ok (.iload_n 1, 1) := by decide +kernel
theorem dX4_clashes_61 : decode cX4_clashes 61 = .ok (.iadd, 1) := by decide +kernel
theorem dX4_clashes_62 : decode cX4_clashes 62 = .ok (.iaload, 1) := by decide +kernel
theorem dX4_clashes_63 : decode cX4_clashes 63 = .ok (.aload_n 0, 1) := by decide +kernel
theorem dX4_clashes_64 : decode cX4_clashes 64 = .ok (.bipush 25, 2) := by decide +kernel
theorem dX4_clashes_66 : decode cX4_clashes 66 = .ok (.iload_n 1, 1) := by decide +kernel
theorem dX4_clashes_67 : decode cX4_clashes 67 = .ok (.iadd, 1) := by decide +kernel
theorem dX4_clashes_68 : decode cX4_clashes 68 = .ok (.iaload, 1) := by decide +kernel
theorem dX4_clashes_69 : decode cX4_clashes 69 = .ok (.aload_n 0, 1) := by decide +kernel
theorem dX4_clashes_70 : decode cX4_clashes 70 = .ok (.iconst 0, 1) := by decide +kernel
theorem dX4_clashes_71 : decode cX4_clashes 71 = .ok (.iaload, 1) := by decide +kernel
theorem dX4_clashes_72 : decode cX4_clashes 72 = .ok (.invokestatic 138, 3) := by decide +kernel
theorem dX4_clashes_75 : decode cX4_clashes 75 = .ok (.iastore, 1) := by decide +kernel
theorem dX4_clashes_76 : decode cX4_clashes 76 = .ok (.aload_n 0, 1) := by decide +kernel
theorem dX4_clashes_77 : decode cX4_clashes 77 = .ok (.bipush 25, 2) := by decide +kernel
theorem dX4_clashes_79 : decode cX4_clashes 79 = .ok (.iload_n 1, 1) := by decide +kernel
theorem dX4_clashes_80 : decode cX4_clashes 80 = .ok (.iadd, 1) := by decide +kernel
theorem dX4_clashes_81 : decode cX4_clashes 81 = .ok (.iload_n 3, 1) := by decide +kernel
theorem dX4_clashes_82 : decode cX4_clashes 82 = .ok (.ifCond .eq 7, 3) := by decide +kernel
theorem dX4_clashes_85 : decode cX4_clashes 85 = .ok (.iconst 0, 1) := by decide +kernel
theorem dX4_clashes_86 : decode cX4_clashes 86 = .ok (.goto 9, 3) := by decide +kernel
theorem dX4_clashes_89 : decode cX4_clashes 89 = .ok (.aload_n 0, 1) := by decide +kernel
theorem dX4_clashes_90 : decode cX4_clashes 90 = .ok (.bipush 25, 2) := by decide +kernel
theorem dX4_clashes_92 : decode cX4_clashes 92 = .ok (.iload_n 1, 1) := by decide +kernel
theorem dX4_clashes_93 : decode cX4_clashes 93 = .ok (.iadd, 1) := by decide +kernel
theorem dX4_clashes_94 : decode cX4_clashes 94 = .ok (.iaload, 1) := by decide +kernel
theorem dX4_clashes_95 : decode cX4_clashes 95 = .ok (.iastore, 1) := by decide +kernel
theorem dX4_clashes_96 : decode cX4_clashes 96 = .ok (.aload_n 0, 1) := by decide +kernel
theorem dX4_clashes_97 : decode cX4_clashes 97 = .ok (.bipush 11, 2) := by decide +kernel
theorem dX4_clashes_99 : decode cX4_clashes 99 = .ok (.iload_n 1, 1) := by decide +kernel
theorem dX4_clashes_100 : decode cX4_clashes 100 = .ok (.iadd, 1) := by decide +kernel
theorem dX4_clashes_101 : decode cX4_clashes 101 = .ok (.dup2, 1) := by decide +kernel
theorem dX4_clashes_102 : decode cX4_clashes 102 = .ok (.iaload, 1) := by decide +kernel
theorem dX4_clashes_103 : decode cX4_clashes 103 = .ok (.iload_n 3, 1) := by decide +kernel
theorem dX4_clashes_104 : decode cX4_clashes 104 = .ok (.ifCond .eq 7, 3) := by decide +kernel
theorem dX4_clashes_107 : decode cX4_clashes 107 = .ok (.iconst 1, 1) := by decide +kernel
theorem dX4_clashes_108 : decode cX4_clashes 108 = .ok (.goto 4, 3) := by decide +kernel
theorem dX4_clashes_111 : decode cX4_clashes 111 = .ok (.iconst 0, 1) := by decide +kernel
theorem dX4_clashes_112 : decode cX4_clashes 112 = .ok (.isub, 1) := by decide +kernel
theorem dX4_clashes_113 : decode cX4_clashes 113 = .ok (.iastore, 1) := by decide +kernel
theorem dX4_clashes_114 : decode cX4_clashes 114 = .ok (.aload_n 0, 1) := by decide +kernel
theorem dX4_clashes_115 : decode cX4_clashes 115 = .ok (.iconst 3, 1) := by decide +kernel
theorem dX4_clashes_116 : decode cX4_clashes 116 = .ok (.dup2, 1) := by decide +kernel
theorem dX4_clashes_117 : decode cX4_clashes 117 = .ok (.iaload, 1) := by decide +kernel
theorem dX4_clashes_118 : decode cX4_clashes 118 = .ok (.iload_n 3, 1) := by decide +kernel
theorem dX4_clashes_119 : decode cX4_clashes 119 = .ok (.ifCond .eq 7, 3) := by decide +kernel
theorem dX4_clashes_122 : decode cX4_clashes 122 = .ok (.iconst 1, 1) := by decide +kernel
theorem dX4_clashes_123 : decode cX4_clashes 123 = .ok (.goto 4, 3) := by decide +kernel
theorem dX4_clashes_126 : decode cX4_clashes 126 = .ok (.iconst 0, 1) := by decide +kernel
theorem dX4_clashes_127 : decode cX4_clashes 127 = .ok (.iadd, 1) := by decide +kernel
theorem dX4_clashes_128 : decode cX4_clashes 128 = .ok (.iastore, 1) := by decide +kernel
theorem dX4_clashes_129 : decode cX4_clashes 129 = .ok (.return_, 1) := by decide +kernel
/-! X4_clashes ([II)V -/
abbrev rmX4_clashes : Room := { frames := 3, cells := 0, slots := 0, locals := 67 }
noncomputable def fX4_clashes_b127 (G : mm_G) (a0 : Nat) (x1 : Int32) (sx0 : Int32) (sx1 : Int32) (sx2 : Int32) (sa3 : Nat) (σ : mm_M) : Option mm_M := if sx2 < 0 ∨ mm_N G sa3 ≤ sx2.toNatClampNeg then none else (some (mm_up σ sa3 sx2.toNatClampNeg (sx1 + sx0)))
noncomputable def fX4_clashes_b112 (G : mm_G) (a0 : Nat) (x1 : Int32) (x3 : Int32) (sx0 : Int32) (sx1 : Int32) (sx2 : Int32) (sa3 : Nat) (σ : mm_M) : Option mm_M := if sx2 < 0 ∨ mm_N G sa3 ≤ sx2.toNatClampNeg then none else (if (3 : Int32) < 0 ∨ mm_N G a0 ≤ (3 : Int32).toNatClampNeg then none else (fX4_clashes_b127 G a0 x1 (if x3 = 0 then (0 : Int32) else (1 : Int32)) ((mm_up σ sa3 sx2.toNatClampNeg (sx1 - sx0)).1 a0 (3 : Int32).toNatClampNeg) (3 : Int32) a0 (mm_up σ sa3 sx2.toNatClampNeg (sx1 - sx0))))
noncomputable def fX4_clashes_b95 (G : mm_G) (a0 : Nat) (x1 : Int32) (x3 : Int32) (sx0 : Int32) (sx1 : Int32) (sa2 : Nat) (σ : mm_M) : Option mm_M := if sx1 < 0 ∨ mm_N G sa2 ≤ sx1.toNatClampNeg then none else (if ((11 : Int32) + x1) < 0 ∨ mm_N G a0 ≤ ((11 : Int32) + x1).toNatClampNeg then none else (fX4_clashes_b112 G a0 x1 x3 (if x3 = 0 then (0 : Int32) else (1 : Int32)) ((mm_up σ sa2 sx1.toNatClampNeg sx0).1 a0 ((11 : Int32) + x1).toNatClampNeg) ((11 : Int32) + x1) a0 (mm_up σ sa2 sx1.toNatClampNeg sx0)))
noncomputable def fX4_clashes_b75 (G : mm_G) (a0 : Nat) (x1 : Int32) (x3 : Int32) (sx0 : Int32) (sx1 : Int32) (sa2 : Nat) (σ : mm_M) : Option mm_M := if sx1 < 0 ∨ mm_N G sa2 ≤ sx1.toNatClampNeg then none else (if x3 = 0 then (if ((25 : Int32) + x1) < 0 ∨ mm_N G a0 ≤ ((25 : Int32) + x1).toNatClampNeg then none else (fX4_clashes_b95 G a0 x1 x3 ((mm_up σ sa2 sx1.toNatClampNeg sx0).1 a0 ((25 : Int32) + x1).toNatClampNeg) ((25 : Int32) + x1) a0 (mm_up σ sa2 sx1.toNatClampNeg sx0))) else (fX4_clashes_b95 G a0 x1 x3 (0 : Int32) ((25 : Int32) + x1) a0 (mm_up σ sa2 sx1.toNatClampNeg sx0)))
noncomputable def fX4_clashes_b37 (G : mm_G) (a0 : Nat) (x1 : Int32) (x2 : Int32) (sx0 : Int32) (σ : mm_M) : Option mm_M := if sx0 = 0 then (if ((4 : Int32) + x1) < 0 ∨ mm_N G a0 ≤ ((4 : Int32) + x1).toNatClampNeg then none else (if ((40 : Int32) + x1) < 0 ∨ mm_N G a0 ≤ ((40 : Int32) + x1).toNatClampNeg then none else (if ((25 : Int32) + x1) < 0 ∨ mm_N G a0 ≤ ((25 : Int32) + x1).toNatClampNeg then none else (if (0 : Int32) < 0 ∨ mm_N G a0 ≤ (0 : Int32).toNatClampNeg then none else ((fX4_waitBy G x2 (σ.1 a0 ((4 : Int32) + x1).toNatClampNeg) (σ.1 a0 ((40 : Int32) + x1).toNatClampNeg) (σ.1 a0 ((25 : Int32) + x1).toNatClampNeg) (σ.1 a0 (0 : Int32).toNatClampNeg) σ).bind (fun q72 => fX4_clashes_b75 G a0 x1 sx0 q72.1 ((18 : Int32) + x1) a0 q72.2)))))) else (fX4_clashes_b75 G a0 x1 sx0 (0 : Int32) ((18 : Int32) + x1) a0 σ)
noncomputable def fX4_clashes_b36 (G : mm_G) (a0 : Nat) (x1 : Int32) (x2 : Int32) (σ : mm_M) : Option mm_M := fX4_clashes_b37 G a0 x1 x2 (0 : Int32) σ
noncomputable def fX4_clashes (G : mm_G) (a0 : Nat) (x1 : Int32) (σ : mm_M) : Option mm_M := if ((25 : Int32) + x1) < 0 ∨ mm_N G a0 ≤ ((25 : Int32) + x1).toNatClampNeg then none else (if ((25 : Int32) + x1) < 0 ∨ mm_N G a0 ≤ ((25 : Int32) + x1).toNatClampNeg then none else (if ((33 : Int32) + x1) < 0 ∨ mm_N G a0 ≤ ((33 : Int32) + x1).toNatClampNeg then none else (if ((mm_up σ a0 ((25 : Int32) + x1).toNatClampNeg ((σ.1 a0 ((25 : Int32) + x1).toNatClampNeg) + (1 : Int32))).1 a0 ((33 : Int32) + x1).toNatClampNeg) = (5 : Int32) then (if ((25 : Int32) + x1) < 0 ∨ mm_N G a0 ≤ ((25 : Int32) + x1).toNatClampNeg then none else (fX4_clashes_b37 G a0 x1 ((mm_up σ a0 ((25 : Int32) + x1).toNatClampNeg ((σ.1 a0 ((25 : Int32) + x1).toNatClampNeg) + (1 : Int32))).1 a0 ((33 : Int32) + x1).toNatClampNeg) (if ((mm_up σ a0 ((25 : Int32) + x1).toNatClampNeg ((σ.1 a0 ((25 : Int32) + x1).toNatClampNeg) + (1 : Int32))).1 a0 ((25 : Int32) + x1).toNatClampNeg) = (4 : Int32) then (1 : Int32) else (0 : Int32)) (mm_up σ a0 ((25 : Int32) + x1).toNatClampNeg ((σ.1 a0 ((25 : Int32) + x1).toNatClampNeg) + (1 : Int32))))) else (fX4_clashes_b36 G a0 x1 ((mm_up σ a0 ((25 : Int32) + x1).toNatClampNeg ((σ.1 a0 ((25 : Int32) + x1).toNatClampNeg) + (1 : Int32))).1 a0 ((33 : Int32) + x1).toNatClampNeg) (mm_up σ a0 ((25 : Int32) + x1).toNatClampNeg ((σ.1 a0 ((25 : Int32) + x1).toNatClampNeg) + (1 : Int32)))))))
set_option maxHeartbeats 4000000 in
set_option maxRecDepth 100000 in
theorem wX4_clashes_b127 {E : mm_E} {G : mm_G} (X : mm_Cx E G cX4_clashes 4 RX4 wsX4_clashes rmX4_clashes (none)) {a0 : Nat} {x1 : Int32} {sx0 : Int32} {sx1 : Int32} {sx2 : Int32} {sa3 : Nat} {σ : mm_M} {q : mm_M} (ha0 : mm_Is G 6 a0) (hsa3 : mm_Is G 6 sa3) (h : fX4_clashes_b127 G a0 x1 sx0 sx1 sx2 sa3 σ = some q) : mm_At E G 4 (mm_Qv E G q) σ 127 [] [.int sx0, .int sx1, .int sx2, .ref sa3] := by
  unfold fX4_clashes_b127 at h
  refine at_iadd (pc := 127) X dX4_clashes_127 ?_
  obtain ⟨hc128, h⟩ := mm_chk h
  refine at_iast (pc := 128) X hsa3 hc128 dX4_clashes_128 ?_
  exact at_vret (pc := 129) X (Option.some.inj h) dX4_clashes_129
set_option maxHeartbeats 4000000 in
set_option maxRecDepth 100000 in
theorem wX4_clashes_b112 {E : mm_E} {G : mm_G} (X : mm_Cx E G cX4_clashes 4 RX4 wsX4_clashes rmX4_clashes (none)) {a0 : Nat} {x1 : Int32} {x3 : Int32} {sx0 : Int32} {sx1 : Int32} {sx2 : Int32} {sa3 : Nat} {σ : mm_M} {q : mm_M} (ha0 : mm_Is G 6 a0) (hsa3 : mm_Is G 6 sa3) (h : fX4_clashes_b112 G a0 x1 x3 sx0 sx1 sx2 sa3 σ = some q) : mm_At E G 4 (mm_Qv E G q) σ 112 [(0, .ref a0), (3, .int x3)] [.int sx0, .int sx1, .int sx2, .ref sa3] := by
  unfold fX4_clashes_b112 at h
  refine at_isub (pc := 112) X dX4_clashes_112 ?_
  obtain ⟨hc113, h⟩ := mm_chk h
  refine at_iast (pc := 113) X hsa3 hc113 dX4_clashes_113 ?_
  refine at_aload_n (pc := 114) X 0 0 dX4_clashes_114 rfl rfl ?_
  refine at_iconst (pc := 115) X (3 : Int32) dX4_clashes_115 ic_3 ?_
  refine at_dup2 (pc := 116) X dX4_clashes_116 rfl rfl ?_
  obtain ⟨hc117, h⟩ := mm_chk h
  refine at_iald (pc := 117) X ha0 hc117 dX4_clashes_117 ?_
  refine at_iload_n (pc := 118) X 3 1 dX4_clashes_118 rfl rfl ?_
  have hj119 : mm_At E G 4 (mm_Qv E G q) (mm_up σ sa3 sx2.toNatClampNeg (sx1 - sx0)) 127 [] [.int (if x3 = 0 then (0 : Int32) else (1 : Int32)), .int ((mm_up σ sa3 sx2.toNatClampNeg (sx1 - sx0)).1 a0 (3 : Int32).toNatClampNeg), .int (3 : Int32), .ref a0] := by
    exact at_sub [] rfl (wX4_clashes_b127 X ha0 ha0 h)
  refine at_if_eq (pc := 119) X 126 dX4_clashes_119 (by decide) (fun c119 => ?_) (fun c119 => ?_)
  · try simp only [if_pos c119] at hj119
    refine at_iconst (pc := 126) X (0 : Int32) dX4_clashes_126 ic_0 ?_
    exact at_sub [] rfl hj119
  · try simp only [if_neg c119] at hj119
    refine at_iconst (pc := 122) X (1 : Int32) dX4_clashes_122 ic_1 ?_
    refine at_goto (pc := 123) X 127 dX4_clashes_123 (by decide) ?_
    exact at_sub [] rfl hj119
set_option maxHeartbeats 4000000 in
set_option maxRecDepth 100000 in
theorem wX4_clashes_b95 {E : mm_E} {G : mm_G} (X : mm_Cx E G cX4_clashes 4 RX4 wsX4_clashes rmX4_clashes (none)) {a0 : Nat} {x1 : Int32} {x3 : Int32} {sx0 : Int32} {sx1 : Int32} {sa2 : Nat} {σ : mm_M} {q : mm_M} (ha0 : mm_Is G 6 a0) (hsa2 : mm_Is G 6 sa2) (h : fX4_clashes_b95 G a0 x1 x3 sx0 sx1 sa2 σ = some q) : mm_At E G 4 (mm_Qv E G q) σ 95 [(0, .ref a0), (1, .int x1), (3, .int x3)] [.int sx0, .int sx1, .ref sa2] := by
  unfold fX4_clashes_b95 at h
  obtain ⟨hc95, h⟩ := mm_chk h
  refine at_iast (pc := 95) X hsa2 hc95 dX4_clashes_95 ?_
  refine at_aload_n (pc := 96) X 0 0 dX4_clashes_96 rfl rfl ?_
  refine at_bipush (pc := 97) X (11 : Int32) dX4_clashes_97 ib_11 ?_
  refine at_iload_n (pc := 99) X 1 1 dX4_clashes_99 rfl rfl ?_
  refine at_iadd (pc := 100) X dX4_clashes_100 ?_
  refine at_dup2 (pc := 101) X dX4_clashes_101 rfl rfl ?_
  obtain ⟨hc102, h⟩ := mm_chk h
  refine at_iald (pc := 102) X ha0 hc102 dX4_clashes_102 ?_
  refine at_iload_n (pc := 103) X 3 2 dX4_clashes_103 rfl rfl ?_
  have hj104 : mm_At E G 4 (mm_Qv E G q) (mm_up σ sa2 sx1.toNatClampNeg sx0) 112 [(0, .ref a0), (3, .int x3)] [.int (if x3 = 0 then (0 : Int32) else (1 : Int32)), .int ((mm_up σ sa2 sx1.toNatClampNeg sx0).1 a0 ((11 : Int32) + x1).toNatClampNeg), .int ((11 : Int32) + x1), .ref a0] := by
    exact at_sub [0, 1] rfl (wX4_clashes_b112 X ha0 ha0 h)
  refine at_if_eq (pc := 104) X 111 dX4_clashes_104 (by decide) (fun c104 => ?_) (fun c104 => ?_)
  · try simp only [if_pos c104] at hj104
    refine at_iconst (pc := 111) X (0 : Int32) dX4_clashes_111 ic_0 ?_
    exact at_sub [0, 2] rfl hj104
  · try simp only [if_neg c104] at hj104
    refine at_iconst (pc := 107) X (1 : Int32) dX4_clashes_107 ic_1 ?_
    refine at_goto (pc := 108) X 112 dX4_clashes_108 (by decide) ?_
    exact at_sub [0, 2] rfl hj104
set_option maxHeartbeats 4000000 in
set_option maxRecDepth 100000 in
theorem wX4_clashes_b75 {E : mm_E} {G : mm_G} (X : mm_Cx E G cX4_clashes 4 RX4 wsX4_clashes rmX4_clashes (none)) {a0 : Nat} {x1 : Int32} {x3 : Int32} {sx0 : Int32} {sx1 : Int32} {sa2 : Nat} {σ : mm_M} {q : mm_M} (ha0 : mm_Is G 6 a0) (hsa2 : mm_Is G 6 sa2) (h : fX4_clashes_b75 G a0 x1 x3 sx0 sx1 sa2 σ = some q) : mm_At E G 4 (mm_Qv E G q) σ 75 [(0, .ref a0), (1, .int x1), (3, .int x3)] [.int sx0, .int sx1, .ref sa2] := by
  unfold fX4_clashes_b75 at h
  obtain ⟨hc75, h⟩ := mm_chk h
  refine at_iast (pc := 75) X hsa2 hc75 dX4_clashes_75 ?_
  refine at_aload_n (pc := 76) X 0 0 dX4_clashes_76 rfl rfl ?_
  refine at_bipush (pc := 77) X (25 : Int32) dX4_clashes_77 ib_25 ?_
  refine at_iload_n (pc := 79) X 1 1 dX4_clashes_79 rfl rfl ?_
  refine at_iadd (pc := 80) X dX4_clashes_80 ?_
  refine at_iload_n (pc := 81) X 3 2 dX4_clashes_81 rfl rfl ?_
  refine at_if_eq (pc := 82) X 89 dX4_clashes_82 (by decide) (fun c82 => ?_) (fun c82 => ?_)
  · have h := mm_pos c82 h
    refine at_aload_n (pc := 89) X 0 0 dX4_clashes_89 rfl rfl ?_
    refine at_bipush (pc := 90) X (25 : Int32) dX4_clashes_90 ib_25 ?_
    refine at_iload_n (pc := 92) X 1 1 dX4_clashes_92 rfl rfl ?_
    refine at_iadd (pc := 93) X dX4_clashes_93 ?_
    obtain ⟨hc94, h⟩ := mm_chk h
    refine at_iald (pc := 94) X ha0 hc94 dX4_clashes_94 ?_
    exact at_sub [0, 1, 2] rfl (wX4_clashes_b95 X ha0 ha0 h)
  · have h := mm_neg c82 h
    refine at_iconst (pc := 85) X (0 : Int32) dX4_clashes_85 ic_0 ?_
    refine at_goto (pc := 86) X 95 dX4_clashes_86 (by decide) ?_
    exact at_sub [0, 1, 2] rfl (wX4_clashes_b95 X ha0 ha0 h)
set_option maxHeartbeats 4000000 in
set_option maxRecDepth 100000 in
theorem wX4_clashes_b37 {E : mm_E} {G : mm_G} (X : mm_Cx E G cX4_clashes 4 RX4 wsX4_clashes rmX4_clashes (none)) {a0 : Nat} {x1 : Int32} {x2 : Int32} {sx0 : Int32} {σ : mm_M} {q : mm_M} (ha0 : mm_Is G 6 a0) (h : fX4_clashes_b37 G a0 x1 x2 sx0 σ = some q) : mm_At E G 4 (mm_Qv E G q) σ 37 [(0, .ref a0), (1, .int x1), (2, .int x2)] [.int sx0] := by
  unfold fX4_clashes_b37 at h
  refine at_istore_n (pc := 37) X 3 [(3, .int sx0), (0, .ref a0), (1, .int x1), (2, .int x2)] dX4_clashes_37 rfl (by decide) rfl ?_
  refine at_aload_n (pc := 38) X 0 1 dX4_clashes_38 rfl rfl ?_
  refine at_bipush (pc := 39) X (18 : Int32) dX4_clashes_39 ib_18 ?_
  refine at_iload_n (pc := 41) X 1 2 dX4_clashes_41 rfl rfl ?_
  refine at_iadd (pc := 42) X dX4_clashes_42 ?_
  refine at_iload_n (pc := 43) X 3 0 dX4_clashes_43 rfl rfl ?_
  refine at_if_eq (pc := 44) X 51 dX4_clashes_44 (by decide) (fun c44 => ?_) (fun c44 => ?_)
  · have h := mm_pos c44 h
    refine at_iload_n (pc := 51) X 2 3 dX4_clashes_51 rfl rfl ?_
    refine at_aload_n (pc := 52) X 0 1 dX4_clashes_52 rfl rfl ?_
    refine at_iconst (pc := 53) X (4 : Int32) dX4_clashes_53 ic_4 ?_
    refine at_iload_n (pc := 54) X 1 2 dX4_clashes_54 rfl rfl ?_
    refine at_iadd (pc := 55) X dX4_clashes_55 ?_
    obtain ⟨hc56, h⟩ := mm_chk h
    refine at_iald (pc := 56) X ha0 hc56 dX4_clashes_56 ?_
    refine at_aload_n (pc := 57) X 0 1 dX4_clashes_57 rfl rfl ?_
    refine at_bipush (pc := 58) X (40 : Int32) dX4_clashes_58 ib_40 ?_
    refine at_iload_n (pc := 60) X 1 2 dX4_clashes_60 rfl rfl ?_
    refine at_iadd (pc := 61) X dX4_clashes_61 ?_
    obtain ⟨hc62, h⟩ := mm_chk h
    refine at_iald (pc := 62) X ha0 hc62 dX4_clashes_62 ?_
    refine at_aload_n (pc := 63) X 0 1 dX4_clashes_63 rfl rfl ?_
    refine at_bipush (pc := 64) X (25 : Int32) dX4_clashes_64 ib_25 ?_
    refine at_iload_n (pc := 66) X 1 2 dX4_clashes_66 rfl rfl ?_
    refine at_iadd (pc := 67) X dX4_clashes_67 ?_
    obtain ⟨hc68, h⟩ := mm_chk h
    refine at_iald (pc := 68) X ha0 hc68 dX4_clashes_68 ?_
    refine at_aload_n (pc := 69) X 0 1 dX4_clashes_69 rfl rfl ?_
    refine at_iconst (pc := 70) X (0 : Int32) dX4_clashes_70 ic_0 ?_
    obtain ⟨hc71, h⟩ := mm_chk h
    refine at_iald (pc := 71) X ha0 hc71 dX4_clashes_71 ?_
    obtain ⟨q72, hq72, h⟩ := mm_bind h
    refine at_scalli (n := 5) (pc := 72) X [.int x2, .int (σ.1 a0 ((4 : Int32) + x1).toNatClampNeg), .int (σ.1 a0 ((40 : Int32) + x1).toNatClampNeg), .int (σ.1 a0 ((25 : Int32) + x1).toNatClampNeg), .int (σ.1 a0 (0 : Int32).toNatClampNeg)] [.int ((18 : Int32) + x1), .ref a0] (mX4_waitBy (eL E) X.wf hq72) gX4_clashes_X4_waitBy rfl ⟨rfl, rfl⟩ (by decide +kernel) ⟨by decide, by decide⟩ rfl rfl (Nat.le_of_ble_eq_true rfl) dX4_clashes_72 ?_
    exact at_sub [1, 2, 0] rfl (wX4_clashes_b75 X ha0 ha0 h)
  · have h := mm_neg c44 h
    refine at_iconst (pc := 47) X (0 : Int32) dX4_clashes_47 ic_0 ?_
    refine at_goto (pc := 48) X 75 dX4_clashes_48 (by decide) ?_
    exact at_sub [1, 2, 0] rfl (wX4_clashes_b75 X ha0 ha0 h)
set_option maxHeartbeats 4000000 in
set_option maxRecDepth 100000 in
theorem wX4_clashes_b36 {E : mm_E} {G : mm_G} (X : mm_Cx E G cX4_clashes 4 RX4 wsX4_clashes rmX4_clashes (none)) {a0 : Nat} {x1 : Int32} {x2 : Int32} {σ : mm_M} {q : mm_M} (ha0 : mm_Is G 6 a0) (h : fX4_clashes_b36 G a0 x1 x2 σ = some q) : mm_At E G 4 (mm_Qv E G q) σ 36 [(0, .ref a0), (1, .int x1), (2, .int x2)] [] := by
  unfold fX4_clashes_b36 at h
  refine at_iconst (pc := 36) X (0 : Int32) dX4_clashes_36 ic_0 ?_
  exact at_sub [0, 1, 2] rfl (wX4_clashes_b37 X ha0 h)
set_option maxHeartbeats 4000000 in
set_option maxRecDepth 100000 in
theorem wX4_clashes_b0 {E : mm_E} {G : mm_G} (X : mm_Cx E G cX4_clashes 4 RX4 wsX4_clashes rmX4_clashes (none)) {a0 : Nat} {x1 : Int32} {σ : mm_M} {q : mm_M} (ha0 : mm_Is G 6 a0) (h : fX4_clashes G a0 x1 σ = some q) : mm_At E G 4 (mm_Qv E G q) σ 0 [(0, .ref a0), (1, .int x1)] [] := by
  unfold fX4_clashes at h
  refine at_aload_n (pc := 0) X 0 0 dX4_clashes_0 rfl rfl ?_
  refine at_bipush (pc := 1) X (25 : Int32) dX4_clashes_1 ib_25 ?_
  refine at_iload_n (pc := 3) X 1 1 dX4_clashes_3 rfl rfl ?_
  refine at_iadd (pc := 4) X dX4_clashes_4 ?_
  refine at_dup2 (pc := 5) X dX4_clashes_5 rfl rfl ?_
  obtain ⟨hc6, h⟩ := mm_chk h
  refine at_iald (pc := 6) X ha0 hc6 dX4_clashes_6 ?_
  refine at_iconst (pc := 7) X (1 : Int32) dX4_clashes_7 ic_1 ?_
  refine at_iadd (pc := 8) X dX4_clashes_8 ?_
  obtain ⟨hc9, h⟩ := mm_chk h
  refine at_iast (pc := 9) X ha0 hc9 dX4_clashes_9 ?_
  refine at_aload_n (pc := 10) X 0 0 dX4_clashes_10 rfl rfl ?_
  refine at_bipush (pc := 11) X (33 : Int32) dX4_clashes_11 ib_33 ?_
  refine at_iload_n (pc := 13) X 1 1 dX4_clashes_13 rfl rfl ?_
  refine at_iadd (pc := 14) X dX4_clashes_14 ?_
  obtain ⟨hc15, h⟩ := mm_chk h
  refine at_iald (pc := 15) X ha0 hc15 dX4_clashes_15 ?_
  refine at_istore_n (pc := 16) X 2 [(2, .int ((mm_up σ a0 ((25 : Int32) + x1).toNatClampNeg ((σ.1 a0 ((25 : Int32) + x1).toNatClampNeg) + (1 : Int32))).1 a0 ((33 : Int32) + x1).toNatClampNeg)), (0, .ref a0), (1, .int x1)] dX4_clashes_16 rfl (by decide) rfl ?_
  refine at_iload_n (pc := 17) X 2 0 dX4_clashes_17 rfl rfl ?_
  refine at_iconst (pc := 18) X (5 : Int32) dX4_clashes_18 ic_5 ?_
  refine at_icmp_ne (pc := 19) X 36 dX4_clashes_19 (by decide) (fun c19 => ?_) (fun c19 => ?_)
  · have h := mm_neg c19 h
    exact at_sub [1, 2, 0] rfl (wX4_clashes_b36 X ha0 h)
  · have h := mm_pos c19 h
    refine at_aload_n (pc := 22) X 0 1 dX4_clashes_22 rfl rfl ?_
    refine at_bipush (pc := 23) X (25 : Int32) dX4_clashes_23 ib_25 ?_
    refine at_iload_n (pc := 25) X 1 2 dX4_clashes_25 rfl rfl ?_
    refine at_iadd (pc := 26) X dX4_clashes_26 ?_
    obtain ⟨hc27, h⟩ := mm_chk h
    refine at_iald (pc := 27) X ha0 hc27 dX4_clashes_27 ?_
    refine at_iconst (pc := 28) X (4 : Int32) dX4_clashes_28 ic_4 ?_
    have hj29 : mm_At E G 4 (mm_Qv E G q) (mm_up σ a0 ((25 : Int32) + x1).toNatClampNeg ((σ.1 a0 ((25 : Int32) + x1).toNatClampNeg) + (1 : Int32))) 37 [(0, .ref a0), (1, .int x1), (2, .int ((mm_up σ a0 ((25 : Int32) + x1).toNatClampNeg ((σ.1 a0 ((25 : Int32) + x1).toNatClampNeg) + (1 : Int32))).1 a0 ((33 : Int32) + x1).toNatClampNeg))] [.int (if ((mm_up σ a0 ((25 : Int32) + x1).toNatClampNeg ((σ.1 a0 ((25 : Int32) + x1).toNatClampNeg) + (1 : Int32))).1 a0 ((25 : Int32) + x1).toNatClampNeg) = (4 : Int32) then (1 : Int32) else (0 : Int32))] := by
      exact at_sub [0, 1, 2] rfl (wX4_clashes_b37 X ha0 h)
    refine at_icmp_ne (pc := 29) X 36 dX4_clashes_29 (by decide) (fun c29 => ?_) (fun c29 => ?_)
    · try simp only [if_neg c29] at hj29
      refine at_iconst (pc := 36) X (0 : Int32) dX4_clashes_36 ic_0 ?_
      exact at_sub [1, 2, 0] rfl hj29
    · try simp only [if_pos c29] at hj29
      refine at_iconst (pc := 32) X (1 : Int32) dX4_clashes_32 ic_1 ?_
      refine at_goto (pc := 33) X 37 dX4_clashes_33 (by decide) ?_
      exact at_sub [1, 2, 0] rfl hj29
set_option maxHeartbeats 4000000 in
set_option maxRecDepth 100000 in
theorem mX4_clashes (l : Launch) {G : mm_G} (hwf : mm_WF G) {a0 : Nat} {x1 : Int32} {σ : mm_M} {q : mm_M} (ha0 : mm_Is G 6 a0) (h : fX4_clashes G a0 x1 σ = some q) : mm_Mv l yX4_clashes wsX4_clashes rmX4_clashes G [.ref a0, .int x1] σ q := by
  refine mm_ofv (cc := cX4_clashes) (nL := 4) (ret := none) (own := RX4) (lv0 := [(0, .ref a0), (1, .int x1)]) (by decide) rfl rfl (Nat.le_of_ble_eq_true rfl) rfl hwf (fun E hE X => ?_)
  exact wX4_clashes_b0 X ha0 h
set_option maxRecDepth 20000 in
theorem ggX4_goes_X4_talkers : GoodIn wsX4_goes wsX4_talkers := goodIn_r _ [4, 5, 6, 3, 7, 8, 9, 10, 11, 12, 13] (by decide +kernel) (by decide +kernel)
set_option maxRecDepth 20000 in
theorem gX4_goes_X4_talkers : GoodIn wsX4_goes (va_wsS RX4 145 yX4_talkers wsX4_talkers) := goodIn_app (goodIn_of _ (by decide +kernel)) ggX4_goes_X4_talkers
set_option maxRecDepth 20000 in
theorem ggX4_goes_X4_ones : GoodIn wsX4_goes wsX4_ones := goodIn_r _ [16] (by decide +kernel) (by decide +kernel)
set_option maxRecDepth 20000 in
theorem gX4_goes_X4_ones : GoodIn wsX4_goes (va_wsS RX4 149 yX4_ones wsX4_ones) := goodIn_app (goodIn_of _ (by decide +kernel)) ggX4_goes_X4_ones
set_option maxRecDepth 20000 in
theorem ggX4_goes_X4_has : GoodIn wsX4_goes wsX4_has := goodIn_r _ [13] (by decide +kernel) (by decide +kernel)
set_option maxRecDepth 20000 in
theorem gX4_goes_X4_has : GoodIn wsX4_goes (va_wsS RX4 125 yX4_has wsX4_has) := goodIn_app (goodIn_of _ (by decide +kernel)) ggX4_goes_X4_has
set_option maxRecDepth 20000 in
theorem ggX4_goes_X4_clashes : GoodIn wsX4_goes wsX4_clashes := goodIn_r _ [19, 20, 21, 3, 22, 23, 24, 25, 26, 27, 28] (by decide +kernel) (by decide +kernel)
set_option maxRecDepth 20000 in
theorem gX4_goes_X4_clashes : GoodIn wsX4_goes (va_wsS RX4 152 yX4_clashes wsX4_clashes) := goodIn_app (goodIn_of _ (by decide +kernel)) ggX4_goes_X4_clashes
theorem dX4_goes_0 : decode cX4_goes 0 = .ok (.aload_n 0, 1) := by decide +kernel
theorem dX4_goes_1 : decode cX4_goes 1 = .ok (.invokestatic 145, 3) := by decide +kernel
theorem dX4_goes_4 : decode cX4_goes 4 = .ok (.istore_n 1, 1) := by decide +kernel
theorem dX4_goes_5 : decode cX4_goes 5 = .ok (.iload_n 1, 1) := by decide +kernel
theorem dX4_goes_6 : decode cX4_goes 6 = .ok (.invokestatic 149, 3) := by decide +kernel
theorem dX4_goes_9 : decode cX4_goes 9 = .ok (.istore_n 2, 1) := by decide +kernel
theorem dX4_goes_10 : decode cX4_goes 10 = .ok (.iconst 0, 1) := by decide +kernel
theorem dX4_goes_11 : decode cX4_goes 11 = .ok (.istore_n 3, 1) := by decide +kernel
theorem dX4_goes_12 : decode cX4_goes 12 = .ok (.iload_n 3, 1) := by decide +kernel
theorem dX4_goes_13 : decode cX4_goes 13 = .ok (.aload_n 0, 1) := by decide +kernel
theorem dX4_goes_14 : decode cX4_goes 14 = .ok (.bipush 32, 2) := by decide +kernel
theorem dX4_goes_16 : decode cX4_goes 16 = .ok (.iaload, 1) := by decide +kernel
theorem dX4_goes_17 : decode cX4_goes 17 = .ok (.if_icmp .ge 95, 3) := by decide +kernel
theorem dX4_goes_20 : decode cX4_goes 20 = .ok (.iload_n 2, 1) := by decide +kernel
theorem dX4_goes_21 : decode cX4_goes 21 = .ok (.iconst 1, 1) := by decide +kernel
theorem dX4_goes_22 : decode cX4_goes 22 = .ok (.if_icmp .le 19, 3) := by decide +kernel
theorem dX4_goes_25 : decode cX4_goes 25 = .ok (.iload_n 1, 1) := by decide +kernel
theorem dX4_goes_26 : decode cX4_goes 26 = .ok (.iload_n 3, 1) := by decide +kernel
theorem dX4_goes_27 : decode cX4_goes 27 = .ok (.invokestatic 125, 3) := by decide +kernel
theorem dX4_goes_30 : decode cX4_goes 30 = .ok (.ifCond .eq 11, 3) := by decide +kernel
theorem dX4_goes_33 : decode cX4_goes 33 = .ok (.aload_n 0, 1) := by decide +kernel
theorem dX4_goes_34 : decode cX4_goes 34 = .ok (.iload_n 3, 1) := by decide +kernel
theorem dX4_goes_35 : decode cX4_goes 35 = .ok (.invokestatic 152, 3) := by decide +kernel
theorem dX4_goes_38 : decode cX4_goes 38 = .ok (.goto 68, 3) := by decide +kernel
theorem dX4_goes_41 : decode cX4_goes 41 = .ok (.iload_n 1, 1) := by decide +kernel
theorem dX4_goes_42 : decode cX4_goes 42 = .ok (.iload_n 3, 1) := by decide +kernel
theorem dX4_goes_43 : decode cX4_goes 43 = .ok (.invokestatic 125, 3) := by decide +kernel
theorem dX4_goes_46 : decode cX4_goes 46 = .ok (.ifCond .eq 30, 3) := by decide +kernel
theorem dX4_goes_49 : decode cX4_goes 49 = .ok (.aload_n 0, 1) := by decide +kernel
theorem dX4_goes_50 : decode cX4_goes 50 = .ok (.bipush 11, 2) := by decide +kernel
theorem dX4_goes_52 : decode cX4_goes 52 = .ok (.iload_n 3, 1) := by decide +kernel
theorem dX4_goes_53 : decode cX4_goes 53 = .ok (.iadd, 1) := by decide +kernel
theorem dX4_goes_54 : decode cX4_goes 54 = .ok (.dup2, 1) := by decide +kernel
theorem dX4_goes_55 : decode cX4_goes 55 = .ok (.iaload, 1) := by decide +kernel
theorem dX4_goes_56 : decode cX4_goes 56 = .ok (.iconst 1, 1) := by decide +kernel
theorem dX4_goes_57 : decode cX4_goes 57 = .ok (.isub, 1) := by decide +kernel
theorem dX4_goes_58 : decode cX4_goes 58 = .ok (.iastore, 1) := by decide +kernel
theorem dX4_goes_59 : decode cX4_goes 59 = .ok (.aload_n 0, 1) := by decide +kernel
theorem dX4_goes_60 : decode cX4_goes 60 = .ok (.bipush 25, 2) := by decide +kernel
theorem dX4_goes_62 : decode cX4_goes 62 = .ok (.iload_n 3, 1) := by decide +kernel
theorem dX4_goes_63 : decode cX4_goes 63 = .ok (.iadd, 1) := by decide +kernel
theorem dX4_goes_64 : decode cX4_goes 64 = .ok (.iconst 0, 1) := by decide +kernel
theorem dX4_goes_65 : decode cX4_goes 65 = .ok (.iastore, 1) := by decide +kernel
theorem dX4_goes_66 : decode cX4_goes 66 = .ok (.aload_n 0, 1) := by decide +kernel
theorem dX4_goes_67 : decode cX4_goes 67 = .ok (.iconst 2, 1) := by decide +kernel
theorem dX4_goes_68 : decode cX4_goes 68 = .ok (.dup2, 1) := by decide +kernel
theorem dX4_goes_69 : decode cX4_goes 69 = .ok (.iaload, 1) := by decide +kernel
theorem dX4_goes_70 : decode cX4_goes 70 = .ok (.iconst 1, 1) := by decide +kernel
theorem dX4_goes_71 : decode cX4_goes 71 = .ok (.iadd, 1) := by decide +kernel
theorem dX4_goes_72 : decode cX4_goes 72 = .ok (.iastore, 1) := by decide +kernel
theorem dX4_goes_73 : decode cX4_goes 73 = .ok (.goto 33, 3) := by decide +kernel
theorem dX4_goes_76 : decode cX4_goes 76 = .ok (.aload_n 0, 1) := by decide +kernel
theorem dX4_goes_77 : decode cX4_goes 77 = .ok (.bipush 18, 2) := by decide +kernel
theorem dX4_goes_79 : decode cX4_goes 79 = .ok (.iload_n 3, 1) := by decide +kernel
theorem dX4_goes_80 : decode cX4_goes 80 = .ok (.iadd, 1) := by decide +kernel
theorem dX4_goes_81 : decode cX4_goes 81 = .ok (.iaload, 1) := by decide +kernel
theorem dX4_goes_82 : decode cX4_goes 82 = .ok (.ifCond .le 24, 3) := by decide +kernel
theorem dX4_goes_85 : decode cX4_goes 85 = .ok (.aload_n 0, 1) := by decide +kernel
theorem dX4_goes_86 : decode cX4_goes 86 = .ok (.bipush 47, 2) := by decide +kernel
theorem dX4_goes_88 : decode cX4_goes 88 = .ok (.iaload, 1) := by decide +kernel
theorem dX4_goes_89 : decode cX4_goes 89 = .ok (.iload_n 3, 1) := by decide +kernel
theorem dX4_goes_90 : decode cX4_goes 90 = .ok (.invokestatic 125, 3) := by decide +kernel
theorem dX4_goes_93 : decode cX4_goes 93 = .ok (.ifCond .ne 13, 3) := by decide +kernel
theorem dX4_goes_96 : decode cX4_goes 96 = .ok (.aload_n 0, 1) := by decide +kernel
theorem dX4_goes_97 : decode cX4_goes 97 = .ok (.bipush 18, 2) := by decide +kernel
theorem dX4_goes_99 : decode cX4_goes 99 = .ok (.iload_n 3, 1) := by decide +kernel
theorem dX4_goes_100 : decode cX4_goes 100 = .ok (.iadd, 1) := by decide +kernel
theorem dX4_goes_101 : decode cX4_goes 101 = .ok (.dup2, 1) := by decide +kernel
theorem dX4_goes_102 : decode cX4_goes 102 = .ok (.iaload, 1) := by decide +kernel
theorem dX4_goes_103 : decode cX4_goes 103 = .ok (.iconst 1, 1) := by decide +kernel
theorem dX4_goes_104 : decode cX4_goes 104 = .ok (.isub, 1) := by decide +kernel
theorem dX4_goes_105 : decode cX4_goes 105 = .ok (.iastore, 1) := by decide +kernel
theorem dX4_goes_106 : decode cX4_goes 106 = .ok (.iinc 3 1, 3) := by decide +kernel
theorem dX4_goes_109 : decode cX4_goes 109 = .ok (.goto (-97), 3) := by decide +kernel
theorem dX4_goes_112 : decode cX4_goes 112 = .ok (.aload_n 0, 1) := by decide +kernel
theorem dX4_goes_113 : decode cX4_goes 113 = .ok (.iconst 0, 1) := by decide +kernel
theorem dX4_goes_114 : decode cX4_goes 114 = .ok (.dup2, 1) := by decide +kernel
theorem dX4_goes_115 : decode cX4_goes 115 = .ok (.iaload, 1) := by decide +kernel
theorem dX4_goes_116 : decode cX4_goes 116 = .ok (.iconst 1, 1) := by decide +kernel
theorem dX4_goes_117 : decode cX4_goes 117 = .ok (.iadd, 1) := by decide +kernel
theorem dX4_goes_118 : decode cX4_goes 118 = .ok (.iastore, 1) := by decide +kernel
theorem dX4_goes_119 : decode cX4_goes 119 = .ok (.aload_n 0, 1) := by decide +kernel
theorem dX4_goes_120 : decode cX4_goes 120 = .ok (.iconst 1, 1) := by decide +kernel
theorem dX4_goes_121 : decode cX4_goes 121 = .ok (.iload_n 2, 1) := by decide +kernel
theorem dX4_goes_122 : decode cX4_goes 122 = .ok (.ifCond .le 7, 3) := by decide +kernel
theorem dX4_goes_125 : decode cX4_goes 125 = .ok (.iconst 1, 1) := by decide +kernel
theorem dX4_goes_126 : decode cX4_goes 126 = .ok (.goto 4, 3) := by decide +kernel
theorem dX4_goes_129 : decode cX4_goes 129 = .ok (.iconst 0, 1) := by decide +kernel
theorem dX4_goes_130 : decode cX4_goes 130 = .ok (.iastore, 1) := by decide +kernel
theorem dX4_goes_131 : decode cX4_goes 131 = .ok (.iload_n 1, 1) := by decide +kernel
theorem dX4_goes_132 : decode cX4_goes 132 = .ok (.ireturn, 1) := by decide +kernel
/-! X4_goes ([I)I -/
abbrev rmX4_goes : Room := { frames := 4, cells := 0, slots := 0, locals := 90 }
noncomputable def fX4_goes_b130 (G : mm_G) (a0 : Nat) (x1 : Int32) (sx0 : Int32) (sx1 : Int32) (sa2 : Nat) (σ : mm_M) : Option ((Int32 × mm_M) ⊕ (Int32 × Int32 × Int32 × mm_M)) := if sx1 < 0 ∨ mm_N G sa2 ≤ sx1.toNatClampNeg then none else (some (.inl (x1, mm_up σ sa2 sx1.toNatClampNeg sx0)))
noncomputable def fX4_goes_b41 (G : mm_G) (a0 : Nat) (x1 : Int32) (x2 : Int32) (x3 : Int32) (σ : mm_M) : Option ((Int32 × mm_M) ⊕ (Int32 × Int32 × Int32 × mm_M)) := (fX4_has G x1 x3 σ).bind (fun q43 => if q43.1 = 0 then (if ((18 : Int32) + x3) < 0 ∨ mm_N G a0 ≤ ((18 : Int32) + x3).toNatClampNeg then none else (if 0 < (q43.2.1 a0 ((18 : Int32) + x3).toNatClampNeg) then (if (47 : Int32) < 0 ∨ mm_N G a0 ≤ (47 : Int32).toNatClampNeg then none else ((fX4_has G (q43.2.1 a0 (47 : Int32).toNatClampNeg) x3 q43.2).bind (fun q90 => if q90.1 = 0 then (if ((18 : Int32) + x3) < 0 ∨ mm_N G a0 ≤ ((18 : Int32) + x3).toNatClampNeg then none else (if ((18 : Int32) + x3) < 0 ∨ mm_N G a0 ≤ ((18 : Int32) + x3).toNatClampNeg then none else (some (.inr (x1, x2, x3 + 1, mm_up q90.2 a0 ((18 : Int32) + x3).toNatClampNeg ((q90.2.1 a0 ((18 : Int32) + x3).toNatClampNeg) - (1 : Int32))))))) else (some (.inr (x1, x2, x3 + 1, q90.2)))))) else (some (.inr (x1, x2, x3 + 1, q43.2))))) else (if ((11 : Int32) + x3) < 0 ∨ mm_N G a0 ≤ ((11 : Int32) + x3).toNatClampNeg then none else (if ((11 : Int32) + x3) < 0 ∨ mm_N G a0 ≤ ((11 : Int32) + x3).toNatClampNeg then none else (if ((25 : Int32) + x3) < 0 ∨ mm_N G a0 ≤ ((25 : Int32) + x3).toNatClampNeg then none else (if (2 : Int32) < 0 ∨ mm_N G a0 ≤ (2 : Int32).toNatClampNeg then none else (if (2 : Int32) < 0 ∨ mm_N G a0 ≤ (2 : Int32).toNatClampNeg then none else (some (.inr (x1, x2, x3 + 1, mm_up (mm_up (mm_up q43.2 a0 ((11 : Int32) + x3).toNatClampNeg ((q43.2.1 a0 ((11 : Int32) + x3).toNatClampNeg) - (1 : Int32))) a0 ((25 : Int32) + x3).toNatClampNeg (0 : Int32)) a0 (2 : Int32).toNatClampNeg (((mm_up (mm_up q43.2 a0 ((11 : Int32) + x3).toNatClampNeg ((q43.2.1 a0 ((11 : Int32) + x3).toNatClampNeg) - (1 : Int32))) a0 ((25 : Int32) + x3).toNatClampNeg (0 : Int32)).1 a0 (2 : Int32).toNatClampNeg) + (1 : Int32)))))))))))
noncomputable def fX4_goes_b12 (G : mm_G) (a0 : Nat) (x1 : Int32) (x2 : Int32) (x3 : Int32) (σ : mm_M) : Option ((Int32 × mm_M) ⊕ (Int32 × Int32 × Int32 × mm_M)) := if (32 : Int32) < 0 ∨ mm_N G a0 ≤ (32 : Int32).toNatClampNeg then none else (if x3 < (σ.1 a0 (32 : Int32).toNatClampNeg) then (if (1 : Int32) < x2 then ((fX4_has G x1 x3 σ).bind (fun q27 => if q27.1 = 0 then (fX4_goes_b41 G a0 x1 x2 x3 q27.2) else ((fX4_clashes G a0 x3 q27.2).bind (fun q35 => some (.inr (x1, x2, x3 + 1, q35)))))) else (fX4_goes_b41 G a0 x1 x2 x3 σ)) else (if (0 : Int32) < 0 ∨ mm_N G a0 ≤ (0 : Int32).toNatClampNeg then none else (if (0 : Int32) < 0 ∨ mm_N G a0 ≤ (0 : Int32).toNatClampNeg then none else (fX4_goes_b130 G a0 x1 (if 0 < x2 then (1 : Int32) else (0 : Int32)) (1 : Int32) a0 (mm_up σ a0 (0 : Int32).toNatClampNeg ((σ.1 a0 (0 : Int32).toNatClampNeg) + (1 : Int32)))))))
noncomputable def fX4_goes_b0 (G : mm_G) (a0 : Nat) (σ : mm_M) : Option ((Int32 × mm_M) ⊕ (Int32 × Int32 × Int32 × mm_M)) := (fX4_talkers G a0 σ).bind (fun q1 => (fX4_ones G q1.1 q1.2).bind (fun q6 => some (.inr (q1.1, q6.1, (0 : Int32), q6.2))))
noncomputable def fX4_goes_s (G : mm_G) (a0 : Nat) : (Int32 × Int32 × Int32 × mm_M) → Option ((Int32 × mm_M) ⊕ (Int32 × Int32 × Int32 × mm_M)) := (fun s => fX4_goes_b12 G a0 s.1 s.2.1 s.2.2.1 s.2.2.2)
def PX4_goes (E : mm_E) (G : mm_G) (a0 : Nat) (q : (Int32 × mm_M)) : (Int32 × Int32 × Int32 × mm_M) → Prop := (fun s => mm_At E G 4 (mm_Qi E G q) s.2.2.2 12 [(0, .ref a0), (1, .int s.1), (2, .int s.2.1), (3, .int s.2.2.1)] [])
noncomputable def fX4_goes (G : mm_G) (a0 : Nat) (σ : mm_M) : Option (Int32 × mm_M) := mm_run (fX4_goes_b0 G a0 σ) (fX4_goes_s G a0)
set_option maxHeartbeats 4000000 in
set_option maxRecDepth 100000 in
theorem wX4_goes_b130 {E : mm_E} {G : mm_G} (X : mm_Cx E G cX4_goes 4 RX4 wsX4_goes rmX4_goes (some .int)) {a0 : Nat} {x1 : Int32} {sx0 : Int32} {sx1 : Int32} {sa2 : Nat} {σ : mm_M} {q : (Int32 × mm_M)} (ha0 : mm_Is G 6 a0) (hsa2 : mm_Is G 6 sa2) {o : (Int32 × mm_M) ⊕ (Int32 × Int32 × Int32 × mm_M)} (h : fX4_goes_b130 G a0 x1 sx0 sx1 sa2 σ = some o) (hk : mm_Ok q (PX4_goes E G a0 q) o) : mm_At E G 4 (mm_Qi E G q) σ 130 [(1, .int x1)] [.int sx0, .int sx1, .ref sa2] := by
  unfold fX4_goes_b130 at h
  obtain ⟨hc130, h⟩ := mm_chk h
  refine at_iast (pc := 130) X hsa2 hc130 dX4_goes_130 ?_
  refine at_iload_n (pc := 131) X 1 0 dX4_goes_131 rfl rfl ?_
  exact at_iret (pc := 132) X (mm_inl h hk) dX4_goes_132
set_option maxHeartbeats 4000000 in
set_option maxRecDepth 100000 in
theorem wX4_goes_b41 {E : mm_E} {G : mm_G} (X : mm_Cx E G cX4_goes 4 RX4 wsX4_goes rmX4_goes (some .int)) {a0 : Nat} {x1 : Int32} {x2 : Int32} {x3 : Int32} {σ : mm_M} {q : (Int32 × mm_M)} (ha0 : mm_Is G 6 a0) {o : (Int32 × mm_M) ⊕ (Int32 × Int32 × Int32 × mm_M)} (h : fX4_goes_b41 G a0 x1 x2 x3 σ = some o) (hk : mm_Ok q (PX4_goes E G a0 q) o) : mm_At E G 4 (mm_Qi E G q) σ 41 [(0, .ref a0), (1, .int x1), (2, .int x2), (3, .int x3)] [] := by
  unfold fX4_goes_b41 at h
  refine at_iload_n (pc := 41) X 1 1 dX4_goes_41 rfl rfl ?_
  refine at_iload_n (pc := 42) X 3 3 dX4_goes_42 rfl rfl ?_
  obtain ⟨q43, hq43, h⟩ := mm_bind h
  refine at_scalli (n := 2) (pc := 43) X [.int x1, .int x3] [] (mX4_has (eL E) X.wf hq43) gX4_goes_X4_has rfl ⟨rfl, rfl⟩ (by decide +kernel) ⟨by decide, by decide⟩ rfl rfl (Nat.le_of_ble_eq_true rfl) dX4_goes_43 ?_
  refine at_if_eq (pc := 46) X 76 dX4_goes_46 (by decide) (fun c46 => ?_) (fun c46 => ?_)
  · have h := mm_pos c46 h
    refine at_aload_n (pc := 76) X 0 0 dX4_goes_76 rfl rfl ?_
    refine at_bipush (pc := 77) X (18 : Int32) dX4_goes_77 ib_18 ?_
    refine at_iload_n (pc := 79) X 3 3 dX4_goes_79 rfl rfl ?_
    refine at_iadd (pc := 80) X dX4_goes_80 ?_
    obtain ⟨hc81, h⟩ := mm_chk h
    refine at_iald (pc := 81) X ha0 hc81 dX4_goes_81 ?_
    refine at_if_le (pc := 82) X 106 dX4_goes_82 (by decide) (fun c82 => ?_) (fun c82 => ?_)
    · have h := mm_neg c82 h
      refine at_iinc (pc := 106) X 3 3 (x3 + 1) [(3, .int (x3 + 1)), (0, .ref a0), (1, .int x1), (2, .int x2)] dX4_goes_106 rfl (ii_1 _) (by decide) rfl ?_
      refine at_goto (pc := 109) X 12 dX4_goes_109 (by decide) ?_
      have h2 := mm_inr h hk; exact at_sub [1, 2, 3, 0] rfl h2
    · have h := mm_pos c82 h
      refine at_aload_n (pc := 85) X 0 0 dX4_goes_85 rfl rfl ?_
      refine at_bipush (pc := 86) X (47 : Int32) dX4_goes_86 ib_47 ?_
      obtain ⟨hc88, h⟩ := mm_chk h
      refine at_iald (pc := 88) X ha0 hc88 dX4_goes_88 ?_
      refine at_iload_n (pc := 89) X 3 3 dX4_goes_89 rfl rfl ?_
      obtain ⟨q90, hq90, h⟩ := mm_bind h
      refine at_scalli (n := 2) (pc := 90) X [.int (q43.2.1 a0 (47 : Int32).toNatClampNeg), .int x3] [] (mX4_has (eL E) X.wf hq90) gX4_goes_X4_has rfl ⟨rfl, rfl⟩ (by decide +kernel) ⟨by decide, by decide⟩ rfl rfl (Nat.le_of_ble_eq_true rfl) dX4_goes_90 ?_
      refine at_if_ne (pc := 93) X 106 dX4_goes_93 (by decide) (fun c93 => ?_) (fun c93 => ?_)
      · have h := mm_neg c93 h
        refine at_iinc (pc := 106) X 3 3 (x3 + 1) [(3, .int (x3 + 1)), (0, .ref a0), (1, .int x1), (2, .int x2)] dX4_goes_106 rfl (ii_1 _) (by decide) rfl ?_
        refine at_goto (pc := 109) X 12 dX4_goes_109 (by decide) ?_
        have h2 := mm_inr h hk; exact at_sub [1, 2, 3, 0] rfl h2
      · have h := mm_pos c93 h
        refine at_aload_n (pc := 96) X 0 0 dX4_goes_96 rfl rfl ?_
        refine at_bipush (pc := 97) X (18 : Int32) dX4_goes_97 ib_18 ?_
        refine at_iload_n (pc := 99) X 3 3 dX4_goes_99 rfl rfl ?_
        refine at_iadd (pc := 100) X dX4_goes_100 ?_
        refine at_dup2 (pc := 101) X dX4_goes_101 rfl rfl ?_
        obtain ⟨hc102, h⟩ := mm_chk h
        refine at_iald (pc := 102) X ha0 hc102 dX4_goes_102 ?_
        refine at_iconst (pc := 103) X (1 : Int32) dX4_goes_103 ic_1 ?_
        refine at_isub (pc := 104) X dX4_goes_104 ?_
        obtain ⟨hc105, h⟩ := mm_chk h
        refine at_iast (pc := 105) X ha0 hc105 dX4_goes_105 ?_
        refine at_iinc (pc := 106) X 3 3 (x3 + 1) [(3, .int (x3 + 1)), (0, .ref a0), (1, .int x1), (2, .int x2)] dX4_goes_106 rfl (ii_1 _) (by decide) rfl ?_
        refine at_goto (pc := 109) X 12 dX4_goes_109 (by decide) ?_
        have h2 := mm_inr h hk; exact at_sub [1, 2, 3, 0] rfl h2
  · have h := mm_neg c46 h
    refine at_aload_n (pc := 49) X 0 0 dX4_goes_49 rfl rfl ?_
    refine at_bipush (pc := 50) X (11 : Int32) dX4_goes_50 ib_11 ?_
    refine at_iload_n (pc := 52) X 3 3 dX4_goes_52 rfl rfl ?_
    refine at_iadd (pc := 53) X dX4_goes_53 ?_
    refine at_dup2 (pc := 54) X dX4_goes_54 rfl rfl ?_
    obtain ⟨hc55, h⟩ := mm_chk h
    refine at_iald (pc := 55) X ha0 hc55 dX4_goes_55 ?_
    refine at_iconst (pc := 56) X (1 : Int32) dX4_goes_56 ic_1 ?_
    refine at_isub (pc := 57) X dX4_goes_57 ?_
    obtain ⟨hc58, h⟩ := mm_chk h
    refine at_iast (pc := 58) X ha0 hc58 dX4_goes_58 ?_
    refine at_aload_n (pc := 59) X 0 0 dX4_goes_59 rfl rfl ?_
    refine at_bipush (pc := 60) X (25 : Int32) dX4_goes_60 ib_25 ?_
    refine at_iload_n (pc := 62) X 3 3 dX4_goes_62 rfl rfl ?_
    refine at_iadd (pc := 63) X dX4_goes_63 ?_
    refine at_iconst (pc := 64) X (0 : Int32) dX4_goes_64 ic_0 ?_
    obtain ⟨hc65, h⟩ := mm_chk h
    refine at_iast (pc := 65) X ha0 hc65 dX4_goes_65 ?_
    refine at_aload_n (pc := 66) X 0 0 dX4_goes_66 rfl rfl ?_
    refine at_iconst (pc := 67) X (2 : Int32) dX4_goes_67 ic_2 ?_
    refine at_dup2 (pc := 68) X dX4_goes_68 rfl rfl ?_
    obtain ⟨hc69, h⟩ := mm_chk h
    refine at_iald (pc := 69) X ha0 hc69 dX4_goes_69 ?_
    refine at_iconst (pc := 70) X (1 : Int32) dX4_goes_70 ic_1 ?_
    refine at_iadd (pc := 71) X dX4_goes_71 ?_
    obtain ⟨hc72, h⟩ := mm_chk h
    refine at_iast (pc := 72) X ha0 hc72 dX4_goes_72 ?_
    refine at_goto (pc := 73) X 106 dX4_goes_73 (by decide) ?_
    refine at_iinc (pc := 106) X 3 3 (x3 + 1) [(3, .int (x3 + 1)), (0, .ref a0), (1, .int x1), (2, .int x2)] dX4_goes_106 rfl (ii_1 _) (by decide) rfl ?_
    refine at_goto (pc := 109) X 12 dX4_goes_109 (by decide) ?_
    have h2 := mm_inr h hk; exact at_sub [1, 2, 3, 0] rfl h2
set_option maxHeartbeats 4000000 in
set_option maxRecDepth 100000 in
theorem wX4_goes_b12 {E : mm_E} {G : mm_G} (X : mm_Cx E G cX4_goes 4 RX4 wsX4_goes rmX4_goes (some .int)) {a0 : Nat} {x1 : Int32} {x2 : Int32} {x3 : Int32} {σ : mm_M} {q : (Int32 × mm_M)} (ha0 : mm_Is G 6 a0) {o : (Int32 × mm_M) ⊕ (Int32 × Int32 × Int32 × mm_M)} (h : fX4_goes_b12 G a0 x1 x2 x3 σ = some o) (hk : mm_Ok q (PX4_goes E G a0 q) o) : mm_At E G 4 (mm_Qi E G q) σ 12 [(0, .ref a0), (1, .int x1), (2, .int x2), (3, .int x3)] [] := by
  unfold fX4_goes_b12 at h
  refine at_iload_n (pc := 12) X 3 3 dX4_goes_12 rfl rfl ?_
  refine at_aload_n (pc := 13) X 0 0 dX4_goes_13 rfl rfl ?_
  refine at_bipush (pc := 14) X (32 : Int32) dX4_goes_14 ib_32 ?_
  obtain ⟨hc16, h⟩ := mm_chk h
  refine at_iald (pc := 16) X ha0 hc16 dX4_goes_16 ?_
  refine at_icmp_ge (pc := 17) X 112 dX4_goes_17 (by decide) (fun c17 => ?_) (fun c17 => ?_)
  · have h := mm_neg c17 h
    refine at_aload_n (pc := 112) X 0 0 dX4_goes_112 rfl rfl ?_
    refine at_iconst (pc := 113) X (0 : Int32) dX4_goes_113 ic_0 ?_
    refine at_dup2 (pc := 114) X dX4_goes_114 rfl rfl ?_
    obtain ⟨hc115, h⟩ := mm_chk h
    refine at_iald (pc := 115) X ha0 hc115 dX4_goes_115 ?_
    refine at_iconst (pc := 116) X (1 : Int32) dX4_goes_116 ic_1 ?_
    refine at_iadd (pc := 117) X dX4_goes_117 ?_
    obtain ⟨hc118, h⟩ := mm_chk h
    refine at_iast (pc := 118) X ha0 hc118 dX4_goes_118 ?_
    refine at_aload_n (pc := 119) X 0 0 dX4_goes_119 rfl rfl ?_
    refine at_iconst (pc := 120) X (1 : Int32) dX4_goes_120 ic_1 ?_
    refine at_iload_n (pc := 121) X 2 2 dX4_goes_121 rfl rfl ?_
    have hj122 : mm_At E G 4 (mm_Qi E G q) (mm_up σ a0 (0 : Int32).toNatClampNeg ((σ.1 a0 (0 : Int32).toNatClampNeg) + (1 : Int32))) 130 [(1, .int x1)] [.int (if 0 < x2 then (1 : Int32) else (0 : Int32)), .int (1 : Int32), .ref a0] := by
      exact at_sub [0] rfl (wX4_goes_b130 X ha0 ha0 h hk)
    refine at_if_le (pc := 122) X 129 dX4_goes_122 (by decide) (fun c122 => ?_) (fun c122 => ?_)
    · try simp only [if_neg c122] at hj122
      refine at_iconst (pc := 129) X (0 : Int32) dX4_goes_129 ic_0 ?_
      exact at_sub [1] rfl hj122
    · try simp only [if_pos c122] at hj122
      refine at_iconst (pc := 125) X (1 : Int32) dX4_goes_125 ic_1 ?_
      refine at_goto (pc := 126) X 130 dX4_goes_126 (by decide) ?_
      exact at_sub [1] rfl hj122
  · have h := mm_pos c17 h
    refine at_iload_n (pc := 20) X 2 2 dX4_goes_20 rfl rfl ?_
    refine at_iconst (pc := 21) X (1 : Int32) dX4_goes_21 ic_1 ?_
    refine at_icmp_le (pc := 22) X 41 dX4_goes_22 (by decide) (fun c22 => ?_) (fun c22 => ?_)
    · have h := mm_neg c22 h
      exact at_sub [0, 1, 2, 3] rfl (wX4_goes_b41 X ha0 h hk)
    · have h := mm_pos c22 h
      refine at_iload_n (pc := 25) X 1 1 dX4_goes_25 rfl rfl ?_
      refine at_iload_n (pc := 26) X 3 3 dX4_goes_26 rfl rfl ?_
      obtain ⟨q27, hq27, h⟩ := mm_bind h
      refine at_scalli (n := 2) (pc := 27) X [.int x1, .int x3] [] (mX4_has (eL E) X.wf hq27) gX4_goes_X4_has rfl ⟨rfl, rfl⟩ (by decide +kernel) ⟨by decide, by decide⟩ rfl rfl (Nat.le_of_ble_eq_true rfl) dX4_goes_27 ?_
      refine at_if_eq (pc := 30) X 41 dX4_goes_30 (by decide) (fun c30 => ?_) (fun c30 => ?_)
      · have h := mm_pos c30 h
        exact at_sub [0, 1, 2, 3] rfl (wX4_goes_b41 X ha0 h hk)
      · have h := mm_neg c30 h
        refine at_aload_n (pc := 33) X 0 0 dX4_goes_33 rfl rfl ?_
        refine at_iload_n (pc := 34) X 3 3 dX4_goes_34 rfl rfl ?_
        obtain ⟨q35, hq35, h⟩ := mm_bind h
        refine at_scallv (n := 2) (pc := 35) X [.ref a0, .int x3] [] (mX4_clashes (eL E) X.wf ha0 hq35) gX4_goes_X4_clashes rfl ⟨rfl, rfl⟩ (by decide +kernel) ⟨by decide, by decide⟩ rfl rfl (Nat.le_of_ble_eq_true rfl) dX4_goes_35 ?_
        refine at_goto (pc := 38) X 106 dX4_goes_38 (by decide) ?_
        refine at_iinc (pc := 106) X 3 3 (x3 + 1) [(3, .int (x3 + 1)), (0, .ref a0), (1, .int x1), (2, .int x2)] dX4_goes_106 rfl (ii_1 _) (by decide) rfl ?_
        refine at_goto (pc := 109) X 12 dX4_goes_109 (by decide) ?_
        have h2 := mm_inr h hk; exact at_sub [1, 2, 3, 0] rfl h2
set_option maxHeartbeats 4000000 in
set_option maxRecDepth 100000 in
theorem wX4_goes_b0 {E : mm_E} {G : mm_G} (X : mm_Cx E G cX4_goes 4 RX4 wsX4_goes rmX4_goes (some .int)) {a0 : Nat} {σ : mm_M} {q : (Int32 × mm_M)} (ha0 : mm_Is G 6 a0) {o : (Int32 × mm_M) ⊕ (Int32 × Int32 × Int32 × mm_M)} (h : fX4_goes_b0 G a0 σ = some o) (hk : mm_Ok q (PX4_goes E G a0 q) o) : mm_At E G 4 (mm_Qi E G q) σ 0 [(0, .ref a0)] [] := by
  unfold fX4_goes_b0 at h
  refine at_aload_n (pc := 0) X 0 0 dX4_goes_0 rfl rfl ?_
  obtain ⟨q1, hq1, h⟩ := mm_bind h
  refine at_scalli (n := 1) (pc := 1) X [.ref a0] [] (mX4_talkers (eL E) X.wf ha0 hq1) gX4_goes_X4_talkers rfl ⟨rfl, rfl⟩ (by decide +kernel) ⟨by decide, by decide⟩ rfl rfl (Nat.le_of_ble_eq_true rfl) dX4_goes_1 ?_
  refine at_istore_n (pc := 4) X 1 [(1, .int q1.1), (0, .ref a0)] dX4_goes_4 rfl (by decide) rfl ?_
  refine at_iload_n (pc := 5) X 1 0 dX4_goes_5 rfl rfl ?_
  obtain ⟨q6, hq6, h⟩ := mm_bind h
  refine at_scalli (n := 1) (pc := 6) X [.int q1.1] [] (mX4_ones (eL E) X.wf hq6) gX4_goes_X4_ones rfl ⟨rfl, rfl⟩ (by decide +kernel) ⟨by decide, by decide⟩ rfl rfl (Nat.le_of_ble_eq_true rfl) dX4_goes_6 ?_
  refine at_istore_n (pc := 9) X 2 [(2, .int q6.1), (1, .int q1.1), (0, .ref a0)] dX4_goes_9 rfl (by decide) rfl ?_
  refine at_iconst (pc := 10) X (0 : Int32) dX4_goes_10 ic_0 ?_
  refine at_istore_n (pc := 11) X 3 [(3, .int (0 : Int32)), (2, .int q6.1), (1, .int q1.1), (0, .ref a0)] dX4_goes_11 rfl (by decide) rfl ?_
  have h2 := mm_inr h hk; exact at_sub [3, 2, 1, 0] rfl h2
set_option maxHeartbeats 4000000 in
set_option maxRecDepth 100000 in
theorem mX4_goes (l : Launch) {G : mm_G} (hwf : mm_WF G) {a0 : Nat} {σ : mm_M} {q : (Int32 × mm_M)} (ha0 : mm_Is G 6 a0) (h : fX4_goes G a0 σ = some q) : mm_Mi l yX4_goes wsX4_goes rmX4_goes G [.ref a0] σ q := by
  refine mm_ofi (cc := cX4_goes) (nL := 4) (ret := some .int) (own := RX4) (lv0 := [(0, .ref a0)]) (by decide) rfl rfl (Nat.le_of_ble_eq_true rfl) rfl hwf (fun E hE X => ?_)
  obtain ⟨o, h0, hk⟩ := mm_run_ok (P := PX4_goes E G a0 q) h (fun s o hs hk => by exact wX4_goes_b12 X ha0 hs hk)
  exact wX4_goes_b0 X ha0 h0 hk
set_option maxRecDepth 20000 in
theorem ggX4_slot_X4_does : GoodIn wsX4_slot wsX4_does := goodIn_r _ [7, 8, 2, 1, 39, 40, 41, 42, 43, 44, 45, 46, 47, 48, 49, 50, 51, 52, 53, 54, 55, 56, 57, 58, 59, 60] (by decide +kernel) (by decide +kernel)
set_option maxRecDepth 20000 in
theorem gX4_slot_X4_does : GoodIn wsX4_slot (wsV RX4 156 RX4 yX4_does wsX4_does) := goodIn_app (goodIn_of _ (by decide +kernel)) ggX4_slot_X4_does
set_option maxRecDepth 20000 in
theorem ggX4_slot_X4_goes : GoodIn wsX4_slot wsX4_goes := goodIn_r _ [11, 12, 13, 6, 14, 15, 16, 17, 18, 19, 20, 21, 22, 23, 24, 25, 26, 27, 28, 29, 30, 31, 32, 33, 34, 35, 36, 37, 38] (by decide +kernel) (by decide +kernel)
set_option maxRecDepth 20000 in
theorem gX4_slot_X4_goes : GoodIn wsX4_slot (va_wsS RX4 159 yX4_goes wsX4_goes) := goodIn_app (goodIn_of _ (by decide +kernel)) ggX4_slot_X4_goes
set_option maxRecDepth 20000 in
theorem ggX4_slot_X4_ones : GoodIn wsX4_slot wsX4_ones := goodIn_r _ [26] (by decide +kernel) (by decide +kernel)
set_option maxRecDepth 20000 in
theorem gX4_slot_X4_ones : GoodIn wsX4_slot (va_wsS RX4 149 yX4_ones wsX4_ones) := goodIn_app (goodIn_of _ (by decide +kernel)) ggX4_slot_X4_ones
theorem dX4_slot_0 : decode cX4_slot 0 = .ok (.aload_n 0, 1) := by decide +kernel
theorem dX4_slot_1 : decode cX4_slot 1 = .ok (.getfield 26, 3) := by decide +kernel
theorem dX4_slot_4 : decode cX4_slot 4 = .ok (.bipush 32, 2) := by decide +kernel
theorem dX4_slot_6 : decode cX4_slot 6 = .ok (.iaload, 1) := by decide +kernel
theorem dX4_slot_7 : decode cX4_slot 7 = .ok (.ifCond .eq 15, 3) := by decide +kernel
theorem dX4_slot_10 : decode cX4_slot 10 = .ok (.aload_n 0, 1) := by decide +kernel
theorem dX4_slot_11 : decode cX4_slot 11 = .ok (.getfield 26, 3) := by decide +kernel
theorem dX4_slot_14 : decode cX4_slot 14 = .ok (.iconst 0, 1) := by decide +kernel
theorem dX4_slot_15 : decode cX4_slot 15 = .ok (.iaload, 1) := by decide +kernel
theorem dX4_slot_16 : decode cX4_slot 16 = .ok (.sipush 199, 3) := by decide +kernel
theorem dX4_slot_19 : decode cX4_slot 19 = .ok (.if_icmp .ne 6, 3) := by decide +kernel
theorem dX4_slot_22 : decode cX4_slot 22 = .ok (.bipush (-4), 2) := by decide +kernel
theorem dX4_slot_24 : decode cX4_slot 24 = .ok (.ireturn, 1) := by decide +kernel
theorem dX4_slot_25 : decode cX4_slot 25 = .ok (.aload_n 0, 1) := by decide +kernel
theorem dX4_slot_26 : decode cX4_slot 26 = .ok (.getfield 111, 3) := by decide +kernel
theorem dX4_slot_29 : decode cX4_slot 29 = .ok (.bipush 40, 2) := by decide +kernel
theorem dX4_slot_31 : decode cX4_slot 31 = .ok (.if_icmp .ne 6, 3) := by decide +kernel
theorem dX4_slot_34 : decode cX4_slot 34 = .ok (.bipush (-2), 2) := by decide +kernel
theorem dX4_slot_36 : decode cX4_slot 36 = .ok (.ireturn, 1) := by decide +kernel
theorem dX4_slot_37 : decode cX4_slot 37 = .ok (.aload_n 0, 1) := by decide +kernel
theorem dX4_slot_38 : decode cX4_slot 38 = .ok (.invokevirtual 156, 3) := by decide +kernel
theorem dX4_slot_41 : decode cX4_slot 41 = .ok (.aload_n 0, 1) := by decide +kernel
theorem dX4_slot_42 : decode cX4_slot 42 = .ok (.getfield 26, 3) := by decide +kernel
theorem dX4_slot_45 : decode cX4_slot 45 = .ok (.invokestatic 159, 3) := by decide +kernel
theorem dX4_slot_48 : decode cX4_slot 48 = .ok (.invokestatic 149, 3) := by decide +kernel
theorem dX4_slot_51 : decode cX4_slot 51 = .ok (.ireturn, 1) := by decide +kernel
/-! X4_slot ()I -/
abbrev rmX4_slot : Room := { frames := 5, cells := 0, slots := 0, locals := 113 }
theorem lkX4_slot_0 : Cond.fieldLink RX4 26 (TX4 5).1 (TX4 5).2.1 (TX4 5).2.2.1 ∈ wsX4_slot := by decide +kernel
theorem lkX4_slot_1 : Cond.fieldLink RX4 111 (TX4 10).1 (TX4 10).2.1 (TX4 10).2.2.1 ∈ wsX4_slot := by decide +kernel
theorem inX4_slot_X4 : ∀ w ∈ u_ws RX4 TX4 22, w ∈ wsX4_slot := by decide +kernel
noncomputable def fX4_slot (G : mm_G) (a0 : Nat) (σ : mm_M) : Option (Int32 × mm_M) := if (32 : Int32) < 0 ∨ mm_N G (mm_R G a0 5) ≤ (32 : Int32).toNatClampNeg then none else (if (σ.1 (mm_R G a0 5) (32 : Int32).toNatClampNeg) = 0 then (some ((-4 : Int32), σ)) else (if (0 : Int32) < 0 ∨ mm_N G (mm_R G a0 5) ≤ (0 : Int32).toNatClampNeg then none else (if (σ.1 (mm_R G a0 5) (0 : Int32).toNatClampNeg) = (199 : Int32) then (some ((-4 : Int32), σ)) else (if (σ.1 a0 10) = (40 : Int32) then (some ((-2 : Int32), σ)) else ((fX4_does G a0 σ).bind (fun q38 => (fX4_goes G (mm_R G a0 5) q38).bind (fun q45 => (fX4_ones G q45.1 q45.2).bind (fun q48 => some (q48.1, q48.2)))))))))
set_option maxHeartbeats 4000000 in
set_option maxRecDepth 100000 in
theorem wX4_slot_b0 {E : mm_E} {G : mm_G} (X : mm_Cx E G cX4_slot 1 RX4 wsX4_slot rmX4_slot (some .int)) {a0 : Nat} {σ : mm_M} {q : (Int32 × mm_M)} (ha0 : mm_Is G 4 a0) (h : fX4_slot G a0 σ = some q) : mm_At E G 1 (mm_Qi E G q) σ 0 [(0, .ref a0)] [] := by
  unfold fX4_slot at h
  refine at_aload_n (pc := 0) X 0 0 dX4_slot_0 rfl rfl ?_
  refine at_get (pc := 1) X 4 5 (.ref (mm_R G a0 5)) ha0 (by decide) rfl inX4_slot_X4 (by decide) lkX4_slot_0 rfl dX4_slot_1 ?_
  refine at_bipush (pc := 4) X (32 : Int32) dX4_slot_4 ib_32 ?_
  obtain ⟨hc6, h⟩ := mm_chk h
  refine at_iald (pc := 6) X (wf_4_5 X.wf ha0) hc6 dX4_slot_6 ?_
  refine at_if_eq (pc := 7) X 22 dX4_slot_7 (by decide) (fun c7 => ?_) (fun c7 => ?_)
  · have h := mm_pos c7 h
    refine at_bipush (pc := 22) X (-4 : Int32) dX4_slot_22 ib_m4 ?_
    exact at_iret (pc := 24) X (Option.some.inj h) dX4_slot_24
  · have h := mm_neg c7 h
    refine at_aload_n (pc := 10) X 0 0 dX4_slot_10 rfl rfl ?_
    refine at_get (pc := 11) X 4 5 (.ref (mm_R G a0 5)) ha0 (by decide) rfl inX4_slot_X4 (by decide) lkX4_slot_0 rfl dX4_slot_11 ?_
    refine at_iconst (pc := 14) X (0 : Int32) dX4_slot_14 ic_0 ?_
    obtain ⟨hc15, h⟩ := mm_chk h
    refine at_iald (pc := 15) X (wf_4_5 X.wf ha0) hc15 dX4_slot_15 ?_
    refine at_sipush (pc := 16) X (199 : Int32) dX4_slot_16 is_199 ?_
    refine at_icmp_ne (pc := 19) X 25 dX4_slot_19 (by decide) (fun c19 => ?_) (fun c19 => ?_)
    · have h := mm_neg c19 h
      refine at_aload_n (pc := 25) X 0 0 dX4_slot_25 rfl rfl ?_
      refine at_get (pc := 26) X 4 10 (.int (σ.1 a0 10)) ha0 (by decide) rfl inX4_slot_X4 (by decide) lkX4_slot_1 rfl dX4_slot_26 ?_
      refine at_bipush (pc := 29) X (40 : Int32) dX4_slot_29 ib_40 ?_
      refine at_icmp_ne (pc := 31) X 37 dX4_slot_31 (by decide) (fun c31 => ?_) (fun c31 => ?_)
      · have h := mm_neg c31 h
        refine at_aload_n (pc := 37) X 0 0 dX4_slot_37 rfl rfl ?_
        obtain ⟨q38, hq38, h⟩ := mm_bind h
        refine at_callv (n := 0) (pc := 38) X 4 [] [] (mX4_does (eL E) X.wf ha0 hq38) gX4_slot_X4_does rfl ⟨rfl, rfl⟩ (by decide +kernel) ⟨by decide, by decide⟩ (by decide) rfl ha0 rfl rfl (Nat.le_of_ble_eq_true rfl) dX4_slot_38 ?_
        refine at_aload_n (pc := 41) X 0 0 dX4_slot_41 rfl rfl ?_
        refine at_get (pc := 42) X 4 5 (.ref (mm_R G a0 5)) ha0 (by decide) rfl inX4_slot_X4 (by decide) lkX4_slot_0 rfl dX4_slot_42 ?_
        obtain ⟨q45, hq45, h⟩ := mm_bind h
        refine at_scalli (n := 1) (pc := 45) X [.ref (mm_R G a0 5)] [] (mX4_goes (eL E) X.wf (wf_4_5 X.wf ha0) hq45) gX4_slot_X4_goes rfl ⟨rfl, rfl⟩ (by decide +kernel) ⟨by decide, by decide⟩ rfl rfl (Nat.le_of_ble_eq_true rfl) dX4_slot_45 ?_
        obtain ⟨q48, hq48, h⟩ := mm_bind h
        refine at_scalli (n := 1) (pc := 48) X [.int q45.1] [] (mX4_ones (eL E) X.wf hq48) gX4_slot_X4_ones rfl ⟨rfl, rfl⟩ (by decide +kernel) ⟨by decide, by decide⟩ rfl rfl (Nat.le_of_ble_eq_true rfl) dX4_slot_48 ?_
        exact at_iret (pc := 51) X (Option.some.inj h) dX4_slot_51
      · have h := mm_pos c31 h
        refine at_bipush (pc := 34) X (-2 : Int32) dX4_slot_34 ib_m2 ?_
        exact at_iret (pc := 36) X (Option.some.inj h) dX4_slot_36
    · have h := mm_pos c19 h
      refine at_bipush (pc := 22) X (-4 : Int32) dX4_slot_22 ib_m4 ?_
      exact at_iret (pc := 24) X (Option.some.inj h) dX4_slot_24
set_option maxHeartbeats 4000000 in
set_option maxRecDepth 100000 in
theorem mX4_slot (l : Launch) {G : mm_G} (hwf : mm_WF G) {a0 : Nat} {σ : mm_M} {q : (Int32 × mm_M)} (ha0 : mm_Is G 4 a0) (h : fX4_slot G a0 σ = some q) : mm_Mi l yX4_slot wsX4_slot rmX4_slot G [.ref a0] σ q := by
  refine mm_ofi (cc := cX4_slot) (nL := 1) (ret := some .int) (own := RX4) (lv0 := [(0, .ref a0)]) (by decide) rfl rfl (Nat.le_of_ble_eq_true rfl) rfl hwf (fun E hE X => ?_)
  exact wX4_slot_b0 X ha0 h
